section
-- ===== PART A: goes FIRST, ahead of the names: the tables' words, and 'selects' of the private methods out of them =====
/-- a private method of a class that the tables say can be made, by its rows of tables_1 -/
def lw_okq (q : MethodName × Nat) : Prop := (q.1.cls ≠ "java/lang/invoke/MethodHandle" ∧ q.1.cls ≠ "java/lang/invoke/VarHandle") ∧ Cond.instantiable q.1.cls q.2 ∈ tables_1 ∧ Cond.privateMethod q.1 ∈ tables_1 ∧ Cond.instanceMethod q.1 ∈ tables_1
theorem lw_p0 : lw_okq (⟨"java/lang/Throwable", "fillInStackTrace", "(I)Ljava/lang/Throwable;"⟩, 6) := ⟨⟨by decide +kernel, by decide +kernel⟩, List.mem_of_getElem? (i := 204) (by decide +kernel), List.mem_of_getElem? (i := 202) (by decide +kernel), List.mem_of_getElem? (i := 203) (by decide +kernel)⟩
theorem lw_p1 : lw_okq (⟨"CraneReach", "requireSafe", "(LCraneReach$Rig;I)V"⟩, 9) := ⟨⟨by decide +kernel, by decide +kernel⟩, List.mem_of_getElem? (i := 13) (by decide +kernel), List.mem_of_getElem? (i := 263) (by decide +kernel), List.mem_of_getElem? (i := 264) (by decide +kernel)⟩
theorem lw_p2 : lw_okq (⟨"CraneReach", "requireNoLoad", "()V"⟩, 9) := ⟨⟨by decide +kernel, by decide +kernel⟩, List.mem_of_getElem? (i := 13) (by decide +kernel), List.mem_of_getElem? (i := 311) (by decide +kernel), List.mem_of_getElem? (i := 312) (by decide +kernel)⟩
theorem lw_p3 : lw_okq (⟨"CraneReach", "countMoves", "(I)V"⟩, 9) := ⟨⟨by decide +kernel, by decide +kernel⟩, List.mem_of_getElem? (i := 13) (by decide +kernel), List.mem_of_getElem? (i := 353) (by decide +kernel), List.mem_of_getElem? (i := 354) (by decide +kernel)⟩
theorem lw_p4 : lw_okq (⟨"CraneReach$Plan", "visit", "(LCraneReach$Rig;IIII)V"⟩, 3) := ⟨⟨by decide +kernel, by decide +kernel⟩, List.mem_of_getElem? (i := 39) (by decide +kernel), List.mem_of_getElem? (i := 426) (by decide +kernel), List.mem_of_getElem? (i := 427) (by decide +kernel)⟩
theorem lw_p5 : lw_okq (⟨"CraneReach$Plan", "visitBeside", "(LCraneReach$Rig;II)V"⟩, 3) := ⟨⟨by decide +kernel, by decide +kernel⟩, List.mem_of_getElem? (i := 39) (by decide +kernel), List.mem_of_getElem? (i := 435) (by decide +kernel), List.mem_of_getElem? (i := 436) (by decide +kernel)⟩
theorem lw_p6 : lw_okq (⟨"CraneReachModel", "no", "(I)I"⟩, 13) := ⟨⟨by decide +kernel, by decide +kernel⟩, List.mem_of_getElem? (i := 458) (by decide +kernel), List.mem_of_getElem? (i := 515) (by decide +kernel), List.mem_of_getElem? (i := 516) (by decide +kernel)⟩
theorem lw_p7 : lw_okq (⟨"CraneReachModel", "isSafe", "()Z"⟩, 13) := ⟨⟨by decide +kernel, by decide +kernel⟩, List.mem_of_getElem? (i := 458) (by decide +kernel), List.mem_of_getElem? (i := 519) (by decide +kernel), List.mem_of_getElem? (i := 520) (by decide +kernel)⟩
theorem lw_p8 : lw_okq (⟨"CraneReachModel", "isSafe", "(III)Z"⟩, 13) := ⟨⟨by decide +kernel, by decide +kernel⟩, List.mem_of_getElem? (i := 458) (by decide +kernel), List.mem_of_getElem? (i := 523) (by decide +kernel), List.mem_of_getElem? (i := 524) (by decide +kernel)⟩
theorem lw_p9 : lw_okq (⟨"CraneReachModel", "strain", "(IIII)I"⟩, 13) := ⟨⟨by decide +kernel, by decide +kernel⟩, List.mem_of_getElem? (i := 458) (by decide +kernel), List.mem_of_getElem? (i := 527) (by decide +kernel), List.mem_of_getElem? (i := 528) (by decide +kernel)⟩
theorem lw_p10 : lw_okq (⟨"CraneReachModel", "moved", "()V"⟩, 13) := ⟨⟨by decide +kernel, by decide +kernel⟩, List.mem_of_getElem? (i := 458) (by decide +kernel), List.mem_of_getElem? (i := 568) (by decide +kernel), List.mem_of_getElem? (i := 569) (by decide +kernel)⟩
theorem lw_p11 : lw_okq (⟨"CraneReachModel", "ok", "(I)I"⟩, 13) := ⟨⟨by decide +kernel, by decide +kernel⟩, List.mem_of_getElem? (i := 458) (by decide +kernel), List.mem_of_getElem? (i := 580) (by decide +kernel), List.mem_of_getElem? (i := 581) (by decide +kernel)⟩
theorem lw_p12 : lw_okq (⟨"CraneReachModel", "strainNow", "(I)I"⟩, 13) := ⟨⟨by decide +kernel, by decide +kernel⟩, List.mem_of_getElem? (i := 458) (by decide +kernel), List.mem_of_getElem? (i := 608) (by decide +kernel), List.mem_of_getElem? (i := 609) (by decide +kernel)⟩
theorem lw_p13 : lw_okq (⟨"CraneReachModel", "weakest", "()I"⟩, 13) := ⟨⟨by decide +kernel, by decide +kernel⟩, List.mem_of_getElem? (i := 458) (by decide +kernel), List.mem_of_getElem? (i := 616) (by decide +kernel), List.mem_of_getElem? (i := 617) (by decide +kernel)⟩
theorem lw_p14 : lw_okq (⟨"CraneReachModel", "isNot", "(I)Z"⟩, 13) := ⟨⟨by decide +kernel, by decide +kernel⟩, List.mem_of_getElem? (i := 458) (by decide +kernel), List.mem_of_getElem? (i := 639) (by decide +kernel), List.mem_of_getElem? (i := 640) (by decide +kernel)⟩
theorem lw_p15 : lw_okq (⟨"CraneReachModel", "greatest", "()I"⟩, 13) := ⟨⟨by decide +kernel, by decide +kernel⟩, List.mem_of_getElem? (i := 458) (by decide +kernel), List.mem_of_getElem? (i := 647) (by decide +kernel), List.mem_of_getElem? (i := 648) (by decide +kernel)⟩
def lw_privs_1 : List (MethodName × Nat) := [(⟨"java/lang/Throwable", "fillInStackTrace", "(I)Ljava/lang/Throwable;"⟩, 6), (⟨"CraneReach", "requireSafe", "(LCraneReach$Rig;I)V"⟩, 9), (⟨"CraneReach", "requireNoLoad", "()V"⟩, 9), (⟨"CraneReach", "countMoves", "(I)V"⟩, 9), (⟨"CraneReach$Plan", "visit", "(LCraneReach$Rig;IIII)V"⟩, 3), (⟨"CraneReach$Plan", "visitBeside", "(LCraneReach$Rig;II)V"⟩, 3), (⟨"CraneReachModel", "no", "(I)I"⟩, 13), (⟨"CraneReachModel", "isSafe", "()Z"⟩, 13), (⟨"CraneReachModel", "isSafe", "(III)Z"⟩, 13), (⟨"CraneReachModel", "strain", "(IIII)I"⟩, 13), (⟨"CraneReachModel", "moved", "()V"⟩, 13), (⟨"CraneReachModel", "ok", "(I)I"⟩, 13), (⟨"CraneReachModel", "strainNow", "(I)I"⟩, 13), (⟨"CraneReachModel", "weakest", "()I"⟩, 13), (⟨"CraneReachModel", "isNot", "(I)Z"⟩, 13), (⟨"CraneReachModel", "greatest", "()I"⟩, 13)]
theorem lw_r1 : ∀ q ∈ lw_privs_1, lw_okq q := List.forall_mem_cons.mpr ⟨lw_p0, List.forall_mem_cons.mpr ⟨lw_p1, List.forall_mem_cons.mpr ⟨lw_p2, List.forall_mem_cons.mpr ⟨lw_p3, List.forall_mem_cons.mpr ⟨lw_p4, List.forall_mem_cons.mpr ⟨lw_p5, List.forall_mem_cons.mpr ⟨lw_p6, List.forall_mem_cons.mpr ⟨lw_p7, List.forall_mem_cons.mpr ⟨lw_p8, List.forall_mem_cons.mpr ⟨lw_p9, List.forall_mem_cons.mpr ⟨lw_p10, List.forall_mem_cons.mpr ⟨lw_p11, List.forall_mem_cons.mpr ⟨lw_p12, List.forall_mem_cons.mpr ⟨lw_p13, List.forall_mem_cons.mpr ⟨lw_p14, List.forall_mem_cons.mpr ⟨lw_p15, fun _ h => absurd h List.not_mem_nil⟩⟩⟩⟩⟩⟩⟩⟩⟩⟩⟩⟩⟩⟩⟩⟩
theorem lw_p16 : lw_okq (⟨"CraneReachModel", "safeAround", "(II)I"⟩, 13) := ⟨⟨by decide +kernel, by decide +kernel⟩, List.mem_of_getElem? (i := 458) (by decide +kernel), List.mem_of_getElem? (i := 659) (by decide +kernel), List.mem_of_getElem? (i := 660) (by decide +kernel)⟩
theorem lw_p17 : lw_okq (⟨"CraneReachModel", "fewestPlates", "(III)I"⟩, 13) := ⟨⟨by decide +kernel, by decide +kernel⟩, List.mem_of_getElem? (i := 458) (by decide +kernel), List.mem_of_getElem? (i := 667) (by decide +kernel), List.mem_of_getElem? (i := 668) (by decide +kernel)⟩
theorem lw_p18 : lw_okq (⟨"CraneReachModel", "goOut", "(I)V"⟩, 13) := ⟨⟨by decide +kernel, by decide +kernel⟩, List.mem_of_getElem? (i := 458) (by decide +kernel), List.mem_of_getElem? (i := 675) (by decide +kernel), List.mem_of_getElem? (i := 676) (by decide +kernel)⟩
theorem lw_p19 : lw_okq (⟨"CraneReachModel", "comeTo", "(IIII)V"⟩, 13) := ⟨⟨by decide +kernel, by decide +kernel⟩, List.mem_of_getElem? (i := 458) (by decide +kernel), List.mem_of_getElem? (i := 679) (by decide +kernel), List.mem_of_getElem? (i := 680) (by decide +kernel)⟩
theorem lw_p20 : lw_okq (⟨"CraneReachModel", "within", "(I)I"⟩, 13) := ⟨⟨by decide +kernel, by decide +kernel⟩, List.mem_of_getElem? (i := 458) (by decide +kernel), List.mem_of_getElem? (i := 687) (by decide +kernel), List.mem_of_getElem? (i := 688) (by decide +kernel)⟩
def lw_privs_2 : List (MethodName × Nat) := [(⟨"CraneReachModel", "safeAround", "(II)I"⟩, 13), (⟨"CraneReachModel", "fewestPlates", "(III)I"⟩, 13), (⟨"CraneReachModel", "goOut", "(I)V"⟩, 13), (⟨"CraneReachModel", "comeTo", "(IIII)V"⟩, 13), (⟨"CraneReachModel", "within", "(I)I"⟩, 13)]
theorem lw_r2 : ∀ q ∈ lw_privs_2, lw_okq q := List.forall_mem_cons.mpr ⟨lw_p16, List.forall_mem_cons.mpr ⟨lw_p17, List.forall_mem_cons.mpr ⟨lw_p18, List.forall_mem_cons.mpr ⟨lw_p19, List.forall_mem_cons.mpr ⟨lw_p20, fun _ h => absurd h List.not_mem_nil⟩⟩⟩⟩⟩
def lw_privs : List (MethodName × Nat) := lw_privs_1 ++ (lw_privs_2)
def lw_tbl : List Cond := k2_sels lw_privs ++ tables_1
theorem lw_privs_ok : ∀ q ∈ lw_privs, lw_okq q := by
  show ∀ q ∈ lw_privs_1 ++ (lw_privs_2), lw_okq q
  exact List.forall_mem_append.mpr ⟨lw_r1, lw_r2⟩
/-- the streams that the claim lets the run draw from -/
abbrev lw_cs : List Choice := [Jvm.Choice.named "NaN.bits"]
theorem lw_bits : nanBits ∈ lw_cs := by first | decide | exact List.mem_cons_self | simp [lw_cs, nanBits]
end
section
/-! ===== BEGIN words of one list among another's, by their places ===== -/
theorem goodIn_r {big : List Cond} (ws : List Cond) (ps : List Nat) (hp : ws = ps.filterMap (fun i => big[i]?)) (h : ws.all goodWord = true) : GoodIn big ws := by
  intro w hw
  have h1 := List.all_eq_true.mp h w hw
  rw [hp] at hw
  obtain ⟨i, -, hi⟩ := List.mem_filterMap.mp hw
  have hm : w ∈ big := by first | exact List.mem_of_getElem? hi | exact List.getElem?_mem hi
  exact ⟨hm, good_of_word h1⟩
theorem goodIn_app {big a b : List Cond} (ha : GoodIn big a) (hb : GoodIn big b) : GoodIn big (a ++ b) := fun w h => (List.mem_append.mp h).elim (ha w) (hb w)
theorem goodIn_ca {big a b : List Cond} {c : Cond} (ha : GoodIn big (c :: a)) (hb : GoodIn big b) : GoodIn big (c :: (a ++ b)) := fun w h => (List.mem_cons.mp h).elim (fun e => ha w (List.mem_cons.mpr (Or.inl e))) (fun h => (List.mem_append.mp h).elim (fun h => ha w (List.mem_cons.mpr (Or.inr h))) (hb w))
theorem goodIn_sub {big ws : List Cond} (hm : ∀ w ∈ ws, w ∈ big) (h : ws.all goodWord = true) : GoodIn big ws := fun w hw => ⟨hm w hw, good_of_word (List.all_eq_true.mp h w hw)⟩
/-! ===== END ===== -/

/-! ===== BEGIN exceptions that leave a method, and their catching by the caller (launches without stack traces) ===== -/
section VXA
/-! The laws vx_back, vx_callV, vx_callS, vx_callSW, vx_throw0, vx_throwS follow proofs of the library, with one case more: JvmDerived/Free/Laws.lean (Back.of_free), Shelf42/LK1.lean (callV, callS), Shelf/KitTraced.lean (throwNew0V, throwNewS). -/
/-- where a method has thrown q: the class by its name, the cell, what was written, the world -/
def vx_T (XC : String → State → State → Prop) (st : State) (q : Addr) (t : State) (mc ms : Nat) (free : Addr → Prop) : Prop :=
  ∃ (E : String) (ce : Cell) (L : List Loc), XC E st t ∧ t.heap[q]? = some ce ∧ ce.vm = .none ∧ st.vm.findClass E = some ce.cls ∧ st.WarmedH t.vm ∧ st.sameButNew ({ t with vm := st.vm } : State) L mc ms ∧ ∀ z ∈ L, free z.base
def vx_Q (Qc : Array Value → State → Outcome → State → Prop) (XC : String → State → State → Prop) (mc ms : Nat) (free : Addr → Prop) : Array Value → State → Outcome → State → Prop := fun a st o t =>
  (Qc a st o t ∧ ∃ L, FrameEnd st o t L mc ms ∧ ∀ q ∈ L, free q.base) ∨ ∃ q, o = .threw q ∧ vx_T XC st q t mc ms free
/-- a callee that returns or throws -/
def vx_Met (l : Launch) (y : MethodName) (ws : List Cond) (rm : Room) (Pc : Array Value → State → Prop) (Qc : Array Value → State → Outcome → State → Prop) (XC : String → State → State → Prop) (mc ms : Nat) (free : Addr → Prop) : Prop :=
  MetFree l y (headSpec ws rm) Pc (fun _ _ _ _ _ => True) (vx_Q Qc XC mc ms free)
def vx_Post (XC : String → State → State → Prop) (mc ms : Nat) (free : Addr → Prop) : Pt → Array Value → Addr → Pt → Prop := fun A a q B =>
  ∃ (g : JFrame) (mk : MethodId) (t : State) (L : List Loc) (E : String) (ce : Cell), B.U.heap = t.heap ∧ B.U.vm = t.vm ∧ XC E (A.U.calling g mk a) t ∧ t.heap[q]? = some ce ∧ ce.vm = .none ∧ A.U.vm.findClass E = some ce.cls ∧ B.locs = A.locs ++ L ∧ (∀ z ∈ L, free z.base) ∧ B.cells = A.cells + mc ∧ B.slots = A.slots + ms
def vx_Back (l : Launch) (R : Room) (p : Program) (e : Env) (below : List Frame) (s : State) (sargs : Array Value) (y : MethodName) (len W9 : Nat)
    (Pre : Pt → Array Value → Prop) (Post : Pt → Array Value → Option Value → Pt → Prop) (PostX : Pt → Array Value → Addr → Pt → Prop) : Prop :=
  ∀ (m : MethodId) (meth : Method) (c : Code) (A : Pt) (g : JFrame) (ig : Instr) (mk : MethodId) (a : Array Value),
    Stand p l e R s m sargs below meth c A.U A.locs A.cells A.slots → g.method = m → g.locals.size = c.maxLocals → decode c.code g.pc = .ok (ig, len) →
    2 * g.monitorRoom + (g.stack.map fun v => v.category).sum ≤ W9 → A.U.methodNamed? y = some mk → Pre A a →
    (∃ (v : Option Value) (B : Pt), Stand p l e R s m sargs below meth c B.U B.locs B.cells B.slots ∧ Post A a v B ∧
      Steps p.tables e below (doInvoke e (A.U.setTop g) [] mk a).1 (B.U.setTop { g with pc := g.pc + len, stack := v.toList ++ g.stack })) ∨
    (∃ (q : Addr) (B : Pt), Stand p l e R s m sargs below meth c B.U B.locs B.cells B.slots ∧ PostX A a q B ∧
      Steps p.tables e below (doInvoke e (A.U.setTop g) [] mk a).1 ((B.U.setTop g).pushFrame (.throwing q)))
section Payer
variable {l : Launch} {R : Room} {p : Program} {e : Env} {below : List Frame} {s : State} {sargs : Array Value} {y : MethodName} {len W9 : Nat}
theorem vx_back {ws : List Cond} {rm : Room} {Pc : Array Value → State → Prop} {Qc : Array Value → State → Outcome → State → Prop} {XC : String → State → State → Prop} {mc ms : Nat} {free : Addr → Prop} {bytes : ByteArray} {maxL : Nat} {ret : Option FieldType}
    (hM : vx_Met l y ws rm Pc Qc XC mc ms free) (hblind : FrameBlind Pc) (hrc : rm.cells = mc) (hrs : rm.slots = ms)
    (hframes : rm.frames + 1 ≤ R.frames) (hlocals : W9 + (maxL + 11) + rm.locals ≤ R.locals)
    (hws : ∀ w ∈ ws, ∀ a' U, s.WarmedH U.vm → w.before a' U = true) (hcode : Cond.code y bytes maxL ret ∈ ws) (hinit : ∀ a' U, s.WarmedH U.vm → (Cond.initialized y.cls).before a' U = true) :
    vx_Back l R p e below s sargs y len W9 (PreOf R mc ms Pc) (PostOf Qc mc ms free) (vx_Post XC mc ms free) := by
  intro m meth c A g ig mk a X hg hsize hdg hW hn hp
  have h1 : (headSpec ws rm).pre.before a A.U = true := atoms_intro fun w hw => hws w hw _ _ X.warmed
  have h2 : (Cond.code y bytes maxL ret).before a A.U = true := hws _ hcode _ _ X.warmed
  have h3 : (Cond.initialized y.cls).before a A.U = true := hinit _ _ X.warmed
  have h4 : A.cells + (headSpec ws rm).room.cells ≤ R.cells := by rw [show (headSpec ws rm).room.cells = mc from hrc]; exact hp.1
  have h5 : A.slots + (headSpec ws rm).room.slots ≤ R.slots := by rw [show (headSpec ws rm).room.slots = ms from hrs]; exact hp.2.1
  have hPc : Pc a (A.U.calling g mk a) := hblind _ _ _ _ hp.2.2
  obtain ⟨U, Ls, c0, s0⟩ := A
  dsimp only [Pt.U, Pt.locs, Pt.cells, Pt.slots] at h1 h2 h3 h4 h5 X hn hPc ⊢
  obtain ⟨methY, cY, hmY, hcY, -, hlY, -, -, -, -⟩ := Cond.code_spec hn h2
  obtain ⟨kY, hkY, -⟩ := className_of_methodNamed hn
  have hinitY : kY.init = .initialized := Cond.initialized_spec (findClass_of_methodNamed hn) hkY h3
  have h : At U g.method c below := by rw [hg]; exact X.here
  have hlocals9 : W9 + (maxL + 11) + (headSpec ws rm).room.locals ≤ R.locals := hlocals
  have happ : (headSpec ws rm).appliesLoose y e.platform (U.calling g mk a) = true :=
    Spec.appliesLoose_calling (g := g) h hdg hn hkY hinitY
      (X.room_calling (g := g) (R' := (headSpec ws rm).room) hsize hmY hcY hframes (by rw [hlY]; omega) h4 h5) h1
  obtain ⟨mid, hmid⟩ := h.above
  have hfr : (U.setTop g).frames = (.java g :: mid) ++ below := by rw [State.frames_setTop' g h.top, hmid]; rfl
  obtain ⟨o, s₂, hsteps, -, hend, hq⟩ := Steps.callFree hM p X.admits X.cas X.clock (acts := []) hfr happ hPc trivial
  have hq' : vx_Q Qc XC mc ms free a (U.calling g mk a) o s₂ := hq
  rw [State.frames_setTop' g h.top] at hend
  obtain ⟨g₀, hg0⟩ := Option.isSome_iff_exists.mp h.top
  obtain ⟨r, hr⟩ := State.topJava?_eq_some.mp hg0
  have hr' : (({ U with heap := s₂.heap, slotsUsed := s₂.slotsUsed } : State).setVm s₂.vm).frames = .java g₀ :: r := hr
  rcases hq' with ⟨hqc, L, hfe, hL⟩ | ⟨q, rfl, E, ce, L, hx, hce, hcv, hcl, hW₂, hsm, hL⟩
  · obtain ⟨⟨v, rfl⟩, hW₂, e2, q2, q3, q4, q5, q6⟩ := id hfe
    have e3 : s₂ = ({ (U.calling g mk a).setFrames s₂.frames with heap := s₂.heap, slotsUsed := s₂.slotsUsed } : State).setVm s₂.vm := by
      have : s₂ = ({ s₂ with vm := (U.calling g mk a).vm } : State).setVm s₂.vm := rfl
      rw [e2] at this
      exact this
    obtain ⟨c₂, i₂, len₂, hc₂, hd₂, hf₂⟩ := hend
    have hW' : U.WarmedH s₂.vm := hW₂
    have hcc : c₂ = c := by
      have h1 : s₂.code? g.method = U.code? g.method := by
        rw [State.code?_eq, State.code?_eq, hW'.alike.method?]
      exact Option.some.inj (hc₂.symm.trans (h1.trans h.code))
    subst hcc
    have hlen : len₂ = len := by rw [hdg] at hd₂; cases hd₂; rfl
    subst hlen
    have hs₂ : s₂ = (({ U with heap := s₂.heap, slotsUsed := s₂.slotsUsed } : State).setVm s₂.vm).setTop { g with pc := g.pc + len₂, stack := v.toList ++ g.stack } := by
      refine e3.trans ?_
      rw [hf₂, State.calling_eq h.top, State.setFrames_setFrames, State.setTop_of_frames _ hr', hr]
      rfl
    have hsame : U.sameButNew ({ U with heap := s₂.heap, slotsUsed := s₂.slotsUsed } : State) L mc ms := by
      refine ⟨?_, q2, q3, q4, q5, q6⟩
      obtain ⟨t, ht, -⟩ := State.frames_cons hr
      show ({ U with heap := s₂.heap, slotsUsed := s₂.slotsUsed } : State) = { U.setFrames U.frames with heap := s₂.heap, slotsUsed := s₂.slotsUsed }
      rw [State.setFrames_self ht]
    subst hg
    refine Or.inl ⟨v, ⟨(({ U with heap := s₂.heap, slotsUsed := s₂.slotsUsed } : State).setVm s₂.vm), Ls ++ L, c0 + mc, s0 + ms⟩,
      ⟨X.admits, X.cas, X.clock, X.frames, X.room, X.hears, X.method, X.code, (X.here.setHeapUsed s₂.heap s₂.slotsUsed).setVm hW'.alike, X.tail, State.WarmedH.trans X.warmed hW', X.limits, X.bytes, X.same.trans (hsame.setVm s.vm)⟩,
      ⟨g, mk, s₂, L, rfl, rfl, hqc, rfl, hL, rfl, rfl⟩, ?_⟩
    show Steps p.tables e below _ ((({ U with heap := s₂.heap, slotsUsed := s₂.slotsUsed } : State).setVm s₂.vm).setTop { g with pc := g.pc + len₂, stack := v.toList ++ g.stack })
    rw [← hs₂]
    exact hsteps
  · obtain ⟨e2, q2, q3, q4, q5, q6⟩ := id hsm
    have e3 : s₂ = ({ (U.calling g mk a).setFrames s₂.frames with heap := s₂.heap, slotsUsed := s₂.slotsUsed } : State).setVm s₂.vm := by
      have : s₂ = ({ s₂ with vm := (U.calling g mk a).vm } : State).setVm s₂.vm := rfl
      rw [e2] at this
      exact this
    have hf₂ : s₂.frames = .throwing q :: .java g :: U.frames.tail := hend
    have hW' : U.WarmedH s₂.vm := hW₂
    have hs₂ : s₂ = ((({ U with heap := s₂.heap, slotsUsed := s₂.slotsUsed } : State).setVm s₂.vm).setTop g).pushFrame (.throwing q) := by
      refine e3.trans ?_
      rw [hf₂, State.calling_eq h.top, State.setFrames_setFrames, State.pushFrame, State.frames_setTop _ hr', State.setTop_of_frames _ hr', State.setFrames_setFrames, hr]
      rfl
    have hsame : U.sameButNew ({ U with heap := s₂.heap, slotsUsed := s₂.slotsUsed } : State) L mc ms := by
      refine ⟨?_, q2, q3, q4, q5, q6⟩
      obtain ⟨t, ht, -⟩ := State.frames_cons hr
      show ({ U with heap := s₂.heap, slotsUsed := s₂.slotsUsed } : State) = { U.setFrames U.frames with heap := s₂.heap, slotsUsed := s₂.slotsUsed }
      rw [State.setFrames_self ht]
    subst hg
    refine Or.inr ⟨q, ⟨(({ U with heap := s₂.heap, slotsUsed := s₂.slotsUsed } : State).setVm s₂.vm), Ls ++ L, c0 + mc, s0 + ms⟩,
      ⟨X.admits, X.cas, X.clock, X.frames, X.room, X.hears, X.method, X.code, (X.here.setHeapUsed s₂.heap s₂.slotsUsed).setVm hW'.alike, X.tail, State.WarmedH.trans X.warmed hW', X.limits, X.bytes, X.same.trans (hsame.setVm s.vm)⟩,
      ⟨g, mk, s₂, L, E, ce, rfl, rfl, hx, hce, hcv, hcl, rfl, hL, rfl, rfl⟩, ?_⟩
    show Steps p.tables e below _ (((({ U with heap := s₂.heap, slotsUsed := s₂.slotsUsed } : State).setVm s₂.vm).setTop g).pushFrame (.throwing q))
    rw [← hs₂]
    exact hsteps
end Payer
section Calls
variable {p : Program} {l : Launch} {e : Env} {R : Room} {s : State} {m : MethodId} {args : Array Value} {below : List Frame} {meth : Method} {c : Code} {T : State} {locs : List Loc} {cells slots : Nat}
theorem vx_callV (X : Stand p l e R s m args below meth c T locs cells slots) (hexec : p.tables.exec = Jvm.exec) {own C : String} {index : Nat} {y : MethodName} {bytes : ByteArray} {maxL : Nat} {ret : Option FieldType}
    (hown : s.vm.findClass own = some m.cls) (hlink : (Cond.methodLink own index y).before args s = true) (hinst : (Cond.instanceMethod y).before args s = true) (hsel : (Cond.selects C y y).before args s = true)
    (hcode : (Cond.code y bytes maxL ret).before args s = true) (hy : y.cls ≠ "java/lang/invoke/MethodHandle" ∧ y.cls ≠ "java/lang/invoke/VarHandle")
    {W9 : Nat} {Pre : Pt → Array Value → Prop} {Post : Pt → Array Value → Option Value → Pt → Prop} {PostX : Pt → Array Value → Addr → Pt → Prop} (hK : vx_Back l R p e below s args y 3 W9 Pre Post PostX)
    {b : Addr} {cellB : Cell} (hcell : T.heap[b]? = some cellB) (hobj : cellB.vm.isStatics = false) (hcls : s.vm.findClass C = some cellB.cls)
    {g : JFrame} (hg : g.method = m) (hsize : g.locals.size = c.maxLocals) {argsL rest : List Value} (hlen : ∀ sig, parseMethodDescriptor y.desc = some sig → argsL.length = sig.parameters.length)
    (hstack : g.stack = argsL.reverse ++ .ref b :: rest) (hW : 2 * g.monitorRoom + (rest.map fun v => v.category).sum ≤ W9) (hdg : decode c.code g.pc = .ok (.invokevirtual index, 3))
    (hpre : ∀ vm₁, s.WarmedH vm₁ → Pre ⟨T.setVm vm₁, locs, cells, slots⟩ (Value.ref b :: argsL).toArray) :
    (∃ (v : Option Value) (vm₁ : Vm) (B : Pt), s.WarmedH vm₁ ∧ Stand p l e R s m args below meth c B.U B.locs B.cells B.slots ∧ Post ⟨T.setVm vm₁, locs, cells, slots⟩ (Value.ref b :: argsL).toArray v B ∧
      ∀ target, Steps p.tables e below (B.U.setTop { g with pc := g.pc + 3, stack := v.toList ++ rest }) target → Steps p.tables e below (T.setTop g) target) ∨
    (∃ (q : Addr) (vm₁ : Vm) (B : Pt), s.WarmedH vm₁ ∧ Stand p l e R s m args below meth c B.U B.locs B.cells B.slots ∧ PostX ⟨T.setVm vm₁, locs, cells, slots⟩ (Value.ref b :: argsL).toArray q B ∧
      Steps p.tables e below (T.setTop g) ((B.U.setTop { g with stack := rest }).pushFrame (.throwing q))) := by
  obtain ⟨mk, methM, hnamed, hmethM, hstM, habM⟩ := Cond.instanceMethod_spec hinst
  obtain ⟨methM', cM, hmethM', -, -, -, -, -, -, hsigM⟩ := Cond.code_spec hnamed hcode
  cases hmethM.symm.trans hmethM'
  obtain ⟨c2, r2, m2, q1, q2, q3, q4, kP, hkP, hkPi⟩ := Cond.selects_spec hsel
  cases hcls.symm.trans q1
  cases (State.methodFound?_of_named hnamed hy).symm.trans q2
  cases hnamed.symm.trans q3
  have hselP : selectMethod e.platform s.vm cellB.cls mk = .method mk := by rw [Launch.admits_selectMethod X.admits]; exact q4
  obtain ⟨vm₁, X₁, hstep₁⟩ := X.invokevirtual hexec hown hlink hnamed hmethM hstM hkP hkPi hy (a := b) (cell := cellB) hcell
    (fun z h => by rw [h] at hobj; cases hobj) hselP hmethM habM hkP hkPi (g := g) hg (argsL := argsL) (rest := rest) (hlen _ hsigM) hstack hdg
  rcases hK m meth c ⟨T.setVm vm₁, locs, cells, slots⟩ { g with stack := rest } (.invokevirtual index) mk (Value.ref b :: argsL).toArray X₁ hg hsize hdg hW (X₁.named hnamed) (hpre vm₁ X₁.warmed) with ⟨v, B, X', hpost, hsteps⟩ | ⟨q, B, X', hpost, hsteps⟩
  · exact Or.inl ⟨v, vm₁, B, X₁.warmed, X', hpost, fun target h => hstep₁ _ fun acts => by rw [doInvoke_state]; exact hsteps.trans h⟩
  · exact Or.inr ⟨q, vm₁, B, X₁.warmed, X', hpost, hstep₁ _ fun acts => by rw [doInvoke_state]; exact hsteps⟩
theorem vx_callS (X : Stand p l e R s m args below meth c T locs cells slots) (hexec : p.tables.exec = Jvm.exec) {own : String} {index : Nat} {y : MethodName} {bytes : ByteArray} {maxL : Nat} {ret : Option FieldType}
    (hown : s.vm.findClass own = some m.cls) (hlink : (Cond.methodLink own index y).before args s = true) (hstat : (Cond.static y).before args s = true) (hinit : (Cond.initialized y.cls).before args s = true)
    (hcode : (Cond.code y bytes maxL ret).before args s = true) (hy : y.cls ≠ "java/lang/invoke/MethodHandle" ∧ y.cls ≠ "java/lang/invoke/VarHandle")
    {W9 : Nat} {Pre : Pt → Array Value → Prop} {Post : Pt → Array Value → Option Value → Pt → Prop} {PostX : Pt → Array Value → Addr → Pt → Prop} (hK : vx_Back l R p e below s args y 3 W9 Pre Post PostX)
    {g : JFrame} (hg : g.method = m) (hsize : g.locals.size = c.maxLocals) {argsL rest : List Value} (hlen : ∀ sig, parseMethodDescriptor y.desc = some sig → argsL.length = sig.parameters.length)
    (hstack : g.stack = argsL.reverse ++ rest) (hW : 2 * g.monitorRoom + (rest.map fun v => v.category).sum ≤ W9) (hdg : decode c.code g.pc = .ok (.invokestatic index, 3))
    (hpre : ∀ vm₁, s.WarmedH vm₁ → Pre ⟨T.setVm vm₁, locs, cells, slots⟩ argsL.toArray) :
    (∃ (v : Option Value) (vm₁ : Vm) (B : Pt), s.WarmedH vm₁ ∧ Stand p l e R s m args below meth c B.U B.locs B.cells B.slots ∧ Post ⟨T.setVm vm₁, locs, cells, slots⟩ argsL.toArray v B ∧
      ∀ target, Steps p.tables e below (B.U.setTop { g with pc := g.pc + 3, stack := v.toList ++ rest }) target → Steps p.tables e below (T.setTop g) target) ∨
    (∃ (q : Addr) (vm₁ : Vm) (B : Pt), s.WarmedH vm₁ ∧ Stand p l e R s m args below meth c B.U B.locs B.cells B.slots ∧ PostX ⟨T.setVm vm₁, locs, cells, slots⟩ argsL.toArray q B ∧
      Steps p.tables e below (T.setTop g) ((B.U.setTop { g with stack := rest }).pushFrame (.throwing q))) := by
  obtain ⟨mk, hnamed⟩ := Cond.code_named hcode
  obtain ⟨methM, cM, hmethM, -, -, -, -, -, -, hsigM⟩ := Cond.code_spec hnamed hcode
  have hstatic : methM.isStatic = true := Cond.static_spec hnamed hmethM hstat
  obtain ⟨kP, hkP, -⟩ := className_of_methodNamed hnamed
  have hinitP : kP.init = .initialized := Cond.initialized_spec (findClass_of_methodNamed hnamed) hkP hinit
  obtain ⟨vm₁, X₁, hstep₁⟩ := X.invokestatic hexec hown hlink hnamed hmethM hstatic hkP hinitP hy (g := g) hg (argsL := argsL) (rest := rest) (hlen _ hsigM) hstack hdg
  rcases hK m meth c ⟨T.setVm vm₁, locs, cells, slots⟩ { g with stack := rest } (.invokestatic index) mk argsL.toArray X₁ hg hsize hdg hW (X₁.named hnamed) (hpre vm₁ X₁.warmed) with ⟨v, B, X', hpost, hsteps⟩ | ⟨q, B, X', hpost, hsteps⟩
  · exact Or.inl ⟨v, vm₁, B, X₁.warmed, X', hpost, fun target h => hstep₁ _ fun acts => by rw [doInvoke_state]; exact hsteps.trans h⟩
  · exact Or.inr ⟨q, vm₁, B, X₁.warmed, X', hpost, hstep₁ _ fun acts => by rw [doInvoke_state]; exact hsteps⟩
end Calls
theorem vx_cls {s : State} {T : State} {vm₁ : Vm} {E : String} {k : ClassId} (hW : s.WarmedH vm₁) (h : (T.setVm vm₁).vm.findClass E = some k) : s.vm.findClass E = some k := by
  have h1 : vm₁.findClass E = some k := h
  rw [hW.alike.findClass] at h1
  exact h1
/-- the method's frame g, with q thrown over it -/
def vx_W (p : Program) (l : Launch) (e : Env) (R : Room) (s : State) (m : MethodId) (args : Array Value) (below : List Frame) (meth : Method) (c : Code) (H : Heap) (locs : List Loc) (cells slots : Nat) (Q : State → Prop) (g : JFrame) (q : Addr) : Prop :=
  ∀ T : State, T.heap = H → Stand p l e R s m args below meth c T locs cells slots → ∃ t, Steps p.tables e below ((T.setTop g).pushFrame (.throwing q)) t ∧ Q t
def vx_Run (p : Program) (l : Launch) (e : Env) (R : Room) (s : State) (m : MethodId) (args : Array Value) (below : List Frame) (meth : Method) (c : Code) (H : Heap) (locs : List Loc) (cells slots mc ms : Nat) (g : JFrame) (rest : List Value) (Qa : State → Outcome → State → Prop) (XC : String → State → State → Prop) (free : Addr → Prop) : Prop :=
  ∀ T : State, T.heap = H → Stand p l e R s m args below meth c T locs cells slots →
    (∃ (v : Option Value) (st₀ t T' : State) (L : List Loc), st₀.heap = H ∧ Stand p l e R s m args below meth c T' (locs ++ L) (cells + mc) (slots + ms) ∧ (∀ q ∈ L, free q.base) ∧ T'.heap = t.heap ∧ T'.vm = t.vm ∧ Qa st₀ (.returned v) t ∧
      Goes p e below T g T' { g with pc := g.pc + 3, stack := v.toList ++ rest }) ∨
    (∃ (q : Addr) (st₀ t T' : State) (L : List Loc) (E : String) (ce : Cell), st₀.heap = H ∧ Stand p l e R s m args below meth c T' (locs ++ L) (cells + mc) (slots + ms) ∧ (∀ z ∈ L, free z.base) ∧ T'.heap = t.heap ∧ T'.vm = t.vm ∧ XC E st₀ t ∧ t.heap[q]? = some ce ∧ ce.vm = .none ∧ s.vm.findClass E = some ce.cls ∧
      Steps p.tables e below (T.setTop g) ((T'.setTop { g with stack := rest }).pushFrame (.throwing q)))
def vx_X {S : Type} (px : S → Prop) (B : String → S → State → Prop) (A : Nat → Prop) : String → State → State → Prop := fun E st t => ∃ u : S, px u ∧ B E u t ∧ va_F A st t
section Runs
variable {p : Program} {l : Launch} {e : Env} {R : Room} {s : State} {m : MethodId} {args : Array Value} {below : List Frame} {meth : Method} {c : Code} {H : Heap} {locs : List Loc} {cells slots : Nat}
variable {y : MethodName} {bytes cc : ByteArray} {maxL nL mc ms n index : Nat} {ret : Option FieldType} {ws : List Cond} {rm : Room} {Pc : Array Value → State → Prop} {Qc : Array Value → State → Outcome → State → Prop} {XC : String → State → State → Prop} {free : Addr → Prop} {Ts : List Cond} {own C : String} {b : Addr} {As rest : List Value} {g : JFrame}
theorem vx_callBack (cb : CallB R s args own index y bytes maxL ret ws rm mc ms n) (hM : vx_Met l y ws rm Pc Qc XC mc ms free) (hbl : FrameBlind Pc) : vx_Back l R p e below s args y 3 8 (PreOf R mc ms Pc) (PostOf Qc mc ms free) (vx_Post XC mc ms free) := by
  obtain ⟨hrc, hrs, hfr, hlo, hws, hcw, -, hini, -⟩ := cb
  exact vx_back (bytes := bytes) (maxL := maxL) (ret := ret) hM hbl hrc hrs hfr hlo hws hcw (fun a' U hW => word_at hW (Or.inl (by first | rfl | simp [Cond.onTables, Cond.keeps, Cond.steady])) hini)
theorem vx_runV (S : CallFix p m c cc nL s args Ts own) (hM : vx_Met l y ws rm Pc Qc XC mc ms free) (cw : CallW R s args own C index y bytes maxL ret ws rm mc ms n) (hp : PreV s H C b Pc As)
    (hg : g.method = m) (hn : As.length = n) (hsize : g.locals.size = nL) (hstack : g.stack = As.reverse ++ .ref b :: rest) (hW : 2 * g.monitorRoom + (rest.map fun v => v.category).sum ≤ 8) (hdg : decode cc g.pc = .ok (.invokevirtual index, 3)) (hf : cells + mc ≤ R.cells ∧ slots + ms ≤ R.slots) :
    vx_Run p l e R s m args below meth c H locs cells slots mc ms g rest (Qc (Value.ref b :: As).toArray) XC free := by
  have hK : vx_Back l R p e below s args y 3 8 (PreOf R mc ms Pc) (PostOf Qc mc ms free) (vx_Post XC mc ms free) := vx_callBack cw.1 hM hp.1
  obtain ⟨⟨-, -, -, -, -, -, hcode, -, hy, hlen, hl⟩, hin, hse⟩ := cw
  obtain ⟨hx, hb, hml, ho, -⟩ := S
  obtain ⟨-, ⟨cellB, hcB, hoB, hclB⟩, hPc⟩ := hp
  intro T hT X
  rcases vx_callV X hx (C := C) (bytes := bytes) (maxL := maxL) (ret := ret) ho hl hin hse hcode hy hK (by rw [hT]; exact hcB) hoB hclB hg (hsize.trans hml.symm) (argsL := As) (rest := rest) (fun sig h => hn.trans (hlen sig h)) hstack hW (by rw [hb]; exact hdg)
    (fun vm₁ hW₁ => ⟨hf.1, hf.2, hPc (T.setVm vm₁) hT hW₁⟩) with ⟨v, vm₁, ⟨U', l2, c2, s2⟩, hW₁, X', ⟨g', mk, t, L, e1, e2, hq, h1, hL, h2, h3⟩, st⟩ | ⟨q, vm₁, ⟨U', l2, c2, s2⟩, hW₁, X', ⟨g', mk, t, L, E, ce, e1, e2, hq, hce, hcv, hcl, h1, hL, h2, h3⟩, st⟩
  · dsimp only [Pt.U, Pt.locs, Pt.cells, Pt.slots] at X' e1 e2 h1 h2 h3 st
    subst h1; subst h2; subst h3
    exact Or.inl ⟨v, (T.setVm vm₁).calling g' mk (Value.ref b :: As).toArray, t, U', L, hT, X', hL, e1, e2, hq, st⟩
  · dsimp only [Pt.U, Pt.locs, Pt.cells, Pt.slots] at X' e1 e2 h1 h2 h3 st hcl
    subst h1; subst h2; subst h3
    exact Or.inr ⟨q, (T.setVm vm₁).calling g' mk (Value.ref b :: As).toArray, t, U', L, E, ce, hT, X', hL, e1, e2, hq, hce, hcv, vx_cls hW₁ hcl, st⟩
theorem vx_runS (S : CallFix p m c cc nL s args Ts own) (hM : vx_Met l y ws rm Pc Qc XC mc ms free) (cw : CallB R s args own index y bytes maxL ret ws rm mc ms n ∧ (Cond.static y).before args s = true) (hp : PreS s H Pc As)
    (hg : g.method = m) (hn : As.length = n) (hsize : g.locals.size = nL) (hstack : g.stack = As.reverse ++ rest) (hW : 2 * g.monitorRoom + (rest.map fun v => v.category).sum ≤ 8) (hdg : decode cc g.pc = .ok (.invokestatic index, 3)) (hf : cells + mc ≤ R.cells ∧ slots + ms ≤ R.slots) :
    vx_Run p l e R s m args below meth c H locs cells slots mc ms g rest (Qc As.toArray) XC free := by
  have hK : vx_Back l R p e below s args y 3 8 (PreOf R mc ms Pc) (PostOf Qc mc ms free) (vx_Post XC mc ms free) := vx_callBack cw.1 hM hp.1
  obtain ⟨⟨-, -, -, -, -, -, hcode, hini, hy, hlen, hl⟩, hstt⟩ := cw
  obtain ⟨hx, hb, hml, ho, -⟩ := S
  intro T hT X
  rcases vx_callS X hx (bytes := bytes) (maxL := maxL) (ret := ret) ho hl hstt hini hcode hy hK hg (hsize.trans hml.symm) (argsL := As) (rest := rest) (fun sig h => hn.trans (hlen sig h)) hstack hW (by rw [hb]; exact hdg)
    (fun vm₁ hW₁ => ⟨hf.1, hf.2, hp.2 (T.setVm vm₁) hT hW₁⟩) with ⟨v, vm₁, ⟨U', l2, c2, s2⟩, hW₁, X', ⟨g', mk, t, L, e1, e2, hq, h1, hL, h2, h3⟩, st⟩ | ⟨q, vm₁, ⟨U', l2, c2, s2⟩, hW₁, X', ⟨g', mk, t, L, E, ce, e1, e2, hq, hce, hcv, hcl, h1, hL, h2, h3⟩, st⟩
  · dsimp only [Pt.U, Pt.locs, Pt.cells, Pt.slots] at X' e1 e2 h1 h2 h3 st
    subst h1; subst h2; subst h3
    exact Or.inl ⟨v, (T.setVm vm₁).calling g' mk As.toArray, t, U', L, hT, X', hL, e1, e2, hq, st⟩
  · dsimp only [Pt.U, Pt.locs, Pt.cells, Pt.slots] at X' e1 e2 h1 h2 h3 st hcl
    subst h1; subst h2; subst h3
    exact Or.inr ⟨q, (T.setVm vm₁).calling g' mk As.toArray, t, U', L, E, ce, hT, X', hL, e1, e2, hq, hce, hcv, vx_cls hW₁ hcl, st⟩
end Runs
section Rows
variable {p : Program} {l : Launch} {e : Env} {R : Room} {s : State} {m : MethodId} {args : Array Value} {below : List Frame} {meth : Method} {c : Code} {H : Heap} {locs : List Loc} {cells slots : Nat} {Q : State → Prop}
variable {mc ms : Nat} {free : Addr → Prop} {A0 A1 : Nat → Prop} {H0 : Heap} {a : Array Value} {pc : Nat} {ls : Array Slot} {st0 rest : List Value}
theorem vx_keep {st₀ t T' : State} {L : List Loc} (h0 : st₀.heap = H) (e1 : T'.heap = t.heap) (hS : va_S A0 H0 H locs) (hA : ∀ q, q < H.size → A1 q → A0 q) (hf : ∀ q, free q → A0 q) (hL : ∀ q ∈ L, free q.base) (hF : va_F A1 st₀ t) :
    H.size ≤ T'.heap.size ∧ (∀ q : Nat, q < H.size → ¬ A1 q → T'.heap[q]? = H[q]?) ∧ va_S A0 H0 T'.heap (locs ++ L) := by
  obtain ⟨hz, hk⟩ := hF
  rw [h0] at hz hk
  exact ⟨by rw [e1]; exact hz, fun q h1 h2 => by rw [e1]; exact hk q h1 h2,
    ⟨Nat.le_trans hS.1 (by rw [e1]; exact hz), fun q h1 h2 => by rw [e1, hk q (Nat.lt_of_lt_of_le h1 hS.1) (fun z => h2 (hA q (Nat.lt_of_lt_of_le h1 hS.1) z))]; exact hS.2.1 q h1 h2, fun q hq => by
      rcases List.mem_append.mp hq with h | h
      · exact hS.2.2 q h
      · exact hf _ (hL q h)⟩⟩
theorem vx_calli {S SX : Type} {post : Int32 → S → Prop} {px : SX → Prop} {B : S → State → Prop} {BX : String → SX → State → Prop} {AX : Nat → Prop} (hr : vx_Run p l e R s m args below meth c H locs cells slots mc ms (F0 m pc ls st0) rest (va_Qi post B A1 a) (vx_X px BX AX) free) (hS : va_S A0 H0 H locs) (hA : ∀ q, q < H.size → A1 q → A0 q) (hf : ∀ q, free q → A0 q) (hAX : ∀ q, q < H.size → AX q → A0 q)
    (kx : ∀ (E : String) (ce : Cell) (q9 : Addr) (u : SX) (t : State) (H1 : Heap) (locs1 : List Loc), t.heap = H1 → s.vm.Alike t.vm → px u → BX E u t → H.size ≤ H1.size → (∀ q : Nat, q < H.size → ¬ AX q → H1[q]? = H[q]?) → va_S A0 H0 H1 locs1 → H1[q9]? = some ce → ce.vm = .none → s.vm.findClass E = some ce.cls → vx_W p l e R s m args below meth c H1 locs1 (cells + mc) (slots + ms) Q (F0 m pc ls rest) q9)
    (kk : ∀ (r : Int32) (u : S) (t : State) (H1 : Heap) (locs1 : List Loc), t.heap = H1 → s.vm.Alike t.vm → post r u → B u t → H.size ≤ H1.size → (∀ q : Nat, q < H.size → ¬ A1 q → H1[q]? = H[q]?) → va_S A0 H0 H1 locs1 → W p l e R s m args below meth c H1 locs1 (cells + mc) (slots + ms) Q (F0 m (pc + 3) ls (.int r :: rest))) : W p l e R s m args below meth c H locs cells slots Q (F0 m pc ls st0) := by
  intro T hT X
  rcases hr T hT X with ⟨v, st₀, t, T', L, h0, X', hL, e1, e2, ⟨⟨r, u, hv, hp, hb⟩, hF⟩, st⟩ | ⟨q, st₀, t, T', L, E, ce, h0, X', hL, e1, e2, ⟨u, hp, hb, hF⟩, hce, hcv, hcl, st⟩
  · cases hv
    obtain ⟨k1, k2, k3⟩ := vx_keep h0 e1 hS hA hf hL hF
    obtain ⟨t2, a1, b1⟩ := kk r u t T'.heap (locs ++ L) e1.symm (by rw [← e2]; exact X'.warmed.alike) hp hb k1 k2 k3 T' rfl X'
    exact ⟨t2, st t2 a1, b1⟩
  · obtain ⟨k1, k2, k3⟩ := vx_keep h0 e1 hS hAX hf hL hF
    obtain ⟨t2, a1, b1⟩ := kx E ce q u t T'.heap (locs ++ L) e1.symm (by rw [← e2]; exact X'.warmed.alike) hp hb k1 k2 k3 (by rw [e1]; exact hce) hcv hcl T' rfl X'
    exact ⟨t2, st.trans a1, b1⟩
theorem vx_calll {S SX : Type} {post : Int64 → S → Prop} {px : SX → Prop} {B : S → State → Prop} {BX : String → SX → State → Prop} {AX : Nat → Prop} (hr : vx_Run p l e R s m args below meth c H locs cells slots mc ms (F0 m pc ls st0) rest (va_Ql post B A1 a) (vx_X px BX AX) free) (hS : va_S A0 H0 H locs) (hA : ∀ q, q < H.size → A1 q → A0 q) (hf : ∀ q, free q → A0 q) (hAX : ∀ q, q < H.size → AX q → A0 q)
    (kx : ∀ (E : String) (ce : Cell) (q9 : Addr) (u : SX) (t : State) (H1 : Heap) (locs1 : List Loc), t.heap = H1 → s.vm.Alike t.vm → px u → BX E u t → H.size ≤ H1.size → (∀ q : Nat, q < H.size → ¬ AX q → H1[q]? = H[q]?) → va_S A0 H0 H1 locs1 → H1[q9]? = some ce → ce.vm = .none → s.vm.findClass E = some ce.cls → vx_W p l e R s m args below meth c H1 locs1 (cells + mc) (slots + ms) Q (F0 m pc ls rest) q9)
    (kk : ∀ (r : Int64) (u : S) (t : State) (H1 : Heap) (locs1 : List Loc), t.heap = H1 → s.vm.Alike t.vm → post r u → B u t → H.size ≤ H1.size → (∀ q : Nat, q < H.size → ¬ A1 q → H1[q]? = H[q]?) → va_S A0 H0 H1 locs1 → W p l e R s m args below meth c H1 locs1 (cells + mc) (slots + ms) Q (F0 m (pc + 3) ls (.long r :: rest))) : W p l e R s m args below meth c H locs cells slots Q (F0 m pc ls st0) := by
  intro T hT X
  rcases hr T hT X with ⟨v, st₀, t, T', L, h0, X', hL, e1, e2, ⟨⟨r, u, hv, hp, hb⟩, hF⟩, st⟩ | ⟨q, st₀, t, T', L, E, ce, h0, X', hL, e1, e2, ⟨u, hp, hb, hF⟩, hce, hcv, hcl, st⟩
  · cases hv
    obtain ⟨k1, k2, k3⟩ := vx_keep h0 e1 hS hA hf hL hF
    obtain ⟨t2, a1, b1⟩ := kk r u t T'.heap (locs ++ L) e1.symm (by rw [← e2]; exact X'.warmed.alike) hp hb k1 k2 k3 T' rfl X'
    exact ⟨t2, st t2 a1, b1⟩
  · obtain ⟨k1, k2, k3⟩ := vx_keep h0 e1 hS hAX hf hL hF
    obtain ⟨t2, a1, b1⟩ := kx E ce q u t T'.heap (locs ++ L) e1.symm (by rw [← e2]; exact X'.warmed.alike) hp hb k1 k2 k3 (by rw [e1]; exact hce) hcv hcl T' rfl X'
    exact ⟨t2, st.trans a1, b1⟩
theorem vx_callf {S SX : Type} {post : UInt32 → S → Prop} {px : SX → Prop} {B : S → State → Prop} {BX : String → SX → State → Prop} {AX : Nat → Prop} (hr : vx_Run p l e R s m args below meth c H locs cells slots mc ms (F0 m pc ls st0) rest (va_Qf post B A1 a) (vx_X px BX AX) free) (hS : va_S A0 H0 H locs) (hA : ∀ q, q < H.size → A1 q → A0 q) (hf : ∀ q, free q → A0 q) (hAX : ∀ q, q < H.size → AX q → A0 q)
    (kx : ∀ (E : String) (ce : Cell) (q9 : Addr) (u : SX) (t : State) (H1 : Heap) (locs1 : List Loc), t.heap = H1 → s.vm.Alike t.vm → px u → BX E u t → H.size ≤ H1.size → (∀ q : Nat, q < H.size → ¬ AX q → H1[q]? = H[q]?) → va_S A0 H0 H1 locs1 → H1[q9]? = some ce → ce.vm = .none → s.vm.findClass E = some ce.cls → vx_W p l e R s m args below meth c H1 locs1 (cells + mc) (slots + ms) Q (F0 m pc ls rest) q9)
    (kk : ∀ (r : UInt32) (u : S) (t : State) (H1 : Heap) (locs1 : List Loc), t.heap = H1 → s.vm.Alike t.vm → post r u → B u t → H.size ≤ H1.size → (∀ q : Nat, q < H.size → ¬ A1 q → H1[q]? = H[q]?) → va_S A0 H0 H1 locs1 → W p l e R s m args below meth c H1 locs1 (cells + mc) (slots + ms) Q (F0 m (pc + 3) ls (.float r :: rest))) : W p l e R s m args below meth c H locs cells slots Q (F0 m pc ls st0) := by
  intro T hT X
  rcases hr T hT X with ⟨v, st₀, t, T', L, h0, X', hL, e1, e2, ⟨⟨r, u, hv, hp, hb⟩, hF⟩, st⟩ | ⟨q, st₀, t, T', L, E, ce, h0, X', hL, e1, e2, ⟨u, hp, hb, hF⟩, hce, hcv, hcl, st⟩
  · cases hv
    obtain ⟨k1, k2, k3⟩ := vx_keep h0 e1 hS hA hf hL hF
    obtain ⟨t2, a1, b1⟩ := kk r u t T'.heap (locs ++ L) e1.symm (by rw [← e2]; exact X'.warmed.alike) hp hb k1 k2 k3 T' rfl X'
    exact ⟨t2, st t2 a1, b1⟩
  · obtain ⟨k1, k2, k3⟩ := vx_keep h0 e1 hS hAX hf hL hF
    obtain ⟨t2, a1, b1⟩ := kx E ce q u t T'.heap (locs ++ L) e1.symm (by rw [← e2]; exact X'.warmed.alike) hp hb k1 k2 k3 (by rw [e1]; exact hce) hcv hcl T' rfl X'
    exact ⟨t2, st.trans a1, b1⟩
theorem vx_calld {S SX : Type} {post : UInt64 → S → Prop} {px : SX → Prop} {B : S → State → Prop} {BX : String → SX → State → Prop} {AX : Nat → Prop} (hr : vx_Run p l e R s m args below meth c H locs cells slots mc ms (F0 m pc ls st0) rest (va_Qd post B A1 a) (vx_X px BX AX) free) (hS : va_S A0 H0 H locs) (hA : ∀ q, q < H.size → A1 q → A0 q) (hf : ∀ q, free q → A0 q) (hAX : ∀ q, q < H.size → AX q → A0 q)
    (kx : ∀ (E : String) (ce : Cell) (q9 : Addr) (u : SX) (t : State) (H1 : Heap) (locs1 : List Loc), t.heap = H1 → s.vm.Alike t.vm → px u → BX E u t → H.size ≤ H1.size → (∀ q : Nat, q < H.size → ¬ AX q → H1[q]? = H[q]?) → va_S A0 H0 H1 locs1 → H1[q9]? = some ce → ce.vm = .none → s.vm.findClass E = some ce.cls → vx_W p l e R s m args below meth c H1 locs1 (cells + mc) (slots + ms) Q (F0 m pc ls rest) q9)
    (kk : ∀ (r : UInt64) (u : S) (t : State) (H1 : Heap) (locs1 : List Loc), t.heap = H1 → s.vm.Alike t.vm → post r u → B u t → H.size ≤ H1.size → (∀ q : Nat, q < H.size → ¬ A1 q → H1[q]? = H[q]?) → va_S A0 H0 H1 locs1 → W p l e R s m args below meth c H1 locs1 (cells + mc) (slots + ms) Q (F0 m (pc + 3) ls (.double r :: rest))) : W p l e R s m args below meth c H locs cells slots Q (F0 m pc ls st0) := by
  intro T hT X
  rcases hr T hT X with ⟨v, st₀, t, T', L, h0, X', hL, e1, e2, ⟨⟨r, u, hv, hp, hb⟩, hF⟩, st⟩ | ⟨q, st₀, t, T', L, E, ce, h0, X', hL, e1, e2, ⟨u, hp, hb, hF⟩, hce, hcv, hcl, st⟩
  · cases hv
    obtain ⟨k1, k2, k3⟩ := vx_keep h0 e1 hS hA hf hL hF
    obtain ⟨t2, a1, b1⟩ := kk r u t T'.heap (locs ++ L) e1.symm (by rw [← e2]; exact X'.warmed.alike) hp hb k1 k2 k3 T' rfl X'
    exact ⟨t2, st t2 a1, b1⟩
  · obtain ⟨k1, k2, k3⟩ := vx_keep h0 e1 hS hAX hf hL hF
    obtain ⟨t2, a1, b1⟩ := kx E ce q u t T'.heap (locs ++ L) e1.symm (by rw [← e2]; exact X'.warmed.alike) hp hb k1 k2 k3 (by rw [e1]; exact hce) hcv hcl T' rfl X'
    exact ⟨t2, st.trans a1, b1⟩
theorem vx_callv {S SX : Type} {post : S → Prop} {px : SX → Prop} {B : S → State → Prop} {BX : String → SX → State → Prop} {AX : Nat → Prop} (hr : vx_Run p l e R s m args below meth c H locs cells slots mc ms (F0 m pc ls st0) rest (va_Qv post B A1 a) (vx_X px BX AX) free) (hS : va_S A0 H0 H locs) (hA : ∀ q, q < H.size → A1 q → A0 q) (hf : ∀ q, free q → A0 q) (hAX : ∀ q, q < H.size → AX q → A0 q)
    (kx : ∀ (E : String) (ce : Cell) (q9 : Addr) (u : SX) (t : State) (H1 : Heap) (locs1 : List Loc), t.heap = H1 → s.vm.Alike t.vm → px u → BX E u t → H.size ≤ H1.size → (∀ q : Nat, q < H.size → ¬ AX q → H1[q]? = H[q]?) → va_S A0 H0 H1 locs1 → H1[q9]? = some ce → ce.vm = .none → s.vm.findClass E = some ce.cls → vx_W p l e R s m args below meth c H1 locs1 (cells + mc) (slots + ms) Q (F0 m pc ls rest) q9)
    (kk : ∀ (u : S) (t : State) (H1 : Heap) (locs1 : List Loc), t.heap = H1 → s.vm.Alike t.vm → post u → B u t → H.size ≤ H1.size → (∀ q : Nat, q < H.size → ¬ A1 q → H1[q]? = H[q]?) → va_S A0 H0 H1 locs1 → W p l e R s m args below meth c H1 locs1 (cells + mc) (slots + ms) Q (F0 m (pc + 3) ls (rest))) : W p l e R s m args below meth c H locs cells slots Q (F0 m pc ls st0) := by
  intro T hT X
  rcases hr T hT X with ⟨v, st₀, t, T', L, h0, X', hL, e1, e2, ⟨⟨u, hv, hp, hb⟩, hF⟩, st⟩ | ⟨q, st₀, t, T', L, E, ce, h0, X', hL, e1, e2, ⟨u, hp, hb, hF⟩, hce, hcv, hcl, st⟩
  · cases hv
    obtain ⟨k1, k2, k3⟩ := vx_keep h0 e1 hS hA hf hL hF
    obtain ⟨t2, a1, b1⟩ := kk u t T'.heap (locs ++ L) e1.symm (by rw [← e2]; exact X'.warmed.alike) hp hb k1 k2 k3 T' rfl X'
    exact ⟨t2, st t2 a1, b1⟩
  · obtain ⟨k1, k2, k3⟩ := vx_keep h0 e1 hS hAX hf hL hF
    obtain ⟨t2, a1, b1⟩ := kx E ce q u t T'.heap (locs ++ L) e1.symm (by rw [← e2]; exact X'.warmed.alike) hp hb k1 k2 k3 (by rw [e1]; exact hce) hcv hcl T' rfl X'
    exact ⟨t2, st.trans a1, b1⟩
/-- caught by the row x of this method's table; the rows ahead don't take it -/
theorem vx_catch {own name : String} {E : String} {ce : Cell} {q : Addr} (hown : s.vm.findClass own = some m.cls) (pre : List ExceptionTableEntry) (x : ExceptionTableEntry) (suf : List ExceptionTableEntry) (hsplit : c.exceptionTable.toList = pre ++ x :: suf)
    (hpass : ∀ z ∈ pre, covers z pc = false ∨ (z.catchType ≠ 0 ∧ ∃ nm : String, (Cond.classLink own z.catchType nm).before args s = true ∧ va_Nc E nm s)) (hx : covers x pc = true) (h0 : x.catchType ≠ 0)
    (hlink : (Cond.classLink own x.catchType name).before args s = true) (hcast : (Cond.castable E name).before args s = true) (hcell : H[q]? = some ce) (hv : ce.vm = .none) (hcl : s.vm.findClass E = some ce.cls)
    (kk : W p l e R s m args below meth c H locs cells slots Q (F0 m x.handlerPc ls [.ref q])) : vx_W p l e R s m args below meth c H locs cells slots Q (F0 m pc ls rest) q := by
  intro T hT X
  have hpl : e.platform.magicAccessors = ({} : Platform).magicAccessors := by rw [X.admits.platform]
  obtain ⟨c3, c4, hc3, hc4, hasg⟩ := Cond.castable_spec hcast
  cases Option.some.inj (hc3.symm.trans hcl)
  obtain ⟨c5, hc5, hcl5⟩ := Cond.classLink_spec hown hlink e.platform hpl
  cases Option.some.inj (hc4.symm.trans hc5)
  obtain ⟨vm', X', st⟩ := X.thenCaughtThrough q (g := F0 m pc ls rest) rfl (Steps.refl _) (by rw [hT]; exact hcell) (by rw [hv]; rfl) (by obtain ⟨k9, h9, -⟩ := Vm.findClass_spec hcl; exact ⟨k9, h9⟩) pre x suf hsplit
    (fun z hz => by
      rcases hpass z hz with h | ⟨hz0, nm, hl1, hn1⟩
      · exact Or.inl h
      · obtain ⟨c6, hc6, hcl6⟩ := Cond.classLink_spec hown hl1 e.platform hpl
        obtain ⟨a8, b8, h1, h2, h3⟩ := hn1
        cases Option.some.inj (h1.symm.trans hcl)
        cases Option.some.inj (h2.symm.trans hc6)
        exact Or.inr ⟨hz0, _, hcl6, h3⟩) hx (Or.inr ⟨h0, c4, hcl5, hasg⟩)
  obtain ⟨t, a1, b1⟩ := kk (T.setVm vm') hT X'
  exact ⟨t, st.trans a1, b1⟩
end Rows
section Ends
variable {p : Program} {l : Launch} {e : Env} {R : Room} {s : State} {m : MethodId} {args : Array Value} {below : List Frame} {meth : Method} {c : Code} {H : Heap} {locs : List Loc} {cells slots : Nat} {Q : State → Prop}
variable {mc ms : Nat} {free : Addr → Prop} {A0 A1 : Nat → Prop} {H0 : Heap} {a : Array Value} {ls : Array Slot} {st0 rest : List Value}
variable {Qc : Array Value → State → Outcome → State → Prop} {XC : String → State → State → Prop}
/-- what a body that may throw owes at its end -/
def vx_MQ (below : List Frame) (Qc : Array Value → State → Outcome → State → Prop) (XC : String → State → State → Prop) (a : Array Value) (s : State) (mc ms : Nat) (free : Addr → Prop) : State → Prop := fun t =>
  ∃ o, t.status = .running ∧ Ended t below o ∧ vx_Q Qc XC mc ms free a s o t
theorem vx_ret {g : JFrame} {mc ms : Nat} (k : W p l e R s m args below meth c H locs cells slots (MQ below Qc args s mc ms free) g) : W p l e R s m args below meth c H locs cells slots (vx_MQ below Qc XC args s mc ms free) g := by
  intro T hT X
  obtain ⟨t, a1, o, b1, b2, b3, b4⟩ := k T hT X
  exact ⟨t, a1, o, b1, b2, Or.inl ⟨b3, b4⟩⟩
/-- not caught here: it goes on to the caller -/
theorem vx_widen {g : JFrame} {q : Addr} {k n : Nat} (h1 : cells ≤ k) (h2 : slots ≤ n) (kk : vx_W p l e R s m args below meth c H locs k n Q g q) : vx_W p l e R s m args below meth c H locs cells slots Q g q := fun T hT X => kk T hT (stand_widen X h1 h2)
theorem vx_out {pc : Nat} {E : String} {ce : Cell} {q : Addr} {mc ms : Nat} (hout : ∀ x ∈ c.exceptionTable.toList, covers x pc = false) (hlocks : meth.locks = false) (hcell : H[q]? = some ce) (hv : ce.vm = .none) (hcl : s.vm.findClass E = some ce.cls)
    (hx : ∀ t : State, t.heap = H → s.vm.Alike t.vm → XC E s t) (hf : ∀ z ∈ locs, free z.base) (hc : cells ≤ mc) (hs : slots ≤ ms) :
    vx_W p l e R s m args below meth c H locs cells slots (vx_MQ below Qc XC args s mc ms free) (F0 m pc ls rest) q := by
  intro T hT X
  obtain ⟨st1, hrun, hend, hW, hsm⟩ := X.leaveThrown q (g := F0 m pc ls rest) rfl rfl rfl hout hlocks
  have hcell9 : (T.setFrames (.throwing q :: below)).heap[q]? = some ce := by
    show T.heap[q]? = some ce
    rw [hT]; exact hcell
  exact ⟨_, st1, .threw q, hrun, hend, Or.inr ⟨q, rfl, E, ce, locs, hx _ hT hW.alike, hcell9, hv, hcl, hW, hsm.mono hc hs, hf⟩⟩
theorem vx_frame {U : State} {k n : Nat} (h : s.sameButNew ({ U with vm := s.vm } : State) locs k n) : s.heap.size ≤ U.heap.size ∧ ∀ q : Nat, q < s.heap.size → (∀ z ∈ locs, z.base ≠ q) → U.heap[q]? = s.heap[q]? := by
  obtain ⟨-, h2, -, -, -, h6⟩ := h
  refine ⟨h2, fun q hq hz => ?_⟩
  obtain ⟨c9, e1, e2, e3, e4⟩ := h6 q _ (Array.getElem?_eq_getElem hq)
  have hs : c9.slots = (s.heap[q]).slots := Array.ext_getElem? fun i => e4 i fun hm => hz _ hm rfl
  have h9 : c9 = s.heap[q] := by
    rw [hs] at e2
    exact e2
  have e5 : U.heap[q]? = some c9 := e1
  rw [e5, h9, Array.getElem?_eq_getElem hq]
/-- the words of a throw but the four that speak of the heap -/
def vx_no (w : Cond) : Bool := decide (w ≠ .isRef (.static Bundle.tN "UNASSIGNED_STACK" Bundle.steD)) && decide (w ≠ .isRef (.static Bundle.tN "SUPPRESSED_SENTINEL" Bundle.listD)) && decide (w ≠ .laysStatic Bundle.tN "UNASSIGNED_STACK" Bundle.steD) && decide (w ≠ .laysStatic Bundle.tN "SUPPRESSED_SENTINEL" Bundle.listD)
def vx_at0 (own : String) (ic : Nat) (X : String) (names : List String) : List Cond := (Bundle.ownAtoms0 own ic X names).filter vx_no
def vx_atS (own : String) (ic : Nat) (X : String) (names : List String) : List Cond := (Bundle.ownAtoms own ic X names).filter vx_no
/-- a word that the tables alone decide, or a good one -/
def vx_ot (w : Cond) : Bool := w.onTables || goodWord w
theorem vx_ot_at {args a' : Array Value} {s U : State} {w : Cond} (hW : s.WarmedH U.vm) (hvm : s.vm = U.vm) (hg : vx_ot w = true) (h : w.before args s = true) : w.before a' U = true := by
  simp only [vx_ot, Bool.or_eq_true] at hg
  rcases hg with hg | hg
  · exact va_tabs hg hvm h
  · exact word_at hW (good_of_word hg) h
/-- a list's words: the good ones out of the method's own list, the others by premises of their own -/
theorem vx_hat {args : Array Value} {s : State} {L B : List Cond} (h1 : ∀ w ∈ L.filter goodWord, w.before args s = true) (h2 : ∀ w ∈ L.filter (fun w => !goodWord w), w ∈ B) (h3 : ∀ w ∈ B, w.before args s = true) : ∀ w ∈ L, w.before args s = true := by
  intro w hw
  by_cases g : goodWord w = true
  · exact h1 w (List.mem_filter.mpr ⟨hw, g⟩)
  · refine h3 w (h2 w (List.mem_filter.mpr ⟨hw, ?_⟩))
    show (!goodWord w) = true
    cases hgw : goodWord w
    · rfl
    · exact absurd hgw g
theorem vx_c {args : Array Value} {s : State} {w : Cond} {B : List Cond} (h : w.before args s = true) (t : ∀ w ∈ B, w.before args s = true) : ∀ w' ∈ w :: B, w'.before args s = true := fun w' h' => (List.mem_cons.mp h').elim (fun e => by rw [e]; exact h) (t w')
theorem vx_n {args : Array Value} {s : State} : ∀ w ∈ ([] : List Cond), w.before args s = true := fun _ h => nomatch h
theorem vx_own {args : Array Value} {s : State} {L : List Cond} (h1 : ∀ w ∈ L.filter vx_no, w.before args s = true)
    (hU : (Cond.isRef (.static Bundle.tN "UNASSIGNED_STACK" Bundle.steD)).before args s = true) (hN : (Cond.isRef (.static Bundle.tN "SUPPRESSED_SENTINEL" Bundle.listD)).before args s = true)
    (lU : (Cond.laysStatic Bundle.tN "UNASSIGNED_STACK" Bundle.steD).before args s = true) (lN : (Cond.laysStatic Bundle.tN "SUPPRESSED_SENTINEL" Bundle.listD).before args s = true) : ∀ w ∈ L, w.before args s = true := by
  intro w hw
  by_cases e1 : w = .isRef (.static Bundle.tN "UNASSIGNED_STACK" Bundle.steD)
  · rw [e1]; exact hU
  · by_cases e2 : w = .isRef (.static Bundle.tN "SUPPRESSED_SENTINEL" Bundle.listD)
    · rw [e2]; exact hN
    · by_cases e3 : w = .laysStatic Bundle.tN "UNASSIGNED_STACK" Bundle.steD
      · rw [e3]; exact lU
      · by_cases e4 : w = .laysStatic Bundle.tN "SUPPRESSED_SENTINEL" Bundle.listD
        · rw [e4]; exact lN
        · exact h1 w (List.mem_filter.mpr ⟨hw, by unfold vx_no; rw [decide_eq_true e1, decide_eq_true e2, decide_eq_true e3, decide_eq_true e4]; rfl⟩)
/-- where a static field lies, its class's statics cell in H -/
def vx_L (C n d : String) (A : Nat → Prop) (U : State) (H : Heap) : Prop := ∃ (c : ClassId) (k : Class) (i : Nat) (f : Field) (a : Nat) (cell : Cell), U.vm.findClass C = some c ∧ U.fieldFound? C n d = some (c, k, i, f) ∧ f.isStatic = true ∧ k.statics = some a ∧ H[a]? = some cell ∧ cell.vm.isStatics = true ∧ cell.cls = c ∧ f.slot < cell.slots.size ∧ k.staticTypes[f.slot]? = some f.type ∧ ¬ A a
theorem vx_L.moved {C n d : String} {A : Nat → Prop} {u U : State} {H : Heap} (hvm : u.vm.Alike U.vm) (h : vx_L C n d A u H) : vx_L C n d A U H := by
  obtain ⟨c, k, i, f, a, cell, h1, h2, h3, h4, h5, h6, h7, h8, h9, h10⟩ := h
  obtain ⟨k', hi', he⟩ := State.fieldFound?_setVm hvm h2
  exact ⟨c, k', i, f, a, cell, by rw [hvm.findClass]; exact h1, hi', h3, by rw [he]; exact h4, h5, h6, h7, h8, by rw [he]; exact h9, h10⟩
theorem vx_L.kept {C n d : String} {A : Nat → Prop} {U : State} {H H1 : Heap} (h : vx_L C n d A U H) (hq : ∀ a : Nat, a < H.size → ¬ A a → H1[a]? = H[a]?) : vx_L C n d A U H1 := by
  obtain ⟨c, k, i, f, a, cell, h1, h2, h3, h4, h5, h6, h7, h8, h9, h10⟩ := h
  exact ⟨c, k, i, f, a, cell, h1, h2, h3, h4, by rw [hq a (Array.getElem?_eq_some_iff.mp h5).1 h10]; exact h5, h6, h7, h8, h9, h10⟩
theorem vx_L.narrow {C n d : String} {A B : Nat → Prop} {U : State} {H : Heap} (h : vx_L C n d A U H) (hAB : ∀ q, B q → A q) : vx_L C n d B U H := by
  obtain ⟨c, k, i, f, a, cell, h1, h2, h3, h4, h5, h6, h7, h8, h9, h10⟩ := h
  exact ⟨c, k, i, f, a, cell, h1, h2, h3, h4, h5, h6, h7, h8, h9, fun z => h10 (hAB _ z)⟩
theorem vx_L.word {C n d : String} {A : Nat → Prop} {s : State} {args : Array Value} (h : vx_L C n d A s s.heap) : (Cond.laysStatic C n d).before args s = true := by
  obtain ⟨c, k, i, f, a, cell, h1, h2, h3, h4, h5, h6, h7, h8, h9, -⟩ := h
  show (Cond.laysStatic C n d).holds args s none s [] = true
  exact Cond.laysStatic_of h1 h2 h3 h4 h5 h6 h7 h8 h9
/-- .. and what it holds: null or some reference -/
def vx_Zq (C n d : String) (A : Nat → Prop) (U : State) (H : Heap) : Prop := va_Zq C n d A U H ∧ vx_L C n d A U H
theorem vx_Zq.moved {C n d : String} {A : Nat → Prop} {u U : State} {H : Heap} (hvm : u.vm.Alike U.vm) (h : vx_Zq C n d A u H) : vx_Zq C n d A U H := ⟨va_Zq.moved hvm h.1, vx_L.moved hvm h.2⟩
theorem vx_Zq.kept {C n d : String} {A : Nat → Prop} {U : State} {H H1 : Heap} (h : vx_Zq C n d A U H) (hq : ∀ a : Nat, a < H.size → ¬ A a → H1[a]? = H[a]?) : vx_Zq C n d A U H1 := ⟨va_Zq.kept h.1 hq, vx_L.kept h.2 hq⟩
theorem vx_Zq.narrow {C n d : String} {A B : Nat → Prop} {U : State} {H : Heap} (h : vx_Zq C n d A U H) (hAB : ∀ q, B q → A q) : vx_Zq C n d B U H := ⟨va_Zq.narrow h.1 hAB, vx_L.narrow h.2 hAB⟩
theorem vx_Zqof {args : Array Value} {s : State} {C n d : String} {A : Nat → Prop} (hl : (Cond.laysStatic C n d).before args s = true) (hini : (Cond.initialized C).before args s = true) (h : (Cond.isRef (.static C n d)).before args s = true) (hA : ∀ a : Nat, a < s.heap.size → ¬ A a) : vx_Zq C n d A s s.heap := by
  refine ⟨va_Zqof hl hini h hA, ?_⟩
  obtain ⟨c, k, i, f, a, cell, h1, h2, h3, h4, h5, h6, h7, h8, h9⟩ := Cond.laysStatic_spec hl
  exact ⟨c, k, i, f, a, cell, h1, h2, h3, h4, h5, h6, h7, h8, h9, hA a (Array.getElem?_eq_some_iff.mp h5).1⟩
theorem vx_isRef {C n d : String} {v : Value} {A : Nat → Prop} {s : State} {args : Array Value} (h : va_Z C n d v A s s.heap) (hv : v.isRef = true) : (Cond.isRef (.static C n d)).before args s = true := by
  obtain ⟨cf, kf, fi, f, a, cell, h1, h2, h3, h4, h5, h6, h7, -⟩ := h
  have he : (Term.static C n d).eval args s none [] s = some v := by
    simp [Term.eval, State.fieldNamed?, h1, h2, h4, h5, h6, h7]
  simp only [Cond.before, Cond.holds, Cond.value, he]
  cases v <;> simp_all [Value.isRef]
theorem vx_isRefq {C n d : String} {A : Nat → Prop} {s : State} {args : Array Value} (h : va_Zq C n d A s s.heap) : (Cond.isRef (.static C n d)).before args s = true := by
  rcases h with h | ⟨t, h⟩
  · exact vx_isRef h rfl
  · exact vx_isRef h rfl
/-- the same frame, seen from here: as if the method were called anew in this heap -/
theorem vx_rebase {T : State} (X : Stand p l e R s m args below meth c T locs cells slots) {R' : Room} (hf : R'.frames ≤ R.frames) (hl : R'.locals ≤ R.locals) (hc : cells + R'.cells ≤ R.cells) (hs : slots + R'.slots ≤ R.slots) :
    Stand p l e R' ((T.setVm s.vm).setFrames (.invoking m args :: below)) m args below meth c T [] 0 0 := by
  have htop : (T.setVm s.vm).topJava?.isSome := X.here.top
  have hF : ((T.setVm s.vm).setFrames (.invoking m args :: below)).frames = .invoking m args :: below := State.frames_setFrames _ (State.cur_lt_of_top htop)
  obtain ⟨g₀, hg0⟩ := Option.isSome_iff_exists.mp htop
  obtain ⟨r, hr⟩ := State.topJava?_eq_some.mp hg0
  have hl9 : e.platform.stackLimits (T.setVm s.vm).me = e.platform.stackLimits s.me := X.limits
  have hb9 : (T.setVm s.vm).me.stackBytes = s.me.stackBytes := X.bytes
  refine ⟨X.admits, X.cas, X.clock, hF, ?_, X.hears, X.method, X.code, X.here, X.tail, X.warmed, ?_, ?_, ?_⟩
  · have h := X.room
    have hU : ((T.setVm s.vm).setFrames (.invoking m args :: below)).localsInUse = s.localsInUse := by
      rw [State.localsInUse_invoking hF (meth := meth) (c := c) X.method X.code, State.localsInUse_invoking X.frames X.method X.code]
    simp only [State.hasRoom, Bool.and_eq_true, decide_eq_true_eq] at h ⊢
    obtain ⟨⟨⟨⟨h1, h2, h3, h4, h5, h6⟩, h7⟩, h8⟩, h9⟩ := h
    rw [X.frames, List.length_cons] at h2 h3
    have q1 := X.heapSize
    have q2 := X.used
    simp only [hF, hU, List.length_cons, State.stackLimits_setFrames, State.stackBytes_setFrames, hl9, hb9]
    refine ⟨⟨⟨⟨by omega, by omega, by omega, by omega, by omega, h6⟩, ?_⟩, ?_⟩, X.book⟩
    · show T.heap.size + R'.cells ≤ e.platform.maxCells
      omega
    · show T.slotsUsed + R'.slots ≤ e.platform.maxSlots
      omega
  · rw [State.stackLimits_setFrames]; rfl
  · rw [State.stackBytes_setFrames]; rfl
  · refine ⟨?_, Nat.le_refl _, Nat.le_refl _, ?_, ?_, fun a c9 h9 => ⟨c9, h9, rfl, rfl, fun _ _ => rfl⟩⟩
    · obtain ⟨t, ht, -⟩ := State.frames_cons hr
      show T.setVm s.vm = { ((T.setVm s.vm).setFrames (.invoking m args :: below)).setFrames (T.setVm s.vm).frames with heap := T.heap, slotsUsed := T.slotsUsed }
      rw [State.setFrames_setFrames, State.setFrames_self ht]
      rfl
    · show T.slotsUsed = T.slotsUsed + ((T.heap.toList.drop T.heap.size).map (·.slots.size)).sum
      rw [List.drop_eq_nil_of_le (Nat.le_of_eq Array.length_toList)]
      rfl
    · show ((T.heap.toList.drop T.heap.size).map (·.slots.size)).sum ≤ 0
      rw [List.drop_eq_nil_of_le (Nat.le_of_eq Array.length_toList)]
      exact Nat.le_refl _
/-- 'throw new E()': new; dup; invokespecial; athrow -/
theorem vx_throw0 {cc : ByteArray} {pc : Nat} (hexec : p.tables.exec = Jvm.exec) (hb : c.code = cc) (hl : l.stackTraces = false) {own cls : String} {names : List String} {ik ic mc ms : Nat} {A : Nat → Prop}
    (hown : s.vm.findClass own = some m.cls) (hcls : Bundle.fit cls = true) (hnames : ∀ n ∈ names, Bundle.fit n = true)
    (hk : (Cond.classLink own ik cls).before args s = true) (hini : (Cond.initialized cls).before args s = true) (hat : ∀ w ∈ vx_at0 own ic cls names, w.before args s = true)
    (hgood : ∀ w ∈ Cond.classLink own ik cls :: Cond.initialized cls :: vx_at0 own ic cls names, vx_ot w = true)
    (hU : vx_Zq Bundle.tN "UNASSIGNED_STACK" Bundle.steD A s s.heap) (hN : vx_Zq Bundle.tN "SUPPRESSED_SENTINEL" Bundle.listD A s s.heap) (hS : va_S A s.heap H locs) (hsize : ls.size = c.maxLocals)
    (d0 : decode cc pc = .ok (.new ik, 3)) (d3 : decode cc (pc + 3) = .ok (.dup, 1)) (d4 : decode cc (pc + 4) = .ok (.invokespecial ic, 3)) (d7 : decode cc (pc + 7) = .ok (.athrow, 1))
    (hout : ∀ x ∈ c.exceptionTable.toList, covers x (pc + 7) = false)
    (hRframes : names.length + 3 < R.frames) (hRlocals : (rest.map fun v => v.category).sum + (13 * (names.length + 1) + 42) ≤ R.locals) (hRcells : cells + 1 ≤ R.cells) (hRslots : slots + 6 ≤ R.slots) (hlocks : meth.locks = false)
    (hx : ∀ t : State, s.vm.Alike t.vm → H.size ≤ t.heap.size → (∀ q : Nat, q < H.size → t.heap[q]? = H[q]?) → XC cls s t)
    (hf : ∀ z ∈ locs, free z.base) (hc : cells + 1 ≤ mc) (hs : slots + 6 ≤ ms) :
    W p l e R s m args below meth c H locs cells slots (vx_MQ below Qc XC args s mc ms free) (F0 m pc ls rest) := by
  intro T hT X
  have htr : e.platform.stackTraces = false := (show e.platform.stackTraces = l.stackTraces by rw [X.admits.platform]).trans hl
  have Y := vx_rebase X (R' := { frames := R.frames, locals := R.locals, cells := 1, slots := 6 }) (Nat.le_refl _) (Nat.le_refl _) hRcells hRslots
  obtain ⟨s', hA⟩ : ∃ z, z = (T.setVm s.vm).setFrames (.invoking m args :: below) := ⟨_, rfl⟩
  rw [← hA] at Y
  have hvm : s'.vm = s.vm := by rw [hA]; rfl
  have hhp : s'.heap = H := by rw [hA]; exact hT
  have hW0 : s.WarmedH s'.vm := by rw [hvm]; exact State.WarmedH.refl s
  have hat' : ∀ w ∈ vx_at0 own ic cls names, w.before args s' = true := fun w hw => vx_ot_at hW0 hvm.symm (hgood w (List.mem_cons_of_mem _ (List.mem_cons_of_mem _ hw))) (hat w hw)
  have hk' : (Cond.classLink own ik cls).before args s' = true := vx_ot_at hW0 hvm.symm (hgood _ List.mem_cons_self) hk
  have hini' : (Cond.initialized cls).before args s' = true := vx_ot_at hW0 hvm.symm (hgood _ (List.mem_cons_of_mem _ List.mem_cons_self)) hini
  have hU' : vx_Zq Bundle.tN "UNASSIGNED_STACK" Bundle.steD A s' s'.heap := by rw [hhp]; exact vx_Zq.moved hW0.alike (hU.kept hS.2.1)
  have hN' : vx_Zq Bundle.tN "SUPPRESSED_SENTINEL" Bundle.listD A s' s'.heap := by rw [hhp]; exact vx_Zq.moved hW0.alike (hN.kept hS.2.1)
  have h : ∀ w ∈ Bundle.ownAtoms0 own ic cls names, w.before args s' = true := vx_own hat' (vx_isRefq hU'.1) (vx_isRefq hN'.1) hU'.2.word hN'.2.word
  have hown' : s'.vm.findClass own = some m.cls := by rw [hvm]; exact hown
  have hins : (Cond.instantiable cls 6).before args s' = true := h _ (by simp [Bundle.ownAtoms0])
  obtain ⟨vm₁, cX, kX, hfX, hkX, -, -, X₁, st1⟩ := Y.newCold hexec (own := own) (C := cls) (index := ik) (n := 6) hown' hk' hins hini'
    (g := F0 m pc ls rest) rfl (by rw [hb]; exact d0) (Nat.le_refl _) (Nat.le_refl _)
  generalize hT1 : (T.setVm vm₁).pushCell { cls := cX, slots := kX.instanceTypes.map defaultValue, vm := .none } = T1 at X₁ st1
  have hcat : (Value.ref T.heap.size).category = 1 := rfl
  have hcellA : T1.heap[T.heap.size]? = some (freshCell cX kX) := by rw [← hT1]; exact State.heap_pushCell_size _ _
  have d3' : decode c.code (pc + 3) = .ok (.dup, 1) := by rw [hb]; exact d3
  obtain ⟨U, hsteps, hrun, hend, hW, hsame, ce, hce, hO⟩ := X₁.ctorThrow0 hexec htr (own := own) (cls := cls) (names := names) (ic := ic) hown' hcls hnames h (fun x hx => nomatch hx) hfX hkX hcellA (by rw [hhp, hT]; exact Nat.le_refl _)
    (g := { method := m, pc := pc + 4, locals := ls, stack := .ref T.heap.size :: .ref T.heap.size :: rest, locked := none }) rfl hsize rfl rfl (rest := rest) rfl
    (by rw [hb]; exact d4) (by rw [hb]; exact d7) hout hRframes (by simp only [List.map_cons, List.sum_cons, hcat]; omega) hlocks
  obtain ⟨f1, f2⟩ := vx_frame hsame
  rw [hhp] at f1 f2
  have hWs : s.WarmedH U.vm := State.WarmedH.trans hW0 hW
  have hcl : s.vm.findClass cls = some ce.cls := by
    have h9 := hO.cls
    rw [hvm] at h9
    exact h9
  have hall : s.sameButNew ({ U with vm := s.vm } : State) locs mc ms := by
    subst hA
    obtain ⟨e1, e2⟩ := hsame
    rw [State.setFrames_setFrames] at e1
    have h2 : (T.setVm s.vm).sameButNew ({ U with vm := s.vm } : State) [] (0 + 1) (0 + 6) := ⟨e1, e2⟩
    have h3 := X.same.trans h2
    rw [List.append_nil] at h3
    exact h3.mono hc hs
  refine ⟨U, ?_, .threw T.heap.size, hrun, hend, Or.inr ⟨T.heap.size, rfl, cls, ce, locs, hx U hWs.alike f1 (fun q hq => f2 q hq (fun z hz => nomatch hz)), hce, hO.vm, hcl, hWs, hall, hf⟩⟩
  refine st1 _ ?_
  show Steps p.tables e below (T1.setTop { method := m, pc := pc + 3, locals := ls, stack := .ref T.heap.size :: rest, locked := none }) _
  jvm_step X₁.here [X₁.here.top, hexec, d3', Value.category]
  exact hsteps
/-- 'throw new E("text")': new; dup; ldc; invokespecial; athrow -/
theorem vx_throwS {cc : ByteArray} {pc : Nat} (hexec : p.tables.exec = Jvm.exec) (hb : c.code = cc) (hl : l.stackTraces = false) {own cls text : String} {names : List String} {ik is ic mc ms sa : Nat} {A : Nat → Prop}
    (hown : s.vm.findClass own = some m.cls) (hcls : Bundle.fit cls = true) (hnames : ∀ n ∈ names, Bundle.fit n = true)
    (hk : (Cond.classLink own ik cls).before args s = true) (hini : (Cond.initialized cls).before args s = true) (hstr : vk_R own is text sa s) (hat : ∀ w ∈ vx_atS own ic cls names, w.before args s = true)
    (hgood : ∀ w ∈ Cond.classLink own ik cls :: Cond.initialized cls :: vx_atS own ic cls names, vx_ot w = true)
    (hU : vx_Zq Bundle.tN "UNASSIGNED_STACK" Bundle.steD A s s.heap) (hN : vx_Zq Bundle.tN "SUPPRESSED_SENTINEL" Bundle.listD A s s.heap) (hS : va_S A s.heap H locs) (hsize : ls.size = c.maxLocals)
    (d0 : decode cc pc = .ok (.new ik, 3)) (d3 : decode cc (pc + 3) = .ok (.dup, 1)) (d4 : decode cc (pc + 4) = .ok (.ldc is, 2)) (d6 : decode cc (pc + 6) = .ok (.invokespecial ic, 3)) (d9 : decode cc (pc + 9) = .ok (.athrow, 1))
    (hout : ∀ x ∈ c.exceptionTable.toList, covers x (pc + 9) = false)
    (hRframes : names.length + 3 < R.frames) (hRlocals : (rest.map fun v => v.category).sum + (13 * (names.length + 1) + 43) ≤ R.locals) (hRcells : cells + 1 ≤ R.cells) (hRslots : slots + 6 ≤ R.slots) (hlocks : meth.locks = false)
    (hx : ∀ t : State, s.vm.Alike t.vm → H.size ≤ t.heap.size → (∀ q : Nat, q < H.size → t.heap[q]? = H[q]?) → XC cls s t)
    (hf : ∀ z ∈ locs, free z.base) (hc : cells + 1 ≤ mc) (hs : slots + 6 ≤ ms) :
    W p l e R s m args below meth c H locs cells slots (vx_MQ below Qc XC args s mc ms free) (F0 m pc ls rest) := by
  intro T hT X
  have htr : e.platform.stackTraces = false := (show e.platform.stackTraces = l.stackTraces by rw [X.admits.platform]).trans hl
  have Y := vx_rebase X (R' := { frames := R.frames, locals := R.locals, cells := 1, slots := 6 }) (Nat.le_refl _) (Nat.le_refl _) hRcells hRslots
  obtain ⟨s', hA⟩ : ∃ z, z = (T.setVm s.vm).setFrames (.invoking m args :: below) := ⟨_, rfl⟩
  rw [← hA] at Y
  have hvm : s'.vm = s.vm := by rw [hA]; rfl
  have hhp : s'.heap = H := by rw [hA]; exact hT
  have hW0 : s.WarmedH s'.vm := by rw [hvm]; exact State.WarmedH.refl s
  have hat' : ∀ w ∈ vx_atS own ic cls names, w.before args s' = true := fun w hw => vx_ot_at hW0 hvm.symm (hgood w (List.mem_cons_of_mem _ (List.mem_cons_of_mem _ hw))) (hat w hw)
  have hk' : (Cond.classLink own ik cls).before args s' = true := vx_ot_at hW0 hvm.symm (hgood _ List.mem_cons_self) hk
  have hini' : (Cond.initialized cls).before args s' = true := vx_ot_at hW0 hvm.symm (hgood _ (List.mem_cons_of_mem _ List.mem_cons_self)) hini
  have hU' : vx_Zq Bundle.tN "UNASSIGNED_STACK" Bundle.steD A s' s'.heap := by rw [hhp]; exact vx_Zq.moved hW0.alike (hU.kept hS.2.1)
  have hN' : vx_Zq Bundle.tN "SUPPRESSED_SENTINEL" Bundle.listD A s' s'.heap := by rw [hhp]; exact vx_Zq.moved hW0.alike (hN.kept hS.2.1)
  have h : ∀ w ∈ Bundle.ownAtoms own ic cls names, w.before args s' = true := vx_own hat' (vx_isRefq hU'.1) (vx_isRefq hN'.1) hU'.2.word hN'.2.word
  have hown' : s'.vm.findClass own = some m.cls := by rw [hvm]; exact hown
  have hins : (Cond.instantiable cls 6).before args s' = true := h _ (by simp [Bundle.ownAtoms])
  obtain ⟨vm₁, cX, kX, hfX, hkX, -, -, X₁, st1⟩ := Y.newCold hexec (own := own) (C := cls) (index := ik) (n := 6) hown' hk' hins hini'
    (g := F0 m pc ls rest) rfl (by rw [hb]; exact d0) (Nat.le_refl _) (Nat.le_refl _)
  generalize hT1 : (T.setVm vm₁).pushCell { cls := cX, slots := kX.instanceTypes.map defaultValue, vm := .none } = T1 at X₁ st1
  have hcat : (Value.ref T.heap.size).category = 1 := rfl
  have hcellA : T1.heap[T.heap.size]? = some (freshCell cX kX) := by rw [← hT1]; exact State.heap_pushCell_size _ _
  have d3' : decode c.code (pc + 3) = .ok (.dup, 1) := by rw [hb]; exact d3
  have d4' : decode c.code (pc + 4) = .ok (.ldc is, 2) := by rw [hb]; exact d4
  have hstr' : vk_R own is text sa s' := vk_R.warm hW0 hstr
  obtain ⟨U, hsteps, hrun, hend, hW, hsame, ce, hce, hO⟩ := X₁.ctorThrowS hexec htr (own := own) (cls := cls) (names := names) (ic := ic) hown' hcls hnames h (fun x hx => nomatch hx) hfX hkX hcellA (by rw [hhp, hT]; exact Nat.le_refl _) (msg := .ref sa) rfl
    (g := { method := m, pc := pc + 6, locals := ls, stack := .ref sa :: .ref T.heap.size :: .ref T.heap.size :: rest, locked := none }) rfl hsize rfl rfl (rest := rest) rfl
    (by rw [hb]; exact d6) (by rw [hb]; exact d9) hout hRframes (by simp only [List.map_cons, List.sum_cons, hcat]; omega) hlocks
  obtain ⟨f1, f2⟩ := vx_frame hsame
  rw [hhp] at f1 f2
  have hWs : s.WarmedH U.vm := State.WarmedH.trans hW0 hW
  have hcl : s.vm.findClass cls = some ce.cls := by
    have h9 := hO.cls
    rw [hvm] at h9
    exact h9
  have hall : s.sameButNew ({ U with vm := s.vm } : State) locs mc ms := by
    subst hA
    obtain ⟨e1, e2⟩ := hsame
    rw [State.setFrames_setFrames] at e1
    have h2 : (T.setVm s.vm).sameButNew ({ U with vm := s.vm } : State) [] (0 + 1) (0 + 6) := ⟨e1, e2⟩
    have h3 := X.same.trans h2
    rw [List.append_nil] at h3
    exact h3.mono hc hs
  refine ⟨U, ?_, .threw T.heap.size, hrun, hend, Or.inr ⟨T.heap.size, rfl, cls, ce, locs, hx U hWs.alike f1 (fun q hq => f2 q hq (fun z hz => nomatch hz)), hce, hO.vm, hcl, hWs, hall, hf⟩⟩
  refine st1 _ ?_
  show Steps p.tables e below (T1.setTop { method := m, pc := pc + 3, locals := ls, stack := .ref T.heap.size :: rest, locked := none }) _
  jvm_step X₁.here [X₁.here.top, hexec, d3', Value.category]
  exact X₁.ldcString hexec (own := own) (text := text) (index := is) (a := sa) hown' hstr'.1 hstr'.2
    (g := { method := m, pc := pc + 4, locals := ls, stack := .ref T.heap.size :: .ref T.heap.size :: rest, locked := none }) rfl d4' _ hsteps
/-- 'throw new E("text")', the text by a wide index -/
theorem vx_throwSW {cc : ByteArray} {pc : Nat} (hexec : p.tables.exec = Jvm.exec) (hb : c.code = cc) (hl : l.stackTraces = false) {own cls text : String} {names : List String} {ik is ic mc ms sa : Nat} {A : Nat → Prop}
    (hown : s.vm.findClass own = some m.cls) (hcls : Bundle.fit cls = true) (hnames : ∀ n ∈ names, Bundle.fit n = true)
    (hk : (Cond.classLink own ik cls).before args s = true) (hini : (Cond.initialized cls).before args s = true) (hstr : vk_R own is text sa s) (hat : ∀ w ∈ vx_atS own ic cls names, w.before args s = true)
    (hgood : ∀ w ∈ Cond.classLink own ik cls :: Cond.initialized cls :: vx_atS own ic cls names, vx_ot w = true)
    (hU : vx_Zq Bundle.tN "UNASSIGNED_STACK" Bundle.steD A s s.heap) (hN : vx_Zq Bundle.tN "SUPPRESSED_SENTINEL" Bundle.listD A s s.heap) (hS : va_S A s.heap H locs) (hsize : ls.size = c.maxLocals)
    (d0 : decode cc pc = .ok (.new ik, 3)) (d3 : decode cc (pc + 3) = .ok (.dup, 1)) (d4 : decode cc (pc + 4) = .ok (.ldc_w is, 3)) (d7 : decode cc (pc + 7) = .ok (.invokespecial ic, 3)) (d10 : decode cc (pc + 10) = .ok (.athrow, 1))
    (hout : ∀ x ∈ c.exceptionTable.toList, covers x (pc + 10) = false)
    (hRframes : names.length + 3 < R.frames) (hRlocals : (rest.map fun v => v.category).sum + (13 * (names.length + 1) + 43) ≤ R.locals) (hRcells : cells + 1 ≤ R.cells) (hRslots : slots + 6 ≤ R.slots) (hlocks : meth.locks = false)
    (hx : ∀ t : State, s.vm.Alike t.vm → H.size ≤ t.heap.size → (∀ q : Nat, q < H.size → t.heap[q]? = H[q]?) → XC cls s t)
    (hf : ∀ z ∈ locs, free z.base) (hc : cells + 1 ≤ mc) (hs : slots + 6 ≤ ms) :
    W p l e R s m args below meth c H locs cells slots (vx_MQ below Qc XC args s mc ms free) (F0 m pc ls rest) := by
  intro T hT X
  have htr : e.platform.stackTraces = false := (show e.platform.stackTraces = l.stackTraces by rw [X.admits.platform]).trans hl
  have Y := vx_rebase X (R' := { frames := R.frames, locals := R.locals, cells := 1, slots := 6 }) (Nat.le_refl _) (Nat.le_refl _) hRcells hRslots
  obtain ⟨s', hA⟩ : ∃ z, z = (T.setVm s.vm).setFrames (.invoking m args :: below) := ⟨_, rfl⟩
  rw [← hA] at Y
  have hvm : s'.vm = s.vm := by rw [hA]; rfl
  have hhp : s'.heap = H := by rw [hA]; exact hT
  have hW0 : s.WarmedH s'.vm := by rw [hvm]; exact State.WarmedH.refl s
  have hat' : ∀ w ∈ vx_atS own ic cls names, w.before args s' = true := fun w hw => vx_ot_at hW0 hvm.symm (hgood w (List.mem_cons_of_mem _ (List.mem_cons_of_mem _ hw))) (hat w hw)
  have hk' : (Cond.classLink own ik cls).before args s' = true := vx_ot_at hW0 hvm.symm (hgood _ List.mem_cons_self) hk
  have hini' : (Cond.initialized cls).before args s' = true := vx_ot_at hW0 hvm.symm (hgood _ (List.mem_cons_of_mem _ List.mem_cons_self)) hini
  have hU' : vx_Zq Bundle.tN "UNASSIGNED_STACK" Bundle.steD A s' s'.heap := by rw [hhp]; exact vx_Zq.moved hW0.alike (hU.kept hS.2.1)
  have hN' : vx_Zq Bundle.tN "SUPPRESSED_SENTINEL" Bundle.listD A s' s'.heap := by rw [hhp]; exact vx_Zq.moved hW0.alike (hN.kept hS.2.1)
  have h : ∀ w ∈ Bundle.ownAtoms own ic cls names, w.before args s' = true := vx_own hat' (vx_isRefq hU'.1) (vx_isRefq hN'.1) hU'.2.word hN'.2.word
  have hown' : s'.vm.findClass own = some m.cls := by rw [hvm]; exact hown
  have hins : (Cond.instantiable cls 6).before args s' = true := h _ (by simp [Bundle.ownAtoms])
  obtain ⟨vm₁, cX, kX, hfX, hkX, -, -, X₁, st1⟩ := Y.newCold hexec (own := own) (C := cls) (index := ik) (n := 6) hown' hk' hins hini'
    (g := F0 m pc ls rest) rfl (by rw [hb]; exact d0) (Nat.le_refl _) (Nat.le_refl _)
  generalize hT1 : (T.setVm vm₁).pushCell { cls := cX, slots := kX.instanceTypes.map defaultValue, vm := .none } = T1 at X₁ st1
  have hcat : (Value.ref T.heap.size).category = 1 := rfl
  have hcellA : T1.heap[T.heap.size]? = some (freshCell cX kX) := by rw [← hT1]; exact State.heap_pushCell_size _ _
  have d3' : decode c.code (pc + 3) = .ok (.dup, 1) := by rw [hb]; exact d3
  have d4' : decode c.code (pc + 4) = .ok (.ldc_w is, 3) := by rw [hb]; exact d4
  have hstr' : vk_R own is text sa s' := vk_R.warm hW0 hstr
  obtain ⟨U, hsteps, hrun, hend, hW, hsame, ce, hce, hO⟩ := X₁.ctorThrowS hexec htr (own := own) (cls := cls) (names := names) (ic := ic) hown' hcls hnames h (fun x hx => nomatch hx) hfX hkX hcellA (by rw [hhp, hT]; exact Nat.le_refl _) (msg := .ref sa) rfl
    (g := { method := m, pc := pc + 7, locals := ls, stack := .ref sa :: .ref T.heap.size :: .ref T.heap.size :: rest, locked := none }) rfl hsize rfl rfl (rest := rest) rfl
    (by rw [hb]; exact d7) (by rw [hb]; exact d10) hout hRframes (by simp only [List.map_cons, List.sum_cons, hcat]; omega) hlocks
  obtain ⟨f1, f2⟩ := vx_frame hsame
  rw [hhp] at f1 f2
  have hWs : s.WarmedH U.vm := State.WarmedH.trans hW0 hW
  have hcl : s.vm.findClass cls = some ce.cls := by
    have h9 := hO.cls
    rw [hvm] at h9
    exact h9
  have hall : s.sameButNew ({ U with vm := s.vm } : State) locs mc ms := by
    subst hA
    obtain ⟨e1, e2⟩ := hsame
    rw [State.setFrames_setFrames] at e1
    have h2 : (T.setVm s.vm).sameButNew ({ U with vm := s.vm } : State) [] (0 + 1) (0 + 6) := ⟨e1, e2⟩
    have h3 := X.same.trans h2
    rw [List.append_nil] at h3
    exact h3.mono hc hs
  refine ⟨U, ?_, .threw T.heap.size, hrun, hend, Or.inr ⟨T.heap.size, rfl, cls, ce, locs, hx U hWs.alike f1 (fun q hq => f2 q hq (fun z hz => nomatch hz)), hce, hO.vm, hcl, hWs, hall, hf⟩⟩
  refine st1 _ ?_
  show Steps p.tables e below (T1.setTop { method := m, pc := pc + 3, locals := ls, stack := .ref T.heap.size :: rest, locked := none }) _
  jvm_step X₁.here [X₁.here.top, hexec, d3', Value.category]
  exact X₁.ldcStringW hexec (own := own) (text := text) (index := is) (a := sa) hown' hstr'.1 hstr'.2
    (g := { method := m, pc := pc + 4, locals := ls, stack := .ref T.heap.size :: .ref T.heap.size :: rest, locked := none }) rfl d4' _ hsteps
end Ends
section Bodies
variable {l : Launch}
theorem vx_ofW {y : MethodName} {ws ws' : List Cond} {rm : Room} {Pc : Array Value → State → Prop} {Qc : Array Value → State → Outcome → State → Prop} {XC : String → State → State → Prop} {mc ms : Nat} {free : Addr → Prop} {cc : ByteArray} {maxL : Nat} {ret : Option FieldType}
    (hy : plainName y.cls = true) (hw : ws = Cond.code y cc maxL ret :: ws')
    (body : ∀ p e s m args below meth c s₁, BodyLoose p l y (headSpec ws rm) cc maxL ret e s m args below meth c s₁ → c.maxLocals = maxL → (∀ x ∈ c.exceptionTable.toList, False) → Pc args s →
      W p l e (headSpec ws rm).room s m args below meth c s.heap [] 0 0 (vx_MQ below Qc XC args s mc ms free) (entryFrame m args maxL)) : vx_Met l y ws rm Pc Qc XC mc ms free := by
  refine MetFree.of_bodyS (code := cc) (maxLocals := maxL) (ret := ret) hy ?_ ?_
  · intro args s m h hn
    obtain ⟨meth, c, h1, h2, h3, h4, h5, h6, -, -⟩ := Cond.code_spec hn (atoms_spec (ws := ws) h _ (by rw [hw]; exact List.mem_cons_self))
    exact ⟨meth, c, h1, h2, h3, h4, h5, h6⟩
  · intro p e s m args below meth c s₁ B hml hP _
    have hh0 : s₁.heap = s.heap := by rw [B.state]; rfl
    have ht : ∀ x ∈ c.exceptionTable.toList, False := by
      obtain ⟨meth9, c9, h1, h2, -, -, -, -, h7, -⟩ := Cond.code_spec B.named (atoms_spec (ws := ws) B.pre _ (by rw [hw]; exact List.mem_cons_self))
      cases Option.some.inj (h1.symm.trans B.method)
      cases Option.some.inj (h2.symm.trans (Stand.of_body B).code)
      intro x hx
      rw [Array.isEmpty_iff.mp h7] at hx
      cases hx
    obtain ⟨t, a1, o, b1, b2, b3⟩ := body p e s m args below meth c s₁ B hml ht hP s₁ hh0 (Stand.of_body B)
    exact ⟨t, o, a1, b1, b2, b3⟩
/-- the table of a body with handlers -/
theorem vx_table {p : Program} {x y : MethodName} {S : Spec} {cc bytes : ByteArray} {maxL maxL' : Nat} {ret ret' : Option FieldType} {e : Env} {s s₁ : State} {m : MethodId} {args : Array Value} {below : List Frame} {meth : Method} {c : Code} {hh : List (Nat × Nat × Nat × Nat)}
    (B : BodyLoose p l y S cc maxL ret e s m args below meth c s₁) (h : (Cond.codeWith y bytes maxL' ret' hh).before args s = true) : c.exceptionTable.toList = tableOf hh := by
  obtain ⟨m9, meth9, c9, hn9, h1, h2, -, -, h6, -⟩ := Cond.codeWith_spec h
  cases Option.some.inj (hn9.symm.trans B.named)
  cases Option.some.inj (h1.symm.trans B.method)
  cases Option.some.inj (h2.symm.trans (Stand.of_body B).code)
  rw [← h6, table_eq]
end Bodies
end VXA
/-! ===== END ===== -/
/-! ===== BEGIN a static call of a method with an exception table ===== -/
section VXS
variable {p : Program} {l : Launch} {e : Env} {R : Room} {s : State} {m : MethodId} {args : Array Value} {below : List Frame} {meth : Method} {c : Code} {T : State} {H : Heap} {locs : List Loc} {cells slots : Nat}
abbrev vx_CSW (R : Room) (s : State) (args : Array Value) (own : String) (index : Nat) (y : MethodName) (bytes : ByteArray) (maxL : Nat) (ret : Option FieldType) (hh : List (Nat × Nat × Nat × Nat)) (ws : List Cond) (rm : Room) (mc ms n : Nat) : Prop :=
  (rm.cells = mc ∧ rm.slots = ms ∧ rm.frames + 1 ≤ R.frames ∧ 8 + (maxL + 11) + rm.locals ≤ R.locals ∧ (∀ w ∈ ws, ∀ (a' : Array Value) (U : State), s.WarmedH U.vm → w.before a' U = true) ∧ Cond.codeWith y bytes maxL ret hh ∈ ws) ∧
  (Cond.codeWith y bytes maxL ret hh).before args s = true ∧ (Cond.initialized y.cls).before args s = true ∧ (y.cls ≠ "java/lang/invoke/MethodHandle" ∧ y.cls ≠ "java/lang/invoke/VarHandle") ∧
  (∀ sig, parseMethodDescriptor y.desc = some sig → n = sig.parameters.length) ∧ (Cond.methodLink own index y).before args s = true ∧ (Cond.static y).before args s = true
theorem vx_cwSW {own : String} {index maxL mc ms : Nat} {y : MethodName} {bytes : ByteArray} {ret : Option FieldType} {hh : List (Nat × Nat × Nat × Nat)} {Ts ws ws' : List Cond} {rm : Room} (n : Nat) (ht : ∀ w ∈ Ts, w.before args s = true) (hT : GoodIn Ts (va_wsS own index y ws)) (hw : ws = Cond.codeWith y bytes maxL ret hh :: ws') (hrc : rm.cells = mc) (hrs : rm.slots = ms)
    (hd : y.cls ≠ "java/lang/invoke/MethodHandle" ∧ y.cls ≠ "java/lang/invoke/VarHandle" ∧ (parseMethodDescriptor y.desc).map (fun d => d.parameters.length) = some n) (hR : rm.frames + 1 ≤ R.frames ∧ 8 + (maxL + 11) + rm.locals ≤ R.locals) :
    vx_CSW R s args own index y bytes maxL ret hh ws rm mc ms n := by
  have ok : ∀ w ∈ va_wsS own index y ws, w.before args s = true := fun w h => ht w (hT w h).1
  have hG : GoodIn Ts ws := fun w h => hT w (by unfold va_wsS; exact List.mem_append_right _ h)
  have hc : Cond.codeWith y bytes maxL ret hh ∈ ws := by rw [hw]; exact List.mem_cons_self
  refine ⟨⟨hrc, hrs, hR.1, hR.2, pay_in ht hG, hc⟩, ht _ (hG _ hc).1, ok _ (by simp [va_wsS]), ⟨hd.1, hd.2.1⟩, fun sig h => ?_, ok _ (by simp [va_wsS]), ok _ (by simp [va_wsS])⟩
  have h2 := hd.2.2
  rw [h] at h2
  exact (Option.some.inj h2).symm
theorem vx_callSW (X : Stand p l e R s m args below meth c T locs cells slots) (hexec : p.tables.exec = Jvm.exec) {own : String} {index : Nat} {y : MethodName} {bytes : ByteArray} {maxL : Nat} {ret : Option FieldType} {hh : List (Nat × Nat × Nat × Nat)}
    (hown : s.vm.findClass own = some m.cls) (hlink : (Cond.methodLink own index y).before args s = true) (hstat : (Cond.static y).before args s = true) (hinit : (Cond.initialized y.cls).before args s = true)
    (hcode : (Cond.codeWith y bytes maxL ret hh).before args s = true) (hy : y.cls ≠ "java/lang/invoke/MethodHandle" ∧ y.cls ≠ "java/lang/invoke/VarHandle")
    {W9 : Nat} {Pre : Pt → Array Value → Prop} {Post : Pt → Array Value → Option Value → Pt → Prop} (hK : Back l R p e below s args y 3 W9 Pre Post)
    {g : JFrame} (hg : g.method = m) (hsize : g.locals.size = c.maxLocals) {argsL rest : List Value} (hlen : ∀ sig, parseMethodDescriptor y.desc = some sig → argsL.length = sig.parameters.length)
    (hstack : g.stack = argsL.reverse ++ rest) (hW : 2 * g.monitorRoom + (rest.map fun v => v.category).sum ≤ W9) (hdg : decode c.code g.pc = .ok (.invokestatic index, 3))
    (hpre : ∀ vm₁, s.WarmedH vm₁ → Pre ⟨T.setVm vm₁, locs, cells, slots⟩ argsL.toArray) :
    ∃ (v : Option Value) (vm₁ : Vm) (B : Pt), s.WarmedH vm₁ ∧ Stand p l e R s m args below meth c B.U B.locs B.cells B.slots ∧ Post ⟨T.setVm vm₁, locs, cells, slots⟩ argsL.toArray v B ∧
      ∀ target, Steps p.tables e below (B.U.setTop { g with pc := g.pc + 3, stack := v.toList ++ rest }) target → Steps p.tables e below (T.setTop g) target := by
  obtain ⟨mk, methM, cM, hnamed, hmethM, -, -, -, -, -, -, hsigM⟩ := Cond.codeWith_spec hcode
  have hstatic : methM.isStatic = true := Cond.static_spec hnamed hmethM hstat
  obtain ⟨kP, hkP, -⟩ := className_of_methodNamed hnamed
  have hinitP : kP.init = .initialized := Cond.initialized_spec (findClass_of_methodNamed hnamed) hkP hinit
  obtain ⟨vm₁, X₁, hstep₁⟩ := X.invokestatic hexec hown hlink hnamed hmethM hstatic hkP hinitP hy (g := g) hg (argsL := argsL) (rest := rest) (hlen _ hsigM) hstack hdg
  obtain ⟨v, B, X', hpost, hsteps⟩ := hK m meth c ⟨T.setVm vm₁, locs, cells, slots⟩ { g with stack := rest } (.invokestatic index) mk argsL.toArray X₁ hg hsize hdg hW (X₁.named hnamed) (hpre vm₁ X₁.warmed)
  exact ⟨v, vm₁, B, X₁.warmed, X', hpost, fun target h => hstep₁ _ fun acts => by rw [doInvoke_state]; exact hsteps.trans h⟩
theorem vx_runSW {y : MethodName} {bytes cc : ByteArray} {maxL nL mc ms n index : Nat} {ret : Option FieldType} {hh : List (Nat × Nat × Nat × Nat)} {ws : List Cond} {rm : Room} {Pc : Array Value → State → Prop} {Qc : Array Value → State → Outcome → State → Prop} {free : Addr → Prop} {Ts : List Cond} {own : String} {As rest : List Value} {g : JFrame}
    (S : CallFix p m c cc nL s args Ts own) (hM : Met l y ws rm Pc Qc mc ms free) (cw : vx_CSW R s args own index y bytes maxL ret hh ws rm mc ms n) (hp : PreS s H Pc As)
    (hg : g.method = m) (hn : As.length = n) (hsize : g.locals.size = nL) (hstack : g.stack = As.reverse ++ rest) (hW : 2 * g.monitorRoom + (rest.map fun v => v.category).sum ≤ 8) (hdg : decode cc g.pc = .ok (.invokestatic index, 3)) (hf : cells + mc ≤ R.cells ∧ slots + ms ≤ R.slots) :
    va_Run p l e R s m args below meth c H locs cells slots mc ms g rest (Qc As.toArray) (free) := by
  obtain ⟨⟨hrc, hrs, hfr, hlo, hws, hcw⟩, hcode, hini, hy, hlen, hl, hstt⟩ := cw
  have hK : Back l R p e below s args y 3 8 (PreOf R mc ms Pc) (PostOf Qc mc ms free) := va_backW (hh := hh) (bytes := bytes) (maxL := maxL) (ret := ret) hM hp.1 hrc hrs hfr hlo hws hcw (fun a' U hW => word_at hW (Or.inl (by first | rfl | simp [Cond.onTables, Cond.keeps, Cond.steady])) hini)
  obtain ⟨hx, hb, hml, ho, -⟩ := S
  intro T hT X
  obtain ⟨v, vm₁, ⟨U', l2, c2, s2⟩, hW₁, X', ⟨g', mk, t, L, e1, e2, hq, h1, hL, h2, h3⟩, st⟩ := vx_callSW X hx (hh := hh) (bytes := bytes) (maxL := maxL) (ret := ret) ho hl hstt hini hcode hy hK hg (hsize.trans hml.symm) (argsL := As) (rest := rest) (fun sig h => hn.trans (hlen sig h)) hstack hW (by rw [hb]; exact hdg)
    (fun vm₁ hW₁ => ⟨hf.1, hf.2, hp.2 (T.setVm vm₁) hT hW₁⟩)
  dsimp only [Pt.U, Pt.locs, Pt.cells, Pt.slots] at X' e1 e2 h1 h2 h3 st
  subst h1; subst h2; subst h3
  exact ⟨v, (T.setVm vm₁).calling g' mk As.toArray, t, U', L, hT, X', hL, e1, e2, hq, st⟩
/-- not caught here, past rows that name other classes: it goes on to the caller -/
theorem vx_outP {p : Program} {l : Launch} {e : Env} {R : Room} {s : State} {m : MethodId} {args : Array Value} {below : List Frame} {meth : Method} {c : Code} {H : Heap} {locs : List Loc} {cells slots : Nat} {free : Addr → Prop} {ls : Array Slot} {rest : List Value} {Qc : Array Value → State → Outcome → State → Prop} {XC : String → State → State → Prop}
    {pc : Nat} {own E : String} {ce : Cell} {q : Addr} {mc ms : Nat} (hown : s.vm.findClass own = some m.cls) (hlocks : meth.locks = false)
    (hpass : ∀ z ∈ c.exceptionTable.toList, covers z pc = false ∨ (z.catchType ≠ 0 ∧ ∃ nm : String, (Cond.classLink own z.catchType nm).before args s = true ∧ va_Nc E nm s)) (hcell : H[q]? = some ce) (hv : ce.vm = .none) (hcl : s.vm.findClass E = some ce.cls)
    (hx : ∀ t : State, t.heap = H → s.vm.Alike t.vm → XC E s t) (hf : ∀ z ∈ locs, free z.base) (hc : cells ≤ mc) (hs : slots ≤ ms) :
    vx_W p l e R s m args below meth c H locs cells slots (vx_MQ below Qc XC args s mc ms free) (F0 m pc ls rest) q := by
  intro T hT X
  have hpl : e.platform.magicAccessors = ({} : Platform).magicAccessors := by rw [X.admits.platform]
  obtain ⟨vm', hW', X', st⟩ := X.outThrough hlocks q (g := F0 m pc ls rest) rfl rfl rfl (cell := ce) (by rw [hT]; exact hcell) (by rw [hv]; rfl)
    (by obtain ⟨k9, h9, -⟩ := Vm.findClass_spec hcl; exact ⟨k9, h9⟩) (fun z hz => by
      rcases hpass z hz with h | ⟨hz0, nm, hl1, hn1⟩
      · exact Or.inl h
      · obtain ⟨c6, hc6, hcl6⟩ := Cond.classLink_spec hown hl1 e.platform hpl
        obtain ⟨a8, b8, h1, h2, h3⟩ := hn1
        cases Option.some.inj (h1.symm.trans hcl)
        cases Option.some.inj (h2.symm.trans hc6)
        exact Or.inr ⟨hz0, _, hcl6, h3⟩)
  obtain ⟨g₀, hfr⟩ := X'.frames_eq
  have hcell9 : ((T.setVm vm').setFrames (.throwing q :: below)).heap[q]? = some ce := by
    show T.heap[q]? = some ce
    rw [hT]; exact hcell
  have hend : Ended ((T.setVm vm').setFrames (.throwing q :: below)) below (.threw q) := State.frames_setFrames _ (State.cur_lt_of_frames hfr)
  refine ⟨(T.setVm vm').setFrames (.throwing q :: below), ?_, .threw q, X'.here.running, hend, Or.inr ⟨q, rfl, E, ce, locs, hx _ hT (X'.ends _).1.alike, hcell9, hv, hcl, (X'.ends _).1, (X'.ends _).2.mono hc hs, hf⟩⟩
  rw [X.pushThrowing_eq]
  exact st
/-- a thing of a world lies in the heap -/
theorem vx_lt {D : va_G} {cl : List vw_C} {ws : va_W} {H1 : Heap} (h : va_P D cl ws H1) {k : Nat} {q : Nat × va_E} (hk : ws[k]? = some q) : q.1 < H1.size := (h k q hk).lt
end VXS
/-! ===== END ===== -/
/-! ===== BEGIN methods with a table of their own: called by a name, returning or throwing ===== -/
section VXH
/-! vx_backW, vx_callVX, vx_callSX, vx_callVW, vx_runVW, vx_runVX, vx_runSX, vx_ofWH follow the same proofs as their sisters above (Free/Laws.lean, Shelf42/LK1.lean); vx_outP calls Shelf42/NT130.lean (outThrough). -/
section
variable {l : Launch} {R : Room} {p : Program} {e : Env} {below : List Frame} {s : State} {sargs : Array Value} {y : MethodName} {len W9 : Nat}
theorem vx_backW {ws : List Cond} {rm : Room} {Pc : Array Value → State → Prop} {Qc : Array Value → State → Outcome → State → Prop} {XC : String → State → State → Prop} {mc ms : Nat} {free : Addr → Prop} {bytes : ByteArray} {maxL : Nat} {ret : Option FieldType} {hh : List (Nat × Nat × Nat × Nat)}
    (hM : vx_Met l y ws rm Pc Qc XC mc ms free) (hblind : FrameBlind Pc) (hrc : rm.cells = mc) (hrs : rm.slots = ms)
    (hframes : rm.frames + 1 ≤ R.frames) (hlocals : W9 + (maxL + 11) + rm.locals ≤ R.locals)
    (hws : ∀ w ∈ ws, ∀ a' U, s.WarmedH U.vm → w.before a' U = true) (hcode : Cond.codeWith y bytes maxL ret hh ∈ ws) (hinit : ∀ a' U, s.WarmedH U.vm → (Cond.initialized y.cls).before a' U = true) :
    vx_Back l R p e below s sargs y len W9 (PreOf R mc ms Pc) (PostOf Qc mc ms free) (vx_Post XC mc ms free) := by
  intro m meth c A g ig mk a X hg hsize hdg hW hn hp
  have h1 : (headSpec ws rm).pre.before a A.U = true := atoms_intro fun w hw => hws w hw _ _ X.warmed
  have h2 : (Cond.codeWith y bytes maxL ret hh).before a A.U = true := hws _ hcode _ _ X.warmed
  have h3 : (Cond.initialized y.cls).before a A.U = true := hinit _ _ X.warmed
  have h4 : A.cells + (headSpec ws rm).room.cells ≤ R.cells := by rw [show (headSpec ws rm).room.cells = mc from hrc]; exact hp.1
  have h5 : A.slots + (headSpec ws rm).room.slots ≤ R.slots := by rw [show (headSpec ws rm).room.slots = ms from hrs]; exact hp.2.1
  have hPc : Pc a (A.U.calling g mk a) := hblind _ _ _ _ hp.2.2
  obtain ⟨U, Ls, c0, s0⟩ := A
  dsimp only [Pt.U, Pt.locs, Pt.cells, Pt.slots] at h1 h2 h3 h4 h5 X hn hPc ⊢
  obtain ⟨m9, methY, cY, hn9, hmY, hcY, -, hlY, -⟩ := Cond.codeWith_spec h2
  cases Option.some.inj (hn9.symm.trans hn)
  obtain ⟨kY, hkY, -⟩ := className_of_methodNamed hn
  have hinitY : kY.init = .initialized := Cond.initialized_spec (findClass_of_methodNamed hn) hkY h3
  have h : At U g.method c below := by rw [hg]; exact X.here
  have hlocals9 : W9 + (maxL + 11) + (headSpec ws rm).room.locals ≤ R.locals := hlocals
  have happ : (headSpec ws rm).appliesLoose y e.platform (U.calling g mk a) = true :=
    Spec.appliesLoose_calling (g := g) h hdg hn hkY hinitY
      (X.room_calling (g := g) (R' := (headSpec ws rm).room) hsize hmY hcY hframes (by rw [hlY]; omega) h4 h5) h1
  obtain ⟨mid, hmid⟩ := h.above
  have hfr : (U.setTop g).frames = (.java g :: mid) ++ below := by rw [State.frames_setTop' g h.top, hmid]; rfl
  obtain ⟨o, s₂, hsteps, -, hend, hq⟩ := Steps.callFree hM p X.admits X.cas X.clock (acts := []) hfr happ hPc trivial
  have hq' : vx_Q Qc XC mc ms free a (U.calling g mk a) o s₂ := hq
  rw [State.frames_setTop' g h.top] at hend
  obtain ⟨g₀, hg0⟩ := Option.isSome_iff_exists.mp h.top
  obtain ⟨r, hr⟩ := State.topJava?_eq_some.mp hg0
  have hr' : (({ U with heap := s₂.heap, slotsUsed := s₂.slotsUsed } : State).setVm s₂.vm).frames = .java g₀ :: r := hr
  rcases hq' with ⟨hqc, L, hfe, hL⟩ | ⟨q, rfl, E, ce, L, hx, hce, hcv, hcl, hW₂, hsm, hL⟩
  · obtain ⟨⟨v, rfl⟩, hW₂, e2, q2, q3, q4, q5, q6⟩ := id hfe
    have e3 : s₂ = ({ (U.calling g mk a).setFrames s₂.frames with heap := s₂.heap, slotsUsed := s₂.slotsUsed } : State).setVm s₂.vm := by
      have : s₂ = ({ s₂ with vm := (U.calling g mk a).vm } : State).setVm s₂.vm := rfl
      rw [e2] at this
      exact this
    obtain ⟨c₂, i₂, len₂, hc₂, hd₂, hf₂⟩ := hend
    have hW' : U.WarmedH s₂.vm := hW₂
    have hcc : c₂ = c := by
      have h1 : s₂.code? g.method = U.code? g.method := by
        rw [State.code?_eq, State.code?_eq, hW'.alike.method?]
      exact Option.some.inj (hc₂.symm.trans (h1.trans h.code))
    subst hcc
    have hlen : len₂ = len := by rw [hdg] at hd₂; cases hd₂; rfl
    subst hlen
    have hs₂ : s₂ = (({ U with heap := s₂.heap, slotsUsed := s₂.slotsUsed } : State).setVm s₂.vm).setTop { g with pc := g.pc + len₂, stack := v.toList ++ g.stack } := by
      refine e3.trans ?_
      rw [hf₂, State.calling_eq h.top, State.setFrames_setFrames, State.setTop_of_frames _ hr', hr]
      rfl
    have hsame : U.sameButNew ({ U with heap := s₂.heap, slotsUsed := s₂.slotsUsed } : State) L mc ms := by
      refine ⟨?_, q2, q3, q4, q5, q6⟩
      obtain ⟨t, ht, -⟩ := State.frames_cons hr
      show ({ U with heap := s₂.heap, slotsUsed := s₂.slotsUsed } : State) = { U.setFrames U.frames with heap := s₂.heap, slotsUsed := s₂.slotsUsed }
      rw [State.setFrames_self ht]
    subst hg
    refine Or.inl ⟨v, ⟨(({ U with heap := s₂.heap, slotsUsed := s₂.slotsUsed } : State).setVm s₂.vm), Ls ++ L, c0 + mc, s0 + ms⟩,
      ⟨X.admits, X.cas, X.clock, X.frames, X.room, X.hears, X.method, X.code, (X.here.setHeapUsed s₂.heap s₂.slotsUsed).setVm hW'.alike, X.tail, State.WarmedH.trans X.warmed hW', X.limits, X.bytes, X.same.trans (hsame.setVm s.vm)⟩,
      ⟨g, mk, s₂, L, rfl, rfl, hqc, rfl, hL, rfl, rfl⟩, ?_⟩
    show Steps p.tables e below _ ((({ U with heap := s₂.heap, slotsUsed := s₂.slotsUsed } : State).setVm s₂.vm).setTop { g with pc := g.pc + len₂, stack := v.toList ++ g.stack })
    rw [← hs₂]
    exact hsteps
  · obtain ⟨e2, q2, q3, q4, q5, q6⟩ := id hsm
    have e3 : s₂ = ({ (U.calling g mk a).setFrames s₂.frames with heap := s₂.heap, slotsUsed := s₂.slotsUsed } : State).setVm s₂.vm := by
      have : s₂ = ({ s₂ with vm := (U.calling g mk a).vm } : State).setVm s₂.vm := rfl
      rw [e2] at this
      exact this
    have hf₂ : s₂.frames = .throwing q :: .java g :: U.frames.tail := hend
    have hW' : U.WarmedH s₂.vm := hW₂
    have hs₂ : s₂ = ((({ U with heap := s₂.heap, slotsUsed := s₂.slotsUsed } : State).setVm s₂.vm).setTop g).pushFrame (.throwing q) := by
      refine e3.trans ?_
      rw [hf₂, State.calling_eq h.top, State.setFrames_setFrames, State.pushFrame, State.frames_setTop _ hr', State.setTop_of_frames _ hr', State.setFrames_setFrames, hr]
      rfl
    have hsame : U.sameButNew ({ U with heap := s₂.heap, slotsUsed := s₂.slotsUsed } : State) L mc ms := by
      refine ⟨?_, q2, q3, q4, q5, q6⟩
      obtain ⟨t, ht, -⟩ := State.frames_cons hr
      show ({ U with heap := s₂.heap, slotsUsed := s₂.slotsUsed } : State) = { U.setFrames U.frames with heap := s₂.heap, slotsUsed := s₂.slotsUsed }
      rw [State.setFrames_self ht]
    subst hg
    refine Or.inr ⟨q, ⟨(({ U with heap := s₂.heap, slotsUsed := s₂.slotsUsed } : State).setVm s₂.vm), Ls ++ L, c0 + mc, s0 + ms⟩,
      ⟨X.admits, X.cas, X.clock, X.frames, X.room, X.hears, X.method, X.code, (X.here.setHeapUsed s₂.heap s₂.slotsUsed).setVm hW'.alike, X.tail, State.WarmedH.trans X.warmed hW', X.limits, X.bytes, X.same.trans (hsame.setVm s.vm)⟩,
      ⟨g, mk, s₂, L, E, ce, rfl, rfl, hx, hce, hcv, hcl, rfl, hL, rfl, rfl⟩, ?_⟩
    show Steps p.tables e below _ (((({ U with heap := s₂.heap, slotsUsed := s₂.slotsUsed } : State).setVm s₂.vm).setTop g).pushFrame (.throwing q))
    rw [← hs₂]
    exact hsteps
end
variable {p : Program} {l : Launch} {e : Env} {R : Room} {s : State} {m : MethodId} {args : Array Value} {below : List Frame} {meth : Method} {c : Code} {T : State} {H : Heap} {locs : List Loc} {cells slots : Nat}
theorem vx_callVX (X : Stand p l e R s m args below meth c T locs cells slots) (hexec : p.tables.exec = Jvm.exec) {own C : String} {index : Nat} {y : MethodName} {bytes : ByteArray} {maxL : Nat} {ret : Option FieldType} {hh : List (Nat × Nat × Nat × Nat)}
    (hown : s.vm.findClass own = some m.cls) (hlink : (Cond.methodLink own index y).before args s = true) (hinst : (Cond.instanceMethod y).before args s = true) (hsel : (Cond.selects C y y).before args s = true)
    (hcode : (Cond.codeWith y bytes maxL ret hh).before args s = true) (hy : y.cls ≠ "java/lang/invoke/MethodHandle" ∧ y.cls ≠ "java/lang/invoke/VarHandle")
    {W9 : Nat} {Pre : Pt → Array Value → Prop} {Post : Pt → Array Value → Option Value → Pt → Prop} {PostX : Pt → Array Value → Addr → Pt → Prop} (hK : vx_Back l R p e below s args y 3 W9 Pre Post PostX)
    {b : Addr} {cellB : Cell} (hcell : T.heap[b]? = some cellB) (hobj : cellB.vm.isStatics = false) (hcls : s.vm.findClass C = some cellB.cls)
    {g : JFrame} (hg : g.method = m) (hsize : g.locals.size = c.maxLocals) {argsL rest : List Value} (hlen : ∀ sig, parseMethodDescriptor y.desc = some sig → argsL.length = sig.parameters.length)
    (hstack : g.stack = argsL.reverse ++ .ref b :: rest) (hW : 2 * g.monitorRoom + (rest.map fun v => v.category).sum ≤ W9) (hdg : decode c.code g.pc = .ok (.invokevirtual index, 3))
    (hpre : ∀ vm₁, s.WarmedH vm₁ → Pre ⟨T.setVm vm₁, locs, cells, slots⟩ (Value.ref b :: argsL).toArray) :
    (∃ (v : Option Value) (vm₁ : Vm) (B : Pt), s.WarmedH vm₁ ∧ Stand p l e R s m args below meth c B.U B.locs B.cells B.slots ∧ Post ⟨T.setVm vm₁, locs, cells, slots⟩ (Value.ref b :: argsL).toArray v B ∧
      ∀ target, Steps p.tables e below (B.U.setTop { g with pc := g.pc + 3, stack := v.toList ++ rest }) target → Steps p.tables e below (T.setTop g) target) ∨
    (∃ (q : Addr) (vm₁ : Vm) (B : Pt), s.WarmedH vm₁ ∧ Stand p l e R s m args below meth c B.U B.locs B.cells B.slots ∧ PostX ⟨T.setVm vm₁, locs, cells, slots⟩ (Value.ref b :: argsL).toArray q B ∧
      Steps p.tables e below (T.setTop g) ((B.U.setTop { g with stack := rest }).pushFrame (.throwing q))) := by
  obtain ⟨mk, methM, hnamed, hmethM, hstM, habM⟩ := Cond.instanceMethod_spec hinst
  obtain ⟨m8, methM', cM, hn8, hmethM', -, -, -, -, -, -, hsigM⟩ := Cond.codeWith_spec hcode
  cases Option.some.inj (hn8.symm.trans hnamed)
  cases hmethM.symm.trans hmethM'
  obtain ⟨c2, r2, m2, q1, q2, q3, q4, kP, hkP, hkPi⟩ := Cond.selects_spec hsel
  cases hcls.symm.trans q1
  cases (State.methodFound?_of_named hnamed hy).symm.trans q2
  cases hnamed.symm.trans q3
  have hselP : selectMethod e.platform s.vm cellB.cls mk = .method mk := by rw [Launch.admits_selectMethod X.admits]; exact q4
  obtain ⟨vm₁, X₁, hstep₁⟩ := X.invokevirtual hexec hown hlink hnamed hmethM hstM hkP hkPi hy (a := b) (cell := cellB) hcell
    (fun z h => by rw [h] at hobj; cases hobj) hselP hmethM habM hkP hkPi (g := g) hg (argsL := argsL) (rest := rest) (hlen _ hsigM) hstack hdg
  rcases hK m meth c ⟨T.setVm vm₁, locs, cells, slots⟩ { g with stack := rest } (.invokevirtual index) mk (Value.ref b :: argsL).toArray X₁ hg hsize hdg hW (X₁.named hnamed) (hpre vm₁ X₁.warmed) with ⟨v, B, X', hpost, hsteps⟩ | ⟨q, B, X', hpost, hsteps⟩
  · exact Or.inl ⟨v, vm₁, B, X₁.warmed, X', hpost, fun target h => hstep₁ _ fun acts => by rw [doInvoke_state]; exact hsteps.trans h⟩
  · exact Or.inr ⟨q, vm₁, B, X₁.warmed, X', hpost, hstep₁ _ fun acts => by rw [doInvoke_state]; exact hsteps⟩
theorem vx_callSX (X : Stand p l e R s m args below meth c T locs cells slots) (hexec : p.tables.exec = Jvm.exec) {own : String} {index : Nat} {y : MethodName} {bytes : ByteArray} {maxL : Nat} {ret : Option FieldType} {hh : List (Nat × Nat × Nat × Nat)}
    (hown : s.vm.findClass own = some m.cls) (hlink : (Cond.methodLink own index y).before args s = true) (hstat : (Cond.static y).before args s = true) (hinit : (Cond.initialized y.cls).before args s = true)
    (hcode : (Cond.codeWith y bytes maxL ret hh).before args s = true) (hy : y.cls ≠ "java/lang/invoke/MethodHandle" ∧ y.cls ≠ "java/lang/invoke/VarHandle")
    {W9 : Nat} {Pre : Pt → Array Value → Prop} {Post : Pt → Array Value → Option Value → Pt → Prop} {PostX : Pt → Array Value → Addr → Pt → Prop} (hK : vx_Back l R p e below s args y 3 W9 Pre Post PostX)
    {g : JFrame} (hg : g.method = m) (hsize : g.locals.size = c.maxLocals) {argsL rest : List Value} (hlen : ∀ sig, parseMethodDescriptor y.desc = some sig → argsL.length = sig.parameters.length)
    (hstack : g.stack = argsL.reverse ++ rest) (hW : 2 * g.monitorRoom + (rest.map fun v => v.category).sum ≤ W9) (hdg : decode c.code g.pc = .ok (.invokestatic index, 3))
    (hpre : ∀ vm₁, s.WarmedH vm₁ → Pre ⟨T.setVm vm₁, locs, cells, slots⟩ argsL.toArray) :
    (∃ (v : Option Value) (vm₁ : Vm) (B : Pt), s.WarmedH vm₁ ∧ Stand p l e R s m args below meth c B.U B.locs B.cells B.slots ∧ Post ⟨T.setVm vm₁, locs, cells, slots⟩ argsL.toArray v B ∧
      ∀ target, Steps p.tables e below (B.U.setTop { g with pc := g.pc + 3, stack := v.toList ++ rest }) target → Steps p.tables e below (T.setTop g) target) ∨
    (∃ (q : Addr) (vm₁ : Vm) (B : Pt), s.WarmedH vm₁ ∧ Stand p l e R s m args below meth c B.U B.locs B.cells B.slots ∧ PostX ⟨T.setVm vm₁, locs, cells, slots⟩ argsL.toArray q B ∧
      Steps p.tables e below (T.setTop g) ((B.U.setTop { g with stack := rest }).pushFrame (.throwing q))) := by
  obtain ⟨mk, methM, cM, hnamed, hmethM, -, -, -, -, -, -, hsigM⟩ := Cond.codeWith_spec hcode
  have hstatic : methM.isStatic = true := Cond.static_spec hnamed hmethM hstat
  obtain ⟨kP, hkP, -⟩ := className_of_methodNamed hnamed
  have hinitP : kP.init = .initialized := Cond.initialized_spec (findClass_of_methodNamed hnamed) hkP hinit
  obtain ⟨vm₁, X₁, hstep₁⟩ := X.invokestatic hexec hown hlink hnamed hmethM hstatic hkP hinitP hy (g := g) hg (argsL := argsL) (rest := rest) (hlen _ hsigM) hstack hdg
  rcases hK m meth c ⟨T.setVm vm₁, locs, cells, slots⟩ { g with stack := rest } (.invokestatic index) mk argsL.toArray X₁ hg hsize hdg hW (X₁.named hnamed) (hpre vm₁ X₁.warmed) with ⟨v, B, X', hpost, hsteps⟩ | ⟨q, B, X', hpost, hsteps⟩
  · exact Or.inl ⟨v, vm₁, B, X₁.warmed, X', hpost, fun target h => hstep₁ _ fun acts => by rw [doInvoke_state]; exact hsteps.trans h⟩
  · exact Or.inr ⟨q, vm₁, B, X₁.warmed, X', hpost, hstep₁ _ fun acts => by rw [doInvoke_state]; exact hsteps⟩
theorem vx_callVW (X : Stand p l e R s m args below meth c T locs cells slots) (hexec : p.tables.exec = Jvm.exec) {own C : String} {index : Nat} {y : MethodName} {bytes : ByteArray} {maxL : Nat} {ret : Option FieldType} {hh : List (Nat × Nat × Nat × Nat)}
    (hown : s.vm.findClass own = some m.cls) (hlink : (Cond.methodLink own index y).before args s = true) (hinst : (Cond.instanceMethod y).before args s = true) (hsel : (Cond.selects C y y).before args s = true)
    (hcode : (Cond.codeWith y bytes maxL ret hh).before args s = true) (hy : y.cls ≠ "java/lang/invoke/MethodHandle" ∧ y.cls ≠ "java/lang/invoke/VarHandle")
    {W9 : Nat} {Pre : Pt → Array Value → Prop} {Post : Pt → Array Value → Option Value → Pt → Prop} (hK : Back l R p e below s args y 3 W9 Pre Post)
    {b : Addr} {cellB : Cell} (hcell : T.heap[b]? = some cellB) (hobj : cellB.vm.isStatics = false) (hcls : s.vm.findClass C = some cellB.cls)
    {g : JFrame} (hg : g.method = m) (hsize : g.locals.size = c.maxLocals) {argsL rest : List Value} (hlen : ∀ sig, parseMethodDescriptor y.desc = some sig → argsL.length = sig.parameters.length)
    (hstack : g.stack = argsL.reverse ++ .ref b :: rest) (hW : 2 * g.monitorRoom + (rest.map fun v => v.category).sum ≤ W9) (hdg : decode c.code g.pc = .ok (.invokevirtual index, 3))
    (hpre : ∀ vm₁, s.WarmedH vm₁ → Pre ⟨T.setVm vm₁, locs, cells, slots⟩ (Value.ref b :: argsL).toArray) :
    ∃ (v : Option Value) (vm₁ : Vm) (B : Pt), s.WarmedH vm₁ ∧ Stand p l e R s m args below meth c B.U B.locs B.cells B.slots ∧ Post ⟨T.setVm vm₁, locs, cells, slots⟩ (Value.ref b :: argsL).toArray v B ∧
      ∀ target, Steps p.tables e below (B.U.setTop { g with pc := g.pc + 3, stack := v.toList ++ rest }) target → Steps p.tables e below (T.setTop g) target := by
  obtain ⟨mk, methM, hnamed, hmethM, hstM, habM⟩ := Cond.instanceMethod_spec hinst
  obtain ⟨m8, methM', cM, hn8, hmethM', -, -, -, -, -, -, hsigM⟩ := Cond.codeWith_spec hcode
  cases Option.some.inj (hn8.symm.trans hnamed)
  cases hmethM.symm.trans hmethM'
  obtain ⟨c2, r2, m2, q1, q2, q3, q4, kP, hkP, hkPi⟩ := Cond.selects_spec hsel
  cases hcls.symm.trans q1
  cases (State.methodFound?_of_named hnamed hy).symm.trans q2
  cases hnamed.symm.trans q3
  have hselP : selectMethod e.platform s.vm cellB.cls mk = .method mk := by rw [Launch.admits_selectMethod X.admits]; exact q4
  obtain ⟨vm₁, X₁, hstep₁⟩ := X.invokevirtual hexec hown hlink hnamed hmethM hstM hkP hkPi hy (a := b) (cell := cellB) hcell
    (fun z h => by rw [h] at hobj; cases hobj) hselP hmethM habM hkP hkPi (g := g) hg (argsL := argsL) (rest := rest) (hlen _ hsigM) hstack hdg
  obtain ⟨v, B, X', hpost, hsteps⟩ := hK m meth c ⟨T.setVm vm₁, locs, cells, slots⟩ { g with stack := rest } (.invokevirtual index) mk (Value.ref b :: argsL).toArray X₁ hg hsize hdg hW (X₁.named hnamed) (hpre vm₁ X₁.warmed)
  exact ⟨v, vm₁, B, X₁.warmed, X', hpost, fun target h => hstep₁ _ fun acts => by rw [doInvoke_state]; exact hsteps.trans h⟩
abbrev vx_CVW (R : Room) (s : State) (args : Array Value) (own C : String) (index : Nat) (y : MethodName) (bytes : ByteArray) (maxL : Nat) (ret : Option FieldType) (hh : List (Nat × Nat × Nat × Nat)) (ws : List Cond) (rm : Room) (mc ms n : Nat) : Prop :=
  (rm.cells = mc ∧ rm.slots = ms ∧ rm.frames + 1 ≤ R.frames ∧ 8 + (maxL + 11) + rm.locals ≤ R.locals ∧ (∀ w ∈ ws, ∀ (a' : Array Value) (U : State), s.WarmedH U.vm → w.before a' U = true) ∧ Cond.codeWith y bytes maxL ret hh ∈ ws) ∧
  (Cond.codeWith y bytes maxL ret hh).before args s = true ∧ (Cond.initialized y.cls).before args s = true ∧ (y.cls ≠ "java/lang/invoke/MethodHandle" ∧ y.cls ≠ "java/lang/invoke/VarHandle") ∧
  (∀ sig, parseMethodDescriptor y.desc = some sig → n = sig.parameters.length) ∧ (Cond.methodLink own index y).before args s = true ∧ (Cond.instanceMethod y).before args s = true ∧ (Cond.selects C y y).before args s = true
theorem vx_cwVW {own C : String} {index maxL mc ms : Nat} {y : MethodName} {bytes : ByteArray} {ret : Option FieldType} {hh : List (Nat × Nat × Nat × Nat)} {Ts ws ws' : List Cond} {rm : Room} (n : Nat) (ht : ∀ w ∈ Ts, w.before args s = true) (hT : GoodIn Ts (wsV own index C y ws)) (hw : ws = Cond.codeWith y bytes maxL ret hh :: ws') (hrc : rm.cells = mc) (hrs : rm.slots = ms)
    (hd : y.cls = C ∧ y.cls ≠ "java/lang/invoke/MethodHandle" ∧ y.cls ≠ "java/lang/invoke/VarHandle" ∧ (parseMethodDescriptor y.desc).map (fun d => d.parameters.length) = some n) (hR : rm.frames + 1 ≤ R.frames ∧ 8 + (maxL + 11) + rm.locals ≤ R.locals) :
    vx_CVW R s args own C index y bytes maxL ret hh ws rm mc ms n := by
  obtain ⟨hC, hd⟩ := hd
  subst hC
  have ok : ∀ w ∈ wsV own index y.cls y ws, w.before args s = true := fun w h => ht w (hT w h).1
  have hG : GoodIn Ts ws := fun w h => hT w (by unfold wsV; exact List.mem_append_right _ h)
  have hc : Cond.codeWith y bytes maxL ret hh ∈ ws := by rw [hw]; exact List.mem_cons_self
  refine ⟨⟨hrc, hrs, hR.1, hR.2, pay_in ht hG, hc⟩, ht _ (hG _ hc).1, ok _ (by simp [wsV]), ⟨hd.1, hd.2.1⟩, fun sig h => ?_, ok _ (by simp [wsV]), ok _ (by simp [wsV]), ok _ (by simp [wsV])⟩
  have h2 := hd.2.2
  rw [h] at h2
  exact (Option.some.inj h2).symm
theorem vx_runVW {y : MethodName} {bytes cc : ByteArray} {maxL nL mc ms n index : Nat} {ret : Option FieldType} {hh : List (Nat × Nat × Nat × Nat)} {ws : List Cond} {rm : Room} {Pc : Array Value → State → Prop} {Qc : Array Value → State → Outcome → State → Prop} {free : Addr → Prop} {Ts : List Cond} {own C : String} {b : Addr} {As rest : List Value} {g : JFrame}
    (S : CallFix p m c cc nL s args Ts own) (hM : Met l y ws rm Pc Qc mc ms free) (cw : vx_CVW R s args own C index y bytes maxL ret hh ws rm mc ms n) (hp : PreV s H C b Pc As)
    (hg : g.method = m) (hn : As.length = n) (hsize : g.locals.size = nL) (hstack : g.stack = As.reverse ++ .ref b :: rest) (hW : 2 * g.monitorRoom + (rest.map fun v => v.category).sum ≤ 8) (hdg : decode cc g.pc = .ok (.invokevirtual index, 3)) (hf : cells + mc ≤ R.cells ∧ slots + ms ≤ R.slots) :
    va_Run p l e R s m args below meth c H locs cells slots mc ms g rest (Qc (Value.ref b :: As).toArray) free := by
  obtain ⟨⟨hrc, hrs, hfr, hlo, hws, hcw⟩, hcode, hini, hy, hlen, hl, hin, hse⟩ := cw
  have hK : Back l R p e below s args y 3 8 (PreOf R mc ms Pc) (PostOf Qc mc ms free) := va_backW (hh := hh) (bytes := bytes) (maxL := maxL) (ret := ret) hM hp.1 hrc hrs hfr hlo hws hcw (fun a' U hW => word_at hW (Or.inl (by first | rfl | simp [Cond.onTables, Cond.keeps, Cond.steady])) hini)
  obtain ⟨hx, hb, hml, ho, -⟩ := S
  obtain ⟨-, ⟨cellB, hcB, hoB, hclB⟩, hPc⟩ := hp
  intro T hT X
  obtain ⟨v, vm₁, ⟨U', l2, c2, s2⟩, hW₁, X', ⟨g', mk, t, L, e1, e2, hq, h1, hL, h2, h3⟩, st⟩ := vx_callVW X hx (C := C) (hh := hh) (bytes := bytes) (maxL := maxL) (ret := ret) ho hl hin hse hcode hy hK (by rw [hT]; exact hcB) hoB hclB hg (hsize.trans hml.symm) (argsL := As) (rest := rest) (fun sig h => hn.trans (hlen sig h)) hstack hW (by rw [hb]; exact hdg)
    (fun vm₁ hW₁ => ⟨hf.1, hf.2, hPc (T.setVm vm₁) hT hW₁⟩)
  dsimp only [Pt.U, Pt.locs, Pt.cells, Pt.slots] at X' e1 e2 h1 h2 h3 st
  subst h1; subst h2; subst h3
  exact ⟨v, (T.setVm vm₁).calling g' mk (Value.ref b :: As).toArray, t, U', L, hT, X', hL, e1, e2, hq, st⟩
section
variable {y : MethodName} {bytes cc : ByteArray} {maxL nL mc ms n index : Nat} {ret : Option FieldType} {ws : List Cond} {rm : Room} {Pc : Array Value → State → Prop} {Qc : Array Value → State → Outcome → State → Prop} {XC : String → State → State → Prop} {free : Addr → Prop} {Ts : List Cond} {own C : String} {b : Addr} {As rest : List Value} {g : JFrame}
theorem vx_runVX {hh : List (Nat × Nat × Nat × Nat)} (S : CallFix p m c cc nL s args Ts own) (hM : vx_Met l y ws rm Pc Qc XC mc ms free) (cw : vx_CVW R s args own C index y bytes maxL ret hh ws rm mc ms n) (hp : PreV s H C b Pc As)
    (hg : g.method = m) (hn : As.length = n) (hsize : g.locals.size = nL) (hstack : g.stack = As.reverse ++ .ref b :: rest) (hW : 2 * g.monitorRoom + (rest.map fun v => v.category).sum ≤ 8) (hdg : decode cc g.pc = .ok (.invokevirtual index, 3)) (hf : cells + mc ≤ R.cells ∧ slots + ms ≤ R.slots) :
    vx_Run p l e R s m args below meth c H locs cells slots mc ms g rest (Qc (Value.ref b :: As).toArray) XC free := by
  obtain ⟨⟨hrc, hrs, hfr, hlo, hws, hcw⟩, hcode, hini, hy, hlen, hl, hin, hse⟩ := cw
  have hK : vx_Back l R p e below s args y 3 8 (PreOf R mc ms Pc) (PostOf Qc mc ms free) (vx_Post XC mc ms free) := vx_backW (hh := hh) (bytes := bytes) (maxL := maxL) (ret := ret) hM hp.1 hrc hrs hfr hlo hws hcw (fun a' U hW => word_at hW (Or.inl (by first | rfl | simp [Cond.onTables, Cond.keeps, Cond.steady])) hini)
  obtain ⟨hx, hb, hml, ho, -⟩ := S
  obtain ⟨-, ⟨cellB, hcB, hoB, hclB⟩, hPc⟩ := hp
  intro T hT X
  rcases vx_callVX X hx (C := C) (hh := hh) (bytes := bytes) (maxL := maxL) (ret := ret) ho hl hin hse hcode hy hK (by rw [hT]; exact hcB) hoB hclB hg (hsize.trans hml.symm) (argsL := As) (rest := rest) (fun sig h => hn.trans (hlen sig h)) hstack hW (by rw [hb]; exact hdg)
    (fun vm₁ hW₁ => ⟨hf.1, hf.2, hPc (T.setVm vm₁) hT hW₁⟩) with ⟨v, vm₁, ⟨U', l2, c2, s2⟩, hW₁, X', ⟨g', mk, t, L, e1, e2, hq, h1, hL, h2, h3⟩, st⟩ | ⟨q, vm₁, ⟨U', l2, c2, s2⟩, hW₁, X', ⟨g', mk, t, L, E, ce, e1, e2, hq, hce, hcv, hcl, h1, hL, h2, h3⟩, st⟩
  · dsimp only [Pt.U, Pt.locs, Pt.cells, Pt.slots] at X' e1 e2 h1 h2 h3 st
    subst h1; subst h2; subst h3
    exact Or.inl ⟨v, (T.setVm vm₁).calling g' mk (Value.ref b :: As).toArray, t, U', L, hT, X', hL, e1, e2, hq, st⟩
  · dsimp only [Pt.U, Pt.locs, Pt.cells, Pt.slots] at X' e1 e2 h1 h2 h3 st hcl
    subst h1; subst h2; subst h3
    exact Or.inr ⟨q, (T.setVm vm₁).calling g' mk (Value.ref b :: As).toArray, t, U', L, E, ce, hT, X', hL, e1, e2, hq, hce, hcv, vx_cls hW₁ hcl, st⟩
theorem vx_runSX {hh : List (Nat × Nat × Nat × Nat)} (S : CallFix p m c cc nL s args Ts own) (hM : vx_Met l y ws rm Pc Qc XC mc ms free) (cw : vx_CSW R s args own index y bytes maxL ret hh ws rm mc ms n) (hp : PreS s H Pc As)
    (hg : g.method = m) (hn : As.length = n) (hsize : g.locals.size = nL) (hstack : g.stack = As.reverse ++ rest) (hW : 2 * g.monitorRoom + (rest.map fun v => v.category).sum ≤ 8) (hdg : decode cc g.pc = .ok (.invokestatic index, 3)) (hf : cells + mc ≤ R.cells ∧ slots + ms ≤ R.slots) :
    vx_Run p l e R s m args below meth c H locs cells slots mc ms g rest (Qc As.toArray) XC free := by
  obtain ⟨⟨hrc, hrs, hfr, hlo, hws, hcw⟩, hcode, hini, hy, hlen, hl, hstt⟩ := cw
  have hK : vx_Back l R p e below s args y 3 8 (PreOf R mc ms Pc) (PostOf Qc mc ms free) (vx_Post XC mc ms free) := vx_backW (hh := hh) (bytes := bytes) (maxL := maxL) (ret := ret) hM hp.1 hrc hrs hfr hlo hws hcw (fun a' U hW => word_at hW (Or.inl (by first | rfl | simp [Cond.onTables, Cond.keeps, Cond.steady])) hini)
  obtain ⟨hx, hb, hml, ho, -⟩ := S
  intro T hT X
  rcases vx_callSX X hx (hh := hh) (bytes := bytes) (maxL := maxL) (ret := ret) ho hl hstt hini hcode hy hK hg (hsize.trans hml.symm) (argsL := As) (rest := rest) (fun sig h => hn.trans (hlen sig h)) hstack hW (by rw [hb]; exact hdg)
    (fun vm₁ hW₁ => ⟨hf.1, hf.2, hp.2 (T.setVm vm₁) hT hW₁⟩) with ⟨v, vm₁, ⟨U', l2, c2, s2⟩, hW₁, X', ⟨g', mk, t, L, e1, e2, hq, h1, hL, h2, h3⟩, st⟩ | ⟨q, vm₁, ⟨U', l2, c2, s2⟩, hW₁, X', ⟨g', mk, t, L, E, ce, e1, e2, hq, hce, hcv, hcl, h1, hL, h2, h3⟩, st⟩
  · dsimp only [Pt.U, Pt.locs, Pt.cells, Pt.slots] at X' e1 e2 h1 h2 h3 st
    subst h1; subst h2; subst h3
    exact Or.inl ⟨v, (T.setVm vm₁).calling g' mk As.toArray, t, U', L, hT, X', hL, e1, e2, hq, st⟩
  · dsimp only [Pt.U, Pt.locs, Pt.cells, Pt.slots] at X' e1 e2 h1 h2 h3 st hcl
    subst h1; subst h2; subst h3
    exact Or.inr ⟨q, (T.setVm vm₁).calling g' mk As.toArray, t, U', L, E, ce, hT, X', hL, e1, e2, hq, hce, hcv, vx_cls hW₁ hcl, st⟩
end
end VXH
theorem vx_ofWH {l : Launch} {y : MethodName} {ws ws' : List Cond} {rm : Room} {Pc : Array Value → State → Prop} {Qc : Array Value → State → Outcome → State → Prop} {XC : String → State → State → Prop} {mc ms : Nat} {free : Addr → Prop} {cc : ByteArray} {maxL : Nat} {ret : Option FieldType} {hh : List (Nat × Nat × Nat × Nat)}
    (hy : plainName y.cls = true) (hw : ws = Cond.codeWith y cc maxL ret hh :: ws')
    (body : ∀ p e s m args below meth c s₁, BodyLoose p l y (headSpec ws rm) cc maxL ret e s m args below meth c s₁ → c.maxLocals = maxL → Pc args s →
      W p l e (headSpec ws rm).room s m args below meth c s.heap [] 0 0 (vx_MQ below Qc XC args s mc ms free) (entryFrame m args maxL)) : vx_Met l y ws rm Pc Qc XC mc ms free := by
  refine MetFree.of_bodyS (code := cc) (maxLocals := maxL) (ret := ret) hy ?_ ?_
  · intro args s m h hn
    obtain ⟨m9, meth, c, hn9, h1, h2, h3, h4, -, h5, h6, -⟩ := Cond.codeWith_spec (atoms_spec (ws := ws) h _ (by rw [hw]; exact List.mem_cons_self))
    cases hn.symm.trans hn9
    exact ⟨meth, c, h1, h2, h3, h4, h5, h6⟩
  · intro p e s m args below meth c s₁ B hml hP _
    have hh0 : s₁.heap = s.heap := by rw [B.state]; rfl
    obtain ⟨t, a1, o, b1, b2, b3⟩ := body p e s m args below meth c s₁ B hml hP s₁ hh0 (Stand.of_body B)
    exact ⟨t, o, a1, b1, b2, b3⟩
/-! ===== END ===== -/
end
section
/-! ===== BEGIN printed: names, fields, word lists, decode rows ===== -/
def RX0 : String := "CraneReach$Plan"
def TX0 : u_T := fun k => match k with
  | 0 => ("CraneReach$Plan", "moves", "[I", true)
  | 1 => ("CraneReach$Plan", "found", "[I", true)
  | _ => ("CraneReach$Plan", "places", "I", false)
def tyX0 : Nat → FieldType := fun k => match k with
  | 0 => .array .int
  | 1 => .array .int
  | _ => .int
abbrev wsX00 : List Cond := u_ws RX0 TX0 3
theorem nmX0 : ∀ a, a < 3 → ∀ b, b < 3 → a ≠ b → (TX0 a).2.1 ≠ (TX0 b).2.1 := by decide +kernel
theorem tyX0_ok : ∀ k, k < 3 → parseFieldDescriptor (TX0 k).2.2.1 = some (tyX0 k) := by decide +kernel
abbrev cX0_init : ByteArray := prog_2_method_1_code
def yX0_init : MethodName := ⟨RX0, "<init>", "()V"⟩
abbrev cX0_spread : ByteArray := prog_2_method_2_code
def yX0_spread : MethodName := ⟨RX0, "spread", "(LCraneReach$Rig;III)I"⟩
abbrev cX0_movesTo : ByteArray := prog_2_method_3_code
def yX0_movesTo : MethodName := ⟨RX0, "movesTo", "(II)I"⟩
abbrev cX0_visitBeside : ByteArray := prog_2_method_4_code
def yX0_visitBeside : MethodName := ⟨RX0, "visitBeside", "(LCraneReach$Rig;II)V"⟩
abbrev cX0_visit : ByteArray := prog_2_method_5_code
def yX0_visit : MethodName := ⟨RX0, "visit", "(LCraneReach$Rig;IIII)V"⟩
abbrev cX0_placeOf : ByteArray := prog_2_method_6_code
def yX0_placeOf : MethodName := ⟨RX0, "placeOf", "(II)I"⟩
def RX1 : String := "CraneReach$Rig"
def TX1 : u_T := fun k => match k with
  | 0 => ("CraneReach$Rig", "outs", "[I", true)
  | 1 => ("CraneReach$Rig", "limits", "[I", true)
  | _ => ("CraneReach$Rig", "plates", "I", false)
def tyX1 : Nat → FieldType := fun k => match k with
  | 0 => .array .int
  | 1 => .array .int
  | _ => .int
abbrev wsX10 : List Cond := u_ws RX1 TX1 3
theorem nmX1 : ∀ a, a < 3 → ∀ b, b < 3 → a ≠ b → (TX1 a).2.1 ≠ (TX1 b).2.1 := by decide +kernel
theorem tyX1_ok : ∀ k, k < 3 → parseFieldDescriptor (TX1 k).2.2.1 = some (tyX1 k) := by decide +kernel
abbrev cX1_init : ByteArray := prog_3_method_1_code
def yX1_init : MethodName := ⟨RX1, "<init>", "()V"⟩
abbrev cX1_becomeLike : ByteArray := prog_3_method_2_code
def yX1_becomeLike : MethodName := ⟨RX1, "becomeLike", "(LCraneReach$Rig;)V"⟩
abbrev cX1_drawn : ByteArray := prog_3_method_3_code
def yX1_drawn : MethodName := ⟨RX1, "drawn", "(I)I"⟩
abbrev cX1_draw : ByteArray := prog_3_method_4_code
def yX1_draw : MethodName := ⟨RX1, "draw", "(II)V"⟩
abbrev cX1_allowed : ByteArray := prog_3_method_5_code
def yX1_allowed : MethodName := ⟨RX1, "allowed", "(I)I"⟩
abbrev cX1_allow : ByteArray := prog_3_method_6_code
def yX1_allow : MethodName := ⟨RX1, "allow", "(II)V"⟩
abbrev cX1_isSafe : ByteArray := prog_3_method_7_code
def yX1_isSafe : MethodName := ⟨RX1, "isSafe", "(III)Z"⟩
abbrev cX1_strain : ByteArray := prog_3_method_8_code
def yX1_strain : MethodName := ⟨RX1, "strain", "(IIII)I"⟩
abbrev cX1_slant : ByteArray := prog_3_method_9_code
def yX1_slant : MethodName := ⟨RX1, "slant", "(II)I"⟩
def RX2 : String := "CraneReach"
def TX2 : u_T := fun k => match k with
  | 0 => ("CraneReach", "rig", "LCraneReach$Rig;", true)
  | 1 => ("CraneReach", "trial", "LCraneReach$Rig;", true)
  | 2 => ("CraneReach", "plan", "LCraneReach$Plan;", true)
  | 3 => ("CraneReach", "direction", "I", false)
  | 4 => ("CraneReach", "reach", "I", false)
  | 5 => ("CraneReach", "load", "I", false)
  | 6 => ("CraneReach", "lifts", "I", false)
  | 7 => ("CraneReach", "tonsLifted", "I", false)
  | _ => ("CraneReach", "movesWithLoad", "I", false)
def tyX2 : Nat → FieldType := fun k => match k with
  | 0 => .object "CraneReach$Rig"
  | 1 => .object "CraneReach$Rig"
  | 2 => .object "CraneReach$Plan"
  | 3 => .int
  | 4 => .int
  | 5 => .int
  | 6 => .int
  | 7 => .int
  | _ => .int
abbrev wsX20 : List Cond := u_ws RX2 TX2 9
theorem nmX2 : ∀ a, a < 9 → ∀ b, b < 9 → a ≠ b → (TX2 a).2.1 ≠ (TX2 b).2.1 := by decide +kernel
theorem tyX2_ok : ∀ k, k < 9 → parseFieldDescriptor (TX2 k).2.2.1 = some (tyX2 k) := by decide +kernel
abbrev cX2_init : ByteArray := prog_1_method_1_code
def yX2_init : MethodName := ⟨RX2, "<init>", "()V"⟩
abbrev cX2_setPlates : ByteArray := prog_1_method_2_code
def yX2_setPlates : MethodName := ⟨RX2, "setPlates", "(I)I"⟩
abbrev cX2_setOutrigger : ByteArray := prog_1_method_3_code
def yX2_setOutrigger : MethodName := ⟨RX2, "setOutrigger", "(II)I"⟩
abbrev cX2_setLimit : ByteArray := prog_1_method_4_code
def yX2_setLimit : MethodName := ⟨RX2, "setLimit", "(II)I"⟩
abbrev cX2_lift : ByteArray := prog_1_method_5_code
def yX2_lift : MethodName := ⟨RX2, "lift", "(I)I"⟩
abbrev cX2_setDown : ByteArray := prog_1_method_6_code
def yX2_setDown : MethodName := ⟨RX2, "setDown", "()I"⟩
abbrev cX2_swing : ByteArray := prog_1_method_7_code
def yX2_swing : MethodName := ⟨RX2, "swing", "(IZ)I"⟩
abbrev cX2_stretch : ByteArray := prog_1_method_8_code
def yX2_stretch : MethodName := ⟨RX2, "stretch", "(IZ)I"⟩
abbrev cX2_direction : ByteArray := prog_1_method_9_code
def yX2_direction : MethodName := ⟨RX2, "direction", "()I"⟩
abbrev cX2_reach : ByteArray := prog_1_method_10_code
def yX2_reach : MethodName := ⟨RX2, "reach", "()I"⟩
abbrev cX2_load : ByteArray := prog_1_method_11_code
def yX2_load : MethodName := ⟨RX2, "load", "()I"⟩
abbrev cX2_plates : ByteArray := prog_1_method_12_code
def yX2_plates : MethodName := ⟨RX2, "plates", "()I"⟩
abbrev cX2_outrigger : ByteArray := prog_1_method_13_code
def yX2_outrigger : MethodName := ⟨RX2, "outrigger", "(I)I"⟩
abbrev cX2_limitAt : ByteArray := prog_1_method_14_code
def yX2_limitAt : MethodName := ⟨RX2, "limitAt", "(I)I"⟩
abbrev cX2_strainOn : ByteArray := prog_1_method_15_code
def yX2_strainOn : MethodName := ⟨RX2, "strainOn", "(I)I"⟩
abbrev cX2_weakestSide : ByteArray := prog_1_method_16_code
def yX2_weakestSide : MethodName := ⟨RX2, "weakestSide", "()I"⟩
abbrev cX2_lifts : ByteArray := prog_1_method_17_code
def yX2_lifts : MethodName := ⟨RX2, "lifts", "()I"⟩
abbrev cX2_tonsLifted : ByteArray := prog_1_method_18_code
def yX2_tonsLifted : MethodName := ⟨RX2, "tonsLifted", "()I"⟩
abbrev cX2_movesWithLoad : ByteArray := prog_1_method_19_code
def yX2_movesWithLoad : MethodName := ⟨RX2, "movesWithLoad", "()I"⟩
abbrev cX2_isSafeWith : ByteArray := prog_1_method_20_code
def yX2_isSafeWith : MethodName := ⟨RX2, "isSafeWith", "(III)Z"⟩
abbrev cX2_greatestLoad : ByteArray := prog_1_method_21_code
def yX2_greatestLoad : MethodName := ⟨RX2, "greatestLoad", "()I"⟩
abbrev cX2_farthestReach : ByteArray := prog_1_method_22_code
def yX2_farthestReach : MethodName := ⟨RX2, "farthestReach", "(II)I"⟩
abbrev cX2_safeDirections : ByteArray := prog_1_method_23_code
def yX2_safeDirections : MethodName := ⟨RX2, "safeDirections", "(II)I"⟩
abbrev cX2_platesNeeded : ByteArray := prog_1_method_24_code
def yX2_platesNeeded : MethodName := ⟨RX2, "platesNeeded", "(III)I"⟩
abbrev cX2_fewestMoves : ByteArray := prog_1_method_25_code
def yX2_fewestMoves : MethodName := ⟨RX2, "fewestMoves", "(III)I"⟩
abbrev cX2_placesWithin : ByteArray := prog_1_method_26_code
def yX2_placesWithin : MethodName := ⟨RX2, "placesWithin", "(I)I"⟩
abbrev cX2_bestOutrigger : ByteArray := prog_1_method_27_code
def yX2_bestOutrigger : MethodName := ⟨RX2, "bestOutrigger", "(I)I"⟩
abbrev cX2_meanLoad : ByteArray := prog_1_method_28_code
def yX2_meanLoad : MethodName := ⟨RX2, "meanLoad", "()D"⟩
abbrev cX2_digest : ByteArray := prog_1_method_29_code
def yX2_digest : MethodName := ⟨RX2, "digest", "()J"⟩
abbrev cX2_mixed : ByteArray := prog_1_method_30_code
def yX2_mixed : MethodName := ⟨RX2, "mixed", "(JI)J"⟩
abbrev cX2_countMoves : ByteArray := prog_1_method_31_code
def yX2_countMoves : MethodName := ⟨RX2, "countMoves", "(I)V"⟩
abbrev cX2_requireSafe : ByteArray := prog_1_method_32_code
def yX2_requireSafe : MethodName := ⟨RX2, "requireSafe", "(LCraneReach$Rig;I)V"⟩
abbrev cX2_requireNoLoad : ByteArray := prog_1_method_33_code
def yX2_requireNoLoad : MethodName := ⟨RX2, "requireNoLoad", "()V"⟩
abbrev cX2_requireSide : ByteArray := prog_1_method_34_code
def yX2_requireSide : MethodName := ⟨RX2, "requireSide", "(I)V"⟩
abbrev cX2_requireDirection : ByteArray := prog_1_method_35_code
def yX2_requireDirection : MethodName := ⟨RX2, "requireDirection", "(I)V"⟩
abbrev cX2_requireLoad : ByteArray := prog_1_method_36_code
def yX2_requireLoad : MethodName := ⟨RX2, "requireLoad", "(I)V"⟩
abbrev cX2_requireReach : ByteArray := prog_1_method_37_code
def yX2_requireReach : MethodName := ⟨RX2, "requireReach", "(I)V"⟩
abbrev cX2_isReach : ByteArray := prog_1_method_38_code
def yX2_isReach : MethodName := ⟨RX2, "isReach", "(I)Z"⟩
abbrev cX2_isWithin : ByteArray := prog_1_method_39_code
def yX2_isWithin : MethodName := ⟨RX2, "isWithin", "(III)Z"⟩
abbrev cX2_turned : ByteArray := prog_1_method_40_code
def yX2_turned : MethodName := ⟨RX2, "turned", "(II)I"⟩
def RX3 : String := "CraneReachModel"
def TX3 : u_T := fun k => match k with
  | 0 => ("CraneReachModel", "thrown", "I", false)
  | 1 => ("CraneReachModel", "direction", "I", false)
  | 2 => ("CraneReachModel", "reach", "I", false)
  | 3 => ("CraneReachModel", "load", "I", false)
  | 4 => ("CraneReachModel", "plates", "I", false)
  | 5 => ("CraneReachModel", "out", "[I", true)
  | 6 => ("CraneReachModel", "limit", "[I", true)
  | 7 => ("CraneReachModel", "lifts", "I", false)
  | 8 => ("CraneReachModel", "tons", "I", false)
  | 9 => ("CraneReachModel", "moves", "I", false)
  | 10 => ("CraneReachModel", "away", "[I", true)
  | 11 => ("CraneReachModel", "queue", "[I", true)
  | _ => ("CraneReachModel", "many", "I", false)
def tyX3 : Nat → FieldType := fun k => match k with
  | 0 => .int
  | 1 => .int
  | 2 => .int
  | 3 => .int
  | 4 => .int
  | 5 => .array .int
  | 6 => .array .int
  | 7 => .int
  | 8 => .int
  | 9 => .int
  | 10 => .array .int
  | 11 => .array .int
  | _ => .int
abbrev wsX30 : List Cond := u_ws RX3 TX3 13
theorem nmX3 : ∀ a, a < 13 → ∀ b, b < 13 → a ≠ b → (TX3 a).2.1 ≠ (TX3 b).2.1 := by decide +kernel
theorem tyX3_ok : ∀ k, k < 13 → parseFieldDescriptor (TX3 k).2.2.1 = some (tyX3 k) := by decide +kernel
abbrev cX3_init : ByteArray := prog_5_method_1_code
def yX3_init : MethodName := ⟨RX3, "<init>", "()V"⟩
abbrev cX3_thrown : ByteArray := prog_5_method_2_code
def yX3_thrown : MethodName := ⟨RX3, "thrown", "()I"⟩
abbrev cX3_no : ByteArray := prog_5_method_3_code
def yX3_no : MethodName := ⟨RX3, "no", "(I)I"⟩
abbrev cX3_isNot : ByteArray := prog_5_method_4_code
def yX3_isNot : MethodName := ⟨RX3, "isNot", "(I)Z"⟩
abbrev cX3_isIn : ByteArray := prog_5_method_5_code
def yX3_isIn : MethodName := ⟨RX3, "isIn", "(III)Z"⟩
abbrev cX3_isSide : ByteArray := prog_5_method_6_code
def yX3_isSide : MethodName := ⟨RX3, "isSide", "(I)Z"⟩
abbrev cX3_isDirection : ByteArray := prog_5_method_7_code
def yX3_isDirection : MethodName := ⟨RX3, "isDirection", "(I)Z"⟩
abbrev cX3_isReach : ByteArray := prog_5_method_8_code
def yX3_isReach : MethodName := ⟨RX3, "isReach", "(I)Z"⟩
abbrev cX3_isLoad : ByteArray := prog_5_method_9_code
def yX3_isLoad : MethodName := ⟨RX3, "isLoad", "(I)Z"⟩
abbrev cX3_strain : ByteArray := prog_5_method_10_code
def yX3_strain : MethodName := ⟨RX3, "strain", "(IIII)I"⟩
abbrev cX3_isSafe : ByteArray := prog_5_method_11_code
def yX3_isSafe : MethodName := ⟨RX3, "isSafe", "(III)Z"⟩
abbrev cX3_isSafe_ : ByteArray := prog_5_method_12_code
def yX3_isSafe_ : MethodName := ⟨RX3, "isSafe", "()Z"⟩
abbrev cX3_setPlates : ByteArray := prog_5_method_13_code
def yX3_setPlates : MethodName := ⟨RX3, "setPlates", "(I)I"⟩
abbrev cX3_setOutrigger : ByteArray := prog_5_method_14_code
def yX3_setOutrigger : MethodName := ⟨RX3, "setOutrigger", "(II)I"⟩
abbrev cX3_setLimit : ByteArray := prog_5_method_15_code
def yX3_setLimit : MethodName := ⟨RX3, "setLimit", "(II)I"⟩
abbrev cX3_lift : ByteArray := prog_5_method_16_code
def yX3_lift : MethodName := ⟨RX3, "lift", "(I)I"⟩
abbrev cX3_setDown : ByteArray := prog_5_method_17_code
def yX3_setDown : MethodName := ⟨RX3, "setDown", "()I"⟩
abbrev cX3_moved : ByteArray := prog_5_method_18_code
def yX3_moved : MethodName := ⟨RX3, "moved", "()V"⟩
abbrev cX3_swing : ByteArray := prog_5_method_19_code
def yX3_swing : MethodName := ⟨RX3, "swing", "(IZ)I"⟩
abbrev cX3_stretch : ByteArray := prog_5_method_20_code
def yX3_stretch : MethodName := ⟨RX3, "stretch", "(IZ)I"⟩
abbrev cX3_ok : ByteArray := prog_5_method_21_code
def yX3_ok : MethodName := ⟨RX3, "ok", "(I)I"⟩
abbrev cX3_direction : ByteArray := prog_5_method_22_code
def yX3_direction : MethodName := ⟨RX3, "direction", "()I"⟩
abbrev cX3_reach : ByteArray := prog_5_method_23_code
def yX3_reach : MethodName := ⟨RX3, "reach", "()I"⟩
abbrev cX3_load : ByteArray := prog_5_method_24_code
def yX3_load : MethodName := ⟨RX3, "load", "()I"⟩
abbrev cX3_plates : ByteArray := prog_5_method_25_code
def yX3_plates : MethodName := ⟨RX3, "plates", "()I"⟩
abbrev cX3_outrigger : ByteArray := prog_5_method_26_code
def yX3_outrigger : MethodName := ⟨RX3, "outrigger", "(I)I"⟩
abbrev cX3_limitAt : ByteArray := prog_5_method_27_code
def yX3_limitAt : MethodName := ⟨RX3, "limitAt", "(I)I"⟩
abbrev cX3_strainNow : ByteArray := prog_5_method_28_code
def yX3_strainNow : MethodName := ⟨RX3, "strainNow", "(I)I"⟩
abbrev cX3_strainOn : ByteArray := prog_5_method_29_code
def yX3_strainOn : MethodName := ⟨RX3, "strainOn", "(I)I"⟩
abbrev cX3_weakest : ByteArray := prog_5_method_30_code
def yX3_weakest : MethodName := ⟨RX3, "weakest", "()I"⟩
abbrev cX3_weakestSide : ByteArray := prog_5_method_31_code
def yX3_weakestSide : MethodName := ⟨RX3, "weakestSide", "()I"⟩
abbrev cX3_lifts : ByteArray := prog_5_method_32_code
def yX3_lifts : MethodName := ⟨RX3, "lifts", "()I"⟩
abbrev cX3_tonsLifted : ByteArray := prog_5_method_33_code
def yX3_tonsLifted : MethodName := ⟨RX3, "tonsLifted", "()I"⟩
abbrev cX3_movesWithLoad : ByteArray := prog_5_method_34_code
def yX3_movesWithLoad : MethodName := ⟨RX3, "movesWithLoad", "()I"⟩
abbrev cX3_isSafeWith : ByteArray := prog_5_method_35_code
def yX3_isSafeWith : MethodName := ⟨RX3, "isSafeWith", "(III)Z"⟩
abbrev cX3_greatest : ByteArray := prog_5_method_36_code
def yX3_greatest : MethodName := ⟨RX3, "greatest", "()I"⟩
abbrev cX3_greatestLoad : ByteArray := prog_5_method_37_code
def yX3_greatestLoad : MethodName := ⟨RX3, "greatestLoad", "()I"⟩
abbrev cX3_farthestReach : ByteArray := prog_5_method_38_code
def yX3_farthestReach : MethodName := ⟨RX3, "farthestReach", "(II)I"⟩
abbrev cX3_safeAround : ByteArray := prog_5_method_39_code
def yX3_safeAround : MethodName := ⟨RX3, "safeAround", "(II)I"⟩
abbrev cX3_safeDirections : ByteArray := prog_5_method_40_code
def yX3_safeDirections : MethodName := ⟨RX3, "safeDirections", "(II)I"⟩
abbrev cX3_fewestPlates : ByteArray := prog_5_method_41_code
def yX3_fewestPlates : MethodName := ⟨RX3, "fewestPlates", "(III)I"⟩
abbrev cX3_platesNeeded : ByteArray := prog_5_method_42_code
def yX3_platesNeeded : MethodName := ⟨RX3, "platesNeeded", "(III)I"⟩
abbrev cX3_comeTo : ByteArray := prog_5_method_43_code
def yX3_comeTo : MethodName := ⟨RX3, "comeTo", "(IIII)V"⟩
abbrev cX3_goOut : ByteArray := prog_5_method_44_code
def yX3_goOut : MethodName := ⟨RX3, "goOut", "(I)V"⟩
abbrev cX3_fewestMoves : ByteArray := prog_5_method_45_code
def yX3_fewestMoves : MethodName := ⟨RX3, "fewestMoves", "(III)I"⟩
abbrev cX3_within : ByteArray := prog_5_method_46_code
def yX3_within : MethodName := ⟨RX3, "within", "(I)I"⟩
abbrev cX3_placesWithin : ByteArray := prog_5_method_47_code
def yX3_placesWithin : MethodName := ⟨RX3, "placesWithin", "(I)I"⟩
abbrev cX3_bestOutrigger : ByteArray := prog_5_method_48_code
def yX3_bestOutrigger : MethodName := ⟨RX3, "bestOutrigger", "(I)I"⟩
abbrev cX3_meanLoad : ByteArray := prog_5_method_49_code
def yX3_meanLoad : MethodName := ⟨RX3, "meanLoad", "()D"⟩
abbrev cX3_digest : ByteArray := prog_5_method_50_code
def yX3_digest : MethodName := ⟨RX3, "digest", "()J"⟩
def RJ9 : String := "java/lang/Math"
def TJ9 : u_T := fun k => match k with
  | _ => ("", "", "", false)
def tyJ9 : Nat → FieldType := fun k => match k with
  | _ => .int
abbrev wsJ90 : List Cond := u_ws RJ9 TJ9 0
theorem nmJ9 : ∀ a, a < 0 → ∀ b, b < 0 → a ≠ b → (TJ9 a).2.1 ≠ (TJ9 b).2.1 := by decide +kernel
theorem tyJ9_ok : ∀ k, k < 0 → parseFieldDescriptor (TJ9 k).2.2.1 = some (tyJ9 k) := by decide +kernel
abbrev cJ9_abs_0f7a4 : ByteArray := prog_10_method_59_code
def yJ9_abs_0f7a4 : MethodName := ⟨RJ9, "abs", "(I)I"⟩
abbrev cJ9_min_7cf53 : ByteArray := prog_10_method_69_code
def yJ9_min_7cf53 : MethodName := ⟨RJ9, "min", "(II)I"⟩
def RJ0 : String := "java/lang/String"
def TJ0 : u_T := fun k => match k with
  | _ => ("", "", "", false)
def tyJ0 : Nat → FieldType := fun k => match k with
  | _ => .int
abbrev wsJ00 : List Cond := u_ws RJ0 TJ0 0
theorem nmJ0 : ∀ a, a < 0 → ∀ b, b < 0 → a ≠ b → (TJ0 a).2.1 ≠ (TJ0 b).2.1 := by decide +kernel
theorem tyJ0_ok : ∀ k, k < 0 → parseFieldDescriptor (TJ0 k).2.2.1 = some (tyJ0 k) := by decide +kernel
def RL : String := "CraneReachLaw"
abbrev cL_setPlates : ByteArray := method_3_code
def yL_setPlates : MethodName := ⟨RL, "setPlates", "(LCraneReach;I[J)I"⟩
abbrev cL_setOutrigger : ByteArray := method_4_code
def yL_setOutrigger : MethodName := ⟨RL, "setOutrigger", "(LCraneReach;II[J)I"⟩
abbrev cL_setLimit : ByteArray := method_5_code
def yL_setLimit : MethodName := ⟨RL, "setLimit", "(LCraneReach;II[J)I"⟩
abbrev cL_lift : ByteArray := method_6_code
def yL_lift : MethodName := ⟨RL, "lift", "(LCraneReach;I[J)I"⟩
abbrev cL_setDown : ByteArray := method_7_code
def yL_setDown : MethodName := ⟨RL, "setDown", "(LCraneReach;[J)I"⟩
abbrev cL_swing : ByteArray := method_8_code
def yL_swing : MethodName := ⟨RL, "swing", "(LCraneReach;IZ[J)I"⟩
abbrev cL_stretch : ByteArray := method_9_code
def yL_stretch : MethodName := ⟨RL, "stretch", "(LCraneReach;IZ[J)I"⟩
abbrev cL_outrigger : ByteArray := method_10_code
def yL_outrigger : MethodName := ⟨RL, "outrigger", "(LCraneReach;I[J)I"⟩
abbrev cL_limitAt : ByteArray := method_11_code
def yL_limitAt : MethodName := ⟨RL, "limitAt", "(LCraneReach;I[J)I"⟩
abbrev cL_strainOn : ByteArray := method_12_code
def yL_strainOn : MethodName := ⟨RL, "strainOn", "(LCraneReach;I[J)I"⟩
abbrev cL_isSafeWith : ByteArray := method_13_code
def yL_isSafeWith : MethodName := ⟨RL, "isSafeWith", "(LCraneReach;III[J)I"⟩
abbrev cL_farthestReach : ByteArray := method_14_code
def yL_farthestReach : MethodName := ⟨RL, "farthestReach", "(LCraneReach;II[J)I"⟩
abbrev cL_safeDirections : ByteArray := method_15_code
def yL_safeDirections : MethodName := ⟨RL, "safeDirections", "(LCraneReach;II[J)I"⟩
abbrev cL_platesNeeded : ByteArray := method_16_code
def yL_platesNeeded : MethodName := ⟨RL, "platesNeeded", "(LCraneReach;III[J)I"⟩
abbrev cL_fewestMoves : ByteArray := method_17_code
def yL_fewestMoves : MethodName := ⟨RL, "fewestMoves", "(LCraneReach;III[J)I"⟩
abbrev cL_placesWithin : ByteArray := method_18_code
def yL_placesWithin : MethodName := ⟨RL, "placesWithin", "(LCraneReach;I[J)I"⟩
abbrev cL_bestOutrigger : ByteArray := method_19_code
def yL_bestOutrigger : MethodName := ⟨RL, "bestOutrigger", "(LCraneReach;I[J)I"⟩
abbrev cL_law : ByteArray := code
def yL_law : MethodName := ⟨RL, "law", "([I)Z"⟩
def wsX0_init : List Cond := .code yX0_init cX0_init 1 none :: ([.methodLink RX0 3 objectInit, .instanceMethod objectInit, .code objectInit ⟨#[0xb1]⟩ 1 none, .arrayClass .int, .fieldLink RX0 9 "CraneReach$Plan" "moves" "[I", .fieldLink RX0 15 "CraneReach$Plan" "found" "[I"] ++ wsX00)
def wsX2_isWithin : List Cond := .code yX2_isWithin cX2_isWithin 3 (some .boolean) :: ([])
def wsX2_isReach : List Cond := .code yX2_isReach cX2_isReach 1 (some .boolean) :: ([.methodLink RX2 30 yX2_isWithin, .static yX2_isWithin, .initialized RX2, .code yX2_isWithin cX2_isWithin 3 (some .boolean)])
def wsX0_placeOf : List Cond := .code yX0_placeOf cX0_placeOf 2 (some .int) :: ([.static yX2_isReach, .initialized RX2, .code yX2_isReach cX2_isReach 1 (some .boolean), .methodLink RX2 30 yX2_isWithin, .static yX2_isWithin, .code yX2_isWithin cX2_isWithin 3 (some .boolean)])
def wsX1_allowed : List Cond := .code yX1_allowed cX1_allowed 3 (some .int) :: ([.fieldLink RX1 15 "CraneReach$Rig" "limits" "[I"] ++ wsX10)
def wsX1_drawn : List Cond := .code yX1_drawn cX1_drawn 2 (some .int) :: ([.fieldLink RX1 9 "CraneReach$Rig" "outs" "[I"] ++ wsX10)
def wsX1_slant : List Cond := .code yX1_slant cX1_slant 2 (some .int) :: ([])
def wsX1_strain : List Cond := .code yX1_strain cX1_strain 7 (some .int) :: ([.fieldLink RX1 18 "CraneReach$Rig" "plates" "I", .methodLink RX1 22 yX1_drawn, .instanceMethod yX1_drawn, .selects RX1 yX1_drawn yX1_drawn, .initialized RX1, .code yX1_drawn cX1_drawn 2 (some .int), .fieldLink RX1 9 "CraneReach$Rig" "outs" "[I", .methodLink RX1 40 yX1_slant, .static yX1_slant, .code yX1_slant cX1_slant 2 (some .int)] ++ wsX10)
def wsX1_isSafe : List Cond := .code yX1_isSafe cX1_isSafe 5 (some .boolean) :: ([.methodLink RX1 30 yX1_allowed, .instanceMethod yX1_allowed, .selects RX1 yX1_allowed yX1_allowed, .initialized RX1, .code yX1_allowed cX1_allowed 3 (some .int), .fieldLink RX1 15 "CraneReach$Rig" "limits" "[I", .methodLink RX1 36 yX1_strain, .instanceMethod yX1_strain, .selects RX1 yX1_strain yX1_strain, .code yX1_strain cX1_strain 7 (some .int), .fieldLink RX1 18 "CraneReach$Rig" "plates" "I", .methodLink RX1 22 yX1_drawn, .instanceMethod yX1_drawn, .selects RX1 yX1_drawn yX1_drawn, .code yX1_drawn cX1_drawn 2 (some .int), .fieldLink RX1 9 "CraneReach$Rig" "outs" "[I", .methodLink RX1 40 yX1_slant, .static yX1_slant, .code yX1_slant cX1_slant 2 (some .int)] ++ wsX10)
def wsX0_visit_r1 : List Cond := [Cond.fieldLink RX0 9 "CraneReach$Plan" "moves" "[I", Cond.fieldLink RX0 18 "CraneReach$Plan" "places" "I", Cond.fieldLink RX0 15 "CraneReach$Plan" "found" "[I", Cond.methodLink RX0 30 yX0_placeOf, Cond.static yX0_placeOf, Cond.initialized RX0, Cond.code yX0_placeOf cX0_placeOf 2 (some .int), Cond.static yX2_isReach, Cond.initialized RX2, Cond.code yX2_isReach cX2_isReach 1 (some .boolean), Cond.methodLink RX2 30 yX2_isWithin, Cond.static yX2_isWithin, Cond.code yX2_isWithin cX2_isWithin 3 (some .boolean), Cond.methodLink RX0 37 yX1_isSafe, Cond.instanceMethod yX1_isSafe, Cond.selects RX1 yX1_isSafe yX1_isSafe, Cond.initialized RX1, Cond.code yX1_isSafe cX1_isSafe 5 (some .boolean), Cond.methodLink RX1 30 yX1_allowed, Cond.instanceMethod yX1_allowed, Cond.selects RX1 yX1_allowed yX1_allowed, Cond.code yX1_allowed cX1_allowed 3 (some .int), Cond.fieldLink RX1 15 "CraneReach$Rig" "limits" "[I", Cond.methodLink RX1 36 yX1_strain]
def wsX0_visit_r2 : List Cond := [Cond.instanceMethod yX1_strain, Cond.selects RX1 yX1_strain yX1_strain, Cond.code yX1_strain cX1_strain 7 (some .int), Cond.fieldLink RX1 18 "CraneReach$Rig" "plates" "I", Cond.methodLink RX1 22 yX1_drawn, Cond.instanceMethod yX1_drawn, Cond.selects RX1 yX1_drawn yX1_drawn, Cond.code yX1_drawn cX1_drawn 2 (some .int), Cond.fieldLink RX1 9 "CraneReach$Rig" "outs" "[I", Cond.methodLink RX1 40 yX1_slant, Cond.static yX1_slant, Cond.code yX1_slant cX1_slant 2 (some .int)]
def wsX0_visit : List Cond := .code yX0_visit cX0_visit 7 none :: ((wsX0_visit_r1 ++ wsX0_visit_r2) ++ wsX00 ++ wsX10)
def wsX2_turned : List Cond := .code yX2_turned cX2_turned 2 (some .int) :: ([])
def wsX0_visitBeside_r1 : List Cond := [Cond.fieldLink RX0 9 "CraneReach$Plan" "moves" "[I", Cond.static yX2_turned, Cond.initialized RX2, Cond.code yX2_turned cX2_turned 2 (some .int), Cond.methodLink RX0 22 yX0_visit, Cond.instanceMethod yX0_visit, Cond.selects RX0 yX0_visit yX0_visit, Cond.initialized RX0, Cond.code yX0_visit cX0_visit 7 none, Cond.fieldLink RX0 18 "CraneReach$Plan" "places" "I", Cond.fieldLink RX0 15 "CraneReach$Plan" "found" "[I", Cond.methodLink RX0 30 yX0_placeOf, Cond.static yX0_placeOf, Cond.code yX0_placeOf cX0_placeOf 2 (some .int), Cond.static yX2_isReach, Cond.code yX2_isReach cX2_isReach 1 (some .boolean), Cond.methodLink RX2 30 yX2_isWithin, Cond.static yX2_isWithin, Cond.code yX2_isWithin cX2_isWithin 3 (some .boolean), Cond.methodLink RX0 37 yX1_isSafe, Cond.instanceMethod yX1_isSafe, Cond.selects RX1 yX1_isSafe yX1_isSafe, Cond.initialized RX1, Cond.code yX1_isSafe cX1_isSafe 5 (some .boolean)]
def wsX0_visitBeside_r2 : List Cond := [Cond.methodLink RX1 30 yX1_allowed, Cond.instanceMethod yX1_allowed, Cond.selects RX1 yX1_allowed yX1_allowed, Cond.code yX1_allowed cX1_allowed 3 (some .int), Cond.fieldLink RX1 15 "CraneReach$Rig" "limits" "[I", Cond.methodLink RX1 36 yX1_strain, Cond.instanceMethod yX1_strain, Cond.selects RX1 yX1_strain yX1_strain, Cond.code yX1_strain cX1_strain 7 (some .int), Cond.fieldLink RX1 18 "CraneReach$Rig" "plates" "I", Cond.methodLink RX1 22 yX1_drawn, Cond.instanceMethod yX1_drawn, Cond.selects RX1 yX1_drawn yX1_drawn, Cond.code yX1_drawn cX1_drawn 2 (some .int), Cond.fieldLink RX1 9 "CraneReach$Rig" "outs" "[I", Cond.methodLink RX1 40 yX1_slant, Cond.static yX1_slant, Cond.code yX1_slant cX1_slant 2 (some .int)]
def wsX0_visitBeside : List Cond := .code yX0_visitBeside cX0_visitBeside 7 none :: ((wsX0_visitBeside_r1 ++ wsX0_visitBeside_r2) ++ wsX00 ++ wsX10)
def wsX0_spread_r1 : List Cond := [Cond.fieldLink RX0 18 "CraneReach$Plan" "places" "I", Cond.fieldLink RX0 9 "CraneReach$Plan" "moves" "[I", Cond.fieldLink RX0 15 "CraneReach$Plan" "found" "[I", Cond.methodLink RX0 22 yX0_visit, Cond.instanceMethod yX0_visit, Cond.selects RX0 yX0_visit yX0_visit, Cond.initialized RX0, Cond.code yX0_visit cX0_visit 7 none, Cond.methodLink RX0 30 yX0_placeOf, Cond.static yX0_placeOf, Cond.code yX0_placeOf cX0_placeOf 2 (some .int), Cond.static yX2_isReach, Cond.initialized RX2, Cond.code yX2_isReach cX2_isReach 1 (some .boolean), Cond.methodLink RX2 30 yX2_isWithin, Cond.static yX2_isWithin, Cond.code yX2_isWithin cX2_isWithin 3 (some .boolean), Cond.methodLink RX0 37 yX1_isSafe, Cond.instanceMethod yX1_isSafe, Cond.selects RX1 yX1_isSafe yX1_isSafe, Cond.initialized RX1, Cond.code yX1_isSafe cX1_isSafe 5 (some .boolean), Cond.methodLink RX1 30 yX1_allowed, Cond.instanceMethod yX1_allowed]
def wsX0_spread_r2 : List Cond := [Cond.selects RX1 yX1_allowed yX1_allowed, Cond.code yX1_allowed cX1_allowed 3 (some .int), Cond.fieldLink RX1 15 "CraneReach$Rig" "limits" "[I", Cond.methodLink RX1 36 yX1_strain, Cond.instanceMethod yX1_strain, Cond.selects RX1 yX1_strain yX1_strain, Cond.code yX1_strain cX1_strain 7 (some .int), Cond.fieldLink RX1 18 "CraneReach$Rig" "plates" "I", Cond.methodLink RX1 22 yX1_drawn, Cond.instanceMethod yX1_drawn, Cond.selects RX1 yX1_drawn yX1_drawn, Cond.code yX1_drawn cX1_drawn 2 (some .int), Cond.fieldLink RX1 9 "CraneReach$Rig" "outs" "[I", Cond.methodLink RX1 40 yX1_slant, Cond.static yX1_slant, Cond.code yX1_slant cX1_slant 2 (some .int), Cond.methodLink RX0 26 yX0_visitBeside, Cond.instanceMethod yX0_visitBeside, Cond.selects RX0 yX0_visitBeside yX0_visitBeside, Cond.code yX0_visitBeside cX0_visitBeside 7 none, Cond.static yX2_turned, Cond.code yX2_turned cX2_turned 2 (some .int)]
def wsX0_spread : List Cond := .code yX0_spread cX0_spread 6 (some .int) :: ((wsX0_spread_r1 ++ wsX0_spread_r2) ++ wsX00 ++ wsX10)
def wsX0_movesTo : List Cond := .code yX0_movesTo cX0_movesTo 4 (some .int) :: ([.fieldLink RX0 9 "CraneReach$Plan" "moves" "[I", .methodLink RX0 30 yX0_placeOf, .static yX0_placeOf, .initialized RX0, .code yX0_placeOf cX0_placeOf 2 (some .int), .static yX2_isReach, .initialized RX2, .code yX2_isReach cX2_isReach 1 (some .boolean), .methodLink RX2 30 yX2_isWithin, .static yX2_isWithin, .code yX2_isWithin cX2_isWithin 3 (some .boolean)] ++ wsX00)
def wsX1_init : List Cond := .code yX1_init cX1_init 2 none :: ([.methodLink RX1 3 objectInit, .instanceMethod objectInit, .code objectInit ⟨#[0xb1]⟩ 1 none, .arrayClass .int, .fieldLink RX1 9 "CraneReach$Rig" "outs" "[I", .fieldLink RX1 15 "CraneReach$Rig" "limits" "[I"] ++ wsX10)
def wsX1_draw : List Cond := .code yX1_draw cX1_draw 3 none :: ([.fieldLink RX1 9 "CraneReach$Rig" "outs" "[I"] ++ wsX10)
def wsX1_allow : List Cond := .code yX1_allow cX1_allow 4 none :: ([.fieldLink RX1 15 "CraneReach$Rig" "limits" "[I"] ++ wsX10)
def wsX1_becomeLike : List Cond := .code yX1_becomeLike cX1_becomeLike 3 none :: ([.fieldLink RX1 18 "CraneReach$Rig" "plates" "I", .methodLink RX1 22 yX1_drawn, .instanceMethod yX1_drawn, .selects RX1 yX1_drawn yX1_drawn, .initialized RX1, .code yX1_drawn cX1_drawn 2 (some .int), .fieldLink RX1 9 "CraneReach$Rig" "outs" "[I", .methodLink RX1 26 yX1_draw, .instanceMethod yX1_draw, .selects RX1 yX1_draw yX1_draw, .code yX1_draw cX1_draw 3 none, .methodLink RX1 30 yX1_allowed, .instanceMethod yX1_allowed, .selects RX1 yX1_allowed yX1_allowed, .code yX1_allowed cX1_allowed 3 (some .int), .fieldLink RX1 15 "CraneReach$Rig" "limits" "[I", .methodLink RX1 33 yX1_allow, .instanceMethod yX1_allow, .selects RX1 yX1_allow yX1_allow, .code yX1_allow cX1_allow 4 none] ++ wsX10)
def wsX2_init_r1 : List Cond := [Cond.methodLink RX2 3 objectInit, Cond.instanceMethod objectInit, Cond.code objectInit ⟨#[0xb1]⟩ 1 none, Cond.classLink RX2 9 RX1, Cond.instantiable RX1 3, Cond.initialized RX1, Cond.fieldLink RX2 12 "CraneReach" "rig" "LCraneReach$Rig;", Cond.fieldLink RX2 16 "CraneReach" "trial" "LCraneReach$Rig;", Cond.classLink RX2 19 RX0, Cond.instantiable RX0 3, Cond.initialized RX0, Cond.fieldLink RX2 22 "CraneReach" "plan" "LCraneReach$Plan;", Cond.fieldLink RX2 26 "CraneReach" "reach" "I", Cond.methodLink RX2 11 yX1_init, Cond.instanceMethod yX1_init, Cond.code yX1_init cX1_init 2 none, Cond.methodLink RX1 3 objectInit, Cond.arrayClass .int, Cond.fieldLink RX1 9 "CraneReach$Rig" "outs" "[I", Cond.fieldLink RX1 15 "CraneReach$Rig" "limits" "[I", Cond.instanceMethod yX0_init, Cond.code yX0_init cX0_init 1 none, Cond.methodLink RX0 3 objectInit, Cond.fieldLink RX0 9 "CraneReach$Plan" "moves" "[I"]
def wsX2_init_r2 : List Cond := [Cond.fieldLink RX0 15 "CraneReach$Plan" "found" "[I"]
def wsX2_init : List Cond := .code yX2_init cX2_init 1 none :: ((wsX2_init_r1 ++ wsX2_init_r2) ++ wsX10 ++ wsX20 ++ wsX00)
def wsX2_requireSafe_r1 : List Cond := [Cond.classLink RX2 91 "java/lang/IllegalStateException", Cond.initialized "java/lang/IllegalStateException", Cond.fieldLink RX2 98 "CraneReach" "direction" "I", Cond.fieldLink RX2 26 "CraneReach" "reach" "I", Cond.methodLink RX2 105 yX1_isSafe, Cond.instanceMethod yX1_isSafe, Cond.selects RX1 yX1_isSafe yX1_isSafe, Cond.initialized RX1, Cond.code yX1_isSafe cX1_isSafe 5 (some .boolean), Cond.methodLink RX1 30 yX1_allowed, Cond.instanceMethod yX1_allowed, Cond.selects RX1 yX1_allowed yX1_allowed, Cond.code yX1_allowed cX1_allowed 3 (some .int), Cond.fieldLink RX1 15 "CraneReach$Rig" "limits" "[I", Cond.methodLink RX1 36 yX1_strain, Cond.instanceMethod yX1_strain, Cond.selects RX1 yX1_strain yX1_strain, Cond.code yX1_strain cX1_strain 7 (some .int), Cond.fieldLink RX1 18 "CraneReach$Rig" "plates" "I", Cond.methodLink RX1 22 yX1_drawn, Cond.instanceMethod yX1_drawn, Cond.selects RX1 yX1_drawn yX1_drawn, Cond.code yX1_drawn cX1_drawn 2 (some .int), Cond.fieldLink RX1 9 "CraneReach$Rig" "outs" "[I"]
def wsX2_requireSafe_r2 : List Cond := [Cond.methodLink RX1 40 yX1_slant, Cond.static yX1_slant, Cond.code yX1_slant cX1_slant 2 (some .int)]
def wsX2_requireSafe : List Cond := .code yX2_requireSafe cX2_requireSafe 3 none :: ((wsX2_requireSafe_r1 ++ wsX2_requireSafe_r2) ++ wsX20 ++ wsX10 ++ (vx_atS RX2 95 "java/lang/IllegalStateException" ["java/lang/RuntimeException", "java/lang/Exception"]).filter goodWord)
def wsX2_setPlates_r1 : List Cond := [Cond.classLink RX2 34 "java/lang/IllegalArgumentException", Cond.initialized "java/lang/IllegalArgumentException", Cond.fieldLink RX2 16 "CraneReach" "trial" "LCraneReach$Rig;", Cond.fieldLink RX2 12 "CraneReach" "rig" "LCraneReach$Rig;", Cond.fieldLink RX2 45 "CraneReach$Rig" "plates" "I", Cond.fieldLink RX2 48 "CraneReach" "load" "I", Cond.methodLink RX2 30 yX2_isWithin, Cond.static yX2_isWithin, Cond.initialized RX2, Cond.code yX2_isWithin cX2_isWithin 3 (some .boolean), Cond.methodLink RX2 41 yX1_becomeLike, Cond.instanceMethod yX1_becomeLike, Cond.selects RX1 yX1_becomeLike yX1_becomeLike, Cond.initialized RX1, Cond.code yX1_becomeLike cX1_becomeLike 3 none, Cond.fieldLink RX1 18 "CraneReach$Rig" "plates" "I", Cond.methodLink RX1 22 yX1_drawn, Cond.instanceMethod yX1_drawn, Cond.selects RX1 yX1_drawn yX1_drawn, Cond.code yX1_drawn cX1_drawn 2 (some .int), Cond.fieldLink RX1 9 "CraneReach$Rig" "outs" "[I", Cond.methodLink RX1 26 yX1_draw, Cond.instanceMethod yX1_draw, Cond.selects RX1 yX1_draw yX1_draw]
def wsX2_setPlates_r2 : List Cond := [Cond.code yX1_draw cX1_draw 3 none, Cond.methodLink RX1 30 yX1_allowed, Cond.instanceMethod yX1_allowed, Cond.selects RX1 yX1_allowed yX1_allowed, Cond.code yX1_allowed cX1_allowed 3 (some .int), Cond.fieldLink RX1 15 "CraneReach$Rig" "limits" "[I", Cond.methodLink RX1 33 yX1_allow, Cond.instanceMethod yX1_allow, Cond.selects RX1 yX1_allow yX1_allow, Cond.code yX1_allow cX1_allow 4 none, Cond.methodLink RX2 51 yX2_requireSafe, Cond.instanceMethod yX2_requireSafe, Cond.selects RX2 yX2_requireSafe yX2_requireSafe, Cond.code yX2_requireSafe cX2_requireSafe 3 none, Cond.classLink RX2 91 "java/lang/IllegalStateException", Cond.initialized "java/lang/IllegalStateException", Cond.fieldLink RX2 98 "CraneReach" "direction" "I", Cond.fieldLink RX2 26 "CraneReach" "reach" "I", Cond.methodLink RX2 105 yX1_isSafe, Cond.instanceMethod yX1_isSafe, Cond.selects RX1 yX1_isSafe yX1_isSafe, Cond.code yX1_isSafe cX1_isSafe 5 (some .boolean), Cond.methodLink RX1 36 yX1_strain, Cond.instanceMethod yX1_strain]
def wsX2_setPlates_r3 : List Cond := [Cond.selects RX1 yX1_strain yX1_strain, Cond.code yX1_strain cX1_strain 7 (some .int), Cond.methodLink RX1 40 yX1_slant, Cond.static yX1_slant, Cond.code yX1_slant cX1_slant 2 (some .int)]
def wsX2_setPlates : List Cond := .code yX2_setPlates cX2_setPlates 3 (some .int) :: ((wsX2_setPlates_r1 ++ (wsX2_setPlates_r2 ++ wsX2_setPlates_r3)) ++ wsX20 ++ wsX10 ++ (vx_atS RX2 38 "java/lang/IllegalArgumentException" ["java/lang/RuntimeException", "java/lang/Exception"]).filter goodWord ++ (vx_atS RX2 95 "java/lang/IllegalStateException" ["java/lang/RuntimeException", "java/lang/Exception"]).filter goodWord)
def wsX2_requireSide : List Cond := .code yX2_requireSide cX2_requireSide 1 none :: ([.classLink RX2 159 "java/lang/IndexOutOfBoundsException", .initialized "java/lang/IndexOutOfBoundsException", .methodLink RX2 30 yX2_isWithin, .static yX2_isWithin, .initialized RX2, .code yX2_isWithin cX2_isWithin 3 (some .boolean)] ++ (vx_atS RX2 163 "java/lang/IndexOutOfBoundsException" ["java/lang/RuntimeException", "java/lang/Exception"]).filter goodWord)
def wsX2_requireNoLoad : List Cond := .code yX2_requireNoLoad cX2_requireNoLoad 1 none :: ([.classLink RX2 91 "java/lang/IllegalStateException", .initialized "java/lang/IllegalStateException", .fieldLink RX2 48 "CraneReach" "load" "I"] ++ wsX20 ++ (vx_atS RX2 95 "java/lang/IllegalStateException" ["java/lang/RuntimeException", "java/lang/Exception"]).filter goodWord)
def wsX2_setOutrigger_r1 : List Cond := [Cond.classLink RX2 34 "java/lang/IllegalArgumentException", Cond.initialized "java/lang/IllegalArgumentException", Cond.fieldLink RX2 16 "CraneReach" "trial" "LCraneReach$Rig;", Cond.fieldLink RX2 12 "CraneReach" "rig" "LCraneReach$Rig;", Cond.fieldLink RX2 48 "CraneReach" "load" "I", Cond.methodLink RX2 55 yX2_requireSide, Cond.static yX2_requireSide, Cond.initialized RX2, Cond.code yX2_requireSide cX2_requireSide 1 none, Cond.classLink RX2 159 "java/lang/IndexOutOfBoundsException", Cond.initialized "java/lang/IndexOutOfBoundsException", Cond.methodLink RX2 30 yX2_isWithin, Cond.static yX2_isWithin, Cond.code yX2_isWithin cX2_isWithin 3 (some .boolean), Cond.methodLink RX2 61 yX2_requireNoLoad, Cond.instanceMethod yX2_requireNoLoad, Cond.selects RX2 yX2_requireNoLoad yX2_requireNoLoad, Cond.code yX2_requireNoLoad cX2_requireNoLoad 1 none, Cond.classLink RX2 91 "java/lang/IllegalStateException", Cond.initialized "java/lang/IllegalStateException", Cond.methodLink RX2 41 yX1_becomeLike, Cond.instanceMethod yX1_becomeLike, Cond.selects RX1 yX1_becomeLike yX1_becomeLike, Cond.initialized RX1]
def wsX2_setOutrigger_r2 : List Cond := [Cond.code yX1_becomeLike cX1_becomeLike 3 none, Cond.fieldLink RX1 18 "CraneReach$Rig" "plates" "I", Cond.methodLink RX1 22 yX1_drawn, Cond.instanceMethod yX1_drawn, Cond.selects RX1 yX1_drawn yX1_drawn, Cond.code yX1_drawn cX1_drawn 2 (some .int), Cond.fieldLink RX1 9 "CraneReach$Rig" "outs" "[I", Cond.methodLink RX1 26 yX1_draw, Cond.instanceMethod yX1_draw, Cond.selects RX1 yX1_draw yX1_draw, Cond.code yX1_draw cX1_draw 3 none, Cond.methodLink RX1 30 yX1_allowed, Cond.instanceMethod yX1_allowed, Cond.selects RX1 yX1_allowed yX1_allowed, Cond.code yX1_allowed cX1_allowed 3 (some .int), Cond.fieldLink RX1 15 "CraneReach$Rig" "limits" "[I", Cond.methodLink RX1 33 yX1_allow, Cond.instanceMethod yX1_allow, Cond.selects RX1 yX1_allow yX1_allow, Cond.code yX1_allow cX1_allow 4 none, Cond.methodLink RX2 64 yX1_draw, Cond.methodLink RX2 51 yX2_requireSafe, Cond.instanceMethod yX2_requireSafe, Cond.selects RX2 yX2_requireSafe yX2_requireSafe]
def wsX2_setOutrigger_r3 : List Cond := [Cond.code yX2_requireSafe cX2_requireSafe 3 none, Cond.fieldLink RX2 98 "CraneReach" "direction" "I", Cond.fieldLink RX2 26 "CraneReach" "reach" "I", Cond.methodLink RX2 105 yX1_isSafe, Cond.instanceMethod yX1_isSafe, Cond.selects RX1 yX1_isSafe yX1_isSafe, Cond.code yX1_isSafe cX1_isSafe 5 (some .boolean), Cond.methodLink RX1 36 yX1_strain, Cond.instanceMethod yX1_strain, Cond.selects RX1 yX1_strain yX1_strain, Cond.code yX1_strain cX1_strain 7 (some .int), Cond.methodLink RX1 40 yX1_slant, Cond.static yX1_slant, Cond.code yX1_slant cX1_slant 2 (some .int), Cond.methodLink RX2 68 yX1_drawn]
def wsX2_setOutrigger : List Cond := .code yX2_setOutrigger cX2_setOutrigger 4 (some .int) :: ((wsX2_setOutrigger_r1 ++ (wsX2_setOutrigger_r2 ++ wsX2_setOutrigger_r3)) ++ wsX20 ++ wsX10 ++ (vx_atS RX2 38 "java/lang/IllegalArgumentException" ["java/lang/RuntimeException", "java/lang/Exception"]).filter goodWord ++ (vx_atS RX2 163 "java/lang/IndexOutOfBoundsException" ["java/lang/RuntimeException", "java/lang/Exception"]).filter goodWord ++ (vx_atS RX2 95 "java/lang/IllegalStateException" ["java/lang/RuntimeException", "java/lang/Exception"]).filter goodWord)
def wsX2_requireReach : List Cond := .code yX2_requireReach cX2_requireReach 1 none :: ([.classLink RX2 34 "java/lang/IllegalArgumentException", .initialized "java/lang/IllegalArgumentException", .methodLink RX2 113 yX2_isReach, .static yX2_isReach, .initialized RX2, .code yX2_isReach cX2_isReach 1 (some .boolean), .methodLink RX2 30 yX2_isWithin, .static yX2_isWithin, .code yX2_isWithin cX2_isWithin 3 (some .boolean)] ++ (vx_atS RX2 38 "java/lang/IllegalArgumentException" ["java/lang/RuntimeException", "java/lang/Exception"]).filter goodWord)
def wsX2_setLimit_r1 : List Cond := [Cond.classLink RX2 34 "java/lang/IllegalArgumentException", Cond.initialized "java/lang/IllegalArgumentException", Cond.fieldLink RX2 16 "CraneReach" "trial" "LCraneReach$Rig;", Cond.fieldLink RX2 12 "CraneReach" "rig" "LCraneReach$Rig;", Cond.fieldLink RX2 48 "CraneReach" "load" "I", Cond.methodLink RX2 72 yX2_requireReach, Cond.static yX2_requireReach, Cond.initialized RX2, Cond.code yX2_requireReach cX2_requireReach 1 none, Cond.methodLink RX2 113 yX2_isReach, Cond.static yX2_isReach, Cond.code yX2_isReach cX2_isReach 1 (some .boolean), Cond.methodLink RX2 30 yX2_isWithin, Cond.static yX2_isWithin, Cond.code yX2_isWithin cX2_isWithin 3 (some .boolean), Cond.methodLink RX2 41 yX1_becomeLike, Cond.instanceMethod yX1_becomeLike, Cond.selects RX1 yX1_becomeLike yX1_becomeLike, Cond.initialized RX1, Cond.code yX1_becomeLike cX1_becomeLike 3 none, Cond.fieldLink RX1 18 "CraneReach$Rig" "plates" "I", Cond.methodLink RX1 22 yX1_drawn, Cond.instanceMethod yX1_drawn, Cond.selects RX1 yX1_drawn yX1_drawn]
def wsX2_setLimit_r2 : List Cond := [Cond.code yX1_drawn cX1_drawn 2 (some .int), Cond.fieldLink RX1 9 "CraneReach$Rig" "outs" "[I", Cond.methodLink RX1 26 yX1_draw, Cond.instanceMethod yX1_draw, Cond.selects RX1 yX1_draw yX1_draw, Cond.code yX1_draw cX1_draw 3 none, Cond.methodLink RX1 30 yX1_allowed, Cond.instanceMethod yX1_allowed, Cond.selects RX1 yX1_allowed yX1_allowed, Cond.code yX1_allowed cX1_allowed 3 (some .int), Cond.fieldLink RX1 15 "CraneReach$Rig" "limits" "[I", Cond.methodLink RX1 33 yX1_allow, Cond.instanceMethod yX1_allow, Cond.selects RX1 yX1_allow yX1_allow, Cond.code yX1_allow cX1_allow 4 none, Cond.methodLink RX2 77 yX1_allow, Cond.methodLink RX2 51 yX2_requireSafe, Cond.instanceMethod yX2_requireSafe, Cond.selects RX2 yX2_requireSafe yX2_requireSafe, Cond.code yX2_requireSafe cX2_requireSafe 3 none, Cond.classLink RX2 91 "java/lang/IllegalStateException", Cond.initialized "java/lang/IllegalStateException", Cond.fieldLink RX2 98 "CraneReach" "direction" "I", Cond.fieldLink RX2 26 "CraneReach" "reach" "I"]
def wsX2_setLimit_r3 : List Cond := [Cond.methodLink RX2 105 yX1_isSafe, Cond.instanceMethod yX1_isSafe, Cond.selects RX1 yX1_isSafe yX1_isSafe, Cond.code yX1_isSafe cX1_isSafe 5 (some .boolean), Cond.methodLink RX1 36 yX1_strain, Cond.instanceMethod yX1_strain, Cond.selects RX1 yX1_strain yX1_strain, Cond.code yX1_strain cX1_strain 7 (some .int), Cond.methodLink RX1 40 yX1_slant, Cond.static yX1_slant, Cond.code yX1_slant cX1_slant 2 (some .int), Cond.methodLink RX2 80 yX1_allowed]
def wsX2_setLimit : List Cond := .code yX2_setLimit cX2_setLimit 4 (some .int) :: ((wsX2_setLimit_r1 ++ (wsX2_setLimit_r2 ++ wsX2_setLimit_r3)) ++ wsX20 ++ wsX10 ++ (vx_atS RX2 38 "java/lang/IllegalArgumentException" ["java/lang/RuntimeException", "java/lang/Exception"]).filter goodWord ++ (vx_atS RX2 95 "java/lang/IllegalStateException" ["java/lang/RuntimeException", "java/lang/Exception"]).filter goodWord)
def wsX2_lift_r1 : List Cond := [Cond.classLink RX2 34 "java/lang/IllegalArgumentException", Cond.initialized "java/lang/IllegalArgumentException", Cond.fieldLink RX2 12 "CraneReach" "rig" "LCraneReach$Rig;", Cond.fieldLink RX2 48 "CraneReach" "load" "I", Cond.fieldLink RX2 85 "CraneReach" "lifts" "I", Cond.fieldLink RX2 88 "CraneReach" "tonsLifted" "I", Cond.methodLink RX2 30 yX2_isWithin, Cond.static yX2_isWithin, Cond.initialized RX2, Cond.code yX2_isWithin cX2_isWithin 3 (some .boolean), Cond.methodLink RX2 61 yX2_requireNoLoad, Cond.instanceMethod yX2_requireNoLoad, Cond.selects RX2 yX2_requireNoLoad yX2_requireNoLoad, Cond.code yX2_requireNoLoad cX2_requireNoLoad 1 none, Cond.classLink RX2 91 "java/lang/IllegalStateException", Cond.initialized "java/lang/IllegalStateException", Cond.methodLink RX2 51 yX2_requireSafe, Cond.instanceMethod yX2_requireSafe, Cond.selects RX2 yX2_requireSafe yX2_requireSafe, Cond.code yX2_requireSafe cX2_requireSafe 3 none, Cond.fieldLink RX2 98 "CraneReach" "direction" "I", Cond.fieldLink RX2 26 "CraneReach" "reach" "I", Cond.methodLink RX2 105 yX1_isSafe, Cond.instanceMethod yX1_isSafe]
def wsX2_lift_r2 : List Cond := [Cond.selects RX1 yX1_isSafe yX1_isSafe, Cond.initialized RX1, Cond.code yX1_isSafe cX1_isSafe 5 (some .boolean), Cond.methodLink RX1 30 yX1_allowed, Cond.instanceMethod yX1_allowed, Cond.selects RX1 yX1_allowed yX1_allowed, Cond.code yX1_allowed cX1_allowed 3 (some .int), Cond.fieldLink RX1 15 "CraneReach$Rig" "limits" "[I", Cond.methodLink RX1 36 yX1_strain, Cond.instanceMethod yX1_strain, Cond.selects RX1 yX1_strain yX1_strain, Cond.code yX1_strain cX1_strain 7 (some .int), Cond.fieldLink RX1 18 "CraneReach$Rig" "plates" "I", Cond.methodLink RX1 22 yX1_drawn, Cond.instanceMethod yX1_drawn, Cond.selects RX1 yX1_drawn yX1_drawn, Cond.code yX1_drawn cX1_drawn 2 (some .int), Cond.fieldLink RX1 9 "CraneReach$Rig" "outs" "[I", Cond.methodLink RX1 40 yX1_slant, Cond.static yX1_slant, Cond.code yX1_slant cX1_slant 2 (some .int)]
def wsX2_lift : List Cond := .code yX2_lift cX2_lift 2 (some .int) :: ((wsX2_lift_r1 ++ wsX2_lift_r2) ++ wsX20 ++ wsX10 ++ (vx_atS RX2 38 "java/lang/IllegalArgumentException" ["java/lang/RuntimeException", "java/lang/Exception"]).filter goodWord ++ (vx_atS RX2 95 "java/lang/IllegalStateException" ["java/lang/RuntimeException", "java/lang/Exception"]).filter goodWord)
def wsX2_setDown_r1 : List Cond := [Cond.classLink RX2 91 "java/lang/IllegalStateException", Cond.initialized "java/lang/IllegalStateException", Cond.fieldLink RX2 48 "CraneReach" "load" "I", Cond.fieldLink RX2 12 "CraneReach" "rig" "LCraneReach$Rig;", Cond.methodLink RX2 51 yX2_requireSafe, Cond.instanceMethod yX2_requireSafe, Cond.selects RX2 yX2_requireSafe yX2_requireSafe, Cond.initialized RX2, Cond.code yX2_requireSafe cX2_requireSafe 3 none, Cond.fieldLink RX2 98 "CraneReach" "direction" "I", Cond.fieldLink RX2 26 "CraneReach" "reach" "I", Cond.methodLink RX2 105 yX1_isSafe, Cond.instanceMethod yX1_isSafe, Cond.selects RX1 yX1_isSafe yX1_isSafe, Cond.initialized RX1, Cond.code yX1_isSafe cX1_isSafe 5 (some .boolean), Cond.methodLink RX1 30 yX1_allowed, Cond.instanceMethod yX1_allowed, Cond.selects RX1 yX1_allowed yX1_allowed, Cond.code yX1_allowed cX1_allowed 3 (some .int), Cond.fieldLink RX1 15 "CraneReach$Rig" "limits" "[I", Cond.methodLink RX1 36 yX1_strain, Cond.instanceMethod yX1_strain, Cond.selects RX1 yX1_strain yX1_strain]
def wsX2_setDown_r2 : List Cond := [Cond.code yX1_strain cX1_strain 7 (some .int), Cond.fieldLink RX1 18 "CraneReach$Rig" "plates" "I", Cond.methodLink RX1 22 yX1_drawn, Cond.instanceMethod yX1_drawn, Cond.selects RX1 yX1_drawn yX1_drawn, Cond.code yX1_drawn cX1_drawn 2 (some .int), Cond.fieldLink RX1 9 "CraneReach$Rig" "outs" "[I", Cond.methodLink RX1 40 yX1_slant, Cond.static yX1_slant, Cond.code yX1_slant cX1_slant 2 (some .int)]
def wsX2_setDown : List Cond := .code yX2_setDown cX2_setDown 2 (some .int) :: ((wsX2_setDown_r1 ++ wsX2_setDown_r2) ++ wsX20 ++ wsX10 ++ (vx_atS RX2 95 "java/lang/IllegalStateException" ["java/lang/RuntimeException", "java/lang/Exception"]).filter goodWord)
def wsX2_countMoves : List Cond := .code yX2_countMoves cX2_countMoves 2 none :: ([.fieldLink RX2 48 "CraneReach" "load" "I", .fieldLink RX2 121 "CraneReach" "movesWithLoad" "I"] ++ wsX20)
def wsX2_swing_r1 : List Cond := [Cond.classLink RX2 34 "java/lang/IllegalArgumentException", Cond.initialized "java/lang/IllegalArgumentException", Cond.fieldLink RX2 12 "CraneReach" "rig" "LCraneReach$Rig;", Cond.fieldLink RX2 48 "CraneReach" "load" "I", Cond.fieldLink RX2 98 "CraneReach" "direction" "I", Cond.fieldLink RX2 26 "CraneReach" "reach" "I", Cond.methodLink RX2 30 yX2_isWithin, Cond.static yX2_isWithin, Cond.initialized RX2, Cond.code yX2_isWithin cX2_isWithin 3 (some .boolean), Cond.methodLink RX2 101 yX2_turned, Cond.static yX2_turned, Cond.code yX2_turned cX2_turned 2 (some .int), Cond.methodLink RX2 105 yX1_isSafe, Cond.instanceMethod yX1_isSafe, Cond.selects RX1 yX1_isSafe yX1_isSafe, Cond.initialized RX1, Cond.code yX1_isSafe cX1_isSafe 5 (some .boolean), Cond.methodLink RX1 30 yX1_allowed, Cond.instanceMethod yX1_allowed, Cond.selects RX1 yX1_allowed yX1_allowed, Cond.code yX1_allowed cX1_allowed 3 (some .int), Cond.fieldLink RX1 15 "CraneReach$Rig" "limits" "[I", Cond.methodLink RX1 36 yX1_strain]
def wsX2_swing_r2 : List Cond := [Cond.instanceMethod yX1_strain, Cond.selects RX1 yX1_strain yX1_strain, Cond.code yX1_strain cX1_strain 7 (some .int), Cond.fieldLink RX1 18 "CraneReach$Rig" "plates" "I", Cond.methodLink RX1 22 yX1_drawn, Cond.instanceMethod yX1_drawn, Cond.selects RX1 yX1_drawn yX1_drawn, Cond.code yX1_drawn cX1_drawn 2 (some .int), Cond.fieldLink RX1 9 "CraneReach$Rig" "outs" "[I", Cond.methodLink RX1 40 yX1_slant, Cond.static yX1_slant, Cond.code yX1_slant cX1_slant 2 (some .int), Cond.methodLink RX2 108 yX2_countMoves, Cond.instanceMethod yX2_countMoves, Cond.selects RX2 yX2_countMoves yX2_countMoves, Cond.code yX2_countMoves cX2_countMoves 2 none, Cond.fieldLink RX2 121 "CraneReach" "movesWithLoad" "I"]
def wsX2_swing : List Cond := .code yX2_swing cX2_swing 5 (some .int) :: ((wsX2_swing_r1 ++ wsX2_swing_r2) ++ wsX20 ++ wsX10 ++ (vx_atS RX2 38 "java/lang/IllegalArgumentException" ["java/lang/RuntimeException", "java/lang/Exception"]).filter goodWord)
def wsX2_stretch_r1 : List Cond := [Cond.classLink RX2 34 "java/lang/IllegalArgumentException", Cond.initialized "java/lang/IllegalArgumentException", Cond.fieldLink RX2 26 "CraneReach" "reach" "I", Cond.fieldLink RX2 12 "CraneReach" "rig" "LCraneReach$Rig;", Cond.fieldLink RX2 48 "CraneReach" "load" "I", Cond.fieldLink RX2 98 "CraneReach" "direction" "I", Cond.methodLink RX2 30 yX2_isWithin, Cond.static yX2_isWithin, Cond.initialized RX2, Cond.code yX2_isWithin cX2_isWithin 3 (some .boolean), Cond.methodLink RX2 113 yX2_isReach, Cond.static yX2_isReach, Cond.code yX2_isReach cX2_isReach 1 (some .boolean), Cond.methodLink RX2 105 yX1_isSafe, Cond.instanceMethod yX1_isSafe, Cond.selects RX1 yX1_isSafe yX1_isSafe, Cond.initialized RX1, Cond.code yX1_isSafe cX1_isSafe 5 (some .boolean), Cond.methodLink RX1 30 yX1_allowed, Cond.instanceMethod yX1_allowed, Cond.selects RX1 yX1_allowed yX1_allowed, Cond.code yX1_allowed cX1_allowed 3 (some .int), Cond.fieldLink RX1 15 "CraneReach$Rig" "limits" "[I", Cond.methodLink RX1 36 yX1_strain]
def wsX2_stretch_r2 : List Cond := [Cond.instanceMethod yX1_strain, Cond.selects RX1 yX1_strain yX1_strain, Cond.code yX1_strain cX1_strain 7 (some .int), Cond.fieldLink RX1 18 "CraneReach$Rig" "plates" "I", Cond.methodLink RX1 22 yX1_drawn, Cond.instanceMethod yX1_drawn, Cond.selects RX1 yX1_drawn yX1_drawn, Cond.code yX1_drawn cX1_drawn 2 (some .int), Cond.fieldLink RX1 9 "CraneReach$Rig" "outs" "[I", Cond.methodLink RX1 40 yX1_slant, Cond.static yX1_slant, Cond.code yX1_slant cX1_slant 2 (some .int), Cond.methodLink RX2 108 yX2_countMoves, Cond.instanceMethod yX2_countMoves, Cond.selects RX2 yX2_countMoves yX2_countMoves, Cond.code yX2_countMoves cX2_countMoves 2 none, Cond.fieldLink RX2 121 "CraneReach" "movesWithLoad" "I"]
def wsX2_stretch : List Cond := .code yX2_stretch cX2_stretch 5 (some .int) :: ((wsX2_stretch_r1 ++ wsX2_stretch_r2) ++ wsX20 ++ wsX10 ++ (vx_atS RX2 38 "java/lang/IllegalArgumentException" ["java/lang/RuntimeException", "java/lang/Exception"]).filter goodWord)
def wsX2_direction : List Cond := .code yX2_direction cX2_direction 1 (some .int) :: ([.fieldLink RX2 98 "CraneReach" "direction" "I"] ++ wsX20)
def wsX2_reach : List Cond := .code yX2_reach cX2_reach 1 (some .int) :: ([.fieldLink RX2 26 "CraneReach" "reach" "I"] ++ wsX20)
def wsX2_load : List Cond := .code yX2_load cX2_load 1 (some .int) :: ([.fieldLink RX2 48 "CraneReach" "load" "I"] ++ wsX20)
def wsX2_plates : List Cond := .code yX2_plates cX2_plates 1 (some .int) :: ([.fieldLink RX2 12 "CraneReach" "rig" "LCraneReach$Rig;", .fieldLink RX2 45 "CraneReach$Rig" "plates" "I"] ++ wsX20 ++ wsX10)
def wsX2_outrigger : List Cond := .code yX2_outrigger cX2_outrigger 2 (some .int) :: ([.fieldLink RX2 12 "CraneReach" "rig" "LCraneReach$Rig;", .methodLink RX2 55 yX2_requireSide, .static yX2_requireSide, .initialized RX2, .code yX2_requireSide cX2_requireSide 1 none, .classLink RX2 159 "java/lang/IndexOutOfBoundsException", .initialized "java/lang/IndexOutOfBoundsException", .methodLink RX2 30 yX2_isWithin, .static yX2_isWithin, .code yX2_isWithin cX2_isWithin 3 (some .boolean), .methodLink RX2 68 yX1_drawn, .instanceMethod yX1_drawn, .selects RX1 yX1_drawn yX1_drawn, .initialized RX1, .code yX1_drawn cX1_drawn 2 (some .int), .fieldLink RX1 9 "CraneReach$Rig" "outs" "[I"] ++ wsX20 ++ wsX10 ++ (vx_atS RX2 163 "java/lang/IndexOutOfBoundsException" ["java/lang/RuntimeException", "java/lang/Exception"]).filter goodWord)
def wsX2_limitAt : List Cond := .code yX2_limitAt cX2_limitAt 2 (some .int) :: ([.fieldLink RX2 12 "CraneReach" "rig" "LCraneReach$Rig;", .methodLink RX2 72 yX2_requireReach, .static yX2_requireReach, .initialized RX2, .code yX2_requireReach cX2_requireReach 1 none, .classLink RX2 34 "java/lang/IllegalArgumentException", .initialized "java/lang/IllegalArgumentException", .methodLink RX2 113 yX2_isReach, .static yX2_isReach, .code yX2_isReach cX2_isReach 1 (some .boolean), .methodLink RX2 30 yX2_isWithin, .static yX2_isWithin, .code yX2_isWithin cX2_isWithin 3 (some .boolean), .methodLink RX2 80 yX1_allowed, .instanceMethod yX1_allowed, .selects RX1 yX1_allowed yX1_allowed, .initialized RX1, .code yX1_allowed cX1_allowed 3 (some .int), .fieldLink RX1 15 "CraneReach$Rig" "limits" "[I"] ++ wsX20 ++ wsX10 ++ (vx_atS RX2 38 "java/lang/IllegalArgumentException" ["java/lang/RuntimeException", "java/lang/Exception"]).filter goodWord)
def wsX2_strainOn_r1 : List Cond := [Cond.fieldLink RX2 12 "CraneReach" "rig" "LCraneReach$Rig;", Cond.fieldLink RX2 48 "CraneReach" "load" "I", Cond.fieldLink RX2 98 "CraneReach" "direction" "I", Cond.fieldLink RX2 26 "CraneReach" "reach" "I", Cond.methodLink RX2 55 yX2_requireSide, Cond.static yX2_requireSide, Cond.initialized RX2, Cond.code yX2_requireSide cX2_requireSide 1 none, Cond.classLink RX2 159 "java/lang/IndexOutOfBoundsException", Cond.initialized "java/lang/IndexOutOfBoundsException", Cond.methodLink RX2 30 yX2_isWithin, Cond.static yX2_isWithin, Cond.code yX2_isWithin cX2_isWithin 3 (some .boolean), Cond.methodLink RX2 117 yX1_strain, Cond.instanceMethod yX1_strain, Cond.selects RX1 yX1_strain yX1_strain, Cond.initialized RX1, Cond.code yX1_strain cX1_strain 7 (some .int), Cond.fieldLink RX1 18 "CraneReach$Rig" "plates" "I", Cond.methodLink RX1 22 yX1_drawn, Cond.instanceMethod yX1_drawn, Cond.selects RX1 yX1_drawn yX1_drawn, Cond.code yX1_drawn cX1_drawn 2 (some .int), Cond.fieldLink RX1 9 "CraneReach$Rig" "outs" "[I"]
def wsX2_strainOn_r2 : List Cond := [Cond.methodLink RX1 40 yX1_slant, Cond.static yX1_slant, Cond.code yX1_slant cX1_slant 2 (some .int)]
def wsX2_strainOn : List Cond := .code yX2_strainOn cX2_strainOn 2 (some .int) :: ((wsX2_strainOn_r1 ++ wsX2_strainOn_r2) ++ wsX20 ++ wsX10 ++ (vx_atS RX2 163 "java/lang/IndexOutOfBoundsException" ["java/lang/RuntimeException", "java/lang/Exception"]).filter goodWord)
def wsX2_weakestSide : List Cond := .code yX2_weakestSide cX2_weakestSide 5 (some .int) :: ([.fieldLink RX2 12 "CraneReach" "rig" "LCraneReach$Rig;", .fieldLink RX2 48 "CraneReach" "load" "I", .fieldLink RX2 98 "CraneReach" "direction" "I", .fieldLink RX2 26 "CraneReach" "reach" "I", .methodLink RX2 117 yX1_strain, .instanceMethod yX1_strain, .selects RX1 yX1_strain yX1_strain, .initialized RX1, .code yX1_strain cX1_strain 7 (some .int), .fieldLink RX1 18 "CraneReach$Rig" "plates" "I", .methodLink RX1 22 yX1_drawn, .instanceMethod yX1_drawn, .selects RX1 yX1_drawn yX1_drawn, .code yX1_drawn cX1_drawn 2 (some .int), .fieldLink RX1 9 "CraneReach$Rig" "outs" "[I", .methodLink RX1 40 yX1_slant, .static yX1_slant, .code yX1_slant cX1_slant 2 (some .int)] ++ wsX20 ++ wsX10)
def wsX2_lifts : List Cond := .code yX2_lifts cX2_lifts 1 (some .int) :: ([.fieldLink RX2 85 "CraneReach" "lifts" "I"] ++ wsX20)
def wsX2_tonsLifted : List Cond := .code yX2_tonsLifted cX2_tonsLifted 1 (some .int) :: ([.fieldLink RX2 88 "CraneReach" "tonsLifted" "I"] ++ wsX20)
def wsX2_movesWithLoad : List Cond := .code yX2_movesWithLoad cX2_movesWithLoad 1 (some .int) :: ([.fieldLink RX2 121 "CraneReach" "movesWithLoad" "I"] ++ wsX20)
def wsX2_requireDirection : List Cond := .code yX2_requireDirection cX2_requireDirection 1 none :: ([.classLink RX2 159 "java/lang/IndexOutOfBoundsException", .initialized "java/lang/IndexOutOfBoundsException", .methodLink RX2 30 yX2_isWithin, .static yX2_isWithin, .initialized RX2, .code yX2_isWithin cX2_isWithin 3 (some .boolean)] ++ (vx_atS RX2 163 "java/lang/IndexOutOfBoundsException" ["java/lang/RuntimeException", "java/lang/Exception"]).filter goodWord)
def wsX2_requireLoad : List Cond := .code yX2_requireLoad cX2_requireLoad 1 none :: ([.classLink RX2 34 "java/lang/IllegalArgumentException", .initialized "java/lang/IllegalArgumentException", .methodLink RX2 30 yX2_isWithin, .static yX2_isWithin, .initialized RX2, .code yX2_isWithin cX2_isWithin 3 (some .boolean)] ++ (vx_atS RX2 38 "java/lang/IllegalArgumentException" ["java/lang/RuntimeException", "java/lang/Exception"]).filter goodWord)
def wsX2_isSafeWith_r1 : List Cond := [Cond.fieldLink RX2 12 "CraneReach" "rig" "LCraneReach$Rig;", Cond.methodLink RX2 124 yX2_requireDirection, Cond.static yX2_requireDirection, Cond.initialized RX2, Cond.code yX2_requireDirection cX2_requireDirection 1 none, Cond.classLink RX2 159 "java/lang/IndexOutOfBoundsException", Cond.initialized "java/lang/IndexOutOfBoundsException", Cond.methodLink RX2 30 yX2_isWithin, Cond.static yX2_isWithin, Cond.code yX2_isWithin cX2_isWithin 3 (some .boolean), Cond.methodLink RX2 127 yX2_requireLoad, Cond.static yX2_requireLoad, Cond.code yX2_requireLoad cX2_requireLoad 1 none, Cond.classLink RX2 34 "java/lang/IllegalArgumentException", Cond.initialized "java/lang/IllegalArgumentException", Cond.methodLink RX2 72 yX2_requireReach, Cond.static yX2_requireReach, Cond.code yX2_requireReach cX2_requireReach 1 none, Cond.methodLink RX2 113 yX2_isReach, Cond.static yX2_isReach, Cond.code yX2_isReach cX2_isReach 1 (some .boolean), Cond.methodLink RX2 105 yX1_isSafe, Cond.instanceMethod yX1_isSafe, Cond.selects RX1 yX1_isSafe yX1_isSafe]
def wsX2_isSafeWith_r2 : List Cond := [Cond.initialized RX1, Cond.code yX1_isSafe cX1_isSafe 5 (some .boolean), Cond.methodLink RX1 30 yX1_allowed, Cond.instanceMethod yX1_allowed, Cond.selects RX1 yX1_allowed yX1_allowed, Cond.code yX1_allowed cX1_allowed 3 (some .int), Cond.fieldLink RX1 15 "CraneReach$Rig" "limits" "[I", Cond.methodLink RX1 36 yX1_strain, Cond.instanceMethod yX1_strain, Cond.selects RX1 yX1_strain yX1_strain, Cond.code yX1_strain cX1_strain 7 (some .int), Cond.fieldLink RX1 18 "CraneReach$Rig" "plates" "I", Cond.methodLink RX1 22 yX1_drawn, Cond.instanceMethod yX1_drawn, Cond.selects RX1 yX1_drawn yX1_drawn, Cond.code yX1_drawn cX1_drawn 2 (some .int), Cond.fieldLink RX1 9 "CraneReach$Rig" "outs" "[I", Cond.methodLink RX1 40 yX1_slant, Cond.static yX1_slant, Cond.code yX1_slant cX1_slant 2 (some .int)]
def wsX2_isSafeWith : List Cond := .code yX2_isSafeWith cX2_isSafeWith 4 (some .boolean) :: ((wsX2_isSafeWith_r1 ++ wsX2_isSafeWith_r2) ++ wsX20 ++ wsX10 ++ (vx_atS RX2 163 "java/lang/IndexOutOfBoundsException" ["java/lang/RuntimeException", "java/lang/Exception"]).filter goodWord ++ (vx_atS RX2 38 "java/lang/IllegalArgumentException" ["java/lang/RuntimeException", "java/lang/Exception"]).filter goodWord)
def wsX2_greatestLoad_r1 : List Cond := [Cond.fieldLink RX2 12 "CraneReach" "rig" "LCraneReach$Rig;", Cond.fieldLink RX2 98 "CraneReach" "direction" "I", Cond.fieldLink RX2 26 "CraneReach" "reach" "I", Cond.methodLink RX2 105 yX1_isSafe, Cond.instanceMethod yX1_isSafe, Cond.selects RX1 yX1_isSafe yX1_isSafe, Cond.initialized RX1, Cond.code yX1_isSafe cX1_isSafe 5 (some .boolean), Cond.methodLink RX1 30 yX1_allowed, Cond.instanceMethod yX1_allowed, Cond.selects RX1 yX1_allowed yX1_allowed, Cond.code yX1_allowed cX1_allowed 3 (some .int), Cond.fieldLink RX1 15 "CraneReach$Rig" "limits" "[I", Cond.methodLink RX1 36 yX1_strain, Cond.instanceMethod yX1_strain, Cond.selects RX1 yX1_strain yX1_strain, Cond.code yX1_strain cX1_strain 7 (some .int), Cond.fieldLink RX1 18 "CraneReach$Rig" "plates" "I", Cond.methodLink RX1 22 yX1_drawn, Cond.instanceMethod yX1_drawn, Cond.selects RX1 yX1_drawn yX1_drawn, Cond.code yX1_drawn cX1_drawn 2 (some .int), Cond.fieldLink RX1 9 "CraneReach$Rig" "outs" "[I", Cond.methodLink RX1 40 yX1_slant]
def wsX2_greatestLoad_r2 : List Cond := [Cond.static yX1_slant, Cond.code yX1_slant cX1_slant 2 (some .int)]
def wsX2_greatestLoad : List Cond := .code yX2_greatestLoad cX2_greatestLoad 2 (some .int) :: ((wsX2_greatestLoad_r1 ++ wsX2_greatestLoad_r2) ++ wsX20 ++ wsX10)
def wsX2_farthestReach_r1 : List Cond := [Cond.fieldLink RX2 12 "CraneReach" "rig" "LCraneReach$Rig;", Cond.methodLink RX2 124 yX2_requireDirection, Cond.static yX2_requireDirection, Cond.initialized RX2, Cond.code yX2_requireDirection cX2_requireDirection 1 none, Cond.classLink RX2 159 "java/lang/IndexOutOfBoundsException", Cond.initialized "java/lang/IndexOutOfBoundsException", Cond.methodLink RX2 30 yX2_isWithin, Cond.static yX2_isWithin, Cond.code yX2_isWithin cX2_isWithin 3 (some .boolean), Cond.methodLink RX2 127 yX2_requireLoad, Cond.static yX2_requireLoad, Cond.code yX2_requireLoad cX2_requireLoad 1 none, Cond.classLink RX2 34 "java/lang/IllegalArgumentException", Cond.initialized "java/lang/IllegalArgumentException", Cond.methodLink RX2 105 yX1_isSafe, Cond.instanceMethod yX1_isSafe, Cond.selects RX1 yX1_isSafe yX1_isSafe, Cond.initialized RX1, Cond.code yX1_isSafe cX1_isSafe 5 (some .boolean), Cond.methodLink RX1 30 yX1_allowed, Cond.instanceMethod yX1_allowed, Cond.selects RX1 yX1_allowed yX1_allowed, Cond.code yX1_allowed cX1_allowed 3 (some .int)]
def wsX2_farthestReach_r2 : List Cond := [Cond.fieldLink RX1 15 "CraneReach$Rig" "limits" "[I", Cond.methodLink RX1 36 yX1_strain, Cond.instanceMethod yX1_strain, Cond.selects RX1 yX1_strain yX1_strain, Cond.code yX1_strain cX1_strain 7 (some .int), Cond.fieldLink RX1 18 "CraneReach$Rig" "plates" "I", Cond.methodLink RX1 22 yX1_drawn, Cond.instanceMethod yX1_drawn, Cond.selects RX1 yX1_drawn yX1_drawn, Cond.code yX1_drawn cX1_drawn 2 (some .int), Cond.fieldLink RX1 9 "CraneReach$Rig" "outs" "[I", Cond.methodLink RX1 40 yX1_slant, Cond.static yX1_slant, Cond.code yX1_slant cX1_slant 2 (some .int)]
def wsX2_farthestReach : List Cond := .code yX2_farthestReach cX2_farthestReach 5 (some .int) :: ((wsX2_farthestReach_r1 ++ wsX2_farthestReach_r2) ++ wsX20 ++ wsX10 ++ (vx_atS RX2 163 "java/lang/IndexOutOfBoundsException" ["java/lang/RuntimeException", "java/lang/Exception"]).filter goodWord ++ (vx_atS RX2 38 "java/lang/IllegalArgumentException" ["java/lang/RuntimeException", "java/lang/Exception"]).filter goodWord)
def wsX2_safeDirections_r1 : List Cond := [Cond.fieldLink RX2 12 "CraneReach" "rig" "LCraneReach$Rig;", Cond.methodLink RX2 127 yX2_requireLoad, Cond.static yX2_requireLoad, Cond.initialized RX2, Cond.code yX2_requireLoad cX2_requireLoad 1 none, Cond.classLink RX2 34 "java/lang/IllegalArgumentException", Cond.initialized "java/lang/IllegalArgumentException", Cond.methodLink RX2 30 yX2_isWithin, Cond.static yX2_isWithin, Cond.code yX2_isWithin cX2_isWithin 3 (some .boolean), Cond.methodLink RX2 72 yX2_requireReach, Cond.static yX2_requireReach, Cond.code yX2_requireReach cX2_requireReach 1 none, Cond.methodLink RX2 113 yX2_isReach, Cond.static yX2_isReach, Cond.code yX2_isReach cX2_isReach 1 (some .boolean), Cond.methodLink RX2 105 yX1_isSafe, Cond.instanceMethod yX1_isSafe, Cond.selects RX1 yX1_isSafe yX1_isSafe, Cond.initialized RX1, Cond.code yX1_isSafe cX1_isSafe 5 (some .boolean), Cond.methodLink RX1 30 yX1_allowed, Cond.instanceMethod yX1_allowed, Cond.selects RX1 yX1_allowed yX1_allowed]
def wsX2_safeDirections_r2 : List Cond := [Cond.code yX1_allowed cX1_allowed 3 (some .int), Cond.fieldLink RX1 15 "CraneReach$Rig" "limits" "[I", Cond.methodLink RX1 36 yX1_strain, Cond.instanceMethod yX1_strain, Cond.selects RX1 yX1_strain yX1_strain, Cond.code yX1_strain cX1_strain 7 (some .int), Cond.fieldLink RX1 18 "CraneReach$Rig" "plates" "I", Cond.methodLink RX1 22 yX1_drawn, Cond.instanceMethod yX1_drawn, Cond.selects RX1 yX1_drawn yX1_drawn, Cond.code yX1_drawn cX1_drawn 2 (some .int), Cond.fieldLink RX1 9 "CraneReach$Rig" "outs" "[I", Cond.methodLink RX1 40 yX1_slant, Cond.static yX1_slant, Cond.code yX1_slant cX1_slant 2 (some .int)]
def wsX2_safeDirections : List Cond := .code yX2_safeDirections cX2_safeDirections 5 (some .int) :: ((wsX2_safeDirections_r1 ++ wsX2_safeDirections_r2) ++ wsX20 ++ wsX10 ++ (vx_atS RX2 38 "java/lang/IllegalArgumentException" ["java/lang/RuntimeException", "java/lang/Exception"]).filter goodWord)
def wsX2_platesNeeded_r1 : List Cond := [Cond.fieldLink RX2 16 "CraneReach" "trial" "LCraneReach$Rig;", Cond.fieldLink RX2 12 "CraneReach" "rig" "LCraneReach$Rig;", Cond.fieldLink RX2 45 "CraneReach$Rig" "plates" "I", Cond.methodLink RX2 124 yX2_requireDirection, Cond.static yX2_requireDirection, Cond.initialized RX2, Cond.code yX2_requireDirection cX2_requireDirection 1 none, Cond.classLink RX2 159 "java/lang/IndexOutOfBoundsException", Cond.initialized "java/lang/IndexOutOfBoundsException", Cond.methodLink RX2 30 yX2_isWithin, Cond.static yX2_isWithin, Cond.code yX2_isWithin cX2_isWithin 3 (some .boolean), Cond.methodLink RX2 127 yX2_requireLoad, Cond.static yX2_requireLoad, Cond.code yX2_requireLoad cX2_requireLoad 1 none, Cond.classLink RX2 34 "java/lang/IllegalArgumentException", Cond.initialized "java/lang/IllegalArgumentException", Cond.methodLink RX2 72 yX2_requireReach, Cond.static yX2_requireReach, Cond.code yX2_requireReach cX2_requireReach 1 none, Cond.methodLink RX2 113 yX2_isReach, Cond.static yX2_isReach, Cond.code yX2_isReach cX2_isReach 1 (some .boolean), Cond.methodLink RX2 41 yX1_becomeLike]
def wsX2_platesNeeded_r2 : List Cond := [Cond.instanceMethod yX1_becomeLike, Cond.selects RX1 yX1_becomeLike yX1_becomeLike, Cond.initialized RX1, Cond.code yX1_becomeLike cX1_becomeLike 3 none, Cond.fieldLink RX1 18 "CraneReach$Rig" "plates" "I", Cond.methodLink RX1 22 yX1_drawn, Cond.instanceMethod yX1_drawn, Cond.selects RX1 yX1_drawn yX1_drawn, Cond.code yX1_drawn cX1_drawn 2 (some .int), Cond.fieldLink RX1 9 "CraneReach$Rig" "outs" "[I", Cond.methodLink RX1 26 yX1_draw, Cond.instanceMethod yX1_draw, Cond.selects RX1 yX1_draw yX1_draw, Cond.code yX1_draw cX1_draw 3 none, Cond.methodLink RX1 30 yX1_allowed, Cond.instanceMethod yX1_allowed, Cond.selects RX1 yX1_allowed yX1_allowed, Cond.code yX1_allowed cX1_allowed 3 (some .int), Cond.fieldLink RX1 15 "CraneReach$Rig" "limits" "[I", Cond.methodLink RX1 33 yX1_allow, Cond.instanceMethod yX1_allow, Cond.selects RX1 yX1_allow yX1_allow, Cond.code yX1_allow cX1_allow 4 none, Cond.methodLink RX2 105 yX1_isSafe]
def wsX2_platesNeeded_r3 : List Cond := [Cond.instanceMethod yX1_isSafe, Cond.selects RX1 yX1_isSafe yX1_isSafe, Cond.code yX1_isSafe cX1_isSafe 5 (some .boolean), Cond.methodLink RX1 36 yX1_strain, Cond.instanceMethod yX1_strain, Cond.selects RX1 yX1_strain yX1_strain, Cond.code yX1_strain cX1_strain 7 (some .int), Cond.methodLink RX1 40 yX1_slant, Cond.static yX1_slant, Cond.code yX1_slant cX1_slant 2 (some .int)]
def wsX2_platesNeeded : List Cond := .code yX2_platesNeeded cX2_platesNeeded 5 (some .int) :: ((wsX2_platesNeeded_r1 ++ (wsX2_platesNeeded_r2 ++ wsX2_platesNeeded_r3)) ++ wsX20 ++ wsX10 ++ (vx_atS RX2 163 "java/lang/IndexOutOfBoundsException" ["java/lang/RuntimeException", "java/lang/Exception"]).filter goodWord ++ (vx_atS RX2 38 "java/lang/IllegalArgumentException" ["java/lang/RuntimeException", "java/lang/Exception"]).filter goodWord)
def wsX2_fewestMoves_r1 : List Cond := [Cond.fieldLink RX2 22 "CraneReach" "plan" "LCraneReach$Plan;", Cond.fieldLink RX2 12 "CraneReach" "rig" "LCraneReach$Rig;", Cond.fieldLink RX2 98 "CraneReach" "direction" "I", Cond.fieldLink RX2 26 "CraneReach" "reach" "I", Cond.methodLink RX2 124 yX2_requireDirection, Cond.static yX2_requireDirection, Cond.initialized RX2, Cond.code yX2_requireDirection cX2_requireDirection 1 none, Cond.classLink RX2 159 "java/lang/IndexOutOfBoundsException", Cond.initialized "java/lang/IndexOutOfBoundsException", Cond.methodLink RX2 30 yX2_isWithin, Cond.static yX2_isWithin, Cond.code yX2_isWithin cX2_isWithin 3 (some .boolean), Cond.methodLink RX2 127 yX2_requireLoad, Cond.static yX2_requireLoad, Cond.code yX2_requireLoad cX2_requireLoad 1 none, Cond.classLink RX2 34 "java/lang/IllegalArgumentException", Cond.initialized "java/lang/IllegalArgumentException", Cond.methodLink RX2 72 yX2_requireReach, Cond.static yX2_requireReach, Cond.code yX2_requireReach cX2_requireReach 1 none, Cond.methodLink RX2 113 yX2_isReach, Cond.static yX2_isReach, Cond.code yX2_isReach cX2_isReach 1 (some .boolean)]
def wsX2_fewestMoves_r2 : List Cond := [Cond.methodLink RX2 130 yX0_spread, Cond.instanceMethod yX0_spread, Cond.selects RX0 yX0_spread yX0_spread, Cond.initialized RX0, Cond.code yX0_spread cX0_spread 6 (some .int), Cond.fieldLink RX0 18 "CraneReach$Plan" "places" "I", Cond.fieldLink RX0 9 "CraneReach$Plan" "moves" "[I", Cond.fieldLink RX0 15 "CraneReach$Plan" "found" "[I", Cond.methodLink RX0 22 yX0_visit, Cond.instanceMethod yX0_visit, Cond.selects RX0 yX0_visit yX0_visit, Cond.code yX0_visit cX0_visit 7 none, Cond.methodLink RX0 30 yX0_placeOf, Cond.static yX0_placeOf, Cond.code yX0_placeOf cX0_placeOf 2 (some .int), Cond.methodLink RX0 37 yX1_isSafe, Cond.instanceMethod yX1_isSafe, Cond.selects RX1 yX1_isSafe yX1_isSafe, Cond.initialized RX1, Cond.code yX1_isSafe cX1_isSafe 5 (some .boolean), Cond.methodLink RX1 30 yX1_allowed, Cond.instanceMethod yX1_allowed, Cond.selects RX1 yX1_allowed yX1_allowed, Cond.code yX1_allowed cX1_allowed 3 (some .int)]
def wsX2_fewestMoves_r3 : List Cond := [Cond.fieldLink RX1 15 "CraneReach$Rig" "limits" "[I", Cond.methodLink RX1 36 yX1_strain, Cond.instanceMethod yX1_strain, Cond.selects RX1 yX1_strain yX1_strain, Cond.code yX1_strain cX1_strain 7 (some .int), Cond.fieldLink RX1 18 "CraneReach$Rig" "plates" "I", Cond.methodLink RX1 22 yX1_drawn, Cond.instanceMethod yX1_drawn, Cond.selects RX1 yX1_drawn yX1_drawn, Cond.code yX1_drawn cX1_drawn 2 (some .int), Cond.fieldLink RX1 9 "CraneReach$Rig" "outs" "[I", Cond.methodLink RX1 40 yX1_slant, Cond.static yX1_slant, Cond.code yX1_slant cX1_slant 2 (some .int), Cond.methodLink RX0 26 yX0_visitBeside, Cond.instanceMethod yX0_visitBeside, Cond.selects RX0 yX0_visitBeside yX0_visitBeside, Cond.code yX0_visitBeside cX0_visitBeside 7 none, Cond.static yX2_turned, Cond.code yX2_turned cX2_turned 2 (some .int), Cond.methodLink RX2 134 yX0_movesTo, Cond.instanceMethod yX0_movesTo, Cond.selects RX0 yX0_movesTo yX0_movesTo, Cond.code yX0_movesTo cX0_movesTo 4 (some .int)]
def wsX2_fewestMoves : List Cond := .code yX2_fewestMoves cX2_fewestMoves 4 (some .int) :: ((wsX2_fewestMoves_r1 ++ (wsX2_fewestMoves_r2 ++ wsX2_fewestMoves_r3)) ++ wsX20 ++ wsX00 ++ wsX10 ++ (vx_atS RX2 163 "java/lang/IndexOutOfBoundsException" ["java/lang/RuntimeException", "java/lang/Exception"]).filter goodWord ++ (vx_atS RX2 38 "java/lang/IllegalArgumentException" ["java/lang/RuntimeException", "java/lang/Exception"]).filter goodWord)
def wsX2_placesWithin_r1 : List Cond := [Cond.fieldLink RX2 22 "CraneReach" "plan" "LCraneReach$Plan;", Cond.fieldLink RX2 12 "CraneReach" "rig" "LCraneReach$Rig;", Cond.fieldLink RX2 98 "CraneReach" "direction" "I", Cond.fieldLink RX2 26 "CraneReach" "reach" "I", Cond.methodLink RX2 127 yX2_requireLoad, Cond.static yX2_requireLoad, Cond.initialized RX2, Cond.code yX2_requireLoad cX2_requireLoad 1 none, Cond.classLink RX2 34 "java/lang/IllegalArgumentException", Cond.initialized "java/lang/IllegalArgumentException", Cond.methodLink RX2 30 yX2_isWithin, Cond.static yX2_isWithin, Cond.code yX2_isWithin cX2_isWithin 3 (some .boolean), Cond.methodLink RX2 130 yX0_spread, Cond.instanceMethod yX0_spread, Cond.selects RX0 yX0_spread yX0_spread, Cond.initialized RX0, Cond.code yX0_spread cX0_spread 6 (some .int), Cond.fieldLink RX0 18 "CraneReach$Plan" "places" "I", Cond.fieldLink RX0 9 "CraneReach$Plan" "moves" "[I", Cond.fieldLink RX0 15 "CraneReach$Plan" "found" "[I", Cond.methodLink RX0 22 yX0_visit, Cond.instanceMethod yX0_visit, Cond.selects RX0 yX0_visit yX0_visit]
def wsX2_placesWithin_r2 : List Cond := [Cond.code yX0_visit cX0_visit 7 none, Cond.methodLink RX0 30 yX0_placeOf, Cond.static yX0_placeOf, Cond.code yX0_placeOf cX0_placeOf 2 (some .int), Cond.static yX2_isReach, Cond.code yX2_isReach cX2_isReach 1 (some .boolean), Cond.methodLink RX0 37 yX1_isSafe, Cond.instanceMethod yX1_isSafe, Cond.selects RX1 yX1_isSafe yX1_isSafe, Cond.initialized RX1, Cond.code yX1_isSafe cX1_isSafe 5 (some .boolean), Cond.methodLink RX1 30 yX1_allowed, Cond.instanceMethod yX1_allowed, Cond.selects RX1 yX1_allowed yX1_allowed, Cond.code yX1_allowed cX1_allowed 3 (some .int), Cond.fieldLink RX1 15 "CraneReach$Rig" "limits" "[I", Cond.methodLink RX1 36 yX1_strain, Cond.instanceMethod yX1_strain, Cond.selects RX1 yX1_strain yX1_strain, Cond.code yX1_strain cX1_strain 7 (some .int), Cond.fieldLink RX1 18 "CraneReach$Rig" "plates" "I", Cond.methodLink RX1 22 yX1_drawn, Cond.instanceMethod yX1_drawn, Cond.selects RX1 yX1_drawn yX1_drawn]
def wsX2_placesWithin_r3 : List Cond := [Cond.code yX1_drawn cX1_drawn 2 (some .int), Cond.fieldLink RX1 9 "CraneReach$Rig" "outs" "[I", Cond.methodLink RX1 40 yX1_slant, Cond.static yX1_slant, Cond.code yX1_slant cX1_slant 2 (some .int), Cond.methodLink RX0 26 yX0_visitBeside, Cond.instanceMethod yX0_visitBeside, Cond.selects RX0 yX0_visitBeside yX0_visitBeside, Cond.code yX0_visitBeside cX0_visitBeside 7 none, Cond.static yX2_turned, Cond.code yX2_turned cX2_turned 2 (some .int)]
def wsX2_placesWithin : List Cond := .code yX2_placesWithin cX2_placesWithin 2 (some .int) :: ((wsX2_placesWithin_r1 ++ (wsX2_placesWithin_r2 ++ wsX2_placesWithin_r3)) ++ wsX20 ++ wsX00 ++ wsX10 ++ (vx_atS RX2 38 "java/lang/IllegalArgumentException" ["java/lang/RuntimeException", "java/lang/Exception"]).filter goodWord)
def wsX2_bestOutrigger_r1 : List Cond := [Cond.fieldLink RX2 12 "CraneReach" "rig" "LCraneReach$Rig;", Cond.fieldLink RX2 16 "CraneReach" "trial" "LCraneReach$Rig;", Cond.fieldLink RX2 22 "CraneReach" "plan" "LCraneReach$Plan;", Cond.fieldLink RX2 98 "CraneReach" "direction" "I", Cond.fieldLink RX2 26 "CraneReach" "reach" "I", Cond.methodLink RX2 127 yX2_requireLoad, Cond.static yX2_requireLoad, Cond.initialized RX2, Cond.code yX2_requireLoad cX2_requireLoad 1 none, Cond.classLink RX2 34 "java/lang/IllegalArgumentException", Cond.initialized "java/lang/IllegalArgumentException", Cond.methodLink RX2 30 yX2_isWithin, Cond.static yX2_isWithin, Cond.code yX2_isWithin cX2_isWithin 3 (some .boolean), Cond.methodLink RX2 68 yX1_drawn, Cond.instanceMethod yX1_drawn, Cond.selects RX1 yX1_drawn yX1_drawn, Cond.initialized RX1, Cond.code yX1_drawn cX1_drawn 2 (some .int), Cond.fieldLink RX1 9 "CraneReach$Rig" "outs" "[I", Cond.methodLink RX2 41 yX1_becomeLike, Cond.instanceMethod yX1_becomeLike, Cond.selects RX1 yX1_becomeLike yX1_becomeLike, Cond.code yX1_becomeLike cX1_becomeLike 3 none]
def wsX2_bestOutrigger_r2 : List Cond := [Cond.fieldLink RX1 18 "CraneReach$Rig" "plates" "I", Cond.methodLink RX1 22 yX1_drawn, Cond.methodLink RX1 26 yX1_draw, Cond.instanceMethod yX1_draw, Cond.selects RX1 yX1_draw yX1_draw, Cond.code yX1_draw cX1_draw 3 none, Cond.methodLink RX1 30 yX1_allowed, Cond.instanceMethod yX1_allowed, Cond.selects RX1 yX1_allowed yX1_allowed, Cond.code yX1_allowed cX1_allowed 3 (some .int), Cond.fieldLink RX1 15 "CraneReach$Rig" "limits" "[I", Cond.methodLink RX1 33 yX1_allow, Cond.instanceMethod yX1_allow, Cond.selects RX1 yX1_allow yX1_allow, Cond.code yX1_allow cX1_allow 4 none, Cond.methodLink RX2 64 yX1_draw, Cond.methodLink RX2 130 yX0_spread, Cond.instanceMethod yX0_spread, Cond.selects RX0 yX0_spread yX0_spread, Cond.initialized RX0, Cond.code yX0_spread cX0_spread 6 (some .int), Cond.fieldLink RX0 18 "CraneReach$Plan" "places" "I", Cond.fieldLink RX0 9 "CraneReach$Plan" "moves" "[I", Cond.fieldLink RX0 15 "CraneReach$Plan" "found" "[I"]
def wsX2_bestOutrigger_r3 : List Cond := [Cond.methodLink RX0 22 yX0_visit, Cond.instanceMethod yX0_visit, Cond.selects RX0 yX0_visit yX0_visit, Cond.code yX0_visit cX0_visit 7 none, Cond.methodLink RX0 30 yX0_placeOf, Cond.static yX0_placeOf, Cond.code yX0_placeOf cX0_placeOf 2 (some .int), Cond.static yX2_isReach, Cond.code yX2_isReach cX2_isReach 1 (some .boolean), Cond.methodLink RX0 37 yX1_isSafe, Cond.instanceMethod yX1_isSafe, Cond.selects RX1 yX1_isSafe yX1_isSafe, Cond.code yX1_isSafe cX1_isSafe 5 (some .boolean), Cond.methodLink RX1 36 yX1_strain, Cond.instanceMethod yX1_strain, Cond.selects RX1 yX1_strain yX1_strain, Cond.code yX1_strain cX1_strain 7 (some .int), Cond.methodLink RX1 40 yX1_slant, Cond.static yX1_slant, Cond.code yX1_slant cX1_slant 2 (some .int), Cond.methodLink RX0 26 yX0_visitBeside, Cond.instanceMethod yX0_visitBeside, Cond.selects RX0 yX0_visitBeside yX0_visitBeside, Cond.code yX0_visitBeside cX0_visitBeside 7 none]
def wsX2_bestOutrigger_r4 : List Cond := [Cond.static yX2_turned, Cond.code yX2_turned cX2_turned 2 (some .int)]
def wsX2_bestOutrigger : List Cond := .code yX2_bestOutrigger cX2_bestOutrigger 7 (some .int) :: ((wsX2_bestOutrigger_r1 ++ (wsX2_bestOutrigger_r2 ++ (wsX2_bestOutrigger_r3 ++ wsX2_bestOutrigger_r4))) ++ wsX20 ++ wsX10 ++ wsX00 ++ (vx_atS RX2 38 "java/lang/IllegalArgumentException" ["java/lang/RuntimeException", "java/lang/Exception"]).filter goodWord)
def wsX2_meanLoad : List Cond := .code yX2_meanLoad cX2_meanLoad 1 (some .double) :: ([.fieldLink RX2 85 "CraneReach" "lifts" "I", .fieldLink RX2 88 "CraneReach" "tonsLifted" "I"] ++ wsX20)
def wsX2_mixed : List Cond := .code yX2_mixed cX2_mixed 3 (some .long) :: ([.constantLong RX2 153 (31)])
def wsX2_digest_r1 : List Cond := [Cond.constantLong RX2 137 (1907), Cond.fieldLink RX2 98 "CraneReach" "direction" "I", Cond.fieldLink RX2 26 "CraneReach" "reach" "I", Cond.fieldLink RX2 48 "CraneReach" "load" "I", Cond.fieldLink RX2 12 "CraneReach" "rig" "LCraneReach$Rig;", Cond.fieldLink RX2 45 "CraneReach$Rig" "plates" "I", Cond.fieldLink RX2 85 "CraneReach" "lifts" "I", Cond.fieldLink RX2 88 "CraneReach" "tonsLifted" "I", Cond.fieldLink RX2 121 "CraneReach" "movesWithLoad" "I", Cond.methodLink RX2 139 yX2_mixed, Cond.static yX2_mixed, Cond.initialized RX2, Cond.code yX2_mixed cX2_mixed 3 (some .long), Cond.constantLong RX2 153 (31), Cond.methodLink RX2 143 yX2_weakestSide, Cond.instanceMethod yX2_weakestSide, Cond.selects RX2 yX2_weakestSide yX2_weakestSide, Cond.code yX2_weakestSide cX2_weakestSide 5 (some .int), Cond.methodLink RX2 117 yX1_strain, Cond.instanceMethod yX1_strain, Cond.selects RX1 yX1_strain yX1_strain, Cond.initialized RX1, Cond.code yX1_strain cX1_strain 7 (some .int), Cond.fieldLink RX1 18 "CraneReach$Rig" "plates" "I"]
def wsX2_digest_r2 : List Cond := [Cond.methodLink RX1 22 yX1_drawn, Cond.instanceMethod yX1_drawn, Cond.selects RX1 yX1_drawn yX1_drawn, Cond.code yX1_drawn cX1_drawn 2 (some .int), Cond.fieldLink RX1 9 "CraneReach$Rig" "outs" "[I", Cond.methodLink RX1 40 yX1_slant, Cond.static yX1_slant, Cond.code yX1_slant cX1_slant 2 (some .int), Cond.methodLink RX2 147 yX2_greatestLoad, Cond.instanceMethod yX2_greatestLoad, Cond.selects RX2 yX2_greatestLoad yX2_greatestLoad, Cond.code yX2_greatestLoad cX2_greatestLoad 2 (some .int), Cond.methodLink RX2 105 yX1_isSafe, Cond.instanceMethod yX1_isSafe, Cond.selects RX1 yX1_isSafe yX1_isSafe, Cond.code yX1_isSafe cX1_isSafe 5 (some .boolean), Cond.methodLink RX1 30 yX1_allowed, Cond.instanceMethod yX1_allowed, Cond.selects RX1 yX1_allowed yX1_allowed, Cond.code yX1_allowed cX1_allowed 3 (some .int), Cond.fieldLink RX1 15 "CraneReach$Rig" "limits" "[I", Cond.methodLink RX1 36 yX1_strain, Cond.methodLink RX2 68 yX1_drawn, Cond.methodLink RX2 80 yX1_allowed]
def wsX2_digest_r3 : List Cond := [Cond.methodLink RX2 150 yX2_safeDirections, Cond.instanceMethod yX2_safeDirections, Cond.selects RX2 yX2_safeDirections yX2_safeDirections, Cond.code yX2_safeDirections cX2_safeDirections 5 (some .int), Cond.methodLink RX2 127 yX2_requireLoad, Cond.static yX2_requireLoad, Cond.code yX2_requireLoad cX2_requireLoad 1 none, Cond.classLink RX2 34 "java/lang/IllegalArgumentException", Cond.initialized "java/lang/IllegalArgumentException", Cond.methodLink RX2 30 yX2_isWithin, Cond.static yX2_isWithin, Cond.code yX2_isWithin cX2_isWithin 3 (some .boolean), Cond.methodLink RX2 72 yX2_requireReach, Cond.static yX2_requireReach, Cond.code yX2_requireReach cX2_requireReach 1 none, Cond.methodLink RX2 113 yX2_isReach, Cond.static yX2_isReach, Cond.code yX2_isReach cX2_isReach 1 (some .boolean)]
def wsX2_digest : List Cond := .code yX2_digest cX2_digest 4 (some .long) :: ((wsX2_digest_r1 ++ (wsX2_digest_r2 ++ wsX2_digest_r3)) ++ wsX20 ++ wsX10 ++ (vx_atS RX2 38 "java/lang/IllegalArgumentException" ["java/lang/RuntimeException", "java/lang/Exception"]).filter goodWord)
def wsX3_init : List Cond := .code yX3_init cX3_init 2 none :: ([.methodLink RX3 3 objectInit, .instanceMethod objectInit, .code objectInit ⟨#[0xb1]⟩ 1 none, .fieldLink RX3 9 "CraneReachModel" "reach" "I", .arrayClass .int, .fieldLink RX3 13 "CraneReachModel" "out" "[I", .fieldLink RX3 17 "CraneReachModel" "limit" "[I", .fieldLink RX3 20 "CraneReachModel" "away" "[I", .fieldLink RX3 23 "CraneReachModel" "queue" "[I"] ++ wsX30)
def wsX3_thrown : List Cond := .code yX3_thrown cX3_thrown 1 (some .int) :: ([.fieldLink RX3 26 "CraneReachModel" "thrown" "I"] ++ wsX30)
def wsX3_no : List Cond := .code yX3_no cX3_no 2 (some .int) :: ([.fieldLink RX3 26 "CraneReachModel" "thrown" "I"] ++ wsX30)
def wsX3_isNot : List Cond := .code yX3_isNot cX3_isNot 2 (some .boolean) :: ([.fieldLink RX3 26 "CraneReachModel" "thrown" "I"] ++ wsX30)
def wsX3_isIn : List Cond := .code yX3_isIn cX3_isIn 3 (some .boolean) :: ([])
def wsX3_isSide : List Cond := .code yX3_isSide cX3_isSide 1 (some .boolean) :: ([.methodLink RX3 29 yX3_isIn, .static yX3_isIn, .initialized RX3, .code yX3_isIn cX3_isIn 3 (some .boolean)])
def wsX3_isDirection : List Cond := .code yX3_isDirection cX3_isDirection 1 (some .boolean) :: ([.methodLink RX3 29 yX3_isIn, .static yX3_isIn, .initialized RX3, .code yX3_isIn cX3_isIn 3 (some .boolean)])
def wsX3_isReach : List Cond := .code yX3_isReach cX3_isReach 1 (some .boolean) :: ([.methodLink RX3 29 yX3_isIn, .static yX3_isIn, .initialized RX3, .code yX3_isIn cX3_isIn 3 (some .boolean)])
def wsX3_isLoad : List Cond := .code yX3_isLoad cX3_isLoad 1 (some .boolean) :: ([.methodLink RX3 29 yX3_isIn, .static yX3_isIn, .initialized RX3, .code yX3_isIn cX3_isIn 3 (some .boolean)])
def wsX3_strain : List Cond := .code yX3_strain cX3_strain 8 (some .int) :: ([.methodLink RX3 33 Lib.Math.abs.name, .static Lib.Math.abs.name, .initialized "java/lang/Math", .code Lib.Math.abs.name Lib.Math.abs.code 1 (some .int), .fieldLink RX3 39 "CraneReachModel" "SLANT" "[I", .methodLink RX3 42 Lib.Math.min.name, .static Lib.Math.min.name, .code Lib.Math.min.name Lib.Math.min.code 2 (some .int), .fieldLink RX3 13 "CraneReachModel" "out" "[I", .fieldLink RX3 46 "CraneReachModel" "plates" "I"] ++ wsX30)
def wsX3_isSafe : List Cond := .code yX3_isSafe cX3_isSafe 5 (some .boolean) :: ([.fieldLink RX3 17 "CraneReachModel" "limit" "[I", .methodLink RX3 49 yX3_strain, .instanceMethod yX3_strain, .selects RX3 yX3_strain yX3_strain, .initialized RX3, .code yX3_strain cX3_strain 8 (some .int), .methodLink RX3 33 Lib.Math.abs.name, .static Lib.Math.abs.name, .initialized "java/lang/Math", .code Lib.Math.abs.name Lib.Math.abs.code 1 (some .int), .fieldLink RX3 39 "CraneReachModel" "SLANT" "[I", .methodLink RX3 42 Lib.Math.min.name, .static Lib.Math.min.name, .code Lib.Math.min.name Lib.Math.min.code 2 (some .int), .fieldLink RX3 13 "CraneReachModel" "out" "[I", .fieldLink RX3 46 "CraneReachModel" "plates" "I"] ++ wsX30)
def wsX3_isSafe_ : List Cond := .code yX3_isSafe_ cX3_isSafe_ 1 (some .boolean) :: ([.fieldLink RX3 53 "CraneReachModel" "load" "I", .fieldLink RX3 56 "CraneReachModel" "direction" "I", .fieldLink RX3 9 "CraneReachModel" "reach" "I", .methodLink RX3 59 yX3_isSafe, .instanceMethod yX3_isSafe, .selects RX3 yX3_isSafe yX3_isSafe, .initialized RX3, .code yX3_isSafe cX3_isSafe 5 (some .boolean), .fieldLink RX3 17 "CraneReachModel" "limit" "[I", .methodLink RX3 49 yX3_strain, .instanceMethod yX3_strain, .selects RX3 yX3_strain yX3_strain, .code yX3_strain cX3_strain 8 (some .int), .methodLink RX3 33 Lib.Math.abs.name, .static Lib.Math.abs.name, .initialized "java/lang/Math", .code Lib.Math.abs.name Lib.Math.abs.code 1 (some .int), .fieldLink RX3 39 "CraneReachModel" "SLANT" "[I", .methodLink RX3 42 Lib.Math.min.name, .static Lib.Math.min.name, .code Lib.Math.min.name Lib.Math.min.code 2 (some .int), .fieldLink RX3 13 "CraneReachModel" "out" "[I", .fieldLink RX3 46 "CraneReachModel" "plates" "I"] ++ wsX30)
def wsX3_setPlates_r1 : List Cond := [Cond.fieldLink RX3 26 "CraneReachModel" "thrown" "I", Cond.fieldLink RX3 46 "CraneReachModel" "plates" "I", Cond.methodLink RX3 29 yX3_isIn, Cond.static yX3_isIn, Cond.initialized RX3, Cond.code yX3_isIn cX3_isIn 3 (some .boolean), Cond.methodLink RX3 62 yX3_no, Cond.instanceMethod yX3_no, Cond.selects RX3 yX3_no yX3_no, Cond.code yX3_no cX3_no 2 (some .int), Cond.methodLink RX3 65 yX3_isSafe_, Cond.instanceMethod yX3_isSafe_, Cond.selects RX3 yX3_isSafe_ yX3_isSafe_, Cond.code yX3_isSafe_ cX3_isSafe_ 1 (some .boolean), Cond.fieldLink RX3 53 "CraneReachModel" "load" "I", Cond.fieldLink RX3 56 "CraneReachModel" "direction" "I", Cond.fieldLink RX3 9 "CraneReachModel" "reach" "I", Cond.methodLink RX3 59 yX3_isSafe, Cond.instanceMethod yX3_isSafe, Cond.selects RX3 yX3_isSafe yX3_isSafe, Cond.code yX3_isSafe cX3_isSafe 5 (some .boolean), Cond.fieldLink RX3 17 "CraneReachModel" "limit" "[I", Cond.methodLink RX3 49 yX3_strain, Cond.instanceMethod yX3_strain]
def wsX3_setPlates_r2 : List Cond := [Cond.selects RX3 yX3_strain yX3_strain, Cond.code yX3_strain cX3_strain 8 (some .int), Cond.methodLink RX3 33 Lib.Math.abs.name, Cond.static Lib.Math.abs.name, Cond.initialized "java/lang/Math", Cond.code Lib.Math.abs.name Lib.Math.abs.code 1 (some .int), Cond.fieldLink RX3 39 "CraneReachModel" "SLANT" "[I", Cond.methodLink RX3 42 Lib.Math.min.name, Cond.static Lib.Math.min.name, Cond.code Lib.Math.min.name Lib.Math.min.code 2 (some .int), Cond.fieldLink RX3 13 "CraneReachModel" "out" "[I"]
def wsX3_setPlates : List Cond := .code yX3_setPlates cX3_setPlates 3 (some .int) :: ((wsX3_setPlates_r1 ++ wsX3_setPlates_r2) ++ wsX30)
def wsX3_setOutrigger_r1 : List Cond := [Cond.fieldLink RX3 26 "CraneReachModel" "thrown" "I", Cond.fieldLink RX3 13 "CraneReachModel" "out" "[I", Cond.fieldLink RX3 53 "CraneReachModel" "load" "I", Cond.methodLink RX3 68 yX3_isSide, Cond.static yX3_isSide, Cond.initialized RX3, Cond.code yX3_isSide cX3_isSide 1 (some .boolean), Cond.methodLink RX3 29 yX3_isIn, Cond.static yX3_isIn, Cond.code yX3_isIn cX3_isIn 3 (some .boolean), Cond.methodLink RX3 62 yX3_no, Cond.instanceMethod yX3_no, Cond.selects RX3 yX3_no yX3_no, Cond.code yX3_no cX3_no 2 (some .int), Cond.methodLink RX3 65 yX3_isSafe_, Cond.instanceMethod yX3_isSafe_, Cond.selects RX3 yX3_isSafe_ yX3_isSafe_, Cond.code yX3_isSafe_ cX3_isSafe_ 1 (some .boolean), Cond.fieldLink RX3 56 "CraneReachModel" "direction" "I", Cond.fieldLink RX3 9 "CraneReachModel" "reach" "I", Cond.methodLink RX3 59 yX3_isSafe, Cond.instanceMethod yX3_isSafe, Cond.selects RX3 yX3_isSafe yX3_isSafe, Cond.code yX3_isSafe cX3_isSafe 5 (some .boolean)]
def wsX3_setOutrigger_r2 : List Cond := [Cond.fieldLink RX3 17 "CraneReachModel" "limit" "[I", Cond.methodLink RX3 49 yX3_strain, Cond.instanceMethod yX3_strain, Cond.selects RX3 yX3_strain yX3_strain, Cond.code yX3_strain cX3_strain 8 (some .int), Cond.methodLink RX3 33 Lib.Math.abs.name, Cond.static Lib.Math.abs.name, Cond.initialized "java/lang/Math", Cond.code Lib.Math.abs.name Lib.Math.abs.code 1 (some .int), Cond.fieldLink RX3 39 "CraneReachModel" "SLANT" "[I", Cond.methodLink RX3 42 Lib.Math.min.name, Cond.static Lib.Math.min.name, Cond.code Lib.Math.min.name Lib.Math.min.code 2 (some .int), Cond.fieldLink RX3 46 "CraneReachModel" "plates" "I"]
def wsX3_setOutrigger : List Cond := .code yX3_setOutrigger cX3_setOutrigger 4 (some .int) :: ((wsX3_setOutrigger_r1 ++ wsX3_setOutrigger_r2) ++ wsX30)
def wsX3_setLimit : List Cond := .code yX3_setLimit cX3_setLimit 4 (some .int) :: ([.fieldLink RX3 26 "CraneReachModel" "thrown" "I", .fieldLink RX3 9 "CraneReachModel" "reach" "I", .fieldLink RX3 53 "CraneReachModel" "load" "I", .fieldLink RX3 17 "CraneReachModel" "limit" "[I", .methodLink RX3 72 yX3_isReach, .static yX3_isReach, .initialized RX3, .code yX3_isReach cX3_isReach 1 (some .boolean), .methodLink RX3 29 yX3_isIn, .static yX3_isIn, .code yX3_isIn cX3_isIn 3 (some .boolean), .methodLink RX3 75 yX3_isLoad, .static yX3_isLoad, .code yX3_isLoad cX3_isLoad 1 (some .boolean), .methodLink RX3 62 yX3_no, .instanceMethod yX3_no, .selects RX3 yX3_no yX3_no, .code yX3_no cX3_no 2 (some .int)] ++ wsX30)
def wsX3_lift_r1 : List Cond := [Cond.fieldLink RX3 26 "CraneReachModel" "thrown" "I", Cond.fieldLink RX3 53 "CraneReachModel" "load" "I", Cond.fieldLink RX3 56 "CraneReachModel" "direction" "I", Cond.fieldLink RX3 9 "CraneReachModel" "reach" "I", Cond.fieldLink RX3 78 "CraneReachModel" "lifts" "I", Cond.fieldLink RX3 81 "CraneReachModel" "tons" "I", Cond.methodLink RX3 29 yX3_isIn, Cond.static yX3_isIn, Cond.initialized RX3, Cond.code yX3_isIn cX3_isIn 3 (some .boolean), Cond.methodLink RX3 62 yX3_no, Cond.instanceMethod yX3_no, Cond.selects RX3 yX3_no yX3_no, Cond.code yX3_no cX3_no 2 (some .int), Cond.methodLink RX3 59 yX3_isSafe, Cond.instanceMethod yX3_isSafe, Cond.selects RX3 yX3_isSafe yX3_isSafe, Cond.code yX3_isSafe cX3_isSafe 5 (some .boolean), Cond.fieldLink RX3 17 "CraneReachModel" "limit" "[I", Cond.methodLink RX3 49 yX3_strain, Cond.instanceMethod yX3_strain, Cond.selects RX3 yX3_strain yX3_strain, Cond.code yX3_strain cX3_strain 8 (some .int), Cond.methodLink RX3 33 Lib.Math.abs.name]
def wsX3_lift_r2 : List Cond := [Cond.static Lib.Math.abs.name, Cond.initialized "java/lang/Math", Cond.code Lib.Math.abs.name Lib.Math.abs.code 1 (some .int), Cond.fieldLink RX3 39 "CraneReachModel" "SLANT" "[I", Cond.methodLink RX3 42 Lib.Math.min.name, Cond.static Lib.Math.min.name, Cond.code Lib.Math.min.name Lib.Math.min.code 2 (some .int), Cond.fieldLink RX3 13 "CraneReachModel" "out" "[I", Cond.fieldLink RX3 46 "CraneReachModel" "plates" "I"]
def wsX3_lift : List Cond := .code yX3_lift cX3_lift 2 (some .int) :: ((wsX3_lift_r1 ++ wsX3_lift_r2) ++ wsX30)
def wsX3_setDown_r1 : List Cond := [Cond.fieldLink RX3 26 "CraneReachModel" "thrown" "I", Cond.fieldLink RX3 53 "CraneReachModel" "load" "I", Cond.fieldLink RX3 56 "CraneReachModel" "direction" "I", Cond.fieldLink RX3 9 "CraneReachModel" "reach" "I", Cond.methodLink RX3 59 yX3_isSafe, Cond.instanceMethod yX3_isSafe, Cond.selects RX3 yX3_isSafe yX3_isSafe, Cond.initialized RX3, Cond.code yX3_isSafe cX3_isSafe 5 (some .boolean), Cond.fieldLink RX3 17 "CraneReachModel" "limit" "[I", Cond.methodLink RX3 49 yX3_strain, Cond.instanceMethod yX3_strain, Cond.selects RX3 yX3_strain yX3_strain, Cond.code yX3_strain cX3_strain 8 (some .int), Cond.methodLink RX3 33 Lib.Math.abs.name, Cond.static Lib.Math.abs.name, Cond.initialized "java/lang/Math", Cond.code Lib.Math.abs.name Lib.Math.abs.code 1 (some .int), Cond.fieldLink RX3 39 "CraneReachModel" "SLANT" "[I", Cond.methodLink RX3 42 Lib.Math.min.name, Cond.static Lib.Math.min.name, Cond.code Lib.Math.min.name Lib.Math.min.code 2 (some .int), Cond.fieldLink RX3 13 "CraneReachModel" "out" "[I", Cond.fieldLink RX3 46 "CraneReachModel" "plates" "I"]
def wsX3_setDown_r2 : List Cond := [Cond.methodLink RX3 62 yX3_no, Cond.instanceMethod yX3_no, Cond.selects RX3 yX3_no yX3_no, Cond.code yX3_no cX3_no 2 (some .int)]
def wsX3_setDown : List Cond := .code yX3_setDown cX3_setDown 2 (some .int) :: ((wsX3_setDown_r1 ++ wsX3_setDown_r2) ++ wsX30)
def wsX3_moved : List Cond := .code yX3_moved cX3_moved 1 none :: ([.fieldLink RX3 84 "CraneReachModel" "moves" "I", .fieldLink RX3 53 "CraneReachModel" "load" "I"] ++ wsX30)
def wsX3_swing_r1 : List Cond := [Cond.fieldLink RX3 26 "CraneReachModel" "thrown" "I", Cond.fieldLink RX3 56 "CraneReachModel" "direction" "I", Cond.fieldLink RX3 53 "CraneReachModel" "load" "I", Cond.fieldLink RX3 9 "CraneReachModel" "reach" "I", Cond.methodLink RX3 29 yX3_isIn, Cond.static yX3_isIn, Cond.initialized RX3, Cond.code yX3_isIn cX3_isIn 3 (some .boolean), Cond.methodLink RX3 62 yX3_no, Cond.instanceMethod yX3_no, Cond.selects RX3 yX3_no yX3_no, Cond.code yX3_no cX3_no 2 (some .int), Cond.methodLink RX3 59 yX3_isSafe, Cond.instanceMethod yX3_isSafe, Cond.selects RX3 yX3_isSafe yX3_isSafe, Cond.code yX3_isSafe cX3_isSafe 5 (some .boolean), Cond.fieldLink RX3 17 "CraneReachModel" "limit" "[I", Cond.methodLink RX3 49 yX3_strain, Cond.instanceMethod yX3_strain, Cond.selects RX3 yX3_strain yX3_strain, Cond.code yX3_strain cX3_strain 8 (some .int), Cond.methodLink RX3 33 Lib.Math.abs.name, Cond.static Lib.Math.abs.name, Cond.initialized "java/lang/Math"]
def wsX3_swing_r2 : List Cond := [Cond.code Lib.Math.abs.name Lib.Math.abs.code 1 (some .int), Cond.fieldLink RX3 39 "CraneReachModel" "SLANT" "[I", Cond.methodLink RX3 42 Lib.Math.min.name, Cond.static Lib.Math.min.name, Cond.code Lib.Math.min.name Lib.Math.min.code 2 (some .int), Cond.fieldLink RX3 13 "CraneReachModel" "out" "[I", Cond.fieldLink RX3 46 "CraneReachModel" "plates" "I", Cond.methodLink RX3 87 yX3_moved, Cond.instanceMethod yX3_moved, Cond.selects RX3 yX3_moved yX3_moved, Cond.code yX3_moved cX3_moved 1 none, Cond.fieldLink RX3 84 "CraneReachModel" "moves" "I"]
def wsX3_swing : List Cond := .code yX3_swing cX3_swing 5 (some .int) :: ((wsX3_swing_r1 ++ wsX3_swing_r2) ++ wsX30)
def wsX3_stretch_r1 : List Cond := [Cond.fieldLink RX3 26 "CraneReachModel" "thrown" "I", Cond.fieldLink RX3 9 "CraneReachModel" "reach" "I", Cond.fieldLink RX3 53 "CraneReachModel" "load" "I", Cond.fieldLink RX3 56 "CraneReachModel" "direction" "I", Cond.methodLink RX3 29 yX3_isIn, Cond.static yX3_isIn, Cond.initialized RX3, Cond.code yX3_isIn cX3_isIn 3 (some .boolean), Cond.methodLink RX3 62 yX3_no, Cond.instanceMethod yX3_no, Cond.selects RX3 yX3_no yX3_no, Cond.code yX3_no cX3_no 2 (some .int), Cond.methodLink RX3 72 yX3_isReach, Cond.static yX3_isReach, Cond.code yX3_isReach cX3_isReach 1 (some .boolean), Cond.methodLink RX3 59 yX3_isSafe, Cond.instanceMethod yX3_isSafe, Cond.selects RX3 yX3_isSafe yX3_isSafe, Cond.code yX3_isSafe cX3_isSafe 5 (some .boolean), Cond.fieldLink RX3 17 "CraneReachModel" "limit" "[I", Cond.methodLink RX3 49 yX3_strain, Cond.instanceMethod yX3_strain, Cond.selects RX3 yX3_strain yX3_strain, Cond.code yX3_strain cX3_strain 8 (some .int)]
def wsX3_stretch_r2 : List Cond := [Cond.methodLink RX3 33 Lib.Math.abs.name, Cond.static Lib.Math.abs.name, Cond.initialized "java/lang/Math", Cond.code Lib.Math.abs.name Lib.Math.abs.code 1 (some .int), Cond.fieldLink RX3 39 "CraneReachModel" "SLANT" "[I", Cond.methodLink RX3 42 Lib.Math.min.name, Cond.static Lib.Math.min.name, Cond.code Lib.Math.min.name Lib.Math.min.code 2 (some .int), Cond.fieldLink RX3 13 "CraneReachModel" "out" "[I", Cond.fieldLink RX3 46 "CraneReachModel" "plates" "I", Cond.methodLink RX3 87 yX3_moved, Cond.instanceMethod yX3_moved, Cond.selects RX3 yX3_moved yX3_moved, Cond.code yX3_moved cX3_moved 1 none, Cond.fieldLink RX3 84 "CraneReachModel" "moves" "I"]
def wsX3_stretch : List Cond := .code yX3_stretch cX3_stretch 5 (some .int) :: ((wsX3_stretch_r1 ++ wsX3_stretch_r2) ++ wsX30)
def wsX3_ok : List Cond := .code yX3_ok cX3_ok 2 (some .int) :: ([.fieldLink RX3 26 "CraneReachModel" "thrown" "I"] ++ wsX30)
def wsX3_direction : List Cond := .code yX3_direction cX3_direction 1 (some .int) :: ([.fieldLink RX3 56 "CraneReachModel" "direction" "I", .methodLink RX3 90 yX3_ok, .instanceMethod yX3_ok, .selects RX3 yX3_ok yX3_ok, .initialized RX3, .code yX3_ok cX3_ok 2 (some .int), .fieldLink RX3 26 "CraneReachModel" "thrown" "I"] ++ wsX30)
def wsX3_reach : List Cond := .code yX3_reach cX3_reach 1 (some .int) :: ([.fieldLink RX3 9 "CraneReachModel" "reach" "I", .methodLink RX3 90 yX3_ok, .instanceMethod yX3_ok, .selects RX3 yX3_ok yX3_ok, .initialized RX3, .code yX3_ok cX3_ok 2 (some .int), .fieldLink RX3 26 "CraneReachModel" "thrown" "I"] ++ wsX30)
def wsX3_load : List Cond := .code yX3_load cX3_load 1 (some .int) :: ([.fieldLink RX3 53 "CraneReachModel" "load" "I", .methodLink RX3 90 yX3_ok, .instanceMethod yX3_ok, .selects RX3 yX3_ok yX3_ok, .initialized RX3, .code yX3_ok cX3_ok 2 (some .int), .fieldLink RX3 26 "CraneReachModel" "thrown" "I"] ++ wsX30)
def wsX3_plates : List Cond := .code yX3_plates cX3_plates 1 (some .int) :: ([.fieldLink RX3 46 "CraneReachModel" "plates" "I", .methodLink RX3 90 yX3_ok, .instanceMethod yX3_ok, .selects RX3 yX3_ok yX3_ok, .initialized RX3, .code yX3_ok cX3_ok 2 (some .int), .fieldLink RX3 26 "CraneReachModel" "thrown" "I"] ++ wsX30)
def wsX3_outrigger : List Cond := .code yX3_outrigger cX3_outrigger 2 (some .int) :: ([.fieldLink RX3 26 "CraneReachModel" "thrown" "I", .fieldLink RX3 13 "CraneReachModel" "out" "[I", .methodLink RX3 68 yX3_isSide, .static yX3_isSide, .initialized RX3, .code yX3_isSide cX3_isSide 1 (some .boolean), .methodLink RX3 29 yX3_isIn, .static yX3_isIn, .code yX3_isIn cX3_isIn 3 (some .boolean), .methodLink RX3 62 yX3_no, .instanceMethod yX3_no, .selects RX3 yX3_no yX3_no, .code yX3_no cX3_no 2 (some .int)] ++ wsX30)
def wsX3_limitAt : List Cond := .code yX3_limitAt cX3_limitAt 2 (some .int) :: ([.fieldLink RX3 26 "CraneReachModel" "thrown" "I", .fieldLink RX3 17 "CraneReachModel" "limit" "[I", .methodLink RX3 72 yX3_isReach, .static yX3_isReach, .initialized RX3, .code yX3_isReach cX3_isReach 1 (some .boolean), .methodLink RX3 29 yX3_isIn, .static yX3_isIn, .code yX3_isIn cX3_isIn 3 (some .boolean), .methodLink RX3 62 yX3_no, .instanceMethod yX3_no, .selects RX3 yX3_no yX3_no, .code yX3_no cX3_no 2 (some .int)] ++ wsX30)
def wsX3_strainNow : List Cond := .code yX3_strainNow cX3_strainNow 2 (some .int) :: ([.fieldLink RX3 53 "CraneReachModel" "load" "I", .fieldLink RX3 56 "CraneReachModel" "direction" "I", .fieldLink RX3 9 "CraneReachModel" "reach" "I", .methodLink RX3 49 yX3_strain, .instanceMethod yX3_strain, .selects RX3 yX3_strain yX3_strain, .initialized RX3, .code yX3_strain cX3_strain 8 (some .int), .methodLink RX3 33 Lib.Math.abs.name, .static Lib.Math.abs.name, .initialized "java/lang/Math", .code Lib.Math.abs.name Lib.Math.abs.code 1 (some .int), .fieldLink RX3 39 "CraneReachModel" "SLANT" "[I", .methodLink RX3 42 Lib.Math.min.name, .static Lib.Math.min.name, .code Lib.Math.min.name Lib.Math.min.code 2 (some .int), .fieldLink RX3 13 "CraneReachModel" "out" "[I", .fieldLink RX3 46 "CraneReachModel" "plates" "I"] ++ wsX30)
def wsX3_strainOn_r1 : List Cond := [Cond.fieldLink RX3 26 "CraneReachModel" "thrown" "I", Cond.methodLink RX3 68 yX3_isSide, Cond.static yX3_isSide, Cond.initialized RX3, Cond.code yX3_isSide cX3_isSide 1 (some .boolean), Cond.methodLink RX3 29 yX3_isIn, Cond.static yX3_isIn, Cond.code yX3_isIn cX3_isIn 3 (some .boolean), Cond.methodLink RX3 93 yX3_strainNow, Cond.instanceMethod yX3_strainNow, Cond.selects RX3 yX3_strainNow yX3_strainNow, Cond.code yX3_strainNow cX3_strainNow 2 (some .int), Cond.fieldLink RX3 53 "CraneReachModel" "load" "I", Cond.fieldLink RX3 56 "CraneReachModel" "direction" "I", Cond.fieldLink RX3 9 "CraneReachModel" "reach" "I", Cond.methodLink RX3 49 yX3_strain, Cond.instanceMethod yX3_strain, Cond.selects RX3 yX3_strain yX3_strain, Cond.code yX3_strain cX3_strain 8 (some .int), Cond.methodLink RX3 33 Lib.Math.abs.name, Cond.static Lib.Math.abs.name, Cond.initialized "java/lang/Math", Cond.code Lib.Math.abs.name Lib.Math.abs.code 1 (some .int), Cond.fieldLink RX3 39 "CraneReachModel" "SLANT" "[I"]
def wsX3_strainOn_r2 : List Cond := [Cond.methodLink RX3 42 Lib.Math.min.name, Cond.static Lib.Math.min.name, Cond.code Lib.Math.min.name Lib.Math.min.code 2 (some .int), Cond.fieldLink RX3 13 "CraneReachModel" "out" "[I", Cond.fieldLink RX3 46 "CraneReachModel" "plates" "I", Cond.methodLink RX3 62 yX3_no, Cond.instanceMethod yX3_no, Cond.selects RX3 yX3_no yX3_no, Cond.code yX3_no cX3_no 2 (some .int)]
def wsX3_strainOn : List Cond := .code yX3_strainOn cX3_strainOn 2 (some .int) :: ((wsX3_strainOn_r1 ++ wsX3_strainOn_r2) ++ wsX30)
def wsX3_weakest : List Cond := .code yX3_weakest cX3_weakest 3 (some .int) :: ([.methodLink RX3 93 yX3_strainNow, .instanceMethod yX3_strainNow, .selects RX3 yX3_strainNow yX3_strainNow, .initialized RX3, .code yX3_strainNow cX3_strainNow 2 (some .int), .fieldLink RX3 53 "CraneReachModel" "load" "I", .fieldLink RX3 56 "CraneReachModel" "direction" "I", .fieldLink RX3 9 "CraneReachModel" "reach" "I", .methodLink RX3 49 yX3_strain, .instanceMethod yX3_strain, .selects RX3 yX3_strain yX3_strain, .code yX3_strain cX3_strain 8 (some .int), .methodLink RX3 33 Lib.Math.abs.name, .static Lib.Math.abs.name, .initialized "java/lang/Math", .code Lib.Math.abs.name Lib.Math.abs.code 1 (some .int), .fieldLink RX3 39 "CraneReachModel" "SLANT" "[I", .methodLink RX3 42 Lib.Math.min.name, .static Lib.Math.min.name, .code Lib.Math.min.name Lib.Math.min.code 2 (some .int), .fieldLink RX3 13 "CraneReachModel" "out" "[I", .fieldLink RX3 46 "CraneReachModel" "plates" "I"] ++ wsX30)
def wsX3_weakestSide_r1 : List Cond := [Cond.methodLink RX3 96 yX3_weakest, Cond.instanceMethod yX3_weakest, Cond.selects RX3 yX3_weakest yX3_weakest, Cond.initialized RX3, Cond.code yX3_weakest cX3_weakest 3 (some .int), Cond.methodLink RX3 93 yX3_strainNow, Cond.instanceMethod yX3_strainNow, Cond.selects RX3 yX3_strainNow yX3_strainNow, Cond.code yX3_strainNow cX3_strainNow 2 (some .int), Cond.fieldLink RX3 53 "CraneReachModel" "load" "I", Cond.fieldLink RX3 56 "CraneReachModel" "direction" "I", Cond.fieldLink RX3 9 "CraneReachModel" "reach" "I", Cond.methodLink RX3 49 yX3_strain, Cond.instanceMethod yX3_strain, Cond.selects RX3 yX3_strain yX3_strain, Cond.code yX3_strain cX3_strain 8 (some .int), Cond.methodLink RX3 33 Lib.Math.abs.name, Cond.static Lib.Math.abs.name, Cond.initialized "java/lang/Math", Cond.code Lib.Math.abs.name Lib.Math.abs.code 1 (some .int), Cond.fieldLink RX3 39 "CraneReachModel" "SLANT" "[I", Cond.methodLink RX3 42 Lib.Math.min.name, Cond.static Lib.Math.min.name, Cond.code Lib.Math.min.name Lib.Math.min.code 2 (some .int)]
def wsX3_weakestSide_r2 : List Cond := [Cond.fieldLink RX3 13 "CraneReachModel" "out" "[I", Cond.fieldLink RX3 46 "CraneReachModel" "plates" "I", Cond.methodLink RX3 90 yX3_ok, Cond.instanceMethod yX3_ok, Cond.selects RX3 yX3_ok yX3_ok, Cond.code yX3_ok cX3_ok 2 (some .int), Cond.fieldLink RX3 26 "CraneReachModel" "thrown" "I"]
def wsX3_weakestSide : List Cond := .code yX3_weakestSide cX3_weakestSide 1 (some .int) :: ((wsX3_weakestSide_r1 ++ wsX3_weakestSide_r2) ++ wsX30)
def wsX3_lifts : List Cond := .code yX3_lifts cX3_lifts 1 (some .int) :: ([.fieldLink RX3 78 "CraneReachModel" "lifts" "I", .methodLink RX3 90 yX3_ok, .instanceMethod yX3_ok, .selects RX3 yX3_ok yX3_ok, .initialized RX3, .code yX3_ok cX3_ok 2 (some .int), .fieldLink RX3 26 "CraneReachModel" "thrown" "I"] ++ wsX30)
def wsX3_tonsLifted : List Cond := .code yX3_tonsLifted cX3_tonsLifted 1 (some .int) :: ([.fieldLink RX3 81 "CraneReachModel" "tons" "I", .methodLink RX3 90 yX3_ok, .instanceMethod yX3_ok, .selects RX3 yX3_ok yX3_ok, .initialized RX3, .code yX3_ok cX3_ok 2 (some .int), .fieldLink RX3 26 "CraneReachModel" "thrown" "I"] ++ wsX30)
def wsX3_movesWithLoad : List Cond := .code yX3_movesWithLoad cX3_movesWithLoad 1 (some .int) :: ([.fieldLink RX3 84 "CraneReachModel" "moves" "I", .methodLink RX3 90 yX3_ok, .instanceMethod yX3_ok, .selects RX3 yX3_ok yX3_ok, .initialized RX3, .code yX3_ok cX3_ok 2 (some .int), .fieldLink RX3 26 "CraneReachModel" "thrown" "I"] ++ wsX30)
def wsX3_isSafeWith_r1 : List Cond := [Cond.fieldLink RX3 26 "CraneReachModel" "thrown" "I", Cond.methodLink RX3 100 yX3_isDirection, Cond.static yX3_isDirection, Cond.initialized RX3, Cond.code yX3_isDirection cX3_isDirection 1 (some .boolean), Cond.methodLink RX3 29 yX3_isIn, Cond.static yX3_isIn, Cond.code yX3_isIn cX3_isIn 3 (some .boolean), Cond.methodLink RX3 103 yX3_isNot, Cond.instanceMethod yX3_isNot, Cond.selects RX3 yX3_isNot yX3_isNot, Cond.code yX3_isNot cX3_isNot 2 (some .boolean), Cond.methodLink RX3 75 yX3_isLoad, Cond.static yX3_isLoad, Cond.code yX3_isLoad cX3_isLoad 1 (some .boolean), Cond.methodLink RX3 72 yX3_isReach, Cond.static yX3_isReach, Cond.code yX3_isReach cX3_isReach 1 (some .boolean), Cond.methodLink RX3 59 yX3_isSafe, Cond.instanceMethod yX3_isSafe, Cond.selects RX3 yX3_isSafe yX3_isSafe, Cond.code yX3_isSafe cX3_isSafe 5 (some .boolean), Cond.fieldLink RX3 17 "CraneReachModel" "limit" "[I", Cond.methodLink RX3 49 yX3_strain]
def wsX3_isSafeWith_r2 : List Cond := [Cond.instanceMethod yX3_strain, Cond.selects RX3 yX3_strain yX3_strain, Cond.code yX3_strain cX3_strain 8 (some .int), Cond.methodLink RX3 33 Lib.Math.abs.name, Cond.static Lib.Math.abs.name, Cond.initialized "java/lang/Math", Cond.code Lib.Math.abs.name Lib.Math.abs.code 1 (some .int), Cond.fieldLink RX3 39 "CraneReachModel" "SLANT" "[I", Cond.methodLink RX3 42 Lib.Math.min.name, Cond.static Lib.Math.min.name, Cond.code Lib.Math.min.name Lib.Math.min.code 2 (some .int), Cond.fieldLink RX3 13 "CraneReachModel" "out" "[I", Cond.fieldLink RX3 46 "CraneReachModel" "plates" "I"]
def wsX3_isSafeWith : List Cond := .code yX3_isSafeWith cX3_isSafeWith 4 (some .boolean) :: ((wsX3_isSafeWith_r1 ++ wsX3_isSafeWith_r2) ++ wsX30)
def wsX3_greatest : List Cond := .code yX3_greatest cX3_greatest 2 (some .int) :: ([.fieldLink RX3 56 "CraneReachModel" "direction" "I", .fieldLink RX3 9 "CraneReachModel" "reach" "I", .methodLink RX3 59 yX3_isSafe, .instanceMethod yX3_isSafe, .selects RX3 yX3_isSafe yX3_isSafe, .initialized RX3, .code yX3_isSafe cX3_isSafe 5 (some .boolean), .fieldLink RX3 17 "CraneReachModel" "limit" "[I", .methodLink RX3 49 yX3_strain, .instanceMethod yX3_strain, .selects RX3 yX3_strain yX3_strain, .code yX3_strain cX3_strain 8 (some .int), .methodLink RX3 33 Lib.Math.abs.name, .static Lib.Math.abs.name, .initialized "java/lang/Math", .code Lib.Math.abs.name Lib.Math.abs.code 1 (some .int), .fieldLink RX3 39 "CraneReachModel" "SLANT" "[I", .methodLink RX3 42 Lib.Math.min.name, .static Lib.Math.min.name, .code Lib.Math.min.name Lib.Math.min.code 2 (some .int), .fieldLink RX3 13 "CraneReachModel" "out" "[I", .fieldLink RX3 46 "CraneReachModel" "plates" "I"] ++ wsX30)
def wsX3_greatestLoad_r1 : List Cond := [Cond.methodLink RX3 106 yX3_greatest, Cond.instanceMethod yX3_greatest, Cond.selects RX3 yX3_greatest yX3_greatest, Cond.initialized RX3, Cond.code yX3_greatest cX3_greatest 2 (some .int), Cond.fieldLink RX3 56 "CraneReachModel" "direction" "I", Cond.fieldLink RX3 9 "CraneReachModel" "reach" "I", Cond.methodLink RX3 59 yX3_isSafe, Cond.instanceMethod yX3_isSafe, Cond.selects RX3 yX3_isSafe yX3_isSafe, Cond.code yX3_isSafe cX3_isSafe 5 (some .boolean), Cond.fieldLink RX3 17 "CraneReachModel" "limit" "[I", Cond.methodLink RX3 49 yX3_strain, Cond.instanceMethod yX3_strain, Cond.selects RX3 yX3_strain yX3_strain, Cond.code yX3_strain cX3_strain 8 (some .int), Cond.methodLink RX3 33 Lib.Math.abs.name, Cond.static Lib.Math.abs.name, Cond.initialized "java/lang/Math", Cond.code Lib.Math.abs.name Lib.Math.abs.code 1 (some .int), Cond.fieldLink RX3 39 "CraneReachModel" "SLANT" "[I", Cond.methodLink RX3 42 Lib.Math.min.name, Cond.static Lib.Math.min.name, Cond.code Lib.Math.min.name Lib.Math.min.code 2 (some .int)]
def wsX3_greatestLoad_r2 : List Cond := [Cond.fieldLink RX3 13 "CraneReachModel" "out" "[I", Cond.fieldLink RX3 46 "CraneReachModel" "plates" "I", Cond.methodLink RX3 90 yX3_ok, Cond.instanceMethod yX3_ok, Cond.selects RX3 yX3_ok yX3_ok, Cond.code yX3_ok cX3_ok 2 (some .int), Cond.fieldLink RX3 26 "CraneReachModel" "thrown" "I"]
def wsX3_greatestLoad : List Cond := .code yX3_greatestLoad cX3_greatestLoad 1 (some .int) :: ((wsX3_greatestLoad_r1 ++ wsX3_greatestLoad_r2) ++ wsX30)
def wsX3_farthestReach_r1 : List Cond := [Cond.fieldLink RX3 26 "CraneReachModel" "thrown" "I", Cond.methodLink RX3 100 yX3_isDirection, Cond.static yX3_isDirection, Cond.initialized RX3, Cond.code yX3_isDirection cX3_isDirection 1 (some .boolean), Cond.methodLink RX3 29 yX3_isIn, Cond.static yX3_isIn, Cond.code yX3_isIn cX3_isIn 3 (some .boolean), Cond.methodLink RX3 62 yX3_no, Cond.instanceMethod yX3_no, Cond.selects RX3 yX3_no yX3_no, Cond.code yX3_no cX3_no 2 (some .int), Cond.methodLink RX3 75 yX3_isLoad, Cond.static yX3_isLoad, Cond.code yX3_isLoad cX3_isLoad 1 (some .boolean), Cond.methodLink RX3 59 yX3_isSafe, Cond.instanceMethod yX3_isSafe, Cond.selects RX3 yX3_isSafe yX3_isSafe, Cond.code yX3_isSafe cX3_isSafe 5 (some .boolean), Cond.fieldLink RX3 17 "CraneReachModel" "limit" "[I", Cond.methodLink RX3 49 yX3_strain, Cond.instanceMethod yX3_strain, Cond.selects RX3 yX3_strain yX3_strain, Cond.code yX3_strain cX3_strain 8 (some .int)]
def wsX3_farthestReach_r2 : List Cond := [Cond.methodLink RX3 33 Lib.Math.abs.name, Cond.static Lib.Math.abs.name, Cond.initialized "java/lang/Math", Cond.code Lib.Math.abs.name Lib.Math.abs.code 1 (some .int), Cond.fieldLink RX3 39 "CraneReachModel" "SLANT" "[I", Cond.methodLink RX3 42 Lib.Math.min.name, Cond.static Lib.Math.min.name, Cond.code Lib.Math.min.name Lib.Math.min.code 2 (some .int), Cond.fieldLink RX3 13 "CraneReachModel" "out" "[I", Cond.fieldLink RX3 46 "CraneReachModel" "plates" "I"]
def wsX3_farthestReach : List Cond := .code yX3_farthestReach cX3_farthestReach 4 (some .int) :: ((wsX3_farthestReach_r1 ++ wsX3_farthestReach_r2) ++ wsX30)
def wsX3_safeAround : List Cond := .code yX3_safeAround cX3_safeAround 5 (some .int) :: ([.methodLink RX3 59 yX3_isSafe, .instanceMethod yX3_isSafe, .selects RX3 yX3_isSafe yX3_isSafe, .initialized RX3, .code yX3_isSafe cX3_isSafe 5 (some .boolean), .fieldLink RX3 17 "CraneReachModel" "limit" "[I", .methodLink RX3 49 yX3_strain, .instanceMethod yX3_strain, .selects RX3 yX3_strain yX3_strain, .code yX3_strain cX3_strain 8 (some .int), .methodLink RX3 33 Lib.Math.abs.name, .static Lib.Math.abs.name, .initialized "java/lang/Math", .code Lib.Math.abs.name Lib.Math.abs.code 1 (some .int), .fieldLink RX3 39 "CraneReachModel" "SLANT" "[I", .methodLink RX3 42 Lib.Math.min.name, .static Lib.Math.min.name, .code Lib.Math.min.name Lib.Math.min.code 2 (some .int), .fieldLink RX3 13 "CraneReachModel" "out" "[I", .fieldLink RX3 46 "CraneReachModel" "plates" "I"] ++ wsX30)
def wsX3_safeDirections_r1 : List Cond := [Cond.fieldLink RX3 26 "CraneReachModel" "thrown" "I", Cond.methodLink RX3 75 yX3_isLoad, Cond.static yX3_isLoad, Cond.initialized RX3, Cond.code yX3_isLoad cX3_isLoad 1 (some .boolean), Cond.methodLink RX3 29 yX3_isIn, Cond.static yX3_isIn, Cond.code yX3_isIn cX3_isIn 3 (some .boolean), Cond.methodLink RX3 72 yX3_isReach, Cond.static yX3_isReach, Cond.code yX3_isReach cX3_isReach 1 (some .boolean), Cond.methodLink RX3 109 yX3_safeAround, Cond.instanceMethod yX3_safeAround, Cond.selects RX3 yX3_safeAround yX3_safeAround, Cond.code yX3_safeAround cX3_safeAround 5 (some .int), Cond.methodLink RX3 59 yX3_isSafe, Cond.instanceMethod yX3_isSafe, Cond.selects RX3 yX3_isSafe yX3_isSafe, Cond.code yX3_isSafe cX3_isSafe 5 (some .boolean), Cond.fieldLink RX3 17 "CraneReachModel" "limit" "[I", Cond.methodLink RX3 49 yX3_strain, Cond.instanceMethod yX3_strain, Cond.selects RX3 yX3_strain yX3_strain, Cond.code yX3_strain cX3_strain 8 (some .int)]
def wsX3_safeDirections_r2 : List Cond := [Cond.methodLink RX3 33 Lib.Math.abs.name, Cond.static Lib.Math.abs.name, Cond.initialized "java/lang/Math", Cond.code Lib.Math.abs.name Lib.Math.abs.code 1 (some .int), Cond.fieldLink RX3 39 "CraneReachModel" "SLANT" "[I", Cond.methodLink RX3 42 Lib.Math.min.name, Cond.static Lib.Math.min.name, Cond.code Lib.Math.min.name Lib.Math.min.code 2 (some .int), Cond.fieldLink RX3 13 "CraneReachModel" "out" "[I", Cond.fieldLink RX3 46 "CraneReachModel" "plates" "I", Cond.methodLink RX3 62 yX3_no, Cond.instanceMethod yX3_no, Cond.selects RX3 yX3_no yX3_no, Cond.code yX3_no cX3_no 2 (some .int)]
def wsX3_safeDirections : List Cond := .code yX3_safeDirections cX3_safeDirections 3 (some .int) :: ((wsX3_safeDirections_r1 ++ wsX3_safeDirections_r2) ++ wsX30)
def wsX3_fewestPlates : List Cond := .code yX3_fewestPlates cX3_fewestPlates 6 (some .int) :: ([.fieldLink RX3 46 "CraneReachModel" "plates" "I", .methodLink RX3 59 yX3_isSafe, .instanceMethod yX3_isSafe, .selects RX3 yX3_isSafe yX3_isSafe, .initialized RX3, .code yX3_isSafe cX3_isSafe 5 (some .boolean), .fieldLink RX3 17 "CraneReachModel" "limit" "[I", .methodLink RX3 49 yX3_strain, .instanceMethod yX3_strain, .selects RX3 yX3_strain yX3_strain, .code yX3_strain cX3_strain 8 (some .int), .methodLink RX3 33 Lib.Math.abs.name, .static Lib.Math.abs.name, .initialized "java/lang/Math", .code Lib.Math.abs.name Lib.Math.abs.code 1 (some .int), .fieldLink RX3 39 "CraneReachModel" "SLANT" "[I", .methodLink RX3 42 Lib.Math.min.name, .static Lib.Math.min.name, .code Lib.Math.min.name Lib.Math.min.code 2 (some .int), .fieldLink RX3 13 "CraneReachModel" "out" "[I"] ++ wsX30)
def wsX3_platesNeeded_r1 : List Cond := [Cond.fieldLink RX3 26 "CraneReachModel" "thrown" "I", Cond.methodLink RX3 100 yX3_isDirection, Cond.static yX3_isDirection, Cond.initialized RX3, Cond.code yX3_isDirection cX3_isDirection 1 (some .boolean), Cond.methodLink RX3 29 yX3_isIn, Cond.static yX3_isIn, Cond.code yX3_isIn cX3_isIn 3 (some .boolean), Cond.methodLink RX3 62 yX3_no, Cond.instanceMethod yX3_no, Cond.selects RX3 yX3_no yX3_no, Cond.code yX3_no cX3_no 2 (some .int), Cond.methodLink RX3 75 yX3_isLoad, Cond.static yX3_isLoad, Cond.code yX3_isLoad cX3_isLoad 1 (some .boolean), Cond.methodLink RX3 72 yX3_isReach, Cond.static yX3_isReach, Cond.code yX3_isReach cX3_isReach 1 (some .boolean), Cond.methodLink RX3 112 yX3_fewestPlates, Cond.instanceMethod yX3_fewestPlates, Cond.selects RX3 yX3_fewestPlates yX3_fewestPlates, Cond.code yX3_fewestPlates cX3_fewestPlates 6 (some .int), Cond.fieldLink RX3 46 "CraneReachModel" "plates" "I", Cond.methodLink RX3 59 yX3_isSafe]
def wsX3_platesNeeded_r2 : List Cond := [Cond.instanceMethod yX3_isSafe, Cond.selects RX3 yX3_isSafe yX3_isSafe, Cond.code yX3_isSafe cX3_isSafe 5 (some .boolean), Cond.fieldLink RX3 17 "CraneReachModel" "limit" "[I", Cond.methodLink RX3 49 yX3_strain, Cond.instanceMethod yX3_strain, Cond.selects RX3 yX3_strain yX3_strain, Cond.code yX3_strain cX3_strain 8 (some .int), Cond.methodLink RX3 33 Lib.Math.abs.name, Cond.static Lib.Math.abs.name, Cond.initialized "java/lang/Math", Cond.code Lib.Math.abs.name Lib.Math.abs.code 1 (some .int), Cond.fieldLink RX3 39 "CraneReachModel" "SLANT" "[I", Cond.methodLink RX3 42 Lib.Math.min.name, Cond.static Lib.Math.min.name, Cond.code Lib.Math.min.name Lib.Math.min.code 2 (some .int), Cond.fieldLink RX3 13 "CraneReachModel" "out" "[I"]
def wsX3_platesNeeded : List Cond := .code yX3_platesNeeded cX3_platesNeeded 4 (some .int) :: ((wsX3_platesNeeded_r1 ++ wsX3_platesNeeded_r2) ++ wsX30)
def wsX3_comeTo_r1 : List Cond := [Cond.fieldLink RX3 20 "CraneReachModel" "away" "[I", Cond.fieldLink RX3 23 "CraneReachModel" "queue" "[I", Cond.fieldLink RX3 116 "CraneReachModel" "many" "I", Cond.methodLink RX3 72 yX3_isReach, Cond.static yX3_isReach, Cond.initialized RX3, Cond.code yX3_isReach cX3_isReach 1 (some .boolean), Cond.methodLink RX3 29 yX3_isIn, Cond.static yX3_isIn, Cond.code yX3_isIn cX3_isIn 3 (some .boolean), Cond.methodLink RX3 59 yX3_isSafe, Cond.instanceMethod yX3_isSafe, Cond.selects RX3 yX3_isSafe yX3_isSafe, Cond.code yX3_isSafe cX3_isSafe 5 (some .boolean), Cond.fieldLink RX3 17 "CraneReachModel" "limit" "[I", Cond.methodLink RX3 49 yX3_strain, Cond.instanceMethod yX3_strain, Cond.selects RX3 yX3_strain yX3_strain, Cond.code yX3_strain cX3_strain 8 (some .int), Cond.methodLink RX3 33 Lib.Math.abs.name, Cond.static Lib.Math.abs.name, Cond.initialized "java/lang/Math", Cond.code Lib.Math.abs.name Lib.Math.abs.code 1 (some .int), Cond.fieldLink RX3 39 "CraneReachModel" "SLANT" "[I"]
def wsX3_comeTo_r2 : List Cond := [Cond.methodLink RX3 42 Lib.Math.min.name, Cond.static Lib.Math.min.name, Cond.code Lib.Math.min.name Lib.Math.min.code 2 (some .int), Cond.fieldLink RX3 13 "CraneReachModel" "out" "[I", Cond.fieldLink RX3 46 "CraneReachModel" "plates" "I"]
def wsX3_comeTo : List Cond := .code yX3_comeTo cX3_comeTo 5 none :: ((wsX3_comeTo_r1 ++ wsX3_comeTo_r2) ++ wsX30)
def wsX3_goOut_r1 : List Cond := [Cond.fieldLink RX3 20 "CraneReachModel" "away" "[I", Cond.fieldLink RX3 116 "CraneReachModel" "many" "I", Cond.fieldLink RX3 56 "CraneReachModel" "direction" "I", Cond.fieldLink RX3 9 "CraneReachModel" "reach" "I", Cond.fieldLink RX3 23 "CraneReachModel" "queue" "[I", Cond.methodLink RX3 119 yX3_comeTo, Cond.instanceMethod yX3_comeTo, Cond.selects RX3 yX3_comeTo yX3_comeTo, Cond.initialized RX3, Cond.code yX3_comeTo cX3_comeTo 5 none, Cond.methodLink RX3 72 yX3_isReach, Cond.static yX3_isReach, Cond.code yX3_isReach cX3_isReach 1 (some .boolean), Cond.methodLink RX3 29 yX3_isIn, Cond.static yX3_isIn, Cond.code yX3_isIn cX3_isIn 3 (some .boolean), Cond.methodLink RX3 59 yX3_isSafe, Cond.instanceMethod yX3_isSafe, Cond.selects RX3 yX3_isSafe yX3_isSafe, Cond.code yX3_isSafe cX3_isSafe 5 (some .boolean), Cond.fieldLink RX3 17 "CraneReachModel" "limit" "[I", Cond.methodLink RX3 49 yX3_strain, Cond.instanceMethod yX3_strain, Cond.selects RX3 yX3_strain yX3_strain]
def wsX3_goOut_r2 : List Cond := [Cond.code yX3_strain cX3_strain 8 (some .int), Cond.methodLink RX3 33 Lib.Math.abs.name, Cond.static Lib.Math.abs.name, Cond.initialized "java/lang/Math", Cond.code Lib.Math.abs.name Lib.Math.abs.code 1 (some .int), Cond.fieldLink RX3 39 "CraneReachModel" "SLANT" "[I", Cond.methodLink RX3 42 Lib.Math.min.name, Cond.static Lib.Math.min.name, Cond.code Lib.Math.min.name Lib.Math.min.code 2 (some .int), Cond.fieldLink RX3 13 "CraneReachModel" "out" "[I", Cond.fieldLink RX3 46 "CraneReachModel" "plates" "I"]
def wsX3_goOut : List Cond := .code yX3_goOut cX3_goOut 6 none :: ((wsX3_goOut_r1 ++ wsX3_goOut_r2) ++ wsX30)
def wsX3_fewestMoves_r1 : List Cond := [Cond.fieldLink RX3 26 "CraneReachModel" "thrown" "I", Cond.fieldLink RX3 20 "CraneReachModel" "away" "[I", Cond.methodLink RX3 100 yX3_isDirection, Cond.static yX3_isDirection, Cond.initialized RX3, Cond.code yX3_isDirection cX3_isDirection 1 (some .boolean), Cond.methodLink RX3 29 yX3_isIn, Cond.static yX3_isIn, Cond.code yX3_isIn cX3_isIn 3 (some .boolean), Cond.methodLink RX3 62 yX3_no, Cond.instanceMethod yX3_no, Cond.selects RX3 yX3_no yX3_no, Cond.code yX3_no cX3_no 2 (some .int), Cond.methodLink RX3 75 yX3_isLoad, Cond.static yX3_isLoad, Cond.code yX3_isLoad cX3_isLoad 1 (some .boolean), Cond.methodLink RX3 72 yX3_isReach, Cond.static yX3_isReach, Cond.code yX3_isReach cX3_isReach 1 (some .boolean), Cond.methodLink RX3 123 yX3_goOut, Cond.instanceMethod yX3_goOut, Cond.selects RX3 yX3_goOut yX3_goOut, Cond.code yX3_goOut cX3_goOut 6 none, Cond.fieldLink RX3 116 "CraneReachModel" "many" "I"]
def wsX3_fewestMoves_r2 : List Cond := [Cond.fieldLink RX3 56 "CraneReachModel" "direction" "I", Cond.fieldLink RX3 9 "CraneReachModel" "reach" "I", Cond.fieldLink RX3 23 "CraneReachModel" "queue" "[I", Cond.methodLink RX3 119 yX3_comeTo, Cond.instanceMethod yX3_comeTo, Cond.selects RX3 yX3_comeTo yX3_comeTo, Cond.code yX3_comeTo cX3_comeTo 5 none, Cond.methodLink RX3 59 yX3_isSafe, Cond.instanceMethod yX3_isSafe, Cond.selects RX3 yX3_isSafe yX3_isSafe, Cond.code yX3_isSafe cX3_isSafe 5 (some .boolean), Cond.fieldLink RX3 17 "CraneReachModel" "limit" "[I", Cond.methodLink RX3 49 yX3_strain, Cond.instanceMethod yX3_strain, Cond.selects RX3 yX3_strain yX3_strain, Cond.code yX3_strain cX3_strain 8 (some .int), Cond.methodLink RX3 33 Lib.Math.abs.name, Cond.static Lib.Math.abs.name, Cond.initialized "java/lang/Math", Cond.code Lib.Math.abs.name Lib.Math.abs.code 1 (some .int), Cond.fieldLink RX3 39 "CraneReachModel" "SLANT" "[I", Cond.methodLink RX3 42 Lib.Math.min.name, Cond.static Lib.Math.min.name, Cond.code Lib.Math.min.name Lib.Math.min.code 2 (some .int)]
def wsX3_fewestMoves_r3 : List Cond := [Cond.fieldLink RX3 13 "CraneReachModel" "out" "[I", Cond.fieldLink RX3 46 "CraneReachModel" "plates" "I"]
def wsX3_fewestMoves : List Cond := .code yX3_fewestMoves cX3_fewestMoves 4 (some .int) :: ((wsX3_fewestMoves_r1 ++ (wsX3_fewestMoves_r2 ++ wsX3_fewestMoves_r3)) ++ wsX30)
def wsX3_within_r1 : List Cond := [Cond.fieldLink RX3 116 "CraneReachModel" "many" "I", Cond.methodLink RX3 123 yX3_goOut, Cond.instanceMethod yX3_goOut, Cond.selects RX3 yX3_goOut yX3_goOut, Cond.initialized RX3, Cond.code yX3_goOut cX3_goOut 6 none, Cond.fieldLink RX3 20 "CraneReachModel" "away" "[I", Cond.fieldLink RX3 56 "CraneReachModel" "direction" "I", Cond.fieldLink RX3 9 "CraneReachModel" "reach" "I", Cond.fieldLink RX3 23 "CraneReachModel" "queue" "[I", Cond.methodLink RX3 119 yX3_comeTo, Cond.instanceMethod yX3_comeTo, Cond.selects RX3 yX3_comeTo yX3_comeTo, Cond.code yX3_comeTo cX3_comeTo 5 none, Cond.methodLink RX3 72 yX3_isReach, Cond.static yX3_isReach, Cond.code yX3_isReach cX3_isReach 1 (some .boolean), Cond.methodLink RX3 29 yX3_isIn, Cond.static yX3_isIn, Cond.code yX3_isIn cX3_isIn 3 (some .boolean), Cond.methodLink RX3 59 yX3_isSafe, Cond.instanceMethod yX3_isSafe, Cond.selects RX3 yX3_isSafe yX3_isSafe, Cond.code yX3_isSafe cX3_isSafe 5 (some .boolean)]
def wsX3_within_r2 : List Cond := [Cond.fieldLink RX3 17 "CraneReachModel" "limit" "[I", Cond.methodLink RX3 49 yX3_strain, Cond.instanceMethod yX3_strain, Cond.selects RX3 yX3_strain yX3_strain, Cond.code yX3_strain cX3_strain 8 (some .int), Cond.methodLink RX3 33 Lib.Math.abs.name, Cond.static Lib.Math.abs.name, Cond.initialized "java/lang/Math", Cond.code Lib.Math.abs.name Lib.Math.abs.code 1 (some .int), Cond.fieldLink RX3 39 "CraneReachModel" "SLANT" "[I", Cond.methodLink RX3 42 Lib.Math.min.name, Cond.static Lib.Math.min.name, Cond.code Lib.Math.min.name Lib.Math.min.code 2 (some .int), Cond.fieldLink RX3 13 "CraneReachModel" "out" "[I", Cond.fieldLink RX3 46 "CraneReachModel" "plates" "I"]
def wsX3_within : List Cond := .code yX3_within cX3_within 2 (some .int) :: ((wsX3_within_r1 ++ wsX3_within_r2) ++ wsX30)
def wsX3_placesWithin_r1 : List Cond := [Cond.fieldLink RX3 26 "CraneReachModel" "thrown" "I", Cond.methodLink RX3 75 yX3_isLoad, Cond.static yX3_isLoad, Cond.initialized RX3, Cond.code yX3_isLoad cX3_isLoad 1 (some .boolean), Cond.methodLink RX3 29 yX3_isIn, Cond.static yX3_isIn, Cond.code yX3_isIn cX3_isIn 3 (some .boolean), Cond.methodLink RX3 127 yX3_within, Cond.instanceMethod yX3_within, Cond.selects RX3 yX3_within yX3_within, Cond.code yX3_within cX3_within 2 (some .int), Cond.fieldLink RX3 116 "CraneReachModel" "many" "I", Cond.methodLink RX3 123 yX3_goOut, Cond.instanceMethod yX3_goOut, Cond.selects RX3 yX3_goOut yX3_goOut, Cond.code yX3_goOut cX3_goOut 6 none, Cond.fieldLink RX3 20 "CraneReachModel" "away" "[I", Cond.fieldLink RX3 56 "CraneReachModel" "direction" "I", Cond.fieldLink RX3 9 "CraneReachModel" "reach" "I", Cond.fieldLink RX3 23 "CraneReachModel" "queue" "[I", Cond.methodLink RX3 119 yX3_comeTo, Cond.instanceMethod yX3_comeTo, Cond.selects RX3 yX3_comeTo yX3_comeTo]
def wsX3_placesWithin_r2 : List Cond := [Cond.code yX3_comeTo cX3_comeTo 5 none, Cond.methodLink RX3 72 yX3_isReach, Cond.static yX3_isReach, Cond.code yX3_isReach cX3_isReach 1 (some .boolean), Cond.methodLink RX3 59 yX3_isSafe, Cond.instanceMethod yX3_isSafe, Cond.selects RX3 yX3_isSafe yX3_isSafe, Cond.code yX3_isSafe cX3_isSafe 5 (some .boolean), Cond.fieldLink RX3 17 "CraneReachModel" "limit" "[I", Cond.methodLink RX3 49 yX3_strain, Cond.instanceMethod yX3_strain, Cond.selects RX3 yX3_strain yX3_strain, Cond.code yX3_strain cX3_strain 8 (some .int), Cond.methodLink RX3 33 Lib.Math.abs.name, Cond.static Lib.Math.abs.name, Cond.initialized "java/lang/Math", Cond.code Lib.Math.abs.name Lib.Math.abs.code 1 (some .int), Cond.fieldLink RX3 39 "CraneReachModel" "SLANT" "[I", Cond.methodLink RX3 42 Lib.Math.min.name, Cond.static Lib.Math.min.name, Cond.code Lib.Math.min.name Lib.Math.min.code 2 (some .int), Cond.fieldLink RX3 13 "CraneReachModel" "out" "[I", Cond.fieldLink RX3 46 "CraneReachModel" "plates" "I", Cond.methodLink RX3 62 yX3_no]
def wsX3_placesWithin_r3 : List Cond := [Cond.instanceMethod yX3_no, Cond.selects RX3 yX3_no yX3_no, Cond.code yX3_no cX3_no 2 (some .int)]
def wsX3_placesWithin : List Cond := .code yX3_placesWithin cX3_placesWithin 2 (some .int) :: ((wsX3_placesWithin_r1 ++ (wsX3_placesWithin_r2 ++ wsX3_placesWithin_r3)) ++ wsX30)
def wsX3_bestOutrigger_r1 : List Cond := [Cond.fieldLink RX3 26 "CraneReachModel" "thrown" "I", Cond.fieldLink RX3 13 "CraneReachModel" "out" "[I", Cond.methodLink RX3 75 yX3_isLoad, Cond.static yX3_isLoad, Cond.initialized RX3, Cond.code yX3_isLoad cX3_isLoad 1 (some .boolean), Cond.methodLink RX3 29 yX3_isIn, Cond.static yX3_isIn, Cond.code yX3_isIn cX3_isIn 3 (some .boolean), Cond.methodLink RX3 62 yX3_no, Cond.instanceMethod yX3_no, Cond.selects RX3 yX3_no yX3_no, Cond.code yX3_no cX3_no 2 (some .int), Cond.methodLink RX3 127 yX3_within, Cond.instanceMethod yX3_within, Cond.selects RX3 yX3_within yX3_within, Cond.code yX3_within cX3_within 2 (some .int), Cond.fieldLink RX3 116 "CraneReachModel" "many" "I", Cond.methodLink RX3 123 yX3_goOut, Cond.instanceMethod yX3_goOut, Cond.selects RX3 yX3_goOut yX3_goOut, Cond.code yX3_goOut cX3_goOut 6 none, Cond.fieldLink RX3 20 "CraneReachModel" "away" "[I", Cond.fieldLink RX3 56 "CraneReachModel" "direction" "I"]
def wsX3_bestOutrigger_r2 : List Cond := [Cond.fieldLink RX3 9 "CraneReachModel" "reach" "I", Cond.fieldLink RX3 23 "CraneReachModel" "queue" "[I", Cond.methodLink RX3 119 yX3_comeTo, Cond.instanceMethod yX3_comeTo, Cond.selects RX3 yX3_comeTo yX3_comeTo, Cond.code yX3_comeTo cX3_comeTo 5 none, Cond.methodLink RX3 72 yX3_isReach, Cond.static yX3_isReach, Cond.code yX3_isReach cX3_isReach 1 (some .boolean), Cond.methodLink RX3 59 yX3_isSafe, Cond.instanceMethod yX3_isSafe, Cond.selects RX3 yX3_isSafe yX3_isSafe, Cond.code yX3_isSafe cX3_isSafe 5 (some .boolean), Cond.fieldLink RX3 17 "CraneReachModel" "limit" "[I", Cond.methodLink RX3 49 yX3_strain, Cond.instanceMethod yX3_strain, Cond.selects RX3 yX3_strain yX3_strain, Cond.code yX3_strain cX3_strain 8 (some .int), Cond.methodLink RX3 33 Lib.Math.abs.name, Cond.static Lib.Math.abs.name, Cond.initialized "java/lang/Math", Cond.code Lib.Math.abs.name Lib.Math.abs.code 1 (some .int), Cond.fieldLink RX3 39 "CraneReachModel" "SLANT" "[I", Cond.methodLink RX3 42 Lib.Math.min.name]
def wsX3_bestOutrigger_r3 : List Cond := [Cond.static Lib.Math.min.name, Cond.code Lib.Math.min.name Lib.Math.min.code 2 (some .int), Cond.fieldLink RX3 46 "CraneReachModel" "plates" "I"]
def wsX3_bestOutrigger : List Cond := .code yX3_bestOutrigger cX3_bestOutrigger 6 (some .int) :: ((wsX3_bestOutrigger_r1 ++ (wsX3_bestOutrigger_r2 ++ wsX3_bestOutrigger_r3)) ++ wsX30)
def wsX3_meanLoad : List Cond := .code yX3_meanLoad cX3_meanLoad 1 (some .double) :: ([.fieldLink RX3 26 "CraneReachModel" "thrown" "I", .fieldLink RX3 78 "CraneReachModel" "lifts" "I", .fieldLink RX3 81 "CraneReachModel" "tons" "I"] ++ wsX30)
def wsX3_digest_r1 : List Cond := [Cond.fieldLink RX3 26 "CraneReachModel" "thrown" "I", Cond.arrayClass .int, Cond.fieldLink RX3 56 "CraneReachModel" "direction" "I", Cond.fieldLink RX3 9 "CraneReachModel" "reach" "I", Cond.fieldLink RX3 53 "CraneReachModel" "load" "I", Cond.fieldLink RX3 46 "CraneReachModel" "plates" "I", Cond.fieldLink RX3 78 "CraneReachModel" "lifts" "I", Cond.fieldLink RX3 81 "CraneReachModel" "tons" "I", Cond.fieldLink RX3 84 "CraneReachModel" "moves" "I", Cond.constantLong RX3 130 (1907), Cond.constantLong RX3 132 (31), Cond.fieldLink RX3 13 "CraneReachModel" "out" "[I", Cond.fieldLink RX3 17 "CraneReachModel" "limit" "[I", Cond.methodLink RX3 96 yX3_weakest, Cond.instanceMethod yX3_weakest, Cond.selects RX3 yX3_weakest yX3_weakest, Cond.initialized RX3, Cond.code yX3_weakest cX3_weakest 3 (some .int), Cond.methodLink RX3 93 yX3_strainNow, Cond.instanceMethod yX3_strainNow, Cond.selects RX3 yX3_strainNow yX3_strainNow, Cond.code yX3_strainNow cX3_strainNow 2 (some .int), Cond.methodLink RX3 49 yX3_strain, Cond.instanceMethod yX3_strain]
def wsX3_digest_r2 : List Cond := [Cond.selects RX3 yX3_strain yX3_strain, Cond.code yX3_strain cX3_strain 8 (some .int), Cond.methodLink RX3 33 Lib.Math.abs.name, Cond.static Lib.Math.abs.name, Cond.initialized "java/lang/Math", Cond.code Lib.Math.abs.name Lib.Math.abs.code 1 (some .int), Cond.fieldLink RX3 39 "CraneReachModel" "SLANT" "[I", Cond.methodLink RX3 42 Lib.Math.min.name, Cond.static Lib.Math.min.name, Cond.code Lib.Math.min.name Lib.Math.min.code 2 (some .int), Cond.methodLink RX3 106 yX3_greatest, Cond.instanceMethod yX3_greatest, Cond.selects RX3 yX3_greatest yX3_greatest, Cond.code yX3_greatest cX3_greatest 2 (some .int), Cond.methodLink RX3 59 yX3_isSafe, Cond.instanceMethod yX3_isSafe, Cond.selects RX3 yX3_isSafe yX3_isSafe, Cond.code yX3_isSafe cX3_isSafe 5 (some .boolean), Cond.methodLink RX3 109 yX3_safeAround, Cond.instanceMethod yX3_safeAround, Cond.selects RX3 yX3_safeAround yX3_safeAround, Cond.code yX3_safeAround cX3_safeAround 5 (some .int)]
def wsX3_digest : List Cond := .code yX3_digest cX3_digest 8 (some .long) :: ((wsX3_digest_r1 ++ wsX3_digest_r2) ++ wsX30)
def wsJ9_abs_0f7a4 : List Cond := .code yJ9_abs_0f7a4 cJ9_abs_0f7a4 1 (some .int) :: ([])
def wsJ9_min_7cf53 : List Cond := .code yJ9_min_7cf53 cJ9_min_7cf53 2 (some .int) :: ([])
def wsL_setPlates_r1 : List Cond := [Cond.classLink RL 13 "java/lang/IllegalArgumentException", Cond.classLink RL 15 "java/lang/IllegalStateException", Cond.methodLink RL 7 yX2_setPlates, Cond.instanceMethod yX2_setPlates, Cond.selects RX2 yX2_setPlates yX2_setPlates, Cond.initialized RX2, Cond.code yX2_setPlates cX2_setPlates 3 (some .int), Cond.classLink RX2 34 "java/lang/IllegalArgumentException", Cond.initialized "java/lang/IllegalArgumentException", Cond.fieldLink RX2 16 "CraneReach" "trial" "LCraneReach$Rig;", Cond.fieldLink RX2 12 "CraneReach" "rig" "LCraneReach$Rig;", Cond.fieldLink RX2 45 "CraneReach$Rig" "plates" "I", Cond.fieldLink RX2 48 "CraneReach" "load" "I", Cond.methodLink RX2 30 yX2_isWithin, Cond.static yX2_isWithin, Cond.code yX2_isWithin cX2_isWithin 3 (some .boolean), Cond.methodLink RX2 41 yX1_becomeLike, Cond.instanceMethod yX1_becomeLike, Cond.selects RX1 yX1_becomeLike yX1_becomeLike, Cond.initialized RX1, Cond.code yX1_becomeLike cX1_becomeLike 3 none, Cond.fieldLink RX1 18 "CraneReach$Rig" "plates" "I", Cond.methodLink RX1 22 yX1_drawn, Cond.instanceMethod yX1_drawn]
def wsL_setPlates_r2 : List Cond := [Cond.selects RX1 yX1_drawn yX1_drawn, Cond.code yX1_drawn cX1_drawn 2 (some .int), Cond.fieldLink RX1 9 "CraneReach$Rig" "outs" "[I", Cond.methodLink RX1 26 yX1_draw, Cond.instanceMethod yX1_draw, Cond.selects RX1 yX1_draw yX1_draw, Cond.code yX1_draw cX1_draw 3 none, Cond.methodLink RX1 30 yX1_allowed, Cond.instanceMethod yX1_allowed, Cond.selects RX1 yX1_allowed yX1_allowed, Cond.code yX1_allowed cX1_allowed 3 (some .int), Cond.fieldLink RX1 15 "CraneReach$Rig" "limits" "[I", Cond.methodLink RX1 33 yX1_allow, Cond.instanceMethod yX1_allow, Cond.selects RX1 yX1_allow yX1_allow, Cond.code yX1_allow cX1_allow 4 none, Cond.methodLink RX2 51 yX2_requireSafe, Cond.instanceMethod yX2_requireSafe, Cond.selects RX2 yX2_requireSafe yX2_requireSafe, Cond.code yX2_requireSafe cX2_requireSafe 3 none, Cond.classLink RX2 91 "java/lang/IllegalStateException", Cond.initialized "java/lang/IllegalStateException", Cond.fieldLink RX2 98 "CraneReach" "direction" "I", Cond.fieldLink RX2 26 "CraneReach" "reach" "I"]
def wsL_setPlates_r3 : List Cond := [Cond.methodLink RX2 105 yX1_isSafe, Cond.instanceMethod yX1_isSafe, Cond.selects RX1 yX1_isSafe yX1_isSafe, Cond.code yX1_isSafe cX1_isSafe 5 (some .boolean), Cond.methodLink RX1 36 yX1_strain, Cond.instanceMethod yX1_strain, Cond.selects RX1 yX1_strain yX1_strain, Cond.code yX1_strain cX1_strain 7 (some .int), Cond.methodLink RX1 40 yX1_slant, Cond.static yX1_slant, Cond.code yX1_slant cX1_slant 2 (some .int)]
def wsL_setPlates : List Cond := .codeWith yL_setPlates cL_setPlates 4 (some .int) [(0, 9, 12, 13), (0, 9, 15, 15)] :: ((wsL_setPlates_r1 ++ (wsL_setPlates_r2 ++ wsL_setPlates_r3)) ++ wsX20 ++ wsX10 ++ (vx_atS RX2 38 "java/lang/IllegalArgumentException" ["java/lang/RuntimeException", "java/lang/Exception"]).filter goodWord ++ (vx_atS RX2 95 "java/lang/IllegalStateException" ["java/lang/RuntimeException", "java/lang/Exception"]).filter goodWord)
def wsL_setOutrigger_r1 : List Cond := [Cond.classLink RL 21 "java/lang/IndexOutOfBoundsException", Cond.classLink RL 13 "java/lang/IllegalArgumentException", Cond.classLink RL 15 "java/lang/IllegalStateException", Cond.methodLink RL 17 yX2_setOutrigger, Cond.instanceMethod yX2_setOutrigger, Cond.selects RX2 yX2_setOutrigger yX2_setOutrigger, Cond.initialized RX2, Cond.code yX2_setOutrigger cX2_setOutrigger 4 (some .int), Cond.classLink RX2 34 "java/lang/IllegalArgumentException", Cond.initialized "java/lang/IllegalArgumentException", Cond.fieldLink RX2 16 "CraneReach" "trial" "LCraneReach$Rig;", Cond.fieldLink RX2 12 "CraneReach" "rig" "LCraneReach$Rig;", Cond.fieldLink RX2 48 "CraneReach" "load" "I", Cond.methodLink RX2 55 yX2_requireSide, Cond.static yX2_requireSide, Cond.code yX2_requireSide cX2_requireSide 1 none, Cond.classLink RX2 159 "java/lang/IndexOutOfBoundsException", Cond.initialized "java/lang/IndexOutOfBoundsException", Cond.methodLink RX2 30 yX2_isWithin, Cond.static yX2_isWithin, Cond.code yX2_isWithin cX2_isWithin 3 (some .boolean), Cond.methodLink RX2 61 yX2_requireNoLoad, Cond.instanceMethod yX2_requireNoLoad, Cond.selects RX2 yX2_requireNoLoad yX2_requireNoLoad]
def wsL_setOutrigger_r2 : List Cond := [Cond.code yX2_requireNoLoad cX2_requireNoLoad 1 none, Cond.classLink RX2 91 "java/lang/IllegalStateException", Cond.initialized "java/lang/IllegalStateException", Cond.methodLink RX2 41 yX1_becomeLike, Cond.instanceMethod yX1_becomeLike, Cond.selects RX1 yX1_becomeLike yX1_becomeLike, Cond.initialized RX1, Cond.code yX1_becomeLike cX1_becomeLike 3 none, Cond.fieldLink RX1 18 "CraneReach$Rig" "plates" "I", Cond.methodLink RX1 22 yX1_drawn, Cond.instanceMethod yX1_drawn, Cond.selects RX1 yX1_drawn yX1_drawn, Cond.code yX1_drawn cX1_drawn 2 (some .int), Cond.fieldLink RX1 9 "CraneReach$Rig" "outs" "[I", Cond.methodLink RX1 26 yX1_draw, Cond.instanceMethod yX1_draw, Cond.selects RX1 yX1_draw yX1_draw, Cond.code yX1_draw cX1_draw 3 none, Cond.methodLink RX1 30 yX1_allowed, Cond.instanceMethod yX1_allowed, Cond.selects RX1 yX1_allowed yX1_allowed, Cond.code yX1_allowed cX1_allowed 3 (some .int), Cond.fieldLink RX1 15 "CraneReach$Rig" "limits" "[I", Cond.methodLink RX1 33 yX1_allow]
def wsL_setOutrigger_r3 : List Cond := [Cond.instanceMethod yX1_allow, Cond.selects RX1 yX1_allow yX1_allow, Cond.code yX1_allow cX1_allow 4 none, Cond.methodLink RX2 64 yX1_draw, Cond.methodLink RX2 51 yX2_requireSafe, Cond.instanceMethod yX2_requireSafe, Cond.selects RX2 yX2_requireSafe yX2_requireSafe, Cond.code yX2_requireSafe cX2_requireSafe 3 none, Cond.fieldLink RX2 98 "CraneReach" "direction" "I", Cond.fieldLink RX2 26 "CraneReach" "reach" "I", Cond.methodLink RX2 105 yX1_isSafe, Cond.instanceMethod yX1_isSafe, Cond.selects RX1 yX1_isSafe yX1_isSafe, Cond.code yX1_isSafe cX1_isSafe 5 (some .boolean), Cond.methodLink RX1 36 yX1_strain, Cond.instanceMethod yX1_strain, Cond.selects RX1 yX1_strain yX1_strain, Cond.code yX1_strain cX1_strain 7 (some .int), Cond.methodLink RX1 40 yX1_slant, Cond.static yX1_slant, Cond.code yX1_slant cX1_slant 2 (some .int), Cond.methodLink RX2 68 yX1_drawn]
def wsL_setOutrigger : List Cond := .codeWith yL_setOutrigger cL_setOutrigger 5 (some .int) [(0, 10, 13, 21), (0, 10, 17, 13), (0, 10, 21, 15)] :: ((wsL_setOutrigger_r1 ++ (wsL_setOutrigger_r2 ++ wsL_setOutrigger_r3)) ++ wsX20 ++ wsX10 ++ (vx_atS RX2 38 "java/lang/IllegalArgumentException" ["java/lang/RuntimeException", "java/lang/Exception"]).filter goodWord ++ (vx_atS RX2 163 "java/lang/IndexOutOfBoundsException" ["java/lang/RuntimeException", "java/lang/Exception"]).filter goodWord ++ (vx_atS RX2 95 "java/lang/IllegalStateException" ["java/lang/RuntimeException", "java/lang/Exception"]).filter goodWord)
def wsL_setLimit_r1 : List Cond := [Cond.classLink RL 13 "java/lang/IllegalArgumentException", Cond.classLink RL 15 "java/lang/IllegalStateException", Cond.methodLink RL 23 yX2_setLimit, Cond.instanceMethod yX2_setLimit, Cond.selects RX2 yX2_setLimit yX2_setLimit, Cond.initialized RX2, Cond.code yX2_setLimit cX2_setLimit 4 (some .int), Cond.classLink RX2 34 "java/lang/IllegalArgumentException", Cond.initialized "java/lang/IllegalArgumentException", Cond.fieldLink RX2 16 "CraneReach" "trial" "LCraneReach$Rig;", Cond.fieldLink RX2 12 "CraneReach" "rig" "LCraneReach$Rig;", Cond.fieldLink RX2 48 "CraneReach" "load" "I", Cond.methodLink RX2 72 yX2_requireReach, Cond.static yX2_requireReach, Cond.code yX2_requireReach cX2_requireReach 1 none, Cond.methodLink RX2 113 yX2_isReach, Cond.static yX2_isReach, Cond.code yX2_isReach cX2_isReach 1 (some .boolean), Cond.methodLink RX2 30 yX2_isWithin, Cond.static yX2_isWithin, Cond.code yX2_isWithin cX2_isWithin 3 (some .boolean), Cond.methodLink RX2 41 yX1_becomeLike, Cond.instanceMethod yX1_becomeLike, Cond.selects RX1 yX1_becomeLike yX1_becomeLike]
def wsL_setLimit_r2 : List Cond := [Cond.initialized RX1, Cond.code yX1_becomeLike cX1_becomeLike 3 none, Cond.fieldLink RX1 18 "CraneReach$Rig" "plates" "I", Cond.methodLink RX1 22 yX1_drawn, Cond.instanceMethod yX1_drawn, Cond.selects RX1 yX1_drawn yX1_drawn, Cond.code yX1_drawn cX1_drawn 2 (some .int), Cond.fieldLink RX1 9 "CraneReach$Rig" "outs" "[I", Cond.methodLink RX1 26 yX1_draw, Cond.instanceMethod yX1_draw, Cond.selects RX1 yX1_draw yX1_draw, Cond.code yX1_draw cX1_draw 3 none, Cond.methodLink RX1 30 yX1_allowed, Cond.instanceMethod yX1_allowed, Cond.selects RX1 yX1_allowed yX1_allowed, Cond.code yX1_allowed cX1_allowed 3 (some .int), Cond.fieldLink RX1 15 "CraneReach$Rig" "limits" "[I", Cond.methodLink RX1 33 yX1_allow, Cond.instanceMethod yX1_allow, Cond.selects RX1 yX1_allow yX1_allow, Cond.code yX1_allow cX1_allow 4 none, Cond.methodLink RX2 77 yX1_allow, Cond.methodLink RX2 51 yX2_requireSafe, Cond.instanceMethod yX2_requireSafe]
def wsL_setLimit_r3 : List Cond := [Cond.selects RX2 yX2_requireSafe yX2_requireSafe, Cond.code yX2_requireSafe cX2_requireSafe 3 none, Cond.classLink RX2 91 "java/lang/IllegalStateException", Cond.initialized "java/lang/IllegalStateException", Cond.fieldLink RX2 98 "CraneReach" "direction" "I", Cond.fieldLink RX2 26 "CraneReach" "reach" "I", Cond.methodLink RX2 105 yX1_isSafe, Cond.instanceMethod yX1_isSafe, Cond.selects RX1 yX1_isSafe yX1_isSafe, Cond.code yX1_isSafe cX1_isSafe 5 (some .boolean), Cond.methodLink RX1 36 yX1_strain, Cond.instanceMethod yX1_strain, Cond.selects RX1 yX1_strain yX1_strain, Cond.code yX1_strain cX1_strain 7 (some .int), Cond.methodLink RX1 40 yX1_slant, Cond.static yX1_slant, Cond.code yX1_slant cX1_slant 2 (some .int), Cond.methodLink RX2 80 yX1_allowed]
def wsL_setLimit : List Cond := .codeWith yL_setLimit cL_setLimit 5 (some .int) [(0, 10, 13, 13), (0, 10, 17, 15)] :: ((wsL_setLimit_r1 ++ (wsL_setLimit_r2 ++ wsL_setLimit_r3)) ++ wsX20 ++ wsX10 ++ (vx_atS RX2 38 "java/lang/IllegalArgumentException" ["java/lang/RuntimeException", "java/lang/Exception"]).filter goodWord ++ (vx_atS RX2 95 "java/lang/IllegalStateException" ["java/lang/RuntimeException", "java/lang/Exception"]).filter goodWord)
def wsL_lift_r1 : List Cond := [Cond.classLink RL 13 "java/lang/IllegalArgumentException", Cond.classLink RL 15 "java/lang/IllegalStateException", Cond.methodLink RL 26 yX2_lift, Cond.instanceMethod yX2_lift, Cond.selects RX2 yX2_lift yX2_lift, Cond.initialized RX2, Cond.code yX2_lift cX2_lift 2 (some .int), Cond.classLink RX2 34 "java/lang/IllegalArgumentException", Cond.initialized "java/lang/IllegalArgumentException", Cond.fieldLink RX2 12 "CraneReach" "rig" "LCraneReach$Rig;", Cond.fieldLink RX2 48 "CraneReach" "load" "I", Cond.fieldLink RX2 85 "CraneReach" "lifts" "I", Cond.fieldLink RX2 88 "CraneReach" "tonsLifted" "I", Cond.methodLink RX2 30 yX2_isWithin, Cond.static yX2_isWithin, Cond.code yX2_isWithin cX2_isWithin 3 (some .boolean), Cond.methodLink RX2 61 yX2_requireNoLoad, Cond.instanceMethod yX2_requireNoLoad, Cond.selects RX2 yX2_requireNoLoad yX2_requireNoLoad, Cond.code yX2_requireNoLoad cX2_requireNoLoad 1 none, Cond.classLink RX2 91 "java/lang/IllegalStateException", Cond.initialized "java/lang/IllegalStateException", Cond.methodLink RX2 51 yX2_requireSafe, Cond.instanceMethod yX2_requireSafe]
def wsL_lift_r2 : List Cond := [Cond.selects RX2 yX2_requireSafe yX2_requireSafe, Cond.code yX2_requireSafe cX2_requireSafe 3 none, Cond.fieldLink RX2 98 "CraneReach" "direction" "I", Cond.fieldLink RX2 26 "CraneReach" "reach" "I", Cond.methodLink RX2 105 yX1_isSafe, Cond.instanceMethod yX1_isSafe, Cond.selects RX1 yX1_isSafe yX1_isSafe, Cond.initialized RX1, Cond.code yX1_isSafe cX1_isSafe 5 (some .boolean), Cond.methodLink RX1 30 yX1_allowed, Cond.instanceMethod yX1_allowed, Cond.selects RX1 yX1_allowed yX1_allowed, Cond.code yX1_allowed cX1_allowed 3 (some .int), Cond.fieldLink RX1 15 "CraneReach$Rig" "limits" "[I", Cond.methodLink RX1 36 yX1_strain, Cond.instanceMethod yX1_strain, Cond.selects RX1 yX1_strain yX1_strain, Cond.code yX1_strain cX1_strain 7 (some .int), Cond.fieldLink RX1 18 "CraneReach$Rig" "plates" "I", Cond.methodLink RX1 22 yX1_drawn, Cond.instanceMethod yX1_drawn, Cond.selects RX1 yX1_drawn yX1_drawn, Cond.code yX1_drawn cX1_drawn 2 (some .int), Cond.fieldLink RX1 9 "CraneReach$Rig" "outs" "[I"]
def wsL_lift_r3 : List Cond := [Cond.methodLink RX1 40 yX1_slant, Cond.static yX1_slant, Cond.code yX1_slant cX1_slant 2 (some .int)]
def wsL_lift : List Cond := .codeWith yL_lift cL_lift 4 (some .int) [(0, 9, 12, 13), (0, 9, 15, 15)] :: ((wsL_lift_r1 ++ (wsL_lift_r2 ++ wsL_lift_r3)) ++ wsX20 ++ wsX10 ++ (vx_atS RX2 38 "java/lang/IllegalArgumentException" ["java/lang/RuntimeException", "java/lang/Exception"]).filter goodWord ++ (vx_atS RX2 95 "java/lang/IllegalStateException" ["java/lang/RuntimeException", "java/lang/Exception"]).filter goodWord)
def wsL_setDown_r1 : List Cond := [Cond.classLink RL 15 "java/lang/IllegalStateException", Cond.methodLink RL 29 yX2_setDown, Cond.instanceMethod yX2_setDown, Cond.selects RX2 yX2_setDown yX2_setDown, Cond.initialized RX2, Cond.code yX2_setDown cX2_setDown 2 (some .int), Cond.classLink RX2 91 "java/lang/IllegalStateException", Cond.initialized "java/lang/IllegalStateException", Cond.fieldLink RX2 48 "CraneReach" "load" "I", Cond.fieldLink RX2 12 "CraneReach" "rig" "LCraneReach$Rig;", Cond.methodLink RX2 51 yX2_requireSafe, Cond.instanceMethod yX2_requireSafe, Cond.selects RX2 yX2_requireSafe yX2_requireSafe, Cond.code yX2_requireSafe cX2_requireSafe 3 none, Cond.fieldLink RX2 98 "CraneReach" "direction" "I", Cond.fieldLink RX2 26 "CraneReach" "reach" "I", Cond.methodLink RX2 105 yX1_isSafe, Cond.instanceMethod yX1_isSafe, Cond.selects RX1 yX1_isSafe yX1_isSafe, Cond.initialized RX1, Cond.code yX1_isSafe cX1_isSafe 5 (some .boolean), Cond.methodLink RX1 30 yX1_allowed, Cond.instanceMethod yX1_allowed, Cond.selects RX1 yX1_allowed yX1_allowed]
def wsL_setDown_r2 : List Cond := [Cond.code yX1_allowed cX1_allowed 3 (some .int), Cond.fieldLink RX1 15 "CraneReach$Rig" "limits" "[I", Cond.methodLink RX1 36 yX1_strain, Cond.instanceMethod yX1_strain, Cond.selects RX1 yX1_strain yX1_strain, Cond.code yX1_strain cX1_strain 7 (some .int), Cond.fieldLink RX1 18 "CraneReach$Rig" "plates" "I", Cond.methodLink RX1 22 yX1_drawn, Cond.instanceMethod yX1_drawn, Cond.selects RX1 yX1_drawn yX1_drawn, Cond.code yX1_drawn cX1_drawn 2 (some .int), Cond.fieldLink RX1 9 "CraneReach$Rig" "outs" "[I", Cond.methodLink RX1 40 yX1_slant, Cond.static yX1_slant, Cond.code yX1_slant cX1_slant 2 (some .int)]
def wsL_setDown : List Cond := .codeWith yL_setDown cL_setDown 3 (some .int) [(0, 8, 11, 15)] :: ((wsL_setDown_r1 ++ wsL_setDown_r2) ++ wsX20 ++ wsX10 ++ (vx_atS RX2 95 "java/lang/IllegalStateException" ["java/lang/RuntimeException", "java/lang/Exception"]).filter goodWord)
def wsL_swing_r1 : List Cond := [Cond.classLink RL 13 "java/lang/IllegalArgumentException", Cond.methodLink RL 33 yX2_swing, Cond.instanceMethod yX2_swing, Cond.selects RX2 yX2_swing yX2_swing, Cond.initialized RX2, Cond.code yX2_swing cX2_swing 5 (some .int), Cond.classLink RX2 34 "java/lang/IllegalArgumentException", Cond.initialized "java/lang/IllegalArgumentException", Cond.fieldLink RX2 12 "CraneReach" "rig" "LCraneReach$Rig;", Cond.fieldLink RX2 48 "CraneReach" "load" "I", Cond.fieldLink RX2 98 "CraneReach" "direction" "I", Cond.fieldLink RX2 26 "CraneReach" "reach" "I", Cond.methodLink RX2 30 yX2_isWithin, Cond.static yX2_isWithin, Cond.code yX2_isWithin cX2_isWithin 3 (some .boolean), Cond.methodLink RX2 101 yX2_turned, Cond.static yX2_turned, Cond.code yX2_turned cX2_turned 2 (some .int), Cond.methodLink RX2 105 yX1_isSafe, Cond.instanceMethod yX1_isSafe, Cond.selects RX1 yX1_isSafe yX1_isSafe, Cond.initialized RX1, Cond.code yX1_isSafe cX1_isSafe 5 (some .boolean), Cond.methodLink RX1 30 yX1_allowed]
def wsL_swing_r2 : List Cond := [Cond.instanceMethod yX1_allowed, Cond.selects RX1 yX1_allowed yX1_allowed, Cond.code yX1_allowed cX1_allowed 3 (some .int), Cond.fieldLink RX1 15 "CraneReach$Rig" "limits" "[I", Cond.methodLink RX1 36 yX1_strain, Cond.instanceMethod yX1_strain, Cond.selects RX1 yX1_strain yX1_strain, Cond.code yX1_strain cX1_strain 7 (some .int), Cond.fieldLink RX1 18 "CraneReach$Rig" "plates" "I", Cond.methodLink RX1 22 yX1_drawn, Cond.instanceMethod yX1_drawn, Cond.selects RX1 yX1_drawn yX1_drawn, Cond.code yX1_drawn cX1_drawn 2 (some .int), Cond.fieldLink RX1 9 "CraneReach$Rig" "outs" "[I", Cond.methodLink RX1 40 yX1_slant, Cond.static yX1_slant, Cond.code yX1_slant cX1_slant 2 (some .int), Cond.methodLink RX2 108 yX2_countMoves, Cond.instanceMethod yX2_countMoves, Cond.selects RX2 yX2_countMoves yX2_countMoves, Cond.code yX2_countMoves cX2_countMoves 2 none, Cond.fieldLink RX2 121 "CraneReach" "movesWithLoad" "I"]
def wsL_swing : List Cond := .codeWith yL_swing cL_swing 5 (some .int) [(0, 10, 13, 13)] :: ((wsL_swing_r1 ++ wsL_swing_r2) ++ wsX20 ++ wsX10 ++ (vx_atS RX2 38 "java/lang/IllegalArgumentException" ["java/lang/RuntimeException", "java/lang/Exception"]).filter goodWord)
def wsL_stretch_r1 : List Cond := [Cond.classLink RL 13 "java/lang/IllegalArgumentException", Cond.methodLink RL 37 yX2_stretch, Cond.instanceMethod yX2_stretch, Cond.selects RX2 yX2_stretch yX2_stretch, Cond.initialized RX2, Cond.code yX2_stretch cX2_stretch 5 (some .int), Cond.classLink RX2 34 "java/lang/IllegalArgumentException", Cond.initialized "java/lang/IllegalArgumentException", Cond.fieldLink RX2 26 "CraneReach" "reach" "I", Cond.fieldLink RX2 12 "CraneReach" "rig" "LCraneReach$Rig;", Cond.fieldLink RX2 48 "CraneReach" "load" "I", Cond.fieldLink RX2 98 "CraneReach" "direction" "I", Cond.methodLink RX2 30 yX2_isWithin, Cond.static yX2_isWithin, Cond.code yX2_isWithin cX2_isWithin 3 (some .boolean), Cond.methodLink RX2 113 yX2_isReach, Cond.static yX2_isReach, Cond.code yX2_isReach cX2_isReach 1 (some .boolean), Cond.methodLink RX2 105 yX1_isSafe, Cond.instanceMethod yX1_isSafe, Cond.selects RX1 yX1_isSafe yX1_isSafe, Cond.initialized RX1, Cond.code yX1_isSafe cX1_isSafe 5 (some .boolean), Cond.methodLink RX1 30 yX1_allowed]
def wsL_stretch_r2 : List Cond := [Cond.instanceMethod yX1_allowed, Cond.selects RX1 yX1_allowed yX1_allowed, Cond.code yX1_allowed cX1_allowed 3 (some .int), Cond.fieldLink RX1 15 "CraneReach$Rig" "limits" "[I", Cond.methodLink RX1 36 yX1_strain, Cond.instanceMethod yX1_strain, Cond.selects RX1 yX1_strain yX1_strain, Cond.code yX1_strain cX1_strain 7 (some .int), Cond.fieldLink RX1 18 "CraneReach$Rig" "plates" "I", Cond.methodLink RX1 22 yX1_drawn, Cond.instanceMethod yX1_drawn, Cond.selects RX1 yX1_drawn yX1_drawn, Cond.code yX1_drawn cX1_drawn 2 (some .int), Cond.fieldLink RX1 9 "CraneReach$Rig" "outs" "[I", Cond.methodLink RX1 40 yX1_slant, Cond.static yX1_slant, Cond.code yX1_slant cX1_slant 2 (some .int), Cond.methodLink RX2 108 yX2_countMoves, Cond.instanceMethod yX2_countMoves, Cond.selects RX2 yX2_countMoves yX2_countMoves, Cond.code yX2_countMoves cX2_countMoves 2 none, Cond.fieldLink RX2 121 "CraneReach" "movesWithLoad" "I"]
def wsL_stretch : List Cond := .codeWith yL_stretch cL_stretch 5 (some .int) [(0, 10, 13, 13)] :: ((wsL_stretch_r1 ++ wsL_stretch_r2) ++ wsX20 ++ wsX10 ++ (vx_atS RX2 38 "java/lang/IllegalArgumentException" ["java/lang/RuntimeException", "java/lang/Exception"]).filter goodWord)
def wsL_outrigger : List Cond := .codeWith yL_outrigger cL_outrigger 4 (some .int) [(0, 9, 12, 21)] :: ([.classLink RL 21 "java/lang/IndexOutOfBoundsException", .methodLink RL 40 yX2_outrigger, .instanceMethod yX2_outrigger, .selects RX2 yX2_outrigger yX2_outrigger, .initialized RX2, .code yX2_outrigger cX2_outrigger 2 (some .int), .fieldLink RX2 12 "CraneReach" "rig" "LCraneReach$Rig;", .methodLink RX2 55 yX2_requireSide, .static yX2_requireSide, .code yX2_requireSide cX2_requireSide 1 none, .classLink RX2 159 "java/lang/IndexOutOfBoundsException", .initialized "java/lang/IndexOutOfBoundsException", .methodLink RX2 30 yX2_isWithin, .static yX2_isWithin, .code yX2_isWithin cX2_isWithin 3 (some .boolean), .methodLink RX2 68 yX1_drawn, .instanceMethod yX1_drawn, .selects RX1 yX1_drawn yX1_drawn, .initialized RX1, .code yX1_drawn cX1_drawn 2 (some .int), .fieldLink RX1 9 "CraneReach$Rig" "outs" "[I"] ++ wsX20 ++ wsX10 ++ (vx_atS RX2 163 "java/lang/IndexOutOfBoundsException" ["java/lang/RuntimeException", "java/lang/Exception"]).filter goodWord)
def wsL_limitAt : List Cond := .codeWith yL_limitAt cL_limitAt 4 (some .int) [(0, 9, 12, 13)] :: ([.classLink RL 13 "java/lang/IllegalArgumentException", .methodLink RL 43 yX2_limitAt, .instanceMethod yX2_limitAt, .selects RX2 yX2_limitAt yX2_limitAt, .initialized RX2, .code yX2_limitAt cX2_limitAt 2 (some .int), .fieldLink RX2 12 "CraneReach" "rig" "LCraneReach$Rig;", .methodLink RX2 72 yX2_requireReach, .static yX2_requireReach, .code yX2_requireReach cX2_requireReach 1 none, .classLink RX2 34 "java/lang/IllegalArgumentException", .initialized "java/lang/IllegalArgumentException", .methodLink RX2 113 yX2_isReach, .static yX2_isReach, .code yX2_isReach cX2_isReach 1 (some .boolean), .methodLink RX2 30 yX2_isWithin, .static yX2_isWithin, .code yX2_isWithin cX2_isWithin 3 (some .boolean), .methodLink RX2 80 yX1_allowed, .instanceMethod yX1_allowed, .selects RX1 yX1_allowed yX1_allowed, .initialized RX1, .code yX1_allowed cX1_allowed 3 (some .int), .fieldLink RX1 15 "CraneReach$Rig" "limits" "[I"] ++ wsX20 ++ wsX10 ++ (vx_atS RX2 38 "java/lang/IllegalArgumentException" ["java/lang/RuntimeException", "java/lang/Exception"]).filter goodWord)
def wsL_strainOn_r1 : List Cond := [Cond.classLink RL 21 "java/lang/IndexOutOfBoundsException", Cond.methodLink RL 46 yX2_strainOn, Cond.instanceMethod yX2_strainOn, Cond.selects RX2 yX2_strainOn yX2_strainOn, Cond.initialized RX2, Cond.code yX2_strainOn cX2_strainOn 2 (some .int), Cond.fieldLink RX2 12 "CraneReach" "rig" "LCraneReach$Rig;", Cond.fieldLink RX2 48 "CraneReach" "load" "I", Cond.fieldLink RX2 98 "CraneReach" "direction" "I", Cond.fieldLink RX2 26 "CraneReach" "reach" "I", Cond.methodLink RX2 55 yX2_requireSide, Cond.static yX2_requireSide, Cond.code yX2_requireSide cX2_requireSide 1 none, Cond.classLink RX2 159 "java/lang/IndexOutOfBoundsException", Cond.initialized "java/lang/IndexOutOfBoundsException", Cond.methodLink RX2 30 yX2_isWithin, Cond.static yX2_isWithin, Cond.code yX2_isWithin cX2_isWithin 3 (some .boolean), Cond.methodLink RX2 117 yX1_strain, Cond.instanceMethod yX1_strain, Cond.selects RX1 yX1_strain yX1_strain, Cond.initialized RX1, Cond.code yX1_strain cX1_strain 7 (some .int), Cond.fieldLink RX1 18 "CraneReach$Rig" "plates" "I"]
def wsL_strainOn_r2 : List Cond := [Cond.methodLink RX1 22 yX1_drawn, Cond.instanceMethod yX1_drawn, Cond.selects RX1 yX1_drawn yX1_drawn, Cond.code yX1_drawn cX1_drawn 2 (some .int), Cond.fieldLink RX1 9 "CraneReach$Rig" "outs" "[I", Cond.methodLink RX1 40 yX1_slant, Cond.static yX1_slant, Cond.code yX1_slant cX1_slant 2 (some .int)]
def wsL_strainOn : List Cond := .codeWith yL_strainOn cL_strainOn 4 (some .int) [(0, 9, 12, 21)] :: ((wsL_strainOn_r1 ++ wsL_strainOn_r2) ++ wsX20 ++ wsX10 ++ (vx_atS RX2 163 "java/lang/IndexOutOfBoundsException" ["java/lang/RuntimeException", "java/lang/Exception"]).filter goodWord)
def wsL_isSafeWith_r1 : List Cond := [Cond.classLink RL 21 "java/lang/IndexOutOfBoundsException", Cond.classLink RL 13 "java/lang/IllegalArgumentException", Cond.methodLink RL 49 yX2_isSafeWith, Cond.instanceMethod yX2_isSafeWith, Cond.selects RX2 yX2_isSafeWith yX2_isSafeWith, Cond.initialized RX2, Cond.code yX2_isSafeWith cX2_isSafeWith 4 (some .boolean), Cond.fieldLink RX2 12 "CraneReach" "rig" "LCraneReach$Rig;", Cond.methodLink RX2 124 yX2_requireDirection, Cond.static yX2_requireDirection, Cond.code yX2_requireDirection cX2_requireDirection 1 none, Cond.classLink RX2 159 "java/lang/IndexOutOfBoundsException", Cond.initialized "java/lang/IndexOutOfBoundsException", Cond.methodLink RX2 30 yX2_isWithin, Cond.static yX2_isWithin, Cond.code yX2_isWithin cX2_isWithin 3 (some .boolean), Cond.methodLink RX2 127 yX2_requireLoad, Cond.static yX2_requireLoad, Cond.code yX2_requireLoad cX2_requireLoad 1 none, Cond.classLink RX2 34 "java/lang/IllegalArgumentException", Cond.initialized "java/lang/IllegalArgumentException", Cond.methodLink RX2 72 yX2_requireReach, Cond.static yX2_requireReach, Cond.code yX2_requireReach cX2_requireReach 1 none]
def wsL_isSafeWith_r2 : List Cond := [Cond.methodLink RX2 113 yX2_isReach, Cond.static yX2_isReach, Cond.code yX2_isReach cX2_isReach 1 (some .boolean), Cond.methodLink RX2 105 yX1_isSafe, Cond.instanceMethod yX1_isSafe, Cond.selects RX1 yX1_isSafe yX1_isSafe, Cond.initialized RX1, Cond.code yX1_isSafe cX1_isSafe 5 (some .boolean), Cond.methodLink RX1 30 yX1_allowed, Cond.instanceMethod yX1_allowed, Cond.selects RX1 yX1_allowed yX1_allowed, Cond.code yX1_allowed cX1_allowed 3 (some .int), Cond.fieldLink RX1 15 "CraneReach$Rig" "limits" "[I", Cond.methodLink RX1 36 yX1_strain, Cond.instanceMethod yX1_strain, Cond.selects RX1 yX1_strain yX1_strain, Cond.code yX1_strain cX1_strain 7 (some .int), Cond.fieldLink RX1 18 "CraneReach$Rig" "plates" "I", Cond.methodLink RX1 22 yX1_drawn, Cond.instanceMethod yX1_drawn, Cond.selects RX1 yX1_drawn yX1_drawn, Cond.code yX1_drawn cX1_drawn 2 (some .int), Cond.fieldLink RX1 9 "CraneReach$Rig" "outs" "[I", Cond.methodLink RX1 40 yX1_slant]
def wsL_isSafeWith_r3 : List Cond := [Cond.static yX1_slant, Cond.code yX1_slant cX1_slant 2 (some .int)]
def wsL_isSafeWith : List Cond := .codeWith yL_isSafeWith cL_isSafeWith 6 (some .int) [(0, 19, 22, 21), (0, 19, 26, 13)] :: ((wsL_isSafeWith_r1 ++ (wsL_isSafeWith_r2 ++ wsL_isSafeWith_r3)) ++ wsX20 ++ wsX10 ++ (vx_atS RX2 163 "java/lang/IndexOutOfBoundsException" ["java/lang/RuntimeException", "java/lang/Exception"]).filter goodWord ++ (vx_atS RX2 38 "java/lang/IllegalArgumentException" ["java/lang/RuntimeException", "java/lang/Exception"]).filter goodWord)
def wsL_farthestReach_r1 : List Cond := [Cond.classLink RL 21 "java/lang/IndexOutOfBoundsException", Cond.classLink RL 13 "java/lang/IllegalArgumentException", Cond.methodLink RL 53 yX2_farthestReach, Cond.instanceMethod yX2_farthestReach, Cond.selects RX2 yX2_farthestReach yX2_farthestReach, Cond.initialized RX2, Cond.code yX2_farthestReach cX2_farthestReach 5 (some .int), Cond.fieldLink RX2 12 "CraneReach" "rig" "LCraneReach$Rig;", Cond.methodLink RX2 124 yX2_requireDirection, Cond.static yX2_requireDirection, Cond.code yX2_requireDirection cX2_requireDirection 1 none, Cond.classLink RX2 159 "java/lang/IndexOutOfBoundsException", Cond.initialized "java/lang/IndexOutOfBoundsException", Cond.methodLink RX2 30 yX2_isWithin, Cond.static yX2_isWithin, Cond.code yX2_isWithin cX2_isWithin 3 (some .boolean), Cond.methodLink RX2 127 yX2_requireLoad, Cond.static yX2_requireLoad, Cond.code yX2_requireLoad cX2_requireLoad 1 none, Cond.classLink RX2 34 "java/lang/IllegalArgumentException", Cond.initialized "java/lang/IllegalArgumentException", Cond.methodLink RX2 105 yX1_isSafe, Cond.instanceMethod yX1_isSafe, Cond.selects RX1 yX1_isSafe yX1_isSafe]
def wsL_farthestReach_r2 : List Cond := [Cond.initialized RX1, Cond.code yX1_isSafe cX1_isSafe 5 (some .boolean), Cond.methodLink RX1 30 yX1_allowed, Cond.instanceMethod yX1_allowed, Cond.selects RX1 yX1_allowed yX1_allowed, Cond.code yX1_allowed cX1_allowed 3 (some .int), Cond.fieldLink RX1 15 "CraneReach$Rig" "limits" "[I", Cond.methodLink RX1 36 yX1_strain, Cond.instanceMethod yX1_strain, Cond.selects RX1 yX1_strain yX1_strain, Cond.code yX1_strain cX1_strain 7 (some .int), Cond.fieldLink RX1 18 "CraneReach$Rig" "plates" "I", Cond.methodLink RX1 22 yX1_drawn, Cond.instanceMethod yX1_drawn, Cond.selects RX1 yX1_drawn yX1_drawn, Cond.code yX1_drawn cX1_drawn 2 (some .int), Cond.fieldLink RX1 9 "CraneReach$Rig" "outs" "[I", Cond.methodLink RX1 40 yX1_slant, Cond.static yX1_slant, Cond.code yX1_slant cX1_slant 2 (some .int)]
def wsL_farthestReach : List Cond := .codeWith yL_farthestReach cL_farthestReach 5 (some .int) [(0, 10, 13, 21), (0, 10, 17, 13)] :: ((wsL_farthestReach_r1 ++ wsL_farthestReach_r2) ++ wsX20 ++ wsX10 ++ (vx_atS RX2 163 "java/lang/IndexOutOfBoundsException" ["java/lang/RuntimeException", "java/lang/Exception"]).filter goodWord ++ (vx_atS RX2 38 "java/lang/IllegalArgumentException" ["java/lang/RuntimeException", "java/lang/Exception"]).filter goodWord)
def wsL_safeDirections_r1 : List Cond := [Cond.classLink RL 13 "java/lang/IllegalArgumentException", Cond.methodLink RL 56 yX2_safeDirections, Cond.instanceMethod yX2_safeDirections, Cond.selects RX2 yX2_safeDirections yX2_safeDirections, Cond.initialized RX2, Cond.code yX2_safeDirections cX2_safeDirections 5 (some .int), Cond.fieldLink RX2 12 "CraneReach" "rig" "LCraneReach$Rig;", Cond.methodLink RX2 127 yX2_requireLoad, Cond.static yX2_requireLoad, Cond.code yX2_requireLoad cX2_requireLoad 1 none, Cond.classLink RX2 34 "java/lang/IllegalArgumentException", Cond.initialized "java/lang/IllegalArgumentException", Cond.methodLink RX2 30 yX2_isWithin, Cond.static yX2_isWithin, Cond.code yX2_isWithin cX2_isWithin 3 (some .boolean), Cond.methodLink RX2 72 yX2_requireReach, Cond.static yX2_requireReach, Cond.code yX2_requireReach cX2_requireReach 1 none, Cond.methodLink RX2 113 yX2_isReach, Cond.static yX2_isReach, Cond.code yX2_isReach cX2_isReach 1 (some .boolean), Cond.methodLink RX2 105 yX1_isSafe, Cond.instanceMethod yX1_isSafe, Cond.selects RX1 yX1_isSafe yX1_isSafe]
def wsL_safeDirections_r2 : List Cond := [Cond.initialized RX1, Cond.code yX1_isSafe cX1_isSafe 5 (some .boolean), Cond.methodLink RX1 30 yX1_allowed, Cond.instanceMethod yX1_allowed, Cond.selects RX1 yX1_allowed yX1_allowed, Cond.code yX1_allowed cX1_allowed 3 (some .int), Cond.fieldLink RX1 15 "CraneReach$Rig" "limits" "[I", Cond.methodLink RX1 36 yX1_strain, Cond.instanceMethod yX1_strain, Cond.selects RX1 yX1_strain yX1_strain, Cond.code yX1_strain cX1_strain 7 (some .int), Cond.fieldLink RX1 18 "CraneReach$Rig" "plates" "I", Cond.methodLink RX1 22 yX1_drawn, Cond.instanceMethod yX1_drawn, Cond.selects RX1 yX1_drawn yX1_drawn, Cond.code yX1_drawn cX1_drawn 2 (some .int), Cond.fieldLink RX1 9 "CraneReach$Rig" "outs" "[I", Cond.methodLink RX1 40 yX1_slant, Cond.static yX1_slant, Cond.code yX1_slant cX1_slant 2 (some .int)]
def wsL_safeDirections : List Cond := .codeWith yL_safeDirections cL_safeDirections 5 (some .int) [(0, 10, 13, 13)] :: ((wsL_safeDirections_r1 ++ wsL_safeDirections_r2) ++ wsX20 ++ wsX10 ++ (vx_atS RX2 38 "java/lang/IllegalArgumentException" ["java/lang/RuntimeException", "java/lang/Exception"]).filter goodWord)
def wsL_platesNeeded_r1 : List Cond := [Cond.classLink RL 21 "java/lang/IndexOutOfBoundsException", Cond.classLink RL 13 "java/lang/IllegalArgumentException", Cond.methodLink RL 59 yX2_platesNeeded, Cond.instanceMethod yX2_platesNeeded, Cond.selects RX2 yX2_platesNeeded yX2_platesNeeded, Cond.initialized RX2, Cond.code yX2_platesNeeded cX2_platesNeeded 5 (some .int), Cond.fieldLink RX2 16 "CraneReach" "trial" "LCraneReach$Rig;", Cond.fieldLink RX2 12 "CraneReach" "rig" "LCraneReach$Rig;", Cond.fieldLink RX2 45 "CraneReach$Rig" "plates" "I", Cond.methodLink RX2 124 yX2_requireDirection, Cond.static yX2_requireDirection, Cond.code yX2_requireDirection cX2_requireDirection 1 none, Cond.classLink RX2 159 "java/lang/IndexOutOfBoundsException", Cond.initialized "java/lang/IndexOutOfBoundsException", Cond.methodLink RX2 30 yX2_isWithin, Cond.static yX2_isWithin, Cond.code yX2_isWithin cX2_isWithin 3 (some .boolean), Cond.methodLink RX2 127 yX2_requireLoad, Cond.static yX2_requireLoad, Cond.code yX2_requireLoad cX2_requireLoad 1 none, Cond.classLink RX2 34 "java/lang/IllegalArgumentException", Cond.initialized "java/lang/IllegalArgumentException", Cond.methodLink RX2 72 yX2_requireReach]
def wsL_platesNeeded_r2 : List Cond := [Cond.static yX2_requireReach, Cond.code yX2_requireReach cX2_requireReach 1 none, Cond.methodLink RX2 113 yX2_isReach, Cond.static yX2_isReach, Cond.code yX2_isReach cX2_isReach 1 (some .boolean), Cond.methodLink RX2 41 yX1_becomeLike, Cond.instanceMethod yX1_becomeLike, Cond.selects RX1 yX1_becomeLike yX1_becomeLike, Cond.initialized RX1, Cond.code yX1_becomeLike cX1_becomeLike 3 none, Cond.fieldLink RX1 18 "CraneReach$Rig" "plates" "I", Cond.methodLink RX1 22 yX1_drawn, Cond.instanceMethod yX1_drawn, Cond.selects RX1 yX1_drawn yX1_drawn, Cond.code yX1_drawn cX1_drawn 2 (some .int), Cond.fieldLink RX1 9 "CraneReach$Rig" "outs" "[I", Cond.methodLink RX1 26 yX1_draw, Cond.instanceMethod yX1_draw, Cond.selects RX1 yX1_draw yX1_draw, Cond.code yX1_draw cX1_draw 3 none, Cond.methodLink RX1 30 yX1_allowed, Cond.instanceMethod yX1_allowed, Cond.selects RX1 yX1_allowed yX1_allowed, Cond.code yX1_allowed cX1_allowed 3 (some .int)]
def wsL_platesNeeded_r3 : List Cond := [Cond.fieldLink RX1 15 "CraneReach$Rig" "limits" "[I", Cond.methodLink RX1 33 yX1_allow, Cond.instanceMethod yX1_allow, Cond.selects RX1 yX1_allow yX1_allow, Cond.code yX1_allow cX1_allow 4 none, Cond.methodLink RX2 105 yX1_isSafe, Cond.instanceMethod yX1_isSafe, Cond.selects RX1 yX1_isSafe yX1_isSafe, Cond.code yX1_isSafe cX1_isSafe 5 (some .boolean), Cond.methodLink RX1 36 yX1_strain, Cond.instanceMethod yX1_strain, Cond.selects RX1 yX1_strain yX1_strain, Cond.code yX1_strain cX1_strain 7 (some .int), Cond.methodLink RX1 40 yX1_slant, Cond.static yX1_slant, Cond.code yX1_slant cX1_slant 2 (some .int)]
def wsL_platesNeeded : List Cond := .codeWith yL_platesNeeded cL_platesNeeded 6 (some .int) [(0, 12, 15, 21), (0, 12, 19, 13)] :: ((wsL_platesNeeded_r1 ++ (wsL_platesNeeded_r2 ++ wsL_platesNeeded_r3)) ++ wsX20 ++ wsX10 ++ (vx_atS RX2 163 "java/lang/IndexOutOfBoundsException" ["java/lang/RuntimeException", "java/lang/Exception"]).filter goodWord ++ (vx_atS RX2 38 "java/lang/IllegalArgumentException" ["java/lang/RuntimeException", "java/lang/Exception"]).filter goodWord)
def wsL_fewestMoves_r1 : List Cond := [Cond.classLink RL 21 "java/lang/IndexOutOfBoundsException", Cond.classLink RL 13 "java/lang/IllegalArgumentException", Cond.methodLink RL 63 yX2_fewestMoves, Cond.instanceMethod yX2_fewestMoves, Cond.selects RX2 yX2_fewestMoves yX2_fewestMoves, Cond.initialized RX2, Cond.code yX2_fewestMoves cX2_fewestMoves 4 (some .int), Cond.fieldLink RX2 22 "CraneReach" "plan" "LCraneReach$Plan;", Cond.fieldLink RX2 12 "CraneReach" "rig" "LCraneReach$Rig;", Cond.fieldLink RX2 98 "CraneReach" "direction" "I", Cond.fieldLink RX2 26 "CraneReach" "reach" "I", Cond.methodLink RX2 124 yX2_requireDirection, Cond.static yX2_requireDirection, Cond.code yX2_requireDirection cX2_requireDirection 1 none, Cond.classLink RX2 159 "java/lang/IndexOutOfBoundsException", Cond.initialized "java/lang/IndexOutOfBoundsException", Cond.methodLink RX2 30 yX2_isWithin, Cond.static yX2_isWithin, Cond.code yX2_isWithin cX2_isWithin 3 (some .boolean), Cond.methodLink RX2 127 yX2_requireLoad, Cond.static yX2_requireLoad, Cond.code yX2_requireLoad cX2_requireLoad 1 none, Cond.classLink RX2 34 "java/lang/IllegalArgumentException", Cond.initialized "java/lang/IllegalArgumentException"]
def wsL_fewestMoves_r2 : List Cond := [Cond.methodLink RX2 72 yX2_requireReach, Cond.static yX2_requireReach, Cond.code yX2_requireReach cX2_requireReach 1 none, Cond.methodLink RX2 113 yX2_isReach, Cond.static yX2_isReach, Cond.code yX2_isReach cX2_isReach 1 (some .boolean), Cond.methodLink RX2 130 yX0_spread, Cond.instanceMethod yX0_spread, Cond.selects RX0 yX0_spread yX0_spread, Cond.initialized RX0, Cond.code yX0_spread cX0_spread 6 (some .int), Cond.fieldLink RX0 18 "CraneReach$Plan" "places" "I", Cond.fieldLink RX0 9 "CraneReach$Plan" "moves" "[I", Cond.fieldLink RX0 15 "CraneReach$Plan" "found" "[I", Cond.methodLink RX0 22 yX0_visit, Cond.instanceMethod yX0_visit, Cond.selects RX0 yX0_visit yX0_visit, Cond.code yX0_visit cX0_visit 7 none, Cond.methodLink RX0 30 yX0_placeOf, Cond.static yX0_placeOf, Cond.code yX0_placeOf cX0_placeOf 2 (some .int), Cond.methodLink RX0 37 yX1_isSafe, Cond.instanceMethod yX1_isSafe, Cond.selects RX1 yX1_isSafe yX1_isSafe]
def wsL_fewestMoves_r3 : List Cond := [Cond.initialized RX1, Cond.code yX1_isSafe cX1_isSafe 5 (some .boolean), Cond.methodLink RX1 30 yX1_allowed, Cond.instanceMethod yX1_allowed, Cond.selects RX1 yX1_allowed yX1_allowed, Cond.code yX1_allowed cX1_allowed 3 (some .int), Cond.fieldLink RX1 15 "CraneReach$Rig" "limits" "[I", Cond.methodLink RX1 36 yX1_strain, Cond.instanceMethod yX1_strain, Cond.selects RX1 yX1_strain yX1_strain, Cond.code yX1_strain cX1_strain 7 (some .int), Cond.fieldLink RX1 18 "CraneReach$Rig" "plates" "I", Cond.methodLink RX1 22 yX1_drawn, Cond.instanceMethod yX1_drawn, Cond.selects RX1 yX1_drawn yX1_drawn, Cond.code yX1_drawn cX1_drawn 2 (some .int), Cond.fieldLink RX1 9 "CraneReach$Rig" "outs" "[I", Cond.methodLink RX1 40 yX1_slant, Cond.static yX1_slant, Cond.code yX1_slant cX1_slant 2 (some .int), Cond.methodLink RX0 26 yX0_visitBeside, Cond.instanceMethod yX0_visitBeside, Cond.selects RX0 yX0_visitBeside yX0_visitBeside, Cond.code yX0_visitBeside cX0_visitBeside 7 none]
def wsL_fewestMoves_r4 : List Cond := [Cond.static yX2_turned, Cond.code yX2_turned cX2_turned 2 (some .int), Cond.methodLink RX2 134 yX0_movesTo, Cond.instanceMethod yX0_movesTo, Cond.selects RX0 yX0_movesTo yX0_movesTo, Cond.code yX0_movesTo cX0_movesTo 4 (some .int)]
def wsL_fewestMoves : List Cond := .codeWith yL_fewestMoves cL_fewestMoves 6 (some .int) [(0, 12, 15, 21), (0, 12, 19, 13)] :: ((wsL_fewestMoves_r1 ++ (wsL_fewestMoves_r2 ++ (wsL_fewestMoves_r3 ++ wsL_fewestMoves_r4))) ++ wsX20 ++ wsX00 ++ wsX10 ++ (vx_atS RX2 163 "java/lang/IndexOutOfBoundsException" ["java/lang/RuntimeException", "java/lang/Exception"]).filter goodWord ++ (vx_atS RX2 38 "java/lang/IllegalArgumentException" ["java/lang/RuntimeException", "java/lang/Exception"]).filter goodWord)
def wsL_placesWithin_r1 : List Cond := [Cond.classLink RL 13 "java/lang/IllegalArgumentException", Cond.methodLink RL 66 yX2_placesWithin, Cond.instanceMethod yX2_placesWithin, Cond.selects RX2 yX2_placesWithin yX2_placesWithin, Cond.initialized RX2, Cond.code yX2_placesWithin cX2_placesWithin 2 (some .int), Cond.fieldLink RX2 22 "CraneReach" "plan" "LCraneReach$Plan;", Cond.fieldLink RX2 12 "CraneReach" "rig" "LCraneReach$Rig;", Cond.fieldLink RX2 98 "CraneReach" "direction" "I", Cond.fieldLink RX2 26 "CraneReach" "reach" "I", Cond.methodLink RX2 127 yX2_requireLoad, Cond.static yX2_requireLoad, Cond.code yX2_requireLoad cX2_requireLoad 1 none, Cond.classLink RX2 34 "java/lang/IllegalArgumentException", Cond.initialized "java/lang/IllegalArgumentException", Cond.methodLink RX2 30 yX2_isWithin, Cond.static yX2_isWithin, Cond.code yX2_isWithin cX2_isWithin 3 (some .boolean), Cond.methodLink RX2 130 yX0_spread, Cond.instanceMethod yX0_spread, Cond.selects RX0 yX0_spread yX0_spread, Cond.initialized RX0, Cond.code yX0_spread cX0_spread 6 (some .int), Cond.fieldLink RX0 18 "CraneReach$Plan" "places" "I"]
def wsL_placesWithin_r2 : List Cond := [Cond.fieldLink RX0 9 "CraneReach$Plan" "moves" "[I", Cond.fieldLink RX0 15 "CraneReach$Plan" "found" "[I", Cond.methodLink RX0 22 yX0_visit, Cond.instanceMethod yX0_visit, Cond.selects RX0 yX0_visit yX0_visit, Cond.code yX0_visit cX0_visit 7 none, Cond.methodLink RX0 30 yX0_placeOf, Cond.static yX0_placeOf, Cond.code yX0_placeOf cX0_placeOf 2 (some .int), Cond.static yX2_isReach, Cond.code yX2_isReach cX2_isReach 1 (some .boolean), Cond.methodLink RX0 37 yX1_isSafe, Cond.instanceMethod yX1_isSafe, Cond.selects RX1 yX1_isSafe yX1_isSafe, Cond.initialized RX1, Cond.code yX1_isSafe cX1_isSafe 5 (some .boolean), Cond.methodLink RX1 30 yX1_allowed, Cond.instanceMethod yX1_allowed, Cond.selects RX1 yX1_allowed yX1_allowed, Cond.code yX1_allowed cX1_allowed 3 (some .int), Cond.fieldLink RX1 15 "CraneReach$Rig" "limits" "[I", Cond.methodLink RX1 36 yX1_strain, Cond.instanceMethod yX1_strain, Cond.selects RX1 yX1_strain yX1_strain]
def wsL_placesWithin_r3 : List Cond := [Cond.code yX1_strain cX1_strain 7 (some .int), Cond.fieldLink RX1 18 "CraneReach$Rig" "plates" "I", Cond.methodLink RX1 22 yX1_drawn, Cond.instanceMethod yX1_drawn, Cond.selects RX1 yX1_drawn yX1_drawn, Cond.code yX1_drawn cX1_drawn 2 (some .int), Cond.fieldLink RX1 9 "CraneReach$Rig" "outs" "[I", Cond.methodLink RX1 40 yX1_slant, Cond.static yX1_slant, Cond.code yX1_slant cX1_slant 2 (some .int), Cond.methodLink RX0 26 yX0_visitBeside, Cond.instanceMethod yX0_visitBeside, Cond.selects RX0 yX0_visitBeside yX0_visitBeside, Cond.code yX0_visitBeside cX0_visitBeside 7 none, Cond.static yX2_turned, Cond.code yX2_turned cX2_turned 2 (some .int)]
def wsL_placesWithin : List Cond := .codeWith yL_placesWithin cL_placesWithin 4 (some .int) [(0, 9, 12, 13)] :: ((wsL_placesWithin_r1 ++ (wsL_placesWithin_r2 ++ wsL_placesWithin_r3)) ++ wsX20 ++ wsX00 ++ wsX10 ++ (vx_atS RX2 38 "java/lang/IllegalArgumentException" ["java/lang/RuntimeException", "java/lang/Exception"]).filter goodWord)
def wsL_bestOutrigger_r1 : List Cond := [Cond.classLink RL 13 "java/lang/IllegalArgumentException", Cond.methodLink RL 69 yX2_bestOutrigger, Cond.instanceMethod yX2_bestOutrigger, Cond.selects RX2 yX2_bestOutrigger yX2_bestOutrigger, Cond.initialized RX2, Cond.code yX2_bestOutrigger cX2_bestOutrigger 7 (some .int), Cond.fieldLink RX2 12 "CraneReach" "rig" "LCraneReach$Rig;", Cond.fieldLink RX2 16 "CraneReach" "trial" "LCraneReach$Rig;", Cond.fieldLink RX2 22 "CraneReach" "plan" "LCraneReach$Plan;", Cond.fieldLink RX2 98 "CraneReach" "direction" "I", Cond.fieldLink RX2 26 "CraneReach" "reach" "I", Cond.methodLink RX2 127 yX2_requireLoad, Cond.static yX2_requireLoad, Cond.code yX2_requireLoad cX2_requireLoad 1 none, Cond.classLink RX2 34 "java/lang/IllegalArgumentException", Cond.initialized "java/lang/IllegalArgumentException", Cond.methodLink RX2 30 yX2_isWithin, Cond.static yX2_isWithin, Cond.code yX2_isWithin cX2_isWithin 3 (some .boolean), Cond.methodLink RX2 68 yX1_drawn, Cond.instanceMethod yX1_drawn, Cond.selects RX1 yX1_drawn yX1_drawn, Cond.initialized RX1, Cond.code yX1_drawn cX1_drawn 2 (some .int)]
def wsL_bestOutrigger_r2 : List Cond := [Cond.fieldLink RX1 9 "CraneReach$Rig" "outs" "[I", Cond.methodLink RX2 41 yX1_becomeLike, Cond.instanceMethod yX1_becomeLike, Cond.selects RX1 yX1_becomeLike yX1_becomeLike, Cond.code yX1_becomeLike cX1_becomeLike 3 none, Cond.fieldLink RX1 18 "CraneReach$Rig" "plates" "I", Cond.methodLink RX1 22 yX1_drawn, Cond.methodLink RX1 26 yX1_draw, Cond.instanceMethod yX1_draw, Cond.selects RX1 yX1_draw yX1_draw, Cond.code yX1_draw cX1_draw 3 none, Cond.methodLink RX1 30 yX1_allowed, Cond.instanceMethod yX1_allowed, Cond.selects RX1 yX1_allowed yX1_allowed, Cond.code yX1_allowed cX1_allowed 3 (some .int), Cond.fieldLink RX1 15 "CraneReach$Rig" "limits" "[I", Cond.methodLink RX1 33 yX1_allow, Cond.instanceMethod yX1_allow, Cond.selects RX1 yX1_allow yX1_allow, Cond.code yX1_allow cX1_allow 4 none, Cond.methodLink RX2 64 yX1_draw, Cond.methodLink RX2 130 yX0_spread, Cond.instanceMethod yX0_spread, Cond.selects RX0 yX0_spread yX0_spread]
def wsL_bestOutrigger_r3 : List Cond := [Cond.initialized RX0, Cond.code yX0_spread cX0_spread 6 (some .int), Cond.fieldLink RX0 18 "CraneReach$Plan" "places" "I", Cond.fieldLink RX0 9 "CraneReach$Plan" "moves" "[I", Cond.fieldLink RX0 15 "CraneReach$Plan" "found" "[I", Cond.methodLink RX0 22 yX0_visit, Cond.instanceMethod yX0_visit, Cond.selects RX0 yX0_visit yX0_visit, Cond.code yX0_visit cX0_visit 7 none, Cond.methodLink RX0 30 yX0_placeOf, Cond.static yX0_placeOf, Cond.code yX0_placeOf cX0_placeOf 2 (some .int), Cond.static yX2_isReach, Cond.code yX2_isReach cX2_isReach 1 (some .boolean), Cond.methodLink RX0 37 yX1_isSafe, Cond.instanceMethod yX1_isSafe, Cond.selects RX1 yX1_isSafe yX1_isSafe, Cond.code yX1_isSafe cX1_isSafe 5 (some .boolean), Cond.methodLink RX1 36 yX1_strain, Cond.instanceMethod yX1_strain, Cond.selects RX1 yX1_strain yX1_strain, Cond.code yX1_strain cX1_strain 7 (some .int), Cond.methodLink RX1 40 yX1_slant, Cond.static yX1_slant]
def wsL_bestOutrigger_r4 : List Cond := [Cond.code yX1_slant cX1_slant 2 (some .int), Cond.methodLink RX0 26 yX0_visitBeside, Cond.instanceMethod yX0_visitBeside, Cond.selects RX0 yX0_visitBeside yX0_visitBeside, Cond.code yX0_visitBeside cX0_visitBeside 7 none, Cond.static yX2_turned, Cond.code yX2_turned cX2_turned 2 (some .int)]
def wsL_bestOutrigger : List Cond := .codeWith yL_bestOutrigger cL_bestOutrigger 4 (some .int) [(0, 9, 12, 13)] :: ((wsL_bestOutrigger_r1 ++ (wsL_bestOutrigger_r2 ++ (wsL_bestOutrigger_r3 ++ wsL_bestOutrigger_r4))) ++ wsX20 ++ wsX10 ++ wsX00 ++ (vx_atS RX2 38 "java/lang/IllegalArgumentException" ["java/lang/RuntimeException", "java/lang/Exception"]).filter goodWord)
def wsL_law0_r1 : List Cond := [Cond.classLink RL 8 RX2, Cond.instantiable RX2 9, Cond.initialized RX2, Cond.classLink RL 73 RX3, Cond.instantiable RX3 13, Cond.initialized RX3, Cond.arrayClass .long, Cond.methodLink RL 72 yX2_init, Cond.instanceMethod yX2_init, Cond.code yX2_init cX2_init 1 none, Cond.methodLink RX2 3 objectInit, Cond.instanceMethod objectInit, Cond.code objectInit ⟨#[0xb1]⟩ 1 none, Cond.classLink RX2 9 RX1, Cond.instantiable RX1 3, Cond.initialized RX1, Cond.fieldLink RX2 12 "CraneReach" "rig" "LCraneReach$Rig;", Cond.fieldLink RX2 16 "CraneReach" "trial" "LCraneReach$Rig;", Cond.classLink RX2 19 RX0, Cond.instantiable RX0 3, Cond.initialized RX0, Cond.fieldLink RX2 22 "CraneReach" "plan" "LCraneReach$Plan;", Cond.fieldLink RX2 26 "CraneReach" "reach" "I", Cond.methodLink RX2 11 yX1_init]
def wsL_law0_r2 : List Cond := [Cond.instanceMethod yX1_init, Cond.code yX1_init cX1_init 2 none, Cond.methodLink RX1 3 objectInit, Cond.arrayClass .int, Cond.fieldLink RX1 9 "CraneReach$Rig" "outs" "[I", Cond.fieldLink RX1 15 "CraneReach$Rig" "limits" "[I", Cond.instanceMethod yX0_init, Cond.code yX0_init cX0_init 1 none, Cond.methodLink RX0 3 objectInit, Cond.fieldLink RX0 9 "CraneReach$Plan" "moves" "[I", Cond.fieldLink RX0 15 "CraneReach$Plan" "found" "[I", Cond.methodLink RL 75 yX3_init, Cond.instanceMethod yX3_init, Cond.code yX3_init cX3_init 2 none, Cond.methodLink RX3 3 objectInit, Cond.fieldLink RX3 9 "CraneReachModel" "reach" "I", Cond.fieldLink RX3 13 "CraneReachModel" "out" "[I", Cond.fieldLink RX3 17 "CraneReachModel" "limit" "[I", Cond.fieldLink RX3 20 "CraneReachModel" "away" "[I", Cond.fieldLink RX3 23 "CraneReachModel" "queue" "[I", Cond.methodLink RL 76 yL_setPlates, Cond.static yL_setPlates, Cond.initialized RL, Cond.codeWith yL_setPlates cL_setPlates 4 (some .int) [(0, 9, 12, 13), (0, 9, 15, 15)]]
def wsL_law0_r3 : List Cond := [Cond.classLink RL 13 "java/lang/IllegalArgumentException", Cond.classLink RL 15 "java/lang/IllegalStateException", Cond.methodLink RL 7 yX2_setPlates, Cond.instanceMethod yX2_setPlates, Cond.selects RX2 yX2_setPlates yX2_setPlates, Cond.code yX2_setPlates cX2_setPlates 3 (some .int), Cond.classLink RX2 34 "java/lang/IllegalArgumentException", Cond.initialized "java/lang/IllegalArgumentException", Cond.fieldLink RX2 45 "CraneReach$Rig" "plates" "I", Cond.fieldLink RX2 48 "CraneReach" "load" "I", Cond.methodLink RX2 30 yX2_isWithin, Cond.static yX2_isWithin, Cond.code yX2_isWithin cX2_isWithin 3 (some .boolean), Cond.methodLink RX2 41 yX1_becomeLike, Cond.instanceMethod yX1_becomeLike, Cond.selects RX1 yX1_becomeLike yX1_becomeLike, Cond.code yX1_becomeLike cX1_becomeLike 3 none, Cond.fieldLink RX1 18 "CraneReach$Rig" "plates" "I", Cond.methodLink RX1 22 yX1_drawn, Cond.instanceMethod yX1_drawn, Cond.selects RX1 yX1_drawn yX1_drawn, Cond.code yX1_drawn cX1_drawn 2 (some .int), Cond.methodLink RX1 26 yX1_draw, Cond.instanceMethod yX1_draw]
def wsL_law0_r4 : List Cond := [Cond.selects RX1 yX1_draw yX1_draw, Cond.code yX1_draw cX1_draw 3 none, Cond.methodLink RX1 30 yX1_allowed, Cond.instanceMethod yX1_allowed, Cond.selects RX1 yX1_allowed yX1_allowed, Cond.code yX1_allowed cX1_allowed 3 (some .int), Cond.methodLink RX1 33 yX1_allow, Cond.instanceMethod yX1_allow, Cond.selects RX1 yX1_allow yX1_allow, Cond.code yX1_allow cX1_allow 4 none, Cond.methodLink RX2 51 yX2_requireSafe, Cond.instanceMethod yX2_requireSafe, Cond.selects RX2 yX2_requireSafe yX2_requireSafe, Cond.code yX2_requireSafe cX2_requireSafe 3 none, Cond.classLink RX2 91 "java/lang/IllegalStateException", Cond.initialized "java/lang/IllegalStateException", Cond.fieldLink RX2 98 "CraneReach" "direction" "I", Cond.methodLink RX2 105 yX1_isSafe, Cond.instanceMethod yX1_isSafe, Cond.selects RX1 yX1_isSafe yX1_isSafe, Cond.code yX1_isSafe cX1_isSafe 5 (some .boolean), Cond.methodLink RX1 36 yX1_strain, Cond.instanceMethod yX1_strain, Cond.selects RX1 yX1_strain yX1_strain]
def wsL_law0_r5 : List Cond := [Cond.code yX1_strain cX1_strain 7 (some .int), Cond.methodLink RX1 40 yX1_slant, Cond.static yX1_slant, Cond.code yX1_slant cX1_slant 2 (some .int), Cond.methodLink RL 81 yX3_setPlates, Cond.instanceMethod yX3_setPlates, Cond.selects RX3 yX3_setPlates yX3_setPlates, Cond.code yX3_setPlates cX3_setPlates 3 (some .int), Cond.fieldLink RX3 26 "CraneReachModel" "thrown" "I", Cond.fieldLink RX3 46 "CraneReachModel" "plates" "I", Cond.methodLink RX3 29 yX3_isIn, Cond.static yX3_isIn, Cond.code yX3_isIn cX3_isIn 3 (some .boolean), Cond.methodLink RX3 62 yX3_no, Cond.instanceMethod yX3_no, Cond.selects RX3 yX3_no yX3_no, Cond.code yX3_no cX3_no 2 (some .int), Cond.methodLink RX3 65 yX3_isSafe_, Cond.instanceMethod yX3_isSafe_, Cond.selects RX3 yX3_isSafe_ yX3_isSafe_, Cond.code yX3_isSafe_ cX3_isSafe_ 1 (some .boolean), Cond.fieldLink RX3 53 "CraneReachModel" "load" "I", Cond.fieldLink RX3 56 "CraneReachModel" "direction" "I", Cond.methodLink RX3 59 yX3_isSafe]
def wsL_law0_r6 : List Cond := [Cond.instanceMethod yX3_isSafe, Cond.selects RX3 yX3_isSafe yX3_isSafe, Cond.code yX3_isSafe cX3_isSafe 5 (some .boolean), Cond.methodLink RX3 49 yX3_strain, Cond.instanceMethod yX3_strain, Cond.selects RX3 yX3_strain yX3_strain, Cond.code yX3_strain cX3_strain 8 (some .int), Cond.methodLink RX3 33 Lib.Math.abs.name, Cond.static Lib.Math.abs.name, Cond.initialized "java/lang/Math", Cond.code Lib.Math.abs.name Lib.Math.abs.code 1 (some .int), Cond.fieldLink RX3 39 "CraneReachModel" "SLANT" "[I", Cond.methodLink RX3 42 Lib.Math.min.name, Cond.static Lib.Math.min.name, Cond.code Lib.Math.min.name Lib.Math.min.code 2 (some .int), Cond.methodLink RL 82 yX3_thrown, Cond.instanceMethod yX3_thrown, Cond.selects RX3 yX3_thrown yX3_thrown, Cond.code yX3_thrown cX3_thrown 1 (some .int), Cond.methodLink RL 85 yL_setOutrigger, Cond.static yL_setOutrigger, Cond.codeWith yL_setOutrigger cL_setOutrigger 5 (some .int) [(0, 10, 13, 21), (0, 10, 17, 13), (0, 10, 21, 15)], Cond.classLink RL 21 "java/lang/IndexOutOfBoundsException", Cond.methodLink RL 17 yX2_setOutrigger]
def wsL_law0_r7 : List Cond := [Cond.instanceMethod yX2_setOutrigger, Cond.selects RX2 yX2_setOutrigger yX2_setOutrigger, Cond.code yX2_setOutrigger cX2_setOutrigger 4 (some .int), Cond.methodLink RX2 55 yX2_requireSide, Cond.static yX2_requireSide, Cond.code yX2_requireSide cX2_requireSide 1 none, Cond.classLink RX2 159 "java/lang/IndexOutOfBoundsException", Cond.initialized "java/lang/IndexOutOfBoundsException", Cond.methodLink RX2 61 yX2_requireNoLoad, Cond.instanceMethod yX2_requireNoLoad, Cond.selects RX2 yX2_requireNoLoad yX2_requireNoLoad, Cond.code yX2_requireNoLoad cX2_requireNoLoad 1 none, Cond.methodLink RX2 64 yX1_draw, Cond.methodLink RX2 68 yX1_drawn, Cond.methodLink RL 88 yX3_setOutrigger, Cond.instanceMethod yX3_setOutrigger, Cond.selects RX3 yX3_setOutrigger yX3_setOutrigger, Cond.code yX3_setOutrigger cX3_setOutrigger 4 (some .int), Cond.methodLink RX3 68 yX3_isSide, Cond.static yX3_isSide, Cond.code yX3_isSide cX3_isSide 1 (some .boolean), Cond.methodLink RL 89 yL_setLimit, Cond.static yL_setLimit, Cond.codeWith yL_setLimit cL_setLimit 5 (some .int) [(0, 10, 13, 13), (0, 10, 17, 15)]]
def wsL_law0_r8 : List Cond := [Cond.methodLink RL 23 yX2_setLimit, Cond.instanceMethod yX2_setLimit, Cond.selects RX2 yX2_setLimit yX2_setLimit, Cond.code yX2_setLimit cX2_setLimit 4 (some .int), Cond.methodLink RX2 72 yX2_requireReach, Cond.static yX2_requireReach, Cond.code yX2_requireReach cX2_requireReach 1 none, Cond.methodLink RX2 113 yX2_isReach, Cond.static yX2_isReach, Cond.code yX2_isReach cX2_isReach 1 (some .boolean), Cond.methodLink RX2 77 yX1_allow, Cond.methodLink RX2 80 yX1_allowed, Cond.methodLink RL 91 yX3_setLimit, Cond.instanceMethod yX3_setLimit, Cond.selects RX3 yX3_setLimit yX3_setLimit, Cond.code yX3_setLimit cX3_setLimit 4 (some .int), Cond.methodLink RX3 72 yX3_isReach, Cond.static yX3_isReach, Cond.code yX3_isReach cX3_isReach 1 (some .boolean), Cond.methodLink RX3 75 yX3_isLoad, Cond.static yX3_isLoad, Cond.code yX3_isLoad cX3_isLoad 1 (some .boolean), Cond.methodLink RL 92 yL_lift, Cond.static yL_lift]
def wsL_law0_r9 : List Cond := [Cond.codeWith yL_lift cL_lift 4 (some .int) [(0, 9, 12, 13), (0, 9, 15, 15)], Cond.methodLink RL 26 yX2_lift, Cond.instanceMethod yX2_lift, Cond.selects RX2 yX2_lift yX2_lift, Cond.code yX2_lift cX2_lift 2 (some .int), Cond.fieldLink RX2 85 "CraneReach" "lifts" "I", Cond.fieldLink RX2 88 "CraneReach" "tonsLifted" "I", Cond.methodLink RL 94 yX3_lift, Cond.instanceMethod yX3_lift, Cond.selects RX3 yX3_lift yX3_lift, Cond.code yX3_lift cX3_lift 2 (some .int), Cond.fieldLink RX3 78 "CraneReachModel" "lifts" "I", Cond.fieldLink RX3 81 "CraneReachModel" "tons" "I", Cond.methodLink RL 95 yL_setDown, Cond.static yL_setDown, Cond.codeWith yL_setDown cL_setDown 3 (some .int) [(0, 8, 11, 15)], Cond.methodLink RL 29 yX2_setDown, Cond.instanceMethod yX2_setDown, Cond.selects RX2 yX2_setDown yX2_setDown, Cond.code yX2_setDown cX2_setDown 2 (some .int), Cond.methodLink RL 98 yX3_setDown, Cond.instanceMethod yX3_setDown, Cond.selects RX3 yX3_setDown yX3_setDown, Cond.code yX3_setDown cX3_setDown 2 (some .int)]
def wsL_law0_r10 : List Cond := [Cond.methodLink RL 99 yL_swing, Cond.static yL_swing, Cond.codeWith yL_swing cL_swing 5 (some .int) [(0, 10, 13, 13)], Cond.methodLink RL 33 yX2_swing, Cond.instanceMethod yX2_swing, Cond.selects RX2 yX2_swing yX2_swing, Cond.code yX2_swing cX2_swing 5 (some .int), Cond.methodLink RX2 101 yX2_turned, Cond.static yX2_turned, Cond.code yX2_turned cX2_turned 2 (some .int), Cond.methodLink RX2 108 yX2_countMoves, Cond.instanceMethod yX2_countMoves, Cond.selects RX2 yX2_countMoves yX2_countMoves, Cond.code yX2_countMoves cX2_countMoves 2 none, Cond.fieldLink RX2 121 "CraneReach" "movesWithLoad" "I", Cond.methodLink RL 102 yX3_swing, Cond.instanceMethod yX3_swing, Cond.selects RX3 yX3_swing yX3_swing, Cond.code yX3_swing cX3_swing 5 (some .int), Cond.methodLink RX3 87 yX3_moved, Cond.instanceMethod yX3_moved, Cond.selects RX3 yX3_moved yX3_moved, Cond.code yX3_moved cX3_moved 1 none, Cond.fieldLink RX3 84 "CraneReachModel" "moves" "I"]
def wsL_law0_r11 : List Cond := [Cond.methodLink RL 103 yL_stretch, Cond.static yL_stretch, Cond.codeWith yL_stretch cL_stretch 5 (some .int) [(0, 10, 13, 13)], Cond.methodLink RL 37 yX2_stretch, Cond.instanceMethod yX2_stretch, Cond.selects RX2 yX2_stretch yX2_stretch, Cond.code yX2_stretch cX2_stretch 5 (some .int), Cond.methodLink RL 105 yX3_stretch, Cond.instanceMethod yX3_stretch, Cond.selects RX3 yX3_stretch yX3_stretch, Cond.code yX3_stretch cX3_stretch 5 (some .int), Cond.methodLink RL 106 yX2_direction, Cond.instanceMethod yX2_direction, Cond.selects RX2 yX2_direction yX2_direction, Cond.code yX2_direction cX2_direction 1 (some .int), Cond.methodLink RL 109 yX3_direction, Cond.instanceMethod yX3_direction, Cond.selects RX3 yX3_direction yX3_direction, Cond.code yX3_direction cX3_direction 1 (some .int), Cond.methodLink RX3 90 yX3_ok, Cond.instanceMethod yX3_ok, Cond.selects RX3 yX3_ok yX3_ok, Cond.code yX3_ok cX3_ok 2 (some .int), Cond.methodLink RL 110 yX2_reach]
def wsL_law0_r12 : List Cond := [Cond.instanceMethod yX2_reach, Cond.selects RX2 yX2_reach yX2_reach, Cond.code yX2_reach cX2_reach 1 (some .int), Cond.methodLink RL 113 yX3_reach, Cond.instanceMethod yX3_reach, Cond.selects RX3 yX3_reach yX3_reach, Cond.code yX3_reach cX3_reach 1 (some .int), Cond.methodLink RL 114 yX2_load, Cond.instanceMethod yX2_load, Cond.selects RX2 yX2_load yX2_load, Cond.code yX2_load cX2_load 1 (some .int), Cond.methodLink RL 117 yX3_load, Cond.instanceMethod yX3_load, Cond.selects RX3 yX3_load yX3_load, Cond.code yX3_load cX3_load 1 (some .int), Cond.methodLink RL 118 yX2_plates, Cond.instanceMethod yX2_plates, Cond.selects RX2 yX2_plates yX2_plates, Cond.code yX2_plates cX2_plates 1 (some .int), Cond.methodLink RL 121 yX3_plates, Cond.instanceMethod yX3_plates, Cond.selects RX3 yX3_plates yX3_plates, Cond.code yX3_plates cX3_plates 1 (some .int), Cond.methodLink RL 122 yL_outrigger]
def wsL_law0_r13 : List Cond := [Cond.static yL_outrigger, Cond.codeWith yL_outrigger cL_outrigger 4 (some .int) [(0, 9, 12, 21)], Cond.methodLink RL 40 yX2_outrigger, Cond.instanceMethod yX2_outrigger, Cond.selects RX2 yX2_outrigger yX2_outrigger, Cond.code yX2_outrigger cX2_outrigger 2 (some .int), Cond.methodLink RL 124 yX3_outrigger, Cond.instanceMethod yX3_outrigger, Cond.selects RX3 yX3_outrigger yX3_outrigger, Cond.code yX3_outrigger cX3_outrigger 2 (some .int), Cond.methodLink RL 125 yL_limitAt, Cond.static yL_limitAt, Cond.codeWith yL_limitAt cL_limitAt 4 (some .int) [(0, 9, 12, 13)], Cond.methodLink RL 43 yX2_limitAt, Cond.instanceMethod yX2_limitAt, Cond.selects RX2 yX2_limitAt yX2_limitAt, Cond.code yX2_limitAt cX2_limitAt 2 (some .int), Cond.methodLink RL 127 yX3_limitAt, Cond.instanceMethod yX3_limitAt, Cond.selects RX3 yX3_limitAt yX3_limitAt, Cond.code yX3_limitAt cX3_limitAt 2 (some .int), Cond.methodLink RL 128 yL_strainOn, Cond.static yL_strainOn, Cond.codeWith yL_strainOn cL_strainOn 4 (some .int) [(0, 9, 12, 21)]]
def wsL_law0_r14 : List Cond := [Cond.methodLink RL 46 yX2_strainOn, Cond.instanceMethod yX2_strainOn, Cond.selects RX2 yX2_strainOn yX2_strainOn, Cond.code yX2_strainOn cX2_strainOn 2 (some .int), Cond.methodLink RX2 117 yX1_strain, Cond.methodLink RL 130 yX3_strainOn, Cond.instanceMethod yX3_strainOn, Cond.selects RX3 yX3_strainOn yX3_strainOn, Cond.code yX3_strainOn cX3_strainOn 2 (some .int), Cond.methodLink RX3 93 yX3_strainNow, Cond.instanceMethod yX3_strainNow, Cond.selects RX3 yX3_strainNow yX3_strainNow, Cond.code yX3_strainNow cX3_strainNow 2 (some .int), Cond.methodLink RL 131 yX2_weakestSide, Cond.instanceMethod yX2_weakestSide, Cond.selects RX2 yX2_weakestSide yX2_weakestSide, Cond.code yX2_weakestSide cX2_weakestSide 5 (some .int), Cond.methodLink RL 134 yX3_weakestSide, Cond.instanceMethod yX3_weakestSide, Cond.selects RX3 yX3_weakestSide yX3_weakestSide, Cond.code yX3_weakestSide cX3_weakestSide 1 (some .int), Cond.methodLink RX3 96 yX3_weakest, Cond.instanceMethod yX3_weakest, Cond.selects RX3 yX3_weakest yX3_weakest]
def wsL_law0_r15 : List Cond := [Cond.code yX3_weakest cX3_weakest 3 (some .int), Cond.methodLink RL 135 yX2_lifts, Cond.instanceMethod yX2_lifts, Cond.selects RX2 yX2_lifts yX2_lifts, Cond.code yX2_lifts cX2_lifts 1 (some .int), Cond.methodLink RL 138 yX3_lifts, Cond.instanceMethod yX3_lifts, Cond.selects RX3 yX3_lifts yX3_lifts, Cond.code yX3_lifts cX3_lifts 1 (some .int), Cond.methodLink RL 139 yX2_tonsLifted, Cond.instanceMethod yX2_tonsLifted, Cond.selects RX2 yX2_tonsLifted yX2_tonsLifted, Cond.code yX2_tonsLifted cX2_tonsLifted 1 (some .int), Cond.methodLink RL 142 yX3_tonsLifted, Cond.instanceMethod yX3_tonsLifted, Cond.selects RX3 yX3_tonsLifted yX3_tonsLifted, Cond.code yX3_tonsLifted cX3_tonsLifted 1 (some .int), Cond.methodLink RL 143 yX2_movesWithLoad, Cond.instanceMethod yX2_movesWithLoad, Cond.selects RX2 yX2_movesWithLoad yX2_movesWithLoad, Cond.code yX2_movesWithLoad cX2_movesWithLoad 1 (some .int), Cond.methodLink RL 146 yX3_movesWithLoad, Cond.instanceMethod yX3_movesWithLoad, Cond.selects RX3 yX3_movesWithLoad yX3_movesWithLoad]
def wsL_law0_r16 : List Cond := [Cond.code yX3_movesWithLoad cX3_movesWithLoad 1 (some .int), Cond.methodLink RL 147 yL_isSafeWith, Cond.static yL_isSafeWith, Cond.codeWith yL_isSafeWith cL_isSafeWith 6 (some .int) [(0, 19, 22, 21), (0, 19, 26, 13)], Cond.methodLink RL 49 yX2_isSafeWith, Cond.instanceMethod yX2_isSafeWith, Cond.selects RX2 yX2_isSafeWith yX2_isSafeWith, Cond.code yX2_isSafeWith cX2_isSafeWith 4 (some .boolean), Cond.methodLink RX2 124 yX2_requireDirection, Cond.static yX2_requireDirection, Cond.code yX2_requireDirection cX2_requireDirection 1 none, Cond.methodLink RX2 127 yX2_requireLoad, Cond.static yX2_requireLoad, Cond.code yX2_requireLoad cX2_requireLoad 1 none, Cond.methodLink RL 150 yX3_isSafeWith, Cond.instanceMethod yX3_isSafeWith, Cond.selects RX3 yX3_isSafeWith yX3_isSafeWith, Cond.code yX3_isSafeWith cX3_isSafeWith 4 (some .boolean), Cond.methodLink RX3 100 yX3_isDirection, Cond.static yX3_isDirection, Cond.code yX3_isDirection cX3_isDirection 1 (some .boolean), Cond.methodLink RX3 103 yX3_isNot, Cond.instanceMethod yX3_isNot, Cond.selects RX3 yX3_isNot yX3_isNot]
def wsL_law0_r17 : List Cond := [Cond.code yX3_isNot cX3_isNot 2 (some .boolean), Cond.methodLink RL 151 yX2_greatestLoad, Cond.instanceMethod yX2_greatestLoad, Cond.selects RX2 yX2_greatestLoad yX2_greatestLoad, Cond.code yX2_greatestLoad cX2_greatestLoad 2 (some .int), Cond.methodLink RL 154 yX3_greatestLoad, Cond.instanceMethod yX3_greatestLoad, Cond.selects RX3 yX3_greatestLoad yX3_greatestLoad, Cond.code yX3_greatestLoad cX3_greatestLoad 1 (some .int), Cond.methodLink RX3 106 yX3_greatest, Cond.instanceMethod yX3_greatest, Cond.selects RX3 yX3_greatest yX3_greatest, Cond.code yX3_greatest cX3_greatest 2 (some .int), Cond.methodLink RL 155 yL_farthestReach, Cond.static yL_farthestReach, Cond.codeWith yL_farthestReach cL_farthestReach 5 (some .int) [(0, 10, 13, 21), (0, 10, 17, 13)], Cond.methodLink RL 53 yX2_farthestReach, Cond.instanceMethod yX2_farthestReach, Cond.selects RX2 yX2_farthestReach yX2_farthestReach, Cond.code yX2_farthestReach cX2_farthestReach 5 (some .int), Cond.methodLink RL 157 yX3_farthestReach, Cond.instanceMethod yX3_farthestReach, Cond.selects RX3 yX3_farthestReach yX3_farthestReach, Cond.code yX3_farthestReach cX3_farthestReach 4 (some .int)]
def wsL_law0_r18 : List Cond := [Cond.methodLink RL 158 yL_safeDirections, Cond.static yL_safeDirections, Cond.codeWith yL_safeDirections cL_safeDirections 5 (some .int) [(0, 10, 13, 13)], Cond.methodLink RL 56 yX2_safeDirections, Cond.instanceMethod yX2_safeDirections, Cond.selects RX2 yX2_safeDirections yX2_safeDirections, Cond.code yX2_safeDirections cX2_safeDirections 5 (some .int), Cond.methodLink RL 160 yX3_safeDirections, Cond.instanceMethod yX3_safeDirections, Cond.selects RX3 yX3_safeDirections yX3_safeDirections, Cond.code yX3_safeDirections cX3_safeDirections 3 (some .int), Cond.methodLink RX3 109 yX3_safeAround, Cond.instanceMethod yX3_safeAround, Cond.selects RX3 yX3_safeAround yX3_safeAround, Cond.code yX3_safeAround cX3_safeAround 5 (some .int), Cond.methodLink RL 161 yL_platesNeeded, Cond.static yL_platesNeeded, Cond.codeWith yL_platesNeeded cL_platesNeeded 6 (some .int) [(0, 12, 15, 21), (0, 12, 19, 13)], Cond.methodLink RL 59 yX2_platesNeeded, Cond.instanceMethod yX2_platesNeeded, Cond.selects RX2 yX2_platesNeeded yX2_platesNeeded, Cond.code yX2_platesNeeded cX2_platesNeeded 5 (some .int), Cond.methodLink RL 163 yX3_platesNeeded, Cond.instanceMethod yX3_platesNeeded]
def wsL_law0_r19 : List Cond := [Cond.selects RX3 yX3_platesNeeded yX3_platesNeeded, Cond.code yX3_platesNeeded cX3_platesNeeded 4 (some .int), Cond.methodLink RX3 112 yX3_fewestPlates, Cond.instanceMethod yX3_fewestPlates, Cond.selects RX3 yX3_fewestPlates yX3_fewestPlates, Cond.code yX3_fewestPlates cX3_fewestPlates 6 (some .int), Cond.methodLink RL 164 yL_fewestMoves, Cond.static yL_fewestMoves, Cond.codeWith yL_fewestMoves cL_fewestMoves 6 (some .int) [(0, 12, 15, 21), (0, 12, 19, 13)], Cond.methodLink RL 63 yX2_fewestMoves, Cond.instanceMethod yX2_fewestMoves, Cond.selects RX2 yX2_fewestMoves yX2_fewestMoves, Cond.code yX2_fewestMoves cX2_fewestMoves 4 (some .int), Cond.methodLink RX2 130 yX0_spread, Cond.instanceMethod yX0_spread, Cond.selects RX0 yX0_spread yX0_spread, Cond.code yX0_spread cX0_spread 6 (some .int), Cond.fieldLink RX0 18 "CraneReach$Plan" "places" "I", Cond.methodLink RX0 22 yX0_visit, Cond.instanceMethod yX0_visit, Cond.selects RX0 yX0_visit yX0_visit, Cond.code yX0_visit cX0_visit 7 none, Cond.methodLink RX0 30 yX0_placeOf, Cond.static yX0_placeOf]
def wsL_law0_r20 : List Cond := [Cond.code yX0_placeOf cX0_placeOf 2 (some .int), Cond.methodLink RX0 37 yX1_isSafe, Cond.methodLink RX0 26 yX0_visitBeside, Cond.instanceMethod yX0_visitBeside, Cond.selects RX0 yX0_visitBeside yX0_visitBeside, Cond.code yX0_visitBeside cX0_visitBeside 7 none, Cond.methodLink RX2 134 yX0_movesTo, Cond.instanceMethod yX0_movesTo, Cond.selects RX0 yX0_movesTo yX0_movesTo, Cond.code yX0_movesTo cX0_movesTo 4 (some .int), Cond.methodLink RL 166 yX3_fewestMoves, Cond.instanceMethod yX3_fewestMoves, Cond.selects RX3 yX3_fewestMoves yX3_fewestMoves, Cond.code yX3_fewestMoves cX3_fewestMoves 4 (some .int), Cond.methodLink RX3 123 yX3_goOut, Cond.instanceMethod yX3_goOut, Cond.selects RX3 yX3_goOut yX3_goOut, Cond.code yX3_goOut cX3_goOut 6 none, Cond.fieldLink RX3 116 "CraneReachModel" "many" "I", Cond.methodLink RX3 119 yX3_comeTo, Cond.instanceMethod yX3_comeTo, Cond.selects RX3 yX3_comeTo yX3_comeTo, Cond.code yX3_comeTo cX3_comeTo 5 none, Cond.methodLink RL 167 yL_placesWithin]
def wsL_law0_r21 : List Cond := [Cond.static yL_placesWithin, Cond.codeWith yL_placesWithin cL_placesWithin 4 (some .int) [(0, 9, 12, 13)], Cond.methodLink RL 66 yX2_placesWithin, Cond.instanceMethod yX2_placesWithin, Cond.selects RX2 yX2_placesWithin yX2_placesWithin, Cond.code yX2_placesWithin cX2_placesWithin 2 (some .int), Cond.methodLink RL 169 yX3_placesWithin, Cond.instanceMethod yX3_placesWithin, Cond.selects RX3 yX3_placesWithin yX3_placesWithin, Cond.code yX3_placesWithin cX3_placesWithin 2 (some .int), Cond.methodLink RX3 127 yX3_within, Cond.instanceMethod yX3_within, Cond.selects RX3 yX3_within yX3_within, Cond.code yX3_within cX3_within 2 (some .int), Cond.methodLink RL 170 yL_bestOutrigger, Cond.static yL_bestOutrigger, Cond.codeWith yL_bestOutrigger cL_bestOutrigger 4 (some .int) [(0, 9, 12, 13)], Cond.methodLink RL 69 yX2_bestOutrigger, Cond.instanceMethod yX2_bestOutrigger, Cond.selects RX2 yX2_bestOutrigger yX2_bestOutrigger, Cond.code yX2_bestOutrigger cX2_bestOutrigger 7 (some .int), Cond.methodLink RL 172 yX3_bestOutrigger, Cond.instanceMethod yX3_bestOutrigger, Cond.selects RX3 yX3_bestOutrigger yX3_bestOutrigger]
def wsL_law0_r22 : List Cond := [Cond.code yX3_bestOutrigger cX3_bestOutrigger 6 (some .int), Cond.methodLink RL 173 yX2_meanLoad, Cond.instanceMethod yX2_meanLoad, Cond.selects RX2 yX2_meanLoad yX2_meanLoad, Cond.code yX2_meanLoad cX2_meanLoad 1 (some .double), Cond.methodLink RL 177 yX3_meanLoad, Cond.instanceMethod yX3_meanLoad, Cond.selects RX3 yX3_meanLoad yX3_meanLoad, Cond.code yX3_meanLoad cX3_meanLoad 1 (some .double), Cond.methodLink RL 178 yX2_digest, Cond.instanceMethod yX2_digest, Cond.selects RX2 yX2_digest yX2_digest, Cond.code yX2_digest cX2_digest 4 (some .long), Cond.constantLong RX2 137 (1907), Cond.methodLink RX2 139 yX2_mixed, Cond.static yX2_mixed, Cond.code yX2_mixed cX2_mixed 3 (some .long), Cond.constantLong RX2 153 (31), Cond.methodLink RX2 143 yX2_weakestSide, Cond.methodLink RX2 147 yX2_greatestLoad, Cond.methodLink RX2 150 yX2_safeDirections, Cond.methodLink RL 182 yX3_digest, Cond.instanceMethod yX3_digest, Cond.selects RX3 yX3_digest yX3_digest]
def wsL_law0_r23 : List Cond := [Cond.code yX3_digest cX3_digest 8 (some .long), Cond.constantLong RX3 130 (1907), Cond.constantLong RX3 132 (31)]
def wsL_law0 : List Cond := (wsL_law0_r1 ++ (wsL_law0_r2 ++ (wsL_law0_r3 ++ (wsL_law0_r4 ++ (wsL_law0_r5 ++ (wsL_law0_r6 ++ (wsL_law0_r7 ++ (wsL_law0_r8 ++ (wsL_law0_r9 ++ (wsL_law0_r10 ++ (wsL_law0_r11 ++ (wsL_law0_r12 ++ (wsL_law0_r13 ++ (wsL_law0_r14 ++ (wsL_law0_r15 ++ (wsL_law0_r16 ++ (wsL_law0_r17 ++ (wsL_law0_r18 ++ (wsL_law0_r19 ++ (wsL_law0_r20 ++ (wsL_law0_r21 ++ (wsL_law0_r22 ++ wsL_law0_r23)))))))))))))))))))))) ++ wsX20 ++ wsX30 ++ wsX10 ++ wsX00 ++ ([] : List Cond)
def wsL_law : List Cond := wsL_law0 ++ (vx_atS RX2 38 "java/lang/IllegalArgumentException" ["java/lang/RuntimeException", "java/lang/Exception"]).filter goodWord ++ (vx_atS RX2 95 "java/lang/IllegalStateException" ["java/lang/RuntimeException", "java/lang/Exception"]).filter goodWord ++ (vx_atS RX2 163 "java/lang/IndexOutOfBoundsException" ["java/lang/RuntimeException", "java/lang/Exception"]).filter goodWord
end
section
theorem dX0_init_0 : decode cX0_init 0 = .ok (.aload_n 0, 1) := by decide +kernel
theorem dX0_init_1 : decode cX0_init 1 = .ok (.invokespecial 3, 3) := by decide +kernel
theorem dX0_init_4 : decode cX0_init 4 = .ok (.aload_n 0, 1) := by decide +kernel
theorem dX0_init_5 : decode cX0_init 5 = .ok (.sipush 224, 3) := by decide +kernel
theorem dX0_init_8 : decode cX0_init 8 = .ok (.newarray .int, 2) := by decide +kernel
theorem dX0_init_10 : decode cX0_init 10 = .ok (.putfield 9, 3) := by decide +kernel
theorem dX0_init_13 : decode cX0_init 13 = .ok (.aload_n 0, 1) := by decide +kernel
theorem dX0_init_14 : decode cX0_init 14 = .ok (.sipush 224, 3) := by decide +kernel
theorem dX0_init_17 : decode cX0_init 17 = .ok (.newarray .int, 2) := by decide +kernel
theorem dX0_init_19 : decode cX0_init 19 = .ok (.putfield 15, 3) := by decide +kernel
theorem dX0_init_22 : decode cX0_init 22 = .ok (.return_, 1) := by decide +kernel
set_option maxRecDepth 20000 in
theorem ggX0_spread_X0_visit : GoodIn wsX0_spread wsX0_visit := goodIn_r _ [8, 2, 1, 3, 9, 10, 7, 11, 12, 13, 14, 15, 16, 17, 18, 19, 20, 21, 22, 23, 24, 25, 26, 27, 28, 29, 30, 31, 32, 33, 34, 35, 36, 37, 38, 39, 40, 47, 48, 49, 50, 51, 52] (by decide +kernel) (by decide +kernel)
set_option maxRecDepth 20000 in
theorem gX0_spread_X0_visit : GoodIn wsX0_spread (wsV RX0 22 RX0 yX0_visit wsX0_visit) := goodIn_app (goodIn_of _ (by decide +kernel)) ggX0_spread_X0_visit
set_option maxRecDepth 20000 in
theorem ggX0_spread_X0_visitBeside : GoodIn wsX0_spread wsX0_visitBeside := goodIn_r _ [44, 2, 45, 13, 46, 4, 5, 6, 7, 8, 1, 3, 9, 10, 11, 12, 14, 15, 16, 17, 18, 19, 20, 21, 22, 23, 24, 25, 26, 27, 28, 29, 30, 31, 32, 33, 34, 35, 36, 37, 38, 39, 40, 47, 48, 49, 50, 51, 52] (by decide +kernel) (by decide +kernel)
set_option maxRecDepth 20000 in
theorem gX0_spread_X0_visitBeside : GoodIn wsX0_spread (wsV RX0 26 RX0 yX0_visitBeside wsX0_visitBeside) := goodIn_app (goodIn_of _ (by decide +kernel)) ggX0_spread_X0_visitBeside
theorem dX0_spread_0 : decode cX0_spread 0 = .ok (.aload_n 0, 1) := by decide +kernel
theorem dX0_spread_1 : decode cX0_spread 1 = .ok (.iconst 0, 1) := by decide +kernel
theorem dX0_spread_2 : decode cX0_spread 2 = .ok (.putfield 18, 3) := by decide +kernel
theorem dX0_spread_5 : decode cX0_spread 5 = .ok (.iconst 0, 1) := by decide +kernel
theorem dX0_spread_6 : decode cX0_spread 6 = .ok (.istore 5, 2) := by decide +kernel
theorem dX0_spread_8 : decode cX0_spread 8 = .ok (.iload 5, 2) := by decide +kernel
theorem dX0_spread_10 : decode cX0_spread 10 = .ok (.aload_n 0, 1) := by decide +kernel
theorem dX0_spread_11 : decode cX0_spread 11 = .ok (.getfield 9, 3) := by decide +kernel
theorem dX0_spread_14 : decode cX0_spread 14 = .ok (.arraylength, 1) := by decide +kernel
theorem dX0_spread_15 : decode cX0_spread 15 = .ok (.if_icmp .ge 17, 3) := by decide +kernel
theorem dX0_spread_18 : decode cX0_spread 18 = .ok (.aload_n 0, 1) := by decide +kernel
theorem dX0_spread_19 : decode cX0_spread 19 = .ok (.getfield 9, 3) := by decide +kernel
theorem dX0_spread_22 : decode cX0_spread 22 = .ok (.iload 5, 2) := by decide +kernel
theorem dX0_spread_24 : decode cX0_spread 24 = .ok (.iconst (-1), 1) := by decide +kernel
theorem dX0_spread_25 : decode cX0_spread 25 = .ok (.iastore, 1) := by decide +kernel
theorem dX0_spread_26 : decode cX0_spread 26 = .ok (.iinc 5 1, 3) := by decide +kernel
theorem dX0_spread_29 : decode cX0_spread 29 = .ok (.goto (-21), 3) := by decide +kernel
theorem dX0_spread_32 : decode cX0_spread 32 = .ok (.aload_n 0, 1) := by decide +kernel
theorem dX0_spread_33 : decode cX0_spread 33 = .ok (.aload_n 1, 1) := by decide +kernel
theorem dX0_spread_34 : decode cX0_spread 34 = .ok (.iload_n 2, 1) := by decide +kernel
theorem dX0_spread_35 : decode cX0_spread 35 = .ok (.iload_n 3, 1) := by decide +kernel
theorem dX0_spread_36 : decode cX0_spread 36 = .ok (.iload 4, 2) := by decide +kernel
theorem dX0_spread_38 : decode cX0_spread 38 = .ok (.iconst 0, 1) := by decide +kernel
theorem dX0_spread_39 : decode cX0_spread 39 = .ok (.invokevirtual 22, 3) := by decide +kernel
theorem dX0_spread_42 : decode cX0_spread 42 = .ok (.iconst 0, 1) := by decide +kernel
theorem dX0_spread_43 : decode cX0_spread 43 = .ok (.istore 5, 2) := by decide +kernel
theorem dX0_spread_45 : decode cX0_spread 45 = .ok (.iload 5, 2) := by decide +kernel
theorem dX0_spread_47 : decode cX0_spread 47 = .ok (.aload_n 0, 1) := by decide +kernel
theorem dX0_spread_48 : decode cX0_spread 48 = .ok (.getfield 18, 3) := by decide +kernel
theorem dX0_spread_51 : decode cX0_spread 51 = .ok (.if_icmp .ge 32, 3) := by decide +kernel
theorem dX0_spread_54 : decode cX0_spread 54 = .ok (.iload 5, 2) := by decide +kernel
theorem dX0_spread_56 : decode cX0_spread 56 = .ok (.aload_n 0, 1) := by decide +kernel
theorem dX0_spread_57 : decode cX0_spread 57 = .ok (.getfield 15, 3) := by decide +kernel
theorem dX0_spread_60 : decode cX0_spread 60 = .ok (.arraylength, 1) := by decide +kernel
theorem dX0_spread_61 : decode cX0_spread 61 = .ok (.if_icmp .ge 22, 3) := by decide +kernel
theorem dX0_spread_64 : decode cX0_spread 64 = .ok (.aload_n 0, 1) := by decide +kernel
theorem dX0_spread_65 : decode cX0_spread 65 = .ok (.aload_n 1, 1) := by decide +kernel
theorem dX0_spread_66 : decode cX0_spread 66 = .ok (.iload_n 2, 1) := by decide +kernel
theorem dX0_spread_67 : decode cX0_spread 67 = .ok (.aload_n 0, 1) := by decide +kernel
theorem dX0_spread_68 : decode cX0_spread 68 = .ok (.getfield 15, 3) := by decide +kernel
theorem dX0_spread_71 : decode cX0_spread 71 = .ok (.iload 5, 2) := by decide +kernel
theorem dX0_spread_73 : decode cX0_spread 73 = .ok (.iaload, 1) := by decide +kernel
theorem dX0_spread_74 : decode cX0_spread 74 = .ok (.invokevirtual 26, 3) := by decide +kernel
theorem dX0_spread_77 : decode cX0_spread 77 = .ok (.iinc 5 1, 3) := by decide +kernel
theorem dX0_spread_80 : decode cX0_spread 80 = .ok (.goto (-35), 3) := by decide +kernel
theorem dX0_spread_83 : decode cX0_spread 83 = .ok (.aload_n 0, 1) := by decide +kernel
theorem dX0_spread_84 : decode cX0_spread 84 = .ok (.getfield 18, 3) := by decide +kernel
theorem dX0_spread_87 : decode cX0_spread 87 = .ok (.ireturn, 1) := by decide +kernel
set_option maxRecDepth 20000 in
theorem ggX0_movesTo_X0_placeOf : GoodIn wsX0_movesTo wsX0_placeOf := goodIn_r _ [5, 6, 7, 8, 9, 10, 11] (by decide +kernel) (by decide +kernel)
set_option maxRecDepth 20000 in
theorem gX0_movesTo_X0_placeOf : GoodIn wsX0_movesTo (va_wsS RX0 30 yX0_placeOf wsX0_placeOf) := goodIn_app (goodIn_of _ (by decide +kernel)) ggX0_movesTo_X0_placeOf
theorem dX0_movesTo_0 : decode cX0_movesTo 0 = .ok (.iload_n 1, 1) := by decide +kernel
theorem dX0_movesTo_1 : decode cX0_movesTo 1 = .ok (.iload_n 2, 1) := by decide +kernel
theorem dX0_movesTo_2 : decode cX0_movesTo 2 = .ok (.invokestatic 30, 3) := by decide +kernel
theorem dX0_movesTo_5 : decode cX0_movesTo 5 = .ok (.istore_n 3, 1) := by decide +kernel
theorem dX0_movesTo_6 : decode cX0_movesTo 6 = .ok (.iload_n 3, 1) := by decide +kernel
theorem dX0_movesTo_7 : decode cX0_movesTo 7 = .ok (.ifCond .lt 21, 3) := by decide +kernel
theorem dX0_movesTo_10 : decode cX0_movesTo 10 = .ok (.iload_n 3, 1) := by decide +kernel
theorem dX0_movesTo_11 : decode cX0_movesTo 11 = .ok (.aload_n 0, 1) := by decide +kernel
theorem dX0_movesTo_12 : decode cX0_movesTo 12 = .ok (.getfield 9, 3) := by decide +kernel
theorem dX0_movesTo_15 : decode cX0_movesTo 15 = .ok (.arraylength, 1) := by decide +kernel
theorem dX0_movesTo_16 : decode cX0_movesTo 16 = .ok (.if_icmp .ge 12, 3) := by decide +kernel
theorem dX0_movesTo_19 : decode cX0_movesTo 19 = .ok (.aload_n 0, 1) := by decide +kernel
theorem dX0_movesTo_20 : decode cX0_movesTo 20 = .ok (.getfield 9, 3) := by decide +kernel
theorem dX0_movesTo_23 : decode cX0_movesTo 23 = .ok (.iload_n 3, 1) := by decide +kernel
theorem dX0_movesTo_24 : decode cX0_movesTo 24 = .ok (.iaload, 1) := by decide +kernel
theorem dX0_movesTo_25 : decode cX0_movesTo 25 = .ok (.goto 4, 3) := by decide +kernel
theorem dX0_movesTo_28 : decode cX0_movesTo 28 = .ok (.iconst (-1), 1) := by decide +kernel
theorem dX0_movesTo_29 : decode cX0_movesTo 29 = .ok (.ireturn, 1) := by decide +kernel
set_option maxRecDepth 20000 in
theorem ggX0_visitBeside_X2_turned : GoodIn wsX0_visitBeside wsX2_turned := goodIn_r _ [4] (by decide +kernel) (by decide +kernel)
set_option maxRecDepth 20000 in
theorem gX0_visitBeside_X2_turned_n34 : GoodIn wsX0_visitBeside (wsX2_turned) := ggX0_visitBeside_X2_turned
set_option maxRecDepth 20000 in
theorem ggX0_visitBeside_X0_visit : GoodIn wsX0_visitBeside wsX0_visit := goodIn_r _ [9, 1, 10, 11, 12, 13, 8, 14, 15, 3, 16, 17, 18, 19, 20, 21, 22, 23, 24, 25, 26, 27, 28, 29, 30, 31, 32, 33, 34, 35, 36, 37, 38, 39, 40, 41, 42, 43, 44, 45, 46, 47, 48] (by decide +kernel) (by decide +kernel)
set_option maxRecDepth 20000 in
theorem gX0_visitBeside_X0_visit : GoodIn wsX0_visitBeside (wsV RX0 22 RX0 yX0_visit wsX0_visit) := goodIn_app (goodIn_of _ (by decide +kernel)) ggX0_visitBeside_X0_visit
theorem dX0_visitBeside_0 : decode cX0_visitBeside 0 = .ok (.iload_n 3, 1) := by decide +kernel
theorem dX0_visitBeside_1 : decode cX0_visitBeside 1 = .ok (.ifCond .lt 12, 3) := by decide +kernel
theorem dX0_visitBeside_4 : decode cX0_visitBeside 4 = .ok (.iload_n 3, 1) := by decide +kernel
theorem dX0_visitBeside_5 : decode cX0_visitBeside 5 = .ok (.aload_n 0, 1) := by decide +kernel
theorem dX0_visitBeside_6 : decode cX0_visitBeside 6 = .ok (.getfield 9, 3) := by decide +kernel
theorem dX0_visitBeside_9 : decode cX0_visitBeside 9 = .ok (.arraylength, 1) := by decide +kernel
theorem dX0_visitBeside_10 : decode cX0_visitBeside 10 = .ok (.if_icmp .lt 4, 3) := by decide +kernel
theorem dX0_visitBeside_13 : decode cX0_visitBeside 13 = .ok (.return_, 1) := by decide +kernel
theorem dX0_visitBeside_14 : decode cX0_visitBeside 14 = .ok (.iload_n 3, 1) := by decide +kernel
theorem dX0_visitBeside_15 : decode cX0_visitBeside 15 = .ok (.bipush 28, 2) := by decide +kernel
theorem dX0_visitBeside_17 : decode cX0_visitBeside 17 = .ok (.idiv, 1) := by decide +kernel
theorem dX0_visitBeside_18 : decode cX0_visitBeside 18 = .ok (.istore 4, 2) := by decide +kernel
theorem dX0_visitBeside_20 : decode cX0_visitBeside 20 = .ok (.iload_n 3, 1) := by decide +kernel
theorem dX0_visitBeside_21 : decode cX0_visitBeside 21 = .ok (.bipush 28, 2) := by decide +kernel
theorem dX0_visitBeside_23 : decode cX0_visitBeside 23 = .ok (.irem, 1) := by decide +kernel
theorem dX0_visitBeside_24 : decode cX0_visitBeside 24 = .ok (.iconst 3, 1) := by decide +kernel
theorem dX0_visitBeside_25 : decode cX0_visitBeside 25 = .ok (.iadd, 1) := by decide +kernel
theorem dX0_visitBeside_26 : decode cX0_visitBeside 26 = .ok (.istore 5, 2) := by decide +kernel
theorem dX0_visitBeside_28 : decode cX0_visitBeside 28 = .ok (.aload_n 0, 1) := by decide +kernel
theorem dX0_visitBeside_29 : decode cX0_visitBeside 29 = .ok (.getfield 9, 3) := by decide +kernel
theorem dX0_visitBeside_32 : decode cX0_visitBeside 32 = .ok (.iload_n 3, 1) := by decide +kernel
theorem dX0_visitBeside_33 : decode cX0_visitBeside 33 = .ok (.iaload, 1) := by decide +kernel
theorem dX0_visitBeside_34 : decode cX0_visitBeside 34 = .ok (.iconst 1, 1) := by decide +kernel
theorem dX0_visitBeside_35 : decode cX0_visitBeside 35 = .ok (.iadd, 1) := by decide +kernel
theorem dX0_visitBeside_36 : decode cX0_visitBeside 36 = .ok (.istore 6, 2) := by decide +kernel
theorem dX0_visitBeside_38 : decode cX0_visitBeside 38 = .ok (.aload_n 0, 1) := by decide +kernel
theorem dX0_visitBeside_39 : decode cX0_visitBeside 39 = .ok (.aload_n 1, 1) := by decide +kernel
theorem dX0_visitBeside_40 : decode cX0_visitBeside 40 = .ok (.iload_n 2, 1) := by decide +kernel
theorem dX0_visitBeside_41 : decode cX0_visitBeside 41 = .ok (.iload 4, 2) := by decide +kernel
theorem dX0_visitBeside_43 : decode cX0_visitBeside 43 = .ok (.iconst 1, 1) := by decide +kernel
theorem dX0_visitBeside_44 : decode cX0_visitBeside 44 = .ok (.invokestatic 34, 3) := by decide +kernel
theorem dX0_visitBeside_47 : decode cX0_visitBeside 47 = .ok (.iload 5, 2) := by decide +kernel
theorem dX0_visitBeside_49 : decode cX0_visitBeside 49 = .ok (.iload 6, 2) := by decide +kernel
theorem dX0_visitBeside_51 : decode cX0_visitBeside 51 = .ok (.invokevirtual 22, 3) := by decide +kernel
theorem dX0_visitBeside_54 : decode cX0_visitBeside 54 = .ok (.aload_n 0, 1) := by decide +kernel
theorem dX0_visitBeside_55 : decode cX0_visitBeside 55 = .ok (.aload_n 1, 1) := by decide +kernel
theorem dX0_visitBeside_56 : decode cX0_visitBeside 56 = .ok (.iload_n 2, 1) := by decide +kernel
theorem dX0_visitBeside_57 : decode cX0_visitBeside 57 = .ok (.iload 4, 2) := by decide +kernel
theorem dX0_visitBeside_59 : decode cX0_visitBeside 59 = .ok (.iconst (-1), 1) := by decide +kernel
theorem dX0_visitBeside_60 : decode cX0_visitBeside 60 = .ok (.invokestatic 34, 3) := by decide +kernel
theorem dX0_visitBeside_63 : decode cX0_visitBeside 63 = .ok (.iload 5, 2) := by decide +kernel
theorem dX0_visitBeside_65 : decode cX0_visitBeside 65 = .ok (.iload 6, 2) := by decide +kernel
theorem dX0_visitBeside_67 : decode cX0_visitBeside 67 = .ok (.invokevirtual 22, 3) := by decide +kernel
theorem dX0_visitBeside_70 : decode cX0_visitBeside 70 = .ok (.aload_n 0, 1) := by decide +kernel
theorem dX0_visitBeside_71 : decode cX0_visitBeside 71 = .ok (.aload_n 1, 1) := by decide +kernel
theorem dX0_visitBeside_72 : decode cX0_visitBeside 72 = .ok (.iload_n 2, 1) := by decide +kernel
theorem dX0_visitBeside_73 : decode cX0_visitBeside 73 = .ok (.iload 4, 2) := by decide +kernel
theorem dX0_visitBeside_75 : decode cX0_visitBeside 75 = .ok (.iload 5, 2) := by decide +kernel
theorem dX0_visitBeside_77 : decode cX0_visitBeside 77 = .ok (.iconst 1, 1) := by decide +kernel
theorem dX0_visitBeside_78 : decode cX0_visitBeside 78 = .ok (.iadd, 1) := by decide +kernel
theorem dX0_visitBeside_79 : decode cX0_visitBeside 79 = .ok (.iload 6, 2) := by decide +kernel
theorem dX0_visitBeside_81 : decode cX0_visitBeside 81 = .ok (.invokevirtual 22, 3) := by decide +kernel
theorem dX0_visitBeside_84 : decode cX0_visitBeside 84 = .ok (.aload_n 0, 1) := by decide +kernel
theorem dX0_visitBeside_85 : decode cX0_visitBeside 85 = .ok (.aload_n 1, 1) := by decide +kernel
theorem dX0_visitBeside_86 : decode cX0_visitBeside 86 = .ok (.iload_n 2, 1) := by decide +kernel
theorem dX0_visitBeside_87 : decode cX0_visitBeside 87 = .ok (.iload 4, 2) := by decide +kernel
theorem dX0_visitBeside_89 : decode cX0_visitBeside 89 = .ok (.iload 5, 2) := by decide +kernel
theorem dX0_visitBeside_91 : decode cX0_visitBeside 91 = .ok (.iconst 1, 1) := by decide +kernel
theorem dX0_visitBeside_92 : decode cX0_visitBeside 92 = .ok (.isub, 1) := by decide +kernel
theorem dX0_visitBeside_93 : decode cX0_visitBeside 93 = .ok (.iload 6, 2) := by decide +kernel
theorem dX0_visitBeside_95 : decode cX0_visitBeside 95 = .ok (.invokevirtual 22, 3) := by decide +kernel
theorem dX0_visitBeside_98 : decode cX0_visitBeside 98 = .ok (.return_, 1) := by decide +kernel
set_option maxRecDepth 20000 in
theorem ggX0_visit_X0_placeOf : GoodIn wsX0_visit wsX0_placeOf := goodIn_r _ [7, 8, 9, 10, 11, 12, 13] (by decide +kernel) (by decide +kernel)
set_option maxRecDepth 20000 in
theorem gX0_visit_X0_placeOf : GoodIn wsX0_visit (va_wsS RX0 30 yX0_placeOf wsX0_placeOf) := goodIn_app (goodIn_of _ (by decide +kernel)) ggX0_visit_X0_placeOf
set_option maxRecDepth 20000 in
theorem ggX0_visit_X1_isSafe : GoodIn wsX0_visit wsX1_isSafe := goodIn_r _ [18, 19, 20, 21, 17, 22, 23, 24, 25, 26, 27, 28, 29, 30, 31, 32, 33, 34, 35, 36, 40, 41, 42] (by decide +kernel) (by decide +kernel)
set_option maxRecDepth 20000 in
theorem gX0_visit_X1_isSafe : GoodIn wsX0_visit (wsV RX0 37 RX1 yX1_isSafe wsX1_isSafe) := goodIn_app (goodIn_of _ (by decide +kernel)) ggX0_visit_X1_isSafe
theorem dX0_visit_0 : decode cX0_visit 0 = .ok (.iload_n 3, 1) := by decide +kernel
theorem dX0_visit_1 : decode cX0_visit 1 = .ok (.iload 4, 2) := by decide +kernel
theorem dX0_visit_3 : decode cX0_visit 3 = .ok (.invokestatic 30, 3) := by decide +kernel
theorem dX0_visit_6 : decode cX0_visit 6 = .ok (.istore 6, 2) := by decide +kernel
theorem dX0_visit_8 : decode cX0_visit 8 = .ok (.iload 6, 2) := by decide +kernel
theorem dX0_visit_10 : decode cX0_visit 10 = .ok (.ifCond .lt 24, 3) := by decide +kernel
theorem dX0_visit_13 : decode cX0_visit 13 = .ok (.iload 6, 2) := by decide +kernel
theorem dX0_visit_15 : decode cX0_visit 15 = .ok (.aload_n 0, 1) := by decide +kernel
theorem dX0_visit_16 : decode cX0_visit 16 = .ok (.getfield 9, 3) := by decide +kernel
theorem dX0_visit_19 : decode cX0_visit 19 = .ok (.arraylength, 1) := by decide +kernel
theorem dX0_visit_20 : decode cX0_visit 20 = .ok (.if_icmp .ge 14, 3) := by decide +kernel
theorem dX0_visit_23 : decode cX0_visit 23 = .ok (.aload_n 0, 1) := by decide +kernel
theorem dX0_visit_24 : decode cX0_visit 24 = .ok (.getfield 9, 3) := by decide +kernel
theorem dX0_visit_27 : decode cX0_visit 27 = .ok (.iload 6, 2) := by decide +kernel
theorem dX0_visit_29 : decode cX0_visit 29 = .ok (.iaload, 1) := by decide +kernel
theorem dX0_visit_30 : decode cX0_visit 30 = .ok (.iconst (-1), 1) := by decide +kernel
theorem dX0_visit_31 : decode cX0_visit 31 = .ok (.if_icmp .eq 4, 3) := by decide +kernel
theorem dX0_visit_34 : decode cX0_visit 34 = .ok (.return_, 1) := by decide +kernel
theorem dX0_visit_35 : decode cX0_visit 35 = .ok (.aload_n 0, 1) := by decide +kernel
theorem dX0_visit_36 : decode cX0_visit 36 = .ok (.getfield 18, 3) := by decide +kernel
theorem dX0_visit_39 : decode cX0_visit 39 = .ok (.aload_n 0, 1) := by decide +kernel
theorem dX0_visit_40 : decode cX0_visit 40 = .ok (.getfield 15, 3) := by decide +kernel
theorem dX0_visit_43 : decode cX0_visit 43 = .ok (.arraylength, 1) := by decide +kernel
theorem dX0_visit_44 : decode cX0_visit 44 = .ok (.if_icmp .ge 44, 3) := by decide +kernel
theorem dX0_visit_47 : decode cX0_visit 47 = .ok (.aload_n 1, 1) := by decide +kernel
theorem dX0_visit_48 : decode cX0_visit 48 = .ok (.iload_n 2, 1) := by decide +kernel
theorem dX0_visit_49 : decode cX0_visit 49 = .ok (.iload_n 3, 1) := by decide +kernel
theorem dX0_visit_50 : decode cX0_visit 50 = .ok (.iload 4, 2) := by decide +kernel
theorem dX0_visit_52 : decode cX0_visit 52 = .ok (.invokevirtual 37, 3) := by decide +kernel
theorem dX0_visit_55 : decode cX0_visit 55 = .ok (.ifCond .eq 33, 3) := by decide +kernel
theorem dX0_visit_58 : decode cX0_visit 58 = .ok (.aload_n 0, 1) := by decide +kernel
theorem dX0_visit_59 : decode cX0_visit 59 = .ok (.getfield 9, 3) := by decide +kernel
theorem dX0_visit_62 : decode cX0_visit 62 = .ok (.iload 6, 2) := by decide +kernel
theorem dX0_visit_64 : decode cX0_visit 64 = .ok (.iload 5, 2) := by decide +kernel
theorem dX0_visit_66 : decode cX0_visit 66 = .ok (.iastore, 1) := by decide +kernel
theorem dX0_visit_67 : decode cX0_visit 67 = .ok (.aload_n 0, 1) := by decide +kernel
theorem dX0_visit_68 : decode cX0_visit 68 = .ok (.getfield 15, 3) := by decide +kernel
theorem dX0_visit_71 : decode cX0_visit 71 = .ok (.aload_n 0, 1) := by decide +kernel
theorem dX0_visit_72 : decode cX0_visit 72 = .ok (.getfield 18, 3) := by decide +kernel
theorem dX0_visit_75 : decode cX0_visit 75 = .ok (.iload 6, 2) := by decide +kernel
theorem dX0_visit_77 : decode cX0_visit 77 = .ok (.iastore, 1) := by decide +kernel
theorem dX0_visit_78 : decode cX0_visit 78 = .ok (.aload_n 0, 1) := by decide +kernel
theorem dX0_visit_79 : decode cX0_visit 79 = .ok (.dup, 1) := by decide +kernel
theorem dX0_visit_80 : decode cX0_visit 80 = .ok (.getfield 18, 3) := by decide +kernel
theorem dX0_visit_83 : decode cX0_visit 83 = .ok (.iconst 1, 1) := by decide +kernel
theorem dX0_visit_84 : decode cX0_visit 84 = .ok (.iadd, 1) := by decide +kernel
theorem dX0_visit_85 : decode cX0_visit 85 = .ok (.putfield 18, 3) := by decide +kernel
theorem dX0_visit_88 : decode cX0_visit 88 = .ok (.return_, 1) := by decide +kernel
set_option maxRecDepth 20000 in
theorem ggX0_placeOf_X2_isReach : GoodIn wsX0_placeOf wsX2_isReach := goodIn_r _ [3, 4, 5, 2, 6] (by decide +kernel) (by decide +kernel)
set_option maxRecDepth 20000 in
theorem gX0_placeOf_X2_isReach_n43 : GoodIn wsX0_placeOf (wsX2_isReach) := ggX0_placeOf_X2_isReach
theorem dX0_placeOf_0 : decode cX0_placeOf 0 = .ok (.iload_n 1, 1) := by decide +kernel
theorem dX0_placeOf_1 : decode cX0_placeOf 1 = .ok (.invokestatic 43, 3) := by decide +kernel
theorem dX0_placeOf_4 : decode cX0_placeOf 4 = .ok (.ifCond .eq 14, 3) := by decide +kernel
theorem dX0_placeOf_7 : decode cX0_placeOf 7 = .ok (.iload_n 0, 1) := by decide +kernel
theorem dX0_placeOf_8 : decode cX0_placeOf 8 = .ok (.bipush 28, 2) := by decide +kernel
theorem dX0_placeOf_10 : decode cX0_placeOf 10 = .ok (.imul, 1) := by decide +kernel
theorem dX0_placeOf_11 : decode cX0_placeOf 11 = .ok (.iload_n 1, 1) := by decide +kernel
theorem dX0_placeOf_12 : decode cX0_placeOf 12 = .ok (.iadd, 1) := by decide +kernel
theorem dX0_placeOf_13 : decode cX0_placeOf 13 = .ok (.iconst 3, 1) := by decide +kernel
theorem dX0_placeOf_14 : decode cX0_placeOf 14 = .ok (.isub, 1) := by decide +kernel
theorem dX0_placeOf_15 : decode cX0_placeOf 15 = .ok (.goto 4, 3) := by decide +kernel
theorem dX0_placeOf_18 : decode cX0_placeOf 18 = .ok (.iconst (-1), 1) := by decide +kernel
theorem dX0_placeOf_19 : decode cX0_placeOf 19 = .ok (.ireturn, 1) := by decide +kernel
theorem dX1_init_0 : decode cX1_init 0 = .ok (.aload_n 0, 1) := by decide +kernel
theorem dX1_init_1 : decode cX1_init 1 = .ok (.invokespecial 3, 3) := by decide +kernel
theorem dX1_init_4 : decode cX1_init 4 = .ok (.aload_n 0, 1) := by decide +kernel
theorem dX1_init_5 : decode cX1_init 5 = .ok (.iconst 4, 1) := by decide +kernel
theorem dX1_init_6 : decode cX1_init 6 = .ok (.newarray .int, 2) := by decide +kernel
theorem dX1_init_8 : decode cX1_init 8 = .ok (.putfield 9, 3) := by decide +kernel
theorem dX1_init_11 : decode cX1_init 11 = .ok (.aload_n 0, 1) := by decide +kernel
theorem dX1_init_12 : decode cX1_init 12 = .ok (.bipush 28, 2) := by decide +kernel
theorem dX1_init_14 : decode cX1_init 14 = .ok (.newarray .int, 2) := by decide +kernel
theorem dX1_init_16 : decode cX1_init 16 = .ok (.putfield 15, 3) := by decide +kernel
theorem dX1_init_19 : decode cX1_init 19 = .ok (.iconst 0, 1) := by decide +kernel
theorem dX1_init_20 : decode cX1_init 20 = .ok (.istore_n 1, 1) := by decide +kernel
theorem dX1_init_21 : decode cX1_init 21 = .ok (.iload_n 1, 1) := by decide +kernel
theorem dX1_init_22 : decode cX1_init 22 = .ok (.aload_n 0, 1) := by decide +kernel
theorem dX1_init_23 : decode cX1_init 23 = .ok (.getfield 15, 3) := by decide +kernel
theorem dX1_init_26 : decode cX1_init 26 = .ok (.arraylength, 1) := by decide +kernel
theorem dX1_init_27 : decode cX1_init 27 = .ok (.if_icmp .ge 21, 3) := by decide +kernel
theorem dX1_init_30 : decode cX1_init 30 = .ok (.aload_n 0, 1) := by decide +kernel
theorem dX1_init_31 : decode cX1_init 31 = .ok (.getfield 15, 3) := by decide +kernel
theorem dX1_init_34 : decode cX1_init 34 = .ok (.iload_n 1, 1) := by decide +kernel
theorem dX1_init_35 : decode cX1_init 35 = .ok (.bipush 90, 2) := by decide +kernel
theorem dX1_init_37 : decode cX1_init 37 = .ok (.iload_n 1, 1) := by decide +kernel
theorem dX1_init_38 : decode cX1_init 38 = .ok (.iconst 3, 1) := by decide +kernel
theorem dX1_init_39 : decode cX1_init 39 = .ok (.iadd, 1) := by decide +kernel
theorem dX1_init_40 : decode cX1_init 40 = .ok (.idiv, 1) := by decide +kernel
theorem dX1_init_41 : decode cX1_init 41 = .ok (.iastore, 1) := by decide +kernel
theorem dX1_init_42 : decode cX1_init 42 = .ok (.iinc 1 1, 3) := by decide +kernel
theorem dX1_init_45 : decode cX1_init 45 = .ok (.goto (-24), 3) := by decide +kernel
theorem dX1_init_48 : decode cX1_init 48 = .ok (.return_, 1) := by decide +kernel
set_option maxRecDepth 20000 in
theorem ggX1_becomeLike_X1_drawn : GoodIn wsX1_becomeLike wsX1_drawn := goodIn_r _ [6, 7, 21, 22, 23] (by decide +kernel) (by decide +kernel)
set_option maxRecDepth 20000 in
theorem gX1_becomeLike_X1_drawn : GoodIn wsX1_becomeLike (wsV RX1 22 RX1 yX1_drawn wsX1_drawn) := goodIn_app (goodIn_of _ (by decide +kernel)) ggX1_becomeLike_X1_drawn
set_option maxRecDepth 20000 in
theorem ggX1_becomeLike_X1_draw : GoodIn wsX1_becomeLike wsX1_draw := goodIn_r _ [11, 7, 21, 22, 23] (by decide +kernel) (by decide +kernel)
set_option maxRecDepth 20000 in
theorem gX1_becomeLike_X1_draw : GoodIn wsX1_becomeLike (wsV RX1 26 RX1 yX1_draw wsX1_draw) := goodIn_app (goodIn_of _ (by decide +kernel)) ggX1_becomeLike_X1_draw
set_option maxRecDepth 20000 in
theorem ggX1_becomeLike_X1_allowed : GoodIn wsX1_becomeLike wsX1_allowed := goodIn_r _ [15, 16, 21, 22, 23] (by decide +kernel) (by decide +kernel)
set_option maxRecDepth 20000 in
theorem gX1_becomeLike_X1_allowed : GoodIn wsX1_becomeLike (wsV RX1 30 RX1 yX1_allowed wsX1_allowed) := goodIn_app (goodIn_of _ (by decide +kernel)) ggX1_becomeLike_X1_allowed
set_option maxRecDepth 20000 in
theorem ggX1_becomeLike_X1_allow : GoodIn wsX1_becomeLike wsX1_allow := goodIn_r _ [20, 16, 21, 22, 23] (by decide +kernel) (by decide +kernel)
set_option maxRecDepth 20000 in
theorem gX1_becomeLike_X1_allow : GoodIn wsX1_becomeLike (wsV RX1 33 RX1 yX1_allow wsX1_allow) := goodIn_app (goodIn_of _ (by decide +kernel)) ggX1_becomeLike_X1_allow
theorem dX1_becomeLike_0 : decode cX1_becomeLike 0 = .ok (.aload_n 0, 1) := by decide +kernel
theorem dX1_becomeLike_1 : decode cX1_becomeLike 1 = .ok (.aload_n 1, 1) := by decide +kernel
theorem dX1_becomeLike_2 : decode cX1_becomeLike 2 = .ok (.getfield 18, 3) := by decide +kernel
theorem dX1_becomeLike_5 : decode cX1_becomeLike 5 = .ok (.putfield 18, 3) := by decide +kernel
theorem dX1_becomeLike_8 : decode cX1_becomeLike 8 = .ok (.iconst 0, 1) := by decide +kernel
theorem dX1_becomeLike_9 : decode cX1_becomeLike 9 = .ok (.istore_n 2, 1) := by decide +kernel
theorem dX1_becomeLike_10 : decode cX1_becomeLike 10 = .ok (.iload_n 2, 1) := by decide +kernel
theorem dX1_becomeLike_11 : decode cX1_becomeLike 11 = .ok (.iconst 4, 1) := by decide +kernel
theorem dX1_becomeLike_12 : decode cX1_becomeLike 12 = .ok (.if_icmp .ge 19, 3) := by decide +kernel
theorem dX1_becomeLike_15 : decode cX1_becomeLike 15 = .ok (.aload_n 0, 1) := by decide +kernel
theorem dX1_becomeLike_16 : decode cX1_becomeLike 16 = .ok (.iload_n 2, 1) := by decide +kernel
theorem dX1_becomeLike_17 : decode cX1_becomeLike 17 = .ok (.aload_n 1, 1) := by decide +kernel
theorem dX1_becomeLike_18 : decode cX1_becomeLike 18 = .ok (.iload_n 2, 1) := by decide +kernel
theorem dX1_becomeLike_19 : decode cX1_becomeLike 19 = .ok (.invokevirtual 22, 3) := by decide +kernel
theorem dX1_becomeLike_22 : decode cX1_becomeLike 22 = .ok (.invokevirtual 26, 3) := by decide +kernel
theorem dX1_becomeLike_25 : decode cX1_becomeLike 25 = .ok (.iinc 2 1, 3) := by decide +kernel
theorem dX1_becomeLike_28 : decode cX1_becomeLike 28 = .ok (.goto (-18), 3) := by decide +kernel
theorem dX1_becomeLike_31 : decode cX1_becomeLike 31 = .ok (.iconst 3, 1) := by decide +kernel
theorem dX1_becomeLike_32 : decode cX1_becomeLike 32 = .ok (.istore_n 2, 1) := by decide +kernel
theorem dX1_becomeLike_33 : decode cX1_becomeLike 33 = .ok (.iload_n 2, 1) := by decide +kernel
theorem dX1_becomeLike_34 : decode cX1_becomeLike 34 = .ok (.bipush 30, 2) := by decide +kernel
theorem dX1_becomeLike_36 : decode cX1_becomeLike 36 = .ok (.if_icmp .gt 19, 3) := by decide +kernel
theorem dX1_becomeLike_39 : decode cX1_becomeLike 39 = .ok (.aload_n 0, 1) := by decide +kernel
theorem dX1_becomeLike_40 : decode cX1_becomeLike 40 = .ok (.iload_n 2, 1) := by decide +kernel
theorem dX1_becomeLike_41 : decode cX1_becomeLike 41 = .ok (.aload_n 1, 1) := by decide +kernel
theorem dX1_becomeLike_42 : decode cX1_becomeLike 42 = .ok (.iload_n 2, 1) := by decide +kernel
theorem dX1_becomeLike_43 : decode cX1_becomeLike 43 = .ok (.invokevirtual 30, 3) := by decide +kernel
theorem dX1_becomeLike_46 : decode cX1_becomeLike 46 = .ok (.invokevirtual 33, 3) := by decide +kernel
theorem dX1_becomeLike_49 : decode cX1_becomeLike 49 = .ok (.iinc 2 1, 3) := by decide +kernel
theorem dX1_becomeLike_52 : decode cX1_becomeLike 52 = .ok (.goto (-19), 3) := by decide +kernel
theorem dX1_becomeLike_55 : decode cX1_becomeLike 55 = .ok (.return_, 1) := by decide +kernel
theorem dX1_drawn_0 : decode cX1_drawn 0 = .ok (.iload_n 1, 1) := by decide +kernel
theorem dX1_drawn_1 : decode cX1_drawn 1 = .ok (.ifCond .lt 21, 3) := by decide +kernel
theorem dX1_drawn_4 : decode cX1_drawn 4 = .ok (.iload_n 1, 1) := by decide +kernel
theorem dX1_drawn_5 : decode cX1_drawn 5 = .ok (.aload_n 0, 1) := by decide +kernel
theorem dX1_drawn_6 : decode cX1_drawn 6 = .ok (.getfield 9, 3) := by decide +kernel
theorem dX1_drawn_9 : decode cX1_drawn 9 = .ok (.arraylength, 1) := by decide +kernel
theorem dX1_drawn_10 : decode cX1_drawn 10 = .ok (.if_icmp .ge 12, 3) := by decide +kernel
theorem dX1_drawn_13 : decode cX1_drawn 13 = .ok (.aload_n 0, 1) := by decide +kernel
theorem dX1_drawn_14 : decode cX1_drawn 14 = .ok (.getfield 9, 3) := by decide +kernel
theorem dX1_drawn_17 : decode cX1_drawn 17 = .ok (.iload_n 1, 1) := by decide +kernel
theorem dX1_drawn_18 : decode cX1_drawn 18 = .ok (.iaload, 1) := by decide +kernel
theorem dX1_drawn_19 : decode cX1_drawn 19 = .ok (.goto 4, 3) := by decide +kernel
theorem dX1_drawn_22 : decode cX1_drawn 22 = .ok (.iconst 0, 1) := by decide +kernel
theorem dX1_drawn_23 : decode cX1_drawn 23 = .ok (.ireturn, 1) := by decide +kernel
theorem dX1_draw_0 : decode cX1_draw 0 = .ok (.iload_n 1, 1) := by decide +kernel
theorem dX1_draw_1 : decode cX1_draw 1 = .ok (.ifCond .lt 19, 3) := by decide +kernel
theorem dX1_draw_4 : decode cX1_draw 4 = .ok (.iload_n 1, 1) := by decide +kernel
theorem dX1_draw_5 : decode cX1_draw 5 = .ok (.aload_n 0, 1) := by decide +kernel
theorem dX1_draw_6 : decode cX1_draw 6 = .ok (.getfield 9, 3) := by decide +kernel
theorem dX1_draw_9 : decode cX1_draw 9 = .ok (.arraylength, 1) := by decide +kernel
theorem dX1_draw_10 : decode cX1_draw 10 = .ok (.if_icmp .ge 10, 3) := by decide +kernel
theorem dX1_draw_13 : decode cX1_draw 13 = .ok (.aload_n 0, 1) := by decide +kernel
theorem dX1_draw_14 : decode cX1_draw 14 = .ok (.getfield 9, 3) := by decide +kernel
theorem dX1_draw_17 : decode cX1_draw 17 = .ok (.iload_n 1, 1) := by decide +kernel
theorem dX1_draw_18 : decode cX1_draw 18 = .ok (.iload_n 2, 1) := by decide +kernel
theorem dX1_draw_19 : decode cX1_draw 19 = .ok (.iastore, 1) := by decide +kernel
theorem dX1_draw_20 : decode cX1_draw 20 = .ok (.return_, 1) := by decide +kernel
theorem dX1_allowed_0 : decode cX1_allowed 0 = .ok (.iload_n 1, 1) := by decide +kernel
theorem dX1_allowed_1 : decode cX1_allowed 1 = .ok (.iconst 3, 1) := by decide +kernel
theorem dX1_allowed_2 : decode cX1_allowed 2 = .ok (.isub, 1) := by decide +kernel
theorem dX1_allowed_3 : decode cX1_allowed 3 = .ok (.istore_n 2, 1) := by decide +kernel
theorem dX1_allowed_4 : decode cX1_allowed 4 = .ok (.iload_n 2, 1) := by decide +kernel
theorem dX1_allowed_5 : decode cX1_allowed 5 = .ok (.ifCond .lt 21, 3) := by decide +kernel
theorem dX1_allowed_8 : decode cX1_allowed 8 = .ok (.iload_n 2, 1) := by decide +kernel
theorem dX1_allowed_9 : decode cX1_allowed 9 = .ok (.aload_n 0, 1) := by decide +kernel
theorem dX1_allowed_10 : decode cX1_allowed 10 = .ok (.getfield 15, 3) := by decide +kernel
theorem dX1_allowed_13 : decode cX1_allowed 13 = .ok (.arraylength, 1) := by decide +kernel
theorem dX1_allowed_14 : decode cX1_allowed 14 = .ok (.if_icmp .ge 12, 3) := by decide +kernel
theorem dX1_allowed_17 : decode cX1_allowed 17 = .ok (.aload_n 0, 1) := by decide +kernel
theorem dX1_allowed_18 : decode cX1_allowed 18 = .ok (.getfield 15, 3) := by decide +kernel
theorem dX1_allowed_21 : decode cX1_allowed 21 = .ok (.iload_n 2, 1) := by decide +kernel
theorem dX1_allowed_22 : decode cX1_allowed 22 = .ok (.iaload, 1) := by decide +kernel
theorem dX1_allowed_23 : decode cX1_allowed 23 = .ok (.goto 4, 3) := by decide +kernel
theorem dX1_allowed_26 : decode cX1_allowed 26 = .ok (.iconst 0, 1) := by decide +kernel
theorem dX1_allowed_27 : decode cX1_allowed 27 = .ok (.ireturn, 1) := by decide +kernel
theorem dX1_allow_0 : decode cX1_allow 0 = .ok (.iload_n 1, 1) := by decide +kernel
theorem dX1_allow_1 : decode cX1_allow 1 = .ok (.iconst 3, 1) := by decide +kernel
theorem dX1_allow_2 : decode cX1_allow 2 = .ok (.isub, 1) := by decide +kernel
theorem dX1_allow_3 : decode cX1_allow 3 = .ok (.istore_n 3, 1) := by decide +kernel
theorem dX1_allow_4 : decode cX1_allow 4 = .ok (.iload_n 3, 1) := by decide +kernel
theorem dX1_allow_5 : decode cX1_allow 5 = .ok (.ifCond .lt 19, 3) := by decide +kernel
theorem dX1_allow_8 : decode cX1_allow 8 = .ok (.iload_n 3, 1) := by decide +kernel
theorem dX1_allow_9 : decode cX1_allow 9 = .ok (.aload_n 0, 1) := by decide +kernel
theorem dX1_allow_10 : decode cX1_allow 10 = .ok (.getfield 15, 3) := by decide +kernel
theorem dX1_allow_13 : decode cX1_allow 13 = .ok (.arraylength, 1) := by decide +kernel
theorem dX1_allow_14 : decode cX1_allow 14 = .ok (.if_icmp .ge 10, 3) := by decide +kernel
theorem dX1_allow_17 : decode cX1_allow 17 = .ok (.aload_n 0, 1) := by decide +kernel
theorem dX1_allow_18 : decode cX1_allow 18 = .ok (.getfield 15, 3) := by decide +kernel
theorem dX1_allow_21 : decode cX1_allow 21 = .ok (.iload_n 3, 1) := by decide +kernel
theorem dX1_allow_22 : decode cX1_allow 22 = .ok (.iload_n 2, 1) := by decide +kernel
theorem dX1_allow_23 : decode cX1_allow 23 = .ok (.iastore, 1) := by decide +kernel
theorem dX1_allow_24 : decode cX1_allow 24 = .ok (.return_, 1) := by decide +kernel
set_option maxRecDepth 20000 in
theorem ggX1_isSafe_X1_allowed : GoodIn wsX1_isSafe wsX1_allowed := goodIn_r _ [5, 6, 20, 21, 22] (by decide +kernel) (by decide +kernel)
set_option maxRecDepth 20000 in
theorem gX1_isSafe_X1_allowed : GoodIn wsX1_isSafe (wsV RX1 30 RX1 yX1_allowed wsX1_allowed) := goodIn_app (goodIn_of _ (by decide +kernel)) ggX1_isSafe_X1_allowed
set_option maxRecDepth 20000 in
theorem ggX1_isSafe_X1_strain : GoodIn wsX1_isSafe wsX1_strain := goodIn_r _ [10, 11, 12, 13, 14, 4, 15, 16, 17, 18, 19, 20, 21, 22] (by decide +kernel) (by decide +kernel)
set_option maxRecDepth 20000 in
theorem gX1_isSafe_X1_strain : GoodIn wsX1_isSafe (wsV RX1 36 RX1 yX1_strain wsX1_strain) := goodIn_app (goodIn_of _ (by decide +kernel)) ggX1_isSafe_X1_strain
theorem dX1_isSafe_0 : decode cX1_isSafe 0 = .ok (.iload_n 1, 1) := by decide +kernel
theorem dX1_isSafe_1 : decode cX1_isSafe 1 = .ok (.aload_n 0, 1) := by decide +kernel
theorem dX1_isSafe_2 : decode cX1_isSafe 2 = .ok (.iload_n 3, 1) := by decide +kernel
theorem dX1_isSafe_3 : decode cX1_isSafe 3 = .ok (.invokevirtual 30, 3) := by decide +kernel
theorem dX1_isSafe_6 : decode cX1_isSafe 6 = .ok (.if_icmp .le 5, 3) := by decide +kernel
theorem dX1_isSafe_9 : decode cX1_isSafe 9 = .ok (.iconst 0, 1) := by decide +kernel
theorem dX1_isSafe_10 : decode cX1_isSafe 10 = .ok (.ireturn, 1) := by decide +kernel
theorem dX1_isSafe_11 : decode cX1_isSafe 11 = .ok (.iconst 0, 1) := by decide +kernel
theorem dX1_isSafe_12 : decode cX1_isSafe 12 = .ok (.istore 4, 2) := by decide +kernel
theorem dX1_isSafe_14 : decode cX1_isSafe 14 = .ok (.iload 4, 2) := by decide +kernel
theorem dX1_isSafe_16 : decode cX1_isSafe 16 = .ok (.iconst 4, 1) := by decide +kernel
theorem dX1_isSafe_17 : decode cX1_isSafe 17 = .ok (.if_icmp .ge 23, 3) := by decide +kernel
theorem dX1_isSafe_20 : decode cX1_isSafe 20 = .ok (.aload_n 0, 1) := by decide +kernel
theorem dX1_isSafe_21 : decode cX1_isSafe 21 = .ok (.iload 4, 2) := by decide +kernel
theorem dX1_isSafe_23 : decode cX1_isSafe 23 = .ok (.iload_n 1, 1) := by decide +kernel
theorem dX1_isSafe_24 : decode cX1_isSafe 24 = .ok (.iload_n 2, 1) := by decide +kernel
theorem dX1_isSafe_25 : decode cX1_isSafe 25 = .ok (.iload_n 3, 1) := by decide +kernel
theorem dX1_isSafe_26 : decode cX1_isSafe 26 = .ok (.invokevirtual 36, 3) := by decide +kernel
theorem dX1_isSafe_29 : decode cX1_isSafe 29 = .ok (.ifCond .le 5, 3) := by decide +kernel
theorem dX1_isSafe_32 : decode cX1_isSafe 32 = .ok (.iconst 0, 1) := by decide +kernel
theorem dX1_isSafe_33 : decode cX1_isSafe 33 = .ok (.ireturn, 1) := by decide +kernel
theorem dX1_isSafe_34 : decode cX1_isSafe 34 = .ok (.iinc 4 1, 3) := by decide +kernel
theorem dX1_isSafe_37 : decode cX1_isSafe 37 = .ok (.goto (-23), 3) := by decide +kernel
theorem dX1_isSafe_40 : decode cX1_isSafe 40 = .ok (.iconst 1, 1) := by decide +kernel
theorem dX1_isSafe_41 : decode cX1_isSafe 41 = .ok (.ireturn, 1) := by decide +kernel
set_option maxRecDepth 20000 in
theorem ggX1_strain_X1_drawn : GoodIn wsX1_strain wsX1_drawn := goodIn_r _ [6, 7, 11, 12, 13] (by decide +kernel) (by decide +kernel)
set_option maxRecDepth 20000 in
theorem gX1_strain_X1_drawn : GoodIn wsX1_strain (wsV RX1 22 RX1 yX1_drawn wsX1_drawn) := goodIn_app (goodIn_of _ (by decide +kernel)) ggX1_strain_X1_drawn
set_option maxRecDepth 20000 in
theorem ggX1_strain_X1_slant : GoodIn wsX1_strain wsX1_slant := goodIn_r _ [10] (by decide +kernel) (by decide +kernel)
set_option maxRecDepth 20000 in
theorem gX1_strain_X1_slant : GoodIn wsX1_strain (va_wsS RX1 40 yX1_slant wsX1_slant) := goodIn_app (goodIn_of _ (by decide +kernel)) ggX1_strain_X1_slant
theorem dX1_strain_0 : decode cX1_strain 0 = .ok (.bipush 10, 2) := by decide +kernel
theorem dX1_strain_2 : decode cX1_strain 2 = .ok (.iconst 2, 1) := by decide +kernel
theorem dX1_strain_3 : decode cX1_strain 3 = .ok (.aload_n 0, 1) := by decide +kernel
theorem dX1_strain_4 : decode cX1_strain 4 = .ok (.iload_n 1, 1) := by decide +kernel
theorem dX1_strain_5 : decode cX1_strain 5 = .ok (.invokevirtual 22, 3) := by decide +kernel
theorem dX1_strain_8 : decode cX1_strain 8 = .ok (.iadd, 1) := by decide +kernel
theorem dX1_strain_9 : decode cX1_strain 9 = .ok (.imul, 1) := by decide +kernel
theorem dX1_strain_10 : decode cX1_strain 10 = .ok (.istore 5, 2) := by decide +kernel
theorem dX1_strain_12 : decode cX1_strain 12 = .ok (.iload_n 3, 1) := by decide +kernel
theorem dX1_strain_13 : decode cX1_strain 13 = .ok (.iload_n 1, 1) := by decide +kernel
theorem dX1_strain_14 : decode cX1_strain 14 = .ok (.invokestatic 40, 3) := by decide +kernel
theorem dX1_strain_17 : decode cX1_strain 17 = .ok (.istore 6, 2) := by decide +kernel
theorem dX1_strain_19 : decode cX1_strain 19 = .ok (.iload_n 2, 1) := by decide +kernel
theorem dX1_strain_20 : decode cX1_strain 20 = .ok (.iload 4, 2) := by decide +kernel
theorem dX1_strain_22 : decode cX1_strain 22 = .ok (.iload 6, 2) := by decide +kernel
theorem dX1_strain_24 : decode cX1_strain 24 = .ok (.imul, 1) := by decide +kernel
theorem dX1_strain_25 : decode cX1_strain 25 = .ok (.iload 5, 2) := by decide +kernel
theorem dX1_strain_27 : decode cX1_strain 27 = .ok (.isub, 1) := by decide +kernel
theorem dX1_strain_28 : decode cX1_strain 28 = .ok (.imul, 1) := by decide +kernel
theorem dX1_strain_29 : decode cX1_strain 29 = .ok (.aload_n 0, 1) := by decide +kernel
theorem dX1_strain_30 : decode cX1_strain 30 = .ok (.getfield 18, 3) := by decide +kernel
theorem dX1_strain_33 : decode cX1_strain 33 = .ok (.iconst 2, 1) := by decide +kernel
theorem dX1_strain_34 : decode cX1_strain 34 = .ok (.imul, 1) := by decide +kernel
theorem dX1_strain_35 : decode cX1_strain 35 = .ok (.iconst 4, 1) := by decide +kernel
theorem dX1_strain_36 : decode cX1_strain 36 = .ok (.iload 6, 2) := by decide +kernel
theorem dX1_strain_38 : decode cX1_strain 38 = .ok (.imul, 1) := by decide +kernel
theorem dX1_strain_39 : decode cX1_strain 39 = .ok (.iload 5, 2) := by decide +kernel
theorem dX1_strain_41 : decode cX1_strain 41 = .ok (.iadd, 1) := by decide +kernel
theorem dX1_strain_42 : decode cX1_strain 42 = .ok (.imul, 1) := by decide +kernel
theorem dX1_strain_43 : decode cX1_strain 43 = .ok (.isub, 1) := by decide +kernel
theorem dX1_strain_44 : decode cX1_strain 44 = .ok (.bipush 20, 2) := by decide +kernel
theorem dX1_strain_46 : decode cX1_strain 46 = .ok (.iload 5, 2) := by decide +kernel
theorem dX1_strain_48 : decode cX1_strain 48 = .ok (.imul, 1) := by decide +kernel
theorem dX1_strain_49 : decode cX1_strain 49 = .ok (.isub, 1) := by decide +kernel
theorem dX1_strain_50 : decode cX1_strain 50 = .ok (.ireturn, 1) := by decide +kernel
theorem dX1_slant_0 : decode cX1_slant 0 = .ok (.iload_n 0, 1) := by decide +kernel
theorem dX1_slant_1 : decode cX1_slant 1 = .ok (.iconst 2, 1) := by decide +kernel
theorem dX1_slant_2 : decode cX1_slant 2 = .ok (.iload_n 1, 1) := by decide +kernel
theorem dX1_slant_3 : decode cX1_slant 3 = .ok (.imul, 1) := by decide +kernel
theorem dX1_slant_4 : decode cX1_slant 4 = .ok (.isub, 1) := by decide +kernel
theorem dX1_slant_5 : decode cX1_slant 5 = .ok (.bipush 8, 2) := by decide +kernel
theorem dX1_slant_7 : decode cX1_slant 7 = .ok (.iadd, 1) := by decide +kernel
theorem dX1_slant_8 : decode cX1_slant 8 = .ok (.bipush 8, 2) := by decide +kernel
theorem dX1_slant_10 : decode cX1_slant 10 = .ok (.irem, 1) := by decide +kernel
theorem dX1_slant_11 : decode cX1_slant 11 = .ok (.tableswitch 56 0 7 #[45, 48, 51, 53, 56, 53, 51, 48], 45) := by decide +kernel
theorem dX1_slant_56 : decode cX1_slant 56 = .ok (.bipush 10, 2) := by decide +kernel
theorem dX1_slant_58 : decode cX1_slant 58 = .ok (.ireturn, 1) := by decide +kernel
theorem dX1_slant_59 : decode cX1_slant 59 = .ok (.bipush 7, 2) := by decide +kernel
theorem dX1_slant_61 : decode cX1_slant 61 = .ok (.ireturn, 1) := by decide +kernel
theorem dX1_slant_62 : decode cX1_slant 62 = .ok (.iconst 0, 1) := by decide +kernel
theorem dX1_slant_63 : decode cX1_slant 63 = .ok (.ireturn, 1) := by decide +kernel
theorem dX1_slant_64 : decode cX1_slant 64 = .ok (.bipush (-7), 2) := by decide +kernel
theorem dX1_slant_66 : decode cX1_slant 66 = .ok (.ireturn, 1) := by decide +kernel
theorem dX1_slant_67 : decode cX1_slant 67 = .ok (.bipush (-10), 2) := by decide +kernel
theorem dX1_slant_69 : decode cX1_slant 69 = .ok (.ireturn, 1) := by decide +kernel
end
section
set_option maxRecDepth 20000 in
theorem ggX2_init_X1_init : GoodIn wsX2_init wsX1_init := goodIn_r _ [16, 17, 2, 3, 18, 19, 20, 26, 27, 28] (by decide +kernel) (by decide +kernel)
set_option maxRecDepth 20000 in
theorem gX2_init_X1_init : GoodIn wsX2_init (wsX1_init) := ggX2_init_X1_init
set_option maxRecDepth 20000 in
theorem ggX2_init_X0_init : GoodIn wsX2_init wsX0_init := goodIn_r _ [22, 23, 2, 3, 18, 24, 25, 38, 39, 40] (by decide +kernel) (by decide +kernel)
set_option maxRecDepth 20000 in
theorem gX2_init_X0_init_n21 : GoodIn wsX2_init (wsX0_init) := ggX2_init_X0_init
theorem dX2_init_0 : decode cX2_init 0 = .ok (.aload_n 0, 1) := by decide +kernel
theorem dX2_init_1 : decode cX2_init 1 = .ok (.invokespecial 3, 3) := by decide +kernel
theorem dX2_init_4 : decode cX2_init 4 = .ok (.aload_n 0, 1) := by decide +kernel
theorem dX2_init_5 : decode cX2_init 5 = .ok (.new 9, 3) := by decide +kernel
theorem dX2_init_8 : decode cX2_init 8 = .ok (.dup, 1) := by decide +kernel
theorem dX2_init_9 : decode cX2_init 9 = .ok (.invokespecial 11, 3) := by decide +kernel
theorem dX2_init_12 : decode cX2_init 12 = .ok (.putfield 12, 3) := by decide +kernel
theorem dX2_init_15 : decode cX2_init 15 = .ok (.aload_n 0, 1) := by decide +kernel
theorem dX2_init_16 : decode cX2_init 16 = .ok (.new 9, 3) := by decide +kernel
theorem dX2_init_19 : decode cX2_init 19 = .ok (.dup, 1) := by decide +kernel
theorem dX2_init_20 : decode cX2_init 20 = .ok (.invokespecial 11, 3) := by decide +kernel
theorem dX2_init_23 : decode cX2_init 23 = .ok (.putfield 16, 3) := by decide +kernel
theorem dX2_init_26 : decode cX2_init 26 = .ok (.aload_n 0, 1) := by decide +kernel
theorem dX2_init_27 : decode cX2_init 27 = .ok (.new 19, 3) := by decide +kernel
theorem dX2_init_30 : decode cX2_init 30 = .ok (.dup, 1) := by decide +kernel
theorem dX2_init_31 : decode cX2_init 31 = .ok (.invokespecial 21, 3) := by decide +kernel
theorem dX2_init_34 : decode cX2_init 34 = .ok (.putfield 22, 3) := by decide +kernel
theorem dX2_init_37 : decode cX2_init 37 = .ok (.aload_n 0, 1) := by decide +kernel
theorem dX2_init_38 : decode cX2_init 38 = .ok (.iconst 3, 1) := by decide +kernel
theorem dX2_init_39 : decode cX2_init 39 = .ok (.putfield 26, 3) := by decide +kernel
theorem dX2_init_42 : decode cX2_init 42 = .ok (.return_, 1) := by decide +kernel
set_option maxRecDepth 20000 in
theorem ggX2_setPlates_X2_isWithin : GoodIn wsX2_setPlates wsX2_isWithin := goodIn_r _ [10] (by decide +kernel) (by decide +kernel)
set_option maxRecDepth 20000 in
theorem gX2_setPlates_X2_isWithin : GoodIn wsX2_setPlates (va_wsS RX2 30 yX2_isWithin wsX2_isWithin) := goodIn_app (goodIn_of _ (by decide +kernel)) ggX2_setPlates_X2_isWithin
set_option maxRecDepth 20000 in
theorem ggX2_setPlates_X1_becomeLike : GoodIn wsX2_setPlates wsX1_becomeLike := goodIn_r _ [15, 16, 17, 18, 19, 14, 20, 21, 22, 23, 24, 25, 26, 27, 28, 29, 30, 31, 32, 33, 34, 63, 64, 65] (by decide +kernel) (by decide +kernel)
set_option maxRecDepth 20000 in
theorem gX2_setPlates_X1_becomeLike : GoodIn wsX2_setPlates (wsV RX2 41 RX1 yX1_becomeLike wsX1_becomeLike) := goodIn_app (goodIn_of _ (by decide +kernel)) ggX2_setPlates_X1_becomeLike
set_option maxRecDepth 20000 in
theorem ggX2_setPlates_X2_requireSafe : GoodIn wsX2_setPlates wsX2_requireSafe := goodIn_ca (goodIn_r _ [38, 39, 40, 41, 42, 43, 44, 45, 14, 46, 26, 27, 28, 29, 30, 47, 48, 49, 50, 16, 17, 18, 19, 20, 21, 51, 52, 53, 54, 55, 56, 57, 58, 59, 60, 61, 62, 63, 64, 65] (by decide +kernel) (by decide +kernel)) (goodIn_sub (fun _ h => List.mem_cons_of_mem _ (List.mem_append_right _ h)) (by decide +kernel))
set_option maxRecDepth 20000 in
theorem gX2_setPlates_X2_requireSafe : GoodIn wsX2_setPlates (wsV RX2 51 RX2 yX2_requireSafe wsX2_requireSafe) := goodIn_app (goodIn_of _ (by decide +kernel)) ggX2_setPlates_X2_requireSafe
theorem dX2_setPlates_0 : decode cX2_setPlates 0 = .ok (.iload_n 1, 1) := by decide +kernel
theorem dX2_setPlates_1 : decode cX2_setPlates 1 = .ok (.iconst 0, 1) := by decide +kernel
theorem dX2_setPlates_2 : decode cX2_setPlates 2 = .ok (.bipush 12, 2) := by decide +kernel
theorem dX2_setPlates_4 : decode cX2_setPlates 4 = .ok (.invokestatic 30, 3) := by decide +kernel
theorem dX2_setPlates_7 : decode cX2_setPlates 7 = .ok (.ifCond .ne 13, 3) := by decide +kernel
theorem dX2_setPlates_10 : decode cX2_setPlates 10 = .ok (.new 34, 3) := by decide +kernel
theorem dX2_setPlates_13 : decode cX2_setPlates 13 = .ok (.dup, 1) := by decide +kernel
theorem dX2_setPlates_14 : decode cX2_setPlates 14 = .ok (.ldc 36, 2) := by decide +kernel
theorem dX2_setPlates_16 : decode cX2_setPlates 16 = .ok (.invokespecial 38, 3) := by decide +kernel
theorem dX2_setPlates_19 : decode cX2_setPlates 19 = .ok (.athrow, 1) := by decide +kernel
theorem dX2_setPlates_20 : decode cX2_setPlates 20 = .ok (.aload_n 0, 1) := by decide +kernel
theorem dX2_setPlates_21 : decode cX2_setPlates 21 = .ok (.getfield 16, 3) := by decide +kernel
theorem dX2_setPlates_24 : decode cX2_setPlates 24 = .ok (.aload_n 0, 1) := by decide +kernel
theorem dX2_setPlates_25 : decode cX2_setPlates 25 = .ok (.getfield 12, 3) := by decide +kernel
theorem dX2_setPlates_28 : decode cX2_setPlates 28 = .ok (.invokevirtual 41, 3) := by decide +kernel
theorem dX2_setPlates_31 : decode cX2_setPlates 31 = .ok (.aload_n 0, 1) := by decide +kernel
theorem dX2_setPlates_32 : decode cX2_setPlates 32 = .ok (.getfield 16, 3) := by decide +kernel
theorem dX2_setPlates_35 : decode cX2_setPlates 35 = .ok (.iload_n 1, 1) := by decide +kernel
theorem dX2_setPlates_36 : decode cX2_setPlates 36 = .ok (.putfield 45, 3) := by decide +kernel
theorem dX2_setPlates_39 : decode cX2_setPlates 39 = .ok (.aload_n 0, 1) := by decide +kernel
theorem dX2_setPlates_40 : decode cX2_setPlates 40 = .ok (.aload_n 0, 1) := by decide +kernel
theorem dX2_setPlates_41 : decode cX2_setPlates 41 = .ok (.getfield 16, 3) := by decide +kernel
theorem dX2_setPlates_44 : decode cX2_setPlates 44 = .ok (.aload_n 0, 1) := by decide +kernel
theorem dX2_setPlates_45 : decode cX2_setPlates 45 = .ok (.getfield 48, 3) := by decide +kernel
theorem dX2_setPlates_48 : decode cX2_setPlates 48 = .ok (.invokevirtual 51, 3) := by decide +kernel
theorem dX2_setPlates_51 : decode cX2_setPlates 51 = .ok (.aload_n 0, 1) := by decide +kernel
theorem dX2_setPlates_52 : decode cX2_setPlates 52 = .ok (.getfield 12, 3) := by decide +kernel
theorem dX2_setPlates_55 : decode cX2_setPlates 55 = .ok (.getfield 45, 3) := by decide +kernel
theorem dX2_setPlates_58 : decode cX2_setPlates 58 = .ok (.istore_n 2, 1) := by decide +kernel
theorem dX2_setPlates_59 : decode cX2_setPlates 59 = .ok (.aload_n 0, 1) := by decide +kernel
theorem dX2_setPlates_60 : decode cX2_setPlates 60 = .ok (.getfield 12, 3) := by decide +kernel
theorem dX2_setPlates_63 : decode cX2_setPlates 63 = .ok (.iload_n 1, 1) := by decide +kernel
theorem dX2_setPlates_64 : decode cX2_setPlates 64 = .ok (.putfield 45, 3) := by decide +kernel
theorem dX2_setPlates_67 : decode cX2_setPlates 67 = .ok (.iload_n 2, 1) := by decide +kernel
theorem dX2_setPlates_68 : decode cX2_setPlates 68 = .ok (.ireturn, 1) := by decide +kernel
set_option maxRecDepth 20000 in
theorem ggX2_setOutrigger_X2_requireSide : GoodIn wsX2_setOutrigger wsX2_requireSide := goodIn_ca (goodIn_r _ [9, 10, 11, 12, 13, 8, 14] (by decide +kernel) (by decide +kernel)) (goodIn_sub (fun _ h => List.mem_cons_of_mem _ (List.mem_append_left _ (List.mem_append_right _ h))) (by decide +kernel))
set_option maxRecDepth 20000 in
theorem gX2_setOutrigger_X2_requireSide : GoodIn wsX2_setOutrigger (va_wsS RX2 55 yX2_requireSide wsX2_requireSide) := goodIn_app (goodIn_of _ (by decide +kernel)) ggX2_setOutrigger_X2_requireSide
set_option maxRecDepth 20000 in
theorem ggX2_setOutrigger_X2_isWithin : GoodIn wsX2_setOutrigger wsX2_isWithin := goodIn_r _ [14] (by decide +kernel) (by decide +kernel)
set_option maxRecDepth 20000 in
theorem gX2_setOutrigger_X2_isWithin : GoodIn wsX2_setOutrigger (va_wsS RX2 30 yX2_isWithin wsX2_isWithin) := goodIn_app (goodIn_of _ (by decide +kernel)) ggX2_setOutrigger_X2_isWithin
set_option maxRecDepth 20000 in
theorem ggX2_setOutrigger_X2_requireNoLoad : GoodIn wsX2_setOutrigger wsX2_requireNoLoad := goodIn_ca (goodIn_r _ [18, 19, 20, 5, 64, 65, 66, 67, 68, 69, 70, 71, 72] (by decide +kernel) (by decide +kernel)) (goodIn_sub (fun _ h => List.mem_cons_of_mem _ (List.mem_append_right _ h)) (by decide +kernel))
set_option maxRecDepth 20000 in
theorem gX2_setOutrigger_X2_requireNoLoad : GoodIn wsX2_setOutrigger (wsV RX2 61 RX2 yX2_requireNoLoad wsX2_requireNoLoad) := goodIn_app (goodIn_of _ (by decide +kernel)) ggX2_setOutrigger_X2_requireNoLoad
set_option maxRecDepth 20000 in
theorem ggX2_setOutrigger_X1_becomeLike : GoodIn wsX2_setOutrigger wsX1_becomeLike := goodIn_r _ [25, 26, 27, 28, 29, 24, 30, 31, 32, 33, 34, 35, 36, 37, 38, 39, 40, 41, 42, 43, 44, 73, 74, 75] (by decide +kernel) (by decide +kernel)
set_option maxRecDepth 20000 in
theorem gX2_setOutrigger_X1_becomeLike : GoodIn wsX2_setOutrigger (wsV RX2 41 RX1 yX1_becomeLike wsX1_becomeLike) := goodIn_app (goodIn_of _ (by decide +kernel)) ggX2_setOutrigger_X1_becomeLike
set_option maxRecDepth 20000 in
theorem ggX2_setOutrigger_X1_draw : GoodIn wsX2_setOutrigger wsX1_draw := goodIn_r _ [35, 31, 73, 74, 75] (by decide +kernel) (by decide +kernel)
set_option maxRecDepth 20000 in
theorem gX2_setOutrigger_X1_draw : GoodIn wsX2_setOutrigger (wsV RX2 64 RX1 yX1_draw wsX1_draw) := goodIn_app (goodIn_of _ (by decide +kernel)) ggX2_setOutrigger_X1_draw
set_option maxRecDepth 20000 in
theorem ggX2_setOutrigger_X2_requireSafe : GoodIn wsX2_setOutrigger wsX2_requireSafe := goodIn_ca (goodIn_r _ [49, 19, 20, 50, 51, 52, 53, 54, 24, 55, 36, 37, 38, 39, 40, 56, 57, 58, 59, 26, 27, 28, 29, 30, 31, 60, 61, 62, 64, 65, 66, 67, 68, 69, 70, 71, 72, 73, 74, 75] (by decide +kernel) (by decide +kernel)) (goodIn_sub (fun _ h => List.mem_cons_of_mem _ (List.mem_append_right _ h)) (by decide +kernel))
set_option maxRecDepth 20000 in
theorem gX2_setOutrigger_X2_requireSafe : GoodIn wsX2_setOutrigger (wsV RX2 51 RX2 yX2_requireSafe wsX2_requireSafe) := goodIn_app (goodIn_of _ (by decide +kernel)) ggX2_setOutrigger_X2_requireSafe
set_option maxRecDepth 20000 in
theorem ggX2_setOutrigger_X1_drawn : GoodIn wsX2_setOutrigger wsX1_drawn := goodIn_r _ [30, 31, 73, 74, 75] (by decide +kernel) (by decide +kernel)
set_option maxRecDepth 20000 in
theorem gX2_setOutrigger_X1_drawn : GoodIn wsX2_setOutrigger (wsV RX2 68 RX1 yX1_drawn wsX1_drawn) := goodIn_app (goodIn_of _ (by decide +kernel)) ggX2_setOutrigger_X1_drawn
theorem dX2_setOutrigger_0 : decode cX2_setOutrigger 0 = .ok (.iload_n 1, 1) := by decide +kernel
theorem dX2_setOutrigger_1 : decode cX2_setOutrigger 1 = .ok (.invokestatic 55, 3) := by decide +kernel
theorem dX2_setOutrigger_4 : decode cX2_setOutrigger 4 = .ok (.iload_n 2, 1) := by decide +kernel
theorem dX2_setOutrigger_5 : decode cX2_setOutrigger 5 = .ok (.iconst 0, 1) := by decide +kernel
theorem dX2_setOutrigger_6 : decode cX2_setOutrigger 6 = .ok (.bipush 6, 2) := by decide +kernel
theorem dX2_setOutrigger_8 : decode cX2_setOutrigger 8 = .ok (.invokestatic 30, 3) := by decide +kernel
theorem dX2_setOutrigger_11 : decode cX2_setOutrigger 11 = .ok (.ifCond .ne 13, 3) := by decide +kernel
theorem dX2_setOutrigger_14 : decode cX2_setOutrigger 14 = .ok (.new 34, 3) := by decide +kernel
theorem dX2_setOutrigger_17 : decode cX2_setOutrigger 17 = .ok (.dup, 1) := by decide +kernel
theorem dX2_setOutrigger_18 : decode cX2_setOutrigger 18 = .ok (.ldc 59, 2) := by decide +kernel
theorem dX2_setOutrigger_20 : decode cX2_setOutrigger 20 = .ok (.invokespecial 38, 3) := by decide +kernel
theorem dX2_setOutrigger_23 : decode cX2_setOutrigger 23 = .ok (.athrow, 1) := by decide +kernel
theorem dX2_setOutrigger_24 : decode cX2_setOutrigger 24 = .ok (.aload_n 0, 1) := by decide +kernel
theorem dX2_setOutrigger_25 : decode cX2_setOutrigger 25 = .ok (.invokevirtual 61, 3) := by decide +kernel
theorem dX2_setOutrigger_28 : decode cX2_setOutrigger 28 = .ok (.aload_n 0, 1) := by decide +kernel
theorem dX2_setOutrigger_29 : decode cX2_setOutrigger 29 = .ok (.getfield 16, 3) := by decide +kernel
theorem dX2_setOutrigger_32 : decode cX2_setOutrigger 32 = .ok (.aload_n 0, 1) := by decide +kernel
theorem dX2_setOutrigger_33 : decode cX2_setOutrigger 33 = .ok (.getfield 12, 3) := by decide +kernel
theorem dX2_setOutrigger_36 : decode cX2_setOutrigger 36 = .ok (.invokevirtual 41, 3) := by decide +kernel
theorem dX2_setOutrigger_39 : decode cX2_setOutrigger 39 = .ok (.aload_n 0, 1) := by decide +kernel
theorem dX2_setOutrigger_40 : decode cX2_setOutrigger 40 = .ok (.getfield 16, 3) := by decide +kernel
theorem dX2_setOutrigger_43 : decode cX2_setOutrigger 43 = .ok (.iload_n 1, 1) := by decide +kernel
theorem dX2_setOutrigger_44 : decode cX2_setOutrigger 44 = .ok (.iload_n 2, 1) := by decide +kernel
theorem dX2_setOutrigger_45 : decode cX2_setOutrigger 45 = .ok (.invokevirtual 64, 3) := by decide +kernel
theorem dX2_setOutrigger_48 : decode cX2_setOutrigger 48 = .ok (.aload_n 0, 1) := by decide +kernel
theorem dX2_setOutrigger_49 : decode cX2_setOutrigger 49 = .ok (.aload_n 0, 1) := by decide +kernel
theorem dX2_setOutrigger_50 : decode cX2_setOutrigger 50 = .ok (.getfield 16, 3) := by decide +kernel
theorem dX2_setOutrigger_53 : decode cX2_setOutrigger 53 = .ok (.aload_n 0, 1) := by decide +kernel
theorem dX2_setOutrigger_54 : decode cX2_setOutrigger 54 = .ok (.getfield 48, 3) := by decide +kernel
theorem dX2_setOutrigger_57 : decode cX2_setOutrigger 57 = .ok (.invokevirtual 51, 3) := by decide +kernel
theorem dX2_setOutrigger_60 : decode cX2_setOutrigger 60 = .ok (.aload_n 0, 1) := by decide +kernel
theorem dX2_setOutrigger_61 : decode cX2_setOutrigger 61 = .ok (.getfield 12, 3) := by decide +kernel
theorem dX2_setOutrigger_64 : decode cX2_setOutrigger 64 = .ok (.iload_n 1, 1) := by decide +kernel
theorem dX2_setOutrigger_65 : decode cX2_setOutrigger 65 = .ok (.invokevirtual 68, 3) := by decide +kernel
theorem dX2_setOutrigger_68 : decode cX2_setOutrigger 68 = .ok (.istore_n 3, 1) := by decide +kernel
theorem dX2_setOutrigger_69 : decode cX2_setOutrigger 69 = .ok (.aload_n 0, 1) := by decide +kernel
theorem dX2_setOutrigger_70 : decode cX2_setOutrigger 70 = .ok (.getfield 12, 3) := by decide +kernel
theorem dX2_setOutrigger_73 : decode cX2_setOutrigger 73 = .ok (.iload_n 1, 1) := by decide +kernel
theorem dX2_setOutrigger_74 : decode cX2_setOutrigger 74 = .ok (.iload_n 2, 1) := by decide +kernel
theorem dX2_setOutrigger_75 : decode cX2_setOutrigger 75 = .ok (.invokevirtual 64, 3) := by decide +kernel
theorem dX2_setOutrigger_78 : decode cX2_setOutrigger 78 = .ok (.iload_n 3, 1) := by decide +kernel
theorem dX2_setOutrigger_79 : decode cX2_setOutrigger 79 = .ok (.ireturn, 1) := by decide +kernel
set_option maxRecDepth 20000 in
theorem ggX2_setLimit_X2_requireReach : GoodIn wsX2_setLimit wsX2_requireReach := goodIn_ca (goodIn_r _ [9, 1, 2, 10, 11, 8, 12, 13, 14, 15] (by decide +kernel) (by decide +kernel)) (goodIn_sub (fun _ h => List.mem_cons_of_mem _ (List.mem_append_left _ (List.mem_append_right _ h))) (by decide +kernel))
set_option maxRecDepth 20000 in
theorem gX2_setLimit_X2_requireReach : GoodIn wsX2_setLimit (va_wsS RX2 72 yX2_requireReach wsX2_requireReach) := goodIn_app (goodIn_of _ (by decide +kernel)) ggX2_setLimit_X2_requireReach
set_option maxRecDepth 20000 in
theorem ggX2_setLimit_X2_isWithin : GoodIn wsX2_setLimit wsX2_isWithin := goodIn_r _ [15] (by decide +kernel) (by decide +kernel)
set_option maxRecDepth 20000 in
theorem gX2_setLimit_X2_isWithin : GoodIn wsX2_setLimit (va_wsS RX2 30 yX2_isWithin wsX2_isWithin) := goodIn_app (goodIn_of _ (by decide +kernel)) ggX2_setLimit_X2_isWithin
set_option maxRecDepth 20000 in
theorem ggX2_setLimit_X1_becomeLike : GoodIn wsX2_setLimit wsX1_becomeLike := goodIn_r _ [20, 21, 22, 23, 24, 19, 25, 26, 27, 28, 29, 30, 31, 32, 33, 34, 35, 36, 37, 38, 39, 70, 71, 72] (by decide +kernel) (by decide +kernel)
set_option maxRecDepth 20000 in
theorem gX2_setLimit_X1_becomeLike : GoodIn wsX2_setLimit (wsV RX2 41 RX1 yX1_becomeLike wsX1_becomeLike) := goodIn_app (goodIn_of _ (by decide +kernel)) ggX2_setLimit_X1_becomeLike
set_option maxRecDepth 20000 in
theorem ggX2_setLimit_X1_allow : GoodIn wsX2_setLimit wsX1_allow := goodIn_r _ [39, 35, 70, 71, 72] (by decide +kernel) (by decide +kernel)
set_option maxRecDepth 20000 in
theorem gX2_setLimit_X1_allow : GoodIn wsX2_setLimit (wsV RX2 77 RX1 yX1_allow wsX1_allow) := goodIn_app (goodIn_of _ (by decide +kernel)) ggX2_setLimit_X1_allow
set_option maxRecDepth 20000 in
theorem ggX2_setLimit_X2_requireSafe : GoodIn wsX2_setLimit wsX2_requireSafe := goodIn_ca (goodIn_r _ [44, 45, 46, 47, 48, 49, 50, 51, 19, 52, 31, 32, 33, 34, 35, 53, 54, 55, 56, 21, 22, 23, 24, 25, 26, 57, 58, 59, 61, 62, 63, 64, 65, 66, 67, 68, 69, 70, 71, 72] (by decide +kernel) (by decide +kernel)) (goodIn_sub (fun _ h => List.mem_cons_of_mem _ (List.mem_append_right _ h)) (by decide +kernel))
set_option maxRecDepth 20000 in
theorem gX2_setLimit_X2_requireSafe : GoodIn wsX2_setLimit (wsV RX2 51 RX2 yX2_requireSafe wsX2_requireSafe) := goodIn_app (goodIn_of _ (by decide +kernel)) ggX2_setLimit_X2_requireSafe
set_option maxRecDepth 20000 in
theorem ggX2_setLimit_X1_allowed : GoodIn wsX2_setLimit wsX1_allowed := goodIn_r _ [34, 35, 70, 71, 72] (by decide +kernel) (by decide +kernel)
set_option maxRecDepth 20000 in
theorem gX2_setLimit_X1_allowed : GoodIn wsX2_setLimit (wsV RX2 80 RX1 yX1_allowed wsX1_allowed) := goodIn_app (goodIn_of _ (by decide +kernel)) ggX2_setLimit_X1_allowed
theorem dX2_setLimit_0 : decode cX2_setLimit 0 = .ok (.iload_n 1, 1) := by decide +kernel
theorem dX2_setLimit_1 : decode cX2_setLimit 1 = .ok (.invokestatic 72, 3) := by decide +kernel
theorem dX2_setLimit_4 : decode cX2_setLimit 4 = .ok (.iload_n 2, 1) := by decide +kernel
theorem dX2_setLimit_5 : decode cX2_setLimit 5 = .ok (.iconst 0, 1) := by decide +kernel
theorem dX2_setLimit_6 : decode cX2_setLimit 6 = .ok (.bipush 60, 2) := by decide +kernel
theorem dX2_setLimit_8 : decode cX2_setLimit 8 = .ok (.invokestatic 30, 3) := by decide +kernel
theorem dX2_setLimit_11 : decode cX2_setLimit 11 = .ok (.ifCond .ne 13, 3) := by decide +kernel
theorem dX2_setLimit_14 : decode cX2_setLimit 14 = .ok (.new 34, 3) := by decide +kernel
theorem dX2_setLimit_17 : decode cX2_setLimit 17 = .ok (.dup, 1) := by decide +kernel
theorem dX2_setLimit_18 : decode cX2_setLimit 18 = .ok (.ldc 75, 2) := by decide +kernel
theorem dX2_setLimit_20 : decode cX2_setLimit 20 = .ok (.invokespecial 38, 3) := by decide +kernel
theorem dX2_setLimit_23 : decode cX2_setLimit 23 = .ok (.athrow, 1) := by decide +kernel
theorem dX2_setLimit_24 : decode cX2_setLimit 24 = .ok (.aload_n 0, 1) := by decide +kernel
theorem dX2_setLimit_25 : decode cX2_setLimit 25 = .ok (.getfield 16, 3) := by decide +kernel
theorem dX2_setLimit_28 : decode cX2_setLimit 28 = .ok (.aload_n 0, 1) := by decide +kernel
theorem dX2_setLimit_29 : decode cX2_setLimit 29 = .ok (.getfield 12, 3) := by decide +kernel
theorem dX2_setLimit_32 : decode cX2_setLimit 32 = .ok (.invokevirtual 41, 3) := by decide +kernel
theorem dX2_setLimit_35 : decode cX2_setLimit 35 = .ok (.aload_n 0, 1) := by decide +kernel
theorem dX2_setLimit_36 : decode cX2_setLimit 36 = .ok (.getfield 16, 3) := by decide +kernel
theorem dX2_setLimit_39 : decode cX2_setLimit 39 = .ok (.iload_n 1, 1) := by decide +kernel
theorem dX2_setLimit_40 : decode cX2_setLimit 40 = .ok (.iload_n 2, 1) := by decide +kernel
theorem dX2_setLimit_41 : decode cX2_setLimit 41 = .ok (.invokevirtual 77, 3) := by decide +kernel
theorem dX2_setLimit_44 : decode cX2_setLimit 44 = .ok (.aload_n 0, 1) := by decide +kernel
theorem dX2_setLimit_45 : decode cX2_setLimit 45 = .ok (.aload_n 0, 1) := by decide +kernel
theorem dX2_setLimit_46 : decode cX2_setLimit 46 = .ok (.getfield 16, 3) := by decide +kernel
theorem dX2_setLimit_49 : decode cX2_setLimit 49 = .ok (.aload_n 0, 1) := by decide +kernel
theorem dX2_setLimit_50 : decode cX2_setLimit 50 = .ok (.getfield 48, 3) := by decide +kernel
theorem dX2_setLimit_53 : decode cX2_setLimit 53 = .ok (.invokevirtual 51, 3) := by decide +kernel
theorem dX2_setLimit_56 : decode cX2_setLimit 56 = .ok (.aload_n 0, 1) := by decide +kernel
theorem dX2_setLimit_57 : decode cX2_setLimit 57 = .ok (.getfield 12, 3) := by decide +kernel
theorem dX2_setLimit_60 : decode cX2_setLimit 60 = .ok (.iload_n 1, 1) := by decide +kernel
theorem dX2_setLimit_61 : decode cX2_setLimit 61 = .ok (.invokevirtual 80, 3) := by decide +kernel
theorem dX2_setLimit_64 : decode cX2_setLimit 64 = .ok (.istore_n 3, 1) := by decide +kernel
theorem dX2_setLimit_65 : decode cX2_setLimit 65 = .ok (.aload_n 0, 1) := by decide +kernel
theorem dX2_setLimit_66 : decode cX2_setLimit 66 = .ok (.getfield 12, 3) := by decide +kernel
theorem dX2_setLimit_69 : decode cX2_setLimit 69 = .ok (.iload_n 1, 1) := by decide +kernel
theorem dX2_setLimit_70 : decode cX2_setLimit 70 = .ok (.iload_n 2, 1) := by decide +kernel
theorem dX2_setLimit_71 : decode cX2_setLimit 71 = .ok (.invokevirtual 77, 3) := by decide +kernel
theorem dX2_setLimit_74 : decode cX2_setLimit 74 = .ok (.iload_n 3, 1) := by decide +kernel
theorem dX2_setLimit_75 : decode cX2_setLimit 75 = .ok (.ireturn, 1) := by decide +kernel
set_option maxRecDepth 20000 in
theorem ggX2_lift_X2_isWithin : GoodIn wsX2_lift wsX2_isWithin := goodIn_r _ [10] (by decide +kernel) (by decide +kernel)
set_option maxRecDepth 20000 in
theorem gX2_lift_X2_isWithin : GoodIn wsX2_lift (va_wsS RX2 30 yX2_isWithin wsX2_isWithin) := goodIn_app (goodIn_of _ (by decide +kernel)) ggX2_lift_X2_isWithin
set_option maxRecDepth 20000 in
theorem ggX2_lift_X2_requireNoLoad : GoodIn wsX2_lift wsX2_requireNoLoad := goodIn_ca (goodIn_r _ [14, 15, 16, 4, 46, 47, 48, 49, 50, 51, 52, 53, 54] (by decide +kernel) (by decide +kernel)) (goodIn_sub (fun _ h => List.mem_cons_of_mem _ (List.mem_append_right _ h)) (by decide +kernel))
set_option maxRecDepth 20000 in
theorem gX2_lift_X2_requireNoLoad : GoodIn wsX2_lift (wsV RX2 61 RX2 yX2_requireNoLoad wsX2_requireNoLoad) := goodIn_app (goodIn_of _ (by decide +kernel)) ggX2_lift_X2_requireNoLoad
set_option maxRecDepth 20000 in
theorem ggX2_lift_X2_requireSafe : GoodIn wsX2_lift wsX2_requireSafe := goodIn_ca (goodIn_r _ [20, 15, 16, 21, 22, 23, 24, 25, 26, 27, 28, 29, 30, 31, 32, 33, 34, 35, 36, 37, 38, 39, 40, 41, 42, 43, 44, 45, 46, 47, 48, 49, 50, 51, 52, 53, 54, 55, 56, 57] (by decide +kernel) (by decide +kernel)) (goodIn_sub (fun _ h => List.mem_cons_of_mem _ (List.mem_append_right _ h)) (by decide +kernel))
set_option maxRecDepth 20000 in
theorem gX2_lift_X2_requireSafe : GoodIn wsX2_lift (wsV RX2 51 RX2 yX2_requireSafe wsX2_requireSafe) := goodIn_app (goodIn_of _ (by decide +kernel)) ggX2_lift_X2_requireSafe
theorem dX2_lift_0 : decode cX2_lift 0 = .ok (.iload_n 1, 1) := by decide +kernel
theorem dX2_lift_1 : decode cX2_lift 1 = .ok (.iconst 1, 1) := by decide +kernel
theorem dX2_lift_2 : decode cX2_lift 2 = .ok (.bipush 60, 2) := by decide +kernel
theorem dX2_lift_4 : decode cX2_lift 4 = .ok (.invokestatic 30, 3) := by decide +kernel
theorem dX2_lift_7 : decode cX2_lift 7 = .ok (.ifCond .ne 13, 3) := by decide +kernel
theorem dX2_lift_10 : decode cX2_lift 10 = .ok (.new 34, 3) := by decide +kernel
theorem dX2_lift_13 : decode cX2_lift 13 = .ok (.dup, 1) := by decide +kernel
theorem dX2_lift_14 : decode cX2_lift 14 = .ok (.ldc 83, 2) := by decide +kernel
theorem dX2_lift_16 : decode cX2_lift 16 = .ok (.invokespecial 38, 3) := by decide +kernel
theorem dX2_lift_19 : decode cX2_lift 19 = .ok (.athrow, 1) := by decide +kernel
theorem dX2_lift_20 : decode cX2_lift 20 = .ok (.aload_n 0, 1) := by decide +kernel
theorem dX2_lift_21 : decode cX2_lift 21 = .ok (.invokevirtual 61, 3) := by decide +kernel
theorem dX2_lift_24 : decode cX2_lift 24 = .ok (.aload_n 0, 1) := by decide +kernel
theorem dX2_lift_25 : decode cX2_lift 25 = .ok (.aload_n 0, 1) := by decide +kernel
theorem dX2_lift_26 : decode cX2_lift 26 = .ok (.getfield 12, 3) := by decide +kernel
theorem dX2_lift_29 : decode cX2_lift 29 = .ok (.iload_n 1, 1) := by decide +kernel
theorem dX2_lift_30 : decode cX2_lift 30 = .ok (.invokevirtual 51, 3) := by decide +kernel
theorem dX2_lift_33 : decode cX2_lift 33 = .ok (.aload_n 0, 1) := by decide +kernel
theorem dX2_lift_34 : decode cX2_lift 34 = .ok (.iload_n 1, 1) := by decide +kernel
theorem dX2_lift_35 : decode cX2_lift 35 = .ok (.putfield 48, 3) := by decide +kernel
theorem dX2_lift_38 : decode cX2_lift 38 = .ok (.aload_n 0, 1) := by decide +kernel
theorem dX2_lift_39 : decode cX2_lift 39 = .ok (.dup, 1) := by decide +kernel
theorem dX2_lift_40 : decode cX2_lift 40 = .ok (.getfield 85, 3) := by decide +kernel
theorem dX2_lift_43 : decode cX2_lift 43 = .ok (.iconst 1, 1) := by decide +kernel
theorem dX2_lift_44 : decode cX2_lift 44 = .ok (.iadd, 1) := by decide +kernel
theorem dX2_lift_45 : decode cX2_lift 45 = .ok (.putfield 85, 3) := by decide +kernel
theorem dX2_lift_48 : decode cX2_lift 48 = .ok (.aload_n 0, 1) := by decide +kernel
theorem dX2_lift_49 : decode cX2_lift 49 = .ok (.dup, 1) := by decide +kernel
theorem dX2_lift_50 : decode cX2_lift 50 = .ok (.getfield 88, 3) := by decide +kernel
theorem dX2_lift_53 : decode cX2_lift 53 = .ok (.iload_n 1, 1) := by decide +kernel
theorem dX2_lift_54 : decode cX2_lift 54 = .ok (.iadd, 1) := by decide +kernel
theorem dX2_lift_55 : decode cX2_lift 55 = .ok (.putfield 88, 3) := by decide +kernel
theorem dX2_lift_58 : decode cX2_lift 58 = .ok (.aload_n 0, 1) := by decide +kernel
theorem dX2_lift_59 : decode cX2_lift 59 = .ok (.getfield 85, 3) := by decide +kernel
theorem dX2_lift_62 : decode cX2_lift 62 = .ok (.ireturn, 1) := by decide +kernel
set_option maxRecDepth 20000 in
theorem ggX2_setDown_X2_requireSafe : GoodIn wsX2_setDown wsX2_requireSafe := goodIn_ca (goodIn_r _ [9, 1, 2, 10, 11, 12, 13, 14, 15, 16, 17, 18, 19, 20, 21, 22, 23, 24, 25, 26, 27, 28, 29, 30, 31, 32, 33, 34, 35, 36, 37, 38, 39, 40, 41, 42, 43, 44, 45, 46] (by decide +kernel) (by decide +kernel)) (goodIn_sub (fun _ h => List.mem_cons_of_mem _ (List.mem_append_right _ h)) (by decide +kernel))
set_option maxRecDepth 20000 in
theorem gX2_setDown_X2_requireSafe : GoodIn wsX2_setDown (wsV RX2 51 RX2 yX2_requireSafe wsX2_requireSafe) := goodIn_app (goodIn_of _ (by decide +kernel)) ggX2_setDown_X2_requireSafe
theorem dX2_setDown_0 : decode cX2_setDown 0 = .ok (.aload_n 0, 1) := by decide +kernel
theorem dX2_setDown_1 : decode cX2_setDown 1 = .ok (.getfield 48, 3) := by decide +kernel
theorem dX2_setDown_4 : decode cX2_setDown 4 = .ok (.ifCond .ne 13, 3) := by decide +kernel
theorem dX2_setDown_7 : decode cX2_setDown 7 = .ok (.new 91, 3) := by decide +kernel
theorem dX2_setDown_10 : decode cX2_setDown 10 = .ok (.dup, 1) := by decide +kernel
theorem dX2_setDown_11 : decode cX2_setDown 11 = .ok (.ldc 93, 2) := by decide +kernel
theorem dX2_setDown_13 : decode cX2_setDown 13 = .ok (.invokespecial 95, 3) := by decide +kernel
theorem dX2_setDown_16 : decode cX2_setDown 16 = .ok (.athrow, 1) := by decide +kernel
theorem dX2_setDown_17 : decode cX2_setDown 17 = .ok (.aload_n 0, 1) := by decide +kernel
theorem dX2_setDown_18 : decode cX2_setDown 18 = .ok (.aload_n 0, 1) := by decide +kernel
theorem dX2_setDown_19 : decode cX2_setDown 19 = .ok (.getfield 12, 3) := by decide +kernel
theorem dX2_setDown_22 : decode cX2_setDown 22 = .ok (.iconst 0, 1) := by decide +kernel
theorem dX2_setDown_23 : decode cX2_setDown 23 = .ok (.invokevirtual 51, 3) := by decide +kernel
theorem dX2_setDown_26 : decode cX2_setDown 26 = .ok (.aload_n 0, 1) := by decide +kernel
theorem dX2_setDown_27 : decode cX2_setDown 27 = .ok (.getfield 48, 3) := by decide +kernel
theorem dX2_setDown_30 : decode cX2_setDown 30 = .ok (.istore_n 1, 1) := by decide +kernel
theorem dX2_setDown_31 : decode cX2_setDown 31 = .ok (.aload_n 0, 1) := by decide +kernel
theorem dX2_setDown_32 : decode cX2_setDown 32 = .ok (.iconst 0, 1) := by decide +kernel
theorem dX2_setDown_33 : decode cX2_setDown 33 = .ok (.putfield 48, 3) := by decide +kernel
theorem dX2_setDown_36 : decode cX2_setDown 36 = .ok (.iload_n 1, 1) := by decide +kernel
theorem dX2_setDown_37 : decode cX2_setDown 37 = .ok (.ireturn, 1) := by decide +kernel
set_option maxRecDepth 20000 in
theorem ggX2_swing_X2_isWithin : GoodIn wsX2_swing wsX2_isWithin := goodIn_r _ [10] (by decide +kernel) (by decide +kernel)
set_option maxRecDepth 20000 in
theorem gX2_swing_X2_isWithin : GoodIn wsX2_swing (va_wsS RX2 30 yX2_isWithin wsX2_isWithin) := goodIn_app (goodIn_of _ (by decide +kernel)) ggX2_swing_X2_isWithin
set_option maxRecDepth 20000 in
theorem ggX2_swing_X2_turned : GoodIn wsX2_swing wsX2_turned := goodIn_r _ [13] (by decide +kernel) (by decide +kernel)
set_option maxRecDepth 20000 in
theorem gX2_swing_X2_turned : GoodIn wsX2_swing (va_wsS RX2 101 yX2_turned wsX2_turned) := goodIn_app (goodIn_of _ (by decide +kernel)) ggX2_swing_X2_turned
set_option maxRecDepth 20000 in
theorem ggX2_swing_X1_isSafe : GoodIn wsX2_swing wsX1_isSafe := goodIn_r _ [18, 19, 20, 21, 17, 22, 23, 24, 25, 26, 27, 28, 29, 30, 31, 32, 33, 34, 35, 36, 51, 52, 53] (by decide +kernel) (by decide +kernel)
set_option maxRecDepth 20000 in
theorem gX2_swing_X1_isSafe : GoodIn wsX2_swing (wsV RX2 105 RX1 yX1_isSafe wsX1_isSafe) := goodIn_app (goodIn_of _ (by decide +kernel)) ggX2_swing_X1_isSafe
set_option maxRecDepth 20000 in
theorem ggX2_swing_X2_countMoves : GoodIn wsX2_swing wsX2_countMoves := goodIn_r _ [40, 4, 41, 42, 43, 44, 45, 46, 47, 48, 49, 50] (by decide +kernel) (by decide +kernel)
set_option maxRecDepth 20000 in
theorem gX2_swing_X2_countMoves : GoodIn wsX2_swing (wsV RX2 108 RX2 yX2_countMoves wsX2_countMoves) := goodIn_app (goodIn_of _ (by decide +kernel)) ggX2_swing_X2_countMoves
theorem dX2_swing_0 : decode cX2_swing 0 = .ok (.iload_n 1, 1) := by decide +kernel
theorem dX2_swing_1 : decode cX2_swing 1 = .ok (.iconst 1, 1) := by decide +kernel
theorem dX2_swing_2 : decode cX2_swing 2 = .ok (.bipush 8, 2) := by decide +kernel
theorem dX2_swing_4 : decode cX2_swing 4 = .ok (.invokestatic 30, 3) := by decide +kernel
theorem dX2_swing_7 : decode cX2_swing 7 = .ok (.ifCond .ne 13, 3) := by decide +kernel
theorem dX2_swing_10 : decode cX2_swing 10 = .ok (.new 34, 3) := by decide +kernel
theorem dX2_swing_13 : decode cX2_swing 13 = .ok (.dup, 1) := by decide +kernel
theorem dX2_swing_14 : decode cX2_swing 14 = .ok (.ldc 96, 2) := by decide +kernel
theorem dX2_swing_16 : decode cX2_swing 16 = .ok (.invokespecial 38, 3) := by decide +kernel
theorem dX2_swing_19 : decode cX2_swing 19 = .ok (.athrow, 1) := by decide +kernel
theorem dX2_swing_20 : decode cX2_swing 20 = .ok (.iload_n 2, 1) := by decide +kernel
theorem dX2_swing_21 : decode cX2_swing 21 = .ok (.ifCond .eq 7, 3) := by decide +kernel
theorem dX2_swing_24 : decode cX2_swing 24 = .ok (.iconst 1, 1) := by decide +kernel
theorem dX2_swing_25 : decode cX2_swing 25 = .ok (.goto 4, 3) := by decide +kernel
theorem dX2_swing_28 : decode cX2_swing 28 = .ok (.iconst (-1), 1) := by decide +kernel
theorem dX2_swing_29 : decode cX2_swing 29 = .ok (.istore_n 3, 1) := by decide +kernel
theorem dX2_swing_30 : decode cX2_swing 30 = .ok (.iconst 0, 1) := by decide +kernel
theorem dX2_swing_31 : decode cX2_swing 31 = .ok (.istore 4, 2) := by decide +kernel
theorem dX2_swing_33 : decode cX2_swing 33 = .ok (.iload 4, 2) := by decide +kernel
theorem dX2_swing_35 : decode cX2_swing 35 = .ok (.iload_n 1, 1) := by decide +kernel
theorem dX2_swing_36 : decode cX2_swing 36 = .ok (.if_icmp .ge 47, 3) := by decide +kernel
theorem dX2_swing_39 : decode cX2_swing 39 = .ok (.aload_n 0, 1) := by decide +kernel
theorem dX2_swing_40 : decode cX2_swing 40 = .ok (.getfield 12, 3) := by decide +kernel
theorem dX2_swing_43 : decode cX2_swing 43 = .ok (.aload_n 0, 1) := by decide +kernel
theorem dX2_swing_44 : decode cX2_swing 44 = .ok (.getfield 48, 3) := by decide +kernel
theorem dX2_swing_47 : decode cX2_swing 47 = .ok (.aload_n 0, 1) := by decide +kernel
theorem dX2_swing_48 : decode cX2_swing 48 = .ok (.getfield 98, 3) := by decide +kernel
theorem dX2_swing_51 : decode cX2_swing 51 = .ok (.iload_n 3, 1) := by decide +kernel
theorem dX2_swing_52 : decode cX2_swing 52 = .ok (.invokestatic 101, 3) := by decide +kernel
theorem dX2_swing_55 : decode cX2_swing 55 = .ok (.aload_n 0, 1) := by decide +kernel
theorem dX2_swing_56 : decode cX2_swing 56 = .ok (.getfield 26, 3) := by decide +kernel
theorem dX2_swing_59 : decode cX2_swing 59 = .ok (.invokevirtual 105, 3) := by decide +kernel
theorem dX2_swing_62 : decode cX2_swing 62 = .ok (.ifCond .eq 21, 3) := by decide +kernel
theorem dX2_swing_65 : decode cX2_swing 65 = .ok (.aload_n 0, 1) := by decide +kernel
theorem dX2_swing_66 : decode cX2_swing 66 = .ok (.aload_n 0, 1) := by decide +kernel
theorem dX2_swing_67 : decode cX2_swing 67 = .ok (.getfield 98, 3) := by decide +kernel
theorem dX2_swing_70 : decode cX2_swing 70 = .ok (.iload_n 3, 1) := by decide +kernel
theorem dX2_swing_71 : decode cX2_swing 71 = .ok (.invokestatic 101, 3) := by decide +kernel
theorem dX2_swing_74 : decode cX2_swing 74 = .ok (.putfield 98, 3) := by decide +kernel
theorem dX2_swing_77 : decode cX2_swing 77 = .ok (.iinc 4 1, 3) := by decide +kernel
theorem dX2_swing_80 : decode cX2_swing 80 = .ok (.goto (-47), 3) := by decide +kernel
theorem dX2_swing_83 : decode cX2_swing 83 = .ok (.aload_n 0, 1) := by decide +kernel
theorem dX2_swing_84 : decode cX2_swing 84 = .ok (.iload 4, 2) := by decide +kernel
theorem dX2_swing_86 : decode cX2_swing 86 = .ok (.invokevirtual 108, 3) := by decide +kernel
theorem dX2_swing_89 : decode cX2_swing 89 = .ok (.iload 4, 2) := by decide +kernel
theorem dX2_swing_91 : decode cX2_swing 91 = .ok (.ireturn, 1) := by decide +kernel
set_option maxRecDepth 20000 in
theorem ggX2_stretch_X2_isWithin : GoodIn wsX2_stretch wsX2_isWithin := goodIn_r _ [10] (by decide +kernel) (by decide +kernel)
set_option maxRecDepth 20000 in
theorem gX2_stretch_X2_isWithin : GoodIn wsX2_stretch (va_wsS RX2 30 yX2_isWithin wsX2_isWithin) := goodIn_app (goodIn_of _ (by decide +kernel)) ggX2_stretch_X2_isWithin
set_option maxRecDepth 20000 in
theorem ggX2_stretch_X2_isReach : GoodIn wsX2_stretch wsX2_isReach := goodIn_r _ [13, 7, 8, 9, 10] (by decide +kernel) (by decide +kernel)
set_option maxRecDepth 20000 in
theorem gX2_stretch_X2_isReach : GoodIn wsX2_stretch (va_wsS RX2 113 yX2_isReach wsX2_isReach) := goodIn_app (goodIn_of _ (by decide +kernel)) ggX2_stretch_X2_isReach
set_option maxRecDepth 20000 in
theorem ggX2_stretch_X1_isSafe : GoodIn wsX2_stretch wsX1_isSafe := goodIn_r _ [18, 19, 20, 21, 17, 22, 23, 24, 25, 26, 27, 28, 29, 30, 31, 32, 33, 34, 35, 36, 51, 52, 53] (by decide +kernel) (by decide +kernel)
set_option maxRecDepth 20000 in
theorem gX2_stretch_X1_isSafe : GoodIn wsX2_stretch (wsV RX2 105 RX1 yX1_isSafe wsX1_isSafe) := goodIn_app (goodIn_of _ (by decide +kernel)) ggX2_stretch_X1_isSafe
set_option maxRecDepth 20000 in
theorem ggX2_stretch_X2_countMoves : GoodIn wsX2_stretch wsX2_countMoves := goodIn_r _ [40, 5, 41, 42, 43, 44, 45, 46, 47, 48, 49, 50] (by decide +kernel) (by decide +kernel)
set_option maxRecDepth 20000 in
theorem gX2_stretch_X2_countMoves : GoodIn wsX2_stretch (wsV RX2 108 RX2 yX2_countMoves wsX2_countMoves) := goodIn_app (goodIn_of _ (by decide +kernel)) ggX2_stretch_X2_countMoves
theorem dX2_stretch_0 : decode cX2_stretch 0 = .ok (.iload_n 1, 1) := by decide +kernel
theorem dX2_stretch_1 : decode cX2_stretch 1 = .ok (.iconst 1, 1) := by decide +kernel
theorem dX2_stretch_2 : decode cX2_stretch 2 = .ok (.bipush 30, 2) := by decide +kernel
theorem dX2_stretch_4 : decode cX2_stretch 4 = .ok (.invokestatic 30, 3) := by decide +kernel
theorem dX2_stretch_7 : decode cX2_stretch 7 = .ok (.ifCond .ne 13, 3) := by decide +kernel
theorem dX2_stretch_10 : decode cX2_stretch 10 = .ok (.new 34, 3) := by decide +kernel
theorem dX2_stretch_13 : decode cX2_stretch 13 = .ok (.dup, 1) := by decide +kernel
theorem dX2_stretch_14 : decode cX2_stretch 14 = .ok (.ldc 111, 2) := by decide +kernel
theorem dX2_stretch_16 : decode cX2_stretch 16 = .ok (.invokespecial 38, 3) := by decide +kernel
theorem dX2_stretch_19 : decode cX2_stretch 19 = .ok (.athrow, 1) := by decide +kernel
theorem dX2_stretch_20 : decode cX2_stretch 20 = .ok (.iload_n 2, 1) := by decide +kernel
theorem dX2_stretch_21 : decode cX2_stretch 21 = .ok (.ifCond .eq 7, 3) := by decide +kernel
theorem dX2_stretch_24 : decode cX2_stretch 24 = .ok (.iconst 1, 1) := by decide +kernel
theorem dX2_stretch_25 : decode cX2_stretch 25 = .ok (.goto 4, 3) := by decide +kernel
theorem dX2_stretch_28 : decode cX2_stretch 28 = .ok (.iconst (-1), 1) := by decide +kernel
theorem dX2_stretch_29 : decode cX2_stretch 29 = .ok (.istore_n 3, 1) := by decide +kernel
theorem dX2_stretch_30 : decode cX2_stretch 30 = .ok (.iconst 0, 1) := by decide +kernel
theorem dX2_stretch_31 : decode cX2_stretch 31 = .ok (.istore 4, 2) := by decide +kernel
theorem dX2_stretch_33 : decode cX2_stretch 33 = .ok (.iload 4, 2) := by decide +kernel
theorem dX2_stretch_35 : decode cX2_stretch 35 = .ok (.iload_n 1, 1) := by decide +kernel
theorem dX2_stretch_36 : decode cX2_stretch 36 = .ok (.if_icmp .ge 55, 3) := by decide +kernel
theorem dX2_stretch_39 : decode cX2_stretch 39 = .ok (.aload_n 0, 1) := by decide +kernel
theorem dX2_stretch_40 : decode cX2_stretch 40 = .ok (.getfield 26, 3) := by decide +kernel
theorem dX2_stretch_43 : decode cX2_stretch 43 = .ok (.iload_n 3, 1) := by decide +kernel
theorem dX2_stretch_44 : decode cX2_stretch 44 = .ok (.iadd, 1) := by decide +kernel
theorem dX2_stretch_45 : decode cX2_stretch 45 = .ok (.invokestatic 113, 3) := by decide +kernel
theorem dX2_stretch_48 : decode cX2_stretch 48 = .ok (.ifCond .eq 43, 3) := by decide +kernel
theorem dX2_stretch_51 : decode cX2_stretch 51 = .ok (.aload_n 0, 1) := by decide +kernel
theorem dX2_stretch_52 : decode cX2_stretch 52 = .ok (.getfield 12, 3) := by decide +kernel
theorem dX2_stretch_55 : decode cX2_stretch 55 = .ok (.aload_n 0, 1) := by decide +kernel
theorem dX2_stretch_56 : decode cX2_stretch 56 = .ok (.getfield 48, 3) := by decide +kernel
theorem dX2_stretch_59 : decode cX2_stretch 59 = .ok (.aload_n 0, 1) := by decide +kernel
theorem dX2_stretch_60 : decode cX2_stretch 60 = .ok (.getfield 98, 3) := by decide +kernel
theorem dX2_stretch_63 : decode cX2_stretch 63 = .ok (.aload_n 0, 1) := by decide +kernel
theorem dX2_stretch_64 : decode cX2_stretch 64 = .ok (.getfield 26, 3) := by decide +kernel
theorem dX2_stretch_67 : decode cX2_stretch 67 = .ok (.iload_n 3, 1) := by decide +kernel
theorem dX2_stretch_68 : decode cX2_stretch 68 = .ok (.iadd, 1) := by decide +kernel
theorem dX2_stretch_69 : decode cX2_stretch 69 = .ok (.invokevirtual 105, 3) := by decide +kernel
theorem dX2_stretch_72 : decode cX2_stretch 72 = .ok (.ifCond .eq 19, 3) := by decide +kernel
theorem dX2_stretch_75 : decode cX2_stretch 75 = .ok (.aload_n 0, 1) := by decide +kernel
theorem dX2_stretch_76 : decode cX2_stretch 76 = .ok (.dup, 1) := by decide +kernel
theorem dX2_stretch_77 : decode cX2_stretch 77 = .ok (.getfield 26, 3) := by decide +kernel
theorem dX2_stretch_80 : decode cX2_stretch 80 = .ok (.iload_n 3, 1) := by decide +kernel
theorem dX2_stretch_81 : decode cX2_stretch 81 = .ok (.iadd, 1) := by decide +kernel
theorem dX2_stretch_82 : decode cX2_stretch 82 = .ok (.putfield 26, 3) := by decide +kernel
theorem dX2_stretch_85 : decode cX2_stretch 85 = .ok (.iinc 4 1, 3) := by decide +kernel
theorem dX2_stretch_88 : decode cX2_stretch 88 = .ok (.goto (-55), 3) := by decide +kernel
theorem dX2_stretch_91 : decode cX2_stretch 91 = .ok (.aload_n 0, 1) := by decide +kernel
theorem dX2_stretch_92 : decode cX2_stretch 92 = .ok (.iload 4, 2) := by decide +kernel
theorem dX2_stretch_94 : decode cX2_stretch 94 = .ok (.invokevirtual 108, 3) := by decide +kernel
theorem dX2_stretch_97 : decode cX2_stretch 97 = .ok (.iload 4, 2) := by decide +kernel
theorem dX2_stretch_99 : decode cX2_stretch 99 = .ok (.ireturn, 1) := by decide +kernel
theorem dX2_direction_0 : decode cX2_direction 0 = .ok (.aload_n 0, 1) := by decide +kernel
theorem dX2_direction_1 : decode cX2_direction 1 = .ok (.getfield 98, 3) := by decide +kernel
theorem dX2_direction_4 : decode cX2_direction 4 = .ok (.ireturn, 1) := by decide +kernel
theorem dX2_reach_0 : decode cX2_reach 0 = .ok (.aload_n 0, 1) := by decide +kernel
theorem dX2_reach_1 : decode cX2_reach 1 = .ok (.getfield 26, 3) := by decide +kernel
theorem dX2_reach_4 : decode cX2_reach 4 = .ok (.ireturn, 1) := by decide +kernel
theorem dX2_load_0 : decode cX2_load 0 = .ok (.aload_n 0, 1) := by decide +kernel
theorem dX2_load_1 : decode cX2_load 1 = .ok (.getfield 48, 3) := by decide +kernel
theorem dX2_load_4 : decode cX2_load 4 = .ok (.ireturn, 1) := by decide +kernel
theorem dX2_plates_0 : decode cX2_plates 0 = .ok (.aload_n 0, 1) := by decide +kernel
theorem dX2_plates_1 : decode cX2_plates 1 = .ok (.getfield 12, 3) := by decide +kernel
theorem dX2_plates_4 : decode cX2_plates 4 = .ok (.getfield 45, 3) := by decide +kernel
theorem dX2_plates_7 : decode cX2_plates 7 = .ok (.ireturn, 1) := by decide +kernel
set_option maxRecDepth 20000 in
theorem ggX2_outrigger_X2_requireSide : GoodIn wsX2_outrigger wsX2_requireSide := goodIn_ca (goodIn_r _ [5, 6, 7, 8, 9, 4, 10] (by decide +kernel) (by decide +kernel)) (goodIn_sub (fun _ h => List.mem_cons_of_mem _ (List.mem_append_right _ h)) (by decide +kernel))
set_option maxRecDepth 20000 in
theorem gX2_outrigger_X2_requireSide : GoodIn wsX2_outrigger (va_wsS RX2 55 yX2_requireSide wsX2_requireSide) := goodIn_app (goodIn_of _ (by decide +kernel)) ggX2_outrigger_X2_requireSide
set_option maxRecDepth 20000 in
theorem ggX2_outrigger_X1_drawn : GoodIn wsX2_outrigger wsX1_drawn := goodIn_r _ [15, 16, 26, 27, 28] (by decide +kernel) (by decide +kernel)
set_option maxRecDepth 20000 in
theorem gX2_outrigger_X1_drawn : GoodIn wsX2_outrigger (wsV RX2 68 RX1 yX1_drawn wsX1_drawn) := goodIn_app (goodIn_of _ (by decide +kernel)) ggX2_outrigger_X1_drawn
theorem dX2_outrigger_0 : decode cX2_outrigger 0 = .ok (.iload_n 1, 1) := by decide +kernel
theorem dX2_outrigger_1 : decode cX2_outrigger 1 = .ok (.invokestatic 55, 3) := by decide +kernel
theorem dX2_outrigger_4 : decode cX2_outrigger 4 = .ok (.aload_n 0, 1) := by decide +kernel
theorem dX2_outrigger_5 : decode cX2_outrigger 5 = .ok (.getfield 12, 3) := by decide +kernel
theorem dX2_outrigger_8 : decode cX2_outrigger 8 = .ok (.iload_n 1, 1) := by decide +kernel
theorem dX2_outrigger_9 : decode cX2_outrigger 9 = .ok (.invokevirtual 68, 3) := by decide +kernel
theorem dX2_outrigger_12 : decode cX2_outrigger 12 = .ok (.ireturn, 1) := by decide +kernel
set_option maxRecDepth 20000 in
theorem ggX2_limitAt_X2_requireReach : GoodIn wsX2_limitAt wsX2_requireReach := goodIn_ca (goodIn_r _ [5, 6, 7, 8, 9, 4, 10, 11, 12, 13] (by decide +kernel) (by decide +kernel)) (goodIn_sub (fun _ h => List.mem_cons_of_mem _ (List.mem_append_right _ h)) (by decide +kernel))
set_option maxRecDepth 20000 in
theorem gX2_limitAt_X2_requireReach : GoodIn wsX2_limitAt (va_wsS RX2 72 yX2_requireReach wsX2_requireReach) := goodIn_app (goodIn_of _ (by decide +kernel)) ggX2_limitAt_X2_requireReach
set_option maxRecDepth 20000 in
theorem ggX2_limitAt_X1_allowed : GoodIn wsX2_limitAt wsX1_allowed := goodIn_r _ [18, 19, 29, 30, 31] (by decide +kernel) (by decide +kernel)
set_option maxRecDepth 20000 in
theorem gX2_limitAt_X1_allowed : GoodIn wsX2_limitAt (wsV RX2 80 RX1 yX1_allowed wsX1_allowed) := goodIn_app (goodIn_of _ (by decide +kernel)) ggX2_limitAt_X1_allowed
theorem dX2_limitAt_0 : decode cX2_limitAt 0 = .ok (.iload_n 1, 1) := by decide +kernel
theorem dX2_limitAt_1 : decode cX2_limitAt 1 = .ok (.invokestatic 72, 3) := by decide +kernel
theorem dX2_limitAt_4 : decode cX2_limitAt 4 = .ok (.aload_n 0, 1) := by decide +kernel
theorem dX2_limitAt_5 : decode cX2_limitAt 5 = .ok (.getfield 12, 3) := by decide +kernel
theorem dX2_limitAt_8 : decode cX2_limitAt 8 = .ok (.iload_n 1, 1) := by decide +kernel
theorem dX2_limitAt_9 : decode cX2_limitAt 9 = .ok (.invokevirtual 80, 3) := by decide +kernel
theorem dX2_limitAt_12 : decode cX2_limitAt 12 = .ok (.ireturn, 1) := by decide +kernel
set_option maxRecDepth 20000 in
theorem ggX2_strainOn_X2_requireSide : GoodIn wsX2_strainOn wsX2_requireSide := goodIn_ca (goodIn_r _ [8, 9, 10, 11, 12, 7, 13] (by decide +kernel) (by decide +kernel)) (goodIn_sub (fun _ h => List.mem_cons_of_mem _ (List.mem_append_right _ h)) (by decide +kernel))
set_option maxRecDepth 20000 in
theorem gX2_strainOn_X2_requireSide : GoodIn wsX2_strainOn (va_wsS RX2 55 yX2_requireSide wsX2_requireSide) := goodIn_app (goodIn_of _ (by decide +kernel)) ggX2_strainOn_X2_requireSide
set_option maxRecDepth 20000 in
theorem ggX2_strainOn_X1_strain : GoodIn wsX2_strainOn wsX1_strain := goodIn_r _ [18, 19, 20, 21, 22, 17, 23, 24, 25, 26, 27, 37, 38, 39] (by decide +kernel) (by decide +kernel)
set_option maxRecDepth 20000 in
theorem gX2_strainOn_X1_strain : GoodIn wsX2_strainOn (wsV RX2 117 RX1 yX1_strain wsX1_strain) := goodIn_app (goodIn_of _ (by decide +kernel)) ggX2_strainOn_X1_strain
theorem dX2_strainOn_0 : decode cX2_strainOn 0 = .ok (.iload_n 1, 1) := by decide +kernel
theorem dX2_strainOn_1 : decode cX2_strainOn 1 = .ok (.invokestatic 55, 3) := by decide +kernel
theorem dX2_strainOn_4 : decode cX2_strainOn 4 = .ok (.aload_n 0, 1) := by decide +kernel
theorem dX2_strainOn_5 : decode cX2_strainOn 5 = .ok (.getfield 12, 3) := by decide +kernel
theorem dX2_strainOn_8 : decode cX2_strainOn 8 = .ok (.iload_n 1, 1) := by decide +kernel
theorem dX2_strainOn_9 : decode cX2_strainOn 9 = .ok (.aload_n 0, 1) := by decide +kernel
theorem dX2_strainOn_10 : decode cX2_strainOn 10 = .ok (.getfield 48, 3) := by decide +kernel
theorem dX2_strainOn_13 : decode cX2_strainOn 13 = .ok (.aload_n 0, 1) := by decide +kernel
theorem dX2_strainOn_14 : decode cX2_strainOn 14 = .ok (.getfield 98, 3) := by decide +kernel
theorem dX2_strainOn_17 : decode cX2_strainOn 17 = .ok (.aload_n 0, 1) := by decide +kernel
theorem dX2_strainOn_18 : decode cX2_strainOn 18 = .ok (.getfield 26, 3) := by decide +kernel
theorem dX2_strainOn_21 : decode cX2_strainOn 21 = .ok (.invokevirtual 117, 3) := by decide +kernel
theorem dX2_strainOn_24 : decode cX2_strainOn 24 = .ok (.ireturn, 1) := by decide +kernel
set_option maxRecDepth 20000 in
theorem ggX2_weakestSide_X1_strain : GoodIn wsX2_weakestSide wsX1_strain := goodIn_r _ [9, 10, 11, 12, 13, 8, 14, 15, 16, 17, 18, 28, 29, 30] (by decide +kernel) (by decide +kernel)
set_option maxRecDepth 20000 in
theorem gX2_weakestSide_X1_strain : GoodIn wsX2_weakestSide (wsV RX2 117 RX1 yX1_strain wsX1_strain) := goodIn_app (goodIn_of _ (by decide +kernel)) ggX2_weakestSide_X1_strain
theorem dX2_weakestSide_0 : decode cX2_weakestSide 0 = .ok (.iconst 0, 1) := by decide +kernel
theorem dX2_weakestSide_1 : decode cX2_weakestSide 1 = .ok (.istore_n 1, 1) := by decide +kernel
theorem dX2_weakestSide_2 : decode cX2_weakestSide 2 = .ok (.aload_n 0, 1) := by decide +kernel
theorem dX2_weakestSide_3 : decode cX2_weakestSide 3 = .ok (.getfield 12, 3) := by decide +kernel
theorem dX2_weakestSide_6 : decode cX2_weakestSide 6 = .ok (.iconst 0, 1) := by decide +kernel
theorem dX2_weakestSide_7 : decode cX2_weakestSide 7 = .ok (.aload_n 0, 1) := by decide +kernel
theorem dX2_weakestSide_8 : decode cX2_weakestSide 8 = .ok (.getfield 48, 3) := by decide +kernel
theorem dX2_weakestSide_11 : decode cX2_weakestSide 11 = .ok (.aload_n 0, 1) := by decide +kernel
theorem dX2_weakestSide_12 : decode cX2_weakestSide 12 = .ok (.getfield 98, 3) := by decide +kernel
theorem dX2_weakestSide_15 : decode cX2_weakestSide 15 = .ok (.aload_n 0, 1) := by decide +kernel
theorem dX2_weakestSide_16 : decode cX2_weakestSide 16 = .ok (.getfield 26, 3) := by decide +kernel
theorem dX2_weakestSide_19 : decode cX2_weakestSide 19 = .ok (.invokevirtual 117, 3) := by decide +kernel
theorem dX2_weakestSide_22 : decode cX2_weakestSide 22 = .ok (.istore_n 2, 1) := by decide +kernel
theorem dX2_weakestSide_23 : decode cX2_weakestSide 23 = .ok (.iconst 1, 1) := by decide +kernel
theorem dX2_weakestSide_24 : decode cX2_weakestSide 24 = .ok (.istore_n 3, 1) := by decide +kernel
theorem dX2_weakestSide_25 : decode cX2_weakestSide 25 = .ok (.iload_n 3, 1) := by decide +kernel
theorem dX2_weakestSide_26 : decode cX2_weakestSide 26 = .ok (.iconst 4, 1) := by decide +kernel
theorem dX2_weakestSide_27 : decode cX2_weakestSide 27 = .ok (.if_icmp .ge 42, 3) := by decide +kernel
theorem dX2_weakestSide_30 : decode cX2_weakestSide 30 = .ok (.aload_n 0, 1) := by decide +kernel
theorem dX2_weakestSide_31 : decode cX2_weakestSide 31 = .ok (.getfield 12, 3) := by decide +kernel
theorem dX2_weakestSide_34 : decode cX2_weakestSide 34 = .ok (.iload_n 3, 1) := by decide +kernel
theorem dX2_weakestSide_35 : decode cX2_weakestSide 35 = .ok (.aload_n 0, 1) := by decide +kernel
theorem dX2_weakestSide_36 : decode cX2_weakestSide 36 = .ok (.getfield 48, 3) := by decide +kernel
theorem dX2_weakestSide_39 : decode cX2_weakestSide 39 = .ok (.aload_n 0, 1) := by decide +kernel
theorem dX2_weakestSide_40 : decode cX2_weakestSide 40 = .ok (.getfield 98, 3) := by decide +kernel
theorem dX2_weakestSide_43 : decode cX2_weakestSide 43 = .ok (.aload_n 0, 1) := by decide +kernel
theorem dX2_weakestSide_44 : decode cX2_weakestSide 44 = .ok (.getfield 26, 3) := by decide +kernel
theorem dX2_weakestSide_47 : decode cX2_weakestSide 47 = .ok (.invokevirtual 117, 3) := by decide +kernel
theorem dX2_weakestSide_50 : decode cX2_weakestSide 50 = .ok (.istore 4, 2) := by decide +kernel
theorem dX2_weakestSide_52 : decode cX2_weakestSide 52 = .ok (.iload 4, 2) := by decide +kernel
theorem dX2_weakestSide_54 : decode cX2_weakestSide 54 = .ok (.iload_n 2, 1) := by decide +kernel
theorem dX2_weakestSide_55 : decode cX2_weakestSide 55 = .ok (.if_icmp .le 8, 3) := by decide +kernel
theorem dX2_weakestSide_58 : decode cX2_weakestSide 58 = .ok (.iload_n 3, 1) := by decide +kernel
theorem dX2_weakestSide_59 : decode cX2_weakestSide 59 = .ok (.istore_n 1, 1) := by decide +kernel
theorem dX2_weakestSide_60 : decode cX2_weakestSide 60 = .ok (.iload 4, 2) := by decide +kernel
theorem dX2_weakestSide_62 : decode cX2_weakestSide 62 = .ok (.istore_n 2, 1) := by decide +kernel
theorem dX2_weakestSide_63 : decode cX2_weakestSide 63 = .ok (.iinc 3 1, 3) := by decide +kernel
theorem dX2_weakestSide_66 : decode cX2_weakestSide 66 = .ok (.goto (-41), 3) := by decide +kernel
theorem dX2_weakestSide_69 : decode cX2_weakestSide 69 = .ok (.iload_n 1, 1) := by decide +kernel
theorem dX2_weakestSide_70 : decode cX2_weakestSide 70 = .ok (.ireturn, 1) := by decide +kernel
theorem dX2_lifts_0 : decode cX2_lifts 0 = .ok (.aload_n 0, 1) := by decide +kernel
theorem dX2_lifts_1 : decode cX2_lifts 1 = .ok (.getfield 85, 3) := by decide +kernel
theorem dX2_lifts_4 : decode cX2_lifts 4 = .ok (.ireturn, 1) := by decide +kernel
theorem dX2_tonsLifted_0 : decode cX2_tonsLifted 0 = .ok (.aload_n 0, 1) := by decide +kernel
theorem dX2_tonsLifted_1 : decode cX2_tonsLifted 1 = .ok (.getfield 88, 3) := by decide +kernel
theorem dX2_tonsLifted_4 : decode cX2_tonsLifted 4 = .ok (.ireturn, 1) := by decide +kernel
theorem dX2_movesWithLoad_0 : decode cX2_movesWithLoad 0 = .ok (.aload_n 0, 1) := by decide +kernel
theorem dX2_movesWithLoad_1 : decode cX2_movesWithLoad 1 = .ok (.getfield 121, 3) := by decide +kernel
theorem dX2_movesWithLoad_4 : decode cX2_movesWithLoad 4 = .ok (.ireturn, 1) := by decide +kernel
set_option maxRecDepth 20000 in
theorem ggX2_isSafeWith_X2_requireDirection : GoodIn wsX2_isSafeWith wsX2_requireDirection := goodIn_ca (goodIn_r _ [5, 6, 7, 8, 9, 4, 10] (by decide +kernel) (by decide +kernel)) (goodIn_sub (fun _ h => List.mem_cons_of_mem _ (List.mem_append_left _ (List.mem_append_right _ h))) (by decide +kernel))
set_option maxRecDepth 20000 in
theorem gX2_isSafeWith_X2_requireDirection : GoodIn wsX2_isSafeWith (va_wsS RX2 124 yX2_requireDirection wsX2_requireDirection) := goodIn_app (goodIn_of _ (by decide +kernel)) ggX2_isSafeWith_X2_requireDirection
set_option maxRecDepth 20000 in
theorem ggX2_isSafeWith_X2_requireLoad : GoodIn wsX2_isSafeWith wsX2_requireLoad := goodIn_ca (goodIn_r _ [13, 14, 15, 8, 9, 4, 10] (by decide +kernel) (by decide +kernel)) (goodIn_sub (fun _ h => List.mem_cons_of_mem _ (List.mem_append_right _ h)) (by decide +kernel))
set_option maxRecDepth 20000 in
theorem gX2_isSafeWith_X2_requireLoad : GoodIn wsX2_isSafeWith (va_wsS RX2 127 yX2_requireLoad wsX2_requireLoad) := goodIn_app (goodIn_of _ (by decide +kernel)) ggX2_isSafeWith_X2_requireLoad
set_option maxRecDepth 20000 in
theorem ggX2_isSafeWith_X2_requireReach : GoodIn wsX2_isSafeWith wsX2_requireReach := goodIn_ca (goodIn_r _ [18, 14, 15, 19, 20, 4, 21, 8, 9, 10] (by decide +kernel) (by decide +kernel)) (goodIn_sub (fun _ h => List.mem_cons_of_mem _ (List.mem_append_right _ h)) (by decide +kernel))
set_option maxRecDepth 20000 in
theorem gX2_isSafeWith_X2_requireReach : GoodIn wsX2_isSafeWith (va_wsS RX2 72 yX2_requireReach wsX2_requireReach) := goodIn_app (goodIn_of _ (by decide +kernel)) ggX2_isSafeWith_X2_requireReach
set_option maxRecDepth 20000 in
theorem ggX2_isSafeWith_X1_isSafe : GoodIn wsX2_isSafeWith wsX1_isSafe := goodIn_r _ [26, 27, 28, 29, 25, 30, 31, 32, 33, 34, 35, 36, 37, 38, 39, 40, 41, 42, 43, 44, 54, 55, 56] (by decide +kernel) (by decide +kernel)
set_option maxRecDepth 20000 in
theorem gX2_isSafeWith_X1_isSafe : GoodIn wsX2_isSafeWith (wsV RX2 105 RX1 yX1_isSafe wsX1_isSafe) := goodIn_app (goodIn_of _ (by decide +kernel)) ggX2_isSafeWith_X1_isSafe
theorem dX2_isSafeWith_0 : decode cX2_isSafeWith 0 = .ok (.iload_n 2, 1) := by decide +kernel
theorem dX2_isSafeWith_1 : decode cX2_isSafeWith 1 = .ok (.invokestatic 124, 3) := by decide +kernel
theorem dX2_isSafeWith_4 : decode cX2_isSafeWith 4 = .ok (.iload_n 1, 1) := by decide +kernel
theorem dX2_isSafeWith_5 : decode cX2_isSafeWith 5 = .ok (.invokestatic 127, 3) := by decide +kernel
theorem dX2_isSafeWith_8 : decode cX2_isSafeWith 8 = .ok (.iload_n 3, 1) := by decide +kernel
theorem dX2_isSafeWith_9 : decode cX2_isSafeWith 9 = .ok (.invokestatic 72, 3) := by decide +kernel
theorem dX2_isSafeWith_12 : decode cX2_isSafeWith 12 = .ok (.aload_n 0, 1) := by decide +kernel
theorem dX2_isSafeWith_13 : decode cX2_isSafeWith 13 = .ok (.getfield 12, 3) := by decide +kernel
theorem dX2_isSafeWith_16 : decode cX2_isSafeWith 16 = .ok (.iload_n 1, 1) := by decide +kernel
theorem dX2_isSafeWith_17 : decode cX2_isSafeWith 17 = .ok (.iload_n 2, 1) := by decide +kernel
theorem dX2_isSafeWith_18 : decode cX2_isSafeWith 18 = .ok (.iload_n 3, 1) := by decide +kernel
theorem dX2_isSafeWith_19 : decode cX2_isSafeWith 19 = .ok (.invokevirtual 105, 3) := by decide +kernel
theorem dX2_isSafeWith_22 : decode cX2_isSafeWith 22 = .ok (.ireturn, 1) := by decide +kernel
set_option maxRecDepth 20000 in
theorem ggX2_greatestLoad_X1_isSafe : GoodIn wsX2_greatestLoad wsX1_isSafe := goodIn_r _ [8, 9, 10, 11, 7, 12, 13, 14, 15, 16, 17, 18, 19, 20, 21, 22, 23, 24, 25, 26, 36, 37, 38] (by decide +kernel) (by decide +kernel)
set_option maxRecDepth 20000 in
theorem gX2_greatestLoad_X1_isSafe : GoodIn wsX2_greatestLoad (wsV RX2 105 RX1 yX1_isSafe wsX1_isSafe) := goodIn_app (goodIn_of _ (by decide +kernel)) ggX2_greatestLoad_X1_isSafe
theorem dX2_greatestLoad_0 : decode cX2_greatestLoad 0 = .ok (.bipush 60, 2) := by decide +kernel
theorem dX2_greatestLoad_2 : decode cX2_greatestLoad 2 = .ok (.istore_n 1, 1) := by decide +kernel
theorem dX2_greatestLoad_3 : decode cX2_greatestLoad 3 = .ok (.iload_n 1, 1) := by decide +kernel
theorem dX2_greatestLoad_4 : decode cX2_greatestLoad 4 = .ok (.ifCond .le 30, 3) := by decide +kernel
theorem dX2_greatestLoad_7 : decode cX2_greatestLoad 7 = .ok (.aload_n 0, 1) := by decide +kernel
theorem dX2_greatestLoad_8 : decode cX2_greatestLoad 8 = .ok (.getfield 12, 3) := by decide +kernel
theorem dX2_greatestLoad_11 : decode cX2_greatestLoad 11 = .ok (.iload_n 1, 1) := by decide +kernel
theorem dX2_greatestLoad_12 : decode cX2_greatestLoad 12 = .ok (.aload_n 0, 1) := by decide +kernel
theorem dX2_greatestLoad_13 : decode cX2_greatestLoad 13 = .ok (.getfield 98, 3) := by decide +kernel
theorem dX2_greatestLoad_16 : decode cX2_greatestLoad 16 = .ok (.aload_n 0, 1) := by decide +kernel
theorem dX2_greatestLoad_17 : decode cX2_greatestLoad 17 = .ok (.getfield 26, 3) := by decide +kernel
theorem dX2_greatestLoad_20 : decode cX2_greatestLoad 20 = .ok (.invokevirtual 105, 3) := by decide +kernel
theorem dX2_greatestLoad_23 : decode cX2_greatestLoad 23 = .ok (.ifCond .eq 5, 3) := by decide +kernel
theorem dX2_greatestLoad_26 : decode cX2_greatestLoad 26 = .ok (.iload_n 1, 1) := by decide +kernel
theorem dX2_greatestLoad_27 : decode cX2_greatestLoad 27 = .ok (.ireturn, 1) := by decide +kernel
theorem dX2_greatestLoad_28 : decode cX2_greatestLoad 28 = .ok (.iinc 1 (-1), 3) := by decide +kernel
theorem dX2_greatestLoad_31 : decode cX2_greatestLoad 31 = .ok (.goto (-28), 3) := by decide +kernel
theorem dX2_greatestLoad_34 : decode cX2_greatestLoad 34 = .ok (.iconst 0, 1) := by decide +kernel
theorem dX2_greatestLoad_35 : decode cX2_greatestLoad 35 = .ok (.ireturn, 1) := by decide +kernel
set_option maxRecDepth 20000 in
theorem ggX2_farthestReach_X2_requireDirection : GoodIn wsX2_farthestReach wsX2_requireDirection := goodIn_ca (goodIn_r _ [5, 6, 7, 8, 9, 4, 10] (by decide +kernel) (by decide +kernel)) (goodIn_sub (fun _ h => List.mem_cons_of_mem _ (List.mem_append_left _ (List.mem_append_right _ h))) (by decide +kernel))
set_option maxRecDepth 20000 in
theorem gX2_farthestReach_X2_requireDirection : GoodIn wsX2_farthestReach (va_wsS RX2 124 yX2_requireDirection wsX2_requireDirection) := goodIn_app (goodIn_of _ (by decide +kernel)) ggX2_farthestReach_X2_requireDirection
set_option maxRecDepth 20000 in
theorem ggX2_farthestReach_X2_requireLoad : GoodIn wsX2_farthestReach wsX2_requireLoad := goodIn_ca (goodIn_r _ [13, 14, 15, 8, 9, 4, 10] (by decide +kernel) (by decide +kernel)) (goodIn_sub (fun _ h => List.mem_cons_of_mem _ (List.mem_append_right _ h)) (by decide +kernel))
set_option maxRecDepth 20000 in
theorem gX2_farthestReach_X2_requireLoad : GoodIn wsX2_farthestReach (va_wsS RX2 127 yX2_requireLoad wsX2_requireLoad) := goodIn_app (goodIn_of _ (by decide +kernel)) ggX2_farthestReach_X2_requireLoad
set_option maxRecDepth 20000 in
theorem ggX2_farthestReach_X1_isSafe : GoodIn wsX2_farthestReach wsX1_isSafe := goodIn_r _ [20, 21, 22, 23, 19, 24, 25, 26, 27, 28, 29, 30, 31, 32, 33, 34, 35, 36, 37, 38, 48, 49, 50] (by decide +kernel) (by decide +kernel)
set_option maxRecDepth 20000 in
theorem gX2_farthestReach_X1_isSafe : GoodIn wsX2_farthestReach (wsV RX2 105 RX1 yX1_isSafe wsX1_isSafe) := goodIn_app (goodIn_of _ (by decide +kernel)) ggX2_farthestReach_X1_isSafe
theorem dX2_farthestReach_0 : decode cX2_farthestReach 0 = .ok (.iload_n 2, 1) := by decide +kernel
theorem dX2_farthestReach_1 : decode cX2_farthestReach 1 = .ok (.invokestatic 124, 3) := by decide +kernel
theorem dX2_farthestReach_4 : decode cX2_farthestReach 4 = .ok (.iload_n 1, 1) := by decide +kernel
theorem dX2_farthestReach_5 : decode cX2_farthestReach 5 = .ok (.invokestatic 127, 3) := by decide +kernel
theorem dX2_farthestReach_8 : decode cX2_farthestReach 8 = .ok (.iconst (-1), 1) := by decide +kernel
theorem dX2_farthestReach_9 : decode cX2_farthestReach 9 = .ok (.istore_n 3, 1) := by decide +kernel
theorem dX2_farthestReach_10 : decode cX2_farthestReach 10 = .ok (.iconst 3, 1) := by decide +kernel
theorem dX2_farthestReach_11 : decode cX2_farthestReach 11 = .ok (.istore 4, 2) := by decide +kernel
theorem dX2_farthestReach_13 : decode cX2_farthestReach 13 = .ok (.iload 4, 2) := by decide +kernel
theorem dX2_farthestReach_15 : decode cX2_farthestReach 15 = .ok (.bipush 30, 2) := by decide +kernel
theorem dX2_farthestReach_17 : decode cX2_farthestReach 17 = .ok (.if_icmp .gt 26, 3) := by decide +kernel
theorem dX2_farthestReach_20 : decode cX2_farthestReach 20 = .ok (.aload_n 0, 1) := by decide +kernel
theorem dX2_farthestReach_21 : decode cX2_farthestReach 21 = .ok (.getfield 12, 3) := by decide +kernel
theorem dX2_farthestReach_24 : decode cX2_farthestReach 24 = .ok (.iload_n 1, 1) := by decide +kernel
theorem dX2_farthestReach_25 : decode cX2_farthestReach 25 = .ok (.iload_n 2, 1) := by decide +kernel
theorem dX2_farthestReach_26 : decode cX2_farthestReach 26 = .ok (.iload 4, 2) := by decide +kernel
theorem dX2_farthestReach_28 : decode cX2_farthestReach 28 = .ok (.invokevirtual 105, 3) := by decide +kernel
theorem dX2_farthestReach_31 : decode cX2_farthestReach 31 = .ok (.ifCond .eq 12, 3) := by decide +kernel
theorem dX2_farthestReach_34 : decode cX2_farthestReach 34 = .ok (.iload 4, 2) := by decide +kernel
theorem dX2_farthestReach_36 : decode cX2_farthestReach 36 = .ok (.istore_n 3, 1) := by decide +kernel
theorem dX2_farthestReach_37 : decode cX2_farthestReach 37 = .ok (.iinc 4 1, 3) := by decide +kernel
theorem dX2_farthestReach_40 : decode cX2_farthestReach 40 = .ok (.goto (-27), 3) := by decide +kernel
theorem dX2_farthestReach_43 : decode cX2_farthestReach 43 = .ok (.iload_n 3, 1) := by decide +kernel
theorem dX2_farthestReach_44 : decode cX2_farthestReach 44 = .ok (.ireturn, 1) := by decide +kernel
set_option maxRecDepth 20000 in
theorem ggX2_safeDirections_X2_requireLoad : GoodIn wsX2_safeDirections wsX2_requireLoad := goodIn_ca (goodIn_r _ [5, 6, 7, 8, 9, 4, 10] (by decide +kernel) (by decide +kernel)) (goodIn_sub (fun _ h => List.mem_cons_of_mem _ (List.mem_append_right _ h)) (by decide +kernel))
set_option maxRecDepth 20000 in
theorem gX2_safeDirections_X2_requireLoad : GoodIn wsX2_safeDirections (va_wsS RX2 127 yX2_requireLoad wsX2_requireLoad) := goodIn_app (goodIn_of _ (by decide +kernel)) ggX2_safeDirections_X2_requireLoad
set_option maxRecDepth 20000 in
theorem ggX2_safeDirections_X2_requireReach : GoodIn wsX2_safeDirections wsX2_requireReach := goodIn_ca (goodIn_r _ [13, 6, 7, 14, 15, 4, 16, 8, 9, 10] (by decide +kernel) (by decide +kernel)) (goodIn_sub (fun _ h => List.mem_cons_of_mem _ (List.mem_append_right _ h)) (by decide +kernel))
set_option maxRecDepth 20000 in
theorem gX2_safeDirections_X2_requireReach : GoodIn wsX2_safeDirections (va_wsS RX2 72 yX2_requireReach wsX2_requireReach) := goodIn_app (goodIn_of _ (by decide +kernel)) ggX2_safeDirections_X2_requireReach
set_option maxRecDepth 20000 in
theorem ggX2_safeDirections_X1_isSafe : GoodIn wsX2_safeDirections wsX1_isSafe := goodIn_r _ [21, 22, 23, 24, 20, 25, 26, 27, 28, 29, 30, 31, 32, 33, 34, 35, 36, 37, 38, 39, 49, 50, 51] (by decide +kernel) (by decide +kernel)
set_option maxRecDepth 20000 in
theorem gX2_safeDirections_X1_isSafe : GoodIn wsX2_safeDirections (wsV RX2 105 RX1 yX1_isSafe wsX1_isSafe) := goodIn_app (goodIn_of _ (by decide +kernel)) ggX2_safeDirections_X1_isSafe
theorem dX2_safeDirections_0 : decode cX2_safeDirections 0 = .ok (.iload_n 1, 1) := by decide +kernel
theorem dX2_safeDirections_1 : decode cX2_safeDirections 1 = .ok (.invokestatic 127, 3) := by decide +kernel
theorem dX2_safeDirections_4 : decode cX2_safeDirections 4 = .ok (.iload_n 2, 1) := by decide +kernel
theorem dX2_safeDirections_5 : decode cX2_safeDirections 5 = .ok (.invokestatic 72, 3) := by decide +kernel
theorem dX2_safeDirections_8 : decode cX2_safeDirections 8 = .ok (.iconst 0, 1) := by decide +kernel
theorem dX2_safeDirections_9 : decode cX2_safeDirections 9 = .ok (.istore_n 3, 1) := by decide +kernel
theorem dX2_safeDirections_10 : decode cX2_safeDirections 10 = .ok (.iconst 0, 1) := by decide +kernel
theorem dX2_safeDirections_11 : decode cX2_safeDirections 11 = .ok (.istore 4, 2) := by decide +kernel
theorem dX2_safeDirections_13 : decode cX2_safeDirections 13 = .ok (.iload 4, 2) := by decide +kernel
theorem dX2_safeDirections_15 : decode cX2_safeDirections 15 = .ok (.bipush 8, 2) := by decide +kernel
theorem dX2_safeDirections_17 : decode cX2_safeDirections 17 = .ok (.if_icmp .ge 26, 3) := by decide +kernel
theorem dX2_safeDirections_20 : decode cX2_safeDirections 20 = .ok (.aload_n 0, 1) := by decide +kernel
theorem dX2_safeDirections_21 : decode cX2_safeDirections 21 = .ok (.getfield 12, 3) := by decide +kernel
theorem dX2_safeDirections_24 : decode cX2_safeDirections 24 = .ok (.iload_n 1, 1) := by decide +kernel
theorem dX2_safeDirections_25 : decode cX2_safeDirections 25 = .ok (.iload 4, 2) := by decide +kernel
theorem dX2_safeDirections_27 : decode cX2_safeDirections 27 = .ok (.iload_n 2, 1) := by decide +kernel
theorem dX2_safeDirections_28 : decode cX2_safeDirections 28 = .ok (.invokevirtual 105, 3) := by decide +kernel
theorem dX2_safeDirections_31 : decode cX2_safeDirections 31 = .ok (.ifCond .eq 6, 3) := by decide +kernel
theorem dX2_safeDirections_34 : decode cX2_safeDirections 34 = .ok (.iinc 3 1, 3) := by decide +kernel
theorem dX2_safeDirections_37 : decode cX2_safeDirections 37 = .ok (.iinc 4 1, 3) := by decide +kernel
theorem dX2_safeDirections_40 : decode cX2_safeDirections 40 = .ok (.goto (-27), 3) := by decide +kernel
theorem dX2_safeDirections_43 : decode cX2_safeDirections 43 = .ok (.iload_n 3, 1) := by decide +kernel
theorem dX2_safeDirections_44 : decode cX2_safeDirections 44 = .ok (.ireturn, 1) := by decide +kernel
set_option maxRecDepth 20000 in
theorem ggX2_platesNeeded_X2_requireDirection : GoodIn wsX2_platesNeeded wsX2_requireDirection := goodIn_ca (goodIn_r _ [7, 8, 9, 10, 11, 6, 12] (by decide +kernel) (by decide +kernel)) (goodIn_sub (fun _ h => List.mem_cons_of_mem _ (List.mem_append_left _ (List.mem_append_right _ h))) (by decide +kernel))
set_option maxRecDepth 20000 in
theorem gX2_platesNeeded_X2_requireDirection : GoodIn wsX2_platesNeeded (va_wsS RX2 124 yX2_requireDirection wsX2_requireDirection) := goodIn_app (goodIn_of _ (by decide +kernel)) ggX2_platesNeeded_X2_requireDirection
set_option maxRecDepth 20000 in
theorem ggX2_platesNeeded_X2_requireLoad : GoodIn wsX2_platesNeeded wsX2_requireLoad := goodIn_ca (goodIn_r _ [15, 16, 17, 10, 11, 6, 12] (by decide +kernel) (by decide +kernel)) (goodIn_sub (fun _ h => List.mem_cons_of_mem _ (List.mem_append_right _ h)) (by decide +kernel))
set_option maxRecDepth 20000 in
theorem gX2_platesNeeded_X2_requireLoad : GoodIn wsX2_platesNeeded (va_wsS RX2 127 yX2_requireLoad wsX2_requireLoad) := goodIn_app (goodIn_of _ (by decide +kernel)) ggX2_platesNeeded_X2_requireLoad
set_option maxRecDepth 20000 in
theorem ggX2_platesNeeded_X2_requireReach : GoodIn wsX2_platesNeeded wsX2_requireReach := goodIn_ca (goodIn_r _ [20, 16, 17, 21, 22, 6, 23, 10, 11, 12] (by decide +kernel) (by decide +kernel)) (goodIn_sub (fun _ h => List.mem_cons_of_mem _ (List.mem_append_right _ h)) (by decide +kernel))
set_option maxRecDepth 20000 in
theorem gX2_platesNeeded_X2_requireReach : GoodIn wsX2_platesNeeded (va_wsS RX2 72 yX2_requireReach wsX2_requireReach) := goodIn_app (goodIn_of _ (by decide +kernel)) ggX2_platesNeeded_X2_requireReach
set_option maxRecDepth 20000 in
theorem ggX2_platesNeeded_X1_becomeLike : GoodIn wsX2_platesNeeded wsX1_becomeLike := goodIn_r _ [28, 29, 30, 31, 32, 27, 33, 34, 35, 36, 37, 38, 39, 40, 41, 42, 43, 44, 45, 46, 47, 68, 69, 70] (by decide +kernel) (by decide +kernel)
set_option maxRecDepth 20000 in
theorem gX2_platesNeeded_X1_becomeLike : GoodIn wsX2_platesNeeded (wsV RX2 41 RX1 yX1_becomeLike wsX1_becomeLike) := goodIn_app (goodIn_of _ (by decide +kernel)) ggX2_platesNeeded_X1_becomeLike
set_option maxRecDepth 20000 in
theorem ggX2_platesNeeded_X1_isSafe : GoodIn wsX2_platesNeeded wsX1_isSafe := goodIn_r _ [51, 39, 40, 41, 27, 42, 43, 52, 53, 54, 55, 29, 30, 31, 32, 33, 34, 56, 57, 58, 68, 69, 70] (by decide +kernel) (by decide +kernel)
set_option maxRecDepth 20000 in
theorem gX2_platesNeeded_X1_isSafe : GoodIn wsX2_platesNeeded (wsV RX2 105 RX1 yX1_isSafe wsX1_isSafe) := goodIn_app (goodIn_of _ (by decide +kernel)) ggX2_platesNeeded_X1_isSafe
theorem dX2_platesNeeded_0 : decode cX2_platesNeeded 0 = .ok (.iload_n 2, 1) := by decide +kernel
theorem dX2_platesNeeded_1 : decode cX2_platesNeeded 1 = .ok (.invokestatic 124, 3) := by decide +kernel
theorem dX2_platesNeeded_4 : decode cX2_platesNeeded 4 = .ok (.iload_n 1, 1) := by decide +kernel
theorem dX2_platesNeeded_5 : decode cX2_platesNeeded 5 = .ok (.invokestatic 127, 3) := by decide +kernel
theorem dX2_platesNeeded_8 : decode cX2_platesNeeded 8 = .ok (.iload_n 3, 1) := by decide +kernel
theorem dX2_platesNeeded_9 : decode cX2_platesNeeded 9 = .ok (.invokestatic 72, 3) := by decide +kernel
theorem dX2_platesNeeded_12 : decode cX2_platesNeeded 12 = .ok (.aload_n 0, 1) := by decide +kernel
theorem dX2_platesNeeded_13 : decode cX2_platesNeeded 13 = .ok (.getfield 16, 3) := by decide +kernel
theorem dX2_platesNeeded_16 : decode cX2_platesNeeded 16 = .ok (.aload_n 0, 1) := by decide +kernel
theorem dX2_platesNeeded_17 : decode cX2_platesNeeded 17 = .ok (.getfield 12, 3) := by decide +kernel
theorem dX2_platesNeeded_20 : decode cX2_platesNeeded 20 = .ok (.invokevirtual 41, 3) := by decide +kernel
theorem dX2_platesNeeded_23 : decode cX2_platesNeeded 23 = .ok (.iconst 0, 1) := by decide +kernel
theorem dX2_platesNeeded_24 : decode cX2_platesNeeded 24 = .ok (.istore 4, 2) := by decide +kernel
theorem dX2_platesNeeded_26 : decode cX2_platesNeeded 26 = .ok (.iload 4, 2) := by decide +kernel
theorem dX2_platesNeeded_28 : decode cX2_platesNeeded 28 = .ok (.bipush 12, 2) := by decide +kernel
theorem dX2_platesNeeded_30 : decode cX2_platesNeeded 30 = .ok (.if_icmp .gt 34, 3) := by decide +kernel
theorem dX2_platesNeeded_33 : decode cX2_platesNeeded 33 = .ok (.aload_n 0, 1) := by decide +kernel
theorem dX2_platesNeeded_34 : decode cX2_platesNeeded 34 = .ok (.getfield 16, 3) := by decide +kernel
theorem dX2_platesNeeded_37 : decode cX2_platesNeeded 37 = .ok (.iload 4, 2) := by decide +kernel
theorem dX2_platesNeeded_39 : decode cX2_platesNeeded 39 = .ok (.putfield 45, 3) := by decide +kernel
theorem dX2_platesNeeded_42 : decode cX2_platesNeeded 42 = .ok (.aload_n 0, 1) := by decide +kernel
theorem dX2_platesNeeded_43 : decode cX2_platesNeeded 43 = .ok (.getfield 16, 3) := by decide +kernel
theorem dX2_platesNeeded_46 : decode cX2_platesNeeded 46 = .ok (.iload_n 1, 1) := by decide +kernel
theorem dX2_platesNeeded_47 : decode cX2_platesNeeded 47 = .ok (.iload_n 2, 1) := by decide +kernel
theorem dX2_platesNeeded_48 : decode cX2_platesNeeded 48 = .ok (.iload_n 3, 1) := by decide +kernel
theorem dX2_platesNeeded_49 : decode cX2_platesNeeded 49 = .ok (.invokevirtual 105, 3) := by decide +kernel
theorem dX2_platesNeeded_52 : decode cX2_platesNeeded 52 = .ok (.ifCond .eq 6, 3) := by decide +kernel
theorem dX2_platesNeeded_55 : decode cX2_platesNeeded 55 = .ok (.iload 4, 2) := by decide +kernel
theorem dX2_platesNeeded_57 : decode cX2_platesNeeded 57 = .ok (.ireturn, 1) := by decide +kernel
theorem dX2_platesNeeded_58 : decode cX2_platesNeeded 58 = .ok (.iinc 4 1, 3) := by decide +kernel
theorem dX2_platesNeeded_61 : decode cX2_platesNeeded 61 = .ok (.goto (-35), 3) := by decide +kernel
theorem dX2_platesNeeded_64 : decode cX2_platesNeeded 64 = .ok (.iconst (-1), 1) := by decide +kernel
theorem dX2_platesNeeded_65 : decode cX2_platesNeeded 65 = .ok (.ireturn, 1) := by decide +kernel
set_option maxRecDepth 20000 in
theorem ggX2_fewestMoves_X2_requireDirection : GoodIn wsX2_fewestMoves wsX2_requireDirection := goodIn_ca (goodIn_r _ [8, 9, 10, 11, 12, 7, 13] (by decide +kernel) (by decide +kernel)) (goodIn_sub (fun _ h => List.mem_cons_of_mem _ (List.mem_append_left _ (List.mem_append_right _ h))) (by decide +kernel))
set_option maxRecDepth 20000 in
theorem gX2_fewestMoves_X2_requireDirection : GoodIn wsX2_fewestMoves (va_wsS RX2 124 yX2_requireDirection wsX2_requireDirection) := goodIn_app (goodIn_of _ (by decide +kernel)) ggX2_fewestMoves_X2_requireDirection
set_option maxRecDepth 20000 in
theorem ggX2_fewestMoves_X2_requireLoad : GoodIn wsX2_fewestMoves wsX2_requireLoad := goodIn_ca (goodIn_r _ [16, 17, 18, 11, 12, 7, 13] (by decide +kernel) (by decide +kernel)) (goodIn_sub (fun _ h => List.mem_cons_of_mem _ (List.mem_append_right _ h)) (by decide +kernel))
set_option maxRecDepth 20000 in
theorem gX2_fewestMoves_X2_requireLoad : GoodIn wsX2_fewestMoves (va_wsS RX2 127 yX2_requireLoad wsX2_requireLoad) := goodIn_app (goodIn_of _ (by decide +kernel)) ggX2_fewestMoves_X2_requireLoad
set_option maxRecDepth 20000 in
theorem ggX2_fewestMoves_X2_requireReach : GoodIn wsX2_fewestMoves wsX2_requireReach := goodIn_ca (goodIn_r _ [21, 17, 18, 22, 23, 7, 24, 11, 12, 13] (by decide +kernel) (by decide +kernel)) (goodIn_sub (fun _ h => List.mem_cons_of_mem _ (List.mem_append_right _ h)) (by decide +kernel))
set_option maxRecDepth 20000 in
theorem gX2_fewestMoves_X2_requireReach : GoodIn wsX2_fewestMoves (va_wsS RX2 72 yX2_requireReach wsX2_requireReach) := goodIn_app (goodIn_of _ (by decide +kernel)) ggX2_fewestMoves_X2_requireReach
set_option maxRecDepth 20000 in
theorem ggX2_fewestMoves_X0_spread : GoodIn wsX2_fewestMoves wsX0_spread := goodIn_r _ [29, 30, 31, 32, 33, 34, 35, 28, 36, 37, 38, 39, 23, 7, 24, 11, 12, 13, 40, 41, 42, 43, 44, 45, 46, 47, 48, 49, 50, 51, 52, 53, 54, 55, 56, 57, 58, 59, 60, 61, 62, 63, 64, 65, 66, 67, 68, 82, 83, 84, 85, 86, 87] (by decide +kernel) (by decide +kernel)
set_option maxRecDepth 20000 in
theorem gX2_fewestMoves_X0_spread : GoodIn wsX2_fewestMoves (wsV RX2 130 RX0 yX0_spread wsX0_spread) := goodIn_app (goodIn_of _ (by decide +kernel)) ggX2_fewestMoves_X0_spread
set_option maxRecDepth 20000 in
theorem ggX2_fewestMoves_X0_movesTo : GoodIn wsX2_fewestMoves wsX0_movesTo := goodIn_r _ [72, 31, 37, 38, 28, 39, 23, 7, 24, 11, 12, 13, 82, 83, 84] (by decide +kernel) (by decide +kernel)
set_option maxRecDepth 20000 in
theorem gX2_fewestMoves_X0_movesTo : GoodIn wsX2_fewestMoves (wsV RX2 134 RX0 yX0_movesTo wsX0_movesTo) := goodIn_app (goodIn_of _ (by decide +kernel)) ggX2_fewestMoves_X0_movesTo
theorem dX2_fewestMoves_0 : decode cX2_fewestMoves 0 = .ok (.iload_n 2, 1) := by decide +kernel
theorem dX2_fewestMoves_1 : decode cX2_fewestMoves 1 = .ok (.invokestatic 124, 3) := by decide +kernel
theorem dX2_fewestMoves_4 : decode cX2_fewestMoves 4 = .ok (.iload_n 1, 1) := by decide +kernel
theorem dX2_fewestMoves_5 : decode cX2_fewestMoves 5 = .ok (.invokestatic 127, 3) := by decide +kernel
theorem dX2_fewestMoves_8 : decode cX2_fewestMoves 8 = .ok (.iload_n 3, 1) := by decide +kernel
theorem dX2_fewestMoves_9 : decode cX2_fewestMoves 9 = .ok (.invokestatic 72, 3) := by decide +kernel
theorem dX2_fewestMoves_12 : decode cX2_fewestMoves 12 = .ok (.aload_n 0, 1) := by decide +kernel
theorem dX2_fewestMoves_13 : decode cX2_fewestMoves 13 = .ok (.getfield 22, 3) := by decide +kernel
theorem dX2_fewestMoves_16 : decode cX2_fewestMoves 16 = .ok (.aload_n 0, 1) := by decide +kernel
theorem dX2_fewestMoves_17 : decode cX2_fewestMoves 17 = .ok (.getfield 12, 3) := by decide +kernel
theorem dX2_fewestMoves_20 : decode cX2_fewestMoves 20 = .ok (.iload_n 1, 1) := by decide +kernel
theorem dX2_fewestMoves_21 : decode cX2_fewestMoves 21 = .ok (.aload_n 0, 1) := by decide +kernel
theorem dX2_fewestMoves_22 : decode cX2_fewestMoves 22 = .ok (.getfield 98, 3) := by decide +kernel
theorem dX2_fewestMoves_25 : decode cX2_fewestMoves 25 = .ok (.aload_n 0, 1) := by decide +kernel
theorem dX2_fewestMoves_26 : decode cX2_fewestMoves 26 = .ok (.getfield 26, 3) := by decide +kernel
theorem dX2_fewestMoves_29 : decode cX2_fewestMoves 29 = .ok (.invokevirtual 130, 3) := by decide +kernel
theorem dX2_fewestMoves_32 : decode cX2_fewestMoves 32 = .ok (.pop, 1) := by decide +kernel
theorem dX2_fewestMoves_33 : decode cX2_fewestMoves 33 = .ok (.aload_n 0, 1) := by decide +kernel
theorem dX2_fewestMoves_34 : decode cX2_fewestMoves 34 = .ok (.getfield 22, 3) := by decide +kernel
theorem dX2_fewestMoves_37 : decode cX2_fewestMoves 37 = .ok (.iload_n 2, 1) := by decide +kernel
theorem dX2_fewestMoves_38 : decode cX2_fewestMoves 38 = .ok (.iload_n 3, 1) := by decide +kernel
theorem dX2_fewestMoves_39 : decode cX2_fewestMoves 39 = .ok (.invokevirtual 134, 3) := by decide +kernel
theorem dX2_fewestMoves_42 : decode cX2_fewestMoves 42 = .ok (.ireturn, 1) := by decide +kernel
set_option maxRecDepth 20000 in
theorem ggX2_placesWithin_X2_requireLoad : GoodIn wsX2_placesWithin wsX2_requireLoad := goodIn_ca (goodIn_r _ [8, 9, 10, 11, 12, 7, 13] (by decide +kernel) (by decide +kernel)) (goodIn_sub (fun _ h => List.mem_cons_of_mem _ (List.mem_append_right _ h)) (by decide +kernel))
set_option maxRecDepth 20000 in
theorem gX2_placesWithin_X2_requireLoad : GoodIn wsX2_placesWithin (va_wsS RX2 127 yX2_requireLoad wsX2_requireLoad) := goodIn_app (goodIn_of _ (by decide +kernel)) ggX2_placesWithin_X2_requireLoad
set_option maxRecDepth 20000 in
theorem ggX2_placesWithin_X0_spread : GoodIn wsX2_placesWithin wsX0_spread := goodIn_r _ [18, 19, 20, 21, 22, 23, 24, 17, 25, 26, 27, 28, 29, 7, 30, 11, 12, 13, 31, 32, 33, 34, 35, 36, 37, 38, 39, 40, 41, 42, 43, 44, 45, 46, 47, 48, 49, 50, 51, 52, 53, 54, 55, 56, 57, 58, 59, 69, 70, 71, 72, 73, 74] (by decide +kernel) (by decide +kernel)
set_option maxRecDepth 20000 in
theorem gX2_placesWithin_X0_spread : GoodIn wsX2_placesWithin (wsV RX2 130 RX0 yX0_spread wsX0_spread) := goodIn_app (goodIn_of _ (by decide +kernel)) ggX2_placesWithin_X0_spread
theorem dX2_placesWithin_0 : decode cX2_placesWithin 0 = .ok (.iload_n 1, 1) := by decide +kernel
theorem dX2_placesWithin_1 : decode cX2_placesWithin 1 = .ok (.invokestatic 127, 3) := by decide +kernel
theorem dX2_placesWithin_4 : decode cX2_placesWithin 4 = .ok (.aload_n 0, 1) := by decide +kernel
theorem dX2_placesWithin_5 : decode cX2_placesWithin 5 = .ok (.getfield 22, 3) := by decide +kernel
theorem dX2_placesWithin_8 : decode cX2_placesWithin 8 = .ok (.aload_n 0, 1) := by decide +kernel
theorem dX2_placesWithin_9 : decode cX2_placesWithin 9 = .ok (.getfield 12, 3) := by decide +kernel
theorem dX2_placesWithin_12 : decode cX2_placesWithin 12 = .ok (.iload_n 1, 1) := by decide +kernel
theorem dX2_placesWithin_13 : decode cX2_placesWithin 13 = .ok (.aload_n 0, 1) := by decide +kernel
theorem dX2_placesWithin_14 : decode cX2_placesWithin 14 = .ok (.getfield 98, 3) := by decide +kernel
theorem dX2_placesWithin_17 : decode cX2_placesWithin 17 = .ok (.aload_n 0, 1) := by decide +kernel
theorem dX2_placesWithin_18 : decode cX2_placesWithin 18 = .ok (.getfield 26, 3) := by decide +kernel
theorem dX2_placesWithin_21 : decode cX2_placesWithin 21 = .ok (.invokevirtual 130, 3) := by decide +kernel
theorem dX2_placesWithin_24 : decode cX2_placesWithin 24 = .ok (.ireturn, 1) := by decide +kernel
set_option maxRecDepth 20000 in
theorem ggX2_bestOutrigger_X2_requireLoad : GoodIn wsX2_bestOutrigger wsX2_requireLoad := goodIn_ca (goodIn_r _ [9, 10, 11, 12, 13, 8, 14] (by decide +kernel) (by decide +kernel)) (goodIn_sub (fun _ h => List.mem_cons_of_mem _ (List.mem_append_right _ h)) (by decide +kernel))
set_option maxRecDepth 20000 in
theorem gX2_bestOutrigger_X2_requireLoad : GoodIn wsX2_bestOutrigger (va_wsS RX2 127 yX2_requireLoad wsX2_requireLoad) := goodIn_app (goodIn_of _ (by decide +kernel)) ggX2_bestOutrigger_X2_requireLoad
set_option maxRecDepth 20000 in
theorem ggX2_bestOutrigger_X1_drawn : GoodIn wsX2_bestOutrigger wsX1_drawn := goodIn_r _ [19, 20, 84, 85, 86] (by decide +kernel) (by decide +kernel)
set_option maxRecDepth 20000 in
theorem gX2_bestOutrigger_X1_drawn : GoodIn wsX2_bestOutrigger (wsV RX2 68 RX1 yX1_drawn wsX1_drawn) := goodIn_app (goodIn_of _ (by decide +kernel)) ggX2_bestOutrigger_X1_drawn
set_option maxRecDepth 20000 in
theorem ggX2_bestOutrigger_X1_becomeLike : GoodIn wsX2_bestOutrigger wsX1_becomeLike := goodIn_r _ [24, 25, 26, 16, 17, 18, 19, 20, 27, 28, 29, 30, 31, 32, 33, 34, 35, 36, 37, 38, 39, 84, 85, 86] (by decide +kernel) (by decide +kernel)
set_option maxRecDepth 20000 in
theorem gX2_bestOutrigger_X1_becomeLike : GoodIn wsX2_bestOutrigger (wsV RX2 41 RX1 yX1_becomeLike wsX1_becomeLike) := goodIn_app (goodIn_of _ (by decide +kernel)) ggX2_bestOutrigger_X1_becomeLike
set_option maxRecDepth 20000 in
theorem ggX2_bestOutrigger_X1_draw : GoodIn wsX2_bestOutrigger wsX1_draw := goodIn_r _ [30, 20, 84, 85, 86] (by decide +kernel) (by decide +kernel)
set_option maxRecDepth 20000 in
theorem gX2_bestOutrigger_X1_draw : GoodIn wsX2_bestOutrigger (wsV RX2 64 RX1 yX1_draw wsX1_draw) := goodIn_app (goodIn_of _ (by decide +kernel)) ggX2_bestOutrigger_X1_draw
set_option maxRecDepth 20000 in
theorem ggX2_bestOutrigger_X0_spread : GoodIn wsX2_bestOutrigger wsX0_spread := goodIn_r _ [45, 46, 47, 48, 49, 50, 51, 44, 52, 53, 54, 55, 56, 8, 57, 12, 13, 14, 58, 59, 60, 18, 61, 31, 32, 33, 34, 35, 62, 63, 64, 65, 25, 26, 16, 17, 19, 20, 66, 67, 68, 69, 70, 71, 72, 73, 74, 87, 88, 89, 84, 85, 86] (by decide +kernel) (by decide +kernel)
set_option maxRecDepth 20000 in
theorem gX2_bestOutrigger_X0_spread : GoodIn wsX2_bestOutrigger (wsV RX2 130 RX0 yX0_spread wsX0_spread) := goodIn_app (goodIn_of _ (by decide +kernel)) ggX2_bestOutrigger_X0_spread
theorem dX2_bestOutrigger_0 : decode cX2_bestOutrigger 0 = .ok (.iload_n 1, 1) := by decide +kernel
theorem dX2_bestOutrigger_1 : decode cX2_bestOutrigger 1 = .ok (.invokestatic 127, 3) := by decide +kernel
theorem dX2_bestOutrigger_4 : decode cX2_bestOutrigger 4 = .ok (.iconst (-1), 1) := by decide +kernel
theorem dX2_bestOutrigger_5 : decode cX2_bestOutrigger 5 = .ok (.istore_n 2, 1) := by decide +kernel
theorem dX2_bestOutrigger_6 : decode cX2_bestOutrigger 6 = .ok (.iconst (-1), 1) := by decide +kernel
theorem dX2_bestOutrigger_7 : decode cX2_bestOutrigger 7 = .ok (.istore_n 3, 1) := by decide +kernel
theorem dX2_bestOutrigger_8 : decode cX2_bestOutrigger 8 = .ok (.iconst 0, 1) := by decide +kernel
theorem dX2_bestOutrigger_9 : decode cX2_bestOutrigger 9 = .ok (.istore 4, 2) := by decide +kernel
theorem dX2_bestOutrigger_11 : decode cX2_bestOutrigger 11 = .ok (.iload 4, 2) := by decide +kernel
theorem dX2_bestOutrigger_13 : decode cX2_bestOutrigger 13 = .ok (.iconst 4, 1) := by decide +kernel
theorem dX2_bestOutrigger_14 : decode cX2_bestOutrigger 14 = .ok (.if_icmp .ge 85, 3) := by decide +kernel
theorem dX2_bestOutrigger_17 : decode cX2_bestOutrigger 17 = .ok (.aload_n 0, 1) := by decide +kernel
theorem dX2_bestOutrigger_18 : decode cX2_bestOutrigger 18 = .ok (.getfield 12, 3) := by decide +kernel
theorem dX2_bestOutrigger_21 : decode cX2_bestOutrigger 21 = .ok (.iload 4, 2) := by decide +kernel
theorem dX2_bestOutrigger_23 : decode cX2_bestOutrigger 23 = .ok (.invokevirtual 68, 3) := by decide +kernel
theorem dX2_bestOutrigger_26 : decode cX2_bestOutrigger 26 = .ok (.istore 5, 2) := by decide +kernel
theorem dX2_bestOutrigger_28 : decode cX2_bestOutrigger 28 = .ok (.iload 5, 2) := by decide +kernel
theorem dX2_bestOutrigger_30 : decode cX2_bestOutrigger 30 = .ok (.bipush 6, 2) := by decide +kernel
theorem dX2_bestOutrigger_32 : decode cX2_bestOutrigger 32 = .ok (.if_icmp .ge 61, 3) := by decide +kernel
theorem dX2_bestOutrigger_35 : decode cX2_bestOutrigger 35 = .ok (.aload_n 0, 1) := by decide +kernel
theorem dX2_bestOutrigger_36 : decode cX2_bestOutrigger 36 = .ok (.getfield 16, 3) := by decide +kernel
theorem dX2_bestOutrigger_39 : decode cX2_bestOutrigger 39 = .ok (.aload_n 0, 1) := by decide +kernel
theorem dX2_bestOutrigger_40 : decode cX2_bestOutrigger 40 = .ok (.getfield 12, 3) := by decide +kernel
theorem dX2_bestOutrigger_43 : decode cX2_bestOutrigger 43 = .ok (.invokevirtual 41, 3) := by decide +kernel
theorem dX2_bestOutrigger_46 : decode cX2_bestOutrigger 46 = .ok (.aload_n 0, 1) := by decide +kernel
theorem dX2_bestOutrigger_47 : decode cX2_bestOutrigger 47 = .ok (.getfield 16, 3) := by decide +kernel
theorem dX2_bestOutrigger_50 : decode cX2_bestOutrigger 50 = .ok (.iload 4, 2) := by decide +kernel
theorem dX2_bestOutrigger_52 : decode cX2_bestOutrigger 52 = .ok (.iload 5, 2) := by decide +kernel
theorem dX2_bestOutrigger_54 : decode cX2_bestOutrigger 54 = .ok (.iconst 1, 1) := by decide +kernel
theorem dX2_bestOutrigger_55 : decode cX2_bestOutrigger 55 = .ok (.iadd, 1) := by decide +kernel
theorem dX2_bestOutrigger_56 : decode cX2_bestOutrigger 56 = .ok (.invokevirtual 64, 3) := by decide +kernel
theorem dX2_bestOutrigger_59 : decode cX2_bestOutrigger 59 = .ok (.aload_n 0, 1) := by decide +kernel
theorem dX2_bestOutrigger_60 : decode cX2_bestOutrigger 60 = .ok (.getfield 22, 3) := by decide +kernel
theorem dX2_bestOutrigger_63 : decode cX2_bestOutrigger 63 = .ok (.aload_n 0, 1) := by decide +kernel
theorem dX2_bestOutrigger_64 : decode cX2_bestOutrigger 64 = .ok (.getfield 16, 3) := by decide +kernel
theorem dX2_bestOutrigger_67 : decode cX2_bestOutrigger 67 = .ok (.iload_n 1, 1) := by decide +kernel
theorem dX2_bestOutrigger_68 : decode cX2_bestOutrigger 68 = .ok (.aload_n 0, 1) := by decide +kernel
theorem dX2_bestOutrigger_69 : decode cX2_bestOutrigger 69 = .ok (.getfield 98, 3) := by decide +kernel
theorem dX2_bestOutrigger_72 : decode cX2_bestOutrigger 72 = .ok (.aload_n 0, 1) := by decide +kernel
theorem dX2_bestOutrigger_73 : decode cX2_bestOutrigger 73 = .ok (.getfield 26, 3) := by decide +kernel
theorem dX2_bestOutrigger_76 : decode cX2_bestOutrigger 76 = .ok (.invokevirtual 130, 3) := by decide +kernel
theorem dX2_bestOutrigger_79 : decode cX2_bestOutrigger 79 = .ok (.istore 6, 2) := by decide +kernel
theorem dX2_bestOutrigger_81 : decode cX2_bestOutrigger 81 = .ok (.iload 6, 2) := by decide +kernel
theorem dX2_bestOutrigger_83 : decode cX2_bestOutrigger 83 = .ok (.iload_n 3, 1) := by decide +kernel
theorem dX2_bestOutrigger_84 : decode cX2_bestOutrigger 84 = .ok (.if_icmp .le 9, 3) := by decide +kernel
theorem dX2_bestOutrigger_87 : decode cX2_bestOutrigger 87 = .ok (.iload 4, 2) := by decide +kernel
theorem dX2_bestOutrigger_89 : decode cX2_bestOutrigger 89 = .ok (.istore_n 2, 1) := by decide +kernel
theorem dX2_bestOutrigger_90 : decode cX2_bestOutrigger 90 = .ok (.iload 6, 2) := by decide +kernel
theorem dX2_bestOutrigger_92 : decode cX2_bestOutrigger 92 = .ok (.istore_n 3, 1) := by decide +kernel
theorem dX2_bestOutrigger_93 : decode cX2_bestOutrigger 93 = .ok (.iinc 4 1, 3) := by decide +kernel
theorem dX2_bestOutrigger_96 : decode cX2_bestOutrigger 96 = .ok (.goto (-85), 3) := by decide +kernel
theorem dX2_bestOutrigger_99 : decode cX2_bestOutrigger 99 = .ok (.iload_n 2, 1) := by decide +kernel
theorem dX2_bestOutrigger_100 : decode cX2_bestOutrigger 100 = .ok (.ireturn, 1) := by decide +kernel
theorem dX2_meanLoad_0 : decode cX2_meanLoad 0 = .ok (.aload_n 0, 1) := by decide +kernel
theorem dX2_meanLoad_1 : decode cX2_meanLoad 1 = .ok (.getfield 85, 3) := by decide +kernel
theorem dX2_meanLoad_4 : decode cX2_meanLoad 4 = .ok (.ifCond .ne 7, 3) := by decide +kernel
theorem dX2_meanLoad_7 : decode cX2_meanLoad 7 = .ok (.dconst 0, 1) := by decide +kernel
theorem dX2_meanLoad_8 : decode cX2_meanLoad 8 = .ok (.goto 14, 3) := by decide +kernel
theorem dX2_meanLoad_11 : decode cX2_meanLoad 11 = .ok (.aload_n 0, 1) := by decide +kernel
theorem dX2_meanLoad_12 : decode cX2_meanLoad 12 = .ok (.getfield 88, 3) := by decide +kernel
theorem dX2_meanLoad_15 : decode cX2_meanLoad 15 = .ok (.i2d, 1) := by decide +kernel
theorem dX2_meanLoad_16 : decode cX2_meanLoad 16 = .ok (.aload_n 0, 1) := by decide +kernel
theorem dX2_meanLoad_17 : decode cX2_meanLoad 17 = .ok (.getfield 85, 3) := by decide +kernel
theorem dX2_meanLoad_20 : decode cX2_meanLoad 20 = .ok (.i2d, 1) := by decide +kernel
theorem dX2_meanLoad_21 : decode cX2_meanLoad 21 = .ok (.ddiv, 1) := by decide +kernel
theorem dX2_meanLoad_22 : decode cX2_meanLoad 22 = .ok (.dreturn, 1) := by decide +kernel
set_option maxRecDepth 20000 in
theorem ggX2_digest_X2_mixed : GoodIn wsX2_digest wsX2_mixed := goodIn_r _ [13, 14] (by decide +kernel) (by decide +kernel)
set_option maxRecDepth 20000 in
theorem gX2_digest_X2_mixed : GoodIn wsX2_digest (va_wsS RX2 139 yX2_mixed wsX2_mixed) := goodIn_app (goodIn_of _ (by decide +kernel)) ggX2_digest_X2_mixed
set_option maxRecDepth 20000 in
theorem ggX2_digest_X2_weakestSide : GoodIn wsX2_digest wsX2_weakestSide := goodIn_r _ [18, 5, 4, 2, 3, 19, 20, 21, 22, 23, 24, 25, 26, 27, 28, 29, 30, 31, 32, 67, 68, 69, 70, 71, 72, 73, 74, 75, 76, 77, 78] (by decide +kernel) (by decide +kernel)
set_option maxRecDepth 20000 in
theorem gX2_digest_X2_weakestSide : GoodIn wsX2_digest (wsV RX2 143 RX2 yX2_weakestSide wsX2_weakestSide) := goodIn_app (goodIn_of _ (by decide +kernel)) ggX2_digest_X2_weakestSide
set_option maxRecDepth 20000 in
theorem ggX2_digest_X2_greatestLoad : GoodIn wsX2_digest wsX2_greatestLoad := goodIn_r _ [36, 5, 2, 3, 37, 38, 39, 22, 40, 41, 42, 43, 44, 45, 46, 20, 21, 23, 24, 25, 26, 27, 28, 29, 30, 31, 32, 67, 68, 69, 70, 71, 72, 73, 74, 75, 76, 77, 78] (by decide +kernel) (by decide +kernel)
set_option maxRecDepth 20000 in
theorem gX2_digest_X2_greatestLoad : GoodIn wsX2_digest (wsV RX2 147 RX2 yX2_greatestLoad wsX2_greatestLoad) := goodIn_app (goodIn_of _ (by decide +kernel)) ggX2_digest_X2_greatestLoad
set_option maxRecDepth 20000 in
theorem ggX2_digest_X1_drawn : GoodIn wsX2_digest wsX1_drawn := goodIn_r _ [28, 29, 76, 77, 78] (by decide +kernel) (by decide +kernel)
set_option maxRecDepth 20000 in
theorem gX2_digest_X1_drawn : GoodIn wsX2_digest (wsV RX2 68 RX1 yX1_drawn wsX1_drawn) := goodIn_app (goodIn_of _ (by decide +kernel)) ggX2_digest_X1_drawn
set_option maxRecDepth 20000 in
theorem ggX2_digest_X1_strain : GoodIn wsX2_digest wsX1_strain := goodIn_r _ [23, 24, 25, 26, 27, 22, 28, 29, 30, 31, 32, 76, 77, 78] (by decide +kernel) (by decide +kernel)
set_option maxRecDepth 20000 in
theorem gX2_digest_X1_strain : GoodIn wsX2_digest (wsV RX2 117 RX1 yX1_strain wsX1_strain) := goodIn_app (goodIn_of _ (by decide +kernel)) ggX2_digest_X1_strain
set_option maxRecDepth 20000 in
theorem ggX2_digest_X1_allowed : GoodIn wsX2_digest wsX1_allowed := goodIn_r _ [44, 45, 76, 77, 78] (by decide +kernel) (by decide +kernel)
set_option maxRecDepth 20000 in
theorem gX2_digest_X1_allowed : GoodIn wsX2_digest (wsV RX2 80 RX1 yX1_allowed wsX1_allowed) := goodIn_app (goodIn_of _ (by decide +kernel)) ggX2_digest_X1_allowed
set_option maxRecDepth 20000 in
theorem ggX2_digest_X2_safeDirections : GoodIn wsX2_digest wsX2_safeDirections := goodIn_ca (goodIn_r _ [52, 5, 53, 54, 12, 55, 56, 57, 58, 59, 60, 61, 62, 63, 64, 65, 66, 37, 38, 39, 22, 40, 41, 42, 43, 44, 45, 46, 20, 21, 23, 24, 25, 26, 27, 28, 29, 30, 31, 32, 67, 68, 69, 70, 71, 72, 73, 74, 75, 76, 77, 78] (by decide +kernel) (by decide +kernel)) (goodIn_sub (fun _ h => List.mem_cons_of_mem _ (List.mem_append_right _ h)) (by decide +kernel))
set_option maxRecDepth 20000 in
theorem gX2_digest_X2_safeDirections : GoodIn wsX2_digest (wsV RX2 150 RX2 yX2_safeDirections wsX2_safeDirections) := goodIn_app (goodIn_of _ (by decide +kernel)) ggX2_digest_X2_safeDirections
theorem dX2_digest_0 : decode cX2_digest 0 = .ok (.ldc2_w 137, 3) := by decide +kernel
theorem dX2_digest_3 : decode cX2_digest 3 = .ok (.lstore_n 1, 1) := by decide +kernel
theorem dX2_digest_4 : decode cX2_digest 4 = .ok (.lload_n 1, 1) := by decide +kernel
theorem dX2_digest_5 : decode cX2_digest 5 = .ok (.aload_n 0, 1) := by decide +kernel
theorem dX2_digest_6 : decode cX2_digest 6 = .ok (.getfield 98, 3) := by decide +kernel
theorem dX2_digest_9 : decode cX2_digest 9 = .ok (.invokestatic 139, 3) := by decide +kernel
theorem dX2_digest_12 : decode cX2_digest 12 = .ok (.lstore_n 1, 1) := by decide +kernel
theorem dX2_digest_13 : decode cX2_digest 13 = .ok (.lload_n 1, 1) := by decide +kernel
theorem dX2_digest_14 : decode cX2_digest 14 = .ok (.aload_n 0, 1) := by decide +kernel
theorem dX2_digest_15 : decode cX2_digest 15 = .ok (.getfield 26, 3) := by decide +kernel
theorem dX2_digest_18 : decode cX2_digest 18 = .ok (.invokestatic 139, 3) := by decide +kernel
theorem dX2_digest_21 : decode cX2_digest 21 = .ok (.lstore_n 1, 1) := by decide +kernel
theorem dX2_digest_22 : decode cX2_digest 22 = .ok (.lload_n 1, 1) := by decide +kernel
theorem dX2_digest_23 : decode cX2_digest 23 = .ok (.aload_n 0, 1) := by decide +kernel
theorem dX2_digest_24 : decode cX2_digest 24 = .ok (.getfield 48, 3) := by decide +kernel
theorem dX2_digest_27 : decode cX2_digest 27 = .ok (.invokestatic 139, 3) := by decide +kernel
theorem dX2_digest_30 : decode cX2_digest 30 = .ok (.lstore_n 1, 1) := by decide +kernel
theorem dX2_digest_31 : decode cX2_digest 31 = .ok (.lload_n 1, 1) := by decide +kernel
theorem dX2_digest_32 : decode cX2_digest 32 = .ok (.aload_n 0, 1) := by decide +kernel
theorem dX2_digest_33 : decode cX2_digest 33 = .ok (.getfield 12, 3) := by decide +kernel
theorem dX2_digest_36 : decode cX2_digest 36 = .ok (.getfield 45, 3) := by decide +kernel
theorem dX2_digest_39 : decode cX2_digest 39 = .ok (.invokestatic 139, 3) := by decide +kernel
theorem dX2_digest_42 : decode cX2_digest 42 = .ok (.lstore_n 1, 1) := by decide +kernel
theorem dX2_digest_43 : decode cX2_digest 43 = .ok (.lload_n 1, 1) := by decide +kernel
theorem dX2_digest_44 : decode cX2_digest 44 = .ok (.aload_n 0, 1) := by decide +kernel
theorem dX2_digest_45 : decode cX2_digest 45 = .ok (.invokevirtual 143, 3) := by decide +kernel
theorem dX2_digest_48 : decode cX2_digest 48 = .ok (.invokestatic 139, 3) := by decide +kernel
theorem dX2_digest_51 : decode cX2_digest 51 = .ok (.lstore_n 1, 1) := by decide +kernel
theorem dX2_digest_52 : decode cX2_digest 52 = .ok (.lload_n 1, 1) := by decide +kernel
theorem dX2_digest_53 : decode cX2_digest 53 = .ok (.aload_n 0, 1) := by decide +kernel
theorem dX2_digest_54 : decode cX2_digest 54 = .ok (.getfield 85, 3) := by decide +kernel
theorem dX2_digest_57 : decode cX2_digest 57 = .ok (.invokestatic 139, 3) := by decide +kernel
theorem dX2_digest_60 : decode cX2_digest 60 = .ok (.lstore_n 1, 1) := by decide +kernel
theorem dX2_digest_61 : decode cX2_digest 61 = .ok (.lload_n 1, 1) := by decide +kernel
theorem dX2_digest_62 : decode cX2_digest 62 = .ok (.aload_n 0, 1) := by decide +kernel
theorem dX2_digest_63 : decode cX2_digest 63 = .ok (.getfield 88, 3) := by decide +kernel
theorem dX2_digest_66 : decode cX2_digest 66 = .ok (.invokestatic 139, 3) := by decide +kernel
theorem dX2_digest_69 : decode cX2_digest 69 = .ok (.lstore_n 1, 1) := by decide +kernel
theorem dX2_digest_70 : decode cX2_digest 70 = .ok (.lload_n 1, 1) := by decide +kernel
theorem dX2_digest_71 : decode cX2_digest 71 = .ok (.aload_n 0, 1) := by decide +kernel
theorem dX2_digest_72 : decode cX2_digest 72 = .ok (.getfield 121, 3) := by decide +kernel
theorem dX2_digest_75 : decode cX2_digest 75 = .ok (.invokestatic 139, 3) := by decide +kernel
theorem dX2_digest_78 : decode cX2_digest 78 = .ok (.lstore_n 1, 1) := by decide +kernel
theorem dX2_digest_79 : decode cX2_digest 79 = .ok (.lload_n 1, 1) := by decide +kernel
theorem dX2_digest_80 : decode cX2_digest 80 = .ok (.aload_n 0, 1) := by decide +kernel
theorem dX2_digest_81 : decode cX2_digest 81 = .ok (.invokevirtual 147, 3) := by decide +kernel
theorem dX2_digest_84 : decode cX2_digest 84 = .ok (.invokestatic 139, 3) := by decide +kernel
theorem dX2_digest_87 : decode cX2_digest 87 = .ok (.lstore_n 1, 1) := by decide +kernel
theorem dX2_digest_88 : decode cX2_digest 88 = .ok (.iconst 0, 1) := by decide +kernel
theorem dX2_digest_89 : decode cX2_digest 89 = .ok (.istore_n 3, 1) := by decide +kernel
theorem dX2_digest_90 : decode cX2_digest 90 = .ok (.iload_n 3, 1) := by decide +kernel
theorem dX2_digest_91 : decode cX2_digest 91 = .ok (.iconst 4, 1) := by decide +kernel
theorem dX2_digest_92 : decode cX2_digest 92 = .ok (.if_icmp .ge 47, 3) := by decide +kernel
theorem dX2_digest_95 : decode cX2_digest 95 = .ok (.lload_n 1, 1) := by decide +kernel
theorem dX2_digest_96 : decode cX2_digest 96 = .ok (.aload_n 0, 1) := by decide +kernel
theorem dX2_digest_97 : decode cX2_digest 97 = .ok (.getfield 12, 3) := by decide +kernel
theorem dX2_digest_100 : decode cX2_digest 100 = .ok (.iload_n 3, 1) := by decide +kernel
theorem dX2_digest_101 : decode cX2_digest 101 = .ok (.invokevirtual 68, 3) := by decide +kernel
theorem dX2_digest_104 : decode cX2_digest 104 = .ok (.invokestatic 139, 3) := by decide +kernel
theorem dX2_digest_107 : decode cX2_digest 107 = .ok (.lstore_n 1, 1) := by decide +kernel
theorem dX2_digest_108 : decode cX2_digest 108 = .ok (.lload_n 1, 1) := by decide +kernel
theorem dX2_digest_109 : decode cX2_digest 109 = .ok (.aload_n 0, 1) := by decide +kernel
theorem dX2_digest_110 : decode cX2_digest 110 = .ok (.getfield 12, 3) := by decide +kernel
theorem dX2_digest_113 : decode cX2_digest 113 = .ok (.iload_n 3, 1) := by decide +kernel
theorem dX2_digest_114 : decode cX2_digest 114 = .ok (.aload_n 0, 1) := by decide +kernel
theorem dX2_digest_115 : decode cX2_digest 115 = .ok (.getfield 48, 3) := by decide +kernel
theorem dX2_digest_118 : decode cX2_digest 118 = .ok (.aload_n 0, 1) := by decide +kernel
theorem dX2_digest_119 : decode cX2_digest 119 = .ok (.getfield 98, 3) := by decide +kernel
theorem dX2_digest_122 : decode cX2_digest 122 = .ok (.aload_n 0, 1) := by decide +kernel
theorem dX2_digest_123 : decode cX2_digest 123 = .ok (.getfield 26, 3) := by decide +kernel
theorem dX2_digest_126 : decode cX2_digest 126 = .ok (.invokevirtual 117, 3) := by decide +kernel
theorem dX2_digest_129 : decode cX2_digest 129 = .ok (.invokestatic 139, 3) := by decide +kernel
theorem dX2_digest_132 : decode cX2_digest 132 = .ok (.lstore_n 1, 1) := by decide +kernel
theorem dX2_digest_133 : decode cX2_digest 133 = .ok (.iinc 3 1, 3) := by decide +kernel
theorem dX2_digest_136 : decode cX2_digest 136 = .ok (.goto (-46), 3) := by decide +kernel
theorem dX2_digest_139 : decode cX2_digest 139 = .ok (.iconst 3, 1) := by decide +kernel
theorem dX2_digest_140 : decode cX2_digest 140 = .ok (.istore_n 3, 1) := by decide +kernel
theorem dX2_digest_141 : decode cX2_digest 141 = .ok (.iload_n 3, 1) := by decide +kernel
theorem dX2_digest_142 : decode cX2_digest 142 = .ok (.bipush 30, 2) := by decide +kernel
theorem dX2_digest_144 : decode cX2_digest 144 = .ok (.if_icmp .gt 33, 3) := by decide +kernel
theorem dX2_digest_147 : decode cX2_digest 147 = .ok (.lload_n 1, 1) := by decide +kernel
theorem dX2_digest_148 : decode cX2_digest 148 = .ok (.aload_n 0, 1) := by decide +kernel
theorem dX2_digest_149 : decode cX2_digest 149 = .ok (.getfield 12, 3) := by decide +kernel
theorem dX2_digest_152 : decode cX2_digest 152 = .ok (.iload_n 3, 1) := by decide +kernel
theorem dX2_digest_153 : decode cX2_digest 153 = .ok (.invokevirtual 80, 3) := by decide +kernel
theorem dX2_digest_156 : decode cX2_digest 156 = .ok (.invokestatic 139, 3) := by decide +kernel
theorem dX2_digest_159 : decode cX2_digest 159 = .ok (.lstore_n 1, 1) := by decide +kernel
theorem dX2_digest_160 : decode cX2_digest 160 = .ok (.lload_n 1, 1) := by decide +kernel
theorem dX2_digest_161 : decode cX2_digest 161 = .ok (.aload_n 0, 1) := by decide +kernel
theorem dX2_digest_162 : decode cX2_digest 162 = .ok (.iconst 5, 1) := by decide +kernel
theorem dX2_digest_163 : decode cX2_digest 163 = .ok (.iload_n 3, 1) := by decide +kernel
theorem dX2_digest_164 : decode cX2_digest 164 = .ok (.invokevirtual 150, 3) := by decide +kernel
theorem dX2_digest_167 : decode cX2_digest 167 = .ok (.invokestatic 139, 3) := by decide +kernel
theorem dX2_digest_170 : decode cX2_digest 170 = .ok (.lstore_n 1, 1) := by decide +kernel
theorem dX2_digest_171 : decode cX2_digest 171 = .ok (.iinc 3 1, 3) := by decide +kernel
theorem dX2_digest_174 : decode cX2_digest 174 = .ok (.goto (-33), 3) := by decide +kernel
theorem dX2_digest_177 : decode cX2_digest 177 = .ok (.lload_n 1, 1) := by decide +kernel
theorem dX2_digest_178 : decode cX2_digest 178 = .ok (.lreturn, 1) := by decide +kernel
theorem dX2_mixed_0 : decode cX2_mixed 0 = .ok (.lload_n 0, 1) := by decide +kernel
theorem dX2_mixed_1 : decode cX2_mixed 1 = .ok (.ldc2_w 153, 3) := by decide +kernel
theorem dX2_mixed_4 : decode cX2_mixed 4 = .ok (.lmul, 1) := by decide +kernel
theorem dX2_mixed_5 : decode cX2_mixed 5 = .ok (.iload_n 2, 1) := by decide +kernel
theorem dX2_mixed_6 : decode cX2_mixed 6 = .ok (.i2l, 1) := by decide +kernel
theorem dX2_mixed_7 : decode cX2_mixed 7 = .ok (.ladd, 1) := by decide +kernel
theorem dX2_mixed_8 : decode cX2_mixed 8 = .ok (.lreturn, 1) := by decide +kernel
theorem dX2_countMoves_0 : decode cX2_countMoves 0 = .ok (.aload_n 0, 1) := by decide +kernel
theorem dX2_countMoves_1 : decode cX2_countMoves 1 = .ok (.getfield 48, 3) := by decide +kernel
theorem dX2_countMoves_4 : decode cX2_countMoves 4 = .ok (.ifCond .le 13, 3) := by decide +kernel
theorem dX2_countMoves_7 : decode cX2_countMoves 7 = .ok (.aload_n 0, 1) := by decide +kernel
theorem dX2_countMoves_8 : decode cX2_countMoves 8 = .ok (.dup, 1) := by decide +kernel
theorem dX2_countMoves_9 : decode cX2_countMoves 9 = .ok (.getfield 121, 3) := by decide +kernel
theorem dX2_countMoves_12 : decode cX2_countMoves 12 = .ok (.iload_n 1, 1) := by decide +kernel
theorem dX2_countMoves_13 : decode cX2_countMoves 13 = .ok (.iadd, 1) := by decide +kernel
theorem dX2_countMoves_14 : decode cX2_countMoves 14 = .ok (.putfield 121, 3) := by decide +kernel
theorem dX2_countMoves_17 : decode cX2_countMoves 17 = .ok (.return_, 1) := by decide +kernel
set_option maxRecDepth 20000 in
theorem ggX2_requireSafe_X1_isSafe : GoodIn wsX2_requireSafe wsX1_isSafe := goodIn_r _ [9, 10, 11, 12, 8, 13, 14, 15, 16, 17, 18, 19, 20, 21, 22, 23, 24, 25, 26, 27, 37, 38, 39] (by decide +kernel) (by decide +kernel)
set_option maxRecDepth 20000 in
theorem gX2_requireSafe_X1_isSafe : GoodIn wsX2_requireSafe (wsV RX2 105 RX1 yX1_isSafe wsX1_isSafe) := goodIn_app (goodIn_of _ (by decide +kernel)) ggX2_requireSafe_X1_isSafe
theorem dX2_requireSafe_0 : decode cX2_requireSafe 0 = .ok (.aload_n 1, 1) := by decide +kernel
theorem dX2_requireSafe_1 : decode cX2_requireSafe 1 = .ok (.iload_n 2, 1) := by decide +kernel
theorem dX2_requireSafe_2 : decode cX2_requireSafe 2 = .ok (.aload_n 0, 1) := by decide +kernel
theorem dX2_requireSafe_3 : decode cX2_requireSafe 3 = .ok (.getfield 98, 3) := by decide +kernel
theorem dX2_requireSafe_6 : decode cX2_requireSafe 6 = .ok (.aload_n 0, 1) := by decide +kernel
theorem dX2_requireSafe_7 : decode cX2_requireSafe 7 = .ok (.getfield 26, 3) := by decide +kernel
theorem dX2_requireSafe_10 : decode cX2_requireSafe 10 = .ok (.invokevirtual 105, 3) := by decide +kernel
theorem dX2_requireSafe_13 : decode cX2_requireSafe 13 = .ok (.ifCond .ne 13, 3) := by decide +kernel
theorem dX2_requireSafe_16 : decode cX2_requireSafe 16 = .ok (.new 91, 3) := by decide +kernel
theorem dX2_requireSafe_19 : decode cX2_requireSafe 19 = .ok (.dup, 1) := by decide +kernel
theorem dX2_requireSafe_20 : decode cX2_requireSafe 20 = .ok (.ldc 155, 2) := by decide +kernel
theorem dX2_requireSafe_22 : decode cX2_requireSafe 22 = .ok (.invokespecial 95, 3) := by decide +kernel
theorem dX2_requireSafe_25 : decode cX2_requireSafe 25 = .ok (.athrow, 1) := by decide +kernel
theorem dX2_requireSafe_26 : decode cX2_requireSafe 26 = .ok (.return_, 1) := by decide +kernel
theorem dX2_requireNoLoad_0 : decode cX2_requireNoLoad 0 = .ok (.aload_n 0, 1) := by decide +kernel
theorem dX2_requireNoLoad_1 : decode cX2_requireNoLoad 1 = .ok (.getfield 48, 3) := by decide +kernel
theorem dX2_requireNoLoad_4 : decode cX2_requireNoLoad 4 = .ok (.ifCond .le 13, 3) := by decide +kernel
theorem dX2_requireNoLoad_7 : decode cX2_requireNoLoad 7 = .ok (.new 91, 3) := by decide +kernel
theorem dX2_requireNoLoad_10 : decode cX2_requireNoLoad 10 = .ok (.dup, 1) := by decide +kernel
theorem dX2_requireNoLoad_11 : decode cX2_requireNoLoad 11 = .ok (.ldc 157, 2) := by decide +kernel
theorem dX2_requireNoLoad_13 : decode cX2_requireNoLoad 13 = .ok (.invokespecial 95, 3) := by decide +kernel
theorem dX2_requireNoLoad_16 : decode cX2_requireNoLoad 16 = .ok (.athrow, 1) := by decide +kernel
theorem dX2_requireNoLoad_17 : decode cX2_requireNoLoad 17 = .ok (.return_, 1) := by decide +kernel
set_option maxRecDepth 20000 in
theorem ggX2_requireSide_X2_isWithin : GoodIn wsX2_requireSide wsX2_isWithin := goodIn_r _ [6] (by decide +kernel) (by decide +kernel)
set_option maxRecDepth 20000 in
theorem gX2_requireSide_X2_isWithin : GoodIn wsX2_requireSide (va_wsS RX2 30 yX2_isWithin wsX2_isWithin) := goodIn_app (goodIn_of _ (by decide +kernel)) ggX2_requireSide_X2_isWithin
theorem dX2_requireSide_0 : decode cX2_requireSide 0 = .ok (.iload_n 0, 1) := by decide +kernel
theorem dX2_requireSide_1 : decode cX2_requireSide 1 = .ok (.iconst 0, 1) := by decide +kernel
theorem dX2_requireSide_2 : decode cX2_requireSide 2 = .ok (.iconst 3, 1) := by decide +kernel
theorem dX2_requireSide_3 : decode cX2_requireSide 3 = .ok (.invokestatic 30, 3) := by decide +kernel
theorem dX2_requireSide_6 : decode cX2_requireSide 6 = .ok (.ifCond .ne 13, 3) := by decide +kernel
theorem dX2_requireSide_9 : decode cX2_requireSide 9 = .ok (.new 159, 3) := by decide +kernel
theorem dX2_requireSide_12 : decode cX2_requireSide 12 = .ok (.dup, 1) := by decide +kernel
theorem dX2_requireSide_13 : decode cX2_requireSide 13 = .ok (.ldc 161, 2) := by decide +kernel
theorem dX2_requireSide_15 : decode cX2_requireSide 15 = .ok (.invokespecial 163, 3) := by decide +kernel
theorem dX2_requireSide_18 : decode cX2_requireSide 18 = .ok (.athrow, 1) := by decide +kernel
theorem dX2_requireSide_19 : decode cX2_requireSide 19 = .ok (.return_, 1) := by decide +kernel
set_option maxRecDepth 20000 in
theorem ggX2_requireDirection_X2_isWithin : GoodIn wsX2_requireDirection wsX2_isWithin := goodIn_r _ [6] (by decide +kernel) (by decide +kernel)
set_option maxRecDepth 20000 in
theorem gX2_requireDirection_X2_isWithin : GoodIn wsX2_requireDirection (va_wsS RX2 30 yX2_isWithin wsX2_isWithin) := goodIn_app (goodIn_of _ (by decide +kernel)) ggX2_requireDirection_X2_isWithin
theorem dX2_requireDirection_0 : decode cX2_requireDirection 0 = .ok (.iload_n 0, 1) := by decide +kernel
theorem dX2_requireDirection_1 : decode cX2_requireDirection 1 = .ok (.iconst 0, 1) := by decide +kernel
theorem dX2_requireDirection_2 : decode cX2_requireDirection 2 = .ok (.bipush 7, 2) := by decide +kernel
theorem dX2_requireDirection_4 : decode cX2_requireDirection 4 = .ok (.invokestatic 30, 3) := by decide +kernel
theorem dX2_requireDirection_7 : decode cX2_requireDirection 7 = .ok (.ifCond .ne 13, 3) := by decide +kernel
theorem dX2_requireDirection_10 : decode cX2_requireDirection 10 = .ok (.new 159, 3) := by decide +kernel
theorem dX2_requireDirection_13 : decode cX2_requireDirection 13 = .ok (.dup, 1) := by decide +kernel
theorem dX2_requireDirection_14 : decode cX2_requireDirection 14 = .ok (.ldc 164, 2) := by decide +kernel
theorem dX2_requireDirection_16 : decode cX2_requireDirection 16 = .ok (.invokespecial 163, 3) := by decide +kernel
theorem dX2_requireDirection_19 : decode cX2_requireDirection 19 = .ok (.athrow, 1) := by decide +kernel
theorem dX2_requireDirection_20 : decode cX2_requireDirection 20 = .ok (.return_, 1) := by decide +kernel
set_option maxRecDepth 20000 in
theorem ggX2_requireLoad_X2_isWithin : GoodIn wsX2_requireLoad wsX2_isWithin := goodIn_r _ [6] (by decide +kernel) (by decide +kernel)
set_option maxRecDepth 20000 in
theorem gX2_requireLoad_X2_isWithin : GoodIn wsX2_requireLoad (va_wsS RX2 30 yX2_isWithin wsX2_isWithin) := goodIn_app (goodIn_of _ (by decide +kernel)) ggX2_requireLoad_X2_isWithin
theorem dX2_requireLoad_0 : decode cX2_requireLoad 0 = .ok (.iload_n 0, 1) := by decide +kernel
theorem dX2_requireLoad_1 : decode cX2_requireLoad 1 = .ok (.iconst 0, 1) := by decide +kernel
theorem dX2_requireLoad_2 : decode cX2_requireLoad 2 = .ok (.bipush 60, 2) := by decide +kernel
theorem dX2_requireLoad_4 : decode cX2_requireLoad 4 = .ok (.invokestatic 30, 3) := by decide +kernel
theorem dX2_requireLoad_7 : decode cX2_requireLoad 7 = .ok (.ifCond .ne 13, 3) := by decide +kernel
theorem dX2_requireLoad_10 : decode cX2_requireLoad 10 = .ok (.new 34, 3) := by decide +kernel
theorem dX2_requireLoad_13 : decode cX2_requireLoad 13 = .ok (.dup, 1) := by decide +kernel
theorem dX2_requireLoad_14 : decode cX2_requireLoad 14 = .ok (.ldc 166, 2) := by decide +kernel
theorem dX2_requireLoad_16 : decode cX2_requireLoad 16 = .ok (.invokespecial 38, 3) := by decide +kernel
theorem dX2_requireLoad_19 : decode cX2_requireLoad 19 = .ok (.athrow, 1) := by decide +kernel
theorem dX2_requireLoad_20 : decode cX2_requireLoad 20 = .ok (.return_, 1) := by decide +kernel
set_option maxRecDepth 20000 in
theorem ggX2_requireReach_X2_isReach : GoodIn wsX2_requireReach wsX2_isReach := goodIn_r _ [6, 7, 8, 5, 9] (by decide +kernel) (by decide +kernel)
set_option maxRecDepth 20000 in
theorem gX2_requireReach_X2_isReach : GoodIn wsX2_requireReach (va_wsS RX2 113 yX2_isReach wsX2_isReach) := goodIn_app (goodIn_of _ (by decide +kernel)) ggX2_requireReach_X2_isReach
theorem dX2_requireReach_0 : decode cX2_requireReach 0 = .ok (.iload_n 0, 1) := by decide +kernel
theorem dX2_requireReach_1 : decode cX2_requireReach 1 = .ok (.invokestatic 113, 3) := by decide +kernel
theorem dX2_requireReach_4 : decode cX2_requireReach 4 = .ok (.ifCond .ne 13, 3) := by decide +kernel
theorem dX2_requireReach_7 : decode cX2_requireReach 7 = .ok (.new 34, 3) := by decide +kernel
theorem dX2_requireReach_10 : decode cX2_requireReach 10 = .ok (.dup, 1) := by decide +kernel
theorem dX2_requireReach_11 : decode cX2_requireReach 11 = .ok (.ldc 168, 2) := by decide +kernel
theorem dX2_requireReach_13 : decode cX2_requireReach 13 = .ok (.invokespecial 38, 3) := by decide +kernel
theorem dX2_requireReach_16 : decode cX2_requireReach 16 = .ok (.athrow, 1) := by decide +kernel
theorem dX2_requireReach_17 : decode cX2_requireReach 17 = .ok (.return_, 1) := by decide +kernel
set_option maxRecDepth 20000 in
theorem ggX2_isReach_X2_isWithin : GoodIn wsX2_isReach wsX2_isWithin := goodIn_r _ [4] (by decide +kernel) (by decide +kernel)
set_option maxRecDepth 20000 in
theorem gX2_isReach_X2_isWithin : GoodIn wsX2_isReach (va_wsS RX2 30 yX2_isWithin wsX2_isWithin) := goodIn_app (goodIn_of _ (by decide +kernel)) ggX2_isReach_X2_isWithin
theorem dX2_isReach_0 : decode cX2_isReach 0 = .ok (.iload_n 0, 1) := by decide +kernel
theorem dX2_isReach_1 : decode cX2_isReach 1 = .ok (.iconst 3, 1) := by decide +kernel
theorem dX2_isReach_2 : decode cX2_isReach 2 = .ok (.bipush 30, 2) := by decide +kernel
theorem dX2_isReach_4 : decode cX2_isReach 4 = .ok (.invokestatic 30, 3) := by decide +kernel
theorem dX2_isReach_7 : decode cX2_isReach 7 = .ok (.ireturn, 1) := by decide +kernel
theorem dX2_isWithin_0 : decode cX2_isWithin 0 = .ok (.iload_n 0, 1) := by decide +kernel
theorem dX2_isWithin_1 : decode cX2_isWithin 1 = .ok (.iload_n 1, 1) := by decide +kernel
theorem dX2_isWithin_2 : decode cX2_isWithin 2 = .ok (.if_icmp .lt 12, 3) := by decide +kernel
theorem dX2_isWithin_5 : decode cX2_isWithin 5 = .ok (.iload_n 0, 1) := by decide +kernel
theorem dX2_isWithin_6 : decode cX2_isWithin 6 = .ok (.iload_n 2, 1) := by decide +kernel
theorem dX2_isWithin_7 : decode cX2_isWithin 7 = .ok (.if_icmp .gt 7, 3) := by decide +kernel
theorem dX2_isWithin_10 : decode cX2_isWithin 10 = .ok (.iconst 1, 1) := by decide +kernel
theorem dX2_isWithin_11 : decode cX2_isWithin 11 = .ok (.goto 4, 3) := by decide +kernel
theorem dX2_isWithin_14 : decode cX2_isWithin 14 = .ok (.iconst 0, 1) := by decide +kernel
theorem dX2_isWithin_15 : decode cX2_isWithin 15 = .ok (.ireturn, 1) := by decide +kernel
theorem dX2_turned_0 : decode cX2_turned 0 = .ok (.iload_n 0, 1) := by decide +kernel
theorem dX2_turned_1 : decode cX2_turned 1 = .ok (.iload_n 1, 1) := by decide +kernel
theorem dX2_turned_2 : decode cX2_turned 2 = .ok (.iadd, 1) := by decide +kernel
theorem dX2_turned_3 : decode cX2_turned 3 = .ok (.bipush 8, 2) := by decide +kernel
theorem dX2_turned_5 : decode cX2_turned 5 = .ok (.iadd, 1) := by decide +kernel
theorem dX2_turned_6 : decode cX2_turned 6 = .ok (.bipush 8, 2) := by decide +kernel
theorem dX2_turned_8 : decode cX2_turned 8 = .ok (.irem, 1) := by decide +kernel
theorem dX2_turned_9 : decode cX2_turned 9 = .ok (.ireturn, 1) := by decide +kernel
end
section
theorem dX3_init_0 : decode cX3_init 0 = .ok (.aload_n 0, 1) := by decide +kernel
theorem dX3_init_1 : decode cX3_init 1 = .ok (.invokespecial 3, 3) := by decide +kernel
theorem dX3_init_4 : decode cX3_init 4 = .ok (.aload_n 0, 1) := by decide +kernel
theorem dX3_init_5 : decode cX3_init 5 = .ok (.iconst 3, 1) := by decide +kernel
theorem dX3_init_6 : decode cX3_init 6 = .ok (.putfield 9, 3) := by decide +kernel
theorem dX3_init_9 : decode cX3_init 9 = .ok (.aload_n 0, 1) := by decide +kernel
theorem dX3_init_10 : decode cX3_init 10 = .ok (.iconst 4, 1) := by decide +kernel
theorem dX3_init_11 : decode cX3_init 11 = .ok (.newarray .int, 2) := by decide +kernel
theorem dX3_init_13 : decode cX3_init 13 = .ok (.putfield 13, 3) := by decide +kernel
theorem dX3_init_16 : decode cX3_init 16 = .ok (.aload_n 0, 1) := by decide +kernel
theorem dX3_init_17 : decode cX3_init 17 = .ok (.bipush 31, 2) := by decide +kernel
theorem dX3_init_19 : decode cX3_init 19 = .ok (.newarray .int, 2) := by decide +kernel
theorem dX3_init_21 : decode cX3_init 21 = .ok (.putfield 17, 3) := by decide +kernel
theorem dX3_init_24 : decode cX3_init 24 = .ok (.aload_n 0, 1) := by decide +kernel
theorem dX3_init_25 : decode cX3_init 25 = .ok (.sipush 248, 3) := by decide +kernel
theorem dX3_init_28 : decode cX3_init 28 = .ok (.newarray .int, 2) := by decide +kernel
theorem dX3_init_30 : decode cX3_init 30 = .ok (.putfield 20, 3) := by decide +kernel
theorem dX3_init_33 : decode cX3_init 33 = .ok (.aload_n 0, 1) := by decide +kernel
theorem dX3_init_34 : decode cX3_init 34 = .ok (.sipush 248, 3) := by decide +kernel
theorem dX3_init_37 : decode cX3_init 37 = .ok (.newarray .int, 2) := by decide +kernel
theorem dX3_init_39 : decode cX3_init 39 = .ok (.putfield 23, 3) := by decide +kernel
theorem dX3_init_42 : decode cX3_init 42 = .ok (.iconst 3, 1) := by decide +kernel
theorem dX3_init_43 : decode cX3_init 43 = .ok (.istore_n 1, 1) := by decide +kernel
theorem dX3_init_44 : decode cX3_init 44 = .ok (.iload_n 1, 1) := by decide +kernel
theorem dX3_init_45 : decode cX3_init 45 = .ok (.bipush 30, 2) := by decide +kernel
theorem dX3_init_47 : decode cX3_init 47 = .ok (.if_icmp .gt 19, 3) := by decide +kernel
theorem dX3_init_50 : decode cX3_init 50 = .ok (.aload_n 0, 1) := by decide +kernel
theorem dX3_init_51 : decode cX3_init 51 = .ok (.getfield 17, 3) := by decide +kernel
theorem dX3_init_54 : decode cX3_init 54 = .ok (.iload_n 1, 1) := by decide +kernel
theorem dX3_init_55 : decode cX3_init 55 = .ok (.bipush 90, 2) := by decide +kernel
theorem dX3_init_57 : decode cX3_init 57 = .ok (.iload_n 1, 1) := by decide +kernel
theorem dX3_init_58 : decode cX3_init 58 = .ok (.idiv, 1) := by decide +kernel
theorem dX3_init_59 : decode cX3_init 59 = .ok (.iastore, 1) := by decide +kernel
theorem dX3_init_60 : decode cX3_init 60 = .ok (.iinc 1 1, 3) := by decide +kernel
theorem dX3_init_63 : decode cX3_init 63 = .ok (.goto (-19), 3) := by decide +kernel
theorem dX3_init_66 : decode cX3_init 66 = .ok (.return_, 1) := by decide +kernel
theorem dX3_thrown_0 : decode cX3_thrown 0 = .ok (.aload_n 0, 1) := by decide +kernel
theorem dX3_thrown_1 : decode cX3_thrown 1 = .ok (.getfield 26, 3) := by decide +kernel
theorem dX3_thrown_4 : decode cX3_thrown 4 = .ok (.ireturn, 1) := by decide +kernel
theorem dX3_no_0 : decode cX3_no 0 = .ok (.aload_n 0, 1) := by decide +kernel
theorem dX3_no_1 : decode cX3_no 1 = .ok (.iload_n 1, 1) := by decide +kernel
theorem dX3_no_2 : decode cX3_no 2 = .ok (.putfield 26, 3) := by decide +kernel
theorem dX3_no_5 : decode cX3_no 5 = .ok (.iconst 0, 1) := by decide +kernel
theorem dX3_no_6 : decode cX3_no 6 = .ok (.ireturn, 1) := by decide +kernel
theorem dX3_isNot_0 : decode cX3_isNot 0 = .ok (.aload_n 0, 1) := by decide +kernel
theorem dX3_isNot_1 : decode cX3_isNot 1 = .ok (.iload_n 1, 1) := by decide +kernel
theorem dX3_isNot_2 : decode cX3_isNot 2 = .ok (.putfield 26, 3) := by decide +kernel
theorem dX3_isNot_5 : decode cX3_isNot 5 = .ok (.iconst 0, 1) := by decide +kernel
theorem dX3_isNot_6 : decode cX3_isNot 6 = .ok (.ireturn, 1) := by decide +kernel
theorem dX3_isIn_0 : decode cX3_isIn 0 = .ok (.iload_n 0, 1) := by decide +kernel
theorem dX3_isIn_1 : decode cX3_isIn 1 = .ok (.iload_n 1, 1) := by decide +kernel
theorem dX3_isIn_2 : decode cX3_isIn 2 = .ok (.if_icmp .lt 12, 3) := by decide +kernel
theorem dX3_isIn_5 : decode cX3_isIn 5 = .ok (.iload_n 0, 1) := by decide +kernel
theorem dX3_isIn_6 : decode cX3_isIn 6 = .ok (.iload_n 2, 1) := by decide +kernel
theorem dX3_isIn_7 : decode cX3_isIn 7 = .ok (.if_icmp .gt 7, 3) := by decide +kernel
theorem dX3_isIn_10 : decode cX3_isIn 10 = .ok (.iconst 1, 1) := by decide +kernel
theorem dX3_isIn_11 : decode cX3_isIn 11 = .ok (.goto 4, 3) := by decide +kernel
theorem dX3_isIn_14 : decode cX3_isIn 14 = .ok (.iconst 0, 1) := by decide +kernel
theorem dX3_isIn_15 : decode cX3_isIn 15 = .ok (.ireturn, 1) := by decide +kernel
set_option maxRecDepth 20000 in
theorem ggX3_isSide_X3_isIn : GoodIn wsX3_isSide wsX3_isIn := goodIn_r _ [4] (by decide +kernel) (by decide +kernel)
set_option maxRecDepth 20000 in
theorem gX3_isSide_X3_isIn : GoodIn wsX3_isSide (va_wsS RX3 29 yX3_isIn wsX3_isIn) := goodIn_app (goodIn_of _ (by decide +kernel)) ggX3_isSide_X3_isIn
theorem dX3_isSide_0 : decode cX3_isSide 0 = .ok (.iload_n 0, 1) := by decide +kernel
theorem dX3_isSide_1 : decode cX3_isSide 1 = .ok (.iconst 0, 1) := by decide +kernel
theorem dX3_isSide_2 : decode cX3_isSide 2 = .ok (.iconst 3, 1) := by decide +kernel
theorem dX3_isSide_3 : decode cX3_isSide 3 = .ok (.invokestatic 29, 3) := by decide +kernel
theorem dX3_isSide_6 : decode cX3_isSide 6 = .ok (.ireturn, 1) := by decide +kernel
set_option maxRecDepth 20000 in
theorem ggX3_isDirection_X3_isIn : GoodIn wsX3_isDirection wsX3_isIn := goodIn_r _ [4] (by decide +kernel) (by decide +kernel)
set_option maxRecDepth 20000 in
theorem gX3_isDirection_X3_isIn : GoodIn wsX3_isDirection (va_wsS RX3 29 yX3_isIn wsX3_isIn) := goodIn_app (goodIn_of _ (by decide +kernel)) ggX3_isDirection_X3_isIn
theorem dX3_isDirection_0 : decode cX3_isDirection 0 = .ok (.iload_n 0, 1) := by decide +kernel
theorem dX3_isDirection_1 : decode cX3_isDirection 1 = .ok (.iconst 0, 1) := by decide +kernel
theorem dX3_isDirection_2 : decode cX3_isDirection 2 = .ok (.bipush 7, 2) := by decide +kernel
theorem dX3_isDirection_4 : decode cX3_isDirection 4 = .ok (.invokestatic 29, 3) := by decide +kernel
theorem dX3_isDirection_7 : decode cX3_isDirection 7 = .ok (.ireturn, 1) := by decide +kernel
set_option maxRecDepth 20000 in
theorem ggX3_isReach_X3_isIn : GoodIn wsX3_isReach wsX3_isIn := goodIn_r _ [4] (by decide +kernel) (by decide +kernel)
set_option maxRecDepth 20000 in
theorem gX3_isReach_X3_isIn : GoodIn wsX3_isReach (va_wsS RX3 29 yX3_isIn wsX3_isIn) := goodIn_app (goodIn_of _ (by decide +kernel)) ggX3_isReach_X3_isIn
theorem dX3_isReach_0 : decode cX3_isReach 0 = .ok (.iload_n 0, 1) := by decide +kernel
theorem dX3_isReach_1 : decode cX3_isReach 1 = .ok (.iconst 3, 1) := by decide +kernel
theorem dX3_isReach_2 : decode cX3_isReach 2 = .ok (.bipush 30, 2) := by decide +kernel
theorem dX3_isReach_4 : decode cX3_isReach 4 = .ok (.invokestatic 29, 3) := by decide +kernel
theorem dX3_isReach_7 : decode cX3_isReach 7 = .ok (.ireturn, 1) := by decide +kernel
set_option maxRecDepth 20000 in
theorem ggX3_isLoad_X3_isIn : GoodIn wsX3_isLoad wsX3_isIn := goodIn_r _ [4] (by decide +kernel) (by decide +kernel)
set_option maxRecDepth 20000 in
theorem gX3_isLoad_X3_isIn : GoodIn wsX3_isLoad (va_wsS RX3 29 yX3_isIn wsX3_isIn) := goodIn_app (goodIn_of _ (by decide +kernel)) ggX3_isLoad_X3_isIn
theorem dX3_isLoad_0 : decode cX3_isLoad 0 = .ok (.iload_n 0, 1) := by decide +kernel
theorem dX3_isLoad_1 : decode cX3_isLoad 1 = .ok (.iconst 0, 1) := by decide +kernel
theorem dX3_isLoad_2 : decode cX3_isLoad 2 = .ok (.bipush 60, 2) := by decide +kernel
theorem dX3_isLoad_4 : decode cX3_isLoad 4 = .ok (.invokestatic 29, 3) := by decide +kernel
theorem dX3_isLoad_7 : decode cX3_isLoad 7 = .ok (.ireturn, 1) := by decide +kernel
theorem dX3_strain_0 : decode cX3_strain 0 = .ok (.iload_n 3, 1) := by decide +kernel
theorem dX3_strain_1 : decode cX3_strain 1 = .ok (.iconst 2, 1) := by decide +kernel
theorem dX3_strain_2 : decode cX3_strain 2 = .ok (.iload_n 1, 1) := by decide +kernel
theorem dX3_strain_3 : decode cX3_strain 3 = .ok (.imul, 1) := by decide +kernel
theorem dX3_strain_4 : decode cX3_strain 4 = .ok (.isub, 1) := by decide +kernel
theorem dX3_strain_5 : decode cX3_strain 5 = .ok (.invokestatic 33, 3) := by decide +kernel
theorem dX3_strain_8 : decode cX3_strain 8 = .ok (.istore 5, 2) := by decide +kernel
theorem dX3_strain_10 : decode cX3_strain 10 = .ok (.getstatic 39, 3) := by decide +kernel
theorem dX3_strain_13 : decode cX3_strain 13 = .ok (.iload 5, 2) := by decide +kernel
theorem dX3_strain_15 : decode cX3_strain 15 = .ok (.bipush 8, 2) := by decide +kernel
theorem dX3_strain_17 : decode cX3_strain 17 = .ok (.iload 5, 2) := by decide +kernel
theorem dX3_strain_19 : decode cX3_strain 19 = .ok (.isub, 1) := by decide +kernel
theorem dX3_strain_20 : decode cX3_strain 20 = .ok (.invokestatic 42, 3) := by decide +kernel
theorem dX3_strain_23 : decode cX3_strain 23 = .ok (.iaload, 1) := by decide +kernel
theorem dX3_strain_24 : decode cX3_strain 24 = .ok (.istore 6, 2) := by decide +kernel
theorem dX3_strain_26 : decode cX3_strain 26 = .ok (.bipush 10, 2) := by decide +kernel
theorem dX3_strain_28 : decode cX3_strain 28 = .ok (.iconst 2, 1) := by decide +kernel
theorem dX3_strain_29 : decode cX3_strain 29 = .ok (.aload_n 0, 1) := by decide +kernel
theorem dX3_strain_30 : decode cX3_strain 30 = .ok (.getfield 13, 3) := by decide +kernel
theorem dX3_strain_33 : decode cX3_strain 33 = .ok (.iload_n 1, 1) := by decide +kernel
theorem dX3_strain_34 : decode cX3_strain 34 = .ok (.iaload, 1) := by decide +kernel
theorem dX3_strain_35 : decode cX3_strain 35 = .ok (.iadd, 1) := by decide +kernel
theorem dX3_strain_36 : decode cX3_strain 36 = .ok (.imul, 1) := by decide +kernel
theorem dX3_strain_37 : decode cX3_strain 37 = .ok (.istore 7, 2) := by decide +kernel
theorem dX3_strain_39 : decode cX3_strain 39 = .ok (.iload_n 2, 1) := by decide +kernel
theorem dX3_strain_40 : decode cX3_strain 40 = .ok (.iload 4, 2) := by decide +kernel
theorem dX3_strain_42 : decode cX3_strain 42 = .ok (.iload 6, 2) := by decide +kernel
theorem dX3_strain_44 : decode cX3_strain 44 = .ok (.imul, 1) := by decide +kernel
theorem dX3_strain_45 : decode cX3_strain 45 = .ok (.iload 7, 2) := by decide +kernel
theorem dX3_strain_47 : decode cX3_strain 47 = .ok (.isub, 1) := by decide +kernel
theorem dX3_strain_48 : decode cX3_strain 48 = .ok (.imul, 1) := by decide +kernel
theorem dX3_strain_49 : decode cX3_strain 49 = .ok (.iconst 2, 1) := by decide +kernel
theorem dX3_strain_50 : decode cX3_strain 50 = .ok (.aload_n 0, 1) := by decide +kernel
theorem dX3_strain_51 : decode cX3_strain 51 = .ok (.getfield 46, 3) := by decide +kernel
theorem dX3_strain_54 : decode cX3_strain 54 = .ok (.imul, 1) := by decide +kernel
theorem dX3_strain_55 : decode cX3_strain 55 = .ok (.iconst 4, 1) := by decide +kernel
theorem dX3_strain_56 : decode cX3_strain 56 = .ok (.iload 6, 2) := by decide +kernel
theorem dX3_strain_58 : decode cX3_strain 58 = .ok (.imul, 1) := by decide +kernel
theorem dX3_strain_59 : decode cX3_strain 59 = .ok (.iload 7, 2) := by decide +kernel
theorem dX3_strain_61 : decode cX3_strain 61 = .ok (.iadd, 1) := by decide +kernel
theorem dX3_strain_62 : decode cX3_strain 62 = .ok (.imul, 1) := by decide +kernel
theorem dX3_strain_63 : decode cX3_strain 63 = .ok (.isub, 1) := by decide +kernel
theorem dX3_strain_64 : decode cX3_strain 64 = .ok (.bipush 20, 2) := by decide +kernel
theorem dX3_strain_66 : decode cX3_strain 66 = .ok (.iload 7, 2) := by decide +kernel
theorem dX3_strain_68 : decode cX3_strain 68 = .ok (.imul, 1) := by decide +kernel
theorem dX3_strain_69 : decode cX3_strain 69 = .ok (.isub, 1) := by decide +kernel
theorem dX3_strain_70 : decode cX3_strain 70 = .ok (.ireturn, 1) := by decide +kernel
set_option maxRecDepth 20000 in
theorem ggX3_isSafe_X3_strain : GoodIn wsX3_isSafe wsX3_strain := goodIn_r _ [6, 7, 8, 9, 10, 11, 12, 13, 14, 15, 16, 17, 18, 19, 20, 21, 22, 23, 24, 25, 26, 27, 28, 29] (by decide +kernel) (by decide +kernel)
set_option maxRecDepth 20000 in
theorem gX3_isSafe_X3_strain : GoodIn wsX3_isSafe (wsV RX3 49 RX3 yX3_strain wsX3_strain) := goodIn_app (goodIn_of _ (by decide +kernel)) ggX3_isSafe_X3_strain
theorem dX3_isSafe_0 : decode cX3_isSafe 0 = .ok (.iload_n 1, 1) := by decide +kernel
theorem dX3_isSafe_1 : decode cX3_isSafe 1 = .ok (.aload_n 0, 1) := by decide +kernel
theorem dX3_isSafe_2 : decode cX3_isSafe 2 = .ok (.getfield 17, 3) := by decide +kernel
theorem dX3_isSafe_5 : decode cX3_isSafe 5 = .ok (.iload_n 3, 1) := by decide +kernel
theorem dX3_isSafe_6 : decode cX3_isSafe 6 = .ok (.iaload, 1) := by decide +kernel
theorem dX3_isSafe_7 : decode cX3_isSafe 7 = .ok (.if_icmp .le 5, 3) := by decide +kernel
theorem dX3_isSafe_10 : decode cX3_isSafe 10 = .ok (.iconst 0, 1) := by decide +kernel
theorem dX3_isSafe_11 : decode cX3_isSafe 11 = .ok (.ireturn, 1) := by decide +kernel
theorem dX3_isSafe_12 : decode cX3_isSafe 12 = .ok (.iconst 0, 1) := by decide +kernel
theorem dX3_isSafe_13 : decode cX3_isSafe 13 = .ok (.istore 4, 2) := by decide +kernel
theorem dX3_isSafe_15 : decode cX3_isSafe 15 = .ok (.iload 4, 2) := by decide +kernel
theorem dX3_isSafe_17 : decode cX3_isSafe 17 = .ok (.iconst 4, 1) := by decide +kernel
theorem dX3_isSafe_18 : decode cX3_isSafe 18 = .ok (.if_icmp .ge 23, 3) := by decide +kernel
theorem dX3_isSafe_21 : decode cX3_isSafe 21 = .ok (.aload_n 0, 1) := by decide +kernel
theorem dX3_isSafe_22 : decode cX3_isSafe 22 = .ok (.iload 4, 2) := by decide +kernel
theorem dX3_isSafe_24 : decode cX3_isSafe 24 = .ok (.iload_n 1, 1) := by decide +kernel
theorem dX3_isSafe_25 : decode cX3_isSafe 25 = .ok (.iload_n 2, 1) := by decide +kernel
theorem dX3_isSafe_26 : decode cX3_isSafe 26 = .ok (.iload_n 3, 1) := by decide +kernel
theorem dX3_isSafe_27 : decode cX3_isSafe 27 = .ok (.invokevirtual 49, 3) := by decide +kernel
theorem dX3_isSafe_30 : decode cX3_isSafe 30 = .ok (.ifCond .le 5, 3) := by decide +kernel
theorem dX3_isSafe_33 : decode cX3_isSafe 33 = .ok (.iconst 0, 1) := by decide +kernel
theorem dX3_isSafe_34 : decode cX3_isSafe 34 = .ok (.ireturn, 1) := by decide +kernel
theorem dX3_isSafe_35 : decode cX3_isSafe 35 = .ok (.iinc 4 1, 3) := by decide +kernel
theorem dX3_isSafe_38 : decode cX3_isSafe 38 = .ok (.goto (-23), 3) := by decide +kernel
theorem dX3_isSafe_41 : decode cX3_isSafe 41 = .ok (.iconst 1, 1) := by decide +kernel
theorem dX3_isSafe_42 : decode cX3_isSafe 42 = .ok (.ireturn, 1) := by decide +kernel
set_option maxRecDepth 20000 in
theorem ggX3_isSafe__X3_isSafe : GoodIn wsX3_isSafe_ wsX3_isSafe := goodIn_r _ [8, 9, 10, 11, 12, 7, 13, 14, 15, 16, 17, 18, 19, 20, 21, 22, 23, 24, 25, 26, 27, 28, 29, 30, 31, 32, 33, 34, 35, 36] (by decide +kernel) (by decide +kernel)
set_option maxRecDepth 20000 in
theorem gX3_isSafe__X3_isSafe : GoodIn wsX3_isSafe_ (wsV RX3 59 RX3 yX3_isSafe wsX3_isSafe) := goodIn_app (goodIn_of _ (by decide +kernel)) ggX3_isSafe__X3_isSafe
theorem dX3_isSafe__0 : decode cX3_isSafe_ 0 = .ok (.aload_n 0, 1) := by decide +kernel
theorem dX3_isSafe__1 : decode cX3_isSafe_ 1 = .ok (.aload_n 0, 1) := by decide +kernel
theorem dX3_isSafe__2 : decode cX3_isSafe_ 2 = .ok (.getfield 53, 3) := by decide +kernel
theorem dX3_isSafe__5 : decode cX3_isSafe_ 5 = .ok (.aload_n 0, 1) := by decide +kernel
theorem dX3_isSafe__6 : decode cX3_isSafe_ 6 = .ok (.getfield 56, 3) := by decide +kernel
theorem dX3_isSafe__9 : decode cX3_isSafe_ 9 = .ok (.aload_n 0, 1) := by decide +kernel
theorem dX3_isSafe__10 : decode cX3_isSafe_ 10 = .ok (.getfield 9, 3) := by decide +kernel
theorem dX3_isSafe__13 : decode cX3_isSafe_ 13 = .ok (.invokevirtual 59, 3) := by decide +kernel
theorem dX3_isSafe__16 : decode cX3_isSafe_ 16 = .ok (.ireturn, 1) := by decide +kernel
set_option maxRecDepth 20000 in
theorem ggX3_setPlates_X3_isIn : GoodIn wsX3_setPlates wsX3_isIn := goodIn_r _ [6] (by decide +kernel) (by decide +kernel)
set_option maxRecDepth 20000 in
theorem gX3_setPlates_X3_isIn : GoodIn wsX3_setPlates (va_wsS RX3 29 yX3_isIn wsX3_isIn) := goodIn_app (goodIn_of _ (by decide +kernel)) ggX3_setPlates_X3_isIn
set_option maxRecDepth 20000 in
theorem ggX3_setPlates_X3_no : GoodIn wsX3_setPlates wsX3_no := goodIn_r _ [10, 1, 36, 37, 38, 39, 40, 41, 42, 43, 44, 45, 46, 47, 48] (by decide +kernel) (by decide +kernel)
set_option maxRecDepth 20000 in
theorem gX3_setPlates_X3_no : GoodIn wsX3_setPlates (wsV RX3 62 RX3 yX3_no wsX3_no) := goodIn_app (goodIn_of _ (by decide +kernel)) ggX3_setPlates_X3_no
set_option maxRecDepth 20000 in
theorem ggX3_setPlates_X3_isSafe_ : GoodIn wsX3_setPlates wsX3_isSafe_ := goodIn_r _ [14, 15, 16, 17, 18, 19, 20, 5, 21, 22, 23, 24, 25, 26, 27, 28, 29, 30, 31, 32, 33, 34, 35, 2, 36, 37, 38, 39, 40, 41, 42, 43, 44, 45, 46, 47, 48] (by decide +kernel) (by decide +kernel)
set_option maxRecDepth 20000 in
theorem gX3_setPlates_X3_isSafe_ : GoodIn wsX3_setPlates (wsV RX3 65 RX3 yX3_isSafe_ wsX3_isSafe_) := goodIn_app (goodIn_of _ (by decide +kernel)) ggX3_setPlates_X3_isSafe_
theorem dX3_setPlates_0 : decode cX3_setPlates 0 = .ok (.aload_n 0, 1) := by decide +kernel
theorem dX3_setPlates_1 : decode cX3_setPlates 1 = .ok (.iconst 0, 1) := by decide +kernel
theorem dX3_setPlates_2 : decode cX3_setPlates 2 = .ok (.putfield 26, 3) := by decide +kernel
theorem dX3_setPlates_5 : decode cX3_setPlates 5 = .ok (.iload_n 1, 1) := by decide +kernel
theorem dX3_setPlates_6 : decode cX3_setPlates 6 = .ok (.iconst 0, 1) := by decide +kernel
theorem dX3_setPlates_7 : decode cX3_setPlates 7 = .ok (.bipush 12, 2) := by decide +kernel
theorem dX3_setPlates_9 : decode cX3_setPlates 9 = .ok (.invokestatic 29, 3) := by decide +kernel
theorem dX3_setPlates_12 : decode cX3_setPlates 12 = .ok (.ifCond .ne 9, 3) := by decide +kernel
theorem dX3_setPlates_15 : decode cX3_setPlates 15 = .ok (.aload_n 0, 1) := by decide +kernel
theorem dX3_setPlates_16 : decode cX3_setPlates 16 = .ok (.iconst 1, 1) := by decide +kernel
theorem dX3_setPlates_17 : decode cX3_setPlates 17 = .ok (.invokevirtual 62, 3) := by decide +kernel
theorem dX3_setPlates_20 : decode cX3_setPlates 20 = .ok (.ireturn, 1) := by decide +kernel
theorem dX3_setPlates_21 : decode cX3_setPlates 21 = .ok (.aload_n 0, 1) := by decide +kernel
theorem dX3_setPlates_22 : decode cX3_setPlates 22 = .ok (.getfield 46, 3) := by decide +kernel
theorem dX3_setPlates_25 : decode cX3_setPlates 25 = .ok (.istore_n 2, 1) := by decide +kernel
theorem dX3_setPlates_26 : decode cX3_setPlates 26 = .ok (.aload_n 0, 1) := by decide +kernel
theorem dX3_setPlates_27 : decode cX3_setPlates 27 = .ok (.iload_n 1, 1) := by decide +kernel
theorem dX3_setPlates_28 : decode cX3_setPlates 28 = .ok (.putfield 46, 3) := by decide +kernel
theorem dX3_setPlates_31 : decode cX3_setPlates 31 = .ok (.aload_n 0, 1) := by decide +kernel
theorem dX3_setPlates_32 : decode cX3_setPlates 32 = .ok (.invokevirtual 65, 3) := by decide +kernel
theorem dX3_setPlates_35 : decode cX3_setPlates 35 = .ok (.ifCond .eq 5, 3) := by decide +kernel
theorem dX3_setPlates_38 : decode cX3_setPlates 38 = .ok (.iload_n 2, 1) := by decide +kernel
theorem dX3_setPlates_39 : decode cX3_setPlates 39 = .ok (.ireturn, 1) := by decide +kernel
theorem dX3_setPlates_40 : decode cX3_setPlates 40 = .ok (.aload_n 0, 1) := by decide +kernel
theorem dX3_setPlates_41 : decode cX3_setPlates 41 = .ok (.iload_n 2, 1) := by decide +kernel
theorem dX3_setPlates_42 : decode cX3_setPlates 42 = .ok (.putfield 46, 3) := by decide +kernel
theorem dX3_setPlates_45 : decode cX3_setPlates 45 = .ok (.aload_n 0, 1) := by decide +kernel
theorem dX3_setPlates_46 : decode cX3_setPlates 46 = .ok (.iconst 2, 1) := by decide +kernel
theorem dX3_setPlates_47 : decode cX3_setPlates 47 = .ok (.invokevirtual 62, 3) := by decide +kernel
theorem dX3_setPlates_50 : decode cX3_setPlates 50 = .ok (.ireturn, 1) := by decide +kernel
set_option maxRecDepth 20000 in
theorem ggX3_setOutrigger_X3_isSide : GoodIn wsX3_setOutrigger wsX3_isSide := goodIn_r _ [7, 8, 9, 6, 10] (by decide +kernel) (by decide +kernel)
set_option maxRecDepth 20000 in
theorem gX3_setOutrigger_X3_isSide : GoodIn wsX3_setOutrigger (va_wsS RX3 68 yX3_isSide wsX3_isSide) := goodIn_app (goodIn_of _ (by decide +kernel)) ggX3_setOutrigger_X3_isSide
set_option maxRecDepth 20000 in
theorem ggX3_setOutrigger_X3_no : GoodIn wsX3_setOutrigger wsX3_no := goodIn_r _ [14, 1, 39, 40, 41, 42, 43, 44, 45, 46, 47, 48, 49, 50, 51] (by decide +kernel) (by decide +kernel)
set_option maxRecDepth 20000 in
theorem gX3_setOutrigger_X3_no : GoodIn wsX3_setOutrigger (wsV RX3 62 RX3 yX3_no wsX3_no) := goodIn_app (goodIn_of _ (by decide +kernel)) ggX3_setOutrigger_X3_no
set_option maxRecDepth 20000 in
theorem ggX3_setOutrigger_X3_isIn : GoodIn wsX3_setOutrigger wsX3_isIn := goodIn_r _ [10] (by decide +kernel) (by decide +kernel)
set_option maxRecDepth 20000 in
theorem gX3_setOutrigger_X3_isIn : GoodIn wsX3_setOutrigger (va_wsS RX3 29 yX3_isIn wsX3_isIn) := goodIn_app (goodIn_of _ (by decide +kernel)) ggX3_setOutrigger_X3_isIn
set_option maxRecDepth 20000 in
theorem ggX3_setOutrigger_X3_isSafe_ : GoodIn wsX3_setOutrigger wsX3_isSafe_ := goodIn_r _ [18, 3, 19, 20, 21, 22, 23, 6, 24, 25, 26, 27, 28, 29, 30, 31, 32, 33, 34, 35, 36, 37, 2, 38, 39, 40, 41, 42, 43, 44, 45, 46, 47, 48, 49, 50, 51] (by decide +kernel) (by decide +kernel)
set_option maxRecDepth 20000 in
theorem gX3_setOutrigger_X3_isSafe_ : GoodIn wsX3_setOutrigger (wsV RX3 65 RX3 yX3_isSafe_ wsX3_isSafe_) := goodIn_app (goodIn_of _ (by decide +kernel)) ggX3_setOutrigger_X3_isSafe_
theorem dX3_setOutrigger_0 : decode cX3_setOutrigger 0 = .ok (.aload_n 0, 1) := by decide +kernel
theorem dX3_setOutrigger_1 : decode cX3_setOutrigger 1 = .ok (.iconst 0, 1) := by decide +kernel
theorem dX3_setOutrigger_2 : decode cX3_setOutrigger 2 = .ok (.putfield 26, 3) := by decide +kernel
theorem dX3_setOutrigger_5 : decode cX3_setOutrigger 5 = .ok (.iload_n 1, 1) := by decide +kernel
theorem dX3_setOutrigger_6 : decode cX3_setOutrigger 6 = .ok (.invokestatic 68, 3) := by decide +kernel
theorem dX3_setOutrigger_9 : decode cX3_setOutrigger 9 = .ok (.ifCond .ne 9, 3) := by decide +kernel
theorem dX3_setOutrigger_12 : decode cX3_setOutrigger 12 = .ok (.aload_n 0, 1) := by decide +kernel
theorem dX3_setOutrigger_13 : decode cX3_setOutrigger 13 = .ok (.iconst 1, 1) := by decide +kernel
theorem dX3_setOutrigger_14 : decode cX3_setOutrigger 14 = .ok (.invokevirtual 62, 3) := by decide +kernel
theorem dX3_setOutrigger_17 : decode cX3_setOutrigger 17 = .ok (.ireturn, 1) := by decide +kernel
theorem dX3_setOutrigger_18 : decode cX3_setOutrigger 18 = .ok (.iload_n 2, 1) := by decide +kernel
theorem dX3_setOutrigger_19 : decode cX3_setOutrigger 19 = .ok (.iconst 0, 1) := by decide +kernel
theorem dX3_setOutrigger_20 : decode cX3_setOutrigger 20 = .ok (.bipush 6, 2) := by decide +kernel
theorem dX3_setOutrigger_22 : decode cX3_setOutrigger 22 = .ok (.invokestatic 29, 3) := by decide +kernel
theorem dX3_setOutrigger_25 : decode cX3_setOutrigger 25 = .ok (.ifCond .ne 9, 3) := by decide +kernel
theorem dX3_setOutrigger_28 : decode cX3_setOutrigger 28 = .ok (.aload_n 0, 1) := by decide +kernel
theorem dX3_setOutrigger_29 : decode cX3_setOutrigger 29 = .ok (.iconst 2, 1) := by decide +kernel
theorem dX3_setOutrigger_30 : decode cX3_setOutrigger 30 = .ok (.invokevirtual 62, 3) := by decide +kernel
theorem dX3_setOutrigger_33 : decode cX3_setOutrigger 33 = .ok (.ireturn, 1) := by decide +kernel
theorem dX3_setOutrigger_34 : decode cX3_setOutrigger 34 = .ok (.aload_n 0, 1) := by decide +kernel
theorem dX3_setOutrigger_35 : decode cX3_setOutrigger 35 = .ok (.getfield 13, 3) := by decide +kernel
theorem dX3_setOutrigger_38 : decode cX3_setOutrigger 38 = .ok (.iload_n 1, 1) := by decide +kernel
theorem dX3_setOutrigger_39 : decode cX3_setOutrigger 39 = .ok (.iaload, 1) := by decide +kernel
theorem dX3_setOutrigger_40 : decode cX3_setOutrigger 40 = .ok (.istore_n 3, 1) := by decide +kernel
theorem dX3_setOutrigger_41 : decode cX3_setOutrigger 41 = .ok (.aload_n 0, 1) := by decide +kernel
theorem dX3_setOutrigger_42 : decode cX3_setOutrigger 42 = .ok (.getfield 13, 3) := by decide +kernel
theorem dX3_setOutrigger_45 : decode cX3_setOutrigger 45 = .ok (.iload_n 1, 1) := by decide +kernel
theorem dX3_setOutrigger_46 : decode cX3_setOutrigger 46 = .ok (.iload_n 2, 1) := by decide +kernel
theorem dX3_setOutrigger_47 : decode cX3_setOutrigger 47 = .ok (.iastore, 1) := by decide +kernel
theorem dX3_setOutrigger_48 : decode cX3_setOutrigger 48 = .ok (.aload_n 0, 1) := by decide +kernel
theorem dX3_setOutrigger_49 : decode cX3_setOutrigger 49 = .ok (.getfield 53, 3) := by decide +kernel
theorem dX3_setOutrigger_52 : decode cX3_setOutrigger 52 = .ok (.ifCond .ne 12, 3) := by decide +kernel
theorem dX3_setOutrigger_55 : decode cX3_setOutrigger 55 = .ok (.aload_n 0, 1) := by decide +kernel
theorem dX3_setOutrigger_56 : decode cX3_setOutrigger 56 = .ok (.invokevirtual 65, 3) := by decide +kernel
theorem dX3_setOutrigger_59 : decode cX3_setOutrigger 59 = .ok (.ifCond .eq 5, 3) := by decide +kernel
theorem dX3_setOutrigger_62 : decode cX3_setOutrigger 62 = .ok (.iload_n 3, 1) := by decide +kernel
theorem dX3_setOutrigger_63 : decode cX3_setOutrigger 63 = .ok (.ireturn, 1) := by decide +kernel
theorem dX3_setOutrigger_64 : decode cX3_setOutrigger 64 = .ok (.aload_n 0, 1) := by decide +kernel
theorem dX3_setOutrigger_65 : decode cX3_setOutrigger 65 = .ok (.getfield 13, 3) := by decide +kernel
theorem dX3_setOutrigger_68 : decode cX3_setOutrigger 68 = .ok (.iload_n 1, 1) := by decide +kernel
theorem dX3_setOutrigger_69 : decode cX3_setOutrigger 69 = .ok (.iload_n 3, 1) := by decide +kernel
theorem dX3_setOutrigger_70 : decode cX3_setOutrigger 70 = .ok (.iastore, 1) := by decide +kernel
theorem dX3_setOutrigger_71 : decode cX3_setOutrigger 71 = .ok (.aload_n 0, 1) := by decide +kernel
theorem dX3_setOutrigger_72 : decode cX3_setOutrigger 72 = .ok (.iconst 3, 1) := by decide +kernel
theorem dX3_setOutrigger_73 : decode cX3_setOutrigger 73 = .ok (.invokevirtual 62, 3) := by decide +kernel
theorem dX3_setOutrigger_76 : decode cX3_setOutrigger 76 = .ok (.ireturn, 1) := by decide +kernel
set_option maxRecDepth 20000 in
theorem ggX3_setLimit_X3_isReach : GoodIn wsX3_setLimit wsX3_isReach := goodIn_r _ [8, 9, 10, 7, 11] (by decide +kernel) (by decide +kernel)
set_option maxRecDepth 20000 in
theorem gX3_setLimit_X3_isReach : GoodIn wsX3_setLimit (va_wsS RX3 72 yX3_isReach wsX3_isReach) := goodIn_app (goodIn_of _ (by decide +kernel)) ggX3_setLimit_X3_isReach
set_option maxRecDepth 20000 in
theorem ggX3_setLimit_X3_isLoad : GoodIn wsX3_setLimit wsX3_isLoad := goodIn_r _ [14, 9, 10, 7, 11] (by decide +kernel) (by decide +kernel)
set_option maxRecDepth 20000 in
theorem gX3_setLimit_X3_isLoad : GoodIn wsX3_setLimit (va_wsS RX3 75 yX3_isLoad wsX3_isLoad) := goodIn_app (goodIn_of _ (by decide +kernel)) ggX3_setLimit_X3_isLoad
set_option maxRecDepth 20000 in
theorem ggX3_setLimit_X3_no : GoodIn wsX3_setLimit wsX3_no := goodIn_r _ [18, 1, 19, 20, 21, 22, 23, 24, 25, 26, 27, 28, 29, 30, 31] (by decide +kernel) (by decide +kernel)
set_option maxRecDepth 20000 in
theorem gX3_setLimit_X3_no : GoodIn wsX3_setLimit (wsV RX3 62 RX3 yX3_no wsX3_no) := goodIn_app (goodIn_of _ (by decide +kernel)) ggX3_setLimit_X3_no
theorem dX3_setLimit_0 : decode cX3_setLimit 0 = .ok (.aload_n 0, 1) := by decide +kernel
theorem dX3_setLimit_1 : decode cX3_setLimit 1 = .ok (.iconst 0, 1) := by decide +kernel
theorem dX3_setLimit_2 : decode cX3_setLimit 2 = .ok (.putfield 26, 3) := by decide +kernel
theorem dX3_setLimit_5 : decode cX3_setLimit 5 = .ok (.iload_n 1, 1) := by decide +kernel
theorem dX3_setLimit_6 : decode cX3_setLimit 6 = .ok (.invokestatic 72, 3) := by decide +kernel
theorem dX3_setLimit_9 : decode cX3_setLimit 9 = .ok (.ifCond .eq 10, 3) := by decide +kernel
theorem dX3_setLimit_12 : decode cX3_setLimit 12 = .ok (.iload_n 2, 1) := by decide +kernel
theorem dX3_setLimit_13 : decode cX3_setLimit 13 = .ok (.invokestatic 75, 3) := by decide +kernel
theorem dX3_setLimit_16 : decode cX3_setLimit 16 = .ok (.ifCond .ne 9, 3) := by decide +kernel
theorem dX3_setLimit_19 : decode cX3_setLimit 19 = .ok (.aload_n 0, 1) := by decide +kernel
theorem dX3_setLimit_20 : decode cX3_setLimit 20 = .ok (.iconst 1, 1) := by decide +kernel
theorem dX3_setLimit_21 : decode cX3_setLimit 21 = .ok (.invokevirtual 62, 3) := by decide +kernel
theorem dX3_setLimit_24 : decode cX3_setLimit 24 = .ok (.ireturn, 1) := by decide +kernel
theorem dX3_setLimit_25 : decode cX3_setLimit 25 = .ok (.iload_n 1, 1) := by decide +kernel
theorem dX3_setLimit_26 : decode cX3_setLimit 26 = .ok (.aload_n 0, 1) := by decide +kernel
theorem dX3_setLimit_27 : decode cX3_setLimit 27 = .ok (.getfield 9, 3) := by decide +kernel
theorem dX3_setLimit_30 : decode cX3_setLimit 30 = .ok (.if_icmp .ne 17, 3) := by decide +kernel
theorem dX3_setLimit_33 : decode cX3_setLimit 33 = .ok (.aload_n 0, 1) := by decide +kernel
theorem dX3_setLimit_34 : decode cX3_setLimit 34 = .ok (.getfield 53, 3) := by decide +kernel
theorem dX3_setLimit_37 : decode cX3_setLimit 37 = .ok (.iload_n 2, 1) := by decide +kernel
theorem dX3_setLimit_38 : decode cX3_setLimit 38 = .ok (.if_icmp .le 9, 3) := by decide +kernel
theorem dX3_setLimit_41 : decode cX3_setLimit 41 = .ok (.aload_n 0, 1) := by decide +kernel
theorem dX3_setLimit_42 : decode cX3_setLimit 42 = .ok (.iconst 2, 1) := by decide +kernel
theorem dX3_setLimit_43 : decode cX3_setLimit 43 = .ok (.invokevirtual 62, 3) := by decide +kernel
theorem dX3_setLimit_46 : decode cX3_setLimit 46 = .ok (.ireturn, 1) := by decide +kernel
theorem dX3_setLimit_47 : decode cX3_setLimit 47 = .ok (.aload_n 0, 1) := by decide +kernel
theorem dX3_setLimit_48 : decode cX3_setLimit 48 = .ok (.getfield 17, 3) := by decide +kernel
theorem dX3_setLimit_51 : decode cX3_setLimit 51 = .ok (.iload_n 1, 1) := by decide +kernel
theorem dX3_setLimit_52 : decode cX3_setLimit 52 = .ok (.iaload, 1) := by decide +kernel
theorem dX3_setLimit_53 : decode cX3_setLimit 53 = .ok (.istore_n 3, 1) := by decide +kernel
theorem dX3_setLimit_54 : decode cX3_setLimit 54 = .ok (.aload_n 0, 1) := by decide +kernel
theorem dX3_setLimit_55 : decode cX3_setLimit 55 = .ok (.getfield 17, 3) := by decide +kernel
theorem dX3_setLimit_58 : decode cX3_setLimit 58 = .ok (.iload_n 1, 1) := by decide +kernel
theorem dX3_setLimit_59 : decode cX3_setLimit 59 = .ok (.iload_n 2, 1) := by decide +kernel
theorem dX3_setLimit_60 : decode cX3_setLimit 60 = .ok (.iastore, 1) := by decide +kernel
theorem dX3_setLimit_61 : decode cX3_setLimit 61 = .ok (.iload_n 3, 1) := by decide +kernel
theorem dX3_setLimit_62 : decode cX3_setLimit 62 = .ok (.ireturn, 1) := by decide +kernel
set_option maxRecDepth 20000 in
theorem ggX3_lift_X3_isIn : GoodIn wsX3_lift wsX3_isIn := goodIn_r _ [10] (by decide +kernel) (by decide +kernel)
set_option maxRecDepth 20000 in
theorem gX3_lift_X3_isIn : GoodIn wsX3_lift (va_wsS RX3 29 yX3_isIn wsX3_isIn) := goodIn_app (goodIn_of _ (by decide +kernel)) ggX3_lift_X3_isIn
set_option maxRecDepth 20000 in
theorem ggX3_lift_X3_no : GoodIn wsX3_lift wsX3_no := goodIn_r _ [14, 1, 34, 35, 36, 37, 38, 39, 40, 41, 42, 43, 44, 45, 46] (by decide +kernel) (by decide +kernel)
set_option maxRecDepth 20000 in
theorem gX3_lift_X3_no : GoodIn wsX3_lift (wsV RX3 62 RX3 yX3_no wsX3_no) := goodIn_app (goodIn_of _ (by decide +kernel)) ggX3_lift_X3_no
set_option maxRecDepth 20000 in
theorem ggX3_lift_X3_isSafe : GoodIn wsX3_lift wsX3_isSafe := goodIn_r _ [18, 19, 20, 21, 22, 9, 23, 24, 25, 26, 27, 28, 29, 30, 31, 32, 33, 34, 35, 36, 37, 38, 39, 40, 41, 42, 43, 44, 45, 46] (by decide +kernel) (by decide +kernel)
set_option maxRecDepth 20000 in
theorem gX3_lift_X3_isSafe : GoodIn wsX3_lift (wsV RX3 59 RX3 yX3_isSafe wsX3_isSafe) := goodIn_app (goodIn_of _ (by decide +kernel)) ggX3_lift_X3_isSafe
theorem dX3_lift_0 : decode cX3_lift 0 = .ok (.aload_n 0, 1) := by decide +kernel
theorem dX3_lift_1 : decode cX3_lift 1 = .ok (.iconst 0, 1) := by decide +kernel
theorem dX3_lift_2 : decode cX3_lift 2 = .ok (.putfield 26, 3) := by decide +kernel
theorem dX3_lift_5 : decode cX3_lift 5 = .ok (.iload_n 1, 1) := by decide +kernel
theorem dX3_lift_6 : decode cX3_lift 6 = .ok (.iconst 1, 1) := by decide +kernel
theorem dX3_lift_7 : decode cX3_lift 7 = .ok (.bipush 60, 2) := by decide +kernel
theorem dX3_lift_9 : decode cX3_lift 9 = .ok (.invokestatic 29, 3) := by decide +kernel
theorem dX3_lift_12 : decode cX3_lift 12 = .ok (.ifCond .ne 9, 3) := by decide +kernel
theorem dX3_lift_15 : decode cX3_lift 15 = .ok (.aload_n 0, 1) := by decide +kernel
theorem dX3_lift_16 : decode cX3_lift 16 = .ok (.iconst 1, 1) := by decide +kernel
theorem dX3_lift_17 : decode cX3_lift 17 = .ok (.invokevirtual 62, 3) := by decide +kernel
theorem dX3_lift_20 : decode cX3_lift 20 = .ok (.ireturn, 1) := by decide +kernel
theorem dX3_lift_21 : decode cX3_lift 21 = .ok (.aload_n 0, 1) := by decide +kernel
theorem dX3_lift_22 : decode cX3_lift 22 = .ok (.getfield 53, 3) := by decide +kernel
theorem dX3_lift_25 : decode cX3_lift 25 = .ok (.ifCond .gt 19, 3) := by decide +kernel
theorem dX3_lift_28 : decode cX3_lift 28 = .ok (.aload_n 0, 1) := by decide +kernel
theorem dX3_lift_29 : decode cX3_lift 29 = .ok (.iload_n 1, 1) := by decide +kernel
theorem dX3_lift_30 : decode cX3_lift 30 = .ok (.aload_n 0, 1) := by decide +kernel
theorem dX3_lift_31 : decode cX3_lift 31 = .ok (.getfield 56, 3) := by decide +kernel
theorem dX3_lift_34 : decode cX3_lift 34 = .ok (.aload_n 0, 1) := by decide +kernel
theorem dX3_lift_35 : decode cX3_lift 35 = .ok (.getfield 9, 3) := by decide +kernel
theorem dX3_lift_38 : decode cX3_lift 38 = .ok (.invokevirtual 59, 3) := by decide +kernel
theorem dX3_lift_41 : decode cX3_lift 41 = .ok (.ifCond .ne 9, 3) := by decide +kernel
theorem dX3_lift_44 : decode cX3_lift 44 = .ok (.aload_n 0, 1) := by decide +kernel
theorem dX3_lift_45 : decode cX3_lift 45 = .ok (.iconst 2, 1) := by decide +kernel
theorem dX3_lift_46 : decode cX3_lift 46 = .ok (.invokevirtual 62, 3) := by decide +kernel
theorem dX3_lift_49 : decode cX3_lift 49 = .ok (.ireturn, 1) := by decide +kernel
theorem dX3_lift_50 : decode cX3_lift 50 = .ok (.aload_n 0, 1) := by decide +kernel
theorem dX3_lift_51 : decode cX3_lift 51 = .ok (.iload_n 1, 1) := by decide +kernel
theorem dX3_lift_52 : decode cX3_lift 52 = .ok (.putfield 53, 3) := by decide +kernel
theorem dX3_lift_55 : decode cX3_lift 55 = .ok (.aload_n 0, 1) := by decide +kernel
theorem dX3_lift_56 : decode cX3_lift 56 = .ok (.dup, 1) := by decide +kernel
theorem dX3_lift_57 : decode cX3_lift 57 = .ok (.getfield 78, 3) := by decide +kernel
theorem dX3_lift_60 : decode cX3_lift 60 = .ok (.iconst 1, 1) := by decide +kernel
theorem dX3_lift_61 : decode cX3_lift 61 = .ok (.iadd, 1) := by decide +kernel
theorem dX3_lift_62 : decode cX3_lift 62 = .ok (.putfield 78, 3) := by decide +kernel
theorem dX3_lift_65 : decode cX3_lift 65 = .ok (.aload_n 0, 1) := by decide +kernel
theorem dX3_lift_66 : decode cX3_lift 66 = .ok (.dup, 1) := by decide +kernel
theorem dX3_lift_67 : decode cX3_lift 67 = .ok (.getfield 81, 3) := by decide +kernel
theorem dX3_lift_70 : decode cX3_lift 70 = .ok (.iload_n 1, 1) := by decide +kernel
theorem dX3_lift_71 : decode cX3_lift 71 = .ok (.iadd, 1) := by decide +kernel
theorem dX3_lift_72 : decode cX3_lift 72 = .ok (.putfield 81, 3) := by decide +kernel
theorem dX3_lift_75 : decode cX3_lift 75 = .ok (.aload_n 0, 1) := by decide +kernel
theorem dX3_lift_76 : decode cX3_lift 76 = .ok (.getfield 78, 3) := by decide +kernel
theorem dX3_lift_79 : decode cX3_lift 79 = .ok (.ireturn, 1) := by decide +kernel
set_option maxRecDepth 20000 in
theorem ggX3_setDown_X3_isSafe : GoodIn wsX3_setDown wsX3_isSafe := goodIn_r _ [9, 10, 11, 12, 13, 8, 14, 15, 16, 17, 18, 19, 20, 21, 22, 23, 24, 29, 30, 31, 32, 33, 34, 35, 36, 37, 38, 39, 40, 41] (by decide +kernel) (by decide +kernel)
set_option maxRecDepth 20000 in
theorem gX3_setDown_X3_isSafe : GoodIn wsX3_setDown (wsV RX3 59 RX3 yX3_isSafe wsX3_isSafe) := goodIn_app (goodIn_of _ (by decide +kernel)) ggX3_setDown_X3_isSafe
set_option maxRecDepth 20000 in
theorem ggX3_setDown_X3_no : GoodIn wsX3_setDown wsX3_no := goodIn_r _ [28, 1, 29, 30, 31, 32, 33, 34, 35, 36, 37, 38, 39, 40, 41] (by decide +kernel) (by decide +kernel)
set_option maxRecDepth 20000 in
theorem gX3_setDown_X3_no : GoodIn wsX3_setDown (wsV RX3 62 RX3 yX3_no wsX3_no) := goodIn_app (goodIn_of _ (by decide +kernel)) ggX3_setDown_X3_no
theorem dX3_setDown_0 : decode cX3_setDown 0 = .ok (.aload_n 0, 1) := by decide +kernel
theorem dX3_setDown_1 : decode cX3_setDown 1 = .ok (.iconst 0, 1) := by decide +kernel
theorem dX3_setDown_2 : decode cX3_setDown 2 = .ok (.putfield 26, 3) := by decide +kernel
theorem dX3_setDown_5 : decode cX3_setDown 5 = .ok (.aload_n 0, 1) := by decide +kernel
theorem dX3_setDown_6 : decode cX3_setDown 6 = .ok (.getfield 53, 3) := by decide +kernel
theorem dX3_setDown_9 : decode cX3_setDown 9 = .ok (.ifCond .eq 19, 3) := by decide +kernel
theorem dX3_setDown_12 : decode cX3_setDown 12 = .ok (.aload_n 0, 1) := by decide +kernel
theorem dX3_setDown_13 : decode cX3_setDown 13 = .ok (.iconst 0, 1) := by decide +kernel
theorem dX3_setDown_14 : decode cX3_setDown 14 = .ok (.aload_n 0, 1) := by decide +kernel
theorem dX3_setDown_15 : decode cX3_setDown 15 = .ok (.getfield 56, 3) := by decide +kernel
theorem dX3_setDown_18 : decode cX3_setDown 18 = .ok (.aload_n 0, 1) := by decide +kernel
theorem dX3_setDown_19 : decode cX3_setDown 19 = .ok (.getfield 9, 3) := by decide +kernel
theorem dX3_setDown_22 : decode cX3_setDown 22 = .ok (.invokevirtual 59, 3) := by decide +kernel
theorem dX3_setDown_25 : decode cX3_setDown 25 = .ok (.ifCond .ne 9, 3) := by decide +kernel
theorem dX3_setDown_28 : decode cX3_setDown 28 = .ok (.aload_n 0, 1) := by decide +kernel
theorem dX3_setDown_29 : decode cX3_setDown 29 = .ok (.iconst 1, 1) := by decide +kernel
theorem dX3_setDown_30 : decode cX3_setDown 30 = .ok (.invokevirtual 62, 3) := by decide +kernel
theorem dX3_setDown_33 : decode cX3_setDown 33 = .ok (.ireturn, 1) := by decide +kernel
theorem dX3_setDown_34 : decode cX3_setDown 34 = .ok (.aload_n 0, 1) := by decide +kernel
theorem dX3_setDown_35 : decode cX3_setDown 35 = .ok (.getfield 53, 3) := by decide +kernel
theorem dX3_setDown_38 : decode cX3_setDown 38 = .ok (.istore_n 1, 1) := by decide +kernel
theorem dX3_setDown_39 : decode cX3_setDown 39 = .ok (.aload_n 0, 1) := by decide +kernel
theorem dX3_setDown_40 : decode cX3_setDown 40 = .ok (.iconst 0, 1) := by decide +kernel
theorem dX3_setDown_41 : decode cX3_setDown 41 = .ok (.putfield 53, 3) := by decide +kernel
theorem dX3_setDown_44 : decode cX3_setDown 44 = .ok (.iload_n 1, 1) := by decide +kernel
theorem dX3_setDown_45 : decode cX3_setDown 45 = .ok (.ireturn, 1) := by decide +kernel
theorem dX3_moved_0 : decode cX3_moved 0 = .ok (.aload_n 0, 1) := by decide +kernel
theorem dX3_moved_1 : decode cX3_moved 1 = .ok (.dup, 1) := by decide +kernel
theorem dX3_moved_2 : decode cX3_moved 2 = .ok (.getfield 84, 3) := by decide +kernel
theorem dX3_moved_5 : decode cX3_moved 5 = .ok (.aload_n 0, 1) := by decide +kernel
theorem dX3_moved_6 : decode cX3_moved 6 = .ok (.getfield 53, 3) := by decide +kernel
theorem dX3_moved_9 : decode cX3_moved 9 = .ok (.ifCond .le 7, 3) := by decide +kernel
theorem dX3_moved_12 : decode cX3_moved 12 = .ok (.iconst 1, 1) := by decide +kernel
theorem dX3_moved_13 : decode cX3_moved 13 = .ok (.goto 4, 3) := by decide +kernel
theorem dX3_moved_16 : decode cX3_moved 16 = .ok (.iconst 0, 1) := by decide +kernel
theorem dX3_moved_17 : decode cX3_moved 17 = .ok (.iadd, 1) := by decide +kernel
theorem dX3_moved_18 : decode cX3_moved 18 = .ok (.putfield 84, 3) := by decide +kernel
theorem dX3_moved_21 : decode cX3_moved 21 = .ok (.return_, 1) := by decide +kernel
set_option maxRecDepth 20000 in
theorem ggX3_swing_X3_isIn : GoodIn wsX3_swing wsX3_isIn := goodIn_r _ [8] (by decide +kernel) (by decide +kernel)
set_option maxRecDepth 20000 in
theorem gX3_swing_X3_isIn : GoodIn wsX3_swing (va_wsS RX3 29 yX3_isIn wsX3_isIn) := goodIn_app (goodIn_of _ (by decide +kernel)) ggX3_swing_X3_isIn
set_option maxRecDepth 20000 in
theorem ggX3_swing_X3_no : GoodIn wsX3_swing wsX3_no := goodIn_r _ [12, 1, 37, 38, 39, 40, 41, 42, 43, 44, 45, 46, 47, 48, 49] (by decide +kernel) (by decide +kernel)
set_option maxRecDepth 20000 in
theorem gX3_swing_X3_no : GoodIn wsX3_swing (wsV RX3 62 RX3 yX3_no wsX3_no) := goodIn_app (goodIn_of _ (by decide +kernel)) ggX3_swing_X3_no
set_option maxRecDepth 20000 in
theorem ggX3_swing_X3_isSafe : GoodIn wsX3_swing wsX3_isSafe := goodIn_r _ [16, 17, 18, 19, 20, 7, 21, 22, 23, 24, 25, 26, 27, 28, 29, 30, 31, 37, 38, 39, 40, 41, 42, 43, 44, 45, 46, 47, 48, 49] (by decide +kernel) (by decide +kernel)
set_option maxRecDepth 20000 in
theorem gX3_swing_X3_isSafe : GoodIn wsX3_swing (wsV RX3 59 RX3 yX3_isSafe wsX3_isSafe) := goodIn_app (goodIn_of _ (by decide +kernel)) ggX3_swing_X3_isSafe
set_option maxRecDepth 20000 in
theorem ggX3_swing_X3_moved : GoodIn wsX3_swing wsX3_moved := goodIn_r _ [35, 36, 3, 37, 38, 39, 40, 41, 42, 43, 44, 45, 46, 47, 48, 49] (by decide +kernel) (by decide +kernel)
set_option maxRecDepth 20000 in
theorem gX3_swing_X3_moved : GoodIn wsX3_swing (wsV RX3 87 RX3 yX3_moved wsX3_moved) := goodIn_app (goodIn_of _ (by decide +kernel)) ggX3_swing_X3_moved
theorem dX3_swing_0 : decode cX3_swing 0 = .ok (.aload_n 0, 1) := by decide +kernel
theorem dX3_swing_1 : decode cX3_swing 1 = .ok (.iconst 0, 1) := by decide +kernel
theorem dX3_swing_2 : decode cX3_swing 2 = .ok (.putfield 26, 3) := by decide +kernel
theorem dX3_swing_5 : decode cX3_swing 5 = .ok (.iload_n 1, 1) := by decide +kernel
theorem dX3_swing_6 : decode cX3_swing 6 = .ok (.iconst 1, 1) := by decide +kernel
theorem dX3_swing_7 : decode cX3_swing 7 = .ok (.bipush 8, 2) := by decide +kernel
theorem dX3_swing_9 : decode cX3_swing 9 = .ok (.invokestatic 29, 3) := by decide +kernel
theorem dX3_swing_12 : decode cX3_swing 12 = .ok (.ifCond .ne 9, 3) := by decide +kernel
theorem dX3_swing_15 : decode cX3_swing 15 = .ok (.aload_n 0, 1) := by decide +kernel
theorem dX3_swing_16 : decode cX3_swing 16 = .ok (.iconst 1, 1) := by decide +kernel
theorem dX3_swing_17 : decode cX3_swing 17 = .ok (.invokevirtual 62, 3) := by decide +kernel
theorem dX3_swing_20 : decode cX3_swing 20 = .ok (.ireturn, 1) := by decide +kernel
theorem dX3_swing_21 : decode cX3_swing 21 = .ok (.iconst 0, 1) := by decide +kernel
theorem dX3_swing_22 : decode cX3_swing 22 = .ok (.istore_n 3, 1) := by decide +kernel
theorem dX3_swing_23 : decode cX3_swing 23 = .ok (.iload_n 3, 1) := by decide +kernel
theorem dX3_swing_24 : decode cX3_swing 24 = .ok (.iload_n 1, 1) := by decide +kernel
theorem dX3_swing_25 : decode cX3_swing 25 = .ok (.if_icmp .ge 58, 3) := by decide +kernel
theorem dX3_swing_28 : decode cX3_swing 28 = .ok (.aload_n 0, 1) := by decide +kernel
theorem dX3_swing_29 : decode cX3_swing 29 = .ok (.getfield 56, 3) := by decide +kernel
theorem dX3_swing_32 : decode cX3_swing 32 = .ok (.iload_n 2, 1) := by decide +kernel
theorem dX3_swing_33 : decode cX3_swing 33 = .ok (.ifCond .eq 7, 3) := by decide +kernel
theorem dX3_swing_36 : decode cX3_swing 36 = .ok (.iconst 1, 1) := by decide +kernel
theorem dX3_swing_37 : decode cX3_swing 37 = .ok (.goto 5, 3) := by decide +kernel
theorem dX3_swing_40 : decode cX3_swing 40 = .ok (.bipush 7, 2) := by decide +kernel
theorem dX3_swing_42 : decode cX3_swing 42 = .ok (.iadd, 1) := by decide +kernel
theorem dX3_swing_43 : decode cX3_swing 43 = .ok (.bipush 8, 2) := by decide +kernel
theorem dX3_swing_45 : decode cX3_swing 45 = .ok (.irem, 1) := by decide +kernel
theorem dX3_swing_46 : decode cX3_swing 46 = .ok (.istore 4, 2) := by decide +kernel
theorem dX3_swing_48 : decode cX3_swing 48 = .ok (.aload_n 0, 1) := by decide +kernel
theorem dX3_swing_49 : decode cX3_swing 49 = .ok (.aload_n 0, 1) := by decide +kernel
theorem dX3_swing_50 : decode cX3_swing 50 = .ok (.getfield 53, 3) := by decide +kernel
theorem dX3_swing_53 : decode cX3_swing 53 = .ok (.iload 4, 2) := by decide +kernel
theorem dX3_swing_55 : decode cX3_swing 55 = .ok (.aload_n 0, 1) := by decide +kernel
theorem dX3_swing_56 : decode cX3_swing 56 = .ok (.getfield 9, 3) := by decide +kernel
theorem dX3_swing_59 : decode cX3_swing 59 = .ok (.invokevirtual 59, 3) := by decide +kernel
theorem dX3_swing_62 : decode cX3_swing 62 = .ok (.ifCond .ne 5, 3) := by decide +kernel
theorem dX3_swing_65 : decode cX3_swing 65 = .ok (.iload_n 3, 1) := by decide +kernel
theorem dX3_swing_66 : decode cX3_swing 66 = .ok (.ireturn, 1) := by decide +kernel
theorem dX3_swing_67 : decode cX3_swing 67 = .ok (.aload_n 0, 1) := by decide +kernel
theorem dX3_swing_68 : decode cX3_swing 68 = .ok (.iload 4, 2) := by decide +kernel
theorem dX3_swing_70 : decode cX3_swing 70 = .ok (.putfield 56, 3) := by decide +kernel
theorem dX3_swing_73 : decode cX3_swing 73 = .ok (.aload_n 0, 1) := by decide +kernel
theorem dX3_swing_74 : decode cX3_swing 74 = .ok (.invokevirtual 87, 3) := by decide +kernel
theorem dX3_swing_77 : decode cX3_swing 77 = .ok (.iinc 3 1, 3) := by decide +kernel
theorem dX3_swing_80 : decode cX3_swing 80 = .ok (.goto (-57), 3) := by decide +kernel
theorem dX3_swing_83 : decode cX3_swing 83 = .ok (.iload_n 1, 1) := by decide +kernel
theorem dX3_swing_84 : decode cX3_swing 84 = .ok (.ireturn, 1) := by decide +kernel
set_option maxRecDepth 20000 in
theorem ggX3_stretch_X3_isIn : GoodIn wsX3_stretch wsX3_isIn := goodIn_r _ [8] (by decide +kernel) (by decide +kernel)
set_option maxRecDepth 20000 in
theorem gX3_stretch_X3_isIn : GoodIn wsX3_stretch (va_wsS RX3 29 yX3_isIn wsX3_isIn) := goodIn_app (goodIn_of _ (by decide +kernel)) ggX3_stretch_X3_isIn
set_option maxRecDepth 20000 in
theorem ggX3_stretch_X3_no : GoodIn wsX3_stretch wsX3_no := goodIn_r _ [12, 1, 40, 41, 42, 43, 44, 45, 46, 47, 48, 49, 50, 51, 52] (by decide +kernel) (by decide +kernel)
set_option maxRecDepth 20000 in
theorem gX3_stretch_X3_no : GoodIn wsX3_stretch (wsV RX3 62 RX3 yX3_no wsX3_no) := goodIn_app (goodIn_of _ (by decide +kernel)) ggX3_stretch_X3_no
set_option maxRecDepth 20000 in
theorem ggX3_stretch_X3_isReach : GoodIn wsX3_stretch wsX3_isReach := goodIn_r _ [15, 5, 6, 7, 8] (by decide +kernel) (by decide +kernel)
set_option maxRecDepth 20000 in
theorem gX3_stretch_X3_isReach : GoodIn wsX3_stretch (va_wsS RX3 72 yX3_isReach wsX3_isReach) := goodIn_app (goodIn_of _ (by decide +kernel)) ggX3_stretch_X3_isReach
set_option maxRecDepth 20000 in
theorem ggX3_stretch_X3_isSafe : GoodIn wsX3_stretch wsX3_isSafe := goodIn_r _ [19, 20, 21, 22, 23, 7, 24, 25, 26, 27, 28, 29, 30, 31, 32, 33, 34, 40, 41, 42, 43, 44, 45, 46, 47, 48, 49, 50, 51, 52] (by decide +kernel) (by decide +kernel)
set_option maxRecDepth 20000 in
theorem gX3_stretch_X3_isSafe : GoodIn wsX3_stretch (wsV RX3 59 RX3 yX3_isSafe wsX3_isSafe) := goodIn_app (goodIn_of _ (by decide +kernel)) ggX3_stretch_X3_isSafe
set_option maxRecDepth 20000 in
theorem ggX3_stretch_X3_moved : GoodIn wsX3_stretch wsX3_moved := goodIn_r _ [38, 39, 3, 40, 41, 42, 43, 44, 45, 46, 47, 48, 49, 50, 51, 52] (by decide +kernel) (by decide +kernel)
set_option maxRecDepth 20000 in
theorem gX3_stretch_X3_moved : GoodIn wsX3_stretch (wsV RX3 87 RX3 yX3_moved wsX3_moved) := goodIn_app (goodIn_of _ (by decide +kernel)) ggX3_stretch_X3_moved
theorem dX3_stretch_0 : decode cX3_stretch 0 = .ok (.aload_n 0, 1) := by decide +kernel
theorem dX3_stretch_1 : decode cX3_stretch 1 = .ok (.iconst 0, 1) := by decide +kernel
theorem dX3_stretch_2 : decode cX3_stretch 2 = .ok (.putfield 26, 3) := by decide +kernel
theorem dX3_stretch_5 : decode cX3_stretch 5 = .ok (.iload_n 1, 1) := by decide +kernel
theorem dX3_stretch_6 : decode cX3_stretch 6 = .ok (.iconst 1, 1) := by decide +kernel
theorem dX3_stretch_7 : decode cX3_stretch 7 = .ok (.bipush 30, 2) := by decide +kernel
theorem dX3_stretch_9 : decode cX3_stretch 9 = .ok (.invokestatic 29, 3) := by decide +kernel
theorem dX3_stretch_12 : decode cX3_stretch 12 = .ok (.ifCond .ne 9, 3) := by decide +kernel
theorem dX3_stretch_15 : decode cX3_stretch 15 = .ok (.aload_n 0, 1) := by decide +kernel
theorem dX3_stretch_16 : decode cX3_stretch 16 = .ok (.iconst 1, 1) := by decide +kernel
theorem dX3_stretch_17 : decode cX3_stretch 17 = .ok (.invokevirtual 62, 3) := by decide +kernel
theorem dX3_stretch_20 : decode cX3_stretch 20 = .ok (.ireturn, 1) := by decide +kernel
theorem dX3_stretch_21 : decode cX3_stretch 21 = .ok (.iconst 0, 1) := by decide +kernel
theorem dX3_stretch_22 : decode cX3_stretch 22 = .ok (.istore_n 3, 1) := by decide +kernel
theorem dX3_stretch_23 : decode cX3_stretch 23 = .ok (.iload_n 3, 1) := by decide +kernel
theorem dX3_stretch_24 : decode cX3_stretch 24 = .ok (.iload_n 1, 1) := by decide +kernel
theorem dX3_stretch_25 : decode cX3_stretch 25 = .ok (.if_icmp .ge 62, 3) := by decide +kernel
theorem dX3_stretch_28 : decode cX3_stretch 28 = .ok (.aload_n 0, 1) := by decide +kernel
theorem dX3_stretch_29 : decode cX3_stretch 29 = .ok (.getfield 9, 3) := by decide +kernel
theorem dX3_stretch_32 : decode cX3_stretch 32 = .ok (.iload_n 2, 1) := by decide +kernel
theorem dX3_stretch_33 : decode cX3_stretch 33 = .ok (.ifCond .eq 7, 3) := by decide +kernel
theorem dX3_stretch_36 : decode cX3_stretch 36 = .ok (.iconst 1, 1) := by decide +kernel
theorem dX3_stretch_37 : decode cX3_stretch 37 = .ok (.goto 4, 3) := by decide +kernel
theorem dX3_stretch_40 : decode cX3_stretch 40 = .ok (.iconst (-1), 1) := by decide +kernel
theorem dX3_stretch_41 : decode cX3_stretch 41 = .ok (.iadd, 1) := by decide +kernel
theorem dX3_stretch_42 : decode cX3_stretch 42 = .ok (.istore 4, 2) := by decide +kernel
theorem dX3_stretch_44 : decode cX3_stretch 44 = .ok (.iload 4, 2) := by decide +kernel
theorem dX3_stretch_46 : decode cX3_stretch 46 = .ok (.invokestatic 72, 3) := by decide +kernel
theorem dX3_stretch_49 : decode cX3_stretch 49 = .ok (.ifCond .eq 20, 3) := by decide +kernel
theorem dX3_stretch_52 : decode cX3_stretch 52 = .ok (.aload_n 0, 1) := by decide +kernel
theorem dX3_stretch_53 : decode cX3_stretch 53 = .ok (.aload_n 0, 1) := by decide +kernel
theorem dX3_stretch_54 : decode cX3_stretch 54 = .ok (.getfield 53, 3) := by decide +kernel
theorem dX3_stretch_57 : decode cX3_stretch 57 = .ok (.aload_n 0, 1) := by decide +kernel
theorem dX3_stretch_58 : decode cX3_stretch 58 = .ok (.getfield 56, 3) := by decide +kernel
theorem dX3_stretch_61 : decode cX3_stretch 61 = .ok (.iload 4, 2) := by decide +kernel
theorem dX3_stretch_63 : decode cX3_stretch 63 = .ok (.invokevirtual 59, 3) := by decide +kernel
theorem dX3_stretch_66 : decode cX3_stretch 66 = .ok (.ifCond .ne 5, 3) := by decide +kernel
theorem dX3_stretch_69 : decode cX3_stretch 69 = .ok (.iload_n 3, 1) := by decide +kernel
theorem dX3_stretch_70 : decode cX3_stretch 70 = .ok (.ireturn, 1) := by decide +kernel
theorem dX3_stretch_71 : decode cX3_stretch 71 = .ok (.aload_n 0, 1) := by decide +kernel
theorem dX3_stretch_72 : decode cX3_stretch 72 = .ok (.iload 4, 2) := by decide +kernel
theorem dX3_stretch_74 : decode cX3_stretch 74 = .ok (.putfield 9, 3) := by decide +kernel
theorem dX3_stretch_77 : decode cX3_stretch 77 = .ok (.aload_n 0, 1) := by decide +kernel
theorem dX3_stretch_78 : decode cX3_stretch 78 = .ok (.invokevirtual 87, 3) := by decide +kernel
theorem dX3_stretch_81 : decode cX3_stretch 81 = .ok (.iinc 3 1, 3) := by decide +kernel
theorem dX3_stretch_84 : decode cX3_stretch 84 = .ok (.goto (-61), 3) := by decide +kernel
theorem dX3_stretch_87 : decode cX3_stretch 87 = .ok (.iload_n 1, 1) := by decide +kernel
theorem dX3_stretch_88 : decode cX3_stretch 88 = .ok (.ireturn, 1) := by decide +kernel
theorem dX3_ok_0 : decode cX3_ok 0 = .ok (.aload_n 0, 1) := by decide +kernel
theorem dX3_ok_1 : decode cX3_ok 1 = .ok (.iconst 0, 1) := by decide +kernel
theorem dX3_ok_2 : decode cX3_ok 2 = .ok (.putfield 26, 3) := by decide +kernel
theorem dX3_ok_5 : decode cX3_ok 5 = .ok (.iload_n 1, 1) := by decide +kernel
theorem dX3_ok_6 : decode cX3_ok 6 = .ok (.ireturn, 1) := by decide +kernel
set_option maxRecDepth 20000 in
theorem ggX3_direction_X3_ok : GoodIn wsX3_direction wsX3_ok := goodIn_r _ [6, 7, 8, 9, 10, 11, 12, 13, 14, 15, 16, 17, 18, 19, 20] (by decide +kernel) (by decide +kernel)
set_option maxRecDepth 20000 in
theorem gX3_direction_X3_ok : GoodIn wsX3_direction (wsV RX3 90 RX3 yX3_ok wsX3_ok) := goodIn_app (goodIn_of _ (by decide +kernel)) ggX3_direction_X3_ok
theorem dX3_direction_0 : decode cX3_direction 0 = .ok (.aload_n 0, 1) := by decide +kernel
theorem dX3_direction_1 : decode cX3_direction 1 = .ok (.aload_n 0, 1) := by decide +kernel
theorem dX3_direction_2 : decode cX3_direction 2 = .ok (.getfield 56, 3) := by decide +kernel
theorem dX3_direction_5 : decode cX3_direction 5 = .ok (.invokevirtual 90, 3) := by decide +kernel
theorem dX3_direction_8 : decode cX3_direction 8 = .ok (.ireturn, 1) := by decide +kernel
set_option maxRecDepth 20000 in
theorem ggX3_reach_X3_ok : GoodIn wsX3_reach wsX3_ok := goodIn_r _ [6, 7, 8, 9, 10, 11, 12, 13, 14, 15, 16, 17, 18, 19, 20] (by decide +kernel) (by decide +kernel)
set_option maxRecDepth 20000 in
theorem gX3_reach_X3_ok : GoodIn wsX3_reach (wsV RX3 90 RX3 yX3_ok wsX3_ok) := goodIn_app (goodIn_of _ (by decide +kernel)) ggX3_reach_X3_ok
theorem dX3_reach_0 : decode cX3_reach 0 = .ok (.aload_n 0, 1) := by decide +kernel
theorem dX3_reach_1 : decode cX3_reach 1 = .ok (.aload_n 0, 1) := by decide +kernel
theorem dX3_reach_2 : decode cX3_reach 2 = .ok (.getfield 9, 3) := by decide +kernel
theorem dX3_reach_5 : decode cX3_reach 5 = .ok (.invokevirtual 90, 3) := by decide +kernel
theorem dX3_reach_8 : decode cX3_reach 8 = .ok (.ireturn, 1) := by decide +kernel
set_option maxRecDepth 20000 in
theorem ggX3_load_X3_ok : GoodIn wsX3_load wsX3_ok := goodIn_r _ [6, 7, 8, 9, 10, 11, 12, 13, 14, 15, 16, 17, 18, 19, 20] (by decide +kernel) (by decide +kernel)
set_option maxRecDepth 20000 in
theorem gX3_load_X3_ok : GoodIn wsX3_load (wsV RX3 90 RX3 yX3_ok wsX3_ok) := goodIn_app (goodIn_of _ (by decide +kernel)) ggX3_load_X3_ok
theorem dX3_load_0 : decode cX3_load 0 = .ok (.aload_n 0, 1) := by decide +kernel
theorem dX3_load_1 : decode cX3_load 1 = .ok (.aload_n 0, 1) := by decide +kernel
theorem dX3_load_2 : decode cX3_load 2 = .ok (.getfield 53, 3) := by decide +kernel
theorem dX3_load_5 : decode cX3_load 5 = .ok (.invokevirtual 90, 3) := by decide +kernel
theorem dX3_load_8 : decode cX3_load 8 = .ok (.ireturn, 1) := by decide +kernel
set_option maxRecDepth 20000 in
theorem ggX3_plates_X3_ok : GoodIn wsX3_plates wsX3_ok := goodIn_r _ [6, 7, 8, 9, 10, 11, 12, 13, 14, 15, 16, 17, 18, 19, 20] (by decide +kernel) (by decide +kernel)
set_option maxRecDepth 20000 in
theorem gX3_plates_X3_ok : GoodIn wsX3_plates (wsV RX3 90 RX3 yX3_ok wsX3_ok) := goodIn_app (goodIn_of _ (by decide +kernel)) ggX3_plates_X3_ok
theorem dX3_plates_0 : decode cX3_plates 0 = .ok (.aload_n 0, 1) := by decide +kernel
theorem dX3_plates_1 : decode cX3_plates 1 = .ok (.aload_n 0, 1) := by decide +kernel
theorem dX3_plates_2 : decode cX3_plates 2 = .ok (.getfield 46, 3) := by decide +kernel
theorem dX3_plates_5 : decode cX3_plates 5 = .ok (.invokevirtual 90, 3) := by decide +kernel
theorem dX3_plates_8 : decode cX3_plates 8 = .ok (.ireturn, 1) := by decide +kernel
set_option maxRecDepth 20000 in
theorem ggX3_outrigger_X3_isSide : GoodIn wsX3_outrigger wsX3_isSide := goodIn_r _ [6, 7, 8, 5, 9] (by decide +kernel) (by decide +kernel)
set_option maxRecDepth 20000 in
theorem gX3_outrigger_X3_isSide : GoodIn wsX3_outrigger (va_wsS RX3 68 yX3_isSide wsX3_isSide) := goodIn_app (goodIn_of _ (by decide +kernel)) ggX3_outrigger_X3_isSide
set_option maxRecDepth 20000 in
theorem ggX3_outrigger_X3_no : GoodIn wsX3_outrigger wsX3_no := goodIn_r _ [13, 1, 14, 15, 16, 17, 18, 19, 20, 21, 22, 23, 24, 25, 26] (by decide +kernel) (by decide +kernel)
set_option maxRecDepth 20000 in
theorem gX3_outrigger_X3_no : GoodIn wsX3_outrigger (wsV RX3 62 RX3 yX3_no wsX3_no) := goodIn_app (goodIn_of _ (by decide +kernel)) ggX3_outrigger_X3_no
theorem dX3_outrigger_0 : decode cX3_outrigger 0 = .ok (.aload_n 0, 1) := by decide +kernel
theorem dX3_outrigger_1 : decode cX3_outrigger 1 = .ok (.iconst 0, 1) := by decide +kernel
theorem dX3_outrigger_2 : decode cX3_outrigger 2 = .ok (.putfield 26, 3) := by decide +kernel
theorem dX3_outrigger_5 : decode cX3_outrigger 5 = .ok (.iload_n 1, 1) := by decide +kernel
theorem dX3_outrigger_6 : decode cX3_outrigger 6 = .ok (.invokestatic 68, 3) := by decide +kernel
theorem dX3_outrigger_9 : decode cX3_outrigger 9 = .ok (.ifCond .eq 12, 3) := by decide +kernel
theorem dX3_outrigger_12 : decode cX3_outrigger 12 = .ok (.aload_n 0, 1) := by decide +kernel
theorem dX3_outrigger_13 : decode cX3_outrigger 13 = .ok (.getfield 13, 3) := by decide +kernel
theorem dX3_outrigger_16 : decode cX3_outrigger 16 = .ok (.iload_n 1, 1) := by decide +kernel
theorem dX3_outrigger_17 : decode cX3_outrigger 17 = .ok (.iaload, 1) := by decide +kernel
theorem dX3_outrigger_18 : decode cX3_outrigger 18 = .ok (.goto 8, 3) := by decide +kernel
theorem dX3_outrigger_21 : decode cX3_outrigger 21 = .ok (.aload_n 0, 1) := by decide +kernel
theorem dX3_outrigger_22 : decode cX3_outrigger 22 = .ok (.iconst 1, 1) := by decide +kernel
theorem dX3_outrigger_23 : decode cX3_outrigger 23 = .ok (.invokevirtual 62, 3) := by decide +kernel
theorem dX3_outrigger_26 : decode cX3_outrigger 26 = .ok (.ireturn, 1) := by decide +kernel
set_option maxRecDepth 20000 in
theorem ggX3_limitAt_X3_isReach : GoodIn wsX3_limitAt wsX3_isReach := goodIn_r _ [6, 7, 8, 5, 9] (by decide +kernel) (by decide +kernel)
set_option maxRecDepth 20000 in
theorem gX3_limitAt_X3_isReach : GoodIn wsX3_limitAt (va_wsS RX3 72 yX3_isReach wsX3_isReach) := goodIn_app (goodIn_of _ (by decide +kernel)) ggX3_limitAt_X3_isReach
set_option maxRecDepth 20000 in
theorem ggX3_limitAt_X3_no : GoodIn wsX3_limitAt wsX3_no := goodIn_r _ [13, 1, 14, 15, 16, 17, 18, 19, 20, 21, 22, 23, 24, 25, 26] (by decide +kernel) (by decide +kernel)
set_option maxRecDepth 20000 in
theorem gX3_limitAt_X3_no : GoodIn wsX3_limitAt (wsV RX3 62 RX3 yX3_no wsX3_no) := goodIn_app (goodIn_of _ (by decide +kernel)) ggX3_limitAt_X3_no
theorem dX3_limitAt_0 : decode cX3_limitAt 0 = .ok (.aload_n 0, 1) := by decide +kernel
theorem dX3_limitAt_1 : decode cX3_limitAt 1 = .ok (.iconst 0, 1) := by decide +kernel
theorem dX3_limitAt_2 : decode cX3_limitAt 2 = .ok (.putfield 26, 3) := by decide +kernel
theorem dX3_limitAt_5 : decode cX3_limitAt 5 = .ok (.iload_n 1, 1) := by decide +kernel
theorem dX3_limitAt_6 : decode cX3_limitAt 6 = .ok (.invokestatic 72, 3) := by decide +kernel
theorem dX3_limitAt_9 : decode cX3_limitAt 9 = .ok (.ifCond .eq 12, 3) := by decide +kernel
theorem dX3_limitAt_12 : decode cX3_limitAt 12 = .ok (.aload_n 0, 1) := by decide +kernel
theorem dX3_limitAt_13 : decode cX3_limitAt 13 = .ok (.getfield 17, 3) := by decide +kernel
theorem dX3_limitAt_16 : decode cX3_limitAt 16 = .ok (.iload_n 1, 1) := by decide +kernel
theorem dX3_limitAt_17 : decode cX3_limitAt 17 = .ok (.iaload, 1) := by decide +kernel
theorem dX3_limitAt_18 : decode cX3_limitAt 18 = .ok (.goto 8, 3) := by decide +kernel
theorem dX3_limitAt_21 : decode cX3_limitAt 21 = .ok (.aload_n 0, 1) := by decide +kernel
theorem dX3_limitAt_22 : decode cX3_limitAt 22 = .ok (.iconst 1, 1) := by decide +kernel
theorem dX3_limitAt_23 : decode cX3_limitAt 23 = .ok (.invokevirtual 62, 3) := by decide +kernel
theorem dX3_limitAt_26 : decode cX3_limitAt 26 = .ok (.ireturn, 1) := by decide +kernel
set_option maxRecDepth 20000 in
theorem ggX3_strainNow_X3_strain : GoodIn wsX3_strainNow wsX3_strain := goodIn_r _ [8, 9, 10, 11, 12, 13, 14, 15, 16, 17, 18, 19, 20, 21, 22, 23, 24, 25, 26, 27, 28, 29, 30, 31] (by decide +kernel) (by decide +kernel)
set_option maxRecDepth 20000 in
theorem gX3_strainNow_X3_strain : GoodIn wsX3_strainNow (wsV RX3 49 RX3 yX3_strain wsX3_strain) := goodIn_app (goodIn_of _ (by decide +kernel)) ggX3_strainNow_X3_strain
theorem dX3_strainNow_0 : decode cX3_strainNow 0 = .ok (.aload_n 0, 1) := by decide +kernel
theorem dX3_strainNow_1 : decode cX3_strainNow 1 = .ok (.iload_n 1, 1) := by decide +kernel
theorem dX3_strainNow_2 : decode cX3_strainNow 2 = .ok (.aload_n 0, 1) := by decide +kernel
theorem dX3_strainNow_3 : decode cX3_strainNow 3 = .ok (.getfield 53, 3) := by decide +kernel
theorem dX3_strainNow_6 : decode cX3_strainNow 6 = .ok (.aload_n 0, 1) := by decide +kernel
theorem dX3_strainNow_7 : decode cX3_strainNow 7 = .ok (.getfield 56, 3) := by decide +kernel
theorem dX3_strainNow_10 : decode cX3_strainNow 10 = .ok (.aload_n 0, 1) := by decide +kernel
theorem dX3_strainNow_11 : decode cX3_strainNow 11 = .ok (.getfield 9, 3) := by decide +kernel
theorem dX3_strainNow_14 : decode cX3_strainNow 14 = .ok (.invokevirtual 49, 3) := by decide +kernel
theorem dX3_strainNow_17 : decode cX3_strainNow 17 = .ok (.ireturn, 1) := by decide +kernel
set_option maxRecDepth 20000 in
theorem ggX3_strainOn_X3_isSide : GoodIn wsX3_strainOn wsX3_isSide := goodIn_r _ [5, 6, 7, 4, 8] (by decide +kernel) (by decide +kernel)
set_option maxRecDepth 20000 in
theorem gX3_strainOn_X3_isSide : GoodIn wsX3_strainOn (va_wsS RX3 68 yX3_isSide wsX3_isSide) := goodIn_app (goodIn_of _ (by decide +kernel)) ggX3_strainOn_X3_isSide
set_option maxRecDepth 20000 in
theorem ggX3_strainOn_X3_strainNow : GoodIn wsX3_strainOn wsX3_strainNow := goodIn_r _ [12, 13, 14, 15, 16, 17, 18, 4, 19, 20, 21, 22, 23, 24, 25, 26, 27, 28, 29, 34, 35, 36, 37, 38, 39, 40, 41, 42, 43, 44, 45, 46] (by decide +kernel) (by decide +kernel)
set_option maxRecDepth 20000 in
theorem gX3_strainOn_X3_strainNow : GoodIn wsX3_strainOn (wsV RX3 93 RX3 yX3_strainNow wsX3_strainNow) := goodIn_app (goodIn_of _ (by decide +kernel)) ggX3_strainOn_X3_strainNow
set_option maxRecDepth 20000 in
theorem ggX3_strainOn_X3_no : GoodIn wsX3_strainOn wsX3_no := goodIn_r _ [33, 1, 34, 35, 36, 37, 38, 39, 40, 41, 42, 43, 44, 45, 46] (by decide +kernel) (by decide +kernel)
set_option maxRecDepth 20000 in
theorem gX3_strainOn_X3_no : GoodIn wsX3_strainOn (wsV RX3 62 RX3 yX3_no wsX3_no) := goodIn_app (goodIn_of _ (by decide +kernel)) ggX3_strainOn_X3_no
theorem dX3_strainOn_0 : decode cX3_strainOn 0 = .ok (.aload_n 0, 1) := by decide +kernel
theorem dX3_strainOn_1 : decode cX3_strainOn 1 = .ok (.iconst 0, 1) := by decide +kernel
theorem dX3_strainOn_2 : decode cX3_strainOn 2 = .ok (.putfield 26, 3) := by decide +kernel
theorem dX3_strainOn_5 : decode cX3_strainOn 5 = .ok (.iload_n 1, 1) := by decide +kernel
theorem dX3_strainOn_6 : decode cX3_strainOn 6 = .ok (.invokestatic 68, 3) := by decide +kernel
theorem dX3_strainOn_9 : decode cX3_strainOn 9 = .ok (.ifCond .eq 11, 3) := by decide +kernel
theorem dX3_strainOn_12 : decode cX3_strainOn 12 = .ok (.aload_n 0, 1) := by decide +kernel
theorem dX3_strainOn_13 : decode cX3_strainOn 13 = .ok (.iload_n 1, 1) := by decide +kernel
theorem dX3_strainOn_14 : decode cX3_strainOn 14 = .ok (.invokevirtual 93, 3) := by decide +kernel
theorem dX3_strainOn_17 : decode cX3_strainOn 17 = .ok (.goto 8, 3) := by decide +kernel
theorem dX3_strainOn_20 : decode cX3_strainOn 20 = .ok (.aload_n 0, 1) := by decide +kernel
theorem dX3_strainOn_21 : decode cX3_strainOn 21 = .ok (.iconst 1, 1) := by decide +kernel
theorem dX3_strainOn_22 : decode cX3_strainOn 22 = .ok (.invokevirtual 62, 3) := by decide +kernel
theorem dX3_strainOn_25 : decode cX3_strainOn 25 = .ok (.ireturn, 1) := by decide +kernel
set_option maxRecDepth 20000 in
theorem ggX3_weakest_X3_strainNow : GoodIn wsX3_weakest wsX3_strainNow := goodIn_r _ [5, 6, 7, 8, 9, 10, 11, 4, 12, 13, 14, 15, 16, 17, 18, 19, 20, 21, 22, 23, 24, 25, 26, 27, 28, 29, 30, 31, 32, 33, 34, 35] (by decide +kernel) (by decide +kernel)
set_option maxRecDepth 20000 in
theorem gX3_weakest_X3_strainNow : GoodIn wsX3_weakest (wsV RX3 93 RX3 yX3_strainNow wsX3_strainNow) := goodIn_app (goodIn_of _ (by decide +kernel)) ggX3_weakest_X3_strainNow
theorem dX3_weakest_0 : decode cX3_weakest 0 = .ok (.iconst 0, 1) := by decide +kernel
theorem dX3_weakest_1 : decode cX3_weakest 1 = .ok (.istore_n 1, 1) := by decide +kernel
theorem dX3_weakest_2 : decode cX3_weakest 2 = .ok (.iconst 1, 1) := by decide +kernel
theorem dX3_weakest_3 : decode cX3_weakest 3 = .ok (.istore_n 2, 1) := by decide +kernel
theorem dX3_weakest_4 : decode cX3_weakest 4 = .ok (.iload_n 2, 1) := by decide +kernel
theorem dX3_weakest_5 : decode cX3_weakest 5 = .ok (.iconst 4, 1) := by decide +kernel
theorem dX3_weakest_6 : decode cX3_weakest 6 = .ok (.if_icmp .ge 24, 3) := by decide +kernel
theorem dX3_weakest_9 : decode cX3_weakest 9 = .ok (.aload_n 0, 1) := by decide +kernel
theorem dX3_weakest_10 : decode cX3_weakest 10 = .ok (.iload_n 2, 1) := by decide +kernel
theorem dX3_weakest_11 : decode cX3_weakest 11 = .ok (.invokevirtual 93, 3) := by decide +kernel
theorem dX3_weakest_14 : decode cX3_weakest 14 = .ok (.aload_n 0, 1) := by decide +kernel
theorem dX3_weakest_15 : decode cX3_weakest 15 = .ok (.iload_n 1, 1) := by decide +kernel
theorem dX3_weakest_16 : decode cX3_weakest 16 = .ok (.invokevirtual 93, 3) := by decide +kernel
theorem dX3_weakest_19 : decode cX3_weakest 19 = .ok (.if_icmp .le 5, 3) := by decide +kernel
theorem dX3_weakest_22 : decode cX3_weakest 22 = .ok (.iload_n 2, 1) := by decide +kernel
theorem dX3_weakest_23 : decode cX3_weakest 23 = .ok (.istore_n 1, 1) := by decide +kernel
theorem dX3_weakest_24 : decode cX3_weakest 24 = .ok (.iinc 2 1, 3) := by decide +kernel
theorem dX3_weakest_27 : decode cX3_weakest 27 = .ok (.goto (-23), 3) := by decide +kernel
theorem dX3_weakest_30 : decode cX3_weakest 30 = .ok (.iload_n 1, 1) := by decide +kernel
theorem dX3_weakest_31 : decode cX3_weakest 31 = .ok (.ireturn, 1) := by decide +kernel
set_option maxRecDepth 20000 in
theorem ggX3_weakestSide_X3_weakest : GoodIn wsX3_weakestSide wsX3_weakest := goodIn_r _ [5, 6, 7, 8, 4, 9, 10, 11, 12, 13, 14, 15, 16, 17, 18, 19, 20, 21, 22, 23, 24, 25, 26, 32, 33, 34, 35, 36, 37, 38, 39, 40, 41, 42, 43, 44] (by decide +kernel) (by decide +kernel)
set_option maxRecDepth 20000 in
theorem gX3_weakestSide_X3_weakest : GoodIn wsX3_weakestSide (wsV RX3 96 RX3 yX3_weakest wsX3_weakest) := goodIn_app (goodIn_of _ (by decide +kernel)) ggX3_weakestSide_X3_weakest
set_option maxRecDepth 20000 in
theorem ggX3_weakestSide_X3_ok : GoodIn wsX3_weakestSide wsX3_ok := goodIn_r _ [30, 31, 32, 33, 34, 35, 36, 37, 38, 39, 40, 41, 42, 43, 44] (by decide +kernel) (by decide +kernel)
set_option maxRecDepth 20000 in
theorem gX3_weakestSide_X3_ok : GoodIn wsX3_weakestSide (wsV RX3 90 RX3 yX3_ok wsX3_ok) := goodIn_app (goodIn_of _ (by decide +kernel)) ggX3_weakestSide_X3_ok
theorem dX3_weakestSide_0 : decode cX3_weakestSide 0 = .ok (.aload_n 0, 1) := by decide +kernel
theorem dX3_weakestSide_1 : decode cX3_weakestSide 1 = .ok (.aload_n 0, 1) := by decide +kernel
theorem dX3_weakestSide_2 : decode cX3_weakestSide 2 = .ok (.invokevirtual 96, 3) := by decide +kernel
theorem dX3_weakestSide_5 : decode cX3_weakestSide 5 = .ok (.invokevirtual 90, 3) := by decide +kernel
theorem dX3_weakestSide_8 : decode cX3_weakestSide 8 = .ok (.ireturn, 1) := by decide +kernel
set_option maxRecDepth 20000 in
theorem ggX3_lifts_X3_ok : GoodIn wsX3_lifts wsX3_ok := goodIn_r _ [6, 7, 8, 9, 10, 11, 12, 13, 14, 15, 16, 17, 18, 19, 20] (by decide +kernel) (by decide +kernel)
set_option maxRecDepth 20000 in
theorem gX3_lifts_X3_ok : GoodIn wsX3_lifts (wsV RX3 90 RX3 yX3_ok wsX3_ok) := goodIn_app (goodIn_of _ (by decide +kernel)) ggX3_lifts_X3_ok
theorem dX3_lifts_0 : decode cX3_lifts 0 = .ok (.aload_n 0, 1) := by decide +kernel
theorem dX3_lifts_1 : decode cX3_lifts 1 = .ok (.aload_n 0, 1) := by decide +kernel
theorem dX3_lifts_2 : decode cX3_lifts 2 = .ok (.getfield 78, 3) := by decide +kernel
theorem dX3_lifts_5 : decode cX3_lifts 5 = .ok (.invokevirtual 90, 3) := by decide +kernel
theorem dX3_lifts_8 : decode cX3_lifts 8 = .ok (.ireturn, 1) := by decide +kernel
set_option maxRecDepth 20000 in
theorem ggX3_tonsLifted_X3_ok : GoodIn wsX3_tonsLifted wsX3_ok := goodIn_r _ [6, 7, 8, 9, 10, 11, 12, 13, 14, 15, 16, 17, 18, 19, 20] (by decide +kernel) (by decide +kernel)
set_option maxRecDepth 20000 in
theorem gX3_tonsLifted_X3_ok : GoodIn wsX3_tonsLifted (wsV RX3 90 RX3 yX3_ok wsX3_ok) := goodIn_app (goodIn_of _ (by decide +kernel)) ggX3_tonsLifted_X3_ok
theorem dX3_tonsLifted_0 : decode cX3_tonsLifted 0 = .ok (.aload_n 0, 1) := by decide +kernel
theorem dX3_tonsLifted_1 : decode cX3_tonsLifted 1 = .ok (.aload_n 0, 1) := by decide +kernel
theorem dX3_tonsLifted_2 : decode cX3_tonsLifted 2 = .ok (.getfield 81, 3) := by decide +kernel
theorem dX3_tonsLifted_5 : decode cX3_tonsLifted 5 = .ok (.invokevirtual 90, 3) := by decide +kernel
theorem dX3_tonsLifted_8 : decode cX3_tonsLifted 8 = .ok (.ireturn, 1) := by decide +kernel
set_option maxRecDepth 20000 in
theorem ggX3_movesWithLoad_X3_ok : GoodIn wsX3_movesWithLoad wsX3_ok := goodIn_r _ [6, 7, 8, 9, 10, 11, 12, 13, 14, 15, 16, 17, 18, 19, 20] (by decide +kernel) (by decide +kernel)
set_option maxRecDepth 20000 in
theorem gX3_movesWithLoad_X3_ok : GoodIn wsX3_movesWithLoad (wsV RX3 90 RX3 yX3_ok wsX3_ok) := goodIn_app (goodIn_of _ (by decide +kernel)) ggX3_movesWithLoad_X3_ok
theorem dX3_movesWithLoad_0 : decode cX3_movesWithLoad 0 = .ok (.aload_n 0, 1) := by decide +kernel
theorem dX3_movesWithLoad_1 : decode cX3_movesWithLoad 1 = .ok (.aload_n 0, 1) := by decide +kernel
theorem dX3_movesWithLoad_2 : decode cX3_movesWithLoad 2 = .ok (.getfield 84, 3) := by decide +kernel
theorem dX3_movesWithLoad_5 : decode cX3_movesWithLoad 5 = .ok (.invokevirtual 90, 3) := by decide +kernel
theorem dX3_movesWithLoad_8 : decode cX3_movesWithLoad 8 = .ok (.ireturn, 1) := by decide +kernel
set_option maxRecDepth 20000 in
theorem ggX3_isSafeWith_X3_isDirection : GoodIn wsX3_isSafeWith wsX3_isDirection := goodIn_r _ [5, 6, 7, 4, 8] (by decide +kernel) (by decide +kernel)
set_option maxRecDepth 20000 in
theorem gX3_isSafeWith_X3_isDirection : GoodIn wsX3_isSafeWith (va_wsS RX3 100 yX3_isDirection wsX3_isDirection) := goodIn_app (goodIn_of _ (by decide +kernel)) ggX3_isSafeWith_X3_isDirection
set_option maxRecDepth 20000 in
theorem ggX3_isSafeWith_X3_isNot : GoodIn wsX3_isSafeWith wsX3_isNot := goodIn_r _ [12, 1, 38, 39, 40, 41, 42, 43, 44, 45, 46, 47, 48, 49, 50] (by decide +kernel) (by decide +kernel)
set_option maxRecDepth 20000 in
theorem gX3_isSafeWith_X3_isNot : GoodIn wsX3_isSafeWith (wsV RX3 103 RX3 yX3_isNot wsX3_isNot) := goodIn_app (goodIn_of _ (by decide +kernel)) ggX3_isSafeWith_X3_isNot
set_option maxRecDepth 20000 in
theorem ggX3_isSafeWith_X3_isLoad : GoodIn wsX3_isSafeWith wsX3_isLoad := goodIn_r _ [15, 6, 7, 4, 8] (by decide +kernel) (by decide +kernel)
set_option maxRecDepth 20000 in
theorem gX3_isSafeWith_X3_isLoad : GoodIn wsX3_isSafeWith (va_wsS RX3 75 yX3_isLoad wsX3_isLoad) := goodIn_app (goodIn_of _ (by decide +kernel)) ggX3_isSafeWith_X3_isLoad
set_option maxRecDepth 20000 in
theorem ggX3_isSafeWith_X3_isReach : GoodIn wsX3_isSafeWith wsX3_isReach := goodIn_r _ [18, 6, 7, 4, 8] (by decide +kernel) (by decide +kernel)
set_option maxRecDepth 20000 in
theorem gX3_isSafeWith_X3_isReach : GoodIn wsX3_isSafeWith (va_wsS RX3 72 yX3_isReach wsX3_isReach) := goodIn_app (goodIn_of _ (by decide +kernel)) ggX3_isSafeWith_X3_isReach
set_option maxRecDepth 20000 in
theorem ggX3_isSafeWith_X3_isSafe : GoodIn wsX3_isSafeWith wsX3_isSafe := goodIn_r _ [22, 23, 24, 25, 26, 4, 27, 28, 29, 30, 31, 32, 33, 34, 35, 36, 37, 38, 39, 40, 41, 42, 43, 44, 45, 46, 47, 48, 49, 50] (by decide +kernel) (by decide +kernel)
set_option maxRecDepth 20000 in
theorem gX3_isSafeWith_X3_isSafe : GoodIn wsX3_isSafeWith (wsV RX3 59 RX3 yX3_isSafe wsX3_isSafe) := goodIn_app (goodIn_of _ (by decide +kernel)) ggX3_isSafeWith_X3_isSafe
theorem dX3_isSafeWith_0 : decode cX3_isSafeWith 0 = .ok (.aload_n 0, 1) := by decide +kernel
theorem dX3_isSafeWith_1 : decode cX3_isSafeWith 1 = .ok (.iconst 0, 1) := by decide +kernel
theorem dX3_isSafeWith_2 : decode cX3_isSafeWith 2 = .ok (.putfield 26, 3) := by decide +kernel
theorem dX3_isSafeWith_5 : decode cX3_isSafeWith 5 = .ok (.iload_n 2, 1) := by decide +kernel
theorem dX3_isSafeWith_6 : decode cX3_isSafeWith 6 = .ok (.invokestatic 100, 3) := by decide +kernel
theorem dX3_isSafeWith_9 : decode cX3_isSafeWith 9 = .ok (.ifCond .ne 9, 3) := by decide +kernel
theorem dX3_isSafeWith_12 : decode cX3_isSafeWith 12 = .ok (.aload_n 0, 1) := by decide +kernel
theorem dX3_isSafeWith_13 : decode cX3_isSafeWith 13 = .ok (.iconst 1, 1) := by decide +kernel
theorem dX3_isSafeWith_14 : decode cX3_isSafeWith 14 = .ok (.invokevirtual 103, 3) := by decide +kernel
theorem dX3_isSafeWith_17 : decode cX3_isSafeWith 17 = .ok (.ireturn, 1) := by decide +kernel
theorem dX3_isSafeWith_18 : decode cX3_isSafeWith 18 = .ok (.iload_n 1, 1) := by decide +kernel
theorem dX3_isSafeWith_19 : decode cX3_isSafeWith 19 = .ok (.invokestatic 75, 3) := by decide +kernel
theorem dX3_isSafeWith_22 : decode cX3_isSafeWith 22 = .ok (.ifCond .eq 20, 3) := by decide +kernel
theorem dX3_isSafeWith_25 : decode cX3_isSafeWith 25 = .ok (.iload_n 3, 1) := by decide +kernel
theorem dX3_isSafeWith_26 : decode cX3_isSafeWith 26 = .ok (.invokestatic 72, 3) := by decide +kernel
theorem dX3_isSafeWith_29 : decode cX3_isSafeWith 29 = .ok (.ifCond .eq 13, 3) := by decide +kernel
theorem dX3_isSafeWith_32 : decode cX3_isSafeWith 32 = .ok (.aload_n 0, 1) := by decide +kernel
theorem dX3_isSafeWith_33 : decode cX3_isSafeWith 33 = .ok (.iload_n 1, 1) := by decide +kernel
theorem dX3_isSafeWith_34 : decode cX3_isSafeWith 34 = .ok (.iload_n 2, 1) := by decide +kernel
theorem dX3_isSafeWith_35 : decode cX3_isSafeWith 35 = .ok (.iload_n 3, 1) := by decide +kernel
theorem dX3_isSafeWith_36 : decode cX3_isSafeWith 36 = .ok (.invokevirtual 59, 3) := by decide +kernel
theorem dX3_isSafeWith_39 : decode cX3_isSafeWith 39 = .ok (.goto 8, 3) := by decide +kernel
theorem dX3_isSafeWith_42 : decode cX3_isSafeWith 42 = .ok (.aload_n 0, 1) := by decide +kernel
theorem dX3_isSafeWith_43 : decode cX3_isSafeWith 43 = .ok (.iconst 2, 1) := by decide +kernel
theorem dX3_isSafeWith_44 : decode cX3_isSafeWith 44 = .ok (.invokevirtual 103, 3) := by decide +kernel
theorem dX3_isSafeWith_47 : decode cX3_isSafeWith 47 = .ok (.ireturn, 1) := by decide +kernel
set_option maxRecDepth 20000 in
theorem ggX3_greatest_X3_isSafe : GoodIn wsX3_greatest wsX3_isSafe := goodIn_r _ [7, 8, 9, 10, 11, 6, 12, 13, 14, 15, 16, 17, 18, 19, 20, 21, 22, 23, 24, 25, 26, 27, 28, 29, 30, 31, 32, 33, 34, 35] (by decide +kernel) (by decide +kernel)
set_option maxRecDepth 20000 in
theorem gX3_greatest_X3_isSafe : GoodIn wsX3_greatest (wsV RX3 59 RX3 yX3_isSafe wsX3_isSafe) := goodIn_app (goodIn_of _ (by decide +kernel)) ggX3_greatest_X3_isSafe
theorem dX3_greatest_0 : decode cX3_greatest 0 = .ok (.bipush 60, 2) := by decide +kernel
theorem dX3_greatest_2 : decode cX3_greatest 2 = .ok (.istore_n 1, 1) := by decide +kernel
theorem dX3_greatest_3 : decode cX3_greatest 3 = .ok (.aload_n 0, 1) := by decide +kernel
theorem dX3_greatest_4 : decode cX3_greatest 4 = .ok (.iload_n 1, 1) := by decide +kernel
theorem dX3_greatest_5 : decode cX3_greatest 5 = .ok (.aload_n 0, 1) := by decide +kernel
theorem dX3_greatest_6 : decode cX3_greatest 6 = .ok (.getfield 56, 3) := by decide +kernel
theorem dX3_greatest_9 : decode cX3_greatest 9 = .ok (.aload_n 0, 1) := by decide +kernel
theorem dX3_greatest_10 : decode cX3_greatest 10 = .ok (.getfield 9, 3) := by decide +kernel
theorem dX3_greatest_13 : decode cX3_greatest 13 = .ok (.invokevirtual 59, 3) := by decide +kernel
theorem dX3_greatest_16 : decode cX3_greatest 16 = .ok (.ifCond .ne 9, 3) := by decide +kernel
theorem dX3_greatest_19 : decode cX3_greatest 19 = .ok (.iinc 1 (-1), 3) := by decide +kernel
theorem dX3_greatest_22 : decode cX3_greatest 22 = .ok (.goto (-19), 3) := by decide +kernel
theorem dX3_greatest_25 : decode cX3_greatest 25 = .ok (.iload_n 1, 1) := by decide +kernel
theorem dX3_greatest_26 : decode cX3_greatest 26 = .ok (.ireturn, 1) := by decide +kernel
set_option maxRecDepth 20000 in
theorem ggX3_greatestLoad_X3_greatest : GoodIn wsX3_greatestLoad wsX3_greatest := goodIn_r _ [5, 6, 7, 8, 9, 10, 4, 11, 12, 13, 14, 15, 16, 17, 18, 19, 20, 21, 22, 23, 24, 25, 26, 32, 33, 34, 35, 36, 37, 38, 39, 40, 41, 42, 43, 44] (by decide +kernel) (by decide +kernel)
set_option maxRecDepth 20000 in
theorem gX3_greatestLoad_X3_greatest : GoodIn wsX3_greatestLoad (wsV RX3 106 RX3 yX3_greatest wsX3_greatest) := goodIn_app (goodIn_of _ (by decide +kernel)) ggX3_greatestLoad_X3_greatest
set_option maxRecDepth 20000 in
theorem ggX3_greatestLoad_X3_ok : GoodIn wsX3_greatestLoad wsX3_ok := goodIn_r _ [30, 31, 32, 33, 34, 35, 36, 37, 38, 39, 40, 41, 42, 43, 44] (by decide +kernel) (by decide +kernel)
set_option maxRecDepth 20000 in
theorem gX3_greatestLoad_X3_ok : GoodIn wsX3_greatestLoad (wsV RX3 90 RX3 yX3_ok wsX3_ok) := goodIn_app (goodIn_of _ (by decide +kernel)) ggX3_greatestLoad_X3_ok
theorem dX3_greatestLoad_0 : decode cX3_greatestLoad 0 = .ok (.aload_n 0, 1) := by decide +kernel
theorem dX3_greatestLoad_1 : decode cX3_greatestLoad 1 = .ok (.aload_n 0, 1) := by decide +kernel
theorem dX3_greatestLoad_2 : decode cX3_greatestLoad 2 = .ok (.invokevirtual 106, 3) := by decide +kernel
theorem dX3_greatestLoad_5 : decode cX3_greatestLoad 5 = .ok (.invokevirtual 90, 3) := by decide +kernel
theorem dX3_greatestLoad_8 : decode cX3_greatestLoad 8 = .ok (.ireturn, 1) := by decide +kernel
set_option maxRecDepth 20000 in
theorem ggX3_farthestReach_X3_isDirection : GoodIn wsX3_farthestReach wsX3_isDirection := goodIn_r _ [5, 6, 7, 4, 8] (by decide +kernel) (by decide +kernel)
set_option maxRecDepth 20000 in
theorem gX3_farthestReach_X3_isDirection : GoodIn wsX3_farthestReach (va_wsS RX3 100 yX3_isDirection wsX3_isDirection) := goodIn_app (goodIn_of _ (by decide +kernel)) ggX3_farthestReach_X3_isDirection
set_option maxRecDepth 20000 in
theorem ggX3_farthestReach_X3_no : GoodIn wsX3_farthestReach wsX3_no := goodIn_r _ [12, 1, 35, 36, 37, 38, 39, 40, 41, 42, 43, 44, 45, 46, 47] (by decide +kernel) (by decide +kernel)
set_option maxRecDepth 20000 in
theorem gX3_farthestReach_X3_no : GoodIn wsX3_farthestReach (wsV RX3 62 RX3 yX3_no wsX3_no) := goodIn_app (goodIn_of _ (by decide +kernel)) ggX3_farthestReach_X3_no
set_option maxRecDepth 20000 in
theorem ggX3_farthestReach_X3_isLoad : GoodIn wsX3_farthestReach wsX3_isLoad := goodIn_r _ [15, 6, 7, 4, 8] (by decide +kernel) (by decide +kernel)
set_option maxRecDepth 20000 in
theorem gX3_farthestReach_X3_isLoad : GoodIn wsX3_farthestReach (va_wsS RX3 75 yX3_isLoad wsX3_isLoad) := goodIn_app (goodIn_of _ (by decide +kernel)) ggX3_farthestReach_X3_isLoad
set_option maxRecDepth 20000 in
theorem ggX3_farthestReach_X3_isSafe : GoodIn wsX3_farthestReach wsX3_isSafe := goodIn_r _ [19, 20, 21, 22, 23, 4, 24, 25, 26, 27, 28, 29, 30, 31, 32, 33, 34, 35, 36, 37, 38, 39, 40, 41, 42, 43, 44, 45, 46, 47] (by decide +kernel) (by decide +kernel)
set_option maxRecDepth 20000 in
theorem gX3_farthestReach_X3_isSafe : GoodIn wsX3_farthestReach (wsV RX3 59 RX3 yX3_isSafe wsX3_isSafe) := goodIn_app (goodIn_of _ (by decide +kernel)) ggX3_farthestReach_X3_isSafe
theorem dX3_farthestReach_0 : decode cX3_farthestReach 0 = .ok (.aload_n 0, 1) := by decide +kernel
theorem dX3_farthestReach_1 : decode cX3_farthestReach 1 = .ok (.iconst 0, 1) := by decide +kernel
theorem dX3_farthestReach_2 : decode cX3_farthestReach 2 = .ok (.putfield 26, 3) := by decide +kernel
theorem dX3_farthestReach_5 : decode cX3_farthestReach 5 = .ok (.iload_n 2, 1) := by decide +kernel
theorem dX3_farthestReach_6 : decode cX3_farthestReach 6 = .ok (.invokestatic 100, 3) := by decide +kernel
theorem dX3_farthestReach_9 : decode cX3_farthestReach 9 = .ok (.ifCond .ne 9, 3) := by decide +kernel
theorem dX3_farthestReach_12 : decode cX3_farthestReach 12 = .ok (.aload_n 0, 1) := by decide +kernel
theorem dX3_farthestReach_13 : decode cX3_farthestReach 13 = .ok (.iconst 1, 1) := by decide +kernel
theorem dX3_farthestReach_14 : decode cX3_farthestReach 14 = .ok (.invokevirtual 62, 3) := by decide +kernel
theorem dX3_farthestReach_17 : decode cX3_farthestReach 17 = .ok (.ireturn, 1) := by decide +kernel
theorem dX3_farthestReach_18 : decode cX3_farthestReach 18 = .ok (.iload_n 1, 1) := by decide +kernel
theorem dX3_farthestReach_19 : decode cX3_farthestReach 19 = .ok (.invokestatic 75, 3) := by decide +kernel
theorem dX3_farthestReach_22 : decode cX3_farthestReach 22 = .ok (.ifCond .ne 9, 3) := by decide +kernel
theorem dX3_farthestReach_25 : decode cX3_farthestReach 25 = .ok (.aload_n 0, 1) := by decide +kernel
theorem dX3_farthestReach_26 : decode cX3_farthestReach 26 = .ok (.iconst 2, 1) := by decide +kernel
theorem dX3_farthestReach_27 : decode cX3_farthestReach 27 = .ok (.invokevirtual 62, 3) := by decide +kernel
theorem dX3_farthestReach_30 : decode cX3_farthestReach 30 = .ok (.ireturn, 1) := by decide +kernel
theorem dX3_farthestReach_31 : decode cX3_farthestReach 31 = .ok (.iconst 3, 1) := by decide +kernel
theorem dX3_farthestReach_32 : decode cX3_farthestReach 32 = .ok (.istore_n 3, 1) := by decide +kernel
theorem dX3_farthestReach_33 : decode cX3_farthestReach 33 = .ok (.iload_n 3, 1) := by decide +kernel
theorem dX3_farthestReach_34 : decode cX3_farthestReach 34 = .ok (.bipush 30, 2) := by decide +kernel
theorem dX3_farthestReach_36 : decode cX3_farthestReach 36 = .ok (.if_icmp .gt 19, 3) := by decide +kernel
theorem dX3_farthestReach_39 : decode cX3_farthestReach 39 = .ok (.aload_n 0, 1) := by decide +kernel
theorem dX3_farthestReach_40 : decode cX3_farthestReach 40 = .ok (.iload_n 1, 1) := by decide +kernel
theorem dX3_farthestReach_41 : decode cX3_farthestReach 41 = .ok (.iload_n 2, 1) := by decide +kernel
theorem dX3_farthestReach_42 : decode cX3_farthestReach 42 = .ok (.iload_n 3, 1) := by decide +kernel
theorem dX3_farthestReach_43 : decode cX3_farthestReach 43 = .ok (.invokevirtual 59, 3) := by decide +kernel
theorem dX3_farthestReach_46 : decode cX3_farthestReach 46 = .ok (.ifCond .eq 9, 3) := by decide +kernel
theorem dX3_farthestReach_49 : decode cX3_farthestReach 49 = .ok (.iinc 3 1, 3) := by decide +kernel
theorem dX3_farthestReach_52 : decode cX3_farthestReach 52 = .ok (.goto (-19), 3) := by decide +kernel
theorem dX3_farthestReach_55 : decode cX3_farthestReach 55 = .ok (.iload_n 3, 1) := by decide +kernel
theorem dX3_farthestReach_56 : decode cX3_farthestReach 56 = .ok (.iconst 3, 1) := by decide +kernel
theorem dX3_farthestReach_57 : decode cX3_farthestReach 57 = .ok (.if_icmp .ne 7, 3) := by decide +kernel
theorem dX3_farthestReach_60 : decode cX3_farthestReach 60 = .ok (.iconst (-1), 1) := by decide +kernel
theorem dX3_farthestReach_61 : decode cX3_farthestReach 61 = .ok (.goto 6, 3) := by decide +kernel
theorem dX3_farthestReach_64 : decode cX3_farthestReach 64 = .ok (.iload_n 3, 1) := by decide +kernel
theorem dX3_farthestReach_65 : decode cX3_farthestReach 65 = .ok (.iconst 1, 1) := by decide +kernel
theorem dX3_farthestReach_66 : decode cX3_farthestReach 66 = .ok (.isub, 1) := by decide +kernel
theorem dX3_farthestReach_67 : decode cX3_farthestReach 67 = .ok (.ireturn, 1) := by decide +kernel
set_option maxRecDepth 20000 in
theorem ggX3_safeAround_X3_isSafe : GoodIn wsX3_safeAround wsX3_isSafe := goodIn_r _ [5, 6, 7, 8, 9, 4, 10, 11, 12, 13, 14, 15, 16, 17, 18, 19, 20, 21, 22, 23, 24, 25, 26, 27, 28, 29, 30, 31, 32, 33] (by decide +kernel) (by decide +kernel)
set_option maxRecDepth 20000 in
theorem gX3_safeAround_X3_isSafe : GoodIn wsX3_safeAround (wsV RX3 59 RX3 yX3_isSafe wsX3_isSafe) := goodIn_app (goodIn_of _ (by decide +kernel)) ggX3_safeAround_X3_isSafe
theorem dX3_safeAround_0 : decode cX3_safeAround 0 = .ok (.iconst 0, 1) := by decide +kernel
theorem dX3_safeAround_1 : decode cX3_safeAround 1 = .ok (.istore_n 3, 1) := by decide +kernel
theorem dX3_safeAround_2 : decode cX3_safeAround 2 = .ok (.iconst 0, 1) := by decide +kernel
theorem dX3_safeAround_3 : decode cX3_safeAround 3 = .ok (.istore 4, 2) := by decide +kernel
theorem dX3_safeAround_5 : decode cX3_safeAround 5 = .ok (.iload 4, 2) := by decide +kernel
theorem dX3_safeAround_7 : decode cX3_safeAround 7 = .ok (.bipush 8, 2) := by decide +kernel
theorem dX3_safeAround_9 : decode cX3_safeAround 9 = .ok (.if_icmp .ge 28, 3) := by decide +kernel
theorem dX3_safeAround_12 : decode cX3_safeAround 12 = .ok (.iload_n 3, 1) := by decide +kernel
theorem dX3_safeAround_13 : decode cX3_safeAround 13 = .ok (.aload_n 0, 1) := by decide +kernel
theorem dX3_safeAround_14 : decode cX3_safeAround 14 = .ok (.iload_n 1, 1) := by decide +kernel
theorem dX3_safeAround_15 : decode cX3_safeAround 15 = .ok (.iload 4, 2) := by decide +kernel
theorem dX3_safeAround_17 : decode cX3_safeAround 17 = .ok (.iload_n 2, 1) := by decide +kernel
theorem dX3_safeAround_18 : decode cX3_safeAround 18 = .ok (.invokevirtual 59, 3) := by decide +kernel
theorem dX3_safeAround_21 : decode cX3_safeAround 21 = .ok (.ifCond .eq 7, 3) := by decide +kernel
theorem dX3_safeAround_24 : decode cX3_safeAround 24 = .ok (.iconst 1, 1) := by decide +kernel
theorem dX3_safeAround_25 : decode cX3_safeAround 25 = .ok (.goto 4, 3) := by decide +kernel
theorem dX3_safeAround_28 : decode cX3_safeAround 28 = .ok (.iconst 0, 1) := by decide +kernel
theorem dX3_safeAround_29 : decode cX3_safeAround 29 = .ok (.iadd, 1) := by decide +kernel
theorem dX3_safeAround_30 : decode cX3_safeAround 30 = .ok (.istore_n 3, 1) := by decide +kernel
theorem dX3_safeAround_31 : decode cX3_safeAround 31 = .ok (.iinc 4 1, 3) := by decide +kernel
theorem dX3_safeAround_34 : decode cX3_safeAround 34 = .ok (.goto (-29), 3) := by decide +kernel
theorem dX3_safeAround_37 : decode cX3_safeAround 37 = .ok (.iload_n 3, 1) := by decide +kernel
theorem dX3_safeAround_38 : decode cX3_safeAround 38 = .ok (.ireturn, 1) := by decide +kernel
set_option maxRecDepth 20000 in
theorem ggX3_safeDirections_X3_isLoad : GoodIn wsX3_safeDirections wsX3_isLoad := goodIn_r _ [5, 6, 7, 4, 8] (by decide +kernel) (by decide +kernel)
set_option maxRecDepth 20000 in
theorem gX3_safeDirections_X3_isLoad : GoodIn wsX3_safeDirections (va_wsS RX3 75 yX3_isLoad wsX3_isLoad) := goodIn_app (goodIn_of _ (by decide +kernel)) ggX3_safeDirections_X3_isLoad
set_option maxRecDepth 20000 in
theorem ggX3_safeDirections_X3_isReach : GoodIn wsX3_safeDirections wsX3_isReach := goodIn_r _ [11, 6, 7, 4, 8] (by decide +kernel) (by decide +kernel)
set_option maxRecDepth 20000 in
theorem gX3_safeDirections_X3_isReach : GoodIn wsX3_safeDirections (va_wsS RX3 72 yX3_isReach wsX3_isReach) := goodIn_app (goodIn_of _ (by decide +kernel)) ggX3_safeDirections_X3_isReach
set_option maxRecDepth 20000 in
theorem ggX3_safeDirections_X3_safeAround : GoodIn wsX3_safeDirections wsX3_safeAround := goodIn_r _ [15, 16, 17, 18, 4, 19, 20, 21, 22, 23, 24, 25, 26, 27, 28, 29, 30, 31, 32, 33, 34, 39, 40, 41, 42, 43, 44, 45, 46, 47, 48, 49, 50, 51] (by decide +kernel) (by decide +kernel)
set_option maxRecDepth 20000 in
theorem gX3_safeDirections_X3_safeAround : GoodIn wsX3_safeDirections (wsV RX3 109 RX3 yX3_safeAround wsX3_safeAround) := goodIn_app (goodIn_of _ (by decide +kernel)) ggX3_safeDirections_X3_safeAround
set_option maxRecDepth 20000 in
theorem ggX3_safeDirections_X3_no : GoodIn wsX3_safeDirections wsX3_no := goodIn_r _ [38, 1, 39, 40, 41, 42, 43, 44, 45, 46, 47, 48, 49, 50, 51] (by decide +kernel) (by decide +kernel)
set_option maxRecDepth 20000 in
theorem gX3_safeDirections_X3_no : GoodIn wsX3_safeDirections (wsV RX3 62 RX3 yX3_no wsX3_no) := goodIn_app (goodIn_of _ (by decide +kernel)) ggX3_safeDirections_X3_no
theorem dX3_safeDirections_0 : decode cX3_safeDirections 0 = .ok (.aload_n 0, 1) := by decide +kernel
theorem dX3_safeDirections_1 : decode cX3_safeDirections 1 = .ok (.iconst 0, 1) := by decide +kernel
theorem dX3_safeDirections_2 : decode cX3_safeDirections 2 = .ok (.putfield 26, 3) := by decide +kernel
theorem dX3_safeDirections_5 : decode cX3_safeDirections 5 = .ok (.iload_n 1, 1) := by decide +kernel
theorem dX3_safeDirections_6 : decode cX3_safeDirections 6 = .ok (.invokestatic 75, 3) := by decide +kernel
theorem dX3_safeDirections_9 : decode cX3_safeDirections 9 = .ok (.ifCond .eq 19, 3) := by decide +kernel
theorem dX3_safeDirections_12 : decode cX3_safeDirections 12 = .ok (.iload_n 2, 1) := by decide +kernel
theorem dX3_safeDirections_13 : decode cX3_safeDirections 13 = .ok (.invokestatic 72, 3) := by decide +kernel
theorem dX3_safeDirections_16 : decode cX3_safeDirections 16 = .ok (.ifCond .eq 12, 3) := by decide +kernel
theorem dX3_safeDirections_19 : decode cX3_safeDirections 19 = .ok (.aload_n 0, 1) := by decide +kernel
theorem dX3_safeDirections_20 : decode cX3_safeDirections 20 = .ok (.iload_n 1, 1) := by decide +kernel
theorem dX3_safeDirections_21 : decode cX3_safeDirections 21 = .ok (.iload_n 2, 1) := by decide +kernel
theorem dX3_safeDirections_22 : decode cX3_safeDirections 22 = .ok (.invokevirtual 109, 3) := by decide +kernel
theorem dX3_safeDirections_25 : decode cX3_safeDirections 25 = .ok (.goto 8, 3) := by decide +kernel
theorem dX3_safeDirections_28 : decode cX3_safeDirections 28 = .ok (.aload_n 0, 1) := by decide +kernel
theorem dX3_safeDirections_29 : decode cX3_safeDirections 29 = .ok (.iconst 1, 1) := by decide +kernel
theorem dX3_safeDirections_30 : decode cX3_safeDirections 30 = .ok (.invokevirtual 62, 3) := by decide +kernel
theorem dX3_safeDirections_33 : decode cX3_safeDirections 33 = .ok (.ireturn, 1) := by decide +kernel
set_option maxRecDepth 20000 in
theorem ggX3_fewestPlates_X3_isSafe : GoodIn wsX3_fewestPlates wsX3_isSafe := goodIn_r _ [6, 7, 8, 9, 10, 5, 11, 12, 13, 14, 15, 16, 17, 18, 19, 20, 1, 21, 22, 23, 24, 25, 26, 27, 28, 29, 30, 31, 32, 33] (by decide +kernel) (by decide +kernel)
set_option maxRecDepth 20000 in
theorem gX3_fewestPlates_X3_isSafe : GoodIn wsX3_fewestPlates (wsV RX3 59 RX3 yX3_isSafe wsX3_isSafe) := goodIn_app (goodIn_of _ (by decide +kernel)) ggX3_fewestPlates_X3_isSafe
theorem dX3_fewestPlates_0 : decode cX3_fewestPlates 0 = .ok (.aload_n 0, 1) := by decide +kernel
theorem dX3_fewestPlates_1 : decode cX3_fewestPlates 1 = .ok (.getfield 46, 3) := by decide +kernel
theorem dX3_fewestPlates_4 : decode cX3_fewestPlates 4 = .ok (.istore 4, 2) := by decide +kernel
theorem dX3_fewestPlates_6 : decode cX3_fewestPlates 6 = .ok (.iconst (-1), 1) := by decide +kernel
theorem dX3_fewestPlates_7 : decode cX3_fewestPlates 7 = .ok (.istore 5, 2) := by decide +kernel
theorem dX3_fewestPlates_9 : decode cX3_fewestPlates 9 = .ok (.aload_n 0, 1) := by decide +kernel
theorem dX3_fewestPlates_10 : decode cX3_fewestPlates 10 = .ok (.iconst 0, 1) := by decide +kernel
theorem dX3_fewestPlates_11 : decode cX3_fewestPlates 11 = .ok (.putfield 46, 3) := by decide +kernel
theorem dX3_fewestPlates_14 : decode cX3_fewestPlates 14 = .ok (.aload_n 0, 1) := by decide +kernel
theorem dX3_fewestPlates_15 : decode cX3_fewestPlates 15 = .ok (.getfield 46, 3) := by decide +kernel
theorem dX3_fewestPlates_18 : decode cX3_fewestPlates 18 = .ok (.bipush 12, 2) := by decide +kernel
theorem dX3_fewestPlates_20 : decode cX3_fewestPlates 20 = .ok (.if_icmp .gt 38, 3) := by decide +kernel
theorem dX3_fewestPlates_23 : decode cX3_fewestPlates 23 = .ok (.iload 5, 2) := by decide +kernel
theorem dX3_fewestPlates_25 : decode cX3_fewestPlates 25 = .ok (.iconst (-1), 1) := by decide +kernel
theorem dX3_fewestPlates_26 : decode cX3_fewestPlates 26 = .ok (.if_icmp .ne 32, 3) := by decide +kernel
theorem dX3_fewestPlates_29 : decode cX3_fewestPlates 29 = .ok (.aload_n 0, 1) := by decide +kernel
theorem dX3_fewestPlates_30 : decode cX3_fewestPlates 30 = .ok (.iload_n 1, 1) := by decide +kernel
theorem dX3_fewestPlates_31 : decode cX3_fewestPlates 31 = .ok (.iload_n 2, 1) := by decide +kernel
theorem dX3_fewestPlates_32 : decode cX3_fewestPlates 32 = .ok (.iload_n 3, 1) := by decide +kernel
theorem dX3_fewestPlates_33 : decode cX3_fewestPlates 33 = .ok (.invokevirtual 59, 3) := by decide +kernel
theorem dX3_fewestPlates_36 : decode cX3_fewestPlates 36 = .ok (.ifCond .eq 9, 3) := by decide +kernel
theorem dX3_fewestPlates_39 : decode cX3_fewestPlates 39 = .ok (.aload_n 0, 1) := by decide +kernel
theorem dX3_fewestPlates_40 : decode cX3_fewestPlates 40 = .ok (.getfield 46, 3) := by decide +kernel
theorem dX3_fewestPlates_43 : decode cX3_fewestPlates 43 = .ok (.istore 5, 2) := by decide +kernel
theorem dX3_fewestPlates_45 : decode cX3_fewestPlates 45 = .ok (.aload_n 0, 1) := by decide +kernel
theorem dX3_fewestPlates_46 : decode cX3_fewestPlates 46 = .ok (.dup, 1) := by decide +kernel
theorem dX3_fewestPlates_47 : decode cX3_fewestPlates 47 = .ok (.getfield 46, 3) := by decide +kernel
theorem dX3_fewestPlates_50 : decode cX3_fewestPlates 50 = .ok (.iconst 1, 1) := by decide +kernel
theorem dX3_fewestPlates_51 : decode cX3_fewestPlates 51 = .ok (.iadd, 1) := by decide +kernel
theorem dX3_fewestPlates_52 : decode cX3_fewestPlates 52 = .ok (.putfield 46, 3) := by decide +kernel
theorem dX3_fewestPlates_55 : decode cX3_fewestPlates 55 = .ok (.goto (-41), 3) := by decide +kernel
theorem dX3_fewestPlates_58 : decode cX3_fewestPlates 58 = .ok (.aload_n 0, 1) := by decide +kernel
theorem dX3_fewestPlates_59 : decode cX3_fewestPlates 59 = .ok (.iload 4, 2) := by decide +kernel
theorem dX3_fewestPlates_61 : decode cX3_fewestPlates 61 = .ok (.putfield 46, 3) := by decide +kernel
theorem dX3_fewestPlates_64 : decode cX3_fewestPlates 64 = .ok (.iload 5, 2) := by decide +kernel
theorem dX3_fewestPlates_66 : decode cX3_fewestPlates 66 = .ok (.ireturn, 1) := by decide +kernel
set_option maxRecDepth 20000 in
theorem ggX3_platesNeeded_X3_isDirection : GoodIn wsX3_platesNeeded wsX3_isDirection := goodIn_r _ [5, 6, 7, 4, 8] (by decide +kernel) (by decide +kernel)
set_option maxRecDepth 20000 in
theorem gX3_platesNeeded_X3_isDirection : GoodIn wsX3_platesNeeded (va_wsS RX3 100 yX3_isDirection wsX3_isDirection) := goodIn_app (goodIn_of _ (by decide +kernel)) ggX3_platesNeeded_X3_isDirection
set_option maxRecDepth 20000 in
theorem ggX3_platesNeeded_X3_no : GoodIn wsX3_platesNeeded wsX3_no := goodIn_r _ [12, 1, 42, 43, 44, 45, 46, 47, 48, 49, 50, 51, 52, 53, 54] (by decide +kernel) (by decide +kernel)
set_option maxRecDepth 20000 in
theorem gX3_platesNeeded_X3_no : GoodIn wsX3_platesNeeded (wsV RX3 62 RX3 yX3_no wsX3_no) := goodIn_app (goodIn_of _ (by decide +kernel)) ggX3_platesNeeded_X3_no
set_option maxRecDepth 20000 in
theorem ggX3_platesNeeded_X3_isLoad : GoodIn wsX3_platesNeeded wsX3_isLoad := goodIn_r _ [15, 6, 7, 4, 8] (by decide +kernel) (by decide +kernel)
set_option maxRecDepth 20000 in
theorem gX3_platesNeeded_X3_isLoad : GoodIn wsX3_platesNeeded (va_wsS RX3 75 yX3_isLoad wsX3_isLoad) := goodIn_app (goodIn_of _ (by decide +kernel)) ggX3_platesNeeded_X3_isLoad
set_option maxRecDepth 20000 in
theorem ggX3_platesNeeded_X3_isReach : GoodIn wsX3_platesNeeded wsX3_isReach := goodIn_r _ [18, 6, 7, 4, 8] (by decide +kernel) (by decide +kernel)
set_option maxRecDepth 20000 in
theorem gX3_platesNeeded_X3_isReach : GoodIn wsX3_platesNeeded (va_wsS RX3 72 yX3_isReach wsX3_isReach) := goodIn_app (goodIn_of _ (by decide +kernel)) ggX3_platesNeeded_X3_isReach
set_option maxRecDepth 20000 in
theorem ggX3_platesNeeded_X3_fewestPlates : GoodIn wsX3_platesNeeded wsX3_fewestPlates := goodIn_r _ [22, 23, 24, 25, 26, 4, 27, 28, 29, 30, 31, 32, 33, 34, 35, 36, 37, 38, 39, 40, 41, 42, 43, 44, 45, 46, 47, 48, 49, 50, 51, 52, 53, 54] (by decide +kernel) (by decide +kernel)
set_option maxRecDepth 20000 in
theorem gX3_platesNeeded_X3_fewestPlates : GoodIn wsX3_platesNeeded (wsV RX3 112 RX3 yX3_fewestPlates wsX3_fewestPlates) := goodIn_app (goodIn_of _ (by decide +kernel)) ggX3_platesNeeded_X3_fewestPlates
theorem dX3_platesNeeded_0 : decode cX3_platesNeeded 0 = .ok (.aload_n 0, 1) := by decide +kernel
theorem dX3_platesNeeded_1 : decode cX3_platesNeeded 1 = .ok (.iconst 0, 1) := by decide +kernel
theorem dX3_platesNeeded_2 : decode cX3_platesNeeded 2 = .ok (.putfield 26, 3) := by decide +kernel
theorem dX3_platesNeeded_5 : decode cX3_platesNeeded 5 = .ok (.iload_n 2, 1) := by decide +kernel
theorem dX3_platesNeeded_6 : decode cX3_platesNeeded 6 = .ok (.invokestatic 100, 3) := by decide +kernel
theorem dX3_platesNeeded_9 : decode cX3_platesNeeded 9 = .ok (.ifCond .ne 9, 3) := by decide +kernel
theorem dX3_platesNeeded_12 : decode cX3_platesNeeded 12 = .ok (.aload_n 0, 1) := by decide +kernel
theorem dX3_platesNeeded_13 : decode cX3_platesNeeded 13 = .ok (.iconst 1, 1) := by decide +kernel
theorem dX3_platesNeeded_14 : decode cX3_platesNeeded 14 = .ok (.invokevirtual 62, 3) := by decide +kernel
theorem dX3_platesNeeded_17 : decode cX3_platesNeeded 17 = .ok (.ireturn, 1) := by decide +kernel
theorem dX3_platesNeeded_18 : decode cX3_platesNeeded 18 = .ok (.iload_n 1, 1) := by decide +kernel
theorem dX3_platesNeeded_19 : decode cX3_platesNeeded 19 = .ok (.invokestatic 75, 3) := by decide +kernel
theorem dX3_platesNeeded_22 : decode cX3_platesNeeded 22 = .ok (.ifCond .eq 20, 3) := by decide +kernel
theorem dX3_platesNeeded_25 : decode cX3_platesNeeded 25 = .ok (.iload_n 3, 1) := by decide +kernel
theorem dX3_platesNeeded_26 : decode cX3_platesNeeded 26 = .ok (.invokestatic 72, 3) := by decide +kernel
theorem dX3_platesNeeded_29 : decode cX3_platesNeeded 29 = .ok (.ifCond .eq 13, 3) := by decide +kernel
theorem dX3_platesNeeded_32 : decode cX3_platesNeeded 32 = .ok (.aload_n 0, 1) := by decide +kernel
theorem dX3_platesNeeded_33 : decode cX3_platesNeeded 33 = .ok (.iload_n 1, 1) := by decide +kernel
theorem dX3_platesNeeded_34 : decode cX3_platesNeeded 34 = .ok (.iload_n 2, 1) := by decide +kernel
theorem dX3_platesNeeded_35 : decode cX3_platesNeeded 35 = .ok (.iload_n 3, 1) := by decide +kernel
theorem dX3_platesNeeded_36 : decode cX3_platesNeeded 36 = .ok (.invokevirtual 112, 3) := by decide +kernel
theorem dX3_platesNeeded_39 : decode cX3_platesNeeded 39 = .ok (.goto 8, 3) := by decide +kernel
theorem dX3_platesNeeded_42 : decode cX3_platesNeeded 42 = .ok (.aload_n 0, 1) := by decide +kernel
theorem dX3_platesNeeded_43 : decode cX3_platesNeeded 43 = .ok (.iconst 2, 1) := by decide +kernel
theorem dX3_platesNeeded_44 : decode cX3_platesNeeded 44 = .ok (.invokevirtual 62, 3) := by decide +kernel
theorem dX3_platesNeeded_47 : decode cX3_platesNeeded 47 = .ok (.ireturn, 1) := by decide +kernel
set_option maxRecDepth 20000 in
theorem ggX3_comeTo_X3_isReach : GoodIn wsX3_comeTo wsX3_isReach := goodIn_r _ [7, 8, 9, 6, 10] (by decide +kernel) (by decide +kernel)
set_option maxRecDepth 20000 in
theorem gX3_comeTo_X3_isReach : GoodIn wsX3_comeTo (va_wsS RX3 72 yX3_isReach wsX3_isReach) := goodIn_app (goodIn_of _ (by decide +kernel)) ggX3_comeTo_X3_isReach
set_option maxRecDepth 20000 in
theorem ggX3_comeTo_X3_isSafe : GoodIn wsX3_comeTo wsX3_isSafe := goodIn_r _ [14, 15, 16, 17, 18, 6, 19, 20, 21, 22, 23, 24, 25, 26, 27, 28, 29, 30, 31, 32, 33, 34, 35, 36, 37, 38, 39, 40, 41, 42] (by decide +kernel) (by decide +kernel)
set_option maxRecDepth 20000 in
theorem gX3_comeTo_X3_isSafe : GoodIn wsX3_comeTo (wsV RX3 59 RX3 yX3_isSafe wsX3_isSafe) := goodIn_app (goodIn_of _ (by decide +kernel)) ggX3_comeTo_X3_isSafe
theorem dX3_comeTo_0 : decode cX3_comeTo 0 = .ok (.iload_n 3, 1) := by decide +kernel
theorem dX3_comeTo_1 : decode cX3_comeTo 1 = .ok (.invokestatic 72, 3) := by decide +kernel
theorem dX3_comeTo_4 : decode cX3_comeTo 4 = .ok (.ifCond .eq 28, 3) := by decide +kernel
theorem dX3_comeTo_7 : decode cX3_comeTo 7 = .ok (.aload_n 0, 1) := by decide +kernel
theorem dX3_comeTo_8 : decode cX3_comeTo 8 = .ok (.getfield 20, 3) := by decide +kernel
theorem dX3_comeTo_11 : decode cX3_comeTo 11 = .ok (.bipush 8, 2) := by decide +kernel
theorem dX3_comeTo_13 : decode cX3_comeTo 13 = .ok (.iload_n 3, 1) := by decide +kernel
theorem dX3_comeTo_14 : decode cX3_comeTo 14 = .ok (.imul, 1) := by decide +kernel
theorem dX3_comeTo_15 : decode cX3_comeTo 15 = .ok (.iload_n 2, 1) := by decide +kernel
theorem dX3_comeTo_16 : decode cX3_comeTo 16 = .ok (.iadd, 1) := by decide +kernel
theorem dX3_comeTo_17 : decode cX3_comeTo 17 = .ok (.iaload, 1) := by decide +kernel
theorem dX3_comeTo_18 : decode cX3_comeTo 18 = .ok (.iconst (-1), 1) := by decide +kernel
theorem dX3_comeTo_19 : decode cX3_comeTo 19 = .ok (.if_icmp .ne 13, 3) := by decide +kernel
theorem dX3_comeTo_22 : decode cX3_comeTo 22 = .ok (.aload_n 0, 1) := by decide +kernel
theorem dX3_comeTo_23 : decode cX3_comeTo 23 = .ok (.iload_n 1, 1) := by decide +kernel
theorem dX3_comeTo_24 : decode cX3_comeTo 24 = .ok (.iload_n 2, 1) := by decide +kernel
theorem dX3_comeTo_25 : decode cX3_comeTo 25 = .ok (.iload_n 3, 1) := by decide +kernel
theorem dX3_comeTo_26 : decode cX3_comeTo 26 = .ok (.invokevirtual 59, 3) := by decide +kernel
theorem dX3_comeTo_29 : decode cX3_comeTo 29 = .ok (.ifCond .ne 4, 3) := by decide +kernel
theorem dX3_comeTo_32 : decode cX3_comeTo 32 = .ok (.return_, 1) := by decide +kernel
theorem dX3_comeTo_33 : decode cX3_comeTo 33 = .ok (.aload_n 0, 1) := by decide +kernel
theorem dX3_comeTo_34 : decode cX3_comeTo 34 = .ok (.getfield 20, 3) := by decide +kernel
theorem dX3_comeTo_37 : decode cX3_comeTo 37 = .ok (.bipush 8, 2) := by decide +kernel
theorem dX3_comeTo_39 : decode cX3_comeTo 39 = .ok (.iload_n 3, 1) := by decide +kernel
theorem dX3_comeTo_40 : decode cX3_comeTo 40 = .ok (.imul, 1) := by decide +kernel
theorem dX3_comeTo_41 : decode cX3_comeTo 41 = .ok (.iload_n 2, 1) := by decide +kernel
theorem dX3_comeTo_42 : decode cX3_comeTo 42 = .ok (.iadd, 1) := by decide +kernel
theorem dX3_comeTo_43 : decode cX3_comeTo 43 = .ok (.iload 4, 2) := by decide +kernel
theorem dX3_comeTo_45 : decode cX3_comeTo 45 = .ok (.iastore, 1) := by decide +kernel
theorem dX3_comeTo_46 : decode cX3_comeTo 46 = .ok (.aload_n 0, 1) := by decide +kernel
theorem dX3_comeTo_47 : decode cX3_comeTo 47 = .ok (.getfield 23, 3) := by decide +kernel
theorem dX3_comeTo_50 : decode cX3_comeTo 50 = .ok (.aload_n 0, 1) := by decide +kernel
theorem dX3_comeTo_51 : decode cX3_comeTo 51 = .ok (.getfield 116, 3) := by decide +kernel
theorem dX3_comeTo_54 : decode cX3_comeTo 54 = .ok (.bipush 8, 2) := by decide +kernel
theorem dX3_comeTo_56 : decode cX3_comeTo 56 = .ok (.iload_n 3, 1) := by decide +kernel
theorem dX3_comeTo_57 : decode cX3_comeTo 57 = .ok (.imul, 1) := by decide +kernel
theorem dX3_comeTo_58 : decode cX3_comeTo 58 = .ok (.iload_n 2, 1) := by decide +kernel
theorem dX3_comeTo_59 : decode cX3_comeTo 59 = .ok (.iadd, 1) := by decide +kernel
theorem dX3_comeTo_60 : decode cX3_comeTo 60 = .ok (.iastore, 1) := by decide +kernel
theorem dX3_comeTo_61 : decode cX3_comeTo 61 = .ok (.aload_n 0, 1) := by decide +kernel
theorem dX3_comeTo_62 : decode cX3_comeTo 62 = .ok (.dup, 1) := by decide +kernel
theorem dX3_comeTo_63 : decode cX3_comeTo 63 = .ok (.getfield 116, 3) := by decide +kernel
theorem dX3_comeTo_66 : decode cX3_comeTo 66 = .ok (.iconst 1, 1) := by decide +kernel
theorem dX3_comeTo_67 : decode cX3_comeTo 67 = .ok (.iadd, 1) := by decide +kernel
theorem dX3_comeTo_68 : decode cX3_comeTo 68 = .ok (.putfield 116, 3) := by decide +kernel
theorem dX3_comeTo_71 : decode cX3_comeTo 71 = .ok (.return_, 1) := by decide +kernel
set_option maxRecDepth 20000 in
theorem ggX3_goOut_X3_comeTo : GoodIn wsX3_goOut wsX3_comeTo := goodIn_r _ [10, 1, 5, 2, 11, 12, 9, 13, 14, 15, 16, 17, 18, 19, 20, 21, 22, 23, 24, 25, 26, 27, 28, 29, 30, 31, 32, 33, 34, 35, 36, 37, 38, 39, 40, 41, 42, 43, 44, 45, 46, 47, 48] (by decide +kernel) (by decide +kernel)
set_option maxRecDepth 20000 in
theorem gX3_goOut_X3_comeTo : GoodIn wsX3_goOut (wsV RX3 119 RX3 yX3_comeTo wsX3_comeTo) := goodIn_app (goodIn_of _ (by decide +kernel)) ggX3_goOut_X3_comeTo
theorem dX3_goOut_0 : decode cX3_goOut 0 = .ok (.iconst 0, 1) := by decide +kernel
theorem dX3_goOut_1 : decode cX3_goOut 1 = .ok (.istore_n 2, 1) := by decide +kernel
theorem dX3_goOut_2 : decode cX3_goOut 2 = .ok (.iload_n 2, 1) := by decide +kernel
theorem dX3_goOut_3 : decode cX3_goOut 3 = .ok (.sipush 248, 3) := by decide +kernel
theorem dX3_goOut_6 : decode cX3_goOut 6 = .ok (.if_icmp .ge 16, 3) := by decide +kernel
theorem dX3_goOut_9 : decode cX3_goOut 9 = .ok (.aload_n 0, 1) := by decide +kernel
theorem dX3_goOut_10 : decode cX3_goOut 10 = .ok (.getfield 20, 3) := by decide +kernel
theorem dX3_goOut_13 : decode cX3_goOut 13 = .ok (.iload_n 2, 1) := by decide +kernel
theorem dX3_goOut_14 : decode cX3_goOut 14 = .ok (.iconst (-1), 1) := by decide +kernel
theorem dX3_goOut_15 : decode cX3_goOut 15 = .ok (.iastore, 1) := by decide +kernel
theorem dX3_goOut_16 : decode cX3_goOut 16 = .ok (.iinc 2 1, 3) := by decide +kernel
theorem dX3_goOut_19 : decode cX3_goOut 19 = .ok (.goto (-17), 3) := by decide +kernel
theorem dX3_goOut_22 : decode cX3_goOut 22 = .ok (.aload_n 0, 1) := by decide +kernel
theorem dX3_goOut_23 : decode cX3_goOut 23 = .ok (.iconst 0, 1) := by decide +kernel
theorem dX3_goOut_24 : decode cX3_goOut 24 = .ok (.putfield 116, 3) := by decide +kernel
theorem dX3_goOut_27 : decode cX3_goOut 27 = .ok (.aload_n 0, 1) := by decide +kernel
theorem dX3_goOut_28 : decode cX3_goOut 28 = .ok (.iload_n 1, 1) := by decide +kernel
theorem dX3_goOut_29 : decode cX3_goOut 29 = .ok (.aload_n 0, 1) := by decide +kernel
theorem dX3_goOut_30 : decode cX3_goOut 30 = .ok (.getfield 56, 3) := by decide +kernel
theorem dX3_goOut_33 : decode cX3_goOut 33 = .ok (.aload_n 0, 1) := by decide +kernel
theorem dX3_goOut_34 : decode cX3_goOut 34 = .ok (.getfield 9, 3) := by decide +kernel
theorem dX3_goOut_37 : decode cX3_goOut 37 = .ok (.iconst 0, 1) := by decide +kernel
theorem dX3_goOut_38 : decode cX3_goOut 38 = .ok (.invokevirtual 119, 3) := by decide +kernel
theorem dX3_goOut_41 : decode cX3_goOut 41 = .ok (.iconst 0, 1) := by decide +kernel
theorem dX3_goOut_42 : decode cX3_goOut 42 = .ok (.istore_n 2, 1) := by decide +kernel
theorem dX3_goOut_43 : decode cX3_goOut 43 = .ok (.iload_n 2, 1) := by decide +kernel
theorem dX3_goOut_44 : decode cX3_goOut 44 = .ok (.aload_n 0, 1) := by decide +kernel
theorem dX3_goOut_45 : decode cX3_goOut 45 = .ok (.getfield 116, 3) := by decide +kernel
theorem dX3_goOut_48 : decode cX3_goOut 48 = .ok (.if_icmp .ge 102, 3) := by decide +kernel
theorem dX3_goOut_51 : decode cX3_goOut 51 = .ok (.aload_n 0, 1) := by decide +kernel
theorem dX3_goOut_52 : decode cX3_goOut 52 = .ok (.getfield 23, 3) := by decide +kernel
theorem dX3_goOut_55 : decode cX3_goOut 55 = .ok (.iload_n 2, 1) := by decide +kernel
theorem dX3_goOut_56 : decode cX3_goOut 56 = .ok (.iaload, 1) := by decide +kernel
theorem dX3_goOut_57 : decode cX3_goOut 57 = .ok (.bipush 8, 2) := by decide +kernel
theorem dX3_goOut_59 : decode cX3_goOut 59 = .ok (.irem, 1) := by decide +kernel
theorem dX3_goOut_60 : decode cX3_goOut 60 = .ok (.istore_n 3, 1) := by decide +kernel
theorem dX3_goOut_61 : decode cX3_goOut 61 = .ok (.aload_n 0, 1) := by decide +kernel
theorem dX3_goOut_62 : decode cX3_goOut 62 = .ok (.getfield 23, 3) := by decide +kernel
theorem dX3_goOut_65 : decode cX3_goOut 65 = .ok (.iload_n 2, 1) := by decide +kernel
theorem dX3_goOut_66 : decode cX3_goOut 66 = .ok (.iaload, 1) := by decide +kernel
theorem dX3_goOut_67 : decode cX3_goOut 67 = .ok (.bipush 8, 2) := by decide +kernel
theorem dX3_goOut_69 : decode cX3_goOut 69 = .ok (.idiv, 1) := by decide +kernel
theorem dX3_goOut_70 : decode cX3_goOut 70 = .ok (.istore 4, 2) := by decide +kernel
theorem dX3_goOut_72 : decode cX3_goOut 72 = .ok (.aload_n 0, 1) := by decide +kernel
theorem dX3_goOut_73 : decode cX3_goOut 73 = .ok (.getfield 20, 3) := by decide +kernel
theorem dX3_goOut_76 : decode cX3_goOut 76 = .ok (.aload_n 0, 1) := by decide +kernel
theorem dX3_goOut_77 : decode cX3_goOut 77 = .ok (.getfield 23, 3) := by decide +kernel
theorem dX3_goOut_80 : decode cX3_goOut 80 = .ok (.iload_n 2, 1) := by decide +kernel
theorem dX3_goOut_81 : decode cX3_goOut 81 = .ok (.iaload, 1) := by decide +kernel
theorem dX3_goOut_82 : decode cX3_goOut 82 = .ok (.iaload, 1) := by decide +kernel
theorem dX3_goOut_83 : decode cX3_goOut 83 = .ok (.iconst 1, 1) := by decide +kernel
theorem dX3_goOut_84 : decode cX3_goOut 84 = .ok (.iadd, 1) := by decide +kernel
theorem dX3_goOut_85 : decode cX3_goOut 85 = .ok (.istore 5, 2) := by decide +kernel
theorem dX3_goOut_87 : decode cX3_goOut 87 = .ok (.aload_n 0, 1) := by decide +kernel
theorem dX3_goOut_88 : decode cX3_goOut 88 = .ok (.iload_n 1, 1) := by decide +kernel
theorem dX3_goOut_89 : decode cX3_goOut 89 = .ok (.iload_n 3, 1) := by decide +kernel
theorem dX3_goOut_90 : decode cX3_goOut 90 = .ok (.iconst 1, 1) := by decide +kernel
theorem dX3_goOut_91 : decode cX3_goOut 91 = .ok (.iadd, 1) := by decide +kernel
theorem dX3_goOut_92 : decode cX3_goOut 92 = .ok (.bipush 8, 2) := by decide +kernel
theorem dX3_goOut_94 : decode cX3_goOut 94 = .ok (.irem, 1) := by decide +kernel
theorem dX3_goOut_95 : decode cX3_goOut 95 = .ok (.iload 4, 2) := by decide +kernel
theorem dX3_goOut_97 : decode cX3_goOut 97 = .ok (.iload 5, 2) := by decide +kernel
theorem dX3_goOut_99 : decode cX3_goOut 99 = .ok (.invokevirtual 119, 3) := by decide +kernel
theorem dX3_goOut_102 : decode cX3_goOut 102 = .ok (.aload_n 0, 1) := by decide +kernel
theorem dX3_goOut_103 : decode cX3_goOut 103 = .ok (.iload_n 1, 1) := by decide +kernel
theorem dX3_goOut_104 : decode cX3_goOut 104 = .ok (.iload_n 3, 1) := by decide +kernel
theorem dX3_goOut_105 : decode cX3_goOut 105 = .ok (.bipush 8, 2) := by decide +kernel
theorem dX3_goOut_107 : decode cX3_goOut 107 = .ok (.iadd, 1) := by decide +kernel
theorem dX3_goOut_108 : decode cX3_goOut 108 = .ok (.iconst 1, 1) := by decide +kernel
theorem dX3_goOut_109 : decode cX3_goOut 109 = .ok (.isub, 1) := by decide +kernel
theorem dX3_goOut_110 : decode cX3_goOut 110 = .ok (.bipush 8, 2) := by decide +kernel
theorem dX3_goOut_112 : decode cX3_goOut 112 = .ok (.irem, 1) := by decide +kernel
theorem dX3_goOut_113 : decode cX3_goOut 113 = .ok (.iload 4, 2) := by decide +kernel
theorem dX3_goOut_115 : decode cX3_goOut 115 = .ok (.iload 5, 2) := by decide +kernel
theorem dX3_goOut_117 : decode cX3_goOut 117 = .ok (.invokevirtual 119, 3) := by decide +kernel
theorem dX3_goOut_120 : decode cX3_goOut 120 = .ok (.aload_n 0, 1) := by decide +kernel
theorem dX3_goOut_121 : decode cX3_goOut 121 = .ok (.iload_n 1, 1) := by decide +kernel
theorem dX3_goOut_122 : decode cX3_goOut 122 = .ok (.iload_n 3, 1) := by decide +kernel
theorem dX3_goOut_123 : decode cX3_goOut 123 = .ok (.iload 4, 2) := by decide +kernel
theorem dX3_goOut_125 : decode cX3_goOut 125 = .ok (.iconst 1, 1) := by decide +kernel
theorem dX3_goOut_126 : decode cX3_goOut 126 = .ok (.iadd, 1) := by decide +kernel
theorem dX3_goOut_127 : decode cX3_goOut 127 = .ok (.iload 5, 2) := by decide +kernel
theorem dX3_goOut_129 : decode cX3_goOut 129 = .ok (.invokevirtual 119, 3) := by decide +kernel
theorem dX3_goOut_132 : decode cX3_goOut 132 = .ok (.aload_n 0, 1) := by decide +kernel
theorem dX3_goOut_133 : decode cX3_goOut 133 = .ok (.iload_n 1, 1) := by decide +kernel
theorem dX3_goOut_134 : decode cX3_goOut 134 = .ok (.iload_n 3, 1) := by decide +kernel
theorem dX3_goOut_135 : decode cX3_goOut 135 = .ok (.iload 4, 2) := by decide +kernel
theorem dX3_goOut_137 : decode cX3_goOut 137 = .ok (.iconst 1, 1) := by decide +kernel
theorem dX3_goOut_138 : decode cX3_goOut 138 = .ok (.isub, 1) := by decide +kernel
theorem dX3_goOut_139 : decode cX3_goOut 139 = .ok (.iload 5, 2) := by decide +kernel
theorem dX3_goOut_141 : decode cX3_goOut 141 = .ok (.invokevirtual 119, 3) := by decide +kernel
theorem dX3_goOut_144 : decode cX3_goOut 144 = .ok (.iinc 2 1, 3) := by decide +kernel
theorem dX3_goOut_147 : decode cX3_goOut 147 = .ok (.goto (-104), 3) := by decide +kernel
theorem dX3_goOut_150 : decode cX3_goOut 150 = .ok (.return_, 1) := by decide +kernel
set_option maxRecDepth 20000 in
theorem ggX3_fewestMoves_X3_isDirection : GoodIn wsX3_fewestMoves wsX3_isDirection := goodIn_r _ [6, 7, 8, 5, 9] (by decide +kernel) (by decide +kernel)
set_option maxRecDepth 20000 in
theorem gX3_fewestMoves_X3_isDirection : GoodIn wsX3_fewestMoves (va_wsS RX3 100 yX3_isDirection wsX3_isDirection) := goodIn_app (goodIn_of _ (by decide +kernel)) ggX3_fewestMoves_X3_isDirection
set_option maxRecDepth 20000 in
theorem ggX3_fewestMoves_X3_no : GoodIn wsX3_fewestMoves wsX3_no := goodIn_r _ [13, 1, 51, 52, 53, 54, 55, 56, 57, 58, 59, 60, 61, 62, 63] (by decide +kernel) (by decide +kernel)
set_option maxRecDepth 20000 in
theorem gX3_fewestMoves_X3_no : GoodIn wsX3_fewestMoves (wsV RX3 62 RX3 yX3_no wsX3_no) := goodIn_app (goodIn_of _ (by decide +kernel)) ggX3_fewestMoves_X3_no
set_option maxRecDepth 20000 in
theorem ggX3_fewestMoves_X3_isLoad : GoodIn wsX3_fewestMoves wsX3_isLoad := goodIn_r _ [16, 7, 8, 5, 9] (by decide +kernel) (by decide +kernel)
set_option maxRecDepth 20000 in
theorem gX3_fewestMoves_X3_isLoad : GoodIn wsX3_fewestMoves (va_wsS RX3 75 yX3_isLoad wsX3_isLoad) := goodIn_app (goodIn_of _ (by decide +kernel)) ggX3_fewestMoves_X3_isLoad
set_option maxRecDepth 20000 in
theorem ggX3_fewestMoves_X3_isReach : GoodIn wsX3_fewestMoves wsX3_isReach := goodIn_r _ [19, 7, 8, 5, 9] (by decide +kernel) (by decide +kernel)
set_option maxRecDepth 20000 in
theorem gX3_fewestMoves_X3_isReach : GoodIn wsX3_fewestMoves (va_wsS RX3 72 yX3_isReach wsX3_isReach) := goodIn_app (goodIn_of _ (by decide +kernel)) ggX3_fewestMoves_X3_isReach
set_option maxRecDepth 20000 in
theorem ggX3_fewestMoves_X3_goOut : GoodIn wsX3_fewestMoves wsX3_goOut := goodIn_r _ [23, 2, 24, 25, 26, 27, 28, 29, 30, 5, 31, 17, 18, 19, 7, 8, 9, 32, 33, 34, 35, 36, 37, 38, 39, 40, 41, 42, 43, 44, 45, 46, 47, 48, 49, 50, 51, 52, 53, 54, 55, 56, 57, 58, 59, 60, 61, 62, 63] (by decide +kernel) (by decide +kernel)
set_option maxRecDepth 20000 in
theorem gX3_fewestMoves_X3_goOut : GoodIn wsX3_fewestMoves (wsV RX3 123 RX3 yX3_goOut wsX3_goOut) := goodIn_app (goodIn_of _ (by decide +kernel)) ggX3_fewestMoves_X3_goOut
theorem dX3_fewestMoves_0 : decode cX3_fewestMoves 0 = .ok (.aload_n 0, 1) := by decide +kernel
theorem dX3_fewestMoves_1 : decode cX3_fewestMoves 1 = .ok (.iconst 0, 1) := by decide +kernel
theorem dX3_fewestMoves_2 : decode cX3_fewestMoves 2 = .ok (.putfield 26, 3) := by decide +kernel
theorem dX3_fewestMoves_5 : decode cX3_fewestMoves 5 = .ok (.iload_n 2, 1) := by decide +kernel
theorem dX3_fewestMoves_6 : decode cX3_fewestMoves 6 = .ok (.invokestatic 100, 3) := by decide +kernel
theorem dX3_fewestMoves_9 : decode cX3_fewestMoves 9 = .ok (.ifCond .ne 9, 3) := by decide +kernel
theorem dX3_fewestMoves_12 : decode cX3_fewestMoves 12 = .ok (.aload_n 0, 1) := by decide +kernel
theorem dX3_fewestMoves_13 : decode cX3_fewestMoves 13 = .ok (.iconst 1, 1) := by decide +kernel
theorem dX3_fewestMoves_14 : decode cX3_fewestMoves 14 = .ok (.invokevirtual 62, 3) := by decide +kernel
theorem dX3_fewestMoves_17 : decode cX3_fewestMoves 17 = .ok (.ireturn, 1) := by decide +kernel
theorem dX3_fewestMoves_18 : decode cX3_fewestMoves 18 = .ok (.iload_n 1, 1) := by decide +kernel
theorem dX3_fewestMoves_19 : decode cX3_fewestMoves 19 = .ok (.invokestatic 75, 3) := by decide +kernel
theorem dX3_fewestMoves_22 : decode cX3_fewestMoves 22 = .ok (.ifCond .eq 10, 3) := by decide +kernel
theorem dX3_fewestMoves_25 : decode cX3_fewestMoves 25 = .ok (.iload_n 3, 1) := by decide +kernel
theorem dX3_fewestMoves_26 : decode cX3_fewestMoves 26 = .ok (.invokestatic 72, 3) := by decide +kernel
theorem dX3_fewestMoves_29 : decode cX3_fewestMoves 29 = .ok (.ifCond .ne 9, 3) := by decide +kernel
theorem dX3_fewestMoves_32 : decode cX3_fewestMoves 32 = .ok (.aload_n 0, 1) := by decide +kernel
theorem dX3_fewestMoves_33 : decode cX3_fewestMoves 33 = .ok (.iconst 2, 1) := by decide +kernel
theorem dX3_fewestMoves_34 : decode cX3_fewestMoves 34 = .ok (.invokevirtual 62, 3) := by decide +kernel
theorem dX3_fewestMoves_37 : decode cX3_fewestMoves 37 = .ok (.ireturn, 1) := by decide +kernel
theorem dX3_fewestMoves_38 : decode cX3_fewestMoves 38 = .ok (.aload_n 0, 1) := by decide +kernel
theorem dX3_fewestMoves_39 : decode cX3_fewestMoves 39 = .ok (.iload_n 1, 1) := by decide +kernel
theorem dX3_fewestMoves_40 : decode cX3_fewestMoves 40 = .ok (.invokevirtual 123, 3) := by decide +kernel
theorem dX3_fewestMoves_43 : decode cX3_fewestMoves 43 = .ok (.aload_n 0, 1) := by decide +kernel
theorem dX3_fewestMoves_44 : decode cX3_fewestMoves 44 = .ok (.getfield 20, 3) := by decide +kernel
theorem dX3_fewestMoves_47 : decode cX3_fewestMoves 47 = .ok (.bipush 8, 2) := by decide +kernel
theorem dX3_fewestMoves_49 : decode cX3_fewestMoves 49 = .ok (.iload_n 3, 1) := by decide +kernel
theorem dX3_fewestMoves_50 : decode cX3_fewestMoves 50 = .ok (.imul, 1) := by decide +kernel
theorem dX3_fewestMoves_51 : decode cX3_fewestMoves 51 = .ok (.iload_n 2, 1) := by decide +kernel
theorem dX3_fewestMoves_52 : decode cX3_fewestMoves 52 = .ok (.iadd, 1) := by decide +kernel
theorem dX3_fewestMoves_53 : decode cX3_fewestMoves 53 = .ok (.iaload, 1) := by decide +kernel
theorem dX3_fewestMoves_54 : decode cX3_fewestMoves 54 = .ok (.ireturn, 1) := by decide +kernel
set_option maxRecDepth 20000 in
theorem ggX3_within_X3_goOut : GoodIn wsX3_within wsX3_goOut := goodIn_r _ [6, 7, 1, 8, 9, 10, 11, 12, 13, 5, 14, 15, 16, 17, 18, 19, 20, 21, 22, 23, 24, 25, 26, 27, 28, 29, 30, 31, 32, 33, 34, 35, 36, 37, 38, 39, 40, 41, 42, 43, 44, 45, 46, 47, 48, 49, 50, 51, 52] (by decide +kernel) (by decide +kernel)
set_option maxRecDepth 20000 in
theorem gX3_within_X3_goOut : GoodIn wsX3_within (wsV RX3 123 RX3 yX3_goOut wsX3_goOut) := goodIn_app (goodIn_of _ (by decide +kernel)) ggX3_within_X3_goOut
theorem dX3_within_0 : decode cX3_within 0 = .ok (.aload_n 0, 1) := by decide +kernel
theorem dX3_within_1 : decode cX3_within 1 = .ok (.iload_n 1, 1) := by decide +kernel
theorem dX3_within_2 : decode cX3_within 2 = .ok (.invokevirtual 123, 3) := by decide +kernel
theorem dX3_within_5 : decode cX3_within 5 = .ok (.aload_n 0, 1) := by decide +kernel
theorem dX3_within_6 : decode cX3_within 6 = .ok (.getfield 116, 3) := by decide +kernel
theorem dX3_within_9 : decode cX3_within 9 = .ok (.ireturn, 1) := by decide +kernel
set_option maxRecDepth 20000 in
theorem ggX3_placesWithin_X3_isLoad : GoodIn wsX3_placesWithin wsX3_isLoad := goodIn_r _ [5, 6, 7, 4, 8] (by decide +kernel) (by decide +kernel)
set_option maxRecDepth 20000 in
theorem gX3_placesWithin_X3_isLoad : GoodIn wsX3_placesWithin (va_wsS RX3 75 yX3_isLoad wsX3_isLoad) := goodIn_app (goodIn_of _ (by decide +kernel)) ggX3_placesWithin_X3_isLoad
set_option maxRecDepth 20000 in
theorem ggX3_placesWithin_X3_within : GoodIn wsX3_placesWithin wsX3_within := goodIn_r _ [12, 13, 14, 15, 16, 4, 17, 18, 19, 20, 21, 22, 23, 24, 25, 26, 27, 28, 6, 7, 8, 29, 30, 31, 32, 33, 34, 35, 36, 37, 38, 39, 40, 41, 42, 43, 44, 45, 46, 47, 52, 53, 54, 55, 56, 57, 58, 59, 60, 61, 62, 63, 64] (by decide +kernel) (by decide +kernel)
set_option maxRecDepth 20000 in
theorem gX3_placesWithin_X3_within : GoodIn wsX3_placesWithin (wsV RX3 127 RX3 yX3_within wsX3_within) := goodIn_app (goodIn_of _ (by decide +kernel)) ggX3_placesWithin_X3_within
set_option maxRecDepth 20000 in
theorem ggX3_placesWithin_X3_no : GoodIn wsX3_placesWithin wsX3_no := goodIn_r _ [51, 1, 52, 53, 54, 55, 56, 57, 58, 59, 60, 61, 62, 63, 64] (by decide +kernel) (by decide +kernel)
set_option maxRecDepth 20000 in
theorem gX3_placesWithin_X3_no : GoodIn wsX3_placesWithin (wsV RX3 62 RX3 yX3_no wsX3_no) := goodIn_app (goodIn_of _ (by decide +kernel)) ggX3_placesWithin_X3_no
theorem dX3_placesWithin_0 : decode cX3_placesWithin 0 = .ok (.aload_n 0, 1) := by decide +kernel
theorem dX3_placesWithin_1 : decode cX3_placesWithin 1 = .ok (.iconst 0, 1) := by decide +kernel
theorem dX3_placesWithin_2 : decode cX3_placesWithin 2 = .ok (.putfield 26, 3) := by decide +kernel
theorem dX3_placesWithin_5 : decode cX3_placesWithin 5 = .ok (.iload_n 1, 1) := by decide +kernel
theorem dX3_placesWithin_6 : decode cX3_placesWithin 6 = .ok (.invokestatic 75, 3) := by decide +kernel
theorem dX3_placesWithin_9 : decode cX3_placesWithin 9 = .ok (.ifCond .eq 11, 3) := by decide +kernel
theorem dX3_placesWithin_12 : decode cX3_placesWithin 12 = .ok (.aload_n 0, 1) := by decide +kernel
theorem dX3_placesWithin_13 : decode cX3_placesWithin 13 = .ok (.iload_n 1, 1) := by decide +kernel
theorem dX3_placesWithin_14 : decode cX3_placesWithin 14 = .ok (.invokevirtual 127, 3) := by decide +kernel
theorem dX3_placesWithin_17 : decode cX3_placesWithin 17 = .ok (.goto 8, 3) := by decide +kernel
theorem dX3_placesWithin_20 : decode cX3_placesWithin 20 = .ok (.aload_n 0, 1) := by decide +kernel
theorem dX3_placesWithin_21 : decode cX3_placesWithin 21 = .ok (.iconst 1, 1) := by decide +kernel
theorem dX3_placesWithin_22 : decode cX3_placesWithin 22 = .ok (.invokevirtual 62, 3) := by decide +kernel
theorem dX3_placesWithin_25 : decode cX3_placesWithin 25 = .ok (.ireturn, 1) := by decide +kernel
set_option maxRecDepth 20000 in
theorem ggX3_bestOutrigger_X3_isLoad : GoodIn wsX3_bestOutrigger wsX3_isLoad := goodIn_r _ [6, 7, 8, 5, 9] (by decide +kernel) (by decide +kernel)
set_option maxRecDepth 20000 in
theorem gX3_bestOutrigger_X3_isLoad : GoodIn wsX3_bestOutrigger (va_wsS RX3 75 yX3_isLoad wsX3_isLoad) := goodIn_app (goodIn_of _ (by decide +kernel)) ggX3_bestOutrigger_X3_isLoad
set_option maxRecDepth 20000 in
theorem ggX3_bestOutrigger_X3_no : GoodIn wsX3_bestOutrigger wsX3_no := goodIn_r _ [13, 1, 52, 53, 54, 55, 56, 57, 58, 59, 60, 61, 62, 63, 64] (by decide +kernel) (by decide +kernel)
set_option maxRecDepth 20000 in
theorem gX3_bestOutrigger_X3_no : GoodIn wsX3_bestOutrigger (wsV RX3 62 RX3 yX3_no wsX3_no) := goodIn_app (goodIn_of _ (by decide +kernel)) ggX3_bestOutrigger_X3_no
set_option maxRecDepth 20000 in
theorem ggX3_bestOutrigger_X3_within : GoodIn wsX3_bestOutrigger wsX3_within := goodIn_r _ [17, 18, 19, 20, 21, 5, 22, 23, 24, 25, 26, 27, 28, 29, 30, 31, 32, 33, 7, 8, 9, 34, 35, 36, 37, 38, 39, 40, 41, 42, 43, 44, 45, 46, 47, 48, 49, 50, 2, 51, 52, 53, 54, 55, 56, 57, 58, 59, 60, 61, 62, 63, 64] (by decide +kernel) (by decide +kernel)
set_option maxRecDepth 20000 in
theorem gX3_bestOutrigger_X3_within : GoodIn wsX3_bestOutrigger (wsV RX3 127 RX3 yX3_within wsX3_within) := goodIn_app (goodIn_of _ (by decide +kernel)) ggX3_bestOutrigger_X3_within
theorem dX3_bestOutrigger_0 : decode cX3_bestOutrigger 0 = .ok (.aload_n 0, 1) := by decide +kernel
theorem dX3_bestOutrigger_1 : decode cX3_bestOutrigger 1 = .ok (.iconst 0, 1) := by decide +kernel
theorem dX3_bestOutrigger_2 : decode cX3_bestOutrigger 2 = .ok (.putfield 26, 3) := by decide +kernel
theorem dX3_bestOutrigger_5 : decode cX3_bestOutrigger 5 = .ok (.iload_n 1, 1) := by decide +kernel
theorem dX3_bestOutrigger_6 : decode cX3_bestOutrigger 6 = .ok (.invokestatic 75, 3) := by decide +kernel
theorem dX3_bestOutrigger_9 : decode cX3_bestOutrigger 9 = .ok (.ifCond .ne 9, 3) := by decide +kernel
theorem dX3_bestOutrigger_12 : decode cX3_bestOutrigger 12 = .ok (.aload_n 0, 1) := by decide +kernel
theorem dX3_bestOutrigger_13 : decode cX3_bestOutrigger 13 = .ok (.iconst 1, 1) := by decide +kernel
theorem dX3_bestOutrigger_14 : decode cX3_bestOutrigger 14 = .ok (.invokevirtual 62, 3) := by decide +kernel
theorem dX3_bestOutrigger_17 : decode cX3_bestOutrigger 17 = .ok (.ireturn, 1) := by decide +kernel
theorem dX3_bestOutrigger_18 : decode cX3_bestOutrigger 18 = .ok (.iconst (-1), 1) := by decide +kernel
theorem dX3_bestOutrigger_19 : decode cX3_bestOutrigger 19 = .ok (.istore_n 2, 1) := by decide +kernel
theorem dX3_bestOutrigger_20 : decode cX3_bestOutrigger 20 = .ok (.iconst (-1), 1) := by decide +kernel
theorem dX3_bestOutrigger_21 : decode cX3_bestOutrigger 21 = .ok (.istore_n 3, 1) := by decide +kernel
theorem dX3_bestOutrigger_22 : decode cX3_bestOutrigger 22 = .ok (.iconst 0, 1) := by decide +kernel
theorem dX3_bestOutrigger_23 : decode cX3_bestOutrigger 23 = .ok (.istore 4, 2) := by decide +kernel
theorem dX3_bestOutrigger_25 : decode cX3_bestOutrigger 25 = .ok (.iload 4, 2) := by decide +kernel
theorem dX3_bestOutrigger_27 : decode cX3_bestOutrigger 27 = .ok (.iconst 4, 1) := by decide +kernel
theorem dX3_bestOutrigger_28 : decode cX3_bestOutrigger 28 = .ok (.if_icmp .ge 68, 3) := by decide +kernel
theorem dX3_bestOutrigger_31 : decode cX3_bestOutrigger 31 = .ok (.aload_n 0, 1) := by decide +kernel
theorem dX3_bestOutrigger_32 : decode cX3_bestOutrigger 32 = .ok (.getfield 13, 3) := by decide +kernel
theorem dX3_bestOutrigger_35 : decode cX3_bestOutrigger 35 = .ok (.iload 4, 2) := by decide +kernel
theorem dX3_bestOutrigger_37 : decode cX3_bestOutrigger 37 = .ok (.iaload, 1) := by decide +kernel
theorem dX3_bestOutrigger_38 : decode cX3_bestOutrigger 38 = .ok (.bipush 6, 2) := by decide +kernel
theorem dX3_bestOutrigger_40 : decode cX3_bestOutrigger 40 = .ok (.if_icmp .ne 6, 3) := by decide +kernel
theorem dX3_bestOutrigger_43 : decode cX3_bestOutrigger 43 = .ok (.goto 47, 3) := by decide +kernel
theorem dX3_bestOutrigger_46 : decode cX3_bestOutrigger 46 = .ok (.aload_n 0, 1) := by decide +kernel
theorem dX3_bestOutrigger_47 : decode cX3_bestOutrigger 47 = .ok (.getfield 13, 3) := by decide +kernel
theorem dX3_bestOutrigger_50 : decode cX3_bestOutrigger 50 = .ok (.iload 4, 2) := by decide +kernel
theorem dX3_bestOutrigger_52 : decode cX3_bestOutrigger 52 = .ok (.dup2, 1) := by decide +kernel
theorem dX3_bestOutrigger_53 : decode cX3_bestOutrigger 53 = .ok (.iaload, 1) := by decide +kernel
theorem dX3_bestOutrigger_54 : decode cX3_bestOutrigger 54 = .ok (.iconst 1, 1) := by decide +kernel
theorem dX3_bestOutrigger_55 : decode cX3_bestOutrigger 55 = .ok (.iadd, 1) := by decide +kernel
theorem dX3_bestOutrigger_56 : decode cX3_bestOutrigger 56 = .ok (.iastore, 1) := by decide +kernel
theorem dX3_bestOutrigger_57 : decode cX3_bestOutrigger 57 = .ok (.aload_n 0, 1) := by decide +kernel
theorem dX3_bestOutrigger_58 : decode cX3_bestOutrigger 58 = .ok (.iload_n 1, 1) := by decide +kernel
theorem dX3_bestOutrigger_59 : decode cX3_bestOutrigger 59 = .ok (.invokevirtual 127, 3) := by decide +kernel
theorem dX3_bestOutrigger_62 : decode cX3_bestOutrigger 62 = .ok (.istore 5, 2) := by decide +kernel
theorem dX3_bestOutrigger_64 : decode cX3_bestOutrigger 64 = .ok (.aload_n 0, 1) := by decide +kernel
theorem dX3_bestOutrigger_65 : decode cX3_bestOutrigger 65 = .ok (.getfield 13, 3) := by decide +kernel
theorem dX3_bestOutrigger_68 : decode cX3_bestOutrigger 68 = .ok (.iload 4, 2) := by decide +kernel
theorem dX3_bestOutrigger_70 : decode cX3_bestOutrigger 70 = .ok (.dup2, 1) := by decide +kernel
theorem dX3_bestOutrigger_71 : decode cX3_bestOutrigger 71 = .ok (.iaload, 1) := by decide +kernel
theorem dX3_bestOutrigger_72 : decode cX3_bestOutrigger 72 = .ok (.iconst 1, 1) := by decide +kernel
theorem dX3_bestOutrigger_73 : decode cX3_bestOutrigger 73 = .ok (.isub, 1) := by decide +kernel
theorem dX3_bestOutrigger_74 : decode cX3_bestOutrigger 74 = .ok (.iastore, 1) := by decide +kernel
theorem dX3_bestOutrigger_75 : decode cX3_bestOutrigger 75 = .ok (.iload 5, 2) := by decide +kernel
theorem dX3_bestOutrigger_77 : decode cX3_bestOutrigger 77 = .ok (.iload_n 3, 1) := by decide +kernel
theorem dX3_bestOutrigger_78 : decode cX3_bestOutrigger 78 = .ok (.if_icmp .gt 6, 3) := by decide +kernel
theorem dX3_bestOutrigger_81 : decode cX3_bestOutrigger 81 = .ok (.goto 9, 3) := by decide +kernel
theorem dX3_bestOutrigger_84 : decode cX3_bestOutrigger 84 = .ok (.iload 4, 2) := by decide +kernel
theorem dX3_bestOutrigger_86 : decode cX3_bestOutrigger 86 = .ok (.istore_n 2, 1) := by decide +kernel
theorem dX3_bestOutrigger_87 : decode cX3_bestOutrigger 87 = .ok (.iload 5, 2) := by decide +kernel
theorem dX3_bestOutrigger_89 : decode cX3_bestOutrigger 89 = .ok (.istore_n 3, 1) := by decide +kernel
theorem dX3_bestOutrigger_90 : decode cX3_bestOutrigger 90 = .ok (.iinc 4 1, 3) := by decide +kernel
theorem dX3_bestOutrigger_93 : decode cX3_bestOutrigger 93 = .ok (.goto (-68), 3) := by decide +kernel
theorem dX3_bestOutrigger_96 : decode cX3_bestOutrigger 96 = .ok (.iload_n 2, 1) := by decide +kernel
theorem dX3_bestOutrigger_97 : decode cX3_bestOutrigger 97 = .ok (.ireturn, 1) := by decide +kernel
theorem dX3_meanLoad_0 : decode cX3_meanLoad 0 = .ok (.aload_n 0, 1) := by decide +kernel
theorem dX3_meanLoad_1 : decode cX3_meanLoad 1 = .ok (.iconst 0, 1) := by decide +kernel
theorem dX3_meanLoad_2 : decode cX3_meanLoad 2 = .ok (.putfield 26, 3) := by decide +kernel
theorem dX3_meanLoad_5 : decode cX3_meanLoad 5 = .ok (.aload_n 0, 1) := by decide +kernel
theorem dX3_meanLoad_6 : decode cX3_meanLoad 6 = .ok (.getfield 78, 3) := by decide +kernel
theorem dX3_meanLoad_9 : decode cX3_meanLoad 9 = .ok (.ifCond .ne 7, 3) := by decide +kernel
theorem dX3_meanLoad_12 : decode cX3_meanLoad 12 = .ok (.dconst 0, 1) := by decide +kernel
theorem dX3_meanLoad_13 : decode cX3_meanLoad 13 = .ok (.goto 14, 3) := by decide +kernel
theorem dX3_meanLoad_16 : decode cX3_meanLoad 16 = .ok (.aload_n 0, 1) := by decide +kernel
theorem dX3_meanLoad_17 : decode cX3_meanLoad 17 = .ok (.getfield 81, 3) := by decide +kernel
theorem dX3_meanLoad_20 : decode cX3_meanLoad 20 = .ok (.i2d, 1) := by decide +kernel
theorem dX3_meanLoad_21 : decode cX3_meanLoad 21 = .ok (.aload_n 0, 1) := by decide +kernel
theorem dX3_meanLoad_22 : decode cX3_meanLoad 22 = .ok (.getfield 78, 3) := by decide +kernel
theorem dX3_meanLoad_25 : decode cX3_meanLoad 25 = .ok (.i2d, 1) := by decide +kernel
theorem dX3_meanLoad_26 : decode cX3_meanLoad 26 = .ok (.ddiv, 1) := by decide +kernel
theorem dX3_meanLoad_27 : decode cX3_meanLoad 27 = .ok (.dreturn, 1) := by decide +kernel
set_option maxRecDepth 20000 in
theorem ggX3_digest_X3_weakest : GoodIn wsX3_digest wsX3_weakest := goodIn_r _ [18, 19, 20, 21, 17, 22, 5, 3, 4, 23, 24, 25, 26, 27, 28, 29, 30, 31, 32, 33, 34, 12, 6, 47, 48, 49, 50, 51, 52, 53, 54, 55, 56, 57, 58, 59] (by decide +kernel) (by decide +kernel)
set_option maxRecDepth 20000 in
theorem gX3_digest_X3_weakest : GoodIn wsX3_digest (wsV RX3 96 RX3 yX3_weakest wsX3_weakest) := goodIn_app (goodIn_of _ (by decide +kernel)) ggX3_digest_X3_weakest
set_option maxRecDepth 20000 in
theorem ggX3_digest_X3_greatest : GoodIn wsX3_digest wsX3_greatest := goodIn_r _ [38, 3, 4, 39, 40, 41, 17, 42, 13, 23, 24, 25, 26, 27, 28, 29, 30, 31, 32, 33, 34, 12, 6, 47, 48, 49, 50, 51, 52, 53, 54, 55, 56, 57, 58, 59] (by decide +kernel) (by decide +kernel)
set_option maxRecDepth 20000 in
theorem gX3_digest_X3_greatest : GoodIn wsX3_digest (wsV RX3 106 RX3 yX3_greatest wsX3_greatest) := goodIn_app (goodIn_of _ (by decide +kernel)) ggX3_digest_X3_greatest
set_option maxRecDepth 20000 in
theorem ggX3_digest_X3_strainNow : GoodIn wsX3_digest wsX3_strainNow := goodIn_r _ [22, 5, 3, 4, 23, 24, 25, 17, 26, 27, 28, 29, 30, 31, 32, 33, 34, 12, 6, 47, 48, 49, 50, 51, 52, 53, 54, 55, 56, 57, 58, 59] (by decide +kernel) (by decide +kernel)
set_option maxRecDepth 20000 in
theorem gX3_digest_X3_strainNow : GoodIn wsX3_digest (wsV RX3 93 RX3 yX3_strainNow wsX3_strainNow) := goodIn_app (goodIn_of _ (by decide +kernel)) ggX3_digest_X3_strainNow
set_option maxRecDepth 20000 in
theorem ggX3_digest_X3_safeAround : GoodIn wsX3_digest wsX3_safeAround := goodIn_r _ [46, 39, 40, 41, 17, 42, 13, 23, 24, 25, 26, 27, 28, 29, 30, 31, 32, 33, 34, 12, 6, 47, 48, 49, 50, 51, 52, 53, 54, 55, 56, 57, 58, 59] (by decide +kernel) (by decide +kernel)
set_option maxRecDepth 20000 in
theorem gX3_digest_X3_safeAround : GoodIn wsX3_digest (wsV RX3 109 RX3 yX3_safeAround wsX3_safeAround) := goodIn_app (goodIn_of _ (by decide +kernel)) ggX3_digest_X3_safeAround
theorem dX3_digest_0 : decode cX3_digest 0 = .ok (.aload_n 0, 1) := by decide +kernel
theorem dX3_digest_1 : decode cX3_digest 1 = .ok (.iconst 0, 1) := by decide +kernel
theorem dX3_digest_2 : decode cX3_digest 2 = .ok (.putfield 26, 3) := by decide +kernel
theorem dX3_digest_5 : decode cX3_digest 5 = .ok (.bipush 9, 2) := by decide +kernel
theorem dX3_digest_7 : decode cX3_digest 7 = .ok (.newarray .int, 2) := by decide +kernel
theorem dX3_digest_9 : decode cX3_digest 9 = .ok (.dup, 1) := by decide +kernel
theorem dX3_digest_10 : decode cX3_digest 10 = .ok (.iconst 0, 1) := by decide +kernel
theorem dX3_digest_11 : decode cX3_digest 11 = .ok (.aload_n 0, 1) := by decide +kernel
theorem dX3_digest_12 : decode cX3_digest 12 = .ok (.getfield 56, 3) := by decide +kernel
theorem dX3_digest_15 : decode cX3_digest 15 = .ok (.iastore, 1) := by decide +kernel
theorem dX3_digest_16 : decode cX3_digest 16 = .ok (.dup, 1) := by decide +kernel
theorem dX3_digest_17 : decode cX3_digest 17 = .ok (.iconst 1, 1) := by decide +kernel
theorem dX3_digest_18 : decode cX3_digest 18 = .ok (.aload_n 0, 1) := by decide +kernel
theorem dX3_digest_19 : decode cX3_digest 19 = .ok (.getfield 9, 3) := by decide +kernel
theorem dX3_digest_22 : decode cX3_digest 22 = .ok (.iastore, 1) := by decide +kernel
theorem dX3_digest_23 : decode cX3_digest 23 = .ok (.dup, 1) := by decide +kernel
theorem dX3_digest_24 : decode cX3_digest 24 = .ok (.iconst 2, 1) := by decide +kernel
theorem dX3_digest_25 : decode cX3_digest 25 = .ok (.aload_n 0, 1) := by decide +kernel
theorem dX3_digest_26 : decode cX3_digest 26 = .ok (.getfield 53, 3) := by decide +kernel
theorem dX3_digest_29 : decode cX3_digest 29 = .ok (.iastore, 1) := by decide +kernel
theorem dX3_digest_30 : decode cX3_digest 30 = .ok (.dup, 1) := by decide +kernel
theorem dX3_digest_31 : decode cX3_digest 31 = .ok (.iconst 3, 1) := by decide +kernel
theorem dX3_digest_32 : decode cX3_digest 32 = .ok (.aload_n 0, 1) := by decide +kernel
theorem dX3_digest_33 : decode cX3_digest 33 = .ok (.getfield 46, 3) := by decide +kernel
theorem dX3_digest_36 : decode cX3_digest 36 = .ok (.iastore, 1) := by decide +kernel
theorem dX3_digest_37 : decode cX3_digest 37 = .ok (.dup, 1) := by decide +kernel
theorem dX3_digest_38 : decode cX3_digest 38 = .ok (.iconst 4, 1) := by decide +kernel
theorem dX3_digest_39 : decode cX3_digest 39 = .ok (.aload_n 0, 1) := by decide +kernel
theorem dX3_digest_40 : decode cX3_digest 40 = .ok (.invokevirtual 96, 3) := by decide +kernel
theorem dX3_digest_43 : decode cX3_digest 43 = .ok (.iastore, 1) := by decide +kernel
theorem dX3_digest_44 : decode cX3_digest 44 = .ok (.dup, 1) := by decide +kernel
theorem dX3_digest_45 : decode cX3_digest 45 = .ok (.iconst 5, 1) := by decide +kernel
theorem dX3_digest_46 : decode cX3_digest 46 = .ok (.aload_n 0, 1) := by decide +kernel
theorem dX3_digest_47 : decode cX3_digest 47 = .ok (.getfield 78, 3) := by decide +kernel
theorem dX3_digest_50 : decode cX3_digest 50 = .ok (.iastore, 1) := by decide +kernel
theorem dX3_digest_51 : decode cX3_digest 51 = .ok (.dup, 1) := by decide +kernel
theorem dX3_digest_52 : decode cX3_digest 52 = .ok (.bipush 6, 2) := by decide +kernel
theorem dX3_digest_54 : decode cX3_digest 54 = .ok (.aload_n 0, 1) := by decide +kernel
theorem dX3_digest_55 : decode cX3_digest 55 = .ok (.getfield 81, 3) := by decide +kernel
theorem dX3_digest_58 : decode cX3_digest 58 = .ok (.iastore, 1) := by decide +kernel
theorem dX3_digest_59 : decode cX3_digest 59 = .ok (.dup, 1) := by decide +kernel
theorem dX3_digest_60 : decode cX3_digest 60 = .ok (.bipush 7, 2) := by decide +kernel
theorem dX3_digest_62 : decode cX3_digest 62 = .ok (.aload_n 0, 1) := by decide +kernel
theorem dX3_digest_63 : decode cX3_digest 63 = .ok (.getfield 84, 3) := by decide +kernel
theorem dX3_digest_66 : decode cX3_digest 66 = .ok (.iastore, 1) := by decide +kernel
theorem dX3_digest_67 : decode cX3_digest 67 = .ok (.dup, 1) := by decide +kernel
theorem dX3_digest_68 : decode cX3_digest 68 = .ok (.bipush 8, 2) := by decide +kernel
theorem dX3_digest_70 : decode cX3_digest 70 = .ok (.aload_n 0, 1) := by decide +kernel
theorem dX3_digest_71 : decode cX3_digest 71 = .ok (.invokevirtual 106, 3) := by decide +kernel
theorem dX3_digest_74 : decode cX3_digest 74 = .ok (.iastore, 1) := by decide +kernel
theorem dX3_digest_75 : decode cX3_digest 75 = .ok (.astore_n 1, 1) := by decide +kernel
theorem dX3_digest_76 : decode cX3_digest 76 = .ok (.ldc2_w 130, 3) := by decide +kernel
theorem dX3_digest_79 : decode cX3_digest 79 = .ok (.lstore_n 2, 1) := by decide +kernel
theorem dX3_digest_80 : decode cX3_digest 80 = .ok (.aload_n 1, 1) := by decide +kernel
theorem dX3_digest_81 : decode cX3_digest 81 = .ok (.astore 4, 2) := by decide +kernel
theorem dX3_digest_83 : decode cX3_digest 83 = .ok (.aload 4, 2) := by decide +kernel
theorem dX3_digest_85 : decode cX3_digest 85 = .ok (.arraylength, 1) := by decide +kernel
theorem dX3_digest_86 : decode cX3_digest 86 = .ok (.istore 5, 2) := by decide +kernel
theorem dX3_digest_88 : decode cX3_digest 88 = .ok (.iconst 0, 1) := by decide +kernel
theorem dX3_digest_89 : decode cX3_digest 89 = .ok (.istore 6, 2) := by decide +kernel
theorem dX3_digest_91 : decode cX3_digest 91 = .ok (.iload 6, 2) := by decide +kernel
theorem dX3_digest_93 : decode cX3_digest 93 = .ok (.iload 5, 2) := by decide +kernel
theorem dX3_digest_95 : decode cX3_digest 95 = .ok (.if_icmp .ge 26, 3) := by decide +kernel
theorem dX3_digest_98 : decode cX3_digest 98 = .ok (.aload 4, 2) := by decide +kernel
theorem dX3_digest_100 : decode cX3_digest 100 = .ok (.iload 6, 2) := by decide +kernel
theorem dX3_digest_102 : decode cX3_digest 102 = .ok (.iaload, 1) := by decide +kernel
theorem dX3_digest_103 : decode cX3_digest 103 = .ok (.istore 7, 2) := by decide +kernel
theorem dX3_digest_105 : decode cX3_digest 105 = .ok (.lload_n 2, 1) := by decide +kernel
theorem dX3_digest_106 : decode cX3_digest 106 = .ok (.ldc2_w 132, 3) := by decide +kernel
theorem dX3_digest_109 : decode cX3_digest 109 = .ok (.lmul, 1) := by decide +kernel
theorem dX3_digest_110 : decode cX3_digest 110 = .ok (.iload 7, 2) := by decide +kernel
theorem dX3_digest_112 : decode cX3_digest 112 = .ok (.i2l, 1) := by decide +kernel
theorem dX3_digest_113 : decode cX3_digest 113 = .ok (.ladd, 1) := by decide +kernel
theorem dX3_digest_114 : decode cX3_digest 114 = .ok (.lstore_n 2, 1) := by decide +kernel
theorem dX3_digest_115 : decode cX3_digest 115 = .ok (.iinc 6 1, 3) := by decide +kernel
theorem dX3_digest_118 : decode cX3_digest 118 = .ok (.goto (-27), 3) := by decide +kernel
theorem dX3_digest_121 : decode cX3_digest 121 = .ok (.iconst 0, 1) := by decide +kernel
theorem dX3_digest_122 : decode cX3_digest 122 = .ok (.istore 4, 2) := by decide +kernel
theorem dX3_digest_124 : decode cX3_digest 124 = .ok (.iload 4, 2) := by decide +kernel
theorem dX3_digest_126 : decode cX3_digest 126 = .ok (.iconst 4, 1) := by decide +kernel
theorem dX3_digest_127 : decode cX3_digest 127 = .ok (.if_icmp .ge 36, 3) := by decide +kernel
theorem dX3_digest_130 : decode cX3_digest 130 = .ok (.lload_n 2, 1) := by decide +kernel
theorem dX3_digest_131 : decode cX3_digest 131 = .ok (.ldc2_w 132, 3) := by decide +kernel
theorem dX3_digest_134 : decode cX3_digest 134 = .ok (.lmul, 1) := by decide +kernel
theorem dX3_digest_135 : decode cX3_digest 135 = .ok (.aload_n 0, 1) := by decide +kernel
theorem dX3_digest_136 : decode cX3_digest 136 = .ok (.getfield 13, 3) := by decide +kernel
theorem dX3_digest_139 : decode cX3_digest 139 = .ok (.iload 4, 2) := by decide +kernel
theorem dX3_digest_141 : decode cX3_digest 141 = .ok (.iaload, 1) := by decide +kernel
theorem dX3_digest_142 : decode cX3_digest 142 = .ok (.i2l, 1) := by decide +kernel
theorem dX3_digest_143 : decode cX3_digest 143 = .ok (.ladd, 1) := by decide +kernel
theorem dX3_digest_144 : decode cX3_digest 144 = .ok (.ldc2_w 132, 3) := by decide +kernel
theorem dX3_digest_147 : decode cX3_digest 147 = .ok (.lmul, 1) := by decide +kernel
theorem dX3_digest_148 : decode cX3_digest 148 = .ok (.aload_n 0, 1) := by decide +kernel
theorem dX3_digest_149 : decode cX3_digest 149 = .ok (.iload 4, 2) := by decide +kernel
theorem dX3_digest_151 : decode cX3_digest 151 = .ok (.invokevirtual 93, 3) := by decide +kernel
theorem dX3_digest_154 : decode cX3_digest 154 = .ok (.i2l, 1) := by decide +kernel
theorem dX3_digest_155 : decode cX3_digest 155 = .ok (.ladd, 1) := by decide +kernel
theorem dX3_digest_156 : decode cX3_digest 156 = .ok (.lstore_n 2, 1) := by decide +kernel
theorem dX3_digest_157 : decode cX3_digest 157 = .ok (.iinc 4 1, 3) := by decide +kernel
theorem dX3_digest_160 : decode cX3_digest 160 = .ok (.goto (-36), 3) := by decide +kernel
theorem dX3_digest_163 : decode cX3_digest 163 = .ok (.iconst 3, 1) := by decide +kernel
theorem dX3_digest_164 : decode cX3_digest 164 = .ok (.istore 4, 2) := by decide +kernel
theorem dX3_digest_166 : decode cX3_digest 166 = .ok (.iload 4, 2) := by decide +kernel
theorem dX3_digest_168 : decode cX3_digest 168 = .ok (.bipush 30, 2) := by decide +kernel
theorem dX3_digest_170 : decode cX3_digest 170 = .ok (.if_icmp .gt 37, 3) := by decide +kernel
theorem dX3_digest_173 : decode cX3_digest 173 = .ok (.lload_n 2, 1) := by decide +kernel
theorem dX3_digest_174 : decode cX3_digest 174 = .ok (.ldc2_w 132, 3) := by decide +kernel
theorem dX3_digest_177 : decode cX3_digest 177 = .ok (.lmul, 1) := by decide +kernel
theorem dX3_digest_178 : decode cX3_digest 178 = .ok (.aload_n 0, 1) := by decide +kernel
theorem dX3_digest_179 : decode cX3_digest 179 = .ok (.getfield 17, 3) := by decide +kernel
theorem dX3_digest_182 : decode cX3_digest 182 = .ok (.iload 4, 2) := by decide +kernel
theorem dX3_digest_184 : decode cX3_digest 184 = .ok (.iaload, 1) := by decide +kernel
theorem dX3_digest_185 : decode cX3_digest 185 = .ok (.i2l, 1) := by decide +kernel
theorem dX3_digest_186 : decode cX3_digest 186 = .ok (.ladd, 1) := by decide +kernel
theorem dX3_digest_187 : decode cX3_digest 187 = .ok (.ldc2_w 132, 3) := by decide +kernel
theorem dX3_digest_190 : decode cX3_digest 190 = .ok (.lmul, 1) := by decide +kernel
theorem dX3_digest_191 : decode cX3_digest 191 = .ok (.aload_n 0, 1) := by decide +kernel
theorem dX3_digest_192 : decode cX3_digest 192 = .ok (.iconst 5, 1) := by decide +kernel
theorem dX3_digest_193 : decode cX3_digest 193 = .ok (.iload 4, 2) := by decide +kernel
theorem dX3_digest_195 : decode cX3_digest 195 = .ok (.invokevirtual 109, 3) := by decide +kernel
theorem dX3_digest_198 : decode cX3_digest 198 = .ok (.i2l, 1) := by decide +kernel
theorem dX3_digest_199 : decode cX3_digest 199 = .ok (.ladd, 1) := by decide +kernel
theorem dX3_digest_200 : decode cX3_digest 200 = .ok (.lstore_n 2, 1) := by decide +kernel
theorem dX3_digest_201 : decode cX3_digest 201 = .ok (.iinc 4 1, 3) := by decide +kernel
theorem dX3_digest_204 : decode cX3_digest 204 = .ok (.goto (-38), 3) := by decide +kernel
theorem dX3_digest_207 : decode cX3_digest 207 = .ok (.lload_n 2, 1) := by decide +kernel
theorem dX3_digest_208 : decode cX3_digest 208 = .ok (.lreturn, 1) := by decide +kernel
theorem dJ9_abs_0f7a4_0 : decode cJ9_abs_0f7a4 0 = .ok (.iload_n 0, 1) := by decide +kernel
theorem dJ9_abs_0f7a4_1 : decode cJ9_abs_0f7a4 1 = .ok (.ifCond .ge 8, 3) := by decide +kernel
theorem dJ9_abs_0f7a4_4 : decode cJ9_abs_0f7a4 4 = .ok (.iload_n 0, 1) := by decide +kernel
theorem dJ9_abs_0f7a4_5 : decode cJ9_abs_0f7a4 5 = .ok (.ineg, 1) := by decide +kernel
theorem dJ9_abs_0f7a4_6 : decode cJ9_abs_0f7a4 6 = .ok (.goto 4, 3) := by decide +kernel
theorem dJ9_abs_0f7a4_9 : decode cJ9_abs_0f7a4 9 = .ok (.iload_n 0, 1) := by decide +kernel
theorem dJ9_abs_0f7a4_10 : decode cJ9_abs_0f7a4 10 = .ok (.ireturn, 1) := by decide +kernel
theorem dJ9_min_7cf53_0 : decode cJ9_min_7cf53 0 = .ok (.iload_n 0, 1) := by decide +kernel
theorem dJ9_min_7cf53_1 : decode cJ9_min_7cf53 1 = .ok (.iload_n 1, 1) := by decide +kernel
theorem dJ9_min_7cf53_2 : decode cJ9_min_7cf53 2 = .ok (.if_icmp .gt 7, 3) := by decide +kernel
theorem dJ9_min_7cf53_5 : decode cJ9_min_7cf53 5 = .ok (.iload_n 0, 1) := by decide +kernel
theorem dJ9_min_7cf53_6 : decode cJ9_min_7cf53 6 = .ok (.goto 4, 3) := by decide +kernel
theorem dJ9_min_7cf53_9 : decode cJ9_min_7cf53 9 = .ok (.iload_n 1, 1) := by decide +kernel
theorem dJ9_min_7cf53_10 : decode cJ9_min_7cf53 10 = .ok (.ireturn, 1) := by decide +kernel
end
section
set_option maxRecDepth 20000 in
theorem ggL_setPlates_X2_setPlates : GoodIn wsL_setPlates wsX2_setPlates := goodIn_ca (goodIn_ca (goodIn_r _ [7, 8, 9, 10, 11, 12, 13, 14, 15, 6, 16, 17, 18, 19, 20, 21, 22, 23, 24, 25, 26, 27, 28, 29, 30, 31, 32, 33, 34, 35, 36, 37, 38, 39, 40, 41, 42, 43, 44, 45, 46, 47, 48, 49, 50, 51, 52, 53, 54, 55, 56, 57, 58, 59, 60, 61, 62, 63, 64, 65, 66, 67, 68, 69, 70, 71] (by decide +kernel) (by decide +kernel)) (goodIn_sub (fun _ h => List.mem_cons_of_mem _ (List.mem_append_left _ (List.mem_append_right _ h))) (by decide +kernel))) (goodIn_sub (fun _ h => List.mem_cons_of_mem _ (List.mem_append_right _ h)) (by decide +kernel))
set_option maxRecDepth 20000 in
theorem gL_setPlates_X2_setPlates : GoodIn wsL_setPlates (wsV RL 7 RX2 yX2_setPlates wsX2_setPlates) := goodIn_app (goodIn_of _ (by decide +kernel)) ggL_setPlates_X2_setPlates
theorem dL_setPlates_0 : decode cL_setPlates 0 = .ok (.aload_n 2, 1) := by decide +kernel
theorem dL_setPlates_1 : decode cL_setPlates 1 = .ok (.iconst 0, 1) := by decide +kernel
theorem dL_setPlates_2 : decode cL_setPlates 2 = .ok (.aload_n 0, 1) := by decide +kernel
theorem dL_setPlates_3 : decode cL_setPlates 3 = .ok (.iload_n 1, 1) := by decide +kernel
theorem dL_setPlates_4 : decode cL_setPlates 4 = .ok (.invokevirtual 7, 3) := by decide +kernel
theorem dL_setPlates_7 : decode cL_setPlates 7 = .ok (.i2l, 1) := by decide +kernel
theorem dL_setPlates_8 : decode cL_setPlates 8 = .ok (.lastore, 1) := by decide +kernel
theorem dL_setPlates_9 : decode cL_setPlates 9 = .ok (.goto 9, 3) := by decide +kernel
theorem dL_setPlates_12 : decode cL_setPlates 12 = .ok (.astore_n 3, 1) := by decide +kernel
theorem dL_setPlates_13 : decode cL_setPlates 13 = .ok (.iconst 1, 1) := by decide +kernel
theorem dL_setPlates_14 : decode cL_setPlates 14 = .ok (.ireturn, 1) := by decide +kernel
theorem dL_setPlates_15 : decode cL_setPlates 15 = .ok (.astore_n 3, 1) := by decide +kernel
theorem dL_setPlates_16 : decode cL_setPlates 16 = .ok (.iconst 2, 1) := by decide +kernel
theorem dL_setPlates_17 : decode cL_setPlates 17 = .ok (.ireturn, 1) := by decide +kernel
theorem dL_setPlates_18 : decode cL_setPlates 18 = .ok (.iconst 0, 1) := by decide +kernel
theorem dL_setPlates_19 : decode cL_setPlates 19 = .ok (.ireturn, 1) := by decide +kernel
set_option maxRecDepth 20000 in
theorem ggL_setOutrigger_X2_setOutrigger : GoodIn wsL_setOutrigger wsX2_setOutrigger := goodIn_ca (goodIn_ca (goodIn_ca (goodIn_r _ [8, 9, 10, 11, 12, 13, 14, 15, 7, 16, 17, 18, 19, 20, 21, 22, 23, 24, 25, 26, 27, 28, 29, 30, 31, 32, 33, 34, 35, 36, 37, 38, 39, 40, 41, 42, 43, 44, 45, 46, 47, 48, 49, 50, 51, 52, 53, 54, 55, 56, 57, 58, 59, 60, 61, 62, 63, 64, 65, 66, 67, 68, 69, 70, 71, 72, 73, 74, 75, 76, 77, 78, 79, 80, 81, 82] (by decide +kernel) (by decide +kernel)) (goodIn_sub (fun _ h => List.mem_cons_of_mem _ (List.mem_append_left _ (List.mem_append_left _ (List.mem_append_right _ h)))) (by decide +kernel))) (goodIn_sub (fun _ h => List.mem_cons_of_mem _ (List.mem_append_left _ (List.mem_append_right _ h))) (by decide +kernel))) (goodIn_sub (fun _ h => List.mem_cons_of_mem _ (List.mem_append_right _ h)) (by decide +kernel))
set_option maxRecDepth 20000 in
theorem gL_setOutrigger_X2_setOutrigger : GoodIn wsL_setOutrigger (wsV RL 17 RX2 yX2_setOutrigger wsX2_setOutrigger) := goodIn_app (goodIn_of _ (by decide +kernel)) ggL_setOutrigger_X2_setOutrigger
theorem dL_setOutrigger_0 : decode cL_setOutrigger 0 = .ok (.aload_n 3, 1) := by decide +kernel
theorem dL_setOutrigger_1 : decode cL_setOutrigger 1 = .ok (.iconst 0, 1) := by decide +kernel
theorem dL_setOutrigger_2 : decode cL_setOutrigger 2 = .ok (.aload_n 0, 1) := by decide +kernel
theorem dL_setOutrigger_3 : decode cL_setOutrigger 3 = .ok (.iload_n 1, 1) := by decide +kernel
theorem dL_setOutrigger_4 : decode cL_setOutrigger 4 = .ok (.iload_n 2, 1) := by decide +kernel
theorem dL_setOutrigger_5 : decode cL_setOutrigger 5 = .ok (.invokevirtual 17, 3) := by decide +kernel
theorem dL_setOutrigger_8 : decode cL_setOutrigger 8 = .ok (.i2l, 1) := by decide +kernel
theorem dL_setOutrigger_9 : decode cL_setOutrigger 9 = .ok (.lastore, 1) := by decide +kernel
theorem dL_setOutrigger_10 : decode cL_setOutrigger 10 = .ok (.goto 15, 3) := by decide +kernel
theorem dL_setOutrigger_13 : decode cL_setOutrigger 13 = .ok (.astore 4, 2) := by decide +kernel
theorem dL_setOutrigger_15 : decode cL_setOutrigger 15 = .ok (.iconst 1, 1) := by decide +kernel
theorem dL_setOutrigger_16 : decode cL_setOutrigger 16 = .ok (.ireturn, 1) := by decide +kernel
theorem dL_setOutrigger_17 : decode cL_setOutrigger 17 = .ok (.astore 4, 2) := by decide +kernel
theorem dL_setOutrigger_19 : decode cL_setOutrigger 19 = .ok (.iconst 2, 1) := by decide +kernel
theorem dL_setOutrigger_20 : decode cL_setOutrigger 20 = .ok (.ireturn, 1) := by decide +kernel
theorem dL_setOutrigger_21 : decode cL_setOutrigger 21 = .ok (.astore 4, 2) := by decide +kernel
theorem dL_setOutrigger_23 : decode cL_setOutrigger 23 = .ok (.iconst 3, 1) := by decide +kernel
theorem dL_setOutrigger_24 : decode cL_setOutrigger 24 = .ok (.ireturn, 1) := by decide +kernel
theorem dL_setOutrigger_25 : decode cL_setOutrigger 25 = .ok (.iconst 0, 1) := by decide +kernel
theorem dL_setOutrigger_26 : decode cL_setOutrigger 26 = .ok (.ireturn, 1) := by decide +kernel
set_option maxRecDepth 20000 in
theorem ggL_setLimit_X2_setLimit : GoodIn wsL_setLimit wsX2_setLimit := goodIn_ca (goodIn_ca (goodIn_r _ [7, 8, 9, 10, 11, 12, 13, 14, 6, 15, 16, 17, 18, 19, 20, 21, 22, 23, 24, 25, 26, 27, 28, 29, 30, 31, 32, 33, 34, 35, 36, 37, 38, 39, 40, 41, 42, 43, 44, 45, 46, 47, 48, 49, 50, 51, 52, 53, 54, 55, 56, 57, 58, 59, 60, 61, 62, 63, 64, 65, 66, 67, 68, 69, 70, 71, 72, 73, 74, 75, 76, 77, 78] (by decide +kernel) (by decide +kernel)) (goodIn_sub (fun _ h => List.mem_cons_of_mem _ (List.mem_append_left _ (List.mem_append_right _ h))) (by decide +kernel))) (goodIn_sub (fun _ h => List.mem_cons_of_mem _ (List.mem_append_right _ h)) (by decide +kernel))
set_option maxRecDepth 20000 in
theorem gL_setLimit_X2_setLimit : GoodIn wsL_setLimit (wsV RL 23 RX2 yX2_setLimit wsX2_setLimit) := goodIn_app (goodIn_of _ (by decide +kernel)) ggL_setLimit_X2_setLimit
theorem dL_setLimit_0 : decode cL_setLimit 0 = .ok (.aload_n 3, 1) := by decide +kernel
theorem dL_setLimit_1 : decode cL_setLimit 1 = .ok (.iconst 0, 1) := by decide +kernel
theorem dL_setLimit_2 : decode cL_setLimit 2 = .ok (.aload_n 0, 1) := by decide +kernel
theorem dL_setLimit_3 : decode cL_setLimit 3 = .ok (.iload_n 1, 1) := by decide +kernel
theorem dL_setLimit_4 : decode cL_setLimit 4 = .ok (.iload_n 2, 1) := by decide +kernel
theorem dL_setLimit_5 : decode cL_setLimit 5 = .ok (.invokevirtual 23, 3) := by decide +kernel
theorem dL_setLimit_8 : decode cL_setLimit 8 = .ok (.i2l, 1) := by decide +kernel
theorem dL_setLimit_9 : decode cL_setLimit 9 = .ok (.lastore, 1) := by decide +kernel
theorem dL_setLimit_10 : decode cL_setLimit 10 = .ok (.goto 11, 3) := by decide +kernel
theorem dL_setLimit_13 : decode cL_setLimit 13 = .ok (.astore 4, 2) := by decide +kernel
theorem dL_setLimit_15 : decode cL_setLimit 15 = .ok (.iconst 1, 1) := by decide +kernel
theorem dL_setLimit_16 : decode cL_setLimit 16 = .ok (.ireturn, 1) := by decide +kernel
theorem dL_setLimit_17 : decode cL_setLimit 17 = .ok (.astore 4, 2) := by decide +kernel
theorem dL_setLimit_19 : decode cL_setLimit 19 = .ok (.iconst 2, 1) := by decide +kernel
theorem dL_setLimit_20 : decode cL_setLimit 20 = .ok (.ireturn, 1) := by decide +kernel
theorem dL_setLimit_21 : decode cL_setLimit 21 = .ok (.iconst 0, 1) := by decide +kernel
theorem dL_setLimit_22 : decode cL_setLimit 22 = .ok (.ireturn, 1) := by decide +kernel
set_option maxRecDepth 20000 in
theorem ggL_lift_X2_lift : GoodIn wsL_lift wsX2_lift := goodIn_ca (goodIn_ca (goodIn_r _ [7, 8, 9, 10, 11, 12, 13, 14, 15, 6, 16, 17, 18, 19, 20, 21, 22, 23, 24, 25, 26, 27, 28, 29, 30, 31, 32, 33, 34, 35, 36, 37, 38, 39, 40, 41, 42, 43, 44, 45, 46, 47, 48, 49, 50, 51, 52, 53, 54, 55, 56, 57, 58, 59, 60, 61, 62, 63] (by decide +kernel) (by decide +kernel)) (goodIn_sub (fun _ h => List.mem_cons_of_mem _ (List.mem_append_left _ (List.mem_append_right _ h))) (by decide +kernel))) (goodIn_sub (fun _ h => List.mem_cons_of_mem _ (List.mem_append_right _ h)) (by decide +kernel))
set_option maxRecDepth 20000 in
theorem gL_lift_X2_lift : GoodIn wsL_lift (wsV RL 26 RX2 yX2_lift wsX2_lift) := goodIn_app (goodIn_of _ (by decide +kernel)) ggL_lift_X2_lift
theorem dL_lift_0 : decode cL_lift 0 = .ok (.aload_n 2, 1) := by decide +kernel
theorem dL_lift_1 : decode cL_lift 1 = .ok (.iconst 0, 1) := by decide +kernel
theorem dL_lift_2 : decode cL_lift 2 = .ok (.aload_n 0, 1) := by decide +kernel
theorem dL_lift_3 : decode cL_lift 3 = .ok (.iload_n 1, 1) := by decide +kernel
theorem dL_lift_4 : decode cL_lift 4 = .ok (.invokevirtual 26, 3) := by decide +kernel
theorem dL_lift_7 : decode cL_lift 7 = .ok (.i2l, 1) := by decide +kernel
theorem dL_lift_8 : decode cL_lift 8 = .ok (.lastore, 1) := by decide +kernel
theorem dL_lift_9 : decode cL_lift 9 = .ok (.goto 9, 3) := by decide +kernel
theorem dL_lift_12 : decode cL_lift 12 = .ok (.astore_n 3, 1) := by decide +kernel
theorem dL_lift_13 : decode cL_lift 13 = .ok (.iconst 1, 1) := by decide +kernel
theorem dL_lift_14 : decode cL_lift 14 = .ok (.ireturn, 1) := by decide +kernel
theorem dL_lift_15 : decode cL_lift 15 = .ok (.astore_n 3, 1) := by decide +kernel
theorem dL_lift_16 : decode cL_lift 16 = .ok (.iconst 2, 1) := by decide +kernel
theorem dL_lift_17 : decode cL_lift 17 = .ok (.ireturn, 1) := by decide +kernel
theorem dL_lift_18 : decode cL_lift 18 = .ok (.iconst 0, 1) := by decide +kernel
theorem dL_lift_19 : decode cL_lift 19 = .ok (.ireturn, 1) := by decide +kernel
set_option maxRecDepth 20000 in
theorem ggL_setDown_X2_setDown : GoodIn wsL_setDown wsX2_setDown := goodIn_ca (goodIn_r _ [6, 7, 8, 9, 10, 11, 12, 13, 5, 14, 15, 16, 17, 18, 19, 20, 21, 22, 23, 24, 25, 26, 27, 28, 29, 30, 31, 32, 33, 34, 35, 36, 37, 38, 39, 40, 41, 42, 43, 44, 45, 46, 47, 48, 49, 50, 51] (by decide +kernel) (by decide +kernel)) (goodIn_sub (fun _ h => List.mem_cons_of_mem _ (List.mem_append_right _ h)) (by decide +kernel))
set_option maxRecDepth 20000 in
theorem gL_setDown_X2_setDown : GoodIn wsL_setDown (wsV RL 29 RX2 yX2_setDown wsX2_setDown) := goodIn_app (goodIn_of _ (by decide +kernel)) ggL_setDown_X2_setDown
theorem dL_setDown_0 : decode cL_setDown 0 = .ok (.aload_n 1, 1) := by decide +kernel
theorem dL_setDown_1 : decode cL_setDown 1 = .ok (.iconst 0, 1) := by decide +kernel
theorem dL_setDown_2 : decode cL_setDown 2 = .ok (.aload_n 0, 1) := by decide +kernel
theorem dL_setDown_3 : decode cL_setDown 3 = .ok (.invokevirtual 29, 3) := by decide +kernel
theorem dL_setDown_6 : decode cL_setDown 6 = .ok (.i2l, 1) := by decide +kernel
theorem dL_setDown_7 : decode cL_setDown 7 = .ok (.lastore, 1) := by decide +kernel
theorem dL_setDown_8 : decode cL_setDown 8 = .ok (.goto 6, 3) := by decide +kernel
theorem dL_setDown_11 : decode cL_setDown 11 = .ok (.astore_n 2, 1) := by decide +kernel
theorem dL_setDown_12 : decode cL_setDown 12 = .ok (.iconst 1, 1) := by decide +kernel
theorem dL_setDown_13 : decode cL_setDown 13 = .ok (.ireturn, 1) := by decide +kernel
theorem dL_setDown_14 : decode cL_setDown 14 = .ok (.iconst 0, 1) := by decide +kernel
theorem dL_setDown_15 : decode cL_setDown 15 = .ok (.ireturn, 1) := by decide +kernel
set_option maxRecDepth 20000 in
theorem ggL_swing_X2_swing : GoodIn wsL_swing wsX2_swing := goodIn_ca (goodIn_r _ [6, 7, 8, 9, 10, 11, 12, 13, 14, 5, 15, 16, 17, 18, 19, 20, 21, 22, 23, 24, 25, 26, 27, 28, 29, 30, 31, 32, 33, 34, 35, 36, 37, 38, 39, 40, 41, 42, 43, 44, 45, 46, 47, 48, 49, 50, 51, 52, 53, 54, 55, 56, 57, 58] (by decide +kernel) (by decide +kernel)) (goodIn_sub (fun _ h => List.mem_cons_of_mem _ (List.mem_append_right _ h)) (by decide +kernel))
set_option maxRecDepth 20000 in
theorem gL_swing_X2_swing : GoodIn wsL_swing (wsV RL 33 RX2 yX2_swing wsX2_swing) := goodIn_app (goodIn_of _ (by decide +kernel)) ggL_swing_X2_swing
theorem dL_swing_0 : decode cL_swing 0 = .ok (.aload_n 3, 1) := by decide +kernel
theorem dL_swing_1 : decode cL_swing 1 = .ok (.iconst 0, 1) := by decide +kernel
theorem dL_swing_2 : decode cL_swing 2 = .ok (.aload_n 0, 1) := by decide +kernel
theorem dL_swing_3 : decode cL_swing 3 = .ok (.iload_n 1, 1) := by decide +kernel
theorem dL_swing_4 : decode cL_swing 4 = .ok (.iload_n 2, 1) := by decide +kernel
theorem dL_swing_5 : decode cL_swing 5 = .ok (.invokevirtual 33, 3) := by decide +kernel
theorem dL_swing_8 : decode cL_swing 8 = .ok (.i2l, 1) := by decide +kernel
theorem dL_swing_9 : decode cL_swing 9 = .ok (.lastore, 1) := by decide +kernel
theorem dL_swing_10 : decode cL_swing 10 = .ok (.goto 7, 3) := by decide +kernel
theorem dL_swing_13 : decode cL_swing 13 = .ok (.astore 4, 2) := by decide +kernel
theorem dL_swing_15 : decode cL_swing 15 = .ok (.iconst 1, 1) := by decide +kernel
theorem dL_swing_16 : decode cL_swing 16 = .ok (.ireturn, 1) := by decide +kernel
theorem dL_swing_17 : decode cL_swing 17 = .ok (.iconst 0, 1) := by decide +kernel
theorem dL_swing_18 : decode cL_swing 18 = .ok (.ireturn, 1) := by decide +kernel
set_option maxRecDepth 20000 in
theorem ggL_stretch_X2_stretch : GoodIn wsL_stretch wsX2_stretch := goodIn_ca (goodIn_r _ [6, 7, 8, 9, 10, 11, 12, 13, 14, 5, 15, 16, 17, 18, 19, 20, 21, 22, 23, 24, 25, 26, 27, 28, 29, 30, 31, 32, 33, 34, 35, 36, 37, 38, 39, 40, 41, 42, 43, 44, 45, 46, 47, 48, 49, 50, 51, 52, 53, 54, 55, 56, 57, 58] (by decide +kernel) (by decide +kernel)) (goodIn_sub (fun _ h => List.mem_cons_of_mem _ (List.mem_append_right _ h)) (by decide +kernel))
set_option maxRecDepth 20000 in
theorem gL_stretch_X2_stretch : GoodIn wsL_stretch (wsV RL 37 RX2 yX2_stretch wsX2_stretch) := goodIn_app (goodIn_of _ (by decide +kernel)) ggL_stretch_X2_stretch
theorem dL_stretch_0 : decode cL_stretch 0 = .ok (.aload_n 3, 1) := by decide +kernel
theorem dL_stretch_1 : decode cL_stretch 1 = .ok (.iconst 0, 1) := by decide +kernel
theorem dL_stretch_2 : decode cL_stretch 2 = .ok (.aload_n 0, 1) := by decide +kernel
theorem dL_stretch_3 : decode cL_stretch 3 = .ok (.iload_n 1, 1) := by decide +kernel
theorem dL_stretch_4 : decode cL_stretch 4 = .ok (.iload_n 2, 1) := by decide +kernel
theorem dL_stretch_5 : decode cL_stretch 5 = .ok (.invokevirtual 37, 3) := by decide +kernel
theorem dL_stretch_8 : decode cL_stretch 8 = .ok (.i2l, 1) := by decide +kernel
theorem dL_stretch_9 : decode cL_stretch 9 = .ok (.lastore, 1) := by decide +kernel
theorem dL_stretch_10 : decode cL_stretch 10 = .ok (.goto 7, 3) := by decide +kernel
theorem dL_stretch_13 : decode cL_stretch 13 = .ok (.astore 4, 2) := by decide +kernel
theorem dL_stretch_15 : decode cL_stretch 15 = .ok (.iconst 1, 1) := by decide +kernel
theorem dL_stretch_16 : decode cL_stretch 16 = .ok (.ireturn, 1) := by decide +kernel
theorem dL_stretch_17 : decode cL_stretch 17 = .ok (.iconst 0, 1) := by decide +kernel
theorem dL_stretch_18 : decode cL_stretch 18 = .ok (.ireturn, 1) := by decide +kernel
set_option maxRecDepth 20000 in
theorem ggL_outrigger_X2_outrigger : GoodIn wsL_outrigger wsX2_outrigger := goodIn_ca (goodIn_r _ [6, 7, 8, 9, 5, 10, 11, 12, 13, 14, 15, 16, 17, 18, 19, 20, 21, 22, 23, 24, 25, 26, 27, 28, 29, 30, 31, 32, 33] (by decide +kernel) (by decide +kernel)) (goodIn_sub (fun _ h => List.mem_cons_of_mem _ (List.mem_append_right _ h)) (by decide +kernel))
set_option maxRecDepth 20000 in
theorem gL_outrigger_X2_outrigger : GoodIn wsL_outrigger (wsV RL 40 RX2 yX2_outrigger wsX2_outrigger) := goodIn_app (goodIn_of _ (by decide +kernel)) ggL_outrigger_X2_outrigger
theorem dL_outrigger_0 : decode cL_outrigger 0 = .ok (.aload_n 2, 1) := by decide +kernel
theorem dL_outrigger_1 : decode cL_outrigger 1 = .ok (.iconst 0, 1) := by decide +kernel
theorem dL_outrigger_2 : decode cL_outrigger 2 = .ok (.aload_n 0, 1) := by decide +kernel
theorem dL_outrigger_3 : decode cL_outrigger 3 = .ok (.iload_n 1, 1) := by decide +kernel
theorem dL_outrigger_4 : decode cL_outrigger 4 = .ok (.invokevirtual 40, 3) := by decide +kernel
theorem dL_outrigger_7 : decode cL_outrigger 7 = .ok (.i2l, 1) := by decide +kernel
theorem dL_outrigger_8 : decode cL_outrigger 8 = .ok (.lastore, 1) := by decide +kernel
theorem dL_outrigger_9 : decode cL_outrigger 9 = .ok (.goto 6, 3) := by decide +kernel
theorem dL_outrigger_12 : decode cL_outrigger 12 = .ok (.astore_n 3, 1) := by decide +kernel
theorem dL_outrigger_13 : decode cL_outrigger 13 = .ok (.iconst 1, 1) := by decide +kernel
theorem dL_outrigger_14 : decode cL_outrigger 14 = .ok (.ireturn, 1) := by decide +kernel
theorem dL_outrigger_15 : decode cL_outrigger 15 = .ok (.iconst 0, 1) := by decide +kernel
theorem dL_outrigger_16 : decode cL_outrigger 16 = .ok (.ireturn, 1) := by decide +kernel
set_option maxRecDepth 20000 in
theorem ggL_limitAt_X2_limitAt : GoodIn wsL_limitAt wsX2_limitAt := goodIn_ca (goodIn_r _ [6, 7, 8, 9, 5, 10, 11, 12, 13, 14, 15, 16, 17, 18, 19, 20, 21, 22, 23, 24, 25, 26, 27, 28, 29, 30, 31, 32, 33, 34, 35, 36] (by decide +kernel) (by decide +kernel)) (goodIn_sub (fun _ h => List.mem_cons_of_mem _ (List.mem_append_right _ h)) (by decide +kernel))
set_option maxRecDepth 20000 in
theorem gL_limitAt_X2_limitAt : GoodIn wsL_limitAt (wsV RL 43 RX2 yX2_limitAt wsX2_limitAt) := goodIn_app (goodIn_of _ (by decide +kernel)) ggL_limitAt_X2_limitAt
theorem dL_limitAt_0 : decode cL_limitAt 0 = .ok (.aload_n 2, 1) := by decide +kernel
theorem dL_limitAt_1 : decode cL_limitAt 1 = .ok (.iconst 0, 1) := by decide +kernel
theorem dL_limitAt_2 : decode cL_limitAt 2 = .ok (.aload_n 0, 1) := by decide +kernel
theorem dL_limitAt_3 : decode cL_limitAt 3 = .ok (.iload_n 1, 1) := by decide +kernel
theorem dL_limitAt_4 : decode cL_limitAt 4 = .ok (.invokevirtual 43, 3) := by decide +kernel
theorem dL_limitAt_7 : decode cL_limitAt 7 = .ok (.i2l, 1) := by decide +kernel
theorem dL_limitAt_8 : decode cL_limitAt 8 = .ok (.lastore, 1) := by decide +kernel
theorem dL_limitAt_9 : decode cL_limitAt 9 = .ok (.goto 6, 3) := by decide +kernel
theorem dL_limitAt_12 : decode cL_limitAt 12 = .ok (.astore_n 3, 1) := by decide +kernel
theorem dL_limitAt_13 : decode cL_limitAt 13 = .ok (.iconst 1, 1) := by decide +kernel
theorem dL_limitAt_14 : decode cL_limitAt 14 = .ok (.ireturn, 1) := by decide +kernel
theorem dL_limitAt_15 : decode cL_limitAt 15 = .ok (.iconst 0, 1) := by decide +kernel
theorem dL_limitAt_16 : decode cL_limitAt 16 = .ok (.ireturn, 1) := by decide +kernel
set_option maxRecDepth 20000 in
theorem ggL_strainOn_X2_strainOn : GoodIn wsL_strainOn wsX2_strainOn := goodIn_ca (goodIn_r _ [6, 7, 8, 9, 10, 11, 12, 5, 13, 14, 15, 16, 17, 18, 19, 20, 21, 22, 23, 24, 25, 26, 27, 28, 29, 30, 31, 32, 33, 34, 35, 36, 37, 38, 39, 40, 41, 42, 43, 44] (by decide +kernel) (by decide +kernel)) (goodIn_sub (fun _ h => List.mem_cons_of_mem _ (List.mem_append_right _ h)) (by decide +kernel))
set_option maxRecDepth 20000 in
theorem gL_strainOn_X2_strainOn : GoodIn wsL_strainOn (wsV RL 46 RX2 yX2_strainOn wsX2_strainOn) := goodIn_app (goodIn_of _ (by decide +kernel)) ggL_strainOn_X2_strainOn
theorem dL_strainOn_0 : decode cL_strainOn 0 = .ok (.aload_n 2, 1) := by decide +kernel
theorem dL_strainOn_1 : decode cL_strainOn 1 = .ok (.iconst 0, 1) := by decide +kernel
theorem dL_strainOn_2 : decode cL_strainOn 2 = .ok (.aload_n 0, 1) := by decide +kernel
theorem dL_strainOn_3 : decode cL_strainOn 3 = .ok (.iload_n 1, 1) := by decide +kernel
theorem dL_strainOn_4 : decode cL_strainOn 4 = .ok (.invokevirtual 46, 3) := by decide +kernel
theorem dL_strainOn_7 : decode cL_strainOn 7 = .ok (.i2l, 1) := by decide +kernel
theorem dL_strainOn_8 : decode cL_strainOn 8 = .ok (.lastore, 1) := by decide +kernel
theorem dL_strainOn_9 : decode cL_strainOn 9 = .ok (.goto 6, 3) := by decide +kernel
theorem dL_strainOn_12 : decode cL_strainOn 12 = .ok (.astore_n 3, 1) := by decide +kernel
theorem dL_strainOn_13 : decode cL_strainOn 13 = .ok (.iconst 1, 1) := by decide +kernel
theorem dL_strainOn_14 : decode cL_strainOn 14 = .ok (.ireturn, 1) := by decide +kernel
theorem dL_strainOn_15 : decode cL_strainOn 15 = .ok (.iconst 0, 1) := by decide +kernel
theorem dL_strainOn_16 : decode cL_strainOn 16 = .ok (.ireturn, 1) := by decide +kernel
set_option maxRecDepth 20000 in
theorem ggL_isSafeWith_X2_isSafeWith : GoodIn wsL_isSafeWith wsX2_isSafeWith := goodIn_ca (goodIn_ca (goodIn_r _ [7, 8, 9, 10, 6, 11, 12, 13, 14, 15, 16, 17, 18, 19, 20, 21, 22, 23, 24, 25, 26, 27, 28, 29, 30, 31, 32, 33, 34, 35, 36, 37, 38, 39, 40, 41, 42, 43, 44, 45, 46, 47, 48, 49, 50, 51, 52, 53, 54, 55, 56, 57, 58, 59, 60, 61, 62] (by decide +kernel) (by decide +kernel)) (goodIn_sub (fun _ h => List.mem_cons_of_mem _ (List.mem_append_left _ (List.mem_append_right _ h))) (by decide +kernel))) (goodIn_sub (fun _ h => List.mem_cons_of_mem _ (List.mem_append_right _ h)) (by decide +kernel))
set_option maxRecDepth 20000 in
theorem gL_isSafeWith_X2_isSafeWith : GoodIn wsL_isSafeWith (wsV RL 49 RX2 yX2_isSafeWith wsX2_isSafeWith) := goodIn_app (goodIn_of _ (by decide +kernel)) ggL_isSafeWith_X2_isSafeWith
theorem dL_isSafeWith_0 : decode cL_isSafeWith 0 = .ok (.aload 4, 2) := by decide +kernel
theorem dL_isSafeWith_2 : decode cL_isSafeWith 2 = .ok (.iconst 0, 1) := by decide +kernel
theorem dL_isSafeWith_3 : decode cL_isSafeWith 3 = .ok (.aload_n 0, 1) := by decide +kernel
theorem dL_isSafeWith_4 : decode cL_isSafeWith 4 = .ok (.iload_n 1, 1) := by decide +kernel
theorem dL_isSafeWith_5 : decode cL_isSafeWith 5 = .ok (.iload_n 2, 1) := by decide +kernel
theorem dL_isSafeWith_6 : decode cL_isSafeWith 6 = .ok (.iload_n 3, 1) := by decide +kernel
theorem dL_isSafeWith_7 : decode cL_isSafeWith 7 = .ok (.invokevirtual 49, 3) := by decide +kernel
theorem dL_isSafeWith_10 : decode cL_isSafeWith 10 = .ok (.ifCond .eq 7, 3) := by decide +kernel
theorem dL_isSafeWith_13 : decode cL_isSafeWith 13 = .ok (.lconst 1, 1) := by decide +kernel
theorem dL_isSafeWith_14 : decode cL_isSafeWith 14 = .ok (.goto 4, 3) := by decide +kernel
theorem dL_isSafeWith_17 : decode cL_isSafeWith 17 = .ok (.lconst 0, 1) := by decide +kernel
theorem dL_isSafeWith_18 : decode cL_isSafeWith 18 = .ok (.lastore, 1) := by decide +kernel
theorem dL_isSafeWith_19 : decode cL_isSafeWith 19 = .ok (.goto 11, 3) := by decide +kernel
theorem dL_isSafeWith_22 : decode cL_isSafeWith 22 = .ok (.astore 5, 2) := by decide +kernel
theorem dL_isSafeWith_24 : decode cL_isSafeWith 24 = .ok (.iconst 1, 1) := by decide +kernel
theorem dL_isSafeWith_25 : decode cL_isSafeWith 25 = .ok (.ireturn, 1) := by decide +kernel
theorem dL_isSafeWith_26 : decode cL_isSafeWith 26 = .ok (.astore 5, 2) := by decide +kernel
theorem dL_isSafeWith_28 : decode cL_isSafeWith 28 = .ok (.iconst 2, 1) := by decide +kernel
theorem dL_isSafeWith_29 : decode cL_isSafeWith 29 = .ok (.ireturn, 1) := by decide +kernel
theorem dL_isSafeWith_30 : decode cL_isSafeWith 30 = .ok (.iconst 0, 1) := by decide +kernel
theorem dL_isSafeWith_31 : decode cL_isSafeWith 31 = .ok (.ireturn, 1) := by decide +kernel
set_option maxRecDepth 20000 in
theorem ggL_farthestReach_X2_farthestReach : GoodIn wsL_farthestReach wsX2_farthestReach := goodIn_ca (goodIn_ca (goodIn_r _ [7, 8, 9, 10, 6, 11, 12, 13, 14, 15, 16, 17, 18, 19, 20, 21, 22, 23, 24, 25, 26, 27, 28, 29, 30, 31, 32, 33, 34, 35, 36, 37, 38, 39, 40, 41, 42, 43, 44, 45, 46, 47, 48, 49, 50, 51, 52, 53, 54, 55, 56] (by decide +kernel) (by decide +kernel)) (goodIn_sub (fun _ h => List.mem_cons_of_mem _ (List.mem_append_left _ (List.mem_append_right _ h))) (by decide +kernel))) (goodIn_sub (fun _ h => List.mem_cons_of_mem _ (List.mem_append_right _ h)) (by decide +kernel))
set_option maxRecDepth 20000 in
theorem gL_farthestReach_X2_farthestReach : GoodIn wsL_farthestReach (wsV RL 53 RX2 yX2_farthestReach wsX2_farthestReach) := goodIn_app (goodIn_of _ (by decide +kernel)) ggL_farthestReach_X2_farthestReach
theorem dL_farthestReach_0 : decode cL_farthestReach 0 = .ok (.aload_n 3, 1) := by decide +kernel
theorem dL_farthestReach_1 : decode cL_farthestReach 1 = .ok (.iconst 0, 1) := by decide +kernel
theorem dL_farthestReach_2 : decode cL_farthestReach 2 = .ok (.aload_n 0, 1) := by decide +kernel
theorem dL_farthestReach_3 : decode cL_farthestReach 3 = .ok (.iload_n 1, 1) := by decide +kernel
theorem dL_farthestReach_4 : decode cL_farthestReach 4 = .ok (.iload_n 2, 1) := by decide +kernel
theorem dL_farthestReach_5 : decode cL_farthestReach 5 = .ok (.invokevirtual 53, 3) := by decide +kernel
theorem dL_farthestReach_8 : decode cL_farthestReach 8 = .ok (.i2l, 1) := by decide +kernel
theorem dL_farthestReach_9 : decode cL_farthestReach 9 = .ok (.lastore, 1) := by decide +kernel
theorem dL_farthestReach_10 : decode cL_farthestReach 10 = .ok (.goto 11, 3) := by decide +kernel
theorem dL_farthestReach_13 : decode cL_farthestReach 13 = .ok (.astore 4, 2) := by decide +kernel
theorem dL_farthestReach_15 : decode cL_farthestReach 15 = .ok (.iconst 1, 1) := by decide +kernel
theorem dL_farthestReach_16 : decode cL_farthestReach 16 = .ok (.ireturn, 1) := by decide +kernel
theorem dL_farthestReach_17 : decode cL_farthestReach 17 = .ok (.astore 4, 2) := by decide +kernel
theorem dL_farthestReach_19 : decode cL_farthestReach 19 = .ok (.iconst 2, 1) := by decide +kernel
theorem dL_farthestReach_20 : decode cL_farthestReach 20 = .ok (.ireturn, 1) := by decide +kernel
theorem dL_farthestReach_21 : decode cL_farthestReach 21 = .ok (.iconst 0, 1) := by decide +kernel
theorem dL_farthestReach_22 : decode cL_farthestReach 22 = .ok (.ireturn, 1) := by decide +kernel
set_option maxRecDepth 20000 in
theorem ggL_safeDirections_X2_safeDirections : GoodIn wsL_safeDirections wsX2_safeDirections := goodIn_ca (goodIn_r _ [6, 7, 8, 9, 5, 10, 11, 12, 13, 14, 15, 16, 17, 18, 19, 20, 21, 22, 23, 24, 25, 26, 27, 28, 29, 30, 31, 32, 33, 34, 35, 36, 37, 38, 39, 40, 41, 42, 43, 44, 45, 46, 47, 48, 49, 50, 51, 52, 53, 54, 55, 56] (by decide +kernel) (by decide +kernel)) (goodIn_sub (fun _ h => List.mem_cons_of_mem _ (List.mem_append_right _ h)) (by decide +kernel))
set_option maxRecDepth 20000 in
theorem gL_safeDirections_X2_safeDirections : GoodIn wsL_safeDirections (wsV RL 56 RX2 yX2_safeDirections wsX2_safeDirections) := goodIn_app (goodIn_of _ (by decide +kernel)) ggL_safeDirections_X2_safeDirections
theorem dL_safeDirections_0 : decode cL_safeDirections 0 = .ok (.aload_n 3, 1) := by decide +kernel
theorem dL_safeDirections_1 : decode cL_safeDirections 1 = .ok (.iconst 0, 1) := by decide +kernel
theorem dL_safeDirections_2 : decode cL_safeDirections 2 = .ok (.aload_n 0, 1) := by decide +kernel
theorem dL_safeDirections_3 : decode cL_safeDirections 3 = .ok (.iload_n 1, 1) := by decide +kernel
theorem dL_safeDirections_4 : decode cL_safeDirections 4 = .ok (.iload_n 2, 1) := by decide +kernel
theorem dL_safeDirections_5 : decode cL_safeDirections 5 = .ok (.invokevirtual 56, 3) := by decide +kernel
theorem dL_safeDirections_8 : decode cL_safeDirections 8 = .ok (.i2l, 1) := by decide +kernel
theorem dL_safeDirections_9 : decode cL_safeDirections 9 = .ok (.lastore, 1) := by decide +kernel
theorem dL_safeDirections_10 : decode cL_safeDirections 10 = .ok (.goto 7, 3) := by decide +kernel
theorem dL_safeDirections_13 : decode cL_safeDirections 13 = .ok (.astore 4, 2) := by decide +kernel
theorem dL_safeDirections_15 : decode cL_safeDirections 15 = .ok (.iconst 1, 1) := by decide +kernel
theorem dL_safeDirections_16 : decode cL_safeDirections 16 = .ok (.ireturn, 1) := by decide +kernel
theorem dL_safeDirections_17 : decode cL_safeDirections 17 = .ok (.iconst 0, 1) := by decide +kernel
theorem dL_safeDirections_18 : decode cL_safeDirections 18 = .ok (.ireturn, 1) := by decide +kernel
set_option maxRecDepth 20000 in
theorem ggL_platesNeeded_X2_platesNeeded : GoodIn wsL_platesNeeded wsX2_platesNeeded := goodIn_ca (goodIn_ca (goodIn_r _ [7, 8, 9, 10, 11, 12, 6, 13, 14, 15, 16, 17, 18, 19, 20, 21, 22, 23, 24, 25, 26, 27, 28, 29, 30, 31, 32, 33, 34, 35, 36, 37, 38, 39, 40, 41, 42, 43, 44, 45, 46, 47, 48, 49, 50, 51, 52, 53, 54, 55, 56, 57, 58, 59, 60, 61, 62, 63, 64, 65, 66, 67, 68, 69, 70, 71, 72, 73, 74, 75, 76] (by decide +kernel) (by decide +kernel)) (goodIn_sub (fun _ h => List.mem_cons_of_mem _ (List.mem_append_left _ (List.mem_append_right _ h))) (by decide +kernel))) (goodIn_sub (fun _ h => List.mem_cons_of_mem _ (List.mem_append_right _ h)) (by decide +kernel))
set_option maxRecDepth 20000 in
theorem gL_platesNeeded_X2_platesNeeded : GoodIn wsL_platesNeeded (wsV RL 59 RX2 yX2_platesNeeded wsX2_platesNeeded) := goodIn_app (goodIn_of _ (by decide +kernel)) ggL_platesNeeded_X2_platesNeeded
theorem dL_platesNeeded_0 : decode cL_platesNeeded 0 = .ok (.aload 4, 2) := by decide +kernel
theorem dL_platesNeeded_2 : decode cL_platesNeeded 2 = .ok (.iconst 0, 1) := by decide +kernel
theorem dL_platesNeeded_3 : decode cL_platesNeeded 3 = .ok (.aload_n 0, 1) := by decide +kernel
theorem dL_platesNeeded_4 : decode cL_platesNeeded 4 = .ok (.iload_n 1, 1) := by decide +kernel
theorem dL_platesNeeded_5 : decode cL_platesNeeded 5 = .ok (.iload_n 2, 1) := by decide +kernel
theorem dL_platesNeeded_6 : decode cL_platesNeeded 6 = .ok (.iload_n 3, 1) := by decide +kernel
theorem dL_platesNeeded_7 : decode cL_platesNeeded 7 = .ok (.invokevirtual 59, 3) := by decide +kernel
theorem dL_platesNeeded_10 : decode cL_platesNeeded 10 = .ok (.i2l, 1) := by decide +kernel
theorem dL_platesNeeded_11 : decode cL_platesNeeded 11 = .ok (.lastore, 1) := by decide +kernel
theorem dL_platesNeeded_12 : decode cL_platesNeeded 12 = .ok (.goto 11, 3) := by decide +kernel
theorem dL_platesNeeded_15 : decode cL_platesNeeded 15 = .ok (.astore 5, 2) := by decide +kernel
theorem dL_platesNeeded_17 : decode cL_platesNeeded 17 = .ok (.iconst 1, 1) := by decide +kernel
theorem dL_platesNeeded_18 : decode cL_platesNeeded 18 = .ok (.ireturn, 1) := by decide +kernel
theorem dL_platesNeeded_19 : decode cL_platesNeeded 19 = .ok (.astore 5, 2) := by decide +kernel
theorem dL_platesNeeded_21 : decode cL_platesNeeded 21 = .ok (.iconst 2, 1) := by decide +kernel
theorem dL_platesNeeded_22 : decode cL_platesNeeded 22 = .ok (.ireturn, 1) := by decide +kernel
theorem dL_platesNeeded_23 : decode cL_platesNeeded 23 = .ok (.iconst 0, 1) := by decide +kernel
theorem dL_platesNeeded_24 : decode cL_platesNeeded 24 = .ok (.ireturn, 1) := by decide +kernel
set_option maxRecDepth 20000 in
theorem ggL_fewestMoves_X2_fewestMoves : GoodIn wsL_fewestMoves wsX2_fewestMoves := goodIn_ca (goodIn_ca (goodIn_r _ [7, 8, 9, 10, 11, 12, 13, 6, 14, 15, 16, 17, 18, 19, 20, 21, 22, 23, 24, 25, 26, 27, 28, 29, 30, 31, 32, 33, 34, 35, 36, 37, 38, 39, 40, 41, 42, 43, 44, 45, 46, 47, 48, 49, 50, 51, 52, 53, 54, 55, 56, 57, 58, 59, 60, 61, 62, 63, 64, 65, 66, 67, 68, 69, 70, 71, 72, 73, 74, 75, 76, 77, 78, 79, 80, 81, 82, 83, 84, 85, 86, 87, 88, 89, 90, 91, 92, 93] (by decide +kernel) (by decide +kernel)) (goodIn_sub (fun _ h => List.mem_cons_of_mem _ (List.mem_append_left _ (List.mem_append_right _ h))) (by decide +kernel))) (goodIn_sub (fun _ h => List.mem_cons_of_mem _ (List.mem_append_right _ h)) (by decide +kernel))
set_option maxRecDepth 20000 in
theorem gL_fewestMoves_X2_fewestMoves : GoodIn wsL_fewestMoves (wsV RL 63 RX2 yX2_fewestMoves wsX2_fewestMoves) := goodIn_app (goodIn_of _ (by decide +kernel)) ggL_fewestMoves_X2_fewestMoves
theorem dL_fewestMoves_0 : decode cL_fewestMoves 0 = .ok (.aload 4, 2) := by decide +kernel
theorem dL_fewestMoves_2 : decode cL_fewestMoves 2 = .ok (.iconst 0, 1) := by decide +kernel
theorem dL_fewestMoves_3 : decode cL_fewestMoves 3 = .ok (.aload_n 0, 1) := by decide +kernel
theorem dL_fewestMoves_4 : decode cL_fewestMoves 4 = .ok (.iload_n 1, 1) := by decide +kernel
theorem dL_fewestMoves_5 : decode cL_fewestMoves 5 = .ok (.iload_n 2, 1) := by decide +kernel
theorem dL_fewestMoves_6 : decode cL_fewestMoves 6 = .ok (.iload_n 3, 1) := by decide +kernel
theorem dL_fewestMoves_7 : decode cL_fewestMoves 7 = .ok (.invokevirtual 63, 3) := by decide +kernel
theorem dL_fewestMoves_10 : decode cL_fewestMoves 10 = .ok (.i2l, 1) := by decide +kernel
theorem dL_fewestMoves_11 : decode cL_fewestMoves 11 = .ok (.lastore, 1) := by decide +kernel
theorem dL_fewestMoves_12 : decode cL_fewestMoves 12 = .ok (.goto 11, 3) := by decide +kernel
theorem dL_fewestMoves_15 : decode cL_fewestMoves 15 = .ok (.astore 5, 2) := by decide +kernel
theorem dL_fewestMoves_17 : decode cL_fewestMoves 17 = .ok (.iconst 1, 1) := by decide +kernel
theorem dL_fewestMoves_18 : decode cL_fewestMoves 18 = .ok (.ireturn, 1) := by decide +kernel
theorem dL_fewestMoves_19 : decode cL_fewestMoves 19 = .ok (.astore 5, 2) := by decide +kernel
theorem dL_fewestMoves_21 : decode cL_fewestMoves 21 = .ok (.iconst 2, 1) := by decide +kernel
theorem dL_fewestMoves_22 : decode cL_fewestMoves 22 = .ok (.ireturn, 1) := by decide +kernel
theorem dL_fewestMoves_23 : decode cL_fewestMoves 23 = .ok (.iconst 0, 1) := by decide +kernel
theorem dL_fewestMoves_24 : decode cL_fewestMoves 24 = .ok (.ireturn, 1) := by decide +kernel
set_option maxRecDepth 20000 in
theorem ggL_placesWithin_X2_placesWithin : GoodIn wsL_placesWithin wsX2_placesWithin := goodIn_ca (goodIn_r _ [6, 7, 8, 9, 10, 11, 12, 5, 13, 14, 15, 16, 17, 18, 19, 20, 21, 22, 23, 24, 25, 26, 27, 28, 29, 30, 31, 32, 33, 34, 35, 36, 37, 38, 39, 40, 41, 42, 43, 44, 45, 46, 47, 48, 49, 50, 51, 52, 53, 54, 55, 56, 57, 58, 59, 60, 61, 62, 63, 64, 65, 66, 67, 68, 69, 70, 71, 72, 73, 74, 75, 76, 77, 78, 79] (by decide +kernel) (by decide +kernel)) (goodIn_sub (fun _ h => List.mem_cons_of_mem _ (List.mem_append_right _ h)) (by decide +kernel))
set_option maxRecDepth 20000 in
theorem gL_placesWithin_X2_placesWithin : GoodIn wsL_placesWithin (wsV RL 66 RX2 yX2_placesWithin wsX2_placesWithin) := goodIn_app (goodIn_of _ (by decide +kernel)) ggL_placesWithin_X2_placesWithin
theorem dL_placesWithin_0 : decode cL_placesWithin 0 = .ok (.aload_n 2, 1) := by decide +kernel
theorem dL_placesWithin_1 : decode cL_placesWithin 1 = .ok (.iconst 0, 1) := by decide +kernel
theorem dL_placesWithin_2 : decode cL_placesWithin 2 = .ok (.aload_n 0, 1) := by decide +kernel
theorem dL_placesWithin_3 : decode cL_placesWithin 3 = .ok (.iload_n 1, 1) := by decide +kernel
theorem dL_placesWithin_4 : decode cL_placesWithin 4 = .ok (.invokevirtual 66, 3) := by decide +kernel
theorem dL_placesWithin_7 : decode cL_placesWithin 7 = .ok (.i2l, 1) := by decide +kernel
theorem dL_placesWithin_8 : decode cL_placesWithin 8 = .ok (.lastore, 1) := by decide +kernel
theorem dL_placesWithin_9 : decode cL_placesWithin 9 = .ok (.goto 6, 3) := by decide +kernel
theorem dL_placesWithin_12 : decode cL_placesWithin 12 = .ok (.astore_n 3, 1) := by decide +kernel
theorem dL_placesWithin_13 : decode cL_placesWithin 13 = .ok (.iconst 1, 1) := by decide +kernel
theorem dL_placesWithin_14 : decode cL_placesWithin 14 = .ok (.ireturn, 1) := by decide +kernel
theorem dL_placesWithin_15 : decode cL_placesWithin 15 = .ok (.iconst 0, 1) := by decide +kernel
theorem dL_placesWithin_16 : decode cL_placesWithin 16 = .ok (.ireturn, 1) := by decide +kernel
set_option maxRecDepth 20000 in
theorem ggL_bestOutrigger_X2_bestOutrigger : GoodIn wsL_bestOutrigger wsX2_bestOutrigger := goodIn_ca (goodIn_r _ [6, 7, 8, 9, 10, 11, 12, 13, 5, 14, 15, 16, 17, 18, 19, 20, 21, 22, 23, 24, 25, 26, 27, 28, 29, 30, 31, 32, 33, 34, 35, 36, 37, 38, 39, 40, 41, 42, 43, 44, 45, 46, 47, 48, 49, 50, 51, 52, 53, 54, 55, 56, 57, 58, 59, 60, 61, 62, 63, 64, 65, 66, 67, 68, 69, 70, 71, 72, 73, 74, 75, 76, 77, 78, 79, 80, 81, 82, 83, 84, 85, 86, 87, 88, 89, 90, 91, 92, 93, 94] (by decide +kernel) (by decide +kernel)) (goodIn_sub (fun _ h => List.mem_cons_of_mem _ (List.mem_append_right _ h)) (by decide +kernel))
set_option maxRecDepth 20000 in
theorem gL_bestOutrigger_X2_bestOutrigger : GoodIn wsL_bestOutrigger (wsV RL 69 RX2 yX2_bestOutrigger wsX2_bestOutrigger) := goodIn_app (goodIn_of _ (by decide +kernel)) ggL_bestOutrigger_X2_bestOutrigger
theorem dL_bestOutrigger_0 : decode cL_bestOutrigger 0 = .ok (.aload_n 2, 1) := by decide +kernel
theorem dL_bestOutrigger_1 : decode cL_bestOutrigger 1 = .ok (.iconst 0, 1) := by decide +kernel
theorem dL_bestOutrigger_2 : decode cL_bestOutrigger 2 = .ok (.aload_n 0, 1) := by decide +kernel
theorem dL_bestOutrigger_3 : decode cL_bestOutrigger 3 = .ok (.iload_n 1, 1) := by decide +kernel
theorem dL_bestOutrigger_4 : decode cL_bestOutrigger 4 = .ok (.invokevirtual 69, 3) := by decide +kernel
theorem dL_bestOutrigger_7 : decode cL_bestOutrigger 7 = .ok (.i2l, 1) := by decide +kernel
theorem dL_bestOutrigger_8 : decode cL_bestOutrigger 8 = .ok (.lastore, 1) := by decide +kernel
theorem dL_bestOutrigger_9 : decode cL_bestOutrigger 9 = .ok (.goto 6, 3) := by decide +kernel
theorem dL_bestOutrigger_12 : decode cL_bestOutrigger 12 = .ok (.astore_n 3, 1) := by decide +kernel
theorem dL_bestOutrigger_13 : decode cL_bestOutrigger 13 = .ok (.iconst 1, 1) := by decide +kernel
theorem dL_bestOutrigger_14 : decode cL_bestOutrigger 14 = .ok (.ireturn, 1) := by decide +kernel
theorem dL_bestOutrigger_15 : decode cL_bestOutrigger 15 = .ok (.iconst 0, 1) := by decide +kernel
theorem dL_bestOutrigger_16 : decode cL_bestOutrigger 16 = .ok (.ireturn, 1) := by decide +kernel
end
section
/-! ===== the words of this proof: what a call answers, the surroundings, how a world is changed in place ===== -/
abbrev vwCl : List vw_C := [(RX0, TX0, 3), (RX1, TX1, 3), (RX2, TX2, 9), (RX3, TX3, 13)]
def cA (ws : va_W) : Nat → Prop := fun q => ∃ (k : Nat) (e : va_E), ws[k]? = some (q, e)
/-- it answers v and leaves the heap as it is -/
def cR (v : Option Value) : Array Value → State → Outcome → State → Prop := fun _ st oc t => oc = .returned v ∧ t.heap = st.heap
/-- it answers v, B holds of the heap behind it, cells outside A are as they were -/
def cB (v : Option Value) (B : Heap → Prop) (A : Nat → Prop) : Array Value → State → Outcome → State → Prop := fun _ st oc t => (oc = .returned v ∧ B t.heap) ∧ va_F A st t
/-- it throws an E of which PX holds, and BX holds of the heap behind it -/
def cX (PX : String → Prop) (BX : Heap → Prop) (A : Nat → Prop) : String → State → State → Prop := fun E st t => (PX E ∧ BX t.heap) ∧ va_F A st t
/-- it answers v, the heap as it was, and P -/
def cRP (v : Option Value) (P : Prop) : Array Value → State → Outcome → State → Prop := fun _ st oc t => (oc = .returned v ∧ t.heap = st.heap) ∧ P
theorem cA_of {ws : va_W} {k : Nat} {q : Nat × va_E} (h : ws[k]? = some q) : cA ws q.1 := ⟨k, q.2, h⟩
theorem c_Dsame {A : Nat → Prop} {w w1 : va_W} (h : va_D A w) (ha : w1.map (fun q => q.1) = w.map (fun q => q.1)) : va_D A w1 := by
  have key : ∀ (k : Nat) (q : Nat × va_E), w1[k]? = some q → ∃ q2 : Nat × va_E, w[k]? = some q2 ∧ q2.1 = q.1 := by
    intro k q hq
    have h1 : (w1.map (fun q => q.1))[k]? = some q.1 := by rw [List.getElem?_map, hq]; rfl
    rw [ha, List.getElem?_map] at h1
    cases hw : w[k]? with
    | none => rw [hw] at h1; cases h1
    | some q2 => rw [hw] at h1; exact ⟨q2, rfl, Option.some.inj h1⟩
  refine ⟨fun i j p q hp hq e => ?_, fun k q hq => ?_⟩
  · obtain ⟨p2, hp2, ep⟩ := key i p hp
    obtain ⟨q2, hq2, eq⟩ := key j q hq
    exact h.1 i j p2 q2 hp2 hq2 (by rw [ep, eq]; exact e)
  · obtain ⟨q2, hq2, eq⟩ := key k q hq
    rw [← eq]
    exact h.2 k q2 hq2
/-- behind a call that wrote the cells wc in place: the other cells are as they were -/
theorem c_join {A0 : Nat → Prop} {D : va_G} {cl : List vw_C} {ws wc wr w1 ws' : va_W} {H H1 : Heap} (hP : va_P D cl ws H) (hD : va_D A0 ws) (isC isR perm : List Nat) (hC : isC.map (fun i => ws[i]?) = wc.map some) (hR : isR.map (fun i => ws[i]?) = wr.map some) (hn : va_nd (isR ++ isC) = true) (hdis : ∀ i ∈ isR, i ∉ isC)
    (hk : ∀ q : Nat, q < H.size → ¬ cA wc q → H1[q]? = H[q]?) (hP1 : va_P D cl w1 H1) (ha : w1.map (fun q => q.1) = wc.map (fun q => q.1)) (hp : perm.filterMap (fun i => (wr ++ w1)[i]?) = ws') (hp2 : perm.map (fun i => (wr ++ w1)[i]?) = ws'.map some) (hnp : va_nd perm = true) : va_P D cl ws' H1 ∧ va_D A0 ws' := by
  have at' : ∀ {is : List Nat} {w : va_W}, is.map (fun i => ws[i]?) = w.map some → ∀ (k : Nat) (q : Nat × va_E), w[k]? = some q → ∃ i, is[k]? = some i ∧ ws[i]? = some q := by
    intro is w hs k q hq
    have h1 : (is.map (fun i => ws[i]?))[k]? = some (some q) := by rw [hs, List.getElem?_map, hq]; rfl
    rw [List.getElem?_map] at h1
    cases hi : is[k]? with
    | none => rw [hi] at h1; cases h1
    | some i => rw [hi] at h1; exact ⟨i, rfl, Option.some.inj h1⟩
  have hPr : va_P D cl wr H1 := by
    intro k q hq
    obtain ⟨i, h1, h2⟩ := at' hR k q hq
    refine (hP i q h2).kept (hk q.1 (hP i q h2).lt ?_)
    rintro ⟨k2, e, h⟩
    obtain ⟨j, h3, h4⟩ := at' hC k2 (q.1, e) h
    have hij := hD.1 i j q (q.1, e) h2 h4 rfl
    subst hij
    exact hdis i (List.mem_of_getElem? h1) (List.mem_of_getElem? h3)
  have hD2 : va_D A0 (wr ++ w1) := c_Dsame (hD.sub (ws' := wr ++ wc) (isR ++ isC) hn (by rw [List.map_append, List.map_append, hC, hR])) (by rw [List.map_append, List.map_append, ha])
  exact ⟨(va_P.app hPr hP1).sub perm hp, hD2.sub perm hnp hp2⟩
section CB
variable {p : Program} {l : Launch} {e : Env} {R : Room} {s : State} {m : MethodId} {args : Array Value} {below : List Frame} {meth : Method} {c : Code} {H : Heap} {locs : List Loc} {cells slots : Nat} {Q : State → Prop} {pc : Nat} {ls : Array Slot} {rest st0 : List Value} {a : Array Value} {A0 A1 : Nat → Prop} {H0 : Heap} {mc ms : Nat} {free : Addr → Prop}
theorem c_callR {v : Option Value} (hr : va_Run p l e R s m args below meth c H locs cells slots 0 0 (F0 m pc ls st0) rest (cR v a) (fun _ => False)) (kk : W p l e R s m args below meth c H locs cells slots Q (F0 m (pc + 3) ls (v.toList ++ rest))) : W p l e R s m args below meth c H locs cells slots Q (F0 m pc ls st0) := by
  intro T hT X
  obtain ⟨v', st₀, t, T', L, h0, X', hL, e1, e2, ⟨hv, hh⟩, st⟩ := hr T hT X
  cases hv
  obtain ⟨t2, a1, b1⟩ := kk T' (by rw [e1, hh, h0]) (Stand.forget X' (fun q h => (hL q h).elim))
  exact ⟨t2, st t2 a1, b1⟩
theorem c_callB {v : Option Value} {B : Heap → Prop} (hr : va_Run p l e R s m args below meth c H locs cells slots mc ms (F0 m pc ls st0) rest (cB v B A1 a) free) (hS : va_S A0 H0 H locs) (hA : ∀ q, q < H.size → A1 q → A0 q) (hf : ∀ q, free q → A0 q)
    (kk : ∀ (H1 : Heap) (locs1 : List Loc), B H1 → H.size ≤ H1.size → (∀ q : Nat, q < H.size → ¬ A1 q → H1[q]? = H[q]?) → va_S A0 H0 H1 locs1 → W p l e R s m args below meth c H1 locs1 (cells + mc) (slots + ms) Q (F0 m (pc + 3) ls (v.toList ++ rest))) : W p l e R s m args below meth c H locs cells slots Q (F0 m pc ls st0) := by
  intro T hT X
  obtain ⟨v', st₀, t, T', L, h0, X', hL, e1, e2, ⟨⟨hv, hb⟩, hF⟩, st⟩ := hr T hT X
  cases hv
  obtain ⟨k1, k2, k3⟩ := vx_keep h0 e1 hS hA hf hL hF
  obtain ⟨t2, a1, b1⟩ := kk T'.heap (locs ++ L) (by rw [e1]; exact hb) k1 k2 k3 T' rfl X'
  exact ⟨t2, st t2 a1, b1⟩
/-- a call that returns, or throws -/
theorem c_callX {v : Option Value} {B BX : Heap → Prop} {PX : String → Prop} {AX : Nat → Prop} (hr : vx_Run p l e R s m args below meth c H locs cells slots mc ms (F0 m pc ls st0) rest (cB v B A1 a) (cX PX BX AX) free) (hS : va_S A0 H0 H locs) (hA : ∀ q, q < H.size → A1 q → A0 q) (hf : ∀ q, free q → A0 q) (hAX : ∀ q, q < H.size → AX q → A0 q)
    (kx : ∀ (E : String) (ce : Cell) (q9 : Addr) (H1 : Heap) (locs1 : List Loc), PX E → BX H1 → H.size ≤ H1.size → (∀ q : Nat, q < H.size → ¬ AX q → H1[q]? = H[q]?) → va_S A0 H0 H1 locs1 → H1[q9]? = some ce → ce.vm = .none → s.vm.findClass E = some ce.cls → vx_W p l e R s m args below meth c H1 locs1 (cells + mc) (slots + ms) Q (F0 m pc ls rest) q9)
    (kk : ∀ (H1 : Heap) (locs1 : List Loc), B H1 → H.size ≤ H1.size → (∀ q : Nat, q < H.size → ¬ A1 q → H1[q]? = H[q]?) → va_S A0 H0 H1 locs1 → W p l e R s m args below meth c H1 locs1 (cells + mc) (slots + ms) Q (F0 m (pc + 3) ls (v.toList ++ rest))) : W p l e R s m args below meth c H locs cells slots Q (F0 m pc ls st0) := by
  intro T hT X
  rcases hr T hT X with ⟨v', st₀, t, T', L, h0, X', hL, e1, e2, ⟨⟨hv, hb⟩, hF⟩, st⟩ | ⟨q, st₀, t, T', L, E, ce, h0, X', hL, e1, e2, ⟨⟨hE, hb⟩, hF⟩, hce, hcv, hcl, st⟩
  · cases hv
    obtain ⟨k1, k2, k3⟩ := vx_keep h0 e1 hS hA hf hL hF
    obtain ⟨t2, a1, b1⟩ := kk T'.heap (locs ++ L) (by rw [e1]; exact hb) k1 k2 k3 T' rfl X'
    exact ⟨t2, st t2 a1, b1⟩
  · obtain ⟨k1, k2, k3⟩ := vx_keep h0 e1 hS hAX hf hL hF
    obtain ⟨t2, a1, b1⟩ := kx E ce q T'.heap (locs ++ L) hE (by rw [e1]; exact hb) k1 k2 k3 (by rw [e1]; exact hce) hcv hcl T' rfl X'
    exact ⟨t2, st.trans a1, b1⟩
/-- a call of one that only tests: it returns, the heap as it is, or throws -/
theorem c_callT {v : Option Value} {P : Prop} {PX : String → Prop} {BX : Heap → Prop} (hr : vx_Run p l e R s m args below meth c H locs cells slots mc ms (F0 m pc ls st0) rest (cRP v P a) (cX PX BX (fun _ => False)) (fun _ => False)) (hS : va_S A0 H0 H locs)
    (kx : ∀ (E : String) (ce : Cell) (q9 : Addr) (H1 : Heap), PX E → H.size ≤ H1.size → (∀ q : Nat, q < H.size → H1[q]? = H[q]?) → va_S A0 H0 H1 locs → H1[q9]? = some ce → ce.vm = .none → s.vm.findClass E = some ce.cls → vx_W p l e R s m args below meth c H1 locs (cells + mc) (slots + ms) Q (F0 m pc ls rest) q9)
    (kk : P → W p l e R s m args below meth c H locs (cells + mc) (slots + ms) Q (F0 m (pc + 3) ls (v.toList ++ rest))) : W p l e R s m args below meth c H locs cells slots Q (F0 m pc ls st0) := by
  intro T hT X
  rcases hr T hT X with ⟨v', st₀, t, T', L, h0, X', hL, e1, e2, ⟨⟨hv, hh⟩, hP⟩, st⟩ | ⟨q, st₀, t, T', L, E, ce, h0, X', hL, e1, e2, ⟨⟨hE, hb⟩, hF⟩, hce, hcv, hcl, st⟩
  · cases hv
    obtain ⟨t2, a1, b1⟩ := kk hP T' (by rw [e1, hh, h0]) (Stand.forget X' (fun q h => (hL q h).elim))
    exact ⟨t2, st t2 a1, b1⟩
  · obtain ⟨k1, k2, k3⟩ := vx_keep (A1 := fun _ => False) (free := fun _ => False) h0 e1 hS (fun q _ h => False.elim h) (fun q h => False.elim h) hL hF
    obtain ⟨t2, a1, b1⟩ := kx E ce q T'.heap hE k1 (fun q h => k2 q h (fun z => z)) ⟨k3.1, k3.2.1, hS.2.2⟩ (by rw [e1]; exact hce) hcv hcl T' rfl (Stand.forget X' (fun q h => (hL q h).elim))
    exact ⟨t2, st.trans a1, b1⟩
theorem c_FX {A : Nat → Prop} {s t : State} {H : Heap} {locs : List Loc} (hS : va_S A s.heap H locs) (hz : H.size ≤ t.heap.size) (hq : ∀ q : Nat, q < H.size → t.heap[q]? = H[q]?) : va_F A s t :=
  ⟨Nat.le_trans hS.1 hz, fun q h1 h2 => by rw [hq q (Nat.lt_of_lt_of_le h1 hS.1)]; exact hS.2.1 q h1 h2⟩
theorem c_PX {D : va_G} {cl : List vw_C} {ws : va_W} {H H1 : Heap} (hP : va_P D cl ws H) (hq : ∀ q : Nat, q < H.size → H1[q]? = H[q]?) : va_P D cl ws H1 := hP.kept (fun k q hk => hq q.1 (hP k q hk).lt)
theorem c_top {x y : Int32} (h : x = y) (k : W p l e R s m args below meth c H locs cells slots Q (F0 m pc ls (.int y :: rest))) : W p l e R s m args below meth c H locs cells slots Q (F0 m pc ls (.int x :: rest)) := h ▸ k
theorem c_topl {x y : Int64} (h : x = y) (k : W p l e R s m args below meth c H locs cells slots Q (F0 m pc ls (.long y :: rest))) : W p l e R s m args below meth c H locs cells slots Q (F0 m pc ls (.long x :: rest)) := h ▸ k
end CB
/-! the surroundings: what lies ahead of the system's cells and is never written -/
def kSl : Nat → Value := fun j => .int (if j = 0 then 10 else if j = 1 then 7 else if j = 2 then 0 else if j = 3 then -7 else -10)
def kStrs : List (Nat × String) := [(111, "metres must be 1 to 30"), (155, "it would not be safe then"), (157, "a load hangs on the boom"), (161, "side must be 0 to 3"), (164, "direction must be 0 to 7"), (166, "load must be 0 to 60"), (168, "reach must be 3 to 30"), (36, "plates must be 0 to 12"), (59, "out must be 0 to 6"), (75, "limit must be 0 to 60"), (83, "load must be 1 to 60"), (93, "no load hangs on the boom"), (96, "steps must be 1 to 8")]
abbrev xIAE : String := "java/lang/IllegalArgumentException"
abbrev xISE : String := "java/lang/IllegalStateException"
abbrev xIOB : String := "java/lang/IndexOutOfBoundsException"
def kNw (U : State) : Prop := va_Nw (.methodLinkNest RX2 21 yX0_init "CraneReach") U ∧ va_Nw (.methodLinkNest RX0 34 yX2_turned "CraneReach") U ∧ va_Nw (.methodLinkNest RX0 43 yX2_isReach "CraneReach") U
def kCa (U : State) : Prop := va_Nw (.castable xIAE xIAE) U ∧ va_Nw (.castable xISE xISE) U ∧ va_Nw (.castable xIOB xIOB) U
def kDe (U : State) : Prop := va_Nw (.declares (Bundle.initS "java/lang/RuntimeException")) U ∧ va_Nw (.declares (Bundle.initS "java/lang/Exception")) U ∧ va_Nw (.declares (Bundle.initS Bundle.tN)) U
def kNc (U : State) : Prop := va_Nc xIAE xISE U ∧ va_Nc xIAE xIOB U ∧ va_Nc xISE xIAE U ∧ va_Nc xISE xIOB U ∧ va_Nc xIOB xIAE U ∧ va_Nc xIOB xISE U
def kE (L0 : Nat) (U : State) (H : Heap) : Prop :=
  L0 ≤ H.size ∧ vx_Zq Bundle.tN "UNASSIGNED_STACK" Bundle.steD (fun q => L0 ≤ q) U H ∧ vx_Zq Bundle.tN "SUPPRESSED_SENTINEL" Bundle.listD (fun q => L0 ≤ q) U H ∧
  (∃ t : Nat, va_Z "CraneReachModel" "SLANT" "[I" (.ref t) (fun q => L0 ≤ q) U H ∧ va_T .int t 5 kSl (fun q => L0 ≤ q) U H) ∧
  (∀ z ∈ kStrs, ∃ a, vk_R RX2 z.1 z.2 a U) ∧ kNw U ∧ kCa U ∧ kDe U ∧ kNc U
theorem kE_kept {L0 : Nat} {U : State} {H H1 : Heap} (h : kE L0 U H) (hz : H.size ≤ H1.size) (hq : ∀ q : Nat, q < L0 → H1[q]? = H[q]?) : kE L0 U H1 := by
  obtain ⟨h0, h1, h2, ⟨t, h3, h4⟩, h5⟩ := h
  have hq' : ∀ a : Nat, a < H.size → ¬ (fun q => L0 ≤ q) a → H1[a]? = H[a]? := fun a _ h => hq a (Nat.not_le.mp h)
  exact ⟨Nat.le_trans h0 hz, h1.kept hq', h2.kept hq', ⟨t, h3.kept hq', h4.kept hq'⟩, h5⟩
/-- at any heap of the method that only wrote its own cells -/
theorem kE_at {L0 : Nat} {s : State} {H : Heap} {locs : List Loc} {A : Nat → Prop} (h : kE L0 s s.heap) (hAL : ∀ q, A q → L0 ≤ q) (hS : va_S A s.heap H locs) : kE L0 s H :=
  kE_kept h hS.1 (fun q hq => hS.2.1 q (Nat.lt_of_lt_of_le hq h.1) (fun z => absurd (hAL q z) (Nat.not_le.mpr hq)))
theorem kE_moved {L0 : Nat} {s U : State} {H : Heap} (h : kE L0 s H) (hW : s.WarmedH U.vm) : kE L0 U H := by
  obtain ⟨h0, h1, h2, ⟨t, h3, h4⟩, h5, ⟨h6, h7, h8⟩, ⟨h9, h10, h11⟩, ⟨d1, d2, d3⟩, ⟨n1, n2, n3, n4, n5, n6⟩⟩ := h
  have hvm := hW.alike
  exact ⟨h0, h1.moved hvm, h2.moved hvm, ⟨t, va_Z.moved hvm h3, va_T.moved hvm h4⟩, fun z hz => by obtain ⟨a, ha⟩ := h5 z hz; exact ⟨a, ha.warm hW⟩, ⟨h6.warmM hW, h7.warmM hW, h8.warmM hW⟩, ⟨h9.warmC hW, h10.warmC hW, h11.warmC hW⟩, ⟨d1.warmD hW, d2.warmD hW, d3.warmD hW⟩, ⟨n1.moved hvm, n2.moved hvm, n3.moved hvm, n4.moved hvm, n5.moved hvm, n6.moved hvm⟩⟩
theorem kE_same {L0 : Nat} {s U : State} {H : Heap} (h : kE L0 s H) (hv : U.vm = s.vm) : kE L0 U H := kE_moved h (by rw [hv]; exact State.WarmedH.refl s)
/-- what every method finds: its arguments, its cells, the tables, apart and behind L0, the surroundings -/
def cP (L0 : Nat) (D : va_G) (tys : List (ClassId × FieldType)) (ws : va_W) (av : List Value) : Array Value → State → Prop :=
  va_Pc av (fun U => va_P D vwCl ws U.heap ∧ va_K D vwCl tys U ∧ va_D (fun q : Nat => L0 ≤ q) ws ∧ kE L0 U U.heap)
theorem cP_blind {L0 : Nat} {D : va_G} {tys : List (ClassId × FieldType)} {ws : va_W} {av : List Value} : FrameBlind (cP L0 D tys ws av) := by
  intro a U g mk h
  obtain ⟨h1, h2, h3, h4, h5⟩ := h
  exact ⟨h1, h2, va_K.moved (u := U) (U := U.calling g mk a) (Vm.Alike.refl U.vm) h3, h4, kE_same (s := U) h5 rfl⟩
theorem cP_of {L0 : Nat} {D : va_G} {tys : List (ClassId × FieldType)} {ws : va_W} {av : List Value} {s : State} {H : Heap} (hP : va_P D vwCl ws H) (hK : va_K D vwCl tys s) (hD : va_D (fun q : Nat => L0 ≤ q) ws) (hE : kE L0 s H) : ∀ U : State, U.heap = H → s.WarmedH U.vm → cP L0 D tys ws av av.toArray U := by
  intro U hU hW
  refine ⟨rfl, by rw [hU]; exact hP, va_K.moved hW.alike hK, hD, ?_⟩
  rw [hU]
  exact kE_moved hE hW
theorem kE_str {L0 : Nat} {s : State} {H : Heap} (h : kE L0 s H) (z : Nat × String) (hz : z ∈ kStrs) : ∃ a, vk_R RX2 z.1 z.2 a s := h.2.2.2.2.1 z hz
abbrev kSup : List String := ["java/lang/RuntimeException", "java/lang/Exception"]
def kOther (X : String) : List Cond := [.castable X X, .declares (Bundle.initS "java/lang/RuntimeException"), .declares (Bundle.initS "java/lang/Exception"), .declares (Bundle.initS Bundle.tN)]
theorem kE_other {L0 : Nat} {s : State} {H : Heap} (h : kE L0 s H) (X : String) (hX : X = xIAE ∨ X = xISE ∨ X = xIOB) {args : Array Value} : ∀ w ∈ kOther X, w.before args s = true := by
  obtain ⟨-, -, -, -, -, -, ⟨h9, h10, h11⟩, ⟨d1, d2, d3⟩, -⟩ := h
  have hc : va_Nw (.castable X X) s := by rcases hX with rfl | rfl | rfl <;> assumption
  exact vx_c (hc.use rfl) (vx_c (d1.use rfl) (vx_c (d2.use rfl) (vx_c (d3.use rfl) vx_n)))
section CT
variable {p : Program} {l : Launch} {e : Env} {R : Room} {s : State} {m : MethodId} {args : Array Value} {below : List Frame} {meth : Method} {c : Code} {H : Heap} {locs : List Loc} {cells slots : Nat} {pc : Nat} {ls : Array Slot} {rest : List Value} {A : Nat → Prop} {mc ms : Nat} {free : Addr → Prop} {Qc : Array Value → State → Outcome → State → Prop} {PX : String → Prop} {BX : Heap → Prop} {A1 : Nat → Prop} {L0 : Nat}
/-- 'throw new E("text")' of the class CraneReach -/
theorem c_throw {cc : ByteArray} (hexec : p.tables.exec = Jvm.exec) (hb : c.code = cc) (hl : l.stackTraces = false) {cls text : String} {ik is ic nL : Nat} (hown : s.vm.findClass RX2 = some m.cls) (hc : cls = xIAE ∨ cls = xISE ∨ cls = xIOB)
    (hk : (Cond.classLink RX2 ik cls).before args s = true) (hini : (Cond.initialized cls).before args s = true) (hE0 : kE L0 s s.heap) (hAL : ∀ q, A q → L0 ≤ q) (hstr : (is, text) ∈ kStrs)
    (hat : ∀ w ∈ (vx_atS RX2 ic cls kSup).filter goodWord, w.before args s = true) (hot : ∀ w ∈ (vx_atS RX2 ic cls kSup).filter (fun w => !goodWord w), w ∈ kOther cls)
    (hgood : ∀ w ∈ Cond.classLink RX2 ik cls :: Cond.initialized cls :: vx_atS RX2 ic cls kSup, vx_ot w = true)
    (hS : va_S A s.heap H locs) (hls : ls.size = nL) (hml : c.maxLocals = nL)
    (d0 : decode cc pc = .ok (.new ik, 3)) (d3 : decode cc (pc + 3) = .ok (.dup, 1)) (d4 : decode cc (pc + 4) = .ok (.ldc is, 2)) (d6 : decode cc (pc + 6) = .ok (.invokespecial ic, 3)) (d9 : decode cc (pc + 9) = .ok (.athrow, 1))
    (hxt : ∀ x ∈ c.exceptionTable.toList, False) (hRf : 5 < R.frames) (hRl : (rest.map fun v => v.category).sum + 82 ≤ R.locals) (hRc : cells + 1 ≤ R.cells) (hRs : slots + 6 ≤ R.slots) (hlocks : meth.locks = false)
    (hPX : PX cls) (hBX : ∀ H1 : Heap, H.size ≤ H1.size → (∀ q : Nat, q < H.size → H1[q]? = H[q]?) → BX H1) (hf : ∀ q, A q → free q) (hA1 : ∀ q, A q → A1 q) (hmc : cells + 1 ≤ mc) (hms : slots + 6 ≤ ms) :
    W p l e R s m args below meth c H locs cells slots (vx_MQ below Qc (cX PX BX A1) args s mc ms free) (F0 m pc ls rest) := by
  obtain ⟨sa, hsa⟩ := kE_str hE0 (is, text) hstr
  have hfit : Bundle.fit cls = true := by rcases hc with rfl | rfl | rfl <;> decide +kernel
  have hU := hE0.2.1.narrow (B := A) hAL
  have hN := hE0.2.2.1.narrow (B := A) hAL
  exact vx_throwS (names := kSup) hexec hb hl hown hfit (by decide +kernel) hk hini hsa (vx_hat hat hot (kE_other hE0 cls hc)) hgood hU hN hS (hls.trans hml.symm) d0 d3 d4 d6 d9 (fun x hx => (hxt x hx).elim) hRf hRl hRc hRs hlocks
    (fun t hvm hz hq => ⟨⟨hPX, hBX t.heap hz hq⟩, Nat.le_trans hS.1 hz, fun q h1 h2 => by rw [hq q (Nat.lt_of_lt_of_le h1 hS.1)]; exact hS.2.1 q h1 (fun z => h2 (hA1 q z))⟩) (fun z hz => hf _ (hS.2.2 z hz)) hmc hms
end CT
end
section
/-! ===== what the crane is, in numbers: shared by the class and the reference ===== -/
def bI (b : Bool) : Int32 := if b then 1 else 0
theorem bI_nar (b : Bool) : narrow .boolean (.int (bI b)) = .int (bI b) := by cases b <;> decide +kernel
def sh (f : Nat → Int32) : Nat → Int32 := fun i => f (i + 3)
def slT (k : Nat) : Int32 := if k = 0 then 10 else if k = 1 ∨ k = 7 then 7 else if k = 2 ∨ k = 6 then 0 else if k = 3 ∨ k = 5 then -7 else -10
def slN (d side : Nat) : Int32 := slT ((d + 8 - 2 * side) % 8)
def eS (fo : Nat → Int32) (side : Nat) : Int32 := 10 * (2 + fo side)
def strS (fo : Nat → Int32) (pl : Int32) (side : Nat) (tons : Int32) (d r : Nat) : Int32 := tons * (nI r * slN d side - eS fo side) - pl * 2 * (4 * slN d side + eS fo side) - 20 * eS fo side
def safS (fo fl : Nat → Int32) (pl tons : Int32) (d r : Nat) : Bool := decide (tons ≤ fl r) && (decide (strS fo pl 0 tons d r ≤ 0) && (decide (strS fo pl 1 tons d r ≤ 0) && (decide (strS fo pl 2 tons d r ≤ 0) && decide (strS fo pl 3 tons d r ≤ 0))))
theorem safS_no {fo fl : Nat → Int32} {pl tons : Int32} {d r : Nat} (h : ¬ tons ≤ fl r) : bI (safS fo fl pl tons d r) = 0 := by simp [safS, h, bI]
theorem safS_n0 {fo fl : Nat → Int32} {pl tons : Int32} {d r : Nat} (h : ¬ strS fo pl 0 tons d r ≤ 0) : bI (safS fo fl pl tons d r) = 0 := by simp [safS, h, bI]
theorem safS_n1 {fo fl : Nat → Int32} {pl tons : Int32} {d r : Nat} (h : ¬ strS fo pl 1 tons d r ≤ 0) : bI (safS fo fl pl tons d r) = 0 := by simp [safS, h, bI]
theorem safS_n2 {fo fl : Nat → Int32} {pl tons : Int32} {d r : Nat} (h : ¬ strS fo pl 2 tons d r ≤ 0) : bI (safS fo fl pl tons d r) = 0 := by simp [safS, h, bI]
theorem safS_n3 {fo fl : Nat → Int32} {pl tons : Int32} {d r : Nat} (h : ¬ strS fo pl 3 tons d r ≤ 0) : bI (safS fo fl pl tons d r) = 0 := by simp [safS, h, bI]
theorem safS_yes {fo fl : Nat → Int32} {pl tons : Int32} {d r : Nat} (h : tons ≤ fl r) (h0 : strS fo pl 0 tons d r ≤ 0) (h1 : strS fo pl 1 tons d r ≤ 0) (h2 : strS fo pl 2 tons d r ≤ 0) (h3 : strS fo pl 3 tons d r ≤ 0) : bI (safS fo fl pl tons d r) = 1 := by simp [safS, h, h0, h1, h2, h3, bI]
theorem slx : ∀ d, d < 8 → ∀ k, k < 4 → (nI d - 2 * nI k + 8) - (nI d - 2 * nI k + 8) / 8 * 8 = nI ((d + 8 - 2 * k) % 8) := by decide +kernel
theorem sh_at {f : Nat → Int32} {r : Nat} (h : 3 ≤ r) : sh f (r - 3) = f r := by show f (r - 3 + 3) = f r; rw [Nat.sub_add_cancel h]
theorem isW_yes {v a b : Int32} (h1 : a ≤ v) (h2 : v ≤ b) : bI (decide (a ≤ v) && decide (v ≤ b)) = 1 := by simp [bI, h1, h2]
theorem isW_n1 {v a b : Int32} (h1 : ¬ a ≤ v) : bI (decide (a ≤ v) && decide (v ≤ b)) = 0 := by simp [bI, h1]
theorem isW_n2 {v a b : Int32} (h2 : ¬ v ≤ b) : bI (decide (a ≤ v) && decide (v ≤ b)) = 0 := by simp [bI, h2]
theorem i_nlt {a b : Int32} (h : ¬ a < b) : b ≤ a := Int32.not_lt.mp h
theorem i_nle {a b : Int32} (h : ¬ a ≤ b) : b < a := Int32.not_le.mp h
theorem i_ltn {a b : Int32} (h : a < b) : ¬ b ≤ a := Int32.not_le.mpr h
theorem i_len {a b : Int32} (h : a ≤ b) : ¬ b < a := Int32.not_lt.mpr h
theorem upd_sh {fl : Nat → Int32} {r : Nat} {x : Int32} (h : 3 ≤ r) : upd (sh fl) (r - 3) x = sh (upd fl r x) := by
  funext i
  show (if i = r - 3 then x else fl (i + 3)) = (if i + 3 = r then x else fl (i + 3))
  by_cases hi : i = r - 3
  · rw [if_pos hi, if_pos (by omega)]
  · rw [if_neg hi, if_neg (by omega)]
/-- an array's cell speaks of its places alone -/
theorem arr_same {D : va_G} {cl : List vw_C} {H : Heap} {q : Nat} {cI : ClassId} {n : Nat} {f g : Nat → Int32} (h : va_at D cl (q, .inl (cI, n, .inl f)) H) (hfg : ∀ i, i < n → f i = g i) : va_at D cl (q, .inl (cI, n, .inl g)) H := by
  have h1 : H[q]? = some (vp_cell cI (n, .inl f)) := h
  show H[q]? = some (vp_cell cI (n, .inl g))
  rw [h1, vp_cell_i, vp_cell_i]
  have e : (fun j : Fin n => Value.int (f j.val)) = fun j : Fin n => Value.int (g j.val) := by funext j; rw [hfg j.1 j.2]
  unfold arrV
  rw [e]
end
section
/-! the places with one count (rows fb_ct: out of kit/laws/COUNTS, a starting text) -/
def fb_ct (p : Nat → Bool) : Nat → Nat
  | 0 => 0
  | n + 1 => fb_ct p n + (if p n then 1 else 0)
theorem fb_ct_succ (p : Nat → Bool) (n : Nat) : fb_ct p (n + 1) = fb_ct p n + (if p n then 1 else 0) := rfl
theorem fb_ct_le (p : Nat → Bool) : ∀ n, fb_ct p n ≤ n
  | 0 => Nat.le_refl _
  | n + 1 => by
    have h := fb_ct_le p n
    rw [fb_ct_succ]
    split <;> omega
theorem fb_ct_step (p : Nat → Bool) (m : Nat) : ∀ n, fb_ct p m ≤ fb_ct p (m + n)
  | 0 => Nat.le_refl _
  | n + 1 => by
    have h := fb_ct_step p m n
    show fb_ct p m ≤ fb_ct p (m + n + 1)
    rw [fb_ct_succ]
    omega
theorem fb_ct_mono (p : Nat → Bool) {m n : Nat} (h : m ≤ n) : fb_ct p m ≤ fb_ct p n := by
  have := fb_ct_step p m (n - m)
  rwa [Nat.add_sub_cancel' h] at this
theorem fb_ct_cong {p q : Nat → Bool} : ∀ {n : Nat}, (∀ k, k < n → p k = q k) → fb_ct p n = fb_ct q n
  | 0, _ => rfl
  | n + 1, h => by
    rw [fb_ct_succ, fb_ct_succ, fb_ct_cong (fun k hk => h k (by omega)), h n (by omega)]
/-- one place changed -/
theorem fb_ct_out (p : Nat → Bool) (b : Bool) {i n : Nat} (h : n ≤ i) : fb_ct (fun k => if k = i then b else p k) n = fb_ct p n :=
  fb_ct_cong fun k hk => if_neg (by omega)
theorem fb_ct_upd (p : Nat → Bool) (b : Bool) {i : Nat} : ∀ {n : Nat}, i < n → fb_ct (fun k => if k = i then b else p k) n + (if p i then 1 else 0) = fb_ct p n + (if b then 1 else 0)
  | 0, h => absurd h (Nat.not_lt_zero i)
  | n + 1, h => by
    rw [fb_ct_succ, fb_ct_succ]
    rcases Nat.lt_or_ge i n with q | q
    · have := fb_ct_upd p b q
      have e : (if n = i then b else p n) = p n := if_neg (by omega)
      rw [e]
      omega
    · have e : i = n := by omega
      subst e
      rw [fb_ct_out p b (Nat.le_refl _)]
      simp only [if_true]
      omega
/-! ===== the way of the load: a search over the places, breadth first, shared by the class and the reference ===== -/
abbrev bS : Type := (Nat → Int32) × (Nat → Nat) × Nat
def updN (f : Nat → Nat) (k x : Nat) : Nat → Nat := fun j => if j = k then x else f j
def vis (sf : Nat → Nat → Bool) (far : Int32) (d r : Nat) (S : bS) : bS := if (3 ≤ r ∧ r ≤ 30) ∧ S.1 (8 * r + d) = -1 ∧ sf d r = true then (upd S.1 (8 * r + d) far, updN S.2.1 S.2.2 (8 * r + d), S.2.2 + 1) else S
def vis4 (sf : Nat → Nat → Bool) (c : Nat) (S : bS) : bS :=
  vis sf (S.1 c + 1) (c % 8) (c / 8 - 1) (vis sf (S.1 c + 1) (c % 8) (c / 8 + 1) (vis sf (S.1 c + 1) ((c % 8 + 7) % 8) (c / 8) (vis sf (S.1 c + 1) ((c % 8 + 1) % 8) (c / 8) S)))
def bfs (sf : Nat → Nat → Bool) : Nat → Nat → bS → bS
  | 0, _, S => S
  | f + 1, i, S => if i < S.2.2 then bfs sf f (i + 1) (vis4 sf (S.2.1 i) S) else S
def goS (sf : Nat → Nat → Bool) (d r : Nat) : bS := bfs sf 225 0 (vis sf 0 d r (fun _ => -1, fun _ => 0, 0))
def bInv (S : bS) : Prop := (∀ i, i < S.2.2 → 24 ≤ S.2.1 i ∧ S.2.1 i < 248 ∧ ∃ k, k ≤ i ∧ S.1 (S.2.1 i) = nI k) ∧ fb_ct (fun j => decide (S.1 (24 + j) ≠ -1)) 224 = S.2.2
theorem bInv_le {S : bS} (h : bInv S) : S.2.2 ≤ 224 := by rw [← h.2]; exact fb_ct_le _ _
theorem nI_nm1 {k : Nat} (h : k < 2 ^ 31) : nI k ≠ -1 := by
  intro e
  have h1 := nI_toInt h
  rw [e] at h1
  have h2 : (-1 : Int32).toInt = -1 := by decide
  omega
theorem vis_no {sf : Nat → Nat → Bool} {far : Int32} {d r : Nat} {S : bS} (h : ¬ ((3 ≤ r ∧ r ≤ 30) ∧ S.1 (8 * r + d) = -1 ∧ sf d r = true)) : vis sf far d r S = S := if_neg h
theorem vis_yes {sf : Nat → Nat → Bool} {far : Int32} {d r : Nat} {S : bS} (h : (3 ≤ r ∧ r ≤ 30) ∧ S.1 (8 * r + d) = -1 ∧ sf d r = true) : vis sf far d r S = (upd S.1 (8 * r + d) far, updN S.2.1 S.2.2 (8 * r + d), S.2.2 + 1) := if_pos h
theorem vis_inv {sf : Nat → Nat → Bool} {d r k : Nat} {S : bS} (h : bInv S) (hd : d < 8) (hk : k ≤ S.2.2) : bInv (vis sf (nI k) d r S) := by
  by_cases c : (3 ≤ r ∧ r ≤ 30) ∧ S.1 (8 * r + d) = -1 ∧ sf d r = true
  · rw [vis_yes c]
    obtain ⟨hr, hm, -⟩ := c
    have hn := bInv_le h
    refine ⟨fun i hi => ?_, ?_⟩
    · show 24 ≤ updN S.2.1 S.2.2 (8 * r + d) i ∧ updN S.2.1 S.2.2 (8 * r + d) i < 248 ∧ ∃ j, j ≤ i ∧ upd S.1 (8 * r + d) (nI k) (updN S.2.1 S.2.2 (8 * r + d) i) = nI j
      have hi' : i < S.2.2 + 1 := hi
      by_cases e : i = S.2.2
      · have e1 : updN S.2.1 S.2.2 (8 * r + d) i = 8 * r + d := if_pos e
        rw [e1]
        exact ⟨by omega, by omega, k, by omega, pk_us⟩
      · have e1 : updN S.2.1 S.2.2 (8 * r + d) i = S.2.1 i := if_neg e
        rw [e1]
        obtain ⟨a1, a2, j, a3, a4⟩ := h.1 i (by omega)
        refine ⟨a1, a2, j, a3, ?_⟩
        rw [pk_un]
        · exact a4
        · intro z
          rw [z, hm] at a4
          exact nI_nm1 (by omega) a4.symm
    · show fb_ct (fun j => decide (upd S.1 (8 * r + d) (nI k) (24 + j) ≠ -1)) 224 = S.2.2 + 1
      have e : (fun j => decide (upd S.1 (8 * r + d) (nI k) (24 + j) ≠ -1)) = fun j => if j = 8 * r + d - 24 then true else decide (S.1 (24 + j) ≠ -1) := by
        funext j
        by_cases z : j = 8 * r + d - 24
        · have z1 : 24 + j = 8 * r + d := by omega
          rw [if_pos z, z1, pk_us]
          exact decide_eq_true (nI_nm1 (by omega))
        · rw [if_neg z, pk_un (by omega)]
      rw [e]
      have u := fb_ct_upd (fun j => decide (S.1 (24 + j) ≠ -1)) true (i := 8 * r + d - 24) (n := 224) (by omega)
      have z1 : 24 + (8 * r + d - 24) = 8 * r + d := by omega
      rw [h.2] at u
      simp only [z1, hm, ne_eq, not_true_eq_false, decide_false, if_true] at u
      simpa using u
  · rw [vis_no c]
    exact h
theorem vis_n {sf : Nat → Nat → Bool} {far : Int32} {d r : Nat} {S : bS} : S.2.2 ≤ (vis sf far d r S).2.2 ∧ ∀ i, i < S.2.2 → (vis sf far d r S).2.1 i = S.2.1 i := by
  by_cases c : (3 ≤ r ∧ r ≤ 30) ∧ S.1 (8 * r + d) = -1 ∧ sf d r = true
  · rw [vis_yes c]
    exact ⟨Nat.le_succ _, fun i hi => if_neg (by omega)⟩
  · rw [vis_no c]
    exact ⟨Nat.le_refl _, fun _ _ => rfl⟩
/-- what the four visits of a place start from: its distance is a small number, one more than that is no more than the number found -/
theorem bInv_far {S : bS} (h : bInv S) {i : Nat} (hi : i < S.2.2) : ∃ k, k < S.2.2 ∧ S.1 (S.2.1 i) = nI k ∧ S.1 (S.2.1 i) + 1 = nI (k + 1) := by
  obtain ⟨-, -, k, h1, h2⟩ := h.1 i hi
  exact ⟨k, by omega, h2, by rw [h2]; exact nI_1 k⟩
theorem vis4_inv {sf : Nat → Nat → Bool} {S : bS} (h : bInv S) {i : Nat} (hi : i < S.2.2) : bInv (vis4 sf (S.2.1 i) S) ∧ S.2.2 ≤ (vis4 sf (S.2.1 i) S).2.2 := by
  obtain ⟨k, h1, -, h3⟩ := bInv_far h hi
  unfold vis4
  rw [h3]
  have m8 : ∀ z : Nat, z % 8 < 8 := fun z => Nat.mod_lt _ (by decide)
  have i1 := vis_inv (sf := sf) (d := (S.2.1 i % 8 + 1) % 8) (r := S.2.1 i / 8) h (m8 _) (k := k + 1) (by omega)
  have n1 := (vis_n (sf := sf) (far := nI (k + 1)) (d := (S.2.1 i % 8 + 1) % 8) (r := S.2.1 i / 8) (S := S)).1
  generalize vis sf (nI (k + 1)) ((S.2.1 i % 8 + 1) % 8) (S.2.1 i / 8) S = S1 at i1 n1 ⊢
  have i2 := vis_inv (sf := sf) (d := (S.2.1 i % 8 + 7) % 8) (r := S.2.1 i / 8) i1 (m8 _) (k := k + 1) (by omega)
  have n2 := (vis_n (sf := sf) (far := nI (k + 1)) (d := (S.2.1 i % 8 + 7) % 8) (r := S.2.1 i / 8) (S := S1)).1
  generalize vis sf (nI (k + 1)) ((S.2.1 i % 8 + 7) % 8) (S.2.1 i / 8) S1 = S2 at i2 n2 ⊢
  have i3 := vis_inv (sf := sf) (d := S.2.1 i % 8) (r := S.2.1 i / 8 + 1) i2 (m8 _) (k := k + 1) (by omega)
  have n3 := (vis_n (sf := sf) (far := nI (k + 1)) (d := S.2.1 i % 8) (r := S.2.1 i / 8 + 1) (S := S2)).1
  generalize vis sf (nI (k + 1)) (S.2.1 i % 8) (S.2.1 i / 8 + 1) S2 = S3 at i3 n3 ⊢
  have i4 := vis_inv (sf := sf) (d := S.2.1 i % 8) (r := S.2.1 i / 8 - 1) i3 (m8 _) (k := k + 1) (by omega)
  have n4 := (vis_n (sf := sf) (far := nI (k + 1)) (d := S.2.1 i % 8) (r := S.2.1 i / 8 - 1) (S := S3)).1
  exact ⟨i4, by omega⟩
theorem b0_inv : bInv ((fun _ => -1, fun _ => 0, 0) : bS) := by
  refine ⟨fun i hi => absurd hi (Nat.not_lt_zero i), ?_⟩
  show fb_ct (fun _ => decide ((-1 : Int32) ≠ -1)) 224 = 0
  decide +kernel
theorem bfs_stop {sf : Nat → Nat → Bool} {f i : Nat} {S : bS} (h : ¬ i < S.2.2) : bfs sf f i S = S := by
  cases f with
  | zero => rfl
  | succ f => exact if_neg h
theorem bfs_go {sf : Nat → Nat → Bool} {f i : Nat} {S : bS} (h : i < S.2.2) : bfs sf (f + 1) i S = bfs sf f (i + 1) (vis4 sf (S.2.1 i) S) := if_pos h
theorem bfs_inv {sf : Nat → Nat → Bool} : ∀ {f i : Nat} {S : bS}, bInv S → bInv (bfs sf f i S)
  | 0, _, _, h => h
  | f + 1, i, S, h => by
    by_cases c : i < S.2.2
    · rw [bfs_go c]
      exact bfs_inv (vis4_inv h c).1
    · rw [bfs_stop c]
      exact h
theorem goS_inv {sf : Nat → Nat → Bool} {d r : Nat} (hd : d < 8) : bInv (goS sf d r) := bfs_inv (vis_inv (k := 0) b0_inv hd (Nat.zero_le _))
/-- the number of a place, in the class -/
def plc (d r : Nat) : Nat := d * 28 + (r - 3)
/-- the class' two rows against the search -/
def bC (S : bS) (fm ff : Nat → Int32) : Prop := (∀ d r, d < 8 → 3 ≤ r → r ≤ 30 → fm (plc d r) = S.1 (8 * r + d)) ∧ ∀ i, i < S.2.2 → ff i = nI (plc (S.2.1 i % 8) (S.2.1 i / 8))
theorem plc_lt {d r : Nat} (hd : d < 8) (hr : 3 ≤ r ∧ r ≤ 30) : plc d r < 224 := by unfold plc; omega
theorem plc_inj {d r d2 r2 : Nat} (hr : 3 ≤ r ∧ r ≤ 30) (hr2 : 3 ≤ r2 ∧ r2 ≤ 30) (h : plc d r = plc d2 r2) : d = d2 ∧ r = r2 := by unfold plc at h; omega
theorem bC_vis {sf : Nat → Nat → Bool} {far : Int32} {d r : Nat} {S : bS} {fm ff : Nat → Int32} (h : bC S fm ff) (hd : d < 8) (c : (3 ≤ r ∧ r ≤ 30) ∧ S.1 (8 * r + d) = -1 ∧ sf d r = true) : bC (vis sf far d r S) (upd fm (plc d r) far) (upd ff S.2.2 (nI (plc d r))) := by
  rw [vis_yes c]
  obtain ⟨hr, -, -⟩ := c
  refine ⟨fun d2 r2 hd2 h1 h2 => ?_, fun i hi => ?_⟩
  · show upd fm (plc d r) far (plc d2 r2) = upd S.1 (8 * r + d) far (8 * r2 + d2)
    by_cases e : plc d2 r2 = plc d r
    · obtain ⟨rfl, rfl⟩ := plc_inj ⟨h1, h2⟩ hr e
      rw [pk_us, pk_us]
    · rw [pk_un e, pk_un]
      · exact h.1 d2 r2 hd2 h1 h2
      · intro z
        have : d2 = d ∧ r2 = r := by omega
        rw [this.1, this.2] at e
        exact e rfl
  · have hi' : i < S.2.2 + 1 := hi
    show upd ff S.2.2 (nI (plc d r)) i = nI (plc (updN S.2.1 S.2.2 (8 * r + d) i % 8) (updN S.2.1 S.2.2 (8 * r + d) i / 8))
    by_cases e : i = S.2.2
    · have e1 : updN S.2.1 S.2.2 (8 * r + d) i = 8 * r + d := if_pos e
      rw [e1, e, pk_us]
      congr 2 <;> omega
    · have e1 : updN S.2.1 S.2.2 (8 * r + d) i = S.2.1 i := if_neg e
      rw [e1, pk_un e]
      exact h.2 i (by omega)
/-- the reference's two rows against the search -/
def bM (S : bS) (fa fq : Nat → Int32) : Prop := (∀ c, c < 248 → fa c = S.1 c) ∧ ∀ i, i < S.2.2 → fq i = nI (S.2.1 i)
theorem bM_vis {sf : Nat → Nat → Bool} {far : Int32} {d r : Nat} {S : bS} {fa fq : Nat → Int32} (h : bM S fa fq) (c : (3 ≤ r ∧ r ≤ 30) ∧ S.1 (8 * r + d) = -1 ∧ sf d r = true) : bM (vis sf far d r S) (upd fa (8 * r + d) far) (upd fq S.2.2 (nI (8 * r + d))) := by
  rw [vis_yes c]
  refine ⟨fun z hz => ?_, fun i hi => ?_⟩
  · show upd fa (8 * r + d) far z = upd S.1 (8 * r + d) far z
    by_cases e : z = 8 * r + d
    · rw [e, pk_us, pk_us]
    · rw [pk_un e, pk_un e]
      exact h.1 z hz
  · have hi' : i < S.2.2 + 1 := hi
    show upd fq S.2.2 (nI (8 * r + d)) i = nI (updN S.2.1 S.2.2 (8 * r + d) i)
    by_cases e : i = S.2.2
    · have e1 : updN S.2.1 S.2.2 (8 * r + d) i = 8 * r + d := if_pos e
      rw [e1, e, pk_us]
    · have e1 : updN S.2.1 S.2.2 (8 * r + d) i = S.2.1 i := if_neg e
      rw [e1, pk_un e]
      exact h.2 i (by omega)
theorem bInv_room {S : bS} (h : bInv S) {c : Nat} (hc : 24 ≤ c ∧ c < 248) (hm : S.1 c = -1) : S.2.2 < 224 := by
  have u := fb_ct_upd (fun j => decide (S.1 (24 + j) ≠ -1)) true (i := c - 24) (n := 224) (by omega)
  have l := fb_ct_le (fun k => if k = c - 24 then true else (fun j => decide (S.1 (24 + j) ≠ -1)) k) 224
  have z1 : 24 + (c - 24) = c := by omega
  rw [h.2] at u
  simp only [z1, hm, ne_eq, not_true_eq_false, decide_false, if_true] at u
  simp only [Bool.false_eq_true, if_false] at u
  simp only [ne_eq] at l
  omega
theorem isR_yes {r : Nat} (h : 3 ≤ r ∧ r ≤ 30) : bI (decide (3 ≤ nI r) && decide (nI r ≤ 30)) = 1 := isW_yes (nI_le (a := 3) h.1 (by omega)) (nI_le (b := 30) h.2 (by decide))
theorem isR_no {r : Nat} (hr : r < 100) (h : ¬ (3 ≤ r ∧ r ≤ 30)) : bI (decide (3 ≤ nI r) && decide (nI r ≤ 30)) = 0 := by
  rcases Nat.lt_or_ge r 3 with z | z
  · exact isW_n1 (nI_ge (b := 3) z (by decide))
  · exact isW_n2 (nI_ge (a := 30) (by omega) (by omega))
theorem plc_i {d r : Nat} (hd : d < 8) (hr : 3 ≤ r ∧ r ≤ 30) : nI d * 28 + nI r - 3 = nI (plc d r) := by
  have h1 : nI d * 28 = nI (d * 28) := pk_mul d 28
  rw [h1, nI_add]
  have h2 : nI (d * 28 + r) - 3 = nI (d * 28 + r - 3) := pk_sub (b := 3) (by omega)
  rw [h2]
  congr 1
  unfold plc
  omega
theorem plc_d {d r : Nat} (hd : d < 8) (hr : 3 ≤ r ∧ r ≤ 30) : nI (plc d r) / 28 = nI d := by
  have h := plc_lt hd hr
  have h1 : nI (plc d r) / 28 = nI (plc d r / 28) := pk_div (d := 28) (by omega) (by decide) (by decide)
  rw [h1]
  congr 1
  unfold plc
  omega
theorem plc_r {d r : Nat} (hd : d < 8) (hr : 3 ≤ r ∧ r ≤ 30) : nI (plc d r) - nI (plc d r) / 28 * 28 + 3 = nI r := by
  have h := plc_lt hd hr
  have h1 : nI (plc d r) - nI (plc d r) / 28 * 28 = nI (plc d r % 28) := pk_rem (d := 28) (by omega) (by decide) (by decide)
  rw [h1]
  have h2 : nI (plc d r % 28) + 3 = nI (plc d r % 28 + 3) := nI_add _ 3
  rw [h2]
  congr 1
  unfold plc
  omega
end
section
/-! ===== what each call answers, and how it leaves the crane: shared by the class and the reference ===== -/
def swX (cw : Bool) (d : Nat) : Nat := if cw then (d + 1) % 8 else (d + 7) % 8
theorem swX_lt {cw : Bool} {d : Nat} : swX cw d < 8 := by unfold swX; split <;> exact Nat.mod_lt _ (by decide)
def stX (ou : Bool) (r : Nat) : Nat := if ou then r + 1 else r - 1
def swN (sf : Nat → Bool) (cw : Bool) : Nat → Nat → Nat × Nat
  | 0, d => (0, d)
  | n + 1, d => if sf (swX cw d) = true then ((swN sf cw n (swX cw d)).1 + 1, (swN sf cw n (swX cw d)).2) else (0, d)
def stN (sf : Nat → Bool) (ou : Bool) : Nat → Nat → Nat × Nat
  | 0, r => (0, r)
  | n + 1, r => if (3 ≤ (stX ou r) ∧ (stX ou r) ≤ 30) ∧ sf (stX ou r) = true then ((stN sf ou n (stX ou r)).1 + 1, (stN sf ou n (stX ou r)).2) else (0, r)
def grN (sf : Nat → Bool) : Nat → Nat
  | 0 => 0
  | n + 1 => if sf (n + 1) = true then n + 1 else grN sf n
def faN (sf : Nat → Bool) : Nat → Nat → Nat
  | 0, r => r
  | n + 1, r => if sf r = true then faN sf n (r + 1) else r
def faI (r0 : Nat) : Int32 := if r0 = 3 then -1 else nI (r0 - 1)
def pnN (sf : Nat → Bool) : Nat → Nat → Int32
  | 0, _ => -1
  | n + 1, k => if sf k = true then nI k else pnN sf n (k + 1)
def wkN (st : Nat → Int32) : Nat → Nat
  | 0 => 0
  | k + 1 => if k = 0 then 0 else if st (wkN st k) < st k then k else wkN st k
def boN (can : Nat → Bool) (own : Nat → Int32) : Nat → Int32 × Int32
  | 0 => (-1, -1)
  | k + 1 => if can k = true then (if (boN can own k).2 < own k then (nI k, own k) else boN can own k) else boN can own k
def mxL (d : Int64) (x : Int32) : Int64 := d * 31 + x.toInt64
def dgR (f g : Nat → Int32) : Nat → Nat → Int64 → Int64
  | 0, _, d => d
  | n + 1, r, d => dgR f g n (r + 1) (mxL (mxL d (f r)) (g r))
theorem swN_le {sf : Nat → Bool} {cw : Bool} : ∀ {n d : Nat}, (swN sf cw n d).1 ≤ n
  | 0, _ => Nat.le_refl _
  | n + 1, d => by
    rw [swN]
    split
    · exact Nat.succ_le_succ swN_le
    · exact Nat.zero_le _
theorem swN_lt {sf : Nat → Bool} {cw : Bool} : ∀ {n d : Nat}, d < 8 → (swN sf cw n d).2 < 8
  | 0, _, h => h
  | n + 1, d, h => by
    rw [swN]
    split
    · exact swN_lt swX_lt
    · exact h
theorem stN_le {sf : Nat → Bool} {ou : Bool} : ∀ {n r : Nat}, (stN sf ou n r).1 ≤ n
  | 0, _ => Nat.le_refl _
  | n + 1, r => by
    rw [stN]
    split
    · exact Nat.succ_le_succ stN_le
    · exact Nat.zero_le _
theorem stN_in {sf : Nat → Bool} {ou : Bool} : ∀ {n r : Nat}, 3 ≤ r ∧ r ≤ 30 → 3 ≤ (stN sf ou n r).2 ∧ (stN sf ou n r).2 ≤ 30
  | 0, _, h => h
  | n + 1, r, h => by
    rw [stN]
    split
    · rename_i c
      exact stN_in c.1
    · exact h
theorem swN_safe {sf : Nat → Bool} {cw : Bool} : ∀ {n d : Nat}, sf d = true → sf (swN sf cw n d).2 = true
  | 0, _, h => h
  | n + 1, d, h => by
    rw [swN]
    split
    · rename_i c
      exact swN_safe c
    · exact h
theorem stN_safe {sf : Nat → Bool} {ou : Bool} : ∀ {n r : Nat}, sf r = true → sf (stN sf ou n r).2 = true
  | 0, _, h => h
  | n + 1, r, h => by
    rw [stN]
    split
    · rename_i c
      exact stN_safe c.2
    · exact h
theorem grN_le {sf : Nat → Bool} : ∀ n, grN sf n ≤ n
  | 0 => Nat.le_refl _
  | n + 1 => by
    rw [grN]
    split
    · exact Nat.le_refl _
    · exact Nat.le_succ_of_le (grN_le n)
theorem wkN_lt {st : Nat → Int32} : ∀ {k n : Nat}, k ≤ n → 0 < n → wkN st k < n
  | 0, _, _, h => h
  | k + 1, n, h, h0 => by
    rw [wkN]
    split
    · exact h0
    · split
      · omega
      · exact wkN_lt (by omega) h0
/-- codes: 0 it returns; else which exception, by its place in the law -/
def kSP (sf : Int32 → Bool) (p : Int32) : Int32 := if 0 ≤ p ∧ p ≤ 12 then (if sf p = true then 0 else 2) else 1
def kSO (ld : Int32) (sf : Nat → Int32 → Bool) (p q : Int32) : Int32 := if 0 ≤ p ∧ p ≤ 3 then (if 0 ≤ q ∧ q ≤ 6 then (if ld = 0 ∧ sf p.toNatClampNeg q = true then 0 else 3) else 2) else 1
def kSL (sf : Nat → Int32 → Bool) (p q : Int32) : Int32 := if (3 ≤ p ∧ p ≤ 30) ∧ (0 ≤ q ∧ q ≤ 60) then (if sf p.toNatClampNeg q = true then 0 else 2) else 1
def kLi (ld : Int32) (sf : Int32 → Bool) (p : Int32) : Int32 := if 1 ≤ p ∧ p ≤ 60 then (if ¬ 0 < ld ∧ sf p = true then 0 else 2) else 1
def kSD (ld : Int32) (sf : Int32 → Bool) : Int32 := if ¬ ld = 0 ∧ sf 0 = true then 0 else 1
/-- one test, one exception -/
def k1 (P : Prop) [Decidable P] : Int32 := if P then 0 else 1
/-- two tests in a row -/
def k2 (P Q : Prop) [Decidable P] [Decidable Q] : Int32 := if P then (if Q then 0 else 2) else 1
theorem k1_yes {P : Prop} [Decidable P] (h : P) : k1 P = 0 := if_pos h
theorem k1_no {P : Prop} [Decidable P] (h : ¬ P) : k1 P = 1 := if_neg h
theorem k1_0 {P : Prop} [Decidable P] (h : k1 P = 0) : P := by
  by_cases p : P
  · exact p
  · rw [k1_no p] at h; exact absurd h (by decide)
theorem k2_yes {P Q : Prop} [Decidable P] [Decidable Q] (h : P) (h2 : Q) : k2 P Q = 0 := by rw [k2, if_pos h, if_pos h2]
theorem k2_n1 {P Q : Prop} [Decidable P] [Decidable Q] (h : ¬ P) : k2 P Q = 1 := if_neg h
theorem k2_n2 {P Q : Prop} [Decidable P] [Decidable Q] (h : P) (h2 : ¬ Q) : k2 P Q = 2 := by rw [k2, if_pos h, if_neg h2]
theorem k2_0 {P Q : Prop} [Decidable P] [Decidable Q] (h : k2 P Q = 0) : P ∧ Q := by
  by_cases p : P
  · by_cases q : Q
    · exact ⟨p, q⟩
    · rw [k2_n2 p q] at h; exact absurd h (by decide)
  · rw [k2_n1 p] at h; exact absurd h (by decide)
abbrev inR (v a b : Int32) : Prop := a ≤ v ∧ v ≤ b
theorem inR_nI {v : Int32} {n : Nat} (hn : n < 2 ^ 31) (h : inR v 0 (nI n)) : ∃ k, k ≤ n ∧ v = nI k := by
  have h0 : ¬ v < 0 := i_len h.1
  exact nI_of2 (nI_toInt hn) h0 h.2
theorem inR_n3 {v : Int32} {n : Nat} (hn : n < 2 ^ 31) (h : inR v 3 (nI n)) : ∃ k, (3 ≤ k ∧ k ≤ n) ∧ v = nI k := by
  have h3 : (3 : Int32) ≤ v := h.1
  have h0 : ¬ v < 0 := by
    intro z
    have h4 := Int32.lt_of_lt_of_le z (show (0 : Int32) ≤ 3 by decide)
    exact absurd h3 (i_ltn h4)
  obtain ⟨k, hk, rfl⟩ := nI_of2 (nI_toInt hn) h0 h.2
  refine ⟨k, ⟨?_, hk⟩, rfl⟩
  rcases Nat.lt_or_ge k 3 with z | z
  · exact absurd h3 (nI_ge (b := 3) z (by decide))
  · exact z
theorem inR_n1 {v : Int32} {n : Nat} (hn : n < 2 ^ 31) (h : inR v 1 (nI n)) : ∃ k, (1 ≤ k ∧ k ≤ n) ∧ v = nI k := by
  have h3 : (1 : Int32) ≤ v := h.1
  have h0 : ¬ v < 0 := by
    intro z
    have h4 := Int32.lt_of_lt_of_le z (show (0 : Int32) ≤ 1 by decide)
    exact absurd h3 (i_ltn h4)
  obtain ⟨k, hk, rfl⟩ := nI_of2 (nI_toInt hn) h0 h.2
  refine ⟨k, ⟨?_, hk⟩, rfl⟩
  rcases Nat.lt_or_ge k 1 with z | z
  · exact absurd h3 (nI_ge (b := 1) z (by decide))
  · exact z
end
section
set_option maxHeartbeats 4000000 in
set_option maxRecDepth 100000 in
/-- slant(to, side) -/
theorem k_slant (l : Launch) (D : va_G) (L0 : Nat) (d k : Nat) (hd : d < 8) (hk : k < 4) : Met l yX1_slant wsX1_slant ({ frames := 0, cells := 0, slots := 0, locals := 0 }) (cP L0 D [] [] [.int (nI d), .int (nI k)]) (cR (some (.int (slN d k)))) 0 0 (fun _ => False) := by
  refine Met.ofW (cc := cX1_slant) (maxL := 2) (ret := (some .int)) (by decide) rfl ?_
  intro p e s m args below meth c s₁ B hml hv
  obtain ⟨rfl, hP, hK, hD0, hE0⟩ := hv
  have hx := B.exec
  have hb := B.bytes
  have hRt := B.returns
  have hts := atoms_spec (ws := wsX1_slant) B.pre
  have hown : s.vm.findClass RX1 = some m.cls := findClass_of_methodNamed B.named
  have hlocks := B.notSynchronized
  have hAL : ∀ z9 : Nat, (fun _ : Nat => False) z9 → L0 ≤ z9 := fun z9 h9 => False.elim h9
  generalize hAe : (fun _ : Nat => False) = A at hAL ⊢
  have hS : va_S A s.heap s.heap [] := va_S.rf
  have hl := lv_entry ([.int (nI d), .int (nI k)]) (n := 2) (Nat.le_of_ble_eq_true rfl)
  rw [lg_entry_eq]
  generalize (lg_sl ([.int (nI d), .int (nI k)]) ++ List.replicate (2 - (lg_sl ([.int (nI d), .int (nI k)])).length) Slot.unset).toArray = ls at hl ⊢
  have hl : lv_has ls 2 [(0, .int (nI d)), (1, .int (nI k))] := hl
  refine lv_iload_n hx hb dX1_slant_0 rfl (lv_at hl 0 rfl) ?_
  refine lv_iconst (v := 2) hx hb dX1_slant_1 (by decide) ?_
  refine lv_iload_n hx hb dX1_slant_2 rfl (lv_at hl 1 rfl) ?_
  refine lv_imul hx hb dX1_slant_3 ?_
  refine lv_isub hx hb dX1_slant_4 ?_
  refine lv_bipush (v := 8) hx hb dX1_slant_5 (by decide) ?_
  refine lv_iadd hx hb dX1_slant_7 ?_
  refine lv_bipush (v := 8) hx hb dX1_slant_8 (by decide) ?_
  refine lv_irem hx hb dX1_slant_10 (by decide) ?_
  refine c_top (show (((nI d) - (2 * (nI k))) + 8) - (((nI d) - (2 * (nI k))) + 8) / 8 * 8 = nI ((d + 8 - 2 * k) % 8) from slx d hd k hk) ?_
  have hj : (d + 8 - 2 * k) % 8 < 8 := Nat.mod_lt _ (by decide)
  show W _ _ _ _ _ _ _ _ _ _ _ _ _ _ (MQ below (cR (some (.int (slT ((d + 8 - 2 * k) % 8))))) _ s 0 0 _) _
  generalize (d + 8 - 2 * k) % 8 = j at hj ⊢
  rcases (show j = 0 ∨ j = 1 ∨ j = 2 ∨ j = 3 ∨ j = 4 ∨ j = 5 ∨ j = 6 ∨ j = 7 by omega) with rfl | rfl | rfl | rfl | rfl | rfl | rfl | rfl
  · refine lv_tableIn (off := 45) (tgt := 56) hx hb dX1_slant_11 (by decide) (by decide) (by decide) (by decide) ?_
    refine lv_bipush (v := 10) hx hb dX1_slant_56 (by decide) ?_
    exact W.iret (v := 10) hx hb hRt (fun t ht hW => ⟨rfl, ht⟩) hS.2.2 dX1_slant_58
  · refine lv_tableIn (off := 48) (tgt := 59) hx hb dX1_slant_11 (by decide) (by decide) (by decide) (by decide) ?_
    refine lv_bipush (v := 7) hx hb dX1_slant_59 (by decide) ?_
    exact W.iret (v := 7) hx hb hRt (fun t ht hW => ⟨rfl, ht⟩) hS.2.2 dX1_slant_61
  · refine lv_tableIn (off := 51) (tgt := 62) hx hb dX1_slant_11 (by decide) (by decide) (by decide) (by decide) ?_
    refine lv_iconst (v := 0) hx hb dX1_slant_62 (by decide) ?_
    exact W.iret (v := 0) hx hb hRt (fun t ht hW => ⟨rfl, ht⟩) hS.2.2 dX1_slant_63
  · refine lv_tableIn (off := 53) (tgt := 64) hx hb dX1_slant_11 (by decide) (by decide) (by decide) (by decide) ?_
    refine lv_bipush (v := -7) hx hb dX1_slant_64 (by decide) ?_
    exact W.iret (v := (-7)) hx hb hRt (fun t ht hW => ⟨rfl, ht⟩) hS.2.2 dX1_slant_66
  · refine lv_tableIn (off := 56) (tgt := 67) hx hb dX1_slant_11 (by decide) (by decide) (by decide) (by decide) ?_
    refine lv_bipush (v := -10) hx hb dX1_slant_67 (by decide) ?_
    exact W.iret (v := (-10)) hx hb hRt (fun t ht hW => ⟨rfl, ht⟩) hS.2.2 dX1_slant_69
  · refine lv_tableIn (off := 53) (tgt := 64) hx hb dX1_slant_11 (by decide) (by decide) (by decide) (by decide) ?_
    refine lv_bipush (v := -7) hx hb dX1_slant_64 (by decide) ?_
    exact W.iret (v := (-7)) hx hb hRt (fun t ht hW => ⟨rfl, ht⟩) hS.2.2 dX1_slant_66
  · refine lv_tableIn (off := 51) (tgt := 62) hx hb dX1_slant_11 (by decide) (by decide) (by decide) (by decide) ?_
    refine lv_iconst (v := 0) hx hb dX1_slant_62 (by decide) ?_
    exact W.iret (v := 0) hx hb hRt (fun t ht hW => ⟨rfl, ht⟩) hS.2.2 dX1_slant_63
  · refine lv_tableIn (off := 48) (tgt := 59) hx hb dX1_slant_11 (by decide) (by decide) (by decide) (by decide) ?_
    refine lv_bipush (v := 7) hx hb dX1_slant_59 (by decide) ?_
    exact W.iret (v := 7) hx hb hRt (fun t ht hW => ⟨rfl, ht⟩) hS.2.2 dX1_slant_61
set_option maxHeartbeats 4000000 in
set_option maxRecDepth 100000 in
/-- drawn(side) -/
theorem k_drawn (l : Launch) (D : va_G) (L0 : Nat) (cI : ClassId) (h o q : Nat) (pl : Int32) (fo fl : Nat → Int32) (k : Nat) (hk : k < 4) : Met l yX1_drawn wsX1_drawn ({ frames := 0, cells := 0, slots := 0, locals := 0 }) (cP L0 D [(cI, .int)] [(h, .inr (1, [.ref o, .ref q, .int pl])), (o, .inl (cI, 4, .inl fo)), (q, .inl (cI, 28, .inl fl))] [.ref h, .int (nI k)]) (cR (some (.int (fo k)))) 0 0 (fun _ => False) := by
  refine Met.ofW (cc := cX1_drawn) (maxL := 2) (ret := (some .int)) (by decide) rfl ?_
  intro p e s m args below meth c s₁ B hml hv
  obtain ⟨rfl, hP, hK, hD0, hE0⟩ := hv
  have hx := B.exec
  have hb := B.bytes
  have hRt := B.returns
  have hts := atoms_spec (ws := wsX1_drawn) B.pre
  have hown : s.vm.findClass RX1 = some m.cls := findClass_of_methodNamed B.named
  have hlocks := B.notSynchronized
  have hAL : ∀ z9 : Nat, (fun _ : Nat => False) z9 → L0 ≤ z9 := fun z9 h9 => False.elim h9
  generalize hAe : (fun _ : Nat => False) = A at hAL ⊢
  have hS : va_S A s.heap s.heap [] := va_S.rf
  have hiX1 : ∀ w ∈ u_ws RX1 TX1 3, w ∈ wsX1_drawn := by decide +kernel
  have hl := lv_entry ([.ref h, .int (nI k)]) (n := 2) (Nat.le_of_ble_eq_true rfl)
  rw [lg_entry_eq]
  generalize (lg_sl ([.ref h, .int (nI k)]) ++ List.replicate (2 - (lg_sl ([.ref h, .int (nI k)])).length) Slot.unset).toArray = ls at hl ⊢
  have hl : lv_has ls 2 [(0, .ref h), (1, .int (nI k))] := hl
  refine lv_iload_n hx hb dX1_drawn_0 rfl (lv_at hl 1 rfl) ?_
  refine lv_if_lt (tgt := 22) hx hb dX1_drawn_1 (by decide) (fun c_1 => absurd c_1 (nI_pos (by omega))) (fun _ => ?_)
  refine lv_iload_n hx hb dX1_drawn_4 rfl (lv_at hl 1 rfl) ?_
  refine lv_aload_n hx hb dX1_drawn_5 rfl (lv_at hl 0 rfl) ?_
  refine va_get (D := D) (ci := 1) (v := .ref o) (C := RX1) (T := TX1) (N := 3) hx hb hts hiX1 hown hK hP 0 rfl rfl 0 (by decide) (hts (.fieldLink RX1 9 "CraneReach$Rig" "outs" "[I") (by decide +kernel)) (fun _ h9 => h9) rfl dX1_drawn_6 ?_
  refine va_alen hx hb hK hP 1 0 rfl rfl (v := 4) rfl dX1_drawn_9 ?_
  refine lv_icmp_ge (tgt := 22) hx hb dX1_drawn_10 (by decide) (fun c_2 => absurd c_2 (nI_ge (b := 4) hk (by decide))) (fun _ => ?_)
  refine lv_aload_n hx hb dX1_drawn_13 rfl (lv_at hl 0 rfl) ?_
  refine va_get (D := D) (ci := 1) (v := .ref o) (C := RX1) (T := TX1) (N := 3) hx hb hts hiX1 hown hK hP 0 rfl rfl 0 (by decide) (hts (.fieldLink RX1 9 "CraneReach$Rig" "outs" "[I") (by decide +kernel)) (fun _ h9 => h9) rfl dX1_drawn_14 ?_
  refine lv_iload_n hx hb dX1_drawn_17 rfl (lv_at hl 1 rfl) ?_
  refine va_iald hx hb hK hP 1 0 rfl rfl (vp_in_nI hk (by decide)) dX1_drawn_18 ?_
  refine c_top (show fo (nI k).toNatClampNeg = fo k from by rw [nI_clamp (by omega)]) ?_
  refine lv_goto (tgt := 23) hx hb dX1_drawn_19 (by decide) ?_
  exact W.iret (v := (fo k)) hx hb hRt (fun t ht hW => ⟨rfl, ht⟩) hS.2.2 dX1_drawn_23
set_option maxHeartbeats 4000000 in
set_option maxRecDepth 100000 in
/-- allowed(metres) -/
theorem k_allowed (l : Launch) (D : va_G) (L0 : Nat) (cI : ClassId) (h o q : Nat) (pl : Int32) (fo fl : Nat → Int32) (r : Nat) (hr : 3 ≤ r ∧ r ≤ 30) : Met l yX1_allowed wsX1_allowed ({ frames := 0, cells := 0, slots := 0, locals := 0 }) (cP L0 D [(cI, .int)] [(h, .inr (1, [.ref o, .ref q, .int pl])), (o, .inl (cI, 4, .inl fo)), (q, .inl (cI, 28, .inl fl))] [.ref h, .int (nI r)]) (cR (some (.int (fl (r - 3))))) 0 0 (fun _ => False) := by
  refine Met.ofW (cc := cX1_allowed) (maxL := 3) (ret := (some .int)) (by decide) rfl ?_
  intro p e s m args below meth c s₁ B hml hv
  obtain ⟨rfl, hP, hK, hD0, hE0⟩ := hv
  have hx := B.exec
  have hb := B.bytes
  have hRt := B.returns
  have hts := atoms_spec (ws := wsX1_allowed) B.pre
  have hown : s.vm.findClass RX1 = some m.cls := findClass_of_methodNamed B.named
  have hlocks := B.notSynchronized
  have hAL : ∀ z9 : Nat, (fun _ : Nat => False) z9 → L0 ≤ z9 := fun z9 h9 => False.elim h9
  generalize hAe : (fun _ : Nat => False) = A at hAL ⊢
  have hS : va_S A s.heap s.heap [] := va_S.rf
  have hiX1 : ∀ w ∈ u_ws RX1 TX1 3, w ∈ wsX1_allowed := by decide +kernel
  have hl := lv_entry ([.ref h, .int (nI r)]) (n := 3) (Nat.le_of_ble_eq_true rfl)
  rw [lg_entry_eq]
  generalize (lg_sl ([.ref h, .int (nI r)]) ++ List.replicate (3 - (lg_sl ([.ref h, .int (nI r)])).length) Slot.unset).toArray = ls at hl ⊢
  have hl : lv_has ls 3 [(0, .ref h), (1, .int (nI r))] := hl
  refine lv_iload_n hx hb dX1_allowed_0 rfl (lv_at hl 1 rfl) ?_
  refine lv_iconst (v := 3) hx hb dX1_allowed_1 (by decide) ?_
  refine lv_isub hx hb dX1_allowed_2 ?_
  refine c_top (show (nI r) - 3 = nI (r - 3) from pk_sub hr.1) ?_
  refine lv_istore_n (lv' := [(2, .int (nI (r - 3))), (0, .ref h), (1, .int (nI r))]) hx hb dX1_allowed_3 rfl hl (by decide) rfl (fun ls hl => ?_)
  refine lv_iload_n hx hb dX1_allowed_4 rfl (lv_at hl 0 rfl) ?_
  refine lv_if_lt (tgt := 26) hx hb dX1_allowed_5 (by decide) (fun c_3 => absurd c_3 (nI_pos (by omega))) (fun _ => ?_)
  refine lv_iload_n hx hb dX1_allowed_8 rfl (lv_at hl 0 rfl) ?_
  refine lv_aload_n hx hb dX1_allowed_9 rfl (lv_at hl 1 rfl) ?_
  refine va_get (D := D) (ci := 1) (v := .ref q) (C := RX1) (T := TX1) (N := 3) hx hb hts hiX1 hown hK hP 0 rfl rfl 1 (by decide) (hts (.fieldLink RX1 15 "CraneReach$Rig" "limits" "[I") (by decide +kernel)) (fun _ h9 => h9) rfl dX1_allowed_10 ?_
  refine va_alen hx hb hK hP 2 0 rfl rfl (v := 28) rfl dX1_allowed_13 ?_
  refine lv_icmp_ge (tgt := 26) hx hb dX1_allowed_14 (by decide) (fun c_4 => absurd c_4 (nI_ge (b := 28) (by omega) (by decide))) (fun _ => ?_)
  refine lv_aload_n hx hb dX1_allowed_17 rfl (lv_at hl 1 rfl) ?_
  refine va_get (D := D) (ci := 1) (v := .ref q) (C := RX1) (T := TX1) (N := 3) hx hb hts hiX1 hown hK hP 0 rfl rfl 1 (by decide) (hts (.fieldLink RX1 15 "CraneReach$Rig" "limits" "[I") (by decide +kernel)) (fun _ h9 => h9) rfl dX1_allowed_18 ?_
  refine lv_iload_n hx hb dX1_allowed_21 rfl (lv_at hl 0 rfl) ?_
  refine va_iald hx hb hK hP 2 0 rfl rfl (vp_in_nI (by omega) (by decide)) dX1_allowed_22 ?_
  refine c_top (show fl (nI (r - 3)).toNatClampNeg = fl (r - 3) from by rw [nI_clamp (by omega)]) ?_
  refine lv_goto (tgt := 27) hx hb dX1_allowed_23 (by decide) ?_
  exact W.iret (v := (fl (r - 3))) hx hb hRt (fun t ht hW => ⟨rfl, ht⟩) hS.2.2 dX1_allowed_27
set_option maxHeartbeats 4000000 in
set_option maxRecDepth 100000 in
/-- strain(side, tons, to, metres) -/
theorem k_strain (l : Launch) (D : va_G) (L0 : Nat) (cI : ClassId) (h o q : Nat) (pl : Int32) (fo fl : Nat → Int32) (k d r : Nat) (tons : Int32) (hk : k < 4) (hd : d < 8) : Met l yX1_strain wsX1_strain ({ frames := 1, cells := 0, slots := 0, locals := 21 }) (cP L0 D [(cI, .int)] [(h, .inr (1, [.ref o, .ref q, .int pl])), (o, .inl (cI, 4, .inl fo)), (q, .inl (cI, 28, .inl fl))] [.ref h, .int (nI k), .int tons, .int (nI d), .int (nI r)]) (cR (some (.int (strS fo pl k tons d r)))) 0 0 (fun _ => False) := by
  refine Met.ofW (cc := cX1_strain) (maxL := 7) (ret := (some .int)) (by decide) rfl ?_
  intro p e s m args below meth c s₁ B hml hv
  obtain ⟨rfl, hP, hK, hD0, hE0⟩ := hv
  have hx := B.exec
  have hb := B.bytes
  have hRt := B.returns
  have hts := atoms_spec (ws := wsX1_strain) B.pre
  have hown : s.vm.findClass RX1 = some m.cls := findClass_of_methodNamed B.named
  have hlocks := B.notSynchronized
  have hAL : ∀ z9 : Nat, (fun _ : Nat => False) z9 → L0 ≤ z9 := fun z9 h9 => False.elim h9
  generalize hAe : (fun _ : Nat => False) = A at hAL ⊢
  have hS : va_S A s.heap s.heap [] := va_S.rf
  have hiX1 : ∀ w ∈ u_ws RX1 TX1 3, w ∈ wsX1_strain := by decide +kernel
  have hl := lv_entry ([.ref h, .int (nI k), .int tons, .int (nI d), .int (nI r)]) (n := 7) (Nat.le_of_ble_eq_true rfl)
  rw [lg_entry_eq]
  generalize (lg_sl ([.ref h, .int (nI k), .int tons, .int (nI d), .int (nI r)]) ++ List.replicate (7 - (lg_sl ([.ref h, .int (nI k), .int tons, .int (nI d), .int (nI r)])).length) Slot.unset).toArray = ls at hl ⊢
  have hl : lv_has ls 7 [(0, .ref h), (1, .int (nI k)), (2, .int tons), (3, .int (nI d)), (4, .int (nI r))] := hl
  refine lv_bipush (v := 10) hx hb dX1_strain_0 (by decide) ?_
  refine lv_iconst (v := 2) hx hb dX1_strain_2 (by decide) ?_
  refine lv_aload_n hx hb dX1_strain_3 rfl (lv_at hl 0 rfl) ?_
  refine lv_iload_n hx hb dX1_strain_4 rfl (lv_at hl 1 rfl) ?_
  have hPc := hP.sub (ws' := [(h, .inr (1, [.ref o, .ref q, .int pl])), (o, .inl (cI, 4, .inl fo)), (q, .inl (cI, 28, .inl fl))]) [0, 1, 2] rfl
  have hDc := hD0.sub (ws' := [(h, .inr (1, [.ref o, .ref q, .int pl])), (o, .inl (cI, 4, .inl fo)), (q, .inl (cI, 28, .inl fl))]) [0, 1, 2] (by decide) rfl
  have hKc := hK.sub (tys' := [(cI, .int)]) [0] rfl
  refine c_callR (va_runV (As := [.int (nI k)]) (rest := [.int 2, .int 10]) ⟨hx, hb, hml, hown, hts⟩ (k_drawn l D L0 cI h o q pl fo fl k hk) (cwV 1 hts gX1_strain_X1_drawn rfl rfl rfl (by decide +kernel) ⟨Nat.le_of_ble_eq_true rfl, Nat.le_of_ble_eq_true rfl⟩) ⟨cP_blind, va_recv hKc hPc (ci := 1) (q0 := 0) rfl rfl, cP_of hPc hKc hDc (kE_at hE0 hAL hS)⟩ rfl rfl hl.1 rfl (lv_room (Nat.le_of_ble_eq_true rfl)) dX1_strain_5 ⟨Nat.le_of_ble_eq_true rfl, Nat.le_of_ble_eq_true rfl⟩) ?_
  show W _ _ _ _ _ _ _ _ _ _ _ _ _ _ _ (F0 m 8 ls [.int (fo k), .int 2, .int 10])
  refine lv_iadd hx hb dX1_strain_8 ?_
  refine lv_imul hx hb dX1_strain_9 ?_
  refine lv_istore (lv' := [(5, .int (10 * (2 + (fo k)))), (0, .ref h), (1, .int (nI k)), (2, .int tons), (3, .int (nI d)), (4, .int (nI r))]) hx hb dX1_strain_10 hl (by decide) rfl (fun ls hl => ?_)
  refine lv_iload_n hx hb dX1_strain_12 rfl (lv_at hl 4 rfl) ?_
  refine lv_iload_n hx hb dX1_strain_13 rfl (lv_at hl 2 rfl) ?_
  have hPc := hP.sub (ws' := []) [] rfl
  have hDc := hD0.sub (ws' := []) [] (by decide) rfl
  have hKc := hK.sub (tys' := []) [] rfl
  refine c_callR (va_runS (As := [.int (nI d), .int (nI k)]) (rest := []) ⟨hx, hb, hml, hown, hts⟩ (k_slant l D L0 d k hd hk) (va_cwS 2 hts gX1_strain_X1_slant rfl rfl rfl (by decide +kernel) ⟨Nat.le_of_ble_eq_true rfl, Nat.le_of_ble_eq_true rfl⟩) ⟨cP_blind, cP_of hPc hKc hDc (kE_at hE0 hAL hS)⟩ rfl rfl hl.1 rfl (lv_room (Nat.le_of_ble_eq_true rfl)) dX1_strain_14 ⟨Nat.le_of_ble_eq_true rfl, Nat.le_of_ble_eq_true rfl⟩) ?_
  show W _ _ _ _ _ _ _ _ _ _ _ _ _ _ _ (F0 m 17 ls [.int (slN d k)])
  refine lv_istore (lv' := [(6, .int (slN d k)), (5, .int (10 * (2 + (fo k)))), (0, .ref h), (1, .int (nI k)), (2, .int tons), (3, .int (nI d)), (4, .int (nI r))]) hx hb dX1_strain_17 hl (by decide) rfl (fun ls hl => ?_)
  refine lv_iload_n hx hb dX1_strain_19 rfl (lv_at hl 4 rfl) ?_
  refine lv_iload hx hb dX1_strain_20 (lv_at hl 6 rfl) ?_
  refine lv_iload hx hb dX1_strain_22 (lv_at hl 0 rfl) ?_
  refine lv_imul hx hb dX1_strain_24 ?_
  refine lv_iload hx hb dX1_strain_25 (lv_at hl 1 rfl) ?_
  refine lv_isub hx hb dX1_strain_27 ?_
  refine lv_imul hx hb dX1_strain_28 ?_
  refine lv_aload_n hx hb dX1_strain_29 rfl (lv_at hl 2 rfl) ?_
  refine va_get (D := D) (ci := 1) (v := .int pl) (C := RX1) (T := TX1) (N := 3) hx hb hts hiX1 hown hK hP 0 rfl rfl 2 (by decide) (hts (.fieldLink RX1 18 "CraneReach$Rig" "plates" "I") (by decide +kernel)) (fun _ h9 => h9) rfl dX1_strain_30 ?_
  refine lv_iconst (v := 2) hx hb dX1_strain_33 (by decide) ?_
  refine lv_imul hx hb dX1_strain_34 ?_
  refine lv_iconst (v := 4) hx hb dX1_strain_35 (by decide) ?_
  refine lv_iload hx hb dX1_strain_36 (lv_at hl 0 rfl) ?_
  refine lv_imul hx hb dX1_strain_38 ?_
  refine lv_iload hx hb dX1_strain_39 (lv_at hl 1 rfl) ?_
  refine lv_iadd hx hb dX1_strain_41 ?_
  refine lv_imul hx hb dX1_strain_42 ?_
  refine lv_isub hx hb dX1_strain_43 ?_
  refine lv_bipush (v := 20) hx hb dX1_strain_44 (by decide) ?_
  refine lv_iload hx hb dX1_strain_46 (lv_at hl 1 rfl) ?_
  refine lv_imul hx hb dX1_strain_48 ?_
  refine lv_isub hx hb dX1_strain_49 ?_
  exact W.iret (v := (((tons * (((nI r) * (slN d k)) - (10 * (2 + (fo k))))) - ((pl * 2) * ((4 * (slN d k)) + (10 * (2 + (fo k)))))) - (20 * (10 * (2 + (fo k)))))) hx hb hRt (fun t ht hW => ⟨rfl, ht⟩) hS.2.2 dX1_strain_50
set_option maxHeartbeats 4000000 in
set_option maxRecDepth 100000 in
/-- isSafe(tons, to, metres) -/
theorem k_isSafe (l : Launch) (D : va_G) (L0 : Nat) (cI : ClassId) (h o q : Nat) (pl : Int32) (fo fl : Nat → Int32) (d r : Nat) (tons : Int32) (hd : d < 8) (hr : 3 ≤ r ∧ r ≤ 30) : Met l yX1_isSafe wsX1_isSafe ({ frames := 2, cells := 0, slots := 0, locals := 47 }) (cP L0 D [(cI, .int)] [(h, .inr (1, [.ref o, .ref q, .int pl])), (o, .inl (cI, 4, .inl fo)), (q, .inl (cI, 28, .inl (sh fl)))] [.ref h, .int tons, .int (nI d), .int (nI r)]) (cR (some (.int (bI (safS fo fl pl tons d r))))) 0 0 (fun _ => False) := by
  refine Met.ofW (cc := cX1_isSafe) (maxL := 5) (ret := (some .boolean)) (by decide) rfl ?_
  intro p e s m args below meth c s₁ B hml hv
  obtain ⟨rfl, hP, hK, hD0, hE0⟩ := hv
  have hx := B.exec
  have hb := B.bytes
  have hRt := B.returns
  have hts := atoms_spec (ws := wsX1_isSafe) B.pre
  have hown : s.vm.findClass RX1 = some m.cls := findClass_of_methodNamed B.named
  have hlocks := B.notSynchronized
  have hAL : ∀ z9 : Nat, (fun _ : Nat => False) z9 → L0 ≤ z9 := fun z9 h9 => False.elim h9
  generalize hAe : (fun _ : Nat => False) = A at hAL ⊢
  have hS : va_S A s.heap s.heap [] := va_S.rf
  have hiX1 : ∀ w ∈ u_ws RX1 TX1 3, w ∈ wsX1_isSafe := by decide +kernel
  have hl := lv_entry ([.ref h, .int tons, .int (nI d), .int (nI r)]) (n := 5) (Nat.le_of_ble_eq_true rfl)
  rw [lg_entry_eq]
  generalize (lg_sl ([.ref h, .int tons, .int (nI d), .int (nI r)]) ++ List.replicate (5 - (lg_sl ([.ref h, .int tons, .int (nI d), .int (nI r)])).length) Slot.unset).toArray = ls at hl ⊢
  have hl : lv_has ls 5 [(0, .ref h), (1, .int tons), (2, .int (nI d)), (3, .int (nI r))] := hl
  refine lv_iload_n hx hb dX1_isSafe_0 rfl (lv_at hl 1 rfl) ?_
  refine lv_aload_n hx hb dX1_isSafe_1 rfl (lv_at hl 0 rfl) ?_
  refine lv_iload_n hx hb dX1_isSafe_2 rfl (lv_at hl 3 rfl) ?_
  have hPc := hP.sub (ws' := [(h, .inr (1, [.ref o, .ref q, .int pl])), (o, .inl (cI, 4, .inl fo)), (q, .inl (cI, 28, .inl (sh fl)))]) [0, 1, 2] rfl
  have hDc := hD0.sub (ws' := [(h, .inr (1, [.ref o, .ref q, .int pl])), (o, .inl (cI, 4, .inl fo)), (q, .inl (cI, 28, .inl (sh fl)))]) [0, 1, 2] (by decide) rfl
  have hKc := hK.sub (tys' := [(cI, .int)]) [0] rfl
  refine c_callR (va_runV (As := [.int (nI r)]) (rest := [.int tons]) ⟨hx, hb, hml, hown, hts⟩ (k_allowed l D L0 cI h o q pl fo (sh fl) r hr) (cwV 1 hts gX1_isSafe_X1_allowed rfl rfl rfl (by decide +kernel) ⟨Nat.le_of_ble_eq_true rfl, Nat.le_of_ble_eq_true rfl⟩) ⟨cP_blind, va_recv hKc hPc (ci := 1) (q0 := 0) rfl rfl, cP_of hPc hKc hDc (kE_at hE0 hAL hS)⟩ rfl rfl hl.1 rfl (lv_room (Nat.le_of_ble_eq_true rfl)) dX1_isSafe_3 ⟨Nat.le_of_ble_eq_true rfl, Nat.le_of_ble_eq_true rfl⟩) ?_
  show W _ _ _ _ _ _ _ _ _ _ _ _ _ _ _ (F0 m 6 ls [.int (sh fl (r - 3)), .int tons])
  refine c_top (show sh fl (r - 3) = fl r from sh_at hr.1) ?_
  refine lv_icmp_le (tgt := 11) hx hb dX1_isSafe_6 (by decide) (fun c_5 => ?_) (fun c_5 => ?_)
  · refine lv_iconst (v := 0) hx hb dX1_isSafe_11 (by decide) ?_
    refine lv_istore (lv' := [(4, .int 0), (0, .ref h), (1, .int tons), (2, .int (nI d)), (3, .int (nI r))]) hx hb dX1_isSafe_12 hl (by decide) rfl (fun ls hl => ?_)
    refine lv_iload hx hb dX1_isSafe_14 (lv_at hl 0 rfl) ?_
    refine lv_iconst (v := 4) hx hb dX1_isSafe_16 (by decide) ?_
    refine lv_icmp_ge (tgt := 40) hx hb dX1_isSafe_17 (by decide) (fun c_6 => absurd c_6 (by decide)) (fun _ => ?_)
    refine lv_aload_n hx hb dX1_isSafe_20 rfl (lv_at hl 1 rfl) ?_
    refine lv_iload hx hb dX1_isSafe_21 (lv_at hl 0 rfl) ?_
    refine lv_iload_n hx hb dX1_isSafe_23 rfl (lv_at hl 2 rfl) ?_
    refine lv_iload_n hx hb dX1_isSafe_24 rfl (lv_at hl 3 rfl) ?_
    refine lv_iload_n hx hb dX1_isSafe_25 rfl (lv_at hl 4 rfl) ?_
    have hPc := hP.sub (ws' := [(h, .inr (1, [.ref o, .ref q, .int pl])), (o, .inl (cI, 4, .inl fo)), (q, .inl (cI, 28, .inl (sh fl)))]) [0, 1, 2] rfl
    have hDc := hD0.sub (ws' := [(h, .inr (1, [.ref o, .ref q, .int pl])), (o, .inl (cI, 4, .inl fo)), (q, .inl (cI, 28, .inl (sh fl)))]) [0, 1, 2] (by decide) rfl
    have hKc := hK.sub (tys' := [(cI, .int)]) [0] rfl
    refine c_callR (va_runV (As := [.int (nI 0), .int tons, .int (nI d), .int (nI r)]) (rest := []) ⟨hx, hb, hml, hown, hts⟩ (k_strain l D L0 cI h o q pl fo (sh fl) 0 d r tons (by decide) hd) (cwV 4 hts gX1_isSafe_X1_strain rfl rfl rfl (by decide +kernel) ⟨Nat.le_of_ble_eq_true rfl, Nat.le_of_ble_eq_true rfl⟩) ⟨cP_blind, va_recv hKc hPc (ci := 1) (q0 := 0) rfl rfl, cP_of hPc hKc hDc (kE_at hE0 hAL hS)⟩ rfl rfl hl.1 rfl (lv_room (Nat.le_of_ble_eq_true rfl)) dX1_isSafe_26 ⟨Nat.le_of_ble_eq_true rfl, Nat.le_of_ble_eq_true rfl⟩) ?_
    show W _ _ _ _ _ _ _ _ _ _ _ _ _ _ _ (F0 m 29 ls [.int (strS fo pl 0 tons d r)])
    refine lv_if_le (tgt := 34) hx hb dX1_isSafe_29 (by decide) (fun c_7 => ?_) (fun c_7 => ?_)
    · refine lv_iinc (v := 1) (lv' := [(4, .int 1), (0, .ref h), (1, .int tons), (2, .int (nI d)), (3, .int (nI r))]) hx hb dX1_isSafe_34 hl (k := 0) rfl (by decide) (by decide) rfl (fun ls hl => ?_)
      refine lv_goto (tgt := 14) hx hb dX1_isSafe_37 (by decide) ?_
      refine lv_iload hx hb dX1_isSafe_14 (lv_at hl 0 rfl) ?_
      refine lv_iconst (v := 4) hx hb dX1_isSafe_16 (by decide) ?_
      refine lv_icmp_ge (tgt := 40) hx hb dX1_isSafe_17 (by decide) (fun c_8 => absurd c_8 (by decide)) (fun _ => ?_)
      refine lv_aload_n hx hb dX1_isSafe_20 rfl (lv_at hl 1 rfl) ?_
      refine lv_iload hx hb dX1_isSafe_21 (lv_at hl 0 rfl) ?_
      refine lv_iload_n hx hb dX1_isSafe_23 rfl (lv_at hl 2 rfl) ?_
      refine lv_iload_n hx hb dX1_isSafe_24 rfl (lv_at hl 3 rfl) ?_
      refine lv_iload_n hx hb dX1_isSafe_25 rfl (lv_at hl 4 rfl) ?_
      have hPc := hP.sub (ws' := [(h, .inr (1, [.ref o, .ref q, .int pl])), (o, .inl (cI, 4, .inl fo)), (q, .inl (cI, 28, .inl (sh fl)))]) [0, 1, 2] rfl
      have hDc := hD0.sub (ws' := [(h, .inr (1, [.ref o, .ref q, .int pl])), (o, .inl (cI, 4, .inl fo)), (q, .inl (cI, 28, .inl (sh fl)))]) [0, 1, 2] (by decide) rfl
      have hKc := hK.sub (tys' := [(cI, .int)]) [0] rfl
      refine c_callR (va_runV (As := [.int (nI 1), .int tons, .int (nI d), .int (nI r)]) (rest := []) ⟨hx, hb, hml, hown, hts⟩ (k_strain l D L0 cI h o q pl fo (sh fl) 1 d r tons (by decide) hd) (cwV 4 hts gX1_isSafe_X1_strain rfl rfl rfl (by decide +kernel) ⟨Nat.le_of_ble_eq_true rfl, Nat.le_of_ble_eq_true rfl⟩) ⟨cP_blind, va_recv hKc hPc (ci := 1) (q0 := 0) rfl rfl, cP_of hPc hKc hDc (kE_at hE0 hAL hS)⟩ rfl rfl hl.1 rfl (lv_room (Nat.le_of_ble_eq_true rfl)) dX1_isSafe_26 ⟨Nat.le_of_ble_eq_true rfl, Nat.le_of_ble_eq_true rfl⟩) ?_
      show W _ _ _ _ _ _ _ _ _ _ _ _ _ _ _ (F0 m 29 ls [.int (strS fo pl 1 tons d r)])
      refine lv_if_le (tgt := 34) hx hb dX1_isSafe_29 (by decide) (fun c_9 => ?_) (fun c_9 => ?_)
      · refine lv_iinc (v := 2) (lv' := [(4, .int 2), (0, .ref h), (1, .int tons), (2, .int (nI d)), (3, .int (nI r))]) hx hb dX1_isSafe_34 hl (k := 0) rfl (by decide) (by decide) rfl (fun ls hl => ?_)
        refine lv_goto (tgt := 14) hx hb dX1_isSafe_37 (by decide) ?_
        refine lv_iload hx hb dX1_isSafe_14 (lv_at hl 0 rfl) ?_
        refine lv_iconst (v := 4) hx hb dX1_isSafe_16 (by decide) ?_
        refine lv_icmp_ge (tgt := 40) hx hb dX1_isSafe_17 (by decide) (fun c_10 => absurd c_10 (by decide)) (fun _ => ?_)
        refine lv_aload_n hx hb dX1_isSafe_20 rfl (lv_at hl 1 rfl) ?_
        refine lv_iload hx hb dX1_isSafe_21 (lv_at hl 0 rfl) ?_
        refine lv_iload_n hx hb dX1_isSafe_23 rfl (lv_at hl 2 rfl) ?_
        refine lv_iload_n hx hb dX1_isSafe_24 rfl (lv_at hl 3 rfl) ?_
        refine lv_iload_n hx hb dX1_isSafe_25 rfl (lv_at hl 4 rfl) ?_
        have hPc := hP.sub (ws' := [(h, .inr (1, [.ref o, .ref q, .int pl])), (o, .inl (cI, 4, .inl fo)), (q, .inl (cI, 28, .inl (sh fl)))]) [0, 1, 2] rfl
        have hDc := hD0.sub (ws' := [(h, .inr (1, [.ref o, .ref q, .int pl])), (o, .inl (cI, 4, .inl fo)), (q, .inl (cI, 28, .inl (sh fl)))]) [0, 1, 2] (by decide) rfl
        have hKc := hK.sub (tys' := [(cI, .int)]) [0] rfl
        refine c_callR (va_runV (As := [.int (nI 2), .int tons, .int (nI d), .int (nI r)]) (rest := []) ⟨hx, hb, hml, hown, hts⟩ (k_strain l D L0 cI h o q pl fo (sh fl) 2 d r tons (by decide) hd) (cwV 4 hts gX1_isSafe_X1_strain rfl rfl rfl (by decide +kernel) ⟨Nat.le_of_ble_eq_true rfl, Nat.le_of_ble_eq_true rfl⟩) ⟨cP_blind, va_recv hKc hPc (ci := 1) (q0 := 0) rfl rfl, cP_of hPc hKc hDc (kE_at hE0 hAL hS)⟩ rfl rfl hl.1 rfl (lv_room (Nat.le_of_ble_eq_true rfl)) dX1_isSafe_26 ⟨Nat.le_of_ble_eq_true rfl, Nat.le_of_ble_eq_true rfl⟩) ?_
        show W _ _ _ _ _ _ _ _ _ _ _ _ _ _ _ (F0 m 29 ls [.int (strS fo pl 2 tons d r)])
        refine lv_if_le (tgt := 34) hx hb dX1_isSafe_29 (by decide) (fun c_11 => ?_) (fun c_11 => ?_)
        · refine lv_iinc (v := 3) (lv' := [(4, .int 3), (0, .ref h), (1, .int tons), (2, .int (nI d)), (3, .int (nI r))]) hx hb dX1_isSafe_34 hl (k := 0) rfl (by decide) (by decide) rfl (fun ls hl => ?_)
          refine lv_goto (tgt := 14) hx hb dX1_isSafe_37 (by decide) ?_
          refine lv_iload hx hb dX1_isSafe_14 (lv_at hl 0 rfl) ?_
          refine lv_iconst (v := 4) hx hb dX1_isSafe_16 (by decide) ?_
          refine lv_icmp_ge (tgt := 40) hx hb dX1_isSafe_17 (by decide) (fun c_12 => absurd c_12 (by decide)) (fun _ => ?_)
          refine lv_aload_n hx hb dX1_isSafe_20 rfl (lv_at hl 1 rfl) ?_
          refine lv_iload hx hb dX1_isSafe_21 (lv_at hl 0 rfl) ?_
          refine lv_iload_n hx hb dX1_isSafe_23 rfl (lv_at hl 2 rfl) ?_
          refine lv_iload_n hx hb dX1_isSafe_24 rfl (lv_at hl 3 rfl) ?_
          refine lv_iload_n hx hb dX1_isSafe_25 rfl (lv_at hl 4 rfl) ?_
          have hPc := hP.sub (ws' := [(h, .inr (1, [.ref o, .ref q, .int pl])), (o, .inl (cI, 4, .inl fo)), (q, .inl (cI, 28, .inl (sh fl)))]) [0, 1, 2] rfl
          have hDc := hD0.sub (ws' := [(h, .inr (1, [.ref o, .ref q, .int pl])), (o, .inl (cI, 4, .inl fo)), (q, .inl (cI, 28, .inl (sh fl)))]) [0, 1, 2] (by decide) rfl
          have hKc := hK.sub (tys' := [(cI, .int)]) [0] rfl
          refine c_callR (va_runV (As := [.int (nI 3), .int tons, .int (nI d), .int (nI r)]) (rest := []) ⟨hx, hb, hml, hown, hts⟩ (k_strain l D L0 cI h o q pl fo (sh fl) 3 d r tons (by decide) hd) (cwV 4 hts gX1_isSafe_X1_strain rfl rfl rfl (by decide +kernel) ⟨Nat.le_of_ble_eq_true rfl, Nat.le_of_ble_eq_true rfl⟩) ⟨cP_blind, va_recv hKc hPc (ci := 1) (q0 := 0) rfl rfl, cP_of hPc hKc hDc (kE_at hE0 hAL hS)⟩ rfl rfl hl.1 rfl (lv_room (Nat.le_of_ble_eq_true rfl)) dX1_isSafe_26 ⟨Nat.le_of_ble_eq_true rfl, Nat.le_of_ble_eq_true rfl⟩) ?_
          show W _ _ _ _ _ _ _ _ _ _ _ _ _ _ _ (F0 m 29 ls [.int (strS fo pl 3 tons d r)])
          refine lv_if_le (tgt := 34) hx hb dX1_isSafe_29 (by decide) (fun c_13 => ?_) (fun c_13 => ?_)
          · refine lv_iinc (v := 4) (lv' := [(4, .int 4), (0, .ref h), (1, .int tons), (2, .int (nI d)), (3, .int (nI r))]) hx hb dX1_isSafe_34 hl (k := 0) rfl (by decide) (by decide) rfl (fun ls hl => ?_)
            refine lv_goto (tgt := 14) hx hb dX1_isSafe_37 (by decide) ?_
            refine lv_iload hx hb dX1_isSafe_14 (lv_at hl 0 rfl) ?_
            refine lv_iconst (v := 4) hx hb dX1_isSafe_16 (by decide) ?_
            refine lv_icmp_ge (tgt := 40) hx hb dX1_isSafe_17 (by decide) (fun _ => ?_) (fun c_14 => absurd (by decide) c_14)
            refine lv_iconst (v := 1) hx hb dX1_isSafe_40 (by decide) ?_
            exact W.zret (v := 1) hx hb hRt (rfl) (fun t ht hW => ⟨by rw [safS_yes c_5 c_7 c_9 c_11 c_13], ht⟩) hS.2.2 dX1_isSafe_41
          · refine lv_iconst (v := 0) hx hb dX1_isSafe_32 (by decide) ?_
            exact W.zret (v := 0) hx hb hRt (rfl) (fun t ht hW => ⟨by rw [safS_n3 c_13], ht⟩) hS.2.2 dX1_isSafe_33
        · refine lv_iconst (v := 0) hx hb dX1_isSafe_32 (by decide) ?_
          exact W.zret (v := 0) hx hb hRt (rfl) (fun t ht hW => ⟨by rw [safS_n2 c_11], ht⟩) hS.2.2 dX1_isSafe_33
      · refine lv_iconst (v := 0) hx hb dX1_isSafe_32 (by decide) ?_
        exact W.zret (v := 0) hx hb hRt (rfl) (fun t ht hW => ⟨by rw [safS_n1 c_9], ht⟩) hS.2.2 dX1_isSafe_33
    · refine lv_iconst (v := 0) hx hb dX1_isSafe_32 (by decide) ?_
      exact W.zret (v := 0) hx hb hRt (rfl) (fun t ht hW => ⟨by rw [safS_n0 c_7], ht⟩) hS.2.2 dX1_isSafe_33
  · refine lv_iconst (v := 0) hx hb dX1_isSafe_9 (by decide) ?_
    exact W.zret (v := 0) hx hb hRt (rfl) (fun t ht hW => ⟨by rw [safS_no c_5], ht⟩) hS.2.2 dX1_isSafe_10
end
section
def tnI (a b : Int32) : Int32 := (a + b + 8) - (a + b + 8) / 8 * 8
set_option maxHeartbeats 4000000 in
set_option maxRecDepth 100000 in
/-- isWithin(value, least, greatest) -/
theorem k_isWithin (l : Launch) (D : va_G) (L0 : Nat) (v a b : Int32) : Met l yX2_isWithin wsX2_isWithin ({ frames := 0, cells := 0, slots := 0, locals := 0 }) (cP L0 D [] [] [.int v, .int a, .int b]) (cR (some (.int (bI (decide (a ≤ v) && decide (v ≤ b)))))) 0 0 (fun _ => False) := by
  refine Met.ofW (cc := cX2_isWithin) (maxL := 3) (ret := (some .boolean)) (by decide) rfl ?_
  intro p e s m args below meth c s₁ B hml hv
  obtain ⟨rfl, hP, hK, hD0, hE0⟩ := hv
  have hx := B.exec
  have hb := B.bytes
  have hRt := B.returns
  have hts := atoms_spec (ws := wsX2_isWithin) B.pre
  have hown : s.vm.findClass RX2 = some m.cls := findClass_of_methodNamed B.named
  have hlocks := B.notSynchronized
  have hAL : ∀ z9 : Nat, (fun _ : Nat => False) z9 → L0 ≤ z9 := fun z9 h9 => False.elim h9
  generalize hAe : (fun _ : Nat => False) = A at hAL ⊢
  have hS : va_S A s.heap s.heap [] := va_S.rf
  have hl := lv_entry ([.int v, .int a, .int b]) (n := 3) (Nat.le_of_ble_eq_true rfl)
  rw [lg_entry_eq]
  generalize (lg_sl ([.int v, .int a, .int b]) ++ List.replicate (3 - (lg_sl ([.int v, .int a, .int b])).length) Slot.unset).toArray = ls at hl ⊢
  have hl : lv_has ls 3 [(0, .int v), (1, .int a), (2, .int b)] := hl
  refine lv_iload_n hx hb dX2_isWithin_0 rfl (lv_at hl 0 rfl) ?_
  refine lv_iload_n hx hb dX2_isWithin_1 rfl (lv_at hl 1 rfl) ?_
  refine lv_icmp_lt (tgt := 14) hx hb dX2_isWithin_2 (by decide) (fun c_1 => ?_) (fun c_1 => ?_)
  · refine lv_iconst (v := 0) hx hb dX2_isWithin_14 (by decide) ?_
    exact W.zret (v := 0) hx hb hRt (rfl) (fun t ht hW => ⟨by rw [isW_n1 (i_ltn c_1)], ht⟩) hS.2.2 dX2_isWithin_15
  · refine lv_iload_n hx hb dX2_isWithin_5 rfl (lv_at hl 0 rfl) ?_
    refine lv_iload_n hx hb dX2_isWithin_6 rfl (lv_at hl 2 rfl) ?_
    refine lv_icmp_gt (tgt := 14) hx hb dX2_isWithin_7 (by decide) (fun c_2 => ?_) (fun c_2 => ?_)
    · refine lv_iconst (v := 0) hx hb dX2_isWithin_14 (by decide) ?_
      exact W.zret (v := 0) hx hb hRt (rfl) (fun t ht hW => ⟨by rw [isW_n2 (i_ltn c_2)], ht⟩) hS.2.2 dX2_isWithin_15
    · refine lv_iconst (v := 1) hx hb dX2_isWithin_10 (by decide) ?_
      refine lv_goto (tgt := 15) hx hb dX2_isWithin_11 (by decide) ?_
      exact W.zret (v := 1) hx hb hRt (rfl) (fun t ht hW => ⟨by rw [isW_yes (i_nlt c_1) (i_nlt c_2)], ht⟩) hS.2.2 dX2_isWithin_15
set_option maxHeartbeats 4000000 in
set_option maxRecDepth 100000 in
/-- isReach(reach) -/
theorem k_isReach (l : Launch) (D : va_G) (L0 : Nat) (v : Int32) : Met l yX2_isReach wsX2_isReach ({ frames := 1, cells := 0, slots := 0, locals := 22 }) (cP L0 D [] [] [.int v]) (cR (some (.int (bI (decide (3 ≤ v) && decide (v ≤ 30)))))) 0 0 (fun _ => False) := by
  refine Met.ofW (cc := cX2_isReach) (maxL := 1) (ret := (some .boolean)) (by decide) rfl ?_
  intro p e s m args below meth c s₁ B hml hv
  obtain ⟨rfl, hP, hK, hD0, hE0⟩ := hv
  have hx := B.exec
  have hb := B.bytes
  have hRt := B.returns
  have hts := atoms_spec (ws := wsX2_isReach) B.pre
  have hown : s.vm.findClass RX2 = some m.cls := findClass_of_methodNamed B.named
  have hlocks := B.notSynchronized
  have hAL : ∀ z9 : Nat, (fun _ : Nat => False) z9 → L0 ≤ z9 := fun z9 h9 => False.elim h9
  generalize hAe : (fun _ : Nat => False) = A at hAL ⊢
  have hS : va_S A s.heap s.heap [] := va_S.rf
  have hl := lv_entry ([.int v]) (n := 1) (Nat.le_of_ble_eq_true rfl)
  rw [lg_entry_eq]
  generalize (lg_sl ([.int v]) ++ List.replicate (1 - (lg_sl ([.int v])).length) Slot.unset).toArray = ls at hl ⊢
  have hl : lv_has ls 1 [(0, .int v)] := hl
  refine lv_iload_n hx hb dX2_isReach_0 rfl (lv_at hl 0 rfl) ?_
  refine lv_iconst (v := 3) hx hb dX2_isReach_1 (by decide) ?_
  refine lv_bipush (v := 30) hx hb dX2_isReach_2 (by decide) ?_
  have hPc := hP.sub (ws' := []) [] rfl
  have hDc := hD0.sub (ws' := []) [] (by decide) rfl
  have hKc := hK.sub (tys' := []) [] rfl
  refine c_callR (va_runS (As := [.int v, .int 3, .int 30]) (rest := []) ⟨hx, hb, hml, hown, hts⟩ (k_isWithin l D L0 v 3 30) (va_cwS 3 hts gX2_isReach_X2_isWithin rfl rfl rfl (by decide +kernel) ⟨Nat.le_of_ble_eq_true rfl, Nat.le_of_ble_eq_true rfl⟩) ⟨cP_blind, cP_of hPc hKc hDc (kE_at hE0 hAL hS)⟩ rfl rfl hl.1 rfl (lv_room (Nat.le_of_ble_eq_true rfl)) dX2_isReach_4 ⟨Nat.le_of_ble_eq_true rfl, Nat.le_of_ble_eq_true rfl⟩) ?_
  show W _ _ _ _ _ _ _ _ _ _ _ _ _ _ _ (F0 m 7 ls [.int (bI (decide (3 ≤ v) && decide (v ≤ 30)))])
  exact W.zret (v := (bI (decide (3 ≤ v) && decide (v ≤ 30)))) hx hb hRt (bI_nar _) (fun t ht hW => ⟨rfl, ht⟩) hS.2.2 dX2_isReach_7
set_option maxHeartbeats 4000000 in
set_option maxRecDepth 100000 in
/-- turned(direction, turn) -/
theorem k_turned (l : Launch) (D : va_G) (L0 : Nat) (a b : Int32) : Met l yX2_turned wsX2_turned ({ frames := 0, cells := 0, slots := 0, locals := 0 }) (cP L0 D [] [] [.int a, .int b]) (cR (some (.int (tnI a b)))) 0 0 (fun _ => False) := by
  refine Met.ofW (cc := cX2_turned) (maxL := 2) (ret := (some .int)) (by decide) rfl ?_
  intro p e s m args below meth c s₁ B hml hv
  obtain ⟨rfl, hP, hK, hD0, hE0⟩ := hv
  have hx := B.exec
  have hb := B.bytes
  have hRt := B.returns
  have hts := atoms_spec (ws := wsX2_turned) B.pre
  have hown : s.vm.findClass RX2 = some m.cls := findClass_of_methodNamed B.named
  have hlocks := B.notSynchronized
  have hAL : ∀ z9 : Nat, (fun _ : Nat => False) z9 → L0 ≤ z9 := fun z9 h9 => False.elim h9
  generalize hAe : (fun _ : Nat => False) = A at hAL ⊢
  have hS : va_S A s.heap s.heap [] := va_S.rf
  have hl := lv_entry ([.int a, .int b]) (n := 2) (Nat.le_of_ble_eq_true rfl)
  rw [lg_entry_eq]
  generalize (lg_sl ([.int a, .int b]) ++ List.replicate (2 - (lg_sl ([.int a, .int b])).length) Slot.unset).toArray = ls at hl ⊢
  have hl : lv_has ls 2 [(0, .int a), (1, .int b)] := hl
  refine lv_iload_n hx hb dX2_turned_0 rfl (lv_at hl 0 rfl) ?_
  refine lv_iload_n hx hb dX2_turned_1 rfl (lv_at hl 1 rfl) ?_
  refine lv_iadd hx hb dX2_turned_2 ?_
  refine lv_bipush (v := 8) hx hb dX2_turned_3 (by decide) ?_
  refine lv_iadd hx hb dX2_turned_5 ?_
  refine lv_bipush (v := 8) hx hb dX2_turned_6 (by decide) ?_
  refine lv_irem hx hb dX2_turned_8 (by decide) ?_
  exact W.iret (v := (((a + b) + 8) - ((a + b) + 8) / 8 * 8)) hx hb hRt (fun t ht hW => ⟨rfl, ht⟩) hS.2.2 dX2_turned_9
set_option maxHeartbeats 4000000 in
set_option maxRecDepth 100000 in
/-- mixed(d, x) -/
theorem k_mixed (l : Launch) (D : va_G) (L0 : Nat) (a : Int64) (b : Int32) : Met l yX2_mixed wsX2_mixed ({ frames := 0, cells := 0, slots := 0, locals := 0 }) (cP L0 D [] [] [.long a, .int b]) (cR (some (.long (a * 31 + b.toInt64)))) 0 0 (fun _ => False) := by
  refine Met.ofW (cc := cX2_mixed) (maxL := 3) (ret := (some .long)) (by decide) rfl ?_
  intro p e s m args below meth c s₁ B hml hv
  obtain ⟨rfl, hP, hK, hD0, hE0⟩ := hv
  have hx := B.exec
  have hb := B.bytes
  have hRt := B.returns
  have hts := atoms_spec (ws := wsX2_mixed) B.pre
  have hown : s.vm.findClass RX2 = some m.cls := findClass_of_methodNamed B.named
  have hlocks := B.notSynchronized
  have hAL : ∀ z9 : Nat, (fun _ : Nat => False) z9 → L0 ≤ z9 := fun z9 h9 => False.elim h9
  generalize hAe : (fun _ : Nat => False) = A at hAL ⊢
  have hS : va_S A s.heap s.heap [] := va_S.rf
  have hl := lv_entry ([.long a, .int b]) (n := 3) (Nat.le_of_ble_eq_true rfl)
  rw [lg_entry_eq]
  generalize (lg_sl ([.long a, .int b]) ++ List.replicate (3 - (lg_sl ([.long a, .int b])).length) Slot.unset).toArray = ls at hl ⊢
  have hl : lv_has ls 3 [(0, .long a), (2, .int b)] := hl
  refine lv_lload_n hx hb dX2_mixed_0 rfl (lv_at hl 0 rfl) ?_
  refine lv_ldc2 (v := 31) hx hb hown (hts (.constantLong RX2 153 31) (by decide +kernel)) dX2_mixed_1 ?_
  refine lv_lmul hx hb dX2_mixed_4 ?_
  refine lv_iload_n hx hb dX2_mixed_5 rfl (lv_at hl 1 rfl) ?_
  refine lv_i2l hx hb dX2_mixed_6 rfl ?_
  refine lv_ladd hx hb dX2_mixed_7 ?_
  exact W.lret (v := ((a * 31) + b.toInt64)) hx hb hRt (fun t ht hW => ⟨rfl, ht⟩) hS.2.2 dX2_mixed_8
set_option maxHeartbeats 4000000 in
set_option maxRecDepth 100000 in
/-- X2_requireSide: returns or throws -/
theorem k_requireSide (l : Launch) (hfl : l.stackTraces = false) (D : va_G) (L0 : Nat) (v : Int32) : vx_Met l yX2_requireSide wsX2_requireSide ({ frames := 6, cells := 1, slots := 6, locals := 83 }) (cP L0 D [] [] [.int v]) (cRP none (0 ≤ v ∧ v ≤ 3)) (cX (fun E => E = xIOB ∧ ¬ (0 ≤ v ∧ v ≤ 3)) (fun _ => True) (fun _ => False)) 1 6 (fun _ => False) := by
  refine vx_ofW (cc := cX2_requireSide) (maxL := 1) (ret := none) (by decide) rfl ?_
  intro p e s m args below meth c s₁ B hml hxt hv
  obtain ⟨rfl, hP, hK, hD0, hE0⟩ := hv
  have hx := B.exec
  have hb := B.bytes
  have hRt := B.returns
  have hts := atoms_spec (ws := wsX2_requireSide) B.pre
  have hown : s.vm.findClass RX2 = some m.cls := findClass_of_methodNamed B.named
  have hlocks := B.notSynchronized
  have hAL : ∀ z9 : Nat, (fun _ : Nat => False) z9 → L0 ≤ z9 := fun z9 h9 => False.elim h9
  generalize hAe : (fun _ : Nat => False) = A at hAL ⊢
  have hS : va_S A s.heap s.heap [] := va_S.rf
  have hl := lv_entry ([.int v]) (n := 1) (Nat.le_of_ble_eq_true rfl)
  rw [lg_entry_eq]
  generalize (lg_sl ([.int v]) ++ List.replicate (1 - (lg_sl ([.int v])).length) Slot.unset).toArray = ls at hl ⊢
  have hl : lv_has ls 1 [(0, .int v)] := hl
  have hin163 : ∀ z ∈ (vx_atS RX2 163 xIOB kSup).filter goodWord, z ∈ wsX2_requireSide := by decide +kernel
  refine lv_iload_n hx hb dX2_requireSide_0 rfl (lv_at hl 0 rfl) ?_
  refine lv_iconst (v := 0) hx hb dX2_requireSide_1 (by decide) ?_
  refine lv_iconst (v := 3) hx hb dX2_requireSide_2 (by decide) ?_
  have hPc := hP.sub (ws' := []) [] rfl
  have hDc := hD0.sub (ws' := []) [] (by decide) rfl
  have hKc := hK.sub (tys' := []) [] rfl
  refine c_callR (va_runS (As := [.int v, .int 0, .int 3]) (rest := []) ⟨hx, hb, hml, hown, hts⟩ (k_isWithin l D L0 v 0 3) (va_cwS 3 hts gX2_requireSide_X2_isWithin rfl rfl rfl (by decide +kernel) ⟨Nat.le_of_ble_eq_true rfl, Nat.le_of_ble_eq_true rfl⟩) ⟨cP_blind, cP_of hPc hKc hDc (kE_at hE0 hAL hS)⟩ rfl rfl hl.1 rfl (lv_room (Nat.le_of_ble_eq_true rfl)) dX2_requireSide_3 ⟨Nat.le_of_ble_eq_true rfl, Nat.le_of_ble_eq_true rfl⟩) ?_
  show W _ _ _ _ _ _ _ _ _ _ _ _ _ _ _ (F0 m 6 ls [.int (bI (decide (0 ≤ v) && decide (v ≤ 3)))])
  obtain ⟨b0, hb0⟩ : ∃ b0 : Bool, b0 = (decide (0 ≤ v) && decide (v ≤ 3)) := ⟨_, rfl⟩
  rw [← hb0]
  refine lv_if_ne (tgt := 19) hx hb dX2_requireSide_6 (by decide) (fun c_3 => ?_) (fun c_3 => ?_)
  · refine vx_ret ?_
    refine W.widen (k := 1) (n := 6) (by omega) (by omega) ?_
    exact W.vret hx hb hRt (fun t ht hW => ⟨⟨rfl, ht⟩, by cases b0 with | true => simpa using hb0.symm | false => exact absurd rfl c_3⟩) hS.2.2 dX2_requireSide_19
  · exact c_throw (cls := xIOB) (text := "side must be 0 to 3") hx hb hfl hown (Or.inr (Or.inr rfl)) (hts (.classLink RX2 159 xIOB) (by decide +kernel)) (hts (.initialized xIOB) (by decide +kernel)) hE0 hAL (by decide) (fun z hz => hts z (hin163 z hz)) (by decide +kernel) (by decide +kernel) hS hl.1 hml dX2_requireSide_9 dX2_requireSide_12 dX2_requireSide_13 dX2_requireSide_15 dX2_requireSide_18 hxt (Nat.le_of_ble_eq_true rfl) (Nat.le_of_ble_eq_true rfl) (Nat.le_of_ble_eq_true rfl) (Nat.le_of_ble_eq_true rfl) hlocks (⟨rfl, fun hp => absurd c_3 (by rw [hb0]; simp [hp, bI])⟩) (fun H1 _ _ => trivial) (fun q h => h) (fun q h => h) (Nat.le_of_ble_eq_true rfl) (Nat.le_of_ble_eq_true rfl)
set_option maxHeartbeats 4000000 in
set_option maxRecDepth 100000 in
/-- X2_requireDirection: returns or throws -/
theorem k_requireDirection (l : Launch) (hfl : l.stackTraces = false) (D : va_G) (L0 : Nat) (v : Int32) : vx_Met l yX2_requireDirection wsX2_requireDirection ({ frames := 6, cells := 1, slots := 6, locals := 83 }) (cP L0 D [] [] [.int v]) (cRP none (0 ≤ v ∧ v ≤ 7)) (cX (fun E => E = xIOB ∧ ¬ (0 ≤ v ∧ v ≤ 7)) (fun _ => True) (fun _ => False)) 1 6 (fun _ => False) := by
  refine vx_ofW (cc := cX2_requireDirection) (maxL := 1) (ret := none) (by decide) rfl ?_
  intro p e s m args below meth c s₁ B hml hxt hv
  obtain ⟨rfl, hP, hK, hD0, hE0⟩ := hv
  have hx := B.exec
  have hb := B.bytes
  have hRt := B.returns
  have hts := atoms_spec (ws := wsX2_requireDirection) B.pre
  have hown : s.vm.findClass RX2 = some m.cls := findClass_of_methodNamed B.named
  have hlocks := B.notSynchronized
  have hAL : ∀ z9 : Nat, (fun _ : Nat => False) z9 → L0 ≤ z9 := fun z9 h9 => False.elim h9
  generalize hAe : (fun _ : Nat => False) = A at hAL ⊢
  have hS : va_S A s.heap s.heap [] := va_S.rf
  have hl := lv_entry ([.int v]) (n := 1) (Nat.le_of_ble_eq_true rfl)
  rw [lg_entry_eq]
  generalize (lg_sl ([.int v]) ++ List.replicate (1 - (lg_sl ([.int v])).length) Slot.unset).toArray = ls at hl ⊢
  have hl : lv_has ls 1 [(0, .int v)] := hl
  have hin163 : ∀ z ∈ (vx_atS RX2 163 xIOB kSup).filter goodWord, z ∈ wsX2_requireDirection := by decide +kernel
  refine lv_iload_n hx hb dX2_requireDirection_0 rfl (lv_at hl 0 rfl) ?_
  refine lv_iconst (v := 0) hx hb dX2_requireDirection_1 (by decide) ?_
  refine lv_bipush (v := 7) hx hb dX2_requireDirection_2 (by decide) ?_
  have hPc := hP.sub (ws' := []) [] rfl
  have hDc := hD0.sub (ws' := []) [] (by decide) rfl
  have hKc := hK.sub (tys' := []) [] rfl
  refine c_callR (va_runS (As := [.int v, .int 0, .int 7]) (rest := []) ⟨hx, hb, hml, hown, hts⟩ (k_isWithin l D L0 v 0 7) (va_cwS 3 hts gX2_requireDirection_X2_isWithin rfl rfl rfl (by decide +kernel) ⟨Nat.le_of_ble_eq_true rfl, Nat.le_of_ble_eq_true rfl⟩) ⟨cP_blind, cP_of hPc hKc hDc (kE_at hE0 hAL hS)⟩ rfl rfl hl.1 rfl (lv_room (Nat.le_of_ble_eq_true rfl)) dX2_requireDirection_4 ⟨Nat.le_of_ble_eq_true rfl, Nat.le_of_ble_eq_true rfl⟩) ?_
  show W _ _ _ _ _ _ _ _ _ _ _ _ _ _ _ (F0 m 7 ls [.int (bI (decide (0 ≤ v) && decide (v ≤ 7)))])
  obtain ⟨b0, hb0⟩ : ∃ b0 : Bool, b0 = (decide (0 ≤ v) && decide (v ≤ 7)) := ⟨_, rfl⟩
  rw [← hb0]
  refine lv_if_ne (tgt := 20) hx hb dX2_requireDirection_7 (by decide) (fun c_4 => ?_) (fun c_4 => ?_)
  · refine vx_ret ?_
    refine W.widen (k := 1) (n := 6) (by omega) (by omega) ?_
    exact W.vret hx hb hRt (fun t ht hW => ⟨⟨rfl, ht⟩, by cases b0 with | true => simpa using hb0.symm | false => exact absurd rfl c_4⟩) hS.2.2 dX2_requireDirection_20
  · exact c_throw (cls := xIOB) (text := "direction must be 0 to 7") hx hb hfl hown (Or.inr (Or.inr rfl)) (hts (.classLink RX2 159 xIOB) (by decide +kernel)) (hts (.initialized xIOB) (by decide +kernel)) hE0 hAL (by decide) (fun z hz => hts z (hin163 z hz)) (by decide +kernel) (by decide +kernel) hS hl.1 hml dX2_requireDirection_10 dX2_requireDirection_13 dX2_requireDirection_14 dX2_requireDirection_16 dX2_requireDirection_19 hxt (Nat.le_of_ble_eq_true rfl) (Nat.le_of_ble_eq_true rfl) (Nat.le_of_ble_eq_true rfl) (Nat.le_of_ble_eq_true rfl) hlocks (⟨rfl, fun hp => absurd c_4 (by rw [hb0]; simp [hp, bI])⟩) (fun H1 _ _ => trivial) (fun q h => h) (fun q h => h) (Nat.le_of_ble_eq_true rfl) (Nat.le_of_ble_eq_true rfl)
set_option maxHeartbeats 4000000 in
set_option maxRecDepth 100000 in
/-- X2_requireLoad: returns or throws -/
theorem k_requireLoad (l : Launch) (hfl : l.stackTraces = false) (D : va_G) (L0 : Nat) (v : Int32) : vx_Met l yX2_requireLoad wsX2_requireLoad ({ frames := 6, cells := 1, slots := 6, locals := 83 }) (cP L0 D [] [] [.int v]) (cRP none (0 ≤ v ∧ v ≤ 60)) (cX (fun E => E = xIAE ∧ ¬ (0 ≤ v ∧ v ≤ 60)) (fun _ => True) (fun _ => False)) 1 6 (fun _ => False) := by
  refine vx_ofW (cc := cX2_requireLoad) (maxL := 1) (ret := none) (by decide) rfl ?_
  intro p e s m args below meth c s₁ B hml hxt hv
  obtain ⟨rfl, hP, hK, hD0, hE0⟩ := hv
  have hx := B.exec
  have hb := B.bytes
  have hRt := B.returns
  have hts := atoms_spec (ws := wsX2_requireLoad) B.pre
  have hown : s.vm.findClass RX2 = some m.cls := findClass_of_methodNamed B.named
  have hlocks := B.notSynchronized
  have hAL : ∀ z9 : Nat, (fun _ : Nat => False) z9 → L0 ≤ z9 := fun z9 h9 => False.elim h9
  generalize hAe : (fun _ : Nat => False) = A at hAL ⊢
  have hS : va_S A s.heap s.heap [] := va_S.rf
  have hl := lv_entry ([.int v]) (n := 1) (Nat.le_of_ble_eq_true rfl)
  rw [lg_entry_eq]
  generalize (lg_sl ([.int v]) ++ List.replicate (1 - (lg_sl ([.int v])).length) Slot.unset).toArray = ls at hl ⊢
  have hl : lv_has ls 1 [(0, .int v)] := hl
  have hin38 : ∀ z ∈ (vx_atS RX2 38 xIAE kSup).filter goodWord, z ∈ wsX2_requireLoad := by decide +kernel
  refine lv_iload_n hx hb dX2_requireLoad_0 rfl (lv_at hl 0 rfl) ?_
  refine lv_iconst (v := 0) hx hb dX2_requireLoad_1 (by decide) ?_
  refine lv_bipush (v := 60) hx hb dX2_requireLoad_2 (by decide) ?_
  have hPc := hP.sub (ws' := []) [] rfl
  have hDc := hD0.sub (ws' := []) [] (by decide) rfl
  have hKc := hK.sub (tys' := []) [] rfl
  refine c_callR (va_runS (As := [.int v, .int 0, .int 60]) (rest := []) ⟨hx, hb, hml, hown, hts⟩ (k_isWithin l D L0 v 0 60) (va_cwS 3 hts gX2_requireLoad_X2_isWithin rfl rfl rfl (by decide +kernel) ⟨Nat.le_of_ble_eq_true rfl, Nat.le_of_ble_eq_true rfl⟩) ⟨cP_blind, cP_of hPc hKc hDc (kE_at hE0 hAL hS)⟩ rfl rfl hl.1 rfl (lv_room (Nat.le_of_ble_eq_true rfl)) dX2_requireLoad_4 ⟨Nat.le_of_ble_eq_true rfl, Nat.le_of_ble_eq_true rfl⟩) ?_
  show W _ _ _ _ _ _ _ _ _ _ _ _ _ _ _ (F0 m 7 ls [.int (bI (decide (0 ≤ v) && decide (v ≤ 60)))])
  obtain ⟨b0, hb0⟩ : ∃ b0 : Bool, b0 = (decide (0 ≤ v) && decide (v ≤ 60)) := ⟨_, rfl⟩
  rw [← hb0]
  refine lv_if_ne (tgt := 20) hx hb dX2_requireLoad_7 (by decide) (fun c_5 => ?_) (fun c_5 => ?_)
  · refine vx_ret ?_
    refine W.widen (k := 1) (n := 6) (by omega) (by omega) ?_
    exact W.vret hx hb hRt (fun t ht hW => ⟨⟨rfl, ht⟩, by cases b0 with | true => simpa using hb0.symm | false => exact absurd rfl c_5⟩) hS.2.2 dX2_requireLoad_20
  · exact c_throw (cls := xIAE) (text := "load must be 0 to 60") hx hb hfl hown (Or.inl rfl) (hts (.classLink RX2 34 xIAE) (by decide +kernel)) (hts (.initialized xIAE) (by decide +kernel)) hE0 hAL (by decide) (fun z hz => hts z (hin38 z hz)) (by decide +kernel) (by decide +kernel) hS hl.1 hml dX2_requireLoad_10 dX2_requireLoad_13 dX2_requireLoad_14 dX2_requireLoad_16 dX2_requireLoad_19 hxt (Nat.le_of_ble_eq_true rfl) (Nat.le_of_ble_eq_true rfl) (Nat.le_of_ble_eq_true rfl) (Nat.le_of_ble_eq_true rfl) hlocks (⟨rfl, fun hp => absurd c_5 (by rw [hb0]; simp [hp, bI])⟩) (fun H1 _ _ => trivial) (fun q h => h) (fun q h => h) (Nat.le_of_ble_eq_true rfl) (Nat.le_of_ble_eq_true rfl)
set_option maxHeartbeats 4000000 in
set_option maxRecDepth 100000 in
/-- X2_requireReach: returns or throws -/
theorem k_requireReach (l : Launch) (hfl : l.stackTraces = false) (D : va_G) (L0 : Nat) (v : Int32) : vx_Met l yX2_requireReach wsX2_requireReach ({ frames := 6, cells := 1, slots := 6, locals := 83 }) (cP L0 D [] [] [.int v]) (cRP none (3 ≤ v ∧ v ≤ 30)) (cX (fun E => E = xIAE ∧ ¬ (3 ≤ v ∧ v ≤ 30)) (fun _ => True) (fun _ => False)) 1 6 (fun _ => False) := by
  refine vx_ofW (cc := cX2_requireReach) (maxL := 1) (ret := none) (by decide) rfl ?_
  intro p e s m args below meth c s₁ B hml hxt hv
  obtain ⟨rfl, hP, hK, hD0, hE0⟩ := hv
  have hx := B.exec
  have hb := B.bytes
  have hRt := B.returns
  have hts := atoms_spec (ws := wsX2_requireReach) B.pre
  have hown : s.vm.findClass RX2 = some m.cls := findClass_of_methodNamed B.named
  have hlocks := B.notSynchronized
  have hAL : ∀ z9 : Nat, (fun _ : Nat => False) z9 → L0 ≤ z9 := fun z9 h9 => False.elim h9
  generalize hAe : (fun _ : Nat => False) = A at hAL ⊢
  have hS : va_S A s.heap s.heap [] := va_S.rf
  have hl := lv_entry ([.int v]) (n := 1) (Nat.le_of_ble_eq_true rfl)
  rw [lg_entry_eq]
  generalize (lg_sl ([.int v]) ++ List.replicate (1 - (lg_sl ([.int v])).length) Slot.unset).toArray = ls at hl ⊢
  have hl : lv_has ls 1 [(0, .int v)] := hl
  have hin38 : ∀ z ∈ (vx_atS RX2 38 xIAE kSup).filter goodWord, z ∈ wsX2_requireReach := by decide +kernel
  refine lv_iload_n hx hb dX2_requireReach_0 rfl (lv_at hl 0 rfl) ?_
  have hPc := hP.sub (ws' := []) [] rfl
  have hDc := hD0.sub (ws' := []) [] (by decide) rfl
  have hKc := hK.sub (tys' := []) [] rfl
  refine c_callR (va_runS (As := [.int v]) (rest := []) ⟨hx, hb, hml, hown, hts⟩ (k_isReach l D L0 v) (va_cwS 1 hts gX2_requireReach_X2_isReach rfl rfl rfl (by decide +kernel) ⟨Nat.le_of_ble_eq_true rfl, Nat.le_of_ble_eq_true rfl⟩) ⟨cP_blind, cP_of hPc hKc hDc (kE_at hE0 hAL hS)⟩ rfl rfl hl.1 rfl (lv_room (Nat.le_of_ble_eq_true rfl)) dX2_requireReach_1 ⟨Nat.le_of_ble_eq_true rfl, Nat.le_of_ble_eq_true rfl⟩) ?_
  show W _ _ _ _ _ _ _ _ _ _ _ _ _ _ _ (F0 m 4 ls [.int (bI (decide (3 ≤ v) && decide (v ≤ 30)))])
  obtain ⟨b0, hb0⟩ : ∃ b0 : Bool, b0 = (decide (3 ≤ v) && decide (v ≤ 30)) := ⟨_, rfl⟩
  rw [← hb0]
  refine lv_if_ne (tgt := 17) hx hb dX2_requireReach_4 (by decide) (fun c_6 => ?_) (fun c_6 => ?_)
  · refine vx_ret ?_
    refine W.widen (k := 1) (n := 6) (by omega) (by omega) ?_
    exact W.vret hx hb hRt (fun t ht hW => ⟨⟨rfl, ht⟩, by cases b0 with | true => simpa using hb0.symm | false => exact absurd rfl c_6⟩) hS.2.2 dX2_requireReach_17
  · exact c_throw (cls := xIAE) (text := "reach must be 3 to 30") hx hb hfl hown (Or.inl rfl) (hts (.classLink RX2 34 xIAE) (by decide +kernel)) (hts (.initialized xIAE) (by decide +kernel)) hE0 hAL (by decide) (fun z hz => hts z (hin38 z hz)) (by decide +kernel) (by decide +kernel) hS hl.1 hml dX2_requireReach_7 dX2_requireReach_10 dX2_requireReach_11 dX2_requireReach_13 dX2_requireReach_16 hxt (Nat.le_of_ble_eq_true rfl) (Nat.le_of_ble_eq_true rfl) (Nat.le_of_ble_eq_true rfl) (Nat.le_of_ble_eq_true rfl) hlocks (⟨rfl, fun hp => absurd c_6 (by rw [hb0]; simp [hp, bI])⟩) (fun H1 _ _ => trivial) (fun q h => h) (fun q h => h) (Nat.le_of_ble_eq_true rfl) (Nat.le_of_ble_eq_true rfl)
end
section
set_option maxHeartbeats 4000000 in
set_option maxRecDepth 100000 in
/-- draw(side, out) -/
theorem k_draw (l : Launch) (D : va_G) (L0 : Nat) (cI : ClassId) (h o q : Nat) (pl : Int32) (fo fl : Nat → Int32) (k : Nat) (v : Int32) (hk : k < 4) : Met l yX1_draw wsX1_draw ({ frames := 0, cells := 0, slots := 0, locals := 0 }) (cP L0 D [(cI, .int)] [(h, .inr (1, [.ref o, .ref q, .int pl])), (o, .inl (cI, 4, .inl fo)), (q, .inl (cI, 28, .inl fl))] [.ref h, .int (nI k), .int v]) (cB none (fun H => va_P D vwCl [(h, .inr (1, [.ref o, .ref q, .int pl])), (o, .inl (cI, 4, .inl (upd fo k v))), (q, .inl (cI, 28, .inl fl))] H) (cA [(h, .inr (1, [.ref o, .ref q, .int pl])), (o, .inl (cI, 4, .inl fo)), (q, .inl (cI, 28, .inl fl))])) 0 0 (cA [(h, .inr (1, [.ref o, .ref q, .int pl])), (o, .inl (cI, 4, .inl fo)), (q, .inl (cI, 28, .inl fl))]) := by
  refine Met.ofW (cc := cX1_draw) (maxL := 3) (ret := none) (by decide) rfl ?_
  intro p e s m args below meth c s₁ B hml hv
  obtain ⟨rfl, hP, hK, hD0, hE0⟩ := hv
  have hx := B.exec
  have hb := B.bytes
  have hRt := B.returns
  have hts := atoms_spec (ws := wsX1_draw) B.pre
  have hown : s.vm.findClass RX1 = some m.cls := findClass_of_methodNamed B.named
  have hlocks := B.notSynchronized
  have hAL : ∀ z9 : Nat, cA [(h, .inr (1, [.ref o, .ref q, .int pl])), (o, .inl (cI, 4, .inl fo)), (q, .inl (cI, 28, .inl fl))] z9 → L0 ≤ z9 := fun z9 ⟨k9, e9, h9⟩ => hD0.2 k9 (z9, e9) h9
  have hD : va_D (cA [(h, .inr (1, [.ref o, .ref q, .int pl])), (o, .inl (cI, 4, .inl fo)), (q, .inl (cI, 28, .inl fl))]) [(h, .inr (1, [.ref o, .ref q, .int pl])), (o, .inl (cI, 4, .inl fo)), (q, .inl (cI, 28, .inl fl))] := ⟨hD0.1, fun k9 z9 h9 => cA_of h9⟩
  generalize hAe : cA [(h, .inr (1, [.ref o, .ref q, .int pl])), (o, .inl (cI, 4, .inl fo)), (q, .inl (cI, 28, .inl fl))] = A at hD hAL ⊢
  have hS : va_S A s.heap s.heap [] := va_S.rf
  have hiX1 : ∀ w ∈ u_ws RX1 TX1 3, w ∈ wsX1_draw := by decide +kernel
  have hl := lv_entry ([.ref h, .int (nI k), .int v]) (n := 3) (Nat.le_of_ble_eq_true rfl)
  rw [lg_entry_eq]
  generalize (lg_sl ([.ref h, .int (nI k), .int v]) ++ List.replicate (3 - (lg_sl ([.ref h, .int (nI k), .int v])).length) Slot.unset).toArray = ls at hl ⊢
  have hl : lv_has ls 3 [(0, .ref h), (1, .int (nI k)), (2, .int v)] := hl
  refine lv_iload_n hx hb dX1_draw_0 rfl (lv_at hl 1 rfl) ?_
  refine lv_if_lt (tgt := 20) hx hb dX1_draw_1 (by decide) (fun c_1 => absurd c_1 (nI_pos (by omega))) (fun _ => ?_)
  refine lv_iload_n hx hb dX1_draw_4 rfl (lv_at hl 1 rfl) ?_
  refine lv_aload_n hx hb dX1_draw_5 rfl (lv_at hl 0 rfl) ?_
  refine va_get (D := D) (ci := 1) (v := .ref o) (C := RX1) (T := TX1) (N := 3) hx hb hts hiX1 hown hK hP 0 rfl rfl 0 (by decide) (hts (.fieldLink RX1 9 "CraneReach$Rig" "outs" "[I") (by decide +kernel)) (fun _ h9 => h9) rfl dX1_draw_6 ?_
  refine va_alen hx hb hK hP 1 0 rfl rfl (v := 4) rfl dX1_draw_9 ?_
  refine lv_icmp_ge (tgt := 20) hx hb dX1_draw_10 (by decide) (fun c_2 => absurd c_2 (nI_ge (b := 4) hk (by decide))) (fun _ => ?_)
  refine lv_aload_n hx hb dX1_draw_13 rfl (lv_at hl 0 rfl) ?_
  refine va_get (D := D) (ci := 1) (v := .ref o) (C := RX1) (T := TX1) (N := 3) hx hb hts hiX1 hown hK hP 0 rfl rfl 0 (by decide) (hts (.fieldLink RX1 9 "CraneReach$Rig" "outs" "[I") (by decide +kernel)) (fun _ h9 => h9) rfl dX1_draw_14 ?_
  refine lv_iload_n hx hb dX1_draw_17 rfl (lv_at hl 1 rfl) ?_
  refine lv_iload_n hx hb dX1_draw_18 rfl (lv_at hl 2 rfl) ?_
  refine va_iast hx hb hK hP hD hS 1 0 rfl rfl (vp_in_nI hk (by decide)) dX1_draw_19 (fun H locs hP hD hS => ?_)
  have hP : va_P D vwCl [(h, .inr (1, [.ref o, .ref q, .int pl])), (o, .inl (cI, 4, .inl (upd fo (nI k).toNatClampNeg v))), (q, .inl (cI, 28, .inl fl))] H := hP
  have hD : va_D A [(h, .inr (1, [.ref o, .ref q, .int pl])), (o, .inl (cI, 4, .inl (upd fo (nI k).toNatClampNeg v))), (q, .inl (cI, 28, .inl fl))] := hD
  rw [show (nI k).toNatClampNeg = k from nI_clamp (by omega)] at hP hD
  have hP : va_P D vwCl [(h, .inr (1, [.ref o, .ref q, .int pl])), (o, .inl (cI, 4, .inl (upd fo k v))), (q, .inl (cI, 28, .inl fl))] H := hP
  have hD : va_D A [(h, .inr (1, [.ref o, .ref q, .int pl])), (o, .inl (cI, 4, .inl (upd fo k v))), (q, .inl (cI, 28, .inl fl))] := hD
  exact W.vret hx hb hRt (fun t ht hW => ⟨⟨rfl, by rw [ht]; exact hP⟩, hS.F ht⟩) hS.2.2 dX1_draw_20
set_option maxHeartbeats 4000000 in
set_option maxRecDepth 100000 in
/-- allow(metres, limit) -/
theorem k_allow (l : Launch) (D : va_G) (L0 : Nat) (cI : ClassId) (h o q : Nat) (pl : Int32) (fo fl : Nat → Int32) (r : Nat) (v : Int32) (hr : 3 ≤ r ∧ r ≤ 30) : Met l yX1_allow wsX1_allow ({ frames := 0, cells := 0, slots := 0, locals := 0 }) (cP L0 D [(cI, .int)] [(h, .inr (1, [.ref o, .ref q, .int pl])), (o, .inl (cI, 4, .inl fo)), (q, .inl (cI, 28, .inl fl))] [.ref h, .int (nI r), .int v]) (cB none (fun H => va_P D vwCl [(h, .inr (1, [.ref o, .ref q, .int pl])), (o, .inl (cI, 4, .inl fo)), (q, .inl (cI, 28, .inl (upd fl (r - 3) v)))] H) (cA [(h, .inr (1, [.ref o, .ref q, .int pl])), (o, .inl (cI, 4, .inl fo)), (q, .inl (cI, 28, .inl fl))])) 0 0 (cA [(h, .inr (1, [.ref o, .ref q, .int pl])), (o, .inl (cI, 4, .inl fo)), (q, .inl (cI, 28, .inl fl))]) := by
  refine Met.ofW (cc := cX1_allow) (maxL := 4) (ret := none) (by decide) rfl ?_
  intro p e s m args below meth c s₁ B hml hv
  obtain ⟨rfl, hP, hK, hD0, hE0⟩ := hv
  have hx := B.exec
  have hb := B.bytes
  have hRt := B.returns
  have hts := atoms_spec (ws := wsX1_allow) B.pre
  have hown : s.vm.findClass RX1 = some m.cls := findClass_of_methodNamed B.named
  have hlocks := B.notSynchronized
  have hAL : ∀ z9 : Nat, cA [(h, .inr (1, [.ref o, .ref q, .int pl])), (o, .inl (cI, 4, .inl fo)), (q, .inl (cI, 28, .inl fl))] z9 → L0 ≤ z9 := fun z9 ⟨k9, e9, h9⟩ => hD0.2 k9 (z9, e9) h9
  have hD : va_D (cA [(h, .inr (1, [.ref o, .ref q, .int pl])), (o, .inl (cI, 4, .inl fo)), (q, .inl (cI, 28, .inl fl))]) [(h, .inr (1, [.ref o, .ref q, .int pl])), (o, .inl (cI, 4, .inl fo)), (q, .inl (cI, 28, .inl fl))] := ⟨hD0.1, fun k9 z9 h9 => cA_of h9⟩
  generalize hAe : cA [(h, .inr (1, [.ref o, .ref q, .int pl])), (o, .inl (cI, 4, .inl fo)), (q, .inl (cI, 28, .inl fl))] = A at hD hAL ⊢
  have hS : va_S A s.heap s.heap [] := va_S.rf
  have hiX1 : ∀ w ∈ u_ws RX1 TX1 3, w ∈ wsX1_allow := by decide +kernel
  have hl := lv_entry ([.ref h, .int (nI r), .int v]) (n := 4) (Nat.le_of_ble_eq_true rfl)
  rw [lg_entry_eq]
  generalize (lg_sl ([.ref h, .int (nI r), .int v]) ++ List.replicate (4 - (lg_sl ([.ref h, .int (nI r), .int v])).length) Slot.unset).toArray = ls at hl ⊢
  have hl : lv_has ls 4 [(0, .ref h), (1, .int (nI r)), (2, .int v)] := hl
  refine lv_iload_n hx hb dX1_allow_0 rfl (lv_at hl 1 rfl) ?_
  refine lv_iconst (v := 3) hx hb dX1_allow_1 (by decide) ?_
  refine lv_isub hx hb dX1_allow_2 ?_
  refine c_top (show (nI r) - 3 = nI (r - 3) from pk_sub hr.1) ?_
  refine lv_istore_n (lv' := [(3, .int (nI (r - 3))), (0, .ref h), (1, .int (nI r)), (2, .int v)]) hx hb dX1_allow_3 rfl hl (by decide) rfl (fun ls hl => ?_)
  refine lv_iload_n hx hb dX1_allow_4 rfl (lv_at hl 0 rfl) ?_
  refine lv_if_lt (tgt := 24) hx hb dX1_allow_5 (by decide) (fun c_3 => absurd c_3 (nI_pos (by omega))) (fun _ => ?_)
  refine lv_iload_n hx hb dX1_allow_8 rfl (lv_at hl 0 rfl) ?_
  refine lv_aload_n hx hb dX1_allow_9 rfl (lv_at hl 1 rfl) ?_
  refine va_get (D := D) (ci := 1) (v := .ref q) (C := RX1) (T := TX1) (N := 3) hx hb hts hiX1 hown hK hP 0 rfl rfl 1 (by decide) (hts (.fieldLink RX1 15 "CraneReach$Rig" "limits" "[I") (by decide +kernel)) (fun _ h9 => h9) rfl dX1_allow_10 ?_
  refine va_alen hx hb hK hP 2 0 rfl rfl (v := 28) rfl dX1_allow_13 ?_
  refine lv_icmp_ge (tgt := 24) hx hb dX1_allow_14 (by decide) (fun c_4 => absurd c_4 (nI_ge (b := 28) (by omega) (by decide))) (fun _ => ?_)
  refine lv_aload_n hx hb dX1_allow_17 rfl (lv_at hl 1 rfl) ?_
  refine va_get (D := D) (ci := 1) (v := .ref q) (C := RX1) (T := TX1) (N := 3) hx hb hts hiX1 hown hK hP 0 rfl rfl 1 (by decide) (hts (.fieldLink RX1 15 "CraneReach$Rig" "limits" "[I") (by decide +kernel)) (fun _ h9 => h9) rfl dX1_allow_18 ?_
  refine lv_iload_n hx hb dX1_allow_21 rfl (lv_at hl 0 rfl) ?_
  refine lv_iload_n hx hb dX1_allow_22 rfl (lv_at hl 3 rfl) ?_
  refine va_iast hx hb hK hP hD hS 2 0 rfl rfl (vp_in_nI (by omega) (by decide)) dX1_allow_23 (fun H locs hP hD hS => ?_)
  have hP : va_P D vwCl [(h, .inr (1, [.ref o, .ref q, .int pl])), (o, .inl (cI, 4, .inl fo)), (q, .inl (cI, 28, .inl (upd fl (nI (r - 3)).toNatClampNeg v)))] H := hP
  have hD : va_D A [(h, .inr (1, [.ref o, .ref q, .int pl])), (o, .inl (cI, 4, .inl fo)), (q, .inl (cI, 28, .inl (upd fl (nI (r - 3)).toNatClampNeg v)))] := hD
  rw [show (nI (r - 3)).toNatClampNeg = (r - 3) from nI_clamp (by omega)] at hP hD
  have hP : va_P D vwCl [(h, .inr (1, [.ref o, .ref q, .int pl])), (o, .inl (cI, 4, .inl fo)), (q, .inl (cI, 28, .inl (upd fl (r - 3) v)))] H := hP
  have hD : va_D A [(h, .inr (1, [.ref o, .ref q, .int pl])), (o, .inl (cI, 4, .inl fo)), (q, .inl (cI, 28, .inl (upd fl (r - 3) v)))] := hD
  exact W.vret hx hb hRt (fun t ht hW => ⟨⟨rfl, by rw [ht]; exact hP⟩, hS.F ht⟩) hS.2.2 dX1_allow_24
set_option maxHeartbeats 4000000 in
set_option maxRecDepth 100000 in
/-- becomeLike(other) -/
theorem k_becomeLike (l : Launch) (D : va_G) (L0 : Nat) (cI : ClassId) (h o q : Nat) (pl : Int32) (fo fl : Nat → Int32) (h2 o2 q2 : Nat) (pl2 : Int32) (fo2 fl2 : Nat → Int32) : Met l yX1_becomeLike wsX1_becomeLike ({ frames := 1, cells := 0, slots := 0, locals := 23 }) (cP L0 D [(cI, .int)] [(h, .inr (1, [.ref o, .ref q, .int pl])), (o, .inl (cI, 4, .inl fo)), (q, .inl (cI, 28, .inl fl)), (h2, .inr (1, [.ref o2, .ref q2, .int pl2])), (o2, .inl (cI, 4, .inl fo2)), (q2, .inl (cI, 28, .inl (sh fl2)))] [.ref h, .ref h2]) (cB none (fun H => va_P D vwCl [(h, .inr (1, [.ref o, .ref q, .int pl2])), (o, .inl (cI, 4, .inl fo2)), (q, .inl (cI, 28, .inl (sh fl2))), (h2, .inr (1, [.ref o2, .ref q2, .int pl2])), (o2, .inl (cI, 4, .inl fo2)), (q2, .inl (cI, 28, .inl (sh fl2)))] H) (cA [(h, .inr (1, [.ref o, .ref q, .int pl])), (o, .inl (cI, 4, .inl fo)), (q, .inl (cI, 28, .inl fl)), (h2, .inr (1, [.ref o2, .ref q2, .int pl2])), (o2, .inl (cI, 4, .inl fo2)), (q2, .inl (cI, 28, .inl (sh fl2)))])) 0 0 (cA [(h, .inr (1, [.ref o, .ref q, .int pl])), (o, .inl (cI, 4, .inl fo)), (q, .inl (cI, 28, .inl fl)), (h2, .inr (1, [.ref o2, .ref q2, .int pl2])), (o2, .inl (cI, 4, .inl fo2)), (q2, .inl (cI, 28, .inl (sh fl2)))]) := by
  refine Met.ofW (cc := cX1_becomeLike) (maxL := 3) (ret := none) (by decide) rfl ?_
  intro p e s m args below meth c s₁ B hml hv
  obtain ⟨rfl, hP, hK, hD0, hE0⟩ := hv
  have hx := B.exec
  have hb := B.bytes
  have hRt := B.returns
  have hts := atoms_spec (ws := wsX1_becomeLike) B.pre
  have hown : s.vm.findClass RX1 = some m.cls := findClass_of_methodNamed B.named
  have hlocks := B.notSynchronized
  have hAL : ∀ z9 : Nat, cA [(h, .inr (1, [.ref o, .ref q, .int pl])), (o, .inl (cI, 4, .inl fo)), (q, .inl (cI, 28, .inl fl)), (h2, .inr (1, [.ref o2, .ref q2, .int pl2])), (o2, .inl (cI, 4, .inl fo2)), (q2, .inl (cI, 28, .inl (sh fl2)))] z9 → L0 ≤ z9 := fun z9 ⟨k9, e9, h9⟩ => hD0.2 k9 (z9, e9) h9
  have hD : va_D (cA [(h, .inr (1, [.ref o, .ref q, .int pl])), (o, .inl (cI, 4, .inl fo)), (q, .inl (cI, 28, .inl fl)), (h2, .inr (1, [.ref o2, .ref q2, .int pl2])), (o2, .inl (cI, 4, .inl fo2)), (q2, .inl (cI, 28, .inl (sh fl2)))]) [(h, .inr (1, [.ref o, .ref q, .int pl])), (o, .inl (cI, 4, .inl fo)), (q, .inl (cI, 28, .inl fl)), (h2, .inr (1, [.ref o2, .ref q2, .int pl2])), (o2, .inl (cI, 4, .inl fo2)), (q2, .inl (cI, 28, .inl (sh fl2)))] := ⟨hD0.1, fun k9 z9 h9 => cA_of h9⟩
  generalize hAe : cA [(h, .inr (1, [.ref o, .ref q, .int pl])), (o, .inl (cI, 4, .inl fo)), (q, .inl (cI, 28, .inl fl)), (h2, .inr (1, [.ref o2, .ref q2, .int pl2])), (o2, .inl (cI, 4, .inl fo2)), (q2, .inl (cI, 28, .inl (sh fl2)))] = A at hD hAL ⊢
  have hS : va_S A s.heap s.heap [] := va_S.rf
  have hiX1 : ∀ w ∈ u_ws RX1 TX1 3, w ∈ wsX1_becomeLike := by decide +kernel
  have hl := lv_entry ([.ref h, .ref h2]) (n := 3) (Nat.le_of_ble_eq_true rfl)
  rw [lg_entry_eq]
  generalize (lg_sl ([.ref h, .ref h2]) ++ List.replicate (3 - (lg_sl ([.ref h, .ref h2])).length) Slot.unset).toArray = ls at hl ⊢
  have hl : lv_has ls 3 [(0, .ref h), (1, .ref h2)] := hl
  have loop2 : ∀ (n : Nat) (i : Nat) (gl : Nat → Int32) (H : Heap) (locs : List Loc) (ls : Array Slot), i + n = 32 → 3 ≤ i ∧ i ≤ 31 → (∀ j, j + 3 < i → gl j = sh fl2 j) → lv_has ls 3 [(2, .int (nI i)), (0, .ref h), (1, .ref h2)] → va_P D vwCl [(h, .inr (1, [.ref o, .ref q, .int pl2])), (o, .inl (cI, 4, .inl fo2)), (q, .inl (cI, 28, .inl gl)), (h2, .inr (1, [.ref o2, .ref q2, .int pl2])), (o2, .inl (cI, 4, .inl fo2)), (q2, .inl (cI, 28, .inl (sh fl2)))] H → va_D A [(h, .inr (1, [.ref o, .ref q, .int pl2])), (o, .inl (cI, 4, .inl fo2)), (q, .inl (cI, 28, .inl gl)), (h2, .inr (1, [.ref o2, .ref q2, .int pl2])), (o2, .inl (cI, 4, .inl fo2)), (q2, .inl (cI, 28, .inl (sh fl2)))] → va_S A s.heap H locs → W p l e (headSpec wsX1_becomeLike ({ frames := 1, cells := 0, slots := 0, locals := 23 })).room s m ([.ref h, .ref h2]).toArray below meth c H locs 0 0 (MQ below (cB none (fun H => va_P D vwCl [(h, .inr (1, [.ref o, .ref q, .int pl2])), (o, .inl (cI, 4, .inl fo2)), (q, .inl (cI, 28, .inl (sh fl2))), (h2, .inr (1, [.ref o2, .ref q2, .int pl2])), (o2, .inl (cI, 4, .inl fo2)), (q2, .inl (cI, 28, .inl (sh fl2)))] H) A) ([.ref h, .ref h2]).toArray s 0 0 A) (F0 m 33 ls []) := by
    intro n
    induction n with
    | zero =>
      intro i gl H locs ls hn h3 hg hl hP hD hS
      exact absurd hn (by omega)
    | succ n ih =>
      intro i gl H locs ls hn h3 hg hl hP hD hS
      refine lv_iload_n hx hb dX1_becomeLike_33 rfl (lv_at hl 0 rfl) ?_
      refine lv_bipush (v := 30) hx hb dX1_becomeLike_34 (by decide) ?_
      refine lv_icmp_gt (tgt := 55) hx hb dX1_becomeLike_36 (by decide) (fun c_5 => ?_) (fun c_5 => ?_)
      · have hi : i = 31 := by
          rcases Nat.lt_or_ge 30 i with z | z
          · omega
          · exact absurd c_5 (Int32.not_lt.mpr (nI_le (b := 30) z (by decide)))
        have hP : va_P D vwCl [(h, .inr (1, [.ref o, .ref q, .int pl2])), (o, .inl (cI, 4, .inl fo2)), (q, .inl (cI, 28, .inl (sh fl2))), (h2, .inr (1, [.ref o2, .ref q2, .int pl2])), (o2, .inl (cI, 4, .inl fo2)), (q2, .inl (cI, 28, .inl (sh fl2)))] H := by
          intro k z hz
          match k, hz with
          | 0, hz => exact hP 0 z hz
          | 1, hz => exact hP 1 z hz
          | 2, hz => cases hz; exact arr_same (hP 2 _ rfl) (fun j hj => hg j (by omega))
          | 3, hz => exact hP 3 z hz
          | 4, hz => exact hP 4 z hz
          | 5, hz => exact hP 5 z hz
          | k + 6, hz => cases hz
        exact W.vret hx hb hRt (fun t ht hW => ⟨⟨rfl, by rw [ht]; exact hP⟩, hS.F ht⟩) hS.2.2 dX1_becomeLike_55
      · have hi : i ≤ 30 := by
          rcases Nat.lt_or_ge 30 i with z | z
          · exact absurd (nI_lt (a := 30) z (by omega)) c_5
          · exact z
        refine lv_aload_n hx hb dX1_becomeLike_39 rfl (lv_at hl 1 rfl) ?_
        refine lv_iload_n hx hb dX1_becomeLike_40 rfl (lv_at hl 0 rfl) ?_
        refine lv_aload_n hx hb dX1_becomeLike_41 rfl (lv_at hl 2 rfl) ?_
        refine lv_iload_n hx hb dX1_becomeLike_42 rfl (lv_at hl 0 rfl) ?_
        have hPc := hP.sub (ws' := [(h2, .inr (1, [.ref o2, .ref q2, .int pl2])), (o2, .inl (cI, 4, .inl fo2)), (q2, .inl (cI, 28, .inl (sh fl2)))]) [3, 4, 5] rfl
        have hDc : va_D (fun q : Nat => L0 ≤ q) [(h2, .inr (1, [.ref o2, .ref q2, .int pl2])), (o2, .inl (cI, 4, .inl fo2)), (q2, .inl (cI, 28, .inl (sh fl2)))] := (hD.sub (ws' := [(h2, .inr (1, [.ref o2, .ref q2, .int pl2])), (o2, .inl (cI, 4, .inl fo2)), (q2, .inl (cI, 28, .inl (sh fl2)))]) [3, 4, 5] (by decide) rfl).weaken (fun _ z9 _ h9 => hAL _ h9)
        have hKc := hK.sub (tys' := [(cI, .int)]) [0] rfl
        refine c_callR (va_runV (As := [.int (nI i)]) (rest := [.int (nI i), .ref h]) ⟨hx, hb, hml, hown, hts⟩ (k_allowed l D L0 cI h2 o2 q2 pl2 fo2 (sh fl2) i ⟨h3.1, hi⟩) (cwV 1 hts gX1_becomeLike_X1_allowed rfl rfl rfl (by decide +kernel) ⟨Nat.le_of_ble_eq_true rfl, Nat.le_of_ble_eq_true rfl⟩) ⟨cP_blind, va_recv hKc hPc (ci := 1) (q0 := 0) rfl rfl, cP_of hPc hKc hDc (kE_at hE0 hAL hS)⟩ rfl rfl hl.1 rfl (lv_room (Nat.le_of_ble_eq_true rfl)) dX1_becomeLike_43 ⟨Nat.le_of_ble_eq_true rfl, Nat.le_of_ble_eq_true rfl⟩) ?_
        show W _ _ _ _ _ _ _ _ _ _ _ _ _ _ _ (F0 m 46 ls [.int (sh fl2 (i - 3)), .int (nI i), .ref h])
        refine c_top (show sh fl2 (i - 3) = fl2 i from sh_at h3.1) ?_
        have hPc := hP.sub (ws' := [(h, .inr (1, [.ref o, .ref q, .int pl2])), (o, .inl (cI, 4, .inl fo2)), (q, .inl (cI, 28, .inl gl))]) [0, 1, 2] rfl
        have hDc : va_D (fun q : Nat => L0 ≤ q) [(h, .inr (1, [.ref o, .ref q, .int pl2])), (o, .inl (cI, 4, .inl fo2)), (q, .inl (cI, 28, .inl gl))] := (hD.sub (ws' := [(h, .inr (1, [.ref o, .ref q, .int pl2])), (o, .inl (cI, 4, .inl fo2)), (q, .inl (cI, 28, .inl gl))]) [0, 1, 2] (by decide) rfl).weaken (fun _ z9 _ h9 => hAL _ h9)
        have hKc := hK.sub (tys' := [(cI, .int)]) [0] rfl
        refine c_callB (va_runV (As := [.int (nI i), .int (fl2 i)]) (rest := []) ⟨hx, hb, hml, hown, hts⟩ (k_allow l D L0 cI h o q pl2 fo2 gl i (fl2 i) ⟨h3.1, hi⟩) (cwV 2 hts gX1_becomeLike_X1_allow rfl rfl rfl (by decide +kernel) ⟨Nat.le_of_ble_eq_true rfl, Nat.le_of_ble_eq_true rfl⟩) ⟨cP_blind, va_recv hKc hPc (ci := 1) (q0 := 0) rfl rfl, cP_of hPc hKc hDc (kE_at hE0 hAL hS)⟩ rfl rfl hl.1 rfl (lv_room (Nat.le_of_ble_eq_true rfl)) dX1_becomeLike_46 ⟨Nat.le_of_ble_eq_true rfl, Nat.le_of_ble_eq_true rfl⟩) hS (fun z9 _ ⟨k9, e9, h9⟩ => (hD.sub (ws' := [(h, .inr (1, [.ref o, .ref q, .int pl2])), (o, .inl (cI, 4, .inl fo2)), (q, .inl (cI, 28, .inl gl))]) [0, 1, 2] (by decide) rfl).2 k9 (z9, e9) h9) (fun z9 ⟨k9, e9, h9⟩ => (hD.sub (ws' := [(h, .inr (1, [.ref o, .ref q, .int pl2])), (o, .inl (cI, 4, .inl fo2)), (q, .inl (cI, 28, .inl gl))]) [0, 1, 2] (by decide) rfl).2 k9 (z9, e9) h9) (fun H1 locs hB hz1 hk1 hS => ?_)
        obtain ⟨hP, hD⟩ := c_join (ws' := [(h, .inr (1, [.ref o, .ref q, .int pl2])), (o, .inl (cI, 4, .inl fo2)), (q, .inl (cI, 28, .inl (upd gl (i - 3) (fl2 i)))), (h2, .inr (1, [.ref o2, .ref q2, .int pl2])), (o2, .inl (cI, 4, .inl fo2)), (q2, .inl (cI, 28, .inl (sh fl2)))]) (wr := [(h2, .inr (1, [.ref o2, .ref q2, .int pl2])), (o2, .inl (cI, 4, .inl fo2)), (q2, .inl (cI, 28, .inl (sh fl2)))]) (w1 := [(h, .inr (1, [.ref o, .ref q, .int pl2])), (o, .inl (cI, 4, .inl fo2)), (q, .inl (cI, 28, .inl (upd gl (i - 3) (fl2 i))))]) hP hD [0, 1, 2] [3, 4, 5] [3, 4, 5, 0, 1, 2] rfl rfl (by decide) (by decide) hk1 hB rfl rfl rfl (by decide)
        generalize H1 = H at hP hS ⊢
        show W _ _ _ _ _ _ _ _ _ _ _ _ _ _ _ (F0 m 49 ls [])
        refine lv_iinc (v := (nI i) + 1) (lv' := [(2, .int ((nI i) + 1)), (0, .ref h), (1, .ref h2)]) hx hb dX1_becomeLike_49 hl (k := 0) rfl rfl (by decide) rfl (fun ls hl => ?_)
        refine lv_goto (tgt := 33) hx hb dX1_becomeLike_52 (by decide) ?_
        have hl : lv_has ls 3 [(2, .int (nI (i + 1))), (0, .ref h), (1, .ref h2)] := (show (nI i) + 1 = nI (i + 1) from nI_1 i) ▸ hl
        exact ih (i + 1) _ _ _ _ (by omega) (by omega) (fun j hj => by
              by_cases e : j = i - 3
              · subst e; rw [pk_us]; congr 1; omega
              · rw [pk_un e]; exact hg j (by omega)) (lv_sub hl [0, 1, 2] rfl) hP hD hS
  refine lv_aload_n hx hb dX1_becomeLike_0 rfl (lv_at hl 0 rfl) ?_
  refine lv_aload_n hx hb dX1_becomeLike_1 rfl (lv_at hl 1 rfl) ?_
  refine va_get (D := D) (ci := 1) (v := .int pl2) (C := RX1) (T := TX1) (N := 3) hx hb hts hiX1 hown hK hP 3 rfl rfl 2 (by decide) (hts (.fieldLink RX1 18 "CraneReach$Rig" "plates" "I") (by decide +kernel)) (fun _ h9 => h9) rfl dX1_becomeLike_2 ?_
  refine va_put (D := D) (ci := 1) (v := .int pl2) (ty := .int) (C := RX1) (T := TX1) (N := 3) hx hb hts hiX1 tyX1 tyX1_ok nmX1 hown hK hP hD hS 0 rfl rfl 2 (by decide) (hts (.fieldLink RX1 18 "CraneReach$Rig" "plates" "I") (by decide +kernel)) (fun _ h9 => h9) rfl (by decide +kernel) rfl rfl (Nat.le_of_ble_eq_true rfl) dX1_becomeLike_5 (fun H locs hP hD hS => ?_)
  have hP : va_P D vwCl [(h, .inr (1, [.ref o, .ref q, .int pl2])), (o, .inl (cI, 4, .inl fo)), (q, .inl (cI, 28, .inl fl)), (h2, .inr (1, [.ref o2, .ref q2, .int pl2])), (o2, .inl (cI, 4, .inl fo2)), (q2, .inl (cI, 28, .inl (sh fl2)))] H := hP
  have hD : va_D A [(h, .inr (1, [.ref o, .ref q, .int pl2])), (o, .inl (cI, 4, .inl fo)), (q, .inl (cI, 28, .inl fl)), (h2, .inr (1, [.ref o2, .ref q2, .int pl2])), (o2, .inl (cI, 4, .inl fo2)), (q2, .inl (cI, 28, .inl (sh fl2)))] := hD
  refine lv_iconst (v := 0) hx hb dX1_becomeLike_8 (by decide) ?_
  refine lv_istore_n (lv' := [(2, .int 0), (0, .ref h), (1, .ref h2)]) hx hb dX1_becomeLike_9 rfl hl (by decide) rfl (fun ls hl => ?_)
  refine lv_iload_n hx hb dX1_becomeLike_10 rfl (lv_at hl 0 rfl) ?_
  refine lv_iconst (v := 4) hx hb dX1_becomeLike_11 (by decide) ?_
  refine lv_icmp_ge (tgt := 31) hx hb dX1_becomeLike_12 (by decide) (fun c_6 => absurd c_6 (by decide)) (fun _ => ?_)
  refine lv_aload_n hx hb dX1_becomeLike_15 rfl (lv_at hl 1 rfl) ?_
  refine lv_iload_n hx hb dX1_becomeLike_16 rfl (lv_at hl 0 rfl) ?_
  refine lv_aload_n hx hb dX1_becomeLike_17 rfl (lv_at hl 2 rfl) ?_
  refine lv_iload_n hx hb dX1_becomeLike_18 rfl (lv_at hl 0 rfl) ?_
  have hPc := hP.sub (ws' := [(h2, .inr (1, [.ref o2, .ref q2, .int pl2])), (o2, .inl (cI, 4, .inl fo2)), (q2, .inl (cI, 28, .inl (sh fl2)))]) [3, 4, 5] rfl
  have hDc : va_D (fun q : Nat => L0 ≤ q) [(h2, .inr (1, [.ref o2, .ref q2, .int pl2])), (o2, .inl (cI, 4, .inl fo2)), (q2, .inl (cI, 28, .inl (sh fl2)))] := (hD.sub (ws' := [(h2, .inr (1, [.ref o2, .ref q2, .int pl2])), (o2, .inl (cI, 4, .inl fo2)), (q2, .inl (cI, 28, .inl (sh fl2)))]) [3, 4, 5] (by decide) rfl).weaken (fun _ z9 _ h9 => hAL _ h9)
  have hKc := hK.sub (tys' := [(cI, .int)]) [0] rfl
  refine c_callR (va_runV (As := [.int (nI 0)]) (rest := [.int 0, .ref h]) ⟨hx, hb, hml, hown, hts⟩ (k_drawn l D L0 cI h2 o2 q2 pl2 fo2 (sh fl2) 0 (by decide)) (cwV 1 hts gX1_becomeLike_X1_drawn rfl rfl rfl (by decide +kernel) ⟨Nat.le_of_ble_eq_true rfl, Nat.le_of_ble_eq_true rfl⟩) ⟨cP_blind, va_recv hKc hPc (ci := 1) (q0 := 0) rfl rfl, cP_of hPc hKc hDc (kE_at hE0 hAL hS)⟩ rfl rfl hl.1 rfl (lv_room (Nat.le_of_ble_eq_true rfl)) dX1_becomeLike_19 ⟨Nat.le_of_ble_eq_true rfl, Nat.le_of_ble_eq_true rfl⟩) ?_
  show W _ _ _ _ _ _ _ _ _ _ _ _ _ _ _ (F0 m 22 ls [.int (fo2 0), .int 0, .ref h])
  have hPc := hP.sub (ws' := [(h, .inr (1, [.ref o, .ref q, .int pl2])), (o, .inl (cI, 4, .inl fo)), (q, .inl (cI, 28, .inl fl))]) [0, 1, 2] rfl
  have hDc : va_D (fun q : Nat => L0 ≤ q) [(h, .inr (1, [.ref o, .ref q, .int pl2])), (o, .inl (cI, 4, .inl fo)), (q, .inl (cI, 28, .inl fl))] := (hD.sub (ws' := [(h, .inr (1, [.ref o, .ref q, .int pl2])), (o, .inl (cI, 4, .inl fo)), (q, .inl (cI, 28, .inl fl))]) [0, 1, 2] (by decide) rfl).weaken (fun _ z9 _ h9 => hAL _ h9)
  have hKc := hK.sub (tys' := [(cI, .int)]) [0] rfl
  refine c_callB (va_runV (As := [.int (nI 0), .int (fo2 0)]) (rest := []) ⟨hx, hb, hml, hown, hts⟩ (k_draw l D L0 cI h o q pl2 fo fl 0 (fo2 0) (by decide)) (cwV 2 hts gX1_becomeLike_X1_draw rfl rfl rfl (by decide +kernel) ⟨Nat.le_of_ble_eq_true rfl, Nat.le_of_ble_eq_true rfl⟩) ⟨cP_blind, va_recv hKc hPc (ci := 1) (q0 := 0) rfl rfl, cP_of hPc hKc hDc (kE_at hE0 hAL hS)⟩ rfl rfl hl.1 rfl (lv_room (Nat.le_of_ble_eq_true rfl)) dX1_becomeLike_22 ⟨Nat.le_of_ble_eq_true rfl, Nat.le_of_ble_eq_true rfl⟩) hS (fun z9 _ ⟨k9, e9, h9⟩ => (hD.sub (ws' := [(h, .inr (1, [.ref o, .ref q, .int pl2])), (o, .inl (cI, 4, .inl fo)), (q, .inl (cI, 28, .inl fl))]) [0, 1, 2] (by decide) rfl).2 k9 (z9, e9) h9) (fun z9 ⟨k9, e9, h9⟩ => (hD.sub (ws' := [(h, .inr (1, [.ref o, .ref q, .int pl2])), (o, .inl (cI, 4, .inl fo)), (q, .inl (cI, 28, .inl fl))]) [0, 1, 2] (by decide) rfl).2 k9 (z9, e9) h9) (fun H1 locs hB hz1 hk1 hS => ?_)
  obtain ⟨hP, hD⟩ := c_join (ws' := [(h, .inr (1, [.ref o, .ref q, .int pl2])), (o, .inl (cI, 4, .inl (upd fo 0 (fo2 0)))), (q, .inl (cI, 28, .inl fl)), (h2, .inr (1, [.ref o2, .ref q2, .int pl2])), (o2, .inl (cI, 4, .inl fo2)), (q2, .inl (cI, 28, .inl (sh fl2)))]) (wr := [(h2, .inr (1, [.ref o2, .ref q2, .int pl2])), (o2, .inl (cI, 4, .inl fo2)), (q2, .inl (cI, 28, .inl (sh fl2)))]) (w1 := [(h, .inr (1, [.ref o, .ref q, .int pl2])), (o, .inl (cI, 4, .inl (upd fo 0 (fo2 0)))), (q, .inl (cI, 28, .inl fl))]) hP hD [0, 1, 2] [3, 4, 5] [3, 4, 5, 0, 1, 2] rfl rfl (by decide) (by decide) hk1 hB rfl rfl rfl (by decide)
  generalize H1 = H at hP hS ⊢
  show W _ _ _ _ _ _ _ _ _ _ _ _ _ _ _ (F0 m 25 ls [])
  refine lv_iinc (v := 1) (lv' := [(2, .int 1), (0, .ref h), (1, .ref h2)]) hx hb dX1_becomeLike_25 hl (k := 0) rfl (by decide) (by decide) rfl (fun ls hl => ?_)
  refine lv_goto (tgt := 10) hx hb dX1_becomeLike_28 (by decide) ?_
  refine lv_iload_n hx hb dX1_becomeLike_10 rfl (lv_at hl 0 rfl) ?_
  refine lv_iconst (v := 4) hx hb dX1_becomeLike_11 (by decide) ?_
  refine lv_icmp_ge (tgt := 31) hx hb dX1_becomeLike_12 (by decide) (fun c_7 => absurd c_7 (by decide)) (fun _ => ?_)
  refine lv_aload_n hx hb dX1_becomeLike_15 rfl (lv_at hl 1 rfl) ?_
  refine lv_iload_n hx hb dX1_becomeLike_16 rfl (lv_at hl 0 rfl) ?_
  refine lv_aload_n hx hb dX1_becomeLike_17 rfl (lv_at hl 2 rfl) ?_
  refine lv_iload_n hx hb dX1_becomeLike_18 rfl (lv_at hl 0 rfl) ?_
  have hPc := hP.sub (ws' := [(h2, .inr (1, [.ref o2, .ref q2, .int pl2])), (o2, .inl (cI, 4, .inl fo2)), (q2, .inl (cI, 28, .inl (sh fl2)))]) [3, 4, 5] rfl
  have hDc : va_D (fun q : Nat => L0 ≤ q) [(h2, .inr (1, [.ref o2, .ref q2, .int pl2])), (o2, .inl (cI, 4, .inl fo2)), (q2, .inl (cI, 28, .inl (sh fl2)))] := (hD.sub (ws' := [(h2, .inr (1, [.ref o2, .ref q2, .int pl2])), (o2, .inl (cI, 4, .inl fo2)), (q2, .inl (cI, 28, .inl (sh fl2)))]) [3, 4, 5] (by decide) rfl).weaken (fun _ z9 _ h9 => hAL _ h9)
  have hKc := hK.sub (tys' := [(cI, .int)]) [0] rfl
  refine c_callR (va_runV (As := [.int (nI 1)]) (rest := [.int 1, .ref h]) ⟨hx, hb, hml, hown, hts⟩ (k_drawn l D L0 cI h2 o2 q2 pl2 fo2 (sh fl2) 1 (by decide)) (cwV 1 hts gX1_becomeLike_X1_drawn rfl rfl rfl (by decide +kernel) ⟨Nat.le_of_ble_eq_true rfl, Nat.le_of_ble_eq_true rfl⟩) ⟨cP_blind, va_recv hKc hPc (ci := 1) (q0 := 0) rfl rfl, cP_of hPc hKc hDc (kE_at hE0 hAL hS)⟩ rfl rfl hl.1 rfl (lv_room (Nat.le_of_ble_eq_true rfl)) dX1_becomeLike_19 ⟨Nat.le_of_ble_eq_true rfl, Nat.le_of_ble_eq_true rfl⟩) ?_
  show W _ _ _ _ _ _ _ _ _ _ _ _ _ _ _ (F0 m 22 ls [.int (fo2 1), .int 1, .ref h])
  have hPc := hP.sub (ws' := [(h, .inr (1, [.ref o, .ref q, .int pl2])), (o, .inl (cI, 4, .inl (upd fo 0 (fo2 0)))), (q, .inl (cI, 28, .inl fl))]) [0, 1, 2] rfl
  have hDc : va_D (fun q : Nat => L0 ≤ q) [(h, .inr (1, [.ref o, .ref q, .int pl2])), (o, .inl (cI, 4, .inl (upd fo 0 (fo2 0)))), (q, .inl (cI, 28, .inl fl))] := (hD.sub (ws' := [(h, .inr (1, [.ref o, .ref q, .int pl2])), (o, .inl (cI, 4, .inl (upd fo 0 (fo2 0)))), (q, .inl (cI, 28, .inl fl))]) [0, 1, 2] (by decide) rfl).weaken (fun _ z9 _ h9 => hAL _ h9)
  have hKc := hK.sub (tys' := [(cI, .int)]) [0] rfl
  refine c_callB (va_runV (As := [.int (nI 1), .int (fo2 1)]) (rest := []) ⟨hx, hb, hml, hown, hts⟩ (k_draw l D L0 cI h o q pl2 (upd fo 0 (fo2 0)) fl 1 (fo2 1) (by decide)) (cwV 2 hts gX1_becomeLike_X1_draw rfl rfl rfl (by decide +kernel) ⟨Nat.le_of_ble_eq_true rfl, Nat.le_of_ble_eq_true rfl⟩) ⟨cP_blind, va_recv hKc hPc (ci := 1) (q0 := 0) rfl rfl, cP_of hPc hKc hDc (kE_at hE0 hAL hS)⟩ rfl rfl hl.1 rfl (lv_room (Nat.le_of_ble_eq_true rfl)) dX1_becomeLike_22 ⟨Nat.le_of_ble_eq_true rfl, Nat.le_of_ble_eq_true rfl⟩) hS (fun z9 _ ⟨k9, e9, h9⟩ => (hD.sub (ws' := [(h, .inr (1, [.ref o, .ref q, .int pl2])), (o, .inl (cI, 4, .inl (upd fo 0 (fo2 0)))), (q, .inl (cI, 28, .inl fl))]) [0, 1, 2] (by decide) rfl).2 k9 (z9, e9) h9) (fun z9 ⟨k9, e9, h9⟩ => (hD.sub (ws' := [(h, .inr (1, [.ref o, .ref q, .int pl2])), (o, .inl (cI, 4, .inl (upd fo 0 (fo2 0)))), (q, .inl (cI, 28, .inl fl))]) [0, 1, 2] (by decide) rfl).2 k9 (z9, e9) h9) (fun H1 locs hB hz1 hk1 hS => ?_)
  obtain ⟨hP, hD⟩ := c_join (ws' := [(h, .inr (1, [.ref o, .ref q, .int pl2])), (o, .inl (cI, 4, .inl (upd (upd fo 0 (fo2 0)) 1 (fo2 1)))), (q, .inl (cI, 28, .inl fl)), (h2, .inr (1, [.ref o2, .ref q2, .int pl2])), (o2, .inl (cI, 4, .inl fo2)), (q2, .inl (cI, 28, .inl (sh fl2)))]) (wr := [(h2, .inr (1, [.ref o2, .ref q2, .int pl2])), (o2, .inl (cI, 4, .inl fo2)), (q2, .inl (cI, 28, .inl (sh fl2)))]) (w1 := [(h, .inr (1, [.ref o, .ref q, .int pl2])), (o, .inl (cI, 4, .inl (upd (upd fo 0 (fo2 0)) 1 (fo2 1)))), (q, .inl (cI, 28, .inl fl))]) hP hD [0, 1, 2] [3, 4, 5] [3, 4, 5, 0, 1, 2] rfl rfl (by decide) (by decide) hk1 hB rfl rfl rfl (by decide)
  generalize H1 = H at hP hS ⊢
  show W _ _ _ _ _ _ _ _ _ _ _ _ _ _ _ (F0 m 25 ls [])
  refine lv_iinc (v := 2) (lv' := [(2, .int 2), (0, .ref h), (1, .ref h2)]) hx hb dX1_becomeLike_25 hl (k := 0) rfl (by decide) (by decide) rfl (fun ls hl => ?_)
  refine lv_goto (tgt := 10) hx hb dX1_becomeLike_28 (by decide) ?_
  refine lv_iload_n hx hb dX1_becomeLike_10 rfl (lv_at hl 0 rfl) ?_
  refine lv_iconst (v := 4) hx hb dX1_becomeLike_11 (by decide) ?_
  refine lv_icmp_ge (tgt := 31) hx hb dX1_becomeLike_12 (by decide) (fun c_8 => absurd c_8 (by decide)) (fun _ => ?_)
  refine lv_aload_n hx hb dX1_becomeLike_15 rfl (lv_at hl 1 rfl) ?_
  refine lv_iload_n hx hb dX1_becomeLike_16 rfl (lv_at hl 0 rfl) ?_
  refine lv_aload_n hx hb dX1_becomeLike_17 rfl (lv_at hl 2 rfl) ?_
  refine lv_iload_n hx hb dX1_becomeLike_18 rfl (lv_at hl 0 rfl) ?_
  have hPc := hP.sub (ws' := [(h2, .inr (1, [.ref o2, .ref q2, .int pl2])), (o2, .inl (cI, 4, .inl fo2)), (q2, .inl (cI, 28, .inl (sh fl2)))]) [3, 4, 5] rfl
  have hDc : va_D (fun q : Nat => L0 ≤ q) [(h2, .inr (1, [.ref o2, .ref q2, .int pl2])), (o2, .inl (cI, 4, .inl fo2)), (q2, .inl (cI, 28, .inl (sh fl2)))] := (hD.sub (ws' := [(h2, .inr (1, [.ref o2, .ref q2, .int pl2])), (o2, .inl (cI, 4, .inl fo2)), (q2, .inl (cI, 28, .inl (sh fl2)))]) [3, 4, 5] (by decide) rfl).weaken (fun _ z9 _ h9 => hAL _ h9)
  have hKc := hK.sub (tys' := [(cI, .int)]) [0] rfl
  refine c_callR (va_runV (As := [.int (nI 2)]) (rest := [.int 2, .ref h]) ⟨hx, hb, hml, hown, hts⟩ (k_drawn l D L0 cI h2 o2 q2 pl2 fo2 (sh fl2) 2 (by decide)) (cwV 1 hts gX1_becomeLike_X1_drawn rfl rfl rfl (by decide +kernel) ⟨Nat.le_of_ble_eq_true rfl, Nat.le_of_ble_eq_true rfl⟩) ⟨cP_blind, va_recv hKc hPc (ci := 1) (q0 := 0) rfl rfl, cP_of hPc hKc hDc (kE_at hE0 hAL hS)⟩ rfl rfl hl.1 rfl (lv_room (Nat.le_of_ble_eq_true rfl)) dX1_becomeLike_19 ⟨Nat.le_of_ble_eq_true rfl, Nat.le_of_ble_eq_true rfl⟩) ?_
  show W _ _ _ _ _ _ _ _ _ _ _ _ _ _ _ (F0 m 22 ls [.int (fo2 2), .int 2, .ref h])
  have hPc := hP.sub (ws' := [(h, .inr (1, [.ref o, .ref q, .int pl2])), (o, .inl (cI, 4, .inl (upd (upd fo 0 (fo2 0)) 1 (fo2 1)))), (q, .inl (cI, 28, .inl fl))]) [0, 1, 2] rfl
  have hDc : va_D (fun q : Nat => L0 ≤ q) [(h, .inr (1, [.ref o, .ref q, .int pl2])), (o, .inl (cI, 4, .inl (upd (upd fo 0 (fo2 0)) 1 (fo2 1)))), (q, .inl (cI, 28, .inl fl))] := (hD.sub (ws' := [(h, .inr (1, [.ref o, .ref q, .int pl2])), (o, .inl (cI, 4, .inl (upd (upd fo 0 (fo2 0)) 1 (fo2 1)))), (q, .inl (cI, 28, .inl fl))]) [0, 1, 2] (by decide) rfl).weaken (fun _ z9 _ h9 => hAL _ h9)
  have hKc := hK.sub (tys' := [(cI, .int)]) [0] rfl
  refine c_callB (va_runV (As := [.int (nI 2), .int (fo2 2)]) (rest := []) ⟨hx, hb, hml, hown, hts⟩ (k_draw l D L0 cI h o q pl2 (upd (upd fo 0 (fo2 0)) 1 (fo2 1)) fl 2 (fo2 2) (by decide)) (cwV 2 hts gX1_becomeLike_X1_draw rfl rfl rfl (by decide +kernel) ⟨Nat.le_of_ble_eq_true rfl, Nat.le_of_ble_eq_true rfl⟩) ⟨cP_blind, va_recv hKc hPc (ci := 1) (q0 := 0) rfl rfl, cP_of hPc hKc hDc (kE_at hE0 hAL hS)⟩ rfl rfl hl.1 rfl (lv_room (Nat.le_of_ble_eq_true rfl)) dX1_becomeLike_22 ⟨Nat.le_of_ble_eq_true rfl, Nat.le_of_ble_eq_true rfl⟩) hS (fun z9 _ ⟨k9, e9, h9⟩ => (hD.sub (ws' := [(h, .inr (1, [.ref o, .ref q, .int pl2])), (o, .inl (cI, 4, .inl (upd (upd fo 0 (fo2 0)) 1 (fo2 1)))), (q, .inl (cI, 28, .inl fl))]) [0, 1, 2] (by decide) rfl).2 k9 (z9, e9) h9) (fun z9 ⟨k9, e9, h9⟩ => (hD.sub (ws' := [(h, .inr (1, [.ref o, .ref q, .int pl2])), (o, .inl (cI, 4, .inl (upd (upd fo 0 (fo2 0)) 1 (fo2 1)))), (q, .inl (cI, 28, .inl fl))]) [0, 1, 2] (by decide) rfl).2 k9 (z9, e9) h9) (fun H1 locs hB hz1 hk1 hS => ?_)
  obtain ⟨hP, hD⟩ := c_join (ws' := [(h, .inr (1, [.ref o, .ref q, .int pl2])), (o, .inl (cI, 4, .inl (upd (upd (upd fo 0 (fo2 0)) 1 (fo2 1)) 2 (fo2 2)))), (q, .inl (cI, 28, .inl fl)), (h2, .inr (1, [.ref o2, .ref q2, .int pl2])), (o2, .inl (cI, 4, .inl fo2)), (q2, .inl (cI, 28, .inl (sh fl2)))]) (wr := [(h2, .inr (1, [.ref o2, .ref q2, .int pl2])), (o2, .inl (cI, 4, .inl fo2)), (q2, .inl (cI, 28, .inl (sh fl2)))]) (w1 := [(h, .inr (1, [.ref o, .ref q, .int pl2])), (o, .inl (cI, 4, .inl (upd (upd (upd fo 0 (fo2 0)) 1 (fo2 1)) 2 (fo2 2)))), (q, .inl (cI, 28, .inl fl))]) hP hD [0, 1, 2] [3, 4, 5] [3, 4, 5, 0, 1, 2] rfl rfl (by decide) (by decide) hk1 hB rfl rfl rfl (by decide)
  generalize H1 = H at hP hS ⊢
  show W _ _ _ _ _ _ _ _ _ _ _ _ _ _ _ (F0 m 25 ls [])
  refine lv_iinc (v := 3) (lv' := [(2, .int 3), (0, .ref h), (1, .ref h2)]) hx hb dX1_becomeLike_25 hl (k := 0) rfl (by decide) (by decide) rfl (fun ls hl => ?_)
  refine lv_goto (tgt := 10) hx hb dX1_becomeLike_28 (by decide) ?_
  refine lv_iload_n hx hb dX1_becomeLike_10 rfl (lv_at hl 0 rfl) ?_
  refine lv_iconst (v := 4) hx hb dX1_becomeLike_11 (by decide) ?_
  refine lv_icmp_ge (tgt := 31) hx hb dX1_becomeLike_12 (by decide) (fun c_9 => absurd c_9 (by decide)) (fun _ => ?_)
  refine lv_aload_n hx hb dX1_becomeLike_15 rfl (lv_at hl 1 rfl) ?_
  refine lv_iload_n hx hb dX1_becomeLike_16 rfl (lv_at hl 0 rfl) ?_
  refine lv_aload_n hx hb dX1_becomeLike_17 rfl (lv_at hl 2 rfl) ?_
  refine lv_iload_n hx hb dX1_becomeLike_18 rfl (lv_at hl 0 rfl) ?_
  have hPc := hP.sub (ws' := [(h2, .inr (1, [.ref o2, .ref q2, .int pl2])), (o2, .inl (cI, 4, .inl fo2)), (q2, .inl (cI, 28, .inl (sh fl2)))]) [3, 4, 5] rfl
  have hDc : va_D (fun q : Nat => L0 ≤ q) [(h2, .inr (1, [.ref o2, .ref q2, .int pl2])), (o2, .inl (cI, 4, .inl fo2)), (q2, .inl (cI, 28, .inl (sh fl2)))] := (hD.sub (ws' := [(h2, .inr (1, [.ref o2, .ref q2, .int pl2])), (o2, .inl (cI, 4, .inl fo2)), (q2, .inl (cI, 28, .inl (sh fl2)))]) [3, 4, 5] (by decide) rfl).weaken (fun _ z9 _ h9 => hAL _ h9)
  have hKc := hK.sub (tys' := [(cI, .int)]) [0] rfl
  refine c_callR (va_runV (As := [.int (nI 3)]) (rest := [.int 3, .ref h]) ⟨hx, hb, hml, hown, hts⟩ (k_drawn l D L0 cI h2 o2 q2 pl2 fo2 (sh fl2) 3 (by decide)) (cwV 1 hts gX1_becomeLike_X1_drawn rfl rfl rfl (by decide +kernel) ⟨Nat.le_of_ble_eq_true rfl, Nat.le_of_ble_eq_true rfl⟩) ⟨cP_blind, va_recv hKc hPc (ci := 1) (q0 := 0) rfl rfl, cP_of hPc hKc hDc (kE_at hE0 hAL hS)⟩ rfl rfl hl.1 rfl (lv_room (Nat.le_of_ble_eq_true rfl)) dX1_becomeLike_19 ⟨Nat.le_of_ble_eq_true rfl, Nat.le_of_ble_eq_true rfl⟩) ?_
  show W _ _ _ _ _ _ _ _ _ _ _ _ _ _ _ (F0 m 22 ls [.int (fo2 3), .int 3, .ref h])
  have hPc := hP.sub (ws' := [(h, .inr (1, [.ref o, .ref q, .int pl2])), (o, .inl (cI, 4, .inl (upd (upd (upd fo 0 (fo2 0)) 1 (fo2 1)) 2 (fo2 2)))), (q, .inl (cI, 28, .inl fl))]) [0, 1, 2] rfl
  have hDc : va_D (fun q : Nat => L0 ≤ q) [(h, .inr (1, [.ref o, .ref q, .int pl2])), (o, .inl (cI, 4, .inl (upd (upd (upd fo 0 (fo2 0)) 1 (fo2 1)) 2 (fo2 2)))), (q, .inl (cI, 28, .inl fl))] := (hD.sub (ws' := [(h, .inr (1, [.ref o, .ref q, .int pl2])), (o, .inl (cI, 4, .inl (upd (upd (upd fo 0 (fo2 0)) 1 (fo2 1)) 2 (fo2 2)))), (q, .inl (cI, 28, .inl fl))]) [0, 1, 2] (by decide) rfl).weaken (fun _ z9 _ h9 => hAL _ h9)
  have hKc := hK.sub (tys' := [(cI, .int)]) [0] rfl
  refine c_callB (va_runV (As := [.int (nI 3), .int (fo2 3)]) (rest := []) ⟨hx, hb, hml, hown, hts⟩ (k_draw l D L0 cI h o q pl2 (upd (upd (upd fo 0 (fo2 0)) 1 (fo2 1)) 2 (fo2 2)) fl 3 (fo2 3) (by decide)) (cwV 2 hts gX1_becomeLike_X1_draw rfl rfl rfl (by decide +kernel) ⟨Nat.le_of_ble_eq_true rfl, Nat.le_of_ble_eq_true rfl⟩) ⟨cP_blind, va_recv hKc hPc (ci := 1) (q0 := 0) rfl rfl, cP_of hPc hKc hDc (kE_at hE0 hAL hS)⟩ rfl rfl hl.1 rfl (lv_room (Nat.le_of_ble_eq_true rfl)) dX1_becomeLike_22 ⟨Nat.le_of_ble_eq_true rfl, Nat.le_of_ble_eq_true rfl⟩) hS (fun z9 _ ⟨k9, e9, h9⟩ => (hD.sub (ws' := [(h, .inr (1, [.ref o, .ref q, .int pl2])), (o, .inl (cI, 4, .inl (upd (upd (upd fo 0 (fo2 0)) 1 (fo2 1)) 2 (fo2 2)))), (q, .inl (cI, 28, .inl fl))]) [0, 1, 2] (by decide) rfl).2 k9 (z9, e9) h9) (fun z9 ⟨k9, e9, h9⟩ => (hD.sub (ws' := [(h, .inr (1, [.ref o, .ref q, .int pl2])), (o, .inl (cI, 4, .inl (upd (upd (upd fo 0 (fo2 0)) 1 (fo2 1)) 2 (fo2 2)))), (q, .inl (cI, 28, .inl fl))]) [0, 1, 2] (by decide) rfl).2 k9 (z9, e9) h9) (fun H1 locs hB hz1 hk1 hS => ?_)
  obtain ⟨hP, hD⟩ := c_join (ws' := [(h, .inr (1, [.ref o, .ref q, .int pl2])), (o, .inl (cI, 4, .inl (upd (upd (upd (upd fo 0 (fo2 0)) 1 (fo2 1)) 2 (fo2 2)) 3 (fo2 3)))), (q, .inl (cI, 28, .inl fl)), (h2, .inr (1, [.ref o2, .ref q2, .int pl2])), (o2, .inl (cI, 4, .inl fo2)), (q2, .inl (cI, 28, .inl (sh fl2)))]) (wr := [(h2, .inr (1, [.ref o2, .ref q2, .int pl2])), (o2, .inl (cI, 4, .inl fo2)), (q2, .inl (cI, 28, .inl (sh fl2)))]) (w1 := [(h, .inr (1, [.ref o, .ref q, .int pl2])), (o, .inl (cI, 4, .inl (upd (upd (upd (upd fo 0 (fo2 0)) 1 (fo2 1)) 2 (fo2 2)) 3 (fo2 3)))), (q, .inl (cI, 28, .inl fl))]) hP hD [0, 1, 2] [3, 4, 5] [3, 4, 5, 0, 1, 2] rfl rfl (by decide) (by decide) hk1 hB rfl rfl rfl (by decide)
  generalize H1 = H at hP hS ⊢
  show W _ _ _ _ _ _ _ _ _ _ _ _ _ _ _ (F0 m 25 ls [])
  refine lv_iinc (v := 4) (lv' := [(2, .int 4), (0, .ref h), (1, .ref h2)]) hx hb dX1_becomeLike_25 hl (k := 0) rfl (by decide) (by decide) rfl (fun ls hl => ?_)
  refine lv_goto (tgt := 10) hx hb dX1_becomeLike_28 (by decide) ?_
  refine lv_iload_n hx hb dX1_becomeLike_10 rfl (lv_at hl 0 rfl) ?_
  refine lv_iconst (v := 4) hx hb dX1_becomeLike_11 (by decide) ?_
  refine lv_icmp_ge (tgt := 31) hx hb dX1_becomeLike_12 (by decide) (fun _ => ?_) (fun c_10 => absurd (by decide) c_10)
  have hP : va_P D vwCl [(h, .inr (1, [.ref o, .ref q, .int pl2])), (o, .inl (cI, 4, .inl fo2)), (q, .inl (cI, 28, .inl fl)), (h2, .inr (1, [.ref o2, .ref q2, .int pl2])), (o2, .inl (cI, 4, .inl fo2)), (q2, .inl (cI, 28, .inl (sh fl2)))] H := by
    intro k z hz
    match k, hz with
    | 0, hz => exact hP 0 z hz
    | 1, hz => cases hz; exact arr_same (hP 1 _ rfl) (fun j hj => by rcases (show j = 0 ∨ j = 1 ∨ j = 2 ∨ j = 3 by omega) with rfl | rfl | rfl | rfl <;> rfl)
    | 2, hz => exact hP 2 z hz
    | 3, hz => exact hP 3 z hz
    | 4, hz => exact hP 4 z hz
    | 5, hz => exact hP 5 z hz
    | k + 6, hz => cases hz
  have hD : va_D A [(h, .inr (1, [.ref o, .ref q, .int pl2])), (o, .inl (cI, 4, .inl fo2)), (q, .inl (cI, 28, .inl fl)), (h2, .inr (1, [.ref o2, .ref q2, .int pl2])), (o2, .inl (cI, 4, .inl fo2)), (q2, .inl (cI, 28, .inl (sh fl2)))] := c_Dsame hD rfl
  refine lv_iconst (v := 3) hx hb dX1_becomeLike_31 (by decide) ?_
  refine lv_istore_n (lv' := [(2, .int 3), (0, .ref h), (1, .ref h2)]) hx hb dX1_becomeLike_32 rfl hl (by decide) rfl (fun ls hl => ?_)
  have hl : lv_has ls 3 [(2, .int (nI 3)), (0, .ref h), (1, .ref h2)] := (show 3 = nI 3 from rfl) ▸ hl
  exact loop2 29 3 fl _ _ _ (by omega) (by omega) (fun j hj => absurd hj (by omega)) (lv_sub hl [0, 1, 2] rfl) hP hD hS
end
section
theorem tn_1 : ∀ d, d < 8 → tnI (nI d) 1 = nI ((d + 1) % 8) := by decide +kernel
theorem tn_m : ∀ d, d < 8 → tnI (nI d) (-1) = nI ((d + 7) % 8) := by decide +kernel
set_option maxHeartbeats 4000000 in
set_option maxRecDepth 100000 in
/-- placeOf(to, metres) -/
theorem k_placeOf (l : Launch) (D : va_G) (L0 : Nat) (d r : Nat) (hd : d < 8) (hr : r < 100) : Met l yX0_placeOf wsX0_placeOf ({ frames := 2, cells := 0, slots := 0, locals := 42 }) (cP L0 D [] [] [.int (nI d), .int (nI r)]) (cR (some (.int (if 3 ≤ r ∧ r ≤ 30 then nI (plc d r) else -1)))) 0 0 (fun _ => False) := by
  refine Met.ofW (cc := cX0_placeOf) (maxL := 2) (ret := (some .int)) (by decide) rfl ?_
  intro p e s m args below meth c s₁ B hml hv
  obtain ⟨rfl, hP, hK, hD0, hE0⟩ := hv
  have hx := B.exec
  have hb := B.bytes
  have hRt := B.returns
  have hts := atoms_spec (ws := wsX0_placeOf) B.pre
  have hown : s.vm.findClass RX0 = some m.cls := findClass_of_methodNamed B.named
  have hlocks := B.notSynchronized
  have hAL : ∀ z9 : Nat, (fun _ : Nat => False) z9 → L0 ≤ z9 := fun z9 h9 => False.elim h9
  generalize hAe : (fun _ : Nat => False) = A at hAL ⊢
  have hS : va_S A s.heap s.heap [] := va_S.rf
  have hl := lv_entry ([.int (nI d), .int (nI r)]) (n := 2) (Nat.le_of_ble_eq_true rfl)
  rw [lg_entry_eq]
  generalize (lg_sl ([.int (nI d), .int (nI r)]) ++ List.replicate (2 - (lg_sl ([.int (nI d), .int (nI r)])).length) Slot.unset).toArray = ls at hl ⊢
  have hl : lv_has ls 2 [(0, .int (nI d)), (1, .int (nI r))] := hl
  refine lv_iload_n hx hb dX0_placeOf_0 rfl (lv_at hl 1 rfl) ?_
  have hPc := hP.sub (ws' := []) [] rfl
  have hDc := hD0.sub (ws' := []) [] (by decide) rfl
  have hKc := hK.sub (tys' := []) [] rfl
  refine c_callR (va_runSN (As := [.int (nI r)]) (rest := []) ⟨hx, hb, hml, hown, hts⟩ (k_isReach l D L0 (nI r)) (⟨va_cnB 1 hts gX0_placeOf_X2_isReach_n43 rfl rfl rfl (hE0.2.2.2.2.2.1.2.2) (hts (.initialized RX2) (by decide +kernel)) (by decide +kernel) ⟨Nat.le_of_ble_eq_true rfl, Nat.le_of_ble_eq_true rfl⟩, hts (.static yX2_isReach) (by decide +kernel), trivial⟩) ⟨cP_blind, cP_of hPc hKc hDc (kE_at hE0 hAL hS)⟩ rfl rfl hl.1 rfl (lv_room (Nat.le_of_ble_eq_true rfl)) dX0_placeOf_1 ⟨Nat.le_of_ble_eq_true rfl, Nat.le_of_ble_eq_true rfl⟩) ?_
  show W _ _ _ _ _ _ _ _ _ _ _ _ _ _ _ (F0 m 4 ls [.int (bI (decide (3 ≤ nI r) && decide (nI r ≤ 30)))])
  by_cases cr : 3 ≤ r ∧ r ≤ 30
  · refine c_top (show bI (decide (3 ≤ nI r) && decide (nI r ≤ 30)) = 1 from isR_yes cr) ?_
    refine lv_if_eq (tgt := 18) hx hb dX0_placeOf_4 (by decide) (fun c_1 => absurd c_1 (by decide)) (fun _ => ?_)
    refine lv_iload_n hx hb dX0_placeOf_7 rfl (lv_at hl 0 rfl) ?_
    refine lv_bipush (v := 28) hx hb dX0_placeOf_8 (by decide) ?_
    refine lv_imul hx hb dX0_placeOf_10 ?_
    refine lv_iload_n hx hb dX0_placeOf_11 rfl (lv_at hl 1 rfl) ?_
    refine lv_iadd hx hb dX0_placeOf_12 ?_
    refine lv_iconst (v := 3) hx hb dX0_placeOf_13 (by decide) ?_
    refine lv_isub hx hb dX0_placeOf_14 ?_
    refine c_top (show (((nI d) * 28) + (nI r)) - 3 = nI (plc d r) from plc_i hd cr) ?_
    refine lv_goto (tgt := 19) hx hb dX0_placeOf_15 (by decide) ?_
    exact W.iret (v := (nI (plc d r))) hx hb hRt (fun t ht hW => ⟨by rw [if_pos cr], ht⟩) hS.2.2 dX0_placeOf_19
  · refine c_top (show bI (decide (3 ≤ nI r) && decide (nI r ≤ 30)) = 0 from isR_no hr cr) ?_
    refine lv_if_eq (tgt := 18) hx hb dX0_placeOf_4 (by decide) (fun _ => ?_) (fun c_2 => absurd (rfl) c_2)
    refine lv_iconst (v := -1) hx hb dX0_placeOf_18 (by decide) ?_
    exact W.iret (v := (-1)) hx hb hRt (fun t ht hW => ⟨by rw [if_neg cr], ht⟩) hS.2.2 dX0_placeOf_19
set_option maxHeartbeats 4000000 in
set_option maxRecDepth 100000 in
/-- movesTo(to, metres) -/
theorem k_movesTo (l : Launch) (D : va_G) (L0 : Nat) (cI : ClassId) (pn pm pf : Nat) (np : Int32) (fm ff : Nat → Int32) (d r : Nat) (hd : d < 8) (hr : 3 ≤ r ∧ r ≤ 30) : Met l yX0_movesTo wsX0_movesTo ({ frames := 3, cells := 0, slots := 0, locals := 63 }) (cP L0 D [(cI, .int)] [(pn, .inr (0, [.ref pm, .ref pf, .int np])), (pm, .inl (cI, 224, .inl fm)), (pf, .inl (cI, 224, .inl ff))] [.ref pn, .int (nI d), .int (nI r)]) (cR (some (.int (fm (plc d r))))) 0 0 (fun _ => False) := by
  refine Met.ofW (cc := cX0_movesTo) (maxL := 4) (ret := (some .int)) (by decide) rfl ?_
  intro p e s m args below meth c s₁ B hml hv
  obtain ⟨rfl, hP, hK, hD0, hE0⟩ := hv
  have hx := B.exec
  have hb := B.bytes
  have hRt := B.returns
  have hts := atoms_spec (ws := wsX0_movesTo) B.pre
  have hown : s.vm.findClass RX0 = some m.cls := findClass_of_methodNamed B.named
  have hlocks := B.notSynchronized
  have hAL : ∀ z9 : Nat, (fun _ : Nat => False) z9 → L0 ≤ z9 := fun z9 h9 => False.elim h9
  generalize hAe : (fun _ : Nat => False) = A at hAL ⊢
  have hS : va_S A s.heap s.heap [] := va_S.rf
  have hiX0 : ∀ w ∈ u_ws RX0 TX0 3, w ∈ wsX0_movesTo := by decide +kernel
  have hl := lv_entry ([.ref pn, .int (nI d), .int (nI r)]) (n := 4) (Nat.le_of_ble_eq_true rfl)
  rw [lg_entry_eq]
  generalize (lg_sl ([.ref pn, .int (nI d), .int (nI r)]) ++ List.replicate (4 - (lg_sl ([.ref pn, .int (nI d), .int (nI r)])).length) Slot.unset).toArray = ls at hl ⊢
  have hl : lv_has ls 4 [(0, .ref pn), (1, .int (nI d)), (2, .int (nI r))] := hl
  have hp := plc_lt hd hr
  refine lv_iload_n hx hb dX0_movesTo_0 rfl (lv_at hl 1 rfl) ?_
  refine lv_iload_n hx hb dX0_movesTo_1 rfl (lv_at hl 2 rfl) ?_
  have hPc := hP.sub (ws' := []) [] rfl
  have hDc := hD0.sub (ws' := []) [] (by decide) rfl
  have hKc := hK.sub (tys' := []) [] rfl
  refine c_callR (va_runS (As := [.int (nI d), .int (nI r)]) (rest := []) ⟨hx, hb, hml, hown, hts⟩ (k_placeOf l D L0 d r hd (by omega)) (va_cwS 2 hts gX0_movesTo_X0_placeOf rfl rfl rfl (by decide +kernel) ⟨Nat.le_of_ble_eq_true rfl, Nat.le_of_ble_eq_true rfl⟩) ⟨cP_blind, cP_of hPc hKc hDc (kE_at hE0 hAL hS)⟩ rfl rfl hl.1 rfl (lv_room (Nat.le_of_ble_eq_true rfl)) dX0_movesTo_2 ⟨Nat.le_of_ble_eq_true rfl, Nat.le_of_ble_eq_true rfl⟩) ?_
  show W _ _ _ _ _ _ _ _ _ _ _ _ _ _ _ (F0 m 5 ls [.int (if 3 ≤ r ∧ r ≤ 30 then nI (plc d r) else -1)])
  refine c_top (show (if 3 ≤ r ∧ r ≤ 30 then nI (plc d r) else -1) = nI (plc d r) from if_pos hr) ?_
  refine lv_istore_n (lv' := [(3, .int (nI (plc d r))), (0, .ref pn), (1, .int (nI d)), (2, .int (nI r))]) hx hb dX0_movesTo_5 rfl hl (by decide) rfl (fun ls hl => ?_)
  refine lv_iload_n hx hb dX0_movesTo_6 rfl (lv_at hl 0 rfl) ?_
  refine lv_if_lt (tgt := 28) hx hb dX0_movesTo_7 (by decide) (fun c_3 => absurd c_3 (nI_pos (by omega))) (fun _ => ?_)
  refine lv_iload_n hx hb dX0_movesTo_10 rfl (lv_at hl 0 rfl) ?_
  refine lv_aload_n hx hb dX0_movesTo_11 rfl (lv_at hl 1 rfl) ?_
  refine va_get (D := D) (ci := 0) (v := .ref pm) (C := RX0) (T := TX0) (N := 3) hx hb hts hiX0 hown hK hP 0 rfl rfl 0 (by decide) (hts (.fieldLink RX0 9 "CraneReach$Plan" "moves" "[I") (by decide +kernel)) (fun _ h9 => h9) rfl dX0_movesTo_12 ?_
  refine va_alen hx hb hK hP 1 0 rfl rfl (v := 224) rfl dX0_movesTo_15 ?_
  refine lv_icmp_ge (tgt := 28) hx hb dX0_movesTo_16 (by decide) (fun c_4 => absurd c_4 (nI_ge (b := 224) hp (by decide))) (fun _ => ?_)
  refine lv_aload_n hx hb dX0_movesTo_19 rfl (lv_at hl 1 rfl) ?_
  refine va_get (D := D) (ci := 0) (v := .ref pm) (C := RX0) (T := TX0) (N := 3) hx hb hts hiX0 hown hK hP 0 rfl rfl 0 (by decide) (hts (.fieldLink RX0 9 "CraneReach$Plan" "moves" "[I") (by decide +kernel)) (fun _ h9 => h9) rfl dX0_movesTo_20 ?_
  refine lv_iload_n hx hb dX0_movesTo_23 rfl (lv_at hl 0 rfl) ?_
  refine va_iald hx hb hK hP 1 0 rfl rfl (vp_in_nI hp (by decide)) dX0_movesTo_24 ?_
  refine c_top (show fm (nI (plc d r)).toNatClampNeg = fm (plc d r) from by rw [nI_clamp (by omega)]) ?_
  refine lv_goto (tgt := 29) hx hb dX0_movesTo_25 (by decide) ?_
  exact W.iret (v := (fm (plc d r))) hx hb hRt (fun t ht hW => ⟨rfl, ht⟩) hS.2.2 dX0_movesTo_29
set_option maxHeartbeats 4000000 in
set_option maxRecDepth 100000 in
/-- visit(rig, tons, to, metres, count) -/
theorem k_visit (l : Launch) (D : va_G) (L0 : Nat) (cI : ClassId) (pn pm pf rg ro rl : Nat) (fm ff : Nat → Int32) (pl : Int32) (fo fl : Nat → Int32) (tons far : Int32) (S : bS) (d r k : Nat) (hd : d < 8) (hr : r < 100) (hI : bInv S) (hC : bC S fm ff) (hfar : far = nI k) (hk : k ≤ S.2.2) : Met l yX0_visit wsX0_visit ({ frames := 3, cells := 0, slots := 0, locals := 71 }) (cP L0 D [(cI, .int)] [(pn, .inr (0, [.ref pm, .ref pf, .int (nI S.2.2)])), (pm, .inl (cI, 224, .inl fm)), (pf, .inl (cI, 224, .inl ff)), (rg, .inr (1, [.ref ro, .ref rl, .int pl])), (ro, .inl (cI, 4, .inl fo)), (rl, .inl (cI, 28, .inl (sh fl)))] [.ref pn, .ref rg, .int tons, .int (nI d), .int (nI r), .int far]) (cB none (fun H => ∃ fm9 ff9 : Nat → Int32, bC (vis (safS fo fl pl tons) far d r S) fm9 ff9 ∧ va_P D vwCl [(pn, .inr (0, [.ref pm, .ref pf, .int (nI (vis (safS fo fl pl tons) far d r S).2.2)])), (pm, .inl (cI, 224, .inl fm9)), (pf, .inl (cI, 224, .inl ff9)), (rg, .inr (1, [.ref ro, .ref rl, .int pl])), (ro, .inl (cI, 4, .inl fo)), (rl, .inl (cI, 28, .inl (sh fl)))] H) (cA [(pn, .inr (0, [.ref pm, .ref pf, .int (nI S.2.2)])), (pm, .inl (cI, 224, .inl fm)), (pf, .inl (cI, 224, .inl ff)), (rg, .inr (1, [.ref ro, .ref rl, .int pl])), (ro, .inl (cI, 4, .inl fo)), (rl, .inl (cI, 28, .inl (sh fl)))])) 0 0 (cA [(pn, .inr (0, [.ref pm, .ref pf, .int (nI S.2.2)])), (pm, .inl (cI, 224, .inl fm)), (pf, .inl (cI, 224, .inl ff)), (rg, .inr (1, [.ref ro, .ref rl, .int pl])), (ro, .inl (cI, 4, .inl fo)), (rl, .inl (cI, 28, .inl (sh fl)))]) := by
  refine Met.ofW (cc := cX0_visit) (maxL := 7) (ret := none) (by decide) rfl ?_
  intro p e s m args below meth c s₁ B hml hv
  obtain ⟨rfl, hP, hK, hD0, hE0⟩ := hv
  have hx := B.exec
  have hb := B.bytes
  have hRt := B.returns
  have hts := atoms_spec (ws := wsX0_visit) B.pre
  have hown : s.vm.findClass RX0 = some m.cls := findClass_of_methodNamed B.named
  have hlocks := B.notSynchronized
  have hAL : ∀ z9 : Nat, cA [(pn, .inr (0, [.ref pm, .ref pf, .int (nI S.2.2)])), (pm, .inl (cI, 224, .inl fm)), (pf, .inl (cI, 224, .inl ff)), (rg, .inr (1, [.ref ro, .ref rl, .int pl])), (ro, .inl (cI, 4, .inl fo)), (rl, .inl (cI, 28, .inl (sh fl)))] z9 → L0 ≤ z9 := fun z9 ⟨k9, e9, h9⟩ => hD0.2 k9 (z9, e9) h9
  have hD : va_D (cA [(pn, .inr (0, [.ref pm, .ref pf, .int (nI S.2.2)])), (pm, .inl (cI, 224, .inl fm)), (pf, .inl (cI, 224, .inl ff)), (rg, .inr (1, [.ref ro, .ref rl, .int pl])), (ro, .inl (cI, 4, .inl fo)), (rl, .inl (cI, 28, .inl (sh fl)))]) [(pn, .inr (0, [.ref pm, .ref pf, .int (nI S.2.2)])), (pm, .inl (cI, 224, .inl fm)), (pf, .inl (cI, 224, .inl ff)), (rg, .inr (1, [.ref ro, .ref rl, .int pl])), (ro, .inl (cI, 4, .inl fo)), (rl, .inl (cI, 28, .inl (sh fl)))] := ⟨hD0.1, fun k9 z9 h9 => cA_of h9⟩
  generalize hAe : cA [(pn, .inr (0, [.ref pm, .ref pf, .int (nI S.2.2)])), (pm, .inl (cI, 224, .inl fm)), (pf, .inl (cI, 224, .inl ff)), (rg, .inr (1, [.ref ro, .ref rl, .int pl])), (ro, .inl (cI, 4, .inl fo)), (rl, .inl (cI, 28, .inl (sh fl)))] = A at hD hAL ⊢
  have hS : va_S A s.heap s.heap [] := va_S.rf
  have hiX0 : ∀ w ∈ u_ws RX0 TX0 3, w ∈ wsX0_visit := by decide +kernel
  have hiX1 : ∀ w ∈ u_ws RX1 TX1 3, w ∈ wsX0_visit := by decide +kernel
  have hl := lv_entry ([.ref pn, .ref rg, .int tons, .int (nI d), .int (nI r), .int far]) (n := 7) (Nat.le_of_ble_eq_true rfl)
  rw [lg_entry_eq]
  generalize (lg_sl ([.ref pn, .ref rg, .int tons, .int (nI d), .int (nI r), .int far]) ++ List.replicate (7 - (lg_sl ([.ref pn, .ref rg, .int tons, .int (nI d), .int (nI r), .int far])).length) Slot.unset).toArray = ls at hl ⊢
  have hl : lv_has ls 7 [(0, .ref pn), (1, .ref rg), (2, .int tons), (3, .int (nI d)), (4, .int (nI r)), (5, .int far)] := hl
  refine lv_iload_n hx hb dX0_visit_0 rfl (lv_at hl 3 rfl) ?_
  refine lv_iload hx hb dX0_visit_1 (lv_at hl 4 rfl) ?_
  have hPc := hP.sub (ws' := []) [] rfl
  have hDc : va_D (fun q : Nat => L0 ≤ q) [] := (hD.sub (ws' := []) [] (by decide) rfl).weaken (fun _ z9 _ h9 => hAL _ h9)
  have hKc := hK.sub (tys' := []) [] rfl
  refine c_callR (va_runS (As := [.int (nI d), .int (nI r)]) (rest := []) ⟨hx, hb, hml, hown, hts⟩ (k_placeOf l D L0 d r hd hr) (va_cwS 2 hts gX0_visit_X0_placeOf rfl rfl rfl (by decide +kernel) ⟨Nat.le_of_ble_eq_true rfl, Nat.le_of_ble_eq_true rfl⟩) ⟨cP_blind, cP_of hPc hKc hDc (kE_at hE0 hAL hS)⟩ rfl rfl hl.1 rfl (lv_room (Nat.le_of_ble_eq_true rfl)) dX0_visit_3 ⟨Nat.le_of_ble_eq_true rfl, Nat.le_of_ble_eq_true rfl⟩) ?_
  show W _ _ _ _ _ _ _ _ _ _ _ _ _ _ _ (F0 m 6 ls [.int (if 3 ≤ r ∧ r ≤ 30 then nI (plc d r) else -1)])
  by_cases cr : 3 ≤ r ∧ r ≤ 30
  · refine c_top (show (if 3 ≤ r ∧ r ≤ 30 then nI (plc d r) else -1) = nI (plc d r) from if_pos cr) ?_
    have hp := plc_lt hd cr
    refine lv_istore (lv' := [(6, .int (nI (plc d r))), (0, .ref pn), (1, .ref rg), (2, .int tons), (3, .int (nI d)), (4, .int (nI r)), (5, .int far)]) hx hb dX0_visit_6 hl (by decide) rfl (fun ls hl => ?_)
    refine lv_iload hx hb dX0_visit_8 (lv_at hl 0 rfl) ?_
    refine lv_if_lt (tgt := 34) hx hb dX0_visit_10 (by decide) (fun c_6 => absurd c_6 (nI_pos (by omega))) (fun _ => ?_)
    refine lv_iload hx hb dX0_visit_13 (lv_at hl 0 rfl) ?_
    refine lv_aload_n hx hb dX0_visit_15 rfl (lv_at hl 1 rfl) ?_
    refine va_get (D := D) (ci := 0) (v := .ref pm) (C := RX0) (T := TX0) (N := 3) hx hb hts hiX0 hown hK hP 0 rfl rfl 0 (by decide) (hts (.fieldLink RX0 9 "CraneReach$Plan" "moves" "[I") (by decide +kernel)) (fun _ h9 => h9) rfl dX0_visit_16 ?_
    refine va_alen hx hb hK hP 1 0 rfl rfl (v := 224) rfl dX0_visit_19 ?_
    refine lv_icmp_ge (tgt := 34) hx hb dX0_visit_20 (by decide) (fun c_7 => absurd c_7 (nI_ge (b := 224) hp (by decide))) (fun _ => ?_)
    refine lv_aload_n hx hb dX0_visit_23 rfl (lv_at hl 1 rfl) ?_
    refine va_get (D := D) (ci := 0) (v := .ref pm) (C := RX0) (T := TX0) (N := 3) hx hb hts hiX0 hown hK hP 0 rfl rfl 0 (by decide) (hts (.fieldLink RX0 9 "CraneReach$Plan" "moves" "[I") (by decide +kernel)) (fun _ h9 => h9) rfl dX0_visit_24 ?_
    refine lv_iload hx hb dX0_visit_27 (lv_at hl 0 rfl) ?_
    refine va_iald hx hb hK hP 1 0 rfl rfl (vp_in_nI hp (by decide)) dX0_visit_29 ?_
    refine c_top (show fm (nI (plc d r)).toNatClampNeg = fm (plc d r) from by rw [nI_clamp (by omega)]) ?_
    refine c_top (show fm (plc d r) = S.1 (8 * r + d) from hC.1 d r hd cr.1 cr.2) ?_
    refine lv_iconst (v := -1) hx hb dX0_visit_30 (by decide) ?_
    refine lv_icmp_eq (tgt := 35) hx hb dX0_visit_31 (by decide) (fun c_8 => ?_) (fun c_8 => ?_)
    · have hn := bInv_room hI (c := 8 * r + d) (by omega) c_8
      refine lv_aload_n hx hb dX0_visit_35 rfl (lv_at hl 1 rfl) ?_
      refine va_get (D := D) (ci := 0) (v := .int (nI S.2.2)) (C := RX0) (T := TX0) (N := 3) hx hb hts hiX0 hown hK hP 0 rfl rfl 2 (by decide) (hts (.fieldLink RX0 18 "CraneReach$Plan" "places" "I") (by decide +kernel)) (fun _ h9 => h9) rfl dX0_visit_36 ?_
      refine lv_aload_n hx hb dX0_visit_39 rfl (lv_at hl 1 rfl) ?_
      refine va_get (D := D) (ci := 0) (v := .ref pf) (C := RX0) (T := TX0) (N := 3) hx hb hts hiX0 hown hK hP 0 rfl rfl 1 (by decide) (hts (.fieldLink RX0 15 "CraneReach$Plan" "found" "[I") (by decide +kernel)) (fun _ h9 => h9) rfl dX0_visit_40 ?_
      refine va_alen hx hb hK hP 2 0 rfl rfl (v := 224) rfl dX0_visit_43 ?_
      refine lv_icmp_ge (tgt := 88) hx hb dX0_visit_44 (by decide) (fun c_9 => absurd c_9 (nI_ge (b := 224) hn (by decide))) (fun _ => ?_)
      refine lv_aload_n hx hb dX0_visit_47 rfl (lv_at hl 2 rfl) ?_
      refine lv_iload_n hx hb dX0_visit_48 rfl (lv_at hl 3 rfl) ?_
      refine lv_iload_n hx hb dX0_visit_49 rfl (lv_at hl 4 rfl) ?_
      refine lv_iload hx hb dX0_visit_50 (lv_at hl 5 rfl) ?_
      have hPc := hP.sub (ws' := [(rg, .inr (1, [.ref ro, .ref rl, .int pl])), (ro, .inl (cI, 4, .inl fo)), (rl, .inl (cI, 28, .inl (sh fl)))]) [3, 4, 5] rfl
      have hDc : va_D (fun q : Nat => L0 ≤ q) [(rg, .inr (1, [.ref ro, .ref rl, .int pl])), (ro, .inl (cI, 4, .inl fo)), (rl, .inl (cI, 28, .inl (sh fl)))] := (hD.sub (ws' := [(rg, .inr (1, [.ref ro, .ref rl, .int pl])), (ro, .inl (cI, 4, .inl fo)), (rl, .inl (cI, 28, .inl (sh fl)))]) [3, 4, 5] (by decide) rfl).weaken (fun _ z9 _ h9 => hAL _ h9)
      have hKc := hK.sub (tys' := [(cI, .int)]) [0] rfl
      refine c_callR (va_runV (As := [.int tons, .int (nI d), .int (nI r)]) (rest := []) ⟨hx, hb, hml, hown, hts⟩ (k_isSafe l D L0 cI rg ro rl pl fo fl d r tons hd cr) (cwV 3 hts gX0_visit_X1_isSafe rfl rfl rfl (by decide +kernel) ⟨Nat.le_of_ble_eq_true rfl, Nat.le_of_ble_eq_true rfl⟩) ⟨cP_blind, va_recv hKc hPc (ci := 1) (q0 := 0) rfl rfl, cP_of hPc hKc hDc (kE_at hE0 hAL hS)⟩ rfl rfl hl.1 rfl (lv_room (Nat.le_of_ble_eq_true rfl)) dX0_visit_52 ⟨Nat.le_of_ble_eq_true rfl, Nat.le_of_ble_eq_true rfl⟩) ?_
      show W _ _ _ _ _ _ _ _ _ _ _ _ _ _ _ (F0 m 55 ls [.int (bI (safS fo fl pl tons d r))])
      obtain ⟨b0, hb0⟩ : ∃ b0 : Bool, b0 = safS fo fl pl tons d r := ⟨_, rfl⟩
      refine c_top (show bI (safS fo fl pl tons d r) = bI b0 from by rw [hb0]) ?_
      refine lv_if_eq (tgt := 88) hx hb dX0_visit_55 (by decide) (fun c_10 => ?_) (fun c_10 => ?_)
      · exact W.vret hx hb hRt (fun t ht hW => ⟨⟨rfl, by rw [ht]; exact by rw [vis_no (fun z => by rw [← hb0] at z; rw [z.2.2] at c_10; exact absurd c_10 (by decide))]; exact ⟨fm, ff, hC, hP⟩⟩, hS.F ht⟩) hS.2.2 dX0_visit_88
      · have hs : safS fo fl pl tons d r = true := by
          rw [← hb0]; cases b0 with | true => rfl | false => exact absurd rfl c_10
        have hy : (3 ≤ r ∧ r ≤ 30) ∧ S.1 (8 * r + d) = -1 ∧ safS fo fl pl tons d r = true := ⟨cr, c_8, hs⟩
        refine lv_aload_n hx hb dX0_visit_58 rfl (lv_at hl 1 rfl) ?_
        refine va_get (D := D) (ci := 0) (v := .ref pm) (C := RX0) (T := TX0) (N := 3) hx hb hts hiX0 hown hK hP 0 rfl rfl 0 (by decide) (hts (.fieldLink RX0 9 "CraneReach$Plan" "moves" "[I") (by decide +kernel)) (fun _ h9 => h9) rfl dX0_visit_59 ?_
        refine lv_iload hx hb dX0_visit_62 (lv_at hl 0 rfl) ?_
        refine lv_iload hx hb dX0_visit_64 (lv_at hl 6 rfl) ?_
        refine va_iast hx hb hK hP hD hS 1 0 rfl rfl (vp_in_nI hp (by decide)) dX0_visit_66 (fun H locs hP hD hS => ?_)
        have hP : va_P D vwCl [(pn, .inr (0, [.ref pm, .ref pf, .int (nI S.2.2)])), (pm, .inl (cI, 224, .inl (upd fm (nI (plc d r)).toNatClampNeg far))), (pf, .inl (cI, 224, .inl ff)), (rg, .inr (1, [.ref ro, .ref rl, .int pl])), (ro, .inl (cI, 4, .inl fo)), (rl, .inl (cI, 28, .inl (sh fl)))] H := hP
        have hD : va_D A [(pn, .inr (0, [.ref pm, .ref pf, .int (nI S.2.2)])), (pm, .inl (cI, 224, .inl (upd fm (nI (plc d r)).toNatClampNeg far))), (pf, .inl (cI, 224, .inl ff)), (rg, .inr (1, [.ref ro, .ref rl, .int pl])), (ro, .inl (cI, 4, .inl fo)), (rl, .inl (cI, 28, .inl (sh fl)))] := hD
        rw [show (nI (plc d r)).toNatClampNeg = (plc d r) from nI_clamp (by omega)] at hP hD
        have hP : va_P D vwCl [(pn, .inr (0, [.ref pm, .ref pf, .int (nI S.2.2)])), (pm, .inl (cI, 224, .inl (upd fm (plc d r) far))), (pf, .inl (cI, 224, .inl ff)), (rg, .inr (1, [.ref ro, .ref rl, .int pl])), (ro, .inl (cI, 4, .inl fo)), (rl, .inl (cI, 28, .inl (sh fl)))] H := hP
        have hD : va_D A [(pn, .inr (0, [.ref pm, .ref pf, .int (nI S.2.2)])), (pm, .inl (cI, 224, .inl (upd fm (plc d r) far))), (pf, .inl (cI, 224, .inl ff)), (rg, .inr (1, [.ref ro, .ref rl, .int pl])), (ro, .inl (cI, 4, .inl fo)), (rl, .inl (cI, 28, .inl (sh fl)))] := hD
        refine lv_aload_n hx hb dX0_visit_67 rfl (lv_at hl 1 rfl) ?_
        refine va_get (D := D) (ci := 0) (v := .ref pf) (C := RX0) (T := TX0) (N := 3) hx hb hts hiX0 hown hK hP 0 rfl rfl 1 (by decide) (hts (.fieldLink RX0 15 "CraneReach$Plan" "found" "[I") (by decide +kernel)) (fun _ h9 => h9) rfl dX0_visit_68 ?_
        refine lv_aload_n hx hb dX0_visit_71 rfl (lv_at hl 1 rfl) ?_
        refine va_get (D := D) (ci := 0) (v := .int (nI S.2.2)) (C := RX0) (T := TX0) (N := 3) hx hb hts hiX0 hown hK hP 0 rfl rfl 2 (by decide) (hts (.fieldLink RX0 18 "CraneReach$Plan" "places" "I") (by decide +kernel)) (fun _ h9 => h9) rfl dX0_visit_72 ?_
        refine lv_iload hx hb dX0_visit_75 (lv_at hl 0 rfl) ?_
        refine va_iast hx hb hK hP hD hS 2 0 rfl rfl (vp_in_nI hn (by decide)) dX0_visit_77 (fun H locs hP hD hS => ?_)
        have hP : va_P D vwCl [(pn, .inr (0, [.ref pm, .ref pf, .int (nI S.2.2)])), (pm, .inl (cI, 224, .inl (upd fm (plc d r) far))), (pf, .inl (cI, 224, .inl (upd ff (nI S.2.2).toNatClampNeg (nI (plc d r))))), (rg, .inr (1, [.ref ro, .ref rl, .int pl])), (ro, .inl (cI, 4, .inl fo)), (rl, .inl (cI, 28, .inl (sh fl)))] H := hP
        have hD : va_D A [(pn, .inr (0, [.ref pm, .ref pf, .int (nI S.2.2)])), (pm, .inl (cI, 224, .inl (upd fm (plc d r) far))), (pf, .inl (cI, 224, .inl (upd ff (nI S.2.2).toNatClampNeg (nI (plc d r))))), (rg, .inr (1, [.ref ro, .ref rl, .int pl])), (ro, .inl (cI, 4, .inl fo)), (rl, .inl (cI, 28, .inl (sh fl)))] := hD
        rw [show (nI S.2.2).toNatClampNeg = S.2.2 from nI_clamp (by omega)] at hP hD
        have hP : va_P D vwCl [(pn, .inr (0, [.ref pm, .ref pf, .int (nI S.2.2)])), (pm, .inl (cI, 224, .inl (upd fm (plc d r) far))), (pf, .inl (cI, 224, .inl (upd ff S.2.2 (nI (plc d r))))), (rg, .inr (1, [.ref ro, .ref rl, .int pl])), (ro, .inl (cI, 4, .inl fo)), (rl, .inl (cI, 28, .inl (sh fl)))] H := hP
        have hD : va_D A [(pn, .inr (0, [.ref pm, .ref pf, .int (nI S.2.2)])), (pm, .inl (cI, 224, .inl (upd fm (plc d r) far))), (pf, .inl (cI, 224, .inl (upd ff S.2.2 (nI (plc d r))))), (rg, .inr (1, [.ref ro, .ref rl, .int pl])), (ro, .inl (cI, 4, .inl fo)), (rl, .inl (cI, 28, .inl (sh fl)))] := hD
        refine lv_aload_n hx hb dX0_visit_78 rfl (lv_at hl 1 rfl) ?_
        refine lv_dup hx hb dX0_visit_79 rfl ?_
        refine va_get (D := D) (ci := 0) (v := .int (nI S.2.2)) (C := RX0) (T := TX0) (N := 3) hx hb hts hiX0 hown hK hP 0 rfl rfl 2 (by decide) (hts (.fieldLink RX0 18 "CraneReach$Plan" "places" "I") (by decide +kernel)) (fun _ h9 => h9) rfl dX0_visit_80 ?_
        refine lv_iconst (v := 1) hx hb dX0_visit_83 (by decide) ?_
        refine lv_iadd hx hb dX0_visit_84 ?_
        refine c_top (show (nI S.2.2) + 1 = nI (S.2.2 + 1) from nI_1 _) ?_
        refine va_put (D := D) (ci := 0) (v := .int (nI (S.2.2 + 1))) (ty := .int) (C := RX0) (T := TX0) (N := 3) hx hb hts hiX0 tyX0 tyX0_ok nmX0 hown hK hP hD hS 0 rfl rfl 2 (by decide) (hts (.fieldLink RX0 18 "CraneReach$Plan" "places" "I") (by decide +kernel)) (fun _ h9 => h9) rfl (by decide +kernel) rfl rfl (Nat.le_of_ble_eq_true rfl) dX0_visit_85 (fun H locs hP hD hS => ?_)
        have hP : va_P D vwCl [(pn, .inr (0, [.ref pm, .ref pf, .int (nI (S.2.2 + 1))])), (pm, .inl (cI, 224, .inl (upd fm (plc d r) far))), (pf, .inl (cI, 224, .inl (upd ff S.2.2 (nI (plc d r))))), (rg, .inr (1, [.ref ro, .ref rl, .int pl])), (ro, .inl (cI, 4, .inl fo)), (rl, .inl (cI, 28, .inl (sh fl)))] H := hP
        have hD : va_D A [(pn, .inr (0, [.ref pm, .ref pf, .int (nI (S.2.2 + 1))])), (pm, .inl (cI, 224, .inl (upd fm (plc d r) far))), (pf, .inl (cI, 224, .inl (upd ff S.2.2 (nI (plc d r))))), (rg, .inr (1, [.ref ro, .ref rl, .int pl])), (ro, .inl (cI, 4, .inl fo)), (rl, .inl (cI, 28, .inl (sh fl)))] := hD
        exact W.vret hx hb hRt (fun t ht hW => ⟨⟨rfl, by rw [ht]; exact by rw [vis_yes hy]; exact ⟨_, _, vis_yes hy ▸ bC_vis hC hd hy, hP⟩⟩, hS.F ht⟩) hS.2.2 dX0_visit_88
    · exact W.vret hx hb hRt (fun t ht hW => ⟨⟨rfl, by rw [ht]; exact by rw [vis_no (fun z => c_8 z.2.1)]; exact ⟨fm, ff, hC, hP⟩⟩, hS.F ht⟩) hS.2.2 dX0_visit_34
  · refine c_top (show (if 3 ≤ r ∧ r ≤ 30 then nI (plc d r) else -1) = -1 from if_neg cr) ?_
    refine lv_istore (lv' := [(6, .int (-1)), (0, .ref pn), (1, .ref rg), (2, .int tons), (3, .int (nI d)), (4, .int (nI r)), (5, .int far)]) hx hb dX0_visit_6 hl (by decide) rfl (fun ls hl => ?_)
    refine lv_iload hx hb dX0_visit_8 (lv_at hl 0 rfl) ?_
    refine lv_if_lt (tgt := 34) hx hb dX0_visit_10 (by decide) (fun _ => ?_) (fun c_5 => absurd (by decide) c_5)
    exact W.vret hx hb hRt (fun t ht hW => ⟨⟨rfl, by rw [ht]; exact by rw [vis_no (fun z => cr z.1)]; exact ⟨fm, ff, hC, hP⟩⟩, hS.F ht⟩) hS.2.2 dX0_visit_34
theorem vis_invF {sf : Nat → Nat → Bool} {far : Int32} {d r k : Nat} {S : bS} (hf : far = nI k) (h : bInv S) (hd : d < 8) (hk : k ≤ S.2.2) : bInv (vis sf far d r S) := by rw [hf]; exact vis_inv h hd hk
set_option maxHeartbeats 4000000 in
set_option maxRecDepth 100000 in
/-- visitBeside(rig, tons, place) -/
theorem k_visitBeside (l : Launch) (D : va_G) (L0 : Nat) (cI : ClassId) (pn pm pf rg ro rl : Nat) (fm ff : Nat → Int32) (pl : Int32) (fo fl : Nat → Int32) (tons : Int32) (S : bS) (i ct : Nat) (hI : bInv S) (hC : bC S fm ff) (hi : i < S.2.2) (hc : S.2.1 i = ct) : Met l yX0_visitBeside wsX0_visitBeside ({ frames := 4, cells := 0, slots := 0, locals := 97 }) (cP L0 D [(cI, .int)] [(pn, .inr (0, [.ref pm, .ref pf, .int (nI S.2.2)])), (pm, .inl (cI, 224, .inl fm)), (pf, .inl (cI, 224, .inl ff)), (rg, .inr (1, [.ref ro, .ref rl, .int pl])), (ro, .inl (cI, 4, .inl fo)), (rl, .inl (cI, 28, .inl (sh fl)))] [.ref pn, .ref rg, .int tons, .int (nI (plc (ct % 8) (ct / 8)))]) (cB none (fun H => ∃ fm9 ff9 : Nat → Int32, bC (vis4 (safS fo fl pl tons) ct S) fm9 ff9 ∧ va_P D vwCl [(pn, .inr (0, [.ref pm, .ref pf, .int (nI (vis4 (safS fo fl pl tons) ct S).2.2)])), (pm, .inl (cI, 224, .inl fm9)), (pf, .inl (cI, 224, .inl ff9)), (rg, .inr (1, [.ref ro, .ref rl, .int pl])), (ro, .inl (cI, 4, .inl fo)), (rl, .inl (cI, 28, .inl (sh fl)))] H) (cA [(pn, .inr (0, [.ref pm, .ref pf, .int (nI S.2.2)])), (pm, .inl (cI, 224, .inl fm)), (pf, .inl (cI, 224, .inl ff)), (rg, .inr (1, [.ref ro, .ref rl, .int pl])), (ro, .inl (cI, 4, .inl fo)), (rl, .inl (cI, 28, .inl (sh fl)))])) 0 0 (cA [(pn, .inr (0, [.ref pm, .ref pf, .int (nI S.2.2)])), (pm, .inl (cI, 224, .inl fm)), (pf, .inl (cI, 224, .inl ff)), (rg, .inr (1, [.ref ro, .ref rl, .int pl])), (ro, .inl (cI, 4, .inl fo)), (rl, .inl (cI, 28, .inl (sh fl)))]) := by
  refine Met.ofW (cc := cX0_visitBeside) (maxL := 7) (ret := none) (by decide) rfl ?_
  intro p e s m args below meth c s₁ B hml hv
  obtain ⟨rfl, hP, hK, hD0, hE0⟩ := hv
  have hx := B.exec
  have hb := B.bytes
  have hRt := B.returns
  have hts := atoms_spec (ws := wsX0_visitBeside) B.pre
  have hown : s.vm.findClass RX0 = some m.cls := findClass_of_methodNamed B.named
  have hlocks := B.notSynchronized
  have hAL : ∀ z9 : Nat, cA [(pn, .inr (0, [.ref pm, .ref pf, .int (nI S.2.2)])), (pm, .inl (cI, 224, .inl fm)), (pf, .inl (cI, 224, .inl ff)), (rg, .inr (1, [.ref ro, .ref rl, .int pl])), (ro, .inl (cI, 4, .inl fo)), (rl, .inl (cI, 28, .inl (sh fl)))] z9 → L0 ≤ z9 := fun z9 ⟨k9, e9, h9⟩ => hD0.2 k9 (z9, e9) h9
  have hD : va_D (cA [(pn, .inr (0, [.ref pm, .ref pf, .int (nI S.2.2)])), (pm, .inl (cI, 224, .inl fm)), (pf, .inl (cI, 224, .inl ff)), (rg, .inr (1, [.ref ro, .ref rl, .int pl])), (ro, .inl (cI, 4, .inl fo)), (rl, .inl (cI, 28, .inl (sh fl)))]) [(pn, .inr (0, [.ref pm, .ref pf, .int (nI S.2.2)])), (pm, .inl (cI, 224, .inl fm)), (pf, .inl (cI, 224, .inl ff)), (rg, .inr (1, [.ref ro, .ref rl, .int pl])), (ro, .inl (cI, 4, .inl fo)), (rl, .inl (cI, 28, .inl (sh fl)))] := ⟨hD0.1, fun k9 z9 h9 => cA_of h9⟩
  generalize hAe : cA [(pn, .inr (0, [.ref pm, .ref pf, .int (nI S.2.2)])), (pm, .inl (cI, 224, .inl fm)), (pf, .inl (cI, 224, .inl ff)), (rg, .inr (1, [.ref ro, .ref rl, .int pl])), (ro, .inl (cI, 4, .inl fo)), (rl, .inl (cI, 28, .inl (sh fl)))] = A at hD hAL ⊢
  have hS : va_S A s.heap s.heap [] := va_S.rf
  have hiX0 : ∀ w ∈ u_ws RX0 TX0 3, w ∈ wsX0_visitBeside := by decide +kernel
  have hiX1 : ∀ w ∈ u_ws RX1 TX1 3, w ∈ wsX0_visitBeside := by decide +kernel
  have hl := lv_entry ([.ref pn, .ref rg, .int tons, .int (nI (plc (ct % 8) (ct / 8)))]) (n := 7) (Nat.le_of_ble_eq_true rfl)
  rw [lg_entry_eq]
  generalize (lg_sl ([.ref pn, .ref rg, .int tons, .int (nI (plc (ct % 8) (ct / 8)))]) ++ List.replicate (7 - (lg_sl ([.ref pn, .ref rg, .int tons, .int (nI (plc (ct % 8) (ct / 8)))])).length) Slot.unset).toArray = ls at hl ⊢
  have hl : lv_has ls 7 [(0, .ref pn), (1, .ref rg), (2, .int tons), (3, .int (nI (plc (ct % 8) (ct / 8))))] := hl
  obtain ⟨hc1, hc2, -⟩ := hI.1 i hi
  obtain ⟨k, hk1, hk2, hk3⟩ := bInv_far hI hi
  rw [hc] at hc1 hc2 hk2 hk3
  have hd : ct % 8 < 8 := Nat.mod_lt _ (by decide)
  have hr : 3 ≤ ct / 8 ∧ ct / 8 ≤ 30 := by omega
  have e8 : 8 * (ct / 8) + ct % 8 = ct := by omega
  have hp := plc_lt hd hr
  refine lv_iload_n hx hb dX0_visitBeside_0 rfl (lv_at hl 3 rfl) ?_
  refine lv_if_lt (tgt := 13) hx hb dX0_visitBeside_1 (by decide) (fun c_11 => absurd c_11 (nI_pos (by omega))) (fun _ => ?_)
  refine lv_iload_n hx hb dX0_visitBeside_4 rfl (lv_at hl 3 rfl) ?_
  refine lv_aload_n hx hb dX0_visitBeside_5 rfl (lv_at hl 0 rfl) ?_
  refine va_get (D := D) (ci := 0) (v := .ref pm) (C := RX0) (T := TX0) (N := 3) hx hb hts hiX0 hown hK hP 0 rfl rfl 0 (by decide) (hts (.fieldLink RX0 9 "CraneReach$Plan" "moves" "[I") (by decide +kernel)) (fun _ h9 => h9) rfl dX0_visitBeside_6 ?_
  refine va_alen hx hb hK hP 1 0 rfl rfl (v := 224) rfl dX0_visitBeside_9 ?_
  refine lv_icmp_lt (tgt := 14) hx hb dX0_visitBeside_10 (by decide) (fun _ => ?_) (fun c_12 => absurd (nI_lt (b := 224) hp (by decide)) c_12)
  refine lv_iload_n hx hb dX0_visitBeside_14 rfl (lv_at hl 3 rfl) ?_
  refine lv_bipush (v := 28) hx hb dX0_visitBeside_15 (by decide) ?_
  refine lv_idiv hx hb dX0_visitBeside_17 (by decide) ?_
  refine c_top (show (nI (plc (ct % 8) (ct / 8))) / 28 = nI (ct % 8) from plc_d hd hr) ?_
  refine lv_istore (lv' := [(4, .int (nI (ct % 8))), (0, .ref pn), (1, .ref rg), (2, .int tons), (3, .int (nI (plc (ct % 8) (ct / 8))))]) hx hb dX0_visitBeside_18 hl (by decide) rfl (fun ls hl => ?_)
  refine lv_iload_n hx hb dX0_visitBeside_20 rfl (lv_at hl 4 rfl) ?_
  refine lv_bipush (v := 28) hx hb dX0_visitBeside_21 (by decide) ?_
  refine lv_irem hx hb dX0_visitBeside_23 (by decide) ?_
  refine lv_iconst (v := 3) hx hb dX0_visitBeside_24 (by decide) ?_
  refine lv_iadd hx hb dX0_visitBeside_25 ?_
  refine c_top (show ((nI (plc (ct % 8) (ct / 8))) - (nI (plc (ct % 8) (ct / 8))) / 28 * 28) + 3 = nI (ct / 8) from plc_r hd hr) ?_
  refine lv_istore (lv' := [(5, .int (nI (ct / 8))), (4, .int (nI (ct % 8))), (0, .ref pn), (1, .ref rg), (2, .int tons), (3, .int (nI (plc (ct % 8) (ct / 8))))]) hx hb dX0_visitBeside_26 hl (by decide) rfl (fun ls hl => ?_)
  refine lv_aload_n hx hb dX0_visitBeside_28 rfl (lv_at hl 2 rfl) ?_
  refine va_get (D := D) (ci := 0) (v := .ref pm) (C := RX0) (T := TX0) (N := 3) hx hb hts hiX0 hown hK hP 0 rfl rfl 0 (by decide) (hts (.fieldLink RX0 9 "CraneReach$Plan" "moves" "[I") (by decide +kernel)) (fun _ h9 => h9) rfl dX0_visitBeside_29 ?_
  refine lv_iload_n hx hb dX0_visitBeside_32 rfl (lv_at hl 5 rfl) ?_
  refine va_iald hx hb hK hP 1 0 rfl rfl (vp_in_nI hp (by decide)) dX0_visitBeside_33 ?_
  refine c_top (show fm (nI (plc (ct % 8) (ct / 8))).toNatClampNeg = fm (plc (ct % 8) (ct / 8)) from by rw [nI_clamp (by omega)]) ?_
  refine c_top (show fm (plc (ct % 8) (ct / 8)) = S.1 ct from (hC.1 _ _ hd hr.1 hr.2).trans (by rw [e8])) ?_
  refine lv_iconst (v := 1) hx hb dX0_visitBeside_34 (by decide) ?_
  refine lv_iadd hx hb dX0_visitBeside_35 ?_
  refine lv_istore (lv' := [(6, .int ((S.1 ct) + 1)), (5, .int (nI (ct / 8))), (4, .int (nI (ct % 8))), (0, .ref pn), (1, .ref rg), (2, .int tons), (3, .int (nI (plc (ct % 8) (ct / 8))))]) hx hb dX0_visitBeside_36 hl (by decide) rfl (fun ls hl => ?_)
  refine lv_aload_n hx hb dX0_visitBeside_38 rfl (lv_at hl 3 rfl) ?_
  refine lv_aload_n hx hb dX0_visitBeside_39 rfl (lv_at hl 4 rfl) ?_
  refine lv_iload_n hx hb dX0_visitBeside_40 rfl (lv_at hl 5 rfl) ?_
  refine lv_iload hx hb dX0_visitBeside_41 (lv_at hl 2 rfl) ?_
  refine lv_iconst (v := 1) hx hb dX0_visitBeside_43 (by decide) ?_
  have hPc := hP.sub (ws' := []) [] rfl
  have hDc : va_D (fun q : Nat => L0 ≤ q) [] := (hD.sub (ws' := []) [] (by decide) rfl).weaken (fun _ z9 _ h9 => hAL _ h9)
  have hKc := hK.sub (tys' := []) [] rfl
  refine c_callR (va_runSN (As := [.int (nI (ct % 8)), .int 1]) (rest := [.int tons, .ref rg, .ref pn]) ⟨hx, hb, hml, hown, hts⟩ (k_turned l D L0 (nI (ct % 8)) (1)) (⟨va_cnB 2 hts gX0_visitBeside_X2_turned_n34 rfl rfl rfl (hE0.2.2.2.2.2.1.2.1) (hts (.initialized RX2) (by decide +kernel)) (by decide +kernel) ⟨Nat.le_of_ble_eq_true rfl, Nat.le_of_ble_eq_true rfl⟩, hts (.static yX2_turned) (by decide +kernel), trivial⟩) ⟨cP_blind, cP_of hPc hKc hDc (kE_at hE0 hAL hS)⟩ rfl rfl hl.1 rfl (lv_room (Nat.le_of_ble_eq_true rfl)) dX0_visitBeside_44 ⟨Nat.le_of_ble_eq_true rfl, Nat.le_of_ble_eq_true rfl⟩) ?_
  show W _ _ _ _ _ _ _ _ _ _ _ _ _ _ _ (F0 m 47 ls [.int (tnI (nI (ct % 8)) (1)), .int tons, .ref rg, .ref pn])
  refine c_top (show tnI (nI (ct % 8)) (1) = nI ((ct % 8 + 1) % 8) from tn_1 _ hd) ?_
  refine lv_iload hx hb dX0_visitBeside_47 (lv_at hl 1 rfl) ?_
  refine lv_iload hx hb dX0_visitBeside_49 (lv_at hl 0 rfl) ?_
  have hPc := hP.sub (ws' := [(pn, .inr (0, [.ref pm, .ref pf, .int (nI S.2.2)])), (pm, .inl (cI, 224, .inl fm)), (pf, .inl (cI, 224, .inl ff)), (rg, .inr (1, [.ref ro, .ref rl, .int pl])), (ro, .inl (cI, 4, .inl fo)), (rl, .inl (cI, 28, .inl (sh fl)))]) [0, 1, 2, 3, 4, 5] rfl
  have hDc : va_D (fun q : Nat => L0 ≤ q) [(pn, .inr (0, [.ref pm, .ref pf, .int (nI S.2.2)])), (pm, .inl (cI, 224, .inl fm)), (pf, .inl (cI, 224, .inl ff)), (rg, .inr (1, [.ref ro, .ref rl, .int pl])), (ro, .inl (cI, 4, .inl fo)), (rl, .inl (cI, 28, .inl (sh fl)))] := (hD.sub (ws' := [(pn, .inr (0, [.ref pm, .ref pf, .int (nI S.2.2)])), (pm, .inl (cI, 224, .inl fm)), (pf, .inl (cI, 224, .inl ff)), (rg, .inr (1, [.ref ro, .ref rl, .int pl])), (ro, .inl (cI, 4, .inl fo)), (rl, .inl (cI, 28, .inl (sh fl)))]) [0, 1, 2, 3, 4, 5] (by decide) rfl).weaken (fun _ z9 _ h9 => hAL _ h9)
  have hKc := hK.sub (tys' := [(cI, .int)]) [0] rfl
  refine c_callB (va_runV (As := [.ref rg, .int tons, .int (nI ((ct % 8 + 1) % 8)), .int (nI (ct / 8)), .int ((S.1 ct) + 1)]) (rest := []) ⟨hx, hb, hml, hown, hts⟩ (k_visit l D L0 cI pn pm pf rg ro rl fm ff pl fo fl tons (S.1 ct + 1) (S) ((ct % 8 + 1) % 8) (ct / 8) (k + 1) (Nat.mod_lt _ (by decide)) (by omega) hI hC hk3 (by omega)) (cwV 5 hts gX0_visitBeside_X0_visit rfl rfl rfl (by decide +kernel) ⟨Nat.le_of_ble_eq_true rfl, Nat.le_of_ble_eq_true rfl⟩) ⟨cP_blind, va_recv hKc hPc (ci := 0) (q0 := 0) rfl rfl, cP_of hPc hKc hDc (kE_at hE0 hAL hS)⟩ rfl rfl hl.1 rfl (lv_room (Nat.le_of_ble_eq_true rfl)) dX0_visitBeside_51 ⟨Nat.le_of_ble_eq_true rfl, Nat.le_of_ble_eq_true rfl⟩) hS (fun z9 _ ⟨k9, e9, h9⟩ => (hD.sub (ws' := [(pn, .inr (0, [.ref pm, .ref pf, .int (nI S.2.2)])), (pm, .inl (cI, 224, .inl fm)), (pf, .inl (cI, 224, .inl ff)), (rg, .inr (1, [.ref ro, .ref rl, .int pl])), (ro, .inl (cI, 4, .inl fo)), (rl, .inl (cI, 28, .inl (sh fl)))]) [0, 1, 2, 3, 4, 5] (by decide) rfl).2 k9 (z9, e9) h9) (fun z9 ⟨k9, e9, h9⟩ => (hD.sub (ws' := [(pn, .inr (0, [.ref pm, .ref pf, .int (nI S.2.2)])), (pm, .inl (cI, 224, .inl fm)), (pf, .inl (cI, 224, .inl ff)), (rg, .inr (1, [.ref ro, .ref rl, .int pl])), (ro, .inl (cI, 4, .inl fo)), (rl, .inl (cI, 28, .inl (sh fl)))]) [0, 1, 2, 3, 4, 5] (by decide) rfl).2 k9 (z9, e9) h9) (fun H1 locs hB hz1 hk1 hS => ?_)
  obtain ⟨fm1, ff1, hC1, hB⟩ := hB
  obtain ⟨hP, hD⟩ := c_join (ws' := [(pn, .inr (0, [.ref pm, .ref pf, .int (nI (vis (safS fo fl pl tons) (S.1 ct + 1) ((ct % 8 + 1) % 8) (ct / 8) (S)).2.2)])), (pm, .inl (cI, 224, .inl fm1)), (pf, .inl (cI, 224, .inl ff1)), (rg, .inr (1, [.ref ro, .ref rl, .int pl])), (ro, .inl (cI, 4, .inl fo)), (rl, .inl (cI, 28, .inl (sh fl)))]) (wr := []) (w1 := [(pn, .inr (0, [.ref pm, .ref pf, .int (nI (vis (safS fo fl pl tons) (S.1 ct + 1) ((ct % 8 + 1) % 8) (ct / 8) (S)).2.2)])), (pm, .inl (cI, 224, .inl fm1)), (pf, .inl (cI, 224, .inl ff1)), (rg, .inr (1, [.ref ro, .ref rl, .int pl])), (ro, .inl (cI, 4, .inl fo)), (rl, .inl (cI, 28, .inl (sh fl)))]) hP hD [0, 1, 2, 3, 4, 5] [] [0, 1, 2, 3, 4, 5] rfl rfl (by decide) (by decide) hk1 hB rfl rfl rfl (by decide)
  generalize H1 = H at hP hS ⊢
  show W _ _ _ _ _ _ _ _ _ _ _ _ _ _ _ (F0 m 54 ls [])
  have hI1 : bInv (vis (safS fo fl pl tons) (S.1 ct + 1) ((ct % 8 + 1) % 8) (ct / 8) (S)) := vis_invF hk3 hI (Nat.mod_lt _ (by decide)) (by omega)
  have hn1 := (vis_n (sf := safS fo fl pl tons) (far := (S.1 ct + 1)) (d := ((ct % 8 + 1) % 8)) (r := (ct / 8)) (S := S)).1
  refine lv_aload_n hx hb dX0_visitBeside_54 rfl (lv_at hl 3 rfl) ?_
  refine lv_aload_n hx hb dX0_visitBeside_55 rfl (lv_at hl 4 rfl) ?_
  refine lv_iload_n hx hb dX0_visitBeside_56 rfl (lv_at hl 5 rfl) ?_
  refine lv_iload hx hb dX0_visitBeside_57 (lv_at hl 2 rfl) ?_
  refine lv_iconst (v := -1) hx hb dX0_visitBeside_59 (by decide) ?_
  have hPc := hP.sub (ws' := []) [] rfl
  have hDc : va_D (fun q : Nat => L0 ≤ q) [] := (hD.sub (ws' := []) [] (by decide) rfl).weaken (fun _ z9 _ h9 => hAL _ h9)
  have hKc := hK.sub (tys' := []) [] rfl
  refine c_callR (va_runSN (As := [.int (nI (ct % 8)), .int (-1)]) (rest := [.int tons, .ref rg, .ref pn]) ⟨hx, hb, hml, hown, hts⟩ (k_turned l D L0 (nI (ct % 8)) (-1)) (⟨va_cnB 2 hts gX0_visitBeside_X2_turned_n34 rfl rfl rfl (hE0.2.2.2.2.2.1.2.1) (hts (.initialized RX2) (by decide +kernel)) (by decide +kernel) ⟨Nat.le_of_ble_eq_true rfl, Nat.le_of_ble_eq_true rfl⟩, hts (.static yX2_turned) (by decide +kernel), trivial⟩) ⟨cP_blind, cP_of hPc hKc hDc (kE_at hE0 hAL hS)⟩ rfl rfl hl.1 rfl (lv_room (Nat.le_of_ble_eq_true rfl)) dX0_visitBeside_60 ⟨Nat.le_of_ble_eq_true rfl, Nat.le_of_ble_eq_true rfl⟩) ?_
  show W _ _ _ _ _ _ _ _ _ _ _ _ _ _ _ (F0 m 63 ls [.int (tnI (nI (ct % 8)) (-1)), .int tons, .ref rg, .ref pn])
  refine c_top (show tnI (nI (ct % 8)) (-1) = nI ((ct % 8 + 7) % 8) from tn_m _ hd) ?_
  refine lv_iload hx hb dX0_visitBeside_63 (lv_at hl 1 rfl) ?_
  refine lv_iload hx hb dX0_visitBeside_65 (lv_at hl 0 rfl) ?_
  have hPc := hP.sub (ws' := [(pn, .inr (0, [.ref pm, .ref pf, .int (nI (vis (safS fo fl pl tons) (S.1 ct + 1) ((ct % 8 + 1) % 8) (ct / 8) (S)).2.2)])), (pm, .inl (cI, 224, .inl fm1)), (pf, .inl (cI, 224, .inl ff1)), (rg, .inr (1, [.ref ro, .ref rl, .int pl])), (ro, .inl (cI, 4, .inl fo)), (rl, .inl (cI, 28, .inl (sh fl)))]) [0, 1, 2, 3, 4, 5] rfl
  have hDc : va_D (fun q : Nat => L0 ≤ q) [(pn, .inr (0, [.ref pm, .ref pf, .int (nI (vis (safS fo fl pl tons) (S.1 ct + 1) ((ct % 8 + 1) % 8) (ct / 8) (S)).2.2)])), (pm, .inl (cI, 224, .inl fm1)), (pf, .inl (cI, 224, .inl ff1)), (rg, .inr (1, [.ref ro, .ref rl, .int pl])), (ro, .inl (cI, 4, .inl fo)), (rl, .inl (cI, 28, .inl (sh fl)))] := (hD.sub (ws' := [(pn, .inr (0, [.ref pm, .ref pf, .int (nI (vis (safS fo fl pl tons) (S.1 ct + 1) ((ct % 8 + 1) % 8) (ct / 8) (S)).2.2)])), (pm, .inl (cI, 224, .inl fm1)), (pf, .inl (cI, 224, .inl ff1)), (rg, .inr (1, [.ref ro, .ref rl, .int pl])), (ro, .inl (cI, 4, .inl fo)), (rl, .inl (cI, 28, .inl (sh fl)))]) [0, 1, 2, 3, 4, 5] (by decide) rfl).weaken (fun _ z9 _ h9 => hAL _ h9)
  have hKc := hK.sub (tys' := [(cI, .int)]) [0] rfl
  refine c_callB (va_runV (As := [.ref rg, .int tons, .int (nI ((ct % 8 + 7) % 8)), .int (nI (ct / 8)), .int ((S.1 ct) + 1)]) (rest := []) ⟨hx, hb, hml, hown, hts⟩ (k_visit l D L0 cI pn pm pf rg ro rl fm1 ff1 pl fo fl tons (S.1 ct + 1) (vis (safS fo fl pl tons) (S.1 ct + 1) ((ct % 8 + 1) % 8) (ct / 8) (S)) ((ct % 8 + 7) % 8) (ct / 8) (k + 1) (Nat.mod_lt _ (by decide)) (by omega) hI1 hC1 hk3 (by omega)) (cwV 5 hts gX0_visitBeside_X0_visit rfl rfl rfl (by decide +kernel) ⟨Nat.le_of_ble_eq_true rfl, Nat.le_of_ble_eq_true rfl⟩) ⟨cP_blind, va_recv hKc hPc (ci := 0) (q0 := 0) rfl rfl, cP_of hPc hKc hDc (kE_at hE0 hAL hS)⟩ rfl rfl hl.1 rfl (lv_room (Nat.le_of_ble_eq_true rfl)) dX0_visitBeside_67 ⟨Nat.le_of_ble_eq_true rfl, Nat.le_of_ble_eq_true rfl⟩) hS (fun z9 _ ⟨k9, e9, h9⟩ => (hD.sub (ws' := [(pn, .inr (0, [.ref pm, .ref pf, .int (nI (vis (safS fo fl pl tons) (S.1 ct + 1) ((ct % 8 + 1) % 8) (ct / 8) (S)).2.2)])), (pm, .inl (cI, 224, .inl fm1)), (pf, .inl (cI, 224, .inl ff1)), (rg, .inr (1, [.ref ro, .ref rl, .int pl])), (ro, .inl (cI, 4, .inl fo)), (rl, .inl (cI, 28, .inl (sh fl)))]) [0, 1, 2, 3, 4, 5] (by decide) rfl).2 k9 (z9, e9) h9) (fun z9 ⟨k9, e9, h9⟩ => (hD.sub (ws' := [(pn, .inr (0, [.ref pm, .ref pf, .int (nI (vis (safS fo fl pl tons) (S.1 ct + 1) ((ct % 8 + 1) % 8) (ct / 8) (S)).2.2)])), (pm, .inl (cI, 224, .inl fm1)), (pf, .inl (cI, 224, .inl ff1)), (rg, .inr (1, [.ref ro, .ref rl, .int pl])), (ro, .inl (cI, 4, .inl fo)), (rl, .inl (cI, 28, .inl (sh fl)))]) [0, 1, 2, 3, 4, 5] (by decide) rfl).2 k9 (z9, e9) h9) (fun H1 locs hB hz1 hk1 hS => ?_)
  obtain ⟨fm2, ff2, hC2, hB⟩ := hB
  obtain ⟨hP, hD⟩ := c_join (ws' := [(pn, .inr (0, [.ref pm, .ref pf, .int (nI (vis (safS fo fl pl tons) (S.1 ct + 1) ((ct % 8 + 7) % 8) (ct / 8) (vis (safS fo fl pl tons) (S.1 ct + 1) ((ct % 8 + 1) % 8) (ct / 8) (S))).2.2)])), (pm, .inl (cI, 224, .inl fm2)), (pf, .inl (cI, 224, .inl ff2)), (rg, .inr (1, [.ref ro, .ref rl, .int pl])), (ro, .inl (cI, 4, .inl fo)), (rl, .inl (cI, 28, .inl (sh fl)))]) (wr := []) (w1 := [(pn, .inr (0, [.ref pm, .ref pf, .int (nI (vis (safS fo fl pl tons) (S.1 ct + 1) ((ct % 8 + 7) % 8) (ct / 8) (vis (safS fo fl pl tons) (S.1 ct + 1) ((ct % 8 + 1) % 8) (ct / 8) (S))).2.2)])), (pm, .inl (cI, 224, .inl fm2)), (pf, .inl (cI, 224, .inl ff2)), (rg, .inr (1, [.ref ro, .ref rl, .int pl])), (ro, .inl (cI, 4, .inl fo)), (rl, .inl (cI, 28, .inl (sh fl)))]) hP hD [0, 1, 2, 3, 4, 5] [] [0, 1, 2, 3, 4, 5] rfl rfl (by decide) (by decide) hk1 hB rfl rfl rfl (by decide)
  generalize H1 = H at hP hS ⊢
  show W _ _ _ _ _ _ _ _ _ _ _ _ _ _ _ (F0 m 70 ls [])
  have hI2 : bInv (vis (safS fo fl pl tons) (S.1 ct + 1) ((ct % 8 + 7) % 8) (ct / 8) (vis (safS fo fl pl tons) (S.1 ct + 1) ((ct % 8 + 1) % 8) (ct / 8) (S))) := vis_invF hk3 hI1 (Nat.mod_lt _ (by decide)) (by omega)
  have hn2 := (vis_n (sf := safS fo fl pl tons) (far := (S.1 ct + 1)) (d := ((ct % 8 + 7) % 8)) (r := (ct / 8)) (S := vis (safS fo fl pl tons) (S.1 ct + 1) ((ct % 8 + 1) % 8) (ct / 8) (S))).1
  refine lv_aload_n hx hb dX0_visitBeside_70 rfl (lv_at hl 3 rfl) ?_
  refine lv_aload_n hx hb dX0_visitBeside_71 rfl (lv_at hl 4 rfl) ?_
  refine lv_iload_n hx hb dX0_visitBeside_72 rfl (lv_at hl 5 rfl) ?_
  refine lv_iload hx hb dX0_visitBeside_73 (lv_at hl 2 rfl) ?_
  refine lv_iload hx hb dX0_visitBeside_75 (lv_at hl 1 rfl) ?_
  refine lv_iconst (v := 1) hx hb dX0_visitBeside_77 (by decide) ?_
  refine lv_iadd hx hb dX0_visitBeside_78 ?_
  refine lv_iload hx hb dX0_visitBeside_79 (lv_at hl 0 rfl) ?_
  refine W.eq (g2 := F0 m 81 ls [.int ((S.1 ct) + 1), .int (nI (ct / 8 + 1)), .int (nI (ct % 8)), .int tons, .ref rg, .ref pn]) (by rw [nI_1]) ?_
  have hPc := hP.sub (ws' := [(pn, .inr (0, [.ref pm, .ref pf, .int (nI (vis (safS fo fl pl tons) (S.1 ct + 1) ((ct % 8 + 7) % 8) (ct / 8) (vis (safS fo fl pl tons) (S.1 ct + 1) ((ct % 8 + 1) % 8) (ct / 8) (S))).2.2)])), (pm, .inl (cI, 224, .inl fm2)), (pf, .inl (cI, 224, .inl ff2)), (rg, .inr (1, [.ref ro, .ref rl, .int pl])), (ro, .inl (cI, 4, .inl fo)), (rl, .inl (cI, 28, .inl (sh fl)))]) [0, 1, 2, 3, 4, 5] rfl
  have hDc : va_D (fun q : Nat => L0 ≤ q) [(pn, .inr (0, [.ref pm, .ref pf, .int (nI (vis (safS fo fl pl tons) (S.1 ct + 1) ((ct % 8 + 7) % 8) (ct / 8) (vis (safS fo fl pl tons) (S.1 ct + 1) ((ct % 8 + 1) % 8) (ct / 8) (S))).2.2)])), (pm, .inl (cI, 224, .inl fm2)), (pf, .inl (cI, 224, .inl ff2)), (rg, .inr (1, [.ref ro, .ref rl, .int pl])), (ro, .inl (cI, 4, .inl fo)), (rl, .inl (cI, 28, .inl (sh fl)))] := (hD.sub (ws' := [(pn, .inr (0, [.ref pm, .ref pf, .int (nI (vis (safS fo fl pl tons) (S.1 ct + 1) ((ct % 8 + 7) % 8) (ct / 8) (vis (safS fo fl pl tons) (S.1 ct + 1) ((ct % 8 + 1) % 8) (ct / 8) (S))).2.2)])), (pm, .inl (cI, 224, .inl fm2)), (pf, .inl (cI, 224, .inl ff2)), (rg, .inr (1, [.ref ro, .ref rl, .int pl])), (ro, .inl (cI, 4, .inl fo)), (rl, .inl (cI, 28, .inl (sh fl)))]) [0, 1, 2, 3, 4, 5] (by decide) rfl).weaken (fun _ z9 _ h9 => hAL _ h9)
  have hKc := hK.sub (tys' := [(cI, .int)]) [0] rfl
  refine c_callB (va_runV (As := [.ref rg, .int tons, .int (nI (ct % 8)), .int (nI (ct / 8 + 1)), .int ((S.1 ct) + 1)]) (rest := []) ⟨hx, hb, hml, hown, hts⟩ (k_visit l D L0 cI pn pm pf rg ro rl fm2 ff2 pl fo fl tons (S.1 ct + 1) (vis (safS fo fl pl tons) (S.1 ct + 1) ((ct % 8 + 7) % 8) (ct / 8) (vis (safS fo fl pl tons) (S.1 ct + 1) ((ct % 8 + 1) % 8) (ct / 8) (S))) (ct % 8) (ct / 8 + 1) (k + 1) (hd) (by omega) hI2 hC2 hk3 (by omega)) (cwV 5 hts gX0_visitBeside_X0_visit rfl rfl rfl (by decide +kernel) ⟨Nat.le_of_ble_eq_true rfl, Nat.le_of_ble_eq_true rfl⟩) ⟨cP_blind, va_recv hKc hPc (ci := 0) (q0 := 0) rfl rfl, cP_of hPc hKc hDc (kE_at hE0 hAL hS)⟩ rfl rfl hl.1 rfl (lv_room (Nat.le_of_ble_eq_true rfl)) dX0_visitBeside_81 ⟨Nat.le_of_ble_eq_true rfl, Nat.le_of_ble_eq_true rfl⟩) hS (fun z9 _ ⟨k9, e9, h9⟩ => (hD.sub (ws' := [(pn, .inr (0, [.ref pm, .ref pf, .int (nI (vis (safS fo fl pl tons) (S.1 ct + 1) ((ct % 8 + 7) % 8) (ct / 8) (vis (safS fo fl pl tons) (S.1 ct + 1) ((ct % 8 + 1) % 8) (ct / 8) (S))).2.2)])), (pm, .inl (cI, 224, .inl fm2)), (pf, .inl (cI, 224, .inl ff2)), (rg, .inr (1, [.ref ro, .ref rl, .int pl])), (ro, .inl (cI, 4, .inl fo)), (rl, .inl (cI, 28, .inl (sh fl)))]) [0, 1, 2, 3, 4, 5] (by decide) rfl).2 k9 (z9, e9) h9) (fun z9 ⟨k9, e9, h9⟩ => (hD.sub (ws' := [(pn, .inr (0, [.ref pm, .ref pf, .int (nI (vis (safS fo fl pl tons) (S.1 ct + 1) ((ct % 8 + 7) % 8) (ct / 8) (vis (safS fo fl pl tons) (S.1 ct + 1) ((ct % 8 + 1) % 8) (ct / 8) (S))).2.2)])), (pm, .inl (cI, 224, .inl fm2)), (pf, .inl (cI, 224, .inl ff2)), (rg, .inr (1, [.ref ro, .ref rl, .int pl])), (ro, .inl (cI, 4, .inl fo)), (rl, .inl (cI, 28, .inl (sh fl)))]) [0, 1, 2, 3, 4, 5] (by decide) rfl).2 k9 (z9, e9) h9) (fun H1 locs hB hz1 hk1 hS => ?_)
  obtain ⟨fm3, ff3, hC3, hB⟩ := hB
  obtain ⟨hP, hD⟩ := c_join (ws' := [(pn, .inr (0, [.ref pm, .ref pf, .int (nI (vis (safS fo fl pl tons) (S.1 ct + 1) (ct % 8) (ct / 8 + 1) (vis (safS fo fl pl tons) (S.1 ct + 1) ((ct % 8 + 7) % 8) (ct / 8) (vis (safS fo fl pl tons) (S.1 ct + 1) ((ct % 8 + 1) % 8) (ct / 8) (S)))).2.2)])), (pm, .inl (cI, 224, .inl fm3)), (pf, .inl (cI, 224, .inl ff3)), (rg, .inr (1, [.ref ro, .ref rl, .int pl])), (ro, .inl (cI, 4, .inl fo)), (rl, .inl (cI, 28, .inl (sh fl)))]) (wr := []) (w1 := [(pn, .inr (0, [.ref pm, .ref pf, .int (nI (vis (safS fo fl pl tons) (S.1 ct + 1) (ct % 8) (ct / 8 + 1) (vis (safS fo fl pl tons) (S.1 ct + 1) ((ct % 8 + 7) % 8) (ct / 8) (vis (safS fo fl pl tons) (S.1 ct + 1) ((ct % 8 + 1) % 8) (ct / 8) (S)))).2.2)])), (pm, .inl (cI, 224, .inl fm3)), (pf, .inl (cI, 224, .inl ff3)), (rg, .inr (1, [.ref ro, .ref rl, .int pl])), (ro, .inl (cI, 4, .inl fo)), (rl, .inl (cI, 28, .inl (sh fl)))]) hP hD [0, 1, 2, 3, 4, 5] [] [0, 1, 2, 3, 4, 5] rfl rfl (by decide) (by decide) hk1 hB rfl rfl rfl (by decide)
  generalize H1 = H at hP hS ⊢
  show W _ _ _ _ _ _ _ _ _ _ _ _ _ _ _ (F0 m 84 ls [])
  have hI3 : bInv (vis (safS fo fl pl tons) (S.1 ct + 1) (ct % 8) (ct / 8 + 1) (vis (safS fo fl pl tons) (S.1 ct + 1) ((ct % 8 + 7) % 8) (ct / 8) (vis (safS fo fl pl tons) (S.1 ct + 1) ((ct % 8 + 1) % 8) (ct / 8) (S)))) := vis_invF hk3 hI2 (hd) (by omega)
  have hn3 := (vis_n (sf := safS fo fl pl tons) (far := (S.1 ct + 1)) (d := (ct % 8)) (r := (ct / 8 + 1)) (S := vis (safS fo fl pl tons) (S.1 ct + 1) ((ct % 8 + 7) % 8) (ct / 8) (vis (safS fo fl pl tons) (S.1 ct + 1) ((ct % 8 + 1) % 8) (ct / 8) (S)))).1
  refine lv_aload_n hx hb dX0_visitBeside_84 rfl (lv_at hl 3 rfl) ?_
  refine lv_aload_n hx hb dX0_visitBeside_85 rfl (lv_at hl 4 rfl) ?_
  refine lv_iload_n hx hb dX0_visitBeside_86 rfl (lv_at hl 5 rfl) ?_
  refine lv_iload hx hb dX0_visitBeside_87 (lv_at hl 2 rfl) ?_
  refine lv_iload hx hb dX0_visitBeside_89 (lv_at hl 1 rfl) ?_
  refine lv_iconst (v := 1) hx hb dX0_visitBeside_91 (by decide) ?_
  refine lv_isub hx hb dX0_visitBeside_92 ?_
  refine lv_iload hx hb dX0_visitBeside_93 (lv_at hl 0 rfl) ?_
  refine W.eq (g2 := F0 m 95 ls [.int ((S.1 ct) + 1), .int (nI (ct / 8 - 1)), .int (nI (ct % 8)), .int tons, .ref rg, .ref pn]) (by rw [show nI (ct / 8) - 1 = nI (ct / 8 - 1) from pk_sub (b := 1) (by omega)]) ?_
  have hPc := hP.sub (ws' := [(pn, .inr (0, [.ref pm, .ref pf, .int (nI (vis (safS fo fl pl tons) (S.1 ct + 1) (ct % 8) (ct / 8 + 1) (vis (safS fo fl pl tons) (S.1 ct + 1) ((ct % 8 + 7) % 8) (ct / 8) (vis (safS fo fl pl tons) (S.1 ct + 1) ((ct % 8 + 1) % 8) (ct / 8) (S)))).2.2)])), (pm, .inl (cI, 224, .inl fm3)), (pf, .inl (cI, 224, .inl ff3)), (rg, .inr (1, [.ref ro, .ref rl, .int pl])), (ro, .inl (cI, 4, .inl fo)), (rl, .inl (cI, 28, .inl (sh fl)))]) [0, 1, 2, 3, 4, 5] rfl
  have hDc : va_D (fun q : Nat => L0 ≤ q) [(pn, .inr (0, [.ref pm, .ref pf, .int (nI (vis (safS fo fl pl tons) (S.1 ct + 1) (ct % 8) (ct / 8 + 1) (vis (safS fo fl pl tons) (S.1 ct + 1) ((ct % 8 + 7) % 8) (ct / 8) (vis (safS fo fl pl tons) (S.1 ct + 1) ((ct % 8 + 1) % 8) (ct / 8) (S)))).2.2)])), (pm, .inl (cI, 224, .inl fm3)), (pf, .inl (cI, 224, .inl ff3)), (rg, .inr (1, [.ref ro, .ref rl, .int pl])), (ro, .inl (cI, 4, .inl fo)), (rl, .inl (cI, 28, .inl (sh fl)))] := (hD.sub (ws' := [(pn, .inr (0, [.ref pm, .ref pf, .int (nI (vis (safS fo fl pl tons) (S.1 ct + 1) (ct % 8) (ct / 8 + 1) (vis (safS fo fl pl tons) (S.1 ct + 1) ((ct % 8 + 7) % 8) (ct / 8) (vis (safS fo fl pl tons) (S.1 ct + 1) ((ct % 8 + 1) % 8) (ct / 8) (S)))).2.2)])), (pm, .inl (cI, 224, .inl fm3)), (pf, .inl (cI, 224, .inl ff3)), (rg, .inr (1, [.ref ro, .ref rl, .int pl])), (ro, .inl (cI, 4, .inl fo)), (rl, .inl (cI, 28, .inl (sh fl)))]) [0, 1, 2, 3, 4, 5] (by decide) rfl).weaken (fun _ z9 _ h9 => hAL _ h9)
  have hKc := hK.sub (tys' := [(cI, .int)]) [0] rfl
  refine c_callB (va_runV (As := [.ref rg, .int tons, .int (nI (ct % 8)), .int (nI (ct / 8 - 1)), .int ((S.1 ct) + 1)]) (rest := []) ⟨hx, hb, hml, hown, hts⟩ (k_visit l D L0 cI pn pm pf rg ro rl fm3 ff3 pl fo fl tons (S.1 ct + 1) (vis (safS fo fl pl tons) (S.1 ct + 1) (ct % 8) (ct / 8 + 1) (vis (safS fo fl pl tons) (S.1 ct + 1) ((ct % 8 + 7) % 8) (ct / 8) (vis (safS fo fl pl tons) (S.1 ct + 1) ((ct % 8 + 1) % 8) (ct / 8) (S)))) (ct % 8) (ct / 8 - 1) (k + 1) (hd) (by omega) hI3 hC3 hk3 (by omega)) (cwV 5 hts gX0_visitBeside_X0_visit rfl rfl rfl (by decide +kernel) ⟨Nat.le_of_ble_eq_true rfl, Nat.le_of_ble_eq_true rfl⟩) ⟨cP_blind, va_recv hKc hPc (ci := 0) (q0 := 0) rfl rfl, cP_of hPc hKc hDc (kE_at hE0 hAL hS)⟩ rfl rfl hl.1 rfl (lv_room (Nat.le_of_ble_eq_true rfl)) dX0_visitBeside_95 ⟨Nat.le_of_ble_eq_true rfl, Nat.le_of_ble_eq_true rfl⟩) hS (fun z9 _ ⟨k9, e9, h9⟩ => (hD.sub (ws' := [(pn, .inr (0, [.ref pm, .ref pf, .int (nI (vis (safS fo fl pl tons) (S.1 ct + 1) (ct % 8) (ct / 8 + 1) (vis (safS fo fl pl tons) (S.1 ct + 1) ((ct % 8 + 7) % 8) (ct / 8) (vis (safS fo fl pl tons) (S.1 ct + 1) ((ct % 8 + 1) % 8) (ct / 8) (S)))).2.2)])), (pm, .inl (cI, 224, .inl fm3)), (pf, .inl (cI, 224, .inl ff3)), (rg, .inr (1, [.ref ro, .ref rl, .int pl])), (ro, .inl (cI, 4, .inl fo)), (rl, .inl (cI, 28, .inl (sh fl)))]) [0, 1, 2, 3, 4, 5] (by decide) rfl).2 k9 (z9, e9) h9) (fun z9 ⟨k9, e9, h9⟩ => (hD.sub (ws' := [(pn, .inr (0, [.ref pm, .ref pf, .int (nI (vis (safS fo fl pl tons) (S.1 ct + 1) (ct % 8) (ct / 8 + 1) (vis (safS fo fl pl tons) (S.1 ct + 1) ((ct % 8 + 7) % 8) (ct / 8) (vis (safS fo fl pl tons) (S.1 ct + 1) ((ct % 8 + 1) % 8) (ct / 8) (S)))).2.2)])), (pm, .inl (cI, 224, .inl fm3)), (pf, .inl (cI, 224, .inl ff3)), (rg, .inr (1, [.ref ro, .ref rl, .int pl])), (ro, .inl (cI, 4, .inl fo)), (rl, .inl (cI, 28, .inl (sh fl)))]) [0, 1, 2, 3, 4, 5] (by decide) rfl).2 k9 (z9, e9) h9) (fun H1 locs hB hz1 hk1 hS => ?_)
  obtain ⟨fm4, ff4, hC4, hB⟩ := hB
  obtain ⟨hP, hD⟩ := c_join (ws' := [(pn, .inr (0, [.ref pm, .ref pf, .int (nI (vis (safS fo fl pl tons) (S.1 ct + 1) (ct % 8) (ct / 8 - 1) (vis (safS fo fl pl tons) (S.1 ct + 1) (ct % 8) (ct / 8 + 1) (vis (safS fo fl pl tons) (S.1 ct + 1) ((ct % 8 + 7) % 8) (ct / 8) (vis (safS fo fl pl tons) (S.1 ct + 1) ((ct % 8 + 1) % 8) (ct / 8) (S))))).2.2)])), (pm, .inl (cI, 224, .inl fm4)), (pf, .inl (cI, 224, .inl ff4)), (rg, .inr (1, [.ref ro, .ref rl, .int pl])), (ro, .inl (cI, 4, .inl fo)), (rl, .inl (cI, 28, .inl (sh fl)))]) (wr := []) (w1 := [(pn, .inr (0, [.ref pm, .ref pf, .int (nI (vis (safS fo fl pl tons) (S.1 ct + 1) (ct % 8) (ct / 8 - 1) (vis (safS fo fl pl tons) (S.1 ct + 1) (ct % 8) (ct / 8 + 1) (vis (safS fo fl pl tons) (S.1 ct + 1) ((ct % 8 + 7) % 8) (ct / 8) (vis (safS fo fl pl tons) (S.1 ct + 1) ((ct % 8 + 1) % 8) (ct / 8) (S))))).2.2)])), (pm, .inl (cI, 224, .inl fm4)), (pf, .inl (cI, 224, .inl ff4)), (rg, .inr (1, [.ref ro, .ref rl, .int pl])), (ro, .inl (cI, 4, .inl fo)), (rl, .inl (cI, 28, .inl (sh fl)))]) hP hD [0, 1, 2, 3, 4, 5] [] [0, 1, 2, 3, 4, 5] rfl rfl (by decide) (by decide) hk1 hB rfl rfl rfl (by decide)
  generalize H1 = H at hP hS ⊢
  show W _ _ _ _ _ _ _ _ _ _ _ _ _ _ _ (F0 m 98 ls [])
  exact W.vret hx hb hRt (fun t ht hW => ⟨⟨rfl, by rw [ht]; exact ⟨_, _, hC4, hP⟩⟩, hS.F ht⟩) hS.2.2 dX0_visitBeside_98
set_option maxHeartbeats 4000000 in
set_option maxRecDepth 100000 in
/-- spread(rig, tons, to, metres) -/
theorem k_spread (l : Launch) (D : va_G) (L0 : Nat) (cI : ClassId) (pn pm pf rg ro rl : Nat) (np : Int32) (fm ff : Nat → Int32) (pl : Int32) (fo fl : Nat → Int32) (tons : Int32) (d r : Nat) (hd : d < 8) (hr : 3 ≤ r ∧ r ≤ 30) : Met l yX0_spread wsX0_spread ({ frames := 5, cells := 0, slots := 0, locals := 123 }) (cP L0 D [(cI, .int)] [(pn, .inr (0, [.ref pm, .ref pf, .int np])), (pm, .inl (cI, 224, .inl fm)), (pf, .inl (cI, 224, .inl ff)), (rg, .inr (1, [.ref ro, .ref rl, .int pl])), (ro, .inl (cI, 4, .inl fo)), (rl, .inl (cI, 28, .inl (sh fl)))] [.ref pn, .ref rg, .int tons, .int (nI d), .int (nI r)]) (cB (some (.int (nI (goS (safS fo fl pl tons) d r).2.2))) (fun H => ∃ fm9 ff9 : Nat → Int32, bC ((goS (safS fo fl pl tons) d r)) fm9 ff9 ∧ va_P D vwCl [(pn, .inr (0, [.ref pm, .ref pf, .int (nI ((goS (safS fo fl pl tons) d r)).2.2)])), (pm, .inl (cI, 224, .inl fm9)), (pf, .inl (cI, 224, .inl ff9)), (rg, .inr (1, [.ref ro, .ref rl, .int pl])), (ro, .inl (cI, 4, .inl fo)), (rl, .inl (cI, 28, .inl (sh fl)))] H) (cA [(pn, .inr (0, [.ref pm, .ref pf, .int np])), (pm, .inl (cI, 224, .inl fm)), (pf, .inl (cI, 224, .inl ff)), (rg, .inr (1, [.ref ro, .ref rl, .int pl])), (ro, .inl (cI, 4, .inl fo)), (rl, .inl (cI, 28, .inl (sh fl)))])) 0 0 (cA [(pn, .inr (0, [.ref pm, .ref pf, .int np])), (pm, .inl (cI, 224, .inl fm)), (pf, .inl (cI, 224, .inl ff)), (rg, .inr (1, [.ref ro, .ref rl, .int pl])), (ro, .inl (cI, 4, .inl fo)), (rl, .inl (cI, 28, .inl (sh fl)))]) := by
  refine Met.ofW (cc := cX0_spread) (maxL := 6) (ret := (some .int)) (by decide) rfl ?_
  intro p e s m args below meth c s₁ B hml hv
  obtain ⟨rfl, hP, hK, hD0, hE0⟩ := hv
  have hx := B.exec
  have hb := B.bytes
  have hRt := B.returns
  have hts := atoms_spec (ws := wsX0_spread) B.pre
  have hown : s.vm.findClass RX0 = some m.cls := findClass_of_methodNamed B.named
  have hlocks := B.notSynchronized
  have hAL : ∀ z9 : Nat, cA [(pn, .inr (0, [.ref pm, .ref pf, .int np])), (pm, .inl (cI, 224, .inl fm)), (pf, .inl (cI, 224, .inl ff)), (rg, .inr (1, [.ref ro, .ref rl, .int pl])), (ro, .inl (cI, 4, .inl fo)), (rl, .inl (cI, 28, .inl (sh fl)))] z9 → L0 ≤ z9 := fun z9 ⟨k9, e9, h9⟩ => hD0.2 k9 (z9, e9) h9
  have hD : va_D (cA [(pn, .inr (0, [.ref pm, .ref pf, .int np])), (pm, .inl (cI, 224, .inl fm)), (pf, .inl (cI, 224, .inl ff)), (rg, .inr (1, [.ref ro, .ref rl, .int pl])), (ro, .inl (cI, 4, .inl fo)), (rl, .inl (cI, 28, .inl (sh fl)))]) [(pn, .inr (0, [.ref pm, .ref pf, .int np])), (pm, .inl (cI, 224, .inl fm)), (pf, .inl (cI, 224, .inl ff)), (rg, .inr (1, [.ref ro, .ref rl, .int pl])), (ro, .inl (cI, 4, .inl fo)), (rl, .inl (cI, 28, .inl (sh fl)))] := ⟨hD0.1, fun k9 z9 h9 => cA_of h9⟩
  generalize hAe : cA [(pn, .inr (0, [.ref pm, .ref pf, .int np])), (pm, .inl (cI, 224, .inl fm)), (pf, .inl (cI, 224, .inl ff)), (rg, .inr (1, [.ref ro, .ref rl, .int pl])), (ro, .inl (cI, 4, .inl fo)), (rl, .inl (cI, 28, .inl (sh fl)))] = A at hD hAL ⊢
  have hS : va_S A s.heap s.heap [] := va_S.rf
  have hiX0 : ∀ w ∈ u_ws RX0 TX0 3, w ∈ wsX0_spread := by decide +kernel
  have hiX1 : ∀ w ∈ u_ws RX1 TX1 3, w ∈ wsX0_spread := by decide +kernel
  have hl := lv_entry ([.ref pn, .ref rg, .int tons, .int (nI d), .int (nI r)]) (n := 6) (Nat.le_of_ble_eq_true rfl)
  rw [lg_entry_eq]
  generalize (lg_sl ([.ref pn, .ref rg, .int tons, .int (nI d), .int (nI r)]) ++ List.replicate (6 - (lg_sl ([.ref pn, .ref rg, .int tons, .int (nI d), .int (nI r)])).length) Slot.unset).toArray = ls at hl ⊢
  have hl : lv_has ls 6 [(0, .ref pn), (1, .ref rg), (2, .int tons), (3, .int (nI d)), (4, .int (nI r))] := hl
  have loop2 : ∀ (n : Nat) (i : Nat) (S : bS) (gm : Nat → Int32) (gf : Nat → Int32) (H : Heap) (locs : List Loc) (ls : Array Slot), i + n = 225 → bInv S → i ≤ S.2.2 → bC S gm gf → bfs (safS fo fl pl tons) n i S = (goS (safS fo fl pl tons) d r) → lv_has ls 6 [(5, .int (nI i)), (0, .ref pn), (1, .ref rg), (2, .int tons), (3, .int (nI d)), (4, .int (nI r))] → va_P D vwCl [(pn, .inr (0, [.ref pm, .ref pf, .int (nI S.2.2)])), (pm, .inl (cI, 224, .inl gm)), (pf, .inl (cI, 224, .inl gf)), (rg, .inr (1, [.ref ro, .ref rl, .int pl])), (ro, .inl (cI, 4, .inl fo)), (rl, .inl (cI, 28, .inl (sh fl)))] H → va_D A [(pn, .inr (0, [.ref pm, .ref pf, .int (nI S.2.2)])), (pm, .inl (cI, 224, .inl gm)), (pf, .inl (cI, 224, .inl gf)), (rg, .inr (1, [.ref ro, .ref rl, .int pl])), (ro, .inl (cI, 4, .inl fo)), (rl, .inl (cI, 28, .inl (sh fl)))] → va_S A s.heap H locs → W p l e (headSpec wsX0_spread ({ frames := 5, cells := 0, slots := 0, locals := 123 })).room s m ([.ref pn, .ref rg, .int tons, .int (nI d), .int (nI r)]).toArray below meth c H locs 0 0 (MQ below (cB (some (.int (nI (goS (safS fo fl pl tons) d r).2.2))) (fun H => ∃ fm9 ff9 : Nat → Int32, bC ((goS (safS fo fl pl tons) d r)) fm9 ff9 ∧ va_P D vwCl [(pn, .inr (0, [.ref pm, .ref pf, .int (nI ((goS (safS fo fl pl tons) d r)).2.2)])), (pm, .inl (cI, 224, .inl fm9)), (pf, .inl (cI, 224, .inl ff9)), (rg, .inr (1, [.ref ro, .ref rl, .int pl])), (ro, .inl (cI, 4, .inl fo)), (rl, .inl (cI, 28, .inl (sh fl)))] H) A) ([.ref pn, .ref rg, .int tons, .int (nI d), .int (nI r)]).toArray s 0 0 A) (F0 m 45 ls []) := by
    intro n
    induction n with
    | zero =>
      intro i S gm gf H locs ls hn hI hle hC hG hl hP hD hS
      exact absurd (bInv_le hI) (by omega)
    | succ n ih =>
      intro i S gm gf H locs ls hn hI hle hC hG hl hP hD hS
      have hle2 := bInv_le hI
      refine lv_iload hx hb dX0_spread_45 (lv_at hl 0 rfl) ?_
      refine lv_aload_n hx hb dX0_spread_47 rfl (lv_at hl 1 rfl) ?_
      refine va_get (D := D) (ci := 0) (v := .int (nI S.2.2)) (C := RX0) (T := TX0) (N := 3) hx hb hts hiX0 hown hK hP 0 rfl rfl 2 (by decide) (hts (.fieldLink RX0 18 "CraneReach$Plan" "places" "I") (by decide +kernel)) (fun _ h9 => h9) rfl dX0_spread_48 ?_
      refine lv_icmp_ge (tgt := 83) hx hb dX0_spread_51 (by decide) (fun c_13 => ?_) (fun c_13 => ?_)
      · have e : S = (goS (safS fo fl pl tons) d r) := by
          have z : ¬ i < S.2.2 := fun z => nI_ge z (by omega) c_13
          rw [← hG, bfs_stop z]
        refine lv_aload_n hx hb dX0_spread_83 rfl (lv_at hl 1 rfl) ?_
        refine va_get (D := D) (ci := 0) (v := .int (nI S.2.2)) (C := RX0) (T := TX0) (N := 3) hx hb hts hiX0 hown hK hP 0 rfl rfl 2 (by decide) (hts (.fieldLink RX0 18 "CraneReach$Plan" "places" "I") (by decide +kernel)) (fun _ h9 => h9) rfl dX0_spread_84 ?_
        rw [e] at hC hP ⊢
        exact W.iret (v := (nI (goS (safS fo fl pl tons) d r).2.2)) hx hb hRt (fun t ht hW => ⟨⟨rfl, by rw [ht]; exact ⟨_, _, hC, hP⟩⟩, hS.F ht⟩) hS.2.2 dX0_spread_87
      · have hi : i < S.2.2 := by
          rcases Nat.lt_or_ge i S.2.2 with z | z
          · exact z
          · exact absurd (nI_le z (by omega)) c_13
        refine lv_iload hx hb dX0_spread_54 (lv_at hl 0 rfl) ?_
        refine lv_aload_n hx hb dX0_spread_56 rfl (lv_at hl 1 rfl) ?_
        refine va_get (D := D) (ci := 0) (v := .ref pf) (C := RX0) (T := TX0) (N := 3) hx hb hts hiX0 hown hK hP 0 rfl rfl 1 (by decide) (hts (.fieldLink RX0 15 "CraneReach$Plan" "found" "[I") (by decide +kernel)) (fun _ h9 => h9) rfl dX0_spread_57 ?_
        refine va_alen hx hb hK hP 2 0 rfl rfl (v := 224) rfl dX0_spread_60 ?_
        refine lv_icmp_ge (tgt := 83) hx hb dX0_spread_61 (by decide) (fun c_14 => absurd c_14 (nI_ge (b := 224) (by omega) (by decide))) (fun _ => ?_)
        refine lv_aload_n hx hb dX0_spread_64 rfl (lv_at hl 1 rfl) ?_
        refine lv_aload_n hx hb dX0_spread_65 rfl (lv_at hl 2 rfl) ?_
        refine lv_iload_n hx hb dX0_spread_66 rfl (lv_at hl 3 rfl) ?_
        refine lv_aload_n hx hb dX0_spread_67 rfl (lv_at hl 1 rfl) ?_
        refine va_get (D := D) (ci := 0) (v := .ref pf) (C := RX0) (T := TX0) (N := 3) hx hb hts hiX0 hown hK hP 0 rfl rfl 1 (by decide) (hts (.fieldLink RX0 15 "CraneReach$Plan" "found" "[I") (by decide +kernel)) (fun _ h9 => h9) rfl dX0_spread_68 ?_
        refine lv_iload hx hb dX0_spread_71 (lv_at hl 0 rfl) ?_
        refine va_iald hx hb hK hP 2 0 rfl rfl (vp_in_nI (by omega) (by decide)) dX0_spread_73 ?_
        refine c_top (show gf (nI i).toNatClampNeg = gf i from by rw [nI_clamp (by omega)]) ?_
        refine c_top (show gf i = nI (plc (S.2.1 i % 8) (S.2.1 i / 8)) from hC.2 i hi) ?_
        have hPc := hP.sub (ws' := [(pn, .inr (0, [.ref pm, .ref pf, .int (nI S.2.2)])), (pm, .inl (cI, 224, .inl gm)), (pf, .inl (cI, 224, .inl gf)), (rg, .inr (1, [.ref ro, .ref rl, .int pl])), (ro, .inl (cI, 4, .inl fo)), (rl, .inl (cI, 28, .inl (sh fl)))]) [0, 1, 2, 3, 4, 5] rfl
        have hDc : va_D (fun q : Nat => L0 ≤ q) [(pn, .inr (0, [.ref pm, .ref pf, .int (nI S.2.2)])), (pm, .inl (cI, 224, .inl gm)), (pf, .inl (cI, 224, .inl gf)), (rg, .inr (1, [.ref ro, .ref rl, .int pl])), (ro, .inl (cI, 4, .inl fo)), (rl, .inl (cI, 28, .inl (sh fl)))] := (hD.sub (ws' := [(pn, .inr (0, [.ref pm, .ref pf, .int (nI S.2.2)])), (pm, .inl (cI, 224, .inl gm)), (pf, .inl (cI, 224, .inl gf)), (rg, .inr (1, [.ref ro, .ref rl, .int pl])), (ro, .inl (cI, 4, .inl fo)), (rl, .inl (cI, 28, .inl (sh fl)))]) [0, 1, 2, 3, 4, 5] (by decide) rfl).weaken (fun _ z9 _ h9 => hAL _ h9)
        have hKc := hK.sub (tys' := [(cI, .int)]) [0] rfl
        refine c_callB (va_runV (As := [.ref rg, .int tons, .int (nI (plc (S.2.1 i % 8) (S.2.1 i / 8)))]) (rest := []) ⟨hx, hb, hml, hown, hts⟩ (k_visitBeside l D L0 cI pn pm pf rg ro rl gm gf pl fo fl tons S i (S.2.1 i) hI hC hi rfl) (cwV 3 hts gX0_spread_X0_visitBeside rfl rfl rfl (by decide +kernel) ⟨Nat.le_of_ble_eq_true rfl, Nat.le_of_ble_eq_true rfl⟩) ⟨cP_blind, va_recv hKc hPc (ci := 0) (q0 := 0) rfl rfl, cP_of hPc hKc hDc (kE_at hE0 hAL hS)⟩ rfl rfl hl.1 rfl (lv_room (Nat.le_of_ble_eq_true rfl)) dX0_spread_74 ⟨Nat.le_of_ble_eq_true rfl, Nat.le_of_ble_eq_true rfl⟩) hS (fun z9 _ ⟨k9, e9, h9⟩ => (hD.sub (ws' := [(pn, .inr (0, [.ref pm, .ref pf, .int (nI S.2.2)])), (pm, .inl (cI, 224, .inl gm)), (pf, .inl (cI, 224, .inl gf)), (rg, .inr (1, [.ref ro, .ref rl, .int pl])), (ro, .inl (cI, 4, .inl fo)), (rl, .inl (cI, 28, .inl (sh fl)))]) [0, 1, 2, 3, 4, 5] (by decide) rfl).2 k9 (z9, e9) h9) (fun z9 ⟨k9, e9, h9⟩ => (hD.sub (ws' := [(pn, .inr (0, [.ref pm, .ref pf, .int (nI S.2.2)])), (pm, .inl (cI, 224, .inl gm)), (pf, .inl (cI, 224, .inl gf)), (rg, .inr (1, [.ref ro, .ref rl, .int pl])), (ro, .inl (cI, 4, .inl fo)), (rl, .inl (cI, 28, .inl (sh fl)))]) [0, 1, 2, 3, 4, 5] (by decide) rfl).2 k9 (z9, e9) h9) (fun H1 locs hB hz1 hk1 hS => ?_)
        obtain ⟨gm1, gf1, hC1, hB⟩ := hB
        obtain ⟨hP, hD⟩ := c_join (ws' := [(pn, .inr (0, [.ref pm, .ref pf, .int (nI (vis4 (safS fo fl pl tons) (S.2.1 i) S).2.2)])), (pm, .inl (cI, 224, .inl gm1)), (pf, .inl (cI, 224, .inl gf1)), (rg, .inr (1, [.ref ro, .ref rl, .int pl])), (ro, .inl (cI, 4, .inl fo)), (rl, .inl (cI, 28, .inl (sh fl)))]) (wr := []) (w1 := [(pn, .inr (0, [.ref pm, .ref pf, .int (nI (vis4 (safS fo fl pl tons) (S.2.1 i) S).2.2)])), (pm, .inl (cI, 224, .inl gm1)), (pf, .inl (cI, 224, .inl gf1)), (rg, .inr (1, [.ref ro, .ref rl, .int pl])), (ro, .inl (cI, 4, .inl fo)), (rl, .inl (cI, 28, .inl (sh fl)))]) hP hD [0, 1, 2, 3, 4, 5] [] [0, 1, 2, 3, 4, 5] rfl rfl (by decide) (by decide) hk1 hB rfl rfl rfl (by decide)
        generalize H1 = H at hP hS ⊢
        show W _ _ _ _ _ _ _ _ _ _ _ _ _ _ _ (F0 m 77 ls [])
        obtain ⟨hI1, hn1⟩ := vis4_inv (sf := safS fo fl pl tons) hI hi
        refine lv_iinc (v := (nI i) + 1) (lv' := [(5, .int ((nI i) + 1)), (0, .ref pn), (1, .ref rg), (2, .int tons), (3, .int (nI d)), (4, .int (nI r))]) hx hb dX0_spread_77 hl (k := 0) rfl rfl (by decide) rfl (fun ls hl => ?_)
        refine lv_goto (tgt := 45) hx hb dX0_spread_80 (by decide) ?_
        have hl : lv_has ls 6 [(5, .int (nI (i + 1))), (0, .ref pn), (1, .ref rg), (2, .int tons), (3, .int (nI d)), (4, .int (nI r))] := (show (nI i) + 1 = nI (i + 1) from nI_1 i) ▸ hl
        exact ih (i + 1) (vis4 (safS fo fl pl tons) (S.2.1 i) S) _ _ _ _ _ (by omega) hI1 (by omega) hC1 (bfs_go hi ▸ hG) (lv_sub hl [0, 1, 2, 3, 4, 5] rfl) hP hD hS
  have loop1 : ∀ (n : Nat) (i : Nat) (gm : Nat → Int32) (H : Heap) (locs : List Loc) (ls : Array Slot), i + n = 225 → i ≤ 224 → (∀ j, j < i → gm j = -1) → lv_has ls 6 [(5, .int (nI i)), (0, .ref pn), (1, .ref rg), (2, .int tons), (3, .int (nI d)), (4, .int (nI r))] → va_P D vwCl [(pn, .inr (0, [.ref pm, .ref pf, .int 0])), (pm, .inl (cI, 224, .inl gm)), (pf, .inl (cI, 224, .inl ff)), (rg, .inr (1, [.ref ro, .ref rl, .int pl])), (ro, .inl (cI, 4, .inl fo)), (rl, .inl (cI, 28, .inl (sh fl)))] H → va_D A [(pn, .inr (0, [.ref pm, .ref pf, .int 0])), (pm, .inl (cI, 224, .inl gm)), (pf, .inl (cI, 224, .inl ff)), (rg, .inr (1, [.ref ro, .ref rl, .int pl])), (ro, .inl (cI, 4, .inl fo)), (rl, .inl (cI, 28, .inl (sh fl)))] → va_S A s.heap H locs → W p l e (headSpec wsX0_spread ({ frames := 5, cells := 0, slots := 0, locals := 123 })).room s m ([.ref pn, .ref rg, .int tons, .int (nI d), .int (nI r)]).toArray below meth c H locs 0 0 (MQ below (cB (some (.int (nI (goS (safS fo fl pl tons) d r).2.2))) (fun H => ∃ fm9 ff9 : Nat → Int32, bC ((goS (safS fo fl pl tons) d r)) fm9 ff9 ∧ va_P D vwCl [(pn, .inr (0, [.ref pm, .ref pf, .int (nI ((goS (safS fo fl pl tons) d r)).2.2)])), (pm, .inl (cI, 224, .inl fm9)), (pf, .inl (cI, 224, .inl ff9)), (rg, .inr (1, [.ref ro, .ref rl, .int pl])), (ro, .inl (cI, 4, .inl fo)), (rl, .inl (cI, 28, .inl (sh fl)))] H) A) ([.ref pn, .ref rg, .int tons, .int (nI d), .int (nI r)]).toArray s 0 0 A) (F0 m 8 ls []) := by
    intro n
    induction n with
    | zero =>
      intro i gm H locs ls hn hle hg hl hP hD hS
      exact absurd hn (by omega)
    | succ n ih =>
      intro i gm H locs ls hn hle hg hl hP hD hS
      refine lv_iload hx hb dX0_spread_8 (lv_at hl 0 rfl) ?_
      refine lv_aload_n hx hb dX0_spread_10 rfl (lv_at hl 1 rfl) ?_
      refine va_get (D := D) (ci := 0) (v := .ref pm) (C := RX0) (T := TX0) (N := 3) hx hb hts hiX0 hown hK hP 0 rfl rfl 0 (by decide) (hts (.fieldLink RX0 9 "CraneReach$Plan" "moves" "[I") (by decide +kernel)) (fun _ h9 => h9) rfl dX0_spread_11 ?_
      refine va_alen hx hb hK hP 1 0 rfl rfl (v := 224) rfl dX0_spread_14 ?_
      refine lv_icmp_ge (tgt := 32) hx hb dX0_spread_15 (by decide) (fun c_15 => ?_) (fun c_15 => ?_)
      · have hi : i = 224 := by
          rcases Nat.lt_or_ge i 224 with z | z
          · exact absurd c_15 (nI_ge (b := 224) z (by decide))
          · omega
        have hC0 : bC ((fun _ => -1, fun _ => 0, 0) : bS) gm ff := ⟨fun d2 r2 h1 h2 h3 => hg _ (by have := plc_lt h1 ⟨h2, h3⟩; omega), fun j hj => absurd hj (Nat.not_lt_zero j)⟩
        refine lv_aload_n hx hb dX0_spread_32 rfl (lv_at hl 1 rfl) ?_
        refine lv_aload_n hx hb dX0_spread_33 rfl (lv_at hl 2 rfl) ?_
        refine lv_iload_n hx hb dX0_spread_34 rfl (lv_at hl 3 rfl) ?_
        refine lv_iload_n hx hb dX0_spread_35 rfl (lv_at hl 4 rfl) ?_
        refine lv_iload hx hb dX0_spread_36 (lv_at hl 5 rfl) ?_
        refine lv_iconst (v := 0) hx hb dX0_spread_38 (by decide) ?_
        have hP : va_P D vwCl [(pn, .inr (0, [.ref pm, .ref pf, .int (nI (((fun _ => -1, fun _ => 0, 0) : bS)).2.2)])), (pm, .inl (cI, 224, .inl gm)), (pf, .inl (cI, 224, .inl ff)), (rg, .inr (1, [.ref ro, .ref rl, .int pl])), (ro, .inl (cI, 4, .inl fo)), (rl, .inl (cI, 28, .inl (sh fl)))] H := hP
        have hD : va_D A [(pn, .inr (0, [.ref pm, .ref pf, .int (nI (((fun _ => -1, fun _ => 0, 0) : bS)).2.2)])), (pm, .inl (cI, 224, .inl gm)), (pf, .inl (cI, 224, .inl ff)), (rg, .inr (1, [.ref ro, .ref rl, .int pl])), (ro, .inl (cI, 4, .inl fo)), (rl, .inl (cI, 28, .inl (sh fl)))] := hD
        have hPc := hP.sub (ws' := [(pn, .inr (0, [.ref pm, .ref pf, .int (nI (((fun _ => -1, fun _ => 0, 0) : bS)).2.2)])), (pm, .inl (cI, 224, .inl gm)), (pf, .inl (cI, 224, .inl ff)), (rg, .inr (1, [.ref ro, .ref rl, .int pl])), (ro, .inl (cI, 4, .inl fo)), (rl, .inl (cI, 28, .inl (sh fl)))]) [0, 1, 2, 3, 4, 5] rfl
        have hDc : va_D (fun q : Nat => L0 ≤ q) [(pn, .inr (0, [.ref pm, .ref pf, .int (nI (((fun _ => -1, fun _ => 0, 0) : bS)).2.2)])), (pm, .inl (cI, 224, .inl gm)), (pf, .inl (cI, 224, .inl ff)), (rg, .inr (1, [.ref ro, .ref rl, .int pl])), (ro, .inl (cI, 4, .inl fo)), (rl, .inl (cI, 28, .inl (sh fl)))] := (hD.sub (ws' := [(pn, .inr (0, [.ref pm, .ref pf, .int (nI (((fun _ => -1, fun _ => 0, 0) : bS)).2.2)])), (pm, .inl (cI, 224, .inl gm)), (pf, .inl (cI, 224, .inl ff)), (rg, .inr (1, [.ref ro, .ref rl, .int pl])), (ro, .inl (cI, 4, .inl fo)), (rl, .inl (cI, 28, .inl (sh fl)))]) [0, 1, 2, 3, 4, 5] (by decide) rfl).weaken (fun _ z9 _ h9 => hAL _ h9)
        have hKc := hK.sub (tys' := [(cI, .int)]) [0] rfl
        refine c_callB (va_runV (As := [.ref rg, .int tons, .int (nI d), .int (nI r), .int 0]) (rest := []) ⟨hx, hb, hml, hown, hts⟩ (k_visit l D L0 cI pn pm pf rg ro rl gm ff pl fo fl tons 0 ((fun _ => -1, fun _ => 0, 0) : bS) d r 0 hd (by omega) b0_inv hC0 rfl (Nat.zero_le _)) (cwV 5 hts gX0_spread_X0_visit rfl rfl rfl (by decide +kernel) ⟨Nat.le_of_ble_eq_true rfl, Nat.le_of_ble_eq_true rfl⟩) ⟨cP_blind, va_recv hKc hPc (ci := 0) (q0 := 0) rfl rfl, cP_of hPc hKc hDc (kE_at hE0 hAL hS)⟩ rfl rfl hl.1 rfl (lv_room (Nat.le_of_ble_eq_true rfl)) dX0_spread_39 ⟨Nat.le_of_ble_eq_true rfl, Nat.le_of_ble_eq_true rfl⟩) hS (fun z9 _ ⟨k9, e9, h9⟩ => (hD.sub (ws' := [(pn, .inr (0, [.ref pm, .ref pf, .int (nI (((fun _ => -1, fun _ => 0, 0) : bS)).2.2)])), (pm, .inl (cI, 224, .inl gm)), (pf, .inl (cI, 224, .inl ff)), (rg, .inr (1, [.ref ro, .ref rl, .int pl])), (ro, .inl (cI, 4, .inl fo)), (rl, .inl (cI, 28, .inl (sh fl)))]) [0, 1, 2, 3, 4, 5] (by decide) rfl).2 k9 (z9, e9) h9) (fun z9 ⟨k9, e9, h9⟩ => (hD.sub (ws' := [(pn, .inr (0, [.ref pm, .ref pf, .int (nI (((fun _ => -1, fun _ => 0, 0) : bS)).2.2)])), (pm, .inl (cI, 224, .inl gm)), (pf, .inl (cI, 224, .inl ff)), (rg, .inr (1, [.ref ro, .ref rl, .int pl])), (ro, .inl (cI, 4, .inl fo)), (rl, .inl (cI, 28, .inl (sh fl)))]) [0, 1, 2, 3, 4, 5] (by decide) rfl).2 k9 (z9, e9) h9) (fun H1 locs hB hz1 hk1 hS => ?_)
        obtain ⟨gm1, gf1, hC1, hB⟩ := hB
        obtain ⟨hP, hD⟩ := c_join (ws' := [(pn, .inr (0, [.ref pm, .ref pf, .int (nI (vis (safS fo fl pl tons) 0 d r ((fun _ => -1, fun _ => 0, 0) : bS)).2.2)])), (pm, .inl (cI, 224, .inl gm1)), (pf, .inl (cI, 224, .inl gf1)), (rg, .inr (1, [.ref ro, .ref rl, .int pl])), (ro, .inl (cI, 4, .inl fo)), (rl, .inl (cI, 28, .inl (sh fl)))]) (wr := []) (w1 := [(pn, .inr (0, [.ref pm, .ref pf, .int (nI (vis (safS fo fl pl tons) 0 d r ((fun _ => -1, fun _ => 0, 0) : bS)).2.2)])), (pm, .inl (cI, 224, .inl gm1)), (pf, .inl (cI, 224, .inl gf1)), (rg, .inr (1, [.ref ro, .ref rl, .int pl])), (ro, .inl (cI, 4, .inl fo)), (rl, .inl (cI, 28, .inl (sh fl)))]) hP hD [0, 1, 2, 3, 4, 5] [] [0, 1, 2, 3, 4, 5] rfl rfl (by decide) (by decide) hk1 hB rfl rfl rfl (by decide)
        generalize H1 = H at hP hS ⊢
        show W _ _ _ _ _ _ _ _ _ _ _ _ _ _ _ (F0 m 42 ls [])
        refine lv_iconst (v := 0) hx hb dX0_spread_42 (by decide) ?_
        refine lv_istore (lv' := [(5, .int 0), (0, .ref pn), (1, .ref rg), (2, .int tons), (3, .int (nI d)), (4, .int (nI r))]) hx hb dX0_spread_43 hl (by decide) rfl (fun ls hl => ?_)
        have hl : lv_has ls 6 [(5, .int (nI 0)), (0, .ref pn), (1, .ref rg), (2, .int tons), (3, .int (nI d)), (4, .int (nI r))] := (show 0 = nI 0 from rfl) ▸ hl
        exact loop2 225 0 (vis (safS fo fl pl tons) 0 d r ((fun _ => -1, fun _ => 0, 0) : bS)) _ _ _ _ _ (by omega) (vis_inv (k := 0) b0_inv hd (Nat.zero_le _)) (Nat.zero_le _) hC1 rfl (lv_sub hl [0, 1, 2, 3, 4, 5] rfl) hP hD hS
      · have hi : i < 224 := by
          rcases Nat.lt_or_ge i 224 with z | z
          · exact z
          · exact absurd (nI_le (a := 224) z (by omega)) c_15
        refine lv_aload_n hx hb dX0_spread_18 rfl (lv_at hl 1 rfl) ?_
        refine va_get (D := D) (ci := 0) (v := .ref pm) (C := RX0) (T := TX0) (N := 3) hx hb hts hiX0 hown hK hP 0 rfl rfl 0 (by decide) (hts (.fieldLink RX0 9 "CraneReach$Plan" "moves" "[I") (by decide +kernel)) (fun _ h9 => h9) rfl dX0_spread_19 ?_
        refine lv_iload hx hb dX0_spread_22 (lv_at hl 0 rfl) ?_
        refine lv_iconst (v := -1) hx hb dX0_spread_24 (by decide) ?_
        refine va_iast hx hb hK hP hD hS 1 0 rfl rfl (vp_in_nI hi (by decide)) dX0_spread_25 (fun H locs hP hD hS => ?_)
        have hP : va_P D vwCl [(pn, .inr (0, [.ref pm, .ref pf, .int 0])), (pm, .inl (cI, 224, .inl (upd gm (nI i).toNatClampNeg (-1)))), (pf, .inl (cI, 224, .inl ff)), (rg, .inr (1, [.ref ro, .ref rl, .int pl])), (ro, .inl (cI, 4, .inl fo)), (rl, .inl (cI, 28, .inl (sh fl)))] H := hP
        have hD : va_D A [(pn, .inr (0, [.ref pm, .ref pf, .int 0])), (pm, .inl (cI, 224, .inl (upd gm (nI i).toNatClampNeg (-1)))), (pf, .inl (cI, 224, .inl ff)), (rg, .inr (1, [.ref ro, .ref rl, .int pl])), (ro, .inl (cI, 4, .inl fo)), (rl, .inl (cI, 28, .inl (sh fl)))] := hD
        rw [show (nI i).toNatClampNeg = i from nI_clamp (by omega)] at hP hD
        have hP : va_P D vwCl [(pn, .inr (0, [.ref pm, .ref pf, .int 0])), (pm, .inl (cI, 224, .inl (upd gm i (-1)))), (pf, .inl (cI, 224, .inl ff)), (rg, .inr (1, [.ref ro, .ref rl, .int pl])), (ro, .inl (cI, 4, .inl fo)), (rl, .inl (cI, 28, .inl (sh fl)))] H := hP
        have hD : va_D A [(pn, .inr (0, [.ref pm, .ref pf, .int 0])), (pm, .inl (cI, 224, .inl (upd gm i (-1)))), (pf, .inl (cI, 224, .inl ff)), (rg, .inr (1, [.ref ro, .ref rl, .int pl])), (ro, .inl (cI, 4, .inl fo)), (rl, .inl (cI, 28, .inl (sh fl)))] := hD
        refine lv_iinc (v := (nI i) + 1) (lv' := [(5, .int ((nI i) + 1)), (0, .ref pn), (1, .ref rg), (2, .int tons), (3, .int (nI d)), (4, .int (nI r))]) hx hb dX0_spread_26 hl (k := 0) rfl rfl (by decide) rfl (fun ls hl => ?_)
        refine lv_goto (tgt := 8) hx hb dX0_spread_29 (by decide) ?_
        have hl : lv_has ls 6 [(5, .int (nI (i + 1))), (0, .ref pn), (1, .ref rg), (2, .int tons), (3, .int (nI d)), (4, .int (nI r))] := (show (nI i) + 1 = nI (i + 1) from nI_1 i) ▸ hl
        exact ih (i + 1) _ _ _ _ (by omega) (by omega) (fun j hj => by
              by_cases e : j = i
              · rw [e, pk_us]
              · rw [pk_un e]; exact hg j (by omega)) (lv_sub hl [0, 1, 2, 3, 4, 5] rfl) hP hD hS
  refine lv_aload_n hx hb dX0_spread_0 rfl (lv_at hl 0 rfl) ?_
  refine lv_iconst (v := 0) hx hb dX0_spread_1 (by decide) ?_
  refine va_put (D := D) (ci := 0) (v := .int 0) (ty := .int) (C := RX0) (T := TX0) (N := 3) hx hb hts hiX0 tyX0 tyX0_ok nmX0 hown hK hP hD hS 0 rfl rfl 2 (by decide) (hts (.fieldLink RX0 18 "CraneReach$Plan" "places" "I") (by decide +kernel)) (fun _ h9 => h9) rfl (by decide +kernel) rfl rfl (Nat.le_of_ble_eq_true rfl) dX0_spread_2 (fun H locs hP hD hS => ?_)
  have hP : va_P D vwCl [(pn, .inr (0, [.ref pm, .ref pf, .int 0])), (pm, .inl (cI, 224, .inl fm)), (pf, .inl (cI, 224, .inl ff)), (rg, .inr (1, [.ref ro, .ref rl, .int pl])), (ro, .inl (cI, 4, .inl fo)), (rl, .inl (cI, 28, .inl (sh fl)))] H := hP
  have hD : va_D A [(pn, .inr (0, [.ref pm, .ref pf, .int 0])), (pm, .inl (cI, 224, .inl fm)), (pf, .inl (cI, 224, .inl ff)), (rg, .inr (1, [.ref ro, .ref rl, .int pl])), (ro, .inl (cI, 4, .inl fo)), (rl, .inl (cI, 28, .inl (sh fl)))] := hD
  refine lv_iconst (v := 0) hx hb dX0_spread_5 (by decide) ?_
  refine lv_istore (lv' := [(5, .int 0), (0, .ref pn), (1, .ref rg), (2, .int tons), (3, .int (nI d)), (4, .int (nI r))]) hx hb dX0_spread_6 hl (by decide) rfl (fun ls hl => ?_)
  have hl : lv_has ls 6 [(5, .int (nI 0)), (0, .ref pn), (1, .ref rg), (2, .int tons), (3, .int (nI d)), (4, .int (nI r))] := (show 0 = nI 0 from rfl) ▸ hl
  exact loop1 225 0 _ _ _ _ (by omega) (by omega) (fun j hj => absurd hj (Nat.not_lt_zero j)) (lv_sub hl [0, 1, 2, 3, 4, 5] rfl) hP hD hS
end
section
set_option maxHeartbeats 4000000 in
set_option maxRecDepth 100000 in
/-- direction() -/
theorem k_direction (l : Launch) (D : va_G) (L0 : Nat) (x rg tr pn d r : Nat) (ld li tl mo : Int32) : Met l yX2_direction wsX2_direction ({ frames := 0, cells := 0, slots := 0, locals := 0 }) (cP L0 D [] [(x, .inr (2, [.ref rg, .ref tr, .ref pn, .int (nI d), .int (nI r), .int ld, .int li, .int tl, .int mo]))] [.ref x]) (cR (some (.int (nI d)))) 0 0 (fun _ => False) := by
  refine Met.ofW (cc := cX2_direction) (maxL := 1) (ret := (some .int)) (by decide) rfl ?_
  intro p e s m args below meth c s₁ B hml hv
  obtain ⟨rfl, hP, hK, hD0, hE0⟩ := hv
  have hx := B.exec
  have hb := B.bytes
  have hRt := B.returns
  have hts := atoms_spec (ws := wsX2_direction) B.pre
  have hown : s.vm.findClass RX2 = some m.cls := findClass_of_methodNamed B.named
  have hlocks := B.notSynchronized
  have hAL : ∀ z9 : Nat, (fun _ : Nat => False) z9 → L0 ≤ z9 := fun z9 h9 => False.elim h9
  generalize hAe : (fun _ : Nat => False) = A at hAL ⊢
  have hS : va_S A s.heap s.heap [] := va_S.rf
  have hiX2 : ∀ w ∈ u_ws RX2 TX2 9, w ∈ wsX2_direction := by decide +kernel
  have hl := lv_entry ([.ref x]) (n := 1) (Nat.le_of_ble_eq_true rfl)
  rw [lg_entry_eq]
  generalize (lg_sl ([.ref x]) ++ List.replicate (1 - (lg_sl ([.ref x])).length) Slot.unset).toArray = ls at hl ⊢
  have hl : lv_has ls 1 [(0, .ref x)] := hl
  refine lv_aload_n hx hb dX2_direction_0 rfl (lv_at hl 0 rfl) ?_
  refine va_get (D := D) (ci := 2) (v := .int (nI d)) (C := RX2) (T := TX2) (N := 9) hx hb hts hiX2 hown hK hP 0 rfl rfl 3 (by decide) (hts (.fieldLink RX2 98 "CraneReach" "direction" "I") (by decide +kernel)) (fun _ h9 => h9) rfl dX2_direction_1 ?_
  exact W.iret (v := (nI d)) hx hb hRt (fun t ht hW => ⟨rfl, ht⟩) hS.2.2 dX2_direction_4
set_option maxHeartbeats 4000000 in
set_option maxRecDepth 100000 in
/-- reach() -/
theorem k_reach (l : Launch) (D : va_G) (L0 : Nat) (x rg tr pn d r : Nat) (ld li tl mo : Int32) : Met l yX2_reach wsX2_reach ({ frames := 0, cells := 0, slots := 0, locals := 0 }) (cP L0 D [] [(x, .inr (2, [.ref rg, .ref tr, .ref pn, .int (nI d), .int (nI r), .int ld, .int li, .int tl, .int mo]))] [.ref x]) (cR (some (.int (nI r)))) 0 0 (fun _ => False) := by
  refine Met.ofW (cc := cX2_reach) (maxL := 1) (ret := (some .int)) (by decide) rfl ?_
  intro p e s m args below meth c s₁ B hml hv
  obtain ⟨rfl, hP, hK, hD0, hE0⟩ := hv
  have hx := B.exec
  have hb := B.bytes
  have hRt := B.returns
  have hts := atoms_spec (ws := wsX2_reach) B.pre
  have hown : s.vm.findClass RX2 = some m.cls := findClass_of_methodNamed B.named
  have hlocks := B.notSynchronized
  have hAL : ∀ z9 : Nat, (fun _ : Nat => False) z9 → L0 ≤ z9 := fun z9 h9 => False.elim h9
  generalize hAe : (fun _ : Nat => False) = A at hAL ⊢
  have hS : va_S A s.heap s.heap [] := va_S.rf
  have hiX2 : ∀ w ∈ u_ws RX2 TX2 9, w ∈ wsX2_reach := by decide +kernel
  have hl := lv_entry ([.ref x]) (n := 1) (Nat.le_of_ble_eq_true rfl)
  rw [lg_entry_eq]
  generalize (lg_sl ([.ref x]) ++ List.replicate (1 - (lg_sl ([.ref x])).length) Slot.unset).toArray = ls at hl ⊢
  have hl : lv_has ls 1 [(0, .ref x)] := hl
  refine lv_aload_n hx hb dX2_reach_0 rfl (lv_at hl 0 rfl) ?_
  refine va_get (D := D) (ci := 2) (v := .int (nI r)) (C := RX2) (T := TX2) (N := 9) hx hb hts hiX2 hown hK hP 0 rfl rfl 4 (by decide) (hts (.fieldLink RX2 26 "CraneReach" "reach" "I") (by decide +kernel)) (fun _ h9 => h9) rfl dX2_reach_1 ?_
  exact W.iret (v := (nI r)) hx hb hRt (fun t ht hW => ⟨rfl, ht⟩) hS.2.2 dX2_reach_4
set_option maxHeartbeats 4000000 in
set_option maxRecDepth 100000 in
/-- load() -/
theorem k_load (l : Launch) (D : va_G) (L0 : Nat) (x rg tr pn d r : Nat) (ld li tl mo : Int32) : Met l yX2_load wsX2_load ({ frames := 0, cells := 0, slots := 0, locals := 0 }) (cP L0 D [] [(x, .inr (2, [.ref rg, .ref tr, .ref pn, .int (nI d), .int (nI r), .int ld, .int li, .int tl, .int mo]))] [.ref x]) (cR (some (.int ld))) 0 0 (fun _ => False) := by
  refine Met.ofW (cc := cX2_load) (maxL := 1) (ret := (some .int)) (by decide) rfl ?_
  intro p e s m args below meth c s₁ B hml hv
  obtain ⟨rfl, hP, hK, hD0, hE0⟩ := hv
  have hx := B.exec
  have hb := B.bytes
  have hRt := B.returns
  have hts := atoms_spec (ws := wsX2_load) B.pre
  have hown : s.vm.findClass RX2 = some m.cls := findClass_of_methodNamed B.named
  have hlocks := B.notSynchronized
  have hAL : ∀ z9 : Nat, (fun _ : Nat => False) z9 → L0 ≤ z9 := fun z9 h9 => False.elim h9
  generalize hAe : (fun _ : Nat => False) = A at hAL ⊢
  have hS : va_S A s.heap s.heap [] := va_S.rf
  have hiX2 : ∀ w ∈ u_ws RX2 TX2 9, w ∈ wsX2_load := by decide +kernel
  have hl := lv_entry ([.ref x]) (n := 1) (Nat.le_of_ble_eq_true rfl)
  rw [lg_entry_eq]
  generalize (lg_sl ([.ref x]) ++ List.replicate (1 - (lg_sl ([.ref x])).length) Slot.unset).toArray = ls at hl ⊢
  have hl : lv_has ls 1 [(0, .ref x)] := hl
  refine lv_aload_n hx hb dX2_load_0 rfl (lv_at hl 0 rfl) ?_
  refine va_get (D := D) (ci := 2) (v := .int ld) (C := RX2) (T := TX2) (N := 9) hx hb hts hiX2 hown hK hP 0 rfl rfl 5 (by decide) (hts (.fieldLink RX2 48 "CraneReach" "load" "I") (by decide +kernel)) (fun _ h9 => h9) rfl dX2_load_1 ?_
  exact W.iret (v := ld) hx hb hRt (fun t ht hW => ⟨rfl, ht⟩) hS.2.2 dX2_load_4
set_option maxHeartbeats 4000000 in
set_option maxRecDepth 100000 in
/-- lifts() -/
theorem k_lifts (l : Launch) (D : va_G) (L0 : Nat) (x rg tr pn d r : Nat) (ld li tl mo : Int32) : Met l yX2_lifts wsX2_lifts ({ frames := 0, cells := 0, slots := 0, locals := 0 }) (cP L0 D [] [(x, .inr (2, [.ref rg, .ref tr, .ref pn, .int (nI d), .int (nI r), .int ld, .int li, .int tl, .int mo]))] [.ref x]) (cR (some (.int li))) 0 0 (fun _ => False) := by
  refine Met.ofW (cc := cX2_lifts) (maxL := 1) (ret := (some .int)) (by decide) rfl ?_
  intro p e s m args below meth c s₁ B hml hv
  obtain ⟨rfl, hP, hK, hD0, hE0⟩ := hv
  have hx := B.exec
  have hb := B.bytes
  have hRt := B.returns
  have hts := atoms_spec (ws := wsX2_lifts) B.pre
  have hown : s.vm.findClass RX2 = some m.cls := findClass_of_methodNamed B.named
  have hlocks := B.notSynchronized
  have hAL : ∀ z9 : Nat, (fun _ : Nat => False) z9 → L0 ≤ z9 := fun z9 h9 => False.elim h9
  generalize hAe : (fun _ : Nat => False) = A at hAL ⊢
  have hS : va_S A s.heap s.heap [] := va_S.rf
  have hiX2 : ∀ w ∈ u_ws RX2 TX2 9, w ∈ wsX2_lifts := by decide +kernel
  have hl := lv_entry ([.ref x]) (n := 1) (Nat.le_of_ble_eq_true rfl)
  rw [lg_entry_eq]
  generalize (lg_sl ([.ref x]) ++ List.replicate (1 - (lg_sl ([.ref x])).length) Slot.unset).toArray = ls at hl ⊢
  have hl : lv_has ls 1 [(0, .ref x)] := hl
  refine lv_aload_n hx hb dX2_lifts_0 rfl (lv_at hl 0 rfl) ?_
  refine va_get (D := D) (ci := 2) (v := .int li) (C := RX2) (T := TX2) (N := 9) hx hb hts hiX2 hown hK hP 0 rfl rfl 6 (by decide) (hts (.fieldLink RX2 85 "CraneReach" "lifts" "I") (by decide +kernel)) (fun _ h9 => h9) rfl dX2_lifts_1 ?_
  exact W.iret (v := li) hx hb hRt (fun t ht hW => ⟨rfl, ht⟩) hS.2.2 dX2_lifts_4
set_option maxHeartbeats 4000000 in
set_option maxRecDepth 100000 in
/-- tonsLifted() -/
theorem k_tonsLifted (l : Launch) (D : va_G) (L0 : Nat) (x rg tr pn d r : Nat) (ld li tl mo : Int32) : Met l yX2_tonsLifted wsX2_tonsLifted ({ frames := 0, cells := 0, slots := 0, locals := 0 }) (cP L0 D [] [(x, .inr (2, [.ref rg, .ref tr, .ref pn, .int (nI d), .int (nI r), .int ld, .int li, .int tl, .int mo]))] [.ref x]) (cR (some (.int tl))) 0 0 (fun _ => False) := by
  refine Met.ofW (cc := cX2_tonsLifted) (maxL := 1) (ret := (some .int)) (by decide) rfl ?_
  intro p e s m args below meth c s₁ B hml hv
  obtain ⟨rfl, hP, hK, hD0, hE0⟩ := hv
  have hx := B.exec
  have hb := B.bytes
  have hRt := B.returns
  have hts := atoms_spec (ws := wsX2_tonsLifted) B.pre
  have hown : s.vm.findClass RX2 = some m.cls := findClass_of_methodNamed B.named
  have hlocks := B.notSynchronized
  have hAL : ∀ z9 : Nat, (fun _ : Nat => False) z9 → L0 ≤ z9 := fun z9 h9 => False.elim h9
  generalize hAe : (fun _ : Nat => False) = A at hAL ⊢
  have hS : va_S A s.heap s.heap [] := va_S.rf
  have hiX2 : ∀ w ∈ u_ws RX2 TX2 9, w ∈ wsX2_tonsLifted := by decide +kernel
  have hl := lv_entry ([.ref x]) (n := 1) (Nat.le_of_ble_eq_true rfl)
  rw [lg_entry_eq]
  generalize (lg_sl ([.ref x]) ++ List.replicate (1 - (lg_sl ([.ref x])).length) Slot.unset).toArray = ls at hl ⊢
  have hl : lv_has ls 1 [(0, .ref x)] := hl
  refine lv_aload_n hx hb dX2_tonsLifted_0 rfl (lv_at hl 0 rfl) ?_
  refine va_get (D := D) (ci := 2) (v := .int tl) (C := RX2) (T := TX2) (N := 9) hx hb hts hiX2 hown hK hP 0 rfl rfl 7 (by decide) (hts (.fieldLink RX2 88 "CraneReach" "tonsLifted" "I") (by decide +kernel)) (fun _ h9 => h9) rfl dX2_tonsLifted_1 ?_
  exact W.iret (v := tl) hx hb hRt (fun t ht hW => ⟨rfl, ht⟩) hS.2.2 dX2_tonsLifted_4
set_option maxHeartbeats 4000000 in
set_option maxRecDepth 100000 in
/-- movesWithLoad() -/
theorem k_movesWithLoad (l : Launch) (D : va_G) (L0 : Nat) (x rg tr pn d r : Nat) (ld li tl mo : Int32) : Met l yX2_movesWithLoad wsX2_movesWithLoad ({ frames := 0, cells := 0, slots := 0, locals := 0 }) (cP L0 D [] [(x, .inr (2, [.ref rg, .ref tr, .ref pn, .int (nI d), .int (nI r), .int ld, .int li, .int tl, .int mo]))] [.ref x]) (cR (some (.int mo))) 0 0 (fun _ => False) := by
  refine Met.ofW (cc := cX2_movesWithLoad) (maxL := 1) (ret := (some .int)) (by decide) rfl ?_
  intro p e s m args below meth c s₁ B hml hv
  obtain ⟨rfl, hP, hK, hD0, hE0⟩ := hv
  have hx := B.exec
  have hb := B.bytes
  have hRt := B.returns
  have hts := atoms_spec (ws := wsX2_movesWithLoad) B.pre
  have hown : s.vm.findClass RX2 = some m.cls := findClass_of_methodNamed B.named
  have hlocks := B.notSynchronized
  have hAL : ∀ z9 : Nat, (fun _ : Nat => False) z9 → L0 ≤ z9 := fun z9 h9 => False.elim h9
  generalize hAe : (fun _ : Nat => False) = A at hAL ⊢
  have hS : va_S A s.heap s.heap [] := va_S.rf
  have hiX2 : ∀ w ∈ u_ws RX2 TX2 9, w ∈ wsX2_movesWithLoad := by decide +kernel
  have hl := lv_entry ([.ref x]) (n := 1) (Nat.le_of_ble_eq_true rfl)
  rw [lg_entry_eq]
  generalize (lg_sl ([.ref x]) ++ List.replicate (1 - (lg_sl ([.ref x])).length) Slot.unset).toArray = ls at hl ⊢
  have hl : lv_has ls 1 [(0, .ref x)] := hl
  refine lv_aload_n hx hb dX2_movesWithLoad_0 rfl (lv_at hl 0 rfl) ?_
  refine va_get (D := D) (ci := 2) (v := .int mo) (C := RX2) (T := TX2) (N := 9) hx hb hts hiX2 hown hK hP 0 rfl rfl 8 (by decide) (hts (.fieldLink RX2 121 "CraneReach" "movesWithLoad" "I") (by decide +kernel)) (fun _ h9 => h9) rfl dX2_movesWithLoad_1 ?_
  exact W.iret (v := mo) hx hb hRt (fun t ht hW => ⟨rfl, ht⟩) hS.2.2 dX2_movesWithLoad_4
set_option maxHeartbeats 4000000 in
set_option maxRecDepth 100000 in
/-- plates() -/
theorem k_plates (l : Launch) (D : va_G) (L0 : Nat) (cI : ClassId) (x rg tr pn ro rl d r : Nat) (ld li tl mo pl : Int32) (fo fl : Nat → Int32) : Met l yX2_plates wsX2_plates ({ frames := 0, cells := 0, slots := 0, locals := 0 }) (cP L0 D [(cI, .int)] [(x, .inr (2, [.ref rg, .ref tr, .ref pn, .int (nI d), .int (nI r), .int ld, .int li, .int tl, .int mo])), (rg, .inr (1, [.ref ro, .ref rl, .int pl])), (ro, .inl (cI, 4, .inl fo)), (rl, .inl (cI, 28, .inl (sh fl)))] [.ref x]) (cR (some (.int pl))) 0 0 (fun _ => False) := by
  refine Met.ofW (cc := cX2_plates) (maxL := 1) (ret := (some .int)) (by decide) rfl ?_
  intro p e s m args below meth c s₁ B hml hv
  obtain ⟨rfl, hP, hK, hD0, hE0⟩ := hv
  have hx := B.exec
  have hb := B.bytes
  have hRt := B.returns
  have hts := atoms_spec (ws := wsX2_plates) B.pre
  have hown : s.vm.findClass RX2 = some m.cls := findClass_of_methodNamed B.named
  have hlocks := B.notSynchronized
  have hAL : ∀ z9 : Nat, (fun _ : Nat => False) z9 → L0 ≤ z9 := fun z9 h9 => False.elim h9
  generalize hAe : (fun _ : Nat => False) = A at hAL ⊢
  have hS : va_S A s.heap s.heap [] := va_S.rf
  have hiX2 : ∀ w ∈ u_ws RX2 TX2 9, w ∈ wsX2_plates := by decide +kernel
  have hiX1 : ∀ w ∈ u_ws RX1 TX1 3, w ∈ wsX2_plates := by decide +kernel
  have hl := lv_entry ([.ref x]) (n := 1) (Nat.le_of_ble_eq_true rfl)
  rw [lg_entry_eq]
  generalize (lg_sl ([.ref x]) ++ List.replicate (1 - (lg_sl ([.ref x])).length) Slot.unset).toArray = ls at hl ⊢
  have hl : lv_has ls 1 [(0, .ref x)] := hl
  refine lv_aload_n hx hb dX2_plates_0 rfl (lv_at hl 0 rfl) ?_
  refine va_get (D := D) (ci := 2) (v := .ref rg) (C := RX2) (T := TX2) (N := 9) hx hb hts hiX2 hown hK hP 0 rfl rfl 0 (by decide) (hts (.fieldLink RX2 12 "CraneReach" "rig" "LCraneReach$Rig;") (by decide +kernel)) (fun _ h9 => h9) rfl dX2_plates_1 ?_
  refine va_get (D := D) (ci := 1) (v := .int pl) (C := RX1) (T := TX1) (N := 3) hx hb hts hiX1 hown hK hP 1 rfl rfl 2 (by decide) (hts (.fieldLink RX2 45 "CraneReach$Rig" "plates" "I") (by decide +kernel)) (fun _ h9 => h9) rfl dX2_plates_4 ?_
  exact W.iret (v := pl) hx hb hRt (fun t ht hW => ⟨rfl, ht⟩) hS.2.2 dX2_plates_7
set_option maxHeartbeats 4000000 in
set_option maxRecDepth 100000 in
/-- returns, or throws where a load hangs -/
theorem k_requireNoLoad (l : Launch) (hfl : l.stackTraces = false) (D : va_G) (L0 : Nat) (x rg tr pn d r : Nat) (ld li tl mo : Int32) : vx_Met l yX2_requireNoLoad wsX2_requireNoLoad ({ frames := 6, cells := 1, slots := 6, locals := 86 }) (cP L0 D [] [(x, .inr (2, [.ref rg, .ref tr, .ref pn, .int (nI d), .int (nI r), .int ld, .int li, .int tl, .int mo]))] [.ref x]) (cRP none (¬ 0 < ld)) (cX (fun E => E = xISE ∧ ¬ ¬ 0 < ld) (fun _ => True) (fun _ => False)) 1 6 (fun _ => False) := by
  refine vx_ofW (cc := cX2_requireNoLoad) (maxL := 1) (ret := none) (by decide) rfl ?_
  intro p e s m args below meth c s₁ B hml hxt hv
  obtain ⟨rfl, hP, hK, hD0, hE0⟩ := hv
  have hx := B.exec
  have hb := B.bytes
  have hRt := B.returns
  have hts := atoms_spec (ws := wsX2_requireNoLoad) B.pre
  have hown : s.vm.findClass RX2 = some m.cls := findClass_of_methodNamed B.named
  have hlocks := B.notSynchronized
  have hAL : ∀ z9 : Nat, (fun _ : Nat => False) z9 → L0 ≤ z9 := fun z9 h9 => False.elim h9
  generalize hAe : (fun _ : Nat => False) = A at hAL ⊢
  have hS : va_S A s.heap s.heap [] := va_S.rf
  have hiX2 : ∀ w ∈ u_ws RX2 TX2 9, w ∈ wsX2_requireNoLoad := by decide +kernel
  have hl := lv_entry ([.ref x]) (n := 1) (Nat.le_of_ble_eq_true rfl)
  rw [lg_entry_eq]
  generalize (lg_sl ([.ref x]) ++ List.replicate (1 - (lg_sl ([.ref x])).length) Slot.unset).toArray = ls at hl ⊢
  have hl : lv_has ls 1 [(0, .ref x)] := hl
  have hin95 : ∀ z ∈ (vx_atS RX2 95 xISE kSup).filter goodWord, z ∈ wsX2_requireNoLoad := by decide +kernel
  refine lv_aload_n hx hb dX2_requireNoLoad_0 rfl (lv_at hl 0 rfl) ?_
  refine va_get (D := D) (ci := 2) (v := .int ld) (C := RX2) (T := TX2) (N := 9) hx hb hts hiX2 hown hK hP 0 rfl rfl 5 (by decide) (hts (.fieldLink RX2 48 "CraneReach" "load" "I") (by decide +kernel)) (fun _ h9 => h9) rfl dX2_requireNoLoad_1 ?_
  refine lv_if_le (tgt := 17) hx hb dX2_requireNoLoad_4 (by decide) (fun c_1 => ?_) (fun c_1 => ?_)
  · refine vx_ret ?_
    refine W.widen (k := 1) (n := 6) (Nat.le_of_ble_eq_true rfl) (Nat.le_of_ble_eq_true rfl) ?_
    exact W.vret hx hb hRt (fun t ht hW => ⟨⟨rfl, ht⟩, i_len c_1⟩) hS.2.2 dX2_requireNoLoad_17
  · exact c_throw (cls := xISE) (text := "a load hangs on the boom") hx hb hfl hown (Or.inr (Or.inl rfl)) (hts (.classLink RX2 91 xISE) (by decide +kernel)) (hts (.initialized xISE) (by decide +kernel)) hE0 hAL (by decide) (fun z hz => hts z (hin95 z hz)) (by decide +kernel) (by decide +kernel) hS hl.1 hml dX2_requireNoLoad_7 dX2_requireNoLoad_10 dX2_requireNoLoad_11 dX2_requireNoLoad_13 dX2_requireNoLoad_16 hxt (Nat.le_of_ble_eq_true rfl) (Nat.le_of_ble_eq_true rfl) (Nat.le_of_ble_eq_true rfl) (Nat.le_of_ble_eq_true rfl) hlocks (⟨rfl, fun z => z (i_nle c_1)⟩) (fun H1 _ _ => trivial) (fun q h => h) (fun q h => h) (Nat.le_of_ble_eq_true rfl) (Nat.le_of_ble_eq_true rfl)
set_option maxHeartbeats 4000000 in
set_option maxRecDepth 100000 in
/-- returns, or throws where it would not be safe -/
theorem k_requireSafe (l : Launch) (hfl : l.stackTraces = false) (D : va_G) (L0 : Nat) (cI : ClassId) (x rg tr pn tg ta tb d r : Nat) (ld li tl mo pl : Int32) (fo fl : Nat → Int32) (tons : Int32) (hd : d < 8) (hr : 3 ≤ r ∧ r ≤ 30) : vx_Met l yX2_requireSafe wsX2_requireSafe ({ frames := 6, cells := 1, slots := 6, locals := 86 }) (cP L0 D [(cI, .int)] [(x, .inr (2, [.ref rg, .ref tr, .ref pn, .int (nI d), .int (nI r), .int ld, .int li, .int tl, .int mo])), (tg, .inr (1, [.ref ta, .ref tb, .int pl])), (ta, .inl (cI, 4, .inl fo)), (tb, .inl (cI, 28, .inl (sh fl)))] [.ref x, .ref tg, .int tons]) (cRP none (safS fo fl pl tons d r = true)) (cX (fun E => E = xISE ∧ ¬ safS fo fl pl tons d r = true) (fun _ => True) (fun _ => False)) 1 6 (fun _ => False) := by
  refine vx_ofW (cc := cX2_requireSafe) (maxL := 3) (ret := none) (by decide) rfl ?_
  intro p e s m args below meth c s₁ B hml hxt hv
  obtain ⟨rfl, hP, hK, hD0, hE0⟩ := hv
  have hx := B.exec
  have hb := B.bytes
  have hRt := B.returns
  have hts := atoms_spec (ws := wsX2_requireSafe) B.pre
  have hown : s.vm.findClass RX2 = some m.cls := findClass_of_methodNamed B.named
  have hlocks := B.notSynchronized
  have hAL : ∀ z9 : Nat, (fun _ : Nat => False) z9 → L0 ≤ z9 := fun z9 h9 => False.elim h9
  generalize hAe : (fun _ : Nat => False) = A at hAL ⊢
  have hS : va_S A s.heap s.heap [] := va_S.rf
  have hiX2 : ∀ w ∈ u_ws RX2 TX2 9, w ∈ wsX2_requireSafe := by decide +kernel
  have hl := lv_entry ([.ref x, .ref tg, .int tons]) (n := 3) (Nat.le_of_ble_eq_true rfl)
  rw [lg_entry_eq]
  generalize (lg_sl ([.ref x, .ref tg, .int tons]) ++ List.replicate (3 - (lg_sl ([.ref x, .ref tg, .int tons])).length) Slot.unset).toArray = ls at hl ⊢
  have hl : lv_has ls 3 [(0, .ref x), (1, .ref tg), (2, .int tons)] := hl
  have hin95 : ∀ z ∈ (vx_atS RX2 95 xISE kSup).filter goodWord, z ∈ wsX2_requireSafe := by decide +kernel
  refine lv_aload_n hx hb dX2_requireSafe_0 rfl (lv_at hl 1 rfl) ?_
  refine lv_iload_n hx hb dX2_requireSafe_1 rfl (lv_at hl 2 rfl) ?_
  refine lv_aload_n hx hb dX2_requireSafe_2 rfl (lv_at hl 0 rfl) ?_
  refine va_get (D := D) (ci := 2) (v := .int (nI d)) (C := RX2) (T := TX2) (N := 9) hx hb hts hiX2 hown hK hP 0 rfl rfl 3 (by decide) (hts (.fieldLink RX2 98 "CraneReach" "direction" "I") (by decide +kernel)) (fun _ h9 => h9) rfl dX2_requireSafe_3 ?_
  refine lv_aload_n hx hb dX2_requireSafe_6 rfl (lv_at hl 0 rfl) ?_
  refine va_get (D := D) (ci := 2) (v := .int (nI r)) (C := RX2) (T := TX2) (N := 9) hx hb hts hiX2 hown hK hP 0 rfl rfl 4 (by decide) (hts (.fieldLink RX2 26 "CraneReach" "reach" "I") (by decide +kernel)) (fun _ h9 => h9) rfl dX2_requireSafe_7 ?_
  have hPc := hP.sub (ws' := [(tg, .inr (1, [.ref ta, .ref tb, .int pl])), (ta, .inl (cI, 4, .inl fo)), (tb, .inl (cI, 28, .inl (sh fl)))]) [1, 2, 3] rfl
  have hDc := hD0.sub (ws' := [(tg, .inr (1, [.ref ta, .ref tb, .int pl])), (ta, .inl (cI, 4, .inl fo)), (tb, .inl (cI, 28, .inl (sh fl)))]) [1, 2, 3] (by decide) rfl
  have hKc := hK.sub (tys' := [(cI, .int)]) [0] rfl
  refine c_callR (va_runV (As := [.int tons, .int (nI d), .int (nI r)]) (rest := []) ⟨hx, hb, hml, hown, hts⟩ (k_isSafe l D L0 cI tg ta tb pl fo fl d r tons hd hr) (cwV 3 hts gX2_requireSafe_X1_isSafe rfl rfl rfl (by decide +kernel) ⟨Nat.le_of_ble_eq_true rfl, Nat.le_of_ble_eq_true rfl⟩) ⟨cP_blind, va_recv hKc hPc (ci := 1) (q0 := 0) rfl rfl, cP_of hPc hKc hDc (kE_at hE0 hAL hS)⟩ rfl rfl hl.1 rfl (lv_room (Nat.le_of_ble_eq_true rfl)) dX2_requireSafe_10 ⟨Nat.le_of_ble_eq_true rfl, Nat.le_of_ble_eq_true rfl⟩) ?_
  show W _ _ _ _ _ _ _ _ _ _ _ _ _ _ _ (F0 m 13 ls [.int (bI (safS fo fl pl tons d r))])
  obtain ⟨b0, hb0⟩ : ∃ b0 : Bool, b0 = safS fo fl pl tons d r := ⟨_, rfl⟩
  refine c_top (show bI (safS fo fl pl tons d r) = bI b0 from by rw [hb0]) ?_
  refine lv_if_ne (tgt := 26) hx hb dX2_requireSafe_13 (by decide) (fun c_2 => ?_) (fun c_2 => ?_)
  · refine vx_ret ?_
    refine W.widen (k := 1) (n := 6) (Nat.le_of_ble_eq_true rfl) (Nat.le_of_ble_eq_true rfl) ?_
    exact W.vret hx hb hRt (fun t ht hW => ⟨⟨rfl, ht⟩, by rw [← hb0]; cases b0 with | true => rfl | false => exact absurd rfl c_2⟩) hS.2.2 dX2_requireSafe_26
  · exact c_throw (cls := xISE) (text := "it would not be safe then") hx hb hfl hown (Or.inr (Or.inl rfl)) (hts (.classLink RX2 91 xISE) (by decide +kernel)) (hts (.initialized xISE) (by decide +kernel)) hE0 hAL (by decide) (fun z hz => hts z (hin95 z hz)) (by decide +kernel) (by decide +kernel) hS hl.1 hml dX2_requireSafe_16 dX2_requireSafe_19 dX2_requireSafe_20 dX2_requireSafe_22 dX2_requireSafe_25 hxt (Nat.le_of_ble_eq_true rfl) (Nat.le_of_ble_eq_true rfl) (Nat.le_of_ble_eq_true rfl) (Nat.le_of_ble_eq_true rfl) hlocks (⟨rfl, fun z => absurd c_2 (by rw [hb0, z]; decide)⟩) (fun H1 _ _ => trivial) (fun q h => h) (fun q h => h) (Nat.le_of_ble_eq_true rfl) (Nat.le_of_ble_eq_true rfl)
set_option maxHeartbeats 4000000 in
set_option maxRecDepth 100000 in
/-- countMoves(moved) -/
theorem k_countMoves (l : Launch) (D : va_G) (L0 : Nat) (x rg tr pn d r : Nat) (ld li tl mo : Int32) (v : Int32) : Met l yX2_countMoves wsX2_countMoves ({ frames := 0, cells := 0, slots := 0, locals := 0 }) (cP L0 D [] [(x, .inr (2, [.ref rg, .ref tr, .ref pn, .int (nI d), .int (nI r), .int ld, .int li, .int tl, .int mo]))] [.ref x, .int v]) (cB none (fun H => va_P D vwCl [(x, .inr (2, [.ref rg, .ref tr, .ref pn, .int (nI d), .int (nI r), .int ld, .int li, .int tl, .int (if 0 < ld then mo + v else mo)]))] H) (cA [(x, .inr (2, [.ref rg, .ref tr, .ref pn, .int (nI d), .int (nI r), .int ld, .int li, .int tl, .int mo]))])) 0 0 (cA [(x, .inr (2, [.ref rg, .ref tr, .ref pn, .int (nI d), .int (nI r), .int ld, .int li, .int tl, .int mo]))]) := by
  refine Met.ofW (cc := cX2_countMoves) (maxL := 2) (ret := none) (by decide) rfl ?_
  intro p e s m args below meth c s₁ B hml hv
  obtain ⟨rfl, hP, hK, hD0, hE0⟩ := hv
  have hx := B.exec
  have hb := B.bytes
  have hRt := B.returns
  have hts := atoms_spec (ws := wsX2_countMoves) B.pre
  have hown : s.vm.findClass RX2 = some m.cls := findClass_of_methodNamed B.named
  have hlocks := B.notSynchronized
  have hAL : ∀ z9 : Nat, cA [(x, .inr (2, [.ref rg, .ref tr, .ref pn, .int (nI d), .int (nI r), .int ld, .int li, .int tl, .int mo]))] z9 → L0 ≤ z9 := fun z9 ⟨k9, e9, h9⟩ => hD0.2 k9 (z9, e9) h9
  have hD : va_D (cA [(x, .inr (2, [.ref rg, .ref tr, .ref pn, .int (nI d), .int (nI r), .int ld, .int li, .int tl, .int mo]))]) [(x, .inr (2, [.ref rg, .ref tr, .ref pn, .int (nI d), .int (nI r), .int ld, .int li, .int tl, .int mo]))] := ⟨hD0.1, fun k9 z9 h9 => cA_of h9⟩
  generalize hAe : cA [(x, .inr (2, [.ref rg, .ref tr, .ref pn, .int (nI d), .int (nI r), .int ld, .int li, .int tl, .int mo]))] = A at hD hAL ⊢
  have hS : va_S A s.heap s.heap [] := va_S.rf
  have hiX2 : ∀ w ∈ u_ws RX2 TX2 9, w ∈ wsX2_countMoves := by decide +kernel
  have hl := lv_entry ([.ref x, .int v]) (n := 2) (Nat.le_of_ble_eq_true rfl)
  rw [lg_entry_eq]
  generalize (lg_sl ([.ref x, .int v]) ++ List.replicate (2 - (lg_sl ([.ref x, .int v])).length) Slot.unset).toArray = ls at hl ⊢
  have hl : lv_has ls 2 [(0, .ref x), (1, .int v)] := hl
  refine lv_aload_n hx hb dX2_countMoves_0 rfl (lv_at hl 0 rfl) ?_
  refine va_get (D := D) (ci := 2) (v := .int ld) (C := RX2) (T := TX2) (N := 9) hx hb hts hiX2 hown hK hP 0 rfl rfl 5 (by decide) (hts (.fieldLink RX2 48 "CraneReach" "load" "I") (by decide +kernel)) (fun _ h9 => h9) rfl dX2_countMoves_1 ?_
  refine lv_if_le (tgt := 17) hx hb dX2_countMoves_4 (by decide) (fun c_3 => ?_) (fun c_3 => ?_)
  · exact W.vret hx hb hRt (fun t ht hW => ⟨⟨rfl, by rw [ht]; exact by rw [if_neg (i_len c_3)]; exact hP⟩, hS.F ht⟩) hS.2.2 dX2_countMoves_17
  · refine lv_aload_n hx hb dX2_countMoves_7 rfl (lv_at hl 0 rfl) ?_
    refine lv_dup hx hb dX2_countMoves_8 rfl ?_
    refine va_get (D := D) (ci := 2) (v := .int mo) (C := RX2) (T := TX2) (N := 9) hx hb hts hiX2 hown hK hP 0 rfl rfl 8 (by decide) (hts (.fieldLink RX2 121 "CraneReach" "movesWithLoad" "I") (by decide +kernel)) (fun _ h9 => h9) rfl dX2_countMoves_9 ?_
    refine lv_iload_n hx hb dX2_countMoves_12 rfl (lv_at hl 1 rfl) ?_
    refine lv_iadd hx hb dX2_countMoves_13 ?_
    refine va_put (D := D) (ci := 2) (v := .int (mo + v)) (ty := .int) (C := RX2) (T := TX2) (N := 9) hx hb hts hiX2 tyX2 tyX2_ok nmX2 hown hK hP hD hS 0 rfl rfl 8 (by decide) (hts (.fieldLink RX2 121 "CraneReach" "movesWithLoad" "I") (by decide +kernel)) (fun _ h9 => h9) rfl (by decide +kernel) rfl rfl (Nat.le_of_ble_eq_true rfl) dX2_countMoves_14 (fun H locs hP hD hS => ?_)
    have hP : va_P D vwCl [(x, .inr (2, [.ref rg, .ref tr, .ref pn, .int (nI d), .int (nI r), .int ld, .int li, .int tl, .int (mo + v)]))] H := hP
    have hD : va_D A [(x, .inr (2, [.ref rg, .ref tr, .ref pn, .int (nI d), .int (nI r), .int ld, .int li, .int tl, .int (mo + v)]))] := hD
    exact W.vret hx hb hRt (fun t ht hW => ⟨⟨rfl, by rw [ht]; exact by rw [if_pos (i_nle c_3)]; exact hP⟩, hS.F ht⟩) hS.2.2 dX2_countMoves_17
set_option maxHeartbeats 4000000 in
set_option maxRecDepth 100000 in
/-- outrigger -/
theorem k_outrigger (l : Launch) (hfl : l.stackTraces = false) (D : va_G) (L0 : Nat) (cI : ClassId) (x rg tr pn ro rl d r : Nat) (ld li tl mo pl : Int32) (fo fl : Nat → Int32) (v : Int32) (hd : d < 8) (hr : 3 ≤ r ∧ r ≤ 30) : vx_Met l yX2_outrigger wsX2_outrigger ({ frames := 7, cells := 1, slots := 6, locals := 103 }) (cP L0 D [(cI, .int)] [(x, .inr (2, [.ref rg, .ref tr, .ref pn, .int (nI d), .int (nI r), .int ld, .int li, .int tl, .int mo])), (rg, .inr (1, [.ref ro, .ref rl, .int pl])), (ro, .inl (cI, 4, .inl fo)), (rl, .inl (cI, 28, .inl (sh fl)))] [.ref x, .int v]) (cRP (some (.int (fo v.toNatClampNeg))) (k1 (inR v 0 3) = 0)) (cX (fun E => E = xIOB ∧ k1 (inR v 0 3) = 1) (fun _ => True) (fun _ => False)) 1 6 (fun _ => False) := by
  refine vx_ofW (cc := cX2_outrigger) (maxL := 2) (ret := (some .int)) (by decide) rfl ?_
  intro p e s m args below meth c s₁ B hml hxt hv
  obtain ⟨rfl, hP, hK, hD0, hE0⟩ := hv
  have hx := B.exec
  have hb := B.bytes
  have hRt := B.returns
  have hts := atoms_spec (ws := wsX2_outrigger) B.pre
  have hown : s.vm.findClass RX2 = some m.cls := findClass_of_methodNamed B.named
  have hlocks := B.notSynchronized
  have hAL : ∀ z9 : Nat, (fun _ : Nat => False) z9 → L0 ≤ z9 := fun z9 h9 => False.elim h9
  generalize hAe : (fun _ : Nat => False) = A at hAL ⊢
  have hS : va_S A s.heap s.heap [] := va_S.rf
  have hiX2 : ∀ w ∈ u_ws RX2 TX2 9, w ∈ wsX2_outrigger := by decide +kernel
  have hl := lv_entry ([.ref x, .int v]) (n := 2) (Nat.le_of_ble_eq_true rfl)
  rw [lg_entry_eq]
  generalize (lg_sl ([.ref x, .int v]) ++ List.replicate (2 - (lg_sl ([.ref x, .int v])).length) Slot.unset).toArray = ls at hl ⊢
  have hl : lv_has ls 2 [(0, .ref x), (1, .int v)] := hl
  refine lv_iload_n hx hb dX2_outrigger_0 rfl (lv_at hl 1 rfl) ?_
  have hPc := hP.sub (ws' := []) [] rfl
  have hDc := hD0.sub (ws' := []) [] (by decide) rfl
  have hKc := hK.sub (tys' := []) [] rfl
  refine c_callT (vx_runS (As := [.int v]) (rest := []) ⟨hx, hb, hml, hown, hts⟩ (k_requireSide l hfl D L0 v) (va_cwS 1 hts gX2_outrigger_X2_requireSide rfl rfl rfl (by decide +kernel) ⟨Nat.le_of_ble_eq_true rfl, Nat.le_of_ble_eq_true rfl⟩) ⟨cP_blind, cP_of hPc hKc hDc (kE_at hE0 hAL hS)⟩ rfl rfl hl.1 rfl (lv_room (Nat.le_of_ble_eq_true rfl)) dX2_outrigger_1 ⟨Nat.le_of_ble_eq_true rfl, Nat.le_of_ble_eq_true rfl⟩) hS (fun E ce q9 H1 hE hz1 hk1 hS hce hcv hcl => ?_) (fun hp => ?_)
  · obtain ⟨rfl, hE⟩ := hE
    exact vx_out (fun z hz => (hxt z hz).elim) hlocks hce hcv hcl (fun t ht hvm => ⟨⟨⟨rfl, k1_no hE⟩, trivial⟩, hS.F ht⟩) (fun z hz => hS.2.2 z hz) (Nat.le_of_ble_eq_true rfl) (Nat.le_of_ble_eq_true rfl)
  · show W _ _ _ _ _ _ _ _ _ _ _ _ _ _ _ (F0 m 4 ls [])
    obtain ⟨kv, hkv, hv⟩ := inR_nI (n := 3) (by decide) hp
    have hl : lv_has ls 2 [(0, .ref x), (1, .int (nI kv))] := (show v = nI kv from hv) ▸ hl
    have hvn : v.toNatClampNeg = kv := by rw [hv, nI_clamp (by omega)]
    refine lv_aload_n hx hb dX2_outrigger_4 rfl (lv_at hl 0 rfl) ?_
    refine va_get (D := D) (ci := 2) (v := .ref rg) (C := RX2) (T := TX2) (N := 9) hx hb hts hiX2 hown hK hP 0 rfl rfl 0 (by decide) (hts (.fieldLink RX2 12 "CraneReach" "rig" "LCraneReach$Rig;") (by decide +kernel)) (fun _ h9 => h9) rfl dX2_outrigger_5 ?_
    refine lv_iload_n hx hb dX2_outrigger_8 rfl (lv_at hl 1 rfl) ?_
    have hPc := hP.sub (ws' := [(rg, .inr (1, [.ref ro, .ref rl, .int pl])), (ro, .inl (cI, 4, .inl fo)), (rl, .inl (cI, 28, .inl (sh fl)))]) [1, 2, 3] rfl
    have hDc := hD0.sub (ws' := [(rg, .inr (1, [.ref ro, .ref rl, .int pl])), (ro, .inl (cI, 4, .inl fo)), (rl, .inl (cI, 28, .inl (sh fl)))]) [1, 2, 3] (by decide) rfl
    have hKc := hK.sub (tys' := [(cI, .int)]) [0] rfl
    refine c_callR (va_runV (As := [.int (nI kv)]) (rest := []) ⟨hx, hb, hml, hown, hts⟩ (k_drawn l D L0 cI rg ro rl pl fo (sh fl) kv (by omega)) (cwV 1 hts gX2_outrigger_X1_drawn rfl rfl rfl (by decide +kernel) ⟨Nat.le_of_ble_eq_true rfl, Nat.le_of_ble_eq_true rfl⟩) ⟨cP_blind, va_recv hKc hPc (ci := 1) (q0 := 0) rfl rfl, cP_of hPc hKc hDc (kE_at hE0 hAL hS)⟩ rfl rfl hl.1 rfl (lv_room (Nat.le_of_ble_eq_true rfl)) dX2_outrigger_9 ⟨Nat.le_of_ble_eq_true rfl, Nat.le_of_ble_eq_true rfl⟩) ?_
    show W _ _ _ _ _ _ _ _ _ _ _ _ _ _ _ (F0 m 12 ls [.int (fo kv)])
    refine vx_ret ?_
    refine W.widen (k := 1) (n := 6) (Nat.le_of_ble_eq_true rfl) (Nat.le_of_ble_eq_true rfl) ?_
    exact W.iret (v := (fo kv)) hx hb hRt (fun t ht hW => ⟨⟨by rw [hvn], ht⟩, k1_yes hp⟩) hS.2.2 dX2_outrigger_12
set_option maxHeartbeats 4000000 in
set_option maxRecDepth 100000 in
/-- limitAt -/
theorem k_limitAt (l : Launch) (hfl : l.stackTraces = false) (D : va_G) (L0 : Nat) (cI : ClassId) (x rg tr pn ro rl d r : Nat) (ld li tl mo pl : Int32) (fo fl : Nat → Int32) (v : Int32) (hd : d < 8) (hr : 3 ≤ r ∧ r ≤ 30) : vx_Met l yX2_limitAt wsX2_limitAt ({ frames := 7, cells := 1, slots := 6, locals := 103 }) (cP L0 D [(cI, .int)] [(x, .inr (2, [.ref rg, .ref tr, .ref pn, .int (nI d), .int (nI r), .int ld, .int li, .int tl, .int mo])), (rg, .inr (1, [.ref ro, .ref rl, .int pl])), (ro, .inl (cI, 4, .inl fo)), (rl, .inl (cI, 28, .inl (sh fl)))] [.ref x, .int v]) (cRP (some (.int (fl v.toNatClampNeg))) (k1 (inR v 3 30) = 0)) (cX (fun E => E = xIAE ∧ k1 (inR v 3 30) = 1) (fun _ => True) (fun _ => False)) 1 6 (fun _ => False) := by
  refine vx_ofW (cc := cX2_limitAt) (maxL := 2) (ret := (some .int)) (by decide) rfl ?_
  intro p e s m args below meth c s₁ B hml hxt hv
  obtain ⟨rfl, hP, hK, hD0, hE0⟩ := hv
  have hx := B.exec
  have hb := B.bytes
  have hRt := B.returns
  have hts := atoms_spec (ws := wsX2_limitAt) B.pre
  have hown : s.vm.findClass RX2 = some m.cls := findClass_of_methodNamed B.named
  have hlocks := B.notSynchronized
  have hAL : ∀ z9 : Nat, (fun _ : Nat => False) z9 → L0 ≤ z9 := fun z9 h9 => False.elim h9
  generalize hAe : (fun _ : Nat => False) = A at hAL ⊢
  have hS : va_S A s.heap s.heap [] := va_S.rf
  have hiX2 : ∀ w ∈ u_ws RX2 TX2 9, w ∈ wsX2_limitAt := by decide +kernel
  have hl := lv_entry ([.ref x, .int v]) (n := 2) (Nat.le_of_ble_eq_true rfl)
  rw [lg_entry_eq]
  generalize (lg_sl ([.ref x, .int v]) ++ List.replicate (2 - (lg_sl ([.ref x, .int v])).length) Slot.unset).toArray = ls at hl ⊢
  have hl : lv_has ls 2 [(0, .ref x), (1, .int v)] := hl
  refine lv_iload_n hx hb dX2_limitAt_0 rfl (lv_at hl 1 rfl) ?_
  have hPc := hP.sub (ws' := []) [] rfl
  have hDc := hD0.sub (ws' := []) [] (by decide) rfl
  have hKc := hK.sub (tys' := []) [] rfl
  refine c_callT (vx_runS (As := [.int v]) (rest := []) ⟨hx, hb, hml, hown, hts⟩ (k_requireReach l hfl D L0 v) (va_cwS 1 hts gX2_limitAt_X2_requireReach rfl rfl rfl (by decide +kernel) ⟨Nat.le_of_ble_eq_true rfl, Nat.le_of_ble_eq_true rfl⟩) ⟨cP_blind, cP_of hPc hKc hDc (kE_at hE0 hAL hS)⟩ rfl rfl hl.1 rfl (lv_room (Nat.le_of_ble_eq_true rfl)) dX2_limitAt_1 ⟨Nat.le_of_ble_eq_true rfl, Nat.le_of_ble_eq_true rfl⟩) hS (fun E ce q9 H1 hE hz1 hk1 hS hce hcv hcl => ?_) (fun hp => ?_)
  · obtain ⟨rfl, hE⟩ := hE
    exact vx_out (fun z hz => (hxt z hz).elim) hlocks hce hcv hcl (fun t ht hvm => ⟨⟨⟨rfl, k1_no hE⟩, trivial⟩, hS.F ht⟩) (fun z hz => hS.2.2 z hz) (Nat.le_of_ble_eq_true rfl) (Nat.le_of_ble_eq_true rfl)
  · show W _ _ _ _ _ _ _ _ _ _ _ _ _ _ _ (F0 m 4 ls [])
    obtain ⟨kv, hkv, hv⟩ := inR_n3 (n := 30) (by decide) hp
    have hl : lv_has ls 2 [(0, .ref x), (1, .int (nI kv))] := (show v = nI kv from hv) ▸ hl
    have hvn : v.toNatClampNeg = kv := by rw [hv, nI_clamp (by omega)]
    refine lv_aload_n hx hb dX2_limitAt_4 rfl (lv_at hl 0 rfl) ?_
    refine va_get (D := D) (ci := 2) (v := .ref rg) (C := RX2) (T := TX2) (N := 9) hx hb hts hiX2 hown hK hP 0 rfl rfl 0 (by decide) (hts (.fieldLink RX2 12 "CraneReach" "rig" "LCraneReach$Rig;") (by decide +kernel)) (fun _ h9 => h9) rfl dX2_limitAt_5 ?_
    refine lv_iload_n hx hb dX2_limitAt_8 rfl (lv_at hl 1 rfl) ?_
    have hPc := hP.sub (ws' := [(rg, .inr (1, [.ref ro, .ref rl, .int pl])), (ro, .inl (cI, 4, .inl fo)), (rl, .inl (cI, 28, .inl (sh fl)))]) [1, 2, 3] rfl
    have hDc := hD0.sub (ws' := [(rg, .inr (1, [.ref ro, .ref rl, .int pl])), (ro, .inl (cI, 4, .inl fo)), (rl, .inl (cI, 28, .inl (sh fl)))]) [1, 2, 3] (by decide) rfl
    have hKc := hK.sub (tys' := [(cI, .int)]) [0] rfl
    refine c_callR (va_runV (As := [.int (nI kv)]) (rest := []) ⟨hx, hb, hml, hown, hts⟩ (k_allowed l D L0 cI rg ro rl pl fo (sh fl) kv hkv) (cwV 1 hts gX2_limitAt_X1_allowed rfl rfl rfl (by decide +kernel) ⟨Nat.le_of_ble_eq_true rfl, Nat.le_of_ble_eq_true rfl⟩) ⟨cP_blind, va_recv hKc hPc (ci := 1) (q0 := 0) rfl rfl, cP_of hPc hKc hDc (kE_at hE0 hAL hS)⟩ rfl rfl hl.1 rfl (lv_room (Nat.le_of_ble_eq_true rfl)) dX2_limitAt_9 ⟨Nat.le_of_ble_eq_true rfl, Nat.le_of_ble_eq_true rfl⟩) ?_
    show W _ _ _ _ _ _ _ _ _ _ _ _ _ _ _ (F0 m 12 ls [.int (sh fl (kv - 3))])
    refine c_top (show sh fl (kv - 3) = fl kv from sh_at hkv.1) ?_
    refine vx_ret ?_
    refine W.widen (k := 1) (n := 6) (Nat.le_of_ble_eq_true rfl) (Nat.le_of_ble_eq_true rfl) ?_
    exact W.iret (v := (fl kv)) hx hb hRt (fun t ht hW => ⟨⟨by rw [hvn], ht⟩, k1_yes hp⟩) hS.2.2 dX2_limitAt_12
set_option maxHeartbeats 4000000 in
set_option maxRecDepth 100000 in
/-- strainOn -/
theorem k_strainOn (l : Launch) (hfl : l.stackTraces = false) (D : va_G) (L0 : Nat) (cI : ClassId) (x rg tr pn ro rl d r : Nat) (ld li tl mo pl : Int32) (fo fl : Nat → Int32) (v : Int32) (hd : d < 8) (hr : 3 ≤ r ∧ r ≤ 30) : vx_Met l yX2_strainOn wsX2_strainOn ({ frames := 7, cells := 1, slots := 6, locals := 103 }) (cP L0 D [(cI, .int)] [(x, .inr (2, [.ref rg, .ref tr, .ref pn, .int (nI d), .int (nI r), .int ld, .int li, .int tl, .int mo])), (rg, .inr (1, [.ref ro, .ref rl, .int pl])), (ro, .inl (cI, 4, .inl fo)), (rl, .inl (cI, 28, .inl (sh fl)))] [.ref x, .int v]) (cRP (some (.int (strS fo pl v.toNatClampNeg ld d r))) (k1 (inR v 0 3) = 0)) (cX (fun E => E = xIOB ∧ k1 (inR v 0 3) = 1) (fun _ => True) (fun _ => False)) 1 6 (fun _ => False) := by
  refine vx_ofW (cc := cX2_strainOn) (maxL := 2) (ret := (some .int)) (by decide) rfl ?_
  intro p e s m args below meth c s₁ B hml hxt hv
  obtain ⟨rfl, hP, hK, hD0, hE0⟩ := hv
  have hx := B.exec
  have hb := B.bytes
  have hRt := B.returns
  have hts := atoms_spec (ws := wsX2_strainOn) B.pre
  have hown : s.vm.findClass RX2 = some m.cls := findClass_of_methodNamed B.named
  have hlocks := B.notSynchronized
  have hAL : ∀ z9 : Nat, (fun _ : Nat => False) z9 → L0 ≤ z9 := fun z9 h9 => False.elim h9
  generalize hAe : (fun _ : Nat => False) = A at hAL ⊢
  have hS : va_S A s.heap s.heap [] := va_S.rf
  have hiX2 : ∀ w ∈ u_ws RX2 TX2 9, w ∈ wsX2_strainOn := by decide +kernel
  have hl := lv_entry ([.ref x, .int v]) (n := 2) (Nat.le_of_ble_eq_true rfl)
  rw [lg_entry_eq]
  generalize (lg_sl ([.ref x, .int v]) ++ List.replicate (2 - (lg_sl ([.ref x, .int v])).length) Slot.unset).toArray = ls at hl ⊢
  have hl : lv_has ls 2 [(0, .ref x), (1, .int v)] := hl
  refine lv_iload_n hx hb dX2_strainOn_0 rfl (lv_at hl 1 rfl) ?_
  have hPc := hP.sub (ws' := []) [] rfl
  have hDc := hD0.sub (ws' := []) [] (by decide) rfl
  have hKc := hK.sub (tys' := []) [] rfl
  refine c_callT (vx_runS (As := [.int v]) (rest := []) ⟨hx, hb, hml, hown, hts⟩ (k_requireSide l hfl D L0 v) (va_cwS 1 hts gX2_strainOn_X2_requireSide rfl rfl rfl (by decide +kernel) ⟨Nat.le_of_ble_eq_true rfl, Nat.le_of_ble_eq_true rfl⟩) ⟨cP_blind, cP_of hPc hKc hDc (kE_at hE0 hAL hS)⟩ rfl rfl hl.1 rfl (lv_room (Nat.le_of_ble_eq_true rfl)) dX2_strainOn_1 ⟨Nat.le_of_ble_eq_true rfl, Nat.le_of_ble_eq_true rfl⟩) hS (fun E ce q9 H1 hE hz1 hk1 hS hce hcv hcl => ?_) (fun hp => ?_)
  · obtain ⟨rfl, hE⟩ := hE
    exact vx_out (fun z hz => (hxt z hz).elim) hlocks hce hcv hcl (fun t ht hvm => ⟨⟨⟨rfl, k1_no hE⟩, trivial⟩, hS.F ht⟩) (fun z hz => hS.2.2 z hz) (Nat.le_of_ble_eq_true rfl) (Nat.le_of_ble_eq_true rfl)
  · show W _ _ _ _ _ _ _ _ _ _ _ _ _ _ _ (F0 m 4 ls [])
    obtain ⟨kv, hkv, hv⟩ := inR_nI (n := 3) (by decide) hp
    have hl : lv_has ls 2 [(0, .ref x), (1, .int (nI kv))] := (show v = nI kv from hv) ▸ hl
    have hvn : v.toNatClampNeg = kv := by rw [hv, nI_clamp (by omega)]
    refine lv_aload_n hx hb dX2_strainOn_4 rfl (lv_at hl 0 rfl) ?_
    refine va_get (D := D) (ci := 2) (v := .ref rg) (C := RX2) (T := TX2) (N := 9) hx hb hts hiX2 hown hK hP 0 rfl rfl 0 (by decide) (hts (.fieldLink RX2 12 "CraneReach" "rig" "LCraneReach$Rig;") (by decide +kernel)) (fun _ h9 => h9) rfl dX2_strainOn_5 ?_
    refine lv_iload_n hx hb dX2_strainOn_8 rfl (lv_at hl 1 rfl) ?_
    refine lv_aload_n hx hb dX2_strainOn_9 rfl (lv_at hl 0 rfl) ?_
    refine va_get (D := D) (ci := 2) (v := .int ld) (C := RX2) (T := TX2) (N := 9) hx hb hts hiX2 hown hK hP 0 rfl rfl 5 (by decide) (hts (.fieldLink RX2 48 "CraneReach" "load" "I") (by decide +kernel)) (fun _ h9 => h9) rfl dX2_strainOn_10 ?_
    refine lv_aload_n hx hb dX2_strainOn_13 rfl (lv_at hl 0 rfl) ?_
    refine va_get (D := D) (ci := 2) (v := .int (nI d)) (C := RX2) (T := TX2) (N := 9) hx hb hts hiX2 hown hK hP 0 rfl rfl 3 (by decide) (hts (.fieldLink RX2 98 "CraneReach" "direction" "I") (by decide +kernel)) (fun _ h9 => h9) rfl dX2_strainOn_14 ?_
    refine lv_aload_n hx hb dX2_strainOn_17 rfl (lv_at hl 0 rfl) ?_
    refine va_get (D := D) (ci := 2) (v := .int (nI r)) (C := RX2) (T := TX2) (N := 9) hx hb hts hiX2 hown hK hP 0 rfl rfl 4 (by decide) (hts (.fieldLink RX2 26 "CraneReach" "reach" "I") (by decide +kernel)) (fun _ h9 => h9) rfl dX2_strainOn_18 ?_
    have hPc := hP.sub (ws' := [(rg, .inr (1, [.ref ro, .ref rl, .int pl])), (ro, .inl (cI, 4, .inl fo)), (rl, .inl (cI, 28, .inl (sh fl)))]) [1, 2, 3] rfl
    have hDc := hD0.sub (ws' := [(rg, .inr (1, [.ref ro, .ref rl, .int pl])), (ro, .inl (cI, 4, .inl fo)), (rl, .inl (cI, 28, .inl (sh fl)))]) [1, 2, 3] (by decide) rfl
    have hKc := hK.sub (tys' := [(cI, .int)]) [0] rfl
    refine c_callR (va_runV (As := [.int (nI kv), .int ld, .int (nI d), .int (nI r)]) (rest := []) ⟨hx, hb, hml, hown, hts⟩ (k_strain l D L0 cI rg ro rl pl fo (sh fl) kv d r ld (by omega) hd) (cwV 4 hts gX2_strainOn_X1_strain rfl rfl rfl (by decide +kernel) ⟨Nat.le_of_ble_eq_true rfl, Nat.le_of_ble_eq_true rfl⟩) ⟨cP_blind, va_recv hKc hPc (ci := 1) (q0 := 0) rfl rfl, cP_of hPc hKc hDc (kE_at hE0 hAL hS)⟩ rfl rfl hl.1 rfl (lv_room (Nat.le_of_ble_eq_true rfl)) dX2_strainOn_21 ⟨Nat.le_of_ble_eq_true rfl, Nat.le_of_ble_eq_true rfl⟩) ?_
    show W _ _ _ _ _ _ _ _ _ _ _ _ _ _ _ (F0 m 24 ls [.int (strS fo pl kv ld d r)])
    refine vx_ret ?_
    refine W.widen (k := 1) (n := 6) (Nat.le_of_ble_eq_true rfl) (Nat.le_of_ble_eq_true rfl) ?_
    exact W.iret (v := (strS fo pl kv ld d r)) hx hb hRt (fun t ht hW => ⟨⟨by rw [hvn], ht⟩, k1_yes hp⟩) hS.2.2 dX2_strainOn_24
set_option maxHeartbeats 4000000 in
set_option maxRecDepth 100000 in
/-- isSafeWith(load, direction, reach) -/
theorem k_isSafeWith (l : Launch) (hfl : l.stackTraces = false) (D : va_G) (L0 : Nat) (cI : ClassId) (x rg tr pn ro rl d r : Nat) (ld li tl mo pl : Int32) (fo fl : Nat → Int32) (u v z : Int32) : vx_Met l yX2_isSafeWith wsX2_isSafeWith ({ frames := 7, cells := 3, slots := 18, locals := 103 }) (cP L0 D [(cI, .int)] [(x, .inr (2, [.ref rg, .ref tr, .ref pn, .int (nI d), .int (nI r), .int ld, .int li, .int tl, .int mo])), (rg, .inr (1, [.ref ro, .ref rl, .int pl])), (ro, .inl (cI, 4, .inl fo)), (rl, .inl (cI, 28, .inl (sh fl)))] [.ref x, .int u, .int v, .int z]) (cRP (some (.int (bI (safS fo fl pl u v.toNatClampNeg z.toNatClampNeg)))) (k2 (inR v 0 7) (inR u 0 60 ∧ inR z 3 30) = 0)) (cX (fun E => (E = xIOB ∧ k2 (inR v 0 7) (inR u 0 60 ∧ inR z 3 30) = 1) ∨ (E = xIAE ∧ k2 (inR v 0 7) (inR u 0 60 ∧ inR z 3 30) = 2)) (fun _ => True) (fun _ => False)) 3 18 (fun _ => False) := by
  refine vx_ofW (cc := cX2_isSafeWith) (maxL := 4) (ret := (some .boolean)) (by decide) rfl ?_
  intro p e s m args below meth c s₁ B hml hxt hv
  obtain ⟨rfl, hP, hK, hD0, hE0⟩ := hv
  have hx := B.exec
  have hb := B.bytes
  have hRt := B.returns
  have hts := atoms_spec (ws := wsX2_isSafeWith) B.pre
  have hown : s.vm.findClass RX2 = some m.cls := findClass_of_methodNamed B.named
  have hlocks := B.notSynchronized
  have hAL : ∀ z9 : Nat, (fun _ : Nat => False) z9 → L0 ≤ z9 := fun z9 h9 => False.elim h9
  generalize hAe : (fun _ : Nat => False) = A at hAL ⊢
  have hS : va_S A s.heap s.heap [] := va_S.rf
  have hiX2 : ∀ w ∈ u_ws RX2 TX2 9, w ∈ wsX2_isSafeWith := by decide +kernel
  have hl := lv_entry ([.ref x, .int u, .int v, .int z]) (n := 4) (Nat.le_of_ble_eq_true rfl)
  rw [lg_entry_eq]
  generalize (lg_sl ([.ref x, .int u, .int v, .int z]) ++ List.replicate (4 - (lg_sl ([.ref x, .int u, .int v, .int z])).length) Slot.unset).toArray = ls at hl ⊢
  have hl : lv_has ls 4 [(0, .ref x), (1, .int u), (2, .int v), (3, .int z)] := hl
  refine lv_iload_n hx hb dX2_isSafeWith_0 rfl (lv_at hl 2 rfl) ?_
  have hPc := hP.sub (ws' := []) [] rfl
  have hDc := hD0.sub (ws' := []) [] (by decide) rfl
  have hKc := hK.sub (tys' := []) [] rfl
  refine c_callT (vx_runS (As := [.int v]) (rest := []) ⟨hx, hb, hml, hown, hts⟩ (k_requireDirection l hfl D L0 v) (va_cwS 1 hts gX2_isSafeWith_X2_requireDirection rfl rfl rfl (by decide +kernel) ⟨Nat.le_of_ble_eq_true rfl, Nat.le_of_ble_eq_true rfl⟩) ⟨cP_blind, cP_of hPc hKc hDc (kE_at hE0 hAL hS)⟩ rfl rfl hl.1 rfl (lv_room (Nat.le_of_ble_eq_true rfl)) dX2_isSafeWith_1 ⟨Nat.le_of_ble_eq_true rfl, Nat.le_of_ble_eq_true rfl⟩) hS (fun E ce q9 H1 hE hz1 hk1 hS hce hcv hcl => ?_) (fun hp1 => ?_)
  · obtain ⟨rfl, hE⟩ := hE
    exact vx_out (fun z hz => (hxt z hz).elim) hlocks hce hcv hcl (fun t ht hvm => ⟨⟨Or.inl ⟨rfl, k2_n1 hE⟩, trivial⟩, hS.F ht⟩) (fun z hz => hS.2.2 z hz) (Nat.le_of_ble_eq_true rfl) (Nat.le_of_ble_eq_true rfl)
  · show W _ _ _ _ _ _ _ _ _ _ _ _ _ _ _ (F0 m 4 ls [])
    refine lv_iload_n hx hb dX2_isSafeWith_4 rfl (lv_at hl 1 rfl) ?_
    have hPc := hP.sub (ws' := []) [] rfl
    have hDc := hD0.sub (ws' := []) [] (by decide) rfl
    have hKc := hK.sub (tys' := []) [] rfl
    refine c_callT (vx_runS (As := [.int u]) (rest := []) ⟨hx, hb, hml, hown, hts⟩ (k_requireLoad l hfl D L0 u) (va_cwS 1 hts gX2_isSafeWith_X2_requireLoad rfl rfl rfl (by decide +kernel) ⟨Nat.le_of_ble_eq_true rfl, Nat.le_of_ble_eq_true rfl⟩) ⟨cP_blind, cP_of hPc hKc hDc (kE_at hE0 hAL hS)⟩ rfl rfl hl.1 rfl (lv_room (Nat.le_of_ble_eq_true rfl)) dX2_isSafeWith_5 ⟨Nat.le_of_ble_eq_true rfl, Nat.le_of_ble_eq_true rfl⟩) hS (fun E ce q9 H1 hE hz1 hk1 hS hce hcv hcl => ?_) (fun hp2 => ?_)
    · obtain ⟨rfl, hE⟩ := hE
      exact vx_out (fun z hz => (hxt z hz).elim) hlocks hce hcv hcl (fun t ht hvm => ⟨⟨Or.inr ⟨rfl, k2_n2 hp1 (fun q => hE q.1)⟩, trivial⟩, hS.F ht⟩) (fun z hz => hS.2.2 z hz) (Nat.le_of_ble_eq_true rfl) (Nat.le_of_ble_eq_true rfl)
    · show W _ _ _ _ _ _ _ _ _ _ _ _ _ _ _ (F0 m 8 ls [])
      refine lv_iload_n hx hb dX2_isSafeWith_8 rfl (lv_at hl 3 rfl) ?_
      have hPc := hP.sub (ws' := []) [] rfl
      have hDc := hD0.sub (ws' := []) [] (by decide) rfl
      have hKc := hK.sub (tys' := []) [] rfl
      refine c_callT (vx_runS (As := [.int z]) (rest := []) ⟨hx, hb, hml, hown, hts⟩ (k_requireReach l hfl D L0 z) (va_cwS 1 hts gX2_isSafeWith_X2_requireReach rfl rfl rfl (by decide +kernel) ⟨Nat.le_of_ble_eq_true rfl, Nat.le_of_ble_eq_true rfl⟩) ⟨cP_blind, cP_of hPc hKc hDc (kE_at hE0 hAL hS)⟩ rfl rfl hl.1 rfl (lv_room (Nat.le_of_ble_eq_true rfl)) dX2_isSafeWith_9 ⟨Nat.le_of_ble_eq_true rfl, Nat.le_of_ble_eq_true rfl⟩) hS (fun E ce q9 H1 hE hz1 hk1 hS hce hcv hcl => ?_) (fun hp3 => ?_)
      · obtain ⟨rfl, hE⟩ := hE
        exact vx_out (fun z hz => (hxt z hz).elim) hlocks hce hcv hcl (fun t ht hvm => ⟨⟨Or.inr ⟨rfl, k2_n2 hp1 (fun q => hE q.2)⟩, trivial⟩, hS.F ht⟩) (fun z hz => hS.2.2 z hz) (Nat.le_of_ble_eq_true rfl) (Nat.le_of_ble_eq_true rfl)
      · show W _ _ _ _ _ _ _ _ _ _ _ _ _ _ _ (F0 m 12 ls [])
        obtain ⟨kv, hkv, hv⟩ := inR_nI (n := 7) (by decide) hp1
        have hl : lv_has ls 4 [(0, .ref x), (1, .int u), (2, .int (nI kv)), (3, .int z)] := (show v = nI kv from hv) ▸ hl
        obtain ⟨kz, hkz, hz⟩ := inR_n3 (n := 30) (by decide) hp3
        have hl : lv_has ls 4 [(0, .ref x), (1, .int u), (2, .int (nI kv)), (3, .int (nI kz))] := (show z = nI kz from hz) ▸ hl
        refine lv_aload_n hx hb dX2_isSafeWith_12 rfl (lv_at hl 0 rfl) ?_
        refine va_get (D := D) (ci := 2) (v := .ref rg) (C := RX2) (T := TX2) (N := 9) hx hb hts hiX2 hown hK hP 0 rfl rfl 0 (by decide) (hts (.fieldLink RX2 12 "CraneReach" "rig" "LCraneReach$Rig;") (by decide +kernel)) (fun _ h9 => h9) rfl dX2_isSafeWith_13 ?_
        refine lv_iload_n hx hb dX2_isSafeWith_16 rfl (lv_at hl 1 rfl) ?_
        refine lv_iload_n hx hb dX2_isSafeWith_17 rfl (lv_at hl 2 rfl) ?_
        refine lv_iload_n hx hb dX2_isSafeWith_18 rfl (lv_at hl 3 rfl) ?_
        have hPc := hP.sub (ws' := [(rg, .inr (1, [.ref ro, .ref rl, .int pl])), (ro, .inl (cI, 4, .inl fo)), (rl, .inl (cI, 28, .inl (sh fl)))]) [1, 2, 3] rfl
        have hDc := hD0.sub (ws' := [(rg, .inr (1, [.ref ro, .ref rl, .int pl])), (ro, .inl (cI, 4, .inl fo)), (rl, .inl (cI, 28, .inl (sh fl)))]) [1, 2, 3] (by decide) rfl
        have hKc := hK.sub (tys' := [(cI, .int)]) [0] rfl
        refine c_callR (va_runV (As := [.int u, .int (nI kv), .int (nI kz)]) (rest := []) ⟨hx, hb, hml, hown, hts⟩ (k_isSafe l D L0 cI rg ro rl pl fo fl kv kz u (by omega) hkz) (cwV 3 hts gX2_isSafeWith_X1_isSafe rfl rfl rfl (by decide +kernel) ⟨Nat.le_of_ble_eq_true rfl, Nat.le_of_ble_eq_true rfl⟩) ⟨cP_blind, va_recv hKc hPc (ci := 1) (q0 := 0) rfl rfl, cP_of hPc hKc hDc (kE_at hE0 hAL hS)⟩ rfl rfl hl.1 rfl (lv_room (Nat.le_of_ble_eq_true rfl)) dX2_isSafeWith_19 ⟨Nat.le_of_ble_eq_true rfl, Nat.le_of_ble_eq_true rfl⟩) ?_
        show W _ _ _ _ _ _ _ _ _ _ _ _ _ _ _ (F0 m 22 ls [.int (bI (safS fo fl pl u kv kz))])
        refine vx_ret ?_
        refine W.widen (k := 3) (n := 18) (Nat.le_of_ble_eq_true rfl) (Nat.le_of_ble_eq_true rfl) ?_
        exact W.zret (v := (bI (safS fo fl pl u kv kz))) hx hb hRt (bI_nar _) (fun t ht hW => ⟨⟨by rw [hv, hz, nI_clamp (by omega), nI_clamp (by omega)], ht⟩, k2_yes hp1 ⟨hp2, hp3⟩⟩) hS.2.2 dX2_isSafeWith_22
set_option maxHeartbeats 4000000 in
set_option maxRecDepth 100000 in
/-- weakestSide() -/
theorem k_weakestSide (l : Launch) (D : va_G) (L0 : Nat) (cI : ClassId) (x rg tr pn ro rl d r : Nat) (ld li tl mo pl : Int32) (fo fl : Nat → Int32) (hd : d < 8) : Met l yX2_weakestSide wsX2_weakestSide ({ frames := 2, cells := 0, slots := 0, locals := 47 }) (cP L0 D [(cI, .int)] [(x, .inr (2, [.ref rg, .ref tr, .ref pn, .int (nI d), .int (nI r), .int ld, .int li, .int tl, .int mo])), (rg, .inr (1, [.ref ro, .ref rl, .int pl])), (ro, .inl (cI, 4, .inl fo)), (rl, .inl (cI, 28, .inl (sh fl)))] [.ref x]) (cR (some (.int (nI (wkN (fun k => strS fo pl k ld d r) 4))))) 0 0 (fun _ => False) := by
  refine Met.ofW (cc := cX2_weakestSide) (maxL := 5) (ret := (some .int)) (by decide) rfl ?_
  intro p e s m args below meth c s₁ B hml hv
  obtain ⟨rfl, hP, hK, hD0, hE0⟩ := hv
  have hx := B.exec
  have hb := B.bytes
  have hRt := B.returns
  have hts := atoms_spec (ws := wsX2_weakestSide) B.pre
  have hown : s.vm.findClass RX2 = some m.cls := findClass_of_methodNamed B.named
  have hlocks := B.notSynchronized
  have hAL : ∀ z9 : Nat, (fun _ : Nat => False) z9 → L0 ≤ z9 := fun z9 h9 => False.elim h9
  generalize hAe : (fun _ : Nat => False) = A at hAL ⊢
  have hS : va_S A s.heap s.heap [] := va_S.rf
  have hiX2 : ∀ w ∈ u_ws RX2 TX2 9, w ∈ wsX2_weakestSide := by decide +kernel
  have hl := lv_entry ([.ref x]) (n := 5) (Nat.le_of_ble_eq_true rfl)
  rw [lg_entry_eq]
  generalize (lg_sl ([.ref x]) ++ List.replicate (5 - (lg_sl ([.ref x])).length) Slot.unset).toArray = ls at hl ⊢
  have hl : lv_has ls 5 [(0, .ref x)] := hl
  have loop : ∀ (n : Nat) (k : Nat) (ls : Array Slot), k + n = 5 → 1 ≤ k ∧ k ≤ 4 → lv_has ls 5 [(3, .int (nI k)), (2, .int (strS fo pl (wkN (fun k => strS fo pl k ld d r) k) ld d r)), (1, .int (nI (wkN (fun k => strS fo pl k ld d r) k))), (0, .ref x)] → W p l e (headSpec wsX2_weakestSide ({ frames := 2, cells := 0, slots := 0, locals := 47 })).room s m ([.ref x]).toArray below meth c s.heap [] 0 0 (MQ below (cR (some (.int (nI (wkN (fun k => strS fo pl k ld d r) 4))))) ([.ref x]).toArray s 0 0 A) (F0 m 25 ls []) := by
    intro n
    induction n with
    | zero =>
      intro k ls hn hk hl
      exact absurd hn (by omega)
    | succ n ih =>
      intro k ls hn hk hl
      refine lv_iload_n hx hb dX2_weakestSide_25 rfl (lv_at hl 0 rfl) ?_
      refine lv_iconst (v := 4) hx hb dX2_weakestSide_26 (by decide) ?_
      refine lv_icmp_ge (tgt := 69) hx hb dX2_weakestSide_27 (by decide) (fun c_4 => ?_) (fun c_4 => ?_)
      · have hk4 : k = 4 := by
          rcases Nat.lt_or_ge k 4 with z | z
          · exact absurd c_4 (nI_ge (b := 4) z (by decide))
          · omega
        refine lv_iload_n hx hb dX2_weakestSide_69 rfl (lv_at hl 2 rfl) ?_
        exact W.iret (v := (nI (wkN (fun k => strS fo pl k ld d r) k))) hx hb hRt (fun t ht hW => ⟨by rw [hk4], ht⟩) hS.2.2 dX2_weakestSide_70
      · have hk4 : k < 4 := by
          rcases Nat.lt_or_ge k 4 with z | z
          · exact z
          · exact absurd (nI_le (a := 4) z (by omega)) c_4
        refine lv_aload_n hx hb dX2_weakestSide_30 rfl (lv_at hl 3 rfl) ?_
        refine va_get (D := D) (ci := 2) (v := .ref rg) (C := RX2) (T := TX2) (N := 9) hx hb hts hiX2 hown hK hP 0 rfl rfl 0 (by decide) (hts (.fieldLink RX2 12 "CraneReach" "rig" "LCraneReach$Rig;") (by decide +kernel)) (fun _ h9 => h9) rfl dX2_weakestSide_31 ?_
        refine lv_iload_n hx hb dX2_weakestSide_34 rfl (lv_at hl 0 rfl) ?_
        refine lv_aload_n hx hb dX2_weakestSide_35 rfl (lv_at hl 3 rfl) ?_
        refine va_get (D := D) (ci := 2) (v := .int ld) (C := RX2) (T := TX2) (N := 9) hx hb hts hiX2 hown hK hP 0 rfl rfl 5 (by decide) (hts (.fieldLink RX2 48 "CraneReach" "load" "I") (by decide +kernel)) (fun _ h9 => h9) rfl dX2_weakestSide_36 ?_
        refine lv_aload_n hx hb dX2_weakestSide_39 rfl (lv_at hl 3 rfl) ?_
        refine va_get (D := D) (ci := 2) (v := .int (nI d)) (C := RX2) (T := TX2) (N := 9) hx hb hts hiX2 hown hK hP 0 rfl rfl 3 (by decide) (hts (.fieldLink RX2 98 "CraneReach" "direction" "I") (by decide +kernel)) (fun _ h9 => h9) rfl dX2_weakestSide_40 ?_
        refine lv_aload_n hx hb dX2_weakestSide_43 rfl (lv_at hl 3 rfl) ?_
        refine va_get (D := D) (ci := 2) (v := .int (nI r)) (C := RX2) (T := TX2) (N := 9) hx hb hts hiX2 hown hK hP 0 rfl rfl 4 (by decide) (hts (.fieldLink RX2 26 "CraneReach" "reach" "I") (by decide +kernel)) (fun _ h9 => h9) rfl dX2_weakestSide_44 ?_
        have hPc := hP.sub (ws' := [(rg, .inr (1, [.ref ro, .ref rl, .int pl])), (ro, .inl (cI, 4, .inl fo)), (rl, .inl (cI, 28, .inl (sh fl)))]) [1, 2, 3] rfl
        have hDc := hD0.sub (ws' := [(rg, .inr (1, [.ref ro, .ref rl, .int pl])), (ro, .inl (cI, 4, .inl fo)), (rl, .inl (cI, 28, .inl (sh fl)))]) [1, 2, 3] (by decide) rfl
        have hKc := hK.sub (tys' := [(cI, .int)]) [0] rfl
        refine c_callR (va_runV (As := [.int (nI k), .int ld, .int (nI d), .int (nI r)]) (rest := []) ⟨hx, hb, hml, hown, hts⟩ (k_strain l D L0 cI rg ro rl pl fo (sh fl) k d r ld hk4 hd) (cwV 4 hts gX2_weakestSide_X1_strain rfl rfl rfl (by decide +kernel) ⟨Nat.le_of_ble_eq_true rfl, Nat.le_of_ble_eq_true rfl⟩) ⟨cP_blind, va_recv hKc hPc (ci := 1) (q0 := 0) rfl rfl, cP_of hPc hKc hDc (kE_at hE0 hAL hS)⟩ rfl rfl hl.1 rfl (lv_room (Nat.le_of_ble_eq_true rfl)) dX2_weakestSide_47 ⟨Nat.le_of_ble_eq_true rfl, Nat.le_of_ble_eq_true rfl⟩) ?_
        show W _ _ _ _ _ _ _ _ _ _ _ _ _ _ _ (F0 m 50 ls [.int (strS fo pl k ld d r)])
        refine lv_istore (lv' := [(4, .int (strS fo pl k ld d r)), (3, .int (nI k)), (2, .int (strS fo pl (wkN (fun k => strS fo pl k ld d r) k) ld d r)), (1, .int (nI (wkN (fun k => strS fo pl k ld d r) k))), (0, .ref x)]) hx hb dX2_weakestSide_50 hl (by decide) rfl (fun ls hl => ?_)
        refine lv_iload hx hb dX2_weakestSide_52 (lv_at hl 0 rfl) ?_
        refine lv_iload_n hx hb dX2_weakestSide_54 rfl (lv_at hl 2 rfl) ?_
        refine lv_icmp_le (tgt := 63) hx hb dX2_weakestSide_55 (by decide) (fun c_5 => ?_) (fun c_5 => ?_)
        · have e : wkN (fun k => strS fo pl k ld d r) (k + 1) = wkN (fun k => strS fo pl k ld d r) k := by rw [wkN, if_neg (by omega), if_neg (i_len c_5)]
          refine lv_iinc (v := (nI k) + 1) (lv' := [(3, .int ((nI k) + 1)), (4, .int (strS fo pl k ld d r)), (2, .int (strS fo pl (wkN (fun k => strS fo pl k ld d r) k) ld d r)), (1, .int (nI (wkN (fun k => strS fo pl k ld d r) k))), (0, .ref x)]) hx hb dX2_weakestSide_63 hl (k := 1) rfl rfl (by decide) rfl (fun ls hl => ?_)
          refine lv_goto (tgt := 25) hx hb dX2_weakestSide_66 (by decide) ?_
          have hl : lv_has ls 5 [(3, .int (nI (k + 1))), (4, .int (strS fo pl k ld d r)), (2, .int (strS fo pl (wkN (fun k => strS fo pl k ld d r) k) ld d r)), (1, .int (nI (wkN (fun k => strS fo pl k ld d r) k))), (0, .ref x)] := (show (nI k) + 1 = nI (k + 1) from nI_1 k) ▸ hl
          have hl : lv_has ls 5 [(3, .int (nI (k + 1))), (4, .int (strS fo pl k ld d r)), (2, .int (strS fo pl (wkN (fun k => strS fo pl k ld d r) (k + 1)) ld d r)), (1, .int (nI (wkN (fun k => strS fo pl k ld d r) k))), (0, .ref x)] := (show strS fo pl (wkN (fun k => strS fo pl k ld d r) k) ld d r = strS fo pl (wkN (fun k => strS fo pl k ld d r) (k + 1)) ld d r from by rw [e]) ▸ hl
          have hl : lv_has ls 5 [(3, .int (nI (k + 1))), (4, .int (strS fo pl k ld d r)), (2, .int (strS fo pl (wkN (fun k => strS fo pl k ld d r) (k + 1)) ld d r)), (1, .int (nI (wkN (fun k => strS fo pl k ld d r) (k + 1)))), (0, .ref x)] := (show nI (wkN (fun k => strS fo pl k ld d r) k) = nI (wkN (fun k => strS fo pl k ld d r) (k + 1)) from by rw [e]) ▸ hl
          exact ih (k + 1) _ (by omega) (by omega) (lv_sub hl [0, 2, 3, 4] rfl)
        · have e : wkN (fun k => strS fo pl k ld d r) (k + 1) = k := by rw [wkN, if_neg (by omega), if_pos (i_nle c_5)]
          refine lv_iload_n hx hb dX2_weakestSide_58 rfl (lv_at hl 1 rfl) ?_
          refine lv_istore_n (lv' := [(1, .int (nI k)), (4, .int (strS fo pl k ld d r)), (3, .int (nI k)), (2, .int (strS fo pl (wkN (fun k => strS fo pl k ld d r) k) ld d r)), (0, .ref x)]) hx hb dX2_weakestSide_59 rfl hl (by decide) rfl (fun ls hl => ?_)
          refine lv_iload hx hb dX2_weakestSide_60 (lv_at hl 1 rfl) ?_
          refine lv_istore_n (lv' := [(2, .int (strS fo pl k ld d r)), (1, .int (nI k)), (4, .int (strS fo pl k ld d r)), (3, .int (nI k)), (0, .ref x)]) hx hb dX2_weakestSide_62 rfl hl (by decide) rfl (fun ls hl => ?_)
          refine lv_iinc (v := (nI k) + 1) (lv' := [(3, .int ((nI k) + 1)), (2, .int (strS fo pl k ld d r)), (1, .int (nI k)), (4, .int (strS fo pl k ld d r)), (0, .ref x)]) hx hb dX2_weakestSide_63 hl (k := 3) rfl rfl (by decide) rfl (fun ls hl => ?_)
          refine lv_goto (tgt := 25) hx hb dX2_weakestSide_66 (by decide) ?_
          have hl : lv_has ls 5 [(3, .int (nI (k + 1))), (2, .int (strS fo pl k ld d r)), (1, .int (nI k)), (4, .int (strS fo pl k ld d r)), (0, .ref x)] := (show (nI k) + 1 = nI (k + 1) from nI_1 k) ▸ hl
          have hl : lv_has ls 5 [(3, .int (nI (k + 1))), (2, .int (strS fo pl (wkN (fun k => strS fo pl k ld d r) (k + 1)) ld d r)), (1, .int (nI k)), (4, .int (strS fo pl k ld d r)), (0, .ref x)] := (show strS fo pl k ld d r = strS fo pl (wkN (fun k => strS fo pl k ld d r) (k + 1)) ld d r from by rw [e]) ▸ hl
          have hl : lv_has ls 5 [(3, .int (nI (k + 1))), (2, .int (strS fo pl (wkN (fun k => strS fo pl k ld d r) (k + 1)) ld d r)), (1, .int (nI (wkN (fun k => strS fo pl k ld d r) (k + 1)))), (4, .int (strS fo pl k ld d r)), (0, .ref x)] := (show nI k = nI (wkN (fun k => strS fo pl k ld d r) (k + 1)) from by rw [e]) ▸ hl
          exact ih (k + 1) _ (by omega) (by omega) (lv_sub hl [0, 1, 2, 4] rfl)
  refine lv_iconst (v := 0) hx hb dX2_weakestSide_0 (by decide) ?_
  refine lv_istore_n (lv' := [(1, .int 0), (0, .ref x)]) hx hb dX2_weakestSide_1 rfl hl (by decide) rfl (fun ls hl => ?_)
  refine lv_aload_n hx hb dX2_weakestSide_2 rfl (lv_at hl 1 rfl) ?_
  refine va_get (D := D) (ci := 2) (v := .ref rg) (C := RX2) (T := TX2) (N := 9) hx hb hts hiX2 hown hK hP 0 rfl rfl 0 (by decide) (hts (.fieldLink RX2 12 "CraneReach" "rig" "LCraneReach$Rig;") (by decide +kernel)) (fun _ h9 => h9) rfl dX2_weakestSide_3 ?_
  refine lv_iconst (v := 0) hx hb dX2_weakestSide_6 (by decide) ?_
  refine lv_aload_n hx hb dX2_weakestSide_7 rfl (lv_at hl 1 rfl) ?_
  refine va_get (D := D) (ci := 2) (v := .int ld) (C := RX2) (T := TX2) (N := 9) hx hb hts hiX2 hown hK hP 0 rfl rfl 5 (by decide) (hts (.fieldLink RX2 48 "CraneReach" "load" "I") (by decide +kernel)) (fun _ h9 => h9) rfl dX2_weakestSide_8 ?_
  refine lv_aload_n hx hb dX2_weakestSide_11 rfl (lv_at hl 1 rfl) ?_
  refine va_get (D := D) (ci := 2) (v := .int (nI d)) (C := RX2) (T := TX2) (N := 9) hx hb hts hiX2 hown hK hP 0 rfl rfl 3 (by decide) (hts (.fieldLink RX2 98 "CraneReach" "direction" "I") (by decide +kernel)) (fun _ h9 => h9) rfl dX2_weakestSide_12 ?_
  refine lv_aload_n hx hb dX2_weakestSide_15 rfl (lv_at hl 1 rfl) ?_
  refine va_get (D := D) (ci := 2) (v := .int (nI r)) (C := RX2) (T := TX2) (N := 9) hx hb hts hiX2 hown hK hP 0 rfl rfl 4 (by decide) (hts (.fieldLink RX2 26 "CraneReach" "reach" "I") (by decide +kernel)) (fun _ h9 => h9) rfl dX2_weakestSide_16 ?_
  have hPc := hP.sub (ws' := [(rg, .inr (1, [.ref ro, .ref rl, .int pl])), (ro, .inl (cI, 4, .inl fo)), (rl, .inl (cI, 28, .inl (sh fl)))]) [1, 2, 3] rfl
  have hDc := hD0.sub (ws' := [(rg, .inr (1, [.ref ro, .ref rl, .int pl])), (ro, .inl (cI, 4, .inl fo)), (rl, .inl (cI, 28, .inl (sh fl)))]) [1, 2, 3] (by decide) rfl
  have hKc := hK.sub (tys' := [(cI, .int)]) [0] rfl
  refine c_callR (va_runV (As := [.int (nI 0), .int ld, .int (nI d), .int (nI r)]) (rest := []) ⟨hx, hb, hml, hown, hts⟩ (k_strain l D L0 cI rg ro rl pl fo (sh fl) 0 d r ld (by decide) hd) (cwV 4 hts gX2_weakestSide_X1_strain rfl rfl rfl (by decide +kernel) ⟨Nat.le_of_ble_eq_true rfl, Nat.le_of_ble_eq_true rfl⟩) ⟨cP_blind, va_recv hKc hPc (ci := 1) (q0 := 0) rfl rfl, cP_of hPc hKc hDc (kE_at hE0 hAL hS)⟩ rfl rfl hl.1 rfl (lv_room (Nat.le_of_ble_eq_true rfl)) dX2_weakestSide_19 ⟨Nat.le_of_ble_eq_true rfl, Nat.le_of_ble_eq_true rfl⟩) ?_
  show W _ _ _ _ _ _ _ _ _ _ _ _ _ _ _ (F0 m 22 ls [.int (strS fo pl 0 ld d r)])
  refine lv_istore_n (lv' := [(2, .int (strS fo pl 0 ld d r)), (1, .int 0), (0, .ref x)]) hx hb dX2_weakestSide_22 rfl hl (by decide) rfl (fun ls hl => ?_)
  refine lv_iconst (v := 1) hx hb dX2_weakestSide_23 (by decide) ?_
  refine lv_istore_n (lv' := [(3, .int 1), (2, .int (strS fo pl 0 ld d r)), (1, .int 0), (0, .ref x)]) hx hb dX2_weakestSide_24 rfl hl (by decide) rfl (fun ls hl => ?_)
  have hl : lv_has ls 5 [(3, .int (nI 1)), (2, .int (strS fo pl 0 ld d r)), (1, .int 0), (0, .ref x)] := (show 1 = nI 1 from rfl) ▸ hl
  have hl : lv_has ls 5 [(3, .int (nI 1)), (2, .int (strS fo pl (wkN (fun k => strS fo pl k ld d r) 1) ld d r)), (1, .int 0), (0, .ref x)] := (show strS fo pl 0 ld d r = strS fo pl (wkN (fun k => strS fo pl k ld d r) 1) ld d r from rfl) ▸ hl
  have hl : lv_has ls 5 [(3, .int (nI 1)), (2, .int (strS fo pl (wkN (fun k => strS fo pl k ld d r) 1) ld d r)), (1, .int (nI (wkN (fun k => strS fo pl k ld d r) 1))), (0, .ref x)] := (show 0 = nI (wkN (fun k => strS fo pl k ld d r) 1) from rfl) ▸ hl
  exact loop 4 1 _ (by omega) (by omega) (lv_sub hl [0, 1, 2, 3] rfl)
set_option maxHeartbeats 4000000 in
set_option maxRecDepth 100000 in
/-- greatestLoad() -/
theorem k_greatestLoad (l : Launch) (D : va_G) (L0 : Nat) (cI : ClassId) (x rg tr pn ro rl d r : Nat) (ld li tl mo pl : Int32) (fo fl : Nat → Int32) (hd : d < 8) (hr : 3 ≤ r ∧ r ≤ 30) : Met l yX2_greatestLoad wsX2_greatestLoad ({ frames := 3, cells := 0, slots := 0, locals := 71 }) (cP L0 D [(cI, .int)] [(x, .inr (2, [.ref rg, .ref tr, .ref pn, .int (nI d), .int (nI r), .int ld, .int li, .int tl, .int mo])), (rg, .inr (1, [.ref ro, .ref rl, .int pl])), (ro, .inl (cI, 4, .inl fo)), (rl, .inl (cI, 28, .inl (sh fl)))] [.ref x]) (cR (some (.int (nI (grN (fun k => safS fo fl pl (nI k) d r) 60))))) 0 0 (fun _ => False) := by
  refine Met.ofW (cc := cX2_greatestLoad) (maxL := 2) (ret := (some .int)) (by decide) rfl ?_
  intro p e s m args below meth c s₁ B hml hv
  obtain ⟨rfl, hP, hK, hD0, hE0⟩ := hv
  have hx := B.exec
  have hb := B.bytes
  have hRt := B.returns
  have hts := atoms_spec (ws := wsX2_greatestLoad) B.pre
  have hown : s.vm.findClass RX2 = some m.cls := findClass_of_methodNamed B.named
  have hlocks := B.notSynchronized
  have hAL : ∀ z9 : Nat, (fun _ : Nat => False) z9 → L0 ≤ z9 := fun z9 h9 => False.elim h9
  generalize hAe : (fun _ : Nat => False) = A at hAL ⊢
  have hS : va_S A s.heap s.heap [] := va_S.rf
  have hiX2 : ∀ w ∈ u_ws RX2 TX2 9, w ∈ wsX2_greatestLoad := by decide +kernel
  have hl := lv_entry ([.ref x]) (n := 2) (Nat.le_of_ble_eq_true rfl)
  rw [lg_entry_eq]
  generalize (lg_sl ([.ref x]) ++ List.replicate (2 - (lg_sl ([.ref x])).length) Slot.unset).toArray = ls at hl ⊢
  have hl : lv_has ls 2 [(0, .ref x)] := hl
  have loop : ∀ (n : Nat)  (ls : Array Slot), n ≤ 60 → grN (fun k => safS fo fl pl (nI k) d r) n = grN (fun k => safS fo fl pl (nI k) d r) 60 → lv_has ls 2 [(1, .int (nI n)), (0, .ref x)] → W p l e (headSpec wsX2_greatestLoad ({ frames := 3, cells := 0, slots := 0, locals := 71 })).room s m ([.ref x]).toArray below meth c s.heap [] 0 0 (MQ below (cR (some (.int (nI (grN (fun k => safS fo fl pl (nI k) d r) 60))))) ([.ref x]).toArray s 0 0 A) (F0 m 3 ls []) := by
    intro n
    induction n with
    | zero =>
      intro  ls hn hG hl
      refine lv_iload_n hx hb dX2_greatestLoad_3 rfl (lv_at hl 0 rfl) ?_
      refine lv_if_le (tgt := 34) hx hb dX2_greatestLoad_4 (by decide) (fun _ => ?_) (fun c_6 => absurd (by decide) c_6)
      refine lv_iconst (v := 0) hx hb dX2_greatestLoad_34 (by decide) ?_
      exact W.iret (v := 0) hx hb hRt (fun t ht hW => ⟨by rw [← hG]; rfl, ht⟩) hS.2.2 dX2_greatestLoad_35
    | succ n ih =>
      intro  ls hn hG hl
      refine lv_iload_n hx hb dX2_greatestLoad_3 rfl (lv_at hl 0 rfl) ?_
      refine lv_if_le (tgt := 34) hx hb dX2_greatestLoad_4 (by decide) (fun c_7 => absurd c_7 (nI_nle (Nat.succ_pos n) (by omega))) (fun _ => ?_)
      refine lv_aload_n hx hb dX2_greatestLoad_7 rfl (lv_at hl 1 rfl) ?_
      refine va_get (D := D) (ci := 2) (v := .ref rg) (C := RX2) (T := TX2) (N := 9) hx hb hts hiX2 hown hK hP 0 rfl rfl 0 (by decide) (hts (.fieldLink RX2 12 "CraneReach" "rig" "LCraneReach$Rig;") (by decide +kernel)) (fun _ h9 => h9) rfl dX2_greatestLoad_8 ?_
      refine lv_iload_n hx hb dX2_greatestLoad_11 rfl (lv_at hl 0 rfl) ?_
      refine lv_aload_n hx hb dX2_greatestLoad_12 rfl (lv_at hl 1 rfl) ?_
      refine va_get (D := D) (ci := 2) (v := .int (nI d)) (C := RX2) (T := TX2) (N := 9) hx hb hts hiX2 hown hK hP 0 rfl rfl 3 (by decide) (hts (.fieldLink RX2 98 "CraneReach" "direction" "I") (by decide +kernel)) (fun _ h9 => h9) rfl dX2_greatestLoad_13 ?_
      refine lv_aload_n hx hb dX2_greatestLoad_16 rfl (lv_at hl 1 rfl) ?_
      refine va_get (D := D) (ci := 2) (v := .int (nI r)) (C := RX2) (T := TX2) (N := 9) hx hb hts hiX2 hown hK hP 0 rfl rfl 4 (by decide) (hts (.fieldLink RX2 26 "CraneReach" "reach" "I") (by decide +kernel)) (fun _ h9 => h9) rfl dX2_greatestLoad_17 ?_
      have hPc := hP.sub (ws' := [(rg, .inr (1, [.ref ro, .ref rl, .int pl])), (ro, .inl (cI, 4, .inl fo)), (rl, .inl (cI, 28, .inl (sh fl)))]) [1, 2, 3] rfl
      have hDc := hD0.sub (ws' := [(rg, .inr (1, [.ref ro, .ref rl, .int pl])), (ro, .inl (cI, 4, .inl fo)), (rl, .inl (cI, 28, .inl (sh fl)))]) [1, 2, 3] (by decide) rfl
      have hKc := hK.sub (tys' := [(cI, .int)]) [0] rfl
      refine c_callR (va_runV (As := [.int (nI (n + 1)), .int (nI d), .int (nI r)]) (rest := []) ⟨hx, hb, hml, hown, hts⟩ (k_isSafe l D L0 cI rg ro rl pl fo fl d r (nI (n + 1)) hd hr) (cwV 3 hts gX2_greatestLoad_X1_isSafe rfl rfl rfl (by decide +kernel) ⟨Nat.le_of_ble_eq_true rfl, Nat.le_of_ble_eq_true rfl⟩) ⟨cP_blind, va_recv hKc hPc (ci := 1) (q0 := 0) rfl rfl, cP_of hPc hKc hDc (kE_at hE0 hAL hS)⟩ rfl rfl hl.1 rfl (lv_room (Nat.le_of_ble_eq_true rfl)) dX2_greatestLoad_20 ⟨Nat.le_of_ble_eq_true rfl, Nat.le_of_ble_eq_true rfl⟩) ?_
      show W _ _ _ _ _ _ _ _ _ _ _ _ _ _ _ (F0 m 23 ls [.int (bI (safS fo fl pl (nI (n + 1)) d r))])
      obtain ⟨b0, hb0⟩ : ∃ b0 : Bool, b0 = safS fo fl pl (nI (n + 1)) d r := ⟨_, rfl⟩
      refine c_top (show bI (safS fo fl pl (nI (n + 1)) d r) = bI b0 from by rw [hb0]) ?_
      refine lv_if_eq (tgt := 28) hx hb dX2_greatestLoad_23 (by decide) (fun c_8 => ?_) (fun c_8 => ?_)
      · have e : safS fo fl pl (nI (n + 1)) d r = false := by rw [← hb0]; cases b0 with | false => rfl | true => exact absurd c_8 (by decide)
        refine lv_iinc (v := (nI (n + 1)) + (-1)) (lv' := [(1, .int ((nI (n + 1)) + (-1))), (0, .ref x)]) hx hb dX2_greatestLoad_28 hl (k := 0) rfl rfl (by decide) rfl (fun ls hl => ?_)
        refine lv_goto (tgt := 3) hx hb dX2_greatestLoad_31 (by decide) ?_
        have hl : lv_has ls 2 [(1, .int (nI n)), (0, .ref x)] := (show (nI (n + 1)) + (-1) = nI n from pk_m1 n) ▸ hl
        exact ih  _ (by omega) (by rw [← hG, grN, if_neg (by rw [e]; decide)]) (lv_sub hl [0, 1] rfl)
      · have e : safS fo fl pl (nI (n + 1)) d r = true := by rw [← hb0]; cases b0 with | true => rfl | false => exact absurd rfl c_8
        refine lv_iload_n hx hb dX2_greatestLoad_26 rfl (lv_at hl 0 rfl) ?_
        exact W.iret (v := (nI (n + 1))) hx hb hRt (fun t ht hW => ⟨by rw [← hG, grN, if_pos e], ht⟩) hS.2.2 dX2_greatestLoad_27
  refine lv_bipush (v := 60) hx hb dX2_greatestLoad_0 (by decide) ?_
  refine lv_istore_n (lv' := [(1, .int 60), (0, .ref x)]) hx hb dX2_greatestLoad_2 rfl hl (by decide) rfl (fun ls hl => ?_)
  have hl : lv_has ls 2 [(1, .int (nI 60)), (0, .ref x)] := (show 60 = nI 60 from rfl) ▸ hl
  exact loop 60  _ (by omega) rfl (lv_sub hl [0, 1] rfl)
set_option maxHeartbeats 4000000 in
set_option maxRecDepth 100000 in
/-- farthestReach(load, direction) -/
theorem k_farthestReach (l : Launch) (hfl : l.stackTraces = false) (D : va_G) (L0 : Nat) (cI : ClassId) (x rg tr pn ro rl d r : Nat) (ld li tl mo pl : Int32) (fo fl : Nat → Int32) (u v : Int32) : vx_Met l yX2_farthestReach wsX2_farthestReach ({ frames := 7, cells := 2, slots := 12, locals := 103 }) (cP L0 D [(cI, .int)] [(x, .inr (2, [.ref rg, .ref tr, .ref pn, .int (nI d), .int (nI r), .int ld, .int li, .int tl, .int mo])), (rg, .inr (1, [.ref ro, .ref rl, .int pl])), (ro, .inl (cI, 4, .inl fo)), (rl, .inl (cI, 28, .inl (sh fl)))] [.ref x, .int u, .int v]) (cRP (some (.int (faI (faN (fun k => safS fo fl pl u v.toNatClampNeg k) 28 3)))) (k2 (inR v 0 7) (inR u 0 60) = 0)) (cX (fun E => (E = xIOB ∧ k2 (inR v 0 7) (inR u 0 60) = 1) ∨ (E = xIAE ∧ k2 (inR v 0 7) (inR u 0 60) = 2)) (fun _ => True) (fun _ => False)) 2 12 (fun _ => False) := by
  refine vx_ofW (cc := cX2_farthestReach) (maxL := 5) (ret := (some .int)) (by decide) rfl ?_
  intro p e s m args below meth c s₁ B hml hxt hv
  obtain ⟨rfl, hP, hK, hD0, hE0⟩ := hv
  have hx := B.exec
  have hb := B.bytes
  have hRt := B.returns
  have hts := atoms_spec (ws := wsX2_farthestReach) B.pre
  have hown : s.vm.findClass RX2 = some m.cls := findClass_of_methodNamed B.named
  have hlocks := B.notSynchronized
  have hAL : ∀ z9 : Nat, (fun _ : Nat => False) z9 → L0 ≤ z9 := fun z9 h9 => False.elim h9
  generalize hAe : (fun _ : Nat => False) = A at hAL ⊢
  have hS : va_S A s.heap s.heap [] := va_S.rf
  have hiX2 : ∀ w ∈ u_ws RX2 TX2 9, w ∈ wsX2_farthestReach := by decide +kernel
  have hl := lv_entry ([.ref x, .int u, .int v]) (n := 5) (Nat.le_of_ble_eq_true rfl)
  rw [lg_entry_eq]
  generalize (lg_sl ([.ref x, .int u, .int v]) ++ List.replicate (5 - (lg_sl ([.ref x, .int u, .int v])).length) Slot.unset).toArray = ls at hl ⊢
  have hl : lv_has ls 5 [(0, .ref x), (1, .int u), (2, .int v)] := hl
  refine lv_iload_n hx hb dX2_farthestReach_0 rfl (lv_at hl 2 rfl) ?_
  have hPc := hP.sub (ws' := []) [] rfl
  have hDc := hD0.sub (ws' := []) [] (by decide) rfl
  have hKc := hK.sub (tys' := []) [] rfl
  refine c_callT (vx_runS (As := [.int v]) (rest := []) ⟨hx, hb, hml, hown, hts⟩ (k_requireDirection l hfl D L0 v) (va_cwS 1 hts gX2_farthestReach_X2_requireDirection rfl rfl rfl (by decide +kernel) ⟨Nat.le_of_ble_eq_true rfl, Nat.le_of_ble_eq_true rfl⟩) ⟨cP_blind, cP_of hPc hKc hDc (kE_at hE0 hAL hS)⟩ rfl rfl hl.1 rfl (lv_room (Nat.le_of_ble_eq_true rfl)) dX2_farthestReach_1 ⟨Nat.le_of_ble_eq_true rfl, Nat.le_of_ble_eq_true rfl⟩) hS (fun E ce q9 H1 hE hz1 hk1 hS hce hcv hcl => ?_) (fun hp1 => ?_)
  · obtain ⟨rfl, hE⟩ := hE
    exact vx_out (fun z hz => (hxt z hz).elim) hlocks hce hcv hcl (fun t ht hvm => ⟨⟨Or.inl ⟨rfl, k2_n1 hE⟩, trivial⟩, hS.F ht⟩) (fun z hz => hS.2.2 z hz) (Nat.le_of_ble_eq_true rfl) (Nat.le_of_ble_eq_true rfl)
  · show W _ _ _ _ _ _ _ _ _ _ _ _ _ _ _ (F0 m 4 ls [])
    refine lv_iload_n hx hb dX2_farthestReach_4 rfl (lv_at hl 1 rfl) ?_
    have hPc := hP.sub (ws' := []) [] rfl
    have hDc := hD0.sub (ws' := []) [] (by decide) rfl
    have hKc := hK.sub (tys' := []) [] rfl
    refine c_callT (vx_runS (As := [.int u]) (rest := []) ⟨hx, hb, hml, hown, hts⟩ (k_requireLoad l hfl D L0 u) (va_cwS 1 hts gX2_farthestReach_X2_requireLoad rfl rfl rfl (by decide +kernel) ⟨Nat.le_of_ble_eq_true rfl, Nat.le_of_ble_eq_true rfl⟩) ⟨cP_blind, cP_of hPc hKc hDc (kE_at hE0 hAL hS)⟩ rfl rfl hl.1 rfl (lv_room (Nat.le_of_ble_eq_true rfl)) dX2_farthestReach_5 ⟨Nat.le_of_ble_eq_true rfl, Nat.le_of_ble_eq_true rfl⟩) hS (fun E ce q9 H1 hE hz1 hk1 hS hce hcv hcl => ?_) (fun hp2 => ?_)
    · obtain ⟨rfl, hE⟩ := hE
      exact vx_out (fun z hz => (hxt z hz).elim) hlocks hce hcv hcl (fun t ht hvm => ⟨⟨Or.inr ⟨rfl, k2_n2 hp1 hE⟩, trivial⟩, hS.F ht⟩) (fun z hz => hS.2.2 z hz) (Nat.le_of_ble_eq_true rfl) (Nat.le_of_ble_eq_true rfl)
    · show W _ _ _ _ _ _ _ _ _ _ _ _ _ _ _ (F0 m 8 ls [])
      have hk0 : k2 (inR v 0 7) (inR u 0 60) = 0 := k2_yes hp1 hp2
      obtain ⟨kv, hkv, hv⟩ := inR_nI (n := 7) (by decide) hp1
      have hl : lv_has ls 5 [(0, .ref x), (1, .int u), (2, .int (nI kv))] := (show v = nI kv from hv) ▸ hl
      have hvn : v.toNatClampNeg = kv := by rw [hv, nI_clamp (by omega)]
      have loop : ∀ (n : Nat) (i : Nat) (ls : Array Slot), i + n = 31 → 3 ≤ i → faN (fun k => safS fo fl pl u kv k) n i = faN (fun k => safS fo fl pl u v.toNatClampNeg k) 28 3 → lv_has ls 5 [(4, .int (nI i)), (3, .int (faI i)), (0, .ref x), (1, .int u), (2, .int (nI kv))] → W p l e (headSpec wsX2_farthestReach ({ frames := 7, cells := 2, slots := 12, locals := 103 })).room s m ([.ref x, .int u, .int v]).toArray below meth c s.heap [] (0 + 1 + 1) (0 + 6 + 6) (vx_MQ below (cRP (some (.int (faI (faN (fun k => safS fo fl pl u v.toNatClampNeg k) 28 3)))) (k2 (inR v 0 7) (inR u 0 60) = 0)) (cX (fun E => (E = xIOB ∧ k2 (inR v 0 7) (inR u 0 60) = 1) ∨ (E = xIAE ∧ k2 (inR v 0 7) (inR u 0 60) = 2)) (fun _ => True) A) ([.ref x, .int u, .int v]).toArray s 2 12 A) (F0 m 13 ls []) := by
        intro n
        induction n with
        | zero =>
          intro i ls hn h3 hG hl
          have hi : i = 31 := by omega
          rw [hi] at hl hG
          refine lv_iload hx hb dX2_farthestReach_13 (lv_at hl 0 rfl) ?_
          refine lv_bipush (v := 30) hx hb dX2_farthestReach_15 (by decide) ?_
          refine lv_icmp_gt (tgt := 43) hx hb dX2_farthestReach_17 (by decide) (fun _ => ?_) (fun c_9 => absurd (by decide) c_9)
          refine lv_iload_n hx hb dX2_farthestReach_43 rfl (lv_at hl 1 rfl) ?_
          refine vx_ret ?_
          refine W.widen (k := 2) (n := 12) (Nat.le_of_ble_eq_true rfl) (Nat.le_of_ble_eq_true rfl) ?_
          exact W.iret (v := (faI 31)) hx hb hRt (fun t ht hW => ⟨⟨by rw [← hG]; rfl, ht⟩, hk0⟩) hS.2.2 dX2_farthestReach_44
        | succ n ih =>
          intro i ls hn h3 hG hl
          refine lv_iload hx hb dX2_farthestReach_13 (lv_at hl 0 rfl) ?_
          refine lv_bipush (v := 30) hx hb dX2_farthestReach_15 (by decide) ?_
          refine lv_icmp_gt (tgt := 43) hx hb dX2_farthestReach_17 (by decide) (fun c_10 => absurd c_10 (Int32.not_lt.mpr (nI_le (b := 30) (by omega) (by decide)))) (fun _ => ?_)
          refine lv_aload_n hx hb dX2_farthestReach_20 rfl (lv_at hl 2 rfl) ?_
          refine va_get (D := D) (ci := 2) (v := .ref rg) (C := RX2) (T := TX2) (N := 9) hx hb hts hiX2 hown hK hP 0 rfl rfl 0 (by decide) (hts (.fieldLink RX2 12 "CraneReach" "rig" "LCraneReach$Rig;") (by decide +kernel)) (fun _ h9 => h9) rfl dX2_farthestReach_21 ?_
          refine lv_iload_n hx hb dX2_farthestReach_24 rfl (lv_at hl 3 rfl) ?_
          refine lv_iload_n hx hb dX2_farthestReach_25 rfl (lv_at hl 4 rfl) ?_
          refine lv_iload hx hb dX2_farthestReach_26 (lv_at hl 0 rfl) ?_
          have hPc := hP.sub (ws' := [(rg, .inr (1, [.ref ro, .ref rl, .int pl])), (ro, .inl (cI, 4, .inl fo)), (rl, .inl (cI, 28, .inl (sh fl)))]) [1, 2, 3] rfl
          have hDc := hD0.sub (ws' := [(rg, .inr (1, [.ref ro, .ref rl, .int pl])), (ro, .inl (cI, 4, .inl fo)), (rl, .inl (cI, 28, .inl (sh fl)))]) [1, 2, 3] (by decide) rfl
          have hKc := hK.sub (tys' := [(cI, .int)]) [0] rfl
          refine c_callR (va_runV (As := [.int u, .int (nI kv), .int (nI i)]) (rest := []) ⟨hx, hb, hml, hown, hts⟩ (k_isSafe l D L0 cI rg ro rl pl fo fl kv i u (by omega) ⟨h3, by omega⟩) (cwV 3 hts gX2_farthestReach_X1_isSafe rfl rfl rfl (by decide +kernel) ⟨Nat.le_of_ble_eq_true rfl, Nat.le_of_ble_eq_true rfl⟩) ⟨cP_blind, va_recv hKc hPc (ci := 1) (q0 := 0) rfl rfl, cP_of hPc hKc hDc (kE_at hE0 hAL hS)⟩ rfl rfl hl.1 rfl (lv_room (Nat.le_of_ble_eq_true rfl)) dX2_farthestReach_28 ⟨Nat.le_of_ble_eq_true rfl, Nat.le_of_ble_eq_true rfl⟩) ?_
          show W _ _ _ _ _ _ _ _ _ _ _ _ _ _ _ (F0 m 31 ls [.int (bI (safS fo fl pl u kv i))])
          obtain ⟨b0, hb0⟩ : ∃ b0 : Bool, b0 = safS fo fl pl u kv i := ⟨_, rfl⟩
          refine c_top (show bI (safS fo fl pl u kv i) = bI b0 from by rw [hb0]) ?_
          refine lv_if_eq (tgt := 43) hx hb dX2_farthestReach_31 (by decide) (fun c_11 => ?_) (fun c_11 => ?_)
          · have e : safS fo fl pl u kv i = false := by rw [← hb0]; cases b0 with | false => rfl | true => exact absurd c_11 (by decide)
            refine lv_iload_n hx hb dX2_farthestReach_43 rfl (lv_at hl 1 rfl) ?_
            refine vx_ret ?_
            refine W.widen (k := 2) (n := 12) (Nat.le_of_ble_eq_true rfl) (Nat.le_of_ble_eq_true rfl) ?_
            exact W.iret (v := (faI i)) hx hb hRt (fun t ht hW => ⟨⟨by rw [← hG, faN, if_neg (by rw [e]; decide)], ht⟩, hk0⟩) hS.2.2 dX2_farthestReach_44
          · have e : safS fo fl pl u kv i = true := by rw [← hb0]; cases b0 with | true => rfl | false => exact absurd rfl c_11
            refine lv_iload hx hb dX2_farthestReach_34 (lv_at hl 0 rfl) ?_
            refine lv_istore_n (lv' := [(3, .int (nI i)), (4, .int (nI i)), (0, .ref x), (1, .int u), (2, .int (nI kv))]) hx hb dX2_farthestReach_36 rfl hl (by decide) rfl (fun ls hl => ?_)
            refine lv_iinc (v := (nI i) + 1) (lv' := [(4, .int ((nI i) + 1)), (3, .int (nI i)), (0, .ref x), (1, .int u), (2, .int (nI kv))]) hx hb dX2_farthestReach_37 hl (k := 1) rfl rfl (by decide) rfl (fun ls hl => ?_)
            refine lv_goto (tgt := 13) hx hb dX2_farthestReach_40 (by decide) ?_
            have hl : lv_has ls 5 [(4, .int (nI (i + 1))), (3, .int (nI i)), (0, .ref x), (1, .int u), (2, .int (nI kv))] := (show (nI i) + 1 = nI (i + 1) from nI_1 i) ▸ hl
            have hl : lv_has ls 5 [(4, .int (nI (i + 1))), (3, .int (faI (i + 1))), (0, .ref x), (1, .int u), (2, .int (nI kv))] := (show nI i = faI (i + 1) from by rw [faI, if_neg (by omega)]; rfl) ▸ hl
            exact ih (i + 1) _ (by omega) (by omega) (by rw [← hG, faN, if_pos e]) (lv_sub hl [0, 1, 2, 3, 4] rfl)
      refine lv_iconst (v := -1) hx hb dX2_farthestReach_8 (by decide) ?_
      refine lv_istore_n (lv' := [(3, .int (-1)), (0, .ref x), (1, .int u), (2, .int (nI kv))]) hx hb dX2_farthestReach_9 rfl hl (by decide) rfl (fun ls hl => ?_)
      refine lv_iconst (v := 3) hx hb dX2_farthestReach_10 (by decide) ?_
      refine lv_istore (lv' := [(4, .int 3), (3, .int (-1)), (0, .ref x), (1, .int u), (2, .int (nI kv))]) hx hb dX2_farthestReach_11 hl (by decide) rfl (fun ls hl => ?_)
      have hl : lv_has ls 5 [(4, .int (nI 3)), (3, .int (-1)), (0, .ref x), (1, .int u), (2, .int (nI kv))] := (show 3 = nI 3 from rfl) ▸ hl
      have hl : lv_has ls 5 [(4, .int (nI 3)), (3, .int (faI 3)), (0, .ref x), (1, .int u), (2, .int (nI kv))] := (show (-1) = faI 3 from rfl) ▸ hl
      exact loop 28 3 _ (by omega) (by omega) (by rw [hvn]) (lv_sub hl [0, 1, 2, 3, 4] rfl)
set_option maxHeartbeats 4000000 in
set_option maxRecDepth 100000 in
/-- safeDirections(load, reach) -/
theorem k_safeDirections (l : Launch) (hfl : l.stackTraces = false) (D : va_G) (L0 : Nat) (cI : ClassId) (x rg tr pn ro rl d r : Nat) (ld li tl mo pl : Int32) (fo fl : Nat → Int32) (u z : Int32) : vx_Met l yX2_safeDirections wsX2_safeDirections ({ frames := 7, cells := 2, slots := 12, locals := 103 }) (cP L0 D [(cI, .int)] [(x, .inr (2, [.ref rg, .ref tr, .ref pn, .int (nI d), .int (nI r), .int ld, .int li, .int tl, .int mo])), (rg, .inr (1, [.ref ro, .ref rl, .int pl])), (ro, .inl (cI, 4, .inl fo)), (rl, .inl (cI, 28, .inl (sh fl)))] [.ref x, .int u, .int z]) (cRP (some (.int (nI (fb_ct (fun k => safS fo fl pl u k z.toNatClampNeg) 8)))) (k1 (inR u 0 60 ∧ inR z 3 30) = 0)) (cX (fun E => E = xIAE ∧ k1 (inR u 0 60 ∧ inR z 3 30) = 1) (fun _ => True) (fun _ => False)) 2 12 (fun _ => False) := by
  refine vx_ofW (cc := cX2_safeDirections) (maxL := 5) (ret := (some .int)) (by decide) rfl ?_
  intro p e s m args below meth c s₁ B hml hxt hv
  obtain ⟨rfl, hP, hK, hD0, hE0⟩ := hv
  have hx := B.exec
  have hb := B.bytes
  have hRt := B.returns
  have hts := atoms_spec (ws := wsX2_safeDirections) B.pre
  have hown : s.vm.findClass RX2 = some m.cls := findClass_of_methodNamed B.named
  have hlocks := B.notSynchronized
  have hAL : ∀ z9 : Nat, (fun _ : Nat => False) z9 → L0 ≤ z9 := fun z9 h9 => False.elim h9
  generalize hAe : (fun _ : Nat => False) = A at hAL ⊢
  have hS : va_S A s.heap s.heap [] := va_S.rf
  have hiX2 : ∀ w ∈ u_ws RX2 TX2 9, w ∈ wsX2_safeDirections := by decide +kernel
  have hl := lv_entry ([.ref x, .int u, .int z]) (n := 5) (Nat.le_of_ble_eq_true rfl)
  rw [lg_entry_eq]
  generalize (lg_sl ([.ref x, .int u, .int z]) ++ List.replicate (5 - (lg_sl ([.ref x, .int u, .int z])).length) Slot.unset).toArray = ls at hl ⊢
  have hl : lv_has ls 5 [(0, .ref x), (1, .int u), (2, .int z)] := hl
  refine lv_iload_n hx hb dX2_safeDirections_0 rfl (lv_at hl 1 rfl) ?_
  have hPc := hP.sub (ws' := []) [] rfl
  have hDc := hD0.sub (ws' := []) [] (by decide) rfl
  have hKc := hK.sub (tys' := []) [] rfl
  refine c_callT (vx_runS (As := [.int u]) (rest := []) ⟨hx, hb, hml, hown, hts⟩ (k_requireLoad l hfl D L0 u) (va_cwS 1 hts gX2_safeDirections_X2_requireLoad rfl rfl rfl (by decide +kernel) ⟨Nat.le_of_ble_eq_true rfl, Nat.le_of_ble_eq_true rfl⟩) ⟨cP_blind, cP_of hPc hKc hDc (kE_at hE0 hAL hS)⟩ rfl rfl hl.1 rfl (lv_room (Nat.le_of_ble_eq_true rfl)) dX2_safeDirections_1 ⟨Nat.le_of_ble_eq_true rfl, Nat.le_of_ble_eq_true rfl⟩) hS (fun E ce q9 H1 hE hz1 hk1 hS hce hcv hcl => ?_) (fun hp1 => ?_)
  · obtain ⟨rfl, hE⟩ := hE
    exact vx_out (fun z hz => (hxt z hz).elim) hlocks hce hcv hcl (fun t ht hvm => ⟨⟨⟨rfl, k1_no (fun q => hE q.1)⟩, trivial⟩, hS.F ht⟩) (fun z hz => hS.2.2 z hz) (Nat.le_of_ble_eq_true rfl) (Nat.le_of_ble_eq_true rfl)
  · show W _ _ _ _ _ _ _ _ _ _ _ _ _ _ _ (F0 m 4 ls [])
    refine lv_iload_n hx hb dX2_safeDirections_4 rfl (lv_at hl 2 rfl) ?_
    have hPc := hP.sub (ws' := []) [] rfl
    have hDc := hD0.sub (ws' := []) [] (by decide) rfl
    have hKc := hK.sub (tys' := []) [] rfl
    refine c_callT (vx_runS (As := [.int z]) (rest := []) ⟨hx, hb, hml, hown, hts⟩ (k_requireReach l hfl D L0 z) (va_cwS 1 hts gX2_safeDirections_X2_requireReach rfl rfl rfl (by decide +kernel) ⟨Nat.le_of_ble_eq_true rfl, Nat.le_of_ble_eq_true rfl⟩) ⟨cP_blind, cP_of hPc hKc hDc (kE_at hE0 hAL hS)⟩ rfl rfl hl.1 rfl (lv_room (Nat.le_of_ble_eq_true rfl)) dX2_safeDirections_5 ⟨Nat.le_of_ble_eq_true rfl, Nat.le_of_ble_eq_true rfl⟩) hS (fun E ce q9 H1 hE hz1 hk1 hS hce hcv hcl => ?_) (fun hp2 => ?_)
    · obtain ⟨rfl, hE⟩ := hE
      exact vx_out (fun z hz => (hxt z hz).elim) hlocks hce hcv hcl (fun t ht hvm => ⟨⟨⟨rfl, k1_no (fun q => hE q.2)⟩, trivial⟩, hS.F ht⟩) (fun z hz => hS.2.2 z hz) (Nat.le_of_ble_eq_true rfl) (Nat.le_of_ble_eq_true rfl)
    · show W _ _ _ _ _ _ _ _ _ _ _ _ _ _ _ (F0 m 8 ls [])
      have hk0 : k1 (inR u 0 60 ∧ inR z 3 30) = 0 := k1_yes ⟨hp1, hp2⟩
      obtain ⟨kz, hkz, hz⟩ := inR_n3 (n := 30) (by decide) hp2
      have hl : lv_has ls 5 [(0, .ref x), (1, .int u), (2, .int (nI kz))] := (show z = nI kz from hz) ▸ hl
      have hzn : z.toNatClampNeg = kz := by rw [hz, nI_clamp (by omega)]
      have loop : ∀ (n : Nat) (i : Nat) (ls : Array Slot), i + n = 8 → lv_has ls 5 [(4, .int (nI i)), (3, .int (nI (fb_ct (fun k => safS fo fl pl u k kz) i))), (0, .ref x), (1, .int u), (2, .int (nI kz))] → W p l e (headSpec wsX2_safeDirections ({ frames := 7, cells := 2, slots := 12, locals := 103 })).room s m ([.ref x, .int u, .int z]).toArray below meth c s.heap [] (0 + 1 + 1) (0 + 6 + 6) (vx_MQ below (cRP (some (.int (nI (fb_ct (fun k => safS fo fl pl u k z.toNatClampNeg) 8)))) (k1 (inR u 0 60 ∧ inR z 3 30) = 0)) (cX (fun E => E = xIAE ∧ k1 (inR u 0 60 ∧ inR z 3 30) = 1) (fun _ => True) A) ([.ref x, .int u, .int z]).toArray s 2 12 A) (F0 m 13 ls []) := by
        intro n
        induction n with
        | zero =>
          intro i ls hn hl
          have hi : i = 8 := by omega
          rw [hi] at hl
          refine lv_iload hx hb dX2_safeDirections_13 (lv_at hl 0 rfl) ?_
          refine lv_bipush (v := 8) hx hb dX2_safeDirections_15 (by decide) ?_
          refine lv_icmp_ge (tgt := 43) hx hb dX2_safeDirections_17 (by decide) (fun _ => ?_) (fun c_12 => absurd (by decide) c_12)
          refine lv_iload_n hx hb dX2_safeDirections_43 rfl (lv_at hl 1 rfl) ?_
          refine vx_ret ?_
          refine W.widen (k := 2) (n := 12) (Nat.le_of_ble_eq_true rfl) (Nat.le_of_ble_eq_true rfl) ?_
          exact W.iret (v := (nI (fb_ct (fun k => safS fo fl pl u k kz) 8))) hx hb hRt (fun t ht hW => ⟨⟨by rw [hzn], ht⟩, hk0⟩) hS.2.2 dX2_safeDirections_44
        | succ n ih =>
          intro i ls hn hl
          refine lv_iload hx hb dX2_safeDirections_13 (lv_at hl 0 rfl) ?_
          refine lv_bipush (v := 8) hx hb dX2_safeDirections_15 (by decide) ?_
          refine lv_icmp_ge (tgt := 43) hx hb dX2_safeDirections_17 (by decide) (fun c_13 => absurd c_13 (nI_ge (b := 8) (by omega) (by decide))) (fun _ => ?_)
          refine lv_aload_n hx hb dX2_safeDirections_20 rfl (lv_at hl 2 rfl) ?_
          refine va_get (D := D) (ci := 2) (v := .ref rg) (C := RX2) (T := TX2) (N := 9) hx hb hts hiX2 hown hK hP 0 rfl rfl 0 (by decide) (hts (.fieldLink RX2 12 "CraneReach" "rig" "LCraneReach$Rig;") (by decide +kernel)) (fun _ h9 => h9) rfl dX2_safeDirections_21 ?_
          refine lv_iload_n hx hb dX2_safeDirections_24 rfl (lv_at hl 3 rfl) ?_
          refine lv_iload hx hb dX2_safeDirections_25 (lv_at hl 0 rfl) ?_
          refine lv_iload_n hx hb dX2_safeDirections_27 rfl (lv_at hl 4 rfl) ?_
          have hPc := hP.sub (ws' := [(rg, .inr (1, [.ref ro, .ref rl, .int pl])), (ro, .inl (cI, 4, .inl fo)), (rl, .inl (cI, 28, .inl (sh fl)))]) [1, 2, 3] rfl
          have hDc := hD0.sub (ws' := [(rg, .inr (1, [.ref ro, .ref rl, .int pl])), (ro, .inl (cI, 4, .inl fo)), (rl, .inl (cI, 28, .inl (sh fl)))]) [1, 2, 3] (by decide) rfl
          have hKc := hK.sub (tys' := [(cI, .int)]) [0] rfl
          refine c_callR (va_runV (As := [.int u, .int (nI i), .int (nI kz)]) (rest := []) ⟨hx, hb, hml, hown, hts⟩ (k_isSafe l D L0 cI rg ro rl pl fo fl i kz u (by omega) hkz) (cwV 3 hts gX2_safeDirections_X1_isSafe rfl rfl rfl (by decide +kernel) ⟨Nat.le_of_ble_eq_true rfl, Nat.le_of_ble_eq_true rfl⟩) ⟨cP_blind, va_recv hKc hPc (ci := 1) (q0 := 0) rfl rfl, cP_of hPc hKc hDc (kE_at hE0 hAL hS)⟩ rfl rfl hl.1 rfl (lv_room (Nat.le_of_ble_eq_true rfl)) dX2_safeDirections_28 ⟨Nat.le_of_ble_eq_true rfl, Nat.le_of_ble_eq_true rfl⟩) ?_
          show W _ _ _ _ _ _ _ _ _ _ _ _ _ _ _ (F0 m 31 ls [.int (bI (safS fo fl pl u i kz))])
          obtain ⟨b0, hb0⟩ : ∃ b0 : Bool, b0 = safS fo fl pl u i kz := ⟨_, rfl⟩
          refine c_top (show bI (safS fo fl pl u i kz) = bI b0 from by rw [hb0]) ?_
          refine lv_if_eq (tgt := 37) hx hb dX2_safeDirections_31 (by decide) (fun c_14 => ?_) (fun c_14 => ?_)
          · have e : safS fo fl pl u i kz = false := by rw [← hb0]; cases b0 with | false => rfl | true => exact absurd c_14 (by decide)
            refine lv_iinc (v := (nI i) + 1) (lv' := [(4, .int ((nI i) + 1)), (3, .int (nI (fb_ct (fun k => safS fo fl pl u k kz) i))), (0, .ref x), (1, .int u), (2, .int (nI kz))]) hx hb dX2_safeDirections_37 hl (k := 0) rfl rfl (by decide) rfl (fun ls hl => ?_)
            refine lv_goto (tgt := 13) hx hb dX2_safeDirections_40 (by decide) ?_
            have hl : lv_has ls 5 [(4, .int (nI (i + 1))), (3, .int (nI (fb_ct (fun k => safS fo fl pl u k kz) i))), (0, .ref x), (1, .int u), (2, .int (nI kz))] := (show (nI i) + 1 = nI (i + 1) from nI_1 i) ▸ hl
            have hl : lv_has ls 5 [(4, .int (nI (i + 1))), (3, .int (nI (fb_ct (fun k => safS fo fl pl u k kz) (i + 1)))), (0, .ref x), (1, .int u), (2, .int (nI kz))] := (show nI (fb_ct (fun k => safS fo fl pl u k kz) i) = nI (fb_ct (fun k => safS fo fl pl u k kz) (i + 1)) from by rw [fb_ct_succ, e]; rfl) ▸ hl
            exact ih (i + 1) _ (by omega) (lv_sub hl [0, 1, 2, 3, 4] rfl)
          · have e : safS fo fl pl u i kz = true := by rw [← hb0]; cases b0 with | true => rfl | false => exact absurd rfl c_14
            refine lv_iinc (v := (nI (fb_ct (fun k => safS fo fl pl u k kz) i)) + 1) (lv' := [(3, .int ((nI (fb_ct (fun k => safS fo fl pl u k kz) i)) + 1)), (4, .int (nI i)), (0, .ref x), (1, .int u), (2, .int (nI kz))]) hx hb dX2_safeDirections_34 hl (k := 1) rfl rfl (by decide) rfl (fun ls hl => ?_)
            refine lv_iinc (v := (nI i) + 1) (lv' := [(4, .int ((nI i) + 1)), (3, .int ((nI (fb_ct (fun k => safS fo fl pl u k kz) i)) + 1)), (0, .ref x), (1, .int u), (2, .int (nI kz))]) hx hb dX2_safeDirections_37 hl (k := 1) rfl rfl (by decide) rfl (fun ls hl => ?_)
            refine lv_goto (tgt := 13) hx hb dX2_safeDirections_40 (by decide) ?_
            have hl : lv_has ls 5 [(4, .int (nI (i + 1))), (3, .int ((nI (fb_ct (fun k => safS fo fl pl u k kz) i)) + 1)), (0, .ref x), (1, .int u), (2, .int (nI kz))] := (show (nI i) + 1 = nI (i + 1) from nI_1 i) ▸ hl
            have hl : lv_has ls 5 [(4, .int (nI (i + 1))), (3, .int (nI (fb_ct (fun k => safS fo fl pl u k kz) (i + 1)))), (0, .ref x), (1, .int u), (2, .int (nI kz))] := (show (nI (fb_ct (fun k => safS fo fl pl u k kz) i)) + 1 = nI (fb_ct (fun k => safS fo fl pl u k kz) (i + 1)) from by rw [fb_ct_succ, e, nI_1]; rfl) ▸ hl
            exact ih (i + 1) _ (by omega) (lv_sub hl [0, 1, 2, 3, 4] rfl)
      refine lv_iconst (v := 0) hx hb dX2_safeDirections_8 (by decide) ?_
      refine lv_istore_n (lv' := [(3, .int 0), (0, .ref x), (1, .int u), (2, .int (nI kz))]) hx hb dX2_safeDirections_9 rfl hl (by decide) rfl (fun ls hl => ?_)
      refine lv_iconst (v := 0) hx hb dX2_safeDirections_10 (by decide) ?_
      refine lv_istore (lv' := [(4, .int 0), (3, .int 0), (0, .ref x), (1, .int u), (2, .int (nI kz))]) hx hb dX2_safeDirections_11 hl (by decide) rfl (fun ls hl => ?_)
      have hl : lv_has ls 5 [(4, .int (nI 0)), (3, .int 0), (0, .ref x), (1, .int u), (2, .int (nI kz))] := (show 0 = nI 0 from rfl) ▸ hl
      have hl : lv_has ls 5 [(4, .int (nI 0)), (3, .int (nI (fb_ct (fun k => safS fo fl pl u k kz) 0))), (0, .ref x), (1, .int u), (2, .int (nI kz))] := (show 0 = nI (fb_ct (fun k => safS fo fl pl u k kz) 0) from rfl) ▸ hl
      exact loop 8 0 _ (by omega) (lv_sub hl [0, 1, 2, 3, 4] rfl)
end
