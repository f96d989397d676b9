/-! ===== methods with a table of handlers that return ===== -/
theorem c_ofWH {l : Launch} {y : MethodName} {ws ws' : List Cond} {rm : Room} {Pc : Array Value → State → Prop} {Qc : Array Value → State → Outcome → State → Prop} {mc ms : Nat} {free : Addr → Prop} {cc : ByteArray} {maxL : Nat} {ret : Option FieldType} {hh : List (Nat × Nat × Nat × Nat)}
    (hy : plainName y.cls = true) (hw : ws = Cond.codeWith y cc maxL ret hh :: ws')
    (body : ∀ p e s m args below meth c s₁, BodyLoose p l y (headSpec ws rm) cc maxL ret e s m args below meth c s₁ → c.maxLocals = maxL → Pc args s →
      W p l e (headSpec ws rm).room s m args below meth c s.heap [] 0 0 (MQ below Qc args s mc ms free) (entryFrame m args maxL)) : Met l y ws rm Pc Qc mc ms free := by
  refine MetFree.of_bodyS (code := cc) (maxLocals := maxL) (ret := ret) hy ?_ ?_
  · intro args s m h hn
    obtain ⟨m9, meth, c, hn9, h1, h2, h3, h4, -, h5, h6, -⟩ := Cond.codeWith_spec (atoms_spec (ws := ws) h _ (by rw [hw]; exact List.mem_cons_self))
    cases hn.symm.trans hn9
    exact ⟨meth, c, h1, h2, h3, h4, h5, h6⟩
  · intro p e s m args below meth c s₁ B hml hP _
    have hh0 : s₁.heap = s.heap := by rw [B.state]; rfl
    obtain ⟨t, a1, o, b1, b2, b3⟩ := body p e s m args below meth c s₁ B hml hP s₁ hh0 (Stand.of_body B)
    exact ⟨t, o, a1, b1, b2, ⟨b3.1, b3.2⟩⟩
section CCT
variable {p : Program} {l : Launch} {e : Env} {R : Room} {s : State} {m : MethodId} {args : Array Value} {below : List Frame} {meth : Method} {c : Code} {H : Heap} {locs : List Loc} {cells slots : Nat} {Q : State → Prop} {pc : Nat} {ls : Array Slot} {rest : List Value} {L0 : Nat}
/-- an IllegalStateException, caught by the row of this table that covers its place -/
theorem c_catch1 {own : String} {ce : Cell} {q : Addr} (hown : s.vm.findClass own = some m.cls) (hE0 : kE L0 s s.heap) (pre : List ExceptionTableEntry) (x : ExceptionTableEntry) (suf : List ExceptionTableEntry) (hsplit : c.exceptionTable.toList = pre ++ x :: suf)
    (hpass : ∀ z ∈ pre, covers z pc = false) (hx : covers x pc = true) (h0 : x.catchType ≠ 0)
    (hlink : (Cond.classLink own x.catchType xISE).before args s = true) (hcell : H[q]? = some ce) (hv : ce.vm = .none) (hcl : s.vm.findClass xISE = some ce.cls)
    (kk : W p l e R s m args below meth c H locs cells slots Q (F0 m x.handlerPc ls [.ref q])) : vx_W p l e R s m args below meth c H locs cells slots Q (F0 m pc ls rest) q := by
  obtain ⟨-, -, -, -, -, -, ⟨-, h10, -⟩, -⟩ := hE0
  exact vx_catch hown pre x suf hsplit (fun z hz => Or.inl (hpass z hz)) hx h0 hlink (h10.use rfl) hcell hv hcl kk
end CCT
/-! ===== what holds of the crane at all times ===== -/
def lpInv (d r : Nat) (ld pl : Int32) (fo fl : Nat → Int32) : Prop := d < 8 ∧ (3 ≤ r ∧ r ≤ 30) ∧ (∃ k, k ≤ 60 ∧ ld = nI k) ∧ safS fo fl pl ld d r = true ∧ ∃ k, k ≤ 12 ∧ pl = nI k
theorem lpInv.ld0 {d r : Nat} {ld pl : Int32} {fo fl : Nat → Int32} (h : lpInv d r ld pl fo fl) : ¬ ld < 0 := by
  obtain ⟨-, -, ⟨k, hk, rfl⟩, -, -⟩ := h
  exact nI_pos (by omega)
theorem lp_0 : lpInv 0 3 0 0 (fun _ => 0) lim0 := ⟨by decide, by decide, ⟨0, by decide, rfl⟩, by decide +kernel, ⟨0, by decide, rfl⟩⟩
theorem lp_tu0 : ∀ z, z < 8 → (nI z + 0 + 8) - (nI z + 0 + 8) / 8 * 8 = nI z ∧ z < 8 := by decide +kernel
theorem lp_tu1 : ∀ z, z < 8 → (nI z + 1 + 8) - (nI z + 1 + 8) / 8 * 8 = nI (swX true z) ∧ swX true z < 8 := by decide +kernel
theorem lp_tum : ∀ z, z < 8 → (nI z + (-1) + 8) - (nI z + (-1) + 8) / 8 * 8 = nI (swX false z) ∧ swX false z < 8 := by decide +kernel
theorem lp_ou0 : ∀ z, 3 ≤ z ∧ z ≤ 30 → nI z + 0 = nI z ∧ z < 100 := fun z hz => ⟨Int32.add_zero _, by omega⟩
theorem lp_ou1 : ∀ z, 3 ≤ z ∧ z ≤ 30 → nI z + 1 = nI (stX true z) ∧ stX true z < 100 := fun z hz => ⟨nI_1 z, by show z + 1 < 100; omega⟩
theorem lp_oum : ∀ z, 3 ≤ z ∧ z ≤ 30 → nI z + (-1) = nI (stX false z) ∧ stX false z < 100 := fun z hz => ⟨by
  have h := pk_m1 (z - 1)
  rw [Nat.sub_add_cancel (by omega)] at h
  exact h, by show z - 1 < 100; omega⟩
theorem i_0of {a : Int32} (h : a ≤ 0) (h2 : ¬ a < 0) : a = 0 := Int32.le_antisymm h (Int32.not_lt.mp h2)
/-! the script's ints: a row that the law reads and nobody writes -/
def cS (b L : Nat) (xs : Nat → Int32) (av : List Value) : Array Value → State → Prop := va_Pc av (fun U => va_X b L xs U U.heap ∧ b < U.heap.size)
theorem cS_blind {b L : Nat} {xs : Nat → Int32} {av : List Value} : FrameBlind (cS b L xs av) := by
  intro a U g mk h
  obtain ⟨h1, h2, h3⟩ := h
  exact ⟨h1, va_X.moved (u := U) (U := U.calling g mk a) (Vm.Alike.refl U.vm) h2, h3⟩
theorem cS_of {b L : Nat} {xs : Nat → Int32} {av : List Value} {s : State} {H : Heap} (hX : va_X b L xs s H) (hb : b < H.size) : ∀ U : State, U.heap = H → s.WarmedH U.vm → cS b L xs av av.toArray U := by
  intro U hU hW
  refine ⟨rfl, ?_, by rw [hU]; exact hb⟩
  rw [hU]
  exact va_X.moved hW.alike hX
