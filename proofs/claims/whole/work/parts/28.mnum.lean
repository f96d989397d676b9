/-! ===== rows of the reference's numbers ===== -/
def jN (d k : Nat) : Nat := if 8 - (if 2 * k ≤ d then d - 2 * k else 2 * k - d) < (if 2 * k ≤ d then d - 2 * k else 2 * k - d) then 8 - (if 2 * k ≤ d then d - 2 * k else 2 * k - d) else (if 2 * k ≤ d then d - 2 * k else 2 * k - d)
theorem jx_abs : ∀ d, d < 8 → ∀ k, k < 4 → (if 0 ≤ nI d - nI k * 2 then nI d - nI k * 2 else 0 - (nI d - nI k * 2)) = nI (if 2 * k ≤ d then d - 2 * k else 2 * k - d) := by decide +kernel
theorem jx_abs2 : ∀ d, d < 8 → ∀ k, k < 4 → (if 0 ≤ nI d - 2 * nI k then nI d - 2 * nI k else 0 - (nI d - 2 * nI k)) = nI (if 2 * k ≤ d then d - 2 * k else 2 * k - d) := by decide +kernel
theorem jx_min : ∀ d, d < 8 → ∀ k, k < 4 → (if 8 - nI (if 2 * k ≤ d then d - 2 * k else 2 * k - d) < nI (if 2 * k ≤ d then d - 2 * k else 2 * k - d) then 8 - nI (if 2 * k ≤ d then d - 2 * k else 2 * k - d) else nI (if 2 * k ≤ d then d - 2 * k else 2 * k - d)) = nI (jN d k) := by decide +kernel
theorem jN_lt : ∀ d, d < 8 → ∀ k, k < 4 → jN d k < 5 := by decide +kernel
def slV (j : Nat) : Int32 := if j = 0 then 10 else if j = 1 then 7 else if j = 2 then 0 else if j = 3 then -7 else -10
theorem kSl_at (j : Nat) : kSl j = .int (slV j) := rfl
theorem jN_sl : ∀ d, d < 8 → ∀ k, k < 4 → slV (jN d k) = slN d k := by decide +kernel
theorem strS_m {fo : Nat → Int32} {pl : Int32} {k : Nat} {tons : Int32} {d r : Nat} : tons * (nI r * slN d k - eS fo k) - 2 * pl * (4 * slN d k + eS fo k) - 20 * eS fo k = strS fo pl k tons d r := by
  rw [strS, Int32.mul_comm 2 pl]
def mvI (ld mo : Int32) (k : Nat) : Int32 := if 0 < ld then mo + nI k else mo
theorem mvI_0 (ld mo : Int32) : mvI ld mo 0 = mo := by
  unfold mvI
  split
  · show mo + 0 = mo
    exact Int32.add_zero mo
  · rfl
theorem mvI_s (ld mo : Int32) (k : Nat) : mvI ld mo k + (if 0 < ld then 1 else 0) = mvI ld mo (k + 1) := by
  unfold mvI
  split
  · rw [Int32.add_assoc, nI_1]
  · exact Int32.add_zero mo
theorem n1i : ¬ (1 : Int32) = 0 := by decide
theorem n2i : ¬ (2 : Int32) = 0 := by decide
theorem n3i : ¬ (3 : Int32) = 0 := by decide
theorem swM (b : Bool) : ∀ z, z < 8 → (nI z + (if b then 1 else 7)) - (nI z + (if b then 1 else 7)) / 8 * 8 = nI (swX b z) := by
  cases b <;> decide +kernel
theorem m8_1 : ∀ z, z < 8 → (nI z + 1) - (nI z + 1) / 8 * 8 = nI ((z + 1) % 8) := by decide +kernel
theorem m8_7 : ∀ z, z < 8 → (nI z + 8 - 1) - (nI z + 8 - 1) / 8 * 8 = nI ((z + 7) % 8) := by decide +kernel
theorem c8_d (c : Nat) (h : c < 248) : nI c - nI c / 8 * 8 = nI (c % 8) := pk_rem (d := 8) (by omega) (by decide) (by decide)
theorem c8_r (c : Nat) (h : c < 248) : nI c / 8 = nI (c / 8) := pk_div (d := 8) (by omega) (by decide) (by decide)
theorem c8_c (d r : Nat) : 8 * nI r + nI d = nI (8 * r + d) := by
  rw [show (8 : Int32) * nI r = nI (8 * r) from pk_mul 8 r, nI_add]
theorem upd_back {f : Nat → Int32} {k : Nat} {x : Int32} : upd (upd f k x) k (f k) = f := by
  funext j
  show (if j = k then f k else if j = k then x else f j) = f j
  by_cases e : j = k
  · rw [if_pos e, e]
  · rw [if_neg e, if_neg e]
theorem safS_iff {fo fl : Nat → Int32} {pl tons : Int32} {d r : Nat} : safS fo fl pl tons d r = true ↔ tons ≤ fl r ∧ strS fo pl 0 tons d r ≤ 0 ∧ strS fo pl 1 tons d r ≤ 0 ∧ strS fo pl 2 tons d r ≤ 0 ∧ strS fo pl 3 tons d r ≤ 0 := by
  simp [safS]
theorem safS_u1 {fo fl : Nat → Int32} {pl tons u : Int32} {d r k : Nat} (h : safS fo fl pl tons d r = true) (hk : ¬ k = r) : safS fo (upd fl k u) pl tons d r = true := by
  obtain ⟨h1, h2⟩ := safS_iff.mp h
  exact safS_iff.mpr ⟨by rw [pk_un (fun e => hk e.symm)]; exact h1, h2⟩
theorem safS_u2 {fo fl : Nat → Int32} {pl tons u : Int32} {d r k : Nat} (h : safS fo fl pl tons d r = true) (hu : tons ≤ u) : safS fo (upd fl k u) pl tons d r = true := by
  by_cases hk : k = r
  · obtain ⟨h1, h2⟩ := safS_iff.mp h
    exact safS_iff.mpr ⟨by rw [hk, pk_us]; exact hu, h2⟩
  · exact safS_u1 h hk
theorem safS_u3 {fo fl : Nat → Int32} {pl tons u : Int32} {d r k : Nat} (hk : k = r) (hu : ¬ tons ≤ u) : ¬ safS fo (upd fl k u) pl tons d r = true := by
  intro h
  obtain ⟨h1, h2⟩ := safS_iff.mp h
  rw [hk, pk_us] at h1
  exact hu h1
theorem i_lt_ne {a b : Int32} (h : a ≤ b) (h2 : ¬ a = b) : a < b := by
  rw [Int32.lt_iff_toInt_lt]
  rw [Int32.le_iff_toInt_le] at h
  have h3 : ¬ a.toInt = b.toInt := fun e => h2 (Int32.toInt_inj.mp e)
  omega
theorem upd_inc {f : Nat → Int32} {k : Nat} : upd (upd f k (f k + 1)) k (f k + 1 - 1) = f := by
  rw [Int32.add_sub_cancel]
  exact upd_back
/-- a double and its world -/
def cDw (v : UInt64) (B : Heap → Prop) (A : Nat → Prop) : Array Value → State → Outcome → State → Prop := fun _ st oc t => ((∃ r : UInt64, oc = .returned (some (.double r)) ∧ alike64 r v = true) ∧ B t.heap) ∧ va_F A st t
theorem b0M : bM ((fun _ => -1, fun _ => 0, 0) : bS) (fun _ => -1) (fun _ => 0) := ⟨fun _ _ => rfl, fun i hi => absurd hi (Nat.not_lt_zero i)⟩
