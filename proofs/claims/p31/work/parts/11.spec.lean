/-! ===== what the crane is, in numbers: shared by the class and the reference ===== -/
def bI (b : Bool) : Int32 := if b then 1 else 0
theorem bI_nar (b : Bool) : narrow .boolean (.int (bI b)) = .int (bI b) := by cases b <;> decide +kernel
def sh (f : Nat → Int32) : Nat → Int32 := fun i => f (i + 3)
def slT (k : Nat) : Int32 := if k = 0 then 10 else if k = 1 ∨ k = 7 then 7 else if k = 2 ∨ k = 6 then 0 else if k = 3 ∨ k = 5 then -7 else -10
def slN (d side : Nat) : Int32 := slT ((d + 8 - 2 * side) % 8)
def eS (fo : Nat → Int32) (side : Nat) : Int32 := 10 * (2 + fo side)
def strS (fo : Nat → Int32) (pl : Int32) (side : Nat) (tons : Int32) (d r : Nat) : Int32 := tons * (nI r * slN d side - eS fo side) - pl * 2 * (4 * slN d side + eS fo side) - 20 * eS fo side
def safS (fo fl : Nat → Int32) (pl tons : Int32) (d r : Nat) : Bool := decide (tons ≤ fl r) && (decide (strS fo pl 0 tons d r ≤ 0) && (decide (strS fo pl 1 tons d r ≤ 0) && (decide (strS fo pl 2 tons d r ≤ 0) && decide (strS fo pl 3 tons d r ≤ 0))))
theorem safS_no {fo fl : Nat → Int32} {pl tons : Int32} {d r : Nat} (h : ¬ tons ≤ fl r) : bI (safS fo fl pl tons d r) = 0 := by simp [safS, h, bI]
theorem safS_n0 {fo fl : Nat → Int32} {pl tons : Int32} {d r : Nat} (h : ¬ strS fo pl 0 tons d r ≤ 0) : bI (safS fo fl pl tons d r) = 0 := by simp [safS, h, bI]
theorem safS_n1 {fo fl : Nat → Int32} {pl tons : Int32} {d r : Nat} (h : ¬ strS fo pl 1 tons d r ≤ 0) : bI (safS fo fl pl tons d r) = 0 := by simp [safS, h, bI]
theorem safS_n2 {fo fl : Nat → Int32} {pl tons : Int32} {d r : Nat} (h : ¬ strS fo pl 2 tons d r ≤ 0) : bI (safS fo fl pl tons d r) = 0 := by simp [safS, h, bI]
theorem safS_n3 {fo fl : Nat → Int32} {pl tons : Int32} {d r : Nat} (h : ¬ strS fo pl 3 tons d r ≤ 0) : bI (safS fo fl pl tons d r) = 0 := by simp [safS, h, bI]
theorem safS_yes {fo fl : Nat → Int32} {pl tons : Int32} {d r : Nat} (h : tons ≤ fl r) (h0 : strS fo pl 0 tons d r ≤ 0) (h1 : strS fo pl 1 tons d r ≤ 0) (h2 : strS fo pl 2 tons d r ≤ 0) (h3 : strS fo pl 3 tons d r ≤ 0) : bI (safS fo fl pl tons d r) = 1 := by simp [safS, h, h0, h1, h2, h3, bI]
theorem slx : ∀ d, d < 8 → ∀ k, k < 4 → (nI d - 2 * nI k + 8) - (nI d - 2 * nI k + 8) / 8 * 8 = nI ((d + 8 - 2 * k) % 8) := by decide +kernel
theorem sh_at {f : Nat → Int32} {r : Nat} (h : 3 ≤ r) : sh f (r - 3) = f r := by show f (r - 3 + 3) = f r; rw [Nat.sub_add_cancel h]
theorem isW_yes {v a b : Int32} (h1 : a ≤ v) (h2 : v ≤ b) : bI (decide (a ≤ v) && decide (v ≤ b)) = 1 := by simp [bI, h1, h2]
theorem isW_n1 {v a b : Int32} (h1 : ¬ a ≤ v) : bI (decide (a ≤ v) && decide (v ≤ b)) = 0 := by simp [bI, h1]
theorem isW_n2 {v a b : Int32} (h2 : ¬ v ≤ b) : bI (decide (a ≤ v) && decide (v ≤ b)) = 0 := by simp [bI, h2]
theorem i_nlt {a b : Int32} (h : ¬ a < b) : b ≤ a := Int32.not_lt.mp h
theorem i_nle {a b : Int32} (h : ¬ a ≤ b) : b < a := Int32.not_le.mp h
theorem i_ltn {a b : Int32} (h : a < b) : ¬ b ≤ a := Int32.not_le.mpr h
theorem i_len {a b : Int32} (h : a ≤ b) : ¬ b < a := Int32.not_lt.mpr h
theorem upd_sh {fl : Nat → Int32} {r : Nat} {x : Int32} (h : 3 ≤ r) : upd (sh fl) (r - 3) x = sh (upd fl r x) := by
  funext i
  show (if i = r - 3 then x else fl (i + 3)) = (if i + 3 = r then x else fl (i + 3))
  by_cases hi : i = r - 3
  · rw [if_pos hi, if_pos (by omega)]
  · rw [if_neg hi, if_neg (by omega)]
/-- an array's cell speaks of its places alone -/
theorem arr_same {D : va_G} {cl : List vw_C} {H : Heap} {q : Nat} {cI : ClassId} {n : Nat} {f g : Nat → Int32} (h : va_at D cl (q, .inl (cI, n, .inl f)) H) (hfg : ∀ i, i < n → f i = g i) : va_at D cl (q, .inl (cI, n, .inl g)) H := by
  have h1 : H[q]? = some (vp_cell cI (n, .inl f)) := h
  show H[q]? = some (vp_cell cI (n, .inl g))
  rw [h1, vp_cell_i, vp_cell_i]
  have e : (fun j : Fin n => Value.int (f j.val)) = fun j : Fin n => Value.int (g j.val) := by funext j; rw [hfg j.1 j.2]
  unfold arrV
  rw [e]
