/-! ===== what each call answers, and how it leaves the crane: shared by the class and the reference ===== -/
def swX (cw : Bool) (d : Nat) : Nat := if cw then (d + 1) % 8 else (d + 7) % 8
theorem swX_lt {cw : Bool} {d : Nat} : swX cw d < 8 := by unfold swX; split <;> exact Nat.mod_lt _ (by decide)
def stX (ou : Bool) (r : Nat) : Nat := if ou then r + 1 else r - 1
def swN (sf : Nat → Bool) (cw : Bool) : Nat → Nat → Nat × Nat
  | 0, d => (0, d)
  | n + 1, d => if sf (swX cw d) = true then ((swN sf cw n (swX cw d)).1 + 1, (swN sf cw n (swX cw d)).2) else (0, d)
def stN (sf : Nat → Bool) (ou : Bool) : Nat → Nat → Nat × Nat
  | 0, r => (0, r)
  | n + 1, r => if (3 ≤ (stX ou r) ∧ (stX ou r) ≤ 30) ∧ sf (stX ou r) = true then ((stN sf ou n (stX ou r)).1 + 1, (stN sf ou n (stX ou r)).2) else (0, r)
def grN (sf : Nat → Bool) : Nat → Nat
  | 0 => 0
  | n + 1 => if sf (n + 1) = true then n + 1 else grN sf n
def faN (sf : Nat → Bool) : Nat → Nat → Nat
  | 0, r => r
  | n + 1, r => if sf r = true then faN sf n (r + 1) else r
def faI (r0 : Nat) : Int32 := if r0 = 3 then -1 else nI (r0 - 1)
def pnN (sf : Nat → Bool) : Nat → Nat → Int32
  | 0, _ => -1
  | n + 1, k => if sf k = true then nI k else pnN sf n (k + 1)
def wkN (st : Nat → Int32) : Nat → Nat
  | 0 => 0
  | k + 1 => if k = 0 then 0 else if st (wkN st k) < st k then k else wkN st k
def boN (can : Nat → Bool) (own : Nat → Int32) : Nat → Int32 × Int32
  | 0 => (-1, -1)
  | k + 1 => if can k = true then (if (boN can own k).2 < own k then (nI k, own k) else boN can own k) else boN can own k
def mxL (d : Int64) (x : Int32) : Int64 := d * 31 + x.toInt64
def dgR (f g : Nat → Int32) : Nat → Nat → Int64 → Int64
  | 0, _, d => d
  | n + 1, r, d => dgR f g n (r + 1) (mxL (mxL d (f r)) (g r))
theorem swN_le {sf : Nat → Bool} {cw : Bool} : ∀ {n d : Nat}, (swN sf cw n d).1 ≤ n
  | 0, _ => Nat.le_refl _
  | n + 1, d => by
    rw [swN]
    split
    · exact Nat.succ_le_succ swN_le
    · exact Nat.zero_le _
theorem swN_lt {sf : Nat → Bool} {cw : Bool} : ∀ {n d : Nat}, d < 8 → (swN sf cw n d).2 < 8
  | 0, _, h => h
  | n + 1, d, h => by
    rw [swN]
    split
    · exact swN_lt swX_lt
    · exact h
theorem stN_le {sf : Nat → Bool} {ou : Bool} : ∀ {n r : Nat}, (stN sf ou n r).1 ≤ n
  | 0, _ => Nat.le_refl _
  | n + 1, r => by
    rw [stN]
    split
    · exact Nat.succ_le_succ stN_le
    · exact Nat.zero_le _
theorem stN_in {sf : Nat → Bool} {ou : Bool} : ∀ {n r : Nat}, 3 ≤ r ∧ r ≤ 30 → 3 ≤ (stN sf ou n r).2 ∧ (stN sf ou n r).2 ≤ 30
  | 0, _, h => h
  | n + 1, r, h => by
    rw [stN]
    split
    · rename_i c
      exact stN_in c.1
    · exact h
theorem swN_safe {sf : Nat → Bool} {cw : Bool} : ∀ {n d : Nat}, sf d = true → sf (swN sf cw n d).2 = true
  | 0, _, h => h
  | n + 1, d, h => by
    rw [swN]
    split
    · rename_i c
      exact swN_safe c
    · exact h
theorem stN_safe {sf : Nat → Bool} {ou : Bool} : ∀ {n r : Nat}, sf r = true → sf (stN sf ou n r).2 = true
  | 0, _, h => h
  | n + 1, r, h => by
    rw [stN]
    split
    · rename_i c
      exact stN_safe c.2
    · exact h
theorem grN_le {sf : Nat → Bool} : ∀ n, grN sf n ≤ n
  | 0 => Nat.le_refl _
  | n + 1 => by
    rw [grN]
    split
    · exact Nat.le_refl _
    · exact Nat.le_succ_of_le (grN_le n)
theorem wkN_lt {st : Nat → Int32} : ∀ {k n : Nat}, k ≤ n → 0 < n → wkN st k < n
  | 0, _, _, h => h
  | k + 1, n, h, h0 => by
    rw [wkN]
    split
    · exact h0
    · split
      · omega
      · exact wkN_lt (by omega) h0
/-- codes: 0 it returns; else which exception, by its place in the law -/
def kSP (sf : Int32 → Bool) (p : Int32) : Int32 := if 0 ≤ p ∧ p ≤ 12 then (if sf p = true then 0 else 2) else 1
def kSO (ld : Int32) (sf : Nat → Int32 → Bool) (p q : Int32) : Int32 := if 0 ≤ p ∧ p ≤ 3 then (if 0 ≤ q ∧ q ≤ 6 then (if ld = 0 ∧ sf p.toNatClampNeg q = true then 0 else 3) else 2) else 1
def kSL (sf : Nat → Int32 → Bool) (p q : Int32) : Int32 := if (3 ≤ p ∧ p ≤ 30) ∧ (0 ≤ q ∧ q ≤ 60) then (if sf p.toNatClampNeg q = true then 0 else 2) else 1
def kLi (ld : Int32) (sf : Int32 → Bool) (p : Int32) : Int32 := if 1 ≤ p ∧ p ≤ 60 then (if ¬ 0 < ld ∧ sf p = true then 0 else 2) else 1
def kSD (ld : Int32) (sf : Int32 → Bool) : Int32 := if ¬ ld = 0 ∧ sf 0 = true then 0 else 1
/-- one test, one exception -/
def k1 (P : Prop) [Decidable P] : Int32 := if P then 0 else 1
/-- two tests in a row -/
def k2 (P Q : Prop) [Decidable P] [Decidable Q] : Int32 := if P then (if Q then 0 else 2) else 1
theorem k1_yes {P : Prop} [Decidable P] (h : P) : k1 P = 0 := if_pos h
theorem k1_no {P : Prop} [Decidable P] (h : ¬ P) : k1 P = 1 := if_neg h
theorem k1_0 {P : Prop} [Decidable P] (h : k1 P = 0) : P := by
  by_cases p : P
  · exact p
  · rw [k1_no p] at h; exact absurd h (by decide)
theorem k2_yes {P Q : Prop} [Decidable P] [Decidable Q] (h : P) (h2 : Q) : k2 P Q = 0 := by rw [k2, if_pos h, if_pos h2]
theorem k2_n1 {P Q : Prop} [Decidable P] [Decidable Q] (h : ¬ P) : k2 P Q = 1 := if_neg h
theorem k2_n2 {P Q : Prop} [Decidable P] [Decidable Q] (h : P) (h2 : ¬ Q) : k2 P Q = 2 := by rw [k2, if_pos h, if_neg h2]
theorem k2_0 {P Q : Prop} [Decidable P] [Decidable Q] (h : k2 P Q = 0) : P ∧ Q := by
  by_cases p : P
  · by_cases q : Q
    · exact ⟨p, q⟩
    · rw [k2_n2 p q] at h; exact absurd h (by decide)
  · rw [k2_n1 p] at h; exact absurd h (by decide)
abbrev inR (v a b : Int32) : Prop := a ≤ v ∧ v ≤ b
theorem inR_nI {v : Int32} {n : Nat} (hn : n < 2 ^ 31) (h : inR v 0 (nI n)) : ∃ k, k ≤ n ∧ v = nI k := by
  have h0 : ¬ v < 0 := i_len h.1
  exact nI_of2 (nI_toInt hn) h0 h.2
theorem inR_n3 {v : Int32} {n : Nat} (hn : n < 2 ^ 31) (h : inR v 3 (nI n)) : ∃ k, (3 ≤ k ∧ k ≤ n) ∧ v = nI k := by
  have h3 : (3 : Int32) ≤ v := h.1
  have h0 : ¬ v < 0 := by
    intro z
    have h4 := Int32.lt_of_lt_of_le z (show (0 : Int32) ≤ 3 by decide)
    exact absurd h3 (i_ltn h4)
  obtain ⟨k, hk, rfl⟩ := nI_of2 (nI_toInt hn) h0 h.2
  refine ⟨k, ⟨?_, hk⟩, rfl⟩
  rcases Nat.lt_or_ge k 3 with z | z
  · exact absurd h3 (nI_ge (b := 3) z (by decide))
  · exact z
theorem inR_n1 {v : Int32} {n : Nat} (hn : n < 2 ^ 31) (h : inR v 1 (nI n)) : ∃ k, (1 ≤ k ∧ k ≤ n) ∧ v = nI k := by
  have h3 : (1 : Int32) ≤ v := h.1
  have h0 : ¬ v < 0 := by
    intro z
    have h4 := Int32.lt_of_lt_of_le z (show (0 : Int32) ≤ 1 by decide)
    exact absurd h3 (i_ltn h4)
  obtain ⟨k, hk, rfl⟩ := nI_of2 (nI_toInt hn) h0 h.2
  refine ⟨k, ⟨?_, hk⟩, rfl⟩
  rcases Nat.lt_or_ge k 1 with z | z
  · exact absurd h3 (nI_ge (b := 1) z (by decide))
  · exact z
def dgO (f g : Nat → Int32) : Nat → Int64 → Int64
  | 0, D => D
  | k + 1, D => mxL (mxL (dgO f g k D) (f k)) (g k)
def digH (d r : Nat) (ld pl : Int32) (wk : Nat) (li tl mo : Int32) (gr : Nat) : Int64 := mxL (mxL (mxL (mxL (mxL (mxL (mxL (mxL (mxL 1907 (nI d)) (nI r)) ld) pl) (nI wk)) li) tl) mo) (nI gr)
def digS (d r : Nat) (ld li tl mo pl : Int32) (fo fl : Nat → Int32) : Int64 :=
  dgR fl (fun z => nI (fb_ct (fun k => safS fo fl pl 5 k z) 8)) 28 3 (dgO fo (fun k => strS fo pl k ld d r) 4 (digH d r ld pl (wkN (fun k => strS fo pl k ld d r) 4) li tl mo (grN (fun k => safS fo fl pl (nI k) d r) 60)))
def ownS (fo fl : Nat → Int32) (pl u : Int32) (d r : Nat) : Nat → Int32 := fun k => nI (goS (safS (upd fo k (fo k + 1)) fl pl u) d r).2.2
def canS (fo : Nat → Int32) : Nat → Bool := fun k => decide (fo k < 6)
def lim0 : Nat → Int32 := fun r => if 3 ≤ r ∧ r ≤ 30 then nI (90 / r) else 0
theorem lim_div : ∀ i, i < 28 → (90 : Int32) / (nI i + 3) = nI (90 / (i + 3)) := by decide +kernel
theorem lim_ne : ∀ i, i < 28 → ¬ (nI i + 3 : Int32) = 0 := by decide +kernel
theorem lim_divM : ∀ r, r < 31 → 3 ≤ r → (90 : Int32) / nI r = nI (90 / r) := by decide +kernel
def mnS (li tl : Int32) : UInt64 := if li = 0 then FP.dconst0 else FP.ddiv (FP.i2d tl) (FP.i2d li)
