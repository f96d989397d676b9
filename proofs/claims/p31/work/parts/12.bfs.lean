/-! the places with one count (rows fb_ct: out of kit/laws/COUNTS, a starting text) -/
def fb_ct (p : Nat → Bool) : Nat → Nat
  | 0 => 0
  | n + 1 => fb_ct p n + (if p n then 1 else 0)
theorem fb_ct_succ (p : Nat → Bool) (n : Nat) : fb_ct p (n + 1) = fb_ct p n + (if p n then 1 else 0) := rfl
theorem fb_ct_le (p : Nat → Bool) : ∀ n, fb_ct p n ≤ n
  | 0 => Nat.le_refl _
  | n + 1 => by
    have h := fb_ct_le p n
    rw [fb_ct_succ]
    split <;> omega
theorem fb_ct_step (p : Nat → Bool) (m : Nat) : ∀ n, fb_ct p m ≤ fb_ct p (m + n)
  | 0 => Nat.le_refl _
  | n + 1 => by
    have h := fb_ct_step p m n
    show fb_ct p m ≤ fb_ct p (m + n + 1)
    rw [fb_ct_succ]
    omega
theorem fb_ct_mono (p : Nat → Bool) {m n : Nat} (h : m ≤ n) : fb_ct p m ≤ fb_ct p n := by
  have := fb_ct_step p m (n - m)
  rwa [Nat.add_sub_cancel' h] at this
theorem fb_ct_cong {p q : Nat → Bool} : ∀ {n : Nat}, (∀ k, k < n → p k = q k) → fb_ct p n = fb_ct q n
  | 0, _ => rfl
  | n + 1, h => by
    rw [fb_ct_succ, fb_ct_succ, fb_ct_cong (fun k hk => h k (by omega)), h n (by omega)]
/-- one place changed -/
theorem fb_ct_out (p : Nat → Bool) (b : Bool) {i n : Nat} (h : n ≤ i) : fb_ct (fun k => if k = i then b else p k) n = fb_ct p n :=
  fb_ct_cong fun k hk => if_neg (by omega)
theorem fb_ct_upd (p : Nat → Bool) (b : Bool) {i : Nat} : ∀ {n : Nat}, i < n → fb_ct (fun k => if k = i then b else p k) n + (if p i then 1 else 0) = fb_ct p n + (if b then 1 else 0)
  | 0, h => absurd h (Nat.not_lt_zero i)
  | n + 1, h => by
    rw [fb_ct_succ, fb_ct_succ]
    rcases Nat.lt_or_ge i n with q | q
    · have := fb_ct_upd p b q
      have e : (if n = i then b else p n) = p n := if_neg (by omega)
      rw [e]
      omega
    · have e : i = n := by omega
      subst e
      rw [fb_ct_out p b (Nat.le_refl _)]
      simp only [if_true]
      omega
/-! ===== the way of the load: a search over the places, breadth first, shared by the class and the reference ===== -/
abbrev bS : Type := (Nat → Int32) × (Nat → Nat) × Nat
def updN (f : Nat → Nat) (k x : Nat) : Nat → Nat := fun j => if j = k then x else f j
def vis (sf : Nat → Nat → Bool) (far : Int32) (d r : Nat) (S : bS) : bS := if (3 ≤ r ∧ r ≤ 30) ∧ S.1 (8 * r + d) = -1 ∧ sf d r = true then (upd S.1 (8 * r + d) far, updN S.2.1 S.2.2 (8 * r + d), S.2.2 + 1) else S
def vis4 (sf : Nat → Nat → Bool) (c : Nat) (S : bS) : bS :=
  vis sf (S.1 c + 1) (c % 8) (c / 8 - 1) (vis sf (S.1 c + 1) (c % 8) (c / 8 + 1) (vis sf (S.1 c + 1) ((c % 8 + 7) % 8) (c / 8) (vis sf (S.1 c + 1) ((c % 8 + 1) % 8) (c / 8) S)))
def bfs (sf : Nat → Nat → Bool) : Nat → Nat → bS → bS
  | 0, _, S => S
  | f + 1, i, S => if i < S.2.2 then bfs sf f (i + 1) (vis4 sf (S.2.1 i) S) else S
def goS (sf : Nat → Nat → Bool) (d r : Nat) : bS := bfs sf 225 0 (vis sf 0 d r (fun _ => -1, fun _ => 0, 0))
def bInv (S : bS) : Prop := (∀ i, i < S.2.2 → 24 ≤ S.2.1 i ∧ S.2.1 i < 248 ∧ ∃ k, k ≤ i ∧ S.1 (S.2.1 i) = nI k) ∧ fb_ct (fun j => decide (S.1 (24 + j) ≠ -1)) 224 = S.2.2
theorem bInv_le {S : bS} (h : bInv S) : S.2.2 ≤ 224 := by rw [← h.2]; exact fb_ct_le _ _
theorem nI_nm1 {k : Nat} (h : k < 2 ^ 31) : nI k ≠ -1 := by
  intro e
  have h1 := nI_toInt h
  rw [e] at h1
  have h2 : (-1 : Int32).toInt = -1 := by decide
  omega
theorem vis_no {sf : Nat → Nat → Bool} {far : Int32} {d r : Nat} {S : bS} (h : ¬ ((3 ≤ r ∧ r ≤ 30) ∧ S.1 (8 * r + d) = -1 ∧ sf d r = true)) : vis sf far d r S = S := if_neg h
theorem vis_yes {sf : Nat → Nat → Bool} {far : Int32} {d r : Nat} {S : bS} (h : (3 ≤ r ∧ r ≤ 30) ∧ S.1 (8 * r + d) = -1 ∧ sf d r = true) : vis sf far d r S = (upd S.1 (8 * r + d) far, updN S.2.1 S.2.2 (8 * r + d), S.2.2 + 1) := if_pos h
theorem vis_inv {sf : Nat → Nat → Bool} {d r k : Nat} {S : bS} (h : bInv S) (hd : d < 8) (hk : k ≤ S.2.2) : bInv (vis sf (nI k) d r S) := by
  by_cases c : (3 ≤ r ∧ r ≤ 30) ∧ S.1 (8 * r + d) = -1 ∧ sf d r = true
  · rw [vis_yes c]
    obtain ⟨hr, hm, -⟩ := c
    have hn := bInv_le h
    refine ⟨fun i hi => ?_, ?_⟩
    · show 24 ≤ updN S.2.1 S.2.2 (8 * r + d) i ∧ updN S.2.1 S.2.2 (8 * r + d) i < 248 ∧ ∃ j, j ≤ i ∧ upd S.1 (8 * r + d) (nI k) (updN S.2.1 S.2.2 (8 * r + d) i) = nI j
      have hi' : i < S.2.2 + 1 := hi
      by_cases e : i = S.2.2
      · have e1 : updN S.2.1 S.2.2 (8 * r + d) i = 8 * r + d := if_pos e
        rw [e1]
        exact ⟨by omega, by omega, k, by omega, pk_us⟩
      · have e1 : updN S.2.1 S.2.2 (8 * r + d) i = S.2.1 i := if_neg e
        rw [e1]
        obtain ⟨a1, a2, j, a3, a4⟩ := h.1 i (by omega)
        refine ⟨a1, a2, j, a3, ?_⟩
        rw [pk_un]
        · exact a4
        · intro z
          rw [z, hm] at a4
          exact nI_nm1 (by omega) a4.symm
    · show fb_ct (fun j => decide (upd S.1 (8 * r + d) (nI k) (24 + j) ≠ -1)) 224 = S.2.2 + 1
      have e : (fun j => decide (upd S.1 (8 * r + d) (nI k) (24 + j) ≠ -1)) = fun j => if j = 8 * r + d - 24 then true else decide (S.1 (24 + j) ≠ -1) := by
        funext j
        by_cases z : j = 8 * r + d - 24
        · have z1 : 24 + j = 8 * r + d := by omega
          rw [if_pos z, z1, pk_us]
          exact decide_eq_true (nI_nm1 (by omega))
        · rw [if_neg z, pk_un (by omega)]
      rw [e]
      have u := fb_ct_upd (fun j => decide (S.1 (24 + j) ≠ -1)) true (i := 8 * r + d - 24) (n := 224) (by omega)
      have z1 : 24 + (8 * r + d - 24) = 8 * r + d := by omega
      rw [h.2] at u
      simp only [z1, hm, ne_eq, not_true_eq_false, decide_false, if_true] at u
      simpa using u
  · rw [vis_no c]
    exact h
theorem vis_n {sf : Nat → Nat → Bool} {far : Int32} {d r : Nat} {S : bS} : S.2.2 ≤ (vis sf far d r S).2.2 ∧ ∀ i, i < S.2.2 → (vis sf far d r S).2.1 i = S.2.1 i := by
  by_cases c : (3 ≤ r ∧ r ≤ 30) ∧ S.1 (8 * r + d) = -1 ∧ sf d r = true
  · rw [vis_yes c]
    exact ⟨Nat.le_succ _, fun i hi => if_neg (by omega)⟩
  · rw [vis_no c]
    exact ⟨Nat.le_refl _, fun _ _ => rfl⟩
/-- what the four visits of a place start from: its distance is a small number, one more than that is no more than the number found -/
theorem bInv_far {S : bS} (h : bInv S) {i : Nat} (hi : i < S.2.2) : ∃ k, k < S.2.2 ∧ S.1 (S.2.1 i) = nI k ∧ S.1 (S.2.1 i) + 1 = nI (k + 1) := by
  obtain ⟨-, -, k, h1, h2⟩ := h.1 i hi
  exact ⟨k, by omega, h2, by rw [h2]; exact nI_1 k⟩
theorem vis4_inv {sf : Nat → Nat → Bool} {S : bS} (h : bInv S) {i : Nat} (hi : i < S.2.2) : bInv (vis4 sf (S.2.1 i) S) ∧ S.2.2 ≤ (vis4 sf (S.2.1 i) S).2.2 := by
  obtain ⟨k, h1, -, h3⟩ := bInv_far h hi
  unfold vis4
  rw [h3]
  have m8 : ∀ z : Nat, z % 8 < 8 := fun z => Nat.mod_lt _ (by decide)
  have i1 := vis_inv (sf := sf) (d := (S.2.1 i % 8 + 1) % 8) (r := S.2.1 i / 8) h (m8 _) (k := k + 1) (by omega)
  have n1 := (vis_n (sf := sf) (far := nI (k + 1)) (d := (S.2.1 i % 8 + 1) % 8) (r := S.2.1 i / 8) (S := S)).1
  generalize vis sf (nI (k + 1)) ((S.2.1 i % 8 + 1) % 8) (S.2.1 i / 8) S = S1 at i1 n1 ⊢
  have i2 := vis_inv (sf := sf) (d := (S.2.1 i % 8 + 7) % 8) (r := S.2.1 i / 8) i1 (m8 _) (k := k + 1) (by omega)
  have n2 := (vis_n (sf := sf) (far := nI (k + 1)) (d := (S.2.1 i % 8 + 7) % 8) (r := S.2.1 i / 8) (S := S1)).1
  generalize vis sf (nI (k + 1)) ((S.2.1 i % 8 + 7) % 8) (S.2.1 i / 8) S1 = S2 at i2 n2 ⊢
  have i3 := vis_inv (sf := sf) (d := S.2.1 i % 8) (r := S.2.1 i / 8 + 1) i2 (m8 _) (k := k + 1) (by omega)
  have n3 := (vis_n (sf := sf) (far := nI (k + 1)) (d := S.2.1 i % 8) (r := S.2.1 i / 8 + 1) (S := S2)).1
  generalize vis sf (nI (k + 1)) (S.2.1 i % 8) (S.2.1 i / 8 + 1) S2 = S3 at i3 n3 ⊢
  have i4 := vis_inv (sf := sf) (d := S.2.1 i % 8) (r := S.2.1 i / 8 - 1) i3 (m8 _) (k := k + 1) (by omega)
  have n4 := (vis_n (sf := sf) (far := nI (k + 1)) (d := S.2.1 i % 8) (r := S.2.1 i / 8 - 1) (S := S3)).1
  exact ⟨i4, by omega⟩
theorem b0_inv : bInv ((fun _ => -1, fun _ => 0, 0) : bS) := by
  refine ⟨fun i hi => absurd hi (Nat.not_lt_zero i), ?_⟩
  show fb_ct (fun _ => decide ((-1 : Int32) ≠ -1)) 224 = 0
  decide +kernel
theorem bfs_stop {sf : Nat → Nat → Bool} {f i : Nat} {S : bS} (h : ¬ i < S.2.2) : bfs sf f i S = S := by
  cases f with
  | zero => rfl
  | succ f => exact if_neg h
theorem bfs_go {sf : Nat → Nat → Bool} {f i : Nat} {S : bS} (h : i < S.2.2) : bfs sf (f + 1) i S = bfs sf f (i + 1) (vis4 sf (S.2.1 i) S) := if_pos h
theorem bfs_inv {sf : Nat → Nat → Bool} : ∀ {f i : Nat} {S : bS}, bInv S → bInv (bfs sf f i S)
  | 0, _, _, h => h
  | f + 1, i, S, h => by
    by_cases c : i < S.2.2
    · rw [bfs_go c]
      exact bfs_inv (vis4_inv h c).1
    · rw [bfs_stop c]
      exact h
theorem goS_inv {sf : Nat → Nat → Bool} {d r : Nat} (hd : d < 8) : bInv (goS sf d r) := bfs_inv (vis_inv (k := 0) b0_inv hd (Nat.zero_le _))
/-- the number of a place, in the class -/
def plc (d r : Nat) : Nat := d * 28 + (r - 3)
/-- the class' two rows against the search -/
def bC (S : bS) (fm ff : Nat → Int32) : Prop := (∀ d r, d < 8 → 3 ≤ r → r ≤ 30 → fm (plc d r) = S.1 (8 * r + d)) ∧ ∀ i, i < S.2.2 → ff i = nI (plc (S.2.1 i % 8) (S.2.1 i / 8))
theorem plc_lt {d r : Nat} (hd : d < 8) (hr : 3 ≤ r ∧ r ≤ 30) : plc d r < 224 := by unfold plc; omega
theorem plc_inj {d r d2 r2 : Nat} (hr : 3 ≤ r ∧ r ≤ 30) (hr2 : 3 ≤ r2 ∧ r2 ≤ 30) (h : plc d r = plc d2 r2) : d = d2 ∧ r = r2 := by unfold plc at h; omega
theorem bC_vis {sf : Nat → Nat → Bool} {far : Int32} {d r : Nat} {S : bS} {fm ff : Nat → Int32} (h : bC S fm ff) (hd : d < 8) (c : (3 ≤ r ∧ r ≤ 30) ∧ S.1 (8 * r + d) = -1 ∧ sf d r = true) : bC (vis sf far d r S) (upd fm (plc d r) far) (upd ff S.2.2 (nI (plc d r))) := by
  rw [vis_yes c]
  obtain ⟨hr, -, -⟩ := c
  refine ⟨fun d2 r2 hd2 h1 h2 => ?_, fun i hi => ?_⟩
  · show upd fm (plc d r) far (plc d2 r2) = upd S.1 (8 * r + d) far (8 * r2 + d2)
    by_cases e : plc d2 r2 = plc d r
    · obtain ⟨rfl, rfl⟩ := plc_inj ⟨h1, h2⟩ hr e
      rw [pk_us, pk_us]
    · rw [pk_un e, pk_un]
      · exact h.1 d2 r2 hd2 h1 h2
      · intro z
        have : d2 = d ∧ r2 = r := by omega
        rw [this.1, this.2] at e
        exact e rfl
  · have hi' : i < S.2.2 + 1 := hi
    show upd ff S.2.2 (nI (plc d r)) i = nI (plc (updN S.2.1 S.2.2 (8 * r + d) i % 8) (updN S.2.1 S.2.2 (8 * r + d) i / 8))
    by_cases e : i = S.2.2
    · have e1 : updN S.2.1 S.2.2 (8 * r + d) i = 8 * r + d := if_pos e
      rw [e1, e, pk_us]
      congr 2 <;> omega
    · have e1 : updN S.2.1 S.2.2 (8 * r + d) i = S.2.1 i := if_neg e
      rw [e1, pk_un e]
      exact h.2 i (by omega)
/-- the reference's two rows against the search -/
def bM (S : bS) (fa fq : Nat → Int32) : Prop := (∀ c, c < 248 → fa c = S.1 c) ∧ ∀ i, i < S.2.2 → fq i = nI (S.2.1 i)
theorem bM_vis {sf : Nat → Nat → Bool} {far : Int32} {d r : Nat} {S : bS} {fa fq : Nat → Int32} (h : bM S fa fq) (c : (3 ≤ r ∧ r ≤ 30) ∧ S.1 (8 * r + d) = -1 ∧ sf d r = true) : bM (vis sf far d r S) (upd fa (8 * r + d) far) (upd fq S.2.2 (nI (8 * r + d))) := by
  rw [vis_yes c]
  refine ⟨fun z hz => ?_, fun i hi => ?_⟩
  · show upd fa (8 * r + d) far z = upd S.1 (8 * r + d) far z
    by_cases e : z = 8 * r + d
    · rw [e, pk_us, pk_us]
    · rw [pk_un e, pk_un e]
      exact h.1 z hz
  · have hi' : i < S.2.2 + 1 := hi
    show upd fq S.2.2 (nI (8 * r + d)) i = nI (updN S.2.1 S.2.2 (8 * r + d) i)
    by_cases e : i = S.2.2
    · have e1 : updN S.2.1 S.2.2 (8 * r + d) i = 8 * r + d := if_pos e
      rw [e1, e, pk_us]
    · have e1 : updN S.2.1 S.2.2 (8 * r + d) i = S.2.1 i := if_neg e
      rw [e1, pk_un e]
      exact h.2 i (by omega)
theorem bInv_room {S : bS} (h : bInv S) {c : Nat} (hc : 24 ≤ c ∧ c < 248) (hm : S.1 c = -1) : S.2.2 < 224 := by
  have u := fb_ct_upd (fun j => decide (S.1 (24 + j) ≠ -1)) true (i := c - 24) (n := 224) (by omega)
  have l := fb_ct_le (fun k => if k = c - 24 then true else (fun j => decide (S.1 (24 + j) ≠ -1)) k) 224
  have z1 : 24 + (c - 24) = c := by omega
  rw [h.2] at u
  simp only [z1, hm, ne_eq, not_true_eq_false, decide_false, if_true] at u
  simp only [Bool.false_eq_true, if_false] at u
  simp only [ne_eq] at l
  omega
theorem isR_yes {r : Nat} (h : 3 ≤ r ∧ r ≤ 30) : bI (decide (3 ≤ nI r) && decide (nI r ≤ 30)) = 1 := isW_yes (nI_le (a := 3) h.1 (by omega)) (nI_le (b := 30) h.2 (by decide))
theorem isR_no {r : Nat} (hr : r < 100) (h : ¬ (3 ≤ r ∧ r ≤ 30)) : bI (decide (3 ≤ nI r) && decide (nI r ≤ 30)) = 0 := by
  rcases Nat.lt_or_ge r 3 with z | z
  · exact isW_n1 (nI_ge (b := 3) z (by decide))
  · exact isW_n2 (nI_ge (a := 30) (by omega) (by omega))
theorem plc_i {d r : Nat} (hd : d < 8) (hr : 3 ≤ r ∧ r ≤ 30) : nI d * 28 + nI r - 3 = nI (plc d r) := by
  have h1 : nI d * 28 = nI (d * 28) := pk_mul d 28
  rw [h1, nI_add]
  have h2 : nI (d * 28 + r) - 3 = nI (d * 28 + r - 3) := pk_sub (b := 3) (by omega)
  rw [h2]
  congr 1
  unfold plc
  omega
theorem plc_d {d r : Nat} (hd : d < 8) (hr : 3 ≤ r ∧ r ≤ 30) : nI (plc d r) / 28 = nI d := by
  have h := plc_lt hd hr
  have h1 : nI (plc d r) / 28 = nI (plc d r / 28) := pk_div (d := 28) (by omega) (by decide) (by decide)
  rw [h1]
  congr 1
  unfold plc
  omega
theorem plc_r {d r : Nat} (hd : d < 8) (hr : 3 ≤ r ∧ r ≤ 30) : nI (plc d r) - nI (plc d r) / 28 * 28 + 3 = nI r := by
  have h := plc_lt hd hr
  have h1 : nI (plc d r) - nI (plc d r) / 28 * 28 = nI (plc d r % 28) := pk_rem (d := 28) (by omega) (by decide) (by decide)
  rw [h1]
  have h2 : nI (plc d r % 28) + 3 = nI (plc d r % 28 + 3) := nI_add _ 3
  rw [h2]
  congr 1
  unfold plc
  omega
