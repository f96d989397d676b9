/-! ===== what the law asks, of numbers alone ===== -/
theorem saf_st {fo fl : Nat → Int32} {pl tons : Int32} {d r : Nat} (h : safS fo fl pl tons d r = true) : ∀ k, k < 4 → strS fo pl k tons d r ≤ 0 := by
  obtain ⟨-, h0, h1, h2, h3⟩ := safS_iff.mp h
  intro k hk
  rcases (show k = 0 ∨ k = 1 ∨ k = 2 ∨ k = 3 by omega) with rfl | rfl | rfl | rfl
  · exact h0
  · exact h1
  · exact h2
  · exact h3
theorem grN_max {sf : Nat → Bool} : ∀ {n k : Nat}, k ≤ n → 1 ≤ k → sf k = true → k ≤ grN sf n
  | 0, k, h, h1, _ => by omega
  | n + 1, k, h, h1, hs => by
    rw [grN]
    by_cases c : sf (n + 1) = true
    · rw [if_pos c]; exact h
    · rw [if_neg c]
      rcases Nat.lt_or_ge k (n + 1) with z | z
      · exact grN_max (by omega) h1 hs
      · have e : k = n + 1 := by omega
        exact absurd (e ▸ hs) c
theorem grN_safe {sf : Nat → Bool} : ∀ {n : Nat}, grN sf n = 0 ∨ sf (grN sf n) = true
  | 0 => Or.inl rfl
  | n + 1 => by
    rw [grN]
    by_cases c : sf (n + 1) = true
    · rw [if_pos c]; exact Or.inr c
    · rw [if_neg c]; exact grN_safe
/-- the greatest load: no less than what hangs, safe, one more is not -/
theorem gr_all {sf : Nat → Bool} {k : Nat} (hk : k ≤ 60) (hs : sf k = true) : k ≤ grN sf 60 ∧ sf (grN sf 60) = true ∧ (grN sf 60 < 60 → sf (grN sf 60 + 1) = false) := by
  have h1 : k ≤ grN sf 60 := by
    rcases Nat.lt_or_ge 0 k with z | z
    · exact grN_max hk z hs
    · omega
  refine ⟨h1, ?_, fun h => ?_⟩
  · rcases grN_safe (sf := sf) (n := 60) with e | e
    · have e2 : k = 0 := by omega
      rw [e, ← e2]
      exact hs
    · exact e
  · cases hz : sf (grN sf 60 + 1) with
    | false => rfl
    | true =>
      have := grN_max (n := 60) (sf := sf) (k := grN sf 60 + 1) (by omega) (by omega) hz
      omega
theorem faN_spec {sf : Nat → Bool} : ∀ {n r : Nat}, r ≤ faN sf n r ∧ faN sf n r ≤ r + n ∧ (∀ k, r ≤ k → k < faN sf n r → sf k = true) ∧ (faN sf n r < r + n → sf (faN sf n r) = false)
  | 0, r => ⟨Nat.le_refl _, Nat.le_refl _, fun k h1 h2 => by
      have h2' : k < r := h2
      omega, fun h => by
      have h' : r < r + 0 := h
      omega⟩
  | n + 1, r => by
    rw [faN]
    by_cases c : sf r = true
    · rw [if_pos c]
      obtain ⟨h1, h2, h3, h4⟩ := faN_spec (sf := sf) (n := n) (r := r + 1)
      refine ⟨by omega, by omega, fun k hk1 hk2 => ?_, fun h => h4 (by omega)⟩
      rcases Nat.lt_or_ge r k with z | z
      · exact h3 k (by omega) hk2
      · have e : k = r := by omega
        rw [e]; exact c
    · rw [if_neg c]
      exact ⟨Nat.le_refl _, Nat.le_add_right _ _, fun k hk1 hk2 => by omega, fun _ => by
        cases hz : sf r with
        | false => rfl
        | true => exact absurd hz c⟩
theorem pnN_spec {sf : Nat → Bool} : ∀ {n k : Nat}, (∃ p, k ≤ p ∧ p < k + n ∧ pnN sf n k = nI p ∧ sf p = true ∧ ∀ q, k ≤ q → q < p → sf q = false) ∨ (pnN sf n k = -1 ∧ ∀ q, k ≤ q → q < k + n → sf q = false)
  | 0, k => Or.inr ⟨rfl, fun q h1 h2 => by omega⟩
  | n + 1, k => by
    rw [pnN]
    by_cases c : sf k = true
    · rw [if_pos c]
      exact Or.inl ⟨k, Nat.le_refl _, by omega, rfl, c, fun q h1 h2 => by omega⟩
    · rw [if_neg c]
      have c' : sf k = false := by
        cases hz : sf k with
        | false => rfl
        | true => exact absurd hz c
      rcases pnN_spec (sf := sf) (n := n) (k := k + 1) with ⟨p, h1, h2, h3, h4, h5⟩ | ⟨h1, h2⟩
      · refine Or.inl ⟨p, by omega, by omega, h3, h4, fun q q1 q2 => ?_⟩
        rcases Nat.lt_or_ge k q with z | z
        · exact h5 q (by omega) q2
        · have e : q = k := by omega
          rw [e]; exact c'
      · refine Or.inr ⟨h1, fun q q1 q2 => ?_⟩
        rcases Nat.lt_or_ge k q with z | z
        · exact h2 q (by omega) (by omega)
        · have e : q = k := by omega
          rw [e]; exact c'
theorem boN_in {can : Nat → Bool} {own : Nat → Int32} : ∀ {n : Nat}, (boN can own n).1 = -1 ∨ ∃ k, k < n ∧ (boN can own n).1 = nI k ∧ can k = true
  | 0 => Or.inl rfl
  | n + 1 => by
    have ih := boN_in (can := can) (own := own) (n := n)
    have up : (boN can own n).1 = -1 ∨ ∃ k, k < n + 1 ∧ (boN can own n).1 = nI k ∧ can k = true := by
      rcases ih with h | ⟨k, h1, h2, h3⟩
      · exact Or.inl h
      · exact Or.inr ⟨k, by omega, h2, h3⟩
    rw [boN]
    by_cases c : can n = true
    · rw [if_pos c]
      by_cases c2 : (boN can own n).2 < own n
      · rw [if_pos c2]; exact Or.inr ⟨n, by omega, rfl, c⟩
      · rw [if_neg c2]; exact up
    · rw [if_neg c]; exact up
/-! the search: each place found is safe, has one beside it that is one move less away; it is 0 moves away just if it is the start -/
def bN (S : bS) (d2 r2 : Nat) (v : Int32) : Prop := S.1 (8 * r2 + (d2 + 1) % 8) = v ∨ S.1 (8 * r2 + (d2 + 7) % 8) = v ∨ (r2 < 30 ∧ S.1 (8 * (r2 + 1) + d2) = v) ∨ (3 < r2 ∧ S.1 (8 * (r2 - 1) + d2) = v)
def bJ (sf : Nat → Nat → Bool) (d r : Nat) (S : bS) : Prop := S.1 (8 * r + d) = nI 0 ∧ ∀ d2 r2, d2 < 8 → 3 ≤ r2 → r2 ≤ 30 → S.1 (8 * r2 + d2) = -1 ∨ ∃ j, j ≤ 224 ∧ S.1 (8 * r2 + d2) = nI j ∧ sf d2 r2 = true ∧ (j = 0 ↔ d2 = d ∧ r2 = r) ∧ ∀ i, j = i + 1 → bN S d2 r2 (nI i)
theorem upd_keep {f : Nat → Int32} {k c : Nat} {x v : Int32} (hk : f k = -1) (hv : ¬ v = -1) (h : f c = v) : upd f k x c = v := by
  by_cases e : c = k
  · rw [e, hk] at h
    exact absurd h.symm hv
  · rw [pk_un e]; exact h
theorem bN_keep {S : bS} {d2 r2 k : Nat} {x : Int32} {g : Nat → Nat} {n i : Nat} (hi : i < 2 ^ 31) (hk : S.1 k = -1) (h : bN S d2 r2 (nI i)) : bN (upd S.1 k x, g, n) d2 r2 (nI i) := by
  have hv := nI_nm1 hi
  rcases h with h | h | ⟨h0, h⟩ | ⟨h0, h⟩
  · exact Or.inl (upd_keep hk hv h)
  · exact Or.inr (Or.inl (upd_keep hk hv h))
  · exact Or.inr (Or.inr (Or.inl ⟨h0, upd_keep hk hv h⟩))
  · exact Or.inr (Or.inr (Or.inr ⟨h0, upd_keep hk hv h⟩))
/-- a visit from a place beside, k moves away -/
theorem bJ_vis {sf : Nat → Nat → Bool} {d r d1 r1 k : Nat} {S : bS} (hd : d < 8) (h : bJ sf d r S) (hd1 : d1 < 8) (hk : k < 224) (hb : (3 ≤ r1 ∧ r1 ≤ 30) → bN S d1 r1 (nI k)) : bJ sf d r (vis sf (nI (k + 1)) d1 r1 S) := by
  by_cases c : (3 ≤ r1 ∧ r1 ≤ 30) ∧ S.1 (8 * r1 + d1) = -1 ∧ sf d1 r1 = true
  · rw [vis_yes c]
    obtain ⟨hr1, hm, hs⟩ := c
    refine ⟨upd_keep hm (nI_nm1 (by decide)) h.1, fun d2 r2 h1 h2 h3 => ?_⟩
    by_cases e : d2 = d1 ∧ r2 = r1
    · obtain ⟨rfl, rfl⟩ := e
      refine Or.inr ⟨k + 1, by omega, pk_us, hs, ⟨fun z => by omega, fun z => ?_⟩, fun i hi => ?_⟩
      · have h0 := h.1
        rw [← z.1, ← z.2, hm] at h0
        exact absurd h0.symm (nI_nm1 (by decide))
      · have e2 : i = k := by omega
        rw [e2]
        exact bN_keep (by omega) hm (hb hr1)
    · have ne : 8 * r2 + d2 ≠ 8 * r1 + d1 := fun z => e (by omega)
      have ev : upd S.1 (8 * r1 + d1) (nI (k + 1)) (8 * r2 + d2) = S.1 (8 * r2 + d2) := pk_un ne
      rcases h.2 d2 r2 h1 h2 h3 with z | ⟨j, j1, j2, j3, j4, j5⟩
      · exact Or.inl (ev.trans z)
      · exact Or.inr ⟨j, j1, ev.trans j2, j3, j4, fun i hi => bN_keep (by omega) hm (j5 i hi)⟩
  · rw [vis_no c]
    exact h
/-- what is found stays -/
theorem vis_at {sf : Nat → Nat → Bool} {far v : Int32} {d1 r1 c : Nat} {S : bS} (hv : ¬ v = -1) (h : S.1 c = v) : (vis sf far d1 r1 S).1 c = v := by
  by_cases q : (3 ≤ r1 ∧ r1 ≤ 30) ∧ S.1 (8 * r1 + d1) = -1 ∧ sf d1 r1 = true
  · rw [vis_yes q]; exact upd_keep q.2.1 hv h
  · rw [vis_no q]; exact h
theorem bJ_vis4 {sf : Nat → Nat → Bool} {d r : Nat} {S : bS} (hd : d < 8) (h : bJ sf d r S) (hI : bInv S) {i : Nat} (hi : i < S.2.2) : bJ sf d r (vis4 sf (S.2.1 i) S) := by
  obtain ⟨k, hk, hk1, hk2⟩ := bInv_far hI hi
  obtain ⟨hc1, hc2, -⟩ := hI.1 i hi
  have hle := bInv_le hI
  generalize S.2.1 i = ct at hc1 hc2 hk1 hk2 ⊢
  have hv : ¬ nI k = -1 := nI_nm1 (by omega)
  have m8 : ∀ z : Nat, z % 8 < 8 := fun z => Nat.mod_lt _ (by decide)
  have e8 : 8 * (ct / 8) + ct % 8 = ct := by omega
  unfold vis4
  rw [hk2]
  have j1 := bJ_vis (sf := sf) (d1 := (ct % 8 + 1) % 8) (r1 := ct / 8) (k := k) hd h (m8 _) (by omega) (fun _ => Or.inr (Or.inl (by
    rw [show 8 * (ct / 8) + ((ct % 8 + 1) % 8 + 7) % 8 = ct by omega]; exact hk1)))
  have a1 := vis_at (sf := sf) (far := nI (k + 1)) (d1 := (ct % 8 + 1) % 8) (r1 := ct / 8) hv hk1
  generalize vis sf (nI (k + 1)) ((ct % 8 + 1) % 8) (ct / 8) S = S1 at j1 a1 ⊢
  have j2 := bJ_vis (sf := sf) (d1 := (ct % 8 + 7) % 8) (r1 := ct / 8) (k := k) hd j1 (m8 _) (by omega) (fun _ => Or.inl (by
    rw [show 8 * (ct / 8) + ((ct % 8 + 7) % 8 + 1) % 8 = ct by omega]; exact a1))
  have a2 := vis_at (sf := sf) (far := nI (k + 1)) (d1 := (ct % 8 + 7) % 8) (r1 := ct / 8) hv a1
  generalize vis sf (nI (k + 1)) ((ct % 8 + 7) % 8) (ct / 8) S1 = S2 at j2 a2 ⊢
  have j3 := bJ_vis (sf := sf) (d1 := ct % 8) (r1 := ct / 8 + 1) (k := k) hd j2 (m8 _) (by omega) (fun z => Or.inr (Or.inr (Or.inr ⟨by omega, by
    rw [show 8 * (ct / 8 + 1 - 1) + ct % 8 = ct by omega]; exact a2⟩)))
  have a3 := vis_at (sf := sf) (far := nI (k + 1)) (d1 := ct % 8) (r1 := ct / 8 + 1) hv a2
  generalize vis sf (nI (k + 1)) (ct % 8) (ct / 8 + 1) S2 = S3 at j3 a3 ⊢
  exact bJ_vis (sf := sf) (d1 := ct % 8) (r1 := ct / 8 - 1) (k := k) hd j3 (m8 _) (by omega) (fun z => Or.inr (Or.inr (Or.inl ⟨by omega, by
    rw [show 8 * (ct / 8 - 1 + 1) + ct % 8 = ct by omega]; exact a3⟩)))
theorem bfs_J {sf : Nat → Nat → Bool} {d r : Nat} (hd : d < 8) : ∀ {f i : Nat} {S : bS}, bJ sf d r S → bInv S → bJ sf d r (bfs sf f i S)
  | 0, _, _, h, _ => h
  | f + 1, i, S, h, hI => by
    by_cases c : i < S.2.2
    · rw [bfs_go c]
      exact bfs_J hd (bJ_vis4 hd h hI c) (vis4_inv hI c).1
    · rw [bfs_stop c]
      exact h
theorem bfs_n {sf : Nat → Nat → Bool} : ∀ {f i : Nat} {S : bS}, bInv S → S.2.2 ≤ (bfs sf f i S).2.2
  | 0, _, _, _ => Nat.le_refl _
  | f + 1, i, S, hI => by
    by_cases c : i < S.2.2
    · rw [bfs_go c]
      obtain ⟨h1, h2⟩ := vis4_inv (sf := sf) hI c
      exact Nat.le_trans h2 (bfs_n h1)
    · rw [bfs_stop c]
      exact Nat.le_refl _
theorem goS_yes {sf : Nat → Nat → Bool} {d r : Nat} (hd : d < 8) (hr : 3 ≤ r ∧ r ≤ 30) (h : sf d r = true) : bJ sf d r (goS sf d r) ∧ 0 < (goS sf d r).2.2 := by
  have c : (3 ≤ r ∧ r ≤ 30) ∧ ((fun _ => -1, fun _ => 0, 0) : bS).1 (8 * r + d) = -1 ∧ sf d r = true := ⟨hr, rfl, h⟩
  have h1 : bInv (vis sf 0 d r ((fun _ => -1, fun _ => 0, 0) : bS)) := vis_inv (k := 0) b0_inv hd (Nat.zero_le _)
  have h2 : bJ sf d r (vis sf 0 d r ((fun _ => -1, fun _ => 0, 0) : bS)) := by
    rw [vis_yes c]
    refine ⟨pk_us, fun d2 r2 q1 q2 q3 => ?_⟩
    by_cases e : d2 = d ∧ r2 = r
    · obtain ⟨rfl, rfl⟩ := e
      exact Or.inr ⟨0, by omega, pk_us, h, ⟨fun _ => ⟨rfl, rfl⟩, fun _ => rfl⟩, fun i hi => by omega⟩
    · exact Or.inl (pk_un (fun z => e (by omega)))
  refine ⟨bfs_J hd h2 h1, Nat.lt_of_lt_of_le ?_ (bfs_n h1)⟩
  rw [vis_yes c]
  exact Nat.one_pos
theorem goS_no {sf : Nat → Nat → Bool} {d r : Nat} (h : sf d r = false) : goS sf d r = (fun _ => -1, fun _ => 0, 0) := by
  unfold goS
  rw [vis_no (fun z => by rw [h] at z; exact absurd z.2.2 (by decide))]
  exact bfs_stop (Nat.not_lt_zero _)
/-- what the law's table holds: the distance of direction k and reach o, -1 beside the reaches -/
def awN (S : bS) (k o : Nat) : Int32 := if 3 ≤ o ∧ o ≤ 30 then S.1 (8 * o + k) else -1
theorem awN_in {S : bS} {k o : Nat} (h : 3 ≤ o ∧ o ≤ 30) : awN S k o = S.1 (8 * o + k) := if_pos h
/-- one place of the table: not reached, or j moves away, and all that the law asks of it -/
theorem aw_all {sf : Nat → Nat → Bool} {d r : Nat} (hd : d < 8) (hr : 3 ≤ r ∧ r ≤ 30) {k o : Nat} (hk : k < 8) (ho : 3 ≤ o ∧ o ≤ 30) :
    awN (goS sf d r) k o = -1 ∨ ∃ j, j ≤ 224 ∧ awN (goS sf d r) k o = nI j ∧ sf k o = true ∧ (j = 0 ↔ k = d ∧ o = r) ∧ ∀ i, j = i + 1 →
      awN (goS sf d r) ((k + 1) % 8) o = nI i ∨ awN (goS sf d r) ((k + 7) % 8) o = nI i ∨ awN (goS sf d r) k (o + 1) = nI i ∨ awN (goS sf d r) k (o - 1) = nI i := by
  cases hs : sf d r with
  | false =>
    rw [goS_no hs]
    exact Or.inl (awN_in ho)
  | true =>
    obtain ⟨hJ, -⟩ := goS_yes hd hr hs
    rcases hJ.2 k o hk ho.1 ho.2 with h | ⟨j, h1, h2, h3, h4, h5⟩
    · exact Or.inl ((awN_in ho).trans h)
    · refine Or.inr ⟨j, h1, (awN_in ho).trans h2, h3, h4, fun i hi => ?_⟩
      rcases h5 i hi with z | z | ⟨z0, z⟩ | ⟨z0, z⟩
      · exact Or.inl ((awN_in ho).trans z)
      · exact Or.inr (Or.inl ((awN_in ho).trans z))
      · exact Or.inr (Or.inr (Or.inl ((awN_in ⟨by omega, by omega⟩).trans z)))
      · exact Or.inr (Or.inr (Or.inr ((awN_in ⟨by omega, by omega⟩).trans z)))
/-! how many places: by directions, then by reaches -/
def ctK (S : bS) (k : Nat) : Nat → Nat
  | 0 => 0
  | n + 1 => ctK S k n + (if S.1 (8 * (n + 3) + k) = -1 then 0 else 1)
theorem ctK_s (S : bS) (k n : Nat) : ctK S k (n + 1) = ctK S k n + (if S.1 (8 * (n + 3) + k) = -1 then 0 else 1) := rfl
def ctT (S : bS) : Nat → Nat
  | 0 => 0
  | k + 1 => ctT S k + ctK S k 28
theorem ctK_all {S : bS} : ∀ n, ctK S 0 n + ctK S 1 n + ctK S 2 n + ctK S 3 n + ctK S 4 n + ctK S 5 n + ctK S 6 n + ctK S 7 n = fb_ct (fun j => decide (S.1 (24 + j) ≠ -1)) (8 * n)
  | 0 => rfl
  | n + 1 => by
    have ih := ctK_all (S := S) n
    have one : ∀ k, (if decide (S.1 (24 + (8 * n + k)) ≠ -1) = true then 1 else 0) = (if S.1 (8 * (n + 3) + k) = -1 then 0 else 1) := by
      intro k
      rw [show 24 + (8 * n + k) = 8 * (n + 3) + k by omega]
      by_cases c : S.1 (8 * (n + 3) + k) = -1
      · simp [c]
      · simp [c]
    have s8 : fb_ct (fun j => decide (S.1 (24 + j) ≠ -1)) (8 * (n + 1)) = fb_ct (fun j => decide (S.1 (24 + j) ≠ -1)) (8 * n)
        + (if S.1 (8 * (n + 3) + 0) = -1 then 0 else 1) + (if S.1 (8 * (n + 3) + 1) = -1 then 0 else 1) + (if S.1 (8 * (n + 3) + 2) = -1 then 0 else 1) + (if S.1 (8 * (n + 3) + 3) = -1 then 0 else 1)
        + (if S.1 (8 * (n + 3) + 4) = -1 then 0 else 1) + (if S.1 (8 * (n + 3) + 5) = -1 then 0 else 1) + (if S.1 (8 * (n + 3) + 6) = -1 then 0 else 1) + (if S.1 (8 * (n + 3) + 7) = -1 then 0 else 1) := by
      rw [← one 0, ← one 1, ← one 2, ← one 3, ← one 4, ← one 5, ← one 6, ← one 7]
      show fb_ct (fun j => decide (S.1 (24 + j) ≠ -1)) (8 * n + 7 + 1) = _
      rfl
    rw [s8]
    simp only [ctK_s]
    omega
theorem ctT_all {S : bS} (h : bInv S) : ctT S 8 = S.2.2 := by
  have h1 := ctK_all (S := S) 28
  have h2 : fb_ct (fun j => decide (S.1 (24 + j) ≠ -1)) (8 * 28) = S.2.2 := h.2
  rw [h2] at h1
  show ((((((((0 + ctK S 0 28) + ctK S 1 28) + ctK S 2 28) + ctK S 3 28) + ctK S 4 28) + ctK S 5 28) + ctK S 6 28) + ctK S 7 28) = S.2.2
  omega
theorem ctK_le {S : bS} {k : Nat} : ∀ n, ctK S k n ≤ n
  | 0 => Nat.le_refl _
  | n + 1 => by
    have := ctK_le (S := S) (k := k) n
    rw [ctK_s]
    split <;> omega
theorem ctT_le {S : bS} : ∀ k, ctT S k ≤ 28 * k
  | 0 => Nat.le_refl _
  | k + 1 => by
    have := ctT_le (S := S) k
    have h2 := ctK_le (S := S) (k := k) 28
    show ctT S k + ctK S k 28 ≤ 28 * (k + 1)
    omega
/-! the rows of the table -/
def updG (g : Nat → Nat → Int32) (k : Nat) (f : Nat → Int32) : Nat → Nat → Int32 := fun j => if j = k then f else g j
theorem updG_s {g : Nat → Nat → Int32} {k : Nat} {f : Nat → Int32} : updG g k f k = f := if_pos rfl
theorem updG_n {g : Nat → Nat → Int32} {k j : Nat} {f : Nat → Int32} (h : j ≠ k) : updG g k f j = g j := if_neg h
section CAA
variable {p : Program} {l : Launch} {e : Env} {R : Room} {s : State} {m : MethodId} {args : Array Value} {below : List Frame} {meth : Method} {c : Code} {H : Heap} {locs : List Loc} {cells slots : Nat} {Q : State → Prop} {cc : ByteArray} {pc : Nat} {ls : Array Slot} {rest : List Value} {D : va_G} {cl : List vw_C} {a : Nat} {tys : List (ClassId × FieldType)} {ws : va_W}
theorem c_aaload (hexec : p.tables.exec = Jvm.exec) (hb : c.code = cc) (hK : va_K D cl tys s) (hP : va_P D cl ws H) (q0 t0 : Nat) {cA : ClassId} {ty : FieldType} {n : Nat} {f : Nat → Option Nat} (ha : ws[q0]? = some (a, .inl (cA, n, .inr (.inr (.inr (.inr f)))))) (ht : tys[t0]? = some (cA, .array ty)) {i : Int32} {v : Nat} (hin : vp_in i n) (hv : f i.toNatClampNeg = some v) (hdg : decode cc pc = .ok (.aaload, 1))
    (kk : W p l e R s m args below meth c H locs cells slots Q (F0 m (pc + 1) ls (.ref v :: rest))) : W p l e R s m args below meth c H locs cells slots Q (F0 m pc ls (.int i :: .ref a :: rest)) := by
  have hlt : i.toNatClampNeg < n := Nat.not_le.mp fun q => hin (Or.inr q)
  refine W.aald (v := va_rf (f i.toNatClampNeg)) (ty := .array ty) hexec hb (hP q0 _ ha) ((hK.2 t0 _ ht).1 n (fun j => va_rf (f j))) rfl (fun q => by cases q) (by show ¬ (i < 0 ∨ (arrV _ _ _).slots.size ≤ _); rw [arrV_size]; exact hin) (by show (arrV _ _ _).slots[_]? = _; rw [arrV_read _ _ hlt]) rfl rfl hdg ?_
  rw [hv]
  exact kk
theorem c_lcmp (hexec : p.tables.exec = Jvm.exec) (hb : c.code = cc) {x : Int64} (hdg : decode cc pc = .ok (.lcmp, 1)) (kk : W p l e R s m args below meth c H locs cells slots Q (F0 m (pc + 1) ls (.int 0 :: rest))) : W p l e R s m args below meth c H locs cells slots Q (F0 m pc ls (.long x :: .long x :: rest)) := by
  intro T hT X
  obtain ⟨t, a, b⟩ := kk T hT X
  refine ⟨t, ?_, b⟩
  jvm_step X.here [X.here.top, hexec, hb, hdg]
  exact a
end CAA
theorem c_rows {c0 c1 c2 c3 c4 c5 c6 c7 c8 c9 ca cb cc cd : Nat × va_E} {rr : Nat → Nat} {g : Nat → Nat → Int32} {cI : ClassId} {f : Nat → Int32} {k : Nat} (hk : k < 8) :
    ([c0, c1, c2, c3, c4, c5, c6, c7, c8, c9, ca, cb, cc, cd, (rr 0, .inl (cI, 32, .inl (g 0))), (rr 1, .inl (cI, 32, .inl (g 1))), (rr 2, .inl (cI, 32, .inl (g 2))), (rr 3, .inl (cI, 32, .inl (g 3))), (rr 4, .inl (cI, 32, .inl (g 4))), (rr 5, .inl (cI, 32, .inl (g 5))), (rr 6, .inl (cI, 32, .inl (g 6))), (rr 7, .inl (cI, 32, .inl (g 7)))] : va_W).set (14 + k) (rr k, .inl (cI, 32, .inl f)) =
    [c0, c1, c2, c3, c4, c5, c6, c7, c8, c9, ca, cb, cc, cd, (rr 0, .inl (cI, 32, .inl (updG g k f 0))), (rr 1, .inl (cI, 32, .inl (updG g k f 1))), (rr 2, .inl (cI, 32, .inl (updG g k f 2))), (rr 3, .inl (cI, 32, .inl (updG g k f 3))), (rr 4, .inl (cI, 32, .inl (updG g k f 4))), (rr 5, .inl (cI, 32, .inl (updG g k f 5))), (rr 6, .inl (cI, 32, .inl (updG g k f 6))), (rr 7, .inl (cI, 32, .inl (updG g k f 7)))] := by
  rcases (show k = 0 ∨ k = 1 ∨ k = 2 ∨ k = 3 ∨ k = 4 ∨ k = 5 ∨ k = 6 ∨ k = 7 by omega) with rfl | rfl | rfl | rfl | rfl | rfl | rfl | rfl <;> rfl
theorem m8_1 : ∀ z, z < 8 → (nI z + 1) - (nI z + 1) / 8 * 8 = nI ((z + 1) % 8) := by decide +kernel
theorem m8_7 : ∀ z, z < 8 → (nI z + 7) - (nI z + 7) / 8 * 8 = nI ((z + 7) % 8) := by decide +kernel
