/-! ===== numbers of the law's own crane ===== -/
theorem safS_iff {fo fl : Nat → Int32} {pl tons : Int32} {d r : Nat} : safS fo fl pl tons d r = true ↔ tons ≤ fl r ∧ strS fo pl 0 tons d r ≤ 0 ∧ strS fo pl 1 tons d r ≤ 0 ∧ strS fo pl 2 tons d r ≤ 0 ∧ strS fo pl 3 tons d r ≤ 0 := by
  simp [safS]
theorem upd_back {f : Nat → Int32} {k : Nat} {x : Int32} : upd (upd f k x) k (f k) = f := by
  funext j
  show (if j = k then f k else if j = k then x else f j) = f j
  by_cases e : j = k
  · rw [if_pos e, e]
  · rw [if_neg e, if_neg e]
def mvI (ld mo : Int32) (k : Nat) : Int32 := if 0 < ld then mo + nI k else mo
theorem mvI_0 (ld mo : Int32) : mvI ld mo 0 = mo := by
  unfold mvI
  split
  · show mo + 0 = mo
    exact Int32.add_zero mo
  · rfl
theorem mvI_s (ld mo : Int32) (k : Nat) : mvI ld mo k + (if 0 < ld then 1 else 0) = mvI ld mo (k + 1) := by
  unfold mvI
  split
  · rw [Int32.add_assoc, nI_1]
  · exact Int32.add_zero mo
/-- the slants by their places -/
def slA : Nat → Int32 := upd (upd (upd (upd (upd (upd (upd (upd (fun _ => 0) 0 10) 1 7) 2 0) 3 (-7)) 4 (-10)) 5 (-7)) 6 0) 7 7
theorem slA_at : ∀ j, j < 8 → slA j = slT j := by decide +kernel
theorem slA_n {d k : Nat} : slA ((d + 8 - 2 * k) % 8) = slN d k := slA_at _ (Nat.mod_lt _ (by decide))
theorem slx2 : ∀ d, d < 8 → ∀ k, k < 4 → (nI d + 8 - 2 * nI k) - (nI d + 8 - 2 * nI k) / 8 * 8 = nI ((d + 8 - 2 * k) % 8) := by decide +kernel
theorem strS_ring (l a s g p : Int32) : l * a * s - l * (20 + 10 * g) - 8 * p * s - 2 * p * (20 + 10 * g) - 20 * (20 + 10 * g) = l * (a * s - 10 * (2 + g)) - p * 2 * (4 * s + 10 * (2 + g)) - 20 * (10 * (2 + g)) := by grind
theorem strS_s {fo : Nat → Int32} {pl ld : Int32} {d r k : Nat} : ld * nI r * slN d k - ld * (20 + 10 * fo k) - 8 * pl * slN d k - 2 * pl * (20 + 10 * fo k) - 20 * (20 + 10 * fo k) = strS fo pl k ld d r := by
  rw [strS, eS]
  exact strS_ring ld (nI r) (slN d k) (fo k) pl
/-- the greatest load as the law looks for it -/
def gbN (sf : Nat → Bool) : Nat → Int32
  | 0 => -1
  | n + 1 => if sf n = true then nI n else gbN sf n
theorem gbN_gr {sf : Nat → Bool} : ∀ {n : Nat}, (∃ k, k ≤ n ∧ sf k = true) → gbN sf (n + 1) = nI (grN sf n)
  | 0, ⟨k, hk, h⟩ => by
    have e : k = 0 := by omega
    rw [gbN, if_pos (e ▸ h), grN]
  | n + 1, ⟨k, hk, h⟩ => by
    by_cases c : sf (n + 1) = true
    · rw [gbN, if_pos c, grN, if_pos c]
    · rw [gbN, if_neg c, grN, if_neg c]
      refine gbN_gr ⟨k, ?_, h⟩
      rcases Nat.lt_or_ge k (n + 1) with z | z
      · omega
      · have e : k = n + 1 := by omega
        exact absurd (e ▸ h) c
/-- the weakest side as the law looks for it: from side 3 down -/
def wdN (st : Nat → Int32) : Nat → Nat
  | 0 => 3
  | n + 1 => if st (3 - n) < st (wdN st n) then wdN st n else 3 - n
theorem wdN_lt {st : Nat → Int32} : ∀ n, wdN st n < 4
  | 0 => by show 3 < 4; decide
  | n + 1 => by
    rw [wdN]
    split
    · exact wdN_lt n
    · omega
/-- the road of moves: how many, and where it ends -/
def mvN (sf : Nat → Nat → Bool) (fd fr : Nat → Nat) : Nat → Nat → Nat → Nat × Nat × Nat
  | 0, d, r => (0, d, r)
  | n + 1, d, r => if (3 ≤ fr r ∧ fr r ≤ 30) ∧ sf (fd d) (fr r) = true then ((mvN sf fd fr n (fd d) (fr r)).1 + 1, (mvN sf fd fr n (fd d) (fr r)).2) else (0, d, r)
theorem mvN_sw {sf : Nat → Nat → Bool} {cw : Bool} {r : Nat} (hr : 3 ≤ r ∧ r ≤ 30) : ∀ {n d : Nat}, mvN sf (swX cw) (fun z => z) n d r = ((swN (fun k => sf k r) cw n d).1, (swN (fun k => sf k r) cw n d).2, r)
  | 0, _ => rfl
  | n + 1, d => by
    rw [mvN, swN]
    by_cases c : sf (swX cw d) r = true
    · rw [if_pos ⟨hr, c⟩, if_pos c, mvN_sw hr]
    · rw [if_neg (fun z => c z.2), if_neg c]
theorem mvN_st {sf : Nat → Nat → Bool} {ou : Bool} {d : Nat} : ∀ {n r : Nat}, mvN sf (fun z => z) (stX ou) n d r = ((stN (fun k => sf d k) ou n r).1, d, (stN (fun k => sf d k) ou n r).2)
  | 0, _ => rfl
  | n + 1, r => by
    rw [mvN, stN]
    by_cases c : (3 ≤ stX ou r ∧ stX ou r ≤ 30) ∧ sf d (stX ou r) = true
    · rw [if_pos c, if_pos c, mvN_st]
    · rw [if_neg c, if_neg c]
theorem mvN_le {sf : Nat → Nat → Bool} {fd fr : Nat → Nat} : ∀ {n d r : Nat}, (mvN sf fd fr n d r).1 ≤ n
  | 0, _, _ => Nat.le_refl _
  | n + 1, d, r => by
    rw [mvN]
    split
    · exact Nat.succ_le_succ mvN_le
    · exact Nat.zero_le _
/-- a draw out of the first n numbers -/
def blI (v n : Int32) : Int32 := (v &&& 2147483647) - (v &&& 2147483647) / n * n
theorem blI_nI (v : Int32) {n : Nat} (h0 : 0 < n) (hn : n < 2 ^ 31) : ∃ j, j < n ∧ blI v (nI n) = nI j := by
  obtain ⟨j, hj, e⟩ := pk_andE v (m := 2147483647) 31 (by decide)
  refine ⟨j % n, Nat.mod_lt _ h0, ?_⟩
  unfold blI
  rw [e]
  exact pk_rem hj h0 hn
def clI (L : Nat) (xs : Nat → Int32) (k : Int32) : Int32 := if nI L ≤ k then 790386105 * (k + 3) else xs k.toNatClampNeg
/-- it answers some new object, B holds of it and of the heap behind it, cells outside A are as they were -/
def cO (B : Nat → Heap → Prop) (A : Nat → Prop) : Array Value → State → Outcome → State → Prop := fun _ st oc t => (∃ o : Nat, oc = .returned (some (.ref o)) ∧ B o t.heap) ∧ va_F A st t
section CO
variable {p : Program} {l : Launch} {e : Env} {R : Room} {s : State} {m : MethodId} {args : Array Value} {below : List Frame} {meth : Method} {c : Code} {H : Heap} {locs : List Loc} {cells slots : Nat} {Q : State → Prop} {pc : Nat} {ls : Array Slot} {rest st0 : List Value} {a : Array Value} {A0 A1 : Nat → Prop} {H0 : Heap} {mc ms : Nat} {free : Addr → Prop}
theorem c_callO {B : Nat → Heap → Prop} (hr : va_Run p l e R s m args below meth c H locs cells slots mc ms (F0 m pc ls st0) rest (cO B A1 a) free) (hS : va_S A0 H0 H locs) (hA : ∀ q, q < H.size → A1 q → A0 q) (hf : ∀ q, free q → A0 q)
    (kk : ∀ (o : Nat) (H1 : Heap) (locs1 : List Loc), B o H1 → H.size ≤ H1.size → (∀ q : Nat, q < H.size → ¬ A1 q → H1[q]? = H[q]?) → va_S A0 H0 H1 locs1 → W p l e R s m args below meth c H1 locs1 (cells + mc) (slots + ms) Q (F0 m (pc + 3) ls (.ref o :: rest))) : W p l e R s m args below meth c H locs cells slots Q (F0 m pc ls st0) := by
  intro T hT X
  obtain ⟨v', st₀, t, T', L, h0, X', hL, e1, e2, ⟨⟨o, hv, hb⟩, hF⟩, st⟩ := hr T hT X
  cases hv
  obtain ⟨k1, k2, k3⟩ := vx_keep h0 e1 hS hA hf hL hF
  obtain ⟨t2, a1, b1⟩ := kk o T'.heap (locs ++ L) (by rw [e1]; exact hb) k1 k2 k3 T' rfl X'
  exact ⟨t2, st t2 a1, b1⟩
end CO
theorem c_area {wc : va_W} {H H1 : Heap} (hk : ∀ q : Nat, q < H.size → ¬ va_A wc H.size q → H1[q]? = H[q]?) : ∀ q : Nat, q < H.size → ¬ cA wc q → H1[q]? = H[q]? :=
  fun q hq hn => hk q hq (fun z => z.elim hn (fun z => absurd hq (Nat.not_lt.mpr z)))
/-! doubles: the mean is a number -/
theorem fl_n64 {x : UInt64} (h : Jvm.FP.Core.dIsNaN x = false) : vf_n64 x := by
  rw [← Bool.not_eq_true, Jvm.FP.Core.isNaN_bits] at h
  unfold vf_n64
  rw [UInt64.le_iff_toNat_le, UInt64.toNat_and, show (0x7fffffffffffffff : UInt64).toNat = 2 ^ 63 - 1 from by decide, show (0x7ff0000000000000 : UInt64).toNat = 9218868437227405312 from by decide, Nat.and_two_pow_sub_one_eq_mod]
  omega
theorem fl_div {t n : Int32} (h : ¬ n = 0) : Jvm.FP.Core.dIsNaN (FP.ddiv (FP.i2d t) (FP.i2d n)) = false :=
  Jvm.FP.Core.ddiv_out (Jvm.FP.Core.i2d_fin t).notNaN (Jvm.FP.Core.i2d_fin n) (fun z => Jvm.FP.Core.i2d_ne_zero h ((Jvm.FP.Core.zero_bits2 _).mp z))
theorem mn_no (li tl : Int32) : Jvm.FP.Core.dIsNaN (mnS li tl) = false := by
  unfold mnS
  split
  · decide +kernel
  · rename_i h
    exact fl_div h
theorem mn_cmp (li tl : Int32) : Op.cmpValue (FP.dcmp (mnS li tl) (mnS li tl)) CmpOp.l = 0 := by
  rw [show FP.dcmp (mnS li tl) (mnS li tl) = some .eq from Jvm.FP.Core.dcmp_refl (mn_no li tl)]
  rfl
theorem i_total {a b : Int32} (h : ¬ a < b) : b ≤ a := Int32.not_lt.mp h
theorem wkN_max {st : Nat → Int32} : ∀ {n k : Nat}, k < n → st k ≤ st (wkN st n)
  | 0, k, h => absurd h (Nat.not_lt_zero k)
  | n + 1, k, h => by
    rw [wkN]
    by_cases h0 : n = 0
    · rw [if_pos h0]
      have e : k = 0 := by omega
      rw [e]
      exact Int32.le_refl _
    · rw [if_neg h0]
      by_cases c : st (wkN st n) < st n
      · rw [if_pos c]
        rcases Nat.lt_or_ge k n with z | z
        · exact Int32.le_trans (wkN_max z) (Int32.le_of_lt c)
        · have e : k = n := by omega
          rw [e]
          exact Int32.le_refl _
      · rw [if_neg c]
        rcases Nat.lt_or_ge k n with z | z
        · exact wkN_max z
        · have e : k = n := by omega
          rw [e]
          exact Int32.not_lt.mp c
theorem wkN_first {st : Nat → Int32} : ∀ {n k : Nat}, k < wkN st n → st k < st (wkN st n)
  | 0, k, h => absurd h (Nat.not_lt_zero k)
  | n + 1, k, h => by
    by_cases h0 : n = 0
    · rw [wkN, if_pos h0] at h
      exact absurd h (Nat.not_lt_zero k)
    · by_cases c : st (wkN st n) < st n
      · rw [wkN, if_neg h0, if_pos c] at h
        rw [wkN, if_neg h0, if_pos c]
        exact Int32.lt_of_le_of_lt (wkN_max h) c
      · rw [wkN, if_neg h0, if_neg c] at h
        rw [wkN, if_neg h0, if_neg c]
        exact wkN_first h
theorem wdN_all {st : Nat → Int32} : ∀ {n : Nat}, n ≤ 3 → 3 - n ≤ wdN st (n + 1) ∧ ∀ k, 3 - n ≤ k → k ≤ 3 → st k ≤ st (wdN st (n + 1)) ∧ (k < wdN st (n + 1) → st k < st (wdN st (n + 1)))
  | 0, _ => by
    have e : wdN st 1 = 3 := by
      show (if st (3 - 0) < st 3 then 3 else 3 - 0) = 3
      split <;> rfl
    rw [e]
    refine ⟨Nat.le_refl _, fun k h1 h2 => ?_⟩
    have e2 : k = 3 := by omega
    rw [e2]
    exact ⟨Int32.le_refl _, fun z => absurd z (Nat.lt_irrefl 3)⟩
  | n + 1, h => by
    obtain ⟨g1, g2⟩ := wdN_all (st := st) (n := n) (by omega)
    by_cases c : st (3 - (n + 1)) < st (wdN st (n + 1))
    · have e : wdN st (n + 1 + 1) = wdN st (n + 1) := if_pos c
      rw [e]
      refine ⟨by omega, fun k h1 h2 => ?_⟩
      rcases Nat.lt_or_ge k (3 - n) with z | z
      · have e2 : k = 3 - (n + 1) := by omega
        rw [e2]
        exact ⟨Int32.le_of_lt c, fun _ => c⟩
      · exact g2 k z h2
    · have e : wdN st (n + 1 + 1) = 3 - (n + 1) := if_neg c
      rw [e]
      refine ⟨Nat.le_refl _, fun k h1 h2 => ⟨?_, fun z => by omega⟩⟩
      rcases Nat.lt_or_ge k (3 - n) with z | z
      · have e2 : k = 3 - (n + 1) := by omega
        rw [e2]
        exact Int32.le_refl _
      · exact Int32.le_trans (g2 k z h2).1 (Int32.not_lt.mp c)
/-- both ways of looking for the weakest side find the same one -/
theorem wd_wk {st : Nat → Int32} : wkN st 4 = wdN st 4 := by
  obtain ⟨-, g2⟩ := wdN_all (st := st) (n := 3) (Nat.le_refl 3)
  have g2' : ∀ k, k ≤ 3 → st k ≤ st (wdN st 4) ∧ (k < wdN st 4 → st k < st (wdN st 4)) := fun k hk => g2 k (by omega) hk
  have hd := wdN_lt (st := st) 4
  have hk : wkN st 4 < 4 := wkN_lt (Nat.le_refl 4) (by decide)
  rcases Nat.lt_or_ge (wkN st 4) (wdN st 4) with z | z
  · have h1 := (g2' (wkN st 4) (by omega)).2 z
    exact absurd h1 (Int32.not_lt.mpr (wkN_max hd))
  · rcases Nat.lt_or_ge (wdN st 4) (wkN st 4) with y | y
    · have h1 := wkN_first y
      exact absurd h1 (Int32.not_lt.mpr (g2' (wkN st 4) (by omega)).1)
    · omega
