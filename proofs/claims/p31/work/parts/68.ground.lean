theorem c_arrc {args : Array Value} {s : State} {ty : FieldType} (h : (Cond.arrayClass ty).before args s = true) : ∃ cA : ClassId, ArrOfT s cA ty ∧ s.vm.findClass ("[" ++ ty.toString) = some cA := by
  obtain ⟨cA, kA, comp, h1, h2, h3⟩ := Cond.arrayClass_spec h
  exact ⟨cA, fun n z => ⟨fun k h => (by cases h), kA, h2, comp, h3⟩, h1⟩
theorem c_strs {b : Nat} {s : State} (hts : ∀ w ∈ lw_tbl, w.before #[Value.ref b] s = true) (hs : ∀ w ∈ flatC (Jvm.Cond.and given_1 narrow_1), w.before #[Value.ref b] s = true) : ∀ z ∈ kStrs, ∃ a, vk_R RX2 z.1 z.2 a s := by
  intro z hz
  simp only [kStrs, List.mem_cons, List.not_mem_nil, or_false] at hz
  rcases hz with rfl | rfl | rfl | rfl | rfl | rfl | rfl | rfl | rfl | rfl | rfl | rfl | rfl
  · obtain ⟨a, -, -, -, h, -⟩ := Cond.exactly_spec (hs (.exactly (.string RX2 111) "java/lang/String") (by decide +kernel))
    exact ⟨a, vk_R.of (hts (.stringRef RX2 111 "metres must be 1 to 30") (by decide +kernel)) h⟩
  · obtain ⟨a, -, -, -, h, -⟩ := Cond.exactly_spec (hs (.exactly (.string RX2 155) "java/lang/String") (by decide +kernel))
    exact ⟨a, vk_R.of (hts (.stringRef RX2 155 "it would not be safe then") (by decide +kernel)) h⟩
  · obtain ⟨a, -, -, -, h, -⟩ := Cond.exactly_spec (hs (.exactly (.string RX2 157) "java/lang/String") (by decide +kernel))
    exact ⟨a, vk_R.of (hts (.stringRef RX2 157 "a load hangs on the boom") (by decide +kernel)) h⟩
  · obtain ⟨a, -, -, -, h, -⟩ := Cond.exactly_spec (hs (.exactly (.string RX2 161) "java/lang/String") (by decide +kernel))
    exact ⟨a, vk_R.of (hts (.stringRef RX2 161 "side must be 0 to 3") (by decide +kernel)) h⟩
  · obtain ⟨a, -, -, -, h, -⟩ := Cond.exactly_spec (hs (.exactly (.string RX2 164) "java/lang/String") (by decide +kernel))
    exact ⟨a, vk_R.of (hts (.stringRef RX2 164 "direction must be 0 to 7") (by decide +kernel)) h⟩
  · obtain ⟨a, -, -, -, h, -⟩ := Cond.exactly_spec (hs (.exactly (.string RX2 166) "java/lang/String") (by decide +kernel))
    exact ⟨a, vk_R.of (hts (.stringRef RX2 166 "load must be 0 to 60") (by decide +kernel)) h⟩
  · obtain ⟨a, -, -, -, h, -⟩ := Cond.exactly_spec (hs (.exactly (.string RX2 168) "java/lang/String") (by decide +kernel))
    exact ⟨a, vk_R.of (hts (.stringRef RX2 168 "reach must be 3 to 30") (by decide +kernel)) h⟩
  · obtain ⟨a, -, -, -, h, -⟩ := Cond.exactly_spec (hs (.exactly (.string RX2 36) "java/lang/String") (by decide +kernel))
    exact ⟨a, vk_R.of (hts (.stringRef RX2 36 "plates must be 0 to 12") (by decide +kernel)) h⟩
  · obtain ⟨a, -, -, -, h, -⟩ := Cond.exactly_spec (hs (.exactly (.string RX2 59) "java/lang/String") (by decide +kernel))
    exact ⟨a, vk_R.of (hts (.stringRef RX2 59 "out must be 0 to 6") (by decide +kernel)) h⟩
  · obtain ⟨a, -, -, -, h, -⟩ := Cond.exactly_spec (hs (.exactly (.string RX2 75) "java/lang/String") (by decide +kernel))
    exact ⟨a, vk_R.of (hts (.stringRef RX2 75 "limit must be 0 to 60") (by decide +kernel)) h⟩
  · obtain ⟨a, -, -, -, h, -⟩ := Cond.exactly_spec (hs (.exactly (.string RX2 83) "java/lang/String") (by decide +kernel))
    exact ⟨a, vk_R.of (hts (.stringRef RX2 83 "load must be 1 to 60") (by decide +kernel)) h⟩
  · obtain ⟨a, -, -, -, h, -⟩ := Cond.exactly_spec (hs (.exactly (.string RX2 93) "java/lang/String") (by decide +kernel))
    exact ⟨a, vk_R.of (hts (.stringRef RX2 93 "no load hangs on the boom") (by decide +kernel)) h⟩
  · obtain ⟨a, -, -, -, h, -⟩ := Cond.exactly_spec (hs (.exactly (.string RX2 96) "java/lang/String") (by decide +kernel))
    exact ⟨a, vk_R.of (hts (.stringRef RX2 96 "steps must be 1 to 8") (by decide +kernel)) h⟩
theorem c_ground {b : Nat} {s : State} (hts : ∀ w ∈ lw_tbl, w.before #[Value.ref b] s = true) (hs : ∀ w ∈ flatC (Jvm.Cond.and given_1 narrow_1), w.before #[Value.ref b] s = true) : kE s.heap.size s s.heap := by
  have hA : ∀ a : Nat, a < s.heap.size → ¬ (fun q : Nat => s.heap.size ≤ q) a := fun a h => Nat.not_le.mpr h
  refine ⟨Nat.le_refl _, vx_Zqof (hts (.laysStatic Bundle.tN "UNASSIGNED_STACK" Bundle.steD) (by decide +kernel)) (hts (.initialized Bundle.tN) (by decide +kernel)) (hs (.isRef (.static Bundle.tN "UNASSIGNED_STACK" Bundle.steD)) (by decide +kernel)) hA, vx_Zqof (hts (.laysStatic Bundle.tN "SUPPRESSED_SENTINEL" Bundle.listD) (by decide +kernel)) (hts (.initialized Bundle.tN) (by decide +kernel)) (hs (.isRef (.static Bundle.tN "SUPPRESSED_SENTINEL" Bundle.listD)) (by decide +kernel)) hA, va_Nw.of (by decide +kernel) (hts _ (show Cond.castable "[I" "java/lang/Cloneable" ∈ lw_tbl by decide +kernel)), c_strs hts hs, ?_, ?_, ?_, trivial⟩
  · exact ⟨va_Nw.of (by decide +kernel) (hts _ (show Cond.methodLinkNest RX2 21 yX0_init "CraneReach" ∈ lw_tbl by decide +kernel)), va_Nw.of (by decide +kernel) (hts _ (show Cond.methodLinkNest RX0 34 yX2_turned "CraneReach" ∈ lw_tbl by decide +kernel)), va_Nw.of (by decide +kernel) (hts _ (show Cond.methodLinkNest RX0 43 yX2_isReach "CraneReach" ∈ lw_tbl by decide +kernel))⟩
  · exact ⟨va_Nw.of (by decide +kernel) (hts _ (show Cond.castable xIAE xIAE ∈ lw_tbl by decide +kernel)), va_Nw.of (by decide +kernel) (hts _ (show Cond.castable xISE xISE ∈ lw_tbl by decide +kernel)), va_Nw.of (by decide +kernel) (hts _ (show Cond.castable xIOB xIOB ∈ lw_tbl by decide +kernel))⟩
  · exact ⟨va_Nw.of (by decide +kernel) (hts _ (show Cond.declares (Bundle.initS "java/lang/RuntimeException") ∈ lw_tbl by decide +kernel)), va_Nw.of (by decide +kernel) (hts _ (show Cond.declares (Bundle.initS "java/lang/Exception") ∈ lw_tbl by decide +kernel)), va_Nw.of (by decide +kernel) (hts _ (show Cond.declares (Bundle.initS Bundle.tN) ∈ lw_tbl by decide +kernel))⟩
