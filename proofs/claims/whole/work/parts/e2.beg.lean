/-! the start: what the Statement gives is enough for the walk *) -/
set_option maxRecDepth 100000 in
set_option maxHeartbeats 4000000 in
theorem s_str {s : State} {b : Nat} (hs : ∀ w ∈ jF, w.before #[Value.ref b] s = true) : ∃ adK adV : Nat → Nat, vk_S 11 jLen jByt adK adV (fun q => s.heap.size ≤ q) s s.heap ∧ ∀ i : Nat, i < 11 → (jTm i).eval #[Value.ref b] s none [] s = some (.ref (adK i)) :=
  vk_Sof j_ll (fun i hi => hs _ (j_ex i hi)) (fun i hi => hs _ (j_co i hi)) (fun i hi => hs _ (j_ar i hi)) (fun i hi => hs _ (j_le i hi)) (fun i hi j hj => hs _ (j_el i hi j hj)) (fun i j hi hj hij => (j_ne i hi j hj hij).elim (fun h => Or.inl (hs _ h)) (fun h => Or.inr (hs _ h))) (fun a h => Nat.not_le.mpr h)
theorem s_m11 {s : State} {b : Nat} (hs : ∀ w ∈ jF, w.before #[Value.ref b] s = true) : ∃ a : Nat, (Term.string "BedBook" 122).eval #[Value.ref b] s none [] s = some (.ref a) := by
  obtain ⟨a, c, cA, kA, q1, -⟩ := Cond.exactly_spec (args := #[Value.ref b]) (first := s) (o := none) (s := s) (idx := []) (t := .string "BedBook" 122) (cls := "java/lang/String") (hs _ (by decide +kernel))
  exact ⟨a, q1⟩
theorem s_m12 {s : State} {b : Nat} (hs : ∀ w ∈ jF, w.before #[Value.ref b] s = true) : ∃ a : Nat, (Term.string "BedBook" 233).eval #[Value.ref b] s none [] s = some (.ref a) := by
  obtain ⟨a, c, cA, kA, q1, -⟩ := Cond.exactly_spec (args := #[Value.ref b]) (first := s) (o := none) (s := s) (idx := []) (t := .string "BedBook" 233) (cls := "java/lang/String") (hs _ (by decide +kernel))
  exact ⟨a, q1⟩
theorem s_sio {s : State} {b : Nat} (hts : ∀ w ∈ lw_tbl, w.before #[Value.ref b] s = true) (hs : ∀ w ∈ jF, w.before #[Value.ref b] s = true) : ∃ vq : Option Nat, va_Z "jdk/internal/util/Preconditions" "SIOOBE_FORMATTER" "Ljava/util/function/BiFunction;" (va_rf vq) (fun q => s.heap.size ≤ q) s s.heap := by
  rcases va_Zqof (A := fun q => s.heap.size ≤ q) (hts (.laysStatic "jdk/internal/util/Preconditions" "SIOOBE_FORMATTER" "Ljava/util/function/BiFunction;") (by decide +kernel)) (hts (.initialized "jdk/internal/util/Preconditions") (by decide +kernel)) (hs (.isRef (.static "jdk/internal/util/Preconditions" "SIOOBE_FORMATTER" "Ljava/util/function/BiFunction;")) (by decide +kernel)) (fun a h => Nat.not_le.mpr h) with h | ⟨t, h⟩
  · exact ⟨none, h⟩
  · exact ⟨some t, h⟩
theorem s_cmp {s : State} {b : Nat} (hts : ∀ w ∈ lw_tbl, w.before #[Value.ref b] s = true) (hs : ∀ w ∈ jF, w.before #[Value.ref b] s = true) : va_Z "java/lang/String" "COMPACT_STRINGS" "Z" (.int 1) (fun q => s.heap.size ≤ q) s s.heap :=
  va_Zof (hts (.laysStatic "java/lang/String" "COMPACT_STRINGS" "Z") (by decide +kernel)) (hts (.initialized "java/lang/String") (by decide +kernel)) (va_eqi (hs (.eq (.static "java/lang/String" "COMPACT_STRINGS" "Z") (.int 1)) (by decide +kernel))) (fun a h => Nat.not_le.mpr h)
theorem s_th1 {s : State} {b : Nat} (hts : ∀ w ∈ lw_tbl, w.before #[Value.ref b] s = true) (hs : ∀ w ∈ jF, w.before #[Value.ref b] s = true) : vx_Zq Bundle.tN "UNASSIGNED_STACK" Bundle.steD (fun q => s.heap.size ≤ q) s s.heap :=
  vx_Zqof (hts (.laysStatic Bundle.tN "UNASSIGNED_STACK" Bundle.steD) (by decide +kernel)) (hts (.initialized Bundle.tN) (by decide +kernel)) (hs (.isRef (.static Bundle.tN "UNASSIGNED_STACK" Bundle.steD)) (by decide +kernel)) (fun a h => Nat.not_le.mpr h)
theorem s_th2 {s : State} {b : Nat} (hts : ∀ w ∈ lw_tbl, w.before #[Value.ref b] s = true) (hs : ∀ w ∈ jF, w.before #[Value.ref b] s = true) : vx_Zq Bundle.tN "SUPPRESSED_SENTINEL" Bundle.listD (fun q => s.heap.size ≤ q) s s.heap :=
  vx_Zqof (hts (.laysStatic Bundle.tN "SUPPRESSED_SENTINEL" Bundle.listD) (by decide +kernel)) (hts (.initialized Bundle.tN) (by decide +kernel)) (hs (.isRef (.static Bundle.tN "SUPPRESSED_SENTINEL" Bundle.listD)) (by decide +kernel)) (fun a h => Nat.not_le.mpr h)
theorem s_ref {s : State} {b : Nat} {E : Nat → Nat} (hts : ∀ w ∈ lw_tbl, w.before #[Value.ref b] s = true) (h1 : ∀ i : Nat, i < 11 → (jTm i).eval #[Value.ref b] s none [] s = some (.ref (E i))) (h2 : (Term.string "BedBook" 122).eval #[Value.ref b] s none [] s = some (.ref (E 11))) (h3 : (Term.string "BedBook" 233).eval #[Value.ref b] s none [] s = some (.ref (E 12))) : ∀ i : Nat, ∀ x : String × Nat × String, jK[i]? = some x → vk_R x.1 x.2.1 x.2.2 (E i) s := by
  intro i x hx
  match i, hx with
  | 0, hx =>
    obtain rfl := Option.some.inj (show some ("BedBook$Tokens", 60, "place") = some x from hx)
    exact vk_R.of (A := #[Value.ref b]) (hts (.stringRef "BedBook$Tokens" 60 "place") (by decide +kernel)) (h1 0 (by decide))
  | 1, hx =>
    obtain rfl := Option.some.inj (show some ("BedBook$Tokens", 66, "name") = some x from hx)
    exact vk_R.of (A := #[Value.ref b]) (hts (.stringRef "BedBook$Tokens" 66 "name") (by decide +kernel)) (h1 1 (by decide))
  | 2, hx =>
    obtain rfl := Option.some.inj (show some ("BedBook$Tokens", 68, "house") = some x from hx)
    exact vk_R.of (A := #[Value.ref b]) (hts (.stringRef "BedBook$Tokens" 68 "house") (by decide +kernel)) (h1 2 (by decide))
  | 3, hx =>
    obtain rfl := Option.some.inj (show some ("BedBook$Tokens", 70, "aim") = some x from hx)
    exact vk_R.of (A := #[Value.ref b]) (hts (.stringRef "BedBook$Tokens" 70 "aim") (by decide +kernel)) (h1 3 (by decide))
  | 4, hx =>
    obtain rfl := Option.some.inj (show some ("BedBook$Tokens", 72, "cut") = some x from hx)
    exact vk_R.of (A := #[Value.ref b]) (hts (.stringRef "BedBook$Tokens" 72 "cut") (by decide +kernel)) (h1 4 (by decide))
  | 5, hx =>
    obtain rfl := Option.some.inj (show some ("BedBook$Tokens", 74, "pieces") = some x from hx)
    exact vk_R.of (A := #[Value.ref b]) (hts (.stringRef "BedBook$Tokens" 74 "pieces") (by decide +kernel)) (h1 5 (by decide))
  | 6, hx =>
    obtain rfl := Option.some.inj (show some ("BedBook$Tokens", 76, "day") = some x from hx)
    exact vk_R.of (A := #[Value.ref b]) (hts (.stringRef "BedBook$Tokens" 76 "day") (by decide +kernel)) (h1 6 (by decide))
  | 7, hx =>
    obtain rfl := Option.some.inj (show some ("BedBook$Tokens", 78, "and") = some x from hx)
    exact vk_R.of (A := #[Value.ref b]) (hts (.stringRef "BedBook$Tokens" 78 "and") (by decide +kernel)) (h1 7 (by decide))
  | 8, hx =>
    obtain rfl := Option.some.inj (show some ("BedBook$Tokens", 80, "let") = some x from hx)
    exact vk_R.of (A := #[Value.ref b]) (hts (.stringRef "BedBook$Tokens" 80 "let") (by decide +kernel)) (h1 8 (by decide))
  | 9, hx =>
    obtain rfl := Option.some.inj (show some ("BedBook$Tokens", 82, "bar") = some x from hx)
    exact vk_R.of (A := #[Value.ref b]) (hts (.stringRef "BedBook$Tokens" 82 "bar") (by decide +kernel)) (h1 9 (by decide))
  | 10, hx =>
    obtain rfl := Option.some.inj (show some ("BedBook$Tokens", 84, "when") = some x from hx)
    exact vk_R.of (A := #[Value.ref b]) (hts (.stringRef "BedBook$Tokens" 84 "when") (by decide +kernel)) (h1 10 (by decide))
  | 11, hx =>
    obtain rfl := Option.some.inj (show some ("BedBook", 122, "no such plant, day or kind of name") = some x from hx)
    exact vk_R.of (A := #[Value.ref b]) (hts (.stringRef "BedBook" 122 "no such plant, day or kind of name") (by decide +kernel)) h2
  | 12, hx =>
    obtain rfl := Option.some.inj (show some ("BedBook", 233, "no such plant or thing to look at") = some x from hx)
    exact vk_R.of (A := #[Value.ref b]) (hts (.stringRef "BedBook" 233 "no such plant or thing to look at") (by decide +kernel)) h3
  | i + 13, hx => simp [jK] at hx
