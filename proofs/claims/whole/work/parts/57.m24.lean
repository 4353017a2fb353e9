section M24
variable {G : aG} {d : Nat} {z : aZ} {hr : aR} {H hl : aI} {go ma co by_ fr y : Int → Int} {p K : Int}
theorem mvB_nn {nP nB : Int} {S : Int → Int → Prop} {w : Int → Int → Int} {g cost b2 : Int → Int} (hC : mvC nP nB S w g y K) (h : mvB nP nB S w g y p cost b2) : 0 ≤ sm nB.toNat (fun b => cost b + y b) := by
  have := sm_le (f := fun _ => 0) (h := fun b => cost b + y b) nB.toNat fun i i0 i1 => by
    obtain ⟨T, u, h⟩ := h
    obtain ⟨r1, r2, r3⟩ := h i i0 (by omega)
    by_cases k : cost i < 1000000
    · exact (r3 k).2.1
    · have := (hC.1 i i0 (by omega)).1
      show 0 ≤ cost i + y i
      omega
  rw [sm_0] at this
  exact this
set_option maxRecDepth 100000 in
set_option maxHeartbeats 4000000 in
theorem be_195 {hi : aI} {Q : Option aV → aZ → aR → aI → aI → Prop} {e q a b : Int} {x6 : Option aV} (hq : 0 ≤ q ∧ q < 40) (k : a_wp G mX10_begins (d + 2) 52 [some (vR 37), some (vI p), some (vI e), some (vI (q + 1)), some (vI a), some (vI b), x6] [] z hr hi hl Q) : a_wp G mX10_begins (d + 2) 195 [some (vR 37), some (vI p), some (vI e), some (vI q), some (vI a), some (vI b), x6] [] z hr hi hl Q := by
  refine b_iinc (n := 198) dX10_begins_195 rfl (by decide) rfl rfl ⟨by omega, by omega⟩ ?_
  refine a_goto (t := 52) dX10_begins_198 rfl ?_
  exact k
set_option maxRecDepth 100000 in
set_option maxHeartbeats 4000000 in
theorem be_52 (hz : stZ z) (hR : stR hr) (hP : 0 ≤ H 37 25 ∧ H 37 25 ≤ 40) (hB : 0 ≤ H 37 45 ∧ H 37 45 ≤ 8) (hC : mvC (H 37 25) (H 37 45) (mS H) (mW H) go y K) (hK : K ≤ 1000) (hgp : go p = -1) {m : Int} {Q : Option aV → aZ → aR → aI → aI → Prop} (n : Nat) : ∀ (q e : Int) (x4 x5 x6 : Option aV) (co by_ fr : Int → Int), 0 ≤ q → q + n = H 37 25 → sI H go y p m q 0 e co by_ fr → (∀ (e : Int) (x3 x4 x5 x6 : Option aV) (co by_ fr : Int → Int), sI H go y p m (H 37 25) 0 e co by_ fr → a_wp G mX10_begins (d + 2) 44 [some (vR 37), some (vI p), some (vI e), x3, x4, x5, x6] [] z hr (mvH H go ma co by_ fr) hl Q) → a_wp G mX10_begins (d + 2) 52 [some (vR 37), some (vI p), some (vI e), some (vI q), x4, x5, x6] [] z hr (mvH H go ma co by_ fr) hl Q := by
  induction n with
  | zero =>
    intro q e x4 x5 x6 co by_ fr h0 hn hI K
    refine a_iload_n (n := 53) dX10_begins_52 rfl rfl ?_
    refine a_aload_n (n := 54) dX10_begins_53 rfl rfl ?_
    refine a_getI (n := 57) dX10_begins_54 rfl fX10_258 (s37 hz) ?_
    try simp only [up2_eq, mvH_eq, Nat.reduceEqDiff, Int.reduceEq, Int.reduceNeg, and_true, true_and, and_false, false_and, and_self, if_true, if_false, ite_true, ite_false, reduceIte, eq_self]
    refine a_icmp_ge (t := 201) (n := 60) dX10_begins_57 rfl rfl (fun c57 => ?_) (fun c57 => ?_)
    · refine a_goto (t := 44) dX10_begins_201 rfl ?_
      obtain rfl : q = H 37 25 := by omega
      exact K _ _ _ _ _ _ _ _ hI
    · omega
  | succ n ih =>
    intro q e x4 x5 x6 co by_ fr h0 hn hI K
    refine a_iload_n (n := 53) dX10_begins_52 rfl rfl ?_
    refine a_aload_n (n := 54) dX10_begins_53 rfl rfl ?_
    refine a_getI (n := 57) dX10_begins_54 rfl fX10_258 (s37 hz) ?_
    try simp only [up2_eq, mvH_eq, Nat.reduceEqDiff, Int.reduceEq, Int.reduceNeg, and_true, true_and, and_false, false_and, and_self, if_true, if_false, ite_true, ite_false, reduceIte, eq_self]
    refine a_icmp_ge (t := 201) (n := 60) dX10_begins_57 rfl rfl (fun c57 => ?_) (fun c57 => ?_)
    · omega
    · refine a_aload_n (n := 61) dX10_begins_60 rfl rfl ?_
      refine a_getR (n := 64) dX10_begins_61 rfl fX10_150 (s37 hz) (r37_49 hR) ?_
      refine a_iload_n (n := 65) dX10_begins_64 rfl rfl ?_
      refine a_iald (n := 66) dX10_begins_65 rfl (s73 hz) (by omega) (by omega) ?_
      try simp only [up2_eq, mvH_eq, Nat.reduceEqDiff, Int.reduceEq, Int.reduceNeg, and_true, true_and, and_false, false_and, and_self, if_true, if_false, ite_true, ite_false, reduceIte, eq_self]
      refine b_istore (n := 68) dX10_begins_66 rfl (by decide) rfl ?_
      refine a_iconst (n := 69) dX10_begins_68 rfl ⟨by decide, by decide⟩ ?_
      refine b_istore (n := 71) dX10_begins_69 rfl (by decide) rfl ?_
      refine be_71 hz hR hP hB hC hK hgp ⟨h0, by omega⟩ (H 37 45).toNat 0 e _ _ _ _ (by omega) (by omega) hI (fun b e x6 co by_ fr hI2 => ?_)
      exact be_195 ⟨h0, by omega⟩ (ih (q + 1) e _ _ _ _ _ _ (by omega) (by omega) hI2 K)
/-- what begins comes to -/
def bQ (z : aZ) (hr : aR) (H hl : aI) (go ma y : Int → Int) (p : Int) : Option aV → aZ → aR → aI → aI → Prop := fun r z' hr' hi' hl' => z' = z ∧ hr' = hr ∧ hl' = hl ∧ r = none ∧ ∃ co by_ fr : Int → Int, hi' = mvH H go ma co by_ fr ∧ mvB (H 37 25) (H 37 45) (mS H) (mW H) go y p co by_ ∧ mvF (H 37 25) (H 37 45) (mS H) (mW H) go co ∧ ∀ x, 0 ≤ x → x < H 37 45 → co x < 1000000 → fr x = go (by_ x)
set_option maxRecDepth 100000 in
set_option maxHeartbeats 4000000 in
theorem be_44e {x3 x4 x5 x6 : Option aV} (h1 : mvB (H 37 25) (H 37 45) (mS H) (mW H) go y p co by_) (h2 : mvF (H 37 25) (H 37 45) (mS H) (mW H) go co) (h3 : ∀ x, 0 ≤ x → x < H 37 45 → co x < 1000000 → fr x = go (by_ x)) : a_wp G mX10_begins (d + 2) 44 [some (vR 37), some (vI p), some (vI 0), x3, x4, x5, x6] [] z hr (mvH H go ma co by_ fr) hl (bQ z hr H hl go ma y p) := by
  refine a_iload_n (n := 45) dX10_begins_44 rfl rfl ?_
  refine a_if_eq (t := 204) (n := 48) dX10_begins_45 rfl rfl (fun c45 => ?_) (fun c45 => ?_)
  · refine a_return dX10_begins_204 rfl ?_
    exact ⟨rfl, rfl, rfl, rfl, co, by_, fr, rfl, h1, h2, h3⟩
  · omega
set_option maxRecDepth 100000 in
set_option maxHeartbeats 4000000 in
theorem be_44 (hz : stZ z) (hR : stR hr) (hP : 0 ≤ H 37 25 ∧ H 37 25 ≤ 40) (hB : 0 ≤ H 37 45 ∧ H 37 45 ≤ 8) (hC : mvC (H 37 25) (H 37 45) (mS H) (mW H) go y K) (hK : K ≤ 1000) (hgp : go p = -1) (n : Nat) : ∀ (x3 x4 x5 x6 : Option aV) (co by_ fr : Int → Int), sm (H 37 45).toNat (fun x => co x + y x) < n → mvB (H 37 25) (H 37 45) (mS H) (mW H) go y p co by_ → (∀ x, 0 ≤ x → x < H 37 45 → co x < 1000000 → fr x = go (by_ x)) → a_wp G mX10_begins (d + 2) 44 [some (vR 37), some (vI p), some (vI 1), x3, x4, x5, x6] [] z hr (mvH H go ma co by_ fr) hl (bQ z hr H hl go ma y p) := by
  induction n with
  | zero =>
    intro x3 x4 x5 x6 co by_ fr hn h1 h3
    have := mvB_nn hC h1
    omega
  | succ n ih =>
    intro x3 x4 x5 x6 co by_ fr hn h1 h3
    refine a_iload_n (n := 45) dX10_begins_44 rfl rfl ?_
    refine a_if_eq (t := 204) (n := 48) dX10_begins_45 rfl rfl (fun c45 => ?_) (fun c45 => ?_)
    · omega
    · refine a_iconst (n := 49) dX10_begins_48 rfl ⟨by decide, by decide⟩ ?_
      refine b_istore_n (n := 50) dX10_begins_49 rfl (by decide) rfl ?_
      refine a_iconst (n := 51) dX10_begins_50 rfl ⟨by decide, by decide⟩ ?_
      refine b_istore_n (n := 52) dX10_begins_51 rfl (by decide) rfl ?_
      refine be_52 hz hR hP hB hC hK hgp (m := sm (H 37 45).toNat (fun x => co x + y x)) (H 37 25).toNat 0 0 _ _ _ _ _ _ (by decide) (by omega) ⟨h1, h3, Or.inr ⟨rfl, Int.le_refl _, fun q' x q0 hq _ _ x0 => absurd hq (by omega)⟩⟩ (fun e x3 x4 x5 x6 co by_ fr hI => ?_)
      obtain ⟨i1, i2, i3⟩ := hI
      rcases i3 with ⟨rfl, i3⟩ | ⟨rfl, i3, i4⟩
      · exact ih _ _ _ _ _ _ _ (by omega) i1 i2
      · exact be_44e i1 (fun q q0 q1 hg hf b b0 b1 s => i4 q b q0 (Or.inl q1) hg hf b0 b1 s) i2
set_option maxRecDepth 100000 in
set_option maxHeartbeats 4000000 in
theorem be_42 (hz : stZ z) (hR : stR hr) (hP : 0 ≤ H 37 25 ∧ H 37 25 ≤ 40) (hB : 0 ≤ H 37 45 ∧ H 37 45 ≤ 8) (hC : mvC (H 37 25) (H 37 45) (mS H) (mW H) go y K) (hK : K ≤ 1000) (hgp : go p = -1) (hp : 0 ≤ p ∧ p < H 37 25) {x : Int} (hI : bI H p (H 37 45) co by_ fr) : a_wp G mX10_begins (d + 2) 42 [some (vR 37), some (vI p), some (vI x), none, none, none, none] [] z hr (mvH H go ma co by_ fr) hl (bQ z hr H hl go ma y p) := by
  refine a_iconst (n := 43) dX10_begins_42 rfl ⟨by decide, by decide⟩ ?_
  refine b_istore_n (n := 44) dX10_begins_43 rfl (by decide) rfl ?_
  have h1 := mvB_init (g := go) (y := y) (nB := H 37 45) mW_01 (fun b b0 b1 => (hC.1 b b0 b1).1) hp (fun b b0 b1 => by
    obtain ⟨q1, q2, q3⟩ := hI b b0 b1
    rcases q3 with q3 | q3
    · exact Or.inl ⟨q3.1, q3.2, q1⟩
    · exact Or.inr q3)
  exact be_44 hz hR hP hB hC hK hgp ((sm (H 37 45).toNat (fun x => co x + y x)).toNat + 1) _ _ _ _ _ _ _ (by omega) h1 (fun x x0 x1 _ => by
    obtain ⟨q1, q2, q3⟩ := hI x x0 x1
    rw [q1, q2, hgp])
set_option maxRecDepth 100000 in
set_option maxHeartbeats 4000000 in
theorem m_begins (hz : stZ z) (hR : stR hr) (hP : 0 ≤ H 37 25 ∧ H 37 25 ≤ 40) (hB : 0 ≤ H 37 45 ∧ H 37 45 ≤ 8) (hC : mvC (H 37 25) (H 37 45) (mS H) (mW H) go y K) (hK : K ≤ 1000) (hgp : go p = -1) (hp : 0 ≤ p ∧ p < H 37 25) : a_ct G mX10_begins (d + 2) [vR 37, vI p] z hr (mvH H go ma co by_ fr) hl (bQ z hr H hl go ma y p) := by
  refine a_ct_of rfl (Nat.le_of_ble_eq_true rfl) ?_
  refine a_iconst (n := 1) dX10_begins_0 rfl ⟨by decide, by decide⟩ ?_
  refine b_istore_n (n := 2) dX10_begins_1 rfl (by decide) rfl ?_
  exact be_2 hz hR hP hB hp (H 37 45).toNat 0 _ _ _ (by decide) (by omega) (fun x x0 x1 => by omega) (fun x co by_ fr hI => be_42 hz hR hP hB hC hK hgp hp hI)
/-- the best BED among the first n -/
def cB (H : aI) (ma co : Int → Int) (n t : Int) : Prop := (t = -1 ∧ ∀ x, 0 ≤ x → x < n → ¬ (ma x < H 72 x ∧ co x < 1000000)) ∨ (0 ≤ t ∧ t < n ∧ ma t < H 72 t ∧ co t < 1000000 ∧ ∀ x, 0 ≤ x → x < n → ma x < H 72 x → co x < 1000000 → co t ≤ co x)
theorem cB.no {n t : Int} (h : cB H ma co n t) (k : ¬ (ma n < H 72 n ∧ co n < 1000000 ∧ (t < 0 ∨ co n < co t))) : cB H ma co (n + 1) t := by
  rcases h with ⟨h1, h2⟩ | ⟨h1, h2, h3, h4, h5⟩
  · refine Or.inl ⟨h1, fun x x0 x1 => ?_⟩
    by_cases e : x = n
    · subst e; omega
    · exact h2 x x0 (by omega)
  · refine Or.inr ⟨h1, by omega, h3, h4, fun x x0 x1 k1 k2 => ?_⟩
    by_cases e : x = n
    · subst e; omega
    · exact h5 x x0 (by omega) k1 k2
theorem cB.yes {n t : Int} (h0 : 0 ≤ n) (h : cB H ma co n t) (k : ma n < H 72 n ∧ co n < 1000000 ∧ (t < 0 ∨ co n < co t)) : cB H ma co (n + 1) n := by
  refine Or.inr ⟨h0, by omega, k.1, k.2.1, fun x x0 x1 k1 k2 => ?_⟩
  by_cases e : x = n
  · rw [e]; exact Int.le_refl _
  · rcases h with ⟨h1, h2⟩ | ⟨h1, h2, h3, h4, h5⟩
    · exact absurd ⟨k1, k2⟩ (h2 x x0 (by omega))
    · have := h5 x x0 (by omega) k1 k2
      omega
set_option maxRecDepth 100000 in
set_option maxHeartbeats 4000000 in
theorem co_9 (hz : stZ z) (hR : stR hr) (hB : 0 ≤ H 37 45 ∧ H 37 45 ≤ 8) {Q : Option aV → aZ → aR → aI → aI → Prop} (n : Nat) : ∀ b t : Int, 0 ≤ b → b + n = H 37 45 → cB H ma co b t → (∀ t, cB H ma co (H 37 45) t → a_wp G mX10_comes (d + 3) 75 [some (vR 37), some (vI p), some (vI t), some (vI (H 37 45))] [] z hr (mvH H go ma co by_ fr) hl Q) → a_wp G mX10_comes (d + 3) 9 [some (vR 37), some (vI p), some (vI t), some (vI b)] [] z hr (mvH H go ma co by_ fr) hl Q := by
  induction n with
  | zero =>
    intro b t h0 hn hI K
    refine a_iload_n (n := 10) dX10_comes_9 rfl rfl ?_
    refine a_aload_n (n := 11) dX10_comes_10 rfl rfl ?_
    refine a_getI (n := 14) dX10_comes_11 rfl fX10_308 (s37 hz) ?_
    try simp only [up2_eq, mvH_eq, Nat.reduceEqDiff, Int.reduceEq, Int.reduceNeg, and_true, true_and, and_false, false_and, and_self, if_true, if_false, ite_true, ite_false, reduceIte, eq_self]
    refine a_icmp_ge (t := 75) (n := 17) dX10_comes_14 rfl rfl (fun c14 => ?_) (fun c14 => ?_)
    · obtain rfl : b = H 37 45 := by omega
      exact K _ hI
    · omega
  | succ n ih =>
    intro b t h0 hn hI K
    refine a_iload_n (n := 10) dX10_comes_9 rfl rfl ?_
    refine a_aload_n (n := 11) dX10_comes_10 rfl rfl ?_
    refine a_getI (n := 14) dX10_comes_11 rfl fX10_308 (s37 hz) ?_
    try simp only [up2_eq, mvH_eq, Nat.reduceEqDiff, Int.reduceEq, Int.reduceNeg, and_true, true_and, and_false, false_and, and_self, if_true, if_false, ite_true, ite_false, reduceIte, eq_self]
    refine a_icmp_ge (t := 75) (n := 17) dX10_comes_14 rfl rfl (fun c14 => ?_) (fun c14 => ?_)
    · omega
    · refine a_aload_n (n := 18) dX10_comes_17 rfl rfl ?_
      refine a_getR (n := 21) dX10_comes_18 rfl fX10_153 (s37 hz) (r37_50 hR) ?_
      refine a_iload_n (n := 22) dX10_comes_21 rfl rfl ?_
      refine a_iald (n := 23) dX10_comes_22 rfl (s74 hz) (by omega) (by omega) ?_
      try simp only [up2_eq, mvH_eq, Nat.reduceEqDiff, Int.reduceEq, Int.reduceNeg, and_true, true_and, and_false, false_and, and_self, if_true, if_false, ite_true, ite_false, reduceIte, eq_self]
      refine a_aload_n (n := 24) dX10_comes_23 rfl rfl ?_
      refine a_getR (n := 27) dX10_comes_24 rfl fX10_147 (s37 hz) (r37_48 hR) ?_
      refine a_iload_n (n := 28) dX10_comes_27 rfl rfl ?_
      refine a_iald (n := 29) dX10_comes_28 rfl (s72 hz) (by omega) (by omega) ?_
      try simp only [up2_eq, mvH_eq, Nat.reduceEqDiff, Int.reduceEq, Int.reduceNeg, and_true, true_and, and_false, false_and, and_self, if_true, if_false, ite_true, ite_false, reduceIte, eq_self]
      refine a_icmp_ge (t := 67) (n := 32) dX10_comes_29 rfl rfl (fun c29 => ?_) (fun c29 => ?_)
      · refine a_iload_n (n := 68) dX10_comes_67 rfl rfl ?_
        refine b_istore_n (n := 69) dX10_comes_68 rfl (by decide) rfl ?_
        refine b_iinc (n := 72) dX10_comes_69 rfl (by decide) rfl rfl ⟨by omega, by omega⟩ ?_
        refine a_goto (t := 9) dX10_comes_72 rfl ?_
        exact ih (b + 1) t (by omega) (by omega) (hI.no (by omega)) K
      · refine a_aload_n (n := 33) dX10_comes_32 rfl rfl ?_
        refine a_getR (n := 36) dX10_comes_33 rfl fX10_156 (s37 hz) (r37_51 hR) ?_
        refine a_iload_n (n := 37) dX10_comes_36 rfl rfl ?_
        refine a_iald (n := 38) dX10_comes_37 rfl (s75 hz) (by omega) (by omega) ?_
        try simp only [up2_eq, mvH_eq, Nat.reduceEqDiff, Int.reduceEq, Int.reduceNeg, and_true, true_and, and_false, false_and, and_self, if_true, if_false, ite_true, ite_false, reduceIte, eq_self]
        refine a_ldcw (v := 1000000) (n := 41) dX10_comes_38 rfl ⟨by decide, by decide⟩ cM317 (by decide) ?_
        refine a_icmp_ge (t := 67) (n := 44) dX10_comes_41 rfl rfl (fun c41 => ?_) (fun c41 => ?_)
        · refine a_iload_n (n := 68) dX10_comes_67 rfl rfl ?_
          refine b_istore_n (n := 69) dX10_comes_68 rfl (by decide) rfl ?_
          refine b_iinc (n := 72) dX10_comes_69 rfl (by decide) rfl rfl ⟨by omega, by omega⟩ ?_
          refine a_goto (t := 9) dX10_comes_72 rfl ?_
          exact ih (b + 1) t (by omega) (by omega) (hI.no (by omega)) K
        · refine a_iload_n (n := 45) dX10_comes_44 rfl rfl ?_
          refine a_if_lt (t := 63) (n := 48) dX10_comes_45 rfl rfl (fun c45 => ?_) (fun c45 => ?_)
          · refine a_iload_n (n := 64) dX10_comes_63 rfl rfl ?_
            refine a_goto (t := 68) dX10_comes_64 rfl ?_
            refine b_istore_n (n := 69) dX10_comes_68 rfl (by decide) rfl ?_
            refine b_iinc (n := 72) dX10_comes_69 rfl (by decide) rfl rfl ⟨by omega, by omega⟩ ?_
            refine a_goto (t := 9) dX10_comes_72 rfl ?_
            exact ih (b + 1) b (by omega) (by omega) (hI.yes h0 ⟨by omega, by omega, by omega⟩) K
          · have htb : t < b := by rcases hI with k | k; omega; exact k.2.1
            refine a_aload_n (n := 49) dX10_comes_48 rfl rfl ?_
            refine a_getR (n := 52) dX10_comes_49 rfl fX10_156 (s37 hz) (r37_51 hR) ?_
            refine a_iload_n (n := 53) dX10_comes_52 rfl rfl ?_
            refine a_iald (n := 54) dX10_comes_53 rfl (s75 hz) (by omega) (by omega) ?_
            try simp only [up2_eq, mvH_eq, Nat.reduceEqDiff, Int.reduceEq, Int.reduceNeg, and_true, true_and, and_false, false_and, and_self, if_true, if_false, ite_true, ite_false, reduceIte, eq_self]
            refine a_aload_n (n := 55) dX10_comes_54 rfl rfl ?_
            refine a_getR (n := 58) dX10_comes_55 rfl fX10_156 (s37 hz) (r37_51 hR) ?_
            refine a_iload_n (n := 59) dX10_comes_58 rfl rfl ?_
            refine a_iald (n := 60) dX10_comes_59 rfl (s75 hz) (by omega) (by omega) ?_
            try simp only [up2_eq, mvH_eq, Nat.reduceEqDiff, Int.reduceEq, Int.reduceNeg, and_true, true_and, and_false, false_and, and_self, if_true, if_false, ite_true, ite_false, reduceIte, eq_self]
            refine a_icmp_ge (t := 67) (n := 63) dX10_comes_60 rfl rfl (fun c60 => ?_) (fun c60 => ?_)
            · refine a_iload_n (n := 68) dX10_comes_67 rfl rfl ?_
              refine b_istore_n (n := 69) dX10_comes_68 rfl (by decide) rfl ?_
              refine b_iinc (n := 72) dX10_comes_69 rfl (by decide) rfl rfl ⟨by omega, by omega⟩ ?_
              refine a_goto (t := 9) dX10_comes_72 rfl ?_
              exact ih (b + 1) t (by omega) (by omega) (hI.no (by omega)) K
            · refine a_iload_n (n := 64) dX10_comes_63 rfl rfl ?_
              refine a_goto (t := 68) dX10_comes_64 rfl ?_
              refine b_istore_n (n := 69) dX10_comes_68 rfl (by decide) rfl ?_
              refine b_iinc (n := 72) dX10_comes_69 rfl (by decide) rfl rfl ⟨by omega, by omega⟩ ?_
              refine a_goto (t := 9) dX10_comes_72 rfl ?_
              exact ih (b + 1) b (by omega) (by omega) (hI.yes h0 ⟨by omega, by omega, by omega⟩) K
set_option maxRecDepth 100000 in
set_option maxHeartbeats 4000000 in
theorem co_93e {hi : aI} {Q : Option aV → aZ → aR → aI → aI → Prop} {t : Int} (k : a_wp G mX10_comes (d + 3) 119 [some (vR 37), some (vI p), some (vI t), some (vI (-1))] [] z hr hi hl Q) : a_wp G mX10_comes (d + 3) 93 [some (vR 37), some (vI p), some (vI t), some (vI (-1))] [] z hr hi hl Q := by
  refine a_iload_n (n := 94) dX10_comes_93 rfl rfl ?_
  refine a_if_lt (t := 119) (n := 97) dX10_comes_94 rfl rfl (fun c94 => ?_) (fun c94 => ?_)
  · exact k
  · omega
set_option maxRecDepth 100000 in
set_option maxHeartbeats 4000000 in
theorem co_93 (hz : stZ z) (hR : stR hr) (hP : 0 ≤ H 37 25 ∧ H 37 25 ≤ 40) (hB : 0 ≤ H 37 45 ∧ H 37 45 ≤ 8) (hgp : go p = -1) {rk : Int → Nat} (hrk : ∀ b, 0 ≤ b → b < H 37 45 → co b < 1000000 → (rk b : Int) < H 37 45 ∧ (¬ by_ b = p → rk (go (by_ b)) < rk b)) (hBB : mvB (H 37 25) (H 37 45) (mS H) (mW H) go y p co by_) (hfr : ∀ x, 0 ≤ x → x < H 37 45 → co x < 1000000 → fr x = go (by_ x)) {t : Int} {Q : Option aV → aZ → aR → aI → aI → Prop} (n : Nat) : ∀ (b : Int) (h : Int → Int), 0 ≤ b ∧ b < H 37 45 → co b < 1000000 → rk b < n → a_wp G mX10_comes (d + 3) 119 [some (vR 37), some (vI p), some (vI t), some (vI (-1))] [] z hr (mvH H (aug by_ go n b h) ma co by_ fr) hl Q → a_wp G mX10_comes (d + 3) 93 [some (vR 37), some (vI p), some (vI t), some (vI b)] [] z hr (mvH H h ma co by_ fr) hl Q := by
  induction n with
  | zero => intro b h _ _ hn; omega
  | succ n ih =>
    intro b h hb hf hn K
    rw [aug, if_neg (by omega)] at K
    have hq : 0 ≤ by_ b ∧ by_ b < H 37 25 := by
      obtain ⟨T, u, hB⟩ := hBB
      have := (hB b hb.1 hb.2).2.2 hf
      exact ⟨this.2.2.2.1, this.2.2.2.2.1⟩
    refine a_iload_n (n := 94) dX10_comes_93 rfl rfl ?_
    refine a_if_lt (t := 119) (n := 97) dX10_comes_94 rfl rfl (fun c94 => ?_) (fun c94 => ?_)
    · omega
    · refine a_aload_n (n := 98) dX10_comes_97 rfl rfl ?_
      refine a_getR (n := 101) dX10_comes_98 rfl fX10_150 (s37 hz) (r37_49 hR) ?_
      refine a_aload_n (n := 102) dX10_comes_101 rfl rfl ?_
      refine a_getR (n := 105) dX10_comes_102 rfl fX10_159 (s37 hz) (r37_52 hR) ?_
      refine a_iload_n (n := 106) dX10_comes_105 rfl rfl ?_
      refine a_iald (n := 107) dX10_comes_106 rfl (s76 hz) (by omega) (by omega) ?_
      try simp only [up2_eq, mvH_eq, Nat.reduceEqDiff, Int.reduceEq, Int.reduceNeg, and_true, true_and, and_false, false_and, and_self, if_true, if_false, ite_true, ite_false, reduceIte, eq_self]
      refine a_iload_n (n := 108) dX10_comes_107 rfl rfl ?_
      refine a_iast (n := 109) dX10_comes_108 rfl (s73 hz) (by omega) (by omega) ?_
      try simp only [mvH_75, mvH_76, mvH_77, mvH_73, mvH_74]
      refine a_aload_n (n := 110) dX10_comes_109 rfl rfl ?_
      refine a_getR (n := 113) dX10_comes_110 rfl fX10_162 (s37 hz) (r37_53 hR) ?_
      refine a_iload_n (n := 114) dX10_comes_113 rfl rfl ?_
      refine a_iald (n := 115) dX10_comes_114 rfl (s77 hz) (by omega) (by omega) ?_
      try simp only [up2_eq, mvH_eq, Nat.reduceEqDiff, Int.reduceEq, Int.reduceNeg, and_true, true_and, and_false, false_and, and_self, if_true, if_false, ite_true, ite_false, reduceIte, eq_self]
      refine b_istore_n (n := 116) dX10_comes_115 rfl (by decide) rfl ?_
      refine a_goto (t := 93) dX10_comes_116 rfl ?_
      rw [hfr b hb.1 hb.2 hf]
      by_cases hbp : by_ b = p
      · rw [hbp, hgp]
        rw [hbp, hgp, aug_neg n (by decide)] at K
        exact co_93e K
      · obtain ⟨a1, a2, a3⟩ := mvN hBB (D := co b + y b) hb hf (Int.le_refl _) hbp
        exact ih (go (by_ b)) _ a1 a2 (by have := (hrk b hb.1 hb.2 hf).2 hbp; omega) K
end M24
