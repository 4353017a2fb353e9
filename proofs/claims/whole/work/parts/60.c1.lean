section C1
variable {G : aG} {d : Nat} {z : aZ} {hr : aR} {hi hl : aI}
/-- the calls between nest mates are linked -/
def gN (G : aG) : Prop := (∀ U, gX G U → va_Nw (.methodLinkNest RX3 65 yX9_within "BedBook") U) ∧ (∀ U, gX G U → va_Nw (.methodLinkNest RX7 15 yX9_within "BedBook") U) ∧ (∀ U, gX G U → va_Nw (.methodLinkNest RX6 19 yX9_within "BedBook") U) ∧ (∀ U, gX G U → va_Nw (.methodLinkNest RX9 23 yX2_init "BedBook") U) ∧ (∀ U, gX G U → va_Nw (.methodLinkNest RX9 37 yX7_init "BedBook") U) ∧ (∀ U, gX G U → va_Nw (.methodLinkNest RX9 44 yX4_init "BedBook") U) ∧ (∀ U, gX G U → va_Nw (.methodLinkNest RX4 11 yX8_init "BedBook") U) ∧ (∀ U, gX G U → va_Nw (.methodLinkNest RX4 20 yX5_init "BedBook") U) ∧ (∀ U, gX G U → va_Nw (.methodLinkNest RX9 51 yX6_init "BedBook") U) ∧ (∀ U, gX G U → va_Nw (.methodLinkNest RX9 62 yX5_init "BedBook") U) ∧ (∀ U, gX G U → va_Nw (.methodLinkNest RX9 30 yX1_init "BedBook") U)
theorem nX3_65 (h : gN G) : (∀ U, gX G U → va_Nw (.methodLinkNest RX3 65 yX9_within "BedBook") U) := h.1
theorem nX7_15 (h : gN G) : (∀ U, gX G U → va_Nw (.methodLinkNest RX7 15 yX9_within "BedBook") U) := h.2.1
theorem nX6_19 (h : gN G) : (∀ U, gX G U → va_Nw (.methodLinkNest RX6 19 yX9_within "BedBook") U) := h.2.2.1
theorem nX9_23 (h : gN G) : (∀ U, gX G U → va_Nw (.methodLinkNest RX9 23 yX2_init "BedBook") U) := h.2.2.2.1
theorem nX9_37 (h : gN G) : (∀ U, gX G U → va_Nw (.methodLinkNest RX9 37 yX7_init "BedBook") U) := h.2.2.2.2.1
theorem nX9_44 (h : gN G) : (∀ U, gX G U → va_Nw (.methodLinkNest RX9 44 yX4_init "BedBook") U) := h.2.2.2.2.2.1
theorem nX4_11 (h : gN G) : (∀ U, gX G U → va_Nw (.methodLinkNest RX4 11 yX8_init "BedBook") U) := h.2.2.2.2.2.2.1
theorem nX4_20 (h : gN G) : (∀ U, gX G U → va_Nw (.methodLinkNest RX4 20 yX5_init "BedBook") U) := h.2.2.2.2.2.2.2.1
theorem nX9_51 (h : gN G) : (∀ U, gX G U → va_Nw (.methodLinkNest RX9 51 yX6_init "BedBook") U) := h.2.2.2.2.2.2.2.2.1
theorem nX9_62 (h : gN G) : (∀ U, gX G U → va_Nw (.methodLinkNest RX9 62 yX5_init "BedBook") U) := h.2.2.2.2.2.2.2.2.2.1
theorem nX9_30 (h : gN G) : (∀ U, gX G U → va_Nw (.methodLinkNest RX9 30 yX1_init "BedBook") U) := h.2.2.2.2.2.2.2.2.2.2
set_option maxRecDepth 100000 in
set_option maxHeartbeats 4000000 in
theorem c_within {x a b : Int} : a_ct G mX9_within (d + 0) [vI x, vI a, vI b] z hr hi hl (Qs z hr hi hl (isB (a ≤ x ∧ x ≤ b))) := by
  refine a_ct_of rfl (Nat.le_of_ble_eq_true rfl) ?_
  refine a_iload_n (n := 1) dX9_within_0 rfl rfl ?_
  refine a_iload_n (n := 2) dX9_within_1 rfl rfl ?_
  refine a_icmp_lt (t := 14) (n := 5) dX9_within_2 rfl rfl (fun c2 => ?_) (fun c2 => ?_)
  · refine a_iconst (n := 15) dX9_within_14 rfl ⟨by decide, by decide⟩ ?_
    refine a_zreturn dX9_within_15 rfl (by omega) ?_
    exact ⟨rfl, rfl, rfl, rfl, _, rfl, by omega⟩
  · refine a_iload_n (n := 6) dX9_within_5 rfl rfl ?_
    refine a_iload_n (n := 7) dX9_within_6 rfl rfl ?_
    refine a_icmp_gt (t := 14) (n := 10) dX9_within_7 rfl rfl (fun c7 => ?_) (fun c7 => ?_)
    · refine a_iconst (n := 15) dX9_within_14 rfl ⟨by decide, by decide⟩ ?_
      refine a_zreturn dX9_within_15 rfl (by omega) ?_
      exact ⟨rfl, rfl, rfl, rfl, _, rfl, by omega⟩
    · refine a_iconst (n := 11) dX9_within_10 rfl ⟨by decide, by decide⟩ ?_
      refine a_goto (t := 15) dX9_within_11 rfl ?_
      refine a_zreturn dX9_within_15 rfl (by omega) ?_
      exact ⟨rfl, rfl, rfl, rfl, _, rfl, by omega⟩
set_option maxRecDepth 100000 in
set_option maxHeartbeats 4000000 in
theorem c_isDigit {x : Int} : a_ct G mX9_isDigit (d + 1) [vI x] z hr hi hl (Qs z hr hi hl (isB (0 ≤ x ∧ x ≤ 9))) := by
  refine a_ct_of rfl (Nat.le_of_ble_eq_true rfl) ?_
  refine a_iload_n (n := 1) dX9_isDigit_0 rfl rfl ?_
  refine a_iconst (n := 2) dX9_isDigit_1 rfl ⟨by decide, by decide⟩ ?_
  refine a_bipush (n := 4) dX9_isDigit_2 rfl ⟨by decide, by decide⟩ (by decide) ?_
  refine a_callS (M2 := mX9_within) (n := 7) dX9_isDigit_4 rfl (c_within (d := d)) kX9_within lX9_67 sX9_within (by omega) rfl (Nat.le_of_ble_eq_true rfl) (fun q4 z4 hr4 hi4 hl4 h4 => ?_)
  obtain ⟨e14, e24, e34, e44, b4, rfl, hb4⟩ := h4
  obtain rfl := e14.symm
  obtain rfl := e24.symm
  obtain rfl := e34.symm
  obtain rfl := e44.symm
  show a_wp G _ _ _ _ (vI b4 :: _) _ _ _ _ _
  refine a_zreturn dX9_isDigit_7 rfl (by omega) ?_
  exact ⟨rfl, rfl, rfl, rfl, _, rfl, by omega⟩
set_option maxRecDepth 100000 in
set_option maxHeartbeats 4000000 in
theorem c_isSpan {a b : Int} : a_ct G mX9_isSpan (d + 2) [vI a, vI b] z hr hi hl (Qs z hr hi hl (isB ((0 ≤ a ∧ a ≤ 9) ∧ (0 ≤ b ∧ b ≤ 9) ∧ a ≤ b))) := by
  refine a_ct_of rfl (Nat.le_of_ble_eq_true rfl) ?_
  refine a_iload_n (n := 1) dX9_isSpan_0 rfl rfl ?_
  refine a_callS (M2 := mX9_isDigit) (n := 4) dX9_isSpan_1 rfl (c_isDigit (d := d)) kX9_isDigit lX9_99 sX9_isDigit (by omega) rfl (Nat.le_of_ble_eq_true rfl) (fun q1 z1 hr1 hi1 hl1 h1 => ?_)
  obtain ⟨e11, e21, e31, e41, b1, rfl, hb1⟩ := h1
  obtain rfl := e11.symm
  obtain rfl := e21.symm
  obtain rfl := e31.symm
  obtain rfl := e41.symm
  show a_wp G _ _ _ _ (vI b1 :: _) _ _ _ _ _
  refine a_if_eq (t := 23) (n := 7) dX9_isSpan_4 rfl rfl (fun c4 => ?_) (fun c4 => ?_)
  · replace hb1 := isB_f hb1 (by omega)
    refine a_iconst (n := 24) dX9_isSpan_23 rfl ⟨by decide, by decide⟩ ?_
    refine a_zreturn dX9_isSpan_24 rfl (by omega) ?_
    exact ⟨rfl, rfl, rfl, rfl, _, rfl, by omega⟩
  · replace hb1 := isB_t hb1 (by omega)
    refine a_iload_n (n := 8) dX9_isSpan_7 rfl rfl ?_
    refine a_callS (M2 := mX9_isDigit) (n := 11) dX9_isSpan_8 rfl (c_isDigit (d := d)) kX9_isDigit lX9_99 sX9_isDigit (by omega) rfl (Nat.le_of_ble_eq_true rfl) (fun q8 z8 hr8 hi8 hl8 h8 => ?_)
    obtain ⟨e18, e28, e38, e48, b8, rfl, hb8⟩ := h8
    obtain rfl := e18.symm
    obtain rfl := e28.symm
    obtain rfl := e38.symm
    obtain rfl := e48.symm
    show a_wp G _ _ _ _ (vI b8 :: _) _ _ _ _ _
    refine a_if_eq (t := 23) (n := 14) dX9_isSpan_11 rfl rfl (fun c11 => ?_) (fun c11 => ?_)
    · replace hb8 := isB_f hb8 (by omega)
      refine a_iconst (n := 24) dX9_isSpan_23 rfl ⟨by decide, by decide⟩ ?_
      refine a_zreturn dX9_isSpan_24 rfl (by omega) ?_
      exact ⟨rfl, rfl, rfl, rfl, _, rfl, by omega⟩
    · replace hb8 := isB_t hb8 (by omega)
      refine a_iload_n (n := 15) dX9_isSpan_14 rfl rfl ?_
      refine a_iload_n (n := 16) dX9_isSpan_15 rfl rfl ?_
      refine a_icmp_gt (t := 23) (n := 19) dX9_isSpan_16 rfl rfl (fun c16 => ?_) (fun c16 => ?_)
      · refine a_iconst (n := 24) dX9_isSpan_23 rfl ⟨by decide, by decide⟩ ?_
        refine a_zreturn dX9_isSpan_24 rfl (by omega) ?_
        exact ⟨rfl, rfl, rfl, rfl, _, rfl, by omega⟩
      · refine a_iconst (n := 20) dX9_isSpan_19 rfl ⟨by decide, by decide⟩ ?_
        refine a_goto (t := 24) dX9_isSpan_20 rfl ?_
        refine a_zreturn dX9_isSpan_24 rfl (by omega) ?_
        exact ⟨rfl, rfl, rfl, rfl, _, rfl, by omega⟩
set_option maxRecDepth 100000 in
set_option maxHeartbeats 4000000 in
theorem c_days (hz : stZ z) (hR : stR hr) {n : Int} (hd : 0 ≤ hi 0 11 ∧ hi 0 11 ≤ 9999) : a_ct G mX9_days (d + 1) [vR 0, vI n] z hr hi hl (fun r z' hr' hi' hl' => z' = z ∧ hr' = hr ∧ hl' = hl ∧ (((0 ≤ n ∧ n ≤ 1000) ∧ hi 0 11 + n ≤ 9999) ∧ r = some (vI (hi 0 11 + n)) ∧ hi' = up2 hi 0 11 (hi 0 11 + n) ∨ ¬ ((0 ≤ n ∧ n ≤ 1000) ∧ hi 0 11 + n ≤ 9999) ∧ r = some (vI (-1)) ∧ hi' = hi)) := by
  refine a_ct_of rfl (Nat.le_of_ble_eq_true rfl) ?_
  refine a_iload_n (n := 1) dX9_days_0 rfl rfl ?_
  refine a_iconst (n := 2) dX9_days_1 rfl ⟨by decide, by decide⟩ ?_
  refine a_sipush (n := 5) dX9_days_2 rfl ⟨by decide, by decide⟩ (by decide) ?_
  refine a_callS (M2 := mX9_within) (n := 8) dX9_days_5 rfl (c_within (d := d)) kX9_within lX9_67 sX9_within (by omega) rfl (Nat.le_of_ble_eq_true rfl) (fun q5 z5 hr5 hi5 hl5 h5 => ?_)
  obtain ⟨e15, e25, e35, e45, b5, rfl, hb5⟩ := h5
  obtain rfl := e15.symm
  obtain rfl := e25.symm
  obtain rfl := e35.symm
  obtain rfl := e45.symm
  show a_wp G _ _ _ _ (vI b5 :: _) _ _ _ _ _
  refine a_if_eq (t := 23) (n := 11) dX9_days_8 rfl rfl (fun c8 => ?_) (fun c8 => ?_)
  · replace hb5 := isB_f hb5 (by omega)
    refine a_iconst (n := 24) dX9_days_23 rfl ⟨by decide, by decide⟩ ?_
    refine a_ireturn dX9_days_24 rfl ?_
    exact ⟨rfl, rfl, rfl, Or.inr ⟨by omega, rfl, rfl⟩⟩
  · replace hb5 := isB_t hb5 (by omega)
    refine a_aload_n (n := 12) dX9_days_11 rfl rfl ?_
    refine a_getI (n := 15) dX9_days_12 rfl fX9_71 (s0 hz) ?_
    refine a_iload_n (n := 16) dX9_days_15 rfl rfl ?_
    refine a_iadd (n := 17) dX9_days_16 rfl ⟨by omega, by omega⟩ ?_
    refine a_sipush (n := 20) dX9_days_17 rfl ⟨by decide, by decide⟩ (by decide) ?_
    refine a_icmp_le (t := 25) (n := 23) dX9_days_20 rfl rfl (fun c20 => ?_) (fun c20 => ?_)
    · refine a_aload_n (n := 26) dX9_days_25 rfl rfl ?_
      refine a_dup (n := 27) dX9_days_26 rfl rfl ?_
      refine a_getI (n := 30) dX9_days_27 rfl fX9_71 (s0 hz) ?_
      refine a_iload_n (n := 31) dX9_days_30 rfl rfl ?_
      refine a_iadd (n := 32) dX9_days_31 rfl ⟨by omega, by omega⟩ ?_
      refine a_putI (n := 35) dX9_days_32 rfl fX9_71 rfl (s0 hz) (Or.inl rfl) ?_
      refine a_aload_n (n := 36) dX9_days_35 rfl rfl ?_
      refine a_getI (n := 39) dX9_days_36 rfl fX9_71 (s0 hz) ?_
      try simp only [up2_eq, Nat.reduceEqDiff, Int.reduceEq, Int.reduceNeg, and_true, true_and, and_false, false_and, and_self, if_true, if_false, ite_true, ite_false, reduceIte, eq_self]
      refine a_ireturn dX9_days_39 rfl ?_
      exact ⟨rfl, rfl, rfl, Or.inl ⟨by omega, rfl, rfl⟩⟩
    · refine a_iconst (n := 24) dX9_days_23 rfl ⟨by decide, by decide⟩ ?_
      refine a_ireturn dX9_days_24 rfl ?_
      exact ⟨rfl, rfl, rfl, Or.inr ⟨by omega, rfl, rfl⟩⟩
set_option maxRecDepth 100000 in
set_option maxHeartbeats 4000000 in
theorem c_give (hz : stZ z) (hR : stR hr) {p n dy : Int} (hg : 0 ≤ hi 3 6 ∧ hi 3 6 ≤ 300) : a_ct G mX2_give (d + 0) [vR 3, vI p, vI n, vI dy] z hr hi hl (fun r z' hr' hi' hl' => z' = z ∧ hr' = hr ∧ hl' = hl ∧ (¬ hi 3 6 = 300 ∧ r = some (vI 1) ∧ hi' = up2 (up2 (up2 (up2 hi 4 (hi 3 6) p) 5 (hi 3 6) n) 6 (hi 3 6) dy) 3 6 (hi 3 6 + 1) ∨ hi 3 6 = 300 ∧ r = some (vI 0) ∧ hi' = hi)) := by
  refine a_ct_of rfl (Nat.le_of_ble_eq_true rfl) ?_
  refine a_aload_n (n := 1) dX2_give_0 rfl rfl ?_
  refine a_getI (n := 4) dX2_give_1 rfl fX2_30 (s3 hz) ?_
  refine a_sipush (n := 7) dX2_give_4 rfl ⟨by decide, by decide⟩ (by decide) ?_
  refine a_icmp_lt (t := 12) (n := 10) dX2_give_7 rfl rfl (fun c7 => ?_) (fun c7 => ?_)
  · refine a_aload_n (n := 13) dX2_give_12 rfl rfl ?_
    refine a_getR (n := 16) dX2_give_13 rfl fX2_11 (s3 hz) (r3_0 hR) ?_
    refine a_aload_n (n := 17) dX2_give_16 rfl rfl ?_
    refine a_getI (n := 20) dX2_give_17 rfl fX2_30 (s3 hz) ?_
    refine a_iload_n (n := 21) dX2_give_20 rfl rfl ?_
    refine a_iast (n := 22) dX2_give_21 rfl (s4 hz) (by omega) (by omega) ?_
    refine a_aload_n (n := 23) dX2_give_22 rfl rfl ?_
    refine a_getR (n := 26) dX2_give_23 rfl fX2_15 (s3 hz) (r3_1 hR) ?_
    refine a_aload_n (n := 27) dX2_give_26 rfl rfl ?_
    refine a_getI (n := 30) dX2_give_27 rfl fX2_30 (s3 hz) ?_
    try simp only [up2_eq, Nat.reduceEqDiff, Int.reduceEq, Int.reduceNeg, and_true, true_and, and_false, false_and, and_self, if_true, if_false, ite_true, ite_false, reduceIte, eq_self]
    refine a_iload_n (n := 31) dX2_give_30 rfl rfl ?_
    refine a_iast (n := 32) dX2_give_31 rfl (s5 hz) (by omega) (by omega) ?_
    refine a_aload_n (n := 33) dX2_give_32 rfl rfl ?_
    refine a_getR (n := 36) dX2_give_33 rfl fX2_18 (s3 hz) (r3_2 hR) ?_
    refine a_aload_n (n := 37) dX2_give_36 rfl rfl ?_
    refine a_getI (n := 40) dX2_give_37 rfl fX2_30 (s3 hz) ?_
    try simp only [up2_eq, Nat.reduceEqDiff, Int.reduceEq, Int.reduceNeg, and_true, true_and, and_false, false_and, and_self, if_true, if_false, ite_true, ite_false, reduceIte, eq_self]
    refine a_iload_n (n := 41) dX2_give_40 rfl rfl ?_
    refine a_iast (n := 42) dX2_give_41 rfl (s6 hz) (by omega) (by omega) ?_
    refine a_aload_n (n := 43) dX2_give_42 rfl rfl ?_
    refine a_dup (n := 44) dX2_give_43 rfl rfl ?_
    refine a_getI (n := 47) dX2_give_44 rfl fX2_30 (s3 hz) ?_
    try simp only [up2_eq, Nat.reduceEqDiff, Int.reduceEq, Int.reduceNeg, and_true, true_and, and_false, false_and, and_self, if_true, if_false, ite_true, ite_false, reduceIte, eq_self]
    refine a_iconst (n := 48) dX2_give_47 rfl ⟨by decide, by decide⟩ ?_
    refine a_iadd (n := 49) dX2_give_48 rfl ⟨by omega, by omega⟩ ?_
    refine a_putI (n := 52) dX2_give_49 rfl fX2_30 rfl (s3 hz) (Or.inl rfl) ?_
    refine a_iconst (n := 53) dX2_give_52 rfl ⟨by decide, by decide⟩ ?_
    refine a_zreturn dX2_give_53 rfl (by omega) ?_
    exact ⟨rfl, rfl, rfl, Or.inl ⟨by omega, rfl, rfl⟩⟩
  · refine a_iconst (n := 11) dX2_give_10 rfl ⟨by decide, by decide⟩ ?_
    refine a_zreturn dX2_give_11 rfl (by omega) ?_
    exact ⟨rfl, rfl, rfl, Or.inr ⟨by omega, rfl, rfl⟩⟩
/-- what a NAME is tied to; what was given *) -/
abbrev cJoin (hi : aI) (x dy : Int) : Int := mLast (hi 7) (hi 9) (hi 8) x dy (hi 3 7).toNat
abbrev cGiven (hi : aI) (p dy : Int) : Int := mLast (hi 4) (hi 6) (hi 5) p dy (hi 3 6).toNat
set_option maxRecDepth 100000 in
set_option maxHeartbeats 4000000 in
theorem c_tied_l (hz : stZ z) (hR : stR hr) {x dy : Int} (hc : hi 3 7 ≤ 100) (n : Nat) : ∀ i : Int, i + 1 = n → i < hi 3 7 → a_wp G mX2_tiedAsOf d 7 [some (vR 3), some (vI x), some (vI dy), some (vI i)] [] z hr hi hl (Qs z hr hi hl (fun r => r = some (vI (mLast (hi 7) (hi 9) (hi 8) x dy (i + 1).toNat)))) := by
  induction n with
  | zero =>
    intro i hn hi1
    refine a_iload_n (n := 8) dX2_tiedAsOf_7 rfl rfl ?_
    refine a_if_lt (t := 44) (n := 11) dX2_tiedAsOf_8 rfl rfl (fun c8 => ?_) (fun c8 => ?_)
    · refine a_iconst (n := 45) dX2_tiedAsOf_44 rfl ⟨by decide, by decide⟩ ?_
      refine a_ireturn dX2_tiedAsOf_45 rfl ?_
      exact ⟨rfl, rfl, rfl, rfl, by rw [show (i + 1).toNat = 0 by omega]; rfl⟩
    · omega
  | succ n ih =>
    intro i hn hi1
    refine a_iload_n (n := 8) dX2_tiedAsOf_7 rfl rfl ?_
    refine a_if_lt (t := 44) (n := 11) dX2_tiedAsOf_8 rfl rfl (fun c8 => ?_) (fun c8 => ?_)
    · omega
    · refine a_aload_n (n := 12) dX2_tiedAsOf_11 rfl rfl ?_
      refine a_getR (n := 15) dX2_tiedAsOf_12 rfl fX2_21 (s3 hz) (r3_3 hR) ?_
      refine a_iload_n (n := 16) dX2_tiedAsOf_15 rfl rfl ?_
      refine a_iald (n := 17) dX2_tiedAsOf_16 rfl (s7 hz) (by omega) (by omega) ?_
      refine a_iload_n (n := 18) dX2_tiedAsOf_17 rfl rfl ?_
      refine a_icmp_ne (t := 38) (n := 21) dX2_tiedAsOf_18 rfl rfl (fun c18 => ?_) (fun c18 => ?_)
      · refine b_iinc (n := 41) dX2_tiedAsOf_38 rfl (by decide) rfl rfl ⟨by omega, by omega⟩ ?_
        refine a_goto (t := 7) dX2_tiedAsOf_41 rfl ?_
        have e := ih (i + -1) (by omega) (by omega)
        rw [show i + -1 + 1 = i by omega] at e
        rw [mLast_s (by omega), if_neg (by omega)]
        exact e
      · refine a_aload_n (n := 22) dX2_tiedAsOf_21 rfl rfl ?_
        refine a_getR (n := 25) dX2_tiedAsOf_22 rfl fX2_27 (s3 hz) (r3_5 hR) ?_
        refine a_iload_n (n := 26) dX2_tiedAsOf_25 rfl rfl ?_
        refine a_iald (n := 27) dX2_tiedAsOf_26 rfl (s9 hz) (by omega) (by omega) ?_
        refine a_iload_n (n := 28) dX2_tiedAsOf_27 rfl rfl ?_
        refine a_icmp_gt (t := 38) (n := 31) dX2_tiedAsOf_28 rfl rfl (fun c28 => ?_) (fun c28 => ?_)
        · refine b_iinc (n := 41) dX2_tiedAsOf_38 rfl (by decide) rfl rfl ⟨by omega, by omega⟩ ?_
          refine a_goto (t := 7) dX2_tiedAsOf_41 rfl ?_
          have e := ih (i + -1) (by omega) (by omega)
          rw [show i + -1 + 1 = i by omega] at e
          rw [mLast_s (by omega), if_neg (by omega)]
          exact e
        · refine a_aload_n (n := 32) dX2_tiedAsOf_31 rfl rfl ?_
          refine a_getR (n := 35) dX2_tiedAsOf_32 rfl fX2_24 (s3 hz) (r3_4 hR) ?_
          refine a_iload_n (n := 36) dX2_tiedAsOf_35 rfl rfl ?_
          refine a_iald (n := 37) dX2_tiedAsOf_36 rfl (s8 hz) (by omega) (by omega) ?_
          refine a_ireturn dX2_tiedAsOf_37 rfl ?_
          exact ⟨rfl, rfl, rfl, rfl, by rw [mLast_s (by omega), if_pos ⟨by omega, by omega⟩]⟩
set_option maxRecDepth 100000 in
set_option maxHeartbeats 4000000 in
theorem c_tied (hz : stZ z) (hR : stR hr) {x dy : Int} (hc : 0 ≤ hi 3 7 ∧ hi 3 7 ≤ 100) : a_ct G mX2_tiedAsOf (d + 0) [vR 3, vI x, vI dy] z hr hi hl (Qs z hr hi hl (fun r => r = some (vI (mLast (hi 7) (hi 9) (hi 8) x dy (hi 3 7).toNat)))) := by
  refine a_ct_of rfl (Nat.le_of_ble_eq_true rfl) ?_
  refine a_aload_n (n := 1) dX2_tiedAsOf_0 rfl rfl ?_
  refine a_getI (n := 4) dX2_tiedAsOf_1 rfl fX2_34 (s3 hz) ?_
  refine a_iconst (n := 5) dX2_tiedAsOf_4 rfl ⟨by decide, by decide⟩ ?_
  refine a_isub (n := 6) dX2_tiedAsOf_5 rfl ⟨by omega, by omega⟩ ?_
  refine b_istore_n (n := 7) dX2_tiedAsOf_6 rfl (by decide) rfl ?_
  have e := c_tied_l (G := G) (d := d + 0) (z := z) (hr := hr) (hi := hi) (hl := hl) (x := x) (dy := dy) hz hR hc.2 (hi 3 7).toNat (hi 3 7 - 1) (by omega) (by omega)
  rw [show hi 3 7 - 1 + 1 = hi 3 7 by omega] at e
  exact e
set_option maxRecDepth 100000 in
set_option maxHeartbeats 4000000 in
theorem c_given_l (hz : stZ z) (hR : stR hr) {x dy : Int} (hc : hi 3 6 ≤ 300) (n : Nat) : ∀ i : Int, i + 1 = n → i < hi 3 6 → a_wp G mX2_givenAsOf d 7 [some (vR 3), some (vI x), some (vI dy), some (vI i)] [] z hr hi hl (Qs z hr hi hl (fun r => r = some (vI (mLast (hi 4) (hi 6) (hi 5) x dy (i + 1).toNat)))) := by
  induction n with
  | zero =>
    intro i hn hi1
    refine a_iload_n (n := 8) dX2_givenAsOf_7 rfl rfl ?_
    refine a_if_lt (t := 44) (n := 11) dX2_givenAsOf_8 rfl rfl (fun c8 => ?_) (fun c8 => ?_)
    · refine a_iconst (n := 45) dX2_givenAsOf_44 rfl ⟨by decide, by decide⟩ ?_
      refine a_ireturn dX2_givenAsOf_45 rfl ?_
      exact ⟨rfl, rfl, rfl, rfl, by rw [show (i + 1).toNat = 0 by omega]; rfl⟩
    · omega
  | succ n ih =>
    intro i hn hi1
    refine a_iload_n (n := 8) dX2_givenAsOf_7 rfl rfl ?_
    refine a_if_lt (t := 44) (n := 11) dX2_givenAsOf_8 rfl rfl (fun c8 => ?_) (fun c8 => ?_)
    · omega
    · refine a_aload_n (n := 12) dX2_givenAsOf_11 rfl rfl ?_
      refine a_getR (n := 15) dX2_givenAsOf_12 rfl fX2_11 (s3 hz) (r3_0 hR) ?_
      refine a_iload_n (n := 16) dX2_givenAsOf_15 rfl rfl ?_
      refine a_iald (n := 17) dX2_givenAsOf_16 rfl (s4 hz) (by omega) (by omega) ?_
      refine a_iload_n (n := 18) dX2_givenAsOf_17 rfl rfl ?_
      refine a_icmp_ne (t := 38) (n := 21) dX2_givenAsOf_18 rfl rfl (fun c18 => ?_) (fun c18 => ?_)
      · refine b_iinc (n := 41) dX2_givenAsOf_38 rfl (by decide) rfl rfl ⟨by omega, by omega⟩ ?_
        refine a_goto (t := 7) dX2_givenAsOf_41 rfl ?_
        have e := ih (i + -1) (by omega) (by omega)
        rw [show i + -1 + 1 = i by omega] at e
        rw [mLast_s (by omega), if_neg (by omega)]
        exact e
      · refine a_aload_n (n := 22) dX2_givenAsOf_21 rfl rfl ?_
        refine a_getR (n := 25) dX2_givenAsOf_22 rfl fX2_18 (s3 hz) (r3_2 hR) ?_
        refine a_iload_n (n := 26) dX2_givenAsOf_25 rfl rfl ?_
        refine a_iald (n := 27) dX2_givenAsOf_26 rfl (s6 hz) (by omega) (by omega) ?_
        refine a_iload_n (n := 28) dX2_givenAsOf_27 rfl rfl ?_
        refine a_icmp_gt (t := 38) (n := 31) dX2_givenAsOf_28 rfl rfl (fun c28 => ?_) (fun c28 => ?_)
        · refine b_iinc (n := 41) dX2_givenAsOf_38 rfl (by decide) rfl rfl ⟨by omega, by omega⟩ ?_
          refine a_goto (t := 7) dX2_givenAsOf_41 rfl ?_
          have e := ih (i + -1) (by omega) (by omega)
          rw [show i + -1 + 1 = i by omega] at e
          rw [mLast_s (by omega), if_neg (by omega)]
          exact e
        · refine a_aload_n (n := 32) dX2_givenAsOf_31 rfl rfl ?_
          refine a_getR (n := 35) dX2_givenAsOf_32 rfl fX2_15 (s3 hz) (r3_1 hR) ?_
          refine a_iload_n (n := 36) dX2_givenAsOf_35 rfl rfl ?_
          refine a_iald (n := 37) dX2_givenAsOf_36 rfl (s5 hz) (by omega) (by omega) ?_
          refine a_ireturn dX2_givenAsOf_37 rfl ?_
          exact ⟨rfl, rfl, rfl, rfl, by rw [mLast_s (by omega), if_pos ⟨by omega, by omega⟩]⟩
set_option maxRecDepth 100000 in
set_option maxHeartbeats 4000000 in
theorem c_given (hz : stZ z) (hR : stR hr) {x dy : Int} (hc : 0 ≤ hi 3 6 ∧ hi 3 6 ≤ 300) : a_ct G mX2_givenAsOf (d + 0) [vR 3, vI x, vI dy] z hr hi hl (Qs z hr hi hl (fun r => r = some (vI (mLast (hi 4) (hi 6) (hi 5) x dy (hi 3 6).toNat)))) := by
  refine a_ct_of rfl (Nat.le_of_ble_eq_true rfl) ?_
  refine a_aload_n (n := 1) dX2_givenAsOf_0 rfl rfl ?_
  refine a_getI (n := 4) dX2_givenAsOf_1 rfl fX2_30 (s3 hz) ?_
  refine a_iconst (n := 5) dX2_givenAsOf_4 rfl ⟨by decide, by decide⟩ ?_
  refine a_isub (n := 6) dX2_givenAsOf_5 rfl ⟨by omega, by omega⟩ ?_
  refine b_istore_n (n := 7) dX2_givenAsOf_6 rfl (by decide) rfl ?_
  have e := c_given_l (G := G) (d := d + 0) (z := z) (hr := hr) (hi := hi) (hl := hl) (x := x) (dy := dy) hz hR hc.2 (hi 3 6).toNat (hi 3 6 - 1) (by omega) (by omega)
  rw [show hi 3 6 - 1 + 1 = hi 3 6 by omega] at e
  exact e
set_option maxRecDepth 100000 in
set_option maxHeartbeats 4000000 in
theorem c_leadsTo_l (hz : stZ z) (hR : stR hr) {fr gl dy : Int} (hc : 0 ≤ hi 3 7 ∧ hi 3 7 ≤ 100) (hf : ∀ x, 0 ≤ cJoin hi x dy) (n : Nat) : ∀ x k : Int, 0 ≤ x → 0 ≤ k → k + n = 50 → a_wp G mX2_leadsTo (d + 1) 6 [some (vR 3), some (vI fr), some (vI gl), some (vI dy), some (vI x), some (vI k)] [] z hr hi hl (Qs z hr hi hl (isB (mBack (fun y => cJoin hi y dy) gl n x))) := by
  induction n with
  | zero =>
    intro x k hx hk hn
    refine a_iload (n := 8) dX2_leadsTo_6 rfl rfl ?_
    refine a_bipush (n := 10) dX2_leadsTo_8 rfl ⟨by decide, by decide⟩ (by decide) ?_
    refine a_icmp_ge (t := 41) (n := 13) dX2_leadsTo_10 rfl rfl (fun c10 => ?_) (fun c10 => ?_)
    · refine a_iconst (n := 42) dX2_leadsTo_41 rfl ⟨by decide, by decide⟩ ?_
      refine a_zreturn dX2_leadsTo_42 rfl (by omega) ?_
      exact ⟨rfl, rfl, rfl, rfl, _, rfl, Or.inr ⟨rfl, fun q => q⟩⟩
    · omega
  | succ n ih =>
    intro x k hx hk hn
    refine a_iload (n := 8) dX2_leadsTo_6 rfl rfl ?_
    refine a_bipush (n := 10) dX2_leadsTo_8 rfl ⟨by decide, by decide⟩ (by decide) ?_
    refine a_icmp_ge (t := 41) (n := 13) dX2_leadsTo_10 rfl rfl (fun c10 => ?_) (fun c10 => ?_)
    · omega
    · refine a_iload (n := 15) dX2_leadsTo_13 rfl rfl ?_
      refine a_if_eq (t := 41) (n := 18) dX2_leadsTo_15 rfl rfl (fun c15 => ?_) (fun c15 => ?_)
      · refine a_iconst (n := 42) dX2_leadsTo_41 rfl ⟨by decide, by decide⟩ ?_
        refine a_zreturn dX2_leadsTo_42 rfl (by omega) ?_
        exact ⟨rfl, rfl, rfl, rfl, _, rfl, Or.inr ⟨rfl, fun q => by have := q.1; omega⟩⟩
      · refine a_iload (n := 20) dX2_leadsTo_18 rfl rfl ?_
        refine a_iload_n (n := 21) dX2_leadsTo_20 rfl rfl ?_
        refine a_icmp_ne (t := 26) (n := 24) dX2_leadsTo_21 rfl rfl (fun c21 => ?_) (fun c21 => ?_)
        · refine a_aload_n (n := 27) dX2_leadsTo_26 rfl rfl ?_
          refine a_iload (n := 29) dX2_leadsTo_27 rfl rfl ?_
          refine a_iload_n (n := 30) dX2_leadsTo_29 rfl rfl ?_
          refine a_callV (M2 := mX2_tiedAsOf) (n := 33) dX2_leadsTo_30 rfl (c_tied (d := d) hz hR hc) kX2_tiedAsOf lX2_45 iX2_tiedAsOf eX2_tiedAsOf (by decide) (by omega) (s3 hz) rfl (Nat.le_of_ble_eq_true rfl) (fun q30 z30 hr30 hi30 hl30 h30 => ?_)
          obtain ⟨e130, e230, e330, e430, rfl⟩ := h30
          obtain rfl := e130.symm
          obtain rfl := e230.symm
          obtain rfl := e330.symm
          obtain rfl := e430.symm
          show a_wp G _ _ _ _ (vI _ :: _) _ _ _ _ _
          refine b_istore (n := 35) dX2_leadsTo_33 rfl (by decide) rfl ?_
          refine b_iinc (n := 38) dX2_leadsTo_35 rfl (by decide) rfl rfl ⟨by omega, by omega⟩ ?_
          refine a_goto (t := 6) dX2_leadsTo_38 rfl ?_
          refine (ih (cJoin hi x dy) (k + 1) (hf x) (by omega) (by omega)).mono fun r z2 hr2 hi2 hl2 ⟨q1, q2, q3, q4, b, q5, q6⟩ => ⟨q1, q2, q3, q4, b, q5, ?_⟩
          rcases q6 with ⟨q6, q7⟩ | ⟨q6, q7⟩
          · exact Or.inl ⟨q6, by omega, Or.inr q7⟩
          · exact Or.inr ⟨q6, fun ⟨w1, w2⟩ => w2.elim (fun e => by omega) q7⟩
        · refine a_iconst (n := 25) dX2_leadsTo_24 rfl ⟨by decide, by decide⟩ ?_
          refine a_zreturn dX2_leadsTo_25 rfl (by omega) ?_
          exact ⟨rfl, rfl, rfl, rfl, _, rfl, Or.inl ⟨rfl, by omega, Or.inl (by omega)⟩⟩
set_option maxRecDepth 100000 in
set_option maxHeartbeats 4000000 in
theorem c_leadsTo (hz : stZ z) (hR : stR hr) {fr gl dy : Int} (hc : 0 ≤ hi 3 7 ∧ hi 3 7 ≤ 100) (hf : ∀ x, 0 ≤ cJoin hi x dy) (hx : 0 ≤ fr) : a_ct G mX2_leadsTo (d + 1) [vR 3, vI fr, vI gl, vI dy] z hr hi hl (Qs z hr hi hl (isB (mBack (fun y => cJoin hi y dy) gl 50 fr))) := by
  refine a_ct_of rfl (Nat.le_of_ble_eq_true rfl) ?_
  refine a_iload_n (n := 1) dX2_leadsTo_0 rfl rfl ?_
  refine b_istore (n := 3) dX2_leadsTo_1 rfl (by decide) rfl ?_
  refine a_iconst (n := 4) dX2_leadsTo_3 rfl ⟨by decide, by decide⟩ ?_
  refine b_istore (n := 6) dX2_leadsTo_4 rfl (by decide) rfl ?_
  exact c_leadsTo_l hz hR hc hf 50 fr 0 hx (by decide) (by decide)
set_option maxRecDepth 100000 in
set_option maxHeartbeats 4000000 in
theorem c_tie (hz : stZ z) (hR : stR hr) {x y dy : Int} (hc : 0 ≤ hi 3 7 ∧ hi 3 7 ≤ 100) (hf : ∀ x, 0 ≤ cJoin hi x dy) (hy : 0 ≤ y) : a_ct G mX2_tie (d + 2) [vR 3, vI x, vI y, vI dy] z hr hi hl (fun r z' hr' hi' hl' => z' = z ∧ hr' = hr ∧ hl' = hl ∧ ((¬ hi 3 7 = 100 ∧ ¬ mBack (fun y => cJoin hi y dy) x 50 y) ∧ r = some (vI 1) ∧ hi' = up2 (up2 (up2 (up2 hi 7 (hi 3 7) x) 8 (hi 3 7) y) 9 (hi 3 7) dy) 3 7 (hi 3 7 + 1) ∨ ¬ (¬ hi 3 7 = 100 ∧ ¬ mBack (fun y => cJoin hi y dy) x 50 y) ∧ r = some (vI 0) ∧ hi' = hi)) := by
  refine a_ct_of rfl (Nat.le_of_ble_eq_true rfl) ?_
  refine a_aload_n (n := 1) dX2_tie_0 rfl rfl ?_
  refine a_getI (n := 4) dX2_tie_1 rfl fX2_34 (s3 hz) ?_
  refine a_bipush (n := 6) dX2_tie_4 rfl ⟨by decide, by decide⟩ (by decide) ?_
  refine a_icmp_ge (t := 19) (n := 9) dX2_tie_6 rfl rfl (fun c6 => ?_) (fun c6 => ?_)
  · refine a_iconst (n := 20) dX2_tie_19 rfl ⟨by decide, by decide⟩ ?_
    refine a_zreturn dX2_tie_20 rfl (by omega) ?_
    exact ⟨rfl, rfl, rfl, Or.inr ⟨fun q => by have := q.1; omega, rfl, rfl⟩⟩
  · refine a_aload_n (n := 10) dX2_tie_9 rfl rfl ?_
    refine a_iload_n (n := 11) dX2_tie_10 rfl rfl ?_
    refine a_iload_n (n := 12) dX2_tie_11 rfl rfl ?_
    refine a_iload_n (n := 13) dX2_tie_12 rfl rfl ?_
    refine a_callV (M2 := mX2_leadsTo) (n := 16) dX2_tie_13 rfl (c_leadsTo (d := d) hz hR hc hf hy) kX2_leadsTo lX2_37 iX2_leadsTo eX2_leadsTo (by decide) (by omega) (s3 hz) rfl (Nat.le_of_ble_eq_true rfl) (fun q13 z13 hr13 hi13 hl13 h13 => ?_)
    obtain ⟨e113, e213, e313, e413, b13, rfl, hb13⟩ := h13
    obtain rfl := e113.symm
    obtain rfl := e213.symm
    obtain rfl := e313.symm
    obtain rfl := e413.symm
    show a_wp G _ _ _ _ (vI b13 :: _) _ _ _ _ _
    refine a_if_eq (t := 21) (n := 19) dX2_tie_16 rfl rfl (fun c16 => ?_) (fun c16 => ?_)
    · replace hb13 := isB_f hb13 (by omega)
      refine a_aload_n (n := 22) dX2_tie_21 rfl rfl ?_
      refine a_getR (n := 25) dX2_tie_22 rfl fX2_21 (s3 hz) (r3_3 hR) ?_
      refine a_aload_n (n := 26) dX2_tie_25 rfl rfl ?_
      refine a_getI (n := 29) dX2_tie_26 rfl fX2_34 (s3 hz) ?_
      refine a_iload_n (n := 30) dX2_tie_29 rfl rfl ?_
      refine a_iast (n := 31) dX2_tie_30 rfl (s7 hz) (by omega) (by omega) ?_
      refine a_aload_n (n := 32) dX2_tie_31 rfl rfl ?_
      refine a_getR (n := 35) dX2_tie_32 rfl fX2_24 (s3 hz) (r3_4 hR) ?_
      refine a_aload_n (n := 36) dX2_tie_35 rfl rfl ?_
      refine a_getI (n := 39) dX2_tie_36 rfl fX2_34 (s3 hz) ?_
      try simp only [up2_eq, Nat.reduceEqDiff, Int.reduceEq, Int.reduceNeg, and_true, true_and, and_false, false_and, and_self, if_true, if_false, ite_true, ite_false, reduceIte, eq_self]
      refine a_iload_n (n := 40) dX2_tie_39 rfl rfl ?_
      refine a_iast (n := 41) dX2_tie_40 rfl (s8 hz) (by omega) (by omega) ?_
      refine a_aload_n (n := 42) dX2_tie_41 rfl rfl ?_
      refine a_getR (n := 45) dX2_tie_42 rfl fX2_27 (s3 hz) (r3_5 hR) ?_
      refine a_aload_n (n := 46) dX2_tie_45 rfl rfl ?_
      refine a_getI (n := 49) dX2_tie_46 rfl fX2_34 (s3 hz) ?_
      try simp only [up2_eq, Nat.reduceEqDiff, Int.reduceEq, Int.reduceNeg, and_true, true_and, and_false, false_and, and_self, if_true, if_false, ite_true, ite_false, reduceIte, eq_self]
      refine a_iload_n (n := 50) dX2_tie_49 rfl rfl ?_
      refine a_iast (n := 51) dX2_tie_50 rfl (s9 hz) (by omega) (by omega) ?_
      refine a_aload_n (n := 52) dX2_tie_51 rfl rfl ?_
      refine a_dup (n := 53) dX2_tie_52 rfl rfl ?_
      refine a_getI (n := 56) dX2_tie_53 rfl fX2_34 (s3 hz) ?_
      try simp only [up2_eq, Nat.reduceEqDiff, Int.reduceEq, Int.reduceNeg, and_true, true_and, and_false, false_and, and_self, if_true, if_false, ite_true, ite_false, reduceIte, eq_self]
      refine a_iconst (n := 57) dX2_tie_56 rfl ⟨by decide, by decide⟩ ?_
      refine a_iadd (n := 58) dX2_tie_57 rfl ⟨by omega, by omega⟩ ?_
      refine a_putI (n := 61) dX2_tie_58 rfl fX2_34 rfl (s3 hz) (Or.inl rfl) ?_
      refine a_iconst (n := 62) dX2_tie_61 rfl ⟨by decide, by decide⟩ ?_
      refine a_zreturn dX2_tie_62 rfl (by omega) ?_
      exact ⟨rfl, rfl, rfl, Or.inl ⟨⟨by omega, hb13⟩, rfl, rfl⟩⟩
    · replace hb13 := isB_t hb13 (by omega)
      refine a_iconst (n := 20) dX2_tie_19 rfl ⟨by decide, by decide⟩ ?_
      refine a_zreturn dX2_tie_20 rfl (by omega) ?_
      exact ⟨rfl, rfl, rfl, Or.inr ⟨fun q => q.2 hb13, rfl, rfl⟩⟩
set_option maxRecDepth 100000 in
set_option maxHeartbeats 4000000 in
theorem c_nameOf_l (hz : stZ z) (hR : stR hr) {p dy jd : Int} (hc : 0 ≤ hi 3 7 ∧ hi 3 7 ≤ 100) (hf : ∀ x, 0 ≤ cJoin hi x jd) (n : Nat) : ∀ (x k : Int) (x6 : Option aV), 0 ≤ k → k + n = 50 → a_wp G mX2_nameOf (d + 1) 11 [some (vR 3), some (vI p), some (vI dy), some (vI jd), some (vI x), some (vI k), x6] [] z hr hi hl (Qs z hr hi hl (fun r => r = some (vI (mEnd (fun y => cJoin hi y jd) n x)))) := by
  induction n with
  | zero =>
    intro x k x6 hk hn
    refine a_iload (n := 13) dX2_nameOf_11 rfl rfl ?_
    refine a_bipush (n := 15) dX2_nameOf_13 rfl ⟨by decide, by decide⟩ (by decide) ?_
    refine a_icmp_ge (t := 45) (n := 18) dX2_nameOf_15 rfl rfl (fun c15 => ?_) (fun c15 => ?_)
    · refine a_iload (n := 47) dX2_nameOf_45 rfl rfl ?_
      refine a_ireturn dX2_nameOf_47 rfl ?_
      exact ⟨rfl, rfl, rfl, rfl, rfl⟩
    · omega
  | succ n ih =>
    intro x k x6 hk hn
    refine a_iload (n := 13) dX2_nameOf_11 rfl rfl ?_
    refine a_bipush (n := 15) dX2_nameOf_13 rfl ⟨by decide, by decide⟩ (by decide) ?_
    refine a_icmp_ge (t := 45) (n := 18) dX2_nameOf_15 rfl rfl (fun c15 => ?_) (fun c15 => ?_)
    · omega
    · refine a_aload_n (n := 19) dX2_nameOf_18 rfl rfl ?_
      refine a_iload (n := 21) dX2_nameOf_19 rfl rfl ?_
      refine a_iload_n (n := 22) dX2_nameOf_21 rfl rfl ?_
      refine a_callV (M2 := mX2_tiedAsOf) (n := 25) dX2_nameOf_22 rfl (c_tied (d := d) hz hR hc) kX2_tiedAsOf lX2_45 iX2_tiedAsOf eX2_tiedAsOf (by decide) (by omega) (s3 hz) rfl (Nat.le_of_ble_eq_true rfl) (fun q22 z22 hr22 hi22 hl22 h22 => ?_)
      obtain ⟨e122, e222, e322, e422, rfl⟩ := h22
      obtain rfl := e122.symm
      obtain rfl := e222.symm
      obtain rfl := e322.symm
      obtain rfl := e422.symm
      show a_wp G _ _ _ _ (vI _ :: _) _ _ _ _ _
      refine b_istore (n := 27) dX2_nameOf_25 rfl (by decide) rfl ?_
      refine a_iload (n := 29) dX2_nameOf_27 rfl rfl ?_
      refine a_if_ne (t := 35) (n := 32) dX2_nameOf_29 rfl rfl (fun c29 => ?_) (fun c29 => ?_)
      · refine a_iload (n := 37) dX2_nameOf_35 rfl rfl ?_
        refine b_istore (n := 39) dX2_nameOf_37 rfl (by decide) rfl ?_
        refine b_iinc (n := 42) dX2_nameOf_39 rfl (by decide) rfl rfl ⟨by omega, by omega⟩ ?_
        refine a_goto (t := 11) dX2_nameOf_42 rfl ?_
        refine (ih (cJoin hi x jd) (k + 1) _ (by omega) (by omega)).mono fun r z2 hr2 hi2 hl2 ⟨q1, q2, q3, q4, q5⟩ => ⟨q1, q2, q3, q4, ?_⟩
        have hfx : 0 ≤ mLast (hi 7) (hi 9) (hi 8) x jd (hi 3 7).toNat := hf x
        have hp : 0 < cJoin hi x jd := by
          show 0 < mLast (hi 7) (hi 9) (hi 8) x jd (hi 3 7).toNat
          omega
        rw [mEnd, if_pos hp]
        exact q5
      · refine a_iload (n := 34) dX2_nameOf_32 rfl rfl ?_
        refine a_ireturn dX2_nameOf_34 rfl ?_
        have hp : ¬ 0 < cJoin hi x jd := by
          show ¬ 0 < mLast (hi 7) (hi 9) (hi 8) x jd (hi 3 7).toNat
          omega
        exact ⟨rfl, rfl, rfl, rfl, by rw [mEnd, if_neg hp]⟩
set_option maxRecDepth 100000 in
set_option maxHeartbeats 4000000 in
theorem c_nameOf (hz : stZ z) (hR : stR hr) {p dy jd : Int} (hc : 0 ≤ hi 3 7 ∧ hi 3 7 ≤ 100) (hg : 0 ≤ hi 3 6 ∧ hi 3 6 ≤ 300) (hf : ∀ x, 0 ≤ cJoin hi x jd) : a_ct G mX2_nameOf (d + 1) [vR 3, vI p, vI dy, vI jd] z hr hi hl (Qs z hr hi hl (fun r => r = some (vI (mEnd (fun y => cJoin hi y jd) 50 (cGiven hi p dy))))) := by
  refine a_ct_of rfl (Nat.le_of_ble_eq_true rfl) ?_
  refine a_aload_n (n := 1) dX2_nameOf_0 rfl rfl ?_
  refine a_iload_n (n := 2) dX2_nameOf_1 rfl rfl ?_
  refine a_iload_n (n := 3) dX2_nameOf_2 rfl rfl ?_
  refine a_callV (M2 := mX2_givenAsOf) (n := 6) dX2_nameOf_3 rfl (c_given (d := d) hz hR hg) kX2_givenAsOf lX2_41 iX2_givenAsOf eX2_givenAsOf (by decide) (by omega) (s3 hz) rfl (Nat.le_of_ble_eq_true rfl) (fun q3 z3 hr3 hi3 hl3 h3 => ?_)
  obtain ⟨e13, e23, e33, e43, rfl⟩ := h3
  obtain rfl := e13.symm
  obtain rfl := e23.symm
  obtain rfl := e33.symm
  obtain rfl := e43.symm
  show a_wp G _ _ _ _ (vI _ :: _) _ _ _ _ _
  refine b_istore (n := 8) dX2_nameOf_6 rfl (by decide) rfl ?_
  refine a_iconst (n := 9) dX2_nameOf_8 rfl ⟨by decide, by decide⟩ ?_
  refine b_istore (n := 11) dX2_nameOf_9 rfl (by decide) rfl ?_
  exact c_nameOf_l hz hR hc hf 50 _ 0 _ (by decide) (by decide)
set_option maxRecDepth 100000 in
set_option maxHeartbeats 4000000 in
theorem c_plantAt (hz : stZ z) (hR : stR hr) {p : Int} (hn : 0 ≤ hi 0 9 ∧ hi 0 9 ≤ 40) : a_ct G mX9_plantAt (d + 1) [vR 0, vI p] z hr hi hl (Qs z hr hi hl (fun r => ((0 ≤ p ∧ p < hi 0 9) ∧ r = some (vO (hr 1 p))) ∨ (¬ (0 ≤ p ∧ p < hi 0 9) ∧ r = some (vO none)))) := by
  refine a_ct_of rfl (Nat.le_of_ble_eq_true rfl) ?_
  refine a_iload_n (n := 1) dX9_plantAt_0 rfl rfl ?_
  refine a_iconst (n := 2) dX9_plantAt_1 rfl ⟨by decide, by decide⟩ ?_
  refine a_aload_n (n := 3) dX9_plantAt_2 rfl rfl ?_
  refine a_getI (n := 6) dX9_plantAt_3 rfl fX9_79 (s0 hz) ?_
  refine a_iconst (n := 7) dX9_plantAt_6 rfl ⟨by decide, by decide⟩ ?_
  refine a_isub (n := 8) dX9_plantAt_7 rfl ⟨by omega, by omega⟩ ?_
  refine a_callS (M2 := mX9_within) (n := 11) dX9_plantAt_8 rfl (c_within (d := d)) kX9_within lX9_67 sX9_within (by omega) rfl (Nat.le_of_ble_eq_true rfl) (fun q8 z8 hr8 hi8 hl8 h8 => ?_)
  obtain ⟨e18, e28, e38, e48, b8, rfl, hb8⟩ := h8
  obtain rfl := e18.symm
  obtain rfl := e28.symm
  obtain rfl := e38.symm
  obtain rfl := e48.symm
  show a_wp G _ _ _ _ (vI b8 :: _) _ _ _ _ _
  refine a_if_eq (t := 23) (n := 14) dX9_plantAt_11 rfl rfl (fun c11 => ?_) (fun c11 => ?_)
  · replace hb8 := isB_f hb8 (by omega)
    refine a_null (n := 24) dX9_plantAt_23 rfl ?_
    refine a_areturn dX9_plantAt_24 rfl ?_
    exact ⟨rfl, rfl, rfl, rfl, Or.inr ⟨by omega, rfl⟩⟩
  · replace hb8 := isB_t hb8 (by omega)
    refine a_aload_n (n := 15) dX9_plantAt_14 rfl rfl ?_
    refine a_getR (n := 18) dX9_plantAt_15 rfl fX9_11 (s0 hz) (r0_0 hR) ?_
    refine a_iload_n (n := 19) dX9_plantAt_18 rfl rfl ?_
    refine a_aald (n := 20) dX9_plantAt_19 rfl (s1 hz) (by decide) (by omega) (by omega) ?_
    refine a_goto (t := 24) dX9_plantAt_20 rfl ?_
    refine a_areturn dX9_plantAt_24 rfl ?_
    exact ⟨rfl, rfl, rfl, rfl, Or.inl ⟨by omega, rfl⟩⟩
set_option maxRecDepth 100000 in
set_option maxHeartbeats 4000000 in
theorem c_bedAt (hz : stZ z) (hR : stR hr) {p : Int} (hn : 0 ≤ hi 0 10 ∧ hi 0 10 ≤ 8) : a_ct G mX9_bedAt (d + 1) [vR 0, vI p] z hr hi hl (Qs z hr hi hl (fun r => ((0 ≤ p ∧ p < hi 0 10) ∧ r = some (vO (hr 2 p))) ∨ (¬ (0 ≤ p ∧ p < hi 0 10) ∧ r = some (vO none)))) := by
  refine a_ct_of rfl (Nat.le_of_ble_eq_true rfl) ?_
  refine a_iload_n (n := 1) dX9_bedAt_0 rfl rfl ?_
  refine a_iconst (n := 2) dX9_bedAt_1 rfl ⟨by decide, by decide⟩ ?_
  refine a_aload_n (n := 3) dX9_bedAt_2 rfl rfl ?_
  refine a_getI (n := 6) dX9_bedAt_3 rfl fX9_131 (s0 hz) ?_
  refine a_iconst (n := 7) dX9_bedAt_6 rfl ⟨by decide, by decide⟩ ?_
  refine a_isub (n := 8) dX9_bedAt_7 rfl ⟨by omega, by omega⟩ ?_
  refine a_callS (M2 := mX9_within) (n := 11) dX9_bedAt_8 rfl (c_within (d := d)) kX9_within lX9_67 sX9_within (by omega) rfl (Nat.le_of_ble_eq_true rfl) (fun q8 z8 hr8 hi8 hl8 h8 => ?_)
  obtain ⟨e18, e28, e38, e48, b8, rfl, hb8⟩ := h8
  obtain rfl := e18.symm
  obtain rfl := e28.symm
  obtain rfl := e38.symm
  obtain rfl := e48.symm
  show a_wp G _ _ _ _ (vI b8 :: _) _ _ _ _ _
  refine a_if_eq (t := 23) (n := 14) dX9_bedAt_11 rfl rfl (fun c11 => ?_) (fun c11 => ?_)
  · replace hb8 := isB_f hb8 (by omega)
    refine a_null (n := 24) dX9_bedAt_23 rfl ?_
    refine a_areturn dX9_bedAt_24 rfl ?_
    exact ⟨rfl, rfl, rfl, rfl, Or.inr ⟨by omega, rfl⟩⟩
  · replace hb8 := isB_t hb8 (by omega)
    refine a_aload_n (n := 15) dX9_bedAt_14 rfl rfl ?_
    refine a_getR (n := 18) dX9_bedAt_15 rfl fX9_17 (s0 hz) (r0_1 hR) ?_
    refine a_iload_n (n := 19) dX9_bedAt_18 rfl rfl ?_
    refine a_aald (n := 20) dX9_bedAt_19 rfl (s2 hz) (by decide) (by omega) (by omega) ?_
    refine a_goto (t := 24) dX9_bedAt_20 rfl ?_
    refine a_areturn dX9_bedAt_24 rfl ?_
    exact ⟨rfl, rfl, rfl, rfl, Or.inl ⟨by omega, rfl⟩⟩
set_option maxRecDepth 100000 in
set_option maxHeartbeats 4000000 in
theorem c_canEnter (hz : stZ z) (hR : stR hr) {m : Int} : a_ct G mX9_canEnter (d + 1) [vR 0, vI m] z hr hi hl (Qs z hr hi hl (isB ((1 ≤ m ∧ m ≤ 100) ∧ hi 0 9 < 40))) := by
  refine a_ct_of rfl (Nat.le_of_ble_eq_true rfl) ?_
  refine a_iload_n (n := 1) dX9_canEnter_0 rfl rfl ?_
  refine a_iconst (n := 2) dX9_canEnter_1 rfl ⟨by decide, by decide⟩ ?_
  refine a_bipush (n := 4) dX9_canEnter_2 rfl ⟨by decide, by decide⟩ (by decide) ?_
  refine a_callS (M2 := mX9_within) (n := 7) dX9_canEnter_4 rfl (c_within (d := d)) kX9_within lX9_67 sX9_within (by omega) rfl (Nat.le_of_ble_eq_true rfl) (fun q4 z4 hr4 hi4 hl4 h4 => ?_)
  obtain ⟨e14, e24, e34, e44, b4, rfl, hb4⟩ := h4
  obtain rfl := e14.symm
  obtain rfl := e24.symm
  obtain rfl := e34.symm
  obtain rfl := e44.symm
  show a_wp G _ _ _ _ (vI b4 :: _) _ _ _ _ _
  refine a_if_eq (t := 23) (n := 10) dX9_canEnter_7 rfl rfl (fun c7 => ?_) (fun c7 => ?_)
  · replace hb4 := isB_f hb4 (by omega)
    refine a_iconst (n := 24) dX9_canEnter_23 rfl ⟨by decide, by decide⟩ ?_
    refine a_zreturn dX9_canEnter_24 rfl (by omega) ?_
    exact ⟨rfl, rfl, rfl, rfl, _, rfl, by omega⟩
  · replace hb4 := isB_t hb4 (by omega)
    refine a_aload_n (n := 11) dX9_canEnter_10 rfl rfl ?_
    refine a_getI (n := 14) dX9_canEnter_11 rfl fX9_79 (s0 hz) ?_
    refine a_bipush (n := 16) dX9_canEnter_14 rfl ⟨by decide, by decide⟩ (by decide) ?_
    refine a_icmp_ge (t := 23) (n := 19) dX9_canEnter_16 rfl rfl (fun c16 => ?_) (fun c16 => ?_)
    · refine a_iconst (n := 24) dX9_canEnter_23 rfl ⟨by decide, by decide⟩ ?_
      refine a_zreturn dX9_canEnter_24 rfl (by omega) ?_
      exact ⟨rfl, rfl, rfl, rfl, _, rfl, by omega⟩
    · refine a_iconst (n := 20) dX9_canEnter_19 rfl ⟨by decide, by decide⟩ ?_
      refine a_goto (t := 24) dX9_canEnter_20 rfl ?_
      refine a_zreturn dX9_canEnter_24 rfl (by omega) ?_
      exact ⟨rfl, rfl, rfl, rfl, _, rfl, by omega⟩
end C1
