/-- the first line whose worth is not 0 -/
def leR (op one kn la bar : Int → Int) (F : Nat) : Nat → Int → (Int → Int) → Option (Int × (Int → Int))
  | 0, _, f => some (0, f)
  | n + 1, k, f => match wR op one kn F (la k) 0 f with
    | none => none
    | some (v, g) => if v = 0 then leR op one kn la bar F n (k + 1) g else some (if bar k = 0 then 1 else 0, g)
theorem pil_s {hi : aI} {f : Int → Int} : pil hi f 52 = f := by
  funext j
  rw [pil_eq, if_pos rfl]
theorem mName_up {hi : aI} {b : Nat} {i v : Int} {N : Nat} {p dy jd : Int} (h : b ≠ 37) (h1 : b ≠ 64) (h2 : b ≠ 65) (h3 : b ≠ 66) (h4 : b ≠ 67) (h5 : b ≠ 68) (h6 : b ≠ 69) : mName (up2 hi b i v) N p dy jd = mName hi N p dy jd := by
  unfold mName mGiven mJoin
  rw [up2_f (Ne.symm h1), up2_f (Ne.symm h2), up2_f (Ne.symm h3), up2_f (Ne.symm h4), up2_f (Ne.symm h5), up2_f (Ne.symm h6), up2_f (Ne.symm h)]
theorem mJoin_up {hi : aI} {b : Nat} {i v : Int} {x jd : Int} (h : b ≠ 37) (h4 : b ≠ 67) (h5 : b ≠ 68) (h6 : b ≠ 69) : mJoin (up2 hi b i v) x jd = mJoin hi x jd := by
  unfold mJoin
  rw [up2_f (Ne.symm h4), up2_f (Ne.symm h5), up2_f (Ne.symm h6), up2_f (Ne.symm h)]
/-- what is known of a SENDING, as lets writes it -/
def mKn (hi : aI) (N : Nat) (p h a : Int) : aI := up2 (up2 (up2 (up2 (up2 (up2 (up2 hi 51 0 (hi 63 (mRoot (hi 53) (hi 54) 40 p))) 51 1 (mName hi N p (hi 37 24) (hi 37 24))) 51 2 h) 51 3 a) 51 4 (if hi 53 (mStem (hi 53) (hi 54) 40 p) = 2 then 1 else 0)) 51 5 (hi 56 p)) 51 6 (hi 37 24)
section M22
variable {G : aG} {d : Nat} {z : aZ} {hr : aR} {hi hl : aI}
set_option maxRecDepth 100000 in
set_option maxHeartbeats 4000000 in
theorem le_100 (hz : stZ z) (hR : stR hr) {p h a v : Int} {g : Int → Int} {F : Nat} (hh : 0 ≤ hi 37 15 ∧ hi 37 15 ≤ 1) (hL : 0 ≤ hi 43 (hi 37 15) ∧ hi 43 (hi 37 15) ≤ 16) (n : Nat) : ∀ (k : Int) (f : Int → Int), 16 * hi 37 15 ≤ k → k + n = 16 * hi 37 15 + hi 43 (hi 37 15) → leR (hi 46) (hi 47) (hi 51) (hi 45) (hi 44) F n k f = some (v, g) → a_wp G mX10_lets (d + 1) 100 [some (vR 37), some (vI p), some (vI h), some (vI a), some (vI k)] [] z hr (pil hi f) hl (fun r z' hr' hi' hl' => z' = z ∧ hr' = hr ∧ hl' = hl ∧ r = some (vI v) ∧ hi' = pil hi g) := by
  induction n with
  | zero =>
    intro k f hk hn hrun
    refine a_iload (n := 102) dX10_lets_100 rfl rfl ?_
    refine a_bipush (n := 104) dX10_lets_102 rfl ⟨by decide, by decide⟩ (by decide) ?_
    refine a_aload_n (n := 105) dX10_lets_104 rfl rfl ?_
    refine a_getI (n := 108) dX10_lets_105 rfl fX10_219 (s37 hz) ?_
    try simp only [up2_eq, pil_eq, Nat.reduceEqDiff, Int.reduceEq, Int.reduceNeg, and_true, true_and, and_false, false_and, and_self, if_true, if_false, ite_true, ite_false, reduceIte, eq_self]
    refine a_imul (n := 109) dX10_lets_108 rfl ⟨by omega, by omega⟩ ?_
    refine a_aload_n (n := 110) dX10_lets_109 rfl rfl ?_
    refine a_getR (n := 113) dX10_lets_110 rfl fX10_59 (s37 hz) (r37_10 hR) ?_
    refine a_aload_n (n := 114) dX10_lets_113 rfl rfl ?_
    refine a_getI (n := 117) dX10_lets_114 rfl fX10_219 (s37 hz) ?_
    try simp only [up2_eq, pil_eq, Nat.reduceEqDiff, Int.reduceEq, Int.reduceNeg, and_true, true_and, and_false, false_and, and_self, if_true, if_false, ite_true, ite_false, reduceIte, eq_self]
    refine a_iald (n := 118) dX10_lets_117 rfl (s43 hz) (by omega) (by omega) ?_
    try simp only [up2_eq, pil_eq, Nat.reduceEqDiff, Int.reduceEq, Int.reduceNeg, and_true, true_and, and_false, false_and, and_self, if_true, if_false, ite_true, ite_false, reduceIte, eq_self]
    refine a_iadd (n := 119) dX10_lets_118 rfl ⟨by omega, by omega⟩ ?_
    refine a_icmp_ge (t := 158) (n := 122) dX10_lets_119 rfl rfl (fun c119 => ?_) (fun c119 => ?_)
    · refine a_iconst (n := 159) dX10_lets_158 rfl ⟨by decide, by decide⟩ ?_
      refine a_zreturn dX10_lets_159 rfl (by omega) ?_
      obtain ⟨rfl, rfl⟩ := Prod.mk.inj (Option.some.inj hrun)
      exact ⟨rfl, rfl, rfl, rfl, rfl⟩
    · omega
  | succ n ih =>
    intro k f hk hn hrun
    rw [leR] at hrun
    cases e : wR (hi 46) (hi 47) (hi 51) F (hi 45 k) 0 f with
    | none => rw [e] at hrun; cases hrun
    | some y =>
      rw [e] at hrun
      replace hrun : (if y.1 = 0 then leR (hi 46) (hi 47) (hi 51) (hi 45) (hi 44) F n (k + 1) y.2 else some (if hi 44 k = 0 then 1 else 0, y.2)) = some (v, g) := hrun
      refine a_iload (n := 102) dX10_lets_100 rfl rfl ?_
      refine a_bipush (n := 104) dX10_lets_102 rfl ⟨by decide, by decide⟩ (by decide) ?_
      refine a_aload_n (n := 105) dX10_lets_104 rfl rfl ?_
      refine a_getI (n := 108) dX10_lets_105 rfl fX10_219 (s37 hz) ?_
      try simp only [up2_eq, pil_eq, Nat.reduceEqDiff, Int.reduceEq, Int.reduceNeg, and_true, true_and, and_false, false_and, and_self, if_true, if_false, ite_true, ite_false, reduceIte, eq_self]
      refine a_imul (n := 109) dX10_lets_108 rfl ⟨by omega, by omega⟩ ?_
      refine a_aload_n (n := 110) dX10_lets_109 rfl rfl ?_
      refine a_getR (n := 113) dX10_lets_110 rfl fX10_59 (s37 hz) (r37_10 hR) ?_
      refine a_aload_n (n := 114) dX10_lets_113 rfl rfl ?_
      refine a_getI (n := 117) dX10_lets_114 rfl fX10_219 (s37 hz) ?_
      try simp only [up2_eq, pil_eq, Nat.reduceEqDiff, Int.reduceEq, Int.reduceNeg, and_true, true_and, and_false, false_and, and_self, if_true, if_false, ite_true, ite_false, reduceIte, eq_self]
      refine a_iald (n := 118) dX10_lets_117 rfl (s43 hz) (by omega) (by omega) ?_
      try simp only [up2_eq, pil_eq, Nat.reduceEqDiff, Int.reduceEq, Int.reduceNeg, and_true, true_and, and_false, false_and, and_self, if_true, if_false, ite_true, ite_false, reduceIte, eq_self]
      refine a_iadd (n := 119) dX10_lets_118 rfl ⟨by omega, by omega⟩ ?_
      refine a_icmp_ge (t := 158) (n := 122) dX10_lets_119 rfl rfl (fun c119 => ?_) (fun c119 => ?_)
      · omega
      · refine a_aload_n (n := 123) dX10_lets_122 rfl rfl ?_
        refine a_aload_n (n := 124) dX10_lets_123 rfl rfl ?_
        refine a_getR (n := 127) dX10_lets_124 rfl fX10_66 (s37 hz) (r37_12 hR) ?_
        refine a_iload (n := 129) dX10_lets_127 rfl rfl ?_
        refine a_iald (n := 130) dX10_lets_129 rfl (s45 hz) (by omega) (by omega) ?_
        try simp only [up2_eq, pil_eq, Nat.reduceEqDiff, Int.reduceEq, Int.reduceNeg, and_true, true_and, and_false, false_and, and_self, if_true, if_false, ite_true, ite_false, reduceIte, eq_self]
        refine a_callV (M2 := mX10_worth) (n := 133) dX10_lets_130 rfl (m_worth (d := d) (v := y.1) (g := y.2) hz hR (by rw [pil_n (by decide), pil_n (by decide), pil_n (by decide), pil_s]; exact e)) kX10_worth lX10_333 iX10_worth eX10_worth (by decide) (by omega) (s37 hz) rfl (Nat.le_of_ble_eq_true rfl) (fun q130 z130 hr130 hi130 hl130 h130 => ?_)
        obtain ⟨e1130, e2130, e3130, rfl, e4130⟩ := h130
        obtain rfl := e1130.symm
        obtain rfl := e2130.symm
        obtain rfl := e3130.symm
        rw [pil_p] at e4130
        subst e4130
        show a_wp G _ _ _ _ (vI _ :: _) _ _ _ _ _
        refine a_if_eq (t := 152) (n := 136) dX10_lets_133 rfl rfl (fun c133 => ?_) (fun c133 => ?_)
        · refine b_iinc (n := 155) dX10_lets_152 rfl (by decide) rfl rfl ⟨by omega, by omega⟩ ?_
          refine a_goto (t := 100) dX10_lets_155 rfl ?_
          rw [if_pos c133] at hrun
          exact ih (k + 1) _ (by omega) (by omega) hrun
        · refine a_aload_n (n := 137) dX10_lets_136 rfl rfl ?_
          refine a_getR (n := 140) dX10_lets_137 rfl fX10_62 (s37 hz) (r37_11 hR) ?_
          refine a_iload (n := 142) dX10_lets_140 rfl rfl ?_
          refine a_zald (n := 143) dX10_lets_142 rfl (s44 hz) (by omega) (by omega) ?_
          try simp only [up2_eq, pil_eq, Nat.reduceEqDiff, Int.reduceEq, Int.reduceNeg, and_true, true_and, and_false, false_and, and_self, if_true, if_false, ite_true, ite_false, reduceIte, eq_self]
          refine a_if_ne (t := 150) (n := 146) dX10_lets_143 rfl rfl (fun c143 => ?_) (fun c143 => ?_)
          · refine a_iconst (n := 151) dX10_lets_150 rfl ⟨by decide, by decide⟩ ?_
            refine a_zreturn dX10_lets_151 rfl (by omega) ?_
            rw [if_neg c133, if_neg c143] at hrun
            obtain ⟨rfl, rfl⟩ := Prod.mk.inj (Option.some.inj hrun)
            exact ⟨rfl, rfl, rfl, rfl, rfl⟩
          · refine a_iconst (n := 147) dX10_lets_146 rfl ⟨by decide, by decide⟩ ?_
            refine a_goto (t := 151) dX10_lets_147 rfl ?_
            refine a_zreturn dX10_lets_151 rfl (by omega) ?_
            rw [if_neg c133, if_pos c143] at hrun
            obtain ⟨rfl, rfl⟩ := Prod.mk.inj (Option.some.inj hrun)
            exact ⟨rfl, rfl, rfl, rfl, rfl⟩
theorem mKn_f {N : Nat} {p h a : Int} {b : Nat} (hb : b ≠ 51) : mKn hi N p h a b = hi b := by
  unfold mKn
  rw [up2_f hb, up2_f hb, up2_f hb, up2_f hb, up2_f hb, up2_f hb, up2_f hb]
set_option maxRecDepth 100000 in
set_option maxHeartbeats 4000000 in
theorem m_lets (hz : stZ z) (hR : stR hr) (hT : mTree hi) {p h a : Int} {N F : Nat} (hp : 0 ≤ p ∧ p < hi 37 25) (hg : 0 ≤ hi 37 37 ∧ hi 37 37 ≤ 300) (hj : 0 ≤ hi 37 41 ∧ hi 37 41 ≤ 100) (hZ : ∀ x, mZ (fun y => mJoin hi y (hi 37 24)) N (mJoin hi x (hi 37 24))) (hh : 0 ≤ hi 37 15 ∧ hi 37 15 ≤ 1) (hL : 0 ≤ hi 43 (hi 37 15) ∧ hi 43 (hi 37 15) ≤ 16) {v : Int} {g : Int → Int} (hrun : leR (hi 46) (hi 47) (mKn hi N p h a 51) (hi 45) (hi 44) F (hi 43 (hi 37 15)).toNat (16 * hi 37 15) (hi 52) = some (v, g)) : a_ct G mX10_lets (d + 3) [vR 37, vI p, vI h, vI a] z hr hi hl (fun r z' hr' hi' hl' => z' = z ∧ hr' = hr ∧ hl' = hl ∧ r = some (vI v) ∧ hi' = pil (mKn hi N p h a) g) := by
  have hp40 := hT.2.1
  refine a_ct_of rfl (Nat.le_of_ble_eq_true rfl) ?_
  refine a_aload_n (n := 1) dX10_lets_0 rfl rfl ?_
  refine a_getR (n := 4) dX10_lets_1 rfl fX10_84 (s37 hz) (r37_22 hR) ?_
  refine a_iconst (n := 5) dX10_lets_4 rfl ⟨by decide, by decide⟩ ?_
  refine a_aload_n (n := 6) dX10_lets_5 rfl rfl ?_
  refine a_getR (n := 9) dX10_lets_6 rfl fX10_120 (s37 hz) (r37_36 hR) ?_
  refine a_aload_n (n := 10) dX10_lets_9 rfl rfl ?_
  refine a_iload_n (n := 11) dX10_lets_10 rfl rfl ?_
  refine a_callV (M2 := mX10_rootOf) (n := 14) dX10_lets_11 rfl (m_rootOf (d := d + 2) hz hR hT hp) kX10_rootOf lX10_327 iX10_rootOf eX10_rootOf (by decide) (by omega) (s37 hz) rfl (Nat.le_of_ble_eq_true rfl) (fun q11 z11 hr11 hi11 hl11 h11 => ?_)
  obtain ⟨e111, e211, e311, e411, rfl⟩ := h11
  obtain rfl := e111.symm
  obtain rfl := e211.symm
  obtain rfl := e311.symm
  obtain rfl := e411.symm
  have hrb := mRoot_in hT hT.2.1 40 p hp.1 hp.2
  show a_wp G _ _ _ _ (vI _ :: _) _ _ _ _ _
  refine a_iald (n := 15) dX10_lets_14 rfl (s63 hz) (by omega) (by omega) ?_
  refine a_iast (n := 16) dX10_lets_15 rfl (s51 hz) (by omega) (by omega) ?_
  refine a_aload_n (n := 17) dX10_lets_16 rfl rfl ?_
  refine a_getR (n := 20) dX10_lets_17 rfl fX10_84 (s37 hz) (r37_22 hR) ?_
  refine a_iconst (n := 21) dX10_lets_20 rfl ⟨by decide, by decide⟩ ?_
  refine a_aload_n (n := 22) dX10_lets_21 rfl rfl ?_
  refine a_iload_n (n := 23) dX10_lets_22 rfl rfl ?_
  refine a_aload_n (n := 24) dX10_lets_23 rfl rfl ?_
  refine a_getI (n := 27) dX10_lets_24 rfl fX10_255 (s37 hz) ?_
  try simp only [up2_eq, Nat.reduceEqDiff, Int.reduceEq, Int.reduceNeg, and_true, true_and, and_false, false_and, and_self, if_true, if_false, ite_true, ite_false, reduceIte, eq_self]
  refine a_aload_n (n := 28) dX10_lets_27 rfl rfl ?_
  refine a_getI (n := 31) dX10_lets_28 rfl fX10_255 (s37 hz) ?_
  try simp only [up2_eq, Nat.reduceEqDiff, Int.reduceEq, Int.reduceNeg, and_true, true_and, and_false, false_and, and_self, if_true, if_false, ite_true, ite_false, reduceIte, eq_self]
  refine a_callV (M2 := mX10_nameOf) (n := 34) dX10_lets_31 rfl (m_nameOf (d := d) (N := N) hz hR (by simp only [up2_eq, pil_eq, Nat.reduceEqDiff, Int.reduceEq, and_true, true_and, and_false, false_and, and_self, if_true, if_false, reduceIte]; exact hg) (by simp only [up2_eq, pil_eq, Nat.reduceEqDiff, Int.reduceEq, and_true, true_and, and_false, false_and, and_self, if_true, if_false, reduceIte]; exact hj) (fun x => by simp only [mJoin_up (b := 51) (by decide) (by decide) (by decide) (by decide)]; exact hZ x)) kX10_nameOf lX10_302 iX10_nameOf eX10_nameOf (by decide) (by omega) (s37 hz) rfl (Nat.le_of_ble_eq_true rfl) (fun q31 z31 hr31 hi31 hl31 h31 => ?_)
  rw [mName_up (by decide) (by decide) (by decide) (by decide) (by decide) (by decide) (by decide)] at h31
  obtain ⟨e131, e231, e331, e431, rfl⟩ := h31
  obtain rfl := e131.symm
  obtain rfl := e231.symm
  obtain rfl := e331.symm
  obtain rfl := e431.symm
  show a_wp G _ _ _ _ (vI _ :: _) _ _ _ _ _
  refine a_iast (n := 35) dX10_lets_34 rfl (s51 hz) (by omega) (by omega) ?_
  refine a_aload_n (n := 36) dX10_lets_35 rfl rfl ?_
  refine a_getR (n := 39) dX10_lets_36 rfl fX10_84 (s37 hz) (r37_22 hR) ?_
  refine a_iconst (n := 40) dX10_lets_39 rfl ⟨by decide, by decide⟩ ?_
  refine a_iload_n (n := 41) dX10_lets_40 rfl rfl ?_
  refine a_iast (n := 42) dX10_lets_41 rfl (s51 hz) (by omega) (by omega) ?_
  refine a_aload_n (n := 43) dX10_lets_42 rfl rfl ?_
  refine a_getR (n := 46) dX10_lets_43 rfl fX10_84 (s37 hz) (r37_22 hR) ?_
  refine a_iconst (n := 47) dX10_lets_46 rfl ⟨by decide, by decide⟩ ?_
  refine a_iload_n (n := 48) dX10_lets_47 rfl rfl ?_
  refine a_iast (n := 49) dX10_lets_48 rfl (s51 hz) (by omega) (by omega) ?_
  refine a_aload_n (n := 50) dX10_lets_49 rfl rfl ?_
  refine a_getR (n := 53) dX10_lets_50 rfl fX10_84 (s37 hz) (r37_22 hR) ?_
  refine a_iconst (n := 54) dX10_lets_53 rfl ⟨by decide, by decide⟩ ?_
  refine a_aload_n (n := 55) dX10_lets_54 rfl rfl ?_
  refine a_iload_n (n := 56) dX10_lets_55 rfl rfl ?_
  refine a_callV (M2 := mX10_isCut) (n := 59) dX10_lets_56 rfl (m_isCut (d := d + 2) hz hR ((((hT.up (by decide) (by decide) (by decide)).up (by decide) (by decide) (by decide)).up (by decide) (by decide) (by decide)).up (by decide) (by decide) (by decide)) (by simp only [up2_eq, pil_eq, Nat.reduceEqDiff, Int.reduceEq, and_true, true_and, and_false, false_and, and_self, if_true, if_false, reduceIte]; exact hp)) kX10_isCut lX10_330 iX10_isCut eX10_isCut (by decide) (by omega) (s37 hz) rfl (Nat.le_of_ble_eq_true rfl) (fun q56 z56 hr56 hi56 hl56 h56 => ?_)
  have e53 : ∀ x y, (up2 (up2 (up2 (up2 hi 51 0 x) 51 1 y) 51 2 h) 51 3 a) 53 = hi 53 := fun x y => ((up2_f (by decide)).trans (up2_f (by decide))).trans ((up2_f (by decide)).trans (up2_f (by decide)))
  have e54 : ∀ x y, (up2 (up2 (up2 (up2 hi 51 0 x) 51 1 y) 51 2 h) 51 3 a) 54 = hi 54 := fun x y => ((up2_f (by decide)).trans (up2_f (by decide))).trans ((up2_f (by decide)).trans (up2_f (by decide)))
  rw [e53, e54] at h56
  obtain ⟨e156, e256, e356, e456, b56, rfl, hb56⟩ := h56
  obtain rfl := e156.symm
  obtain rfl := e256.symm
  obtain rfl := e356.symm
  obtain rfl := e456.symm
  show a_wp G _ _ _ _ (vI b56 :: _) _ _ _ _ _
  refine a_if_eq (t := 66) (n := 62) dX10_lets_59 rfl rfl (fun c59 => ?_) (fun c59 => ?_)
  · replace hb56 := isB_f hb56 c59
    refine a_iconst (n := 67) dX10_lets_66 rfl ⟨by decide, by decide⟩ ?_
    refine a_iast (n := 68) dX10_lets_67 rfl (s51 hz) (by omega) (by omega) ?_
    refine a_aload_n (n := 69) dX10_lets_68 rfl rfl ?_
    refine a_getR (n := 72) dX10_lets_69 rfl fX10_84 (s37 hz) (r37_22 hR) ?_
    refine a_iconst (n := 73) dX10_lets_72 rfl ⟨by decide, by decide⟩ ?_
    refine a_aload_n (n := 74) dX10_lets_73 rfl rfl ?_
    refine a_getR (n := 77) dX10_lets_74 rfl fX10_99 (s37 hz) (r37_29 hR) ?_
    refine a_iload_n (n := 78) dX10_lets_77 rfl rfl ?_
    refine a_iald (n := 79) dX10_lets_78 rfl (s56 hz) (by omega) (by omega) ?_
    try simp only [up2_eq, Nat.reduceEqDiff, Int.reduceEq, Int.reduceNeg, and_true, true_and, and_false, false_and, and_self, if_true, if_false, ite_true, ite_false, reduceIte, eq_self]
    refine a_iast (n := 80) dX10_lets_79 rfl (s51 hz) (by omega) (by omega) ?_
    refine a_aload_n (n := 81) dX10_lets_80 rfl rfl ?_
    refine a_getR (n := 84) dX10_lets_81 rfl fX10_84 (s37 hz) (r37_22 hR) ?_
    refine a_bipush (n := 86) dX10_lets_84 rfl ⟨by decide, by decide⟩ (by decide) ?_
    refine a_aload_n (n := 87) dX10_lets_86 rfl rfl ?_
    refine a_getI (n := 90) dX10_lets_87 rfl fX10_255 (s37 hz) ?_
    try simp only [up2_eq, Nat.reduceEqDiff, Int.reduceEq, Int.reduceNeg, and_true, true_and, and_false, false_and, and_self, if_true, if_false, ite_true, ite_false, reduceIte, eq_self]
    refine a_iast (n := 91) dX10_lets_90 rfl (s51 hz) (by omega) (by omega) ?_
    refine a_bipush (n := 93) dX10_lets_91 rfl ⟨by decide, by decide⟩ (by decide) ?_
    refine a_aload_n (n := 94) dX10_lets_93 rfl rfl ?_
    refine a_getI (n := 97) dX10_lets_94 rfl fX10_219 (s37 hz) ?_
    try simp only [up2_eq, Nat.reduceEqDiff, Int.reduceEq, Int.reduceNeg, and_true, true_and, and_false, false_and, and_self, if_true, if_false, ite_true, ite_false, reduceIte, eq_self]
    refine a_imul (n := 98) dX10_lets_97 rfl ⟨by omega, by omega⟩ ?_
    refine b_istore (n := 100) dX10_lets_98 rfl (by decide) rfl ?_
    have e := le_100 (G := G) (d := d + 2) (z := z) (hr := hr) (hi := mKn hi N p h a) (hl := hl) (p := p) (h := h) (a := a) (v := v) (g := g) (F := F) hz hR (by unfold mKn; simp only [up2_eq, pil_eq, Nat.reduceEqDiff, Int.reduceEq, and_true, true_and, and_false, false_and, and_self, if_true, if_false, reduceIte]; exact hh) (by unfold mKn; simp only [up2_eq, pil_eq, Nat.reduceEqDiff, Int.reduceEq, and_true, true_and, and_false, false_and, and_self, if_true, if_false, reduceIte]; exact hL) (hi 43 (hi 37 15)).toNat (16 * hi 37 15) (mKn hi N p h a 52) (by unfold mKn; simp only [up2_eq, pil_eq, Nat.reduceEqDiff, Int.reduceEq, and_true, true_and, and_false, false_and, and_self, if_true, if_false, reduceIte]; omega) (by unfold mKn; simp only [up2_eq, pil_eq, Nat.reduceEqDiff, Int.reduceEq, and_true, true_and, and_false, false_and, and_self, if_true, if_false, reduceIte]; omega) (by rw [mKn_f (b := 46) (by decide), mKn_f (b := 47) (by decide), mKn_f (b := 45) (by decide), mKn_f (b := 44) (by decide), mKn_f (b := 52) (by decide)]; exact hrun)
    rw [pil_0] at e
    unfold mKn at e ⊢
    rw [if_neg hb56] at e ⊢
    exact e
  · replace hb56 := isB_t hb56 (by omega)
    refine a_iconst (n := 63) dX10_lets_62 rfl ⟨by decide, by decide⟩ ?_
    refine a_goto (t := 67) dX10_lets_63 rfl ?_
    refine a_iast (n := 68) dX10_lets_67 rfl (s51 hz) (by omega) (by omega) ?_
    refine a_aload_n (n := 69) dX10_lets_68 rfl rfl ?_
    refine a_getR (n := 72) dX10_lets_69 rfl fX10_84 (s37 hz) (r37_22 hR) ?_
    refine a_iconst (n := 73) dX10_lets_72 rfl ⟨by decide, by decide⟩ ?_
    refine a_aload_n (n := 74) dX10_lets_73 rfl rfl ?_
    refine a_getR (n := 77) dX10_lets_74 rfl fX10_99 (s37 hz) (r37_29 hR) ?_
    refine a_iload_n (n := 78) dX10_lets_77 rfl rfl ?_
    refine a_iald (n := 79) dX10_lets_78 rfl (s56 hz) (by omega) (by omega) ?_
    try simp only [up2_eq, Nat.reduceEqDiff, Int.reduceEq, Int.reduceNeg, and_true, true_and, and_false, false_and, and_self, if_true, if_false, ite_true, ite_false, reduceIte, eq_self]
    refine a_iast (n := 80) dX10_lets_79 rfl (s51 hz) (by omega) (by omega) ?_
    refine a_aload_n (n := 81) dX10_lets_80 rfl rfl ?_
    refine a_getR (n := 84) dX10_lets_81 rfl fX10_84 (s37 hz) (r37_22 hR) ?_
    refine a_bipush (n := 86) dX10_lets_84 rfl ⟨by decide, by decide⟩ (by decide) ?_
    refine a_aload_n (n := 87) dX10_lets_86 rfl rfl ?_
    refine a_getI (n := 90) dX10_lets_87 rfl fX10_255 (s37 hz) ?_
    try simp only [up2_eq, Nat.reduceEqDiff, Int.reduceEq, Int.reduceNeg, and_true, true_and, and_false, false_and, and_self, if_true, if_false, ite_true, ite_false, reduceIte, eq_self]
    refine a_iast (n := 91) dX10_lets_90 rfl (s51 hz) (by omega) (by omega) ?_
    refine a_bipush (n := 93) dX10_lets_91 rfl ⟨by decide, by decide⟩ (by decide) ?_
    refine a_aload_n (n := 94) dX10_lets_93 rfl rfl ?_
    refine a_getI (n := 97) dX10_lets_94 rfl fX10_219 (s37 hz) ?_
    try simp only [up2_eq, Nat.reduceEqDiff, Int.reduceEq, Int.reduceNeg, and_true, true_and, and_false, false_and, and_self, if_true, if_false, ite_true, ite_false, reduceIte, eq_self]
    refine a_imul (n := 98) dX10_lets_97 rfl ⟨by omega, by omega⟩ ?_
    refine b_istore (n := 100) dX10_lets_98 rfl (by decide) rfl ?_
    have e := le_100 (G := G) (d := d + 2) (z := z) (hr := hr) (hi := mKn hi N p h a) (hl := hl) (p := p) (h := h) (a := a) (v := v) (g := g) (F := F) hz hR (by unfold mKn; simp only [up2_eq, pil_eq, Nat.reduceEqDiff, Int.reduceEq, and_true, true_and, and_false, false_and, and_self, if_true, if_false, reduceIte]; exact hh) (by unfold mKn; simp only [up2_eq, pil_eq, Nat.reduceEqDiff, Int.reduceEq, and_true, true_and, and_false, false_and, and_self, if_true, if_false, reduceIte]; exact hL) (hi 43 (hi 37 15)).toNat (16 * hi 37 15) (mKn hi N p h a 52) (by unfold mKn; simp only [up2_eq, pil_eq, Nat.reduceEqDiff, Int.reduceEq, and_true, true_and, and_false, false_and, and_self, if_true, if_false, reduceIte]; omega) (by unfold mKn; simp only [up2_eq, pil_eq, Nat.reduceEqDiff, Int.reduceEq, and_true, true_and, and_false, false_and, and_self, if_true, if_false, reduceIte]; omega) (by rw [mKn_f (b := 46) (by decide), mKn_f (b := 47) (by decide), mKn_f (b := 45) (by decide), mKn_f (b := 44) (by decide), mKn_f (b := 52) (by decide)]; exact hrun)
    rw [pil_0] at e
    unfold mKn at e ⊢
    rw [if_pos hb56] at e ⊢
    exact e
theorem up2_24 {v : Int} : (up2 hi 37 0 v) 37 24 = hi 37 24 := rfl
theorem mJoin_t {v x jd : Int} : mJoin (up2 hi 37 0 v) x jd = mJoin hi x jd := rfl
set_option maxRecDepth 100000 in
set_option maxHeartbeats 4000000 in
theorem m_may (hz : stZ z) (hR : stR hr) (hT : mTree hi) {p h a : Int} {N F : Nat} (hg : 0 ≤ hi 37 37 ∧ hi 37 37 ≤ 300) (hj : 0 ≤ hi 37 41 ∧ hi 37 41 ≤ 100) (hZ : ∀ x, mZ (fun y => mJoin hi y (hi 37 24)) N (mJoin hi x (hi 37 24))) (hh : 0 ≤ hi 37 15 ∧ hi 37 15 ≤ 1) (hL : 0 ≤ hi 43 (hi 37 15) ∧ hi 43 (hi 37 15) ≤ 16) {v : Int} {g : Int → Int} (hrun : 0 ≤ p ∧ p < hi 37 25 ∧ 0 ≤ h ∧ h ≤ 99 ∧ 0 ≤ a ∧ a ≤ 9 → (v = 0 ∨ v = 1) ∧ leR (hi 46) (hi 47) (mKn (up2 hi 37 0 0) N p h a 51) (hi 45) (hi 44) F (hi 43 (hi 37 15)).toNat (16 * hi 37 15) (hi 52) = some (v, g)) : a_ct G mX10_may (d + 4) [vR 37, vI p, vI h, vI a] z hr hi hl (fun r z' hr' hi' hl' => z' = z ∧ hr' = hr ∧ hl' = hl ∧ ((0 ≤ p ∧ p < hi 37 25 ∧ 0 ≤ h ∧ h ≤ 99 ∧ 0 ≤ a ∧ a ≤ 9) ∧ r = some (vI v) ∧ hi' = pil (mKn (up2 hi 37 0 0) N p h a) g ∨ ¬ (0 ≤ p ∧ p < hi 37 25 ∧ 0 ≤ h ∧ h ≤ 99 ∧ 0 ≤ a ∧ a ≤ 9) ∧ r = some (vI (-1)) ∧ hi' = (up2 hi 37 0 0))) := by
  refine a_ct_of rfl (Nat.le_of_ble_eq_true rfl) ?_
  refine a_aload_n (n := 1) dX10_may_0 rfl rfl ?_
  refine a_iconst (n := 2) dX10_may_1 rfl ⟨by decide, by decide⟩ ?_
  refine a_putI (n := 5) dX10_may_2 rfl fX10_1 rfl (s37 hz) (Or.inl rfl) ?_
  refine a_aload_n (n := 6) dX10_may_5 rfl rfl ?_
  refine a_iload_n (n := 7) dX10_may_6 rfl rfl ?_
  refine a_iload_n (n := 8) dX10_may_7 rfl rfl ?_
  refine a_iload_n (n := 9) dX10_may_8 rfl rfl ?_
  refine a_callV (M2 := mX10_isSending) (n := 12) dX10_may_9 rfl (m_isSending (d := d) hz) kX10_isSending lX10_336 iX10_isSending eX10_isSending (by decide) (by omega) (s37 hz) rfl (Nat.le_of_ble_eq_true rfl) (fun q9 z9 hr9 hi9 hl9 h9 => ?_)
  obtain ⟨e19, e29, e39, e49, b9, rfl, hb9⟩ := h9
  obtain rfl := e19.symm
  obtain rfl := e29.symm
  obtain rfl := e39.symm
  obtain rfl := e49.symm
  show a_wp G _ _ _ _ (vI b9 :: _) _ _ _ _ _
  refine a_if_ne (t := 19) (n := 15) dX10_may_12 rfl rfl (fun c12 => ?_) (fun c12 => ?_)
  · replace hb9 := isB_t hb9 (by omega)
    try simp only [up2_eq, pil_eq, Nat.reduceEqDiff, Int.reduceEq, and_true, true_and, and_false, false_and, and_self, if_true, if_false, reduceIte] at hb9
    obtain ⟨hv01, hR2⟩ := hrun hb9
    refine a_aload_n (n := 20) dX10_may_19 rfl rfl ?_
    refine a_iload_n (n := 21) dX10_may_20 rfl rfl ?_
    refine a_iload_n (n := 22) dX10_may_21 rfl rfl ?_
    refine a_iload_n (n := 23) dX10_may_22 rfl rfl ?_
    refine a_callV (M2 := mX10_lets) (n := 26) dX10_may_23 rfl (m_lets (d := d) (N := N) (F := F) (v := v) (g := g) hz hR (hT.up (by decide) (by decide) (by decide)) (by simp only [up2_eq, pil_eq, Nat.reduceEqDiff, Int.reduceEq, and_true, true_and, and_false, false_and, and_self, if_true, if_false, reduceIte]; exact ⟨by omega, by omega⟩) (by simp only [up2_eq, pil_eq, Nat.reduceEqDiff, Int.reduceEq, and_true, true_and, and_false, false_and, and_self, if_true, if_false, reduceIte]; exact hg) (by simp only [up2_eq, pil_eq, Nat.reduceEqDiff, Int.reduceEq, and_true, true_and, and_false, false_and, and_self, if_true, if_false, reduceIte]; exact hj) (fun x => by simp only [mJoin_t, up2_24]; exact hZ x) (by simp only [up2_eq, pil_eq, Nat.reduceEqDiff, Int.reduceEq, and_true, true_and, and_false, false_and, and_self, if_true, if_false, reduceIte]; exact hh) (by simp only [up2_eq, pil_eq, Nat.reduceEqDiff, Int.reduceEq, and_true, true_and, and_false, false_and, and_self, if_true, if_false, reduceIte]; exact hL) (by rw [up2_f (b := 46) (by decide), up2_f (b := 47) (by decide), up2_f (b := 45) (by decide), up2_f (b := 44) (by decide), up2_f (b := 52) (by decide)]; simp only [up2_eq, pil_eq, Nat.reduceEqDiff, Int.reduceEq, and_true, true_and, and_false, false_and, and_self, if_true, if_false, reduceIte]; exact hR2)) kX10_lets lX10_339 iX10_lets eX10_lets (by decide) (by omega) (s37 hz) rfl (Nat.le_of_ble_eq_true rfl) (fun q23 z23 hr23 hi23 hl23 h23 => ?_)
    obtain ⟨e123, e223, e323, rfl, rfl⟩ := h23
    obtain rfl := e123.symm
    obtain rfl := e223.symm
    obtain rfl := e323.symm
    show a_wp G _ _ _ _ (vI v :: _) _ _ _ _ _
    refine a_if_eq (t := 33) (n := 29) dX10_may_26 rfl rfl (fun c26 => ?_) (fun c26 => ?_)
    · refine a_iconst (n := 34) dX10_may_33 rfl ⟨by decide, by decide⟩ ?_
      refine a_ireturn dX10_may_34 rfl ?_
      exact ⟨rfl, rfl, rfl, Or.inl ⟨hb9, by rw [show v = 0 by omega], rfl⟩⟩
    · refine a_iconst (n := 30) dX10_may_29 rfl ⟨by decide, by decide⟩ ?_
      refine a_goto (t := 34) dX10_may_30 rfl ?_
      refine a_ireturn dX10_may_34 rfl ?_
      exact ⟨rfl, rfl, rfl, Or.inl ⟨hb9, by rw [show v = 1 by omega], rfl⟩⟩
  · replace hb9 := isB_f hb9 (by omega)
    try simp only [up2_eq, pil_eq, Nat.reduceEqDiff, Int.reduceEq, and_true, true_and, and_false, false_and, and_self, if_true, if_false, reduceIte] at hb9
    refine a_iconst (n := 16) dX10_may_15 rfl ⟨by decide, by decide⟩ ?_
    refine a_goto (t := 34) dX10_may_16 rfl ?_
    refine a_ireturn dX10_may_34 rfl ?_
    exact ⟨rfl, rfl, rfl, Or.inr ⟨hb9, rfl, rfl⟩⟩
/-- what send writes -/
def mSnd (h2 : aI) (p h a : Int) : aI := up2 (up2 (up2 (up2 (up2 (up2 h2 56 p (h2 56 p - 1)) 78 (4 * h2 37 54) p) 78 (4 * h2 37 54 + 1) h) 78 (4 * h2 37 54 + 2) a) 78 (4 * h2 37 54 + 3) (h2 37 24)) 37 54 (h2 37 54 + 1)
set_option maxRecDepth 100000 in
set_option maxHeartbeats 4000000 in
theorem m_send (hz : stZ z) (hR : stR hr) (hT : mTree hi) {p h a : Int} {N F : Nat} (hg : 0 ≤ hi 37 37 ∧ hi 37 37 ≤ 300) (hj : 0 ≤ hi 37 41 ∧ hi 37 41 ≤ 100) (hZ : ∀ x, mZ (fun y => mJoin hi y (hi 37 24)) N (mJoin hi x (hi 37 24))) (hh : 0 ≤ hi 37 15 ∧ hi 37 15 ≤ 1) (hL : 0 ≤ hi 43 (hi 37 15) ∧ hi 43 (hi 37 15) ≤ 16) (hpc : ∀ q, 0 ≤ hi 56 q ∧ hi 56 q ≤ 100) (hs : 0 ≤ hi 37 54 ∧ hi 37 54 ≤ 100) {v : Int} {g : Int → Int} (hrun : 0 ≤ p ∧ p < hi 37 25 ∧ 0 ≤ h ∧ h ≤ 99 ∧ 0 ≤ a ∧ a ≤ 9 → (v = 0 ∨ v = 1) ∧ leR (hi 46) (hi 47) (mKn (up2 hi 37 0 0) N p h a 51) (hi 45) (hi 44) F (hi 43 (hi 37 15)).toNat (16 * hi 37 15) (hi 52) = some (v, g)) : a_ct G mX10_send (d + 4) [vR 37, vI p, vI h, vI a] z hr hi hl (fun r z' hr' hi' hl' => z' = z ∧ hr' = hr ∧ hl' = hl ∧ (((0 ≤ p ∧ p < hi 37 25 ∧ 0 ≤ h ∧ h ≤ 99 ∧ 0 ≤ a ∧ a ≤ 9) ∧ ¬ hi 56 p = 0 ∧ ¬ hi 37 54 = 100) ∧ v = 1 ∧ r = some (vI 1) ∧ hi' = mSnd (pil (mKn (up2 hi 37 0 0) N p h a) g) p h a ∨ ((0 ≤ p ∧ p < hi 37 25 ∧ 0 ≤ h ∧ h ≤ 99 ∧ 0 ≤ a ∧ a ≤ 9) ∧ ¬ hi 56 p = 0 ∧ ¬ hi 37 54 = 100) ∧ v = 0 ∧ r = some (vI 0) ∧ hi' = (pil (mKn (up2 hi 37 0 0) N p h a) g) ∨ ¬ ((0 ≤ p ∧ p < hi 37 25 ∧ 0 ≤ h ∧ h ≤ 99 ∧ 0 ≤ a ∧ a ≤ 9) ∧ ¬ hi 56 p = 0 ∧ ¬ hi 37 54 = 100) ∧ r = some (vI 0) ∧ hi' = (up2 hi 37 0 0))) := by
  have hp40 := hT.2.1
  refine a_ct_of rfl (Nat.le_of_ble_eq_true rfl) ?_
  refine a_aload_n (n := 1) dX10_send_0 rfl rfl ?_
  refine a_iconst (n := 2) dX10_send_1 rfl ⟨by decide, by decide⟩ ?_
  refine a_putI (n := 5) dX10_send_2 rfl fX10_1 rfl (s37 hz) (Or.inl rfl) ?_
  refine a_aload_n (n := 6) dX10_send_5 rfl rfl ?_
  refine a_iload_n (n := 7) dX10_send_6 rfl rfl ?_
  refine a_iload_n (n := 8) dX10_send_7 rfl rfl ?_
  refine a_iload_n (n := 9) dX10_send_8 rfl rfl ?_
  refine a_callV (M2 := mX10_isSending) (n := 12) dX10_send_9 rfl (m_isSending (d := d) hz) kX10_isSending lX10_336 iX10_isSending eX10_isSending (by decide) (by omega) (s37 hz) rfl (Nat.le_of_ble_eq_true rfl) (fun q9 z9 hr9 hi9 hl9 h9 => ?_)
  obtain ⟨e19, e29, e39, e49, b9, rfl, hb9⟩ := h9
  obtain rfl := e19.symm
  obtain rfl := e29.symm
  obtain rfl := e39.symm
  obtain rfl := e49.symm
  show a_wp G _ _ _ _ (vI b9 :: _) _ _ _ _ _
  refine a_if_eq (t := 43) (n := 15) dX10_send_12 rfl rfl (fun c12 => ?_) (fun c12 => ?_)
  · replace hb9 := isB_f hb9 (by omega)
    try simp only [up2_eq, pil_eq, Nat.reduceEqDiff, Int.reduceEq, and_true, true_and, and_false, false_and, and_self, if_true, if_false, reduceIte] at hb9
    refine a_iconst (n := 44) dX10_send_43 rfl ⟨by decide, by decide⟩ ?_
    refine a_zreturn dX10_send_44 rfl (by omega) ?_
    exact ⟨rfl, rfl, rfl, Or.inr (Or.inr ⟨fun q => hb9 q.1, rfl, rfl⟩)⟩
  · replace hb9 := isB_t hb9 (by omega)
    try simp only [up2_eq, pil_eq, Nat.reduceEqDiff, Int.reduceEq, and_true, true_and, and_false, false_and, and_self, if_true, if_false, reduceIte] at hb9
    obtain ⟨hv01, hR2⟩ := hrun hb9
    refine a_aload_n (n := 16) dX10_send_15 rfl rfl ?_
    refine a_getR (n := 19) dX10_send_16 rfl fX10_99 (s37 hz) (r37_29 hR) ?_
    refine a_iload_n (n := 20) dX10_send_19 rfl rfl ?_
    refine a_iald (n := 21) dX10_send_20 rfl (s56 hz) (by omega) (by omega) ?_
    try simp only [up2_eq, Nat.reduceEqDiff, Int.reduceEq, Int.reduceNeg, and_true, true_and, and_false, false_and, and_self, if_true, if_false, ite_true, ite_false, reduceIte, eq_self]
    refine a_if_eq (t := 43) (n := 24) dX10_send_21 rfl rfl (fun c21 => ?_) (fun c21 => ?_)
    · refine a_iconst (n := 44) dX10_send_43 rfl ⟨by decide, by decide⟩ ?_
      refine a_zreturn dX10_send_44 rfl (by omega) ?_
      exact ⟨rfl, rfl, rfl, Or.inr (Or.inr ⟨fun q => absurd (by omega) q.2.1, rfl, rfl⟩)⟩
    · refine a_aload_n (n := 25) dX10_send_24 rfl rfl ?_
      refine a_getI (n := 28) dX10_send_25 rfl fX10_342 (s37 hz) ?_
      try simp only [up2_eq, Nat.reduceEqDiff, Int.reduceEq, Int.reduceNeg, and_true, true_and, and_false, false_and, and_self, if_true, if_false, ite_true, ite_false, reduceIte, eq_self]
      refine a_bipush (n := 30) dX10_send_28 rfl ⟨by decide, by decide⟩ (by decide) ?_
      refine a_icmp_eq (t := 43) (n := 33) dX10_send_30 rfl rfl (fun c30 => ?_) (fun c30 => ?_)
      · refine a_iconst (n := 44) dX10_send_43 rfl ⟨by decide, by decide⟩ ?_
        refine a_zreturn dX10_send_44 rfl (by omega) ?_
        exact ⟨rfl, rfl, rfl, Or.inr (Or.inr ⟨fun q => absurd (by omega) q.2.2, rfl, rfl⟩)⟩
      · refine a_aload_n (n := 34) dX10_send_33 rfl rfl ?_
        refine a_iload_n (n := 35) dX10_send_34 rfl rfl ?_
        refine a_iload_n (n := 36) dX10_send_35 rfl rfl ?_
        refine a_iload_n (n := 37) dX10_send_36 rfl rfl ?_
        refine a_callV (M2 := mX10_lets) (n := 40) dX10_send_37 rfl (m_lets (d := d) (N := N) (F := F) (v := v) (g := g) hz hR (hT.up (by decide) (by decide) (by decide)) (by simp only [up2_eq, pil_eq, Nat.reduceEqDiff, Int.reduceEq, and_true, true_and, and_false, false_and, and_self, if_true, if_false, reduceIte]; exact ⟨by omega, by omega⟩) (by simp only [up2_eq, pil_eq, Nat.reduceEqDiff, Int.reduceEq, and_true, true_and, and_false, false_and, and_self, if_true, if_false, reduceIte]; exact hg) (by simp only [up2_eq, pil_eq, Nat.reduceEqDiff, Int.reduceEq, and_true, true_and, and_false, false_and, and_self, if_true, if_false, reduceIte]; exact hj) (fun x => by simp only [mJoin_t, up2_24]; exact hZ x) (by simp only [up2_eq, pil_eq, Nat.reduceEqDiff, Int.reduceEq, and_true, true_and, and_false, false_and, and_self, if_true, if_false, reduceIte]; exact hh) (by simp only [up2_eq, pil_eq, Nat.reduceEqDiff, Int.reduceEq, and_true, true_and, and_false, false_and, and_self, if_true, if_false, reduceIte]; exact hL) (by rw [up2_f (b := 46) (by decide), up2_f (b := 47) (by decide), up2_f (b := 45) (by decide), up2_f (b := 44) (by decide), up2_f (b := 52) (by decide)]; simp only [up2_eq, pil_eq, Nat.reduceEqDiff, Int.reduceEq, and_true, true_and, and_false, false_and, and_self, if_true, if_false, reduceIte]; exact hR2)) kX10_lets lX10_339 iX10_lets eX10_lets (by decide) (by omega) (s37 hz) rfl (Nat.le_of_ble_eq_true rfl) (fun q37 z37 hr37 hi37 hl37 h37 => ?_)
        obtain ⟨e137, e237, e337, rfl, rfl⟩ := h37
        obtain rfl := e137.symm
        obtain rfl := e237.symm
        obtain rfl := e337.symm
        show a_wp G _ _ _ _ (vI v :: _) _ _ _ _ _
        have f56 : (pil (mKn (up2 hi 37 0 0) N p h a) g) 56 p = hi 56 p := congrFun ((pil_n (by decide)).trans ((mKn_f (by decide)).trans (up2_f (by decide)))) p
        have f54 : (pil (mKn (up2 hi 37 0 0) N p h a) g) 37 54 = hi 37 54 := congrFun ((pil_n (by decide)).trans (mKn_f (by decide))) 54
        have hpp := hpc p
        have h40 := hT.2.1
        generalize pil (mKn (up2 hi 37 0 0) N p h a) g = h2 at f56 f54 ⊢
        refine a_if_ne (t := 45) (n := 43) dX10_send_40 rfl rfl (fun c40 => ?_) (fun c40 => ?_)
        · refine a_aload_n (n := 46) dX10_send_45 rfl rfl ?_
          refine a_getR (n := 49) dX10_send_46 rfl fX10_99 (s37 hz) (r37_29 hR) ?_
          refine a_iload_n (n := 50) dX10_send_49 rfl rfl ?_
          refine a_dup2 (n := 51) dX10_send_50 rfl rfl rfl ?_
          refine a_iald (n := 52) dX10_send_51 rfl (s56 hz) (by omega) (by omega) ?_
          try simp only [up2_eq, Nat.reduceEqDiff, Int.reduceEq, Int.reduceNeg, and_true, true_and, and_false, false_and, and_self, if_true, if_false, ite_true, ite_false, reduceIte, eq_self]
          refine a_iconst (n := 53) dX10_send_52 rfl ⟨by decide, by decide⟩ ?_
          refine a_isub (n := 54) dX10_send_53 rfl ⟨by omega, by omega⟩ ?_
          refine a_iast (n := 55) dX10_send_54 rfl (s56 hz) (by omega) (by omega) ?_
          refine a_aload_n (n := 56) dX10_send_55 rfl rfl ?_
          refine a_getR (n := 59) dX10_send_56 rfl fX10_165 (s37 hz) (r37_55 hR) ?_
          refine a_iconst (n := 60) dX10_send_59 rfl ⟨by decide, by decide⟩ ?_
          refine a_aload_n (n := 61) dX10_send_60 rfl rfl ?_
          refine a_getI (n := 64) dX10_send_61 rfl fX10_342 (s37 hz) ?_
          try simp only [up2_eq, Nat.reduceEqDiff, Int.reduceEq, Int.reduceNeg, and_true, true_and, and_false, false_and, and_self, if_true, if_false, ite_true, ite_false, reduceIte, eq_self]
          refine a_imul (n := 65) dX10_send_64 rfl ⟨by omega, by omega⟩ ?_
          refine a_iload_n (n := 66) dX10_send_65 rfl rfl ?_
          refine a_iast (n := 67) dX10_send_66 rfl (s78 hz) (by omega) (by omega) ?_
          refine a_aload_n (n := 68) dX10_send_67 rfl rfl ?_
          refine a_getR (n := 71) dX10_send_68 rfl fX10_165 (s37 hz) (r37_55 hR) ?_
          refine a_iconst (n := 72) dX10_send_71 rfl ⟨by decide, by decide⟩ ?_
          refine a_aload_n (n := 73) dX10_send_72 rfl rfl ?_
          refine a_getI (n := 76) dX10_send_73 rfl fX10_342 (s37 hz) ?_
          try simp only [up2_eq, Nat.reduceEqDiff, Int.reduceEq, Int.reduceNeg, and_true, true_and, and_false, false_and, and_self, if_true, if_false, ite_true, ite_false, reduceIte, eq_self]
          refine a_imul (n := 77) dX10_send_76 rfl ⟨by omega, by omega⟩ ?_
          refine a_iconst (n := 78) dX10_send_77 rfl ⟨by decide, by decide⟩ ?_
          refine a_iadd (n := 79) dX10_send_78 rfl ⟨by omega, by omega⟩ ?_
          refine a_iload_n (n := 80) dX10_send_79 rfl rfl ?_
          refine a_iast (n := 81) dX10_send_80 rfl (s78 hz) (by omega) (by omega) ?_
          refine a_aload_n (n := 82) dX10_send_81 rfl rfl ?_
          refine a_getR (n := 85) dX10_send_82 rfl fX10_165 (s37 hz) (r37_55 hR) ?_
          refine a_iconst (n := 86) dX10_send_85 rfl ⟨by decide, by decide⟩ ?_
          refine a_aload_n (n := 87) dX10_send_86 rfl rfl ?_
          refine a_getI (n := 90) dX10_send_87 rfl fX10_342 (s37 hz) ?_
          try simp only [up2_eq, Nat.reduceEqDiff, Int.reduceEq, Int.reduceNeg, and_true, true_and, and_false, false_and, and_self, if_true, if_false, ite_true, ite_false, reduceIte, eq_self]
          refine a_imul (n := 91) dX10_send_90 rfl ⟨by omega, by omega⟩ ?_
          refine a_iconst (n := 92) dX10_send_91 rfl ⟨by decide, by decide⟩ ?_
          refine a_iadd (n := 93) dX10_send_92 rfl ⟨by omega, by omega⟩ ?_
          refine a_iload_n (n := 94) dX10_send_93 rfl rfl ?_
          refine a_iast (n := 95) dX10_send_94 rfl (s78 hz) (by omega) (by omega) ?_
          refine a_aload_n (n := 96) dX10_send_95 rfl rfl ?_
          refine a_getR (n := 99) dX10_send_96 rfl fX10_165 (s37 hz) (r37_55 hR) ?_
          refine a_iconst (n := 100) dX10_send_99 rfl ⟨by decide, by decide⟩ ?_
          refine a_aload_n (n := 101) dX10_send_100 rfl rfl ?_
          refine a_getI (n := 104) dX10_send_101 rfl fX10_342 (s37 hz) ?_
          try simp only [up2_eq, Nat.reduceEqDiff, Int.reduceEq, Int.reduceNeg, and_true, true_and, and_false, false_and, and_self, if_true, if_false, ite_true, ite_false, reduceIte, eq_self]
          refine a_imul (n := 105) dX10_send_104 rfl ⟨by omega, by omega⟩ ?_
          refine a_iconst (n := 106) dX10_send_105 rfl ⟨by decide, by decide⟩ ?_
          refine a_iadd (n := 107) dX10_send_106 rfl ⟨by omega, by omega⟩ ?_
          refine a_aload_n (n := 108) dX10_send_107 rfl rfl ?_
          refine a_getI (n := 111) dX10_send_108 rfl fX10_255 (s37 hz) ?_
          try simp only [up2_eq, Nat.reduceEqDiff, Int.reduceEq, Int.reduceNeg, and_true, true_and, and_false, false_and, and_self, if_true, if_false, ite_true, ite_false, reduceIte, eq_self]
          refine a_iast (n := 112) dX10_send_111 rfl (s78 hz) (by omega) (by omega) ?_
          refine a_aload_n (n := 113) dX10_send_112 rfl rfl ?_
          refine a_dup (n := 114) dX10_send_113 rfl rfl ?_
          refine a_getI (n := 117) dX10_send_114 rfl fX10_342 (s37 hz) ?_
          try simp only [up2_eq, Nat.reduceEqDiff, Int.reduceEq, Int.reduceNeg, and_true, true_and, and_false, false_and, and_self, if_true, if_false, ite_true, ite_false, reduceIte, eq_self]
          refine a_iconst (n := 118) dX10_send_117 rfl ⟨by decide, by decide⟩ ?_
          refine a_iadd (n := 119) dX10_send_118 rfl ⟨by omega, by omega⟩ ?_
          refine a_putI (n := 122) dX10_send_119 rfl fX10_342 rfl (s37 hz) (Or.inl rfl) ?_
          refine a_iconst (n := 123) dX10_send_122 rfl ⟨by decide, by decide⟩ ?_
          refine a_zreturn dX10_send_123 rfl (by omega) ?_
          exact ⟨rfl, rfl, rfl, Or.inl ⟨⟨hb9, by omega, by omega⟩, by omega, rfl, rfl⟩⟩
        · refine a_iconst (n := 44) dX10_send_43 rfl ⟨by decide, by decide⟩ ?_
          refine a_zreturn dX10_send_44 rfl (by omega) ?_
          exact ⟨rfl, rfl, rfl, Or.inr (Or.inl ⟨⟨hb9, by omega, by omega⟩, by omega, rfl, rfl⟩)⟩
end M22
