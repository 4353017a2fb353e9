/-- w values g 0 .. from index e of cell a on -/
def fil (f : aI) (a : Nat) (e w : Int) (g : Int → Int) : aI := fun b j => if b = a ∧ (e ≤ j ∧ j < e + w) then g (j - e) else f b j
theorem fil_eq (f : aI) (a : Nat) (e w : Int) (g : Int → Int) (b : Nat) (j : Int) : fil f a e w g b j = if b = a ∧ (e ≤ j ∧ j < e + w) then g (j - e) else f b j := rfl
theorem fil_0 {f : aI} {a : Nat} {e : Int} {g : Int → Int} : fil f a e 0 g = f := by
  funext b j
  rw [fil_eq, if_neg (by omega)]
theorem fil_s {f : aI} {a : Nat} {e w v i : Int} {g : Int → Int} (hw : 0 ≤ w) (hi : i = e + w) (hv : v = g w) : up2 (fil f a e w g) a i v = fil f a e (w + 1) g := by
  subst hi hv
  funext b j
  rw [up2_eq, fil_eq, fil_eq]
  by_cases h : b = a ∧ j = e + w
  · rw [if_pos h, if_pos ⟨h.1, by omega, by omega⟩, h.2]
    congr 1
    omega
  · rw [if_neg h]
    by_cases h2 : b = a ∧ (e ≤ j ∧ j < e + w)
    · rw [if_pos h2, if_pos ⟨h2.1, by omega, by omega⟩]
    · rw [if_neg h2, if_neg (fun q => by
        by_cases e3 : j = e + w
        · exact h ⟨q.1, e3⟩
        · exact h2 ⟨q.1, by omega, by omega⟩)]
theorem fil_n {f : aI} {a b : Nat} {e w : Int} {g : Int → Int} (h : b ≠ a) : fil f a e w g b = f b := by
  funext j
  rw [fil_eq, if_neg (fun q => h q.1)]
section M19
variable {G : aG} {d : Nat} {z : aZ} {hr : aR} {hi hl : aI}
/-- a new PLANT, as the reference writes it -/
def mG1 (hi : aI) (k f e m : Int) : aI := up2 (up2 (up2 (up2 hi 53 (hi 37 25) k) 54 (hi 37 25) f) 55 (hi 37 25) e) 56 (hi 37 25) m
def mG2 (h : aI) (k f p : Int) : aI := if 2 ≤ k then fil h 57 (8 * p) 8 (fun i => h 57 (8 * f + i)) else h
def mN4 (i : Int) : Int := if i % 2 = 0 then 0 else 9
def mGr (hi : aI) (k f e m : Int) : aI := up2 (fil (mG2 (mG1 hi k f e m) k f (hi 37 25)) 58 (4 * hi 37 25) 4 mN4) 37 25 (hi 37 25 + 1)
set_option maxRecDepth 100000 in
set_option maxHeartbeats 4000000 in
theorem gr_92 (hz : stZ z) (hR : stR hr) {k f e m : Int} {Q : Option aV → aZ → aR → aI → aI → Prop} (hp : 0 ≤ hi 37 25 ∧ hi 37 25 < 40) (n : Nat) : ∀ w : Int, 0 ≤ w → w + n = 4 → a_wp G mX10_grows d 131 [some (vR 37), some (vI k), some (vI f), some (vI e), some (vI m), some (vI 4)] [] z hr (fil hi 58 (4 * hi 37 25) 4 mN4) hl Q → a_wp G mX10_grows d 92 [some (vR 37), some (vI k), some (vI f), some (vI e), some (vI m), some (vI w)] [] z hr (fil hi 58 (4 * hi 37 25) w mN4) hl Q := by
  induction n with
  | zero =>
    intro w h0 hn K
    refine a_iload (n := 94) dX10_grows_92 rfl rfl ?_
    refine a_iconst (n := 95) dX10_grows_94 rfl ⟨by decide, by decide⟩ ?_
    refine a_icmp_ge (t := 131) (n := 98) dX10_grows_95 rfl rfl (fun c95 => ?_) (fun c95 => ?_)
    · have e4 : w = 4 := by omega
      subst e4
      exact K
    · omega
  | succ n ih =>
    intro w h0 hn K
    refine a_iload (n := 94) dX10_grows_92 rfl rfl ?_
    refine a_iconst (n := 95) dX10_grows_94 rfl ⟨by decide, by decide⟩ ?_
    refine a_icmp_ge (t := 131) (n := 98) dX10_grows_95 rfl rfl (fun c95 => ?_) (fun c95 => ?_)
    · omega
    · refine a_aload_n (n := 99) dX10_grows_98 rfl rfl ?_
      refine a_getR (n := 102) dX10_grows_99 rfl fX10_105 (s37 hz) (r37_31 hR) ?_
      refine a_iconst (n := 103) dX10_grows_102 rfl ⟨by decide, by decide⟩ ?_
      refine a_aload_n (n := 104) dX10_grows_103 rfl rfl ?_
      refine a_getI (n := 107) dX10_grows_104 rfl fX10_258 (s37 hz) ?_
      try simp only [up2_eq, fil_eq, Nat.reduceEqDiff, Int.reduceEq, Int.reduceNeg, and_true, true_and, and_false, false_and, and_self, if_true, if_false, ite_true, ite_false, reduceIte, eq_self]
      refine a_imul (n := 108) dX10_grows_107 rfl ⟨by omega, by omega⟩ ?_
      refine a_iload (n := 110) dX10_grows_108 rfl rfl ?_
      refine a_iadd (n := 111) dX10_grows_110 rfl ⟨by omega, by omega⟩ ?_
      refine a_iload (n := 113) dX10_grows_111 rfl rfl ?_
      refine a_iconst (n := 114) dX10_grows_113 rfl ⟨by decide, by decide⟩ ?_
      refine a_irem (n := 115) dX10_grows_114 rfl (by omega) (by omega) ?_
      refine a_if_ne (t := 122) (n := 118) dX10_grows_115 rfl rfl (fun c115 => ?_) (fun c115 => ?_)
      · refine a_bipush (n := 124) dX10_grows_122 rfl ⟨by decide, by decide⟩ (by decide) ?_
        refine a_iast (n := 125) dX10_grows_124 rfl (s58 hz) (by omega) (by omega) ?_
        refine b_iinc (n := 128) dX10_grows_125 rfl (by decide) rfl rfl ⟨by omega, by omega⟩ ?_
        refine a_goto (t := 92) dX10_grows_128 rfl ?_
        rw [fil_s h0 (by omega) (by unfold mN4; rw [if_neg c115])]
        exact ih (w + 1) (by omega) (by omega) K
      · refine a_iconst (n := 119) dX10_grows_118 rfl ⟨by decide, by decide⟩ ?_
        refine a_goto (t := 124) dX10_grows_119 rfl ?_
        refine a_iast (n := 125) dX10_grows_124 rfl (s58 hz) (by omega) (by omega) ?_
        refine b_iinc (n := 128) dX10_grows_125 rfl (by decide) rfl rfl ⟨by omega, by omega⟩ ?_
        refine a_goto (t := 92) dX10_grows_128 rfl ?_
        rw [fil_s h0 (by omega) (by unfold mN4; rw [if_pos c115])]
        exact ih (w + 1) (by omega) (by omega) K
set_option maxRecDepth 100000 in
set_option maxHeartbeats 4000000 in
theorem gr_44 (hz : stZ z) (hR : stR hr) {k f e m : Int} {Q : Option aV → aZ → aR → aI → aI → Prop} (hk : 2 ≤ k) (hf : 0 ≤ f ∧ f < hi 37 25) (hp : 0 ≤ hi 37 25 ∧ hi 37 25 < 40) (n : Nat) : ∀ w : Int, 0 ≤ w → w + n = 8 → a_wp G mX10_grows d 89 [some (vR 37), some (vI k), some (vI f), some (vI e), some (vI m), some (vI 8)] [] z hr (fil hi 57 (8 * hi 37 25) 8 (fun i => hi 57 (8 * f + i))) hl Q → a_wp G mX10_grows d 44 [some (vR 37), some (vI k), some (vI f), some (vI e), some (vI m), some (vI w)] [] z hr (fil hi 57 (8 * hi 37 25) w (fun i => hi 57 (8 * f + i))) hl Q := by
  induction n with
  | zero =>
    intro w h0 hn K
    refine a_iload (n := 46) dX10_grows_44 rfl rfl ?_
    refine a_bipush (n := 48) dX10_grows_46 rfl ⟨by decide, by decide⟩ (by decide) ?_
    refine a_icmp_ge (t := 89) (n := 51) dX10_grows_48 rfl rfl (fun c48 => ?_) (fun c48 => ?_)
    · have e8 : w = 8 := by omega
      subst e8
      exact K
    · omega
  | succ n ih =>
    intro w h0 hn K
    refine a_iload (n := 46) dX10_grows_44 rfl rfl ?_
    refine a_bipush (n := 48) dX10_grows_46 rfl ⟨by decide, by decide⟩ (by decide) ?_
    refine a_icmp_ge (t := 89) (n := 51) dX10_grows_48 rfl rfl (fun c48 => ?_) (fun c48 => ?_)
    · omega
    · refine a_iload_n (n := 52) dX10_grows_51 rfl rfl ?_
      refine a_iconst (n := 53) dX10_grows_52 rfl ⟨by decide, by decide⟩ ?_
      refine a_icmp_lt (t := 89) (n := 56) dX10_grows_53 rfl rfl (fun c53 => ?_) (fun c53 => ?_)
      · omega
      · refine a_aload_n (n := 57) dX10_grows_56 rfl rfl ?_
        refine a_getR (n := 60) dX10_grows_57 rfl fX10_102 (s37 hz) (r37_30 hR) ?_
        refine a_bipush (n := 62) dX10_grows_60 rfl ⟨by decide, by decide⟩ (by decide) ?_
        refine a_aload_n (n := 63) dX10_grows_62 rfl rfl ?_
        refine a_getI (n := 66) dX10_grows_63 rfl fX10_258 (s37 hz) ?_
        try simp only [up2_eq, fil_eq, Nat.reduceEqDiff, Int.reduceEq, Int.reduceNeg, and_true, true_and, and_false, false_and, and_self, if_true, if_false, ite_true, ite_false, reduceIte, eq_self]
        refine a_imul (n := 67) dX10_grows_66 rfl ⟨by omega, by omega⟩ ?_
        refine a_iload (n := 69) dX10_grows_67 rfl rfl ?_
        refine a_iadd (n := 70) dX10_grows_69 rfl ⟨by omega, by omega⟩ ?_
        refine a_aload_n (n := 71) dX10_grows_70 rfl rfl ?_
        refine a_getR (n := 74) dX10_grows_71 rfl fX10_102 (s37 hz) (r37_30 hR) ?_
        refine a_bipush (n := 76) dX10_grows_74 rfl ⟨by decide, by decide⟩ (by decide) ?_
        refine a_iload_n (n := 77) dX10_grows_76 rfl rfl ?_
        refine a_imul (n := 78) dX10_grows_77 rfl ⟨by omega, by omega⟩ ?_
        refine a_iload (n := 80) dX10_grows_78 rfl rfl ?_
        refine a_iadd (n := 81) dX10_grows_80 rfl ⟨by omega, by omega⟩ ?_
        refine a_iald (n := 82) dX10_grows_81 rfl (s57 hz) (by omega) (by omega) ?_
        try simp only [up2_eq, fil_eq, Nat.reduceEqDiff, Int.reduceEq, Int.reduceNeg, and_true, true_and, and_false, false_and, and_self, if_true, if_false, ite_true, ite_false, reduceIte, eq_self]
        refine a_iast (n := 83) dX10_grows_82 rfl (s57 hz) (by omega) (by omega) ?_
        refine b_iinc (n := 86) dX10_grows_83 rfl (by decide) rfl rfl ⟨by omega, by omega⟩ ?_
        refine a_goto (t := 44) dX10_grows_86 rfl ?_
        rw [fil_s h0 (by omega) (by rw [if_neg (by omega)])]
        exact ih (w + 1) (by omega) (by omega) K
set_option maxRecDepth 100000 in
set_option maxHeartbeats 4000000 in
theorem gr_131 (hz : stZ z) (hR : stR hr) {k f e m w : Int} (hp : 0 ≤ hi 37 25 ∧ hi 37 25 < 40) : a_wp G mX10_grows d 131 [some (vR 37), some (vI k), some (vI f), some (vI e), some (vI m), some (vI w)] [] z hr (fil hi 58 (4 * hi 37 25) 4 mN4) hl (fun r z' hr' hi' hl' => z' = z ∧ hr' = hr ∧ hl' = hl ∧ r = some (vI (hi 37 25)) ∧ hi' = up2 (fil hi 58 (4 * hi 37 25) 4 mN4) 37 25 (hi 37 25 + 1)) := by
  refine a_aload_n (n := 132) dX10_grows_131 rfl rfl ?_
  refine a_dup (n := 133) dX10_grows_132 rfl rfl ?_
  refine a_getI (n := 136) dX10_grows_133 rfl fX10_258 (s37 hz) ?_
  try simp only [up2_eq, fil_eq, Nat.reduceEqDiff, Int.reduceEq, Int.reduceNeg, and_true, true_and, and_false, false_and, and_self, if_true, if_false, ite_true, ite_false, reduceIte, eq_self]
  refine a_iconst (n := 137) dX10_grows_136 rfl ⟨by decide, by decide⟩ ?_
  refine a_iadd (n := 138) dX10_grows_137 rfl ⟨by omega, by omega⟩ ?_
  refine a_putI (n := 141) dX10_grows_138 rfl fX10_258 rfl (s37 hz) (Or.inl rfl) ?_
  refine a_aload_n (n := 142) dX10_grows_141 rfl rfl ?_
  refine a_getI (n := 145) dX10_grows_142 rfl fX10_258 (s37 hz) ?_
  try simp only [up2_eq, fil_eq, Nat.reduceEqDiff, Int.reduceEq, Int.reduceNeg, and_true, true_and, and_false, false_and, and_self, if_true, if_false, ite_true, ite_false, reduceIte, eq_self]
  refine a_iconst (n := 146) dX10_grows_145 rfl ⟨by decide, by decide⟩ ?_
  refine a_isub (n := 147) dX10_grows_146 rfl ⟨by omega, by omega⟩ ?_
  refine a_ireturn dX10_grows_147 rfl ?_
  exact ⟨rfl, rfl, rfl, by rw [show hi 37 25 + 1 - 1 = hi 37 25 by omega], rfl⟩
set_option maxRecDepth 100000 in
set_option maxHeartbeats 4000000 in
theorem gr_89 (hz : stZ z) (hR : stR hr) {k f e m w : Int} (hp : 0 ≤ hi 37 25 ∧ hi 37 25 < 40) : a_wp G mX10_grows d 89 [some (vR 37), some (vI k), some (vI f), some (vI e), some (vI m), some (vI w)] [] z hr hi hl (fun r z' hr' hi' hl' => z' = z ∧ hr' = hr ∧ hl' = hl ∧ r = some (vI (hi 37 25)) ∧ hi' = up2 (fil hi 58 (4 * hi 37 25) 4 mN4) 37 25 (hi 37 25 + 1)) := by
  refine a_iconst (n := 90) dX10_grows_89 rfl ⟨by decide, by decide⟩ ?_
  refine b_istore (n := 92) dX10_grows_90 rfl (by decide) rfl ?_
  have K := gr_131 (G := G) (d := d) (z := z) (hr := hr) (hi := hi) (hl := hl) (k := k) (f := f) (e := e) (m := m) (w := 4) hz hR hp
  have K2 := gr_92 (d := d) hz hR hp 4 0 (by decide) (by decide) K
  rw [fil_0] at K2
  exact K2
set_option maxRecDepth 100000 in
set_option maxHeartbeats 4000000 in
theorem gr_44s (hz : stZ z) (hR : stR hr) {k f e m : Int} (hk : ¬ 2 ≤ k) (hp : 0 ≤ hi 37 25 ∧ hi 37 25 < 40) : a_wp G mX10_grows d 44 [some (vR 37), some (vI k), some (vI f), some (vI e), some (vI m), some (vI 0)] [] z hr hi hl (fun r z' hr' hi' hl' => z' = z ∧ hr' = hr ∧ hl' = hl ∧ r = some (vI (hi 37 25)) ∧ hi' = up2 (fil hi 58 (4 * hi 37 25) 4 mN4) 37 25 (hi 37 25 + 1)) := by
  refine a_iload (n := 46) dX10_grows_44 rfl rfl ?_
  refine a_bipush (n := 48) dX10_grows_46 rfl ⟨by decide, by decide⟩ (by decide) ?_
  refine a_icmp_ge (t := 89) (n := 51) dX10_grows_48 rfl rfl (fun c48 => ?_) (fun c48 => ?_)
  · omega
  · refine a_iload_n (n := 52) dX10_grows_51 rfl rfl ?_
    refine a_iconst (n := 53) dX10_grows_52 rfl ⟨by decide, by decide⟩ ?_
    refine a_icmp_lt (t := 89) (n := 56) dX10_grows_53 rfl rfl (fun c53 => ?_) (fun c53 => ?_)
    · exact gr_89 hz hR hp
    · omega
set_option maxRecDepth 100000 in
set_option maxHeartbeats 4000000 in
theorem m_grows (hz : stZ z) (hR : stR hr) {k f e m : Int} (hf : 2 ≤ k → 0 ≤ f ∧ f < hi 37 25) (hp : 0 ≤ hi 37 25 ∧ hi 37 25 < 40) : a_ct G mX10_grows (d + 0) [vR 37, vI k, vI f, vI e, vI m] z hr hi hl (fun r z' hr' hi' hl' => z' = z ∧ hr' = hr ∧ hl' = hl ∧ r = some (vI (hi 37 25)) ∧ hi' = mGr hi k f e m) := by
  refine a_ct_of rfl (Nat.le_of_ble_eq_true rfl) ?_
  refine a_aload_n (n := 1) dX10_grows_0 rfl rfl ?_
  refine a_getR (n := 4) dX10_grows_1 rfl fX10_90 (s37 hz) (r37_26 hR) ?_
  refine a_aload_n (n := 5) dX10_grows_4 rfl rfl ?_
  refine a_getI (n := 8) dX10_grows_5 rfl fX10_258 (s37 hz) ?_
  refine a_iload_n (n := 9) dX10_grows_8 rfl rfl ?_
  refine a_iast (n := 10) dX10_grows_9 rfl (s53 hz) (by omega) (by omega) ?_
  refine a_aload_n (n := 11) dX10_grows_10 rfl rfl ?_
  refine a_getR (n := 14) dX10_grows_11 rfl fX10_93 (s37 hz) (r37_27 hR) ?_
  refine a_aload_n (n := 15) dX10_grows_14 rfl rfl ?_
  refine a_getI (n := 18) dX10_grows_15 rfl fX10_258 (s37 hz) ?_
  try simp only [up2_eq, Nat.reduceEqDiff, Int.reduceEq, Int.reduceNeg, and_true, true_and, and_false, false_and, and_self, if_true, if_false, ite_true, ite_false, reduceIte, eq_self]
  refine a_iload_n (n := 19) dX10_grows_18 rfl rfl ?_
  refine a_iast (n := 20) dX10_grows_19 rfl (s54 hz) (by omega) (by omega) ?_
  refine a_aload_n (n := 21) dX10_grows_20 rfl rfl ?_
  refine a_getR (n := 24) dX10_grows_21 rfl fX10_96 (s37 hz) (r37_28 hR) ?_
  refine a_aload_n (n := 25) dX10_grows_24 rfl rfl ?_
  refine a_getI (n := 28) dX10_grows_25 rfl fX10_258 (s37 hz) ?_
  try simp only [up2_eq, Nat.reduceEqDiff, Int.reduceEq, Int.reduceNeg, and_true, true_and, and_false, false_and, and_self, if_true, if_false, ite_true, ite_false, reduceIte, eq_self]
  refine a_iload_n (n := 29) dX10_grows_28 rfl rfl ?_
  refine a_iast (n := 30) dX10_grows_29 rfl (s55 hz) (by omega) (by omega) ?_
  refine a_aload_n (n := 31) dX10_grows_30 rfl rfl ?_
  refine a_getR (n := 34) dX10_grows_31 rfl fX10_99 (s37 hz) (r37_29 hR) ?_
  refine a_aload_n (n := 35) dX10_grows_34 rfl rfl ?_
  refine a_getI (n := 38) dX10_grows_35 rfl fX10_258 (s37 hz) ?_
  try simp only [up2_eq, Nat.reduceEqDiff, Int.reduceEq, Int.reduceNeg, and_true, true_and, and_false, false_and, and_self, if_true, if_false, ite_true, ite_false, reduceIte, eq_self]
  refine a_iload (n := 40) dX10_grows_38 rfl rfl ?_
  refine a_iast (n := 41) dX10_grows_40 rfl (s56 hz) (by omega) (by omega) ?_
  refine a_iconst (n := 42) dX10_grows_41 rfl ⟨by decide, by decide⟩ ?_
  refine b_istore (n := 44) dX10_grows_42 rfl (by decide) rfl ?_
  have e25 : (up2 (up2 (up2 (up2 hi 53 (hi 37 25) k) 54 (hi 37 25) f) 55 (hi 37 25) e) 56 (hi 37 25) m) 37 25 = hi 37 25 := by simp only [up2_eq, fil_eq, Nat.reduceEqDiff, Int.reduceEq, and_true, true_and, and_false, false_and, and_self, if_true, if_false, reduceIte]
  by_cases hk : 2 ≤ k
  · have e252 : (fil (up2 (up2 (up2 (up2 hi 53 (hi 37 25) k) 54 (hi 37 25) f) 55 (hi 37 25) e) 56 (hi 37 25) m) 57 (8 * (up2 (up2 (up2 (up2 hi 53 (hi 37 25) k) 54 (hi 37 25) f) 55 (hi 37 25) e) 56 (hi 37 25) m) 37 25) 8 (fun i => (up2 (up2 (up2 (up2 hi 53 (hi 37 25) k) 54 (hi 37 25) f) 55 (hi 37 25) e) 56 (hi 37 25) m) 57 (8 * f + i))) 37 25 = hi 37 25 := by simp only [up2_eq, fil_eq, Nat.reduceEqDiff, Int.reduceEq, and_true, true_and, and_false, false_and, and_self, if_true, if_false, reduceIte]
    have K := gr_89 (G := G) (d := d + 0) (z := z) (hr := hr) (hi := fil (up2 (up2 (up2 (up2 hi 53 (hi 37 25) k) 54 (hi 37 25) f) 55 (hi 37 25) e) 56 (hi 37 25) m) 57 (8 * (up2 (up2 (up2 (up2 hi 53 (hi 37 25) k) 54 (hi 37 25) f) 55 (hi 37 25) e) 56 (hi 37 25) m) 37 25) 8 (fun i => (up2 (up2 (up2 (up2 hi 53 (hi 37 25) k) 54 (hi 37 25) f) 55 (hi 37 25) e) 56 (hi 37 25) m) 57 (8 * f + i))) (hl := hl) (k := k) (f := f) (e := e) (m := m) (w := 8) hz hR (by rw [e252]; exact hp)
    have K2 := gr_44 (d := d + 0) hz hR hk (by rw [e25]; exact hf hk) (by rw [e25]; exact hp) 8 0 (by decide) (by decide) K
    rw [fil_0] at K2
    refine K2.mono fun r z' hr' hi' hl' q => ?_
    rw [e252, e25] at q
    unfold mGr mG2
    rw [if_pos hk]
    exact q
  · have K2 := gr_44s (G := G) (d := d + 0) (z := z) (hr := hr) (hi := up2 (up2 (up2 (up2 hi 53 (hi 37 25) k) 54 (hi 37 25) f) 55 (hi 37 25) e) 56 (hi 37 25) m) (hl := hl) (k := k) (f := f) (e := e) (m := m) hz hR hk (by rw [e25]; exact hp)
    refine K2.mono fun r z' hr' hi' hl' q => ?_
    rw [e25] at q
    unfold mGr mG2
    rw [if_neg hk]
    exact q
set_option maxRecDepth 100000 in
set_option maxHeartbeats 4000000 in
theorem m_wild (hz : stZ z) (hR : stR hr) {a m : Int} (hp : 0 ≤ hi 37 25 ∧ hi 37 25 ≤ 40) : a_ct G mX10_wild (d + 1) [vR 37, vI a, vI m] z hr hi hl (fun r z' hr' hi' hl' => z' = z ∧ hr' = hr ∧ hl' = hl ∧ ((0 ≤ a ∧ a ≤ 99 ∧ 1 ≤ m ∧ m ≤ 100 ∧ hi 37 25 < 40) ∧ r = some (vI (hi 37 25)) ∧ hi' = mGr (up2 (up2 hi 37 0 0) 63 (hi 37 25) a) 0 (-1) (-1) m ∨ ¬ (0 ≤ a ∧ a ≤ 99 ∧ 1 ≤ m ∧ m ≤ 100 ∧ hi 37 25 < 40) ∧ r = some (vI (-1)) ∧ hi' = (up2 hi 37 0 0))) := by
  refine a_ct_of rfl (Nat.le_of_ble_eq_true rfl) ?_
  refine a_aload_n (n := 1) dX10_wild_0 rfl rfl ?_
  refine a_iconst (n := 2) dX10_wild_1 rfl ⟨by decide, by decide⟩ ?_
  refine a_putI (n := 5) dX10_wild_2 rfl fX10_1 rfl (s37 hz) (Or.inl rfl) ?_
  refine a_iload_n (n := 6) dX10_wild_5 rfl rfl ?_
  refine a_if_lt (t := 31) (n := 9) dX10_wild_6 rfl rfl (fun c6 => ?_) (fun c6 => ?_)
  · refine a_iconst (n := 32) dX10_wild_31 rfl ⟨by decide, by decide⟩ ?_
    refine a_ireturn dX10_wild_32 rfl ?_
    exact ⟨rfl, rfl, rfl, Or.inr ⟨by omega, rfl, rfl⟩⟩
  · refine a_iload_n (n := 10) dX10_wild_9 rfl rfl ?_
    refine a_bipush (n := 12) dX10_wild_10 rfl ⟨by decide, by decide⟩ (by decide) ?_
    refine a_icmp_gt (t := 31) (n := 15) dX10_wild_12 rfl rfl (fun c12 => ?_) (fun c12 => ?_)
    · refine a_iconst (n := 32) dX10_wild_31 rfl ⟨by decide, by decide⟩ ?_
      refine a_ireturn dX10_wild_32 rfl ?_
      exact ⟨rfl, rfl, rfl, Or.inr ⟨by omega, rfl, rfl⟩⟩
    · refine a_iload_n (n := 16) dX10_wild_15 rfl rfl ?_
      refine a_callS (M2 := mX10_areMany) (n := 19) dX10_wild_16 rfl (m_areMany (d := d)) kX10_areMany lX10_261 sX10_areMany (by omega) rfl (Nat.le_of_ble_eq_true rfl) (fun q16 z16 hr16 hi16 hl16 h16 => ?_)
      obtain ⟨e116, e216, e316, e416, b16, rfl, hb16⟩ := h16
      obtain rfl := e116.symm
      obtain rfl := e216.symm
      obtain rfl := e316.symm
      obtain rfl := e416.symm
      show a_wp G _ _ _ _ (vI b16 :: _) _ _ _ _ _
      refine a_if_eq (t := 31) (n := 22) dX10_wild_19 rfl rfl (fun c19 => ?_) (fun c19 => ?_)
      · replace hb16 := isB_f hb16 c19
        try simp only [up2_eq, fil_eq, Nat.reduceEqDiff, Int.reduceEq, and_true, true_and, and_false, false_and, and_self, if_true, if_false, reduceIte] at hb16
        refine a_iconst (n := 32) dX10_wild_31 rfl ⟨by decide, by decide⟩ ?_
        refine a_ireturn dX10_wild_32 rfl ?_
        exact ⟨rfl, rfl, rfl, Or.inr ⟨by omega, rfl, rfl⟩⟩
      · replace hb16 := isB_t hb16 (by omega)
        try simp only [up2_eq, fil_eq, Nat.reduceEqDiff, Int.reduceEq, and_true, true_and, and_false, false_and, and_self, if_true, if_false, reduceIte] at hb16
        refine a_aload_n (n := 23) dX10_wild_22 rfl rfl ?_
        refine a_getI (n := 26) dX10_wild_23 rfl fX10_258 (s37 hz) ?_
        try simp only [up2_eq, Nat.reduceEqDiff, Int.reduceEq, Int.reduceNeg, and_true, true_and, and_false, false_and, and_self, if_true, if_false, ite_true, ite_false, reduceIte, eq_self]
        refine a_bipush (n := 28) dX10_wild_26 rfl ⟨by decide, by decide⟩ (by decide) ?_
        refine a_icmp_ne (t := 33) (n := 31) dX10_wild_28 rfl rfl (fun c28 => ?_) (fun c28 => ?_)
        · refine a_aload_n (n := 34) dX10_wild_33 rfl rfl ?_
          refine a_getR (n := 37) dX10_wild_34 rfl fX10_120 (s37 hz) (r37_36 hR) ?_
          refine a_aload_n (n := 38) dX10_wild_37 rfl rfl ?_
          refine a_getI (n := 41) dX10_wild_38 rfl fX10_258 (s37 hz) ?_
          try simp only [up2_eq, Nat.reduceEqDiff, Int.reduceEq, Int.reduceNeg, and_true, true_and, and_false, false_and, and_self, if_true, if_false, ite_true, ite_false, reduceIte, eq_self]
          refine a_iload_n (n := 42) dX10_wild_41 rfl rfl ?_
          refine a_iast (n := 43) dX10_wild_42 rfl (s63 hz) (by omega) (by omega) ?_
          refine a_aload_n (n := 44) dX10_wild_43 rfl rfl ?_
          refine a_iconst (n := 45) dX10_wild_44 rfl ⟨by decide, by decide⟩ ?_
          refine a_iconst (n := 46) dX10_wild_45 rfl ⟨by decide, by decide⟩ ?_
          refine a_iconst (n := 47) dX10_wild_46 rfl ⟨by decide, by decide⟩ ?_
          refine a_iload_n (n := 48) dX10_wild_47 rfl rfl ?_
          refine a_callV (M2 := mX10_grows) (n := 51) dX10_wild_48 rfl (m_grows (d := d) hz hR (fun h => absurd h (by decide)) (by simp only [up2_eq, fil_eq, Nat.reduceEqDiff, Int.reduceEq, and_true, true_and, and_false, false_and, and_self, if_true, if_false, reduceIte]; omega)) kX10_grows lX10_264 iX10_grows eX10_grows (by decide) (by omega) (s37 hz) rfl (Nat.le_of_ble_eq_true rfl) (fun q48 z48 hr48 hi48 hl48 h48 => ?_)
          obtain ⟨e148, e248, e348, rfl, rfl⟩ := h48
          obtain rfl := e148.symm
          obtain rfl := e248.symm
          obtain rfl := e348.symm
          show a_wp G _ _ _ _ [_] _ _ _ _ _
          refine a_ireturn dX10_wild_51 rfl ?_
          refine ⟨rfl, rfl, rfl, Or.inl ⟨by omega, ?_, rfl⟩⟩
          simp only [up2_eq, fil_eq, Nat.reduceEqDiff, Int.reduceEq, and_true, true_and, and_false, false_and, and_self, if_true, if_false, reduceIte]
        · refine a_iconst (n := 32) dX10_wild_31 rfl ⟨by decide, by decide⟩ ?_
          refine a_ireturn dX10_wild_32 rfl ?_
          exact ⟨rfl, rfl, rfl, Or.inr ⟨by omega, rfl, rfl⟩⟩
set_option maxRecDepth 100000 in
set_option maxHeartbeats 4000000 in
theorem m_seed (hz : stZ z) (hR : stR hr) {a b m : Int} (hp : 0 ≤ hi 37 25 ∧ hi 37 25 ≤ 40) : a_ct G mX10_seed (d + 1) [vR 37, vI a, vI b, vI m] z hr hi hl (fun r z' hr' hi' hl' => z' = z ∧ hr' = hr ∧ hl' = hl ∧ (((0 ≤ a ∧ a < hi 37 25) ∧ (b = -1 ∨ (0 ≤ b ∧ b < hi 37 25)) ∧ 1 ≤ m ∧ m ≤ 100 ∧ hi 37 25 < 40) ∧ r = some (vI (hi 37 25)) ∧ hi' = mGr (up2 hi 37 0 0) 1 a b m ∨ ¬ ((0 ≤ a ∧ a < hi 37 25) ∧ (b = -1 ∨ (0 ≤ b ∧ b < hi 37 25)) ∧ 1 ≤ m ∧ m ≤ 100 ∧ hi 37 25 < 40) ∧ r = some (vI (-1)) ∧ hi' = (up2 hi 37 0 0))) := by
  refine a_ct_of rfl (Nat.le_of_ble_eq_true rfl) ?_
  refine a_aload_n (n := 1) dX10_seed_0 rfl rfl ?_
  refine a_iconst (n := 2) dX10_seed_1 rfl ⟨by decide, by decide⟩ ?_
  refine a_putI (n := 5) dX10_seed_2 rfl fX10_1 rfl (s37 hz) (Or.inl rfl) ?_
  refine a_aload_n (n := 6) dX10_seed_5 rfl rfl ?_
  refine a_iload_n (n := 7) dX10_seed_6 rfl rfl ?_
  refine a_callV (M2 := mX10_isPlant) (n := 10) dX10_seed_7 rfl (m_isPlant (d := d) hz) kX10_isPlant lX10_268 iX10_isPlant eX10_isPlant (by decide) (by omega) (s37 hz) rfl (Nat.le_of_ble_eq_true rfl) (fun q7 z7 hr7 hi7 hl7 h7 => ?_)
  obtain ⟨e17, e27, e37, e47, b7, rfl, hb7⟩ := h7
  obtain rfl := e17.symm
  obtain rfl := e27.symm
  obtain rfl := e37.symm
  obtain rfl := e47.symm
  show a_wp G _ _ _ _ (vI b7 :: _) _ _ _ _ _
  refine a_if_eq (t := 42) (n := 13) dX10_seed_10 rfl rfl (fun c10 => ?_) (fun c10 => ?_)
  · replace hb7 := isB_f hb7 c10
    try simp only [up2_eq, fil_eq, Nat.reduceEqDiff, Int.reduceEq, and_true, true_and, and_false, false_and, and_self, if_true, if_false, reduceIte] at hb7
    refine a_iconst (n := 43) dX10_seed_42 rfl ⟨by decide, by decide⟩ ?_
    refine a_ireturn dX10_seed_43 rfl ?_
    exact ⟨rfl, rfl, rfl, Or.inr ⟨by omega, rfl, rfl⟩⟩
  · replace hb7 := isB_t hb7 (by omega)
    try simp only [up2_eq, fil_eq, Nat.reduceEqDiff, Int.reduceEq, and_true, true_and, and_false, false_and, and_self, if_true, if_false, reduceIte] at hb7
    refine a_iload_n (n := 14) dX10_seed_13 rfl rfl ?_
    refine a_iconst (n := 15) dX10_seed_14 rfl ⟨by decide, by decide⟩ ?_
    refine a_icmp_eq (t := 26) (n := 18) dX10_seed_15 rfl rfl (fun c15 => ?_) (fun c15 => ?_)
    · refine a_iload_n (n := 27) dX10_seed_26 rfl rfl ?_
      refine a_callS (M2 := mX10_areMany) (n := 30) dX10_seed_27 rfl (m_areMany (d := d)) kX10_areMany lX10_261 sX10_areMany (by omega) rfl (Nat.le_of_ble_eq_true rfl) (fun q27 z27 hr27 hi27 hl27 h27 => ?_)
      obtain ⟨e127, e227, e327, e427, b27, rfl, hb27⟩ := h27
      obtain rfl := e127.symm
      obtain rfl := e227.symm
      obtain rfl := e327.symm
      obtain rfl := e427.symm
      show a_wp G _ _ _ _ (vI b27 :: _) _ _ _ _ _
      refine a_if_eq (t := 42) (n := 33) dX10_seed_30 rfl rfl (fun c30 => ?_) (fun c30 => ?_)
      · replace hb27 := isB_f hb27 c30
        try simp only [up2_eq, fil_eq, Nat.reduceEqDiff, Int.reduceEq, and_true, true_and, and_false, false_and, and_self, if_true, if_false, reduceIte] at hb27
        refine a_iconst (n := 43) dX10_seed_42 rfl ⟨by decide, by decide⟩ ?_
        refine a_ireturn dX10_seed_43 rfl ?_
        exact ⟨rfl, rfl, rfl, Or.inr ⟨by omega, rfl, rfl⟩⟩
      · replace hb27 := isB_t hb27 (by omega)
        try simp only [up2_eq, fil_eq, Nat.reduceEqDiff, Int.reduceEq, and_true, true_and, and_false, false_and, and_self, if_true, if_false, reduceIte] at hb27
        refine a_aload_n (n := 34) dX10_seed_33 rfl rfl ?_
        refine a_getI (n := 37) dX10_seed_34 rfl fX10_258 (s37 hz) ?_
        try simp only [up2_eq, Nat.reduceEqDiff, Int.reduceEq, Int.reduceNeg, and_true, true_and, and_false, false_and, and_self, if_true, if_false, ite_true, ite_false, reduceIte, eq_self]
        refine a_bipush (n := 39) dX10_seed_37 rfl ⟨by decide, by decide⟩ (by decide) ?_
        refine a_icmp_ne (t := 44) (n := 42) dX10_seed_39 rfl rfl (fun c39 => ?_) (fun c39 => ?_)
        · refine a_aload_n (n := 45) dX10_seed_44 rfl rfl ?_
          refine a_iconst (n := 46) dX10_seed_45 rfl ⟨by decide, by decide⟩ ?_
          refine a_iload_n (n := 47) dX10_seed_46 rfl rfl ?_
          refine a_iload_n (n := 48) dX10_seed_47 rfl rfl ?_
          refine a_iload_n (n := 49) dX10_seed_48 rfl rfl ?_
          refine a_callV (M2 := mX10_grows) (n := 52) dX10_seed_49 rfl (m_grows (d := d) hz hR (fun h => absurd h (by decide)) (by simp only [up2_eq, fil_eq, Nat.reduceEqDiff, Int.reduceEq, and_true, true_and, and_false, false_and, and_self, if_true, if_false, reduceIte]; omega)) kX10_grows lX10_264 iX10_grows eX10_grows (by decide) (by omega) (s37 hz) rfl (Nat.le_of_ble_eq_true rfl) (fun q49 z49 hr49 hi49 hl49 h49 => ?_)
          obtain ⟨e149, e249, e349, rfl, rfl⟩ := h49
          obtain rfl := e149.symm
          obtain rfl := e249.symm
          obtain rfl := e349.symm
          show a_wp G _ _ _ _ [_] _ _ _ _ _
          refine a_ireturn dX10_seed_52 rfl ?_
          refine ⟨rfl, rfl, rfl, Or.inl ⟨by omega, ?_, rfl⟩⟩
          simp only [up2_eq, fil_eq, Nat.reduceEqDiff, Int.reduceEq, and_true, true_and, and_false, false_and, and_self, if_true, if_false, reduceIte]
        · refine a_iconst (n := 43) dX10_seed_42 rfl ⟨by decide, by decide⟩ ?_
          refine a_ireturn dX10_seed_43 rfl ?_
          exact ⟨rfl, rfl, rfl, Or.inr ⟨by omega, rfl, rfl⟩⟩
    · refine a_aload_n (n := 19) dX10_seed_18 rfl rfl ?_
      refine a_iload_n (n := 20) dX10_seed_19 rfl rfl ?_
      refine a_callV (M2 := mX10_isPlant) (n := 23) dX10_seed_20 rfl (m_isPlant (d := d) hz) kX10_isPlant lX10_268 iX10_isPlant eX10_isPlant (by decide) (by omega) (s37 hz) rfl (Nat.le_of_ble_eq_true rfl) (fun q20 z20 hr20 hi20 hl20 h20 => ?_)
      obtain ⟨e120, e220, e320, e420, b20, rfl, hb20⟩ := h20
      obtain rfl := e120.symm
      obtain rfl := e220.symm
      obtain rfl := e320.symm
      obtain rfl := e420.symm
      show a_wp G _ _ _ _ (vI b20 :: _) _ _ _ _ _
      refine a_if_eq (t := 42) (n := 26) dX10_seed_23 rfl rfl (fun c23 => ?_) (fun c23 => ?_)
      · replace hb20 := isB_f hb20 c23
        try simp only [up2_eq, fil_eq, Nat.reduceEqDiff, Int.reduceEq, and_true, true_and, and_false, false_and, and_self, if_true, if_false, reduceIte] at hb20
        refine a_iconst (n := 43) dX10_seed_42 rfl ⟨by decide, by decide⟩ ?_
        refine a_ireturn dX10_seed_43 rfl ?_
        exact ⟨rfl, rfl, rfl, Or.inr ⟨by omega, rfl, rfl⟩⟩
      · replace hb20 := isB_t hb20 (by omega)
        try simp only [up2_eq, fil_eq, Nat.reduceEqDiff, Int.reduceEq, and_true, true_and, and_false, false_and, and_self, if_true, if_false, reduceIte] at hb20
        refine a_iload_n (n := 27) dX10_seed_26 rfl rfl ?_
        refine a_callS (M2 := mX10_areMany) (n := 30) dX10_seed_27 rfl (m_areMany (d := d)) kX10_areMany lX10_261 sX10_areMany (by omega) rfl (Nat.le_of_ble_eq_true rfl) (fun q27 z27 hr27 hi27 hl27 h27 => ?_)
        obtain ⟨e127, e227, e327, e427, b27, rfl, hb27⟩ := h27
        obtain rfl := e127.symm
        obtain rfl := e227.symm
        obtain rfl := e327.symm
        obtain rfl := e427.symm
        show a_wp G _ _ _ _ (vI b27 :: _) _ _ _ _ _
        refine a_if_eq (t := 42) (n := 33) dX10_seed_30 rfl rfl (fun c30 => ?_) (fun c30 => ?_)
        · replace hb27 := isB_f hb27 c30
          try simp only [up2_eq, fil_eq, Nat.reduceEqDiff, Int.reduceEq, and_true, true_and, and_false, false_and, and_self, if_true, if_false, reduceIte] at hb27
          refine a_iconst (n := 43) dX10_seed_42 rfl ⟨by decide, by decide⟩ ?_
          refine a_ireturn dX10_seed_43 rfl ?_
          exact ⟨rfl, rfl, rfl, Or.inr ⟨by omega, rfl, rfl⟩⟩
        · replace hb27 := isB_t hb27 (by omega)
          try simp only [up2_eq, fil_eq, Nat.reduceEqDiff, Int.reduceEq, and_true, true_and, and_false, false_and, and_self, if_true, if_false, reduceIte] at hb27
          refine a_aload_n (n := 34) dX10_seed_33 rfl rfl ?_
          refine a_getI (n := 37) dX10_seed_34 rfl fX10_258 (s37 hz) ?_
          try simp only [up2_eq, Nat.reduceEqDiff, Int.reduceEq, Int.reduceNeg, and_true, true_and, and_false, false_and, and_self, if_true, if_false, ite_true, ite_false, reduceIte, eq_self]
          refine a_bipush (n := 39) dX10_seed_37 rfl ⟨by decide, by decide⟩ (by decide) ?_
          refine a_icmp_ne (t := 44) (n := 42) dX10_seed_39 rfl rfl (fun c39 => ?_) (fun c39 => ?_)
          · refine a_aload_n (n := 45) dX10_seed_44 rfl rfl ?_
            refine a_iconst (n := 46) dX10_seed_45 rfl ⟨by decide, by decide⟩ ?_
            refine a_iload_n (n := 47) dX10_seed_46 rfl rfl ?_
            refine a_iload_n (n := 48) dX10_seed_47 rfl rfl ?_
            refine a_iload_n (n := 49) dX10_seed_48 rfl rfl ?_
            refine a_callV (M2 := mX10_grows) (n := 52) dX10_seed_49 rfl (m_grows (d := d) hz hR (fun h => absurd h (by decide)) (by simp only [up2_eq, fil_eq, Nat.reduceEqDiff, Int.reduceEq, and_true, true_and, and_false, false_and, and_self, if_true, if_false, reduceIte]; omega)) kX10_grows lX10_264 iX10_grows eX10_grows (by decide) (by omega) (s37 hz) rfl (Nat.le_of_ble_eq_true rfl) (fun q49 z49 hr49 hi49 hl49 h49 => ?_)
            obtain ⟨e149, e249, e349, rfl, rfl⟩ := h49
            obtain rfl := e149.symm
            obtain rfl := e249.symm
            obtain rfl := e349.symm
            show a_wp G _ _ _ _ [_] _ _ _ _ _
            refine a_ireturn dX10_seed_52 rfl ?_
            refine ⟨rfl, rfl, rfl, Or.inl ⟨by omega, ?_, rfl⟩⟩
            simp only [up2_eq, fil_eq, Nat.reduceEqDiff, Int.reduceEq, and_true, true_and, and_false, false_and, and_self, if_true, if_false, reduceIte]
          · refine a_iconst (n := 43) dX10_seed_42 rfl ⟨by decide, by decide⟩ ?_
            refine a_ireturn dX10_seed_43 rfl ?_
            exact ⟨rfl, rfl, rfl, Or.inr ⟨by omega, rfl, rfl⟩⟩
set_option maxRecDepth 100000 in
set_option maxHeartbeats 4000000 in
theorem m_cut (hz : stZ z) (hR : stR hr) {a m : Int} (hp : 0 ≤ hi 37 25 ∧ hi 37 25 ≤ 40) : a_ct G mX10_cut (d + 1) [vR 37, vI a, vI m] z hr hi hl (fun r z' hr' hi' hl' => z' = z ∧ hr' = hr ∧ hl' = hl ∧ (((0 ≤ a ∧ a < hi 37 25) ∧ 1 ≤ m ∧ m ≤ 100 ∧ hi 37 25 < 40) ∧ r = some (vI (hi 37 25)) ∧ hi' = mGr (up2 hi 37 0 0) 2 a (-1) m ∨ ¬ ((0 ≤ a ∧ a < hi 37 25) ∧ 1 ≤ m ∧ m ≤ 100 ∧ hi 37 25 < 40) ∧ r = some (vI (-1)) ∧ hi' = (up2 hi 37 0 0))) := by
  refine a_ct_of rfl (Nat.le_of_ble_eq_true rfl) ?_
  refine a_aload_n (n := 1) dX10_cut_0 rfl rfl ?_
  refine a_iconst (n := 2) dX10_cut_1 rfl ⟨by decide, by decide⟩ ?_
  refine a_putI (n := 5) dX10_cut_2 rfl fX10_1 rfl (s37 hz) (Or.inl rfl) ?_
  refine a_aload_n (n := 6) dX10_cut_5 rfl rfl ?_
  refine a_iload_n (n := 7) dX10_cut_6 rfl rfl ?_
  refine a_callV (M2 := mX10_isPlant) (n := 10) dX10_cut_7 rfl (m_isPlant (d := d) hz) kX10_isPlant lX10_268 iX10_isPlant eX10_isPlant (by decide) (by omega) (s37 hz) rfl (Nat.le_of_ble_eq_true rfl) (fun q7 z7 hr7 hi7 hl7 h7 => ?_)
  obtain ⟨e17, e27, e37, e47, b7, rfl, hb7⟩ := h7
  obtain rfl := e17.symm
  obtain rfl := e27.symm
  obtain rfl := e37.symm
  obtain rfl := e47.symm
  show a_wp G _ _ _ _ (vI b7 :: _) _ _ _ _ _
  refine a_if_eq (t := 29) (n := 13) dX10_cut_10 rfl rfl (fun c10 => ?_) (fun c10 => ?_)
  · replace hb7 := isB_f hb7 c10
    try simp only [up2_eq, fil_eq, Nat.reduceEqDiff, Int.reduceEq, and_true, true_and, and_false, false_and, and_self, if_true, if_false, reduceIte] at hb7
    refine a_iconst (n := 30) dX10_cut_29 rfl ⟨by decide, by decide⟩ ?_
    refine a_goto (t := 41) dX10_cut_30 rfl ?_
    refine a_ireturn dX10_cut_41 rfl ?_
    exact ⟨rfl, rfl, rfl, Or.inr ⟨by omega, rfl, rfl⟩⟩
  · replace hb7 := isB_t hb7 (by omega)
    try simp only [up2_eq, fil_eq, Nat.reduceEqDiff, Int.reduceEq, and_true, true_and, and_false, false_and, and_self, if_true, if_false, reduceIte] at hb7
    refine a_iload_n (n := 14) dX10_cut_13 rfl rfl ?_
    refine a_callS (M2 := mX10_areMany) (n := 17) dX10_cut_14 rfl (m_areMany (d := d)) kX10_areMany lX10_261 sX10_areMany (by omega) rfl (Nat.le_of_ble_eq_true rfl) (fun q14 z14 hr14 hi14 hl14 h14 => ?_)
    obtain ⟨e114, e214, e314, e414, b14, rfl, hb14⟩ := h14
    obtain rfl := e114.symm
    obtain rfl := e214.symm
    obtain rfl := e314.symm
    obtain rfl := e414.symm
    show a_wp G _ _ _ _ (vI b14 :: _) _ _ _ _ _
    refine a_if_eq (t := 29) (n := 20) dX10_cut_17 rfl rfl (fun c17 => ?_) (fun c17 => ?_)
    · replace hb14 := isB_f hb14 c17
      try simp only [up2_eq, fil_eq, Nat.reduceEqDiff, Int.reduceEq, and_true, true_and, and_false, false_and, and_self, if_true, if_false, reduceIte] at hb14
      refine a_iconst (n := 30) dX10_cut_29 rfl ⟨by decide, by decide⟩ ?_
      refine a_goto (t := 41) dX10_cut_30 rfl ?_
      refine a_ireturn dX10_cut_41 rfl ?_
      exact ⟨rfl, rfl, rfl, Or.inr ⟨by omega, rfl, rfl⟩⟩
    · replace hb14 := isB_t hb14 (by omega)
      try simp only [up2_eq, fil_eq, Nat.reduceEqDiff, Int.reduceEq, and_true, true_and, and_false, false_and, and_self, if_true, if_false, reduceIte] at hb14
      refine a_aload_n (n := 21) dX10_cut_20 rfl rfl ?_
      refine a_getI (n := 24) dX10_cut_21 rfl fX10_258 (s37 hz) ?_
      try simp only [up2_eq, Nat.reduceEqDiff, Int.reduceEq, Int.reduceNeg, and_true, true_and, and_false, false_and, and_self, if_true, if_false, ite_true, ite_false, reduceIte, eq_self]
      refine a_bipush (n := 26) dX10_cut_24 rfl ⟨by decide, by decide⟩ (by decide) ?_
      refine a_icmp_ne (t := 33) (n := 29) dX10_cut_26 rfl rfl (fun c26 => ?_) (fun c26 => ?_)
      · refine a_aload_n (n := 34) dX10_cut_33 rfl rfl ?_
        refine a_iconst (n := 35) dX10_cut_34 rfl ⟨by decide, by decide⟩ ?_
        refine a_iload_n (n := 36) dX10_cut_35 rfl rfl ?_
        refine a_iconst (n := 37) dX10_cut_36 rfl ⟨by decide, by decide⟩ ?_
        refine a_iload_n (n := 38) dX10_cut_37 rfl rfl ?_
        refine a_callV (M2 := mX10_grows) (n := 41) dX10_cut_38 rfl (m_grows (d := d) hz hR (fun _ => by simp only [up2_eq, fil_eq, Nat.reduceEqDiff, Int.reduceEq, and_true, true_and, and_false, false_and, and_self, if_true, if_false, reduceIte]; omega) (by simp only [up2_eq, fil_eq, Nat.reduceEqDiff, Int.reduceEq, and_true, true_and, and_false, false_and, and_self, if_true, if_false, reduceIte]; omega)) kX10_grows lX10_264 iX10_grows eX10_grows (by decide) (by omega) (s37 hz) rfl (Nat.le_of_ble_eq_true rfl) (fun q38 z38 hr38 hi38 hl38 h38 => ?_)
        obtain ⟨e138, e238, e338, rfl, rfl⟩ := h38
        obtain rfl := e138.symm
        obtain rfl := e238.symm
        obtain rfl := e338.symm
        show a_wp G _ _ _ _ [_] _ _ _ _ _
        refine a_ireturn dX10_cut_41 rfl ?_
        refine ⟨rfl, rfl, rfl, Or.inl ⟨by omega, ?_, rfl⟩⟩
        simp only [up2_eq, fil_eq, Nat.reduceEqDiff, Int.reduceEq, and_true, true_and, and_false, false_and, and_self, if_true, if_false, reduceIte]
      · refine a_iconst (n := 30) dX10_cut_29 rfl ⟨by decide, by decide⟩ ?_
        refine a_goto (t := 41) dX10_cut_30 rfl ?_
        refine a_ireturn dX10_cut_41 rfl ?_
        exact ⟨rfl, rfl, rfl, Or.inr ⟨by omega, rfl, rfl⟩⟩
set_option maxRecDepth 100000 in
set_option maxHeartbeats 4000000 in
theorem m_split (hz : stZ z) (hR : stR hr) {a m : Int} (hp : 0 ≤ hi 37 25 ∧ hi 37 25 ≤ 40) (hpc : ∀ q, 0 ≤ hi 56 q ∧ hi 56 q ≤ 100) : a_ct G mX10_split (d + 1) [vR 37, vI a, vI m] z hr hi hl (fun r z' hr' hi' hl' => z' = z ∧ hr' = hr ∧ hl' = hl ∧ (((0 ≤ a ∧ a < hi 37 25) ∧ 1 ≤ m ∧ m < hi 56 a ∧ hi 37 25 < 40) ∧ r = some (vI (hi 37 25)) ∧ hi' = mGr (up2 (up2 hi 37 0 0) 56 a (hi 56 a - m)) 3 a (-1) m ∨ ¬ ((0 ≤ a ∧ a < hi 37 25) ∧ 1 ≤ m ∧ m < hi 56 a ∧ hi 37 25 < 40) ∧ r = some (vI (-1)) ∧ hi' = (up2 hi 37 0 0))) := by
  refine a_ct_of rfl (Nat.le_of_ble_eq_true rfl) ?_
  refine a_aload_n (n := 1) dX10_split_0 rfl rfl ?_
  refine a_iconst (n := 2) dX10_split_1 rfl ⟨by decide, by decide⟩ ?_
  refine a_putI (n := 5) dX10_split_2 rfl fX10_1 rfl (s37 hz) (Or.inl rfl) ?_
  refine a_aload_n (n := 6) dX10_split_5 rfl rfl ?_
  refine a_iload_n (n := 7) dX10_split_6 rfl rfl ?_
  refine a_callV (M2 := mX10_isPlant) (n := 10) dX10_split_7 rfl (m_isPlant (d := d) hz) kX10_isPlant lX10_268 iX10_isPlant eX10_isPlant (by decide) (by omega) (s37 hz) rfl (Nat.le_of_ble_eq_true rfl) (fun q7 z7 hr7 hi7 hl7 h7 => ?_)
  obtain ⟨e17, e27, e37, e47, b7, rfl, hb7⟩ := h7
  obtain rfl := e17.symm
  obtain rfl := e27.symm
  obtain rfl := e37.symm
  obtain rfl := e47.symm
  show a_wp G _ _ _ _ (vI b7 :: _) _ _ _ _ _
  refine a_if_eq (t := 37) (n := 13) dX10_split_10 rfl rfl (fun c10 => ?_) (fun c10 => ?_)
  · replace hb7 := isB_f hb7 c10
    try simp only [up2_eq, fil_eq, Nat.reduceEqDiff, Int.reduceEq, and_true, true_and, and_false, false_and, and_self, if_true, if_false, reduceIte] at hb7
    refine a_iconst (n := 38) dX10_split_37 rfl ⟨by decide, by decide⟩ ?_
    refine a_ireturn dX10_split_38 rfl ?_
    exact ⟨rfl, rfl, rfl, Or.inr ⟨by omega, rfl, rfl⟩⟩
  · replace hb7 := isB_t hb7 (by omega)
    try simp only [up2_eq, fil_eq, Nat.reduceEqDiff, Int.reduceEq, and_true, true_and, and_false, false_and, and_self, if_true, if_false, reduceIte] at hb7
    refine a_iload_n (n := 14) dX10_split_13 rfl rfl ?_
    refine a_iconst (n := 15) dX10_split_14 rfl ⟨by decide, by decide⟩ ?_
    refine a_icmp_lt (t := 37) (n := 18) dX10_split_15 rfl rfl (fun c15 => ?_) (fun c15 => ?_)
    · refine a_iconst (n := 38) dX10_split_37 rfl ⟨by decide, by decide⟩ ?_
      refine a_ireturn dX10_split_38 rfl ?_
      exact ⟨rfl, rfl, rfl, Or.inr ⟨by omega, rfl, rfl⟩⟩
    · refine a_iload_n (n := 19) dX10_split_18 rfl rfl ?_
      refine a_aload_n (n := 20) dX10_split_19 rfl rfl ?_
      refine a_getR (n := 23) dX10_split_20 rfl fX10_99 (s37 hz) (r37_29 hR) ?_
      refine a_iload_n (n := 24) dX10_split_23 rfl rfl ?_
      refine a_iald (n := 25) dX10_split_24 rfl (s56 hz) (by omega) (by omega) ?_
      try simp only [up2_eq, Nat.reduceEqDiff, Int.reduceEq, Int.reduceNeg, and_true, true_and, and_false, false_and, and_self, if_true, if_false, ite_true, ite_false, reduceIte, eq_self]
      refine a_icmp_ge (t := 37) (n := 28) dX10_split_25 rfl rfl (fun c25 => ?_) (fun c25 => ?_)
      · refine a_iconst (n := 38) dX10_split_37 rfl ⟨by decide, by decide⟩ ?_
        refine a_ireturn dX10_split_38 rfl ?_
        exact ⟨rfl, rfl, rfl, Or.inr ⟨by omega, rfl, rfl⟩⟩
      · refine a_aload_n (n := 29) dX10_split_28 rfl rfl ?_
        refine a_getI (n := 32) dX10_split_29 rfl fX10_258 (s37 hz) ?_
        try simp only [up2_eq, Nat.reduceEqDiff, Int.reduceEq, Int.reduceNeg, and_true, true_and, and_false, false_and, and_self, if_true, if_false, ite_true, ite_false, reduceIte, eq_self]
        refine a_bipush (n := 34) dX10_split_32 rfl ⟨by decide, by decide⟩ (by decide) ?_
        refine a_icmp_ne (t := 39) (n := 37) dX10_split_34 rfl rfl (fun c34 => ?_) (fun c34 => ?_)
        · have hpa := hpc a
          refine a_aload_n (n := 40) dX10_split_39 rfl rfl ?_
          refine a_getR (n := 43) dX10_split_40 rfl fX10_99 (s37 hz) (r37_29 hR) ?_
          refine a_iload_n (n := 44) dX10_split_43 rfl rfl ?_
          refine a_dup2 (n := 45) dX10_split_44 rfl rfl rfl ?_
          refine a_iald (n := 46) dX10_split_45 rfl (s56 hz) (by omega) (by omega) ?_
          try simp only [up2_eq, Nat.reduceEqDiff, Int.reduceEq, Int.reduceNeg, and_true, true_and, and_false, false_and, and_self, if_true, if_false, ite_true, ite_false, reduceIte, eq_self]
          refine a_iload_n (n := 47) dX10_split_46 rfl rfl ?_
          refine a_isub (n := 48) dX10_split_47 rfl ⟨by omega, by omega⟩ ?_
          refine a_iast (n := 49) dX10_split_48 rfl (s56 hz) (by omega) (by omega) ?_
          refine a_aload_n (n := 50) dX10_split_49 rfl rfl ?_
          refine a_iconst (n := 51) dX10_split_50 rfl ⟨by decide, by decide⟩ ?_
          refine a_iload_n (n := 52) dX10_split_51 rfl rfl ?_
          refine a_iconst (n := 53) dX10_split_52 rfl ⟨by decide, by decide⟩ ?_
          refine a_iload_n (n := 54) dX10_split_53 rfl rfl ?_
          refine a_callV (M2 := mX10_grows) (n := 57) dX10_split_54 rfl (m_grows (d := d) hz hR (fun _ => by simp only [up2_eq, fil_eq, Nat.reduceEqDiff, Int.reduceEq, and_true, true_and, and_false, false_and, and_self, if_true, if_false, reduceIte]; omega) (by simp only [up2_eq, fil_eq, Nat.reduceEqDiff, Int.reduceEq, and_true, true_and, and_false, false_and, and_self, if_true, if_false, reduceIte]; omega)) kX10_grows lX10_264 iX10_grows eX10_grows (by decide) (by omega) (s37 hz) rfl (Nat.le_of_ble_eq_true rfl) (fun q54 z54 hr54 hi54 hl54 h54 => ?_)
          obtain ⟨e154, e254, e354, rfl, rfl⟩ := h54
          obtain rfl := e154.symm
          obtain rfl := e254.symm
          obtain rfl := e354.symm
          show a_wp G _ _ _ _ [_] _ _ _ _ _
          refine a_ireturn dX10_split_57 rfl ?_
          refine ⟨rfl, rfl, rfl, Or.inl ⟨by omega, ?_, rfl⟩⟩
          simp only [up2_eq, fil_eq, Nat.reduceEqDiff, Int.reduceEq, and_true, true_and, and_false, false_and, and_self, if_true, if_false, reduceIte]
        · refine a_iconst (n := 38) dX10_split_37 rfl ⟨by decide, by decide⟩ ?_
          refine a_ireturn dX10_split_38 rfl ?_
          exact ⟨rfl, rfl, rfl, Or.inr ⟨by omega, rfl, rfl⟩⟩
end M19
