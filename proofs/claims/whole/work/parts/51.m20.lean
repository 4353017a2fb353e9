section M20
variable {G : aG} {d : Nat} {z : aZ} {hr : aR} {hi hl : aI}
def mLook (hi : aI) (p w : Int) : Int := if w = 0 then hi 53 p else if w = 1 then hi 54 p else if w = 2 then hi 55 p else if w = 3 then hi 56 p
  else if w = 4 then hi 63 (mRoot (hi 53) (hi 54) 40 p) else if w = 5 then mRoot (hi 53) (hi 54) 40 p else if w = 6 then (if hi 53 (mStem (hi 53) (hi 54) 40 p) = 2 then 1 else 0)
  else if w = 7 then hi 59 p else if w = 8 then hi 61 p else if w = 9 then (if hi 62 p = 0 then 0 else 1) else hi 57 (8 * p + (w - 10))
theorem mTree.up {hi : aI} {b : Nat} {i v : Int} (h : mTree hi) (h1 : 53 ≠ b) (h2 : 54 ≠ b) (h3 : ¬ (37 = b ∧ 25 = i)) : mTree (up2 hi b i v) := by
  unfold mTree at h ⊢
  have e : up2 hi b i v 37 25 = hi 37 25 := if_neg h3
  rw [up2_f h1, up2_f h2, e]
  exact h
theorem mRoot_in (hT : mTree hi) (hp : hi 37 25 ≤ 40) (n : Nat) : ∀ q : Int, 0 ≤ q → q < hi 37 25 → 0 ≤ mRoot (hi 53) (hi 54) n q ∧ mRoot (hi 53) (hi 54) n q < 40 := by
  induction n with
  | zero => intro q h0 h1; rw [mRoot]; omega
  | succ n ih =>
    intro q h0 h1
    rw [mRoot]
    split
    · omega
    · rename_i hne
      have h := hT.2.2 q h0 h1 hne
      exact ih _ (by omega) (by omega)
set_option maxRecDepth 100000 in
set_option maxHeartbeats 4000000 in
theorem m_look (hz : stZ z) (hR : stR hr) (hT : mTree hi) {p w : Int} (hp : hi 37 25 ≤ 40) : a_ct G mX10_look (d + 1) [vR 37, vI p, vI w] z hr hi hl (fun r z' hr' hi' hl' => z' = z ∧ hr' = hr ∧ hl' = hl ∧ (((0 ≤ p ∧ p < hi 37 25) ∧ 0 ≤ w ∧ w ≤ 17) ∧ r = some (vI (mLook hi p w)) ∧ hi' = up2 hi 37 0 0 ∨ ¬ ((0 ≤ p ∧ p < hi 37 25) ∧ 0 ≤ w ∧ w ≤ 17) ∧ r = some (vI 0) ∧ hi' = up2 hi 37 0 1)) := by
  refine a_ct_of rfl (Nat.le_of_ble_eq_true rfl) ?_
  refine a_aload_n (n := 1) dX10_look_0 rfl rfl ?_
  refine a_aload_n (n := 2) dX10_look_1 rfl rfl ?_
  refine a_iload_n (n := 3) dX10_look_2 rfl rfl ?_
  refine a_callV (M2 := mX10_isPlant) (n := 6) dX10_look_3 rfl (m_isPlant (d := d) hz) kX10_isPlant lX10_268 iX10_isPlant eX10_isPlant (by decide) (by omega) (s37 hz) rfl (Nat.le_of_ble_eq_true rfl) (fun q3 z3 hr3 hi3 hl3 h3 => ?_)
  obtain ⟨e13, e23, e33, e43, b3, rfl, hb3⟩ := h3
  obtain rfl := e13.symm
  obtain rfl := e23.symm
  obtain rfl := e33.symm
  obtain rfl := e43.symm
  show a_wp G _ _ _ _ (vI b3 :: _) _ _ _ _ _
  refine a_if_eq (t := 23) (n := 9) dX10_look_6 rfl rfl (fun c6 => ?_) (fun c6 => ?_)
  · replace hb3 := isB_f hb3 c6
    refine a_iconst (n := 24) dX10_look_23 rfl ⟨by decide, by decide⟩ ?_
    refine a_putI (n := 27) dX10_look_24 rfl fX10_1 rfl (s37 hz) (Or.inl rfl) ?_
    refine a_aload_n (n := 28) dX10_look_27 rfl rfl ?_
    refine a_getI (n := 31) dX10_look_28 rfl fX10_1 (s37 hz) ?_
    try simp only [up2_eq, Nat.reduceEqDiff, Int.reduceEq, Int.reduceNeg, and_true, true_and, and_false, false_and, and_self, if_true, if_false, ite_true, ite_false, reduceIte, eq_self]
    refine a_if_le (t := 36) (n := 34) dX10_look_31 rfl rfl (fun c31 => ?_) (fun c31 => ?_)
    · omega
    · refine a_iconst (n := 35) dX10_look_34 rfl ⟨by decide, by decide⟩ ?_
      refine a_ireturn dX10_look_35 rfl ?_
      exact ⟨rfl, rfl, rfl, Or.inr ⟨by omega, rfl, rfl⟩⟩
  · replace hb3 := isB_t hb3 (by omega)
    refine a_iload_n (n := 10) dX10_look_9 rfl rfl ?_
    refine a_if_lt (t := 23) (n := 13) dX10_look_10 rfl rfl (fun c10 => ?_) (fun c10 => ?_)
    · refine a_iconst (n := 24) dX10_look_23 rfl ⟨by decide, by decide⟩ ?_
      refine a_putI (n := 27) dX10_look_24 rfl fX10_1 rfl (s37 hz) (Or.inl rfl) ?_
      refine a_aload_n (n := 28) dX10_look_27 rfl rfl ?_
      refine a_getI (n := 31) dX10_look_28 rfl fX10_1 (s37 hz) ?_
      try simp only [up2_eq, Nat.reduceEqDiff, Int.reduceEq, Int.reduceNeg, and_true, true_and, and_false, false_and, and_self, if_true, if_false, ite_true, ite_false, reduceIte, eq_self]
      refine a_if_le (t := 36) (n := 34) dX10_look_31 rfl rfl (fun c31 => ?_) (fun c31 => ?_)
      · omega
      · refine a_iconst (n := 35) dX10_look_34 rfl ⟨by decide, by decide⟩ ?_
        refine a_ireturn dX10_look_35 rfl ?_
        exact ⟨rfl, rfl, rfl, Or.inr ⟨by omega, rfl, rfl⟩⟩
    · refine a_iload_n (n := 14) dX10_look_13 rfl rfl ?_
      refine a_bipush (n := 16) dX10_look_14 rfl ⟨by decide, by decide⟩ (by decide) ?_
      refine a_icmp_gt (t := 23) (n := 19) dX10_look_16 rfl rfl (fun c16 => ?_) (fun c16 => ?_)
      · refine a_iconst (n := 24) dX10_look_23 rfl ⟨by decide, by decide⟩ ?_
        refine a_putI (n := 27) dX10_look_24 rfl fX10_1 rfl (s37 hz) (Or.inl rfl) ?_
        refine a_aload_n (n := 28) dX10_look_27 rfl rfl ?_
        refine a_getI (n := 31) dX10_look_28 rfl fX10_1 (s37 hz) ?_
        try simp only [up2_eq, Nat.reduceEqDiff, Int.reduceEq, Int.reduceNeg, and_true, true_and, and_false, false_and, and_self, if_true, if_false, ite_true, ite_false, reduceIte, eq_self]
        refine a_if_le (t := 36) (n := 34) dX10_look_31 rfl rfl (fun c31 => ?_) (fun c31 => ?_)
        · omega
        · refine a_iconst (n := 35) dX10_look_34 rfl ⟨by decide, by decide⟩ ?_
          refine a_ireturn dX10_look_35 rfl ?_
          exact ⟨rfl, rfl, rfl, Or.inr ⟨by omega, rfl, rfl⟩⟩
      · refine a_iconst (n := 20) dX10_look_19 rfl ⟨by decide, by decide⟩ ?_
        refine a_goto (t := 24) dX10_look_20 rfl ?_
        refine a_putI (n := 27) dX10_look_24 rfl fX10_1 rfl (s37 hz) (Or.inl rfl) ?_
        refine a_aload_n (n := 28) dX10_look_27 rfl rfl ?_
        refine a_getI (n := 31) dX10_look_28 rfl fX10_1 (s37 hz) ?_
        try simp only [up2_eq, Nat.reduceEqDiff, Int.reduceEq, Int.reduceNeg, and_true, true_and, and_false, false_and, and_self, if_true, if_false, ite_true, ite_false, reduceIte, eq_self]
        refine a_if_le (t := 36) (n := 34) dX10_look_31 rfl rfl (fun c31 => ?_) (fun c31 => ?_)
        · refine a_iload_n (n := 37) dX10_look_36 rfl rfl ?_
          by_cases hw37 : w < 0 ∨ 9 < w
          · refine a_tableOut (t := 180) dX10_look_37 hw37 rfl ?_
            refine a_aload_n (n := 181) dX10_look_180 rfl rfl ?_
            refine a_iload_n (n := 182) dX10_look_181 rfl rfl ?_
            refine a_iload_n (n := 183) dX10_look_182 rfl rfl ?_
            refine a_bipush (n := 185) dX10_look_183 rfl ⟨by decide, by decide⟩ (by decide) ?_
            refine a_isub (n := 186) dX10_look_185 rfl ⟨by omega, by omega⟩ ?_
            refine a_iconst (n := 187) dX10_look_186 rfl ⟨by decide, by decide⟩ ?_
            refine a_idiv (n := 188) dX10_look_187 rfl (by omega) (by omega) ?_
            refine a_iload_n (n := 189) dX10_look_188 rfl rfl ?_
            refine a_iconst (n := 190) dX10_look_189 rfl ⟨by decide, by decide⟩ ?_
            refine a_irem (n := 191) dX10_look_190 rfl (by omega) (by omega) ?_
            refine a_callV (M2 := mX10_markOf) (n := 194) dX10_look_191 rfl (m_markOf (d := d) hz hR (by omega) (by omega) (by omega)) kX10_markOf lX10_271 iX10_markOf eX10_markOf (by decide) (by omega) (s37 hz) rfl (Nat.le_of_ble_eq_true rfl) (fun q191 z191 hr191 hi191 hl191 h191 => ?_)
            obtain ⟨e1191, e2191, e3191, e4191, rfl⟩ := h191
            obtain rfl := e1191.symm
            obtain rfl := e2191.symm
            obtain rfl := e3191.symm
            obtain rfl := e4191.symm
            show a_wp G _ _ _ _ (vI _ :: _) _ _ _ _ _
            refine a_ireturn dX10_look_194 rfl ?_
            refine ⟨rfl, rfl, rfl, Or.inl ⟨by omega, ?_, rfl⟩⟩
            unfold mLook
            rw [if_neg (by omega), if_neg (by omega), if_neg (by omega), if_neg (by omega), if_neg (by omega), if_neg (by omega), if_neg (by omega), if_neg (by omega), if_neg (by omega), if_neg (by omega), up2_n (by decide), show 8 * p + 2 * ((w - 10) / 2) + w % 2 = 8 * p + (w - 10) by omega]
          · have hx37 : w = 0 ∨ w = 1 ∨ w = 2 ∨ w = 3 ∨ w = 4 ∨ w = 5 ∨ w = 6 ∨ w = 7 ∨ w = 8 ∨ w = 9 := by omega
            rcases hx37 with rfl | rfl | rfl | rfl | rfl | rfl | rfl | rfl | rfl | rfl
            · refine a_tableIn (off := 55) (t := 92) dX10_look_37 (by decide) (by decide) rfl rfl ?_
              refine a_aload_n (n := 93) dX10_look_92 rfl rfl ?_
              refine a_getR (n := 96) dX10_look_93 rfl fX10_90 (s37 hz) (r37_26 hR) ?_
              refine a_iload_n (n := 97) dX10_look_96 rfl rfl ?_
              refine a_iald (n := 98) dX10_look_97 rfl (s53 hz) (by omega) (by omega) ?_
              try simp only [up2_eq, Nat.reduceEqDiff, Int.reduceEq, Int.reduceNeg, and_true, true_and, and_false, false_and, and_self, if_true, if_false, ite_true, ite_false, reduceIte, eq_self]
              refine a_ireturn dX10_look_98 rfl ?_
              refine ⟨rfl, rfl, rfl, Or.inl ⟨by omega, ?_, rfl⟩⟩
              show some (vI _) = some (vI _)
              unfold mLook
              simp only [up2_eq, Nat.reduceEqDiff, false_and, Int.reduceEq, if_false, if_true, reduceIte, ite_true, ite_false]
            · refine a_tableIn (off := 62) (t := 99) dX10_look_37 (by decide) (by decide) rfl rfl ?_
              refine a_aload_n (n := 100) dX10_look_99 rfl rfl ?_
              refine a_getR (n := 103) dX10_look_100 rfl fX10_93 (s37 hz) (r37_27 hR) ?_
              refine a_iload_n (n := 104) dX10_look_103 rfl rfl ?_
              refine a_iald (n := 105) dX10_look_104 rfl (s54 hz) (by omega) (by omega) ?_
              try simp only [up2_eq, Nat.reduceEqDiff, Int.reduceEq, Int.reduceNeg, and_true, true_and, and_false, false_and, and_self, if_true, if_false, ite_true, ite_false, reduceIte, eq_self]
              refine a_ireturn dX10_look_105 rfl ?_
              refine ⟨rfl, rfl, rfl, Or.inl ⟨by omega, ?_, rfl⟩⟩
              show some (vI _) = some (vI _)
              unfold mLook
              simp only [up2_eq, Nat.reduceEqDiff, false_and, Int.reduceEq, if_false, if_true, reduceIte, ite_true, ite_false]
            · refine a_tableIn (off := 69) (t := 106) dX10_look_37 (by decide) (by decide) rfl rfl ?_
              refine a_aload_n (n := 107) dX10_look_106 rfl rfl ?_
              refine a_getR (n := 110) dX10_look_107 rfl fX10_96 (s37 hz) (r37_28 hR) ?_
              refine a_iload_n (n := 111) dX10_look_110 rfl rfl ?_
              refine a_iald (n := 112) dX10_look_111 rfl (s55 hz) (by omega) (by omega) ?_
              try simp only [up2_eq, Nat.reduceEqDiff, Int.reduceEq, Int.reduceNeg, and_true, true_and, and_false, false_and, and_self, if_true, if_false, ite_true, ite_false, reduceIte, eq_self]
              refine a_ireturn dX10_look_112 rfl ?_
              refine ⟨rfl, rfl, rfl, Or.inl ⟨by omega, ?_, rfl⟩⟩
              show some (vI _) = some (vI _)
              unfold mLook
              simp only [up2_eq, Nat.reduceEqDiff, false_and, Int.reduceEq, if_false, if_true, reduceIte, ite_true, ite_false]
            · refine a_tableIn (off := 76) (t := 113) dX10_look_37 (by decide) (by decide) rfl rfl ?_
              refine a_aload_n (n := 114) dX10_look_113 rfl rfl ?_
              refine a_getR (n := 117) dX10_look_114 rfl fX10_99 (s37 hz) (r37_29 hR) ?_
              refine a_iload_n (n := 118) dX10_look_117 rfl rfl ?_
              refine a_iald (n := 119) dX10_look_118 rfl (s56 hz) (by omega) (by omega) ?_
              try simp only [up2_eq, Nat.reduceEqDiff, Int.reduceEq, Int.reduceNeg, and_true, true_and, and_false, false_and, and_self, if_true, if_false, ite_true, ite_false, reduceIte, eq_self]
              refine a_ireturn dX10_look_119 rfl ?_
              refine ⟨rfl, rfl, rfl, Or.inl ⟨by omega, ?_, rfl⟩⟩
              show some (vI _) = some (vI _)
              unfold mLook
              simp only [up2_eq, Nat.reduceEqDiff, false_and, Int.reduceEq, if_false, if_true, reduceIte, ite_true, ite_false]
            · refine a_tableIn (off := 83) (t := 120) dX10_look_37 (by decide) (by decide) rfl rfl ?_
              refine a_aload_n (n := 121) dX10_look_120 rfl rfl ?_
              refine a_getR (n := 124) dX10_look_121 rfl fX10_120 (s37 hz) (r37_36 hR) ?_
              refine a_aload_n (n := 125) dX10_look_124 rfl rfl ?_
              refine a_iload_n (n := 126) dX10_look_125 rfl rfl ?_
              refine a_callV (M2 := mX10_rootOf) (n := 129) dX10_look_126 rfl (m_rootOf (d := d) hz hR (hT.up (by decide) (by decide) (by decide)) (by simp only [up2_eq, Nat.reduceEqDiff, Int.reduceEq, and_true, true_and, and_false, false_and, and_self, if_true, if_false, reduceIte]; exact hb3)) kX10_rootOf lX10_327 iX10_rootOf eX10_rootOf (by decide) (by omega) (s37 hz) rfl (Nat.le_of_ble_eq_true rfl) (fun q126 z126 hr126 hi126 hl126 h126 => ?_)
              have e53 : (up2 hi 37 0 0) 53 = hi 53 := up2_f (by decide)
              have e54 : (up2 hi 37 0 0) 54 = hi 54 := up2_f (by decide)
              rw [e53, e54] at h126
              obtain ⟨e1126, e2126, e3126, e4126, rfl⟩ := h126
              obtain rfl := e1126.symm
              obtain rfl := e2126.symm
              obtain rfl := e3126.symm
              obtain rfl := e4126.symm
              show a_wp G _ _ _ _ (vI _ :: _) _ _ _ _ _
              have hrb := mRoot_in hT hp 40 p hb3.1 hb3.2
              refine a_iald (n := 130) dX10_look_129 rfl (s63 hz) (by omega) (by omega) ?_
              try simp only [up2_eq, Nat.reduceEqDiff, Int.reduceEq, Int.reduceNeg, and_true, true_and, and_false, false_and, and_self, if_true, if_false, ite_true, ite_false, reduceIte, eq_self]
              refine a_ireturn dX10_look_130 rfl ?_
              refine ⟨rfl, rfl, rfl, Or.inl ⟨by omega, ?_, rfl⟩⟩
              show some (vI _) = some (vI _)
              unfold mLook
              simp only [up2_eq, Nat.reduceEqDiff, false_and, Int.reduceEq, if_false, if_true, reduceIte, ite_true, ite_false]
            · refine a_tableIn (off := 94) (t := 131) dX10_look_37 (by decide) (by decide) rfl rfl ?_
              refine a_aload_n (n := 132) dX10_look_131 rfl rfl ?_
              refine a_iload_n (n := 133) dX10_look_132 rfl rfl ?_
              refine a_callV (M2 := mX10_rootOf) (n := 136) dX10_look_133 rfl (m_rootOf (d := d) hz hR (hT.up (by decide) (by decide) (by decide)) (by simp only [up2_eq, Nat.reduceEqDiff, Int.reduceEq, and_true, true_and, and_false, false_and, and_self, if_true, if_false, reduceIte]; exact hb3)) kX10_rootOf lX10_327 iX10_rootOf eX10_rootOf (by decide) (by omega) (s37 hz) rfl (Nat.le_of_ble_eq_true rfl) (fun q133 z133 hr133 hi133 hl133 h133 => ?_)
              have e53 : (up2 hi 37 0 0) 53 = hi 53 := up2_f (by decide)
              have e54 : (up2 hi 37 0 0) 54 = hi 54 := up2_f (by decide)
              rw [e53, e54] at h133
              obtain ⟨e1133, e2133, e3133, e4133, rfl⟩ := h133
              obtain rfl := e1133.symm
              obtain rfl := e2133.symm
              obtain rfl := e3133.symm
              obtain rfl := e4133.symm
              show a_wp G _ _ _ _ (vI _ :: _) _ _ _ _ _
              refine a_ireturn dX10_look_136 rfl ?_
              refine ⟨rfl, rfl, rfl, Or.inl ⟨by omega, ?_, rfl⟩⟩
              show some (vI _) = some (vI _)
              unfold mLook
              simp only [up2_eq, Nat.reduceEqDiff, false_and, Int.reduceEq, if_false, if_true, reduceIte, ite_true, ite_false]
            · refine a_tableIn (off := 100) (t := 137) dX10_look_37 (by decide) (by decide) rfl rfl ?_
              refine a_aload_n (n := 138) dX10_look_137 rfl rfl ?_
              refine a_iload_n (n := 139) dX10_look_138 rfl rfl ?_
              refine a_callV (M2 := mX10_isCut) (n := 142) dX10_look_139 rfl (m_isCut (d := d) hz hR (hT.up (by decide) (by decide) (by decide)) (by simp only [up2_eq, Nat.reduceEqDiff, Int.reduceEq, and_true, true_and, and_false, false_and, and_self, if_true, if_false, reduceIte]; exact hb3)) kX10_isCut lX10_330 iX10_isCut eX10_isCut (by decide) (by omega) (s37 hz) rfl (Nat.le_of_ble_eq_true rfl) (fun q139 z139 hr139 hi139 hl139 h139 => ?_)
              have e53 : (up2 hi 37 0 0) 53 = hi 53 := up2_f (by decide)
              have e54 : (up2 hi 37 0 0) 54 = hi 54 := up2_f (by decide)
              rw [e53, e54] at h139
              obtain ⟨e1139, e2139, e3139, e4139, b139, rfl, hb139⟩ := h139
              obtain rfl := e1139.symm
              obtain rfl := e2139.symm
              obtain rfl := e3139.symm
              obtain rfl := e4139.symm
              show a_wp G _ _ _ _ (vI b139 :: _) _ _ _ _ _
              refine a_if_eq (t := 149) (n := 145) dX10_look_142 rfl rfl (fun c142 => ?_) (fun c142 => ?_)
              · replace hb139 := isB_f hb139 c142
                refine a_iconst (n := 150) dX10_look_149 rfl ⟨by decide, by decide⟩ ?_
                refine a_ireturn dX10_look_150 rfl ?_
                refine ⟨rfl, rfl, rfl, Or.inl ⟨by omega, ?_, rfl⟩⟩
                show some (vI _) = some (vI _)
                unfold mLook
                simp only [Int.reduceEq, if_false, if_true, reduceIte, ite_true, ite_false]
                rw [if_neg hb139]
              · replace hb139 := isB_t hb139 (by omega)
                refine a_iconst (n := 146) dX10_look_145 rfl ⟨by decide, by decide⟩ ?_
                refine a_goto (t := 150) dX10_look_146 rfl ?_
                refine a_ireturn dX10_look_150 rfl ?_
                refine ⟨rfl, rfl, rfl, Or.inl ⟨by omega, ?_, rfl⟩⟩
                show some (vI _) = some (vI _)
                unfold mLook
                simp only [Int.reduceEq, if_false, if_true, reduceIte, ite_true, ite_false]
                rw [if_pos hb139]
            · refine a_tableIn (off := 114) (t := 151) dX10_look_37 (by decide) (by decide) rfl rfl ?_
              refine a_aload_n (n := 152) dX10_look_151 rfl rfl ?_
              refine a_getR (n := 155) dX10_look_152 rfl fX10_108 (s37 hz) (r37_32 hR) ?_
              refine a_iload_n (n := 156) dX10_look_155 rfl rfl ?_
              refine a_iald (n := 157) dX10_look_156 rfl (s59 hz) (by omega) (by omega) ?_
              try simp only [up2_eq, Nat.reduceEqDiff, Int.reduceEq, Int.reduceNeg, and_true, true_and, and_false, false_and, and_self, if_true, if_false, ite_true, ite_false, reduceIte, eq_self]
              refine a_ireturn dX10_look_157 rfl ?_
              refine ⟨rfl, rfl, rfl, Or.inl ⟨by omega, ?_, rfl⟩⟩
              show some (vI _) = some (vI _)
              unfold mLook
              simp only [up2_eq, Nat.reduceEqDiff, false_and, Int.reduceEq, if_false, if_true, reduceIte, ite_true, ite_false]
            · refine a_tableIn (off := 121) (t := 158) dX10_look_37 (by decide) (by decide) rfl rfl ?_
              refine a_aload_n (n := 159) dX10_look_158 rfl rfl ?_
              refine a_getR (n := 162) dX10_look_159 rfl fX10_114 (s37 hz) (r37_34 hR) ?_
              refine a_iload_n (n := 163) dX10_look_162 rfl rfl ?_
              refine a_iald (n := 164) dX10_look_163 rfl (s61 hz) (by omega) (by omega) ?_
              try simp only [up2_eq, Nat.reduceEqDiff, Int.reduceEq, Int.reduceNeg, and_true, true_and, and_false, false_and, and_self, if_true, if_false, ite_true, ite_false, reduceIte, eq_self]
              refine a_ireturn dX10_look_164 rfl ?_
              refine ⟨rfl, rfl, rfl, Or.inl ⟨by omega, ?_, rfl⟩⟩
              show some (vI _) = some (vI _)
              unfold mLook
              simp only [up2_eq, Nat.reduceEqDiff, false_and, Int.reduceEq, if_false, if_true, reduceIte, ite_true, ite_false]
            · refine a_tableIn (off := 128) (t := 165) dX10_look_37 (by decide) (by decide) rfl rfl ?_
              refine a_aload_n (n := 166) dX10_look_165 rfl rfl ?_
              refine a_getR (n := 169) dX10_look_166 rfl fX10_117 (s37 hz) (r37_35 hR) ?_
              refine a_iload_n (n := 170) dX10_look_169 rfl rfl ?_
              refine a_zald (n := 171) dX10_look_170 rfl (s62 hz) (by omega) (by omega) ?_
              try simp only [up2_eq, Nat.reduceEqDiff, Int.reduceEq, Int.reduceNeg, and_true, true_and, and_false, false_and, and_self, if_true, if_false, ite_true, ite_false, reduceIte, eq_self]
              refine a_if_eq (t := 178) (n := 174) dX10_look_171 rfl rfl (fun c171 => ?_) (fun c171 => ?_)
              · refine a_iconst (n := 179) dX10_look_178 rfl ⟨by decide, by decide⟩ ?_
                refine a_ireturn dX10_look_179 rfl ?_
                refine ⟨rfl, rfl, rfl, Or.inl ⟨by omega, ?_, rfl⟩⟩
                show some (vI _) = some (vI _)
                unfold mLook
                simp only [Int.reduceEq, if_false, if_true, reduceIte, ite_true, ite_false]
                rw [if_pos c171]
              · refine a_iconst (n := 175) dX10_look_174 rfl ⟨by decide, by decide⟩ ?_
                refine a_goto (t := 179) dX10_look_175 rfl ?_
                refine a_ireturn dX10_look_179 rfl ?_
                refine ⟨rfl, rfl, rfl, Or.inl ⟨by omega, ?_, rfl⟩⟩
                show some (vI _) = some (vI _)
                unfold mLook
                simp only [Int.reduceEq, if_false, if_true, reduceIte, ite_true, ite_false]
                rw [if_neg c171]
        · omega
/-- the byte of v at bit k; what the tape becomes by it; by a long *)  -/
def mBy (v k : Int) : Int := b_and (b_l2i (b_lshr v k)) 255
def mLay1 (hi : aI) (c : Int) : aI := if (c = 10 ∨ (32 ≤ c ∧ c ≤ 126)) ∧ hi 37 2 < 600 then up2 (up2 hi 38 (hi 37 2) c) 37 2 (hi 37 2 + 1) else hi
def mLayN (v : Int) : Nat → aI → aI
  | 0, hi => hi
  | n + 1, hi => mLayN v n (mLay1 hi (mBy v (8 * n)))
theorem mLay1_b {hi : aI} {c : Int} (h : 0 ≤ hi 37 2 ∧ hi 37 2 ≤ 600) : 0 ≤ (mLay1 hi c) 37 2 ∧ (mLay1 hi c) 37 2 ≤ 600 := by
  unfold mLay1
  split
  · rw [up2_s]; omega
  · exact h
theorem mLayN_b {v : Int} (n : Nat) : ∀ {hi : aI}, 0 ≤ hi 37 2 ∧ hi 37 2 ≤ 600 → 0 ≤ (mLayN v n hi) 37 2 ∧ (mLayN v n hi) 37 2 ≤ 600 := by
  induction n with
  | zero => intro hi h; exact h
  | succ n ih => intro hi h; exact ih (mLay1_b h)
set_option maxRecDepth 100000 in
set_option maxHeartbeats 4000000 in
theorem m_layJ_l (hz : stZ z) (hR : stR hr) {v : Int} (n : Nat) : n ≤ 8 → ∀ (hi : aI), 0 ≤ hi 37 2 ∧ hi 37 2 ≤ 600 → ∀ (k : Int) (x : Option aV), k = 8 * n - 8 → a_wp G mX10_lay d 3 [some (vR 37), some (vJ v), none, some (vI k), x] [] z hr hi hl (fun r z' hr' hi' hl' => z' = z ∧ hr' = hr ∧ hl' = hl ∧ r = none ∧ hi' = mLayN v n hi) := by
  induction n with
  | zero =>
    intro hn8 hi ht k x hk
    refine a_iload_n (n := 4) dX10_lay_3 rfl rfl ?_
    refine a_if_lt (t := 75) (n := 7) dX10_lay_4 rfl rfl (fun c4 => ?_) (fun c4 => ?_)
    · refine a_return dX10_lay_75 rfl ?_
      exact ⟨rfl, rfl, rfl, rfl, rfl⟩
    · omega
  | succ n ih =>
    intro hn8 hi ht k x hk
    obtain rfl : k = 8 * n := by omega
    refine a_iload_n (n := 4) dX10_lay_3 rfl rfl ?_
    refine a_if_lt (t := 75) (n := 7) dX10_lay_4 rfl rfl (fun c4 => ?_) (fun c4 => ?_)
    · omega
    · refine a_lload_n (n := 8) dX10_lay_7 rfl rfl ?_
      refine a_iload_n (n := 9) dX10_lay_8 rfl rfl ?_
      refine a_lshr (n := 10) dX10_lay_9 rfl ?_
      refine a_l2i (n := 11) dX10_lay_10 rfl ?_
      refine a_sipush (n := 14) dX10_lay_11 rfl ⟨by decide, by decide⟩ (by decide) ?_
      refine a_iand (n := 15) dX10_lay_14 rfl ?_
      refine b_istore (n := 17) dX10_lay_15 rfl (by decide) rfl ?_
      show a_wp G _ _ _ [some (vR 37), some (vJ v), none, some (vI (8 * n)), some (vI (mBy v (8 * n)))] _ _ _ _ _ _
      refine a_iload (n := 19) dX10_lay_17 rfl rfl ?_
      refine a_bipush (n := 21) dX10_lay_19 rfl ⟨by decide, by decide⟩ (by decide) ?_
      refine a_icmp_eq (t := 38) (n := 24) dX10_lay_21 rfl rfl (fun c21 => ?_) (fun c21 => ?_)
      · refine a_aload_n (n := 39) dX10_lay_38 rfl rfl ?_
        refine a_getI (n := 42) dX10_lay_39 rfl fX10_11 (s37 hz) ?_
        refine a_sipush (n := 45) dX10_lay_42 rfl ⟨by decide, by decide⟩ (by decide) ?_
        refine a_icmp_ge (t := 69) (n := 48) dX10_lay_45 rfl rfl (fun c45 => ?_) (fun c45 => ?_)
        · refine b_iinc (n := 72) dX10_lay_69 rfl (by decide) rfl rfl ⟨by omega, by omega⟩ ?_
          refine a_goto (t := 3) dX10_lay_72 rfl ?_
          have e2 := mLay1_b (c := mBy v (8 * n)) ht
          rw [mLayN]
          rw [mLay1, if_neg (by omega)] at e2 ⊢
          exact ih (by omega) _ e2 (8 * n + -8) _ (by omega)
        · refine a_aload_n (n := 49) dX10_lay_48 rfl rfl ?_
          refine a_getR (n := 52) dX10_lay_49 rfl fX10_14 (s37 hz) (r37_1 hR) ?_
          refine a_aload_n (n := 53) dX10_lay_52 rfl rfl ?_
          refine a_getI (n := 56) dX10_lay_53 rfl fX10_11 (s37 hz) ?_
          refine a_iload (n := 58) dX10_lay_56 rfl rfl ?_
          refine a_iast (n := 59) dX10_lay_58 rfl (s38 hz) (by omega) (by omega) ?_
          refine a_aload_n (n := 60) dX10_lay_59 rfl rfl ?_
          refine a_dup (n := 61) dX10_lay_60 rfl rfl ?_
          refine a_getI (n := 64) dX10_lay_61 rfl fX10_11 (s37 hz) ?_
          try simp only [up2_eq, Nat.reduceEqDiff, Int.reduceEq, Int.reduceNeg, and_true, true_and, and_false, false_and, and_self, if_true, if_false, ite_true, ite_false, reduceIte, eq_self]
          refine a_iconst (n := 65) dX10_lay_64 rfl ⟨by decide, by decide⟩ ?_
          refine a_iadd (n := 66) dX10_lay_65 rfl ⟨by omega, by omega⟩ ?_
          refine a_putI (n := 69) dX10_lay_66 rfl fX10_11 rfl (s37 hz) (Or.inl rfl) ?_
          refine b_iinc (n := 72) dX10_lay_69 rfl (by decide) rfl rfl ⟨by omega, by omega⟩ ?_
          refine a_goto (t := 3) dX10_lay_72 rfl ?_
          have e2 := mLay1_b (c := mBy v (8 * n)) ht
          rw [mLayN]
          rw [mLay1, if_pos ⟨by omega, by omega⟩] at e2 ⊢
          exact ih (by omega) _ e2 (8 * n + -8) _ (by omega)
      · refine a_iload (n := 26) dX10_lay_24 rfl rfl ?_
        refine a_bipush (n := 28) dX10_lay_26 rfl ⟨by decide, by decide⟩ (by decide) ?_
        refine a_icmp_lt (t := 69) (n := 31) dX10_lay_28 rfl rfl (fun c28 => ?_) (fun c28 => ?_)
        · refine b_iinc (n := 72) dX10_lay_69 rfl (by decide) rfl rfl ⟨by omega, by omega⟩ ?_
          refine a_goto (t := 3) dX10_lay_72 rfl ?_
          have e2 := mLay1_b (c := mBy v (8 * n)) ht
          rw [mLayN]
          rw [mLay1, if_neg (by omega)] at e2 ⊢
          exact ih (by omega) _ e2 (8 * n + -8) _ (by omega)
        · refine a_iload (n := 33) dX10_lay_31 rfl rfl ?_
          refine a_bipush (n := 35) dX10_lay_33 rfl ⟨by decide, by decide⟩ (by decide) ?_
          refine a_icmp_gt (t := 69) (n := 38) dX10_lay_35 rfl rfl (fun c35 => ?_) (fun c35 => ?_)
          · refine b_iinc (n := 72) dX10_lay_69 rfl (by decide) rfl rfl ⟨by omega, by omega⟩ ?_
            refine a_goto (t := 3) dX10_lay_72 rfl ?_
            have e2 := mLay1_b (c := mBy v (8 * n)) ht
            rw [mLayN]
            rw [mLay1, if_neg (by omega)] at e2 ⊢
            exact ih (by omega) _ e2 (8 * n + -8) _ (by omega)
          · refine a_aload_n (n := 39) dX10_lay_38 rfl rfl ?_
            refine a_getI (n := 42) dX10_lay_39 rfl fX10_11 (s37 hz) ?_
            refine a_sipush (n := 45) dX10_lay_42 rfl ⟨by decide, by decide⟩ (by decide) ?_
            refine a_icmp_ge (t := 69) (n := 48) dX10_lay_45 rfl rfl (fun c45 => ?_) (fun c45 => ?_)
            · refine b_iinc (n := 72) dX10_lay_69 rfl (by decide) rfl rfl ⟨by omega, by omega⟩ ?_
              refine a_goto (t := 3) dX10_lay_72 rfl ?_
              have e2 := mLay1_b (c := mBy v (8 * n)) ht
              rw [mLayN]
              rw [mLay1, if_neg (by omega)] at e2 ⊢
              exact ih (by omega) _ e2 (8 * n + -8) _ (by omega)
            · refine a_aload_n (n := 49) dX10_lay_48 rfl rfl ?_
              refine a_getR (n := 52) dX10_lay_49 rfl fX10_14 (s37 hz) (r37_1 hR) ?_
              refine a_aload_n (n := 53) dX10_lay_52 rfl rfl ?_
              refine a_getI (n := 56) dX10_lay_53 rfl fX10_11 (s37 hz) ?_
              refine a_iload (n := 58) dX10_lay_56 rfl rfl ?_
              refine a_iast (n := 59) dX10_lay_58 rfl (s38 hz) (by omega) (by omega) ?_
              refine a_aload_n (n := 60) dX10_lay_59 rfl rfl ?_
              refine a_dup (n := 61) dX10_lay_60 rfl rfl ?_
              refine a_getI (n := 64) dX10_lay_61 rfl fX10_11 (s37 hz) ?_
              try simp only [up2_eq, Nat.reduceEqDiff, Int.reduceEq, Int.reduceNeg, and_true, true_and, and_false, false_and, and_self, if_true, if_false, ite_true, ite_false, reduceIte, eq_self]
              refine a_iconst (n := 65) dX10_lay_64 rfl ⟨by decide, by decide⟩ ?_
              refine a_iadd (n := 66) dX10_lay_65 rfl ⟨by omega, by omega⟩ ?_
              refine a_putI (n := 69) dX10_lay_66 rfl fX10_11 rfl (s37 hz) (Or.inl rfl) ?_
              refine b_iinc (n := 72) dX10_lay_69 rfl (by decide) rfl rfl ⟨by omega, by omega⟩ ?_
              refine a_goto (t := 3) dX10_lay_72 rfl ?_
              have e2 := mLay1_b (c := mBy v (8 * n)) ht
              rw [mLayN]
              rw [mLay1, if_pos ⟨by omega, by omega⟩] at e2 ⊢
              exact ih (by omega) _ e2 (8 * n + -8) _ (by omega)
set_option maxRecDepth 100000 in
set_option maxHeartbeats 4000000 in
theorem m_layJ (hz : stZ z) (hR : stR hr) {v : Int} (ht : 0 ≤ hi 37 2 ∧ hi 37 2 ≤ 600) : a_ct G mX10_lay (d + 0) [vR 37, vJ v] z hr hi hl (fun r z' hr' hi' hl' => z' = z ∧ hr' = hr ∧ hl' = hl ∧ r = none ∧ hi' = mLayN v 8 hi) := by
  refine a_ct_of rfl (Nat.le_of_ble_eq_true rfl) ?_
  refine a_bipush (n := 2) dX10_lay_0 rfl ⟨by decide, by decide⟩ (by decide) ?_
  refine b_istore_n (n := 3) dX10_lay_2 rfl (by decide) rfl ?_
  exact m_layJ_l hz hR 8 (by decide) hi ht 56 none (by decide)
set_option maxRecDepth 100000 in
set_option maxHeartbeats 4000000 in
theorem m_feed (hz : stZ z) (hR : stR hr) {a b c : Int} (ht : 0 ≤ hi 37 2 ∧ hi 37 2 ≤ 600) : a_ct G mX10_feed (d + 1) [vR 37, vJ a, vJ b, vJ c] z hr hi hl (fun r z' hr' hi' hl' => z' = z ∧ hr' = hr ∧ hl' = hl ∧ hi' = mLayN c 8 (mLayN b 8 (mLayN a 8 (up2 hi 37 0 0))) ∧ r = some (vI (hi' 37 2))) := by
  refine a_ct_of rfl (Nat.le_of_ble_eq_true rfl) ?_
  refine a_aload_n (n := 1) dX10_feed_0 rfl rfl ?_
  refine a_iconst (n := 2) dX10_feed_1 rfl ⟨by decide, by decide⟩ ?_
  refine a_putI (n := 5) dX10_feed_2 rfl fX10_1 rfl (s37 hz) (Or.inl rfl) ?_
  refine a_aload_n (n := 6) dX10_feed_5 rfl rfl ?_
  refine a_lload_n (n := 7) dX10_feed_6 rfl rfl ?_
  refine a_callV (M2 := mX10_lay) (n := 10) dX10_feed_7 rfl (m_layJ (d := d) hz hR (by rw [up2_m (by decide)]; exact ht)) kX10_lay lX10_7 iX10_lay eX10_lay (by decide) (by omega) (s37 hz) rfl (Nat.le_of_ble_eq_true rfl) (fun q7 z7 hr7 hi7 hl7 h7 => ?_)
  obtain ⟨e17, e27, e37, rfl, rfl⟩ := h7
  obtain rfl := e17.symm
  obtain rfl := e27.symm
  obtain rfl := e37.symm
  show a_wp G _ _ _ _ [] _ _ _ _ _
  refine a_aload_n (n := 11) dX10_feed_10 rfl rfl ?_
  refine a_lload_n (n := 12) dX10_feed_11 rfl rfl ?_
  refine a_callV (M2 := mX10_lay) (n := 15) dX10_feed_12 rfl (m_layJ (d := d) hz hR (mLayN_b 8 (by rw [up2_m (by decide)]; exact ht))) kX10_lay lX10_7 iX10_lay eX10_lay (by decide) (by omega) (s37 hz) rfl (Nat.le_of_ble_eq_true rfl) (fun q12 z12 hr12 hi12 hl12 h12 => ?_)
  obtain ⟨e112, e212, e312, rfl, rfl⟩ := h12
  obtain rfl := e112.symm
  obtain rfl := e212.symm
  obtain rfl := e312.symm
  show a_wp G _ _ _ _ [] _ _ _ _ _
  refine a_aload_n (n := 16) dX10_feed_15 rfl rfl ?_
  refine a_lload (n := 18) dX10_feed_16 rfl rfl ?_
  refine a_callV (M2 := mX10_lay) (n := 21) dX10_feed_18 rfl (m_layJ (d := d) hz hR (mLayN_b 8 (mLayN_b 8 (by rw [up2_m (by decide)]; exact ht)))) kX10_lay lX10_7 iX10_lay eX10_lay (by decide) (by omega) (s37 hz) rfl (Nat.le_of_ble_eq_true rfl) (fun q18 z18 hr18 hi18 hl18 h18 => ?_)
  obtain ⟨e118, e218, e318, rfl, rfl⟩ := h18
  obtain rfl := e118.symm
  obtain rfl := e218.symm
  obtain rfl := e318.symm
  show a_wp G _ _ _ _ [] _ _ _ _ _
  refine a_aload_n (n := 22) dX10_feed_21 rfl rfl ?_
  refine a_getI (n := 25) dX10_feed_22 rfl fX10_11 (s37 hz) ?_
  try simp only [up2_eq, Nat.reduceEqDiff, Int.reduceEq, Int.reduceNeg, and_true, true_and, and_false, false_and, and_self, if_true, if_false, ite_true, ite_false, reduceIte, eq_self]
  refine a_ireturn dX10_feed_25 rfl ?_
  exact ⟨rfl, rfl, rfl, rfl, rfl⟩
end M20
