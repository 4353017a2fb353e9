section M16
variable {G : aG} {d : Nat} {z : aZ} {hr : aR} {hl : aI} {kd pl nu : Int → Int}
set_option maxRecDepth 100000 in
set_option maxHeartbeats 4000000 in
theorem ln_out (hz : stZ z) (hR : stR hr) {hi : aI} {x y : Int} {Q : Option aV → aZ → aR → aI → aI → Prop} (k : a_wp G mX10_line (d + 3) 157 [some (vR 37), some (vI x), some (vI y), some (vI 0)] [] z hr hi hl Q) : a_wp G mX10_line (d + 3) 123 [some (vR 37), some (vI x), some (vI y), some (vI 0)] [] z hr hi hl Q := by
  refine a_iload_n (n := 124) dX10_line_123 rfl rfl ?_
  refine a_if_eq (t := 157) (n := 127) dX10_line_124 rfl rfl (fun c124 => ?_) (fun c124 => ?_)
  · exact k
  · omega
set_option maxRecDepth 100000 in
set_option maxHeartbeats 4000000 in
theorem ln_skip (hz : stZ z) (hR : stR hr) {hi : aI} {x y : Int} {Q : Option aV → aZ → aR → aI → aI → Prop} (hf : ¬ hi 37 8 = 0) (k : a_wp G mX10_line (d + 3) 157 [some (vR 37), some (vI x), some (vI y), some (vI 1)] [] z hr hi hl Q) : a_wp G mX10_line (d + 3) 123 [some (vR 37), some (vI x), some (vI y), some (vI 1)] [] z hr hi hl Q := by
  refine a_iload_n (n := 124) dX10_line_123 rfl rfl ?_
  refine a_if_eq (t := 157) (n := 127) dX10_line_124 rfl rfl (fun c124 => ?_) (fun c124 => ?_)
  · omega
  · refine a_aload_n (n := 128) dX10_line_127 rfl rfl ?_
    refine a_getI (n := 131) dX10_line_128 rfl fX10_194 (s37 hz) ?_
    refine a_if_ne (t := 157) (n := 134) dX10_line_131 rfl rfl (fun c131 => ?_) (fun c131 => ?_)
    · exact k
    · omega
set_option maxRecDepth 100000 in
set_option maxHeartbeats 4000000 in
theorem ln_loop (hz : stZ z) (hR : stR hr) {hf : aI} {x y : Int} {Q : Option aV → aZ → aR → aI → aI → Prop} (N : Nat) : ∀ n, n < N → ∀ hi : aI, hi 37 8 = 0 → tkH kd pl nu hi hl → pRun kd pl nu n 0 hi = some hf → a_wp G mX10_line (d + 3) 157 [some (vR 37), some (vI x), some (vI y), some (vI 0)] [] z hr hf hl Q → a_wp G mX10_line (d + 3) 123 [some (vR 37), some (vI x), some (vI y), some (vI 1)] [] z hr hi hl Q := by
  induction N with
  | zero => intro n h; omega
  | succ N ihN =>
    intro n hN hi hf0 hT hrun k
    have hg := pRun_g hrun
    cases n with
    | zero => simp [pRun] at hrun
    | succ n =>
    have ih : ∀ n', n' < n + 1 → _ := fun n' h' => ihN n' (by omega)
    rw [pRun_0 hg] at hrun
    have hA := hT (hi 37 7) hg.1.1 hg.1.2
    have hp0 := hA.pp
    refine a_iload_n (n := 124) dX10_line_123 rfl rfl ?_
    refine a_if_eq (t := 157) (n := 127) dX10_line_124 rfl rfl (fun c124 => ?_) (fun c124 => ?_)
    · omega
    · refine a_aload_n (n := 128) dX10_line_127 rfl rfl ?_
      refine a_getI (n := 131) dX10_line_128 rfl fX10_194 (s37 hz) ?_
      refine a_if_ne (t := 157) (n := 134) dX10_line_131 rfl rfl (fun c131 => ?_) (fun c131 => ?_)
      · exact absurd hf0 c131
      · refine a_aload_n (n := 135) dX10_line_134 rfl rfl ?_
        refine a_callV (M2 := mX10_part) (n := 138) dX10_line_135 rfl (m_part (d := d) hz hR hg hT hf0) kX10_part lX10_234 iX10_part eX10_part (by decide) (by omega) (s37 hz) rfl (Nat.le_of_ble_eq_true rfl) (fun q135 z135 hr135 hi135 hl135 h135 => ?_)
        obtain ⟨e1135, e2135, e3135, h135⟩ := h135
        obtain rfl := e1135.symm
        obtain rfl := e2135.symm
        obtain rfl := e3135.symm
        rcases h135 with ⟨q1, rfl, rfl⟩ | ⟨q1, q2, rfl, rfl⟩ | ⟨q1, q2, rfl, rfl⟩ | ⟨q1, q2, rfl, rfl⟩
        · rw [if_pos q1] at hrun
          obtain rfl := Option.some.inj hrun
          show a_wp G _ _ _ _ (vI 0 :: _) _ _ _ _ _
          refine a_if_ne (t := 148) (n := 141) dX10_line_138 rfl rfl (fun c138 => ?_) (fun c138 => ?_)
          · omega
          · refine a_aload_n (n := 142) dX10_line_141 rfl rfl ?_
            refine a_callV (M2 := mX10_goesOnBehind) (n := 145) dX10_line_142 rfl (m_goesOnF (d := d) hz hR (by simp only [up2_eq, mEm, mOp, Nat.reduceEqDiff, Int.reduceEq, and_true, true_and, and_false, false_and, and_self, if_true, if_false, reduceIte]; omega)) kX10_goesOnBehind lX10_238 iX10_goesOnBehind eX10_goesOnBehind (by decide) (by omega) (s37 hz) rfl (Nat.le_of_ble_eq_true rfl) (fun q142 z142 hr142 hi142 hl142 h142 => ?_)
            obtain ⟨e1142, e2142, e3142, rfl, e4142⟩ := h142
            obtain rfl := e1142.symm
            obtain rfl := e2142.symm
            obtain rfl := e3142.symm
            obtain rfl := e4142.symm
            show a_wp G _ _ _ _ (vI 0 :: _) _ _ _ _ _
            refine a_if_eq (t := 152) (n := 148) dX10_line_145 rfl rfl (fun c145 => ?_) (fun c145 => ?_)
            · refine a_iconst (n := 153) dX10_line_152 rfl ⟨by decide, by decide⟩ ?_
              refine b_istore_n (n := 154) dX10_line_153 rfl (by decide) rfl ?_
              refine a_goto (t := 123) dX10_line_154 rfl ?_
              exact ln_out hz hR k
            · omega
        · rw [if_neg q1, if_pos q2] at hrun
          obtain rfl := Option.some.inj hrun
          show a_wp G _ _ _ _ (vI 0 :: _) _ _ _ _ _
          refine a_if_ne (t := 148) (n := 141) dX10_line_138 rfl rfl (fun c138 => ?_) (fun c138 => ?_)
          · omega
          · refine a_aload_n (n := 142) dX10_line_141 rfl rfl ?_
            refine a_callV (M2 := mX10_goesOnBehind) (n := 145) dX10_line_142 rfl (m_goesOnF (d := d) hz hR (by simp only [up2_eq, mEm, mOp, Nat.reduceEqDiff, Int.reduceEq, and_true, true_and, and_false, false_and, and_self, if_true, if_false, reduceIte]; omega)) kX10_goesOnBehind lX10_238 iX10_goesOnBehind eX10_goesOnBehind (by decide) (by omega) (s37 hz) rfl (Nat.le_of_ble_eq_true rfl) (fun q142 z142 hr142 hi142 hl142 h142 => ?_)
            obtain ⟨e1142, e2142, e3142, rfl, e4142⟩ := h142
            obtain rfl := e1142.symm
            obtain rfl := e2142.symm
            obtain rfl := e3142.symm
            obtain rfl := e4142.symm
            show a_wp G _ _ _ _ (vI 0 :: _) _ _ _ _ _
            refine a_if_eq (t := 152) (n := 148) dX10_line_145 rfl rfl (fun c145 => ?_) (fun c145 => ?_)
            · refine a_iconst (n := 153) dX10_line_152 rfl ⟨by decide, by decide⟩ ?_
              refine b_istore_n (n := 154) dX10_line_153 rfl (by decide) rfl ?_
              refine a_goto (t := 123) dX10_line_154 rfl ?_
              exact ln_out hz hR k
            · omega
        · rw [if_neg (by omega), if_neg q2, if_pos q1] at hrun
          show a_wp G _ _ _ _ (vI 1 :: _) _ _ _ _ _
          refine a_if_ne (t := 148) (n := 141) dX10_line_138 rfl rfl (fun c138 => ?_) (fun c138 => ?_)
          · refine a_iconst (n := 149) dX10_line_148 rfl ⟨by decide, by decide⟩ ?_
            refine a_goto (t := 153) dX10_line_149 rfl ?_
            refine b_istore_n (n := 154) dX10_line_153 rfl (by decide) rfl ?_
            refine a_goto (t := 123) dX10_line_154 rfl ?_
            exact ih n (by omega) _ (by simp only [up2_eq, mEm, mOp, Nat.reduceEqDiff, Int.reduceEq, and_true, true_and, and_false, false_and, and_self, if_true, if_false, reduceIte]; exact hf0) (((hT.up (by decide) (by decide)).up (by decide) (by decide)).op) hrun k
          · omega
        · rw [if_neg (by omega), if_neg q2, if_neg (by omega)] at hrun
          have hf4 : (up2 (mEm hi (if kd (hi 37 7) = 7 then 1 else 2) (if kd (hi 37 7) = 7 then nu (hi 37 7) else kd (hi 37 7))) 37 7 (hi 37 7 + 1)) 37 8 = 0 := by simp only [up2_eq, mEm, mOp, Nat.reduceEqDiff, Int.reduceEq, and_true, true_and, and_false, false_and, and_self, if_true, if_false, reduceIte]; exact hf0
          show a_wp G _ _ _ _ (vI 0 :: _) _ _ _ _ _
          refine a_if_ne (t := 148) (n := 141) dX10_line_138 rfl rfl (fun c138 => ?_) (fun c138 => ?_)
          · omega
          · refine a_aload_n (n := 142) dX10_line_141 rfl rfl ?_
            refine a_callV (M2 := mX10_goesOnBehind) (n := 145) dX10_line_142 rfl (m_goesOn (d := d) hz hR hf4 (hT.em.up (by decide) (by decide)) hrun) kX10_goesOnBehind lX10_238 iX10_goesOnBehind eX10_goesOnBehind (by decide) (by omega) (s37 hz) rfl (Nat.le_of_ble_eq_true rfl) (fun q142 z142 hr142 hi142 hl142 h142 => ?_)
            obtain ⟨e1142, e2142, e3142, h142⟩ := h142
            obtain rfl := e1142.symm
            obtain rfl := e2142.symm
            obtain rfl := e3142.symm
            rcases h142 with ⟨rfl, g1, g2, m, hm, hrun2⟩ | ⟨rfl, e4142⟩
            · show a_wp G _ _ _ _ (vI 1 :: _) _ _ _ _ _
              refine a_if_eq (t := 152) (n := 148) dX10_line_145 rfl rfl (fun c145 => ?_) (fun c145 => ?_)
              · omega
              · refine a_iconst (n := 149) dX10_line_148 rfl ⟨by decide, by decide⟩ ?_
                refine a_goto (t := 153) dX10_line_149 rfl ?_
                refine b_istore_n (n := 154) dX10_line_153 rfl (by decide) rfl ?_
                refine a_goto (t := 123) dX10_line_154 rfl ?_
                exact ih m (by omega) _ g1 g2 hrun2 k
            · obtain rfl := e4142.symm
              show a_wp G _ _ _ _ (vI 0 :: _) _ _ _ _ _
              refine a_if_eq (t := 152) (n := 148) dX10_line_145 rfl rfl (fun c145 => ?_) (fun c145 => ?_)
              · refine a_iconst (n := 153) dX10_line_152 rfl ⟨by decide, by decide⟩ ?_
                refine b_istore_n (n := 154) dX10_line_153 rfl (by decide) rfl ?_
                refine a_goto (t := 123) dX10_line_154 rfl ?_
                exact ln_out hz hR k
              · omega
set_option maxRecDepth 100000 in
set_option maxHeartbeats 4000000 in
theorem m_line (hz : stZ z) (hR : stR hr) {hi hf : aI} {n : Nat} (hT : tkH kd pl nu hi hl) (hf0 : hi 37 8 = 0) (h6 : kd 600 = 19) (hrun : lnR kd pl nu n hi = some hf) : a_ct G mX10_line (d + 3) [vR 37] z hr hi hl (fun r z' hr' hi' hl' => z' = z ∧ hr' = hr ∧ hl' = hl ∧ r = none ∧ hi' = hf) := by
  unfold lnR at hrun
  by_cases hG : pG hi ∧ 0 ≤ hi 43 (hi 37 16) ∧ hi 43 (hi 37 16) ≤ 16
  case neg => rw [if_pos hG] at hrun; cases hrun
  rw [if_neg (not_not_intro hG)] at hrun
  obtain ⟨⟨hg1, hg2, hg3, hg4⟩, hL1, hL2⟩ := hG
  have hA := hT (hi 37 7) hg1.1 hg1.2
  have hk0 := hA.k
  have hp0 := hA.pp
  refine a_ct_of rfl (Nat.le_of_ble_eq_true rfl) ?_
  refine a_aload_n (n := 1) dX10_line_0 rfl rfl ?_
  refine a_iconst (n := 2) dX10_line_1 rfl ⟨by decide, by decide⟩ ?_
  refine a_callV (M2 := mX10_isWord) (n := 5) dX10_line_2 rfl (m_wdk (d := d + 2) (kd := kd) (k := 17) hz hR (by decide) hg1 hf0 hA.w17) kX10_isWord lX10_204 iX10_isWord eX10_isWord (by decide) (by omega) (s37 hz) rfl (Nat.le_of_ble_eq_true rfl) (fun q2 z2 hr2 hi2 hl2 h2 => ?_)
  obtain ⟨e12, e22, e32, e42, b2, rfl, hb2⟩ := h2
  obtain rfl := e12.symm
  obtain rfl := e22.symm
  obtain rfl := e32.symm
  obtain rfl := e42.symm
  show a_wp G _ _ _ _ (vI b2 :: _) _ _ _ _ _
  refine b_istore_n (n := 6) dX10_line_5 rfl (by decide) rfl ?_
  refine a_iload_n (n := 7) dX10_line_6 rfl rfl ?_
  refine a_if_ne (t := 26) (n := 10) dX10_line_7 rfl rfl (fun c7 => ?_) (fun c7 => ?_)
  · have hv2 : b2 = 1 := by omega
    subst hv2
    replace hb2 := isB_t hb2 (by decide)
    refine a_aload_n (n := 27) dX10_line_26 rfl rfl ?_
    refine a_getR (n := 30) dX10_line_27 rfl fX10_59 (s37 hz) (r37_10 hR) ?_
    refine a_aload_n (n := 31) dX10_line_30 rfl rfl ?_
    refine a_getI (n := 34) dX10_line_31 rfl fX10_210 (s37 hz) ?_
    refine a_iald (n := 35) dX10_line_34 rfl (s43 hz) (by omega) (by omega) ?_
    refine a_bipush (n := 37) dX10_line_35 rfl ⟨by decide, by decide⟩ (by decide) ?_
    refine a_icmp_ne (t := 45) (n := 40) dX10_line_37 rfl rfl (fun c37 => ?_) (fun c37 => ?_)
    · rw [if_neg (by omega), if_neg (by omega)] at hrun
      have hb1 : hi 37 7 + 1 ≤ 600 := by
        rcases Int.lt_or_eq_of_le hg1.2 with q | q
        · omega
        · rw [q, h6] at hb2; omega
      have hB := hT (hi 37 7 + 1) (by omega) hb1
      have hp1 := hB.pp
      refine a_aload_n (n := 46) dX10_line_45 rfl rfl ?_
      refine a_getI (n := 49) dX10_line_46 rfl fX10_194 (s37 hz) ?_
      refine a_if_le (t := 53) (n := 52) dX10_line_49 rfl rfl (fun c49 => ?_) (fun c49 => ?_)
      · refine a_aload_n (n := 54) dX10_line_53 rfl rfl ?_
        refine a_dup (n := 55) dX10_line_54 rfl rfl ?_
        refine a_getI (n := 58) dX10_line_55 rfl fX10_191 (s37 hz) ?_
        refine a_iconst (n := 59) dX10_line_58 rfl ⟨by decide, by decide⟩ ?_
        refine a_iadd (n := 60) dX10_line_59 rfl ⟨by omega, by omega⟩ ?_
        refine a_putI (n := 63) dX10_line_60 rfl fX10_191 rfl (s37 hz) (Or.inl rfl) ?_
        refine a_bipush (n := 65) dX10_line_63 rfl ⟨by decide, by decide⟩ (by decide) ?_
        refine a_aload_n (n := 66) dX10_line_65 rfl rfl ?_
        refine a_getI (n := 69) dX10_line_66 rfl fX10_210 (s37 hz) ?_
        try simp only [up2_eq, Nat.reduceEqDiff, Int.reduceEq, Int.reduceNeg, and_true, true_and, and_false, false_and, and_self, if_true, if_false, ite_true, ite_false, reduceIte, eq_self]
        refine a_imul (n := 70) dX10_line_69 rfl ⟨by omega, by omega⟩ ?_
        refine a_aload_n (n := 71) dX10_line_70 rfl rfl ?_
        refine a_getR (n := 74) dX10_line_71 rfl fX10_59 (s37 hz) (r37_10 hR) ?_
        refine a_aload_n (n := 75) dX10_line_74 rfl rfl ?_
        refine a_getI (n := 78) dX10_line_75 rfl fX10_210 (s37 hz) ?_
        try simp only [up2_eq, Nat.reduceEqDiff, Int.reduceEq, Int.reduceNeg, and_true, true_and, and_false, false_and, and_self, if_true, if_false, ite_true, ite_false, reduceIte, eq_self]
        refine a_iald (n := 79) dX10_line_78 rfl (s43 hz) (by omega) (by omega) ?_
        try simp only [up2_eq, Nat.reduceEqDiff, Int.reduceEq, Int.reduceNeg, and_true, true_and, and_false, false_and, and_self, if_true, if_false, ite_true, ite_false, reduceIte, eq_self]
        refine a_iadd (n := 80) dX10_line_79 rfl ⟨by omega, by omega⟩ ?_
        refine b_istore_n (n := 81) dX10_line_80 rfl (by decide) rfl ?_
        refine a_aload_n (n := 82) dX10_line_81 rfl rfl ?_
        refine a_getR (n := 85) dX10_line_82 rfl fX10_62 (s37 hz) (r37_11 hR) ?_
        refine a_iload_n (n := 86) dX10_line_85 rfl rfl ?_
        refine a_iload_n (n := 87) dX10_line_86 rfl rfl ?_
        refine a_zast (n := 88) dX10_line_87 rfl (s44 hz) (by omega) (by omega) (by omega) ?_
        refine a_aload_n (n := 89) dX10_line_88 rfl rfl ?_
        refine a_iconst (n := 90) dX10_line_89 rfl ⟨by decide, by decide⟩ ?_
        refine a_callV (M2 := mX10_takeWord) (n := 93) dX10_line_90 rfl (m_takeWord (d := d) (kd := kd) (k := 18) hz hR (by simp only [up2_eq, mEm, mOp, Nat.reduceEqDiff, Int.reduceEq, and_true, true_and, and_false, false_and, and_self, if_true, if_false, reduceIte]; omega) ((hT.up (by decide) (by decide)).up (by decide) (by decide)) (by simp only [up2_eq, mEm, mOp, Nat.reduceEqDiff, Int.reduceEq, and_true, true_and, and_false, false_and, and_self, if_true, if_false, reduceIte]; exact hf0) (by decide) (by simp only [up2_eq, mEm, mOp, Nat.reduceEqDiff, Int.reduceEq, and_true, true_and, and_false, false_and, and_self, if_true, if_false, reduceIte]; exact hB.w18)) kX10_takeWord lX10_225 iX10_takeWord eX10_takeWord (by decide) (by omega) (s37 hz) rfl (Nat.le_of_ble_eq_true rfl) (fun q90 z90 hr90 hi90 hl90 h90 => ?_)
        obtain ⟨e190, e290, e390, rfl, h90⟩ := h90
        obtain rfl := e190.symm
        obtain rfl := e290.symm
        obtain rfl := e390.symm
        rcases h90 with ⟨hk90, rfl⟩ | ⟨hk90, rfl⟩
        · simp only [up2_eq, mEm, mOp, Nat.reduceEqDiff, Int.reduceEq, and_true, true_and, and_false, false_and, and_self, if_true, if_false, reduceIte] at hk90 ⊢
          rw [if_pos hk90] at hrun
          show a_wp G _ _ _ _ [] _ _ _ _ _
          refine a_aload_n (n := 94) dX10_line_93 rfl rfl ?_
          refine a_getR (n := 97) dX10_line_94 rfl fX10_66 (s37 hz) (r37_12 hR) ?_
          refine a_iload_n (n := 98) dX10_line_97 rfl rfl ?_
          refine a_sipush (n := 101) dX10_line_98 rfl ⟨by decide, by decide⟩ (by decide) ?_
          refine a_aload_n (n := 102) dX10_line_101 rfl rfl ?_
          refine a_getI (n := 105) dX10_line_102 rfl fX10_210 (s37 hz) ?_
          try simp only [up2_eq, Nat.reduceEqDiff, Int.reduceEq, Int.reduceNeg, and_true, true_and, and_false, false_and, and_self, if_true, if_false, ite_true, ite_false, reduceIte, eq_self]
          refine a_imul (n := 106) dX10_line_105 rfl ⟨by omega, by omega⟩ ?_
          refine a_aload_n (n := 107) dX10_line_106 rfl rfl ?_
          refine a_getI (n := 110) dX10_line_107 rfl fX10_213 (s37 hz) ?_
          try simp only [up2_eq, Nat.reduceEqDiff, Int.reduceEq, Int.reduceNeg, and_true, true_and, and_false, false_and, and_self, if_true, if_false, ite_true, ite_false, reduceIte, eq_self]
          refine a_iadd (n := 111) dX10_line_110 rfl ⟨by omega, by omega⟩ ?_
          refine a_iast (n := 112) dX10_line_111 rfl (s45 hz) (by omega) (by omega) ?_
          refine a_aload_n (n := 113) dX10_line_112 rfl rfl ?_
          refine a_iconst (n := 114) dX10_line_113 rfl ⟨by decide, by decide⟩ ?_
          refine a_putI (n := 117) dX10_line_114 rfl fX10_228 rfl (s37 hz) (Or.inl rfl) ?_
          refine a_aload_n (n := 118) dX10_line_117 rfl rfl ?_
          refine a_callV (M2 := mX10_opens) (n := 121) dX10_line_118 rfl (m_opens (d := d + 2) hz hR (by simp only [up2_eq, mEm, mOp, Nat.reduceEqDiff, Int.reduceEq, and_true, true_and, and_false, false_and, and_self, if_true, if_false, reduceIte]; omega)) kX10_opens lX10_231 iX10_opens eX10_opens (by decide) (by omega) (s37 hz) rfl (Nat.le_of_ble_eq_true rfl) (fun q118 z118 hr118 hi118 hl118 h118 => ?_)
          obtain ⟨e1118, e2118, e3118, rfl, rfl⟩ := h118
          obtain rfl := e1118.symm
          obtain rfl := e2118.symm
          obtain rfl := e3118.symm
          show a_wp G _ _ _ _ [] _ _ _ _ _
          refine a_iconst (n := 122) dX10_line_121 rfl ⟨by decide, by decide⟩ ?_
          refine b_istore_n (n := 123) dX10_line_122 rfl (by decide) rfl ?_
          unfold ln2 ln1 at hrun
          rw [if_pos hb2] at hrun
          cases e : pRun kd pl nu n 0 (mOp (up2 (up2 (up2 (up2 (up2 hi 37 7 (hi 37 7 + 1)) 44 (16 * hi 37 16 + hi 43 (hi 37 16)) 1) 37 7 (hi 37 7 + 1 + 1)) 45 (16 * hi 37 16 + hi 43 (hi 37 16)) (660 * hi 37 16 + hi 37 17)) 37 18 0)) with
          | none => rw [e] at hrun; cases hrun
          | some hg4 =>
            rw [e] at hrun
            obtain rfl := Option.some.inj hrun
            have hT4 := ((((hT.up (b := 37) (i := 7) (v := hi 37 7 + 1) (by decide) (by decide)).up (b := 44) (i := 16 * hi 37 16 + hi 43 (hi 37 16)) (v := 1) (by decide) (by decide)).up (b := 37) (i := 7) (v := hi 37 7 + 1 + 1) (by decide) (by decide)).up (b := 45) (i := 16 * hi 37 16 + hi 43 (hi 37 16)) (v := 660 * hi 37 16 + hi 37 17) (by decide) (by decide)).up (b := 37) (i := 18) (v := 0) (by decide) (by decide)
            have hE := pRun_end (nx := hi 37 16) n 0 _ (by decide) (by simp only [up2_eq, mEm, mOp, Nat.reduceEqDiff, Int.reduceEq, and_true, true_and, and_false, false_and, and_self, if_true, if_false, reduceIte]) e
            have hn4 : hg4 37 16 = hi 37 16 := hE.2.n.trans (by simp only [up2_eq, mEm, mOp, Nat.reduceEqDiff, Int.reduceEq, and_true, true_and, and_false, false_and, and_self, if_true, if_false, reduceIte])
            have hl4 : hg4 43 (hi 37 16) = hi 43 (hi 37 16) := (hE.2 43 (hi 37 16) (by unfold pOut; omega)).trans (by simp only [up2_eq, mEm, mOp, Nat.reduceEqDiff, Int.reduceEq, and_true, true_and, and_false, false_and, and_self, if_true, if_false, reduceIte])
            refine ln_loop hz hR (n + 1) n (by omega) _ (by simp only [up2_eq, mEm, mOp, Nat.reduceEqDiff, Int.reduceEq, and_true, true_and, and_false, false_and, and_self, if_true, if_false, reduceIte]; exact hf0) hT4.op e ?_
            have hT5 := hE.2.tk hT4.op
            by_cases hf4 : hg4 37 8 = 0
            · exact ln_e hz hR hE.1.1 hE.1.2 (by omega) (by rw [hn4, hl4]; omega) hT5 hf4
            · exact ln_f hz hR hE.1.1 hE.1.2 (by omega) (by rw [hn4, hl4]; omega) hT5 hf4
        · simp only [up2_eq, mEm, mOp, Nat.reduceEqDiff, Int.reduceEq, and_true, true_and, and_false, false_and, and_self, if_true, if_false, reduceIte] at hk90 ⊢
          rw [if_neg hk90] at hrun
          show a_wp G _ _ _ _ [] _ _ _ _ _
          refine a_aload_n (n := 94) dX10_line_93 rfl rfl ?_
          refine a_getR (n := 97) dX10_line_94 rfl fX10_66 (s37 hz) (r37_12 hR) ?_
          refine a_iload_n (n := 98) dX10_line_97 rfl rfl ?_
          refine a_sipush (n := 101) dX10_line_98 rfl ⟨by decide, by decide⟩ (by decide) ?_
          refine a_aload_n (n := 102) dX10_line_101 rfl rfl ?_
          refine a_getI (n := 105) dX10_line_102 rfl fX10_210 (s37 hz) ?_
          try simp only [up2_eq, Nat.reduceEqDiff, Int.reduceEq, Int.reduceNeg, and_true, true_and, and_false, false_and, and_self, if_true, if_false, ite_true, ite_false, reduceIte, eq_self]
          refine a_imul (n := 106) dX10_line_105 rfl ⟨by omega, by omega⟩ ?_
          refine a_aload_n (n := 107) dX10_line_106 rfl rfl ?_
          refine a_getI (n := 110) dX10_line_107 rfl fX10_213 (s37 hz) ?_
          try simp only [up2_eq, Nat.reduceEqDiff, Int.reduceEq, Int.reduceNeg, and_true, true_and, and_false, false_and, and_self, if_true, if_false, ite_true, ite_false, reduceIte, eq_self]
          refine a_iadd (n := 111) dX10_line_110 rfl ⟨by omega, by omega⟩ ?_
          refine a_iast (n := 112) dX10_line_111 rfl (s45 hz) (by omega) (by omega) ?_
          refine a_aload_n (n := 113) dX10_line_112 rfl rfl ?_
          refine a_iconst (n := 114) dX10_line_113 rfl ⟨by decide, by decide⟩ ?_
          refine a_putI (n := 117) dX10_line_114 rfl fX10_228 rfl (s37 hz) (Or.inl rfl) ?_
          refine a_aload_n (n := 118) dX10_line_117 rfl rfl ?_
          refine a_callV (M2 := mX10_opens) (n := 121) dX10_line_118 rfl (m_opens (d := d + 2) hz hR (by simp only [up2_eq, mEm, mOp, Nat.reduceEqDiff, Int.reduceEq, and_true, true_and, and_false, false_and, and_self, if_true, if_false, reduceIte]; omega)) kX10_opens lX10_231 iX10_opens eX10_opens (by decide) (by omega) (s37 hz) rfl (Nat.le_of_ble_eq_true rfl) (fun q118 z118 hr118 hi118 hl118 h118 => ?_)
          obtain ⟨e1118, e2118, e3118, rfl, rfl⟩ := h118
          obtain rfl := e1118.symm
          obtain rfl := e2118.symm
          obtain rfl := e3118.symm
          show a_wp G _ _ _ _ [] _ _ _ _ _
          refine a_iconst (n := 122) dX10_line_121 rfl ⟨by decide, by decide⟩ ?_
          refine b_istore_n (n := 123) dX10_line_122 rfl (by decide) rfl ?_
          unfold ln2 ln1 at hrun
          rw [if_pos hb2] at hrun
          obtain rfl := Option.some.inj hrun
          have hT4 := ((((hT.up (b := 37) (i := 7) (v := hi 37 7 + 1) (by decide) (by decide)).up (b := 44) (i := 16 * hi 37 16 + hi 43 (hi 37 16)) (v := 1) (by decide) (by decide)).up (b := 37) (i := 8) (v := 1 + 16 * pl (hi 37 7 + 1)) (by decide) (by decide)).up (b := 45) (i := 16 * hi 37 16 + hi 43 (hi 37 16)) (v := 660 * hi 37 16 + hi 37 17) (by decide) (by decide)).up (b := 37) (i := 18) (v := 0) (by decide) (by decide)
          refine ln_skip hz hR (by simp only [up2_eq, mEm, mOp, Nat.reduceEqDiff, Int.reduceEq, and_true, true_and, and_false, false_and, and_self, if_true, if_false, reduceIte]; omega) ?_
          exact ln_f hz hR (by simp only [up2_eq, mEm, mOp, Nat.reduceEqDiff, Int.reduceEq, and_true, true_and, and_false, false_and, and_self, if_true, if_false, reduceIte]; omega) (by simp only [up2_eq, mEm, mOp, Nat.reduceEqDiff, Int.reduceEq, and_true, true_and, and_false, false_and, and_self, if_true, if_false, reduceIte]; omega) (by simp only [up2_eq, mEm, mOp, Nat.reduceEqDiff, Int.reduceEq, and_true, true_and, and_false, false_and, and_self, if_true, if_false, reduceIte]; omega) (by simp only [up2_eq, mEm, mOp, Nat.reduceEqDiff, Int.reduceEq, and_true, true_and, and_false, false_and, and_self, if_true, if_false, reduceIte]; omega) hT4.op (by simp only [up2_eq, mEm, mOp, Nat.reduceEqDiff, Int.reduceEq, and_true, true_and, and_false, false_and, and_self, if_true, if_false, reduceIte]; omega)
      · omega
    · rw [if_neg (by omega), if_pos (by omega)] at hrun
      refine a_aload_n (n := 41) dX10_line_40 rfl rfl ?_
      refine a_iconst (n := 42) dX10_line_41 rfl ⟨by decide, by decide⟩ ?_
      refine a_callV (M2 := mX10_wrong) (n := 45) dX10_line_42 rfl (m_wr (d := d + 2) hz hR (by decide) ⟨hg1.1, hg1.2⟩ hT hf0) kX10_wrong lX10_200 iX10_wrong eX10_wrong (by decide) (by omega) (s37 hz) rfl (Nat.le_of_ble_eq_true rfl) (fun q42 z42 hr42 hi42 hl42 h42 => ?_)
      obtain ⟨e142, e242, e342, rfl, rfl⟩ := h42
      obtain rfl := e142.symm
      obtain rfl := e242.symm
      obtain rfl := e342.symm
      show a_wp G _ _ _ _ [] _ _ _ _ _
      refine a_aload_n (n := 46) dX10_line_45 rfl rfl ?_
      refine a_getI (n := 49) dX10_line_46 rfl fX10_194 (s37 hz) ?_
      try simp only [up2_eq, Nat.reduceEqDiff, Int.reduceEq, Int.reduceNeg, and_true, true_and, and_false, false_and, and_self, if_true, if_false, ite_true, ite_false, reduceIte, eq_self]
      refine a_if_le (t := 53) (n := 52) dX10_line_49 rfl rfl (fun c49 => ?_) (fun c49 => ?_)
      · omega
      · refine a_return dX10_line_52 rfl ?_
        obtain rfl := Option.some.inj hrun
        exact ⟨rfl, rfl, rfl, rfl, rfl⟩
  · have hv2 : b2 = 0 := by omega
    subst hv2
    replace hb2 := isB_f hb2 rfl
    refine a_aload_n (n := 11) dX10_line_10 rfl rfl ?_
    refine a_iconst (n := 12) dX10_line_11 rfl ⟨by decide, by decide⟩ ?_
    refine a_callV (M2 := mX10_isWord) (n := 15) dX10_line_12 rfl (m_wdk (d := d + 2) (kd := kd) (k := 16) hz hR (by decide) hg1 hf0 hA.w16) kX10_isWord lX10_204 iX10_isWord eX10_isWord (by decide) (by omega) (s37 hz) rfl (Nat.le_of_ble_eq_true rfl) (fun q12 z12 hr12 hi12 hl12 h12 => ?_)
    obtain ⟨e112, e212, e312, e412, b12, rfl, hb12⟩ := h12
    obtain rfl := e112.symm
    obtain rfl := e212.symm
    obtain rfl := e312.symm
    obtain rfl := e412.symm
    show a_wp G _ _ _ _ (vI b12 :: _) _ _ _ _ _
    refine a_if_ne (t := 26) (n := 18) dX10_line_15 rfl rfl (fun c15 => ?_) (fun c15 => ?_)
    · replace hb12 := isB_t hb12 c15
      refine a_aload_n (n := 27) dX10_line_26 rfl rfl ?_
      refine a_getR (n := 30) dX10_line_27 rfl fX10_59 (s37 hz) (r37_10 hR) ?_
      refine a_aload_n (n := 31) dX10_line_30 rfl rfl ?_
      refine a_getI (n := 34) dX10_line_31 rfl fX10_210 (s37 hz) ?_
      refine a_iald (n := 35) dX10_line_34 rfl (s43 hz) (by omega) (by omega) ?_
      refine a_bipush (n := 37) dX10_line_35 rfl ⟨by decide, by decide⟩ (by decide) ?_
      refine a_icmp_ne (t := 45) (n := 40) dX10_line_37 rfl rfl (fun c37 => ?_) (fun c37 => ?_)
      · rw [if_neg (by omega), if_neg (by omega)] at hrun
        have hb1 : hi 37 7 + 1 ≤ 600 := by
          rcases Int.lt_or_eq_of_le hg1.2 with q | q
          · omega
          · rw [q, h6] at hb12; omega
        have hB := hT (hi 37 7 + 1) (by omega) hb1
        have hp1 := hB.pp
        refine a_aload_n (n := 46) dX10_line_45 rfl rfl ?_
        refine a_getI (n := 49) dX10_line_46 rfl fX10_194 (s37 hz) ?_
        refine a_if_le (t := 53) (n := 52) dX10_line_49 rfl rfl (fun c49 => ?_) (fun c49 => ?_)
        · refine a_aload_n (n := 54) dX10_line_53 rfl rfl ?_
          refine a_dup (n := 55) dX10_line_54 rfl rfl ?_
          refine a_getI (n := 58) dX10_line_55 rfl fX10_191 (s37 hz) ?_
          refine a_iconst (n := 59) dX10_line_58 rfl ⟨by decide, by decide⟩ ?_
          refine a_iadd (n := 60) dX10_line_59 rfl ⟨by omega, by omega⟩ ?_
          refine a_putI (n := 63) dX10_line_60 rfl fX10_191 rfl (s37 hz) (Or.inl rfl) ?_
          refine a_bipush (n := 65) dX10_line_63 rfl ⟨by decide, by decide⟩ (by decide) ?_
          refine a_aload_n (n := 66) dX10_line_65 rfl rfl ?_
          refine a_getI (n := 69) dX10_line_66 rfl fX10_210 (s37 hz) ?_
          try simp only [up2_eq, Nat.reduceEqDiff, Int.reduceEq, Int.reduceNeg, and_true, true_and, and_false, false_and, and_self, if_true, if_false, ite_true, ite_false, reduceIte, eq_self]
          refine a_imul (n := 70) dX10_line_69 rfl ⟨by omega, by omega⟩ ?_
          refine a_aload_n (n := 71) dX10_line_70 rfl rfl ?_
          refine a_getR (n := 74) dX10_line_71 rfl fX10_59 (s37 hz) (r37_10 hR) ?_
          refine a_aload_n (n := 75) dX10_line_74 rfl rfl ?_
          refine a_getI (n := 78) dX10_line_75 rfl fX10_210 (s37 hz) ?_
          try simp only [up2_eq, Nat.reduceEqDiff, Int.reduceEq, Int.reduceNeg, and_true, true_and, and_false, false_and, and_self, if_true, if_false, ite_true, ite_false, reduceIte, eq_self]
          refine a_iald (n := 79) dX10_line_78 rfl (s43 hz) (by omega) (by omega) ?_
          try simp only [up2_eq, Nat.reduceEqDiff, Int.reduceEq, Int.reduceNeg, and_true, true_and, and_false, false_and, and_self, if_true, if_false, ite_true, ite_false, reduceIte, eq_self]
          refine a_iadd (n := 80) dX10_line_79 rfl ⟨by omega, by omega⟩ ?_
          refine b_istore_n (n := 81) dX10_line_80 rfl (by decide) rfl ?_
          refine a_aload_n (n := 82) dX10_line_81 rfl rfl ?_
          refine a_getR (n := 85) dX10_line_82 rfl fX10_62 (s37 hz) (r37_11 hR) ?_
          refine a_iload_n (n := 86) dX10_line_85 rfl rfl ?_
          refine a_iload_n (n := 87) dX10_line_86 rfl rfl ?_
          refine a_zast (n := 88) dX10_line_87 rfl (s44 hz) (by omega) (by omega) (by omega) ?_
          refine a_aload_n (n := 89) dX10_line_88 rfl rfl ?_
          refine a_iconst (n := 90) dX10_line_89 rfl ⟨by decide, by decide⟩ ?_
          refine a_callV (M2 := mX10_takeWord) (n := 93) dX10_line_90 rfl (m_takeWord (d := d) (kd := kd) (k := 18) hz hR (by simp only [up2_eq, mEm, mOp, Nat.reduceEqDiff, Int.reduceEq, and_true, true_and, and_false, false_and, and_self, if_true, if_false, reduceIte]; omega) ((hT.up (by decide) (by decide)).up (by decide) (by decide)) (by simp only [up2_eq, mEm, mOp, Nat.reduceEqDiff, Int.reduceEq, and_true, true_and, and_false, false_and, and_self, if_true, if_false, reduceIte]; exact hf0) (by decide) (by simp only [up2_eq, mEm, mOp, Nat.reduceEqDiff, Int.reduceEq, and_true, true_and, and_false, false_and, and_self, if_true, if_false, reduceIte]; exact hB.w18)) kX10_takeWord lX10_225 iX10_takeWord eX10_takeWord (by decide) (by omega) (s37 hz) rfl (Nat.le_of_ble_eq_true rfl) (fun q90 z90 hr90 hi90 hl90 h90 => ?_)
          obtain ⟨e190, e290, e390, rfl, h90⟩ := h90
          obtain rfl := e190.symm
          obtain rfl := e290.symm
          obtain rfl := e390.symm
          rcases h90 with ⟨hk90, rfl⟩ | ⟨hk90, rfl⟩
          · simp only [up2_eq, mEm, mOp, Nat.reduceEqDiff, Int.reduceEq, and_true, true_and, and_false, false_and, and_self, if_true, if_false, reduceIte] at hk90 ⊢
            rw [if_pos hk90] at hrun
            show a_wp G _ _ _ _ [] _ _ _ _ _
            refine a_aload_n (n := 94) dX10_line_93 rfl rfl ?_
            refine a_getR (n := 97) dX10_line_94 rfl fX10_66 (s37 hz) (r37_12 hR) ?_
            refine a_iload_n (n := 98) dX10_line_97 rfl rfl ?_
            refine a_sipush (n := 101) dX10_line_98 rfl ⟨by decide, by decide⟩ (by decide) ?_
            refine a_aload_n (n := 102) dX10_line_101 rfl rfl ?_
            refine a_getI (n := 105) dX10_line_102 rfl fX10_210 (s37 hz) ?_
            try simp only [up2_eq, Nat.reduceEqDiff, Int.reduceEq, Int.reduceNeg, and_true, true_and, and_false, false_and, and_self, if_true, if_false, ite_true, ite_false, reduceIte, eq_self]
            refine a_imul (n := 106) dX10_line_105 rfl ⟨by omega, by omega⟩ ?_
            refine a_aload_n (n := 107) dX10_line_106 rfl rfl ?_
            refine a_getI (n := 110) dX10_line_107 rfl fX10_213 (s37 hz) ?_
            try simp only [up2_eq, Nat.reduceEqDiff, Int.reduceEq, Int.reduceNeg, and_true, true_and, and_false, false_and, and_self, if_true, if_false, ite_true, ite_false, reduceIte, eq_self]
            refine a_iadd (n := 111) dX10_line_110 rfl ⟨by omega, by omega⟩ ?_
            refine a_iast (n := 112) dX10_line_111 rfl (s45 hz) (by omega) (by omega) ?_
            refine a_aload_n (n := 113) dX10_line_112 rfl rfl ?_
            refine a_iconst (n := 114) dX10_line_113 rfl ⟨by decide, by decide⟩ ?_
            refine a_putI (n := 117) dX10_line_114 rfl fX10_228 rfl (s37 hz) (Or.inl rfl) ?_
            refine a_aload_n (n := 118) dX10_line_117 rfl rfl ?_
            refine a_callV (M2 := mX10_opens) (n := 121) dX10_line_118 rfl (m_opens (d := d + 2) hz hR (by simp only [up2_eq, mEm, mOp, Nat.reduceEqDiff, Int.reduceEq, and_true, true_and, and_false, false_and, and_self, if_true, if_false, reduceIte]; omega)) kX10_opens lX10_231 iX10_opens eX10_opens (by decide) (by omega) (s37 hz) rfl (Nat.le_of_ble_eq_true rfl) (fun q118 z118 hr118 hi118 hl118 h118 => ?_)
            obtain ⟨e1118, e2118, e3118, rfl, rfl⟩ := h118
            obtain rfl := e1118.symm
            obtain rfl := e2118.symm
            obtain rfl := e3118.symm
            show a_wp G _ _ _ _ [] _ _ _ _ _
            refine a_iconst (n := 122) dX10_line_121 rfl ⟨by decide, by decide⟩ ?_
            refine b_istore_n (n := 123) dX10_line_122 rfl (by decide) rfl ?_
            unfold ln2 ln1 at hrun
            rw [if_neg hb2] at hrun
            cases e : pRun kd pl nu n 0 (mOp (up2 (up2 (up2 (up2 (up2 hi 37 7 (hi 37 7 + 1)) 44 (16 * hi 37 16 + hi 43 (hi 37 16)) 0) 37 7 (hi 37 7 + 1 + 1)) 45 (16 * hi 37 16 + hi 43 (hi 37 16)) (660 * hi 37 16 + hi 37 17)) 37 18 0)) with
            | none => rw [e] at hrun; cases hrun
            | some hg4 =>
              rw [e] at hrun
              obtain rfl := Option.some.inj hrun
              have hT4 := ((((hT.up (b := 37) (i := 7) (v := hi 37 7 + 1) (by decide) (by decide)).up (b := 44) (i := 16 * hi 37 16 + hi 43 (hi 37 16)) (v := 0) (by decide) (by decide)).up (b := 37) (i := 7) (v := hi 37 7 + 1 + 1) (by decide) (by decide)).up (b := 45) (i := 16 * hi 37 16 + hi 43 (hi 37 16)) (v := 660 * hi 37 16 + hi 37 17) (by decide) (by decide)).up (b := 37) (i := 18) (v := 0) (by decide) (by decide)
              have hE := pRun_end (nx := hi 37 16) n 0 _ (by decide) (by simp only [up2_eq, mEm, mOp, Nat.reduceEqDiff, Int.reduceEq, and_true, true_and, and_false, false_and, and_self, if_true, if_false, reduceIte]) e
              have hn4 : hg4 37 16 = hi 37 16 := hE.2.n.trans (by simp only [up2_eq, mEm, mOp, Nat.reduceEqDiff, Int.reduceEq, and_true, true_and, and_false, false_and, and_self, if_true, if_false, reduceIte])
              have hl4 : hg4 43 (hi 37 16) = hi 43 (hi 37 16) := (hE.2 43 (hi 37 16) (by unfold pOut; omega)).trans (by simp only [up2_eq, mEm, mOp, Nat.reduceEqDiff, Int.reduceEq, and_true, true_and, and_false, false_and, and_self, if_true, if_false, reduceIte])
              refine ln_loop hz hR (n + 1) n (by omega) _ (by simp only [up2_eq, mEm, mOp, Nat.reduceEqDiff, Int.reduceEq, and_true, true_and, and_false, false_and, and_self, if_true, if_false, reduceIte]; exact hf0) hT4.op e ?_
              have hT5 := hE.2.tk hT4.op
              by_cases hf4 : hg4 37 8 = 0
              · exact ln_e hz hR hE.1.1 hE.1.2 (by omega) (by rw [hn4, hl4]; omega) hT5 hf4
              · exact ln_f hz hR hE.1.1 hE.1.2 (by omega) (by rw [hn4, hl4]; omega) hT5 hf4
          · simp only [up2_eq, mEm, mOp, Nat.reduceEqDiff, Int.reduceEq, and_true, true_and, and_false, false_and, and_self, if_true, if_false, reduceIte] at hk90 ⊢
            rw [if_neg hk90] at hrun
            show a_wp G _ _ _ _ [] _ _ _ _ _
            refine a_aload_n (n := 94) dX10_line_93 rfl rfl ?_
            refine a_getR (n := 97) dX10_line_94 rfl fX10_66 (s37 hz) (r37_12 hR) ?_
            refine a_iload_n (n := 98) dX10_line_97 rfl rfl ?_
            refine a_sipush (n := 101) dX10_line_98 rfl ⟨by decide, by decide⟩ (by decide) ?_
            refine a_aload_n (n := 102) dX10_line_101 rfl rfl ?_
            refine a_getI (n := 105) dX10_line_102 rfl fX10_210 (s37 hz) ?_
            try simp only [up2_eq, Nat.reduceEqDiff, Int.reduceEq, Int.reduceNeg, and_true, true_and, and_false, false_and, and_self, if_true, if_false, ite_true, ite_false, reduceIte, eq_self]
            refine a_imul (n := 106) dX10_line_105 rfl ⟨by omega, by omega⟩ ?_
            refine a_aload_n (n := 107) dX10_line_106 rfl rfl ?_
            refine a_getI (n := 110) dX10_line_107 rfl fX10_213 (s37 hz) ?_
            try simp only [up2_eq, Nat.reduceEqDiff, Int.reduceEq, Int.reduceNeg, and_true, true_and, and_false, false_and, and_self, if_true, if_false, ite_true, ite_false, reduceIte, eq_self]
            refine a_iadd (n := 111) dX10_line_110 rfl ⟨by omega, by omega⟩ ?_
            refine a_iast (n := 112) dX10_line_111 rfl (s45 hz) (by omega) (by omega) ?_
            refine a_aload_n (n := 113) dX10_line_112 rfl rfl ?_
            refine a_iconst (n := 114) dX10_line_113 rfl ⟨by decide, by decide⟩ ?_
            refine a_putI (n := 117) dX10_line_114 rfl fX10_228 rfl (s37 hz) (Or.inl rfl) ?_
            refine a_aload_n (n := 118) dX10_line_117 rfl rfl ?_
            refine a_callV (M2 := mX10_opens) (n := 121) dX10_line_118 rfl (m_opens (d := d + 2) hz hR (by simp only [up2_eq, mEm, mOp, Nat.reduceEqDiff, Int.reduceEq, and_true, true_and, and_false, false_and, and_self, if_true, if_false, reduceIte]; omega)) kX10_opens lX10_231 iX10_opens eX10_opens (by decide) (by omega) (s37 hz) rfl (Nat.le_of_ble_eq_true rfl) (fun q118 z118 hr118 hi118 hl118 h118 => ?_)
            obtain ⟨e1118, e2118, e3118, rfl, rfl⟩ := h118
            obtain rfl := e1118.symm
            obtain rfl := e2118.symm
            obtain rfl := e3118.symm
            show a_wp G _ _ _ _ [] _ _ _ _ _
            refine a_iconst (n := 122) dX10_line_121 rfl ⟨by decide, by decide⟩ ?_
            refine b_istore_n (n := 123) dX10_line_122 rfl (by decide) rfl ?_
            unfold ln2 ln1 at hrun
            rw [if_neg hb2] at hrun
            obtain rfl := Option.some.inj hrun
            have hT4 := ((((hT.up (b := 37) (i := 7) (v := hi 37 7 + 1) (by decide) (by decide)).up (b := 44) (i := 16 * hi 37 16 + hi 43 (hi 37 16)) (v := 0) (by decide) (by decide)).up (b := 37) (i := 8) (v := 1 + 16 * pl (hi 37 7 + 1)) (by decide) (by decide)).up (b := 45) (i := 16 * hi 37 16 + hi 43 (hi 37 16)) (v := 660 * hi 37 16 + hi 37 17) (by decide) (by decide)).up (b := 37) (i := 18) (v := 0) (by decide) (by decide)
            refine ln_skip hz hR (by simp only [up2_eq, mEm, mOp, Nat.reduceEqDiff, Int.reduceEq, and_true, true_and, and_false, false_and, and_self, if_true, if_false, reduceIte]; omega) ?_
            exact ln_f hz hR (by simp only [up2_eq, mEm, mOp, Nat.reduceEqDiff, Int.reduceEq, and_true, true_and, and_false, false_and, and_self, if_true, if_false, reduceIte]; omega) (by simp only [up2_eq, mEm, mOp, Nat.reduceEqDiff, Int.reduceEq, and_true, true_and, and_false, false_and, and_self, if_true, if_false, reduceIte]; omega) (by simp only [up2_eq, mEm, mOp, Nat.reduceEqDiff, Int.reduceEq, and_true, true_and, and_false, false_and, and_self, if_true, if_false, reduceIte]; omega) (by simp only [up2_eq, mEm, mOp, Nat.reduceEqDiff, Int.reduceEq, and_true, true_and, and_false, false_and, and_self, if_true, if_false, reduceIte]; omega) hT4.op (by simp only [up2_eq, mEm, mOp, Nat.reduceEqDiff, Int.reduceEq, and_true, true_and, and_false, false_and, and_self, if_true, if_false, reduceIte]; omega)
        · omega
      · rw [if_neg (by omega), if_pos (by omega)] at hrun
        refine a_aload_n (n := 41) dX10_line_40 rfl rfl ?_
        refine a_iconst (n := 42) dX10_line_41 rfl ⟨by decide, by decide⟩ ?_
        refine a_callV (M2 := mX10_wrong) (n := 45) dX10_line_42 rfl (m_wr (d := d + 2) hz hR (by decide) ⟨hg1.1, hg1.2⟩ hT hf0) kX10_wrong lX10_200 iX10_wrong eX10_wrong (by decide) (by omega) (s37 hz) rfl (Nat.le_of_ble_eq_true rfl) (fun q42 z42 hr42 hi42 hl42 h42 => ?_)
        obtain ⟨e142, e242, e342, rfl, rfl⟩ := h42
        obtain rfl := e142.symm
        obtain rfl := e242.symm
        obtain rfl := e342.symm
        show a_wp G _ _ _ _ [] _ _ _ _ _
        refine a_aload_n (n := 46) dX10_line_45 rfl rfl ?_
        refine a_getI (n := 49) dX10_line_46 rfl fX10_194 (s37 hz) ?_
        try simp only [up2_eq, Nat.reduceEqDiff, Int.reduceEq, Int.reduceNeg, and_true, true_and, and_false, false_and, and_self, if_true, if_false, ite_true, ite_false, reduceIte, eq_self]
        refine a_if_le (t := 53) (n := 52) dX10_line_49 rfl rfl (fun c49 => ?_) (fun c49 => ?_)
        · omega
        · refine a_return dX10_line_52 rfl ?_
          obtain rfl := Option.some.inj hrun
          exact ⟨rfl, rfl, rfl, rfl, rfl⟩
    · replace hb12 := isB_f hb12 (by omega)
      rw [if_pos (by omega)] at hrun
      refine a_aload_n (n := 19) dX10_line_18 rfl rfl ?_
      refine a_iconst (n := 20) dX10_line_19 rfl ⟨by decide, by decide⟩ ?_
      refine a_callV (M2 := mX10_wrong) (n := 23) dX10_line_20 rfl (m_wr (d := d + 2) hz hR (by decide) ⟨hg1.1, hg1.2⟩ hT hf0) kX10_wrong lX10_200 iX10_wrong eX10_wrong (by decide) (by omega) (s37 hz) rfl (Nat.le_of_ble_eq_true rfl) (fun q20 z20 hr20 hi20 hl20 h20 => ?_)
      obtain ⟨e120, e220, e320, rfl, rfl⟩ := h20
      obtain rfl := e120.symm
      obtain rfl := e220.symm
      obtain rfl := e320.symm
      show a_wp G _ _ _ _ [] _ _ _ _ _
      refine a_goto (t := 45) dX10_line_23 rfl ?_
      refine a_aload_n (n := 46) dX10_line_45 rfl rfl ?_
      refine a_getI (n := 49) dX10_line_46 rfl fX10_194 (s37 hz) ?_
      try simp only [up2_eq, Nat.reduceEqDiff, Int.reduceEq, Int.reduceNeg, and_true, true_and, and_false, false_and, and_self, if_true, if_false, ite_true, ite_false, reduceIte, eq_self]
      refine a_if_le (t := 53) (n := 52) dX10_line_49 rfl rfl (fun c49 => ?_) (fun c49 => ?_)
      · omega
      · refine a_return dX10_line_52 rfl ?_
        obtain rfl := Option.some.inj hrun
        exact ⟨rfl, rfl, rfl, rfl, rfl⟩
end M16
