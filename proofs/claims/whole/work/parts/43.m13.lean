section M13
variable {G : aG} {d : Nat} {z : aZ} {hr : aR} {hl : aI} {kd pl nu : Int → Int}
theorem b_l2i_eq {x : Int} (h : 0 ≤ x ∧ x ≤ 2000000000) : b_l2i x = x := by
  unfold b_l2i
  rw [Int64.toInt_toInt32, a_toJ ⟨by omega, by omega⟩]
  exact Int.bmod_eq_of_le (by omega) (by omega)
set_option maxRecDepth 100000 in
set_option maxHeartbeats 4000000 in
theorem m_part {hi : aI} (hz : stZ z) (hR : stR hr) (hg : pG hi) (hT : tkH kd pl nu hi hl) (hf : hi 37 8 = 0) : a_ct G mX10_part (d + 2) [vR 37] z hr hi hl (fun r z' hr' hi' hl' => z' = z ∧ hr' = hr ∧ hl' = hl ∧ ((kd (hi 37 7) > 8 ∧ r = some (vI 0) ∧ hi' = up2 hi 37 8 (1 + 16 * pl (hi 37 7))) ∨ (¬ kd (hi 37 7) > 8 ∧ hi 37 18 = 5 ∧ r = some (vI 0) ∧ hi' = up2 hi 37 8 (5 + 16 * pl (hi 37 7))) ∨ (kd (hi 37 7) = 8 ∧ ¬ hi 37 18 = 5 ∧ r = some (vI 1) ∧ hi' = mOp (up2 (up2 hi 37 7 (hi 37 7 + 1)) 37 18 (hi 37 18 + 1))) ∨ (kd (hi 37 7) < 8 ∧ ¬ hi 37 18 = 5 ∧ r = some (vI 0) ∧ hi' = up2 (mEm hi (if kd (hi 37 7) = 7 then 1 else 2) (if kd (hi 37 7) = 7 then nu (hi 37 7) else kd (hi 37 7))) 37 7 (hi 37 7 + 1)))) := by
  obtain ⟨⟨ha1, ha2⟩, ⟨hc1, hc2⟩, ⟨hd1, hd2⟩, hn1, hn2⟩ := hg
  have hA := hT (hi 37 7) ha1 ha2
  have hk0 := hA.k
  have hp0 := hA.pp
  refine a_ct_of rfl (Nat.le_of_ble_eq_true rfl) ?_
  refine a_aload_n (n := 1) dX10_part_0 rfl rfl ?_
  refine a_callV (M2 := mX10_partWord) (n := 4) dX10_part_1 rfl (m_partWord (d := d) (kd := kd) hz hR ⟨ha1, ha2⟩ hf hk0.1 hA.w) kX10_partWord lX10_248 iX10_partWord eX10_partWord (by decide) (by omega) (s37 hz) rfl (Nat.le_of_ble_eq_true rfl) (fun q1 z1 hr1 hi1 hl1 h1 => ?_)
  obtain ⟨e11, e21, e31, e41, w, rfl, hw⟩ := h1
  obtain rfl := e11.symm
  obtain rfl := e21.symm
  obtain rfl := e31.symm
  obtain rfl := e41.symm
  show a_wp G _ _ _ _ (vI w :: _) _ _ _ _ _
  refine b_istore_n (n := 5) dX10_part_4 rfl (by decide) rfl ?_
  refine a_aload_n (n := 6) dX10_part_5 rfl rfl ?_
  refine a_getI (n := 9) dX10_part_6 rfl fX10_194 (s37 hz) ?_
  refine a_if_ne (t := 46) (n := 12) dX10_part_9 rfl rfl (fun c9 => ?_) (fun c9 => ?_)
  · omega
  · refine a_aload_n (n := 13) dX10_part_12 rfl rfl ?_
    refine a_getR (n := 16) dX10_part_13 rfl fX10_24 (s37 hz) (r37_4 hR) ?_
    refine a_aload_n (n := 17) dX10_part_16 rfl rfl ?_
    refine a_getI (n := 20) dX10_part_17 rfl fX10_191 (s37 hz) ?_
    refine a_iald (n := 21) dX10_part_20 rfl (s39 hz) (by omega) (by omega) ?_
    refine a_iconst (n := 22) dX10_part_21 rfl ⟨by decide, by decide⟩ ?_
    refine a_icmp_eq (t := 46) (n := 25) dX10_part_22 rfl rfl (fun c22 => ?_) (fun c22 => ?_)
    · replace c22 := hA.s7.mp c22
      refine a_aload_n (n := 47) dX10_part_46 rfl rfl ?_
      refine a_getI (n := 50) dX10_part_47 rfl fX10_228 (s37 hz) ?_
      refine a_iconst (n := 51) dX10_part_50 rfl ⟨by decide, by decide⟩ ?_
      refine a_icmp_ne (t := 59) (n := 54) dX10_part_51 rfl rfl (fun c51 => ?_) (fun c51 => ?_)
      · refine a_aload_n (n := 60) dX10_part_59 rfl rfl ?_
        refine a_getI (n := 63) dX10_part_60 rfl fX10_194 (s37 hz) ?_
        refine a_if_le (t := 68) (n := 66) dX10_part_63 rfl rfl (fun c63 => ?_) (fun c63 => ?_)
        · refine a_aload_n (n := 69) dX10_part_68 rfl rfl ?_
          refine a_bipush (n := 71) dX10_part_69 rfl ⟨by decide, by decide⟩ (by decide) ?_
          refine a_callV (M2 := mX10_hasSign) (n := 74) dX10_part_71 rfl (m_hsk (d := d) (kd := kd) (k := 8) hz hR ⟨ha1, ha2⟩ hf hA.s8) kX10_hasSign lX10_252 iX10_hasSign eX10_hasSign (by decide) (by omega) (s37 hz) rfl (Nat.le_of_ble_eq_true rfl) (fun q71 z71 hr71 hi71 hl71 h71 => ?_)
          obtain ⟨e171, e271, e371, h71⟩ := h71
          obtain rfl := e171.symm
          obtain rfl := e271.symm
          obtain rfl := e371.symm
          rcases h71 with ⟨hk71, rfl, rfl⟩ | ⟨hk71, rfl, e471⟩
          · show a_wp G _ _ _ _ (vI 1 :: _) _ _ _ _ _
            refine a_if_eq (t := 93) (n := 77) dX10_part_74 rfl rfl (fun c74 => ?_) (fun c74 => ?_)
            · omega
            · refine a_aload_n (n := 78) dX10_part_77 rfl rfl ?_
              refine a_dup (n := 79) dX10_part_78 rfl rfl ?_
              refine a_getI (n := 82) dX10_part_79 rfl fX10_228 (s37 hz) ?_
              try simp only [up2_eq, Nat.reduceEqDiff, Int.reduceEq, Int.reduceNeg, and_true, true_and, and_false, false_and, and_self, if_true, if_false, ite_true, ite_false, reduceIte, eq_self]
              refine a_iconst (n := 83) dX10_part_82 rfl ⟨by decide, by decide⟩ ?_
              refine a_iadd (n := 84) dX10_part_83 rfl ⟨by omega, by omega⟩ ?_
              refine a_putI (n := 87) dX10_part_84 rfl fX10_228 rfl (s37 hz) (Or.inl rfl) ?_
              refine a_aload_n (n := 88) dX10_part_87 rfl rfl ?_
              refine a_callV (M2 := mX10_opens) (n := 91) dX10_part_88 rfl (m_opens (d := d) hz hR (by simp only [up2_eq, Nat.reduceEqDiff, Int.reduceEq, and_true, true_and, and_self, if_true, if_false, reduceIte]; omega)) kX10_opens lX10_231 iX10_opens eX10_opens (by decide) (by omega) (s37 hz) rfl (Nat.le_of_ble_eq_true rfl) (fun q88 z88 hr88 hi88 hl88 h88 => ?_)
              obtain ⟨e188, e288, e388, rfl, rfl⟩ := h88
              obtain rfl := e188.symm
              obtain rfl := e288.symm
              obtain rfl := e388.symm
              show a_wp G _ _ _ _ [] _ _ _ _ _
              refine a_iconst (n := 92) dX10_part_91 rfl ⟨by decide, by decide⟩ ?_
              refine a_zreturn dX10_part_92 rfl (by omega) ?_
              exact ⟨rfl, rfl, rfl, Or.inr (Or.inr (Or.inl ⟨by omega, by omega, rfl, rfl⟩))⟩
          · obtain rfl := e471.symm
            show a_wp G _ _ _ _ (vI 0 :: _) _ _ _ _ _
            refine a_if_eq (t := 93) (n := 77) dX10_part_74 rfl rfl (fun c74 => ?_) (fun c74 => ?_)
            · refine a_aload_n (n := 94) dX10_part_93 rfl rfl ?_
              refine a_iload_n (n := 95) dX10_part_94 rfl rfl ?_
              refine a_if_ge (t := 102) (n := 98) dX10_part_95 rfl rfl (fun c95 => ?_) (fun c95 => ?_)
              · refine a_iconst (n := 103) dX10_part_102 rfl ⟨by decide, by decide⟩ ?_
                refine a_iload_n (n := 104) dX10_part_103 rfl rfl ?_
                refine a_if_ge (t := 120) (n := 107) dX10_part_104 rfl rfl (fun c104 => ?_) (fun c104 => ?_)
                · refine a_iload_n (n := 121) dX10_part_120 rfl rfl ?_
                  refine a_callV (M2 := mX10_emit) (n := 124) dX10_part_121 rfl (m_emit (d := d) hz hR ⟨by omega, by omega⟩ ⟨by omega, by omega⟩) kX10_emit lX10_241 iX10_emit eX10_emit (by decide) (by omega) (s37 hz) rfl (Nat.le_of_ble_eq_true rfl) (fun q121 z121 hr121 hi121 hl121 h121 => ?_)
                  obtain ⟨e1121, e2121, e3121, rfl, rfl⟩ := h121
                  obtain rfl := e1121.symm
                  obtain rfl := e2121.symm
                  obtain rfl := e3121.symm
                  show a_wp G _ _ _ _ [] _ _ _ _ _
                  refine a_aload_n (n := 125) dX10_part_124 rfl rfl ?_
                  refine a_dup (n := 126) dX10_part_125 rfl rfl ?_
                  refine a_getI (n := 129) dX10_part_126 rfl fX10_191 (s37 hz) ?_
                  try simp only [up2_eq, Nat.reduceEqDiff, Int.reduceEq, Int.reduceNeg, and_true, true_and, and_false, false_and, and_self, if_true, if_false, ite_true, ite_false, reduceIte, eq_self]
                  refine a_iconst (n := 130) dX10_part_129 rfl ⟨by decide, by decide⟩ ?_
                  refine a_iadd (n := 131) dX10_part_130 rfl ⟨by omega, by omega⟩ ?_
                  refine a_putI (n := 134) dX10_part_131 rfl fX10_191 rfl (s37 hz) (Or.inl rfl) ?_
                  refine a_iconst (n := 135) dX10_part_134 rfl ⟨by decide, by decide⟩ ?_
                  refine a_zreturn dX10_part_135 rfl (by omega) ?_
                  refine ⟨rfl, rfl, rfl, Or.inr (Or.inr (Or.inr ⟨by omega, by omega, rfl, ?_⟩))⟩
                  have e7 : ¬ kd (hi 37 7) = 7 := by omega
                  have ew : w = kd (hi 37 7) := by omega
                  rw [if_neg e7, if_neg e7, ← ew]
                  rfl
                · omega
              · refine a_iconst (n := 99) dX10_part_98 rfl ⟨by decide, by decide⟩ ?_
                refine a_goto (t := 103) dX10_part_99 rfl ?_
                refine a_iload_n (n := 104) dX10_part_103 rfl rfl ?_
                refine a_if_ge (t := 120) (n := 107) dX10_part_104 rfl rfl (fun c104 => ?_) (fun c104 => ?_)
                · omega
                · refine a_aload_n (n := 108) dX10_part_107 rfl rfl ?_
                  refine a_getR (n := 111) dX10_part_108 rfl fX10_30 (s37 hz) (r37_6 hR) ?_
                  refine a_aload_n (n := 112) dX10_part_111 rfl rfl ?_
                  refine a_getI (n := 115) dX10_part_112 rfl fX10_191 (s37 hz) ?_
                  try simp only [up2_eq, Nat.reduceEqDiff, Int.reduceEq, Int.reduceNeg, and_true, true_and, and_false, false_and, and_self, if_true, if_false, ite_true, ite_false, reduceIte, eq_self]
                  refine a_lald (n := 116) dX10_part_115 rfl (s41 hz) (by omega) (by omega) ?_
                  try simp only [up2_eq, Nat.reduceEqDiff, Int.reduceEq, Int.reduceNeg, and_true, true_and, and_false, false_and, and_self, if_true, if_false, ite_true, ite_false, reduceIte, eq_self]
                  refine a_l2i (n := 117) dX10_part_116 rfl ?_
                  refine a_goto (t := 121) dX10_part_117 rfl ?_
                  refine a_callV (M2 := mX10_emit) (n := 124) dX10_part_121 rfl (m_emit (d := d) hz hR ⟨by omega, by omega⟩ ⟨by omega, by omega⟩) kX10_emit lX10_241 iX10_emit eX10_emit (by decide) (by omega) (s37 hz) rfl (Nat.le_of_ble_eq_true rfl) (fun q121 z121 hr121 hi121 hl121 h121 => ?_)
                  obtain ⟨e1121, e2121, e3121, rfl, rfl⟩ := h121
                  obtain rfl := e1121.symm
                  obtain rfl := e2121.symm
                  obtain rfl := e3121.symm
                  show a_wp G _ _ _ _ [] _ _ _ _ _
                  refine a_aload_n (n := 125) dX10_part_124 rfl rfl ?_
                  refine a_dup (n := 126) dX10_part_125 rfl rfl ?_
                  refine a_getI (n := 129) dX10_part_126 rfl fX10_191 (s37 hz) ?_
                  try simp only [up2_eq, Nat.reduceEqDiff, Int.reduceEq, Int.reduceNeg, and_true, true_and, and_false, false_and, and_self, if_true, if_false, ite_true, ite_false, reduceIte, eq_self]
                  refine a_iconst (n := 130) dX10_part_129 rfl ⟨by decide, by decide⟩ ?_
                  refine a_iadd (n := 131) dX10_part_130 rfl ⟨by omega, by omega⟩ ?_
                  refine a_putI (n := 134) dX10_part_131 rfl fX10_191 rfl (s37 hz) (Or.inl rfl) ?_
                  refine a_iconst (n := 135) dX10_part_134 rfl ⟨by decide, by decide⟩ ?_
                  refine a_zreturn dX10_part_135 rfl (by omega) ?_
                  refine ⟨rfl, rfl, rfl, Or.inr (Or.inr (Or.inr ⟨by omega, by omega, rfl, ?_⟩))⟩
                  have e7 : kd (hi 37 7) = 7 := by omega
                  have e8 := hA.n e7
                  rw [if_pos e7, if_pos e7, ← e8.1, b_l2i_eq (x := hl 41 (hi 37 7)) ⟨by omega, by omega⟩]
                  rfl
            · omega
        · omega
      · refine a_aload_n (n := 55) dX10_part_54 rfl rfl ?_
        refine a_iconst (n := 56) dX10_part_55 rfl ⟨by decide, by decide⟩ ?_
        refine a_callV (M2 := mX10_wrong) (n := 59) dX10_part_56 rfl (m_wr (d := d) hz hR (by decide) ⟨ha1, ha2⟩ hT hf) kX10_wrong lX10_200 iX10_wrong eX10_wrong (by decide) (by omega) (s37 hz) rfl (Nat.le_of_ble_eq_true rfl) (fun q56 z56 hr56 hi56 hl56 h56 => ?_)
        obtain ⟨e156, e256, e356, rfl, rfl⟩ := h56
        obtain rfl := e156.symm
        obtain rfl := e256.symm
        obtain rfl := e356.symm
        show a_wp G _ _ _ _ [] _ _ _ _ _
        refine a_aload_n (n := 60) dX10_part_59 rfl rfl ?_
        refine a_getI (n := 63) dX10_part_60 rfl fX10_194 (s37 hz) ?_
        try simp only [up2_eq, Nat.reduceEqDiff, Int.reduceEq, Int.reduceNeg, and_true, true_and, and_false, false_and, and_self, if_true, if_false, ite_true, ite_false, reduceIte, eq_self]
        refine a_if_le (t := 68) (n := 66) dX10_part_63 rfl rfl (fun c63 => ?_) (fun c63 => ?_)
        · omega
        · refine a_iconst (n := 67) dX10_part_66 rfl ⟨by decide, by decide⟩ ?_
          refine a_zreturn dX10_part_67 rfl (by omega) ?_
          exact ⟨rfl, rfl, rfl, Or.inr (Or.inl ⟨by omega, by omega, rfl, rfl⟩)⟩
    · replace c22 : ¬ kd (hi 37 7) = 7 := fun e => c22 (hA.s7.mpr e)
      refine a_aload_n (n := 26) dX10_part_25 rfl rfl ?_
      refine a_bipush (n := 28) dX10_part_26 rfl ⟨by decide, by decide⟩ (by decide) ?_
      refine a_callV (M2 := mX10_isSign) (n := 31) dX10_part_28 rfl (m_sgk (d := d) (kd := kd) (k := 8) hz hR ⟨ha1, ha2⟩ hf hA.s8) kX10_isSign lX10_197 iX10_isSign eX10_isSign (by decide) (by omega) (s37 hz) rfl (Nat.le_of_ble_eq_true rfl) (fun q28 z28 hr28 hi28 hl28 h28 => ?_)
      obtain ⟨e128, e228, e328, e428, b28, rfl, hb28⟩ := h28
      obtain rfl := e128.symm
      obtain rfl := e228.symm
      obtain rfl := e328.symm
      obtain rfl := e428.symm
      show a_wp G _ _ _ _ (vI b28 :: _) _ _ _ _ _
      refine a_if_ne (t := 46) (n := 34) dX10_part_31 rfl rfl (fun c31 => ?_) (fun c31 => ?_)
      · replace hb28 := isB_t hb28 c31
        refine a_aload_n (n := 47) dX10_part_46 rfl rfl ?_
        refine a_getI (n := 50) dX10_part_47 rfl fX10_228 (s37 hz) ?_
        refine a_iconst (n := 51) dX10_part_50 rfl ⟨by decide, by decide⟩ ?_
        refine a_icmp_ne (t := 59) (n := 54) dX10_part_51 rfl rfl (fun c51 => ?_) (fun c51 => ?_)
        · refine a_aload_n (n := 60) dX10_part_59 rfl rfl ?_
          refine a_getI (n := 63) dX10_part_60 rfl fX10_194 (s37 hz) ?_
          refine a_if_le (t := 68) (n := 66) dX10_part_63 rfl rfl (fun c63 => ?_) (fun c63 => ?_)
          · refine a_aload_n (n := 69) dX10_part_68 rfl rfl ?_
            refine a_bipush (n := 71) dX10_part_69 rfl ⟨by decide, by decide⟩ (by decide) ?_
            refine a_callV (M2 := mX10_hasSign) (n := 74) dX10_part_71 rfl (m_hsk (d := d) (kd := kd) (k := 8) hz hR ⟨ha1, ha2⟩ hf hA.s8) kX10_hasSign lX10_252 iX10_hasSign eX10_hasSign (by decide) (by omega) (s37 hz) rfl (Nat.le_of_ble_eq_true rfl) (fun q71 z71 hr71 hi71 hl71 h71 => ?_)
            obtain ⟨e171, e271, e371, h71⟩ := h71
            obtain rfl := e171.symm
            obtain rfl := e271.symm
            obtain rfl := e371.symm
            rcases h71 with ⟨hk71, rfl, rfl⟩ | ⟨hk71, rfl, e471⟩
            · show a_wp G _ _ _ _ (vI 1 :: _) _ _ _ _ _
              refine a_if_eq (t := 93) (n := 77) dX10_part_74 rfl rfl (fun c74 => ?_) (fun c74 => ?_)
              · omega
              · refine a_aload_n (n := 78) dX10_part_77 rfl rfl ?_
                refine a_dup (n := 79) dX10_part_78 rfl rfl ?_
                refine a_getI (n := 82) dX10_part_79 rfl fX10_228 (s37 hz) ?_
                try simp only [up2_eq, Nat.reduceEqDiff, Int.reduceEq, Int.reduceNeg, and_true, true_and, and_false, false_and, and_self, if_true, if_false, ite_true, ite_false, reduceIte, eq_self]
                refine a_iconst (n := 83) dX10_part_82 rfl ⟨by decide, by decide⟩ ?_
                refine a_iadd (n := 84) dX10_part_83 rfl ⟨by omega, by omega⟩ ?_
                refine a_putI (n := 87) dX10_part_84 rfl fX10_228 rfl (s37 hz) (Or.inl rfl) ?_
                refine a_aload_n (n := 88) dX10_part_87 rfl rfl ?_
                refine a_callV (M2 := mX10_opens) (n := 91) dX10_part_88 rfl (m_opens (d := d) hz hR (by simp only [up2_eq, Nat.reduceEqDiff, Int.reduceEq, and_true, true_and, and_self, if_true, if_false, reduceIte]; omega)) kX10_opens lX10_231 iX10_opens eX10_opens (by decide) (by omega) (s37 hz) rfl (Nat.le_of_ble_eq_true rfl) (fun q88 z88 hr88 hi88 hl88 h88 => ?_)
                obtain ⟨e188, e288, e388, rfl, rfl⟩ := h88
                obtain rfl := e188.symm
                obtain rfl := e288.symm
                obtain rfl := e388.symm
                show a_wp G _ _ _ _ [] _ _ _ _ _
                refine a_iconst (n := 92) dX10_part_91 rfl ⟨by decide, by decide⟩ ?_
                refine a_zreturn dX10_part_92 rfl (by omega) ?_
                exact ⟨rfl, rfl, rfl, Or.inr (Or.inr (Or.inl ⟨by omega, by omega, rfl, rfl⟩))⟩
            · obtain rfl := e471.symm
              show a_wp G _ _ _ _ (vI 0 :: _) _ _ _ _ _
              refine a_if_eq (t := 93) (n := 77) dX10_part_74 rfl rfl (fun c74 => ?_) (fun c74 => ?_)
              · refine a_aload_n (n := 94) dX10_part_93 rfl rfl ?_
                refine a_iload_n (n := 95) dX10_part_94 rfl rfl ?_
                refine a_if_ge (t := 102) (n := 98) dX10_part_95 rfl rfl (fun c95 => ?_) (fun c95 => ?_)
                · refine a_iconst (n := 103) dX10_part_102 rfl ⟨by decide, by decide⟩ ?_
                  refine a_iload_n (n := 104) dX10_part_103 rfl rfl ?_
                  refine a_if_ge (t := 120) (n := 107) dX10_part_104 rfl rfl (fun c104 => ?_) (fun c104 => ?_)
                  · refine a_iload_n (n := 121) dX10_part_120 rfl rfl ?_
                    refine a_callV (M2 := mX10_emit) (n := 124) dX10_part_121 rfl (m_emit (d := d) hz hR ⟨by omega, by omega⟩ ⟨by omega, by omega⟩) kX10_emit lX10_241 iX10_emit eX10_emit (by decide) (by omega) (s37 hz) rfl (Nat.le_of_ble_eq_true rfl) (fun q121 z121 hr121 hi121 hl121 h121 => ?_)
                    obtain ⟨e1121, e2121, e3121, rfl, rfl⟩ := h121
                    obtain rfl := e1121.symm
                    obtain rfl := e2121.symm
                    obtain rfl := e3121.symm
                    show a_wp G _ _ _ _ [] _ _ _ _ _
                    refine a_aload_n (n := 125) dX10_part_124 rfl rfl ?_
                    refine a_dup (n := 126) dX10_part_125 rfl rfl ?_
                    refine a_getI (n := 129) dX10_part_126 rfl fX10_191 (s37 hz) ?_
                    try simp only [up2_eq, Nat.reduceEqDiff, Int.reduceEq, Int.reduceNeg, and_true, true_and, and_false, false_and, and_self, if_true, if_false, ite_true, ite_false, reduceIte, eq_self]
                    refine a_iconst (n := 130) dX10_part_129 rfl ⟨by decide, by decide⟩ ?_
                    refine a_iadd (n := 131) dX10_part_130 rfl ⟨by omega, by omega⟩ ?_
                    refine a_putI (n := 134) dX10_part_131 rfl fX10_191 rfl (s37 hz) (Or.inl rfl) ?_
                    refine a_iconst (n := 135) dX10_part_134 rfl ⟨by decide, by decide⟩ ?_
                    refine a_zreturn dX10_part_135 rfl (by omega) ?_
                    refine ⟨rfl, rfl, rfl, Or.inr (Or.inr (Or.inr ⟨by omega, by omega, rfl, ?_⟩))⟩
                    have e7 : ¬ kd (hi 37 7) = 7 := by omega
                    have ew : w = kd (hi 37 7) := by omega
                    rw [if_neg e7, if_neg e7, ← ew]
                    rfl
                  · omega
                · refine a_iconst (n := 99) dX10_part_98 rfl ⟨by decide, by decide⟩ ?_
                  refine a_goto (t := 103) dX10_part_99 rfl ?_
                  refine a_iload_n (n := 104) dX10_part_103 rfl rfl ?_
                  refine a_if_ge (t := 120) (n := 107) dX10_part_104 rfl rfl (fun c104 => ?_) (fun c104 => ?_)
                  · omega
                  · refine a_aload_n (n := 108) dX10_part_107 rfl rfl ?_
                    refine a_getR (n := 111) dX10_part_108 rfl fX10_30 (s37 hz) (r37_6 hR) ?_
                    refine a_aload_n (n := 112) dX10_part_111 rfl rfl ?_
                    refine a_getI (n := 115) dX10_part_112 rfl fX10_191 (s37 hz) ?_
                    try simp only [up2_eq, Nat.reduceEqDiff, Int.reduceEq, Int.reduceNeg, and_true, true_and, and_false, false_and, and_self, if_true, if_false, ite_true, ite_false, reduceIte, eq_self]
                    refine a_lald (n := 116) dX10_part_115 rfl (s41 hz) (by omega) (by omega) ?_
                    try simp only [up2_eq, Nat.reduceEqDiff, Int.reduceEq, Int.reduceNeg, and_true, true_and, and_false, false_and, and_self, if_true, if_false, ite_true, ite_false, reduceIte, eq_self]
                    refine a_l2i (n := 117) dX10_part_116 rfl ?_
                    refine a_goto (t := 121) dX10_part_117 rfl ?_
                    refine a_callV (M2 := mX10_emit) (n := 124) dX10_part_121 rfl (m_emit (d := d) hz hR ⟨by omega, by omega⟩ ⟨by omega, by omega⟩) kX10_emit lX10_241 iX10_emit eX10_emit (by decide) (by omega) (s37 hz) rfl (Nat.le_of_ble_eq_true rfl) (fun q121 z121 hr121 hi121 hl121 h121 => ?_)
                    obtain ⟨e1121, e2121, e3121, rfl, rfl⟩ := h121
                    obtain rfl := e1121.symm
                    obtain rfl := e2121.symm
                    obtain rfl := e3121.symm
                    show a_wp G _ _ _ _ [] _ _ _ _ _
                    refine a_aload_n (n := 125) dX10_part_124 rfl rfl ?_
                    refine a_dup (n := 126) dX10_part_125 rfl rfl ?_
                    refine a_getI (n := 129) dX10_part_126 rfl fX10_191 (s37 hz) ?_
                    try simp only [up2_eq, Nat.reduceEqDiff, Int.reduceEq, Int.reduceNeg, and_true, true_and, and_false, false_and, and_self, if_true, if_false, ite_true, ite_false, reduceIte, eq_self]
                    refine a_iconst (n := 130) dX10_part_129 rfl ⟨by decide, by decide⟩ ?_
                    refine a_iadd (n := 131) dX10_part_130 rfl ⟨by omega, by omega⟩ ?_
                    refine a_putI (n := 134) dX10_part_131 rfl fX10_191 rfl (s37 hz) (Or.inl rfl) ?_
                    refine a_iconst (n := 135) dX10_part_134 rfl ⟨by decide, by decide⟩ ?_
                    refine a_zreturn dX10_part_135 rfl (by omega) ?_
                    refine ⟨rfl, rfl, rfl, Or.inr (Or.inr (Or.inr ⟨by omega, by omega, rfl, ?_⟩))⟩
                    have e7 : kd (hi 37 7) = 7 := by omega
                    have e8 := hA.n e7
                    rw [if_pos e7, if_pos e7, ← e8.1, b_l2i_eq (x := hl 41 (hi 37 7)) ⟨by omega, by omega⟩]
                    rfl
              · omega
          · omega
        · refine a_aload_n (n := 55) dX10_part_54 rfl rfl ?_
          refine a_iconst (n := 56) dX10_part_55 rfl ⟨by decide, by decide⟩ ?_
          refine a_callV (M2 := mX10_wrong) (n := 59) dX10_part_56 rfl (m_wr (d := d) hz hR (by decide) ⟨ha1, ha2⟩ hT hf) kX10_wrong lX10_200 iX10_wrong eX10_wrong (by decide) (by omega) (s37 hz) rfl (Nat.le_of_ble_eq_true rfl) (fun q56 z56 hr56 hi56 hl56 h56 => ?_)
          obtain ⟨e156, e256, e356, rfl, rfl⟩ := h56
          obtain rfl := e156.symm
          obtain rfl := e256.symm
          obtain rfl := e356.symm
          show a_wp G _ _ _ _ [] _ _ _ _ _
          refine a_aload_n (n := 60) dX10_part_59 rfl rfl ?_
          refine a_getI (n := 63) dX10_part_60 rfl fX10_194 (s37 hz) ?_
          try simp only [up2_eq, Nat.reduceEqDiff, Int.reduceEq, Int.reduceNeg, and_true, true_and, and_false, false_and, and_self, if_true, if_false, ite_true, ite_false, reduceIte, eq_self]
          refine a_if_le (t := 68) (n := 66) dX10_part_63 rfl rfl (fun c63 => ?_) (fun c63 => ?_)
          · omega
          · refine a_iconst (n := 67) dX10_part_66 rfl ⟨by decide, by decide⟩ ?_
            refine a_zreturn dX10_part_67 rfl (by omega) ?_
            exact ⟨rfl, rfl, rfl, Or.inr (Or.inl ⟨by omega, by omega, rfl, rfl⟩)⟩
      · replace hb28 := isB_f hb28 (by omega)
        refine a_iload_n (n := 35) dX10_part_34 rfl rfl ?_
        refine a_if_ge (t := 46) (n := 38) dX10_part_35 rfl rfl (fun c35 => ?_) (fun c35 => ?_)
        · refine a_aload_n (n := 47) dX10_part_46 rfl rfl ?_
          refine a_getI (n := 50) dX10_part_47 rfl fX10_228 (s37 hz) ?_
          refine a_iconst (n := 51) dX10_part_50 rfl ⟨by decide, by decide⟩ ?_
          refine a_icmp_ne (t := 59) (n := 54) dX10_part_51 rfl rfl (fun c51 => ?_) (fun c51 => ?_)
          · refine a_aload_n (n := 60) dX10_part_59 rfl rfl ?_
            refine a_getI (n := 63) dX10_part_60 rfl fX10_194 (s37 hz) ?_
            refine a_if_le (t := 68) (n := 66) dX10_part_63 rfl rfl (fun c63 => ?_) (fun c63 => ?_)
            · refine a_aload_n (n := 69) dX10_part_68 rfl rfl ?_
              refine a_bipush (n := 71) dX10_part_69 rfl ⟨by decide, by decide⟩ (by decide) ?_
              refine a_callV (M2 := mX10_hasSign) (n := 74) dX10_part_71 rfl (m_hsk (d := d) (kd := kd) (k := 8) hz hR ⟨ha1, ha2⟩ hf hA.s8) kX10_hasSign lX10_252 iX10_hasSign eX10_hasSign (by decide) (by omega) (s37 hz) rfl (Nat.le_of_ble_eq_true rfl) (fun q71 z71 hr71 hi71 hl71 h71 => ?_)
              obtain ⟨e171, e271, e371, h71⟩ := h71
              obtain rfl := e171.symm
              obtain rfl := e271.symm
              obtain rfl := e371.symm
              rcases h71 with ⟨hk71, rfl, rfl⟩ | ⟨hk71, rfl, e471⟩
              · show a_wp G _ _ _ _ (vI 1 :: _) _ _ _ _ _
                refine a_if_eq (t := 93) (n := 77) dX10_part_74 rfl rfl (fun c74 => ?_) (fun c74 => ?_)
                · omega
                · refine a_aload_n (n := 78) dX10_part_77 rfl rfl ?_
                  refine a_dup (n := 79) dX10_part_78 rfl rfl ?_
                  refine a_getI (n := 82) dX10_part_79 rfl fX10_228 (s37 hz) ?_
                  try simp only [up2_eq, Nat.reduceEqDiff, Int.reduceEq, Int.reduceNeg, and_true, true_and, and_false, false_and, and_self, if_true, if_false, ite_true, ite_false, reduceIte, eq_self]
                  refine a_iconst (n := 83) dX10_part_82 rfl ⟨by decide, by decide⟩ ?_
                  refine a_iadd (n := 84) dX10_part_83 rfl ⟨by omega, by omega⟩ ?_
                  refine a_putI (n := 87) dX10_part_84 rfl fX10_228 rfl (s37 hz) (Or.inl rfl) ?_
                  refine a_aload_n (n := 88) dX10_part_87 rfl rfl ?_
                  refine a_callV (M2 := mX10_opens) (n := 91) dX10_part_88 rfl (m_opens (d := d) hz hR (by simp only [up2_eq, Nat.reduceEqDiff, Int.reduceEq, and_true, true_and, and_self, if_true, if_false, reduceIte]; omega)) kX10_opens lX10_231 iX10_opens eX10_opens (by decide) (by omega) (s37 hz) rfl (Nat.le_of_ble_eq_true rfl) (fun q88 z88 hr88 hi88 hl88 h88 => ?_)
                  obtain ⟨e188, e288, e388, rfl, rfl⟩ := h88
                  obtain rfl := e188.symm
                  obtain rfl := e288.symm
                  obtain rfl := e388.symm
                  show a_wp G _ _ _ _ [] _ _ _ _ _
                  refine a_iconst (n := 92) dX10_part_91 rfl ⟨by decide, by decide⟩ ?_
                  refine a_zreturn dX10_part_92 rfl (by omega) ?_
                  exact ⟨rfl, rfl, rfl, Or.inr (Or.inr (Or.inl ⟨by omega, by omega, rfl, rfl⟩))⟩
              · obtain rfl := e471.symm
                show a_wp G _ _ _ _ (vI 0 :: _) _ _ _ _ _
                refine a_if_eq (t := 93) (n := 77) dX10_part_74 rfl rfl (fun c74 => ?_) (fun c74 => ?_)
                · refine a_aload_n (n := 94) dX10_part_93 rfl rfl ?_
                  refine a_iload_n (n := 95) dX10_part_94 rfl rfl ?_
                  refine a_if_ge (t := 102) (n := 98) dX10_part_95 rfl rfl (fun c95 => ?_) (fun c95 => ?_)
                  · refine a_iconst (n := 103) dX10_part_102 rfl ⟨by decide, by decide⟩ ?_
                    refine a_iload_n (n := 104) dX10_part_103 rfl rfl ?_
                    refine a_if_ge (t := 120) (n := 107) dX10_part_104 rfl rfl (fun c104 => ?_) (fun c104 => ?_)
                    · refine a_iload_n (n := 121) dX10_part_120 rfl rfl ?_
                      refine a_callV (M2 := mX10_emit) (n := 124) dX10_part_121 rfl (m_emit (d := d) hz hR ⟨by omega, by omega⟩ ⟨by omega, by omega⟩) kX10_emit lX10_241 iX10_emit eX10_emit (by decide) (by omega) (s37 hz) rfl (Nat.le_of_ble_eq_true rfl) (fun q121 z121 hr121 hi121 hl121 h121 => ?_)
                      obtain ⟨e1121, e2121, e3121, rfl, rfl⟩ := h121
                      obtain rfl := e1121.symm
                      obtain rfl := e2121.symm
                      obtain rfl := e3121.symm
                      show a_wp G _ _ _ _ [] _ _ _ _ _
                      refine a_aload_n (n := 125) dX10_part_124 rfl rfl ?_
                      refine a_dup (n := 126) dX10_part_125 rfl rfl ?_
                      refine a_getI (n := 129) dX10_part_126 rfl fX10_191 (s37 hz) ?_
                      try simp only [up2_eq, Nat.reduceEqDiff, Int.reduceEq, Int.reduceNeg, and_true, true_and, and_false, false_and, and_self, if_true, if_false, ite_true, ite_false, reduceIte, eq_self]
                      refine a_iconst (n := 130) dX10_part_129 rfl ⟨by decide, by decide⟩ ?_
                      refine a_iadd (n := 131) dX10_part_130 rfl ⟨by omega, by omega⟩ ?_
                      refine a_putI (n := 134) dX10_part_131 rfl fX10_191 rfl (s37 hz) (Or.inl rfl) ?_
                      refine a_iconst (n := 135) dX10_part_134 rfl ⟨by decide, by decide⟩ ?_
                      refine a_zreturn dX10_part_135 rfl (by omega) ?_
                      refine ⟨rfl, rfl, rfl, Or.inr (Or.inr (Or.inr ⟨by omega, by omega, rfl, ?_⟩))⟩
                      have e7 : ¬ kd (hi 37 7) = 7 := by omega
                      have ew : w = kd (hi 37 7) := by omega
                      rw [if_neg e7, if_neg e7, ← ew]
                      rfl
                    · omega
                  · refine a_iconst (n := 99) dX10_part_98 rfl ⟨by decide, by decide⟩ ?_
                    refine a_goto (t := 103) dX10_part_99 rfl ?_
                    refine a_iload_n (n := 104) dX10_part_103 rfl rfl ?_
                    refine a_if_ge (t := 120) (n := 107) dX10_part_104 rfl rfl (fun c104 => ?_) (fun c104 => ?_)
                    · omega
                    · refine a_aload_n (n := 108) dX10_part_107 rfl rfl ?_
                      refine a_getR (n := 111) dX10_part_108 rfl fX10_30 (s37 hz) (r37_6 hR) ?_
                      refine a_aload_n (n := 112) dX10_part_111 rfl rfl ?_
                      refine a_getI (n := 115) dX10_part_112 rfl fX10_191 (s37 hz) ?_
                      try simp only [up2_eq, Nat.reduceEqDiff, Int.reduceEq, Int.reduceNeg, and_true, true_and, and_false, false_and, and_self, if_true, if_false, ite_true, ite_false, reduceIte, eq_self]
                      refine a_lald (n := 116) dX10_part_115 rfl (s41 hz) (by omega) (by omega) ?_
                      try simp only [up2_eq, Nat.reduceEqDiff, Int.reduceEq, Int.reduceNeg, and_true, true_and, and_false, false_and, and_self, if_true, if_false, ite_true, ite_false, reduceIte, eq_self]
                      refine a_l2i (n := 117) dX10_part_116 rfl ?_
                      refine a_goto (t := 121) dX10_part_117 rfl ?_
                      refine a_callV (M2 := mX10_emit) (n := 124) dX10_part_121 rfl (m_emit (d := d) hz hR ⟨by omega, by omega⟩ ⟨by omega, by omega⟩) kX10_emit lX10_241 iX10_emit eX10_emit (by decide) (by omega) (s37 hz) rfl (Nat.le_of_ble_eq_true rfl) (fun q121 z121 hr121 hi121 hl121 h121 => ?_)
                      obtain ⟨e1121, e2121, e3121, rfl, rfl⟩ := h121
                      obtain rfl := e1121.symm
                      obtain rfl := e2121.symm
                      obtain rfl := e3121.symm
                      show a_wp G _ _ _ _ [] _ _ _ _ _
                      refine a_aload_n (n := 125) dX10_part_124 rfl rfl ?_
                      refine a_dup (n := 126) dX10_part_125 rfl rfl ?_
                      refine a_getI (n := 129) dX10_part_126 rfl fX10_191 (s37 hz) ?_
                      try simp only [up2_eq, Nat.reduceEqDiff, Int.reduceEq, Int.reduceNeg, and_true, true_and, and_false, false_and, and_self, if_true, if_false, ite_true, ite_false, reduceIte, eq_self]
                      refine a_iconst (n := 130) dX10_part_129 rfl ⟨by decide, by decide⟩ ?_
                      refine a_iadd (n := 131) dX10_part_130 rfl ⟨by omega, by omega⟩ ?_
                      refine a_putI (n := 134) dX10_part_131 rfl fX10_191 rfl (s37 hz) (Or.inl rfl) ?_
                      refine a_iconst (n := 135) dX10_part_134 rfl ⟨by decide, by decide⟩ ?_
                      refine a_zreturn dX10_part_135 rfl (by omega) ?_
                      refine ⟨rfl, rfl, rfl, Or.inr (Or.inr (Or.inr ⟨by omega, by omega, rfl, ?_⟩))⟩
                      have e7 : kd (hi 37 7) = 7 := by omega
                      have e8 := hA.n e7
                      rw [if_pos e7, if_pos e7, ← e8.1, b_l2i_eq (x := hl 41 (hi 37 7)) ⟨by omega, by omega⟩]
                      rfl
                · omega
            · omega
          · refine a_aload_n (n := 55) dX10_part_54 rfl rfl ?_
            refine a_iconst (n := 56) dX10_part_55 rfl ⟨by decide, by decide⟩ ?_
            refine a_callV (M2 := mX10_wrong) (n := 59) dX10_part_56 rfl (m_wr (d := d) hz hR (by decide) ⟨ha1, ha2⟩ hT hf) kX10_wrong lX10_200 iX10_wrong eX10_wrong (by decide) (by omega) (s37 hz) rfl (Nat.le_of_ble_eq_true rfl) (fun q56 z56 hr56 hi56 hl56 h56 => ?_)
            obtain ⟨e156, e256, e356, rfl, rfl⟩ := h56
            obtain rfl := e156.symm
            obtain rfl := e256.symm
            obtain rfl := e356.symm
            show a_wp G _ _ _ _ [] _ _ _ _ _
            refine a_aload_n (n := 60) dX10_part_59 rfl rfl ?_
            refine a_getI (n := 63) dX10_part_60 rfl fX10_194 (s37 hz) ?_
            try simp only [up2_eq, Nat.reduceEqDiff, Int.reduceEq, Int.reduceNeg, and_true, true_and, and_false, false_and, and_self, if_true, if_false, ite_true, ite_false, reduceIte, eq_self]
            refine a_if_le (t := 68) (n := 66) dX10_part_63 rfl rfl (fun c63 => ?_) (fun c63 => ?_)
            · omega
            · refine a_iconst (n := 67) dX10_part_66 rfl ⟨by decide, by decide⟩ ?_
              refine a_zreturn dX10_part_67 rfl (by omega) ?_
              exact ⟨rfl, rfl, rfl, Or.inr (Or.inl ⟨by omega, by omega, rfl, rfl⟩)⟩
        · refine a_aload_n (n := 39) dX10_part_38 rfl rfl ?_
          refine a_iconst (n := 40) dX10_part_39 rfl ⟨by decide, by decide⟩ ?_
          refine a_callV (M2 := mX10_wrong) (n := 43) dX10_part_40 rfl (m_wr (d := d) hz hR (by decide) ⟨ha1, ha2⟩ hT hf) kX10_wrong lX10_200 iX10_wrong eX10_wrong (by decide) (by omega) (s37 hz) rfl (Nat.le_of_ble_eq_true rfl) (fun q40 z40 hr40 hi40 hl40 h40 => ?_)
          obtain ⟨e140, e240, e340, rfl, rfl⟩ := h40
          obtain rfl := e140.symm
          obtain rfl := e240.symm
          obtain rfl := e340.symm
          show a_wp G _ _ _ _ [] _ _ _ _ _
          refine a_goto (t := 59) dX10_part_43 rfl ?_
          refine a_aload_n (n := 60) dX10_part_59 rfl rfl ?_
          refine a_getI (n := 63) dX10_part_60 rfl fX10_194 (s37 hz) ?_
          try simp only [up2_eq, Nat.reduceEqDiff, Int.reduceEq, Int.reduceNeg, and_true, true_and, and_false, false_and, and_self, if_true, if_false, ite_true, ite_false, reduceIte, eq_self]
          refine a_if_le (t := 68) (n := 66) dX10_part_63 rfl rfl (fun c63 => ?_) (fun c63 => ?_)
          · omega
          · refine a_iconst (n := 67) dX10_part_66 rfl ⟨by decide, by decide⟩ ?_
            refine a_zreturn dX10_part_67 rfl (by omega) ?_
            exact ⟨rfl, rfl, rfl, Or.inl ⟨by omega, rfl, rfl⟩⟩
end M13
