section M5
variable {G : aG} {d : Nat} {z : aZ} {hr : aR} {hi hl : aI}
/-- whether a check makes p DEAD; what it leaves -/
def mDies (hi : aI) (p : Int) : Int := if 0 ≤ hi 60 p then 0 else if 2 ≤ hi 61 p + 1 ∧ hi 62 p = 0 then 1 else 0
def mChk (hi : aI) (p : Int) : aI := if 0 ≤ hi 60 p then up2 (up2 (up2 (up2 hi 61 p 0) 62 p 0) 56 p (hi 60 p)) 60 p (-1) else up2 (up2 hi 61 p (hi 61 p + 1)) 62 p (if ¬ hi 62 p = 0 ∨ mDies hi p = 1 then 1 else 0)
set_option maxRecDepth 100000 in
set_option maxHeartbeats 4000000 in
theorem m_checks (hz : stZ z) (hR : stR hr) {p : Int} (hp : 0 ≤ p ∧ p < 40) (hm : 0 ≤ hi 61 p ∧ hi 61 p ≤ 100000) : a_ct G mX10_checks (d + 0) [vR 37, vI p] z hr hi hl (fun r z' hr' hi' hl' => z' = z ∧ hr' = hr ∧ hl' = hl ∧ r = some (vI (mDies hi p)) ∧ hi' = mChk hi p) := by
  refine a_ct_of rfl (Nat.le_of_ble_eq_true rfl) ?_
  refine a_aload_n (n := 1) dX10_checks_0 rfl rfl ?_
  refine a_getR (n := 4) dX10_checks_1 rfl fX10_111 (s37 hz) (r37_33 hR) ?_
  refine a_iload_n (n := 5) dX10_checks_4 rfl rfl ?_
  refine a_iald (n := 6) dX10_checks_5 rfl (s60 hz) (by omega) (by omega) ?_
  refine a_if_lt (t := 44) (n := 9) dX10_checks_6 rfl rfl (fun c6 => ?_) (fun c6 => ?_)
  · refine a_aload_n (n := 45) dX10_checks_44 rfl rfl ?_
    refine a_getR (n := 48) dX10_checks_45 rfl fX10_114 (s37 hz) (r37_34 hR) ?_
    refine a_iload_n (n := 49) dX10_checks_48 rfl rfl ?_
    refine a_dup2 (n := 50) dX10_checks_49 rfl rfl rfl ?_
    refine a_iald (n := 51) dX10_checks_50 rfl (s61 hz) (by omega) (by omega) ?_
    refine a_iconst (n := 52) dX10_checks_51 rfl ⟨by decide, by decide⟩ ?_
    refine a_iadd (n := 53) dX10_checks_52 rfl ⟨by omega, by omega⟩ ?_
    refine a_iast (n := 54) dX10_checks_53 rfl (s61 hz) (by omega) (by omega) ?_
    refine a_aload_n (n := 55) dX10_checks_54 rfl rfl ?_
    refine a_getR (n := 58) dX10_checks_55 rfl fX10_114 (s37 hz) (r37_34 hR) ?_
    refine a_iload_n (n := 59) dX10_checks_58 rfl rfl ?_
    refine a_iald (n := 60) dX10_checks_59 rfl (s61 hz) (by omega) (by omega) ?_
    try simp only [up2_eq, Nat.reduceEqDiff, Int.reduceEq, Int.reduceNeg, and_true, true_and, and_false, false_and, and_self, if_true, if_false, ite_true, ite_false, reduceIte, eq_self]
    refine a_iconst (n := 61) dX10_checks_60 rfl ⟨by decide, by decide⟩ ?_
    refine a_icmp_lt (t := 77) (n := 64) dX10_checks_61 rfl rfl (fun c61 => ?_) (fun c61 => ?_)
    · refine a_iconst (n := 78) dX10_checks_77 rfl ⟨by decide, by decide⟩ ?_
      refine a_istore_n (n := 79) dX10_checks_78 rfl (by decide) ?_
      refine a_aload_n (n := 80) dX10_checks_79 rfl rfl ?_
      refine a_getR (n := 83) dX10_checks_80 rfl fX10_117 (s37 hz) (r37_35 hR) ?_
      refine a_iload_n (n := 84) dX10_checks_83 rfl rfl ?_
      refine a_aload_n (n := 85) dX10_checks_84 rfl rfl ?_
      refine a_getR (n := 88) dX10_checks_85 rfl fX10_117 (s37 hz) (r37_35 hR) ?_
      refine a_iload_n (n := 89) dX10_checks_88 rfl rfl ?_
      refine a_zald (n := 90) dX10_checks_89 rfl (s62 hz) (by omega) (by omega) ?_
      try simp only [up2_eq, Nat.reduceEqDiff, Int.reduceEq, Int.reduceNeg, and_true, true_and, and_false, false_and, and_self, if_true, if_false, ite_true, ite_false, reduceIte, eq_self]
      refine a_if_ne (t := 97) (n := 93) dX10_checks_90 rfl rfl (fun c90 => ?_) (fun c90 => ?_)
      · refine a_iconst (n := 98) dX10_checks_97 rfl ⟨by decide, by decide⟩ ?_
        refine a_goto (t := 102) dX10_checks_98 rfl ?_
        refine a_zast (n := 103) dX10_checks_102 rfl (s62 hz) (by omega) (by omega) (by omega) ?_
        refine a_iload_n (n := 104) dX10_checks_103 rfl rfl ?_
        refine a_zreturn dX10_checks_104 rfl (by omega) ?_
        first | (exfalso; omega; done) | exact ⟨rfl, rfl, rfl, by unfold mDies; first | rw [if_pos (show 0 ≤ hi 60 p by omega)] | rw [if_neg (show ¬ 0 ≤ hi 60 p by omega), if_pos (by omega)] | rw [if_neg (show ¬ 0 ≤ hi 60 p by omega), if_neg (by omega)], by unfold mChk mDies; first | (rw [if_pos (show 0 ≤ hi 60 p by omega)]; done) | (rw [if_neg (show ¬ 0 ≤ hi 60 p by omega)]; congr 1; first | (rw [if_pos]; first | (left; omega) | (right; rw [if_neg (show ¬ 0 ≤ hi 60 p by omega), if_pos (by omega)])) | (rw [if_neg]; intro q; rw [if_neg (show ¬ 0 ≤ hi 60 p by omega), if_neg (by omega)] at q; omega))⟩
      · refine a_iload_n (n := 94) dX10_checks_93 rfl rfl ?_
        refine a_if_eq (t := 101) (n := 97) dX10_checks_94 rfl rfl (fun c94 => ?_) (fun c94 => ?_)
        · refine a_iconst (n := 102) dX10_checks_101 rfl ⟨by decide, by decide⟩ ?_
          refine a_zast (n := 103) dX10_checks_102 rfl (s62 hz) (by omega) (by omega) (by omega) ?_
          refine a_iload_n (n := 104) dX10_checks_103 rfl rfl ?_
          refine a_zreturn dX10_checks_104 rfl (by omega) ?_
          first | (exfalso; omega; done) | exact ⟨rfl, rfl, rfl, by unfold mDies; first | rw [if_pos (show 0 ≤ hi 60 p by omega)] | rw [if_neg (show ¬ 0 ≤ hi 60 p by omega), if_pos (by omega)] | rw [if_neg (show ¬ 0 ≤ hi 60 p by omega), if_neg (by omega)], by unfold mChk mDies; first | (rw [if_pos (show 0 ≤ hi 60 p by omega)]; done) | (rw [if_neg (show ¬ 0 ≤ hi 60 p by omega)]; congr 1; first | (rw [if_pos]; first | (left; omega) | (right; rw [if_neg (show ¬ 0 ≤ hi 60 p by omega), if_pos (by omega)])) | (rw [if_neg]; intro q; rw [if_neg (show ¬ 0 ≤ hi 60 p by omega), if_neg (by omega)] at q; omega))⟩
        · refine a_iconst (n := 98) dX10_checks_97 rfl ⟨by decide, by decide⟩ ?_
          refine a_goto (t := 102) dX10_checks_98 rfl ?_
          refine a_zast (n := 103) dX10_checks_102 rfl (s62 hz) (by omega) (by omega) (by omega) ?_
          refine a_iload_n (n := 104) dX10_checks_103 rfl rfl ?_
          refine a_zreturn dX10_checks_104 rfl (by omega) ?_
          first | (exfalso; omega; done) | exact ⟨rfl, rfl, rfl, by unfold mDies; first | rw [if_pos (show 0 ≤ hi 60 p by omega)] | rw [if_neg (show ¬ 0 ≤ hi 60 p by omega), if_pos (by omega)] | rw [if_neg (show ¬ 0 ≤ hi 60 p by omega), if_neg (by omega)], by unfold mChk mDies; first | (rw [if_pos (show 0 ≤ hi 60 p by omega)]; done) | (rw [if_neg (show ¬ 0 ≤ hi 60 p by omega)]; congr 1; first | (rw [if_pos]; first | (left; omega) | (right; rw [if_neg (show ¬ 0 ≤ hi 60 p by omega), if_pos (by omega)])) | (rw [if_neg]; intro q; rw [if_neg (show ¬ 0 ≤ hi 60 p by omega), if_neg (by omega)] at q; omega))⟩
    · refine a_aload_n (n := 65) dX10_checks_64 rfl rfl ?_
      refine a_getR (n := 68) dX10_checks_65 rfl fX10_117 (s37 hz) (r37_35 hR) ?_
      refine a_iload_n (n := 69) dX10_checks_68 rfl rfl ?_
      refine a_zald (n := 70) dX10_checks_69 rfl (s62 hz) (by omega) (by omega) ?_
      try simp only [up2_eq, Nat.reduceEqDiff, Int.reduceEq, Int.reduceNeg, and_true, true_and, and_false, false_and, and_self, if_true, if_false, ite_true, ite_false, reduceIte, eq_self]
      refine a_if_ne (t := 77) (n := 73) dX10_checks_70 rfl rfl (fun c70 => ?_) (fun c70 => ?_)
      · refine a_iconst (n := 78) dX10_checks_77 rfl ⟨by decide, by decide⟩ ?_
        refine a_istore_n (n := 79) dX10_checks_78 rfl (by decide) ?_
        refine a_aload_n (n := 80) dX10_checks_79 rfl rfl ?_
        refine a_getR (n := 83) dX10_checks_80 rfl fX10_117 (s37 hz) (r37_35 hR) ?_
        refine a_iload_n (n := 84) dX10_checks_83 rfl rfl ?_
        refine a_aload_n (n := 85) dX10_checks_84 rfl rfl ?_
        refine a_getR (n := 88) dX10_checks_85 rfl fX10_117 (s37 hz) (r37_35 hR) ?_
        refine a_iload_n (n := 89) dX10_checks_88 rfl rfl ?_
        refine a_zald (n := 90) dX10_checks_89 rfl (s62 hz) (by omega) (by omega) ?_
        try simp only [up2_eq, Nat.reduceEqDiff, Int.reduceEq, Int.reduceNeg, and_true, true_and, and_false, false_and, and_self, if_true, if_false, ite_true, ite_false, reduceIte, eq_self]
        refine a_if_ne (t := 97) (n := 93) dX10_checks_90 rfl rfl (fun c90 => ?_) (fun c90 => ?_)
        · refine a_iconst (n := 98) dX10_checks_97 rfl ⟨by decide, by decide⟩ ?_
          refine a_goto (t := 102) dX10_checks_98 rfl ?_
          refine a_zast (n := 103) dX10_checks_102 rfl (s62 hz) (by omega) (by omega) (by omega) ?_
          refine a_iload_n (n := 104) dX10_checks_103 rfl rfl ?_
          refine a_zreturn dX10_checks_104 rfl (by omega) ?_
          first | (exfalso; omega; done) | exact ⟨rfl, rfl, rfl, by unfold mDies; first | rw [if_pos (show 0 ≤ hi 60 p by omega)] | rw [if_neg (show ¬ 0 ≤ hi 60 p by omega), if_pos (by omega)] | rw [if_neg (show ¬ 0 ≤ hi 60 p by omega), if_neg (by omega)], by unfold mChk mDies; first | (rw [if_pos (show 0 ≤ hi 60 p by omega)]; done) | (rw [if_neg (show ¬ 0 ≤ hi 60 p by omega)]; congr 1; first | (rw [if_pos]; first | (left; omega) | (right; rw [if_neg (show ¬ 0 ≤ hi 60 p by omega), if_pos (by omega)])) | (rw [if_neg]; intro q; rw [if_neg (show ¬ 0 ≤ hi 60 p by omega), if_neg (by omega)] at q; omega))⟩
        · refine a_iload_n (n := 94) dX10_checks_93 rfl rfl ?_
          refine a_if_eq (t := 101) (n := 97) dX10_checks_94 rfl rfl (fun c94 => ?_) (fun c94 => ?_)
          · refine a_iconst (n := 102) dX10_checks_101 rfl ⟨by decide, by decide⟩ ?_
            refine a_zast (n := 103) dX10_checks_102 rfl (s62 hz) (by omega) (by omega) (by omega) ?_
            refine a_iload_n (n := 104) dX10_checks_103 rfl rfl ?_
            refine a_zreturn dX10_checks_104 rfl (by omega) ?_
            first | (exfalso; omega; done) | exact ⟨rfl, rfl, rfl, by unfold mDies; first | rw [if_pos (show 0 ≤ hi 60 p by omega)] | rw [if_neg (show ¬ 0 ≤ hi 60 p by omega), if_pos (by omega)] | rw [if_neg (show ¬ 0 ≤ hi 60 p by omega), if_neg (by omega)], by unfold mChk mDies; first | (rw [if_pos (show 0 ≤ hi 60 p by omega)]; done) | (rw [if_neg (show ¬ 0 ≤ hi 60 p by omega)]; congr 1; first | (rw [if_pos]; first | (left; omega) | (right; rw [if_neg (show ¬ 0 ≤ hi 60 p by omega), if_pos (by omega)])) | (rw [if_neg]; intro q; rw [if_neg (show ¬ 0 ≤ hi 60 p by omega), if_neg (by omega)] at q; omega))⟩
          · refine a_iconst (n := 98) dX10_checks_97 rfl ⟨by decide, by decide⟩ ?_
            refine a_goto (t := 102) dX10_checks_98 rfl ?_
            refine a_zast (n := 103) dX10_checks_102 rfl (s62 hz) (by omega) (by omega) (by omega) ?_
            refine a_iload_n (n := 104) dX10_checks_103 rfl rfl ?_
            refine a_zreturn dX10_checks_104 rfl (by omega) ?_
            first | (exfalso; omega; done) | exact ⟨rfl, rfl, rfl, by unfold mDies; first | rw [if_pos (show 0 ≤ hi 60 p by omega)] | rw [if_neg (show ¬ 0 ≤ hi 60 p by omega), if_pos (by omega)] | rw [if_neg (show ¬ 0 ≤ hi 60 p by omega), if_neg (by omega)], by unfold mChk mDies; first | (rw [if_pos (show 0 ≤ hi 60 p by omega)]; done) | (rw [if_neg (show ¬ 0 ≤ hi 60 p by omega)]; congr 1; first | (rw [if_pos]; first | (left; omega) | (right; rw [if_neg (show ¬ 0 ≤ hi 60 p by omega), if_pos (by omega)])) | (rw [if_neg]; intro q; rw [if_neg (show ¬ 0 ≤ hi 60 p by omega), if_neg (by omega)] at q; omega))⟩
      · refine a_iconst (n := 74) dX10_checks_73 rfl ⟨by decide, by decide⟩ ?_
        refine a_goto (t := 78) dX10_checks_74 rfl ?_
        refine a_istore_n (n := 79) dX10_checks_78 rfl (by decide) ?_
        refine a_aload_n (n := 80) dX10_checks_79 rfl rfl ?_
        refine a_getR (n := 83) dX10_checks_80 rfl fX10_117 (s37 hz) (r37_35 hR) ?_
        refine a_iload_n (n := 84) dX10_checks_83 rfl rfl ?_
        refine a_aload_n (n := 85) dX10_checks_84 rfl rfl ?_
        refine a_getR (n := 88) dX10_checks_85 rfl fX10_117 (s37 hz) (r37_35 hR) ?_
        refine a_iload_n (n := 89) dX10_checks_88 rfl rfl ?_
        refine a_zald (n := 90) dX10_checks_89 rfl (s62 hz) (by omega) (by omega) ?_
        try simp only [up2_eq, Nat.reduceEqDiff, Int.reduceEq, Int.reduceNeg, and_true, true_and, and_false, false_and, and_self, if_true, if_false, ite_true, ite_false, reduceIte, eq_self]
        refine a_if_ne (t := 97) (n := 93) dX10_checks_90 rfl rfl (fun c90 => ?_) (fun c90 => ?_)
        · refine a_iconst (n := 98) dX10_checks_97 rfl ⟨by decide, by decide⟩ ?_
          refine a_goto (t := 102) dX10_checks_98 rfl ?_
          refine a_zast (n := 103) dX10_checks_102 rfl (s62 hz) (by omega) (by omega) (by omega) ?_
          refine a_iload_n (n := 104) dX10_checks_103 rfl rfl ?_
          refine a_zreturn dX10_checks_104 rfl (by omega) ?_
          first | (exfalso; omega; done) | exact ⟨rfl, rfl, rfl, by unfold mDies; first | rw [if_pos (show 0 ≤ hi 60 p by omega)] | rw [if_neg (show ¬ 0 ≤ hi 60 p by omega), if_pos (by omega)] | rw [if_neg (show ¬ 0 ≤ hi 60 p by omega), if_neg (by omega)], by unfold mChk mDies; first | (rw [if_pos (show 0 ≤ hi 60 p by omega)]; done) | (rw [if_neg (show ¬ 0 ≤ hi 60 p by omega)]; congr 1; first | (rw [if_pos]; first | (left; omega) | (right; rw [if_neg (show ¬ 0 ≤ hi 60 p by omega), if_pos (by omega)])) | (rw [if_neg]; intro q; rw [if_neg (show ¬ 0 ≤ hi 60 p by omega), if_neg (by omega)] at q; omega))⟩
        · refine a_iload_n (n := 94) dX10_checks_93 rfl rfl ?_
          refine a_if_eq (t := 101) (n := 97) dX10_checks_94 rfl rfl (fun c94 => ?_) (fun c94 => ?_)
          · refine a_iconst (n := 102) dX10_checks_101 rfl ⟨by decide, by decide⟩ ?_
            refine a_zast (n := 103) dX10_checks_102 rfl (s62 hz) (by omega) (by omega) (by omega) ?_
            refine a_iload_n (n := 104) dX10_checks_103 rfl rfl ?_
            refine a_zreturn dX10_checks_104 rfl (by omega) ?_
            first | (exfalso; omega; done) | exact ⟨rfl, rfl, rfl, by unfold mDies; first | rw [if_pos (show 0 ≤ hi 60 p by omega)] | rw [if_neg (show ¬ 0 ≤ hi 60 p by omega), if_pos (by omega)] | rw [if_neg (show ¬ 0 ≤ hi 60 p by omega), if_neg (by omega)], by unfold mChk mDies; first | (rw [if_pos (show 0 ≤ hi 60 p by omega)]; done) | (rw [if_neg (show ¬ 0 ≤ hi 60 p by omega)]; congr 1; first | (rw [if_pos]; first | (left; omega) | (right; rw [if_neg (show ¬ 0 ≤ hi 60 p by omega), if_pos (by omega)])) | (rw [if_neg]; intro q; rw [if_neg (show ¬ 0 ≤ hi 60 p by omega), if_neg (by omega)] at q; omega))⟩
          · refine a_iconst (n := 98) dX10_checks_97 rfl ⟨by decide, by decide⟩ ?_
            refine a_goto (t := 102) dX10_checks_98 rfl ?_
            refine a_zast (n := 103) dX10_checks_102 rfl (s62 hz) (by omega) (by omega) (by omega) ?_
            refine a_iload_n (n := 104) dX10_checks_103 rfl rfl ?_
            refine a_zreturn dX10_checks_104 rfl (by omega) ?_
            first | (exfalso; omega; done) | exact ⟨rfl, rfl, rfl, by unfold mDies; first | rw [if_pos (show 0 ≤ hi 60 p by omega)] | rw [if_neg (show ¬ 0 ≤ hi 60 p by omega), if_pos (by omega)] | rw [if_neg (show ¬ 0 ≤ hi 60 p by omega), if_neg (by omega)], by unfold mChk mDies; first | (rw [if_pos (show 0 ≤ hi 60 p by omega)]; done) | (rw [if_neg (show ¬ 0 ≤ hi 60 p by omega)]; congr 1; first | (rw [if_pos]; first | (left; omega) | (right; rw [if_neg (show ¬ 0 ≤ hi 60 p by omega), if_pos (by omega)])) | (rw [if_neg]; intro q; rw [if_neg (show ¬ 0 ≤ hi 60 p by omega), if_neg (by omega)] at q; omega))⟩
  · refine a_aload_n (n := 10) dX10_checks_9 rfl rfl ?_
    refine a_getR (n := 13) dX10_checks_10 rfl fX10_114 (s37 hz) (r37_34 hR) ?_
    refine a_iload_n (n := 14) dX10_checks_13 rfl rfl ?_
    refine a_iconst (n := 15) dX10_checks_14 rfl ⟨by decide, by decide⟩ ?_
    refine a_iast (n := 16) dX10_checks_15 rfl (s61 hz) (by omega) (by omega) ?_
    refine a_aload_n (n := 17) dX10_checks_16 rfl rfl ?_
    refine a_getR (n := 20) dX10_checks_17 rfl fX10_117 (s37 hz) (r37_35 hR) ?_
    refine a_iload_n (n := 21) dX10_checks_20 rfl rfl ?_
    refine a_iconst (n := 22) dX10_checks_21 rfl ⟨by decide, by decide⟩ ?_
    refine a_zast (n := 23) dX10_checks_22 rfl (s62 hz) (by omega) (by omega) (by omega) ?_
    refine a_aload_n (n := 24) dX10_checks_23 rfl rfl ?_
    refine a_getR (n := 27) dX10_checks_24 rfl fX10_99 (s37 hz) (r37_29 hR) ?_
    refine a_iload_n (n := 28) dX10_checks_27 rfl rfl ?_
    refine a_aload_n (n := 29) dX10_checks_28 rfl rfl ?_
    refine a_getR (n := 32) dX10_checks_29 rfl fX10_111 (s37 hz) (r37_33 hR) ?_
    refine a_iload_n (n := 33) dX10_checks_32 rfl rfl ?_
    refine a_iald (n := 34) dX10_checks_33 rfl (s60 hz) (by omega) (by omega) ?_
    try simp only [up2_eq, Nat.reduceEqDiff, Int.reduceEq, Int.reduceNeg, and_true, true_and, and_false, false_and, and_self, if_true, if_false, ite_true, ite_false, reduceIte, eq_self]
    refine a_iast (n := 35) dX10_checks_34 rfl (s56 hz) (by omega) (by omega) ?_
    refine a_aload_n (n := 36) dX10_checks_35 rfl rfl ?_
    refine a_getR (n := 39) dX10_checks_36 rfl fX10_111 (s37 hz) (r37_33 hR) ?_
    refine a_iload_n (n := 40) dX10_checks_39 rfl rfl ?_
    refine a_iconst (n := 41) dX10_checks_40 rfl ⟨by decide, by decide⟩ ?_
    refine a_iast (n := 42) dX10_checks_41 rfl (s60 hz) (by omega) (by omega) ?_
    refine a_iconst (n := 43) dX10_checks_42 rfl ⟨by decide, by decide⟩ ?_
    refine a_zreturn dX10_checks_43 rfl (by omega) ?_
    first | (exfalso; omega; done) | exact ⟨rfl, rfl, rfl, by unfold mDies; first | rw [if_pos (show 0 ≤ hi 60 p by omega)] | rw [if_neg (show ¬ 0 ≤ hi 60 p by omega), if_pos (by omega)] | rw [if_neg (show ¬ 0 ≤ hi 60 p by omega), if_neg (by omega)], by unfold mChk mDies; first | (rw [if_pos (show 0 ≤ hi 60 p by omega)]; done) | (rw [if_neg (show ¬ 0 ≤ hi 60 p by omega)]; congr 1; first | (rw [if_pos]; first | (left; omega) | (right; rw [if_neg (show ¬ 0 ≤ hi 60 p by omega), if_pos (by omega)])) | (rw [if_neg]; intro q; rw [if_neg (show ¬ 0 ≤ hi 60 p by omega), if_neg (by omega)] at q; omega))⟩
/-- how many of the first n but p lie in b -/
def mThere (f : Int → Int) (p b : Int) : Nat → Int
  | 0 => 0
  | n + 1 => mThere f p b n + if ¬ (n : Int) = p ∧ 0 ≤ b ∧ f n = b then 1 else 0
theorem mThere_s {f : Int → Int} {p b k : Int} (h : 0 ≤ k) : mThere f p b (k + 1).toNat = mThere f p b k.toNat + if ¬ k = p ∧ 0 ≤ b ∧ f k = b then 1 else 0 := by
  rw [show (k + 1).toNat = k.toNat + 1 by omega, mThere, Int.toNat_of_nonneg h]
theorem mThere_b {f : Int → Int} {p b : Int} (n : Nat) : 0 ≤ mThere f p b n ∧ mThere f p b n ≤ n := by
  induction n with
  | zero => exact ⟨Int.le_refl _, Int.le_refl _⟩
  | succ n ih => rw [mThere]; split <;> omega
set_option maxRecDepth 100000 in
set_option maxHeartbeats 4000000 in
theorem m_lay_l (hz : stZ z) (hR : stR hr) (hP : hi 37 25 ≤ 40) (hB : hi 37 45 ≤ 8) {p b : Int} (hp : 0 ≤ p ∧ p < hi 37 25) (hb : b = -1 ∨ ((0 ≤ b ∧ b < hi 37 45) ∧ (hi 58 (4 * p) ≤ hi 70 b ∧ hi 70 b ≤ hi 58 (4 * p + 1) ∧ hi 58 (4 * p + 2) ≤ hi 71 b ∧ hi 71 b ≤ hi 58 (4 * p + 3)))) : ∀ (n : Nat) (t k : Int), t = mThere (hi 59) p b k.toNat → 0 ≤ k → k + n = hi 37 25 → a_wp G mX10_lay_ (d + 1) 42 [some (vR 37), some (vI p), some (vI b), some (vI t), some (vI k)] [] z hr (up2 hi 37 0 0) hl (fun r z' hr' hi' hl' => z' = z ∧ hr' = hr ∧ hl' = hl ∧ ((((0 ≤ p ∧ p < hi 37 25) ∧ (b = -1 ∨ ((0 ≤ b ∧ b < hi 37 45) ∧ (hi 58 (4 * p) ≤ hi 70 b ∧ hi 70 b ≤ hi 58 (4 * p + 1) ∧ hi 58 (4 * p + 2) ≤ hi 71 b ∧ hi 71 b ≤ hi 58 (4 * p + 3)) ∧ mThere (hi 59) p b (hi 37 25).toNat < hi 72 b))) ∧ r = some (vI (1)) ∧ hi' = up2 (up2 (up2 hi 37 0 0) 59 p b) 60 p (-1)) ∨ (¬ ((0 ≤ p ∧ p < hi 37 25) ∧ (b = -1 ∨ ((0 ≤ b ∧ b < hi 37 45) ∧ (hi 58 (4 * p) ≤ hi 70 b ∧ hi 70 b ≤ hi 58 (4 * p + 1) ∧ hi 58 (4 * p + 2) ≤ hi 71 b ∧ hi 71 b ≤ hi 58 (4 * p + 3)) ∧ mThere (hi 59) p b (hi 37 25).toNat < hi 72 b))) ∧ r = some (vI (0)) ∧ hi' = up2 hi 37 0 0))) := by
  intro n
  induction n with
  | zero =>
    intro t k e1 h0 h1
    have e2 : t = mThere (hi 59) p b (hi 37 25).toNat := by rw [e1, show k = hi 37 25 by omega]
    have e3 := mThere_b (f := hi 59) (p := p) (b := b) (hi 37 25).toNat
    rw [← e2] at e3 ⊢
    refine a_iload (n := 44) dX10_lay__42 rfl rfl ?_
    refine a_aload_n (n := 45) dX10_lay__44 rfl rfl ?_
    refine a_getI (n := 48) dX10_lay__45 rfl fX10_258 (s37 hz) ?_
    try simp only [up2_eq, Nat.reduceEqDiff, Int.reduceEq, Int.reduceNeg, and_true, true_and, and_false, false_and, and_self, if_true, if_false, ite_true, ite_false, reduceIte, eq_self]
    refine a_icmp_ge (t := 86) (n := 51) dX10_lay__48 rfl rfl (fun c48 => ?_) (fun c48 => ?_)
    · refine a_iload_n (n := 87) dX10_lay__86 rfl rfl ?_
      refine a_if_lt (t := 102) (n := 90) dX10_lay__87 rfl rfl (fun c87 => ?_) (fun c87 => ?_)
      · refine a_aload_n (n := 103) dX10_lay__102 rfl rfl ?_
        refine a_getR (n := 106) dX10_lay__103 rfl fX10_108 (s37 hz) (r37_32 hR) ?_
        refine a_iload_n (n := 107) dX10_lay__106 rfl rfl ?_
        refine a_iload_n (n := 108) dX10_lay__107 rfl rfl ?_
        refine a_iast (n := 109) dX10_lay__108 rfl (s59 hz) (by omega) (by omega) ?_
        refine a_aload_n (n := 110) dX10_lay__109 rfl rfl ?_
        refine a_getR (n := 113) dX10_lay__110 rfl fX10_111 (s37 hz) (r37_33 hR) ?_
        refine a_iload_n (n := 114) dX10_lay__113 rfl rfl ?_
        refine a_iconst (n := 115) dX10_lay__114 rfl ⟨by decide, by decide⟩ ?_
        refine a_iast (n := 116) dX10_lay__115 rfl (s60 hz) (by omega) (by omega) ?_
        refine a_iconst (n := 117) dX10_lay__116 rfl ⟨by decide, by decide⟩ ?_
        refine a_zreturn dX10_lay__117 rfl (by omega) ?_
        first | (exfalso; omega; done) | exact ⟨rfl, rfl, rfl, Or.inl ⟨by omega, rfl, rfl⟩⟩ | exact ⟨rfl, rfl, rfl, Or.inr ⟨by omega, rfl, rfl⟩⟩
      · refine a_iload_n (n := 91) dX10_lay__90 rfl rfl ?_
        refine a_aload_n (n := 92) dX10_lay__91 rfl rfl ?_
        refine a_getR (n := 95) dX10_lay__92 rfl fX10_147 (s37 hz) (r37_48 hR) ?_
        refine a_iload_n (n := 96) dX10_lay__95 rfl rfl ?_
        refine a_iald (n := 97) dX10_lay__96 rfl (s72 hz) (by omega) (by omega) ?_
        try simp only [up2_eq, Nat.reduceEqDiff, Int.reduceEq, Int.reduceNeg, and_true, true_and, and_false, false_and, and_self, if_true, if_false, ite_true, ite_false, reduceIte, eq_self]
        refine a_icmp_lt (t := 102) (n := 100) dX10_lay__97 rfl rfl (fun c97 => ?_) (fun c97 => ?_)
        · refine a_aload_n (n := 103) dX10_lay__102 rfl rfl ?_
          refine a_getR (n := 106) dX10_lay__103 rfl fX10_108 (s37 hz) (r37_32 hR) ?_
          refine a_iload_n (n := 107) dX10_lay__106 rfl rfl ?_
          refine a_iload_n (n := 108) dX10_lay__107 rfl rfl ?_
          refine a_iast (n := 109) dX10_lay__108 rfl (s59 hz) (by omega) (by omega) ?_
          refine a_aload_n (n := 110) dX10_lay__109 rfl rfl ?_
          refine a_getR (n := 113) dX10_lay__110 rfl fX10_111 (s37 hz) (r37_33 hR) ?_
          refine a_iload_n (n := 114) dX10_lay__113 rfl rfl ?_
          refine a_iconst (n := 115) dX10_lay__114 rfl ⟨by decide, by decide⟩ ?_
          refine a_iast (n := 116) dX10_lay__115 rfl (s60 hz) (by omega) (by omega) ?_
          refine a_iconst (n := 117) dX10_lay__116 rfl ⟨by decide, by decide⟩ ?_
          refine a_zreturn dX10_lay__117 rfl (by omega) ?_
          first | (exfalso; omega; done) | exact ⟨rfl, rfl, rfl, Or.inl ⟨by omega, rfl, rfl⟩⟩ | exact ⟨rfl, rfl, rfl, Or.inr ⟨by omega, rfl, rfl⟩⟩
        · refine a_iconst (n := 101) dX10_lay__100 rfl ⟨by decide, by decide⟩ ?_
          refine a_zreturn dX10_lay__101 rfl (by omega) ?_
          first | (exfalso; omega; done) | exact ⟨rfl, rfl, rfl, Or.inl ⟨by omega, rfl, rfl⟩⟩ | exact ⟨rfl, rfl, rfl, Or.inr ⟨by omega, rfl, rfl⟩⟩
    · exfalso; omega
  | succ n ih =>
    intro t k e1 h0 h1
    have e3 := mThere_b (f := hi 59) (p := p) (b := b) k.toNat
    rw [← e1] at e3
    refine a_iload (n := 44) dX10_lay__42 rfl rfl ?_
    refine a_aload_n (n := 45) dX10_lay__44 rfl rfl ?_
    refine a_getI (n := 48) dX10_lay__45 rfl fX10_258 (s37 hz) ?_
    try simp only [up2_eq, Nat.reduceEqDiff, Int.reduceEq, Int.reduceNeg, and_true, true_and, and_false, false_and, and_self, if_true, if_false, ite_true, ite_false, reduceIte, eq_self]
    refine a_icmp_ge (t := 86) (n := 51) dX10_lay__48 rfl rfl (fun c48 => ?_) (fun c48 => ?_)
    · exfalso; omega
    · refine a_iload_n (n := 52) dX10_lay__51 rfl rfl ?_
      refine a_iload (n := 54) dX10_lay__52 rfl rfl ?_
      refine a_iload_n (n := 55) dX10_lay__54 rfl rfl ?_
      refine a_icmp_eq (t := 77) (n := 58) dX10_lay__55 rfl rfl (fun c55 => ?_) (fun c55 => ?_)
      · refine a_iconst (n := 78) dX10_lay__77 rfl ⟨by decide, by decide⟩ ?_
        refine a_iadd (n := 79) dX10_lay__78 rfl ⟨by omega, by omega⟩ ?_
        refine a_istore_n (n := 80) dX10_lay__79 rfl (by decide) ?_
        refine a_iinc (n := 83) dX10_lay__80 rfl (by decide) rfl ⟨by omega, by omega⟩ ?_
        refine a_goto (t := 42) dX10_lay__83 rfl ?_
        exact ih _ _ (by rw [mThere_s h0, ← e1]; first | (rw [if_pos (by omega)]; done) | (rw [if_neg (by omega)]; done)) (by omega) (by omega)
      · refine a_iload_n (n := 59) dX10_lay__58 rfl rfl ?_
        refine a_if_lt (t := 77) (n := 62) dX10_lay__59 rfl rfl (fun c59 => ?_) (fun c59 => ?_)
        · refine a_iconst (n := 78) dX10_lay__77 rfl ⟨by decide, by decide⟩ ?_
          refine a_iadd (n := 79) dX10_lay__78 rfl ⟨by omega, by omega⟩ ?_
          refine a_istore_n (n := 80) dX10_lay__79 rfl (by decide) ?_
          refine a_iinc (n := 83) dX10_lay__80 rfl (by decide) rfl ⟨by omega, by omega⟩ ?_
          refine a_goto (t := 42) dX10_lay__83 rfl ?_
          exact ih _ _ (by rw [mThere_s h0, ← e1]; first | (rw [if_pos (by omega)]; done) | (rw [if_neg (by omega)]; done)) (by omega) (by omega)
        · refine a_aload_n (n := 63) dX10_lay__62 rfl rfl ?_
          refine a_getR (n := 66) dX10_lay__63 rfl fX10_108 (s37 hz) (r37_32 hR) ?_
          refine a_iload (n := 68) dX10_lay__66 rfl rfl ?_
          refine a_iald (n := 69) dX10_lay__68 rfl (s59 hz) (by omega) (by omega) ?_
          try simp only [up2_eq, Nat.reduceEqDiff, Int.reduceEq, Int.reduceNeg, and_true, true_and, and_false, false_and, and_self, if_true, if_false, ite_true, ite_false, reduceIte, eq_self]
          refine a_iload_n (n := 70) dX10_lay__69 rfl rfl ?_
          refine a_icmp_ne (t := 77) (n := 73) dX10_lay__70 rfl rfl (fun c70 => ?_) (fun c70 => ?_)
          · refine a_iconst (n := 78) dX10_lay__77 rfl ⟨by decide, by decide⟩ ?_
            refine a_iadd (n := 79) dX10_lay__78 rfl ⟨by omega, by omega⟩ ?_
            refine a_istore_n (n := 80) dX10_lay__79 rfl (by decide) ?_
            refine a_iinc (n := 83) dX10_lay__80 rfl (by decide) rfl ⟨by omega, by omega⟩ ?_
            refine a_goto (t := 42) dX10_lay__83 rfl ?_
            exact ih _ _ (by rw [mThere_s h0, ← e1]; first | (rw [if_pos (by omega)]; done) | (rw [if_neg (by omega)]; done)) (by omega) (by omega)
          · refine a_iconst (n := 74) dX10_lay__73 rfl ⟨by decide, by decide⟩ ?_
            refine a_goto (t := 78) dX10_lay__74 rfl ?_
            refine a_iadd (n := 79) dX10_lay__78 rfl ⟨by omega, by omega⟩ ?_
            refine a_istore_n (n := 80) dX10_lay__79 rfl (by decide) ?_
            refine a_iinc (n := 83) dX10_lay__80 rfl (by decide) rfl ⟨by omega, by omega⟩ ?_
            refine a_goto (t := 42) dX10_lay__83 rfl ?_
            exact ih _ _ (by rw [mThere_s h0, ← e1]; first | (rw [if_pos (by omega)]; done) | (rw [if_neg (by omega)]; done)) (by omega) (by omega)
set_option maxRecDepth 100000 in
set_option maxHeartbeats 4000000 in
theorem m_lay (hz : stZ z) (hR : stR hr) (hP : 0 ≤ hi 37 25 ∧ hi 37 25 ≤ 40) (hB : hi 37 45 ≤ 8) {p b : Int} : a_ct G mX10_lay_ (d + 1) [vR 37, vI p, vI b] z hr hi hl (fun r z' hr' hi' hl' => z' = z ∧ hr' = hr ∧ hl' = hl ∧ ((((0 ≤ p ∧ p < hi 37 25) ∧ (b = -1 ∨ ((0 ≤ b ∧ b < hi 37 45) ∧ (hi 58 (4 * p) ≤ hi 70 b ∧ hi 70 b ≤ hi 58 (4 * p + 1) ∧ hi 58 (4 * p + 2) ≤ hi 71 b ∧ hi 71 b ≤ hi 58 (4 * p + 3)) ∧ mThere (hi 59) p b (hi 37 25).toNat < hi 72 b))) ∧ r = some (vI (1)) ∧ hi' = up2 (up2 (up2 hi 37 0 0) 59 p b) 60 p (-1)) ∨ (¬ ((0 ≤ p ∧ p < hi 37 25) ∧ (b = -1 ∨ ((0 ≤ b ∧ b < hi 37 45) ∧ (hi 58 (4 * p) ≤ hi 70 b ∧ hi 70 b ≤ hi 58 (4 * p + 1) ∧ hi 58 (4 * p + 2) ≤ hi 71 b ∧ hi 71 b ≤ hi 58 (4 * p + 3)) ∧ mThere (hi 59) p b (hi 37 25).toNat < hi 72 b))) ∧ r = some (vI (0)) ∧ hi' = up2 hi 37 0 0))) := by
  refine a_ct_of rfl (Nat.le_of_ble_eq_true rfl) ?_
  refine a_aload_n (n := 1) dX10_lay__0 rfl rfl ?_
  refine a_iconst (n := 2) dX10_lay__1 rfl ⟨by decide, by decide⟩ ?_
  refine a_putI (n := 5) dX10_lay__2 rfl fX10_1 rfl (s37 hz) (Or.inl rfl) ?_
  refine a_aload_n (n := 6) dX10_lay__5 rfl rfl ?_
  refine a_iload_n (n := 7) dX10_lay__6 rfl rfl ?_
  refine a_callV (M2 := mX10_isPlant) (n := 10) dX10_lay__7 rfl (m_isPlant (d := d) hz) kX10_isPlant lX10_268 iX10_isPlant eX10_isPlant (by decide) (by omega) (s37 hz) rfl (Nat.le_of_ble_eq_true rfl) (fun q7 z7 hr7 hi7 hl7 h7 => ?_)
  obtain ⟨rfl, rfl, rfl, rfl, b7, rfl, hb7⟩ := h7
  simp only [up2_eq, Nat.reduceEqDiff, Int.reduceEq, and_true, true_and, and_false, false_and, and_self, if_true, if_false, reduceIte, eq_self] at hb7
  show a_wp G _ _ _ _ (vI b7 :: _) _ _ _ _ _
  refine a_if_eq (t := 35) (n := 13) dX10_lay__10 rfl rfl (fun c10 => ?_) (fun c10 => ?_)
  · refine a_iconst (n := 36) dX10_lay__35 rfl ⟨by decide, by decide⟩ ?_
    refine a_zreturn dX10_lay__36 rfl (by omega) ?_
    first | (exfalso; omega; done) | exact ⟨rfl, rfl, rfl, Or.inr ⟨by omega, rfl, rfl⟩⟩
  · refine a_iload_n (n := 14) dX10_lay__13 rfl rfl ?_
    refine a_iconst (n := 15) dX10_lay__14 rfl ⟨by decide, by decide⟩ ?_
    refine a_icmp_eq (t := 37) (n := 18) dX10_lay__15 rfl rfl (fun c15 => ?_) (fun c15 => ?_)
    · refine a_iconst (n := 38) dX10_lay__37 rfl ⟨by decide, by decide⟩ ?_
      refine a_istore_n (n := 39) dX10_lay__38 rfl (by decide) ?_
      refine a_iconst (n := 40) dX10_lay__39 rfl ⟨by decide, by decide⟩ ?_
      refine a_istore (n := 42) dX10_lay__40 rfl (by decide) ?_
      exact m_lay_l hz hR hP.2 hB (by omega) (by omega) (hi 37 25).toNat 0 0 rfl (by omega) (by omega)
    · refine a_aload_n (n := 19) dX10_lay__18 rfl rfl ?_
      refine a_iload_n (n := 20) dX10_lay__19 rfl rfl ?_
      refine a_callV (M2 := mX10_isBed) (n := 23) dX10_lay__20 rfl (m_isBed (d := d) hz) kX10_isBed lX10_311 iX10_isBed eX10_isBed (by decide) (by omega) (s37 hz) rfl (Nat.le_of_ble_eq_true rfl) (fun q20 z20 hr20 hi20 hl20 h20 => ?_)
      obtain ⟨rfl, rfl, rfl, rfl, b20, rfl, hb20⟩ := h20
      simp only [up2_eq, Nat.reduceEqDiff, Int.reduceEq, and_true, true_and, and_false, false_and, and_self, if_true, if_false, reduceIte, eq_self] at hb20
      show a_wp G _ _ _ _ (vI b20 :: _) _ _ _ _ _
      refine a_if_eq (t := 35) (n := 26) dX10_lay__23 rfl rfl (fun c23 => ?_) (fun c23 => ?_)
      · refine a_iconst (n := 36) dX10_lay__35 rfl ⟨by decide, by decide⟩ ?_
        refine a_zreturn dX10_lay__36 rfl (by omega) ?_
        first | (exfalso; omega; done) | exact ⟨rfl, rfl, rfl, Or.inr ⟨by omega, rfl, rfl⟩⟩
      · refine a_aload_n (n := 27) dX10_lay__26 rfl rfl ?_
        refine a_iload_n (n := 28) dX10_lay__27 rfl rfl ?_
        refine a_iload_n (n := 29) dX10_lay__28 rfl rfl ?_
        refine a_callV (M2 := mX10_suits) (n := 32) dX10_lay__29 rfl (m_suits (d := d) hz hR (by omega) (by omega)) kX10_suits lX10_314 iX10_suits eX10_suits (by decide) (by omega) (s37 hz) rfl (Nat.le_of_ble_eq_true rfl) (fun q29 z29 hr29 hi29 hl29 h29 => ?_)
        obtain ⟨rfl, rfl, rfl, rfl, b29, rfl, hb29⟩ := h29
        simp only [up2_eq, Nat.reduceEqDiff, Int.reduceEq, and_true, true_and, and_false, false_and, and_self, if_true, if_false, reduceIte, eq_self] at hb29
        show a_wp G _ _ _ _ (vI b29 :: _) _ _ _ _ _
        refine a_if_ne (t := 37) (n := 35) dX10_lay__32 rfl rfl (fun c32 => ?_) (fun c32 => ?_)
        · refine a_iconst (n := 38) dX10_lay__37 rfl ⟨by decide, by decide⟩ ?_
          refine a_istore_n (n := 39) dX10_lay__38 rfl (by decide) ?_
          refine a_iconst (n := 40) dX10_lay__39 rfl ⟨by decide, by decide⟩ ?_
          refine a_istore (n := 42) dX10_lay__40 rfl (by decide) ?_
          exact m_lay_l hz hR hP.2 hB (by omega) (by omega) (hi 37 25).toNat 0 0 rfl (by omega) (by omega)
        · refine a_iconst (n := 36) dX10_lay__35 rfl ⟨by decide, by decide⟩ ?_
          refine a_zreturn dX10_lay__36 rfl (by omega) ?_
          first | (exfalso; omega; done) | exact ⟨rfl, rfl, rfl, Or.inr ⟨by omega, rfl, rfl⟩⟩
/-- how many of the first n there are for which f is not 0; not below 0 -/
def mCnt (f : Int → Int) : Nat → Int
  | 0 => 0
  | n + 1 => mCnt f n + if f n = 0 then 0 else 1
def mCnt0 (f : Int → Int) : Nat → Int
  | 0 => 0
  | n + 1 => mCnt0 f n + if f n < 0 then 0 else 1
theorem mCnt_s {f : Int → Int} {k : Int} (h : 0 ≤ k) : mCnt f (k + 1).toNat = mCnt f k.toNat + if f k = 0 then 0 else 1 := by
  rw [show (k + 1).toNat = k.toNat + 1 by omega, mCnt, Int.toNat_of_nonneg h]
theorem mCnt0_s {f : Int → Int} {k : Int} (h : 0 ≤ k) : mCnt0 f (k + 1).toNat = mCnt0 f k.toNat + if f k < 0 then 0 else 1 := by
  rw [show (k + 1).toNat = k.toNat + 1 by omega, mCnt0, Int.toNat_of_nonneg h]
theorem mCnt_b {f : Int → Int} (n : Nat) : 0 ≤ mCnt f n ∧ mCnt f n ≤ n := by
  induction n with
  | zero => exact ⟨Int.le_refl _, Int.le_refl _⟩
  | succ n ih => rw [mCnt]; split <;> omega
theorem mCnt0_b {f : Int → Int} (n : Nat) : 0 ≤ mCnt0 f n ∧ mCnt0 f n ≤ n := by
  induction n with
  | zero => exact ⟨Int.le_refl _, Int.le_refl _⟩
  | succ n ih => rw [mCnt0]; split <;> omega
/-- what count answers -/
def mCount (hi : aI) (x : Int) : Int := if x = 0 then hi 37 25 else if x = 1 then hi 37 24 else if x = 2 then hi 37 45 else if x = 3 then hi 37 37 else if x = 4 then hi 37 41 else if x = 5 then hi 37 54 else if x = 6 then mCnt (hi 62) (hi 37 25).toNat else if x = 7 then hi 43 (hi 37 15) else if x = 8 then hi 37 2 else if x = 9 then mCnt0 (hi 59) (hi 37 25).toNat else -1
set_option maxRecDepth 100000 in
set_option maxHeartbeats 4000000 in
theorem m_count_l (hz : stZ z) (hR : stR hr) (hP : hi 37 25 ≤ 40) (hh : 0 ≤ hi 37 15 ∧ hi 37 15 ≤ 1) {x : Int} : ∀ (n : Nat) (u v k : Int), u = mCnt (hi 62) k.toNat → v = mCnt0 (hi 59) k.toNat → 0 ≤ k → k + n = hi 37 25 → a_wp G mX10_count (d + 0) 12 [some (vR 37), some (vI x), some (vI u), some (vI v), some (vI k)] [] z hr (up2 hi 37 0 0) hl (fun r z' hr' hi' hl' => z' = z ∧ hr' = hr ∧ hl' = hl ∧ r = some (vI (mCount hi x)) ∧ hi' = up2 hi 37 0 0) := by
  intro n
  induction n with
  | zero =>
    intro u v k e1 e2 h0 h1
    rw [show k = hi 37 25 by omega] at e1 e2
    refine a_iload (n := 14) dX10_count_12 rfl rfl ?_
    refine a_aload_n (n := 15) dX10_count_14 rfl rfl ?_
    refine a_getI (n := 18) dX10_count_15 rfl fX10_258 (s37 hz) ?_
    try simp only [up2_eq, Nat.reduceEqDiff, Int.reduceEq, Int.reduceNeg, and_true, true_and, and_false, false_and, and_self, if_true, if_false, ite_true, ite_false, reduceIte, eq_self]
    refine a_icmp_ge (t := 63) (n := 21) dX10_count_18 rfl rfl (fun c18 => ?_) (fun c18 => ?_)
    · refine a_iload_n (n := 64) dX10_count_63 rfl rfl ?_
      by_cases hw64 : x < 0 ∨ 9 < x
      · refine a_tableOut (t := 169) dX10_count_64 hw64 rfl ?_
        refine a_iconst (n := 170) dX10_count_169 rfl ⟨by decide, by decide⟩ ?_
        refine a_ireturn dX10_count_170 rfl ?_
        exact ⟨rfl, rfl, rfl, by first | rfl | (rw [e1]; rfl) | (rw [e2]; rfl) | (unfold mCount; simp only [show ¬ x = 0 by omega, show ¬ x = 1 by omega, show ¬ x = 2 by omega, show ¬ x = 3 by omega, show ¬ x = 4 by omega, show ¬ x = 5 by omega, show ¬ x = 6 by omega, show ¬ x = 7 by omega, show ¬ x = 8 by omega, show ¬ x = 9 by omega, if_false]), rfl⟩
      · have hx64 : x = 0 ∨ x = 1 ∨ x = 2 ∨ x = 3 ∨ x = 4 ∨ x = 5 ∨ x = 6 ∨ x = 7 ∨ x = 8 ∨ x = 9 := by omega
        rcases hx64 with rfl | rfl | rfl | rfl | rfl | rfl | rfl | rfl | rfl | rfl
        · refine a_tableIn (off := 56) (t := 120) dX10_count_64 (by decide) (by decide) rfl rfl ?_
          refine a_aload_n (n := 121) dX10_count_120 rfl rfl ?_
          refine a_getI (n := 124) dX10_count_121 rfl fX10_258 (s37 hz) ?_
          try simp only [up2_eq, Nat.reduceEqDiff, Int.reduceEq, Int.reduceNeg, and_true, true_and, and_false, false_and, and_self, if_true, if_false, ite_true, ite_false, reduceIte, eq_self]
          refine a_ireturn dX10_count_124 rfl ?_
          exact ⟨rfl, rfl, rfl, by first | rfl | (rw [e1]; rfl) | (rw [e2]; rfl) | (unfold mCount; simp only [show ¬ x = 0 by omega, show ¬ x = 1 by omega, show ¬ x = 2 by omega, show ¬ x = 3 by omega, show ¬ x = 4 by omega, show ¬ x = 5 by omega, show ¬ x = 6 by omega, show ¬ x = 7 by omega, show ¬ x = 8 by omega, show ¬ x = 9 by omega, if_false]), rfl⟩
        · refine a_tableIn (off := 61) (t := 125) dX10_count_64 (by decide) (by decide) rfl rfl ?_
          refine a_aload_n (n := 126) dX10_count_125 rfl rfl ?_
          refine a_getI (n := 129) dX10_count_126 rfl fX10_255 (s37 hz) ?_
          try simp only [up2_eq, Nat.reduceEqDiff, Int.reduceEq, Int.reduceNeg, and_true, true_and, and_false, false_and, and_self, if_true, if_false, ite_true, ite_false, reduceIte, eq_self]
          refine a_ireturn dX10_count_129 rfl ?_
          exact ⟨rfl, rfl, rfl, by first | rfl | (rw [e1]; rfl) | (rw [e2]; rfl) | (unfold mCount; simp only [show ¬ x = 0 by omega, show ¬ x = 1 by omega, show ¬ x = 2 by omega, show ¬ x = 3 by omega, show ¬ x = 4 by omega, show ¬ x = 5 by omega, show ¬ x = 6 by omega, show ¬ x = 7 by omega, show ¬ x = 8 by omega, show ¬ x = 9 by omega, if_false]), rfl⟩
        · refine a_tableIn (off := 66) (t := 130) dX10_count_64 (by decide) (by decide) rfl rfl ?_
          refine a_aload_n (n := 131) dX10_count_130 rfl rfl ?_
          refine a_getI (n := 134) dX10_count_131 rfl fX10_308 (s37 hz) ?_
          try simp only [up2_eq, Nat.reduceEqDiff, Int.reduceEq, Int.reduceNeg, and_true, true_and, and_false, false_and, and_self, if_true, if_false, ite_true, ite_false, reduceIte, eq_self]
          refine a_ireturn dX10_count_134 rfl ?_
          exact ⟨rfl, rfl, rfl, by first | rfl | (rw [e1]; rfl) | (rw [e2]; rfl) | (unfold mCount; simp only [show ¬ x = 0 by omega, show ¬ x = 1 by omega, show ¬ x = 2 by omega, show ¬ x = 3 by omega, show ¬ x = 4 by omega, show ¬ x = 5 by omega, show ¬ x = 6 by omega, show ¬ x = 7 by omega, show ¬ x = 8 by omega, show ¬ x = 9 by omega, if_false]), rfl⟩
        · refine a_tableIn (off := 71) (t := 135) dX10_count_64 (by decide) (by decide) rfl rfl ?_
          refine a_aload_n (n := 136) dX10_count_135 rfl rfl ?_
          refine a_getI (n := 139) dX10_count_136 rfl fX10_286 (s37 hz) ?_
          try simp only [up2_eq, Nat.reduceEqDiff, Int.reduceEq, Int.reduceNeg, and_true, true_and, and_false, false_and, and_self, if_true, if_false, ite_true, ite_false, reduceIte, eq_self]
          refine a_ireturn dX10_count_139 rfl ?_
          exact ⟨rfl, rfl, rfl, by first | rfl | (rw [e1]; rfl) | (rw [e2]; rfl) | (unfold mCount; simp only [show ¬ x = 0 by omega, show ¬ x = 1 by omega, show ¬ x = 2 by omega, show ¬ x = 3 by omega, show ¬ x = 4 by omega, show ¬ x = 5 by omega, show ¬ x = 6 by omega, show ¬ x = 7 by omega, show ¬ x = 8 by omega, show ¬ x = 9 by omega, if_false]), rfl⟩
        · refine a_tableIn (off := 76) (t := 140) dX10_count_64 (by decide) (by decide) rfl rfl ?_
          refine a_aload_n (n := 141) dX10_count_140 rfl rfl ?_
          refine a_getI (n := 144) dX10_count_141 rfl fX10_293 (s37 hz) ?_
          try simp only [up2_eq, Nat.reduceEqDiff, Int.reduceEq, Int.reduceNeg, and_true, true_and, and_false, false_and, and_self, if_true, if_false, ite_true, ite_false, reduceIte, eq_self]
          refine a_ireturn dX10_count_144 rfl ?_
          exact ⟨rfl, rfl, rfl, by first | rfl | (rw [e1]; rfl) | (rw [e2]; rfl) | (unfold mCount; simp only [show ¬ x = 0 by omega, show ¬ x = 1 by omega, show ¬ x = 2 by omega, show ¬ x = 3 by omega, show ¬ x = 4 by omega, show ¬ x = 5 by omega, show ¬ x = 6 by omega, show ¬ x = 7 by omega, show ¬ x = 8 by omega, show ¬ x = 9 by omega, if_false]), rfl⟩
        · refine a_tableIn (off := 81) (t := 145) dX10_count_64 (by decide) (by decide) rfl rfl ?_
          refine a_aload_n (n := 146) dX10_count_145 rfl rfl ?_
          refine a_getI (n := 149) dX10_count_146 rfl fX10_342 (s37 hz) ?_
          try simp only [up2_eq, Nat.reduceEqDiff, Int.reduceEq, Int.reduceNeg, and_true, true_and, and_false, false_and, and_self, if_true, if_false, ite_true, ite_false, reduceIte, eq_self]
          refine a_ireturn dX10_count_149 rfl ?_
          exact ⟨rfl, rfl, rfl, by first | rfl | (rw [e1]; rfl) | (rw [e2]; rfl) | (unfold mCount; simp only [show ¬ x = 0 by omega, show ¬ x = 1 by omega, show ¬ x = 2 by omega, show ¬ x = 3 by omega, show ¬ x = 4 by omega, show ¬ x = 5 by omega, show ¬ x = 6 by omega, show ¬ x = 7 by omega, show ¬ x = 8 by omega, show ¬ x = 9 by omega, if_false]), rfl⟩
        · refine a_tableIn (off := 86) (t := 150) dX10_count_64 (by decide) (by decide) rfl rfl ?_
          refine a_iload_n (n := 151) dX10_count_150 rfl rfl ?_
          refine a_ireturn dX10_count_151 rfl ?_
          exact ⟨rfl, rfl, rfl, by first | rfl | (rw [e1]; rfl) | (rw [e2]; rfl) | (unfold mCount; simp only [show ¬ x = 0 by omega, show ¬ x = 1 by omega, show ¬ x = 2 by omega, show ¬ x = 3 by omega, show ¬ x = 4 by omega, show ¬ x = 5 by omega, show ¬ x = 6 by omega, show ¬ x = 7 by omega, show ¬ x = 8 by omega, show ¬ x = 9 by omega, if_false]), rfl⟩
        · refine a_tableIn (off := 88) (t := 152) dX10_count_64 (by decide) (by decide) rfl rfl ?_
          refine a_aload_n (n := 153) dX10_count_152 rfl rfl ?_
          refine a_getR (n := 156) dX10_count_153 rfl fX10_59 (s37 hz) (r37_10 hR) ?_
          refine a_aload_n (n := 157) dX10_count_156 rfl rfl ?_
          refine a_getI (n := 160) dX10_count_157 rfl fX10_219 (s37 hz) ?_
          try simp only [up2_eq, Nat.reduceEqDiff, Int.reduceEq, Int.reduceNeg, and_true, true_and, and_false, false_and, and_self, if_true, if_false, ite_true, ite_false, reduceIte, eq_self]
          refine a_iald (n := 161) dX10_count_160 rfl (s43 hz) (by omega) (by omega) ?_
          try simp only [up2_eq, Nat.reduceEqDiff, Int.reduceEq, Int.reduceNeg, and_true, true_and, and_false, false_and, and_self, if_true, if_false, ite_true, ite_false, reduceIte, eq_self]
          refine a_ireturn dX10_count_161 rfl ?_
          exact ⟨rfl, rfl, rfl, by first | rfl | (rw [e1]; rfl) | (rw [e2]; rfl) | (unfold mCount; simp only [show ¬ x = 0 by omega, show ¬ x = 1 by omega, show ¬ x = 2 by omega, show ¬ x = 3 by omega, show ¬ x = 4 by omega, show ¬ x = 5 by omega, show ¬ x = 6 by omega, show ¬ x = 7 by omega, show ¬ x = 8 by omega, show ¬ x = 9 by omega, if_false]), rfl⟩
        · refine a_tableIn (off := 98) (t := 162) dX10_count_64 (by decide) (by decide) rfl rfl ?_
          refine a_aload_n (n := 163) dX10_count_162 rfl rfl ?_
          refine a_getI (n := 166) dX10_count_163 rfl fX10_11 (s37 hz) ?_
          try simp only [up2_eq, Nat.reduceEqDiff, Int.reduceEq, Int.reduceNeg, and_true, true_and, and_false, false_and, and_self, if_true, if_false, ite_true, ite_false, reduceIte, eq_self]
          refine a_ireturn dX10_count_166 rfl ?_
          exact ⟨rfl, rfl, rfl, by first | rfl | (rw [e1]; rfl) | (rw [e2]; rfl) | (unfold mCount; simp only [show ¬ x = 0 by omega, show ¬ x = 1 by omega, show ¬ x = 2 by omega, show ¬ x = 3 by omega, show ¬ x = 4 by omega, show ¬ x = 5 by omega, show ¬ x = 6 by omega, show ¬ x = 7 by omega, show ¬ x = 8 by omega, show ¬ x = 9 by omega, if_false]), rfl⟩
        · refine a_tableIn (off := 103) (t := 167) dX10_count_64 (by decide) (by decide) rfl rfl ?_
          refine a_iload_n (n := 168) dX10_count_167 rfl rfl ?_
          refine a_ireturn dX10_count_168 rfl ?_
          exact ⟨rfl, rfl, rfl, by first | rfl | (rw [e1]; rfl) | (rw [e2]; rfl) | (unfold mCount; simp only [show ¬ x = 0 by omega, show ¬ x = 1 by omega, show ¬ x = 2 by omega, show ¬ x = 3 by omega, show ¬ x = 4 by omega, show ¬ x = 5 by omega, show ¬ x = 6 by omega, show ¬ x = 7 by omega, show ¬ x = 8 by omega, show ¬ x = 9 by omega, if_false]), rfl⟩
    · exfalso; omega
  | succ n ih =>
    intro u v k e1 e2 h0 h1
    have e3 := mCnt_b (f := hi 62) k.toNat
    have e4 := mCnt0_b (f := hi 59) k.toNat
    rw [← e1] at e3
    rw [← e2] at e4
    refine a_iload (n := 14) dX10_count_12 rfl rfl ?_
    refine a_aload_n (n := 15) dX10_count_14 rfl rfl ?_
    refine a_getI (n := 18) dX10_count_15 rfl fX10_258 (s37 hz) ?_
    try simp only [up2_eq, Nat.reduceEqDiff, Int.reduceEq, Int.reduceNeg, and_true, true_and, and_false, false_and, and_self, if_true, if_false, ite_true, ite_false, reduceIte, eq_self]
    refine a_icmp_ge (t := 63) (n := 21) dX10_count_18 rfl rfl (fun c18 => ?_) (fun c18 => ?_)
    · exfalso; omega
    · refine a_iload_n (n := 22) dX10_count_21 rfl rfl ?_
      refine a_aload_n (n := 23) dX10_count_22 rfl rfl ?_
      refine a_getR (n := 26) dX10_count_23 rfl fX10_117 (s37 hz) (r37_35 hR) ?_
      refine a_iload (n := 28) dX10_count_26 rfl rfl ?_
      refine a_zald (n := 29) dX10_count_28 rfl (s62 hz) (by omega) (by omega) ?_
      try simp only [up2_eq, Nat.reduceEqDiff, Int.reduceEq, Int.reduceNeg, and_true, true_and, and_false, false_and, and_self, if_true, if_false, ite_true, ite_false, reduceIte, eq_self]
      refine a_if_eq (t := 36) (n := 32) dX10_count_29 rfl rfl (fun c29 => ?_) (fun c29 => ?_)
      · refine a_iconst (n := 37) dX10_count_36 rfl ⟨by decide, by decide⟩ ?_
        refine a_iadd (n := 38) dX10_count_37 rfl ⟨by omega, by omega⟩ ?_
        refine a_istore_n (n := 39) dX10_count_38 rfl (by decide) ?_
        refine a_iload_n (n := 40) dX10_count_39 rfl rfl ?_
        refine a_aload_n (n := 41) dX10_count_40 rfl rfl ?_
        refine a_getR (n := 44) dX10_count_41 rfl fX10_108 (s37 hz) (r37_32 hR) ?_
        refine a_iload (n := 46) dX10_count_44 rfl rfl ?_
        refine a_iald (n := 47) dX10_count_46 rfl (s59 hz) (by omega) (by omega) ?_
        try simp only [up2_eq, Nat.reduceEqDiff, Int.reduceEq, Int.reduceNeg, and_true, true_and, and_false, false_and, and_self, if_true, if_false, ite_true, ite_false, reduceIte, eq_self]
        refine a_if_lt (t := 54) (n := 50) dX10_count_47 rfl rfl (fun c47 => ?_) (fun c47 => ?_)
        · refine a_iconst (n := 55) dX10_count_54 rfl ⟨by decide, by decide⟩ ?_
          refine a_iadd (n := 56) dX10_count_55 rfl ⟨by omega, by omega⟩ ?_
          refine a_istore_n (n := 57) dX10_count_56 rfl (by decide) ?_
          refine a_iinc (n := 60) dX10_count_57 rfl (by decide) rfl ⟨by omega, by omega⟩ ?_
          refine a_goto (t := 12) dX10_count_60 rfl ?_
          exact ih _ _ _ (by rw [mCnt_s h0, ← e1]; first | (rw [if_pos (by omega)]; done) | (rw [if_neg (by omega)]; done)) (by rw [mCnt0_s h0, ← e2]; first | (rw [if_pos (by omega)]; done) | (rw [if_neg (by omega)]; done)) (by omega) (by omega)
        · refine a_iconst (n := 51) dX10_count_50 rfl ⟨by decide, by decide⟩ ?_
          refine a_goto (t := 55) dX10_count_51 rfl ?_
          refine a_iadd (n := 56) dX10_count_55 rfl ⟨by omega, by omega⟩ ?_
          refine a_istore_n (n := 57) dX10_count_56 rfl (by decide) ?_
          refine a_iinc (n := 60) dX10_count_57 rfl (by decide) rfl ⟨by omega, by omega⟩ ?_
          refine a_goto (t := 12) dX10_count_60 rfl ?_
          exact ih _ _ _ (by rw [mCnt_s h0, ← e1]; first | (rw [if_pos (by omega)]; done) | (rw [if_neg (by omega)]; done)) (by rw [mCnt0_s h0, ← e2]; first | (rw [if_pos (by omega)]; done) | (rw [if_neg (by omega)]; done)) (by omega) (by omega)
      · refine a_iconst (n := 33) dX10_count_32 rfl ⟨by decide, by decide⟩ ?_
        refine a_goto (t := 37) dX10_count_33 rfl ?_
        refine a_iadd (n := 38) dX10_count_37 rfl ⟨by omega, by omega⟩ ?_
        refine a_istore_n (n := 39) dX10_count_38 rfl (by decide) ?_
        refine a_iload_n (n := 40) dX10_count_39 rfl rfl ?_
        refine a_aload_n (n := 41) dX10_count_40 rfl rfl ?_
        refine a_getR (n := 44) dX10_count_41 rfl fX10_108 (s37 hz) (r37_32 hR) ?_
        refine a_iload (n := 46) dX10_count_44 rfl rfl ?_
        refine a_iald (n := 47) dX10_count_46 rfl (s59 hz) (by omega) (by omega) ?_
        try simp only [up2_eq, Nat.reduceEqDiff, Int.reduceEq, Int.reduceNeg, and_true, true_and, and_false, false_and, and_self, if_true, if_false, ite_true, ite_false, reduceIte, eq_self]
        refine a_if_lt (t := 54) (n := 50) dX10_count_47 rfl rfl (fun c47 => ?_) (fun c47 => ?_)
        · refine a_iconst (n := 55) dX10_count_54 rfl ⟨by decide, by decide⟩ ?_
          refine a_iadd (n := 56) dX10_count_55 rfl ⟨by omega, by omega⟩ ?_
          refine a_istore_n (n := 57) dX10_count_56 rfl (by decide) ?_
          refine a_iinc (n := 60) dX10_count_57 rfl (by decide) rfl ⟨by omega, by omega⟩ ?_
          refine a_goto (t := 12) dX10_count_60 rfl ?_
          exact ih _ _ _ (by rw [mCnt_s h0, ← e1]; first | (rw [if_pos (by omega)]; done) | (rw [if_neg (by omega)]; done)) (by rw [mCnt0_s h0, ← e2]; first | (rw [if_pos (by omega)]; done) | (rw [if_neg (by omega)]; done)) (by omega) (by omega)
        · refine a_iconst (n := 51) dX10_count_50 rfl ⟨by decide, by decide⟩ ?_
          refine a_goto (t := 55) dX10_count_51 rfl ?_
          refine a_iadd (n := 56) dX10_count_55 rfl ⟨by omega, by omega⟩ ?_
          refine a_istore_n (n := 57) dX10_count_56 rfl (by decide) ?_
          refine a_iinc (n := 60) dX10_count_57 rfl (by decide) rfl ⟨by omega, by omega⟩ ?_
          refine a_goto (t := 12) dX10_count_60 rfl ?_
          exact ih _ _ _ (by rw [mCnt_s h0, ← e1]; first | (rw [if_pos (by omega)]; done) | (rw [if_neg (by omega)]; done)) (by rw [mCnt0_s h0, ← e2]; first | (rw [if_pos (by omega)]; done) | (rw [if_neg (by omega)]; done)) (by omega) (by omega)
set_option maxRecDepth 100000 in
set_option maxHeartbeats 4000000 in
theorem m_count (hz : stZ z) (hR : stR hr) (hP : 0 ≤ hi 37 25 ∧ hi 37 25 ≤ 40) (hh : 0 ≤ hi 37 15 ∧ hi 37 15 ≤ 1) {x : Int} : a_ct G mX10_count (d + 0) [vR 37, vI x] z hr hi hl (fun r z' hr' hi' hl' => z' = z ∧ hr' = hr ∧ hl' = hl ∧ r = some (vI (mCount hi x)) ∧ hi' = up2 hi 37 0 0) := by
  refine a_ct_of rfl (Nat.le_of_ble_eq_true rfl) ?_
  refine a_aload_n (n := 1) dX10_count_0 rfl rfl ?_
  refine a_iconst (n := 2) dX10_count_1 rfl ⟨by decide, by decide⟩ ?_
  refine a_putI (n := 5) dX10_count_2 rfl fX10_1 rfl (s37 hz) (Or.inl rfl) ?_
  refine a_iconst (n := 6) dX10_count_5 rfl ⟨by decide, by decide⟩ ?_
  refine a_istore_n (n := 7) dX10_count_6 rfl (by decide) ?_
  refine a_iconst (n := 8) dX10_count_7 rfl ⟨by decide, by decide⟩ ?_
  refine a_istore_n (n := 9) dX10_count_8 rfl (by decide) ?_
  refine a_iconst (n := 10) dX10_count_9 rfl ⟨by decide, by decide⟩ ?_
  refine a_istore (n := 12) dX10_count_10 rfl (by decide) ?_
  exact m_count_l hz hR hP.2 hh (hi 37 25).toNat 0 0 0 rfl rfl (by omega) (by omega)
end M5
