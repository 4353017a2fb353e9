section M4
variable {G : aG} {d : Nat} {z : aZ} {hr : aR} {hi hl : aI}
theorem up2_f {α : Type} {f : Nat → Int → α} {a b : Nat} {i : Int} {v : α} (h : b ≠ a) : up2 f a i v b = f b := by funext j; exact up2_n h
abbrev mGiven (hi : aI) (p dy : Int) : Int := mLast (hi 64) (hi 66) (hi 65) p dy (hi 37 37).toNat
/-- the NAME of p given as of dy, followed by JOINS as of jd -/
def mName (hi : aI) (N : Nat) (p dy jd : Int) : Int := if mGiven hi p dy = 0 then 0 else mEnd (fun y => mJoin hi y jd) N (mGiven hi p dy)
theorem mJoin_u {v x dy : Int} : mJoin (up2 hi 37 0 v) x dy = mJoin hi x dy := by
  show mLast (up2 hi 37 0 v 67) (up2 hi 37 0 v 69) (up2 hi 37 0 v 68) x dy (up2 hi 37 0 v 37 41).toNat = _
  rw [up2_f (by decide), up2_f (by decide), up2_f (by decide), up2_m (by decide)]
theorem mGiven_u {v x dy : Int} : mGiven (up2 hi 37 0 v) x dy = mGiven hi x dy := by
  show mLast (up2 hi 37 0 v 64) (up2 hi 37 0 v 66) (up2 hi 37 0 v 65) x dy (up2 hi 37 0 v 37 37).toNat = _
  rw [up2_f (by decide), up2_f (by decide), up2_f (by decide), up2_m (by decide)]
theorem mJoinF_u {v dy : Int} : (fun y => mJoin (up2 hi 37 0 v) y dy) = (fun y => mJoin hi y dy) := by funext y; exact mJoin_u
theorem mName_u {v p dy jd : Int} {N : Nat} : mName (up2 hi 37 0 v) N p dy jd = mName hi N p dy jd := by
  unfold mName; rw [mGiven_u, mJoinF_u]
set_option maxRecDepth 100000 in
set_option maxHeartbeats 4000000 in
theorem m_nameOf_l (hz : stZ z) (hR : stR hr) (hg : hi 37 37 ≤ 300) (hj : 0 ≤ hi 37 41 ∧ hi 37 41 ≤ 100) {p dy jd : Int} {N : Nat} (hZ : ∀ x, mZ (fun y => mJoin hi y jd) N (mJoin hi x jd)) : ∀ (n : Nat) (g k : Int), g = mLast (hi 64) (hi 66) (hi 65) p dy k.toNat → 0 ≤ k → k + n = hi 37 37 → a_wp G mX10_nameOf (d + 2) 6 [some (vR 37), some (vI p), some (vI dy), some (vI jd), some (vI g), some (vI k)] [] z hr hi hl (Qs z hr hi hl (fun r => r = some (vI (mName hi N p dy jd)))) := by
  intro n
  induction n with
  | zero =>
    intro g k e1 h0 h1
    have e2 : g = mGiven hi p dy := by rw [e1, show k = hi 37 37 by omega]
    refine a_iload (n := 8) dX10_nameOf_6 rfl rfl ?_
    refine a_aload_n (n := 9) dX10_nameOf_8 rfl rfl ?_
    refine a_getI (n := 12) dX10_nameOf_9 rfl fX10_286 (s37 hz) ?_
    refine a_icmp_ge (t := 57) (n := 15) dX10_nameOf_12 rfl rfl (fun c12 => ?_) (fun c12 => ?_)
    · refine a_iload (n := 59) dX10_nameOf_57 rfl rfl ?_
      refine a_if_ne (t := 66) (n := 62) dX10_nameOf_59 rfl rfl (fun c59 => ?_) (fun c59 => ?_)
      · refine a_aload_n (n := 67) dX10_nameOf_66 rfl rfl ?_
        refine a_iload (n := 69) dX10_nameOf_67 rfl rfl ?_
        refine a_iload_n (n := 70) dX10_nameOf_69 rfl rfl ?_
        refine a_callV (M2 := mX10_leads) (n := 73) dX10_nameOf_70 rfl (m_leads (d := d) (N := N) hz hR hj (hZ _)) kX10_leads lX10_299 iX10_leads eX10_leads (by decide) (by omega) (s37 hz) rfl (Nat.le_of_ble_eq_true rfl) (fun q70 z70 hr70 hi70 hl70 h70 => ?_)
        obtain ⟨rfl, rfl, rfl, rfl, rfl⟩ := h70
        show a_wp G _ _ _ _ (vI _ :: _) _ _ _ _ _
        refine a_ireturn dX10_nameOf_73 rfl ?_
        first | exact ⟨rfl, rfl, rfl, rfl, by unfold mName; rw [← e2, if_pos (by omega)]⟩ | exact ⟨rfl, rfl, rfl, rfl, by unfold mName; rw [← e2, if_neg (by omega)]⟩
      · refine a_iconst (n := 63) dX10_nameOf_62 rfl ⟨by decide, by decide⟩ ?_
        refine a_goto (t := 73) dX10_nameOf_63 rfl ?_
        refine a_ireturn dX10_nameOf_73 rfl ?_
        first | exact ⟨rfl, rfl, rfl, rfl, by unfold mName; rw [← e2, if_pos (by omega)]⟩ | exact ⟨rfl, rfl, rfl, rfl, by unfold mName; rw [← e2, if_neg (by omega)]⟩
    · exfalso; omega
  | succ n ih =>
    intro g k e1 h0 h1
    refine a_iload (n := 8) dX10_nameOf_6 rfl rfl ?_
    refine a_aload_n (n := 9) dX10_nameOf_8 rfl rfl ?_
    refine a_getI (n := 12) dX10_nameOf_9 rfl fX10_286 (s37 hz) ?_
    refine a_icmp_ge (t := 57) (n := 15) dX10_nameOf_12 rfl rfl (fun c12 => ?_) (fun c12 => ?_)
    · exfalso; omega
    · refine a_aload_n (n := 16) dX10_nameOf_15 rfl rfl ?_
      refine a_getR (n := 19) dX10_nameOf_16 rfl fX10_123 (s37 hz) (r37_38 hR) ?_
      refine a_iload (n := 21) dX10_nameOf_19 rfl rfl ?_
      refine a_iald (n := 22) dX10_nameOf_21 rfl (s64 hz) (by omega) (by omega) ?_
      refine a_iload_n (n := 23) dX10_nameOf_22 rfl rfl ?_
      refine a_icmp_ne (t := 47) (n := 26) dX10_nameOf_23 rfl rfl (fun c23 => ?_) (fun c23 => ?_)
      · refine a_iload (n := 49) dX10_nameOf_47 rfl rfl ?_
        refine a_istore (n := 51) dX10_nameOf_49 rfl (by decide) ?_
        refine a_iinc (n := 54) dX10_nameOf_51 rfl (by decide) rfl ⟨by omega, by omega⟩ ?_
        refine a_goto (t := 6) dX10_nameOf_54 rfl ?_
        exact ih _ _ (by rw [mLast_s h0]; first | (rw [if_pos (by omega)]; done) | (rw [if_neg (by omega)]; exact e1)) (by omega) (by omega)
      · refine a_aload_n (n := 27) dX10_nameOf_26 rfl rfl ?_
        refine a_getR (n := 30) dX10_nameOf_27 rfl fX10_129 (s37 hz) (r37_40 hR) ?_
        refine a_iload (n := 32) dX10_nameOf_30 rfl rfl ?_
        refine a_iald (n := 33) dX10_nameOf_32 rfl (s66 hz) (by omega) (by omega) ?_
        refine a_iload_n (n := 34) dX10_nameOf_33 rfl rfl ?_
        refine a_icmp_gt (t := 47) (n := 37) dX10_nameOf_34 rfl rfl (fun c34 => ?_) (fun c34 => ?_)
        · refine a_iload (n := 49) dX10_nameOf_47 rfl rfl ?_
          refine a_istore (n := 51) dX10_nameOf_49 rfl (by decide) ?_
          refine a_iinc (n := 54) dX10_nameOf_51 rfl (by decide) rfl ⟨by omega, by omega⟩ ?_
          refine a_goto (t := 6) dX10_nameOf_54 rfl ?_
          exact ih _ _ (by rw [mLast_s h0]; first | (rw [if_pos (by omega)]; done) | (rw [if_neg (by omega)]; exact e1)) (by omega) (by omega)
        · refine a_aload_n (n := 38) dX10_nameOf_37 rfl rfl ?_
          refine a_getR (n := 41) dX10_nameOf_38 rfl fX10_126 (s37 hz) (r37_39 hR) ?_
          refine a_iload (n := 43) dX10_nameOf_41 rfl rfl ?_
          refine a_iald (n := 44) dX10_nameOf_43 rfl (s65 hz) (by omega) (by omega) ?_
          refine a_goto (t := 49) dX10_nameOf_44 rfl ?_
          refine a_istore (n := 51) dX10_nameOf_49 rfl (by decide) ?_
          refine a_iinc (n := 54) dX10_nameOf_51 rfl (by decide) rfl ⟨by omega, by omega⟩ ?_
          refine a_goto (t := 6) dX10_nameOf_54 rfl ?_
          exact ih _ _ (by rw [mLast_s h0]; first | (rw [if_pos (by omega)]; done) | (rw [if_neg (by omega)]; exact e1)) (by omega) (by omega)
set_option maxRecDepth 100000 in
set_option maxHeartbeats 4000000 in
theorem m_nameOf (hz : stZ z) (hR : stR hr) (hg : 0 ≤ hi 37 37 ∧ hi 37 37 ≤ 300) (hj : 0 ≤ hi 37 41 ∧ hi 37 41 ≤ 100) {p dy jd : Int} {N : Nat} (hZ : ∀ x, mZ (fun y => mJoin hi y jd) N (mJoin hi x jd)) : a_ct G mX10_nameOf (d + 2) [vR 37, vI p, vI dy, vI jd] z hr hi hl (Qs z hr hi hl (fun r => r = some (vI (mName hi N p dy jd)))) := by
  refine a_ct_of rfl (Nat.le_of_ble_eq_true rfl) ?_
  refine a_iconst (n := 1) dX10_nameOf_0 rfl ⟨by decide, by decide⟩ ?_
  refine a_istore (n := 3) dX10_nameOf_1 rfl (by decide) ?_
  refine a_iconst (n := 4) dX10_nameOf_3 rfl ⟨by decide, by decide⟩ ?_
  refine a_istore (n := 6) dX10_nameOf_4 rfl (by decide) ?_
  exact m_nameOf_l hz hR hg.2 hj hZ (hi 37 37).toNat 0 0 rfl (by omega) (by omega)
set_option maxRecDepth 100000 in
set_option maxHeartbeats 4000000 in
theorem m_join (hz : stZ z) (hR : stR hr) (hj : 0 ≤ hi 37 41 ∧ hi 37 41 ≤ 100) {x y : Int} {N : Nat} (hZ : mZ (fun y => mJoin hi y (hi 37 24)) N y) : a_ct G mX10_join (d + 2) [vR 37, vI x, vI y] z hr hi hl (fun r z' hr' hi' hl' => z' = z ∧ hr' = hr ∧ hl' = hl ∧ ((((1 ≤ x ∧ x ≤ 50) ∧ (y = 0 ∨ (1 ≤ y ∧ y ≤ 50)) ∧ ¬ x = y ∧ ¬ hi 37 41 = 100 ∧ ¬ (0 < y ∧ mBack (fun y => mJoin hi y (hi 37 24)) x (N + 1) y)) ∧ r = some (vI (1)) ∧ hi' = up2 (up2 (up2 (up2 (up2 hi 37 0 0) 67 (hi 37 41) x) 68 (hi 37 41) y) 69 (hi 37 41) (hi 37 24)) 37 41 (hi 37 41 + 1)) ∨ (¬ ((1 ≤ x ∧ x ≤ 50) ∧ (y = 0 ∨ (1 ≤ y ∧ y ≤ 50)) ∧ ¬ x = y ∧ ¬ hi 37 41 = 100 ∧ ¬ (0 < y ∧ mBack (fun y => mJoin hi y (hi 37 24)) x (N + 1) y)) ∧ r = some (vI (0)) ∧ hi' = up2 hi 37 0 0))) := by
  refine a_ct_of rfl (Nat.le_of_ble_eq_true rfl) ?_
  refine a_aload_n (n := 1) dX10_join_0 rfl rfl ?_
  refine a_iconst (n := 2) dX10_join_1 rfl ⟨by decide, by decide⟩ ?_
  refine a_putI (n := 5) dX10_join_2 rfl fX10_1 rfl (s37 hz) (Or.inl rfl) ?_
  refine a_iload_n (n := 6) dX10_join_5 rfl rfl ?_
  refine a_callS (M2 := mX10_isName) (n := 9) dX10_join_6 rfl (m_isName (d := d + 1)) kX10_isName lX10_283 sX10_isName (by omega) rfl (Nat.le_of_ble_eq_true rfl) (fun q6 z6 hr6 hi6 hl6 h6 => ?_)
  obtain ⟨rfl, rfl, rfl, rfl, b6, rfl, hb6⟩ := h6
  show a_wp G _ _ _ _ (vI b6 :: _) _ _ _ _ _
  refine a_if_eq (t := 50) (n := 12) dX10_join_9 rfl rfl (fun c9 => ?_) (fun c9 => ?_)
  · refine a_iconst (n := 51) dX10_join_50 rfl ⟨by decide, by decide⟩ ?_
    refine a_zreturn dX10_join_51 rfl (by omega) ?_
    first | exact ⟨rfl, rfl, rfl, Or.inr ⟨fun ⟨q1, q2, q3, q4, q5⟩ => by clear q5; omega, rfl, rfl⟩⟩ | exact ⟨rfl, rfl, rfl, Or.inr ⟨fun ⟨q1, q2, q3, q4, q5⟩ => q5 ⟨by omega, hb44.elim (fun e => e.2) (fun e => absurd e.1 c47)⟩, rfl, rfl⟩⟩ | exact ⟨rfl, rfl, rfl, Or.inl ⟨⟨by omega, by omega, by omega, by omega, fun q => by have := q.1; omega⟩, rfl, rfl⟩⟩ | exact ⟨rfl, rfl, rfl, Or.inl ⟨⟨by omega, by omega, by omega, by omega, fun q => hb44.elim (fun e => absurd (e.1.symm.trans c47) (by decide)) (fun e => e.2 q.2)⟩, rfl, rfl⟩⟩
  · refine a_iload_n (n := 13) dX10_join_12 rfl rfl ?_
    refine a_if_eq (t := 23) (n := 16) dX10_join_13 rfl rfl (fun c13 => ?_) (fun c13 => ?_)
    · refine a_iload_n (n := 24) dX10_join_23 rfl rfl ?_
      refine a_iload_n (n := 25) dX10_join_24 rfl rfl ?_
      refine a_icmp_eq (t := 50) (n := 28) dX10_join_25 rfl rfl (fun c25 => ?_) (fun c25 => ?_)
      · refine a_iconst (n := 51) dX10_join_50 rfl ⟨by decide, by decide⟩ ?_
        refine a_zreturn dX10_join_51 rfl (by omega) ?_
        first | exact ⟨rfl, rfl, rfl, Or.inr ⟨fun ⟨q1, q2, q3, q4, q5⟩ => by clear q5; omega, rfl, rfl⟩⟩ | exact ⟨rfl, rfl, rfl, Or.inr ⟨fun ⟨q1, q2, q3, q4, q5⟩ => q5 ⟨by omega, hb44.elim (fun e => e.2) (fun e => absurd e.1 c47)⟩, rfl, rfl⟩⟩ | exact ⟨rfl, rfl, rfl, Or.inl ⟨⟨by omega, by omega, by omega, by omega, fun q => by have := q.1; omega⟩, rfl, rfl⟩⟩ | exact ⟨rfl, rfl, rfl, Or.inl ⟨⟨by omega, by omega, by omega, by omega, fun q => hb44.elim (fun e => absurd (e.1.symm.trans c47) (by decide)) (fun e => e.2 q.2)⟩, rfl, rfl⟩⟩
      · refine a_aload_n (n := 29) dX10_join_28 rfl rfl ?_
        refine a_getI (n := 32) dX10_join_29 rfl fX10_293 (s37 hz) ?_
        try simp only [up2_eq, Nat.reduceEqDiff, Int.reduceEq, Int.reduceNeg, and_true, true_and, and_false, false_and, and_self, if_true, if_false, ite_true, ite_false, reduceIte]
        refine a_bipush (n := 34) dX10_join_32 rfl ⟨by decide, by decide⟩ (by decide) ?_
        refine a_icmp_eq (t := 50) (n := 37) dX10_join_34 rfl rfl (fun c34 => ?_) (fun c34 => ?_)
        · refine a_iconst (n := 51) dX10_join_50 rfl ⟨by decide, by decide⟩ ?_
          refine a_zreturn dX10_join_51 rfl (by omega) ?_
          first | exact ⟨rfl, rfl, rfl, Or.inr ⟨fun ⟨q1, q2, q3, q4, q5⟩ => by clear q5; omega, rfl, rfl⟩⟩ | exact ⟨rfl, rfl, rfl, Or.inr ⟨fun ⟨q1, q2, q3, q4, q5⟩ => q5 ⟨by omega, hb44.elim (fun e => e.2) (fun e => absurd e.1 c47)⟩, rfl, rfl⟩⟩ | exact ⟨rfl, rfl, rfl, Or.inl ⟨⟨by omega, by omega, by omega, by omega, fun q => by have := q.1; omega⟩, rfl, rfl⟩⟩ | exact ⟨rfl, rfl, rfl, Or.inl ⟨⟨by omega, by omega, by omega, by omega, fun q => hb44.elim (fun e => absurd (e.1.symm.trans c47) (by decide)) (fun e => e.2 q.2)⟩, rfl, rfl⟩⟩
        · refine a_iload_n (n := 38) dX10_join_37 rfl rfl ?_
          refine a_if_le (t := 52) (n := 41) dX10_join_38 rfl rfl (fun c38 => ?_) (fun c38 => ?_)
          · refine a_aload_n (n := 53) dX10_join_52 rfl rfl ?_
            refine a_getR (n := 56) dX10_join_53 rfl fX10_132 (s37 hz) (r37_42 hR) ?_
            refine a_aload_n (n := 57) dX10_join_56 rfl rfl ?_
            refine a_getI (n := 60) dX10_join_57 rfl fX10_293 (s37 hz) ?_
            try simp only [up2_eq, Nat.reduceEqDiff, Int.reduceEq, Int.reduceNeg, and_true, true_and, and_false, false_and, and_self, if_true, if_false, ite_true, ite_false, reduceIte]
            refine a_iload_n (n := 61) dX10_join_60 rfl rfl ?_
            refine a_iast (n := 62) dX10_join_61 rfl (s67 hz) (by omega) (by omega) ?_
            refine a_aload_n (n := 63) dX10_join_62 rfl rfl ?_
            refine a_getR (n := 66) dX10_join_63 rfl fX10_135 (s37 hz) (r37_43 hR) ?_
            refine a_aload_n (n := 67) dX10_join_66 rfl rfl ?_
            refine a_getI (n := 70) dX10_join_67 rfl fX10_293 (s37 hz) ?_
            try simp only [up2_eq, Nat.reduceEqDiff, Int.reduceEq, Int.reduceNeg, and_true, true_and, and_false, false_and, and_self, if_true, if_false, ite_true, ite_false, reduceIte]
            refine a_iload_n (n := 71) dX10_join_70 rfl rfl ?_
            refine a_iast (n := 72) dX10_join_71 rfl (s68 hz) (by omega) (by omega) ?_
            refine a_aload_n (n := 73) dX10_join_72 rfl rfl ?_
            refine a_getR (n := 76) dX10_join_73 rfl fX10_138 (s37 hz) (r37_44 hR) ?_
            refine a_aload_n (n := 77) dX10_join_76 rfl rfl ?_
            refine a_getI (n := 80) dX10_join_77 rfl fX10_293 (s37 hz) ?_
            try simp only [up2_eq, Nat.reduceEqDiff, Int.reduceEq, Int.reduceNeg, and_true, true_and, and_false, false_and, and_self, if_true, if_false, ite_true, ite_false, reduceIte]
            refine a_aload_n (n := 81) dX10_join_80 rfl rfl ?_
            refine a_getI (n := 84) dX10_join_81 rfl fX10_255 (s37 hz) ?_
            try simp only [up2_eq, Nat.reduceEqDiff, Int.reduceEq, Int.reduceNeg, and_true, true_and, and_false, false_and, and_self, if_true, if_false, ite_true, ite_false, reduceIte]
            refine a_iast (n := 85) dX10_join_84 rfl (s69 hz) (by omega) (by omega) ?_
            refine a_aload_n (n := 86) dX10_join_85 rfl rfl ?_
            refine a_dup (n := 87) dX10_join_86 rfl rfl ?_
            refine a_getI (n := 90) dX10_join_87 rfl fX10_293 (s37 hz) ?_
            try simp only [up2_eq, Nat.reduceEqDiff, Int.reduceEq, Int.reduceNeg, and_true, true_and, and_false, false_and, and_self, if_true, if_false, ite_true, ite_false, reduceIte]
            refine a_iconst (n := 91) dX10_join_90 rfl ⟨by decide, by decide⟩ ?_
            refine a_iadd (n := 92) dX10_join_91 rfl ⟨by omega, by omega⟩ ?_
            refine a_putI (n := 95) dX10_join_92 rfl fX10_293 rfl (s37 hz) (Or.inl rfl) ?_
            refine a_iconst (n := 96) dX10_join_95 rfl ⟨by decide, by decide⟩ ?_
            refine a_zreturn dX10_join_96 rfl (by omega) ?_
            first | exact ⟨rfl, rfl, rfl, Or.inr ⟨fun ⟨q1, q2, q3, q4, q5⟩ => by clear q5; omega, rfl, rfl⟩⟩ | exact ⟨rfl, rfl, rfl, Or.inr ⟨fun ⟨q1, q2, q3, q4, q5⟩ => q5 ⟨by omega, hb44.elim (fun e => e.2) (fun e => absurd e.1 c47)⟩, rfl, rfl⟩⟩ | exact ⟨rfl, rfl, rfl, Or.inl ⟨⟨by omega, by omega, by omega, by omega, fun q => by have := q.1; omega⟩, rfl, rfl⟩⟩ | exact ⟨rfl, rfl, rfl, Or.inl ⟨⟨by omega, by omega, by omega, by omega, fun q => hb44.elim (fun e => absurd (e.1.symm.trans c47) (by decide)) (fun e => e.2 q.2)⟩, rfl, rfl⟩⟩
          · refine a_aload_n (n := 42) dX10_join_41 rfl rfl ?_
            refine a_iload_n (n := 43) dX10_join_42 rfl rfl ?_
            refine a_iload_n (n := 44) dX10_join_43 rfl rfl ?_
            refine a_callV (M2 := mX10_leadsBack) (n := 47) dX10_join_44 rfl (m_leadsBack (d := d) (N := N) hz hR (by simpa [up2_eq] using hj) (show 0 < x by omega) (by rw [mJoinF_u]; simpa [up2_eq] using hZ)) kX10_leadsBack lX10_296 iX10_leadsBack eX10_leadsBack (by decide) (by omega) (s37 hz) rfl (Nat.le_of_ble_eq_true rfl) (fun q44 z44 hr44 hi44 hl44 h44 => ?_)
            obtain ⟨rfl, rfl, rfl, rfl, b44, rfl, hb44⟩ := h44
            rw [mJoinF_u, up2_m (show (24 : Int) ≠ 0 by decide)] at hb44
            show a_wp G _ _ _ _ (vI b44 :: _) _ _ _ _ _
            refine a_if_eq (t := 52) (n := 50) dX10_join_47 rfl rfl (fun c47 => ?_) (fun c47 => ?_)
            · refine a_aload_n (n := 53) dX10_join_52 rfl rfl ?_
              refine a_getR (n := 56) dX10_join_53 rfl fX10_132 (s37 hz) (r37_42 hR) ?_
              refine a_aload_n (n := 57) dX10_join_56 rfl rfl ?_
              refine a_getI (n := 60) dX10_join_57 rfl fX10_293 (s37 hz) ?_
              try simp only [up2_eq, Nat.reduceEqDiff, Int.reduceEq, Int.reduceNeg, and_true, true_and, and_false, false_and, and_self, if_true, if_false, ite_true, ite_false, reduceIte]
              refine a_iload_n (n := 61) dX10_join_60 rfl rfl ?_
              refine a_iast (n := 62) dX10_join_61 rfl (s67 hz) (by omega) (by omega) ?_
              refine a_aload_n (n := 63) dX10_join_62 rfl rfl ?_
              refine a_getR (n := 66) dX10_join_63 rfl fX10_135 (s37 hz) (r37_43 hR) ?_
              refine a_aload_n (n := 67) dX10_join_66 rfl rfl ?_
              refine a_getI (n := 70) dX10_join_67 rfl fX10_293 (s37 hz) ?_
              try simp only [up2_eq, Nat.reduceEqDiff, Int.reduceEq, Int.reduceNeg, and_true, true_and, and_false, false_and, and_self, if_true, if_false, ite_true, ite_false, reduceIte]
              refine a_iload_n (n := 71) dX10_join_70 rfl rfl ?_
              refine a_iast (n := 72) dX10_join_71 rfl (s68 hz) (by omega) (by omega) ?_
              refine a_aload_n (n := 73) dX10_join_72 rfl rfl ?_
              refine a_getR (n := 76) dX10_join_73 rfl fX10_138 (s37 hz) (r37_44 hR) ?_
              refine a_aload_n (n := 77) dX10_join_76 rfl rfl ?_
              refine a_getI (n := 80) dX10_join_77 rfl fX10_293 (s37 hz) ?_
              try simp only [up2_eq, Nat.reduceEqDiff, Int.reduceEq, Int.reduceNeg, and_true, true_and, and_false, false_and, and_self, if_true, if_false, ite_true, ite_false, reduceIte]
              refine a_aload_n (n := 81) dX10_join_80 rfl rfl ?_
              refine a_getI (n := 84) dX10_join_81 rfl fX10_255 (s37 hz) ?_
              try simp only [up2_eq, Nat.reduceEqDiff, Int.reduceEq, Int.reduceNeg, and_true, true_and, and_false, false_and, and_self, if_true, if_false, ite_true, ite_false, reduceIte]
              refine a_iast (n := 85) dX10_join_84 rfl (s69 hz) (by omega) (by omega) ?_
              refine a_aload_n (n := 86) dX10_join_85 rfl rfl ?_
              refine a_dup (n := 87) dX10_join_86 rfl rfl ?_
              refine a_getI (n := 90) dX10_join_87 rfl fX10_293 (s37 hz) ?_
              try simp only [up2_eq, Nat.reduceEqDiff, Int.reduceEq, Int.reduceNeg, and_true, true_and, and_false, false_and, and_self, if_true, if_false, ite_true, ite_false, reduceIte]
              refine a_iconst (n := 91) dX10_join_90 rfl ⟨by decide, by decide⟩ ?_
              refine a_iadd (n := 92) dX10_join_91 rfl ⟨by omega, by omega⟩ ?_
              refine a_putI (n := 95) dX10_join_92 rfl fX10_293 rfl (s37 hz) (Or.inl rfl) ?_
              refine a_iconst (n := 96) dX10_join_95 rfl ⟨by decide, by decide⟩ ?_
              refine a_zreturn dX10_join_96 rfl (by omega) ?_
              first | exact ⟨rfl, rfl, rfl, Or.inr ⟨fun ⟨q1, q2, q3, q4, q5⟩ => by clear q5; omega, rfl, rfl⟩⟩ | exact ⟨rfl, rfl, rfl, Or.inr ⟨fun ⟨q1, q2, q3, q4, q5⟩ => q5 ⟨by omega, hb44.elim (fun e => e.2) (fun e => absurd e.1 c47)⟩, rfl, rfl⟩⟩ | exact ⟨rfl, rfl, rfl, Or.inl ⟨⟨by omega, by omega, by omega, by omega, fun q => by have := q.1; omega⟩, rfl, rfl⟩⟩ | exact ⟨rfl, rfl, rfl, Or.inl ⟨⟨by omega, by omega, by omega, by omega, fun q => hb44.elim (fun e => absurd (e.1.symm.trans c47) (by decide)) (fun e => e.2 q.2)⟩, rfl, rfl⟩⟩
            · refine a_iconst (n := 51) dX10_join_50 rfl ⟨by decide, by decide⟩ ?_
              refine a_zreturn dX10_join_51 rfl (by omega) ?_
              first | exact ⟨rfl, rfl, rfl, Or.inr ⟨fun ⟨q1, q2, q3, q4, q5⟩ => by clear q5; omega, rfl, rfl⟩⟩ | exact ⟨rfl, rfl, rfl, Or.inr ⟨fun ⟨q1, q2, q3, q4, q5⟩ => q5 ⟨by omega, hb44.elim (fun e => e.2) (fun e => absurd e.1 c47)⟩, rfl, rfl⟩⟩ | exact ⟨rfl, rfl, rfl, Or.inl ⟨⟨by omega, by omega, by omega, by omega, fun q => by have := q.1; omega⟩, rfl, rfl⟩⟩ | exact ⟨rfl, rfl, rfl, Or.inl ⟨⟨by omega, by omega, by omega, by omega, fun q => hb44.elim (fun e => absurd (e.1.symm.trans c47) (by decide)) (fun e => e.2 q.2)⟩, rfl, rfl⟩⟩
    · refine a_iload_n (n := 17) dX10_join_16 rfl rfl ?_
      refine a_callS (M2 := mX10_isName) (n := 20) dX10_join_17 rfl (m_isName (d := d + 1)) kX10_isName lX10_283 sX10_isName (by omega) rfl (Nat.le_of_ble_eq_true rfl) (fun q17 z17 hr17 hi17 hl17 h17 => ?_)
      obtain ⟨rfl, rfl, rfl, rfl, b17, rfl, hb17⟩ := h17
      show a_wp G _ _ _ _ (vI b17 :: _) _ _ _ _ _
      refine a_if_eq (t := 50) (n := 23) dX10_join_20 rfl rfl (fun c20 => ?_) (fun c20 => ?_)
      · refine a_iconst (n := 51) dX10_join_50 rfl ⟨by decide, by decide⟩ ?_
        refine a_zreturn dX10_join_51 rfl (by omega) ?_
        first | exact ⟨rfl, rfl, rfl, Or.inr ⟨fun ⟨q1, q2, q3, q4, q5⟩ => by clear q5; omega, rfl, rfl⟩⟩ | exact ⟨rfl, rfl, rfl, Or.inr ⟨fun ⟨q1, q2, q3, q4, q5⟩ => q5 ⟨by omega, hb44.elim (fun e => e.2) (fun e => absurd e.1 c47)⟩, rfl, rfl⟩⟩ | exact ⟨rfl, rfl, rfl, Or.inl ⟨⟨by omega, by omega, by omega, by omega, fun q => by have := q.1; omega⟩, rfl, rfl⟩⟩ | exact ⟨rfl, rfl, rfl, Or.inl ⟨⟨by omega, by omega, by omega, by omega, fun q => hb44.elim (fun e => absurd (e.1.symm.trans c47) (by decide)) (fun e => e.2 q.2)⟩, rfl, rfl⟩⟩
      · refine a_iload_n (n := 24) dX10_join_23 rfl rfl ?_
        refine a_iload_n (n := 25) dX10_join_24 rfl rfl ?_
        refine a_icmp_eq (t := 50) (n := 28) dX10_join_25 rfl rfl (fun c25 => ?_) (fun c25 => ?_)
        · refine a_iconst (n := 51) dX10_join_50 rfl ⟨by decide, by decide⟩ ?_
          refine a_zreturn dX10_join_51 rfl (by omega) ?_
          first | exact ⟨rfl, rfl, rfl, Or.inr ⟨fun ⟨q1, q2, q3, q4, q5⟩ => by clear q5; omega, rfl, rfl⟩⟩ | exact ⟨rfl, rfl, rfl, Or.inr ⟨fun ⟨q1, q2, q3, q4, q5⟩ => q5 ⟨by omega, hb44.elim (fun e => e.2) (fun e => absurd e.1 c47)⟩, rfl, rfl⟩⟩ | exact ⟨rfl, rfl, rfl, Or.inl ⟨⟨by omega, by omega, by omega, by omega, fun q => by have := q.1; omega⟩, rfl, rfl⟩⟩ | exact ⟨rfl, rfl, rfl, Or.inl ⟨⟨by omega, by omega, by omega, by omega, fun q => hb44.elim (fun e => absurd (e.1.symm.trans c47) (by decide)) (fun e => e.2 q.2)⟩, rfl, rfl⟩⟩
        · refine a_aload_n (n := 29) dX10_join_28 rfl rfl ?_
          refine a_getI (n := 32) dX10_join_29 rfl fX10_293 (s37 hz) ?_
          try simp only [up2_eq, Nat.reduceEqDiff, Int.reduceEq, Int.reduceNeg, and_true, true_and, and_false, false_and, and_self, if_true, if_false, ite_true, ite_false, reduceIte]
          refine a_bipush (n := 34) dX10_join_32 rfl ⟨by decide, by decide⟩ (by decide) ?_
          refine a_icmp_eq (t := 50) (n := 37) dX10_join_34 rfl rfl (fun c34 => ?_) (fun c34 => ?_)
          · refine a_iconst (n := 51) dX10_join_50 rfl ⟨by decide, by decide⟩ ?_
            refine a_zreturn dX10_join_51 rfl (by omega) ?_
            first | exact ⟨rfl, rfl, rfl, Or.inr ⟨fun ⟨q1, q2, q3, q4, q5⟩ => by clear q5; omega, rfl, rfl⟩⟩ | exact ⟨rfl, rfl, rfl, Or.inr ⟨fun ⟨q1, q2, q3, q4, q5⟩ => q5 ⟨by omega, hb44.elim (fun e => e.2) (fun e => absurd e.1 c47)⟩, rfl, rfl⟩⟩ | exact ⟨rfl, rfl, rfl, Or.inl ⟨⟨by omega, by omega, by omega, by omega, fun q => by have := q.1; omega⟩, rfl, rfl⟩⟩ | exact ⟨rfl, rfl, rfl, Or.inl ⟨⟨by omega, by omega, by omega, by omega, fun q => hb44.elim (fun e => absurd (e.1.symm.trans c47) (by decide)) (fun e => e.2 q.2)⟩, rfl, rfl⟩⟩
          · refine a_iload_n (n := 38) dX10_join_37 rfl rfl ?_
            refine a_if_le (t := 52) (n := 41) dX10_join_38 rfl rfl (fun c38 => ?_) (fun c38 => ?_)
            · refine a_aload_n (n := 53) dX10_join_52 rfl rfl ?_
              refine a_getR (n := 56) dX10_join_53 rfl fX10_132 (s37 hz) (r37_42 hR) ?_
              refine a_aload_n (n := 57) dX10_join_56 rfl rfl ?_
              refine a_getI (n := 60) dX10_join_57 rfl fX10_293 (s37 hz) ?_
              try simp only [up2_eq, Nat.reduceEqDiff, Int.reduceEq, Int.reduceNeg, and_true, true_and, and_false, false_and, and_self, if_true, if_false, ite_true, ite_false, reduceIte]
              refine a_iload_n (n := 61) dX10_join_60 rfl rfl ?_
              refine a_iast (n := 62) dX10_join_61 rfl (s67 hz) (by omega) (by omega) ?_
              refine a_aload_n (n := 63) dX10_join_62 rfl rfl ?_
              refine a_getR (n := 66) dX10_join_63 rfl fX10_135 (s37 hz) (r37_43 hR) ?_
              refine a_aload_n (n := 67) dX10_join_66 rfl rfl ?_
              refine a_getI (n := 70) dX10_join_67 rfl fX10_293 (s37 hz) ?_
              try simp only [up2_eq, Nat.reduceEqDiff, Int.reduceEq, Int.reduceNeg, and_true, true_and, and_false, false_and, and_self, if_true, if_false, ite_true, ite_false, reduceIte]
              refine a_iload_n (n := 71) dX10_join_70 rfl rfl ?_
              refine a_iast (n := 72) dX10_join_71 rfl (s68 hz) (by omega) (by omega) ?_
              refine a_aload_n (n := 73) dX10_join_72 rfl rfl ?_
              refine a_getR (n := 76) dX10_join_73 rfl fX10_138 (s37 hz) (r37_44 hR) ?_
              refine a_aload_n (n := 77) dX10_join_76 rfl rfl ?_
              refine a_getI (n := 80) dX10_join_77 rfl fX10_293 (s37 hz) ?_
              try simp only [up2_eq, Nat.reduceEqDiff, Int.reduceEq, Int.reduceNeg, and_true, true_and, and_false, false_and, and_self, if_true, if_false, ite_true, ite_false, reduceIte]
              refine a_aload_n (n := 81) dX10_join_80 rfl rfl ?_
              refine a_getI (n := 84) dX10_join_81 rfl fX10_255 (s37 hz) ?_
              try simp only [up2_eq, Nat.reduceEqDiff, Int.reduceEq, Int.reduceNeg, and_true, true_and, and_false, false_and, and_self, if_true, if_false, ite_true, ite_false, reduceIte]
              refine a_iast (n := 85) dX10_join_84 rfl (s69 hz) (by omega) (by omega) ?_
              refine a_aload_n (n := 86) dX10_join_85 rfl rfl ?_
              refine a_dup (n := 87) dX10_join_86 rfl rfl ?_
              refine a_getI (n := 90) dX10_join_87 rfl fX10_293 (s37 hz) ?_
              try simp only [up2_eq, Nat.reduceEqDiff, Int.reduceEq, Int.reduceNeg, and_true, true_and, and_false, false_and, and_self, if_true, if_false, ite_true, ite_false, reduceIte]
              refine a_iconst (n := 91) dX10_join_90 rfl ⟨by decide, by decide⟩ ?_
              refine a_iadd (n := 92) dX10_join_91 rfl ⟨by omega, by omega⟩ ?_
              refine a_putI (n := 95) dX10_join_92 rfl fX10_293 rfl (s37 hz) (Or.inl rfl) ?_
              refine a_iconst (n := 96) dX10_join_95 rfl ⟨by decide, by decide⟩ ?_
              refine a_zreturn dX10_join_96 rfl (by omega) ?_
              first | exact ⟨rfl, rfl, rfl, Or.inr ⟨fun ⟨q1, q2, q3, q4, q5⟩ => by clear q5; omega, rfl, rfl⟩⟩ | exact ⟨rfl, rfl, rfl, Or.inr ⟨fun ⟨q1, q2, q3, q4, q5⟩ => q5 ⟨by omega, hb44.elim (fun e => e.2) (fun e => absurd e.1 c47)⟩, rfl, rfl⟩⟩ | exact ⟨rfl, rfl, rfl, Or.inl ⟨⟨by omega, by omega, by omega, by omega, fun q => by have := q.1; omega⟩, rfl, rfl⟩⟩ | exact ⟨rfl, rfl, rfl, Or.inl ⟨⟨by omega, by omega, by omega, by omega, fun q => hb44.elim (fun e => absurd (e.1.symm.trans c47) (by decide)) (fun e => e.2 q.2)⟩, rfl, rfl⟩⟩
            · refine a_aload_n (n := 42) dX10_join_41 rfl rfl ?_
              refine a_iload_n (n := 43) dX10_join_42 rfl rfl ?_
              refine a_iload_n (n := 44) dX10_join_43 rfl rfl ?_
              refine a_callV (M2 := mX10_leadsBack) (n := 47) dX10_join_44 rfl (m_leadsBack (d := d) (N := N) hz hR (by simpa [up2_eq] using hj) (show 0 < x by omega) (by rw [mJoinF_u]; simpa [up2_eq] using hZ)) kX10_leadsBack lX10_296 iX10_leadsBack eX10_leadsBack (by decide) (by omega) (s37 hz) rfl (Nat.le_of_ble_eq_true rfl) (fun q44 z44 hr44 hi44 hl44 h44 => ?_)
              obtain ⟨rfl, rfl, rfl, rfl, b44, rfl, hb44⟩ := h44
              rw [mJoinF_u, up2_m (show (24 : Int) ≠ 0 by decide)] at hb44
              show a_wp G _ _ _ _ (vI b44 :: _) _ _ _ _ _
              refine a_if_eq (t := 52) (n := 50) dX10_join_47 rfl rfl (fun c47 => ?_) (fun c47 => ?_)
              · refine a_aload_n (n := 53) dX10_join_52 rfl rfl ?_
                refine a_getR (n := 56) dX10_join_53 rfl fX10_132 (s37 hz) (r37_42 hR) ?_
                refine a_aload_n (n := 57) dX10_join_56 rfl rfl ?_
                refine a_getI (n := 60) dX10_join_57 rfl fX10_293 (s37 hz) ?_
                try simp only [up2_eq, Nat.reduceEqDiff, Int.reduceEq, Int.reduceNeg, and_true, true_and, and_false, false_and, and_self, if_true, if_false, ite_true, ite_false, reduceIte]
                refine a_iload_n (n := 61) dX10_join_60 rfl rfl ?_
                refine a_iast (n := 62) dX10_join_61 rfl (s67 hz) (by omega) (by omega) ?_
                refine a_aload_n (n := 63) dX10_join_62 rfl rfl ?_
                refine a_getR (n := 66) dX10_join_63 rfl fX10_135 (s37 hz) (r37_43 hR) ?_
                refine a_aload_n (n := 67) dX10_join_66 rfl rfl ?_
                refine a_getI (n := 70) dX10_join_67 rfl fX10_293 (s37 hz) ?_
                try simp only [up2_eq, Nat.reduceEqDiff, Int.reduceEq, Int.reduceNeg, and_true, true_and, and_false, false_and, and_self, if_true, if_false, ite_true, ite_false, reduceIte]
                refine a_iload_n (n := 71) dX10_join_70 rfl rfl ?_
                refine a_iast (n := 72) dX10_join_71 rfl (s68 hz) (by omega) (by omega) ?_
                refine a_aload_n (n := 73) dX10_join_72 rfl rfl ?_
                refine a_getR (n := 76) dX10_join_73 rfl fX10_138 (s37 hz) (r37_44 hR) ?_
                refine a_aload_n (n := 77) dX10_join_76 rfl rfl ?_
                refine a_getI (n := 80) dX10_join_77 rfl fX10_293 (s37 hz) ?_
                try simp only [up2_eq, Nat.reduceEqDiff, Int.reduceEq, Int.reduceNeg, and_true, true_and, and_false, false_and, and_self, if_true, if_false, ite_true, ite_false, reduceIte]
                refine a_aload_n (n := 81) dX10_join_80 rfl rfl ?_
                refine a_getI (n := 84) dX10_join_81 rfl fX10_255 (s37 hz) ?_
                try simp only [up2_eq, Nat.reduceEqDiff, Int.reduceEq, Int.reduceNeg, and_true, true_and, and_false, false_and, and_self, if_true, if_false, ite_true, ite_false, reduceIte]
                refine a_iast (n := 85) dX10_join_84 rfl (s69 hz) (by omega) (by omega) ?_
                refine a_aload_n (n := 86) dX10_join_85 rfl rfl ?_
                refine a_dup (n := 87) dX10_join_86 rfl rfl ?_
                refine a_getI (n := 90) dX10_join_87 rfl fX10_293 (s37 hz) ?_
                try simp only [up2_eq, Nat.reduceEqDiff, Int.reduceEq, Int.reduceNeg, and_true, true_and, and_false, false_and, and_self, if_true, if_false, ite_true, ite_false, reduceIte]
                refine a_iconst (n := 91) dX10_join_90 rfl ⟨by decide, by decide⟩ ?_
                refine a_iadd (n := 92) dX10_join_91 rfl ⟨by omega, by omega⟩ ?_
                refine a_putI (n := 95) dX10_join_92 rfl fX10_293 rfl (s37 hz) (Or.inl rfl) ?_
                refine a_iconst (n := 96) dX10_join_95 rfl ⟨by decide, by decide⟩ ?_
                refine a_zreturn dX10_join_96 rfl (by omega) ?_
                first | exact ⟨rfl, rfl, rfl, Or.inr ⟨fun ⟨q1, q2, q3, q4, q5⟩ => by clear q5; omega, rfl, rfl⟩⟩ | exact ⟨rfl, rfl, rfl, Or.inr ⟨fun ⟨q1, q2, q3, q4, q5⟩ => q5 ⟨by omega, hb44.elim (fun e => e.2) (fun e => absurd e.1 c47)⟩, rfl, rfl⟩⟩ | exact ⟨rfl, rfl, rfl, Or.inl ⟨⟨by omega, by omega, by omega, by omega, fun q => by have := q.1; omega⟩, rfl, rfl⟩⟩ | exact ⟨rfl, rfl, rfl, Or.inl ⟨⟨by omega, by omega, by omega, by omega, fun q => hb44.elim (fun e => absurd (e.1.symm.trans c47) (by decide)) (fun e => e.2 q.2)⟩, rfl, rfl⟩⟩
              · refine a_iconst (n := 51) dX10_join_50 rfl ⟨by decide, by decide⟩ ?_
                refine a_zreturn dX10_join_51 rfl (by omega) ?_
                first | exact ⟨rfl, rfl, rfl, Or.inr ⟨fun ⟨q1, q2, q3, q4, q5⟩ => by clear q5; omega, rfl, rfl⟩⟩ | exact ⟨rfl, rfl, rfl, Or.inr ⟨fun ⟨q1, q2, q3, q4, q5⟩ => q5 ⟨by omega, hb44.elim (fun e => e.2) (fun e => absurd e.1 c47)⟩, rfl, rfl⟩⟩ | exact ⟨rfl, rfl, rfl, Or.inl ⟨⟨by omega, by omega, by omega, by omega, fun q => by have := q.1; omega⟩, rfl, rfl⟩⟩ | exact ⟨rfl, rfl, rfl, Or.inl ⟨⟨by omega, by omega, by omega, by omega, fun q => hb44.elim (fun e => absurd (e.1.symm.trans c47) (by decide)) (fun e => e.2 q.2)⟩, rfl, rfl⟩⟩
set_option maxRecDepth 100000 in
set_option maxHeartbeats 4000000 in
theorem m_named (hz : stZ z) (hR : stR hr) (hg : 0 ≤ hi 37 37 ∧ hi 37 37 ≤ 300) (hj : 0 ≤ hi 37 41 ∧ hi 37 41 ≤ 100) {p dy k : Int} {N : Nat} (hZ : ∀ jd, 0 ≤ jd → jd ≤ hi 37 24 → ∀ x, mZ (fun y => mJoin hi y jd) N (mJoin hi x jd)) : a_ct G mX10_named (d + 3) [vR 37, vI p, vI dy, vI k] z hr hi hl (fun r z' hr' hi' hl' => z' = z ∧ hr' = hr ∧ hl' = hl ∧ (((0 ≤ p ∧ p < hi 37 25 ∧ 0 ≤ dy ∧ dy ≤ hi 37 24 ∧ 0 ≤ k ∧ k ≤ 1) ∧ r = some (vI (mName hi N p dy (if k = 0 then dy else hi 37 24))) ∧ hi' = up2 hi 37 0 0) ∨ (¬ (0 ≤ p ∧ p < hi 37 25 ∧ 0 ≤ dy ∧ dy ≤ hi 37 24 ∧ 0 ≤ k ∧ k ≤ 1) ∧ r = some (vI (0)) ∧ hi' = up2 hi 37 0 1))) := by
  refine a_ct_of rfl (Nat.le_of_ble_eq_true rfl) ?_
  refine a_aload_n (n := 1) dX10_named_0 rfl rfl ?_
  refine a_aload_n (n := 2) dX10_named_1 rfl rfl ?_
  refine a_iload_n (n := 3) dX10_named_2 rfl rfl ?_
  refine a_callV (M2 := mX10_isPlant) (n := 6) dX10_named_3 rfl (m_isPlant (d := d + 2) hz) kX10_isPlant lX10_268 iX10_isPlant eX10_isPlant (by decide) (by omega) (s37 hz) rfl (Nat.le_of_ble_eq_true rfl) (fun q3 z3 hr3 hi3 hl3 h3 => ?_)
  obtain ⟨rfl, rfl, rfl, rfl, b3, rfl, hb3⟩ := h3
  show a_wp G _ _ _ _ (vI b3 :: _) _ _ _ _ _
  refine a_if_eq (t := 34) (n := 9) dX10_named_6 rfl rfl (fun c6 => ?_) (fun c6 => ?_)
  · refine a_iconst (n := 35) dX10_named_34 rfl ⟨by decide, by decide⟩ ?_
    refine a_putI (n := 38) dX10_named_35 rfl fX10_1 rfl (s37 hz) (Or.inl rfl) ?_
    refine a_aload_n (n := 39) dX10_named_38 rfl rfl ?_
    refine a_getI (n := 42) dX10_named_39 rfl fX10_1 (s37 hz) ?_
    try simp only [up2_eq, Nat.reduceEqDiff, Int.reduceEq, Int.reduceNeg, and_true, true_and, and_false, false_and, and_self, if_true, if_false, ite_true, ite_false, reduceIte]
    refine a_if_le (t := 49) (n := 45) dX10_named_42 rfl rfl (fun c42 => ?_) (fun c42 => ?_)
    · refine a_aload_n (n := 50) dX10_named_49 rfl rfl ?_
      refine a_iload_n (n := 51) dX10_named_50 rfl rfl ?_
      refine a_iload_n (n := 52) dX10_named_51 rfl rfl ?_
      refine a_iload_n (n := 53) dX10_named_52 rfl rfl ?_
      refine a_if_ne (t := 60) (n := 56) dX10_named_53 rfl rfl (fun c53 => ?_) (fun c53 => ?_)
      · refine a_aload_n (n := 61) dX10_named_60 rfl rfl ?_
        refine a_getI (n := 64) dX10_named_61 rfl fX10_255 (s37 hz) ?_
        try simp only [up2_eq, Nat.reduceEqDiff, Int.reduceEq, Int.reduceNeg, and_true, true_and, and_false, false_and, and_self, if_true, if_false, ite_true, ite_false, reduceIte]
        refine a_callV (M2 := mX10_nameOf) (n := 67) dX10_named_64 rfl (m_nameOf (d := d) (N := N) hz hR (by simpa [up2_eq] using hg) (by simpa [up2_eq] using hj) (fun x => by rw [mJoinF_u, mJoin_u]; exact hZ _ (by omega) (by omega) x)) kX10_nameOf lX10_302 iX10_nameOf eX10_nameOf (by decide) (by omega) (s37 hz) rfl (Nat.le_of_ble_eq_true rfl) (fun q64 z64 hr64 hi64 hl64 h64 => ?_)
        obtain ⟨rfl, rfl, rfl, rfl, rfl⟩ := h64
        show a_wp G _ _ _ _ (vI _ :: _) _ _ _ _ _
        refine a_ireturn dX10_named_67 rfl ?_
        first | (exfalso; omega; done) | exact ⟨rfl, rfl, rfl, Or.inr ⟨by omega, rfl, rfl⟩⟩ | exact ⟨rfl, rfl, rfl, Or.inl ⟨by omega, by rw [mName_u, if_pos (by omega)], rfl⟩⟩ | exact ⟨rfl, rfl, rfl, Or.inl ⟨by omega, by rw [mName_u, if_neg (by omega)], rfl⟩⟩
      · refine a_iload_n (n := 57) dX10_named_56 rfl rfl ?_
        refine a_goto (t := 64) dX10_named_57 rfl ?_
        refine a_callV (M2 := mX10_nameOf) (n := 67) dX10_named_64 rfl (m_nameOf (d := d) (N := N) hz hR (by simpa [up2_eq] using hg) (by simpa [up2_eq] using hj) (fun x => by rw [mJoinF_u, mJoin_u]; exact hZ _ (by omega) (by omega) x)) kX10_nameOf lX10_302 iX10_nameOf eX10_nameOf (by decide) (by omega) (s37 hz) rfl (Nat.le_of_ble_eq_true rfl) (fun q64 z64 hr64 hi64 hl64 h64 => ?_)
        obtain ⟨rfl, rfl, rfl, rfl, rfl⟩ := h64
        show a_wp G _ _ _ _ (vI _ :: _) _ _ _ _ _
        refine a_ireturn dX10_named_67 rfl ?_
        first | (exfalso; omega; done) | exact ⟨rfl, rfl, rfl, Or.inr ⟨by omega, rfl, rfl⟩⟩ | exact ⟨rfl, rfl, rfl, Or.inl ⟨by omega, by rw [mName_u, if_pos (by omega)], rfl⟩⟩ | exact ⟨rfl, rfl, rfl, Or.inl ⟨by omega, by rw [mName_u, if_neg (by omega)], rfl⟩⟩
    · refine a_iconst (n := 46) dX10_named_45 rfl ⟨by decide, by decide⟩ ?_
      refine a_goto (t := 67) dX10_named_46 rfl ?_
      refine a_ireturn dX10_named_67 rfl ?_
      first | (exfalso; omega; done) | exact ⟨rfl, rfl, rfl, Or.inr ⟨by omega, rfl, rfl⟩⟩ | exact ⟨rfl, rfl, rfl, Or.inl ⟨by omega, by rw [mName_u, if_pos (by omega)], rfl⟩⟩ | exact ⟨rfl, rfl, rfl, Or.inl ⟨by omega, by rw [mName_u, if_neg (by omega)], rfl⟩⟩
  · refine a_iload_n (n := 10) dX10_named_9 rfl rfl ?_
    refine a_if_lt (t := 34) (n := 13) dX10_named_10 rfl rfl (fun c10 => ?_) (fun c10 => ?_)
    · refine a_iconst (n := 35) dX10_named_34 rfl ⟨by decide, by decide⟩ ?_
      refine a_putI (n := 38) dX10_named_35 rfl fX10_1 rfl (s37 hz) (Or.inl rfl) ?_
      refine a_aload_n (n := 39) dX10_named_38 rfl rfl ?_
      refine a_getI (n := 42) dX10_named_39 rfl fX10_1 (s37 hz) ?_
      try simp only [up2_eq, Nat.reduceEqDiff, Int.reduceEq, Int.reduceNeg, and_true, true_and, and_false, false_and, and_self, if_true, if_false, ite_true, ite_false, reduceIte]
      refine a_if_le (t := 49) (n := 45) dX10_named_42 rfl rfl (fun c42 => ?_) (fun c42 => ?_)
      · refine a_aload_n (n := 50) dX10_named_49 rfl rfl ?_
        refine a_iload_n (n := 51) dX10_named_50 rfl rfl ?_
        refine a_iload_n (n := 52) dX10_named_51 rfl rfl ?_
        refine a_iload_n (n := 53) dX10_named_52 rfl rfl ?_
        refine a_if_ne (t := 60) (n := 56) dX10_named_53 rfl rfl (fun c53 => ?_) (fun c53 => ?_)
        · refine a_aload_n (n := 61) dX10_named_60 rfl rfl ?_
          refine a_getI (n := 64) dX10_named_61 rfl fX10_255 (s37 hz) ?_
          try simp only [up2_eq, Nat.reduceEqDiff, Int.reduceEq, Int.reduceNeg, and_true, true_and, and_false, false_and, and_self, if_true, if_false, ite_true, ite_false, reduceIte]
          refine a_callV (M2 := mX10_nameOf) (n := 67) dX10_named_64 rfl (m_nameOf (d := d) (N := N) hz hR (by simpa [up2_eq] using hg) (by simpa [up2_eq] using hj) (fun x => by rw [mJoinF_u, mJoin_u]; exact hZ _ (by omega) (by omega) x)) kX10_nameOf lX10_302 iX10_nameOf eX10_nameOf (by decide) (by omega) (s37 hz) rfl (Nat.le_of_ble_eq_true rfl) (fun q64 z64 hr64 hi64 hl64 h64 => ?_)
          obtain ⟨rfl, rfl, rfl, rfl, rfl⟩ := h64
          show a_wp G _ _ _ _ (vI _ :: _) _ _ _ _ _
          refine a_ireturn dX10_named_67 rfl ?_
          first | (exfalso; omega; done) | exact ⟨rfl, rfl, rfl, Or.inr ⟨by omega, rfl, rfl⟩⟩ | exact ⟨rfl, rfl, rfl, Or.inl ⟨by omega, by rw [mName_u, if_pos (by omega)], rfl⟩⟩ | exact ⟨rfl, rfl, rfl, Or.inl ⟨by omega, by rw [mName_u, if_neg (by omega)], rfl⟩⟩
        · refine a_iload_n (n := 57) dX10_named_56 rfl rfl ?_
          refine a_goto (t := 64) dX10_named_57 rfl ?_
          refine a_callV (M2 := mX10_nameOf) (n := 67) dX10_named_64 rfl (m_nameOf (d := d) (N := N) hz hR (by simpa [up2_eq] using hg) (by simpa [up2_eq] using hj) (fun x => by rw [mJoinF_u, mJoin_u]; exact hZ _ (by omega) (by omega) x)) kX10_nameOf lX10_302 iX10_nameOf eX10_nameOf (by decide) (by omega) (s37 hz) rfl (Nat.le_of_ble_eq_true rfl) (fun q64 z64 hr64 hi64 hl64 h64 => ?_)
          obtain ⟨rfl, rfl, rfl, rfl, rfl⟩ := h64
          show a_wp G _ _ _ _ (vI _ :: _) _ _ _ _ _
          refine a_ireturn dX10_named_67 rfl ?_
          first | (exfalso; omega; done) | exact ⟨rfl, rfl, rfl, Or.inr ⟨by omega, rfl, rfl⟩⟩ | exact ⟨rfl, rfl, rfl, Or.inl ⟨by omega, by rw [mName_u, if_pos (by omega)], rfl⟩⟩ | exact ⟨rfl, rfl, rfl, Or.inl ⟨by omega, by rw [mName_u, if_neg (by omega)], rfl⟩⟩
      · refine a_iconst (n := 46) dX10_named_45 rfl ⟨by decide, by decide⟩ ?_
        refine a_goto (t := 67) dX10_named_46 rfl ?_
        refine a_ireturn dX10_named_67 rfl ?_
        first | (exfalso; omega; done) | exact ⟨rfl, rfl, rfl, Or.inr ⟨by omega, rfl, rfl⟩⟩ | exact ⟨rfl, rfl, rfl, Or.inl ⟨by omega, by rw [mName_u, if_pos (by omega)], rfl⟩⟩ | exact ⟨rfl, rfl, rfl, Or.inl ⟨by omega, by rw [mName_u, if_neg (by omega)], rfl⟩⟩
    · refine a_iload_n (n := 14) dX10_named_13 rfl rfl ?_
      refine a_aload_n (n := 15) dX10_named_14 rfl rfl ?_
      refine a_getI (n := 18) dX10_named_15 rfl fX10_255 (s37 hz) ?_
      refine a_icmp_gt (t := 34) (n := 21) dX10_named_18 rfl rfl (fun c18 => ?_) (fun c18 => ?_)
      · refine a_iconst (n := 35) dX10_named_34 rfl ⟨by decide, by decide⟩ ?_
        refine a_putI (n := 38) dX10_named_35 rfl fX10_1 rfl (s37 hz) (Or.inl rfl) ?_
        refine a_aload_n (n := 39) dX10_named_38 rfl rfl ?_
        refine a_getI (n := 42) dX10_named_39 rfl fX10_1 (s37 hz) ?_
        try simp only [up2_eq, Nat.reduceEqDiff, Int.reduceEq, Int.reduceNeg, and_true, true_and, and_false, false_and, and_self, if_true, if_false, ite_true, ite_false, reduceIte]
        refine a_if_le (t := 49) (n := 45) dX10_named_42 rfl rfl (fun c42 => ?_) (fun c42 => ?_)
        · refine a_aload_n (n := 50) dX10_named_49 rfl rfl ?_
          refine a_iload_n (n := 51) dX10_named_50 rfl rfl ?_
          refine a_iload_n (n := 52) dX10_named_51 rfl rfl ?_
          refine a_iload_n (n := 53) dX10_named_52 rfl rfl ?_
          refine a_if_ne (t := 60) (n := 56) dX10_named_53 rfl rfl (fun c53 => ?_) (fun c53 => ?_)
          · refine a_aload_n (n := 61) dX10_named_60 rfl rfl ?_
            refine a_getI (n := 64) dX10_named_61 rfl fX10_255 (s37 hz) ?_
            try simp only [up2_eq, Nat.reduceEqDiff, Int.reduceEq, Int.reduceNeg, and_true, true_and, and_false, false_and, and_self, if_true, if_false, ite_true, ite_false, reduceIte]
            refine a_callV (M2 := mX10_nameOf) (n := 67) dX10_named_64 rfl (m_nameOf (d := d) (N := N) hz hR (by simpa [up2_eq] using hg) (by simpa [up2_eq] using hj) (fun x => by rw [mJoinF_u, mJoin_u]; exact hZ _ (by omega) (by omega) x)) kX10_nameOf lX10_302 iX10_nameOf eX10_nameOf (by decide) (by omega) (s37 hz) rfl (Nat.le_of_ble_eq_true rfl) (fun q64 z64 hr64 hi64 hl64 h64 => ?_)
            obtain ⟨rfl, rfl, rfl, rfl, rfl⟩ := h64
            show a_wp G _ _ _ _ (vI _ :: _) _ _ _ _ _
            refine a_ireturn dX10_named_67 rfl ?_
            first | (exfalso; omega; done) | exact ⟨rfl, rfl, rfl, Or.inr ⟨by omega, rfl, rfl⟩⟩ | exact ⟨rfl, rfl, rfl, Or.inl ⟨by omega, by rw [mName_u, if_pos (by omega)], rfl⟩⟩ | exact ⟨rfl, rfl, rfl, Or.inl ⟨by omega, by rw [mName_u, if_neg (by omega)], rfl⟩⟩
          · refine a_iload_n (n := 57) dX10_named_56 rfl rfl ?_
            refine a_goto (t := 64) dX10_named_57 rfl ?_
            refine a_callV (M2 := mX10_nameOf) (n := 67) dX10_named_64 rfl (m_nameOf (d := d) (N := N) hz hR (by simpa [up2_eq] using hg) (by simpa [up2_eq] using hj) (fun x => by rw [mJoinF_u, mJoin_u]; exact hZ _ (by omega) (by omega) x)) kX10_nameOf lX10_302 iX10_nameOf eX10_nameOf (by decide) (by omega) (s37 hz) rfl (Nat.le_of_ble_eq_true rfl) (fun q64 z64 hr64 hi64 hl64 h64 => ?_)
            obtain ⟨rfl, rfl, rfl, rfl, rfl⟩ := h64
            show a_wp G _ _ _ _ (vI _ :: _) _ _ _ _ _
            refine a_ireturn dX10_named_67 rfl ?_
            first | (exfalso; omega; done) | exact ⟨rfl, rfl, rfl, Or.inr ⟨by omega, rfl, rfl⟩⟩ | exact ⟨rfl, rfl, rfl, Or.inl ⟨by omega, by rw [mName_u, if_pos (by omega)], rfl⟩⟩ | exact ⟨rfl, rfl, rfl, Or.inl ⟨by omega, by rw [mName_u, if_neg (by omega)], rfl⟩⟩
        · refine a_iconst (n := 46) dX10_named_45 rfl ⟨by decide, by decide⟩ ?_
          refine a_goto (t := 67) dX10_named_46 rfl ?_
          refine a_ireturn dX10_named_67 rfl ?_
          first | (exfalso; omega; done) | exact ⟨rfl, rfl, rfl, Or.inr ⟨by omega, rfl, rfl⟩⟩ | exact ⟨rfl, rfl, rfl, Or.inl ⟨by omega, by rw [mName_u, if_pos (by omega)], rfl⟩⟩ | exact ⟨rfl, rfl, rfl, Or.inl ⟨by omega, by rw [mName_u, if_neg (by omega)], rfl⟩⟩
      · refine a_iload_n (n := 22) dX10_named_21 rfl rfl ?_
        refine a_if_lt (t := 34) (n := 25) dX10_named_22 rfl rfl (fun c22 => ?_) (fun c22 => ?_)
        · refine a_iconst (n := 35) dX10_named_34 rfl ⟨by decide, by decide⟩ ?_
          refine a_putI (n := 38) dX10_named_35 rfl fX10_1 rfl (s37 hz) (Or.inl rfl) ?_
          refine a_aload_n (n := 39) dX10_named_38 rfl rfl ?_
          refine a_getI (n := 42) dX10_named_39 rfl fX10_1 (s37 hz) ?_
          try simp only [up2_eq, Nat.reduceEqDiff, Int.reduceEq, Int.reduceNeg, and_true, true_and, and_false, false_and, and_self, if_true, if_false, ite_true, ite_false, reduceIte]
          refine a_if_le (t := 49) (n := 45) dX10_named_42 rfl rfl (fun c42 => ?_) (fun c42 => ?_)
          · refine a_aload_n (n := 50) dX10_named_49 rfl rfl ?_
            refine a_iload_n (n := 51) dX10_named_50 rfl rfl ?_
            refine a_iload_n (n := 52) dX10_named_51 rfl rfl ?_
            refine a_iload_n (n := 53) dX10_named_52 rfl rfl ?_
            refine a_if_ne (t := 60) (n := 56) dX10_named_53 rfl rfl (fun c53 => ?_) (fun c53 => ?_)
            · refine a_aload_n (n := 61) dX10_named_60 rfl rfl ?_
              refine a_getI (n := 64) dX10_named_61 rfl fX10_255 (s37 hz) ?_
              try simp only [up2_eq, Nat.reduceEqDiff, Int.reduceEq, Int.reduceNeg, and_true, true_and, and_false, false_and, and_self, if_true, if_false, ite_true, ite_false, reduceIte]
              refine a_callV (M2 := mX10_nameOf) (n := 67) dX10_named_64 rfl (m_nameOf (d := d) (N := N) hz hR (by simpa [up2_eq] using hg) (by simpa [up2_eq] using hj) (fun x => by rw [mJoinF_u, mJoin_u]; exact hZ _ (by omega) (by omega) x)) kX10_nameOf lX10_302 iX10_nameOf eX10_nameOf (by decide) (by omega) (s37 hz) rfl (Nat.le_of_ble_eq_true rfl) (fun q64 z64 hr64 hi64 hl64 h64 => ?_)
              obtain ⟨rfl, rfl, rfl, rfl, rfl⟩ := h64
              show a_wp G _ _ _ _ (vI _ :: _) _ _ _ _ _
              refine a_ireturn dX10_named_67 rfl ?_
              first | (exfalso; omega; done) | exact ⟨rfl, rfl, rfl, Or.inr ⟨by omega, rfl, rfl⟩⟩ | exact ⟨rfl, rfl, rfl, Or.inl ⟨by omega, by rw [mName_u, if_pos (by omega)], rfl⟩⟩ | exact ⟨rfl, rfl, rfl, Or.inl ⟨by omega, by rw [mName_u, if_neg (by omega)], rfl⟩⟩
            · refine a_iload_n (n := 57) dX10_named_56 rfl rfl ?_
              refine a_goto (t := 64) dX10_named_57 rfl ?_
              refine a_callV (M2 := mX10_nameOf) (n := 67) dX10_named_64 rfl (m_nameOf (d := d) (N := N) hz hR (by simpa [up2_eq] using hg) (by simpa [up2_eq] using hj) (fun x => by rw [mJoinF_u, mJoin_u]; exact hZ _ (by omega) (by omega) x)) kX10_nameOf lX10_302 iX10_nameOf eX10_nameOf (by decide) (by omega) (s37 hz) rfl (Nat.le_of_ble_eq_true rfl) (fun q64 z64 hr64 hi64 hl64 h64 => ?_)
              obtain ⟨rfl, rfl, rfl, rfl, rfl⟩ := h64
              show a_wp G _ _ _ _ (vI _ :: _) _ _ _ _ _
              refine a_ireturn dX10_named_67 rfl ?_
              first | (exfalso; omega; done) | exact ⟨rfl, rfl, rfl, Or.inr ⟨by omega, rfl, rfl⟩⟩ | exact ⟨rfl, rfl, rfl, Or.inl ⟨by omega, by rw [mName_u, if_pos (by omega)], rfl⟩⟩ | exact ⟨rfl, rfl, rfl, Or.inl ⟨by omega, by rw [mName_u, if_neg (by omega)], rfl⟩⟩
          · refine a_iconst (n := 46) dX10_named_45 rfl ⟨by decide, by decide⟩ ?_
            refine a_goto (t := 67) dX10_named_46 rfl ?_
            refine a_ireturn dX10_named_67 rfl ?_
            first | (exfalso; omega; done) | exact ⟨rfl, rfl, rfl, Or.inr ⟨by omega, rfl, rfl⟩⟩ | exact ⟨rfl, rfl, rfl, Or.inl ⟨by omega, by rw [mName_u, if_pos (by omega)], rfl⟩⟩ | exact ⟨rfl, rfl, rfl, Or.inl ⟨by omega, by rw [mName_u, if_neg (by omega)], rfl⟩⟩
        · refine a_iload_n (n := 26) dX10_named_25 rfl rfl ?_
          refine a_iconst (n := 27) dX10_named_26 rfl ⟨by decide, by decide⟩ ?_
          refine a_icmp_gt (t := 34) (n := 30) dX10_named_27 rfl rfl (fun c27 => ?_) (fun c27 => ?_)
          · refine a_iconst (n := 35) dX10_named_34 rfl ⟨by decide, by decide⟩ ?_
            refine a_putI (n := 38) dX10_named_35 rfl fX10_1 rfl (s37 hz) (Or.inl rfl) ?_
            refine a_aload_n (n := 39) dX10_named_38 rfl rfl ?_
            refine a_getI (n := 42) dX10_named_39 rfl fX10_1 (s37 hz) ?_
            try simp only [up2_eq, Nat.reduceEqDiff, Int.reduceEq, Int.reduceNeg, and_true, true_and, and_false, false_and, and_self, if_true, if_false, ite_true, ite_false, reduceIte]
            refine a_if_le (t := 49) (n := 45) dX10_named_42 rfl rfl (fun c42 => ?_) (fun c42 => ?_)
            · refine a_aload_n (n := 50) dX10_named_49 rfl rfl ?_
              refine a_iload_n (n := 51) dX10_named_50 rfl rfl ?_
              refine a_iload_n (n := 52) dX10_named_51 rfl rfl ?_
              refine a_iload_n (n := 53) dX10_named_52 rfl rfl ?_
              refine a_if_ne (t := 60) (n := 56) dX10_named_53 rfl rfl (fun c53 => ?_) (fun c53 => ?_)
              · refine a_aload_n (n := 61) dX10_named_60 rfl rfl ?_
                refine a_getI (n := 64) dX10_named_61 rfl fX10_255 (s37 hz) ?_
                try simp only [up2_eq, Nat.reduceEqDiff, Int.reduceEq, Int.reduceNeg, and_true, true_and, and_false, false_and, and_self, if_true, if_false, ite_true, ite_false, reduceIte]
                refine a_callV (M2 := mX10_nameOf) (n := 67) dX10_named_64 rfl (m_nameOf (d := d) (N := N) hz hR (by simpa [up2_eq] using hg) (by simpa [up2_eq] using hj) (fun x => by rw [mJoinF_u, mJoin_u]; exact hZ _ (by omega) (by omega) x)) kX10_nameOf lX10_302 iX10_nameOf eX10_nameOf (by decide) (by omega) (s37 hz) rfl (Nat.le_of_ble_eq_true rfl) (fun q64 z64 hr64 hi64 hl64 h64 => ?_)
                obtain ⟨rfl, rfl, rfl, rfl, rfl⟩ := h64
                show a_wp G _ _ _ _ (vI _ :: _) _ _ _ _ _
                refine a_ireturn dX10_named_67 rfl ?_
                first | (exfalso; omega; done) | exact ⟨rfl, rfl, rfl, Or.inr ⟨by omega, rfl, rfl⟩⟩ | exact ⟨rfl, rfl, rfl, Or.inl ⟨by omega, by rw [mName_u, if_pos (by omega)], rfl⟩⟩ | exact ⟨rfl, rfl, rfl, Or.inl ⟨by omega, by rw [mName_u, if_neg (by omega)], rfl⟩⟩
              · refine a_iload_n (n := 57) dX10_named_56 rfl rfl ?_
                refine a_goto (t := 64) dX10_named_57 rfl ?_
                refine a_callV (M2 := mX10_nameOf) (n := 67) dX10_named_64 rfl (m_nameOf (d := d) (N := N) hz hR (by simpa [up2_eq] using hg) (by simpa [up2_eq] using hj) (fun x => by rw [mJoinF_u, mJoin_u]; exact hZ _ (by omega) (by omega) x)) kX10_nameOf lX10_302 iX10_nameOf eX10_nameOf (by decide) (by omega) (s37 hz) rfl (Nat.le_of_ble_eq_true rfl) (fun q64 z64 hr64 hi64 hl64 h64 => ?_)
                obtain ⟨rfl, rfl, rfl, rfl, rfl⟩ := h64
                show a_wp G _ _ _ _ (vI _ :: _) _ _ _ _ _
                refine a_ireturn dX10_named_67 rfl ?_
                first | (exfalso; omega; done) | exact ⟨rfl, rfl, rfl, Or.inr ⟨by omega, rfl, rfl⟩⟩ | exact ⟨rfl, rfl, rfl, Or.inl ⟨by omega, by rw [mName_u, if_pos (by omega)], rfl⟩⟩ | exact ⟨rfl, rfl, rfl, Or.inl ⟨by omega, by rw [mName_u, if_neg (by omega)], rfl⟩⟩
            · refine a_iconst (n := 46) dX10_named_45 rfl ⟨by decide, by decide⟩ ?_
              refine a_goto (t := 67) dX10_named_46 rfl ?_
              refine a_ireturn dX10_named_67 rfl ?_
              first | (exfalso; omega; done) | exact ⟨rfl, rfl, rfl, Or.inr ⟨by omega, rfl, rfl⟩⟩ | exact ⟨rfl, rfl, rfl, Or.inl ⟨by omega, by rw [mName_u, if_pos (by omega)], rfl⟩⟩ | exact ⟨rfl, rfl, rfl, Or.inl ⟨by omega, by rw [mName_u, if_neg (by omega)], rfl⟩⟩
          · refine a_iconst (n := 31) dX10_named_30 rfl ⟨by decide, by decide⟩ ?_
            refine a_goto (t := 35) dX10_named_31 rfl ?_
            refine a_putI (n := 38) dX10_named_35 rfl fX10_1 rfl (s37 hz) (Or.inl rfl) ?_
            refine a_aload_n (n := 39) dX10_named_38 rfl rfl ?_
            refine a_getI (n := 42) dX10_named_39 rfl fX10_1 (s37 hz) ?_
            try simp only [up2_eq, Nat.reduceEqDiff, Int.reduceEq, Int.reduceNeg, and_true, true_and, and_false, false_and, and_self, if_true, if_false, ite_true, ite_false, reduceIte]
            refine a_if_le (t := 49) (n := 45) dX10_named_42 rfl rfl (fun c42 => ?_) (fun c42 => ?_)
            · refine a_aload_n (n := 50) dX10_named_49 rfl rfl ?_
              refine a_iload_n (n := 51) dX10_named_50 rfl rfl ?_
              refine a_iload_n (n := 52) dX10_named_51 rfl rfl ?_
              refine a_iload_n (n := 53) dX10_named_52 rfl rfl ?_
              refine a_if_ne (t := 60) (n := 56) dX10_named_53 rfl rfl (fun c53 => ?_) (fun c53 => ?_)
              · refine a_aload_n (n := 61) dX10_named_60 rfl rfl ?_
                refine a_getI (n := 64) dX10_named_61 rfl fX10_255 (s37 hz) ?_
                try simp only [up2_eq, Nat.reduceEqDiff, Int.reduceEq, Int.reduceNeg, and_true, true_and, and_false, false_and, and_self, if_true, if_false, ite_true, ite_false, reduceIte]
                refine a_callV (M2 := mX10_nameOf) (n := 67) dX10_named_64 rfl (m_nameOf (d := d) (N := N) hz hR (by simpa [up2_eq] using hg) (by simpa [up2_eq] using hj) (fun x => by rw [mJoinF_u, mJoin_u]; exact hZ _ (by omega) (by omega) x)) kX10_nameOf lX10_302 iX10_nameOf eX10_nameOf (by decide) (by omega) (s37 hz) rfl (Nat.le_of_ble_eq_true rfl) (fun q64 z64 hr64 hi64 hl64 h64 => ?_)
                obtain ⟨rfl, rfl, rfl, rfl, rfl⟩ := h64
                show a_wp G _ _ _ _ (vI _ :: _) _ _ _ _ _
                refine a_ireturn dX10_named_67 rfl ?_
                first | (exfalso; omega; done) | exact ⟨rfl, rfl, rfl, Or.inr ⟨by omega, rfl, rfl⟩⟩ | exact ⟨rfl, rfl, rfl, Or.inl ⟨by omega, by rw [mName_u, if_pos (by omega)], rfl⟩⟩ | exact ⟨rfl, rfl, rfl, Or.inl ⟨by omega, by rw [mName_u, if_neg (by omega)], rfl⟩⟩
              · refine a_iload_n (n := 57) dX10_named_56 rfl rfl ?_
                refine a_goto (t := 64) dX10_named_57 rfl ?_
                refine a_callV (M2 := mX10_nameOf) (n := 67) dX10_named_64 rfl (m_nameOf (d := d) (N := N) hz hR (by simpa [up2_eq] using hg) (by simpa [up2_eq] using hj) (fun x => by rw [mJoinF_u, mJoin_u]; exact hZ _ (by omega) (by omega) x)) kX10_nameOf lX10_302 iX10_nameOf eX10_nameOf (by decide) (by omega) (s37 hz) rfl (Nat.le_of_ble_eq_true rfl) (fun q64 z64 hr64 hi64 hl64 h64 => ?_)
                obtain ⟨rfl, rfl, rfl, rfl, rfl⟩ := h64
                show a_wp G _ _ _ _ (vI _ :: _) _ _ _ _ _
                refine a_ireturn dX10_named_67 rfl ?_
                first | (exfalso; omega; done) | exact ⟨rfl, rfl, rfl, Or.inr ⟨by omega, rfl, rfl⟩⟩ | exact ⟨rfl, rfl, rfl, Or.inl ⟨by omega, by rw [mName_u, if_pos (by omega)], rfl⟩⟩ | exact ⟨rfl, rfl, rfl, Or.inl ⟨by omega, by rw [mName_u, if_neg (by omega)], rfl⟩⟩
            · refine a_iconst (n := 46) dX10_named_45 rfl ⟨by decide, by decide⟩ ?_
              refine a_goto (t := 67) dX10_named_46 rfl ?_
              refine a_ireturn dX10_named_67 rfl ?_
              first | (exfalso; omega; done) | exact ⟨rfl, rfl, rfl, Or.inr ⟨by omega, rfl, rfl⟩⟩ | exact ⟨rfl, rfl, rfl, Or.inl ⟨by omega, by rw [mName_u, if_pos (by omega)], rfl⟩⟩ | exact ⟨rfl, rfl, rfl, Or.inl ⟨by omega, by rw [mName_u, if_neg (by omega)], rfl⟩⟩
end M4
