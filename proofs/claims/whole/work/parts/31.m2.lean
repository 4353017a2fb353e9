section M2
variable {G : aG} {d : Nat} {z : aZ} {hr : aR} {hi hl : aI}
set_option maxRecDepth 100000 in
set_option maxHeartbeats 4000000 in
theorem m_markOf (hz : stZ z) (hR : stR hr) {p r k : Int} (hp : 0 ≤ p ∧ p < 40) (hr4 : 0 ≤ r ∧ r < 4) (hk : 0 ≤ k ∧ k < 2) : a_ct G mX10_markOf (d + 0) [vR 37, vI p, vI r, vI k] z hr hi hl (Qs z hr hi hl (fun v => v = some (vI (hi 57 (8 * p + 2 * r + k))))) := by
  refine a_ct_of rfl (Nat.le_of_ble_eq_true rfl) ?_
  refine a_aload_n (n := 1) dX10_markOf_0 rfl rfl ?_
  refine a_getR (n := 4) dX10_markOf_1 rfl fX10_102 (s37 hz) (r37_30 hR) ?_
  refine a_bipush (n := 6) dX10_markOf_4 rfl ⟨by decide, by decide⟩ (by decide) ?_
  refine a_iload_n (n := 7) dX10_markOf_6 rfl rfl ?_
  refine a_imul (n := 8) dX10_markOf_7 rfl ⟨by omega, by omega⟩ ?_
  refine a_iconst (n := 9) dX10_markOf_8 rfl ⟨by decide, by decide⟩ ?_
  refine a_iload_n (n := 10) dX10_markOf_9 rfl rfl ?_
  refine a_imul (n := 11) dX10_markOf_10 rfl ⟨by omega, by omega⟩ ?_
  refine a_iadd (n := 12) dX10_markOf_11 rfl ⟨by omega, by omega⟩ ?_
  refine a_iload_n (n := 13) dX10_markOf_12 rfl rfl ?_
  refine a_iadd (n := 14) dX10_markOf_13 rfl ⟨by omega, by omega⟩ ?_
  refine a_iald (n := 15) dX10_markOf_14 rfl (s57 hz) (by omega) (by omega) ?_
  refine a_ireturn dX10_markOf_15 rfl ?_
  exact ⟨rfl, rfl, rfl, rfl, rfl⟩
set_option maxRecDepth 100000 in
set_option maxHeartbeats 4000000 in
theorem m_hasMark (hz : stZ z) (hR : stR hr) {p r n : Int} (hp : 0 ≤ p ∧ p < 40) (hr4 : 0 ≤ r ∧ r < 4) : a_ct G mX10_hasMark (d + 1) [vR 37, vI p, vI r, vI n] z hr hi hl (Qs z hr hi hl (isB (hi 57 (8 * p + 2 * r + 0) = n ∨ hi 57 (8 * p + 2 * r + 1) = n))) := by
  refine a_ct_of rfl (Nat.le_of_ble_eq_true rfl) ?_
  refine a_aload_n (n := 1) dX10_hasMark_0 rfl rfl ?_
  refine a_iload_n (n := 2) dX10_hasMark_1 rfl rfl ?_
  refine a_iload_n (n := 3) dX10_hasMark_2 rfl rfl ?_
  refine a_iconst (n := 4) dX10_hasMark_3 rfl ⟨by decide, by decide⟩ ?_
  refine a_callV (M2 := mX10_markOf) (n := 7) dX10_hasMark_4 rfl (m_markOf (d := d) hz hR (by omega) (by omega) (by omega)) kX10_markOf lX10_271 iX10_markOf eX10_markOf (by decide) (by omega) (s37 hz) rfl (Nat.le_of_ble_eq_true rfl) (fun q4 z4 hr4 hi4 hl4 h4 => ?_)
  obtain ⟨rfl, rfl, rfl, rfl, rfl⟩ := h4
  show a_wp G _ _ _ _ (vI _ :: _) _ _ _ _ _
  refine a_iload_n (n := 8) dX10_hasMark_7 rfl rfl ?_
  refine a_icmp_eq (t := 22) (n := 11) dX10_hasMark_8 rfl rfl (fun c8 => ?_) (fun c8 => ?_)
  · refine a_iconst (n := 23) dX10_hasMark_22 rfl ⟨by decide, by decide⟩ ?_
    refine a_goto (t := 27) dX10_hasMark_23 rfl ?_
    refine a_zreturn dX10_hasMark_27 rfl (by omega) ?_
    exact ⟨rfl, rfl, rfl, rfl, _, rfl, by omega⟩
  · refine a_aload_n (n := 12) dX10_hasMark_11 rfl rfl ?_
    refine a_iload_n (n := 13) dX10_hasMark_12 rfl rfl ?_
    refine a_iload_n (n := 14) dX10_hasMark_13 rfl rfl ?_
    refine a_iconst (n := 15) dX10_hasMark_14 rfl ⟨by decide, by decide⟩ ?_
    refine a_callV (M2 := mX10_markOf) (n := 18) dX10_hasMark_15 rfl (m_markOf (d := d) hz hR (by omega) (by omega) (by omega)) kX10_markOf lX10_271 iX10_markOf eX10_markOf (by decide) (by omega) (s37 hz) rfl (Nat.le_of_ble_eq_true rfl) (fun q15 z15 hr15 hi15 hl15 h15 => ?_)
    obtain ⟨rfl, rfl, rfl, rfl, rfl⟩ := h15
    show a_wp G _ _ _ _ (vI _ :: _) _ _ _ _ _
    refine a_iload_n (n := 19) dX10_hasMark_18 rfl rfl ?_
    refine a_icmp_ne (t := 26) (n := 22) dX10_hasMark_19 rfl rfl (fun c19 => ?_) (fun c19 => ?_)
    · refine a_iconst (n := 27) dX10_hasMark_26 rfl ⟨by decide, by decide⟩ ?_
      refine a_zreturn dX10_hasMark_27 rfl (by omega) ?_
      exact ⟨rfl, rfl, rfl, rfl, _, rfl, by omega⟩
    · refine a_iconst (n := 23) dX10_hasMark_22 rfl ⟨by decide, by decide⟩ ?_
      refine a_goto (t := 27) dX10_hasMark_23 rfl ?_
      refine a_zreturn dX10_hasMark_27 rfl (by omega) ?_
      exact ⟨rfl, rfl, rfl, rfl, _, rfl, by omega⟩
set_option maxRecDepth 100000 in
set_option maxHeartbeats 4000000 in
theorem m_suits (hz : stZ z) (hR : stR hr) {p b : Int} (hp : 0 ≤ p ∧ p < 40) (hb : 0 ≤ b ∧ b < 8) : a_ct G mX10_suits (d + 0) [vR 37, vI p, vI b] z hr hi hl (Qs z hr hi hl (isB (hi 58 (4 * p) ≤ hi 70 b ∧ hi 70 b ≤ hi 58 (4 * p + 1) ∧ hi 58 (4 * p + 2) ≤ hi 71 b ∧ hi 71 b ≤ hi 58 (4 * p + 3)))) := by
  refine a_ct_of rfl (Nat.le_of_ble_eq_true rfl) ?_
  refine a_aload_n (n := 1) dX10_suits_0 rfl rfl ?_
  refine a_getR (n := 4) dX10_suits_1 rfl fX10_141 (s37 hz) (r37_46 hR) ?_
  refine a_iload_n (n := 5) dX10_suits_4 rfl rfl ?_
  refine a_iald (n := 6) dX10_suits_5 rfl (s70 hz) (by omega) (by omega) ?_
  refine a_aload_n (n := 7) dX10_suits_6 rfl rfl ?_
  refine a_getR (n := 10) dX10_suits_7 rfl fX10_105 (s37 hz) (r37_31 hR) ?_
  refine a_iconst (n := 11) dX10_suits_10 rfl ⟨by decide, by decide⟩ ?_
  refine a_iload_n (n := 12) dX10_suits_11 rfl rfl ?_
  refine a_imul (n := 13) dX10_suits_12 rfl ⟨by omega, by omega⟩ ?_
  refine a_iald (n := 14) dX10_suits_13 rfl (s58 hz) (by omega) (by omega) ?_
  refine a_icmp_lt (t := 78) (n := 17) dX10_suits_14 rfl rfl (fun c14 => ?_) (fun c14 => ?_)
  · refine a_iconst (n := 79) dX10_suits_78 rfl ⟨by decide, by decide⟩ ?_
    refine a_zreturn dX10_suits_79 rfl (by omega) ?_
    exact ⟨rfl, rfl, rfl, rfl, _, rfl, by omega⟩
  · refine a_aload_n (n := 18) dX10_suits_17 rfl rfl ?_
    refine a_getR (n := 21) dX10_suits_18 rfl fX10_141 (s37 hz) (r37_46 hR) ?_
    refine a_iload_n (n := 22) dX10_suits_21 rfl rfl ?_
    refine a_iald (n := 23) dX10_suits_22 rfl (s70 hz) (by omega) (by omega) ?_
    refine a_aload_n (n := 24) dX10_suits_23 rfl rfl ?_
    refine a_getR (n := 27) dX10_suits_24 rfl fX10_105 (s37 hz) (r37_31 hR) ?_
    refine a_iconst (n := 28) dX10_suits_27 rfl ⟨by decide, by decide⟩ ?_
    refine a_iload_n (n := 29) dX10_suits_28 rfl rfl ?_
    refine a_imul (n := 30) dX10_suits_29 rfl ⟨by omega, by omega⟩ ?_
    refine a_iconst (n := 31) dX10_suits_30 rfl ⟨by decide, by decide⟩ ?_
    refine a_iadd (n := 32) dX10_suits_31 rfl ⟨by omega, by omega⟩ ?_
    refine a_iald (n := 33) dX10_suits_32 rfl (s58 hz) (by omega) (by omega) ?_
    refine a_icmp_gt (t := 78) (n := 36) dX10_suits_33 rfl rfl (fun c33 => ?_) (fun c33 => ?_)
    · refine a_iconst (n := 79) dX10_suits_78 rfl ⟨by decide, by decide⟩ ?_
      refine a_zreturn dX10_suits_79 rfl (by omega) ?_
      exact ⟨rfl, rfl, rfl, rfl, _, rfl, by omega⟩
    · refine a_aload_n (n := 37) dX10_suits_36 rfl rfl ?_
      refine a_getR (n := 40) dX10_suits_37 rfl fX10_144 (s37 hz) (r37_47 hR) ?_
      refine a_iload_n (n := 41) dX10_suits_40 rfl rfl ?_
      refine a_iald (n := 42) dX10_suits_41 rfl (s71 hz) (by omega) (by omega) ?_
      refine a_aload_n (n := 43) dX10_suits_42 rfl rfl ?_
      refine a_getR (n := 46) dX10_suits_43 rfl fX10_105 (s37 hz) (r37_31 hR) ?_
      refine a_iconst (n := 47) dX10_suits_46 rfl ⟨by decide, by decide⟩ ?_
      refine a_iload_n (n := 48) dX10_suits_47 rfl rfl ?_
      refine a_imul (n := 49) dX10_suits_48 rfl ⟨by omega, by omega⟩ ?_
      refine a_iconst (n := 50) dX10_suits_49 rfl ⟨by decide, by decide⟩ ?_
      refine a_iadd (n := 51) dX10_suits_50 rfl ⟨by omega, by omega⟩ ?_
      refine a_iald (n := 52) dX10_suits_51 rfl (s58 hz) (by omega) (by omega) ?_
      refine a_icmp_lt (t := 78) (n := 55) dX10_suits_52 rfl rfl (fun c52 => ?_) (fun c52 => ?_)
      · refine a_iconst (n := 79) dX10_suits_78 rfl ⟨by decide, by decide⟩ ?_
        refine a_zreturn dX10_suits_79 rfl (by omega) ?_
        exact ⟨rfl, rfl, rfl, rfl, _, rfl, by omega⟩
      · refine a_aload_n (n := 56) dX10_suits_55 rfl rfl ?_
        refine a_getR (n := 59) dX10_suits_56 rfl fX10_144 (s37 hz) (r37_47 hR) ?_
        refine a_iload_n (n := 60) dX10_suits_59 rfl rfl ?_
        refine a_iald (n := 61) dX10_suits_60 rfl (s71 hz) (by omega) (by omega) ?_
        refine a_aload_n (n := 62) dX10_suits_61 rfl rfl ?_
        refine a_getR (n := 65) dX10_suits_62 rfl fX10_105 (s37 hz) (r37_31 hR) ?_
        refine a_iconst (n := 66) dX10_suits_65 rfl ⟨by decide, by decide⟩ ?_
        refine a_iload_n (n := 67) dX10_suits_66 rfl rfl ?_
        refine a_imul (n := 68) dX10_suits_67 rfl ⟨by omega, by omega⟩ ?_
        refine a_iconst (n := 69) dX10_suits_68 rfl ⟨by decide, by decide⟩ ?_
        refine a_iadd (n := 70) dX10_suits_69 rfl ⟨by omega, by omega⟩ ?_
        refine a_iald (n := 71) dX10_suits_70 rfl (s58 hz) (by omega) (by omega) ?_
        refine a_icmp_gt (t := 78) (n := 74) dX10_suits_71 rfl rfl (fun c71 => ?_) (fun c71 => ?_)
        · refine a_iconst (n := 79) dX10_suits_78 rfl ⟨by decide, by decide⟩ ?_
          refine a_zreturn dX10_suits_79 rfl (by omega) ?_
          exact ⟨rfl, rfl, rfl, rfl, _, rfl, by omega⟩
        · refine a_iconst (n := 75) dX10_suits_74 rfl ⟨by decide, by decide⟩ ?_
          refine a_goto (t := 79) dX10_suits_75 rfl ?_
          refine a_zreturn dX10_suits_79 rfl (by omega) ?_
          exact ⟨rfl, rfl, rfl, rfl, _, rfl, by omega⟩
set_option maxRecDepth 100000 in
set_option maxHeartbeats 4000000 in
theorem m_costOf (hz : stZ z) (hR : stR hr) {p b : Int} (hp : 0 ≤ p ∧ p < 40) (hb : 0 ≤ b ∧ b < 8) : a_ct G mX10_costOf (d + 1) [vR 37, vI p, vI b] z hr hi hl (Qs z hr hi hl (fun v => ∃ c : Int, v = some (vI c) ∧ ((¬ (hi 58 (4 * p) ≤ hi 70 b ∧ hi 70 b ≤ hi 58 (4 * p + 1) ∧ hi 58 (4 * p + 2) ≤ hi 71 b ∧ hi 71 b ≤ hi 58 (4 * p + 3)) ∧ c = 1000000) ∨ ((hi 58 (4 * p) ≤ hi 70 b ∧ hi 70 b ≤ hi 58 (4 * p + 1) ∧ hi 58 (4 * p + 2) ≤ hi 71 b ∧ hi 71 b ≤ hi 58 (4 * p + 3)) ∧ ((hi 59 p = b ∧ c = 0) ∨ (¬ hi 59 p = b ∧ c = 1)))))) := by
  refine a_ct_of rfl (Nat.le_of_ble_eq_true rfl) ?_
  refine a_aload_n (n := 1) dX10_costOf_0 rfl rfl ?_
  refine a_iload_n (n := 2) dX10_costOf_1 rfl rfl ?_
  refine a_iload_n (n := 3) dX10_costOf_2 rfl rfl ?_
  refine a_callV (M2 := mX10_suits) (n := 6) dX10_costOf_3 rfl (m_suits (d := d) hz hR hp hb) kX10_suits lX10_314 iX10_suits eX10_suits (by decide) (by omega) (s37 hz) rfl (Nat.le_of_ble_eq_true rfl) (fun q3 z3 hr3 hi3 hl3 h3 => ?_)
  obtain ⟨rfl, rfl, rfl, rfl, b3, rfl, hb3⟩ := h3
  show a_wp G _ _ _ _ (vI b3 :: _) _ _ _ _ _
  refine a_if_ne (t := 15) (n := 9) dX10_costOf_6 rfl rfl (fun c6 => ?_) (fun c6 => ?_)
  · refine a_aload_n (n := 16) dX10_costOf_15 rfl rfl ?_
    refine a_getR (n := 19) dX10_costOf_16 rfl fX10_108 (s37 hz) (r37_32 hR) ?_
    refine a_iload_n (n := 20) dX10_costOf_19 rfl rfl ?_
    refine a_iald (n := 21) dX10_costOf_20 rfl (s59 hz) (by omega) (by omega) ?_
    refine a_iload_n (n := 22) dX10_costOf_21 rfl rfl ?_
    refine a_icmp_ne (t := 29) (n := 25) dX10_costOf_22 rfl rfl (fun c22 => ?_) (fun c22 => ?_)
    · refine a_iconst (n := 30) dX10_costOf_29 rfl ⟨by decide, by decide⟩ ?_
      refine a_ireturn dX10_costOf_30 rfl ?_
      exact ⟨rfl, rfl, rfl, rfl, _, rfl, by omega⟩
    · refine a_iconst (n := 26) dX10_costOf_25 rfl ⟨by decide, by decide⟩ ?_
      refine a_goto (t := 30) dX10_costOf_26 rfl ?_
      refine a_ireturn dX10_costOf_30 rfl ?_
      exact ⟨rfl, rfl, rfl, rfl, _, rfl, by omega⟩
  · refine a_ldcw (v := 1000000) (n := 12) dX10_costOf_9 rfl ⟨by decide, by decide⟩ cM317 (by decide) ?_
    refine a_goto (t := 30) dX10_costOf_12 rfl ?_
    refine a_ireturn dX10_costOf_30 rfl ?_
    exact ⟨rfl, rfl, rfl, rfl, _, rfl, by omega⟩
set_option maxRecDepth 100000 in
set_option maxHeartbeats 4000000 in
theorem m_isSending (hz : stZ z) {p h a : Int} : a_ct G mX10_isSending (d + 1) [vR 37, vI p, vI h, vI a] z hr hi hl (Qs z hr hi hl (isB (0 ≤ p ∧ p < hi 37 25 ∧ 0 ≤ h ∧ h ≤ 99 ∧ 0 ≤ a ∧ a ≤ 9))) := by
  refine a_ct_of rfl (Nat.le_of_ble_eq_true rfl) ?_
  refine a_aload_n (n := 1) dX10_isSending_0 rfl rfl ?_
  refine a_iload_n (n := 2) dX10_isSending_1 rfl rfl ?_
  refine a_callV (M2 := mX10_isPlant) (n := 5) dX10_isSending_2 rfl (m_isPlant (d := d) hz) kX10_isPlant lX10_268 iX10_isPlant eX10_isPlant (by decide) (by omega) (s37 hz) rfl (Nat.le_of_ble_eq_true rfl) (fun q2 z2 hr2 hi2 hl2 h2 => ?_)
  obtain ⟨rfl, rfl, rfl, rfl, b2, rfl, hb2⟩ := h2
  show a_wp G _ _ _ _ (vI b2 :: _) _ _ _ _ _
  refine a_if_eq (t := 32) (n := 8) dX10_isSending_5 rfl rfl (fun c5 => ?_) (fun c5 => ?_)
  · refine a_iconst (n := 33) dX10_isSending_32 rfl ⟨by decide, by decide⟩ ?_
    refine a_zreturn dX10_isSending_33 rfl (by omega) ?_
    exact ⟨rfl, rfl, rfl, rfl, _, rfl, by omega⟩
  · refine a_iload_n (n := 9) dX10_isSending_8 rfl rfl ?_
    refine a_if_lt (t := 32) (n := 12) dX10_isSending_9 rfl rfl (fun c9 => ?_) (fun c9 => ?_)
    · refine a_iconst (n := 33) dX10_isSending_32 rfl ⟨by decide, by decide⟩ ?_
      refine a_zreturn dX10_isSending_33 rfl (by omega) ?_
      exact ⟨rfl, rfl, rfl, rfl, _, rfl, by omega⟩
    · refine a_iload_n (n := 13) dX10_isSending_12 rfl rfl ?_
      refine a_bipush (n := 15) dX10_isSending_13 rfl ⟨by decide, by decide⟩ (by decide) ?_
      refine a_icmp_gt (t := 32) (n := 18) dX10_isSending_15 rfl rfl (fun c15 => ?_) (fun c15 => ?_)
      · refine a_iconst (n := 33) dX10_isSending_32 rfl ⟨by decide, by decide⟩ ?_
        refine a_zreturn dX10_isSending_33 rfl (by omega) ?_
        exact ⟨rfl, rfl, rfl, rfl, _, rfl, by omega⟩
      · refine a_iload_n (n := 19) dX10_isSending_18 rfl rfl ?_
        refine a_if_lt (t := 32) (n := 22) dX10_isSending_19 rfl rfl (fun c19 => ?_) (fun c19 => ?_)
        · refine a_iconst (n := 33) dX10_isSending_32 rfl ⟨by decide, by decide⟩ ?_
          refine a_zreturn dX10_isSending_33 rfl (by omega) ?_
          exact ⟨rfl, rfl, rfl, rfl, _, rfl, by omega⟩
        · refine a_iload_n (n := 23) dX10_isSending_22 rfl rfl ?_
          refine a_bipush (n := 25) dX10_isSending_23 rfl ⟨by decide, by decide⟩ (by decide) ?_
          refine a_icmp_gt (t := 32) (n := 28) dX10_isSending_25 rfl rfl (fun c25 => ?_) (fun c25 => ?_)
          · refine a_iconst (n := 33) dX10_isSending_32 rfl ⟨by decide, by decide⟩ ?_
            refine a_zreturn dX10_isSending_33 rfl (by omega) ?_
            exact ⟨rfl, rfl, rfl, rfl, _, rfl, by omega⟩
          · refine a_iconst (n := 29) dX10_isSending_28 rfl ⟨by decide, by decide⟩ ?_
            refine a_goto (t := 33) dX10_isSending_29 rfl ?_
            refine a_zreturn dX10_isSending_33 rfl (by omega) ?_
            exact ⟨rfl, rfl, rfl, rfl, _, rfl, by omega⟩
set_option maxRecDepth 100000 in
set_option maxHeartbeats 4000000 in
theorem m_sent (hz : stZ z) (hR : stR hr) {i k : Int} (hs : 0 ≤ hi 37 54 ∧ hi 37 54 ≤ 100) : a_ct G mX10_sent (d + 0) [vR 37, vI i, vI k] z hr hi hl (fun r z' hr' hi' hl' => z' = z ∧ hr' = hr ∧ hl' = hl ∧ (((0 ≤ i ∧ i < hi 37 54 ∧ 0 ≤ k ∧ k ≤ 3) ∧ r = some (vI (hi 78 (4 * i + k))) ∧ hi' = up2 hi 37 0 0) ∨ (¬ (0 ≤ i ∧ i < hi 37 54 ∧ 0 ≤ k ∧ k ≤ 3) ∧ r = some (vI (-1)) ∧ hi' = up2 hi 37 0 0))) := by
  refine a_ct_of rfl (Nat.le_of_ble_eq_true rfl) ?_
  refine a_aload_n (n := 1) dX10_sent_0 rfl rfl ?_
  refine a_iconst (n := 2) dX10_sent_1 rfl ⟨by decide, by decide⟩ ?_
  refine a_putI (n := 5) dX10_sent_2 rfl fX10_1 rfl (s37 hz) (Or.inl rfl) ?_
  refine a_iload_n (n := 6) dX10_sent_5 rfl rfl ?_
  refine a_if_lt (t := 26) (n := 9) dX10_sent_6 rfl rfl (fun c6 => ?_) (fun c6 => ?_)
  · refine a_iconst (n := 27) dX10_sent_26 rfl ⟨by decide, by decide⟩ ?_
    refine a_goto (t := 40) dX10_sent_27 rfl ?_
    refine a_ireturn dX10_sent_40 rfl ?_
    first | exact ⟨rfl, rfl, rfl, Or.inl ⟨by omega, rfl, rfl⟩⟩ | exact ⟨rfl, rfl, rfl, Or.inr ⟨by omega, rfl, rfl⟩⟩
  · refine a_iload_n (n := 10) dX10_sent_9 rfl rfl ?_
    refine a_aload_n (n := 11) dX10_sent_10 rfl rfl ?_
    refine a_getI (n := 14) dX10_sent_11 rfl fX10_342 (s37 hz) ?_
    try simp only [up2_eq, Nat.reduceEqDiff, Int.reduceEq, Int.reduceNeg, and_true, true_and, and_false, false_and, and_self, if_true, if_false, ite_true, ite_false, reduceIte]
    refine a_icmp_ge (t := 26) (n := 17) dX10_sent_14 rfl rfl (fun c14 => ?_) (fun c14 => ?_)
    · refine a_iconst (n := 27) dX10_sent_26 rfl ⟨by decide, by decide⟩ ?_
      refine a_goto (t := 40) dX10_sent_27 rfl ?_
      refine a_ireturn dX10_sent_40 rfl ?_
      first | exact ⟨rfl, rfl, rfl, Or.inl ⟨by omega, rfl, rfl⟩⟩ | exact ⟨rfl, rfl, rfl, Or.inr ⟨by omega, rfl, rfl⟩⟩
    · refine a_iload_n (n := 18) dX10_sent_17 rfl rfl ?_
      refine a_if_lt (t := 26) (n := 21) dX10_sent_18 rfl rfl (fun c18 => ?_) (fun c18 => ?_)
      · refine a_iconst (n := 27) dX10_sent_26 rfl ⟨by decide, by decide⟩ ?_
        refine a_goto (t := 40) dX10_sent_27 rfl ?_
        refine a_ireturn dX10_sent_40 rfl ?_
        first | exact ⟨rfl, rfl, rfl, Or.inl ⟨by omega, rfl, rfl⟩⟩ | exact ⟨rfl, rfl, rfl, Or.inr ⟨by omega, rfl, rfl⟩⟩
      · refine a_iload_n (n := 22) dX10_sent_21 rfl rfl ?_
        refine a_iconst (n := 23) dX10_sent_22 rfl ⟨by decide, by decide⟩ ?_
        refine a_icmp_le (t := 30) (n := 26) dX10_sent_23 rfl rfl (fun c23 => ?_) (fun c23 => ?_)
        · refine a_aload_n (n := 31) dX10_sent_30 rfl rfl ?_
          refine a_getR (n := 34) dX10_sent_31 rfl fX10_165 (s37 hz) (r37_55 hR) ?_
          refine a_iconst (n := 35) dX10_sent_34 rfl ⟨by decide, by decide⟩ ?_
          refine a_iload_n (n := 36) dX10_sent_35 rfl rfl ?_
          refine a_imul (n := 37) dX10_sent_36 rfl ⟨by omega, by omega⟩ ?_
          refine a_iload_n (n := 38) dX10_sent_37 rfl rfl ?_
          refine a_iadd (n := 39) dX10_sent_38 rfl ⟨by omega, by omega⟩ ?_
          refine a_iald (n := 40) dX10_sent_39 rfl (s78 hz) (by omega) (by omega) ?_
          try simp only [up2_eq, Nat.reduceEqDiff, Int.reduceEq, Int.reduceNeg, and_true, true_and, and_false, false_and, and_self, if_true, if_false, ite_true, ite_false, reduceIte]
          refine a_ireturn dX10_sent_40 rfl ?_
          first | exact ⟨rfl, rfl, rfl, Or.inl ⟨by omega, rfl, rfl⟩⟩ | exact ⟨rfl, rfl, rfl, Or.inr ⟨by omega, rfl, rfl⟩⟩
        · refine a_iconst (n := 27) dX10_sent_26 rfl ⟨by decide, by decide⟩ ?_
          refine a_goto (t := 40) dX10_sent_27 rfl ?_
          refine a_ireturn dX10_sent_40 rfl ?_
          first | exact ⟨rfl, rfl, rfl, Or.inl ⟨by omega, rfl, rfl⟩⟩ | exact ⟨rfl, rfl, rfl, Or.inr ⟨by omega, rfl, rfl⟩⟩
set_option maxRecDepth 100000 in
set_option maxHeartbeats 4000000 in
theorem m_seen (hz : stZ z) (hR : stR hr) {p n : Int} (hp : hi 37 25 ≤ 40) : a_ct G mX10_seen (d + 1) [vR 37, vI p, vI n] z hr hi hl (fun r z' hr' hi' hl' => z' = z ∧ hr' = hr ∧ hl' = hl ∧ (((0 ≤ p ∧ p < hi 37 25 ∧ 0 ≤ hi 59 p ∧ 1 ≤ n ∧ n ≤ 100) ∧ r = some (vI (1)) ∧ hi' = up2 (up2 hi 37 0 0) 60 p n) ∨ (¬ (0 ≤ p ∧ p < hi 37 25 ∧ 0 ≤ hi 59 p ∧ 1 ≤ n ∧ n ≤ 100) ∧ r = some (vI (0)) ∧ hi' = up2 hi 37 0 0))) := by
  refine a_ct_of rfl (Nat.le_of_ble_eq_true rfl) ?_
  refine a_aload_n (n := 1) dX10_seen_0 rfl rfl ?_
  refine a_iconst (n := 2) dX10_seen_1 rfl ⟨by decide, by decide⟩ ?_
  refine a_putI (n := 5) dX10_seen_2 rfl fX10_1 rfl (s37 hz) (Or.inl rfl) ?_
  refine a_aload_n (n := 6) dX10_seen_5 rfl rfl ?_
  refine a_iload_n (n := 7) dX10_seen_6 rfl rfl ?_
  refine a_callV (M2 := mX10_isPlant) (n := 10) dX10_seen_7 rfl (m_isPlant (d := d) hz) kX10_isPlant lX10_268 iX10_isPlant eX10_isPlant (by decide) (by omega) (s37 hz) rfl (Nat.le_of_ble_eq_true rfl) (fun q7 z7 hr7 hi7 hl7 h7 => ?_)
  obtain ⟨rfl, rfl, rfl, rfl, b7, rfl, hb7⟩ := h7
  simp only [up2_eq, Nat.reduceEqDiff, Int.reduceEq, and_true, true_and, and_false, false_and, and_self, if_true, if_false, reduceIte] at hb7
  show a_wp G _ _ _ _ (vI b7 :: _) _ _ _ _ _
  refine a_if_eq (t := 29) (n := 13) dX10_seen_10 rfl rfl (fun c10 => ?_) (fun c10 => ?_)
  · refine a_iconst (n := 30) dX10_seen_29 rfl ⟨by decide, by decide⟩ ?_
    refine a_zreturn dX10_seen_30 rfl (by omega) ?_
    first | exact ⟨rfl, rfl, rfl, Or.inl ⟨by omega, rfl, rfl⟩⟩ | exact ⟨rfl, rfl, rfl, Or.inr ⟨by omega, rfl, rfl⟩⟩
  · refine a_aload_n (n := 14) dX10_seen_13 rfl rfl ?_
    refine a_getR (n := 17) dX10_seen_14 rfl fX10_108 (s37 hz) (r37_32 hR) ?_
    refine a_iload_n (n := 18) dX10_seen_17 rfl rfl ?_
    refine a_iald (n := 19) dX10_seen_18 rfl (s59 hz) (by omega) (by omega) ?_
    try simp only [up2_eq, Nat.reduceEqDiff, Int.reduceEq, Int.reduceNeg, and_true, true_and, and_false, false_and, and_self, if_true, if_false, ite_true, ite_false, reduceIte]
    refine a_if_lt (t := 29) (n := 22) dX10_seen_19 rfl rfl (fun c19 => ?_) (fun c19 => ?_)
    · refine a_iconst (n := 30) dX10_seen_29 rfl ⟨by decide, by decide⟩ ?_
      refine a_zreturn dX10_seen_30 rfl (by omega) ?_
      first | exact ⟨rfl, rfl, rfl, Or.inl ⟨by omega, rfl, rfl⟩⟩ | exact ⟨rfl, rfl, rfl, Or.inr ⟨by omega, rfl, rfl⟩⟩
    · refine a_iload_n (n := 23) dX10_seen_22 rfl rfl ?_
      refine a_callS (M2 := mX10_areMany) (n := 26) dX10_seen_23 rfl (m_areMany (d := d)) kX10_areMany lX10_261 sX10_areMany (by omega) rfl (Nat.le_of_ble_eq_true rfl) (fun q23 z23 hr23 hi23 hl23 h23 => ?_)
      obtain ⟨rfl, rfl, rfl, rfl, b23, rfl, hb23⟩ := h23
      show a_wp G _ _ _ _ (vI b23 :: _) _ _ _ _ _
      refine a_if_ne (t := 31) (n := 29) dX10_seen_26 rfl rfl (fun c26 => ?_) (fun c26 => ?_)
      · refine a_aload_n (n := 32) dX10_seen_31 rfl rfl ?_
        refine a_getR (n := 35) dX10_seen_32 rfl fX10_111 (s37 hz) (r37_33 hR) ?_
        refine a_iload_n (n := 36) dX10_seen_35 rfl rfl ?_
        refine a_iload_n (n := 37) dX10_seen_36 rfl rfl ?_
        refine a_iast (n := 38) dX10_seen_37 rfl (s60 hz) (by omega) (by omega) ?_
        refine a_iconst (n := 39) dX10_seen_38 rfl ⟨by decide, by decide⟩ ?_
        refine a_zreturn dX10_seen_39 rfl (by omega) ?_
        first | exact ⟨rfl, rfl, rfl, Or.inl ⟨by omega, rfl, rfl⟩⟩ | exact ⟨rfl, rfl, rfl, Or.inr ⟨by omega, rfl, rfl⟩⟩
      · refine a_iconst (n := 30) dX10_seen_29 rfl ⟨by decide, by decide⟩ ?_
        refine a_zreturn dX10_seen_30 rfl (by omega) ?_
        first | exact ⟨rfl, rfl, rfl, Or.inl ⟨by omega, rfl, rfl⟩⟩ | exact ⟨rfl, rfl, rfl, Or.inr ⟨by omega, rfl, rfl⟩⟩
set_option maxRecDepth 100000 in
set_option maxHeartbeats 4000000 in
theorem m_bed (hz : stZ z) (hR : stR hr) {l w n : Int} (hp : 0 ≤ hi 37 45 ∧ hi 37 45 ≤ 8) : a_ct G mX10_bed (d + 1) [vR 37, vI l, vI w, vI n] z hr hi hl (fun r z' hr' hi' hl' => z' = z ∧ hr' = hr ∧ hl' = hl ∧ (((0 ≤ l ∧ l ≤ 9 ∧ 0 ≤ w ∧ w ≤ 9 ∧ 1 ≤ n ∧ n ≤ 40 ∧ ¬ hi 37 45 = 8) ∧ r = some (vI (hi 37 45 + 1 - 1)) ∧ hi' = up2 (up2 (up2 (up2 (up2 hi 37 0 0) 70 (hi 37 45) l) 71 (hi 37 45) w) 72 (hi 37 45) n) 37 45 (hi 37 45 + 1)) ∨ (¬ (0 ≤ l ∧ l ≤ 9 ∧ 0 ≤ w ∧ w ≤ 9 ∧ 1 ≤ n ∧ n ≤ 40 ∧ ¬ hi 37 45 = 8) ∧ r = some (vI (-1)) ∧ hi' = up2 hi 37 0 0))) := by
  refine a_ct_of rfl (Nat.le_of_ble_eq_true rfl) ?_
  refine a_aload_n (n := 1) dX10_bed_0 rfl rfl ?_
  refine a_iconst (n := 2) dX10_bed_1 rfl ⟨by decide, by decide⟩ ?_
  refine a_putI (n := 5) dX10_bed_2 rfl fX10_1 rfl (s37 hz) (Or.inl rfl) ?_
  refine a_iload_n (n := 6) dX10_bed_5 rfl rfl ?_
  refine a_callS (M2 := mX10_isDigitNumber) (n := 9) dX10_bed_6 rfl (m_isDigitNumber (d := d)) kX10_isDigitNumber lX10_305 sX10_isDigitNumber (by omega) rfl (Nat.le_of_ble_eq_true rfl) (fun q6 z6 hr6 hi6 hl6 h6 => ?_)
  obtain ⟨rfl, rfl, rfl, rfl, b6, rfl, hb6⟩ := h6
  show a_wp G _ _ _ _ (vI b6 :: _) _ _ _ _ _
  refine a_if_eq (t := 39) (n := 12) dX10_bed_9 rfl rfl (fun c9 => ?_) (fun c9 => ?_)
  · refine a_iconst (n := 40) dX10_bed_39 rfl ⟨by decide, by decide⟩ ?_
    refine a_ireturn dX10_bed_40 rfl ?_
    first | exact ⟨rfl, rfl, rfl, Or.inl ⟨by omega, rfl, rfl⟩⟩ | exact ⟨rfl, rfl, rfl, Or.inr ⟨by omega, rfl, rfl⟩⟩
  · refine a_iload_n (n := 13) dX10_bed_12 rfl rfl ?_
    refine a_callS (M2 := mX10_isDigitNumber) (n := 16) dX10_bed_13 rfl (m_isDigitNumber (d := d)) kX10_isDigitNumber lX10_305 sX10_isDigitNumber (by omega) rfl (Nat.le_of_ble_eq_true rfl) (fun q13 z13 hr13 hi13 hl13 h13 => ?_)
    obtain ⟨rfl, rfl, rfl, rfl, b13, rfl, hb13⟩ := h13
    show a_wp G _ _ _ _ (vI b13 :: _) _ _ _ _ _
    refine a_if_eq (t := 39) (n := 19) dX10_bed_16 rfl rfl (fun c16 => ?_) (fun c16 => ?_)
    · refine a_iconst (n := 40) dX10_bed_39 rfl ⟨by decide, by decide⟩ ?_
      refine a_ireturn dX10_bed_40 rfl ?_
      first | exact ⟨rfl, rfl, rfl, Or.inl ⟨by omega, rfl, rfl⟩⟩ | exact ⟨rfl, rfl, rfl, Or.inr ⟨by omega, rfl, rfl⟩⟩
    · refine a_iload_n (n := 20) dX10_bed_19 rfl rfl ?_
      refine a_iconst (n := 21) dX10_bed_20 rfl ⟨by decide, by decide⟩ ?_
      refine a_icmp_lt (t := 39) (n := 24) dX10_bed_21 rfl rfl (fun c21 => ?_) (fun c21 => ?_)
      · refine a_iconst (n := 40) dX10_bed_39 rfl ⟨by decide, by decide⟩ ?_
        refine a_ireturn dX10_bed_40 rfl ?_
        first | exact ⟨rfl, rfl, rfl, Or.inl ⟨by omega, rfl, rfl⟩⟩ | exact ⟨rfl, rfl, rfl, Or.inr ⟨by omega, rfl, rfl⟩⟩
      · refine a_iload_n (n := 25) dX10_bed_24 rfl rfl ?_
        refine a_bipush (n := 27) dX10_bed_25 rfl ⟨by decide, by decide⟩ (by decide) ?_
        refine a_icmp_gt (t := 39) (n := 30) dX10_bed_27 rfl rfl (fun c27 => ?_) (fun c27 => ?_)
        · refine a_iconst (n := 40) dX10_bed_39 rfl ⟨by decide, by decide⟩ ?_
          refine a_ireturn dX10_bed_40 rfl ?_
          first | exact ⟨rfl, rfl, rfl, Or.inl ⟨by omega, rfl, rfl⟩⟩ | exact ⟨rfl, rfl, rfl, Or.inr ⟨by omega, rfl, rfl⟩⟩
        · refine a_aload_n (n := 31) dX10_bed_30 rfl rfl ?_
          refine a_getI (n := 34) dX10_bed_31 rfl fX10_308 (s37 hz) ?_
          try simp only [up2_eq, Nat.reduceEqDiff, Int.reduceEq, Int.reduceNeg, and_true, true_and, and_false, false_and, and_self, if_true, if_false, ite_true, ite_false, reduceIte]
          refine a_bipush (n := 36) dX10_bed_34 rfl ⟨by decide, by decide⟩ (by decide) ?_
          refine a_icmp_ne (t := 41) (n := 39) dX10_bed_36 rfl rfl (fun c36 => ?_) (fun c36 => ?_)
          · refine a_aload_n (n := 42) dX10_bed_41 rfl rfl ?_
            refine a_getR (n := 45) dX10_bed_42 rfl fX10_141 (s37 hz) (r37_46 hR) ?_
            refine a_aload_n (n := 46) dX10_bed_45 rfl rfl ?_
            refine a_getI (n := 49) dX10_bed_46 rfl fX10_308 (s37 hz) ?_
            try simp only [up2_eq, Nat.reduceEqDiff, Int.reduceEq, Int.reduceNeg, and_true, true_and, and_false, false_and, and_self, if_true, if_false, ite_true, ite_false, reduceIte]
            refine a_iload_n (n := 50) dX10_bed_49 rfl rfl ?_
            refine a_iast (n := 51) dX10_bed_50 rfl (s70 hz) (by omega) (by omega) ?_
            refine a_aload_n (n := 52) dX10_bed_51 rfl rfl ?_
            refine a_getR (n := 55) dX10_bed_52 rfl fX10_144 (s37 hz) (r37_47 hR) ?_
            refine a_aload_n (n := 56) dX10_bed_55 rfl rfl ?_
            refine a_getI (n := 59) dX10_bed_56 rfl fX10_308 (s37 hz) ?_
            try simp only [up2_eq, Nat.reduceEqDiff, Int.reduceEq, Int.reduceNeg, and_true, true_and, and_false, false_and, and_self, if_true, if_false, ite_true, ite_false, reduceIte]
            refine a_iload_n (n := 60) dX10_bed_59 rfl rfl ?_
            refine a_iast (n := 61) dX10_bed_60 rfl (s71 hz) (by omega) (by omega) ?_
            refine a_aload_n (n := 62) dX10_bed_61 rfl rfl ?_
            refine a_getR (n := 65) dX10_bed_62 rfl fX10_147 (s37 hz) (r37_48 hR) ?_
            refine a_aload_n (n := 66) dX10_bed_65 rfl rfl ?_
            refine a_getI (n := 69) dX10_bed_66 rfl fX10_308 (s37 hz) ?_
            try simp only [up2_eq, Nat.reduceEqDiff, Int.reduceEq, Int.reduceNeg, and_true, true_and, and_false, false_and, and_self, if_true, if_false, ite_true, ite_false, reduceIte]
            refine a_iload_n (n := 70) dX10_bed_69 rfl rfl ?_
            refine a_iast (n := 71) dX10_bed_70 rfl (s72 hz) (by omega) (by omega) ?_
            refine a_aload_n (n := 72) dX10_bed_71 rfl rfl ?_
            refine a_dup (n := 73) dX10_bed_72 rfl rfl ?_
            refine a_getI (n := 76) dX10_bed_73 rfl fX10_308 (s37 hz) ?_
            try simp only [up2_eq, Nat.reduceEqDiff, Int.reduceEq, Int.reduceNeg, and_true, true_and, and_false, false_and, and_self, if_true, if_false, ite_true, ite_false, reduceIte]
            refine a_iconst (n := 77) dX10_bed_76 rfl ⟨by decide, by decide⟩ ?_
            refine a_iadd (n := 78) dX10_bed_77 rfl ⟨by omega, by omega⟩ ?_
            refine a_putI (n := 81) dX10_bed_78 rfl fX10_308 rfl (s37 hz) (Or.inl rfl) ?_
            refine a_aload_n (n := 82) dX10_bed_81 rfl rfl ?_
            refine a_getI (n := 85) dX10_bed_82 rfl fX10_308 (s37 hz) ?_
            try simp only [up2_eq, Nat.reduceEqDiff, Int.reduceEq, Int.reduceNeg, and_true, true_and, and_false, false_and, and_self, if_true, if_false, ite_true, ite_false, reduceIte]
            refine a_iconst (n := 86) dX10_bed_85 rfl ⟨by decide, by decide⟩ ?_
            refine a_isub (n := 87) dX10_bed_86 rfl ⟨by omega, by omega⟩ ?_
            refine a_ireturn dX10_bed_87 rfl ?_
            first | exact ⟨rfl, rfl, rfl, Or.inl ⟨by omega, rfl, rfl⟩⟩ | exact ⟨rfl, rfl, rfl, Or.inr ⟨by omega, rfl, rfl⟩⟩
          · refine a_iconst (n := 40) dX10_bed_39 rfl ⟨by decide, by decide⟩ ?_
            refine a_ireturn dX10_bed_40 rfl ?_
            first | exact ⟨rfl, rfl, rfl, Or.inl ⟨by omega, rfl, rfl⟩⟩ | exact ⟨rfl, rfl, rfl, Or.inr ⟨by omega, rfl, rfl⟩⟩
set_option maxRecDepth 100000 in
set_option maxHeartbeats 4000000 in
theorem m_change (hz : stZ z) (hR : stR hr) {b l w : Int} (hp : hi 37 45 ≤ 8) : a_ct G mX10_change (d + 1) [vR 37, vI b, vI l, vI w] z hr hi hl (fun r z' hr' hi' hl' => z' = z ∧ hr' = hr ∧ hl' = hl ∧ (((0 ≤ b ∧ b < hi 37 45 ∧ 0 ≤ l ∧ l ≤ 9 ∧ 0 ≤ w ∧ w ≤ 9) ∧ r = some (vI (1)) ∧ hi' = up2 (up2 (up2 hi 37 0 0) 70 b l) 71 b w) ∨ (¬ (0 ≤ b ∧ b < hi 37 45 ∧ 0 ≤ l ∧ l ≤ 9 ∧ 0 ≤ w ∧ w ≤ 9) ∧ r = some (vI (0)) ∧ hi' = up2 hi 37 0 0))) := by
  refine a_ct_of rfl (Nat.le_of_ble_eq_true rfl) ?_
  refine a_aload_n (n := 1) dX10_change_0 rfl rfl ?_
  refine a_iconst (n := 2) dX10_change_1 rfl ⟨by decide, by decide⟩ ?_
  refine a_putI (n := 5) dX10_change_2 rfl fX10_1 rfl (s37 hz) (Or.inl rfl) ?_
  refine a_aload_n (n := 6) dX10_change_5 rfl rfl ?_
  refine a_iload_n (n := 7) dX10_change_6 rfl rfl ?_
  refine a_callV (M2 := mX10_isBed) (n := 10) dX10_change_7 rfl (m_isBed (d := d) hz) kX10_isBed lX10_311 iX10_isBed eX10_isBed (by decide) (by omega) (s37 hz) rfl (Nat.le_of_ble_eq_true rfl) (fun q7 z7 hr7 hi7 hl7 h7 => ?_)
  obtain ⟨rfl, rfl, rfl, rfl, b7, rfl, hb7⟩ := h7
  simp only [up2_eq, Nat.reduceEqDiff, Int.reduceEq, and_true, true_and, and_false, false_and, and_self, if_true, if_false, reduceIte] at hb7
  show a_wp G _ _ _ _ (vI b7 :: _) _ _ _ _ _
  refine a_if_eq (t := 27) (n := 13) dX10_change_10 rfl rfl (fun c10 => ?_) (fun c10 => ?_)
  · refine a_iconst (n := 28) dX10_change_27 rfl ⟨by decide, by decide⟩ ?_
    refine a_zreturn dX10_change_28 rfl (by omega) ?_
    first | exact ⟨rfl, rfl, rfl, Or.inl ⟨by omega, rfl, rfl⟩⟩ | exact ⟨rfl, rfl, rfl, Or.inr ⟨by omega, rfl, rfl⟩⟩
  · refine a_iload_n (n := 14) dX10_change_13 rfl rfl ?_
    refine a_callS (M2 := mX10_isDigitNumber) (n := 17) dX10_change_14 rfl (m_isDigitNumber (d := d)) kX10_isDigitNumber lX10_305 sX10_isDigitNumber (by omega) rfl (Nat.le_of_ble_eq_true rfl) (fun q14 z14 hr14 hi14 hl14 h14 => ?_)
    obtain ⟨rfl, rfl, rfl, rfl, b14, rfl, hb14⟩ := h14
    show a_wp G _ _ _ _ (vI b14 :: _) _ _ _ _ _
    refine a_if_eq (t := 27) (n := 20) dX10_change_17 rfl rfl (fun c17 => ?_) (fun c17 => ?_)
    · refine a_iconst (n := 28) dX10_change_27 rfl ⟨by decide, by decide⟩ ?_
      refine a_zreturn dX10_change_28 rfl (by omega) ?_
      first | exact ⟨rfl, rfl, rfl, Or.inl ⟨by omega, rfl, rfl⟩⟩ | exact ⟨rfl, rfl, rfl, Or.inr ⟨by omega, rfl, rfl⟩⟩
    · refine a_iload_n (n := 21) dX10_change_20 rfl rfl ?_
      refine a_callS (M2 := mX10_isDigitNumber) (n := 24) dX10_change_21 rfl (m_isDigitNumber (d := d)) kX10_isDigitNumber lX10_305 sX10_isDigitNumber (by omega) rfl (Nat.le_of_ble_eq_true rfl) (fun q21 z21 hr21 hi21 hl21 h21 => ?_)
      obtain ⟨rfl, rfl, rfl, rfl, b21, rfl, hb21⟩ := h21
      show a_wp G _ _ _ _ (vI b21 :: _) _ _ _ _ _
      refine a_if_ne (t := 29) (n := 27) dX10_change_24 rfl rfl (fun c24 => ?_) (fun c24 => ?_)
      · refine a_aload_n (n := 30) dX10_change_29 rfl rfl ?_
        refine a_getR (n := 33) dX10_change_30 rfl fX10_141 (s37 hz) (r37_46 hR) ?_
        refine a_iload_n (n := 34) dX10_change_33 rfl rfl ?_
        refine a_iload_n (n := 35) dX10_change_34 rfl rfl ?_
        refine a_iast (n := 36) dX10_change_35 rfl (s70 hz) (by omega) (by omega) ?_
        refine a_aload_n (n := 37) dX10_change_36 rfl rfl ?_
        refine a_getR (n := 40) dX10_change_37 rfl fX10_144 (s37 hz) (r37_47 hR) ?_
        refine a_iload_n (n := 41) dX10_change_40 rfl rfl ?_
        refine a_iload_n (n := 42) dX10_change_41 rfl rfl ?_
        refine a_iast (n := 43) dX10_change_42 rfl (s71 hz) (by omega) (by omega) ?_
        refine a_iconst (n := 44) dX10_change_43 rfl ⟨by decide, by decide⟩ ?_
        refine a_zreturn dX10_change_44 rfl (by omega) ?_
        first | exact ⟨rfl, rfl, rfl, Or.inl ⟨by omega, rfl, rfl⟩⟩ | exact ⟨rfl, rfl, rfl, Or.inr ⟨by omega, rfl, rfl⟩⟩
      · refine a_iconst (n := 28) dX10_change_27 rfl ⟨by decide, by decide⟩ ?_
        refine a_zreturn dX10_change_28 rfl (by omega) ?_
        first | exact ⟨rfl, rfl, rfl, Or.inl ⟨by omega, rfl, rfl⟩⟩ | exact ⟨rfl, rfl, rfl, Or.inr ⟨by omega, rfl, rfl⟩⟩
set_option maxRecDepth 100000 in
set_option maxHeartbeats 4000000 in
theorem m_needs (hz : stZ z) (hR : stR hr) {p a b c e : Int} (hp : hi 37 25 ≤ 40) : a_ct G mX10_needs (d + 1) [vR 37, vI p, vI a, vI b, vI c, vI e] z hr hi hl (fun r z' hr' hi' hl' => z' = z ∧ hr' = hr ∧ hl' = hl ∧ (((0 ≤ p ∧ p < hi 37 25 ∧ 0 ≤ a ∧ b ≤ 9 ∧ a ≤ b ∧ 0 ≤ c ∧ e ≤ 9 ∧ c ≤ e) ∧ r = some (vI (1)) ∧ hi' = up2 (up2 (up2 (up2 (up2 hi 37 0 0) 58 (4 * p) a) 58 (4 * p + 1) b) 58 (4 * p + 2) c) 58 (4 * p + 3) e) ∨ (¬ (0 ≤ p ∧ p < hi 37 25 ∧ 0 ≤ a ∧ b ≤ 9 ∧ a ≤ b ∧ 0 ≤ c ∧ e ≤ 9 ∧ c ≤ e) ∧ r = some (vI (0)) ∧ hi' = up2 hi 37 0 0))) := by
  refine a_ct_of rfl (Nat.le_of_ble_eq_true rfl) ?_
  refine a_aload_n (n := 1) dX10_needs_0 rfl rfl ?_
  refine a_iconst (n := 2) dX10_needs_1 rfl ⟨by decide, by decide⟩ ?_
  refine a_putI (n := 5) dX10_needs_2 rfl fX10_1 rfl (s37 hz) (Or.inl rfl) ?_
  refine a_aload_n (n := 6) dX10_needs_5 rfl rfl ?_
  refine a_iload_n (n := 7) dX10_needs_6 rfl rfl ?_
  refine a_callV (M2 := mX10_isPlant) (n := 10) dX10_needs_7 rfl (m_isPlant (d := d) hz) kX10_isPlant lX10_268 iX10_isPlant eX10_isPlant (by decide) (by omega) (s37 hz) rfl (Nat.le_of_ble_eq_true rfl) (fun q7 z7 hr7 hi7 hl7 h7 => ?_)
  obtain ⟨rfl, rfl, rfl, rfl, b7, rfl, hb7⟩ := h7
  simp only [up2_eq, Nat.reduceEqDiff, Int.reduceEq, and_true, true_and, and_false, false_and, and_self, if_true, if_false, reduceIte] at hb7
  show a_wp G _ _ _ _ (vI b7 :: _) _ _ _ _ _
  refine a_if_eq (t := 47) (n := 13) dX10_needs_10 rfl rfl (fun c10 => ?_) (fun c10 => ?_)
  · refine a_iconst (n := 48) dX10_needs_47 rfl ⟨by decide, by decide⟩ ?_
    refine a_zreturn dX10_needs_48 rfl (by omega) ?_
    first | exact ⟨rfl, rfl, rfl, Or.inl ⟨by omega, rfl, rfl⟩⟩ | exact ⟨rfl, rfl, rfl, Or.inr ⟨by omega, rfl, rfl⟩⟩
  · refine a_iload_n (n := 14) dX10_needs_13 rfl rfl ?_
    refine a_if_lt (t := 47) (n := 17) dX10_needs_14 rfl rfl (fun c14 => ?_) (fun c14 => ?_)
    · refine a_iconst (n := 48) dX10_needs_47 rfl ⟨by decide, by decide⟩ ?_
      refine a_zreturn dX10_needs_48 rfl (by omega) ?_
      first | exact ⟨rfl, rfl, rfl, Or.inl ⟨by omega, rfl, rfl⟩⟩ | exact ⟨rfl, rfl, rfl, Or.inr ⟨by omega, rfl, rfl⟩⟩
    · refine a_iload_n (n := 18) dX10_needs_17 rfl rfl ?_
      refine a_bipush (n := 20) dX10_needs_18 rfl ⟨by decide, by decide⟩ (by decide) ?_
      refine a_icmp_gt (t := 47) (n := 23) dX10_needs_20 rfl rfl (fun c20 => ?_) (fun c20 => ?_)
      · refine a_iconst (n := 48) dX10_needs_47 rfl ⟨by decide, by decide⟩ ?_
        refine a_zreturn dX10_needs_48 rfl (by omega) ?_
        first | exact ⟨rfl, rfl, rfl, Or.inl ⟨by omega, rfl, rfl⟩⟩ | exact ⟨rfl, rfl, rfl, Or.inr ⟨by omega, rfl, rfl⟩⟩
      · refine a_iload_n (n := 24) dX10_needs_23 rfl rfl ?_
        refine a_iload_n (n := 25) dX10_needs_24 rfl rfl ?_
        refine a_icmp_gt (t := 47) (n := 28) dX10_needs_25 rfl rfl (fun c25 => ?_) (fun c25 => ?_)
        · refine a_iconst (n := 48) dX10_needs_47 rfl ⟨by decide, by decide⟩ ?_
          refine a_zreturn dX10_needs_48 rfl (by omega) ?_
          first | exact ⟨rfl, rfl, rfl, Or.inl ⟨by omega, rfl, rfl⟩⟩ | exact ⟨rfl, rfl, rfl, Or.inr ⟨by omega, rfl, rfl⟩⟩
        · refine a_iload (n := 30) dX10_needs_28 rfl rfl ?_
          refine a_if_lt (t := 47) (n := 33) dX10_needs_30 rfl rfl (fun c30 => ?_) (fun c30 => ?_)
          · refine a_iconst (n := 48) dX10_needs_47 rfl ⟨by decide, by decide⟩ ?_
            refine a_zreturn dX10_needs_48 rfl (by omega) ?_
            first | exact ⟨rfl, rfl, rfl, Or.inl ⟨by omega, rfl, rfl⟩⟩ | exact ⟨rfl, rfl, rfl, Or.inr ⟨by omega, rfl, rfl⟩⟩
          · refine a_iload (n := 35) dX10_needs_33 rfl rfl ?_
            refine a_bipush (n := 37) dX10_needs_35 rfl ⟨by decide, by decide⟩ (by decide) ?_
            refine a_icmp_gt (t := 47) (n := 40) dX10_needs_37 rfl rfl (fun c37 => ?_) (fun c37 => ?_)
            · refine a_iconst (n := 48) dX10_needs_47 rfl ⟨by decide, by decide⟩ ?_
              refine a_zreturn dX10_needs_48 rfl (by omega) ?_
              first | exact ⟨rfl, rfl, rfl, Or.inl ⟨by omega, rfl, rfl⟩⟩ | exact ⟨rfl, rfl, rfl, Or.inr ⟨by omega, rfl, rfl⟩⟩
            · refine a_iload (n := 42) dX10_needs_40 rfl rfl ?_
              refine a_iload (n := 44) dX10_needs_42 rfl rfl ?_
              refine a_icmp_le (t := 49) (n := 47) dX10_needs_44 rfl rfl (fun c44 => ?_) (fun c44 => ?_)
              · refine a_aload_n (n := 50) dX10_needs_49 rfl rfl ?_
                refine a_getR (n := 53) dX10_needs_50 rfl fX10_105 (s37 hz) (r37_31 hR) ?_
                refine a_iconst (n := 54) dX10_needs_53 rfl ⟨by decide, by decide⟩ ?_
                refine a_iload_n (n := 55) dX10_needs_54 rfl rfl ?_
                refine a_imul (n := 56) dX10_needs_55 rfl ⟨by omega, by omega⟩ ?_
                refine a_iload_n (n := 57) dX10_needs_56 rfl rfl ?_
                refine a_iast (n := 58) dX10_needs_57 rfl (s58 hz) (by omega) (by omega) ?_
                refine a_aload_n (n := 59) dX10_needs_58 rfl rfl ?_
                refine a_getR (n := 62) dX10_needs_59 rfl fX10_105 (s37 hz) (r37_31 hR) ?_
                refine a_iconst (n := 63) dX10_needs_62 rfl ⟨by decide, by decide⟩ ?_
                refine a_iload_n (n := 64) dX10_needs_63 rfl rfl ?_
                refine a_imul (n := 65) dX10_needs_64 rfl ⟨by omega, by omega⟩ ?_
                refine a_iconst (n := 66) dX10_needs_65 rfl ⟨by decide, by decide⟩ ?_
                refine a_iadd (n := 67) dX10_needs_66 rfl ⟨by omega, by omega⟩ ?_
                refine a_iload_n (n := 68) dX10_needs_67 rfl rfl ?_
                refine a_iast (n := 69) dX10_needs_68 rfl (s58 hz) (by omega) (by omega) ?_
                refine a_aload_n (n := 70) dX10_needs_69 rfl rfl ?_
                refine a_getR (n := 73) dX10_needs_70 rfl fX10_105 (s37 hz) (r37_31 hR) ?_
                refine a_iconst (n := 74) dX10_needs_73 rfl ⟨by decide, by decide⟩ ?_
                refine a_iload_n (n := 75) dX10_needs_74 rfl rfl ?_
                refine a_imul (n := 76) dX10_needs_75 rfl ⟨by omega, by omega⟩ ?_
                refine a_iconst (n := 77) dX10_needs_76 rfl ⟨by decide, by decide⟩ ?_
                refine a_iadd (n := 78) dX10_needs_77 rfl ⟨by omega, by omega⟩ ?_
                refine a_iload (n := 80) dX10_needs_78 rfl rfl ?_
                refine a_iast (n := 81) dX10_needs_80 rfl (s58 hz) (by omega) (by omega) ?_
                refine a_aload_n (n := 82) dX10_needs_81 rfl rfl ?_
                refine a_getR (n := 85) dX10_needs_82 rfl fX10_105 (s37 hz) (r37_31 hR) ?_
                refine a_iconst (n := 86) dX10_needs_85 rfl ⟨by decide, by decide⟩ ?_
                refine a_iload_n (n := 87) dX10_needs_86 rfl rfl ?_
                refine a_imul (n := 88) dX10_needs_87 rfl ⟨by omega, by omega⟩ ?_
                refine a_iconst (n := 89) dX10_needs_88 rfl ⟨by decide, by decide⟩ ?_
                refine a_iadd (n := 90) dX10_needs_89 rfl ⟨by omega, by omega⟩ ?_
                refine a_iload (n := 92) dX10_needs_90 rfl rfl ?_
                refine a_iast (n := 93) dX10_needs_92 rfl (s58 hz) (by omega) (by omega) ?_
                refine a_iconst (n := 94) dX10_needs_93 rfl ⟨by decide, by decide⟩ ?_
                refine a_zreturn dX10_needs_94 rfl (by omega) ?_
                first | exact ⟨rfl, rfl, rfl, Or.inl ⟨by omega, rfl, rfl⟩⟩ | exact ⟨rfl, rfl, rfl, Or.inr ⟨by omega, rfl, rfl⟩⟩
              · refine a_iconst (n := 48) dX10_needs_47 rfl ⟨by decide, by decide⟩ ?_
                refine a_zreturn dX10_needs_48 rfl (by omega) ?_
                first | exact ⟨rfl, rfl, rfl, Or.inl ⟨by omega, rfl, rfl⟩⟩ | exact ⟨rfl, rfl, rfl, Or.inr ⟨by omega, rfl, rfl⟩⟩
set_option maxRecDepth 100000 in
set_option maxHeartbeats 4000000 in
theorem m_name (hz : stZ z) (hR : stR hr) {p n : Int} (hg : 0 ≤ hi 37 37 ∧ hi 37 37 ≤ 300) : a_ct G mX10_name (d + 1) [vR 37, vI p, vI n] z hr hi hl (fun r z' hr' hi' hl' => z' = z ∧ hr' = hr ∧ hl' = hl ∧ (((0 ≤ p ∧ p < hi 37 25 ∧ 1 ≤ n ∧ n ≤ 50 ∧ ¬ hi 37 37 = 300) ∧ r = some (vI (1)) ∧ hi' = up2 (up2 (up2 (up2 (up2 hi 37 0 0) 64 (hi 37 37) p) 65 (hi 37 37) n) 66 (hi 37 37) (hi 37 24)) 37 37 (hi 37 37 + 1)) ∨ (¬ (0 ≤ p ∧ p < hi 37 25 ∧ 1 ≤ n ∧ n ≤ 50 ∧ ¬ hi 37 37 = 300) ∧ r = some (vI (0)) ∧ hi' = up2 hi 37 0 0))) := by
  refine a_ct_of rfl (Nat.le_of_ble_eq_true rfl) ?_
  refine a_aload_n (n := 1) dX10_name_0 rfl rfl ?_
  refine a_iconst (n := 2) dX10_name_1 rfl ⟨by decide, by decide⟩ ?_
  refine a_putI (n := 5) dX10_name_2 rfl fX10_1 rfl (s37 hz) (Or.inl rfl) ?_
  refine a_aload_n (n := 6) dX10_name_5 rfl rfl ?_
  refine a_iload_n (n := 7) dX10_name_6 rfl rfl ?_
  refine a_callV (M2 := mX10_isPlant) (n := 10) dX10_name_7 rfl (m_isPlant (d := d) hz) kX10_isPlant lX10_268 iX10_isPlant eX10_isPlant (by decide) (by omega) (s37 hz) rfl (Nat.le_of_ble_eq_true rfl) (fun q7 z7 hr7 hi7 hl7 h7 => ?_)
  obtain ⟨rfl, rfl, rfl, rfl, b7, rfl, hb7⟩ := h7
  simp only [up2_eq, Nat.reduceEqDiff, Int.reduceEq, and_true, true_and, and_false, false_and, and_self, if_true, if_false, reduceIte] at hb7
  show a_wp G _ _ _ _ (vI b7 :: _) _ _ _ _ _
  refine a_if_eq (t := 30) (n := 13) dX10_name_10 rfl rfl (fun c10 => ?_) (fun c10 => ?_)
  · refine a_iconst (n := 31) dX10_name_30 rfl ⟨by decide, by decide⟩ ?_
    refine a_zreturn dX10_name_31 rfl (by omega) ?_
    first | exact ⟨rfl, rfl, rfl, Or.inl ⟨by omega, rfl, rfl⟩⟩ | exact ⟨rfl, rfl, rfl, Or.inr ⟨by omega, rfl, rfl⟩⟩
  · refine a_iload_n (n := 14) dX10_name_13 rfl rfl ?_
    refine a_callS (M2 := mX10_isName) (n := 17) dX10_name_14 rfl (m_isName (d := d)) kX10_isName lX10_283 sX10_isName (by omega) rfl (Nat.le_of_ble_eq_true rfl) (fun q14 z14 hr14 hi14 hl14 h14 => ?_)
    obtain ⟨rfl, rfl, rfl, rfl, b14, rfl, hb14⟩ := h14
    show a_wp G _ _ _ _ (vI b14 :: _) _ _ _ _ _
    refine a_if_eq (t := 30) (n := 20) dX10_name_17 rfl rfl (fun c17 => ?_) (fun c17 => ?_)
    · refine a_iconst (n := 31) dX10_name_30 rfl ⟨by decide, by decide⟩ ?_
      refine a_zreturn dX10_name_31 rfl (by omega) ?_
      first | exact ⟨rfl, rfl, rfl, Or.inl ⟨by omega, rfl, rfl⟩⟩ | exact ⟨rfl, rfl, rfl, Or.inr ⟨by omega, rfl, rfl⟩⟩
    · refine a_aload_n (n := 21) dX10_name_20 rfl rfl ?_
      refine a_getI (n := 24) dX10_name_21 rfl fX10_286 (s37 hz) ?_
      try simp only [up2_eq, Nat.reduceEqDiff, Int.reduceEq, Int.reduceNeg, and_true, true_and, and_false, false_and, and_self, if_true, if_false, ite_true, ite_false, reduceIte]
      refine a_sipush (n := 27) dX10_name_24 rfl ⟨by decide, by decide⟩ (by decide) ?_
      refine a_icmp_ne (t := 32) (n := 30) dX10_name_27 rfl rfl (fun c27 => ?_) (fun c27 => ?_)
      · refine a_aload_n (n := 33) dX10_name_32 rfl rfl ?_
        refine a_getR (n := 36) dX10_name_33 rfl fX10_123 (s37 hz) (r37_38 hR) ?_
        refine a_aload_n (n := 37) dX10_name_36 rfl rfl ?_
        refine a_getI (n := 40) dX10_name_37 rfl fX10_286 (s37 hz) ?_
        try simp only [up2_eq, Nat.reduceEqDiff, Int.reduceEq, Int.reduceNeg, and_true, true_and, and_false, false_and, and_self, if_true, if_false, ite_true, ite_false, reduceIte]
        refine a_iload_n (n := 41) dX10_name_40 rfl rfl ?_
        refine a_iast (n := 42) dX10_name_41 rfl (s64 hz) (by omega) (by omega) ?_
        refine a_aload_n (n := 43) dX10_name_42 rfl rfl ?_
        refine a_getR (n := 46) dX10_name_43 rfl fX10_126 (s37 hz) (r37_39 hR) ?_
        refine a_aload_n (n := 47) dX10_name_46 rfl rfl ?_
        refine a_getI (n := 50) dX10_name_47 rfl fX10_286 (s37 hz) ?_
        try simp only [up2_eq, Nat.reduceEqDiff, Int.reduceEq, Int.reduceNeg, and_true, true_and, and_false, false_and, and_self, if_true, if_false, ite_true, ite_false, reduceIte]
        refine a_iload_n (n := 51) dX10_name_50 rfl rfl ?_
        refine a_iast (n := 52) dX10_name_51 rfl (s65 hz) (by omega) (by omega) ?_
        refine a_aload_n (n := 53) dX10_name_52 rfl rfl ?_
        refine a_getR (n := 56) dX10_name_53 rfl fX10_129 (s37 hz) (r37_40 hR) ?_
        refine a_aload_n (n := 57) dX10_name_56 rfl rfl ?_
        refine a_getI (n := 60) dX10_name_57 rfl fX10_286 (s37 hz) ?_
        try simp only [up2_eq, Nat.reduceEqDiff, Int.reduceEq, Int.reduceNeg, and_true, true_and, and_false, false_and, and_self, if_true, if_false, ite_true, ite_false, reduceIte]
        refine a_aload_n (n := 61) dX10_name_60 rfl rfl ?_
        refine a_getI (n := 64) dX10_name_61 rfl fX10_255 (s37 hz) ?_
        try simp only [up2_eq, Nat.reduceEqDiff, Int.reduceEq, Int.reduceNeg, and_true, true_and, and_false, false_and, and_self, if_true, if_false, ite_true, ite_false, reduceIte]
        refine a_iast (n := 65) dX10_name_64 rfl (s66 hz) (by omega) (by omega) ?_
        refine a_aload_n (n := 66) dX10_name_65 rfl rfl ?_
        refine a_dup (n := 67) dX10_name_66 rfl rfl ?_
        refine a_getI (n := 70) dX10_name_67 rfl fX10_286 (s37 hz) ?_
        try simp only [up2_eq, Nat.reduceEqDiff, Int.reduceEq, Int.reduceNeg, and_true, true_and, and_false, false_and, and_self, if_true, if_false, ite_true, ite_false, reduceIte]
        refine a_iconst (n := 71) dX10_name_70 rfl ⟨by decide, by decide⟩ ?_
        refine a_iadd (n := 72) dX10_name_71 rfl ⟨by omega, by omega⟩ ?_
        refine a_putI (n := 75) dX10_name_72 rfl fX10_286 rfl (s37 hz) (Or.inl rfl) ?_
        refine a_iconst (n := 76) dX10_name_75 rfl ⟨by decide, by decide⟩ ?_
        refine a_zreturn dX10_name_76 rfl (by omega) ?_
        first | exact ⟨rfl, rfl, rfl, Or.inl ⟨by omega, rfl, rfl⟩⟩ | exact ⟨rfl, rfl, rfl, Or.inr ⟨by omega, rfl, rfl⟩⟩
      · refine a_iconst (n := 31) dX10_name_30 rfl ⟨by decide, by decide⟩ ?_
        refine a_zreturn dX10_name_31 rfl (by omega) ?_
        first | exact ⟨rfl, rfl, rfl, Or.inl ⟨by omega, rfl, rfl⟩⟩ | exact ⟨rfl, rfl, rfl, Or.inr ⟨by omega, rfl, rfl⟩⟩
set_option maxRecDepth 100000 in
set_option maxHeartbeats 4000000 in
theorem m_mark (hz : stZ z) (hR : stR hr) {p w a b : Int} (hp : hi 37 25 ≤ 40) : a_ct G mX10_mark (d + 1) [vR 37, vI p, vI w, vI a, vI b] z hr hi hl (fun r z' hr' hi' hl' => z' = z ∧ hr' = hr ∧ hl' = hl ∧ (((0 ≤ p ∧ p < hi 37 25 ∧ 0 ≤ w ∧ w ≤ 3 ∧ 0 ≤ a ∧ a ≤ 9 ∧ 0 ≤ b ∧ b ≤ 9) ∧ r = some (vI (1)) ∧ hi' = up2 (up2 (up2 hi 37 0 0) 57 (8 * p + 2 * w) (if a < b then a else b)) 57 (8 * p + 2 * w + 1) (if a < b then b else a)) ∨ (¬ (0 ≤ p ∧ p < hi 37 25 ∧ 0 ≤ w ∧ w ≤ 3 ∧ 0 ≤ a ∧ a ≤ 9 ∧ 0 ≤ b ∧ b ≤ 9) ∧ r = some (vI (0)) ∧ hi' = up2 hi 37 0 0))) := by
  refine a_ct_of rfl (Nat.le_of_ble_eq_true rfl) ?_
  refine a_aload_n (n := 1) dX10_mark_0 rfl rfl ?_
  refine a_iconst (n := 2) dX10_mark_1 rfl ⟨by decide, by decide⟩ ?_
  refine a_putI (n := 5) dX10_mark_2 rfl fX10_1 rfl (s37 hz) (Or.inl rfl) ?_
  refine a_aload_n (n := 6) dX10_mark_5 rfl rfl ?_
  refine a_iload_n (n := 7) dX10_mark_6 rfl rfl ?_
  refine a_callV (M2 := mX10_isPlant) (n := 10) dX10_mark_7 rfl (m_isPlant (d := d) hz) kX10_isPlant lX10_268 iX10_isPlant eX10_isPlant (by decide) (by omega) (s37 hz) rfl (Nat.le_of_ble_eq_true rfl) (fun q7 z7 hr7 hi7 hl7 h7 => ?_)
  obtain ⟨rfl, rfl, rfl, rfl, b7, rfl, hb7⟩ := h7
  simp only [up2_eq, Nat.reduceEqDiff, Int.reduceEq, and_true, true_and, and_false, false_and, and_self, if_true, if_false, reduceIte] at hb7
  show a_wp G _ _ _ _ (vI b7 :: _) _ _ _ _ _
  refine a_if_eq (t := 44) (n := 13) dX10_mark_10 rfl rfl (fun c10 => ?_) (fun c10 => ?_)
  · refine a_iconst (n := 45) dX10_mark_44 rfl ⟨by decide, by decide⟩ ?_
    refine a_zreturn dX10_mark_45 rfl (by omega) ?_
    first | (exfalso; omega; done) | exact ⟨rfl, rfl, rfl, Or.inr ⟨by omega, rfl, rfl⟩⟩ | exact ⟨rfl, rfl, rfl, Or.inl ⟨by omega, rfl, by simp only [show ¬ a < b by omega, if_false]⟩⟩ | exact ⟨rfl, rfl, rfl, Or.inl ⟨by omega, rfl, by simp only [show a < b by omega, if_true]⟩⟩ | exact absurd (show False by omega) id
  · refine a_iload_n (n := 14) dX10_mark_13 rfl rfl ?_
    refine a_if_lt (t := 44) (n := 17) dX10_mark_14 rfl rfl (fun c14 => ?_) (fun c14 => ?_)
    · refine a_iconst (n := 45) dX10_mark_44 rfl ⟨by decide, by decide⟩ ?_
      refine a_zreturn dX10_mark_45 rfl (by omega) ?_
      first | (exfalso; omega; done) | exact ⟨rfl, rfl, rfl, Or.inr ⟨by omega, rfl, rfl⟩⟩ | exact ⟨rfl, rfl, rfl, Or.inl ⟨by omega, rfl, by simp only [show ¬ a < b by omega, if_false]⟩⟩ | exact ⟨rfl, rfl, rfl, Or.inl ⟨by omega, rfl, by simp only [show a < b by omega, if_true]⟩⟩ | exact absurd (show False by omega) id
    · refine a_iload_n (n := 18) dX10_mark_17 rfl rfl ?_
      refine a_iconst (n := 19) dX10_mark_18 rfl ⟨by decide, by decide⟩ ?_
      refine a_icmp_gt (t := 44) (n := 22) dX10_mark_19 rfl rfl (fun c19 => ?_) (fun c19 => ?_)
      · refine a_iconst (n := 45) dX10_mark_44 rfl ⟨by decide, by decide⟩ ?_
        refine a_zreturn dX10_mark_45 rfl (by omega) ?_
        first | (exfalso; omega; done) | exact ⟨rfl, rfl, rfl, Or.inr ⟨by omega, rfl, rfl⟩⟩ | exact ⟨rfl, rfl, rfl, Or.inl ⟨by omega, rfl, by simp only [show ¬ a < b by omega, if_false]⟩⟩ | exact ⟨rfl, rfl, rfl, Or.inl ⟨by omega, rfl, by simp only [show a < b by omega, if_true]⟩⟩ | exact absurd (show False by omega) id
      · refine a_iload_n (n := 23) dX10_mark_22 rfl rfl ?_
        refine a_if_lt (t := 44) (n := 26) dX10_mark_23 rfl rfl (fun c23 => ?_) (fun c23 => ?_)
        · refine a_iconst (n := 45) dX10_mark_44 rfl ⟨by decide, by decide⟩ ?_
          refine a_zreturn dX10_mark_45 rfl (by omega) ?_
          first | (exfalso; omega; done) | exact ⟨rfl, rfl, rfl, Or.inr ⟨by omega, rfl, rfl⟩⟩ | exact ⟨rfl, rfl, rfl, Or.inl ⟨by omega, rfl, by simp only [show ¬ a < b by omega, if_false]⟩⟩ | exact ⟨rfl, rfl, rfl, Or.inl ⟨by omega, rfl, by simp only [show a < b by omega, if_true]⟩⟩ | exact absurd (show False by omega) id
        · refine a_iload_n (n := 27) dX10_mark_26 rfl rfl ?_
          refine a_bipush (n := 29) dX10_mark_27 rfl ⟨by decide, by decide⟩ (by decide) ?_
          refine a_icmp_gt (t := 44) (n := 32) dX10_mark_29 rfl rfl (fun c29 => ?_) (fun c29 => ?_)
          · refine a_iconst (n := 45) dX10_mark_44 rfl ⟨by decide, by decide⟩ ?_
            refine a_zreturn dX10_mark_45 rfl (by omega) ?_
            first | (exfalso; omega; done) | exact ⟨rfl, rfl, rfl, Or.inr ⟨by omega, rfl, rfl⟩⟩ | exact ⟨rfl, rfl, rfl, Or.inl ⟨by omega, rfl, by simp only [show ¬ a < b by omega, if_false]⟩⟩ | exact ⟨rfl, rfl, rfl, Or.inl ⟨by omega, rfl, by simp only [show a < b by omega, if_true]⟩⟩ | exact absurd (show False by omega) id
          · refine a_iload (n := 34) dX10_mark_32 rfl rfl ?_
            refine a_if_lt (t := 44) (n := 37) dX10_mark_34 rfl rfl (fun c34 => ?_) (fun c34 => ?_)
            · refine a_iconst (n := 45) dX10_mark_44 rfl ⟨by decide, by decide⟩ ?_
              refine a_zreturn dX10_mark_45 rfl (by omega) ?_
              first | (exfalso; omega; done) | exact ⟨rfl, rfl, rfl, Or.inr ⟨by omega, rfl, rfl⟩⟩ | exact ⟨rfl, rfl, rfl, Or.inl ⟨by omega, rfl, by simp only [show ¬ a < b by omega, if_false]⟩⟩ | exact ⟨rfl, rfl, rfl, Or.inl ⟨by omega, rfl, by simp only [show a < b by omega, if_true]⟩⟩ | exact absurd (show False by omega) id
            · refine a_iload (n := 39) dX10_mark_37 rfl rfl ?_
              refine a_bipush (n := 41) dX10_mark_39 rfl ⟨by decide, by decide⟩ (by decide) ?_
              refine a_icmp_le (t := 46) (n := 44) dX10_mark_41 rfl rfl (fun c41 => ?_) (fun c41 => ?_)
              · refine a_aload_n (n := 47) dX10_mark_46 rfl rfl ?_
                refine a_getR (n := 50) dX10_mark_47 rfl fX10_102 (s37 hz) (r37_30 hR) ?_
                refine a_bipush (n := 52) dX10_mark_50 rfl ⟨by decide, by decide⟩ (by decide) ?_
                refine a_iload_n (n := 53) dX10_mark_52 rfl rfl ?_
                refine a_imul (n := 54) dX10_mark_53 rfl ⟨by omega, by omega⟩ ?_
                refine a_iconst (n := 55) dX10_mark_54 rfl ⟨by decide, by decide⟩ ?_
                refine a_iload_n (n := 56) dX10_mark_55 rfl rfl ?_
                refine a_imul (n := 57) dX10_mark_56 rfl ⟨by omega, by omega⟩ ?_
                refine a_iadd (n := 58) dX10_mark_57 rfl ⟨by omega, by omega⟩ ?_
                refine a_iload_n (n := 59) dX10_mark_58 rfl rfl ?_
                refine a_iload (n := 61) dX10_mark_59 rfl rfl ?_
                refine a_icmp_ge (t := 68) (n := 64) dX10_mark_61 rfl rfl (fun c61 => ?_) (fun c61 => ?_)
                · refine a_iload (n := 70) dX10_mark_68 rfl rfl ?_
                  refine a_iast (n := 71) dX10_mark_70 rfl (s57 hz) (by omega) (by omega) ?_
                  refine a_aload_n (n := 72) dX10_mark_71 rfl rfl ?_
                  refine a_getR (n := 75) dX10_mark_72 rfl fX10_102 (s37 hz) (r37_30 hR) ?_
                  refine a_bipush (n := 77) dX10_mark_75 rfl ⟨by decide, by decide⟩ (by decide) ?_
                  refine a_iload_n (n := 78) dX10_mark_77 rfl rfl ?_
                  refine a_imul (n := 79) dX10_mark_78 rfl ⟨by omega, by omega⟩ ?_
                  refine a_iconst (n := 80) dX10_mark_79 rfl ⟨by decide, by decide⟩ ?_
                  refine a_iload_n (n := 81) dX10_mark_80 rfl rfl ?_
                  refine a_imul (n := 82) dX10_mark_81 rfl ⟨by omega, by omega⟩ ?_
                  refine a_iadd (n := 83) dX10_mark_82 rfl ⟨by omega, by omega⟩ ?_
                  refine a_iconst (n := 84) dX10_mark_83 rfl ⟨by decide, by decide⟩ ?_
                  refine a_iadd (n := 85) dX10_mark_84 rfl ⟨by omega, by omega⟩ ?_
                  refine a_iload_n (n := 86) dX10_mark_85 rfl rfl ?_
                  refine a_iload (n := 88) dX10_mark_86 rfl rfl ?_
                  refine a_icmp_ge (t := 96) (n := 91) dX10_mark_88 rfl rfl (fun c88 => ?_) (fun c88 => ?_)
                  · refine a_iload_n (n := 97) dX10_mark_96 rfl rfl ?_
                    refine a_iast (n := 98) dX10_mark_97 rfl (s57 hz) (by omega) (by omega) ?_
                    refine a_iconst (n := 99) dX10_mark_98 rfl ⟨by decide, by decide⟩ ?_
                    refine a_zreturn dX10_mark_99 rfl (by omega) ?_
                    first | (exfalso; omega; done) | exact ⟨rfl, rfl, rfl, Or.inr ⟨by omega, rfl, rfl⟩⟩ | exact ⟨rfl, rfl, rfl, Or.inl ⟨by omega, rfl, by simp only [show ¬ a < b by omega, if_false]⟩⟩ | exact ⟨rfl, rfl, rfl, Or.inl ⟨by omega, rfl, by simp only [show a < b by omega, if_true]⟩⟩ | exact absurd (show False by omega) id
                  · refine a_iload (n := 93) dX10_mark_91 rfl rfl ?_
                    refine a_goto (t := 97) dX10_mark_93 rfl ?_
                    refine a_iast (n := 98) dX10_mark_97 rfl (s57 hz) (by omega) (by omega) ?_
                    refine a_iconst (n := 99) dX10_mark_98 rfl ⟨by decide, by decide⟩ ?_
                    refine a_zreturn dX10_mark_99 rfl (by omega) ?_
                    first | (exfalso; omega; done) | exact ⟨rfl, rfl, rfl, Or.inr ⟨by omega, rfl, rfl⟩⟩ | exact ⟨rfl, rfl, rfl, Or.inl ⟨by omega, rfl, by simp only [show ¬ a < b by omega, if_false]⟩⟩ | exact ⟨rfl, rfl, rfl, Or.inl ⟨by omega, rfl, by simp only [show a < b by omega, if_true]⟩⟩ | exact absurd (show False by omega) id
                · refine a_iload_n (n := 65) dX10_mark_64 rfl rfl ?_
                  refine a_goto (t := 70) dX10_mark_65 rfl ?_
                  refine a_iast (n := 71) dX10_mark_70 rfl (s57 hz) (by omega) (by omega) ?_
                  refine a_aload_n (n := 72) dX10_mark_71 rfl rfl ?_
                  refine a_getR (n := 75) dX10_mark_72 rfl fX10_102 (s37 hz) (r37_30 hR) ?_
                  refine a_bipush (n := 77) dX10_mark_75 rfl ⟨by decide, by decide⟩ (by decide) ?_
                  refine a_iload_n (n := 78) dX10_mark_77 rfl rfl ?_
                  refine a_imul (n := 79) dX10_mark_78 rfl ⟨by omega, by omega⟩ ?_
                  refine a_iconst (n := 80) dX10_mark_79 rfl ⟨by decide, by decide⟩ ?_
                  refine a_iload_n (n := 81) dX10_mark_80 rfl rfl ?_
                  refine a_imul (n := 82) dX10_mark_81 rfl ⟨by omega, by omega⟩ ?_
                  refine a_iadd (n := 83) dX10_mark_82 rfl ⟨by omega, by omega⟩ ?_
                  refine a_iconst (n := 84) dX10_mark_83 rfl ⟨by decide, by decide⟩ ?_
                  refine a_iadd (n := 85) dX10_mark_84 rfl ⟨by omega, by omega⟩ ?_
                  refine a_iload_n (n := 86) dX10_mark_85 rfl rfl ?_
                  refine a_iload (n := 88) dX10_mark_86 rfl rfl ?_
                  refine a_icmp_ge (t := 96) (n := 91) dX10_mark_88 rfl rfl (fun c88 => ?_) (fun c88 => ?_)
                  · refine a_iload_n (n := 97) dX10_mark_96 rfl rfl ?_
                    refine a_iast (n := 98) dX10_mark_97 rfl (s57 hz) (by omega) (by omega) ?_
                    refine a_iconst (n := 99) dX10_mark_98 rfl ⟨by decide, by decide⟩ ?_
                    refine a_zreturn dX10_mark_99 rfl (by omega) ?_
                    first | (exfalso; omega; done) | exact ⟨rfl, rfl, rfl, Or.inr ⟨by omega, rfl, rfl⟩⟩ | exact ⟨rfl, rfl, rfl, Or.inl ⟨by omega, rfl, by simp only [show ¬ a < b by omega, if_false]⟩⟩ | exact ⟨rfl, rfl, rfl, Or.inl ⟨by omega, rfl, by simp only [show a < b by omega, if_true]⟩⟩ | exact absurd (show False by omega) id
                  · refine a_iload (n := 93) dX10_mark_91 rfl rfl ?_
                    refine a_goto (t := 97) dX10_mark_93 rfl ?_
                    refine a_iast (n := 98) dX10_mark_97 rfl (s57 hz) (by omega) (by omega) ?_
                    refine a_iconst (n := 99) dX10_mark_98 rfl ⟨by decide, by decide⟩ ?_
                    refine a_zreturn dX10_mark_99 rfl (by omega) ?_
                    first | (exfalso; omega; done) | exact ⟨rfl, rfl, rfl, Or.inr ⟨by omega, rfl, rfl⟩⟩ | exact ⟨rfl, rfl, rfl, Or.inl ⟨by omega, rfl, by simp only [show ¬ a < b by omega, if_false]⟩⟩ | exact ⟨rfl, rfl, rfl, Or.inl ⟨by omega, rfl, by simp only [show a < b by omega, if_true]⟩⟩ | exact absurd (show False by omega) id
              · refine a_iconst (n := 45) dX10_mark_44 rfl ⟨by decide, by decide⟩ ?_
                refine a_zreturn dX10_mark_45 rfl (by omega) ?_
                first | (exfalso; omega; done) | exact ⟨rfl, rfl, rfl, Or.inr ⟨by omega, rfl, rfl⟩⟩ | exact ⟨rfl, rfl, rfl, Or.inl ⟨by omega, rfl, by simp only [show ¬ a < b by omega, if_false]⟩⟩ | exact ⟨rfl, rfl, rfl, Or.inl ⟨by omega, rfl, by simp only [show a < b by omega, if_true]⟩⟩ | exact absurd (show False by omega) id
end M2
