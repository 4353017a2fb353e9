section M1
variable {G : aG} {d : Nat} {z : aZ} {hr : aR} {hi hl : aI}
/-- nothing in the heap changes, and P is so of the answer -/
abbrev Qs (z : aZ) (hr : aR) (hi hl : aI) (P : Option aV → Prop) : Option aV → aZ → aR → aI → aI → Prop := fun r z' hr' hi' hl' => z' = z ∧ hr' = hr ∧ hi' = hi ∧ hl' = hl ∧ P r
/-- the answer is 1 or 0: whether p -/
abbrev isB (p : Prop) : Option aV → Prop := fun r => ∃ b : Int, r = some (vI b) ∧ ((b = 1 ∧ p) ∨ (b = 0 ∧ ¬ p))
set_option maxRecDepth 100000 in
theorem m_isLetter {c : Int} : a_ct G mX10_isLetter (d + 0) [vI c] z hr hi hl (Qs z hr hi hl (isB (97 ≤ c ∧ c ≤ 122))) := by
  refine a_ct_of rfl (Nat.le_of_ble_eq_true rfl) ?_
  refine a_iload_n (n := 1) dX10_isLetter_0 rfl rfl ?_
  refine a_bipush (n := 3) dX10_isLetter_1 rfl ⟨by decide, by decide⟩ (by decide) ?_
  refine a_icmp_lt (t := 16) (n := 6) dX10_isLetter_3 rfl rfl (fun c3 => ?_) (fun c3 => ?_)
  · refine a_iconst (n := 17) dX10_isLetter_16 rfl ⟨by decide, by decide⟩ ?_
    refine a_zreturn dX10_isLetter_17 rfl (by omega) ?_
    exact ⟨rfl, rfl, rfl, rfl, _, rfl, by omega⟩
  · refine a_iload_n (n := 7) dX10_isLetter_6 rfl rfl ?_
    refine a_bipush (n := 9) dX10_isLetter_7 rfl ⟨by decide, by decide⟩ (by decide) ?_
    refine a_icmp_gt (t := 16) (n := 12) dX10_isLetter_9 rfl rfl (fun c9 => ?_) (fun c9 => ?_)
    · refine a_iconst (n := 17) dX10_isLetter_16 rfl ⟨by decide, by decide⟩ ?_
      refine a_zreturn dX10_isLetter_17 rfl (by omega) ?_
      exact ⟨rfl, rfl, rfl, rfl, _, rfl, by omega⟩
    · refine a_iconst (n := 13) dX10_isLetter_12 rfl ⟨by decide, by decide⟩ ?_
      refine a_goto (t := 17) dX10_isLetter_13 rfl ?_
      refine a_zreturn dX10_isLetter_17 rfl (by omega) ?_
      exact ⟨rfl, rfl, rfl, rfl, _, rfl, by omega⟩
set_option maxRecDepth 100000 in
theorem m_isDigit {c : Int} : a_ct G mX10_isDigit (d + 0) [vI c] z hr hi hl (Qs z hr hi hl (isB (48 ≤ c ∧ c ≤ 57))) := by
  refine a_ct_of rfl (Nat.le_of_ble_eq_true rfl) ?_
  refine a_iload_n (n := 1) dX10_isDigit_0 rfl rfl ?_
  refine a_bipush (n := 3) dX10_isDigit_1 rfl ⟨by decide, by decide⟩ (by decide) ?_
  refine a_icmp_lt (t := 16) (n := 6) dX10_isDigit_3 rfl rfl (fun c3 => ?_) (fun c3 => ?_)
  · refine a_iconst (n := 17) dX10_isDigit_16 rfl ⟨by decide, by decide⟩ ?_
    refine a_zreturn dX10_isDigit_17 rfl (by omega) ?_
    exact ⟨rfl, rfl, rfl, rfl, _, rfl, by omega⟩
  · refine a_iload_n (n := 7) dX10_isDigit_6 rfl rfl ?_
    refine a_bipush (n := 9) dX10_isDigit_7 rfl ⟨by decide, by decide⟩ (by decide) ?_
    refine a_icmp_gt (t := 16) (n := 12) dX10_isDigit_9 rfl rfl (fun c9 => ?_) (fun c9 => ?_)
    · refine a_iconst (n := 17) dX10_isDigit_16 rfl ⟨by decide, by decide⟩ ?_
      refine a_zreturn dX10_isDigit_17 rfl (by omega) ?_
      exact ⟨rfl, rfl, rfl, rfl, _, rfl, by omega⟩
    · refine a_iconst (n := 13) dX10_isDigit_12 rfl ⟨by decide, by decide⟩ ?_
      refine a_goto (t := 17) dX10_isDigit_13 rfl ?_
      refine a_zreturn dX10_isDigit_17 rfl (by omega) ?_
      exact ⟨rfl, rfl, rfl, rfl, _, rfl, by omega⟩
set_option maxRecDepth 100000 in
theorem m_areMany {c : Int} : a_ct G mX10_areMany (d + 0) [vI c] z hr hi hl (Qs z hr hi hl (isB (1 ≤ c ∧ c ≤ 100))) := by
  refine a_ct_of rfl (Nat.le_of_ble_eq_true rfl) ?_
  refine a_iload_n (n := 1) dX10_areMany_0 rfl rfl ?_
  refine a_iconst (n := 2) dX10_areMany_1 rfl ⟨by decide, by decide⟩ ?_
  refine a_icmp_lt (t := 15) (n := 5) dX10_areMany_2 rfl rfl (fun c2 => ?_) (fun c2 => ?_)
  · refine a_iconst (n := 16) dX10_areMany_15 rfl ⟨by decide, by decide⟩ ?_
    refine a_zreturn dX10_areMany_16 rfl (by omega) ?_
    exact ⟨rfl, rfl, rfl, rfl, _, rfl, by omega⟩
  · refine a_iload_n (n := 6) dX10_areMany_5 rfl rfl ?_
    refine a_bipush (n := 8) dX10_areMany_6 rfl ⟨by decide, by decide⟩ (by decide) ?_
    refine a_icmp_gt (t := 15) (n := 11) dX10_areMany_8 rfl rfl (fun c8 => ?_) (fun c8 => ?_)
    · refine a_iconst (n := 16) dX10_areMany_15 rfl ⟨by decide, by decide⟩ ?_
      refine a_zreturn dX10_areMany_16 rfl (by omega) ?_
      exact ⟨rfl, rfl, rfl, rfl, _, rfl, by omega⟩
    · refine a_iconst (n := 12) dX10_areMany_11 rfl ⟨by decide, by decide⟩ ?_
      refine a_goto (t := 16) dX10_areMany_12 rfl ?_
      refine a_zreturn dX10_areMany_16 rfl (by omega) ?_
      exact ⟨rfl, rfl, rfl, rfl, _, rfl, by omega⟩
set_option maxRecDepth 100000 in
theorem m_isName {c : Int} : a_ct G mX10_isName (d + 0) [vI c] z hr hi hl (Qs z hr hi hl (isB (1 ≤ c ∧ c ≤ 50))) := by
  refine a_ct_of rfl (Nat.le_of_ble_eq_true rfl) ?_
  refine a_iload_n (n := 1) dX10_isName_0 rfl rfl ?_
  refine a_iconst (n := 2) dX10_isName_1 rfl ⟨by decide, by decide⟩ ?_
  refine a_icmp_lt (t := 15) (n := 5) dX10_isName_2 rfl rfl (fun c2 => ?_) (fun c2 => ?_)
  · refine a_iconst (n := 16) dX10_isName_15 rfl ⟨by decide, by decide⟩ ?_
    refine a_zreturn dX10_isName_16 rfl (by omega) ?_
    exact ⟨rfl, rfl, rfl, rfl, _, rfl, by omega⟩
  · refine a_iload_n (n := 6) dX10_isName_5 rfl rfl ?_
    refine a_bipush (n := 8) dX10_isName_6 rfl ⟨by decide, by decide⟩ (by decide) ?_
    refine a_icmp_gt (t := 15) (n := 11) dX10_isName_8 rfl rfl (fun c8 => ?_) (fun c8 => ?_)
    · refine a_iconst (n := 16) dX10_isName_15 rfl ⟨by decide, by decide⟩ ?_
      refine a_zreturn dX10_isName_16 rfl (by omega) ?_
      exact ⟨rfl, rfl, rfl, rfl, _, rfl, by omega⟩
    · refine a_iconst (n := 12) dX10_isName_11 rfl ⟨by decide, by decide⟩ ?_
      refine a_goto (t := 16) dX10_isName_12 rfl ?_
      refine a_zreturn dX10_isName_16 rfl (by omega) ?_
      exact ⟨rfl, rfl, rfl, rfl, _, rfl, by omega⟩
set_option maxRecDepth 100000 in
theorem m_isDigitNumber {c : Int} : a_ct G mX10_isDigitNumber (d + 0) [vI c] z hr hi hl (Qs z hr hi hl (isB (0 ≤ c ∧ c ≤ 9))) := by
  refine a_ct_of rfl (Nat.le_of_ble_eq_true rfl) ?_
  refine a_iload_n (n := 1) dX10_isDigitNumber_0 rfl rfl ?_
  refine a_if_lt (t := 14) (n := 4) dX10_isDigitNumber_1 rfl rfl (fun c1 => ?_) (fun c1 => ?_)
  · refine a_iconst (n := 15) dX10_isDigitNumber_14 rfl ⟨by decide, by decide⟩ ?_
    refine a_zreturn dX10_isDigitNumber_15 rfl (by omega) ?_
    exact ⟨rfl, rfl, rfl, rfl, _, rfl, by omega⟩
  · refine a_iload_n (n := 5) dX10_isDigitNumber_4 rfl rfl ?_
    refine a_bipush (n := 7) dX10_isDigitNumber_5 rfl ⟨by decide, by decide⟩ (by decide) ?_
    refine a_icmp_gt (t := 14) (n := 10) dX10_isDigitNumber_7 rfl rfl (fun c7 => ?_) (fun c7 => ?_)
    · refine a_iconst (n := 15) dX10_isDigitNumber_14 rfl ⟨by decide, by decide⟩ ?_
      refine a_zreturn dX10_isDigitNumber_15 rfl (by omega) ?_
      exact ⟨rfl, rfl, rfl, rfl, _, rfl, by omega⟩
    · refine a_iconst (n := 11) dX10_isDigitNumber_10 rfl ⟨by decide, by decide⟩ ?_
      refine a_goto (t := 15) dX10_isDigitNumber_11 rfl ?_
      refine a_zreturn dX10_isDigitNumber_15 rfl (by omega) ?_
      exact ⟨rfl, rfl, rfl, rfl, _, rfl, by omega⟩
set_option maxRecDepth 100000 in
theorem m_isSignOf {c : Int} : a_ct G mX10_isSignOf (d + 0) [vI c] z hr hi hl (Qs z hr hi hl (isB (c = 40 ∨ c = 41 ∨ c = 59 ∨ c = 61 ∨ c = 60 ∨ c = 43 ∨ c = 45))) := by
  refine a_ct_of rfl (Nat.le_of_ble_eq_true rfl) ?_
  refine a_iload_n (n := 1) dX10_isSignOf_0 rfl rfl ?_
  refine a_bipush (n := 3) dX10_isSignOf_1 rfl ⟨by decide, by decide⟩ (by decide) ?_
  refine a_icmp_eq (t := 42) (n := 6) dX10_isSignOf_3 rfl rfl (fun c3 => ?_) (fun c3 => ?_)
  · refine a_iconst (n := 43) dX10_isSignOf_42 rfl ⟨by decide, by decide⟩ ?_
    refine a_goto (t := 47) dX10_isSignOf_43 rfl ?_
    refine a_zreturn dX10_isSignOf_47 rfl (by omega) ?_
    exact ⟨rfl, rfl, rfl, rfl, _, rfl, by omega⟩
  · refine a_iload_n (n := 7) dX10_isSignOf_6 rfl rfl ?_
    refine a_bipush (n := 9) dX10_isSignOf_7 rfl ⟨by decide, by decide⟩ (by decide) ?_
    refine a_icmp_eq (t := 42) (n := 12) dX10_isSignOf_9 rfl rfl (fun c9 => ?_) (fun c9 => ?_)
    · refine a_iconst (n := 43) dX10_isSignOf_42 rfl ⟨by decide, by decide⟩ ?_
      refine a_goto (t := 47) dX10_isSignOf_43 rfl ?_
      refine a_zreturn dX10_isSignOf_47 rfl (by omega) ?_
      exact ⟨rfl, rfl, rfl, rfl, _, rfl, by omega⟩
    · refine a_iload_n (n := 13) dX10_isSignOf_12 rfl rfl ?_
      refine a_bipush (n := 15) dX10_isSignOf_13 rfl ⟨by decide, by decide⟩ (by decide) ?_
      refine a_icmp_eq (t := 42) (n := 18) dX10_isSignOf_15 rfl rfl (fun c15 => ?_) (fun c15 => ?_)
      · refine a_iconst (n := 43) dX10_isSignOf_42 rfl ⟨by decide, by decide⟩ ?_
        refine a_goto (t := 47) dX10_isSignOf_43 rfl ?_
        refine a_zreturn dX10_isSignOf_47 rfl (by omega) ?_
        exact ⟨rfl, rfl, rfl, rfl, _, rfl, by omega⟩
      · refine a_iload_n (n := 19) dX10_isSignOf_18 rfl rfl ?_
        refine a_bipush (n := 21) dX10_isSignOf_19 rfl ⟨by decide, by decide⟩ (by decide) ?_
        refine a_icmp_eq (t := 42) (n := 24) dX10_isSignOf_21 rfl rfl (fun c21 => ?_) (fun c21 => ?_)
        · refine a_iconst (n := 43) dX10_isSignOf_42 rfl ⟨by decide, by decide⟩ ?_
          refine a_goto (t := 47) dX10_isSignOf_43 rfl ?_
          refine a_zreturn dX10_isSignOf_47 rfl (by omega) ?_
          exact ⟨rfl, rfl, rfl, rfl, _, rfl, by omega⟩
        · refine a_iload_n (n := 25) dX10_isSignOf_24 rfl rfl ?_
          refine a_bipush (n := 27) dX10_isSignOf_25 rfl ⟨by decide, by decide⟩ (by decide) ?_
          refine a_icmp_eq (t := 42) (n := 30) dX10_isSignOf_27 rfl rfl (fun c27 => ?_) (fun c27 => ?_)
          · refine a_iconst (n := 43) dX10_isSignOf_42 rfl ⟨by decide, by decide⟩ ?_
            refine a_goto (t := 47) dX10_isSignOf_43 rfl ?_
            refine a_zreturn dX10_isSignOf_47 rfl (by omega) ?_
            exact ⟨rfl, rfl, rfl, rfl, _, rfl, by omega⟩
          · refine a_iload_n (n := 31) dX10_isSignOf_30 rfl rfl ?_
            refine a_bipush (n := 33) dX10_isSignOf_31 rfl ⟨by decide, by decide⟩ (by decide) ?_
            refine a_icmp_eq (t := 42) (n := 36) dX10_isSignOf_33 rfl rfl (fun c33 => ?_) (fun c33 => ?_)
            · refine a_iconst (n := 43) dX10_isSignOf_42 rfl ⟨by decide, by decide⟩ ?_
              refine a_goto (t := 47) dX10_isSignOf_43 rfl ?_
              refine a_zreturn dX10_isSignOf_47 rfl (by omega) ?_
              exact ⟨rfl, rfl, rfl, rfl, _, rfl, by omega⟩
            · refine a_iload_n (n := 37) dX10_isSignOf_36 rfl rfl ?_
              refine a_bipush (n := 39) dX10_isSignOf_37 rfl ⟨by decide, by decide⟩ (by decide) ?_
              refine a_icmp_ne (t := 46) (n := 42) dX10_isSignOf_39 rfl rfl (fun c39 => ?_) (fun c39 => ?_)
              · refine a_iconst (n := 47) dX10_isSignOf_46 rfl ⟨by decide, by decide⟩ ?_
                refine a_zreturn dX10_isSignOf_47 rfl (by omega) ?_
                exact ⟨rfl, rfl, rfl, rfl, _, rfl, by omega⟩
              · refine a_iconst (n := 43) dX10_isSignOf_42 rfl ⟨by decide, by decide⟩ ?_
                refine a_goto (t := 47) dX10_isSignOf_43 rfl ?_
                refine a_zreturn dX10_isSignOf_47 rfl (by omega) ?_
                exact ⟨rfl, rfl, rfl, rfl, _, rfl, by omega⟩
set_option maxRecDepth 100000 in
theorem m_rank {c : Int} (hc : 0 ≤ c ∧ c ≤ 255) : a_ct G mX10_rank (d + 1) [vI c] z hr hi hl (Qs z hr hi hl (fun r => ∃ b : Int, r = some (vI b) ∧ ((97 ≤ c ∧ c ≤ 122 ∧ b = c - 96) ∨ (¬ (97 ≤ c ∧ c ≤ 122) ∧ b = c - 21)))) := by
  refine a_ct_of rfl (Nat.le_of_ble_eq_true rfl) ?_
  refine a_iload_n (n := 1) dX10_rank_0 rfl rfl ?_
  refine a_callS (M2 := mX10_isLetter) (n := 4) dX10_rank_1 rfl (m_isLetter (d := d)) kX10_isLetter lX10_168 sX10_isLetter (by omega) rfl (Nat.le_of_ble_eq_true rfl) (fun q1 z1 hr1 hi1 hl1 h1 => ?_)
  obtain ⟨rfl, rfl, rfl, rfl, b1, rfl, hb1⟩ := h1
  show a_wp G _ _ _ _ (vI b1 :: _) _ _ _ _ _
  refine a_if_eq (t := 14) (n := 7) dX10_rank_4 rfl rfl (fun c4 => ?_) (fun c4 => ?_)
  · refine a_iload_n (n := 15) dX10_rank_14 rfl rfl ?_
    refine a_bipush (n := 17) dX10_rank_15 rfl ⟨by decide, by decide⟩ (by decide) ?_
    refine a_isub (n := 18) dX10_rank_17 rfl ⟨by omega, by omega⟩ ?_
    refine a_ireturn dX10_rank_18 rfl ?_
    exact ⟨rfl, rfl, rfl, rfl, _, rfl, by omega⟩
  · refine a_iload_n (n := 8) dX10_rank_7 rfl rfl ?_
    refine a_bipush (n := 10) dX10_rank_8 rfl ⟨by decide, by decide⟩ (by decide) ?_
    refine a_isub (n := 11) dX10_rank_10 rfl ⟨by omega, by omega⟩ ?_
    refine a_goto (t := 18) dX10_rank_11 rfl ?_
    refine a_ireturn dX10_rank_18 rfl ?_
    exact ⟨rfl, rfl, rfl, rfl, _, rfl, by omega⟩
set_option maxRecDepth 100000 in
theorem m_thrown (hz : stZ z) : a_ct G mX10_thrown (d + 0) [vR 37] z hr hi hl (Qs z hr hi hl (fun r => r = some (vI (hi 37 0)))) := by
  refine a_ct_of rfl (Nat.le_of_ble_eq_true rfl) ?_
  refine a_aload_n (n := 1) dX10_thrown_0 rfl rfl ?_
  refine a_getI (n := 4) dX10_thrown_1 rfl fX10_1 (s37 hz) ?_
  refine a_ireturn dX10_thrown_4 rfl ?_
  exact ⟨rfl, rfl, rfl, rfl, rfl⟩
set_option maxRecDepth 100000 in
theorem m_isPlant (hz : stZ z) {p : Int} : a_ct G mX10_isPlant (d + 0) [vR 37, vI p] z hr hi hl (Qs z hr hi hl (isB (0 ≤ p ∧ p < hi 37 25))) := by
  refine a_ct_of rfl (Nat.le_of_ble_eq_true rfl) ?_
  refine a_iload_n (n := 1) dX10_isPlant_0 rfl rfl ?_
  refine a_if_lt (t := 16) (n := 4) dX10_isPlant_1 rfl rfl (fun c1 => ?_) (fun c1 => ?_)
  · refine a_iconst (n := 17) dX10_isPlant_16 rfl ⟨by decide, by decide⟩ ?_
    refine a_zreturn dX10_isPlant_17 rfl (by omega) ?_
    exact ⟨rfl, rfl, rfl, rfl, _, rfl, by omega⟩
  · refine a_iload_n (n := 5) dX10_isPlant_4 rfl rfl ?_
    refine a_aload_n (n := 6) dX10_isPlant_5 rfl rfl ?_
    refine a_getI (n := 9) dX10_isPlant_6 rfl fX10_258 (s37 hz) ?_
    refine a_icmp_ge (t := 16) (n := 12) dX10_isPlant_9 rfl rfl (fun c9 => ?_) (fun c9 => ?_)
    · refine a_iconst (n := 17) dX10_isPlant_16 rfl ⟨by decide, by decide⟩ ?_
      refine a_zreturn dX10_isPlant_17 rfl (by omega) ?_
      exact ⟨rfl, rfl, rfl, rfl, _, rfl, by omega⟩
    · refine a_iconst (n := 13) dX10_isPlant_12 rfl ⟨by decide, by decide⟩ ?_
      refine a_goto (t := 17) dX10_isPlant_13 rfl ?_
      refine a_zreturn dX10_isPlant_17 rfl (by omega) ?_
      exact ⟨rfl, rfl, rfl, rfl, _, rfl, by omega⟩
set_option maxRecDepth 100000 in
theorem m_isBed (hz : stZ z) {p : Int} : a_ct G mX10_isBed (d + 0) [vR 37, vI p] z hr hi hl (Qs z hr hi hl (isB (0 ≤ p ∧ p < hi 37 45))) := by
  refine a_ct_of rfl (Nat.le_of_ble_eq_true rfl) ?_
  refine a_iload_n (n := 1) dX10_isBed_0 rfl rfl ?_
  refine a_if_lt (t := 16) (n := 4) dX10_isBed_1 rfl rfl (fun c1 => ?_) (fun c1 => ?_)
  · refine a_iconst (n := 17) dX10_isBed_16 rfl ⟨by decide, by decide⟩ ?_
    refine a_zreturn dX10_isBed_17 rfl (by omega) ?_
    exact ⟨rfl, rfl, rfl, rfl, _, rfl, by omega⟩
  · refine a_iload_n (n := 5) dX10_isBed_4 rfl rfl ?_
    refine a_aload_n (n := 6) dX10_isBed_5 rfl rfl ?_
    refine a_getI (n := 9) dX10_isBed_6 rfl fX10_308 (s37 hz) ?_
    refine a_icmp_ge (t := 16) (n := 12) dX10_isBed_9 rfl rfl (fun c9 => ?_) (fun c9 => ?_)
    · refine a_iconst (n := 17) dX10_isBed_16 rfl ⟨by decide, by decide⟩ ?_
      refine a_zreturn dX10_isBed_17 rfl (by omega) ?_
      exact ⟨rfl, rfl, rfl, rfl, _, rfl, by omega⟩
    · refine a_iconst (n := 13) dX10_isBed_12 rfl ⟨by decide, by decide⟩ ?_
      refine a_goto (t := 17) dX10_isBed_13 rfl ?_
      refine a_zreturn dX10_isBed_17 rfl (by omega) ?_
      exact ⟨rfl, rfl, rfl, rfl, _, rfl, by omega⟩
set_option maxRecDepth 100000 in
theorem m_days (hz : stZ z) {n : Int} (hn : 0 ≤ hi 37 24 ∧ hi 37 24 ≤ 9999) : a_ct G mX10_days (d + 0) [vR 37, vI n] z hr hi hl (fun r z' hr' hi' hl' => z' = z ∧ hr' = hr ∧ hl' = hl ∧ ((0 ≤ n ∧ n ≤ 1000 ∧ hi 37 24 + n ≤ 9999 ∧ r = some (vI (hi 37 24 + n)) ∧ hi' = up2 (up2 hi 37 0 0) 37 24 (hi 37 24 + n)) ∨ (¬ (0 ≤ n ∧ n ≤ 1000 ∧ hi 37 24 + n ≤ 9999) ∧ r = some (vI (-1)) ∧ hi' = up2 hi 37 0 0))) := by
  refine a_ct_of rfl (Nat.le_of_ble_eq_true rfl) ?_
  refine a_aload_n (n := 1) dX10_days_0 rfl rfl ?_
  refine a_iconst (n := 2) dX10_days_1 rfl ⟨by decide, by decide⟩ ?_
  refine a_putI (n := 5) dX10_days_2 rfl fX10_1 rfl (s37 hz) (Or.inl rfl) ?_
  refine a_iload_n (n := 6) dX10_days_5 rfl rfl ?_
  refine a_if_lt (t := 28) (n := 9) dX10_days_6 rfl rfl (fun c6 => ?_) (fun c6 => ?_)
  · refine a_iconst (n := 29) dX10_days_28 rfl ⟨by decide, by decide⟩ ?_
    refine a_ireturn dX10_days_29 rfl ?_
    exact ⟨rfl, rfl, rfl, by simp [up2_eq]; omega⟩
  · refine a_iload_n (n := 10) dX10_days_9 rfl rfl ?_
    refine a_sipush (n := 13) dX10_days_10 rfl ⟨by decide, by decide⟩ (by decide) ?_
    refine a_icmp_gt (t := 28) (n := 16) dX10_days_13 rfl rfl (fun c13 => ?_) (fun c13 => ?_)
    · refine a_iconst (n := 29) dX10_days_28 rfl ⟨by decide, by decide⟩ ?_
      refine a_ireturn dX10_days_29 rfl ?_
      exact ⟨rfl, rfl, rfl, by simp [up2_eq]; omega⟩
    · refine a_aload_n (n := 17) dX10_days_16 rfl rfl ?_
      refine a_getI (n := 20) dX10_days_17 rfl fX10_255 (s37 hz) ?_
      try simp only [up2_eq, Nat.reduceEqDiff, Int.reduceEq, Int.reduceNeg, and_true, true_and, and_false, false_and, and_self, if_true, if_false, ite_true, ite_false, reduceIte]
      refine a_iload_n (n := 21) dX10_days_20 rfl rfl ?_
      refine a_iadd (n := 22) dX10_days_21 rfl ⟨by omega, by omega⟩ ?_
      refine a_sipush (n := 25) dX10_days_22 rfl ⟨by decide, by decide⟩ (by decide) ?_
      refine a_icmp_le (t := 30) (n := 28) dX10_days_25 rfl rfl (fun c25 => ?_) (fun c25 => ?_)
      · refine a_aload_n (n := 31) dX10_days_30 rfl rfl ?_
        refine a_dup (n := 32) dX10_days_31 rfl rfl ?_
        refine a_getI (n := 35) dX10_days_32 rfl fX10_255 (s37 hz) ?_
        try simp only [up2_eq, Nat.reduceEqDiff, Int.reduceEq, Int.reduceNeg, and_true, true_and, and_false, false_and, and_self, if_true, if_false, ite_true, ite_false, reduceIte]
        refine a_iload_n (n := 36) dX10_days_35 rfl rfl ?_
        refine a_iadd (n := 37) dX10_days_36 rfl ⟨by omega, by omega⟩ ?_
        refine a_putI (n := 40) dX10_days_37 rfl fX10_255 rfl (s37 hz) (Or.inl rfl) ?_
        refine a_aload_n (n := 41) dX10_days_40 rfl rfl ?_
        refine a_getI (n := 44) dX10_days_41 rfl fX10_255 (s37 hz) ?_
        try simp only [up2_eq, Nat.reduceEqDiff, Int.reduceEq, Int.reduceNeg, and_true, true_and, and_false, false_and, and_self, if_true, if_false, ite_true, ite_false, reduceIte]
        refine a_ireturn dX10_days_44 rfl ?_
        exact ⟨rfl, rfl, rfl, by simp [up2_eq]; omega⟩
      · refine a_iconst (n := 29) dX10_days_28 rfl ⟨by decide, by decide⟩ ?_
        refine a_ireturn dX10_days_29 rfl ?_
        exact ⟨rfl, rfl, rfl, by simp [up2_eq]; omega⟩
end M1
