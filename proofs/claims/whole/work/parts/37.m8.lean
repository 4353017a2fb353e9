section M8
variable {G : aG} {d : Nat} {z : aZ} {hr : aR} {hi hl : aI}
/-- the MARKS of p FIT what s is of -/
def mFit (hi : aI) (p s : Int) : Prop := hi 53 s = 0 ∨ ∀ q, 0 ≤ q → q < 4 → mFitR hi p s q
theorem mFit_u {v p s : Int} : (up2 hi 37 0 v 53 s = 0 ∨ ∀ q, 0 ≤ q → q < 4 → mFitR (up2 hi 37 0 v) p s q) ↔ mFit hi p s := by
  unfold mFit mFitR
  rw [up2_f (by decide), up2_f (by decide), up2_f (by decide), up2_f (by decide)]
/-- what is known of a plant's origin -/
def mOri (hi : aI) : Prop := 0 ≤ hi 37 25 ∧ hi 37 25 ≤ 40 ∧ ∀ s, 0 ≤ s → s < hi 37 25 → ¬ hi 53 s = 0 → 0 ≤ hi 54 s ∧ hi 54 s < 40 ∧ hi 55 s < 40

set_option maxRecDepth 100000 in
set_option maxHeartbeats 4000000 in
theorem m_fits (hz : stZ z) (hR : stR hr) (hO : mOri hi) {p : Int} : a_ct G mX10_fits (d + 3) [vR 37, vI p] z hr hi hl (fun r z' hr' hi' hl' => z' = z ∧ hr' = hr ∧ hl' = hl ∧ hi' = up2 hi 37 0 0 ∧ (((0 ≤ p ∧ p < hi 37 25) ∧ ((mFit hi p p ∧ r = some (vI 1)) ∨ (¬ mFit hi p p ∧ r = some (vI 0)))) ∨ (¬ (0 ≤ p ∧ p < hi 37 25) ∧ r = some (vI (-1))))) := by
  refine a_ct_of rfl (Nat.le_of_ble_eq_true rfl) ?_
  have hO1 := hO.1
  have hO2 := hO.2.1
  refine a_aload_n (n := 1) dX10_fits_0 rfl rfl ?_
  refine a_iconst (n := 2) dX10_fits_1 rfl ⟨by decide, by decide⟩ ?_
  refine a_putI (n := 5) dX10_fits_2 rfl fX10_1 rfl (s37 hz) (Or.inl rfl) ?_
  refine a_aload_n (n := 6) dX10_fits_5 rfl rfl ?_
  refine a_iload_n (n := 7) dX10_fits_6 rfl rfl ?_
  refine a_callV (M2 := mX10_isPlant) (n := 10) dX10_fits_7 rfl (m_isPlant (d := d + 2) hz) kX10_isPlant lX10_268 iX10_isPlant eX10_isPlant (by decide) (by omega) (s37 hz) rfl (Nat.le_of_ble_eq_true rfl) (fun q7 z7 hr7 hi7 hl7 h7 => ?_)
  obtain ⟨rfl, rfl, rfl, rfl, b7, rfl, hb7⟩ := h7
  simp only [up2_eq, Nat.reduceEqDiff, Int.reduceEq, and_true, true_and, and_false, false_and, and_self, if_true, if_false, reduceIte, eq_self] at hb7
  show a_wp G _ _ _ _ (vI b7 :: _) _ _ _ _ _
  refine a_if_ne (t := 17) (n := 13) dX10_fits_10 rfl rfl (fun c10 => ?_) (fun c10 => ?_)
  · refine a_aload_n (n := 18) dX10_fits_17 rfl rfl ?_
    refine a_iload_n (n := 19) dX10_fits_18 rfl rfl ?_
    refine a_iload_n (n := 20) dX10_fits_19 rfl rfl ?_
    refine a_callV (M2 := mX10_fitsAs) (n := 23) dX10_fits_20 rfl (m_fitsAs (d := d) hz hR (by omega) (by omega) (by simpa [up2_eq] using hO.2.2 p (by omega) (by omega))) kX10_fitsAs lX10_279 iX10_fitsAs eX10_fitsAs (by decide) (by omega) (s37 hz) rfl (Nat.le_of_ble_eq_true rfl) (fun q20 z20 hr20 hi20 hl20 h20 => ?_)
    obtain ⟨rfl, rfl, rfl, rfl, b20, rfl, hb20⟩ := h20
    rw [mFit_u] at hb20
    show a_wp G _ _ _ _ (vI b20 :: _) _ _ _ _ _
    refine a_if_eq (t := 30) (n := 26) dX10_fits_23 rfl rfl (fun c23 => ?_) (fun c23 => ?_)
    · refine a_iconst (n := 31) dX10_fits_30 rfl ⟨by decide, by decide⟩ ?_
      refine a_ireturn dX10_fits_31 rfl ?_
      first | exact ⟨rfl, rfl, rfl, rfl, Or.inr ⟨by omega, rfl⟩⟩ | exact ⟨rfl, rfl, rfl, rfl, Or.inl ⟨by omega, Or.inl ⟨isB_t hb20 c23, rfl⟩⟩⟩ | exact ⟨rfl, rfl, rfl, rfl, Or.inl ⟨by omega, Or.inr ⟨isB_f hb20 c23, rfl⟩⟩⟩
    · refine a_iconst (n := 27) dX10_fits_26 rfl ⟨by decide, by decide⟩ ?_
      refine a_goto (t := 31) dX10_fits_27 rfl ?_
      refine a_ireturn dX10_fits_31 rfl ?_
      first | exact ⟨rfl, rfl, rfl, rfl, Or.inr ⟨by omega, rfl⟩⟩ | exact ⟨rfl, rfl, rfl, rfl, Or.inl ⟨by omega, Or.inl ⟨isB_t hb20 c23, rfl⟩⟩⟩ | exact ⟨rfl, rfl, rfl, rfl, Or.inl ⟨by omega, Or.inr ⟨isB_f hb20 c23, rfl⟩⟩⟩
  · refine a_iconst (n := 14) dX10_fits_13 rfl ⟨by decide, by decide⟩ ?_
    refine a_goto (t := 31) dX10_fits_14 rfl ?_
    refine a_ireturn dX10_fits_31 rfl ?_
    first | exact ⟨rfl, rfl, rfl, rfl, Or.inr ⟨by omega, rfl⟩⟩ | exact ⟨rfl, rfl, rfl, rfl, Or.inl ⟨by omega, Or.inl ⟨isB_t hb20 c23, rfl⟩⟩⟩ | exact ⟨rfl, rfl, rfl, rfl, Or.inl ⟨by omega, Or.inr ⟨isB_f hb20 c23, rfl⟩⟩⟩
set_option maxRecDepth 100000 in
set_option maxHeartbeats 4000000 in
theorem m_changed (hz : stZ z) (hR : stR hr) (hO : mOri hi) {a b : Int} : a_ct G mX10_changed (d + 3) [vR 37, vI a, vI b] z hr hi hl (fun r z' hr' hi' hl' => z' = z ∧ hr' = hr ∧ hl' = hl ∧ hi' = up2 hi 37 0 0 ∧ ((((0 ≤ a ∧ a < hi 37 25) ∧ (0 ≤ b ∧ b < hi 37 25) ∧ ¬ a = b) ∧ (((¬ mFit hi a a ∧ ¬ mFit hi b b ∧ mFit hi a b ∧ mFit hi b a) ∧ r = some (vI 1)) ∨ (¬ (¬ mFit hi a a ∧ ¬ mFit hi b b ∧ mFit hi a b ∧ mFit hi b a) ∧ r = some (vI 0)))) ∨ (¬ ((0 ≤ a ∧ a < hi 37 25) ∧ (0 ≤ b ∧ b < hi 37 25) ∧ ¬ a = b) ∧ r = some (vI (-1))))) := by
  refine a_ct_of rfl (Nat.le_of_ble_eq_true rfl) ?_
  have hO1 := hO.1
  have hO2 := hO.2.1
  refine a_aload_n (n := 1) dX10_changed_0 rfl rfl ?_
  refine a_iconst (n := 2) dX10_changed_1 rfl ⟨by decide, by decide⟩ ?_
  refine a_putI (n := 5) dX10_changed_2 rfl fX10_1 rfl (s37 hz) (Or.inl rfl) ?_
  refine a_aload_n (n := 6) dX10_changed_5 rfl rfl ?_
  refine a_iload_n (n := 7) dX10_changed_6 rfl rfl ?_
  refine a_callV (M2 := mX10_isPlant) (n := 10) dX10_changed_7 rfl (m_isPlant (d := d + 2) hz) kX10_isPlant lX10_268 iX10_isPlant eX10_isPlant (by decide) (by omega) (s37 hz) rfl (Nat.le_of_ble_eq_true rfl) (fun q7 z7 hr7 hi7 hl7 h7 => ?_)
  obtain ⟨rfl, rfl, rfl, rfl, b7, rfl, hb7⟩ := h7
  simp only [up2_eq, Nat.reduceEqDiff, Int.reduceEq, and_true, true_and, and_false, false_and, and_self, if_true, if_false, reduceIte, eq_self] at hb7
  show a_wp G _ _ _ _ (vI b7 :: _) _ _ _ _ _
  refine a_if_eq (t := 26) (n := 13) dX10_changed_10 rfl rfl (fun c10 => ?_) (fun c10 => ?_)
  · refine a_iconst (n := 27) dX10_changed_26 rfl ⟨by decide, by decide⟩ ?_
    refine a_ireturn dX10_changed_27 rfl ?_
    first | exact ⟨rfl, rfl, rfl, rfl, Or.inr ⟨by omega, rfl⟩⟩ | exact ⟨rfl, rfl, rfl, rfl, Or.inl ⟨by omega, Or.inl ⟨⟨isB_f hb31 (Classical.not_not.mp c34), isB_f hb40 (Classical.not_not.mp c43), isB_t hb49 c52, isB_t hb58 c61⟩, rfl⟩⟩⟩ | exact ⟨rfl, rfl, rfl, rfl, Or.inl ⟨by omega, Or.inl ⟨⟨isB_f hb31 c34, isB_f hb40 c43, isB_t hb49 c52, isB_t hb58 c61⟩, rfl⟩⟩⟩ | exact ⟨rfl, rfl, rfl, rfl, Or.inl ⟨by omega, Or.inr ⟨fun q => q.1 (isB_t hb31 c34), rfl⟩⟩⟩ | exact ⟨rfl, rfl, rfl, rfl, Or.inl ⟨by omega, Or.inr ⟨fun q => q.2.1 (isB_t hb40 c43), rfl⟩⟩⟩ | exact ⟨rfl, rfl, rfl, rfl, Or.inl ⟨by omega, Or.inr ⟨fun q => isB_f hb49 c52 q.2.2.1, rfl⟩⟩⟩ | exact ⟨rfl, rfl, rfl, rfl, Or.inl ⟨by omega, Or.inr ⟨fun q => isB_f hb58 c61 q.2.2.2, rfl⟩⟩⟩
  · refine a_aload_n (n := 14) dX10_changed_13 rfl rfl ?_
    refine a_iload_n (n := 15) dX10_changed_14 rfl rfl ?_
    refine a_callV (M2 := mX10_isPlant) (n := 18) dX10_changed_15 rfl (m_isPlant (d := d + 2) hz) kX10_isPlant lX10_268 iX10_isPlant eX10_isPlant (by decide) (by omega) (s37 hz) rfl (Nat.le_of_ble_eq_true rfl) (fun q15 z15 hr15 hi15 hl15 h15 => ?_)
    obtain ⟨rfl, rfl, rfl, rfl, b15, rfl, hb15⟩ := h15
    simp only [up2_eq, Nat.reduceEqDiff, Int.reduceEq, and_true, true_and, and_false, false_and, and_self, if_true, if_false, reduceIte, eq_self] at hb15
    show a_wp G _ _ _ _ (vI b15 :: _) _ _ _ _ _
    refine a_if_eq (t := 26) (n := 21) dX10_changed_18 rfl rfl (fun c18 => ?_) (fun c18 => ?_)
    · refine a_iconst (n := 27) dX10_changed_26 rfl ⟨by decide, by decide⟩ ?_
      refine a_ireturn dX10_changed_27 rfl ?_
      first | exact ⟨rfl, rfl, rfl, rfl, Or.inr ⟨by omega, rfl⟩⟩ | exact ⟨rfl, rfl, rfl, rfl, Or.inl ⟨by omega, Or.inl ⟨⟨isB_f hb31 (Classical.not_not.mp c34), isB_f hb40 (Classical.not_not.mp c43), isB_t hb49 c52, isB_t hb58 c61⟩, rfl⟩⟩⟩ | exact ⟨rfl, rfl, rfl, rfl, Or.inl ⟨by omega, Or.inl ⟨⟨isB_f hb31 c34, isB_f hb40 c43, isB_t hb49 c52, isB_t hb58 c61⟩, rfl⟩⟩⟩ | exact ⟨rfl, rfl, rfl, rfl, Or.inl ⟨by omega, Or.inr ⟨fun q => q.1 (isB_t hb31 c34), rfl⟩⟩⟩ | exact ⟨rfl, rfl, rfl, rfl, Or.inl ⟨by omega, Or.inr ⟨fun q => q.2.1 (isB_t hb40 c43), rfl⟩⟩⟩ | exact ⟨rfl, rfl, rfl, rfl, Or.inl ⟨by omega, Or.inr ⟨fun q => isB_f hb49 c52 q.2.2.1, rfl⟩⟩⟩ | exact ⟨rfl, rfl, rfl, rfl, Or.inl ⟨by omega, Or.inr ⟨fun q => isB_f hb58 c61 q.2.2.2, rfl⟩⟩⟩
    · refine a_iload_n (n := 22) dX10_changed_21 rfl rfl ?_
      refine a_iload_n (n := 23) dX10_changed_22 rfl rfl ?_
      refine a_icmp_ne (t := 28) (n := 26) dX10_changed_23 rfl rfl (fun c23 => ?_) (fun c23 => ?_)
      · refine a_aload_n (n := 29) dX10_changed_28 rfl rfl ?_
        refine a_iload_n (n := 30) dX10_changed_29 rfl rfl ?_
        refine a_iload_n (n := 31) dX10_changed_30 rfl rfl ?_
        refine a_callV (M2 := mX10_fitsAs) (n := 34) dX10_changed_31 rfl (m_fitsAs (d := d) hz hR (by omega) (by omega) (by simpa [up2_eq] using hO.2.2 a (by omega) (by omega))) kX10_fitsAs lX10_279 iX10_fitsAs eX10_fitsAs (by decide) (by omega) (s37 hz) rfl (Nat.le_of_ble_eq_true rfl) (fun q31 z31 hr31 hi31 hl31 h31 => ?_)
        obtain ⟨rfl, rfl, rfl, rfl, b31, rfl, hb31⟩ := h31
        rw [mFit_u] at hb31
        show a_wp G _ _ _ _ (vI b31 :: _) _ _ _ _ _
        refine a_if_ne (t := 68) (n := 37) dX10_changed_34 rfl rfl (fun c34 => ?_) (fun c34 => ?_)
        · refine a_iconst (n := 69) dX10_changed_68 rfl ⟨by decide, by decide⟩ ?_
          refine a_ireturn dX10_changed_69 rfl ?_
          first | exact ⟨rfl, rfl, rfl, rfl, Or.inr ⟨by omega, rfl⟩⟩ | exact ⟨rfl, rfl, rfl, rfl, Or.inl ⟨by omega, Or.inl ⟨⟨isB_f hb31 (Classical.not_not.mp c34), isB_f hb40 (Classical.not_not.mp c43), isB_t hb49 c52, isB_t hb58 c61⟩, rfl⟩⟩⟩ | exact ⟨rfl, rfl, rfl, rfl, Or.inl ⟨by omega, Or.inl ⟨⟨isB_f hb31 c34, isB_f hb40 c43, isB_t hb49 c52, isB_t hb58 c61⟩, rfl⟩⟩⟩ | exact ⟨rfl, rfl, rfl, rfl, Or.inl ⟨by omega, Or.inr ⟨fun q => q.1 (isB_t hb31 c34), rfl⟩⟩⟩ | exact ⟨rfl, rfl, rfl, rfl, Or.inl ⟨by omega, Or.inr ⟨fun q => q.2.1 (isB_t hb40 c43), rfl⟩⟩⟩ | exact ⟨rfl, rfl, rfl, rfl, Or.inl ⟨by omega, Or.inr ⟨fun q => isB_f hb49 c52 q.2.2.1, rfl⟩⟩⟩ | exact ⟨rfl, rfl, rfl, rfl, Or.inl ⟨by omega, Or.inr ⟨fun q => isB_f hb58 c61 q.2.2.2, rfl⟩⟩⟩
        · refine a_aload_n (n := 38) dX10_changed_37 rfl rfl ?_
          refine a_iload_n (n := 39) dX10_changed_38 rfl rfl ?_
          refine a_iload_n (n := 40) dX10_changed_39 rfl rfl ?_
          refine a_callV (M2 := mX10_fitsAs) (n := 43) dX10_changed_40 rfl (m_fitsAs (d := d) hz hR (by omega) (by omega) (by simpa [up2_eq] using hO.2.2 b (by omega) (by omega))) kX10_fitsAs lX10_279 iX10_fitsAs eX10_fitsAs (by decide) (by omega) (s37 hz) rfl (Nat.le_of_ble_eq_true rfl) (fun q40 z40 hr40 hi40 hl40 h40 => ?_)
          obtain ⟨rfl, rfl, rfl, rfl, b40, rfl, hb40⟩ := h40
          rw [mFit_u] at hb40
          show a_wp G _ _ _ _ (vI b40 :: _) _ _ _ _ _
          refine a_if_ne (t := 68) (n := 46) dX10_changed_43 rfl rfl (fun c43 => ?_) (fun c43 => ?_)
          · refine a_iconst (n := 69) dX10_changed_68 rfl ⟨by decide, by decide⟩ ?_
            refine a_ireturn dX10_changed_69 rfl ?_
            first | exact ⟨rfl, rfl, rfl, rfl, Or.inr ⟨by omega, rfl⟩⟩ | exact ⟨rfl, rfl, rfl, rfl, Or.inl ⟨by omega, Or.inl ⟨⟨isB_f hb31 (Classical.not_not.mp c34), isB_f hb40 (Classical.not_not.mp c43), isB_t hb49 c52, isB_t hb58 c61⟩, rfl⟩⟩⟩ | exact ⟨rfl, rfl, rfl, rfl, Or.inl ⟨by omega, Or.inl ⟨⟨isB_f hb31 c34, isB_f hb40 c43, isB_t hb49 c52, isB_t hb58 c61⟩, rfl⟩⟩⟩ | exact ⟨rfl, rfl, rfl, rfl, Or.inl ⟨by omega, Or.inr ⟨fun q => q.1 (isB_t hb31 c34), rfl⟩⟩⟩ | exact ⟨rfl, rfl, rfl, rfl, Or.inl ⟨by omega, Or.inr ⟨fun q => q.2.1 (isB_t hb40 c43), rfl⟩⟩⟩ | exact ⟨rfl, rfl, rfl, rfl, Or.inl ⟨by omega, Or.inr ⟨fun q => isB_f hb49 c52 q.2.2.1, rfl⟩⟩⟩ | exact ⟨rfl, rfl, rfl, rfl, Or.inl ⟨by omega, Or.inr ⟨fun q => isB_f hb58 c61 q.2.2.2, rfl⟩⟩⟩
          · refine a_aload_n (n := 47) dX10_changed_46 rfl rfl ?_
            refine a_iload_n (n := 48) dX10_changed_47 rfl rfl ?_
            refine a_iload_n (n := 49) dX10_changed_48 rfl rfl ?_
            refine a_callV (M2 := mX10_fitsAs) (n := 52) dX10_changed_49 rfl (m_fitsAs (d := d) hz hR (by omega) (by omega) (by simpa [up2_eq] using hO.2.2 b (by omega) (by omega))) kX10_fitsAs lX10_279 iX10_fitsAs eX10_fitsAs (by decide) (by omega) (s37 hz) rfl (Nat.le_of_ble_eq_true rfl) (fun q49 z49 hr49 hi49 hl49 h49 => ?_)
            obtain ⟨rfl, rfl, rfl, rfl, b49, rfl, hb49⟩ := h49
            rw [mFit_u] at hb49
            show a_wp G _ _ _ _ (vI b49 :: _) _ _ _ _ _
            refine a_if_eq (t := 68) (n := 55) dX10_changed_52 rfl rfl (fun c52 => ?_) (fun c52 => ?_)
            · refine a_iconst (n := 69) dX10_changed_68 rfl ⟨by decide, by decide⟩ ?_
              refine a_ireturn dX10_changed_69 rfl ?_
              first | exact ⟨rfl, rfl, rfl, rfl, Or.inr ⟨by omega, rfl⟩⟩ | exact ⟨rfl, rfl, rfl, rfl, Or.inl ⟨by omega, Or.inl ⟨⟨isB_f hb31 (Classical.not_not.mp c34), isB_f hb40 (Classical.not_not.mp c43), isB_t hb49 c52, isB_t hb58 c61⟩, rfl⟩⟩⟩ | exact ⟨rfl, rfl, rfl, rfl, Or.inl ⟨by omega, Or.inl ⟨⟨isB_f hb31 c34, isB_f hb40 c43, isB_t hb49 c52, isB_t hb58 c61⟩, rfl⟩⟩⟩ | exact ⟨rfl, rfl, rfl, rfl, Or.inl ⟨by omega, Or.inr ⟨fun q => q.1 (isB_t hb31 c34), rfl⟩⟩⟩ | exact ⟨rfl, rfl, rfl, rfl, Or.inl ⟨by omega, Or.inr ⟨fun q => q.2.1 (isB_t hb40 c43), rfl⟩⟩⟩ | exact ⟨rfl, rfl, rfl, rfl, Or.inl ⟨by omega, Or.inr ⟨fun q => isB_f hb49 c52 q.2.2.1, rfl⟩⟩⟩ | exact ⟨rfl, rfl, rfl, rfl, Or.inl ⟨by omega, Or.inr ⟨fun q => isB_f hb58 c61 q.2.2.2, rfl⟩⟩⟩
            · refine a_aload_n (n := 56) dX10_changed_55 rfl rfl ?_
              refine a_iload_n (n := 57) dX10_changed_56 rfl rfl ?_
              refine a_iload_n (n := 58) dX10_changed_57 rfl rfl ?_
              refine a_callV (M2 := mX10_fitsAs) (n := 61) dX10_changed_58 rfl (m_fitsAs (d := d) hz hR (by omega) (by omega) (by simpa [up2_eq] using hO.2.2 a (by omega) (by omega))) kX10_fitsAs lX10_279 iX10_fitsAs eX10_fitsAs (by decide) (by omega) (s37 hz) rfl (Nat.le_of_ble_eq_true rfl) (fun q58 z58 hr58 hi58 hl58 h58 => ?_)
              obtain ⟨rfl, rfl, rfl, rfl, b58, rfl, hb58⟩ := h58
              rw [mFit_u] at hb58
              show a_wp G _ _ _ _ (vI b58 :: _) _ _ _ _ _
              refine a_if_eq (t := 68) (n := 64) dX10_changed_61 rfl rfl (fun c61 => ?_) (fun c61 => ?_)
              · refine a_iconst (n := 69) dX10_changed_68 rfl ⟨by decide, by decide⟩ ?_
                refine a_ireturn dX10_changed_69 rfl ?_
                first | exact ⟨rfl, rfl, rfl, rfl, Or.inr ⟨by omega, rfl⟩⟩ | exact ⟨rfl, rfl, rfl, rfl, Or.inl ⟨by omega, Or.inl ⟨⟨isB_f hb31 (Classical.not_not.mp c34), isB_f hb40 (Classical.not_not.mp c43), isB_t hb49 c52, isB_t hb58 c61⟩, rfl⟩⟩⟩ | exact ⟨rfl, rfl, rfl, rfl, Or.inl ⟨by omega, Or.inl ⟨⟨isB_f hb31 c34, isB_f hb40 c43, isB_t hb49 c52, isB_t hb58 c61⟩, rfl⟩⟩⟩ | exact ⟨rfl, rfl, rfl, rfl, Or.inl ⟨by omega, Or.inr ⟨fun q => q.1 (isB_t hb31 c34), rfl⟩⟩⟩ | exact ⟨rfl, rfl, rfl, rfl, Or.inl ⟨by omega, Or.inr ⟨fun q => q.2.1 (isB_t hb40 c43), rfl⟩⟩⟩ | exact ⟨rfl, rfl, rfl, rfl, Or.inl ⟨by omega, Or.inr ⟨fun q => isB_f hb49 c52 q.2.2.1, rfl⟩⟩⟩ | exact ⟨rfl, rfl, rfl, rfl, Or.inl ⟨by omega, Or.inr ⟨fun q => isB_f hb58 c61 q.2.2.2, rfl⟩⟩⟩
              · refine a_iconst (n := 65) dX10_changed_64 rfl ⟨by decide, by decide⟩ ?_
                refine a_goto (t := 69) dX10_changed_65 rfl ?_
                refine a_ireturn dX10_changed_69 rfl ?_
                first | exact ⟨rfl, rfl, rfl, rfl, Or.inr ⟨by omega, rfl⟩⟩ | exact ⟨rfl, rfl, rfl, rfl, Or.inl ⟨by omega, Or.inl ⟨⟨isB_f hb31 (Classical.not_not.mp c34), isB_f hb40 (Classical.not_not.mp c43), isB_t hb49 c52, isB_t hb58 c61⟩, rfl⟩⟩⟩ | exact ⟨rfl, rfl, rfl, rfl, Or.inl ⟨by omega, Or.inl ⟨⟨isB_f hb31 c34, isB_f hb40 c43, isB_t hb49 c52, isB_t hb58 c61⟩, rfl⟩⟩⟩ | exact ⟨rfl, rfl, rfl, rfl, Or.inl ⟨by omega, Or.inr ⟨fun q => q.1 (isB_t hb31 c34), rfl⟩⟩⟩ | exact ⟨rfl, rfl, rfl, rfl, Or.inl ⟨by omega, Or.inr ⟨fun q => q.2.1 (isB_t hb40 c43), rfl⟩⟩⟩ | exact ⟨rfl, rfl, rfl, rfl, Or.inl ⟨by omega, Or.inr ⟨fun q => isB_f hb49 c52 q.2.2.1, rfl⟩⟩⟩ | exact ⟨rfl, rfl, rfl, rfl, Or.inl ⟨by omega, Or.inr ⟨fun q => isB_f hb58 c61 q.2.2.2, rfl⟩⟩⟩
      · refine a_iconst (n := 27) dX10_changed_26 rfl ⟨by decide, by decide⟩ ?_
        refine a_ireturn dX10_changed_27 rfl ?_
        first | exact ⟨rfl, rfl, rfl, rfl, Or.inr ⟨by omega, rfl⟩⟩ | exact ⟨rfl, rfl, rfl, rfl, Or.inl ⟨by omega, Or.inl ⟨⟨isB_f hb31 (Classical.not_not.mp c34), isB_f hb40 (Classical.not_not.mp c43), isB_t hb49 c52, isB_t hb58 c61⟩, rfl⟩⟩⟩ | exact ⟨rfl, rfl, rfl, rfl, Or.inl ⟨by omega, Or.inl ⟨⟨isB_f hb31 c34, isB_f hb40 c43, isB_t hb49 c52, isB_t hb58 c61⟩, rfl⟩⟩⟩ | exact ⟨rfl, rfl, rfl, rfl, Or.inl ⟨by omega, Or.inr ⟨fun q => q.1 (isB_t hb31 c34), rfl⟩⟩⟩ | exact ⟨rfl, rfl, rfl, rfl, Or.inl ⟨by omega, Or.inr ⟨fun q => q.2.1 (isB_t hb40 c43), rfl⟩⟩⟩ | exact ⟨rfl, rfl, rfl, rfl, Or.inl ⟨by omega, Or.inr ⟨fun q => isB_f hb49 c52 q.2.2.1, rfl⟩⟩⟩ | exact ⟨rfl, rfl, rfl, rfl, Or.inl ⟨by omega, Or.inr ⟨fun q => isB_f hb58 c61 q.2.2.2, rfl⟩⟩⟩
end M8
