section M8
variable {G : aG} {d : Nat} {z : aZ} {hr : aR} {hi hl : aI}
/-- the MARKS of p FIT what s is of -/
def mFit (hi : aI) (p s : Int) : Prop := hi 53 s = 0 ∨ ∀ q, 0 ≤ q → q < 4 → mFitR hi p s q
theorem mFit_u {v p s : Int} : (up2 hi 37 0 v 53 s = 0 ∨ ∀ q, 0 ≤ q → q < 4 → mFitR (up2 hi 37 0 v) p s q) ↔ mFit hi p s := by
  unfold mFit mFitR
  rw [up2_f (by decide), up2_f (by decide), up2_f (by decide), up2_f (by decide)]
/-- what is known of a plant's origin -/
def mOri (hi : aI) : Prop := 0 ≤ hi 37 25 ∧ hi 37 25 ≤ 40 ∧ ∀ s, 0 ≤ s → s < hi 37 25 → ¬ hi 53 s = 0 → 0 ≤ hi 54 s ∧ hi 54 s < 40 ∧ hi 55 s < 40

set_option maxRecDepth 100000 in
set_option maxHeartbeats 4000000 in
theorem m_fits (hz : stZ z) (hR : stR hr) (hO : mOri hi) {p : Int} : a_ct G mX10_fits (d + 3) [vR 37, vI p] z hr hi hl (fun r z' hr' hi' hl' => z' = z ∧ hr' = hr ∧ hl' = hl ∧ hi' = up2 hi 37 0 0 ∧ (((0 ≤ p ∧ p < hi 37 25) ∧ ((mFit hi p p ∧ r = some (vI 1)) ∨ (¬ mFit hi p p ∧ r = some (vI 0)))) ∨ (¬ (0 ≤ p ∧ p < hi 37 25) ∧ r = some (vI (-1))))) := by
  refine a_ct_of rfl (Nat.le_of_ble_eq_true rfl) ?_
  have hO1 := hO.1
  have hO2 := hO.2.1
  refine a_aload_n (n := 1) dX10_fits_0 rfl rfl ?_
  refine a_iconst (n := 2) dX10_fits_1 rfl ⟨by decide, by decide⟩ ?_
  refine a_putI (n := 5) dX10_fits_2 rfl fX10_1 rfl (s37 hz) (Or.inl rfl) ?_
  refine a_aload_n (n := 6) dX10_fits_5 rfl rfl ?_
  refine a_iload_n (n := 7) dX10_fits_6 rfl rfl ?_
  refine a_callV (M2 := mX10_isPlant) (n := 10) dX10_fits_7 rfl (m_isPlant (d := d + 2) hz) kX10_isPlant lX10_268 iX10_isPlant eX10_isPlant (by decide) (by omega) (s37 hz) rfl (Nat.le_of_ble_eq_true rfl) (fun q7 z7 hr7 hi7 hl7 h7 => ?_)
  obtain ⟨rfl, rfl, rfl, rfl, b7, rfl, hb7⟩ := h7
  simp only [up2_eq, Nat.reduceEqDiff, Int.reduceEq, and_true, true_and, and_false, false_and, and_self, if_true, if_false, reduceIte, eq_self] at hb7
  show a_wp G _ _ _ _ (vI b7 :: _) _ _ _ _ _
  refine a_if_ne (t := 17) (n := 13) dX10_fits_10 rfl rfl (fun c10 => ?_) (fun c10 => ?_)
  · refine a_aload_n (n := 18) dX10_fits_17 rfl rfl ?_
    refine a_iload_n (n := 19) dX10_fits_18 rfl rfl ?_
    refine a_iload_n (n := 20) dX10_fits_19 rfl rfl ?_
    refine a_callV (M2 := mX10_fitsAs) (n := 23) dX10_fits_20 rfl (m_fitsAs (d := d) hz hR (by omega) (by omega) (by simpa [up2_eq] using hO.2.2 p (by omega) (by omega))) kX10_fitsAs lX10_279 iX10_fitsAs eX10_fitsAs (by decide) (by omega) (s37 hz) rfl (Nat.le_of_ble_eq_true rfl) (fun q20 z20 hr20 hi20 hl20 h20 => ?_)
    obtain ⟨rfl, rfl, rfl, rfl, b20, rfl, hb20⟩ := h20
    rw [mFit_u] at hb20
    show a_wp G _ _ _ _ (vI b20 :: _) _ _ _ _ _
    refine a_if_eq (t := 30) (n := 26) dX10_fits_23 rfl rfl (fun c23 => ?_) (fun c23 => ?_)
    · refine a_iconst (n := 31) dX10_fits_30 rfl ⟨by decide, by decide⟩ ?_
      refine a_ireturn dX10_fits_31 rfl ?_
      first | exact ⟨rfl, rfl, rfl, rfl, Or.inr ⟨by omega, rfl⟩⟩ | exact ⟨rfl, rfl, rfl, rfl, Or.inl ⟨by omega, Or.inl ⟨isB_t hb20 c23, rfl⟩⟩⟩ | exact ⟨rfl, rfl, rfl, rfl, Or.inl ⟨by omega, Or.inr ⟨isB_f hb20 c23, rfl⟩⟩⟩
    · refine a_iconst (n := 27) dX10_fits_26 rfl ⟨by decide, by decide⟩ ?_
      refine a_goto (t := 31) dX10_fits_27 rfl ?_
      refine a_ireturn dX10_fits_31 rfl ?_
      first | exact ⟨rfl, rfl, rfl, rfl, Or.inr ⟨by omega, rfl⟩⟩ | exact ⟨rfl, rfl, rfl, rfl, Or.inl ⟨by omega, Or.inl ⟨isB_t hb20 c23, rfl⟩⟩⟩ | exact ⟨rfl, rfl, rfl, rfl, Or.inl ⟨by omega, Or.inr ⟨isB_f hb20 c23, rfl⟩⟩⟩
  · refine a_iconst (n := 14) dX10_fits_13 rfl ⟨by decide, by decide⟩ ?_
    refine a_goto (t := 31) dX10_fits_14 rfl ?_
    refine a_ireturn dX10_fits_31 rfl ?_
    first | exact ⟨rfl, rfl, rfl, rfl, Or.inr ⟨by omega, rfl⟩⟩ | exact ⟨rfl, rfl, rfl, rfl, Or.inl ⟨by omega, Or.inl ⟨isB_t hb20 c23, rfl⟩⟩⟩ | exact ⟨rfl, rfl, rfl, rfl, Or.inl ⟨by omega, Or.inr ⟨isB_f hb20 c23, rfl⟩⟩⟩
end M8
