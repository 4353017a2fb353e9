section M6
variable {G : aG} {d : Nat} {z : aZ} {hr : aR} {hi hl : aI}
theorem mDies_b (h : aI) (p : Int) : mDies h p = 0 ∨ mDies h p = 1 := by
  unfold mDies; split
  · exact Or.inl rfl
  · split
    · exact Or.inr rfl
    · exact Or.inl rfl
theorem mChk_n {h : aI} {p : Int} {a : Nat} {j : Int} (hn : (a ≠ 56 ∧ a ≠ 60 ∧ a ≠ 61 ∧ a ≠ 62) ∨ j ≠ p) : mChk h p a j = h a j := by
  unfold mChk
  split
  · rcases hn with ⟨h1, h2, h3, h4⟩ | h1
    · rw [up2_n h2, up2_n h1, up2_n h4, up2_n h3]
    · rw [up2_m h1, up2_m h1, up2_m h1, up2_m h1]
  · rcases hn with ⟨h1, h2, h3, h4⟩ | h1
    · rw [up2_n h4, up2_n h3]
    · rw [up2_m h1, up2_m h1]
/-- the check of b closed, from p on for k plants; n died before -/
def mClo (b : Int) : Nat → Int → aI → Int → aI × Int
  | 0, _, h, n => (h, n)
  | k + 1, p, h, n => if h 59 p = b then mClo b k (p + 1) (mChk h p) (n + mDies h p) else mClo b k (p + 1) h n
set_option maxRecDepth 100000 in
set_option maxHeartbeats 4000000 in
theorem m_close_l (hz : stZ z) (hR : stR hr) {b P : Int} (hP : P ≤ 40) : ∀ (n : Nat) (h : aI) (dd p : Int), h 37 25 = P → (∀ q, p ≤ q → 0 ≤ h 61 q ∧ h 61 q ≤ 100000) → 0 ≤ dd → dd ≤ p → 0 ≤ p → p + n = P → a_wp G mX10_close (d + 1) 19 [some (vR 37), some (vI b), some (vI dd), some (vI p)] [] z hr h hl (fun r z' hr' hi' hl' => z' = z ∧ hr' = hr ∧ hl' = hl ∧ r = some (vI (mClo b n p h dd).2) ∧ hi' = (mClo b n p h dd).1) := by
  intro n
  induction n with
  | zero =>
    intro h dd p e0 hm h1 h2 h3 h4
    refine a_iload_n (n := 20) dX10_close_19 rfl rfl ?_
    refine a_aload_n (n := 21) dX10_close_20 rfl rfl ?_
    refine a_getI (n := 24) dX10_close_21 rfl fX10_258 (s37 hz) ?_
    refine a_icmp_ge (t := 59) (n := 27) dX10_close_24 rfl rfl (fun c24 => ?_) (fun c24 => ?_)
    · refine a_iload_n (n := 60) dX10_close_59 rfl rfl ?_
      refine a_ireturn dX10_close_60 rfl ?_
      exact ⟨rfl, rfl, rfl, rfl, rfl⟩
    · exfalso; omega
  | succ n ih =>
    intro h dd p e0 hm h1 h2 h3 h4
    have hm0 := hm p (Int.le_refl _)
    have hd0 := mDies_b h p
    refine a_iload_n (n := 20) dX10_close_19 rfl rfl ?_
    refine a_aload_n (n := 21) dX10_close_20 rfl rfl ?_
    refine a_getI (n := 24) dX10_close_21 rfl fX10_258 (s37 hz) ?_
    refine a_icmp_ge (t := 59) (n := 27) dX10_close_24 rfl rfl (fun c24 => ?_) (fun c24 => ?_)
    · exfalso; omega
    · refine a_aload_n (n := 28) dX10_close_27 rfl rfl ?_
      refine a_getR (n := 31) dX10_close_28 rfl fX10_108 (s37 hz) (r37_32 hR) ?_
      refine a_iload_n (n := 32) dX10_close_31 rfl rfl ?_
      refine a_iald (n := 33) dX10_close_32 rfl (s59 hz) (by omega) (by omega) ?_
      refine a_iload_n (n := 34) dX10_close_33 rfl rfl ?_
      refine a_icmp_ne (t := 53) (n := 37) dX10_close_34 rfl rfl (fun c34 => ?_) (fun c34 => ?_)
      · first | rw [mClo, if_neg c34] | skip
        refine a_iinc (n := 56) dX10_close_53 rfl (by decide) rfl ⟨by omega, by omega⟩ ?_
        refine a_goto (t := 19) dX10_close_56 rfl ?_
        first | exact ih _ _ _ (by rw [mChk_n (Or.inl (by decide))]; exact e0) (fun q hq => by rw [mChk_n (Or.inr (by omega))]; exact hm q (by omega)) (by omega) (by omega) (by omega) (by omega) | exact ih _ _ _ e0 (fun q hq => hm q (by omega)) (by omega) (by omega) (by omega) (by omega)
      · rw [mClo, if_pos c34]
        refine a_iload_n (n := 38) dX10_close_37 rfl rfl ?_
        refine a_aload_n (n := 39) dX10_close_38 rfl rfl ?_
        refine a_iload_n (n := 40) dX10_close_39 rfl rfl ?_
        refine a_callV (M2 := mX10_checks) (n := 43) dX10_close_40 rfl (m_checks (d := d) hz hR (by omega) hm0) kX10_checks lX10_345 iX10_checks eX10_checks (by decide) (by omega) (s37 hz) rfl (Nat.le_of_ble_eq_true rfl) (fun q40 z40 hr40 hi40 hl40 h40 => ?_)
        obtain ⟨rfl, rfl, rfl, rfl, rfl⟩ := h40
        show a_wp G _ _ _ _ (vI _ :: _) _ _ _ _ _
        refine a_if_eq (t := 50) (n := 46) dX10_close_43 rfl rfl (fun c43 => ?_) (fun c43 => ?_)
        · rw [show dd + mDies h p = dd + 0 by omega]
          refine a_iconst (n := 51) dX10_close_50 rfl ⟨by decide, by decide⟩ ?_
          refine a_iadd (n := 52) dX10_close_51 rfl ⟨by omega, by omega⟩ ?_
          refine a_istore_n (n := 53) dX10_close_52 rfl (by decide) ?_
          first | rw [mClo, if_neg c34] | skip
          refine a_iinc (n := 56) dX10_close_53 rfl (by decide) rfl ⟨by omega, by omega⟩ ?_
          refine a_goto (t := 19) dX10_close_56 rfl ?_
          first | exact ih _ _ _ (by rw [mChk_n (Or.inl (by decide))]; exact e0) (fun q hq => by rw [mChk_n (Or.inr (by omega))]; exact hm q (by omega)) (by omega) (by omega) (by omega) (by omega) | exact ih _ _ _ e0 (fun q hq => hm q (by omega)) (by omega) (by omega) (by omega) (by omega)
        · rw [show dd + mDies h p = dd + 1 by omega]
          refine a_iconst (n := 47) dX10_close_46 rfl ⟨by decide, by decide⟩ ?_
          refine a_goto (t := 51) dX10_close_47 rfl ?_
          refine a_iadd (n := 52) dX10_close_51 rfl ⟨by omega, by omega⟩ ?_
          refine a_istore_n (n := 53) dX10_close_52 rfl (by decide) ?_
          first | rw [mClo, if_neg c34] | skip
          refine a_iinc (n := 56) dX10_close_53 rfl (by decide) rfl ⟨by omega, by omega⟩ ?_
          refine a_goto (t := 19) dX10_close_56 rfl ?_
          first | exact ih _ _ _ (by rw [mChk_n (Or.inl (by decide))]; exact e0) (fun q hq => by rw [mChk_n (Or.inr (by omega))]; exact hm q (by omega)) (by omega) (by omega) (by omega) (by omega) | exact ih _ _ _ e0 (fun q hq => hm q (by omega)) (by omega) (by omega) (by omega) (by omega)
set_option maxRecDepth 100000 in
set_option maxHeartbeats 4000000 in
theorem m_close (hz : stZ z) (hR : stR hr) (hP : 0 ≤ hi 37 25 ∧ hi 37 25 ≤ 40) (hm : ∀ q, 0 ≤ hi 61 q ∧ hi 61 q ≤ 100000) {b : Int} : a_ct G mX10_close (d + 1) [vR 37, vI b] z hr hi hl (fun r z' hr' hi' hl' => z' = z ∧ hr' = hr ∧ hl' = hl ∧ (((0 ≤ b ∧ b < hi 37 45) ∧ r = some (vI (mClo b (hi 37 25).toNat 0 (up2 hi 37 0 0) 0).2) ∧ hi' = (mClo b (hi 37 25).toNat 0 (up2 hi 37 0 0) 0).1) ∨ (¬ (0 ≤ b ∧ b < hi 37 45) ∧ r = some (vI (-1)) ∧ hi' = up2 hi 37 0 0))) := by
  refine a_ct_of rfl (Nat.le_of_ble_eq_true rfl) ?_
  refine a_aload_n (n := 1) dX10_close_0 rfl rfl ?_
  refine a_iconst (n := 2) dX10_close_1 rfl ⟨by decide, by decide⟩ ?_
  refine a_putI (n := 5) dX10_close_2 rfl fX10_1 rfl (s37 hz) (Or.inl rfl) ?_
  refine a_aload_n (n := 6) dX10_close_5 rfl rfl ?_
  refine a_iload_n (n := 7) dX10_close_6 rfl rfl ?_
  refine a_callV (M2 := mX10_isBed) (n := 10) dX10_close_7 rfl (m_isBed (d := d) hz) kX10_isBed lX10_311 iX10_isBed eX10_isBed (by decide) (by omega) (s37 hz) rfl (Nat.le_of_ble_eq_true rfl) (fun q7 z7 hr7 hi7 hl7 h7 => ?_)
  obtain ⟨rfl, rfl, rfl, rfl, b7, rfl, hb7⟩ := h7
  simp only [up2_eq, Nat.reduceEqDiff, Int.reduceEq, and_true, true_and, and_false, false_and, and_self, if_true, if_false, reduceIte, eq_self] at hb7
  show a_wp G _ _ _ _ (vI b7 :: _) _ _ _ _ _
  refine a_if_ne (t := 15) (n := 13) dX10_close_10 rfl rfl (fun c10 => ?_) (fun c10 => ?_)
  · refine a_iconst (n := 16) dX10_close_15 rfl ⟨by decide, by decide⟩ ?_
    refine a_istore_n (n := 17) dX10_close_16 rfl (by decide) ?_
    refine a_iconst (n := 18) dX10_close_17 rfl ⟨by decide, by decide⟩ ?_
    refine a_istore_n (n := 19) dX10_close_18 rfl (by decide) ?_
    refine a_wp.mono (m_close_l hz hR hP.2 (hi 37 25).toNat _ 0 0 (by rw [up2_m (by decide)]) (fun q _ => by rw [up2_n (by decide)]; exact hm q) (by omega) (by omega) (by omega) (by omega)) (fun r z1 hr1 hi1 hl1 hq => ?_)
    obtain ⟨q1, q2, q3, q4, q5⟩ := hq
    exact ⟨q1, q2, q3, Or.inl ⟨by omega, q4, q5⟩⟩
  · refine a_iconst (n := 14) dX10_close_13 rfl ⟨by decide, by decide⟩ ?_
    refine a_ireturn dX10_close_14 rfl ?_
    exact ⟨rfl, rfl, rfl, Or.inr ⟨by omega, rfl, rfl⟩⟩
end M6
