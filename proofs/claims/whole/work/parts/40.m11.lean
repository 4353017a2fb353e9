section M11
variable {G : aG} {d : Nat} {z : aZ} {hr : aR} {hi hl : aI}
set_option maxRecDepth 100000 in
set_option maxHeartbeats 4000000 in
theorem m_takeSign (hz : stZ z) (hR : stR hr) {c : Int} (ha : 0 ≤ hi 37 7 ∧ hi 37 7 ≤ 600) (hp : 0 ≤ hi 40 (hi 37 7) ∧ hi 40 (hi 37 7) ≤ 600) : a_ct G mX10_takeSign (d + 1) [vR 37, vI c] z hr hi hl (fun r z' hr' hi' hl' => z' = z ∧ hr' = hr ∧ hl' = hl ∧ r = none ∧ (((hi 37 8 = 0 ∧ hi 39 (hi 37 7) = 3 ∧ hl 41 (hi 37 7) = c) ∧ hi' = up2 hi 37 7 (hi 37 7 + 1)) ∨ (¬ (hi 37 8 = 0 ∧ hi 39 (hi 37 7) = 3 ∧ hl 41 (hi 37 7) = c) ∧ ((hi 37 8 = 0 ∧ hi' = up2 hi 37 8 (1 + 16 * hi 40 (hi 37 7))) ∨ (¬ hi 37 8 = 0 ∧ hi' = hi))))) := by
  refine a_ct_of rfl (Nat.le_of_ble_eq_true rfl) ?_
  refine a_aload_n (n := 1) dX10_takeSign_0 rfl rfl ?_
  refine a_iload_n (n := 2) dX10_takeSign_1 rfl rfl ?_
  refine a_callV (M2 := mX10_isSign) (n := 5) dX10_takeSign_2 rfl (m_isSign (d := d) hz hR (by omega)) kX10_isSign lX10_197 iX10_isSign eX10_isSign (by decide) (by omega) (s37 hz) rfl (Nat.le_of_ble_eq_true rfl) (fun q2 z2 hr2 hi2 hl2 h2 => ?_)
  obtain ⟨rfl, rfl, rfl, rfl, b2, rfl, hb2⟩ := h2
  show a_wp G _ _ _ _ (vI b2 :: _) _ _ _ _ _
  refine a_if_eq (t := 21) (n := 8) dX10_takeSign_5 rfl rfl (fun c5 => ?_) (fun c5 => ?_)
  · refine a_aload_n (n := 22) dX10_takeSign_21 rfl rfl ?_
    refine a_iconst (n := 23) dX10_takeSign_22 rfl ⟨by decide, by decide⟩ ?_
    refine a_callV (M2 := mX10_wrong) (n := 26) dX10_takeSign_23 rfl (m_wrong (d := d + 0) hz hR (by omega) (by omega) hp) kX10_wrong lX10_200 iX10_wrong eX10_wrong (by decide) (by omega) (s37 hz) rfl (Nat.le_of_ble_eq_true rfl) (fun q23 z23 hr23 hi23 hl23 h23 => ?_)
    obtain ⟨rfl, rfl, rfl, rfl, hw23⟩ := h23
    show a_wp G _ _ _ _ [] _ _ _ _ _
    refine a_return dX10_takeSign_26 rfl ?_
    first | exact ⟨rfl, rfl, rfl, rfl, Or.inl ⟨by omega, rfl⟩⟩ | exact ⟨rfl, rfl, rfl, rfl, Or.inr ⟨by omega, by assumption⟩⟩
  · refine a_aload_n (n := 9) dX10_takeSign_8 rfl rfl ?_
    refine a_dup (n := 10) dX10_takeSign_9 rfl rfl ?_
    refine a_getI (n := 13) dX10_takeSign_10 rfl fX10_191 (s37 hz) ?_
    refine a_iconst (n := 14) dX10_takeSign_13 rfl ⟨by decide, by decide⟩ ?_
    refine a_iadd (n := 15) dX10_takeSign_14 rfl ⟨by omega, by omega⟩ ?_
    refine a_putI (n := 18) dX10_takeSign_15 rfl fX10_191 rfl (s37 hz) (Or.inl rfl) ?_
    refine a_goto (t := 26) dX10_takeSign_18 rfl ?_
    refine a_return dX10_takeSign_26 rfl ?_
    first | exact ⟨rfl, rfl, rfl, rfl, Or.inl ⟨by omega, rfl⟩⟩ | exact ⟨rfl, rfl, rfl, rfl, Or.inr ⟨by omega, by assumption⟩⟩
end M11
