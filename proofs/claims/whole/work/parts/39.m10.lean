section M10
variable {G : aG} {d : Nat} {z : aZ} {hr : aR} {hi hl : aI}
set_option maxRecDepth 100000 in
set_option maxHeartbeats 4000000 in
theorem m_hasSign (hz : stZ z) (hR : stR hr) {c : Int} (ha : 0 ≤ hi 37 7 ∧ hi 37 7 ≤ 600) : a_ct G mX10_hasSign (d + 1) [vR 37, vI c] z hr hi hl (fun r z' hr' hi' hl' => z' = z ∧ hr' = hr ∧ hl' = hl ∧ (((hi 37 8 = 0 ∧ hi 39 (hi 37 7) = 3 ∧ hl 41 (hi 37 7) = c) ∧ r = some (vI 1) ∧ hi' = up2 hi 37 7 (hi 37 7 + 1)) ∨ (¬ (hi 37 8 = 0 ∧ hi 39 (hi 37 7) = 3 ∧ hl 41 (hi 37 7) = c) ∧ r = some (vI 0) ∧ hi' = up2 hi 37 7 (hi 37 7 + 0)))) := by
  refine a_ct_of rfl (Nat.le_of_ble_eq_true rfl) ?_
  refine a_aload_n (n := 1) dX10_hasSign_0 rfl rfl ?_
  refine a_iload_n (n := 2) dX10_hasSign_1 rfl rfl ?_
  refine a_callV (M2 := mX10_isSign) (n := 5) dX10_hasSign_2 rfl (m_isSign (d := d) hz hR (by omega)) kX10_isSign lX10_197 iX10_isSign eX10_isSign (by decide) (by omega) (s37 hz) rfl (Nat.le_of_ble_eq_true rfl) (fun q2 z2 hr2 hi2 hl2 h2 => ?_)
  obtain ⟨rfl, rfl, rfl, rfl, b2, rfl, hb2⟩ := h2
  show a_wp G _ _ _ _ (vI b2 :: _) _ _ _ _ _
  refine b_istore_n (n := 6) dX10_hasSign_5 rfl (by decide) rfl ?_
  refine a_aload_n (n := 7) dX10_hasSign_6 rfl rfl ?_
  refine a_dup (n := 8) dX10_hasSign_7 rfl rfl ?_
  refine a_getI (n := 11) dX10_hasSign_8 rfl fX10_191 (s37 hz) ?_
  refine a_iload_n (n := 12) dX10_hasSign_11 rfl rfl ?_
  refine a_if_eq (t := 19) (n := 15) dX10_hasSign_12 rfl rfl (fun c12 => ?_) (fun c12 => ?_)
  · refine a_iconst (n := 20) dX10_hasSign_19 rfl ⟨by decide, by decide⟩ ?_
    refine a_iadd (n := 21) dX10_hasSign_20 rfl ⟨by omega, by omega⟩ ?_
    refine a_putI (n := 24) dX10_hasSign_21 rfl fX10_191 rfl (s37 hz) (Or.inl rfl) ?_
    refine a_iload_n (n := 25) dX10_hasSign_24 rfl rfl ?_
    refine a_zreturn dX10_hasSign_25 rfl (by omega) ?_
    have hb01 : b2 = 0 ∨ b2 = 1 := by omega
    rcases hb01 with rfl | rfl
    · first | (exfalso; omega; done) | exact ⟨rfl, rfl, rfl, Or.inr ⟨by omega, rfl, rfl⟩⟩
    · first | (exfalso; omega; done) | exact ⟨rfl, rfl, rfl, Or.inl ⟨by omega, rfl, rfl⟩⟩
  · refine a_iconst (n := 16) dX10_hasSign_15 rfl ⟨by decide, by decide⟩ ?_
    refine a_goto (t := 20) dX10_hasSign_16 rfl ?_
    refine a_iadd (n := 21) dX10_hasSign_20 rfl ⟨by omega, by omega⟩ ?_
    refine a_putI (n := 24) dX10_hasSign_21 rfl fX10_191 rfl (s37 hz) (Or.inl rfl) ?_
    refine a_iload_n (n := 25) dX10_hasSign_24 rfl rfl ?_
    refine a_zreturn dX10_hasSign_25 rfl (by omega) ?_
    have hb01 : b2 = 0 ∨ b2 = 1 := by omega
    rcases hb01 with rfl | rfl
    · first | (exfalso; omega; done) | exact ⟨rfl, rfl, rfl, Or.inr ⟨by omega, rfl, rfl⟩⟩
    · first | (exfalso; omega; done) | exact ⟨rfl, rfl, rfl, Or.inl ⟨by omega, rfl, rfl⟩⟩
set_option maxRecDepth 100000 in
set_option maxHeartbeats 4000000 in
theorem m_hasWord (hz : stZ z) (hR : stR hr) {c : Int} (hc : 0 ≤ c ∧ c < 11) (ha : 0 ≤ hi 37 7 ∧ hi 37 7 ≤ 600) : a_ct G mX10_hasWord (d + 1) [vR 37, vI c] z hr hi hl (fun r z' hr' hi' hl' => z' = z ∧ hr' = hr ∧ hl' = hl ∧ (((hi 37 8 = 0 ∧ hi 39 (hi 37 7) = 1 ∧ hl 41 (hi 37 7) = hl 42 c) ∧ r = some (vI 1) ∧ hi' = up2 hi 37 7 (hi 37 7 + 1)) ∨ (¬ (hi 37 8 = 0 ∧ hi 39 (hi 37 7) = 1 ∧ hl 41 (hi 37 7) = hl 42 c) ∧ r = some (vI 0) ∧ hi' = up2 hi 37 7 (hi 37 7 + 0)))) := by
  refine a_ct_of rfl (Nat.le_of_ble_eq_true rfl) ?_
  refine a_aload_n (n := 1) dX10_hasWord_0 rfl rfl ?_
  refine a_iload_n (n := 2) dX10_hasWord_1 rfl rfl ?_
  refine a_callV (M2 := mX10_isWord) (n := 5) dX10_hasWord_2 rfl (m_isWord (d := d) hz hR hc (by omega)) kX10_isWord lX10_204 iX10_isWord eX10_isWord (by decide) (by omega) (s37 hz) rfl (Nat.le_of_ble_eq_true rfl) (fun q2 z2 hr2 hi2 hl2 h2 => ?_)
  obtain ⟨rfl, rfl, rfl, rfl, b2, rfl, hb2⟩ := h2
  show a_wp G _ _ _ _ (vI b2 :: _) _ _ _ _ _
  refine b_istore_n (n := 6) dX10_hasWord_5 rfl (by decide) rfl ?_
  refine a_aload_n (n := 7) dX10_hasWord_6 rfl rfl ?_
  refine a_dup (n := 8) dX10_hasWord_7 rfl rfl ?_
  refine a_getI (n := 11) dX10_hasWord_8 rfl fX10_191 (s37 hz) ?_
  refine a_iload_n (n := 12) dX10_hasWord_11 rfl rfl ?_
  refine a_if_eq (t := 19) (n := 15) dX10_hasWord_12 rfl rfl (fun c12 => ?_) (fun c12 => ?_)
  · refine a_iconst (n := 20) dX10_hasWord_19 rfl ⟨by decide, by decide⟩ ?_
    refine a_iadd (n := 21) dX10_hasWord_20 rfl ⟨by omega, by omega⟩ ?_
    refine a_putI (n := 24) dX10_hasWord_21 rfl fX10_191 rfl (s37 hz) (Or.inl rfl) ?_
    refine a_iload_n (n := 25) dX10_hasWord_24 rfl rfl ?_
    refine a_zreturn dX10_hasWord_25 rfl (by omega) ?_
    have hb01 : b2 = 0 ∨ b2 = 1 := by omega
    rcases hb01 with rfl | rfl
    · first | (exfalso; omega; done) | exact ⟨rfl, rfl, rfl, Or.inr ⟨by omega, rfl, rfl⟩⟩
    · first | (exfalso; omega; done) | exact ⟨rfl, rfl, rfl, Or.inl ⟨by omega, rfl, rfl⟩⟩
  · refine a_iconst (n := 16) dX10_hasWord_15 rfl ⟨by decide, by decide⟩ ?_
    refine a_goto (t := 20) dX10_hasWord_16 rfl ?_
    refine a_iadd (n := 21) dX10_hasWord_20 rfl ⟨by omega, by omega⟩ ?_
    refine a_putI (n := 24) dX10_hasWord_21 rfl fX10_191 rfl (s37 hz) (Or.inl rfl) ?_
    refine a_iload_n (n := 25) dX10_hasWord_24 rfl rfl ?_
    refine a_zreturn dX10_hasWord_25 rfl (by omega) ?_
    have hb01 : b2 = 0 ∨ b2 = 1 := by omega
    rcases hb01 with rfl | rfl
    · first | (exfalso; omega; done) | exact ⟨rfl, rfl, rfl, Or.inr ⟨by omega, rfl, rfl⟩⟩
    · first | (exfalso; omega; done) | exact ⟨rfl, rfl, rfl, Or.inl ⟨by omega, rfl, rfl⟩⟩
end M10
