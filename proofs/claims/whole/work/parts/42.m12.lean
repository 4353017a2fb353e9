section M12
variable {G : aG} {d : Nat} {z : aZ} {hr : aR} {hi hl : aI} {kd pl nu : Int → Int}
/-- isSign, isWord, of a TOKEN whose kind is told -/
theorem m_sgk {c k : Int} (hz : stZ z) (hR : stR hr) (ha : 0 ≤ hi 37 7 ∧ hi 37 7 ≤ 600) (hf : hi 37 8 = 0) (hk : (hi 39 (hi 37 7) = 3 ∧ hl 41 (hi 37 7) = c) ↔ kd (hi 37 7) = k) : a_ct G mX10_isSign (d + 0) [vR 37, vI c] z hr hi hl (Qs z hr hi hl (isB (kd (hi 37 7) = k))) :=
  (m_isSign hz hR ⟨ha.1, by omega⟩).mono fun _ _ _ _ _ ⟨h1, h2, h3, h4, b, h5, h6⟩ => ⟨h1, h2, h3, h4, b, h5, h6.imp (fun q => ⟨q.1, hk.mp q.2.2⟩) (fun q => ⟨q.1, fun e => q.2 ⟨hf, hk.mpr e⟩⟩)⟩
theorem m_wdk {c k : Int} (hz : stZ z) (hR : stR hr) (hc : 0 ≤ c ∧ c < 11) (ha : 0 ≤ hi 37 7 ∧ hi 37 7 ≤ 600) (hf : hi 37 8 = 0) (hk : (hi 39 (hi 37 7) = 1 ∧ hl 41 (hi 37 7) = hl 42 c) ↔ kd (hi 37 7) = k) : a_ct G mX10_isWord (d + 0) [vR 37, vI c] z hr hi hl (Qs z hr hi hl (isB (kd (hi 37 7) = k))) :=
  (m_isWord hz hR hc ⟨ha.1, by omega⟩).mono fun _ _ _ _ _ ⟨h1, h2, h3, h4, b, h5, h6⟩ => ⟨h1, h2, h3, h4, b, h5, h6.imp (fun q => ⟨q.1, hk.mp q.2.2⟩) (fun q => ⟨q.1, fun e => q.2 ⟨hf, hk.mpr e⟩⟩)⟩
theorem m_wr {w : Int} (hz : stZ z) (hR : stR hr) (hw : 0 ≤ w ∧ w ≤ 5) (ha : 0 ≤ hi 37 7 ∧ hi 37 7 ≤ 600) (hT : tkH kd pl nu hi hl) (hf : hi 37 8 = 0) : a_ct G mX10_wrong (d + 0) [vR 37, vI w] z hr hi hl (fun r z' hr' hi' hl' => z' = z ∧ hr' = hr ∧ hl' = hl ∧ r = none ∧ hi' = up2 hi 37 8 (w + 16 * pl (hi 37 7))) := by
  have h := hT (hi 37 7) ha.1 ha.2
  refine (m_wrong hz hR hw ⟨ha.1, by omega⟩ (by rw [h.e]; exact h.pp)).mono fun _ _ _ _ _ ⟨h1, h2, h3, h4, h5⟩ => ⟨h1, h2, h3, h4, ?_⟩
  rcases h5 with ⟨_, h5⟩ | ⟨h5, _⟩
  · rw [h5, h.e]
  · exact absurd hf h5
theorem m_hsk {c k : Int} (hz : stZ z) (hR : stR hr) (ha : 0 ≤ hi 37 7 ∧ hi 37 7 ≤ 600) (hf : hi 37 8 = 0) (hk : (hi 39 (hi 37 7) = 3 ∧ hl 41 (hi 37 7) = c) ↔ kd (hi 37 7) = k) : a_ct G mX10_hasSign (d + 1) [vR 37, vI c] z hr hi hl (fun r z' hr' hi' hl' => z' = z ∧ hr' = hr ∧ hl' = hl ∧ ((kd (hi 37 7) = k ∧ r = some (vI 1) ∧ hi' = up2 hi 37 7 (hi 37 7 + 1)) ∨ (¬ kd (hi 37 7) = k ∧ r = some (vI 0) ∧ hi' = hi))) := by
  refine (m_hasSign hz hR ha).mono fun _ _ _ _ _ ⟨h1, h2, h3, h4⟩ => ⟨h1, h2, h3, ?_⟩
  rcases h4 with ⟨h5, h6, h7⟩ | ⟨h5, h6, h7⟩
  · exact Or.inl ⟨hk.mp h5.2, h6, h7⟩
  · refine Or.inr ⟨fun e => h5 ⟨hf, hk.mpr e⟩, h6, ?_⟩
    rw [h7, Int.add_zero]
    funext b j
    rw [up2_eq]
    split
    · rename_i q
      rw [q.1, q.2]
    · rfl
theorem m_tsk {c k : Int} (hz : stZ z) (hR : stR hr) (ha : 0 ≤ hi 37 7 ∧ hi 37 7 ≤ 600) (hT : tkH kd pl nu hi hl) (hf : hi 37 8 = 0) (hk : (hi 39 (hi 37 7) = 3 ∧ hl 41 (hi 37 7) = c) ↔ kd (hi 37 7) = k) : a_ct G mX10_takeSign (d + 1) [vR 37, vI c] z hr hi hl (fun r z' hr' hi' hl' => z' = z ∧ hr' = hr ∧ hl' = hl ∧ r = none ∧ ((kd (hi 37 7) = k ∧ hi' = up2 hi 37 7 (hi 37 7 + 1)) ∨ (¬ kd (hi 37 7) = k ∧ hi' = up2 hi 37 8 (1 + 16 * pl (hi 37 7))))) := by
  have h := hT (hi 37 7) ha.1 ha.2
  refine (m_takeSign hz hR ha (by rw [h.e]; exact h.pp)).mono fun _ _ _ _ _ ⟨h1, h2, h3, h4, h5⟩ => ⟨h1, h2, h3, h4, ?_⟩
  rcases h5 with ⟨h5, h6⟩ | ⟨h5, ⟨_, h6⟩ | ⟨h6, _⟩⟩
  · exact Or.inl ⟨hk.mp h5.2, h6⟩
  · exact Or.inr ⟨fun e => h5 ⟨hf, hk.mpr e⟩, by rw [h6, h.e]⟩
  · exact absurd hf h6
theorem m_tsf {c : Int} (hz : stZ z) (hR : stR hr) (ha : 0 ≤ hi 37 7 ∧ hi 37 7 ≤ 600) (hT : tkH kd pl nu hi hl) (hf : ¬ hi 37 8 = 0) : a_ct G mX10_takeSign (d + 1) [vR 37, vI c] z hr hi hl (fun r z' hr' hi' hl' => z' = z ∧ hr' = hr ∧ hl' = hl ∧ r = none ∧ hi' = hi) := by
  have h := hT (hi 37 7) ha.1 ha.2
  refine (m_takeSign hz hR ha (by rw [h.e]; exact h.pp)).mono fun _ _ _ _ _ ⟨h1, h2, h3, h4, h5⟩ => ⟨h1, h2, h3, h4, ?_⟩
  rcases h5 with ⟨h5, h6⟩ | ⟨h5, ⟨h6, _⟩ | ⟨_, h6⟩⟩
  · exact absurd h5.1 hf
  · exact absurd h6 hf
  · exact h6
theorem m_hwk {c k : Int} (hz : stZ z) (hR : stR hr) (hc : 0 ≤ c ∧ c < 11) (ha : 0 ≤ hi 37 7 ∧ hi 37 7 ≤ 600) (hf : hi 37 8 = 0) (hk : (hi 39 (hi 37 7) = 1 ∧ hl 41 (hi 37 7) = hl 42 c) ↔ kd (hi 37 7) = k) : a_ct G mX10_hasWord (d + 1) [vR 37, vI c] z hr hi hl (fun r z' hr' hi' hl' => z' = z ∧ hr' = hr ∧ hl' = hl ∧ ((kd (hi 37 7) = k ∧ r = some (vI 1) ∧ hi' = up2 hi 37 7 (hi 37 7 + 1)) ∨ (¬ kd (hi 37 7) = k ∧ r = some (vI 0) ∧ hi' = hi))) := by
  refine (m_hasWord hz hR hc ha).mono fun _ _ _ _ _ ⟨h1, h2, h3, h4⟩ => ⟨h1, h2, h3, ?_⟩
  rcases h4 with ⟨h5, h6, h7⟩ | ⟨h5, h6, h7⟩
  · exact Or.inl ⟨hk.mp h5.2, h6, h7⟩
  · refine Or.inr ⟨fun e => h5 ⟨hf, hk.mpr e⟩, h6, ?_⟩
    rw [h7, Int.add_zero]
    funext b j
    rw [up2_eq]
    split
    · rename_i q
      rw [q.1, q.2]
    · rfl
set_option maxRecDepth 100000 in
set_option maxHeartbeats 4000000 in
theorem m_takeWord {c k : Int} (hz : stZ z) (hR : stR hr) (ha : 0 ≤ hi 37 7 ∧ hi 37 7 ≤ 600) (hT : tkH kd pl nu hi hl) (hf : hi 37 8 = 0) (hc : 0 ≤ c ∧ c < 11) (hk : (hi 39 (hi 37 7) = 1 ∧ hl 41 (hi 37 7) = hl 42 c) ↔ kd (hi 37 7) = k) : a_ct G mX10_takeWord (d + 2) [vR 37, vI c] z hr hi hl (fun r z' hr' hi' hl' => z' = z ∧ hr' = hr ∧ hl' = hl ∧ r = none ∧ ((kd (hi 37 7) = k ∧ hi' = up2 hi 37 7 (hi 37 7 + 1)) ∨ (¬ kd (hi 37 7) = k ∧ hi' = up2 hi 37 8 (1 + 16 * pl (hi 37 7))))) := by
  refine a_ct_of rfl (Nat.le_of_ble_eq_true rfl) ?_
  refine a_aload_n (n := 1) dX10_takeWord_0 rfl rfl ?_
  refine a_iload_n (n := 2) dX10_takeWord_1 rfl rfl ?_
  refine a_callV (M2 := mX10_hasWord) (n := 5) dX10_takeWord_2 rfl (m_hwk (d := d) (kd := kd) (k := k) hz hR hc ha hf hk) kX10_hasWord lX10_207 iX10_hasWord eX10_hasWord (by decide) (by omega) (s37 hz) rfl (Nat.le_of_ble_eq_true rfl) (fun q2 z2 hr2 hi2 hl2 h2 => ?_)
  obtain ⟨rfl, rfl, rfl, h2⟩ := h2
  rcases h2 with ⟨hk2, rfl, rfl⟩ | ⟨hk2, rfl, rfl⟩
  · show a_wp G _ _ _ _ (vI 1 :: _) _ _ _ _ _
    refine a_if_ne (t := 13) (n := 8) dX10_takeWord_5 rfl rfl (fun c5 => ?_) (fun c5 => ?_)
    · refine a_return dX10_takeWord_13 rfl ?_
      exact ⟨rfl, rfl, rfl, rfl, Or.inl ⟨hk2, rfl⟩⟩
    · omega
  · show a_wp G _ _ _ _ (vI 0 :: _) _ _ _ _ _
    refine a_if_ne (t := 13) (n := 8) dX10_takeWord_5 rfl rfl (fun c5 => ?_) (fun c5 => ?_)
    · omega
    · refine a_aload_n (n := 9) dX10_takeWord_8 rfl rfl ?_
      refine a_iconst (n := 10) dX10_takeWord_9 rfl ⟨by decide, by decide⟩ ?_
      refine a_callV (M2 := mX10_wrong) (n := 13) dX10_takeWord_10 rfl (m_wr (d := d) hz hR (by decide) ha hT hf) kX10_wrong lX10_200 iX10_wrong eX10_wrong (by decide) (by omega) (s37 hz) rfl (Nat.le_of_ble_eq_true rfl) (fun q10 z10 hr10 hi10 hl10 h10 => ?_)
      obtain ⟨rfl, rfl, rfl, rfl, rfl⟩ := h10
      show a_wp G _ _ _ _ [] _ _ _ _ _
      refine a_return dX10_takeWord_13 rfl ?_
      exact ⟨rfl, rfl, rfl, rfl, Or.inr ⟨hk2, rfl⟩⟩
set_option maxRecDepth 100000 in
set_option maxHeartbeats 4000000 in
theorem m_partWord_l (hz : stZ z) (hR : stR hr) (ha : 0 ≤ hi 37 7 ∧ hi 37 7 ≤ 600) (hf : hi 37 8 = 0) (hk0 : 0 ≤ kd (hi 37 7)) (ht : ∀ k : Int, 0 ≤ k → k < 7 → ((hi 39 (hi 37 7) = 1 ∧ hl 41 (hi 37 7) = hl 42 (4 + k)) ↔ kd (hi 37 7) = k)) (n : Nat) : ∀ k : Int, 0 ≤ k → k + n = 7 → (kd (hi 37 7) ≥ k) → a_wp G mX10_partWord (d + 1) 2 [some (vR 37), some (vI k)] [] z hr hi hl (Qs z hr hi hl (fun r => ∃ w : Int, r = some (vI w) ∧ ((0 ≤ w ∧ w ≤ 6 ∧ kd (hi 37 7) = w) ∨ (w = -1 ∧ kd (hi 37 7) > 6)))) := by
  induction n with
  | zero =>
    intro k h0 hn hlo
    refine a_iload_n (n := 3) dX10_partWord_2 rfl rfl ?_
    refine a_bipush (n := 5) dX10_partWord_3 rfl ⟨by decide, by decide⟩ (by decide) ?_
    refine a_icmp_ge (t := 26) (n := 8) dX10_partWord_5 rfl rfl (fun c5 => ?_) (fun c5 => ?_)
    · refine a_iconst (n := 27) dX10_partWord_26 rfl ⟨by decide, by decide⟩ ?_
      refine a_ireturn dX10_partWord_27 rfl ?_
      first | exact ⟨rfl, rfl, rfl, rfl, _, rfl, Or.inl ⟨by omega, by omega, by omega⟩⟩ | exact ⟨rfl, rfl, rfl, rfl, _, rfl, Or.inr ⟨rfl, by omega⟩⟩
    · omega
  | succ n ih =>
    intro k h0 hn hlo
    refine a_iload_n (n := 3) dX10_partWord_2 rfl rfl ?_
    refine a_bipush (n := 5) dX10_partWord_3 rfl ⟨by decide, by decide⟩ (by decide) ?_
    refine a_icmp_ge (t := 26) (n := 8) dX10_partWord_5 rfl rfl (fun c5 => ?_) (fun c5 => ?_)
    · omega
    · refine a_aload_n (n := 9) dX10_partWord_8 rfl rfl ?_
      refine a_iconst (n := 10) dX10_partWord_9 rfl ⟨by decide, by decide⟩ ?_
      refine a_iload_n (n := 11) dX10_partWord_10 rfl rfl ?_
      refine a_iadd (n := 12) dX10_partWord_11 rfl ⟨by omega, by omega⟩ ?_
      refine a_callV (M2 := mX10_isWord) (n := 15) dX10_partWord_12 rfl (m_wdk (d := d) (kd := kd) (c := 4 + k) (k := k) hz hR (by omega) ha hf (ht k (by omega) (by omega))) kX10_isWord lX10_204 iX10_isWord eX10_isWord (by decide) (by omega) (s37 hz) rfl (Nat.le_of_ble_eq_true rfl) (fun q12 z12 hr12 hi12 hl12 h12 => ?_)
      obtain ⟨rfl, rfl, rfl, rfl, b12, rfl, hb12⟩ := h12
      show a_wp G _ _ _ _ (vI b12 :: _) _ _ _ _ _
      refine a_if_eq (t := 20) (n := 18) dX10_partWord_15 rfl rfl (fun c15 => ?_) (fun c15 => ?_)
      · refine b_iinc (n := 23) dX10_partWord_20 rfl (by decide) rfl rfl ⟨by omega, by omega⟩ ?_
        refine a_goto (t := 2) dX10_partWord_23 rfl ?_
        exact ih (k + 1) (by omega) (by omega) (by omega)
      · refine a_iload_n (n := 19) dX10_partWord_18 rfl rfl ?_
        refine a_ireturn dX10_partWord_19 rfl ?_
        first | exact ⟨rfl, rfl, rfl, rfl, _, rfl, Or.inl ⟨by omega, by omega, by omega⟩⟩ | exact ⟨rfl, rfl, rfl, rfl, _, rfl, Or.inr ⟨rfl, by omega⟩⟩
set_option maxRecDepth 100000 in
set_option maxHeartbeats 4000000 in
theorem m_partWord (hz : stZ z) (hR : stR hr) (ha : 0 ≤ hi 37 7 ∧ hi 37 7 ≤ 600) (hf : hi 37 8 = 0) (hk0 : 0 ≤ kd (hi 37 7)) (ht : ∀ k : Int, 0 ≤ k → k < 7 → ((hi 39 (hi 37 7) = 1 ∧ hl 41 (hi 37 7) = hl 42 (4 + k)) ↔ kd (hi 37 7) = k)) : a_ct G mX10_partWord (d + 1) [vR 37] z hr hi hl (Qs z hr hi hl (fun r => ∃ w : Int, r = some (vI w) ∧ ((0 ≤ w ∧ w ≤ 6 ∧ kd (hi 37 7) = w) ∨ (w = -1 ∧ kd (hi 37 7) > 6)))) := by
  refine a_ct_of rfl (Nat.le_of_ble_eq_true rfl) ?_
  refine a_iconst (n := 1) dX10_partWord_0 rfl ⟨by decide, by decide⟩ ?_
  refine b_istore_n (n := 2) dX10_partWord_1 rfl (by decide) rfl ?_
  exact m_partWord_l hz hR ha hf hk0 ht 7 0 (by decide) (by decide) (by omega)
end M12
