/-! steps: name, change, feed *) -/
section STP5
variable {G : aG} {d k : Nat} {z : aZ} {hr : aR} {hi hi' hl hl' : aI}
theorem gP.bd (h : gP k z hr hi) (e : ∀ b j, rdP b j → ¬ (81 ≤ b ∧ a_is z b 0 3) → hi' b j = hi b j) : gP k z hr hi' := by
  obtain ⟨h₁, h₂, h₃, h₄, h₅⟩ := h
  have e1 : hi' 37 25 = hi 37 25 := e 37 25 (by unfold rdP; omega) (by omega)
  have e2 : hi' 37 45 = hi 37 45 := e 37 45 (by unfold rdP; omega) (by omega)
  have e0 : hi' 0 9 = hi 0 9 := e 0 9 (by unfold rdP; omega) (by omega)
  have eb : ∀ b : Nat, (53 ≤ b ∧ b ≤ 63) → hi' b = hi b := fun b hb => funext fun j => e b j (by unfold rdP; omega) (by omega)
  have ec : ∀ (b t : Nat) (l : Int), 81 ≤ b → a_is z b t l → t ≠ 0 → hi' b = hi b := fun b t l hb hs ht => funext fun j => e b j (by unfold rdP; omega) (fun q => a_is_ne hs q.2 ht rfl)
  have e53 := eb 53 (by omega)
  have e54 := eb 54 (by omega)
  have e55 := eb 55 (by omega)
  have e56 := eb 56 (by omega)
  have e57 := eb 57 (by omega)
  have e58 := eb 58 (by omega)
  have e59 := eb 59 (by omega)
  have e60 := eb 60 (by omega)
  have e61 := eb 61 (by omega)
  have e62 := eb 62 (by omega)
  have e63 := eb 63 (by omega)
  unfold gP
  rw [e0, e1, e56, e61]
  refine ⟨h₁, fun q q₀ q₁ => ?_, h₃, h₄, fun q q₀ q₁ => ?_⟩
  · obtain ⟨s, v, t, b⟩ := h₂ q q₀ q₁
    have ep := ec (pC hr q) _ _ s.2.2.2.2.1 s.2.1 (by decide)
    have em := ec (mC hr q) _ _ s.2.2.2.2.2 s.2.2.2.1 (by decide)
    refine ⟨s, ?_, ?_, ?_⟩
    · unfold pV
      rw [ep, em, e53, e56, e57, e58, e59, e60, e61, e62]
      exact v
    · rcases t with t | t
      · refine Or.inl ?_
        rw [ep, e53, e54, e55, e63]
        exact t
      · refine Or.inr ?_
        obtain ⟨t₁, t₂, t₃, t₄⟩ := t
        have eq_ := ec (pC hr (hi 54 q)) _ _ (h₂ (hi 54 q) t₂.1 (by omega)).1.2.2.2.2.1 (h₂ (hi 54 q) t₂.1 (by omega)).1.2.1 (by decide)
        rw [ep, e53, e54, e55, eq_]
        exact ⟨t₁, t₂, t₃, t₄⟩
    · unfold pBd
      rw [e53, e59, e60, e61, e62, e63, e2]
      exact b
  · unfold pD0
    rw [e57, e59, e60, e61, e62]
    exact h₅ q q₀ q₁
theorem st_name (h : RR k z hr hi hl) {p n : Int} : stp G d k mX9_name mX10_name [vR 0, vI p, vI n] [vR 37, vI p, vI n] z hr hi hl := by
  obtain ⟨⟨hz, hR, hk, hs⟩, hD, hP, hB, hM, hS, hT, hX⟩ := id h
  have hP₁ := hP.1
  have hD₁ := hD.1
  have hM₁ := hM.1
  refine (c_name (d := d + 28) hz hR hP.n hP.cP (by omega)).mono (fun r z' hr' hi' hl' q => ?_)
  obtain ⟨e₁, e₂, e₃, q⟩ := q
  obtain rfl := e₁.symm
  obtain rfl := e₂.symm
  obtain rfl := e₃.symm
  rcases q with ⟨c, rfl, rfl⟩ | ⟨c, rfl, e₅⟩
  · have aU : ∀ b j, ¬ (3 ≤ b ∧ b ≤ 6) → up2 (up2 (up2 (up2 hi 4 (hi 3 6) p) 5 (hi 3 6) n) 6 (hi 3 6) (hi 0 11)) 3 6 (hi 3 6 + 1) b j = hi b j := fun b j w => by rw [up2_if (by omega), up2_if (by omega), up2_if (by omega), up2_if (by omega)]
    have k25 := aU 37 25 (by omega)
    have k37 := (aU 37 37 (by omega)).trans hM₁.1.symm
    have k24 := (aU 37 24 (by omega)).trans hD₁.symm
    refine ⟨_, rfl, hz, (m_name (d := d + 29) hz hR (by rw [k37]; omega)).mono (fun r2 z2 hr2 hi2 hl2 q => ?_)⟩
    obtain ⟨e₁, e₂, e₃, q⟩ := q
    obtain rfl := e₁.symm
    obtain rfl := e₂.symm
    obtain rfl := e₃.symm
    rcases q with ⟨c₂, rfl, e₄⟩ | ⟨c₂, rfl, rfl⟩
    · rw [k37, k24] at e₄
      have ag : ∀ b j, ¬ ((b = 3 ∧ j = 6) ∨ (b = 37 ∧ (j = 0 ∨ j = 37)) ∨ ((b = 4 ∨ b = 5 ∨ b = 6 ∨ b = 64 ∨ b = 65 ∨ b = 66) ∧ j = hi 3 6)) → hi2 b j = hi b j := fun b j w => by
        rw [e₄, up2_if (by omega), up2_if (by omega), up2_if (by omega), up2_if (by omega), up2_if (by omega), up2_if (by omega), up2_if (by omega), up2_if (by omega), up2_if (by omega)]
      have n₁ : hi2 3 6 = hi 3 6 + 1 := by rw [e₄, up2_if (by omega), up2_if (by omega), up2_if (by omega), up2_if (by omega), up2_if (by omega), up2_s]
      have n₂ : hi2 37 37 = hi 3 6 + 1 := by rw [e₄, up2_s]
      have n4 : hi2 4 (hi 3 6) = p := by rw [e₄, up2_if (by omega), up2_if (by omega), up2_if (by omega), up2_if (by omega), up2_if (by omega), up2_if (by omega), up2_if (by omega), up2_if (by omega), up2_s]
      have n5 : hi2 5 (hi 3 6) = n := by rw [e₄, up2_if (by omega), up2_if (by omega), up2_if (by omega), up2_if (by omega), up2_if (by omega), up2_if (by omega), up2_if (by omega), up2_s]
      have n6 : hi2 6 (hi 3 6) = hi 0 11 := by rw [e₄, up2_if (by omega), up2_if (by omega), up2_if (by omega), up2_if (by omega), up2_if (by omega), up2_if (by omega), up2_s]
      have m4 : hi2 64 (hi 3 6) = p := by rw [e₄, up2_if (by omega), up2_if (by omega), up2_if (by omega), up2_s]
      have m5 : hi2 65 (hi 3 6) = n := by rw [e₄, up2_if (by omega), up2_if (by omega), up2_s]
      have m6 : hi2 66 (hi 3 6) = hi 0 11 := by rw [e₄, up2_if (by omega), up2_s]
      refine ⟨rfl, ⟨hz, hR, by omega, by omega⟩, hD.cg fun b j q => ag b j (by unfold rdD at q; omega), hP.k1.cg fun b j q => ag b j (by unfold rdP at q; omega), hB.cg fun b j q => ag b j (by unfold rdB at q; omega), ?_, hS.cg fun b j q => ag b j (by unfold rdS at q; omega), hT.cg fun b j q => ag b j (by unfold rdT at q; omega), hX.cg (fun b j q => ag b j (by unfold rdX at q; omega)) rfl rfl⟩
      obtain ⟨g₁, g₂, g₃, g₄, g₅, g₆⟩ := hM
      have ej : ∀ y jd, mJoin hi2 y jd = mJoin hi y jd := fun y jd => by
        show mLast (hi2 67) (hi2 69) (hi2 68) y jd (hi2 37 41).toNat = mLast (hi 67) (hi 69) (hi 68) y jd (hi 37 41).toNat
        rw [show hi2 67 = hi 67 from funext fun j => ag 67 j (by omega), show hi2 68 = hi 68 from funext fun j => ag 68 j (by omega), show hi2 69 = hi 69 from funext fun j => ag 69 j (by omega), ag 37 41 (by omega)]
      refine ⟨⟨n₁.trans n₂.symm, by omega, by omega⟩, ?_, fun i => ?_, fun i i₀ i₁ => ?_, fun i i₀ i₁ => ?_, fun jd v hv => ?_⟩
      · rw [ag 3 7 (by omega), ag 37 41 (by omega)]; exact g₂
      · rw [ag 7 i (by omega), ag 8 i (by omega), ag 9 i (by omega), ag 67 i (by omega), ag 68 i (by omega), ag 69 i (by omega)]
        by_cases w : i = hi 3 6
        · rw [w]
          exact ⟨n4.trans m4.symm, n5.trans m5.symm, n6.trans m6.symm, (g₃ _).2.2.2⟩
        · rw [ag 4 i (by omega), ag 5 i (by omega), ag 6 i (by omega), ag 64 i (by omega), ag 65 i (by omega), ag 66 i (by omega)]
          exact g₃ i
      · rw [ag 37 41 (by omega)] at i₁
        rw [ag 67 i (by omega), ag 68 i (by omega), ag 69 i (by omega), ag 37 24 (by omega)]
        exact g₄ i i₀ i₁
      · rw [n₂] at i₁
        by_cases w : i = hi 3 6
        · rw [w, m5]; exact c.2.1
        · rw [ag 65 i (by omega)]
          exact g₅ i i₀ (by omega)
      · rw [show (fun y => mJoin hi2 y jd) = (fun y => mJoin hi y jd) from funext fun y => ej y jd]
        exact g₆ jd v hv
    · exfalso
      rw [k25, k37] at c₂
      omega
  · obtain rfl := e₅.symm
    refine ⟨_, rfl, hz, (m_name (d := d + 29) hz hR hM₁.2).mono (fun r2 z2 hr2 hi2 hl2 q => ?_)⟩
    obtain ⟨e₁, e₂, e₃, q⟩ := q
    obtain rfl := e₁.symm
    obtain rfl := e₂.symm
    obtain rfl := e₃.symm
    rcases q with ⟨c₂, rfl, rfl⟩ | ⟨c₂, rfl, rfl⟩
    · exfalso; omega
    · exact ⟨rfl, h.t0⟩
theorem st_change (h : RR k z hr hi hl) {b l w : Int} : stp G d k mX9_change mX10_change [vR 0, vI b, vI l, vI w] [vR 37, vI b, vI l, vI w] z hr hi hl := by
  obtain ⟨⟨hz, hR, hk, hs⟩, hD, hP, hB, hM, hS, hT, hX⟩ := id h
  have hB₁ := hB.1
  refine (c_change (d := d + 28) hz hR hB.n hB.cBd).mono (fun r z' hr' hi' hl' q => ?_)
  obtain ⟨e₁, e₂, e₃, q⟩ := q
  obtain rfl := e₁.symm
  obtain rfl := e₂.symm
  obtain rfl := e₃.symm
  rcases q with ⟨c, rfl, rfl⟩ | ⟨c, rfl, e₅⟩
  · have b₀ : 0 ≤ b := c.1.1
    have b₁ : b < hi 37 45 := by omega
    have s := hB.2.1 b b₀ b₁
    have s8 := s.2.2.1
    have k45 : up2 (up2 hi (bC hr b) 0 l) (bC hr b) 1 w 37 45 = hi 37 45 := by rw [up2_if (by omega), up2_if (by omega)]
    refine ⟨_, rfl, hz, (m_change (d := d + 29) hz hR (by rw [k45]; exact hB.1.2.2)).mono (fun r2 z2 hr2 hi2 hl2 q => ?_)⟩
    obtain ⟨e₁, e₂, e₃, q⟩ := q
    obtain rfl := e₁.symm
    obtain rfl := e₂.symm
    obtain rfl := e₃.symm
    rcases q with ⟨c₂, rfl, e₄⟩ | ⟨c₂, rfl, rfl⟩
    · have ag : ∀ x j, ¬ ((x = bC hr b ∧ (j = 0 ∨ j = 1)) ∨ (x = 37 ∧ j = 0) ∨ ((x = 70 ∨ x = 71) ∧ j = b)) → hi2 x j = hi x j := fun x j q => by
        rw [e₄, up2_if (by omega), up2_if (by omega), up2_if (by omega), up2_if (by omega), up2_if (by omega)]
      have n₀ : hi2 (bC hr b) 0 = l := by rw [e₄, up2_if (by omega), up2_if (by omega), up2_if (by omega), up2_if (by omega), up2_s]
      have n₁ : hi2 (bC hr b) 1 = w := by rw [e₄, up2_if (by omega), up2_if (by omega), up2_if (by omega), up2_s]
      have m₀ : hi2 70 b = l := by rw [e₄, up2_if (by omega), up2_s]
      have m₁ : hi2 71 b = w := by rw [e₄, up2_s]
      refine ⟨rfl, ⟨hz, hR, by omega, by omega⟩, hD.cg fun b j q => ag b j (by unfold rdD at q; omega), ?_, ?_, hM.cg fun b j q => ag b j (by unfold rdM at q; omega), hS.cg fun b j q => ag b j (by unfold rdS at q; omega), hT.cg fun b j q => ag b j (by unfold rdT at q; omega), hX.cg (fun b j q => ag b j (by unfold rdX at q; omega)) rfl rfl⟩
      · refine hP.k1.bd (fun x j q q' => ag x j ?_)
        have d₁ : x ≠ bC hr b := fun e => q' ⟨by omega, by rw [e]; exact s.2.1⟩
        unfold rdP at q
        omega
      · obtain ⟨g₁, g₂, g₃, g₄⟩ := hB
        refine ⟨?_, fun x x₀ x₁ => ?_, ?_, fun x x₀ x₁ => ?_⟩
        · rw [ag 0 10 (by omega), ag 37 45 (by omega)]; exact g₁
        · rw [ag 37 45 (by omega)] at x₁
          have q := g₂ x x₀ x₁
          by_cases e : x = b
          · rw [e, n₀, n₁, m₀, m₁, ag _ 2 (by omega), ag 72 b (by omega)]
            exact ⟨s.1, s.2.1, s8, rfl, rfl, s.2.2.2.2.2⟩
          · have d₁ : bC hr x ≠ bC hr b := fun q => e (g₃ x b x₀ x₁ b₀ b₁ q)
            rw [ag _ 0 (by omega), ag _ 1 (by omega), ag _ 2 (by omega), ag 70 x (by omega), ag 71 x (by omega), ag 72 x (by omega)]
            exact q
        · rw [ag 37 45 (by omega)]; exact g₃
        · rw [ag 37 45 (by omega)] at x₁
          rw [ag 37 25 (by omega), ag 72 x (by omega), show hi2 59 = hi 59 from funext fun j => ag 59 j (by omega)]
          exact g₄ x x₀ x₁
    · exfalso
      rw [k45] at c₂
      omega
  · obtain rfl := e₅.symm
    refine ⟨_, rfl, hz, (m_change (d := d + 29) hz hR hB.1.2.2).mono (fun r2 z2 hr2 hi2 hl2 q => ?_)⟩
    obtain ⟨e₁, e₂, e₃, q⟩ := q
    obtain rfl := e₁.symm
    obtain rfl := e₂.symm
    obtain rfl := e₃.symm
    rcases q with ⟨c₂, rfl, rfl⟩ | ⟨c₂, rfl, rfl⟩
    · exfalso; omega
    · exact ⟨rfl, h.t0⟩
end STP5
