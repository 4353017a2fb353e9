/-! the relation holds at the start *) -/
section BEG
variable {G : aG} {d k : Nat} {z : aZ} {hr : aR} {hi hl : aI}
theorem rT_lk : ∀ q ∈ rT, (lkR (li_X10 li_X9) (ad true q.1) q.2.1).map pv = some q.2.2 := by decide +kernel
theorem sh_ad : ∀ a, a < 81 → shU (ad true a) = shT a := by decide +kernel
theorem ad_81 {b : Nat} (h : b < 81) : ad true b < 81 := ad_hi (fun _ => Nat.le_refl _) h
theorem ad_60 {b : Nat} (h : ¬ (b = 59 ∨ b = 60)) : ¬ (ad true b = 60 ∨ ad true b = 61) := by
  unfold ad
  rw [if_pos rfl]
  repeat' split
  all_goals omega
theorem ad_59 {b : Nat} (h : b = 59 ∨ b = 60) : ad true b = 60 ∨ ad true b = 61 := by rcases h with rfl | rfl <;> decide
theorem RR_0 (h : bT 81 (li_X10 li_X9) 40 z hr hi hl) : RR 0 (rz (ad true) z) (rr (ad true) pv hr) (ri (ad true) hi) (ri (ad true) hl) := by
  obtain ⟨h₁, h₂, h₃, h₄, h₅, h₆⟩ := h
  have z0 : ∀ b j, b < 81 → ¬ (b = 59 ∨ b = 60) → ri (ad true) hi b j = 0 := fun b j w₁ w₂ => by
    show hi (ad true b) j = 0
    rw [h₅ (ad true b) (ad_81 w₁) j, if_neg (fun q => ad_60 w₂ q.1)]
  have z1 : ∀ b j, b = 59 ∨ b = 60 → 0 ≤ j → j < 40 → ri (ad true) hi b j = -1 := fun b j w₁ w₂ w₃ => by
    show hi (ad true b) j = -1
    rw [h₅ (ad true b) (ad_81 (by omega)) j, if_pos ⟨ad_59 w₁, w₂, w₃⟩]
  have z4 : ∀ a i, a < 81 → rr (ad true) pv hr a i = (lkR (li_X10 li_X9) (ad true a) i).map pv := fun a i w => by
    show (hr (ad true a) i).map pv = _
    rw [h₄ (ad true a) (ad_81 w) i]
  have mj : ∀ y jd, mJoin (ri (ad true) hi) y jd = 0 := fun y jd => by
    show mLast (ri (ad true) hi 67) (ri (ad true) hi 69) (ri (ad true) hi 68) y jd (ri (ad true) hi 37 41).toNat = 0
    rw [z0 37 41 (by omega) (by omega)]
    rfl
  have c25 := z0 37 25 (by omega) (by omega)
  have c45 := z0 37 45 (by omega) (by omega)
  have c15 := z0 37 15 (by omega) (by omega)
  refine ⟨⟨⟨Nat.le_of_eq h₁.symm, fun a ha => (h₃ (ad true a) (ad_81 ha)).trans (sh_ad a ha)⟩, fun q hq => ?_, Nat.le_of_eq h₁, Nat.le_of_eq h₂⟩, ⟨?_, ?_⟩, ⟨⟨?_, ?_⟩, fun q q₀ q₁ => ?_, fun p q p₀ p₁ => ?_, fun q => ?_, fun q q₀ q₁ => ?_⟩, ⟨⟨?_, ?_⟩, fun b b₀ b₁ => ?_, fun a b a₀ a₁ => ?_, fun b b₀ b₁ => ?_⟩, ?_, ⟨⟨?_, ?_⟩, fun i => ?_⟩, ⟨⟨?_, ?_⟩, fun i => ?_, fun i => ?_⟩, ⟨⟨31, 22, [], Or.inr ⟨rfl, rfl⟩, ?_, ?_, ⟨?_, ?_, ?_⟩, trivial, trivial, ?_, ?_⟩, ?_, fun l => ?_, fun l => ?_, ?_, ?_⟩⟩
  · have h1 := rT_80 q hq
    rw [z4 q.1 q.2.1 h1]
    exact rT_lk q hq
  · rw [z0 0 11 (by omega) (by omega), z0 37 24 (by omega) (by omega)]
  · rw [z0 37 24 (by omega) (by omega)]; decide
  · rw [z0 0 9 (by omega) (by omega), c25]
  · rw [c25]; decide
  · rw [c25] at q₁; omega
  · rw [c25] at p₁; omega
  · rw [z0 56 q (by omega) (by omega), z0 61 q (by omega) (by omega)]; decide
  · rw [c25] at q₀
    exact ⟨fun j _ _ => z0 57 _ (by omega) (by omega), z1 59 q (by omega) q₀ q₁, z1 60 q (by omega) q₀ q₁, z0 61 q (by omega) (by omega), z0 62 q (by omega) (by omega)⟩
  · rw [z0 0 10 (by omega) (by omega), c45]
  · rw [c45]; decide
  · rw [c45] at b₁; omega
  · rw [c45] at a₁; omega
  · rw [c45] at b₁; omega
  · refine ⟨⟨?_, ?_⟩, ⟨?_, ?_⟩, fun i => ?_, fun i i₀ i₁ => ?_, fun i i₀ i₁ => ?_, fun jd v hv => ?_⟩
    · rw [z0 3 6 (by omega) (by omega), z0 37 37 (by omega) (by omega)]
    · rw [z0 37 37 (by omega) (by omega)]; decide
    · rw [z0 3 7 (by omega) (by omega), z0 37 41 (by omega) (by omega)]
    · rw [z0 37 41 (by omega) (by omega)]; decide
    · rw [z0 4 i (by omega) (by omega), z0 5 i (by omega) (by omega), z0 6 i (by omega) (by omega), z0 7 i (by omega) (by omega), z0 8 i (by omega) (by omega), z0 9 i (by omega) (by omega), z0 64 i (by omega) (by omega), z0 65 i (by omega) (by omega), z0 66 i (by omega) (by omega), z0 67 i (by omega) (by omega), z0 68 i (by omega) (by omega), z0 69 i (by omega) (by omega)]
      exact ⟨rfl, rfl, rfl, rfl, rfl, rfl⟩
    · rw [z0 37 41 (by omega) (by omega)] at i₁; omega
    · rw [z0 37 37 (by omega) (by omega)] at i₁; omega
    · show v ≤ 0 ∨ mZ (fun y => mJoin (ri (ad true) hi) y jd) 49 (mJoin (ri (ad true) hi) v jd)
      rw [mj]
      exact Or.inr (Or.inl (Int.le_refl 0))
  · rw [z0 28 1 (by omega) (by omega), z0 37 54 (by omega) (by omega)]
  · rw [z0 37 54 (by omega) (by omega)]; decide
  · rw [z0 29 i (by omega) (by omega), z0 78 i (by omega) (by omega)]
  · rw [z0 15 1 (by omega) (by omega), z0 37 2 (by omega) (by omega)]
  · rw [z0 37 2 (by omega) (by omega)]; decide
  · rw [z0 16 i (by omega) (by omega), z0 38 i (by omega) (by omega)]
  · rw [z0 38 i (by omega) (by omega)]; decide
  · rw [z4 0 8 (by omega)]; decide +kernel
  · rw [z4 17 1 (by omega)]; decide +kernel
  · intro l hl; cases hl
  · decide
  · decide
  · rw [z0 31 7 (by omega) (by omega)]; rfl
  · rw [z0 43 _ (by omega) (by omega)]; rfl
  · rw [c15]; decide
  · exact Or.inl (z0 26 l (by omega) (by omega))
  · exact Or.inl (z0 35 l (by omega) (by omega))
  · rw [z0 37 18 (by omega) (by omega)]; decide
  · refine ⟨fun a _ _ => by rw [z0 40 a (by omega) (by omega)]; decide, fun a _ _ q => ?_, z0 39 600 (by omega) (by omega), fun i => h₆ 43 (by omega) i⟩
    rw [z0 39 a (by omega) (by omega)] at q
    exact absurd q (by decide)
end BEG
