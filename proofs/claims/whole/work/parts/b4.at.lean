/-! one PLANT is changed, or one is new *) -/
section RAT
variable {z z' : aZ} {hr hr' : aR} {hi hi' hl hl' : aI} {k k' : Nat}
theorem a_is_ne {a b t u : Nat} {l m : Int} (h : a_is z a t l) (h' : a_is z b u m) (hn : t ≠ u) : a ≠ b := fun e => by
  subst e
  have := h.2.symm.trans h'.2
  exact hn (congrArg Prod.fst this)
theorem gP.st (h : gP k z hr hi) {q : Int} (q₀ : 0 ≤ q) (q₁ : q < hi 37 25) : pS z hr q := (h.2.1 q q₀ q₁).1
theorem gP.inj (h : gP k z hr hi) {p q : Int} (p₀ : 0 ≤ p) (p₁ : p < hi 37 25) (q₀ : 0 ≤ q) (q₁ : q < hi 37 25) (e : pC hr p = pC hr q) : p = q := by
  have h₁ := (h.2.1 p p₀ p₁).2.1.1
  have h₂ := (h.2.1 q q₀ q₁).2.1.1
  rw [e] at h₁
  exact h₁.symm.trans h₂
theorem gP.pm (h : gP k z hr hi) {p q : Int} (p₀ : 0 ≤ p) (p₁ : p < hi 37 25) (q₀ : 0 ≤ q) (q₁ : q < hi 37 25) : pC hr p ≠ mC hr q := a_is_ne (h.st p₀ p₁).2.1 (h.st q₀ q₁).2.2.2.1 (by decide)
/-- what may change where PLANT p alone is changed, its origin not *) -/
def chP (hr : aR) (p : Int) (b : Nat) (j : Int) : Prop := (b = pC hr p ∧ 8 ≤ j ∧ j ≤ 16) ∨ b = mC hr p ∨ ((b = 56 ∨ b = 59 ∨ b = 60 ∨ b = 61 ∨ b = 62) ∧ j = p) ∨ (b = 57 ∧ 8 * p ≤ j ∧ j < 8 * p + 8) ∨ (b = 58 ∧ 4 * p ≤ j ∧ j < 4 * p + 4)
theorem gP.chg {p : Int} (h : gP k z hr hi) (p₀ : 0 ≤ p) (p₁ : p < hi 37 25) (e : ∀ b j, rdP b j → ¬ chP hr p b j → hi' b j = hi b j) (hv : pV hr hi' p) (hb : pBd hi' p) (h56 : (0 ≤ hi' 56 p ∧ hi' 56 p ≤ 100) ∧ 0 ≤ hi' 61 p ∧ hi' 61 p ≤ k') (hk : k ≤ k') : gP k' z hr hi' := by
  have hpm := fun (q : Int) (q₀ : 0 ≤ q) (q₁ : q < hi 37 25) => h.pm q₀ q₁ p₀ p₁
  have hin := fun (q : Int) (q₀ : 0 ≤ q) (q₁ : q < hi 37 25) (w : ¬ q = p) (e : pC hr q = pC hr p) => w (h.inj q₀ q₁ p₀ p₁ e)
  have hmp := fun (q : Int) (q₀ : 0 ≤ q) (q₁ : q < hi 37 25) => (h.pm p₀ p₁ q₀ q₁).symm
  obtain ⟨h₁, h₂, h₃, h₄, h₅⟩ := h
  have s80 := (h₂ p p₀ p₁).1.2.2.2.2
  have e1 : hi' 37 25 = hi 37 25 := e 37 25 (by unfold rdP; omega) (by unfold chP; omega)
  have e2 : hi' 37 45 = hi 37 45 := e 37 45 (by unfold rdP; omega) (by unfold chP; omega)
  have e0 : hi' 0 9 = hi 0 9 := e 0 9 (by unfold rdP; omega) (by unfold chP; omega)
  have eb : ∀ b : Nat, b = 53 ∨ b = 54 ∨ b = 55 ∨ b = 63 → hi' b = hi b := fun b hb => funext fun j => e b j (by unfold rdP; omega) (by unfold chP; omega)
  have e53 := eb 53 (by omega)
  have e54 := eb 54 (by omega)
  have e55 := eb 55 (by omega)
  have e63 := eb 63 (by omega)
  have el : ∀ (b : Nat) (q : Int), b = 56 ∨ b = 59 ∨ b = 60 ∨ b = 61 ∨ b = 62 → ¬ q = p → hi' b q = hi b q := fun b q hb hq => e b q (by unfold rdP; omega) (by unfold chP; omega)
  have e57 : ∀ q j : Int, ¬ q = p → 0 ≤ j → j < 8 → hi' 57 (8 * q + j) = hi 57 (8 * q + j) := fun q j hq j₀ j₁ => e 57 _ (by unfold rdP; omega) (by unfold chP; omega)
  have e58 : ∀ q j : Int, ¬ q = p → 0 ≤ j → j < 4 → hi' 58 (4 * q + j) = hi 58 (4 * q + j) := fun q j hq j₀ j₁ => e 58 _ (by unfold rdP; omega) (by unfold chP; omega)
  have ef : ∀ (q j : Int), 0 ≤ q → q < hi 37 25 → j = 4 ∨ j = 5 ∨ j = 6 → hi' (pC hr q) j = hi (pC hr q) j := fun q j q₀ q₁ hj => by
    have h80 := (h₂ q q₀ q₁).1.2.2.2.2.1
    have n1 := hpm q q₀ q₁
    exact e _ j (by unfold rdP; omega) (by unfold chP; omega)
  unfold gP
  rw [e0, e1]
  refine ⟨h₁, fun q q₀ q₁ => ?_, h₃, fun q => ?_, fun q q₀ q₁ => ?_⟩
  · obtain ⟨s, v, t, b⟩ := h₂ q q₀ q₁
    refine ⟨s, ?_, ?_, ?_⟩
    · by_cases w : q = p
      · rw [w]; exact hv
      · have n1 := hpm q q₀ q₁
        have n2 : pC hr q ≠ pC hr p := fun e => hin q q₀ q₁ w e
        have s8 := s.2.2.2.2
        have n3 : mC hr q ≠ mC hr p := fun e => w (h₃ q p q₀ q₁ p₀ p₁ e)
        have n4 := hmp q q₀ q₁
        have ep : hi' (pC hr q) = hi (pC hr q) := funext fun j => e _ j (by unfold rdP; omega) (by unfold chP; omega)
        have em : hi' (mC hr q) = hi (mC hr q) := funext fun j => e _ j (by unfold rdP; omega) (by unfold chP; omega)
        unfold pV
        rw [ep, em, e53, el 56 q (by omega) w, el 59 q (by omega) w, el 60 q (by omega) w, el 61 q (by omega) w, el 62 q (by omega) w]
        obtain ⟨v₁, v₂, v₃, v₄, v₅, v₆, v₇, v₈, v₉⟩ := v
        exact ⟨v₁, v₂, v₃, fun j j₀ j₁ => by rw [e58 q j w j₀ j₁]; exact v₄ j j₀ j₁, v₅, v₆, v₇, v₈, fun j j₀ j₁ => by rw [e57 q j w j₀ j₁]; exact v₉ j j₀ j₁⟩
    · rcases t with t | t
      · refine Or.inl ?_
        rw [ef q 4 q₀ q₁ (by omega), ef q 5 q₀ q₁ (by omega), ef q 6 q₀ q₁ (by omega), e53, e54, e55, e63]
        exact t
      · refine Or.inr ?_
        obtain ⟨t₁, t₂, t₃, t₄⟩ := t
        rw [ef q 4 q₀ q₁ (by omega), ef q 5 q₀ q₁ (by omega), ef q 6 q₀ q₁ (by omega), e53, e54, e55, ef (hi 54 q) 4 t₂.1 (by omega) (by omega), ef (hi 54 q) 5 t₂.1 (by omega) (by omega), ef (hi 54 q) 6 t₂.1 (by omega) (by omega)]
        exact ⟨t₁, t₂, t₃, t₄⟩
    · by_cases w : q = p
      · rw [w]; exact hb
      · unfold pBd
        rw [e53, e63, el 59 q (by omega) w, el 60 q (by omega) w, el 61 q (by omega) w, el 62 q (by omega) w, e2]
        exact b
  · by_cases w : q = p
    · rw [w]; exact h56
    · rw [el 56 q (by omega) w, el 61 q (by omega) w]
      have := h₄ q
      exact ⟨this.1, this.2.1, by omega⟩
  · have w : ¬ q = p := by omega
    unfold pD0
    rw [el 59 q (by omega) w, el 60 q (by omega) w, el 61 q (by omega) w, el 62 q (by omega) w]
    obtain ⟨d₁, d₂⟩ := h₅ q q₀ q₁
    exact ⟨fun j j₀ j₁ => by rw [e57 q j w j₀ j₁]; exact d₁ j j₀ j₁, d₂⟩
/-- the BEDS, where cells of PLANTS change and no PLANT is laid *) -/
theorem gB.pl (hB : gB z hr hi) (e : ∀ b j, rdB b j → ¬ (81 ≤ b ∧ a_is z b 3 17 ∨ 81 ≤ b ∧ a_is z b 20 8) → hi' b j = hi b j) : gB z hr hi' := by
  obtain ⟨h₁, h₂, h₃, h₄⟩ := hB
  have e1 : hi' 37 25 = hi 37 25 := e 37 25 (by unfold rdB; omega) (by omega)
  have e2 : hi' 37 45 = hi 37 45 := e 37 45 (by unfold rdB; omega) (by omega)
  have e0 : hi' 0 10 = hi 0 10 := e 0 10 (by unfold rdB; omega) (by omega)
  have eb : ∀ b : Nat, b = 59 ∨ (70 ≤ b ∧ b ≤ 72) → hi' b = hi b := fun b hb => funext fun j => e b j (by unfold rdB; omega) (by omega)
  unfold gB
  rw [e0, e1, e2, eb 59 (by omega), eb 70 (by omega), eb 71 (by omega), eb 72 (by omega)]
  refine ⟨h₁, fun b b₀ b₁ => ?_, h₃, h₄⟩
  have w := h₂ b b₀ b₁
  have ec : hi' (bC hr b) = hi (bC hr b) := funext fun j => e _ j (by unfold rdB; omega) (fun q => by
    rcases q with q | q
    · exact a_is_ne w.2.1 q.2 (by decide) rfl
    · exact a_is_ne w.2.1 q.2 (by decide) rfl)
  rw [ec]
  exact w
theorem gP.cP (h : gP k z hr hi) : cP z hr hi := fun p p₀ p₁ => by
  have s := h.st p₀ (by rw [← h.1.1]; exact p₁)
  exact ⟨_, _, s.1, s.2.1, s.2.2.1, s.2.2.2.1⟩
theorem gP.n (h : gP k z hr hi) : 0 ≤ hi 0 9 ∧ hi 0 9 ≤ 40 := by rw [h.1.1]; exact h.1.2
theorem gB.cBd (h : gB z hr hi) : cBd z hr hi := fun b b₀ b₁ => by
  have w := h.2.1 b b₀ (by rw [← h.1.1]; exact b₁)
  exact ⟨_, w.1, w.2.1⟩
theorem gB.n (h : gB z hr hi) : 0 ≤ hi 0 10 ∧ hi 0 10 ≤ 8 := by rw [h.1.1]; exact h.1.2
end RAT
