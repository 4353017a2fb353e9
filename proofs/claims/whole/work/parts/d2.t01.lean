/-! the marks 'let' of a draft are 0 or 1 whatever is read *) -/
section T01
variable {c : Nat} {kd pl nu : Int → Int} {nt : Int}
theorem cAd_o {h : aI} {b : Nat} {j : Int} (hb : b ≠ 17) : (cAd h) b j = h b j := by
  unfold cAd
  split
  · rfl
  · rw [up2_n hb, up2_n hb]
theorem cRf_o {h : aI} {x : Int} {b : Nat} {j : Int} (hb : b ≠ 17) : (cRf h x) b j = h b j := up2_n hb
theorem pLn_01 (hc : c = 22 ∨ c = 31) (hT : nt ≤ 600) (hnt : kd nt = 19) (hpl : ∀ b, 0 ≤ b → b ≤ nt → 0 ≤ pl b ∧ pl b ≤ 600) (hk : ∀ a, 0 ≤ a → a ≤ nt → 0 ≤ kd a ∧ 0 ≤ nu a ∧ nu a ≤ 9999) {h : aI} {a : Int} (s : cSl c kd pl nu nt h a) (hlt : a < nt) (hka : ¬ kd a = 19) {r : Int} {k : aI} (e : pLn c h = some (r, k)) : ∀ j, k (c + 4) j = h (c + 4) j ∨ (k (c + 4) j = 0 ∨ k (c + 4) j = 1) := by
  have n17 : c + 4 ≠ 17 := by omega
  obtain ⟨s₁, s₂, s₃, s₄, s₅, s₆⟩ := s
  have af₁ : cAf c kd h (cAd h) (a + 1) [] := (cAf.refl s₂ s₃).ad hc hka (s₁ (a + 1) (by omega) (by omega)).1
  have e₂ : (cAd h) 17 3 = kd (a + 1) := af₁.2.2.1
  unfold pLn at e
  by_cases g₁ : gd c h
  · rw [if_neg (not_not_intro g₁)] at e
    by_cases g₂ : gd c (cAd h)
    · rw [if_neg (not_not_intro g₂)] at e
      by_cases c₁ : (cAd h) 17 3 = 18
      · rw [if_neg (not_not_intro c₁)] at e
        rw [e₂] at c₁
        have hl₂ : a + 1 < nt := by
          rcases Int.lt_or_eq_of_le (show a + 1 ≤ nt by omega) with q | q
          · exact q
          · rw [q, hnt] at c₁; omega
        have af₂ : cAf c kd h (cAd (cAd h)) (a + 2) [] := by
          have := af₁.ad hc (by omega) (s₁ (a + 1 + 1) (by omega) (by omega)).1
          rw [show a + 1 + 1 = a + 2 by omega] at this
          exact this
        have st : cSt c kd pl nu nt (cAd (cAd h)) (a + 2) := by
          obtain ⟨p₁, p₂, p₃, p₄, p₅, p₆⟩ := af₂
          rw [List.length_nil] at p₅
          refine ⟨fun x x₁ x₂ => ?_, p₂, p₃, by omega, by omega, by omega⟩
          rw [p₁.2 19 x (by unfold cOut; omega), p₁.2 20 x (by unfold cOut; omega), p₁.2 21 x (by unfold cOut; omega)]
          exact s₁ x x₁ x₂
        have fin : ∃ (r₃ : Int) (h₃ : aI), rdA c 6 (cAd (cAd h)) = some (r₃, h₃) ∧ ∀ j, h₃ (c + 4) j = h (c + 4) j := by
          rcases cGo_E hc hT hnt hpl hk 5 _ _ st with ⟨q₁, k₃, q₂, q₃⟩ | ⟨q₁, k₃, q₂, q₃, q₄⟩
          · exact ⟨1, k₃, q₂, fun j => by rw [q₃.1.2 (c + 4) j (by unfold cOut; omega), cAd_o n17, cAd_o n17]⟩
          · exact ⟨0, k₃, q₂, fun j => by rw [q₃.2 (c + 4) j (by unfold cOut; omega), cAd_o n17, cAd_o n17]⟩
        obtain ⟨r₃, h₃, f₁, f₂⟩ := fin
        rw [f₁] at e
        dsimp only at e
        by_cases u₁ : r₃ = 0
        · rw [if_pos u₁] at e
          cases e
          exact fun j => Or.inl (f₂ j)
        · rw [if_neg u₁] at e
          by_cases u₂ : gd c h₃
          · rw [if_neg (not_not_intro u₂)] at e
            by_cases u₃ : h₃ 17 3 = 15
            · rw [if_neg (not_not_intro u₃)] at e
              by_cases u₄ : 0 ≤ (cAd h₃) c 7 ∧ (cAd h₃) c 7 < 16
              · rw [if_neg (not_not_intro u₄)] at e
                cases e
                intro j
                unfold cEnd
                rw [up2_if (by omega)]
                by_cases w : j = (cAd h₃) c 7
                · rw [w, up2_s]
                  refine Or.inr ?_
                  split
                  · exact Or.inr rfl
                  · exact Or.inl rfl
                · rw [up2_if (fun q => w q.2), up2_if (by omega), cAd_o n17]
                  exact Or.inl (f₂ j)
              · rw [if_pos u₄] at e; cases e
            · rw [if_pos u₃] at e
              cases e
              exact fun j => Or.inl ((cRf_o n17).trans (f₂ j))
          · rw [if_pos u₂] at e; cases e
      · rw [if_pos c₁] at e
        cases e
        exact fun j => Or.inl ((cRf_o n17).trans (cAd_o n17))
    · rw [if_pos g₂] at e; cases e
  · rw [if_pos g₁] at e; cases e
theorem pTe_01 (hc : c = 22 ∨ c = 31) {h k : aI} (e : pTe c h = some k) : ∀ j, k (c + 4) j = h (c + 4) j := by
  have n17 : c + 4 ≠ 17 := by omega
  unfold pTe at e
  by_cases u₁ : h 17 3 = 16 ∨ h 17 3 = 17
  · rw [if_pos u₁] at e
    by_cases u₂ : gd c h
    · rw [if_neg (not_not_intro u₂)] at e
      cases e
      exact fun j => cRf_o n17
    · rw [if_pos u₂] at e; cases e
  · rw [if_neg u₁] at e
    by_cases u₂ : h 17 3 = 19
    · rw [if_pos u₂] at e
      cases e
      exact fun j => rfl
    · rw [if_neg u₂] at e
      by_cases u₃ : gd c h
      · rw [if_neg (not_not_intro u₃)] at e
        cases e
        exact fun j => cRf_o n17
      · rw [if_pos u₃] at e; cases e
theorem pTl_01 (hc : c = 22 ∨ c = 31) (hT : nt ≤ 600) (hnt : kd nt = 19) (hpl : ∀ b, 0 ≤ b → b ≤ nt → 0 ≤ pl b ∧ pl b ≤ 600) (hk : ∀ a, 0 ≤ a → a ≤ nt → 0 ≤ kd a ∧ 0 ≤ nu a ∧ nu a ≤ 9999) (n : Nat) : ∀ (h : aI) (a : Int) (k : aI), cSl c kd pl nu nt h a → 0 ≤ h c 7 → h c 7 + n = 16 → pTl c n h = some k → (∀ j, h (c + 4) j = 0 ∨ h (c + 4) j = 1) → ∀ j, k (c + 4) j = 0 ∨ k (c + 4) j = 1 := by
  induction n with
  | zero =>
    intro h a k s h₇ h₈ e h₀ j
    rw [pTe_01 hc (show pTe c h = some k from e) j]
    exact h₀ j
  | succ n ih =>
    intro h a k s h₇ h₈ e h₀
    unfold pTl at e
    by_cases u : h 17 3 = 16 ∨ h 17 3 = 17
    · rw [if_neg (not_not_intro u)] at e
      have hka : kd a = 16 ∨ kd a = 17 := by rw [← s.2.2.1]; exact u
      have hlt : a < nt := by
        have w := s.2.2.2.1
        rcases Int.lt_or_eq_of_le w.2 with q | q
        · exact q
        · rw [q, hnt] at hka; omega
      have h01 : ∀ {r : Int} {k' : aI}, pLn c h = some (r, k') → ∀ j, k' (c + 4) j = 0 ∨ k' (c + 4) j = 1 := fun q j => by
        rcases pLn_01 hc hT hnt hpl hk s hlt (by omega) q j with w | w
        · rw [w]; exact h₀ j
        · exact w
      rcases cLn hc hT hnt hpl hk s hlt (by omega) ⟨h₇, by omega⟩ with ⟨q₁, k', q₂, q₃, q₄, q₅, q₆, q₇⟩ | ⟨q₁, k', q₂, q₃⟩
      · rw [q₂] at e
        dsimp only at e
        rw [if_neg (show ¬ (1 : Int) = 0 by decide)] at e
        exact ih k' _ k q₄ (by omega) (by omega) e (h01 q₂)
      · rw [q₂] at e
        dsimp only at e
        rw [if_pos rfl] at e
        cases e
        exact h01 q₂
    · rw [if_pos u] at e
      intro j
      rw [pTe_01 hc e j]
      exact h₀ j
end T01
