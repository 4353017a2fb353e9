/-! a PLANT that is new *) -/
section STPA
variable {G : aG} {d k : Nat} {z z' : aZ} {hr hr' : aR} {hi hi' hl hl' : aI}
/-- what changes where PLANT n is new *) -/
def chN (n : Int) (b : Nat) (j : Int) : Prop := (b = 0 ∧ j = 9) ∨ (b = 37 ∧ (j = 0 ∨ j = 25)) ∨ ((b = 53 ∨ b = 54 ∨ b = 55 ∨ b = 56 ∨ b = 63) ∧ j = n) ∨ (b = 57 ∧ 8 * n ≤ j ∧ j < 8 * n + 8) ∨ (b = 58 ∧ 4 * n ≤ j ∧ j < 4 * n + 4)
set_option maxHeartbeats 1000000 in
theorem RR_new (h : RR k z hr hi hl) (hn : hi 37 25 < 40) (er : ∀ b j, b < z.1 → ¬ (b = 1 ∧ j = hi 37 25) → hr' b j = hr b j) (r1 : hr' 1 (hi 37 25) = some z.1) (r7 : hr' z.1 7 = some (z.1 + 1)) (ag : ∀ b j, b < z.1 → ¬ chN (hi 37 25) b j → hi' b j = hi b j) (el : ∀ b j, b < z.1 → hl' b j = hl b j) (n9 : hi' 0 9 = hi 37 25 + 1) (n25 : hi' 37 25 = hi 37 25 + 1) (hv : pV hr' hi' (hi 37 25)) (ht : pT hr' hi' (hi 37 25)) (hb : pBd hi' (hi 37 25)) (h56 : 0 ≤ hi' 56 (hi 37 25) ∧ hi' 56 (hi 37 25) ≤ 100) : RR (k + 1) (a_al (a_al z 3 17) 20 8) hr' hi' hl' := by
  obtain ⟨⟨hz, hR, hk, hs⟩, hD, hP, hB, hM, hS, hT, hX⟩ := id h
  have h80 := hz.1
  have hP₁ := hP.1
  have hB₁ := hB.1
  have cN : pC hr' (hi 37 25) = z.1 := by unfold pC; rw [r1]; rfl
  have mN : mC hr' (hi 37 25) = z.1 + 1 := by unfold mC; rw [cN, r7]; rfl
  have x₂ : ext z (a_al (a_al z 3 17) 20 8) := ext.al.trans ext.al
  have o : ∀ q, 0 ≤ q → q < hi 37 25 → pC hr' q = pC hr q ∧ mC hr' q = mC hr q := fun q q₀ q₁ => by
    have s := hP.st q₀ q₁
    have e₁ : pC hr' q = pC hr q := by unfold pC; rw [er 1 q (by omega) (by omega)]
    have s8 := s.2.2.2.2.1
    exact ⟨e₁, by unfold mC; rw [e₁, er _ 7 s.2.1.1 (by omega)]⟩
  have a₁ : a_is (a_al (a_al z 3 17) 20 8) z.1 3 17 := a_al_new.al
  have a₂ : a_is (a_al (a_al z 3 17) 20 8) (z.1 + 1) 20 8 := a_al_new
  refine ⟨⟨(hz.al).al, hR.ext2 hz fun b j w₁ w₂ w₃ => er b j w₁ (by omega), by show z.1 + 1 + 1 ≤ _; omega, by show z.2.1 + 17 + 8 ≤ _; omega⟩, hD.cg fun b j q => ag b j (by unfold rdD at q; omega) (by unfold rdD at q; unfold chN; omega), ?_, ?_, hM.cg fun b j q => ag b j (by unfold rdM at q; omega) (by unfold rdM at q; unfold chN; omega), hS.cg fun b j q => ag b j (by unfold rdS at q; omega) (by unfold rdS at q; unfold chN; omega), hT.cg fun b j q => ag b j (by unfold rdT at q; omega) (by unfold rdT at q; unfold chN; omega), hX.ext2 hz (fun b j w₁ w₂ w₃ => er b j w₁ (by omega)) (fun b j w₁ q => ag b j w₁ (by unfold rdX at q; unfold chN; omega)) el⟩
  · obtain ⟨h₁, h₂, h₃, h₄, h₅⟩ := hP
    have lt : ∀ (b : Nat) (q : Int), b = 53 ∨ b = 54 ∨ b = 55 ∨ b = 56 ∨ b = 63 → ¬ q = hi 37 25 → hi' b q = hi b q := fun b q w₁ w₂ => ag b q (by omega) (by unfold chN; omega)
    have lu : ∀ (b : Nat) (q : Int), b = 59 ∨ b = 60 ∨ b = 61 ∨ b = 62 → hi' b q = hi b q := fun b q w₁ => ag b q (by omega) (by unfold chN; omega)
    have e57 : ∀ q j : Int, ¬ q = hi 37 25 → 0 ≤ j → j < 8 → hi' 57 (8 * q + j) = hi 57 (8 * q + j) := fun q j hq j₀ j₁ => ag 57 _ (by omega) (by unfold chN; omega)
    have e58 : ∀ q j : Int, ¬ q = hi 37 25 → 0 ≤ j → j < 4 → hi' 58 (4 * q + j) = hi 58 (4 * q + j) := fun q j hq j₀ j₁ => ag 58 _ (by omega) (by unfold chN; omega)
    have eb : ∀ x : Nat, 81 ≤ x → x < z.1 → hi' x = hi x := fun x w₁ w₂ => funext fun j => ag x j w₂ (by unfold chN; omega)
    unfold gP
    rw [n9, n25]
    refine ⟨⟨rfl, by omega, by omega⟩, fun q q₀ q₁ => ?_, fun p q p₀ p₁ q₀ q₁ e => ?_, fun q => ?_, fun q q₀ q₁ => ?_⟩
    · by_cases w : q = hi 37 25
      · subst w
        refine ⟨?_, hv, ht, hb⟩
        unfold pS
        rw [cN, mN]
        exact ⟨r1, a₁, r7, a₂, h80, by omega⟩
      · obtain ⟨s, v, t, b⟩ := h₂ q q₀ (by omega)
        have s8 := s.2.2.2.2
        obtain ⟨f₁, f₂⟩ := o q q₀ (by omega)
        have ep := eb (pC hr q) s8.1 s.2.1.1
        have em := eb (mC hr q) s8.2 s.2.2.2.1.1
        refine ⟨?_, ?_, ?_, ?_⟩
        · unfold pS
          rw [f₁, f₂, er 1 q (by omega) (by omega), er _ 7 s.2.1.1 (by omega)]
          exact ⟨s.1, x₂.is s.2.1, s.2.2.1, x₂.is s.2.2.2.1, s8⟩
        · unfold pV
          rw [f₁, f₂, ep, em, lt 53 q (by omega) w, lt 56 q (by omega) w, lu 59 q (by omega), lu 60 q (by omega), lu 61 q (by omega), lu 62 q (by omega)]
          obtain ⟨v₁, v₂, v₃, v₄, v₅, v₆, v₇, v₈, v₉⟩ := v
          exact ⟨v₁, v₂, v₃, fun j j₀ j₁ => by rw [e58 q j w j₀ j₁]; exact v₄ j j₀ j₁, v₅, v₆, v₇, v₈, fun j j₀ j₁ => by rw [e57 q j w j₀ j₁]; exact v₉ j j₀ j₁⟩
        · unfold pT
          rw [f₁, lt 53 q (by omega) w, lt 54 q (by omega) w, lt 55 q (by omega) w, lt 63 q (by omega) w, ep, er _ 2 s.2.1.1 (by omega), er _ 3 s.2.1.1 (by omega)]
          rcases t with t | ⟨t₁, t₂, t₃, t₄, t₅⟩
          · exact Or.inl t
          · refine Or.inr ?_
            have sm := (h₂ (hi 54 q) t₂.1 (by omega)).1
            rw [(o (hi 54 q) t₂.1 (by omega)).1, eb _ sm.2.2.2.2.1 sm.2.1.1]
            refine ⟨t₁, t₂, t₃, ?_, t₅⟩
            rcases t₄ with u | u
            · exact Or.inl u
            · rw [(o (hi 55 q) u.1.1 (by have := u.1.2; omega)).1]
              exact Or.inr u
        · unfold pBd
          rw [lt 53 q (by omega) w, lt 63 q (by omega) w, lu 59 q (by omega), lu 60 q (by omega), lu 61 q (by omega), lu 62 q (by omega), ag 37 45 (by omega) (by unfold chN; omega)]
          exact b
    · by_cases ep : p = hi 37 25
      · by_cases eq_ : q = hi 37 25
        · rw [ep, eq_]
        · rw [ep, mN, (o q q₀ (by omega)).2] at e
          have := (h₂ q q₀ (by omega)).1.2.2.2.1.1
          omega
      · by_cases eq_ : q = hi 37 25
        · rw [eq_, mN, (o p p₀ (by omega)).2] at e
          have := (h₂ p p₀ (by omega)).1.2.2.2.1.1
          omega
        · rw [(o p p₀ (by omega)).2, (o q q₀ (by omega)).2] at e
          exact h₃ p q p₀ (by omega) q₀ (by omega) e
    · rw [lu 61 q (by omega)]
      have := h₄ q
      by_cases w : q = hi 37 25
      · rw [w]
        have := h₄ (hi 37 25)
        exact ⟨h56, this.2.1, by omega⟩
      · rw [lt 56 q (by omega) w]
        exact ⟨this.1, this.2.1, by omega⟩
    · have w : ¬ q = hi 37 25 := by omega
      have d' := h₅ q (by omega) q₁
      unfold pD0 at d' ⊢
      rw [lu 59 q (by omega), lu 60 q (by omega), lu 61 q (by omega), lu 62 q (by omega)]
      exact ⟨fun j j₀ j₁ => by rw [e57 q j w j₀ j₁]; exact d'.1 j j₀ j₁, d'.2⟩
  · obtain ⟨g₁, g₂, g₃, g₄⟩ := hB
    have ec : ∀ x, bC hr' x = bC hr x := fun x => by unfold bC; rw [er 2 x (by omega) (by omega)]
    have e45 : hi' 37 45 = hi 37 45 := ag 37 45 (by omega) (by unfold chN; omega)
    refine ⟨?_, fun x x₀ x₁ => ?_, fun a b a₀ a₁ b₀ b₁ e => ?_, fun x x₀ x₁ => ?_⟩
    · rw [ag 0 10 (by omega) (by unfold chN; omega), e45]; exact g₁
    · rw [e45] at x₁
      have q := g₂ x x₀ x₁
      have q1 := q.2.1.1
      have q8 := q.2.2.1
      rw [ec, er 2 x (by omega) (by omega), ag _ 0 q1 (by unfold chN; omega), ag _ 1 q1 (by unfold chN; omega), ag _ 2 q1 (by unfold chN; omega), ag 70 x (by omega) (by unfold chN; omega), ag 71 x (by omega) (by unfold chN; omega), ag 72 x (by omega) (by unfold chN; omega)]
      exact ⟨q.1, x₂.is q.2.1, q.2.2⟩
    · rw [e45] at a₁ b₁
      rw [ec, ec] at e
      exact g₃ a b a₀ a₁ b₀ b₁ e
    · rw [e45] at x₁
      rw [n25, ag 72 x (by omega) (by unfold chN; omega), show hi' 59 = hi 59 from funext fun j => ag 59 j (by omega) (by unfold chN; omega), show (hi 37 25 + 1).toNat = (hi 37 25).toNat + 1 by omega]
      show sm (hi 37 25).toNat (fun q => if hi 59 q = x then 1 else 0) + (if hi 59 ((hi 37 25).toNat : Nat) = x then 1 else 0) ≤ _
      have n59 := (hP.2.2.2.2 (hi 37 25) (Int.le_refl _) hn).2.1
      rw [show (((hi 37 25).toNat : Nat) : Int) = hi 37 25 by omega, n59, if_neg (by omega)]
      have := g₄ x x₀ x₁
      omega
/-- the cells that grows writes, read *) -/
theorem mGr_r {H : aI} {c f e m : Int} (b : Nat) (j : Int) : mGr H c f e m b j = if b = 37 ∧ j = 25 then H 37 25 + 1 else if b = 58 ∧ (4 * H 37 25 ≤ j ∧ j < 4 * H 37 25 + 4) then mN4 (j - 4 * H 37 25) else if 2 ≤ c ∧ b = 57 ∧ (8 * H 37 25 ≤ j ∧ j < 8 * H 37 25 + 8) then H 57 (8 * f + (j - 8 * H 37 25)) else if b = 56 ∧ j = H 37 25 then m else if b = 55 ∧ j = H 37 25 then e else if b = 54 ∧ j = H 37 25 then f else if b = 53 ∧ j = H 37 25 then c else H b j := by
  show (if b = 37 ∧ j = 25 then H 37 25 + 1 else if b = 58 ∧ (4 * H 37 25 ≤ j ∧ j < 4 * H 37 25 + 4) then mN4 (j - 4 * H 37 25) else (mG2 (mG1 H c f e m) c f (H 37 25)) b j) = _
  have e₁ : ∀ b j, mG1 H c f e m b j = if b = 56 ∧ j = H 37 25 then m else if b = 55 ∧ j = H 37 25 then e else if b = 54 ∧ j = H 37 25 then f else if b = 53 ∧ j = H 37 25 then c else H b j := fun b j => rfl
  unfold mG2
  by_cases w : 2 ≤ c
  · rw [if_pos w, fil_eq, e₁ b j, e₁ 57, if_neg (show ¬ (57 = 56 ∧ _) by omega), if_neg (show ¬ (57 = 55 ∧ _) by omega), if_neg (show ¬ (57 = 54 ∧ _) by omega), if_neg (show ¬ (57 = 53 ∧ _) by omega)]
    by_cases u : b = 57 ∧ (8 * H 37 25 ≤ j ∧ j < 8 * H 37 25 + 8)
    · rw [if_pos u, if_pos (show 2 ≤ c ∧ b = 57 ∧ (8 * H 37 25 ≤ j ∧ j < 8 * H 37 25 + 8) from ⟨w, u⟩)]
    · rw [if_neg u, if_neg (show ¬ (2 ≤ c ∧ b = 57 ∧ (8 * H 37 25 ≤ j ∧ j < 8 * H 37 25 + 8)) from fun q => u q.2)]
  · rw [if_neg w, e₁ b j, if_neg (show ¬ (2 ≤ c ∧ b = 57 ∧ (8 * H 37 25 ≤ j ∧ j < 8 * H 37 25 + 8)) from fun q => w q.1)]
theorem mN4_v {j : Int} (h : 0 ≤ j ∧ j < 4) : mN4 j = (if j = 1 ∨ j = 3 then 9 else 0) := by
  have e : j = 0 ∨ j = 1 ∨ j = 2 ∨ j = 3 := by omega
  rcases e with rfl | rfl | rfl | rfl <;> rfl
end STPA
