/-! cells that are new don't disturb; origins; what both sides answer of PLANTS *) -/
section REXT
variable {z z' : aZ} {hr hr' : aR} {hi hi' hl hl' : aI} {k : Nat}
def ext (z z' : aZ) : Prop := z.1 ≤ z'.1 ∧ ∀ a, a < z.1 → z'.2.2 a = z.2.2 a
theorem ext.is {a t : Nat} {len : Int} (x : ext z z') (h : a_is z a t len) : a_is z' a t len := ⟨Nat.lt_of_lt_of_le h.1 x.1, (x.2 a h.1).trans h.2⟩
theorem ext.al {t : Nat} {len : Int} : ext z (a_al z t len) := ⟨Nat.le_succ _, fun a ha => by
  show (if a = z.1 then _ else _) = _
  rw [if_neg (by omega)]⟩
theorem ext.trans {z'' : aZ} (x : ext z z') (y : ext z' z'') : ext z z'' := ⟨Nat.le_trans x.1 y.1, fun a ha => (y.2 a (Nat.lt_of_lt_of_le ha x.1)).trans (x.2 a ha)⟩
theorem ext.sP (hz : stZ z) (x : ext z z') (er : ∀ b j, b < z.1 → hr' b j = hr b j) {q : Int} (s : pS z hr q) : pS z' hr' q ∧ pC hr' q = pC hr q ∧ mC hr' q = mC hr q := by
  have h80 := hz.1
  obtain ⟨s₁, s₂, s₃, s₄, s₅, s₆⟩ := s
  have e₁ : pC hr' q = pC hr q := by unfold pC; rw [er 1 q (by omega)]
  have e₂ : mC hr' q = mC hr q := by unfold mC; rw [e₁, er _ 7 s₂.1]
  unfold pS
  rw [e₁, e₂, er 1 q (by omega), er _ 7 s₂.1]
  exact ⟨⟨s₁, x.is s₂, s₃, x.is s₄, s₅, s₆⟩, rfl, rfl⟩
theorem gP.ext (h : gP k z hr hi) (hz : stZ z) (x : ext z z') (er : ∀ b j, b < z.1 → hr' b j = hr b j) (ei : ∀ b j, b < z.1 → hi' b j = hi b j) : gP k z' hr' hi' := by
  have h80 := hz.1
  have hr1 : ∀ j, hr' 1 j = hr 1 j := fun j => er 1 j (by omega)
  have ec : ∀ q, pC hr' q = pC hr q := fun q => by unfold pC; rw [hr1]
  obtain ⟨h₁, h₂, h₃, h₄, h₅⟩ := h
  have e1 : hi' 37 25 = hi 37 25 := ei 37 25 (by omega)
  have e2 : hi' 37 45 = hi 37 45 := ei 37 45 (by omega)
  have e0 : hi' 0 9 = hi 0 9 := ei 0 9 (by omega)
  have eb : ∀ b : Nat, b < z.1 → hi' b = hi b := fun b hb => funext fun j => ei b j hb
  have e53 := eb 53 (by omega)
  have e54 := eb 54 (by omega)
  have e55 := eb 55 (by omega)
  have e56 := eb 56 (by omega)
  have e57 := eb 57 (by omega)
  have e58 := eb 58 (by omega)
  have e59 := eb 59 (by omega)
  have e60 := eb 60 (by omega)
  have e61 := eb 61 (by omega)
  have e62 := eb 62 (by omega)
  have e63 := eb 63 (by omega)
  unfold gP
  rw [e0, e1, e56, e61]
  refine ⟨h₁, fun q q₀ q₁ => ?_, fun p q p₀ p₁ q₀ q₁ e => ?_, h₄, fun q q₀ q₁ => ?_⟩
  · obtain ⟨s, v, t, b⟩ := h₂ q q₀ q₁
    obtain ⟨s', f₁, f₂⟩ := x.sP hz er s
    have ep := eb (pC hr q) s.2.1.1
    have em := eb (mC hr q) s.2.2.2.1.1
    refine ⟨s', ?_, ?_, ?_⟩
    · unfold pV
      rw [f₁, f₂, ep, em, e53, e56, e57, e58, e59, e60, e61, e62]
      exact v
    · unfold pT
      rw [f₁, ec (hi' 54 q), ec (hi' 55 q), er _ 2 s.2.1.1, er _ 3 s.2.1.1, ep, e53, e54, e55, e63]
      rcases t with t | t
      · exact Or.inl t
      · refine Or.inr ?_
        obtain ⟨t₁, t₂, t₃, t₄⟩ := t
        rw [eb (pC hr (hi 54 q)) (h₂ (hi 54 q) t₂.1 (by omega)).1.2.1.1]
        exact ⟨t₁, t₂, t₃, t₄⟩
    · unfold pBd
      rw [e53, e59, e60, e61, e62, e63, e2]
      exact b
  · rw [(x.sP hz er (h₂ p p₀ p₁).1).2.2, (x.sP hz er (h₂ q q₀ q₁).1).2.2] at e
    exact h₃ p q p₀ p₁ q₀ q₁ e
  · unfold pD0
    rw [e57, e59, e60, e61, e62]
    exact h₅ q q₀ q₁
theorem gB.ext (h : gB z hr hi) (hz : stZ z) (x : ext z z') (er : ∀ b j, b < z.1 → hr' b j = hr b j) (ei : ∀ b j, b < z.1 → hi' b j = hi b j) : gB z' hr' hi' := by
  have h80 := hz.1
  have hr2 : ∀ j, hr' 2 j = hr 2 j := fun j => er 2 j (by omega)
  have ec : ∀ q, bC hr' q = bC hr q := fun q => by unfold bC; rw [hr2]
  obtain ⟨h₁, h₂, h₃, h₄⟩ := h
  have eb : ∀ b : Nat, b < z.1 → hi' b = hi b := fun b hb => funext fun j => ei b j hb
  unfold gB
  rw [eb 0 (by omega), eb 37 (by omega), eb 59 (by omega), eb 70 (by omega), eb 71 (by omega), eb 72 (by omega)]
  refine ⟨h₁, fun b b₀ b₁ => ?_, fun a b a₀ a₁ b₀ b₁ e => ?_, h₄⟩
  · have w := h₂ b b₀ b₁
    rw [ec, hr2, eb (bC hr b) w.2.1.1]
    exact ⟨w.1, x.is w.2.1, w.2.2⟩
  · rw [ec, ec] at e
    exact h₃ a b a₀ a₁ b₀ b₁ e
theorem stR.ext (h : stR hr) (hz : stZ z) (er : ∀ b j, b < z.1 → hr' b j = hr b j) : stR hr' := fun q hq => by
  have h1 := rT_80 q hq
  have h2 := hz.1
  rw [er _ _ (by omega)]
  exact h q hq
theorem stZ.ext (hz : stZ z) (x : ext z z') : stZ z' := ⟨Nat.le_trans hz.1 x.1, fun a ha => (x.2 a (by have := hz.1; omega)).trans (hz.2 a ha)⟩
theorem gTx.ext (h : gTx hr hi hl) (hz : stZ z) (er : ∀ b j, b < z.1 → hr' b j = hr b j) (ei : ∀ b j, b < z.1 → hi' b j = hi b j) (el : ∀ b j, b < z.1 → hl' b j = hl b j) : gTx hr' hi' hl' := by
  have h80 := hz.1
  have g := gTx.cg (hi' := hi') (hl' := hl') h (fun b j q => ei b j (by unfold rdX at q; omega)) (funext fun j => el 41 j (by omega)) (funext fun j => el 42 j (by omega))
  obtain ⟨⟨c, o, X, h₁, h₂, h₃, h₄⟩, g₂⟩ := g
  exact ⟨⟨c, o, X, h₁, (er 0 8 (by omega)).trans h₂, (er 17 1 (by omega)).trans h₃, h₄⟩, g₂⟩
/-- cells that are new, of which nothing is said *) -/
theorem RR.ext (h : RR k z hr hi hl) (x : ext z z') (er : ∀ b j, b < z.1 → hr' b j = hr b j) (ei : ∀ b j, b < z.1 → hi' b j = hi b j) (el : ∀ b j, b < z.1 → hl' b j = hl b j) (h₁ : z'.1 ≤ z.1 + 2) (h₂ : z'.2.1 ≤ z.2.1 + 25) : RR (k + 1) z' hr' hi' hl' := by
  obtain ⟨⟨hz, hR, hk, hs⟩, hD, hP, hB, hM, hS, hT, hX⟩ := h
  have h80 := hz.1
  exact ⟨⟨hz.ext x, hR.ext hz er, by omega, by omega⟩, hD.cg fun b j q => ei b j (by unfold rdD at q; omega), hP.k1.ext hz x er ei, hB.ext hz x er ei, hM.cg fun b j q => ei b j (by unfold rdM at q; omega), hS.cg fun b j q => ei b j (by unfold rdS at q; omega), hT.cg fun b j q => ei b j (by unfold rdT at q; omega), hX.ext hz er ei el⟩
/-- where a PLANT comes from in the end *) -/
theorem gP.org (h : gP k z hr hi) (m : Nat) : ∀ q, 0 ≤ q → q < hi 37 25 → q < m → hi (pC hr q) 4 = mRoot (hi 53) (hi 54) m q ∧ hi (pC hr q) 5 = hi 63 (mRoot (hi 53) (hi 54) m q) ∧ hi (pC hr q) 6 = (if hi 53 (mStem (hi 53) (hi 54) m q) = 2 then 1 else 0) := by
  induction m with
  | zero => intro q q₀ q₁ q₂; omega
  | succ m ih =>
    intro q q₀ q₁ q₂
    have r₁ : mRoot (hi 53) (hi 54) (m + 1) q = if hi 53 q = 0 then q else mRoot (hi 53) (hi 54) m (hi 54 q) := rfl
    have r₂ : mStem (hi 53) (hi 54) (m + 1) q = if hi 53 q = 3 then mStem (hi 53) (hi 54) m (hi 54 q) else q := rfl
    obtain ⟨s, v, t, b⟩ := h.2.1 q q₀ q₁
    rcases t with ⟨t₁, t₂, t₃, t₄, t₅, t₆, t₇, t₈⟩ | ⟨t₁, t₂, t₃, t₄, t₅, t₆, t₇⟩
    · rw [if_pos t₁] at r₁
      rw [if_neg (by omega)] at r₂
      rw [r₁, r₂, if_neg (by omega)]
      exact ⟨t₆, t₇, t₈⟩
    · obtain ⟨i₁, i₂, i₃⟩ := ih (hi 54 q) t₂.1 (by omega) (by omega)
      rw [if_neg (by omega)] at r₁
      rw [r₁, t₅, t₆, t₇]
      refine ⟨i₁, i₂, ?_⟩
      rcases t₁ with t₁ | t₁ | t₁
      · rw [if_neg (by omega)] at r₂
        rw [r₂, if_pos t₁, if_neg (by omega)]
      · rw [if_neg (by omega)] at r₂
        rw [r₂, if_neg (by omega), if_pos t₁, if_pos t₁]
      · rw [if_pos t₁] at r₂
        rw [r₂, if_neg (by omega), if_neg (by omega)]
        exact i₃
theorem gP.tree (h : gP k z hr hi) : mTree hi := ⟨h.1.2.1, h.1.2.2, fun q q₀ q₁ q₂ => by
  rcases (h.2.1 q q₀ q₁).2.2.1 with t | t
  · exact absurd t.1 q₂
  · exact t.2.1⟩
theorem gP.ori (h : gP k z hr hi) : mOri hi := ⟨h.1.2.1, h.1.2.2, fun q q₀ q₁ q₂ => by
  have := h.1.2
  rcases (h.2.1 q q₀ q₁).2.2.1 with t | ⟨-, t₂, -, t₄, -⟩
  · exact absurd t.1 q₂
  · refine ⟨t₂.1, by omega, ?_⟩
    rcases t₄ with t | t
    · rw [t.1]; decide
    · omega⟩
/-- both sides answer the same of a PLANT *) -/
theorem gP.look (h : gP k z hr hi) {p w : Int} (p₀ : 0 ≤ p) (p₁ : p < hi 37 25) (w₀ : 0 ≤ w) (w₁ : w ≤ 17) : (if 10 ≤ w then hi (mC hr p) (w - 10) else if w ≤ 4 then cL1 hr hi (pC hr p) w else cL2 hi (pC hr p) w) = mLook hi p w := by
  obtain ⟨s, ⟨v₁, v₂, v₃, v₄, v₅, v₆, v₇, v₈, v₉⟩, t, b⟩ := h.2.1 p p₀ p₁
  obtain ⟨o₁, o₂, o₃⟩ := h.org 40 p p₀ p₁ (by have := h.1.2; omega)
  have hno : ∀ q, 0 ≤ q → q < hi 37 25 → hi (pC hr q) 0 = q := fun q q₀ q₁ => (h.2.1 q q₀ q₁).2.1.1
  unfold mLook
  by_cases c : 10 ≤ w
  · rw [if_pos c, if_neg (by omega), if_neg (by omega), if_neg (by omega), if_neg (by omega), if_neg (by omega), if_neg (by omega), if_neg (by omega), if_neg (by omega), if_neg (by omega), if_neg (by omega)]
    exact v₉ (w - 10) (by omega) (by omega)
  · rw [if_neg c]
    unfold cL1 cL2
    have e : w = 0 ∨ w = 1 ∨ w = 2 ∨ w = 3 ∨ w = 4 ∨ w = 5 ∨ w = 6 ∨ w = 7 ∨ w = 8 ∨ w = 9 := by omega
    rcases e with rfl | rfl | rfl | rfl | rfl | rfl | rfl | rfl | rfl | rfl
    · exact v₂
    · show cNo hi (hr (pC hr p) 2) = hi 54 p
      rcases t with ⟨t₁, t₂, t₃, t₄, t₅, t₆, t₇, t₈⟩ | ⟨t₁, t₂, t₃, t₄, t₅, t₆, t₇⟩
      · rw [t₄, t₂]; rfl
      · rw [t₃]; exact hno _ t₂.1 (by omega)
    · show cNo hi (hr (pC hr p) 3) = hi 55 p
      rcases t with ⟨t₁, t₂, t₃, t₄, t₅, t₆, t₇, t₈⟩ | ⟨t₁, t₂, t₃, t₄, t₅, t₆, t₇⟩
      · rw [t₅, t₃]; rfl
      · rcases t₄ with ⟨u₁, u₂⟩ | ⟨u₁, u₂, u₃⟩
        · rw [u₂, u₁]; rfl
        · rw [u₃]; exact hno _ u₁.1 (by omega)
    · exact v₃
    · exact o₂
    · exact o₁
    · show (if hi (pC hr p) 6 = 0 then 0 else 1) = (if hi 53 (mStem (hi 53) (hi 54) 40 p) = 2 then (1 : Int) else 0)
      rw [o₃]
      by_cases u : hi 53 (mStem (hi 53) (hi 54) 40 p) = 2
      · rw [if_pos u]; rfl
      · rw [if_neg u]; rfl
    · exact v₅
    · exact v₆
    · show (if hi (pC hr p) 15 = 0 then 0 else 1) = (if hi 62 p = 0 then (0 : Int) else 1)
      rw [v₇]
end REXT
