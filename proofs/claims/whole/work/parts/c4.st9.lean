/-! steps: bed *) -/
section STP9
variable {G : aG} {d k : Nat} {z z' : aZ} {hr hr' : aR} {hi hi' hl hl' : aI}
theorem gP_ext2 (h : gP k z hr hi) (hz : stZ z) (x : ext z z') (er : ∀ b j, b < z.1 → b ≠ 2 → hr' b j = hr b j) (ei : ∀ b j, b < z.1 → rdP b j → ¬ (b = 37 ∧ j = 45) → hi' b j = hi b j) (h45 : hi 37 45 ≤ hi' 37 45) : gP k z' hr' hi' := by
  have h80 := hz.1
  have hr1 : ∀ j, hr' 1 j = hr 1 j := fun j => er 1 j (by omega) (by decide)
  have ec : ∀ q, pC hr' q = pC hr q := fun q => by unfold pC; rw [hr1]
  obtain ⟨h₁, h₂, h₃, h₄, h₅⟩ := h
  have e1 : hi' 37 25 = hi 37 25 := ei 37 25 (by omega) (by unfold rdP; omega) (by omega)
  have e0 : hi' 0 9 = hi 0 9 := ei 0 9 (by omega) (by unfold rdP; omega) (by omega)
  have eb : ∀ b : Nat, b < z.1 → (53 ≤ b ∧ b ≤ 63) ∨ 81 ≤ b → hi' b = hi b := fun b hb hc => funext fun j => ei b j hb (by unfold rdP; omega) (by omega)
  have sP : ∀ q, pS z hr q → pS z' hr' q ∧ pC hr' q = pC hr q ∧ mC hr' q = mC hr q := fun q s => by
    obtain ⟨s₁, s₂, s₃, s₄, s₅, s₆⟩ := s
    have e₂ : mC hr' q = mC hr q := by unfold mC; rw [ec, er _ 7 s₂.1 (by omega)]
    unfold pS
    rw [ec, e₂, hr1, er _ 7 s₂.1 (by omega)]
    exact ⟨⟨s₁, x.is s₂, s₃, x.is s₄, s₅, s₆⟩, rfl, rfl⟩
  have e53 := eb 53 (by omega) (by omega)
  have e54 := eb 54 (by omega) (by omega)
  have e55 := eb 55 (by omega) (by omega)
  have e56 := eb 56 (by omega) (by omega)
  have e57 := eb 57 (by omega) (by omega)
  have e58 := eb 58 (by omega) (by omega)
  have e59 := eb 59 (by omega) (by omega)
  have e60 := eb 60 (by omega) (by omega)
  have e61 := eb 61 (by omega) (by omega)
  have e62 := eb 62 (by omega) (by omega)
  have e63 := eb 63 (by omega) (by omega)
  unfold gP
  rw [e0, e1, e56, e61]
  refine ⟨h₁, fun q q₀ q₁ => ?_, fun p q p₀ p₁ q₀ q₁ e => ?_, h₄, fun q q₀ q₁ => ?_⟩
  · obtain ⟨s, v, t, b⟩ := h₂ q q₀ q₁
    obtain ⟨s', f₁, f₂⟩ := sP q s
    have s8 := s.2.2.2.2
    have ep := eb (pC hr q) s.2.1.1 (by omega)
    have em := eb (mC hr q) s.2.2.2.1.1 (by omega)
    refine ⟨s', ?_, ?_, ?_⟩
    · unfold pV
      rw [f₁, f₂, ep, em, e53, e56, e57, e58, e59, e60, e61, e62]
      exact v
    · unfold pT
      rw [f₁, ec (hi' 54 q), ec (hi' 55 q), er _ 2 s.2.1.1 (by omega), er _ 3 s.2.1.1 (by omega), ep, e53, e54, e55, e63]
      rcases t with t | t
      · exact Or.inl t
      · refine Or.inr ?_
        obtain ⟨t₁, t₂, t₃, t₄⟩ := t
        rw [eb (pC hr (hi 54 q)) (h₂ (hi 54 q) t₂.1 (by omega)).1.2.1.1 (Or.inr (h₂ (hi 54 q) t₂.1 (by omega)).1.2.2.2.2.1)]
        exact ⟨t₁, t₂, t₃, t₄⟩
    · unfold pBd
      rw [e53, e59, e60, e61, e62, e63]
      exact ⟨b.1.imp id fun w => ⟨w.1, by omega⟩, b.2⟩
  · rw [(sP p (h₂ p p₀ p₁).1).2.2, (sP q (h₂ q q₀ q₁).1).2.2] at e
    exact h₃ p q p₀ p₁ q₀ q₁ e
  · unfold pD0
    rw [e57, e59, e60, e61, e62]
    exact h₅ q q₀ q₁
theorem rT_12 : ∀ q ∈ rT, q.1 ≠ 1 ∧ q.1 ≠ 2 := by decide
theorem stR.ext2 (h : stR hr) (hz : stZ z) (er : ∀ b j, b < z.1 → b ≠ 1 → b ≠ 2 → hr' b j = hr b j) : stR hr' := fun q hq => by
  have h1 := rT_80 q hq
  have h2 := hz.1
  have h3 := rT_12 q hq
  rw [er _ _ (by omega) h3.1 h3.2]
  exact h q hq
theorem gTx.ext2 (h : gTx hr hi hl) (hz : stZ z) (er : ∀ b j, b < z.1 → b ≠ 1 → b ≠ 2 → hr' b j = hr b j) (ei : ∀ b j, b < z.1 → rdX b j → hi' b j = hi b j) (el : ∀ b j, b < z.1 → hl' b j = hl b j) : gTx hr' hi' hl' := by
  have h80 := hz.1
  have g := gTx.cg (hi' := hi') (hl' := hl') h (fun b j q => ei b j (by unfold rdX at q; omega) q) (funext fun j => el 41 j (by omega)) (funext fun j => el 42 j (by omega))
  obtain ⟨⟨c, o, X, h₁, h₂, h₃, h₄⟩, g₂⟩ := g
  exact ⟨⟨c, o, X, h₁, (er 0 8 (by omega) (by decide) (by decide)).trans h₂, (er 17 1 (by omega) (by decide) (by decide)).trans h₃, h₄⟩, g₂⟩
set_option maxHeartbeats 1000000 in
theorem st_bed (h : RR k z hr hi hl) (hk9 : k < 100000) {l w m : Int} : stp G d k mX9_bed mX10_bed [vR 0, vI l, vI w, vI m] [vR 37, vI l, vI w, vI m] z hr hi hl := by
  obtain ⟨⟨hz, hR, hk, hs⟩, hD, hP, hB, hM, hS, hT, hX⟩ := id h
  have h80 := hz.1
  have hB₁ := hB.1
  refine (c_bed (d := d + 28) hz hR (by omega) hB.n).mono (fun r z' hr' hi' hl' q => ?_)
  rcases q with ⟨c, rfl, rfl, rfl, rfl, e₀⟩ | ⟨c, e₁, e₂, e₃, rfl, e₅⟩
  · have hz' : stZ (a_al z 0 3) := hz.al
    have aU : ∀ b j, b < z.1 → ¬ (b = 0 ∧ j = 10) → hi' b j = hi b j := fun b j w₁ w₂ => by rw [e₀, up2_if w₂, up2_if (by omega), up2_if (by omega), up2_if (by omega), cl0_n (by omega)]
    have er : ∀ b j, b < z.1 → ¬ (b = 2 ∧ j = hi 0 10) → up2 (cl0 hr z.1 none) 2 (hi 0 10) (some z.1) b j = hr b j := fun b j w₁ w₂ => by
      rw [up2_eq, if_neg w₂, cl0_n (by omega)]
    have el : ∀ b j, b < z.1 → cl0 hl z.1 0 b j = hl b j := fun b j w₁ => cl0_n (by omega)
    have hR' : stR (up2 (cl0 hr z.1 none) 2 (hi 0 10) (some z.1)) := hR.ext2 hz fun b j w₁ w₂ w₃ => er b j w₁ (by omega)
    have k45 : hi' 37 45 = hi 0 10 := (aU 37 45 (by omega) (by omega)).trans hB₁.1.symm
    refine ⟨_, rfl, hz', (m_bed (d := d + 29) hz' hR' (by rw [k45]; omega)).mono (fun r2 z2 hr2 hi2 hl2 q => ?_)⟩
    obtain ⟨e₁, e₂, e₃, q⟩ := q
    subst e₁ e₂ e₃
    rw [k45] at q
    rcases q with ⟨c₂, rfl, e₄⟩ | ⟨c₂, rfl, rfl⟩
    · have ag : ∀ b j, b < z.1 → ¬ ((b = 0 ∧ j = 10) ∨ (b = 37 ∧ (j = 0 ∨ j = 45)) ∨ ((b = 70 ∨ b = 71 ∨ b = 72) ∧ j = hi 0 10)) → hi2 b j = hi b j := fun b j w₁ w₂ => by
        rw [e₄, up2_if (by omega), up2_if (by omega), up2_if (by omega), up2_if (by omega), up2_if (by omega), aU b j w₁ (by omega)]
      have n45 : hi2 37 45 = hi 0 10 + 1 := by rw [e₄, up2_s]
      have n10 : hi2 0 10 = hi 0 10 + 1 := by rw [e₄, up2_if (by omega), up2_if (by omega), up2_if (by omega), up2_if (by omega), up2_if (by omega), e₀, up2_s]
      have n70 : hi2 70 (hi 0 10) = l := by rw [e₄, up2_if (by omega), up2_if (by omega), up2_if (by omega), up2_s]
      have n71 : hi2 71 (hi 0 10) = w := by rw [e₄, up2_if (by omega), up2_if (by omega), up2_s]
      have n72 : hi2 72 (hi 0 10) = m := by rw [e₄, up2_if (by omega), up2_s]
      have nz : ∀ j, hi2 z.1 j = (up2 (up2 (up2 (cl0 hi z.1 0) z.1 0 l) z.1 1 w) z.1 2 m) z.1 j := fun j => by rw [e₄, up2_if (by omega), up2_if (by omega), up2_if (by omega), up2_if (by omega), up2_if (by omega), e₀, up2_if (by omega)]
      have z0 : hi2 z.1 0 = l := by rw [nz, up2_if (by omega), up2_if (by omega), up2_s]
      have z1 : hi2 z.1 1 = w := by rw [nz, up2_if (by omega), up2_s]
      have z2' : hi2 z.1 2 = m := by rw [nz, up2_s]
      refine ⟨by rw [show hi 0 10 + 1 - 1 = hi 0 10 by omega], ⟨hz', hR', by show z.1 + 1 ≤ _; omega, by show z.2.1 + 3 ≤ _; omega⟩, hD.cg fun b j q => ag b j (by unfold rdD at q; omega) (by unfold rdD at q; omega), ?_, ?_, hM.cg fun b j q => ag b j (by unfold rdM at q; omega) (by unfold rdM at q; omega), hS.cg fun b j q => ag b j (by unfold rdS at q; omega) (by unfold rdS at q; omega), hT.cg fun b j q => ag b j (by unfold rdT at q; omega) (by unfold rdT at q; omega), hX.ext2 hz (fun b j w₁ w₂ w₃ => er b j w₁ (by omega)) (fun b j w₁ q => ag b j w₁ (by unfold rdX at q; omega)) el⟩
      · exact gP_ext2 hP.k1 hz ext.al (fun b j w₁ w₂ => er b j w₁ (by omega)) (fun b j w₁ q w₂ => ag b j w₁ (by unfold rdP at q; omega)) (by omega)
      · obtain ⟨g₁, g₂, g₃, g₄⟩ := hB
        have cO : ∀ x, ¬ x = hi 0 10 → bC (up2 (cl0 hr z.1 none) 2 (hi 0 10) (some z.1)) x = bC hr x := fun x e => by unfold bC; rw [er 2 x (by omega) (by omega)]
        have cN : bC (up2 (cl0 hr z.1 none) 2 (hi 0 10) (some z.1)) (hi 0 10) = z.1 := by unfold bC; rw [up2_s]; rfl
        have bl : ∀ x, 0 ≤ x → x < hi 37 45 → bC hr x < z.1 := fun x x₀ x₁ => (g₂ x x₀ x₁).2.1.1
        refine ⟨⟨n10.trans n45.symm, by omega, by omega⟩, fun x x₀ x₁ => ?_, fun a b a₀ a₁ b₀ b₁ e => ?_, fun x x₀ x₁ => ?_⟩
        · by_cases e : x = hi 0 10
          · rw [e, cN, up2_s, z0, z1, z2', n70, n71, n72]
            exact ⟨rfl, a_al_new, h80, rfl, rfl, rfl, c.2.2.1⟩
          · have q := g₂ x x₀ (by omega)
            have q1 := q.2.1.1
            have q8 := q.2.2.1
            rw [cO x e, er 2 x (by omega) (by omega), ag _ 0 q1 (by omega), ag _ 1 q1 (by omega), ag _ 2 q1 (by omega), ag 70 x (by omega) (by omega), ag 71 x (by omega) (by omega), ag 72 x (by omega) (by omega)]
            exact ⟨q.1, q.2.1.al, q.2.2⟩
        · rw [n45] at a₁ b₁
          by_cases ea : a = hi 0 10
          · by_cases eb : b = hi 0 10
            · rw [ea, eb]
            · rw [ea, cN, cO b eb] at e
              have := bl b b₀ (by omega)
              omega
          · by_cases eb : b = hi 0 10
            · rw [eb, cN, cO a ea] at e
              have := bl a a₀ (by omega)
              omega
            · rw [cO a ea, cO b eb] at e
              exact g₃ a b a₀ (by omega) b₀ (by omega) e
        · rw [n45] at x₁
          rw [ag 37 25 (by omega) (by omega), show hi2 59 = hi 59 from funext fun j => ag 59 j (by omega) (by omega)]
          by_cases e : x = hi 0 10
          · rw [e, n72]
            have s0 : sm (hi 37 25).toNat (fun q => if hi 59 q = hi 0 10 then 1 else 0) = sm (hi 37 25).toNat (fun _ => 0) := sm_eq _ fun q q₀ q₁ => if_neg (by
              have := hP.1.2
              have := (hP.2.1 q q₀ (by omega)).2.2.2.1
              omega)
            rw [s0, sm_0]
            have := c.2.2.1.1
            omega
          · rw [ag 72 x (by omega) (by omega)]
            exact g₄ x x₀ (by omega)
    · exfalso; omega
  · obtain rfl := e₁.symm
    obtain rfl := e₂.symm
    obtain rfl := e₃.symm
    obtain rfl := e₅.symm
    refine ⟨_, rfl, hz, (m_bed (d := d + 29) hz hR hB.1.2).mono (fun r2 z2 hr2 hi2 hl2 q => ?_)⟩
    obtain ⟨e₁, e₂, e₃, q⟩ := q
    obtain rfl := e₁.symm
    obtain rfl := e₂.symm
    obtain rfl := e₃.symm
    rcases q with ⟨c₂, rfl, rfl⟩ | ⟨c₂, rfl, rfl⟩
    · exfalso; omega
    · exact ⟨rfl, h.t0⟩
end STP9
