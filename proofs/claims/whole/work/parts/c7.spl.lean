/-! steps: split *) -/
section STPC
variable {G : aG} {d k : Nat} {z : aZ} {hr : aR} {hi hi' hl : aI}
theorem RR.ch0 {p : Int} (h : RR k z hr hi hl) (p₀ : 0 ≤ p) (p₁ : p < hi 37 25) (e : ∀ b j, ¬ NR b j → ¬ chP hr p b j → hi' b j = hi b j) (hv : pV hr hi' p) (hb : pBd hi' p) (h56 : (0 ≤ hi' 56 p ∧ hi' 56 p ≤ 100) ∧ 0 ≤ hi' 61 p ∧ hi' 61 p ≤ (k : Int)) (h59 : hi' 59 p = hi 59 p) : RR k z hr hi' hl := by
  obtain ⟨⟨hz, hR, hk, hs⟩, hD, hP, hB, hM, hS, hT, hX⟩ := id h
  have s := hP.st p₀ p₁
  have s8 := s.2.2.2.2
  refine ⟨⟨hz, hR, hk, hs⟩, hD.cg (fun b j q => e b j (fun w => w.1 q) ?_), ?_, ?_, hM.cg (fun b j q => e b j (fun w => w.2.2.2.1 q) ?_), hS.cg (fun b j q => e b j (fun w => w.2.2.2.2.1 q) ?_), hT.cg (fun b j q => e b j (fun w => w.2.2.2.2.2.1 q) ?_), hX.cg (fun b j q => e b j (fun w => w.2.2.2.2.2.2 q) ?_) rfl rfl⟩
  · unfold rdD at q; unfold chP; omega
  · exact hP.chg p₀ p₁ (fun b j q w => e b j (fun w' => w'.2.1 q) w) hv hb h56 (Nat.le_refl k)
  · refine hB.pl fun b j q w => ?_
    by_cases w₁ : b = pC hr p
    · exact absurd (Or.inl ⟨by omega, by rw [w₁]; exact s.2.1⟩) w
    · by_cases w₂ : b = mC hr p
      · exact absurd (Or.inr ⟨by omega, by rw [w₂]; exact s.2.2.2.1⟩) w
      · by_cases w₃ : b = 59 ∧ j = p
        · rw [w₃.1, w₃.2]; exact h59
        · exact e b j (fun w' => w'.2.2.1 q) (by unfold rdB at q; unfold chP; omega)
  · unfold rdM at q; unfold chP; omega
  · unfold rdS at q; unfold chP; omega
  · unfold rdT at q; unfold chP; omega
  · unfold rdX at q; unfold chP; omega
set_option maxHeartbeats 2000000 in
theorem st_split (h : RR k z hr hi hl) (hk9 : k < 100000) {a m : Int} : stp G d k mX9_split mX10_split [vR 0, vI a, vI m] [vR 37, vI a, vI m] z hr hi hl := by
  obtain ⟨⟨hz, hR, hk, hs⟩, hD, hP, hB, hM, hS, hT, hX⟩ := id h
  have h80 := hz.1
  have hP₁ := hP.1
  have h9 := hP.1.1
  have v8 : ∀ q, 0 ≤ q → q < hi 37 25 → hi (pC hr q) 8 = hi 56 q := fun q q₀ q₁ => (hP.2.1 q q₀ q₁).2.1.2.2.1
  have hpc : ∀ q, 0 ≤ hi 56 q ∧ hi 56 q ≤ 100 := fun q => (hP.2.2.2.1 q).1
  refine (c_split (d := d + 27) hz hR (by omega) hP.n hP.cP (fun q q₀ q₁ => (hP.st q₀ (by omega)).2.2.2.2.1) (fun q q₀ q₁ => by rw [v8 q q₀ (by omega)]; exact hpc q)).mono (fun r z' hr' hi' hl' q => ?_)
  rcases q with ⟨c₁, rfl, e₂, rfl, rfl, e₀⟩ | ⟨c₁, e₁, e₂, e₃, rfl, e₅⟩
  · rw [h9] at e₀ e₂
    have a₀ : 0 ≤ a := c₁.1.1
    have a₁ : a < hi 37 25 := by omega
    have va := v8 a a₀ a₁
    have hz' : stZ (a_al (a_al z 3 17) 20 8) := hz.al.al
    have e₂' : hr' = nR z hr (hi 37 25) (some (pC hr a)) none := e₂
    subst e₂'
    have er : ∀ b j, b < z.1 → b ≠ 1 → nR z hr (hi 37 25) (some (pC hr a)) none b j = hr b j := fun b j w₁ w₂ => by
      unfold nR nwR
      rw [up2_no (by omega), up2_no (by omega), up2_no (by omega), up2_no (by omega), cl0_n (by omega), cl0_n (by omega)]
    have hR' : stR (nR z hr (hi 37 25) (some (pC hr a)) none) := hR.ext2 hz fun b j w₁ w₂ w₃ => er b j w₁ w₂
    obtain ⟨s, v, t, bd⟩ := hP.2.1 a a₀ a₁
    have s1 := s.2.1.1
    have s2 := s.2.2.2.1.1
    have s8 := s.2.2.2.2
    have npm := hP.pm a₀ a₁ a₀ a₁
    have aV : hi' (pC hr a) 8 = hi 56 a - m := by
      rw [e₀, up2_if (by omega)]
      unfold cpy ofI
      rw [if_neg (by omega), up2_if (by omega), up2_if (by omega), up2_if (by omega), up2_if (by omega), up2_if (by omega), up2_if (by omega), up2_if (by omega), up2_if (by omega), up2_if (by omega), cl0_n (by omega), cl0_n (by omega), up2_s, va]
    have aU : ∀ b j, b < z.1 → ¬ (b = 0 ∧ j = 9) → ¬ (b = pC hr a ∧ j = 8) → hi' b j = hi b j := fun b j w₁ w₂ w₃ => by
      rw [e₀, up2_if w₂]
      unfold cpy ofI
      rw [if_neg (by omega), up2_if (by omega), up2_if (by omega), up2_if (by omega), up2_if (by omega), up2_if (by omega), up2_if (by omega), up2_if (by omega), up2_if (by omega), up2_if (by omega), cl0_n (by omega), cl0_n (by omega), up2_if w₃]
    have aZ' : ∀ j, hi' z.1 j = ofI (cl0 (cl0 (up2 hi (pC hr a) 8 (hi (pC hr a) 8 - m)) z.1 0) (z.1 + 1) 0) z.1 (hi 37 25) 3 (hi (pC hr a) 4) (hi (pC hr a) 5) (if hi (pC hr a) 6 = 0 then 0 else 1) m z.1 j := fun j => by
      rw [e₀, up2_if (by omega)]
      unfold cpy
      rw [if_neg (by omega)]
    have aM' : ∀ j, 0 ≤ j → j < 8 → hi' (z.1 + 1) j = hi (mC hr a) j := fun j j₀ j₁ => by
      rw [e₀, up2_if (by omega)]
      unfold cpy ofI
      rw [if_pos ⟨rfl, j₀, j₁⟩, up2_if (by omega), up2_if (by omega), up2_if (by omega), up2_if (by omega), up2_if (by omega), up2_if (by omega), up2_if (by omega), up2_if (by omega), up2_if (by omega), cl0_n (by omega), cl0_n (by omega), up2_if (by omega)]
    have k25 := aU 37 25 (by omega) (by omega) (by omega)
    have k56 : ∀ q, hi' 56 q = hi 56 q := fun q => aU 56 q (by omega) (by omega) (by omega)
    refine ⟨_, rfl, hz', (m_split (d := d + 29) hz' hR' (by rw [k25]; exact hP.1.2) (fun q => by rw [k56]; exact hpc q)).mono (fun r2 z2 hr2 hi2 hl2 q => ?_)⟩
    obtain ⟨e₁, e₂, e₃, q⟩ := q
    subst e₁ e₂ e₃
    rw [k25, k56] at q
    rcases q with ⟨c₂, rfl, e₄⟩ | ⟨c₂, rfl, rfl⟩
    · have nk : (up2 (up2 hi' 37 0 0) 56 a (hi 56 a - m)) 37 25 = hi 37 25 := by rw [up2_if (by omega), up2_if (by omega), k25]
      have hr_ : ∀ b j, hi2 b j = if b = 37 ∧ j = 25 then hi 37 25 + 1 else if b = 58 ∧ (4 * hi 37 25 ≤ j ∧ j < 4 * hi 37 25 + 4) then mN4 (j - 4 * hi 37 25) else if 2 ≤ (3 : Int) ∧ b = 57 ∧ (8 * hi 37 25 ≤ j ∧ j < 8 * hi 37 25 + 8) then (up2 (up2 hi' 37 0 0) 56 a (hi 56 a - m)) 57 (8 * a + (j - 8 * hi 37 25)) else if b = 56 ∧ j = hi 37 25 then m else if b = 55 ∧ j = hi 37 25 then (-1) else if b = 54 ∧ j = hi 37 25 then a else if b = 53 ∧ j = hi 37 25 then 3 else (up2 (up2 hi' 37 0 0) 56 a (hi 56 a - m)) b j := fun b j => by rw [e₄, mGr_r, nk]
      have hz_ : ∀ b j, z.1 ≤ b → hi2 b j = hi' b j := fun b j w => by rw [hr_, if_neg (by omega), if_neg (by omega), if_neg (by omega), if_neg (by omega), if_neg (by omega), if_neg (by omega), if_neg (by omega), up2_if (by omega), up2_if (by omega)]
      obtain ⟨hi1, hh⟩ : ∃ X, X = up2 (up2 hi (pC hr a) 8 (hi 56 a - m)) 56 a (hi 56 a - m) := ⟨_, rfl⟩
      have b1 : ∀ b j, ¬ ((b = pC hr a ∧ j = 8) ∨ (b = 56 ∧ j = a)) → hi1 b j = hi b j := fun b j w => by rw [hh, up2_if (by omega), up2_if (by omega)]
      have b8 : hi1 (pC hr a) 8 = hi 56 a - m := by rw [hh, up2_if (by omega), up2_s]
      have b56 : hi1 56 a = hi 56 a - m := by rw [hh, up2_s]
      have b25 : hi1 37 25 = hi 37 25 := b1 37 25 (by omega)
      have h1 : RR k z hr hi1 hl := by
        obtain ⟨v₁, v₂, v₃, v₄, v₅, v₆, v₇, v₈, v₉⟩ := v
        refine h.ch0 a₀ a₁ (fun b j w₁ w₂ => b1 b j (by unfold chP at w₂; omega)) ⟨?_, ?_, b8.trans b56.symm, fun j j₀ j₁ => ?_, ?_, ?_, ?_, ?_, fun j j₀ j₁ => ?_⟩ ?_ ?_ (b1 59 a (by omega))
        · rw [b1 _ 0 (by omega)]; exact v₁
        · rw [b1 _ 1 (by omega), b1 53 a (by omega)]; exact v₂
        · rw [b1 _ (9 + j) (by omega), b1 58 _ (by omega)]; exact v₄ j j₀ j₁
        · rw [b1 _ 13 (by omega), b1 59 a (by omega)]; exact v₅
        · rw [b1 _ 14 (by omega), b1 61 a (by omega)]; exact v₆
        · rw [b1 _ 15 (by omega), b1 62 a (by omega)]; exact v₇
        · rw [b1 _ 16 (by omega), b1 60 a (by omega)]; exact v₈
        · rw [b1 _ j (by omega), b1 57 _ (by omega)]; exact v₉ j j₀ j₁
        · unfold pBd
          rw [b1 59 a (by omega), b1 61 a (by omega), b1 62 a (by omega), b1 60 a (by omega), b1 53 a (by omega), b1 63 a (by omega), b1 37 45 (by omega)]
          exact bd
        · rw [b56, b1 61 a (by omega)]
          have := hP.2.2.2.1 a
          exact ⟨by omega, this.2⟩
      refine ⟨by rw [h9], ?_⟩
      have g := RR_grow (hi2 := hi2) (hX := up2 hi (pC hr a) 8 (hi (pC hr a) 8 - m)) (c := 3) (f := a) (e := -1) (m := m) (ro := hi (pC hr a) 4) (pl := hi (pC hr a) 5) (cu := if hi (pC hr a) 6 = 0 then 0 else 1) (o₂ := some (pC hr a)) (o₃ := none) h1 (by rw [b25]; omega)
      rw [b25] at g
      refine g ?_ ?_ ?_ (fun j => by rw [hz_ z.1 j (Nat.le_refl _)]; exact aZ' j) ?_ ?_ ?_ ?_ (fun j j₀ j₁ => ?_) (fun j j₀ j₁ => ?_) ?_ ?_
      · intro b j w₁ w₂
        unfold chN at w₂
        rw [hr_, if_neg (by omega), if_neg (by omega), if_neg (by omega), if_neg (by omega), if_neg (by omega), if_neg (by omega), if_neg (by omega)]
        by_cases u : b = 56 ∧ j = a
        · rw [u.1, u.2, up2_s, b56]
        · rw [up2_if u, up2_if (by omega)]
          by_cases u₂ : b = pC hr a ∧ j = 8
          · rw [u₂.1, u₂.2, aV, b8]
          · rw [aU b j w₁ (by omega) u₂, b1 b j (by omega)]
      · rw [hr_, if_neg (by omega), if_neg (by omega), if_neg (by omega), if_neg (by omega), if_neg (by omega), if_neg (by omega), if_neg (by omega), up2_if (by omega), up2_if (by omega), e₀, up2_s]
      · rw [hr_, if_pos ⟨rfl, rfl⟩]
      · rw [hr_, if_neg (by omega), if_neg (by omega), if_neg (by omega), if_neg (by omega), if_neg (by omega), if_neg (by omega), if_pos ⟨rfl, rfl⟩]
      · rw [hr_, if_neg (by omega), if_neg (by omega), if_neg (by omega), if_neg (by omega), if_neg (by omega), if_pos ⟨rfl, rfl⟩]
      · rw [hr_, if_neg (by omega), if_neg (by omega), if_neg (by omega), if_neg (by omega), if_pos ⟨rfl, rfl⟩]
      · rw [hr_, if_neg (by omega), if_neg (by omega), if_neg (by omega), if_pos ⟨rfl, rfl⟩]
      · rw [hr_, if_neg (by omega), if_pos ⟨rfl, by omega, by omega⟩, show 4 * hi 37 25 + j - 4 * hi 37 25 = j by omega, mN4_v ⟨j₀, j₁⟩]
      · rw [hz_ (z.1 + 1) j (by omega), aM' j j₀ j₁, hr_, if_neg (by omega), if_neg (by omega), if_pos ⟨by decide, rfl, by omega, by omega⟩, show 8 * hi 37 25 + j - 8 * hi 37 25 = j by omega, up2_if (by omega), up2_if (by omega), aU 57 _ (by omega) (by omega) (by omega)]
        exact v.2.2.2.2.2.2.2.2 j j₀ j₁
      · omega
      · rw [b1 _ 4 (by omega), b1 _ 5 (by omega), b1 _ 6 (by omega)]
        refine Or.inr ⟨Or.inr (Or.inr rfl), ⟨a₀, a₁⟩, rfl, Or.inl ⟨rfl, rfl⟩, rfl, rfl, ?_⟩
        have o₃ := (hP.org 40 a a₀ a₁ (by omega)).2.2
        show (if hi (pC hr a) 6 = 0 then 0 else 1) = hi (pC hr a) 6
        rw [o₃]
        by_cases u : hi 53 (mStem (hi 53) (hi 54) 40 a) = 2
        · rw [if_pos u]; rfl
        · rw [if_neg u]; rfl
    · exfalso; omega
  · obtain rfl := e₁.symm
    obtain rfl := e₂.symm
    obtain rfl := e₃.symm
    obtain rfl := e₅.symm
    refine ⟨_, rfl, hz, (m_split (d := d + 29) hz hR hP.1.2 hpc).mono (fun r2 z2 hr2 hi2 hl2 q => ?_)⟩
    obtain ⟨e₁, e₂, e₃, q⟩ := q
    obtain rfl := e₁.symm
    obtain rfl := e₂.symm
    obtain rfl := e₃.symm
    rcases q with ⟨c₂, rfl, rfl⟩ | ⟨c₂, rfl, rfl⟩
    · exfalso
      have := v8 a c₂.1.1 c₂.1.2
      have := hpc a
      omega
    · exact ⟨rfl, h.t0⟩
end STPC
