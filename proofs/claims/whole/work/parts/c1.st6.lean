/-! steps: feed, lay *) -/
section STP6
variable {G : aG} {d k : Nat} {z : aZ} {hr : aR} {hi hi' hl hl' : aI}
theorem lay_same {v : Int} (n : Nat) : ∀ {A B : aI}, n ≤ 8 → A 15 1 = B 37 2 → (∀ i, A 16 i = B 38 i) → (cLayN v n A) 15 1 = (mLayN v n B) 37 2 ∧ ∀ i, (cLayN v n A) 16 i = (mLayN v n B) 38 i := by
  induction n with
  | zero => exact fun _ h₁ h₂ => ⟨h₁, h₂⟩
  | succ n ih =>
    intro A B hn h₁ h₂
    show (cLayN v n (cLay1 A (cBy v (8 * n)))) 15 1 = (mLayN v n (mLay1 B (mBy v (8 * n)))) 37 2 ∧ ∀ i, (cLayN v n (cLay1 A (cBy v (8 * n)))) 16 i = (mLayN v n (mLay1 B (mBy v (8 * n)))) 38 i
    rw [by_same n (by omega)]
    unfold cLay1 mLay1
    by_cases c : (cBy v (8 * n) = 10 ∨ (32 ≤ cBy v (8 * n) ∧ cBy v (8 * n) ≤ 126)) ∧ A 15 1 < 600
    · rw [if_pos c, if_pos (by rw [← h₁]; exact c)]
      refine ih (by omega) ?_ fun i => ?_
      · rw [up2_s, up2_s, h₁]
      · rw [up2_n (show (16 : Nat) ≠ 15 by decide), up2_n (show (38 : Nat) ≠ 37 by decide), up2_eq, up2_eq, h₁, h₂]
        by_cases e : i = B 37 2
        · rw [if_pos ⟨rfl, e⟩, if_pos ⟨rfl, e⟩]
        · rw [if_neg (fun q => e q.2), if_neg (fun q => e q.2)]
    · rw [if_neg c, if_neg (by rw [← h₁]; exact c)]
      exact ih (by omega) h₁ h₂
theorem cLayN_f {v : Int} (n : Nat) : ∀ {A : aI} {b : Nat} {j : Int}, ¬ b = 16 → ¬ (b = 15 ∧ j = 1) → (cLayN v n A) b j = A b j := by
  induction n with
  | zero => exact fun _ _ => rfl
  | succ n ih =>
    intro A b j h₁ h₂
    show (cLayN v n (cLay1 A (cBy v (8 * n)))) b j = A b j
    rw [ih h₁ h₂]
    unfold cLay1
    split
    · rw [up2_if h₂, up2_if (fun q => h₁ q.1)]
    · rfl
theorem mLayN_f {v : Int} (n : Nat) : ∀ {A : aI} {b : Nat} {j : Int}, ¬ b = 38 → ¬ (b = 37 ∧ j = 2) → (mLayN v n A) b j = A b j := by
  induction n with
  | zero => exact fun _ _ => rfl
  | succ n ih =>
    intro A b j h₁ h₂
    show (mLayN v n (mLay1 A (mBy v (8 * n)))) b j = A b j
    rw [ih h₁ h₂]
    unfold mLay1
    split
    · rw [up2_if h₂, up2_if (fun q => h₁ q.1)]
    · rfl
theorem mLayN_v {v : Int} (n : Nat) : ∀ {A : aI}, (∀ i, 0 ≤ A 38 i ∧ A 38 i ≤ 255) → ∀ i, 0 ≤ (mLayN v n A) 38 i ∧ (mLayN v n A) 38 i ≤ 255 := by
  induction n with
  | zero => exact fun h => h
  | succ n ih =>
    intro A h
    show ∀ i, 0 ≤ (mLayN v n (mLay1 A (mBy v (8 * n)))) 38 i ∧ (mLayN v n (mLay1 A (mBy v (8 * n)))) 38 i ≤ 255
    refine ih fun i => ?_
    unfold mLay1
    split
    · rename_i c
      rw [up2_if (by omega), up2_eq]
      split
      · omega
      · exact h i
    · exact h i
theorem st_feed (hN : gN G) (h : RR k z hr hi hl) {a b c : Int} : stp G d k mX9_feed mX10_feed [vR 0, vJ a, vJ b, vJ c] [vR 37, vJ a, vJ b, vJ c] z hr hi hl := by
  obtain ⟨⟨hz, hR, hk, hs⟩, hD, hP, hB, hM, hS, hT, hX⟩ := id h
  have hT₁ := hT.1
  refine (c_feed (d := d + 28) hz hR hN (by omega)).mono (fun r z' hr' hi' hl' q => ?_)
  obtain ⟨e₁, e₂, e₃, e₄, rfl⟩ := q
  obtain rfl := e₁.symm
  obtain rfl := e₂.symm
  obtain rfl := e₃.symm
  have fC : ∀ x j, ¬ x = 16 → ¬ (x = 15 ∧ j = 1) → hi' x j = hi x j := fun x j w₁ w₂ => by rw [e₄, cLayN_f 8 w₁ w₂, cLayN_f 8 w₁ w₂, cLayN_f 8 w₁ w₂]
  have k2 := fC 37 2 (by omega) (by omega)
  refine ⟨_, rfl, hz, (m_feed (d := d + 29) hz hR (by rw [k2]; exact hT.1.2)).mono (fun r2 z2 hr2 hi2 hl2 q => ?_)⟩
  obtain ⟨e₁, e₂, e₃, e₅, rfl⟩ := q
  obtain rfl := e₁.symm
  obtain rfl := e₂.symm
  obtain rfl := e₃.symm
  have fR : ∀ x j, ¬ x = 38 → ¬ (x = 37 ∧ j = 2) → ¬ (x = 37 ∧ j = 0) → hi2 x j = hi' x j := fun x j w₁ w₂ w₃ => by rw [e₅, mLayN_f 8 w₁ w₂, mLayN_f 8 w₁ w₂, mLayN_f 8 w₁ w₂, up2_if w₃]
  have b₀ : ∀ x j, ¬ (x = 37 ∧ j = 0) → ¬ x = 16 → ¬ (x = 15 ∧ j = 1) → up2 hi' 37 0 0 x j = hi x j := fun x j w₁ w₂ w₃ => by rw [up2_if w₁, fC x j w₂ w₃]
  have s₁ := lay_same (v := a) 8 (A := hi) (B := up2 hi' 37 0 0) (by decide) (by rw [b₀ 37 2 (by omega) (by omega) (by omega)]; exact hT.1.1) (fun i => by rw [b₀ 38 i (by omega) (by omega) (by omega)]; exact hT.2.1 i)
  have s₂ := lay_same (v := b) 8 (by decide) s₁.1 s₁.2
  have s₃ := lay_same (v := c) 8 (by decide) s₂.1 s₂.2
  rw [← e₄, ← e₅] at s₃
  have ag : ∀ x j, ¬ (x = 16 ∨ x = 38 ∨ (x = 15 ∧ j = 1) ∨ (x = 37 ∧ (j = 0 ∨ j = 2))) → hi2 x j = hi x j := fun x j w => by rw [fR x j (by omega) (by omega) (by omega), fC x j (by omega) (by omega)]
  refine ⟨by rw [s₃.1], ⟨hz, hR, by omega, by omega⟩, hD.cg fun b j q => ag b j (by unfold rdD at q; omega), hP.k1.cg fun b j q => ag b j (by unfold rdP at q; omega), hB.cg fun b j q => ag b j (by unfold rdB at q; omega), hM.cg fun b j q => ag b j (by unfold rdM at q; omega), hS.cg fun b j q => ag b j (by unfold rdS at q; omega), ⟨⟨?_, ?_⟩, fun i => ?_, ?_⟩, hX.cg (fun b j q => ag b j (by unfold rdX at q; omega)) rfl rfl⟩
  · rw [fR 15 1 (by omega) (by omega) (by omega)]; exact s₃.1
  · rw [e₅]
    exact mLayN_b 8 (mLayN_b 8 (mLayN_b 8 (by rw [b₀ 37 2 (by omega) (by omega) (by omega)]; exact hT.1.2)))
  · rw [fR 16 i (by omega) (by omega) (by omega)]; exact s₃.2 i
  · rw [e₅]
    exact mLayN_v 8 (mLayN_v 8 (mLayN_v 8 (fun i => by rw [b₀ 38 i (by omega) (by omega) (by omega)]; exact hT.2.2 i)))
theorem there_ld {f : Int → Int} {p x : Int} (hx : 0 ≤ x) (m : Nat) : mThere f p x m = ld m f x - (if (0 ≤ p ∧ p < m) ∧ f p = x then 1 else 0) := by
  induction m with
  | zero => rw [if_neg (by omega)]; rfl
  | succ m ih =>
    show mThere f p x m + (if ¬ (m : Int) = p ∧ 0 ≤ x ∧ f m = x then 1 else 0) = (ld m f x + if f m = x then 1 else 0) - _
    rw [ih]
    by_cases e : (m : Int) = p
    · rw [if_neg (show ¬ (¬ (m : Int) = p ∧ 0 ≤ x ∧ f m = x) from fun q => q.1 e), if_neg (show ¬ ((0 ≤ p ∧ p < (m : Int)) ∧ f p = x) by omega)]
      by_cases w : f m = x
      · rw [if_pos w, if_pos (show ((0 ≤ p ∧ p < ((m + 1 : Nat) : Int)) ∧ f p = x) from ⟨by omega, by rw [← e]; exact w⟩)]; omega
      · rw [if_neg w, if_neg (show ¬ ((0 ≤ p ∧ p < ((m + 1 : Nat) : Int)) ∧ f p = x) from fun q => w (by rw [e]; exact q.2))]; omega
    · by_cases w : f m = x
      · rw [if_pos (show (¬ (m : Int) = p ∧ 0 ≤ x ∧ f m = x) from ⟨e, hx, w⟩), if_pos w]
        by_cases u : ((0 ≤ p ∧ p < (m : Int)) ∧ f p = x)
        · rw [if_pos u, if_pos (show ((0 ≤ p ∧ p < ((m + 1 : Nat) : Int)) ∧ f p = x) from ⟨by omega, u.2⟩)]; omega
        · rw [if_neg u, if_neg (show ¬ ((0 ≤ p ∧ p < ((m + 1 : Nat) : Int)) ∧ f p = x) from fun q => u ⟨by omega, q.2⟩)]; omega
      · rw [if_neg (show ¬ (¬ (m : Int) = p ∧ 0 ≤ x ∧ f m = x) from fun q => w q.2.2), if_neg w]
        by_cases u : ((0 ≤ p ∧ p < (m : Int)) ∧ f p = x)
        · rw [if_pos u, if_pos (show ((0 ≤ p ∧ p < ((m + 1 : Nat) : Int)) ∧ f p = x) from ⟨by omega, u.2⟩)]; omega
        · rw [if_neg u, if_neg (show ¬ ((0 ≤ p ∧ p < ((m + 1 : Nat) : Int)) ∧ f p = x) from fun q => u ⟨by omega, q.2⟩)]; omega
theorem gP.thr (h : gP k z hr hi) {p x : Int} (hx : 0 ≤ x) (m : Nat) (hm : (m : Int) ≤ hi 37 25) : sm m (fun i => if hi (pC hr i) 13 = x ∧ ¬ i = p then 1 else 0) = mThere (hi 59) p x m := by
  induction m with
  | zero => rfl
  | succ m ih =>
    show sm m (fun i => if hi (pC hr i) 13 = x ∧ ¬ i = p then 1 else 0) + (if hi (pC hr m) 13 = x ∧ ¬ (m : Int) = p then 1 else 0) = mThere (hi 59) p x m + (if ¬ (m : Int) = p ∧ 0 ≤ x ∧ hi 59 m = x then 1 else 0)
    rw [ih (by omega), (h.2.1 m (by omega) (by omega)).2.1.2.2.2.2.1]
    by_cases w : hi 59 m = x ∧ ¬ (m : Int) = p
    · rw [if_pos w, if_pos ⟨w.2, hx, w.1⟩]
    · rw [if_neg w, if_neg (fun q => w ⟨q.2.2, q.1⟩)]
set_option maxHeartbeats 1000000 in
theorem st_lay (hN : gN G) (h : RR k z hr hi hl) {p b : Int} : stp G d k mX9_lay mX10_lay_ [vR 0, vI p, vI b] [vR 37, vI p, vI b] z hr hi hl := by
  obtain ⟨⟨hz, hR, hk, hs⟩, hD, hP, hB, hM, hS, hT, hX⟩ := id h
  have hP₁ := hP.1
  have hB₁ := hB.1
  have key : ((0 ≤ p ∧ p < hi 0 9) ∧ (b = -1 ∨ ((0 ≤ b ∧ b < hi 0 10) ∧ ((hi (pC hr p) 9 ≤ hi (bC hr b) 0 ∧ hi (bC hr b) 0 ≤ hi (pC hr p) 10) ∧ hi (pC hr p) 11 ≤ hi (bC hr b) 1 ∧ hi (bC hr b) 1 ≤ hi (pC hr p) 12) ∧ sm (hi 0 9).toNat (fun i => if hi (pC hr i) 13 = b ∧ ¬ i = hi (pC hr p) 0 then 1 else 0) < hi (bC hr b) 2))) ↔ ((0 ≤ p ∧ p < hi 37 25) ∧ (b = -1 ∨ ((0 ≤ b ∧ b < hi 37 45) ∧ (hi 58 (4 * p) ≤ hi 70 b ∧ hi 70 b ≤ hi 58 (4 * p + 1) ∧ hi 58 (4 * p + 2) ≤ hi 71 b ∧ hi 71 b ≤ hi 58 (4 * p + 3)) ∧ mThere (hi 59) p b (hi 37 25).toNat < hi 72 b))) := by
    rw [hP.1.1, hB.1.1]
    by_cases c₁ : 0 ≤ p ∧ p < hi 37 25
    · by_cases c₂ : 0 ≤ b ∧ b < hi 37 45
      · obtain ⟨v₁, -, -, v₄, -⟩ := (hP.2.1 p c₁.1 c₁.2).2.1
        have w := hB.2.1 b c₂.1 c₂.2
        have f0 := v₄ 0 (by decide) (by decide)
        have f1 := v₄ 1 (by decide) (by decide)
        have f2 := v₄ 2 (by decide) (by decide)
        have f3 := v₄ 3 (by decide) (by decide)
        rw [show (9 : Int) + 0 = 9 from rfl, Int.add_zero] at f0
        rw [show (9 : Int) + 1 = 10 from rfl] at f1
        rw [show (9 : Int) + 2 = 11 from rfl] at f2
        rw [show (9 : Int) + 3 = 12 from rfl] at f3
        rw [f0, f1, f2, f3, v₁, w.2.2.2.1, w.2.2.2.2.1, w.2.2.2.2.2.1, hP.thr c₂.1 _ (by omega)]
        exact ⟨fun x => ⟨x.1, x.2.imp id fun y => ⟨y.1, ⟨y.2.1.1.1, y.2.1.1.2, y.2.1.2⟩, y.2.2⟩⟩, fun x => ⟨x.1, x.2.imp id fun y => ⟨y.1, ⟨⟨y.2.1.1, y.2.1.2.1⟩, y.2.1.2.2⟩, y.2.2⟩⟩⟩
      · exact ⟨fun x => ⟨x.1, x.2.imp id fun y => absurd y.1 c₂⟩, fun x => ⟨x.1, x.2.imp id fun y => absurd y.1 c₂⟩⟩
    · exact ⟨fun x => absurd x.1 c₁, fun x => absurd x.1 c₁⟩
  refine (c_lay (d := d + 27) hz hR hN hP.n hP.cP hB.n hB.cBd).mono (fun r z' hr' hi' hl' q => ?_)
  obtain ⟨e₁, e₂, e₃, q⟩ := q
  obtain rfl := e₁.symm
  obtain rfl := e₂.symm
  obtain rfl := e₃.symm
  rcases q with ⟨c, rfl, rfl⟩ | ⟨c, rfl, e₅⟩
  · have c' := key.mp c
    have p₀ : 0 ≤ p := c'.1.1
    have p₁ : p < hi 37 25 := c'.1.2
    obtain ⟨s, v, t, bd⟩ := hP.2.1 p p₀ p₁
    have s8 := s.2.2.2.2
    have npm := hP.pm p₀ p₁ p₀ p₁
    have aU : ∀ x j, x < 81 → up2 (up2 hi (pC hr p) 13 b) (pC hr p) 16 0 x j = hi x j := fun x j w => by rw [up2_if (by omega), up2_if (by omega)]
    have f59 : up2 (up2 hi (pC hr p) 13 b) (pC hr p) 16 0 59 = hi 59 := funext fun j => aU 59 j (by decide)
    refine ⟨_, rfl, hz, (m_lay (d := d + 29) hz hR (by rw [aU 37 25 (by decide)]; exact hP.1.2) (by rw [aU 37 45 (by decide)]; exact hB.1.2.2)).mono (fun r2 z2 hr2 hi2 hl2 q => ?_)⟩
    obtain ⟨e₁, e₂, e₃, q⟩ := q
    obtain rfl := e₁.symm
    obtain rfl := e₂.symm
    obtain rfl := e₃.symm
    rw [aU 37 25 (by decide), aU 37 45 (by decide), aU 58 _ (by decide), aU 58 _ (by decide), aU 58 _ (by decide), aU 58 _ (by decide), aU 70 _ (by decide), aU 71 _ (by decide), aU 72 _ (by decide), f59] at q
    rcases q with ⟨c₂, rfl, e₄⟩ | ⟨c₂, -⟩
    · have ag : ∀ x j, ¬ ((x = pC hr p ∧ (j = 13 ∨ j = 16)) ∨ (x = 37 ∧ j = 0) ∨ ((x = 59 ∨ x = 60) ∧ j = p)) → hi2 x j = hi x j := fun x j w => by rw [e₄, up2_if (by omega), up2_if (by omega), up2_if (by omega), up2_if (by omega), up2_if (by omega)]
      have n₁ : hi2 (pC hr p) 13 = b := by rw [e₄, up2_if (by omega), up2_if (by omega), up2_if (by omega), up2_if (by omega), up2_s]
      have n₂ : hi2 (pC hr p) 16 = 0 := by rw [e₄, up2_if (by omega), up2_if (by omega), up2_if (by omega), up2_s]
      have m₁ : hi2 59 p = b := by rw [e₄, up2_if (by omega), up2_s]
      have m₂ : hi2 60 p = -1 := by rw [e₄, up2_s]
      obtain ⟨v₁, v₂, v₃, v₄, v₅, v₆, v₇, v₈, v₉⟩ := v
      refine ⟨rfl, h.chg p₀ p₁ (fun x j w₁ w₂ => ag x j (by unfold NR rdD rdP rdB rdM rdS rdT rdX at w₁; unfold chP at w₂; omega)) ⟨by rw [ag _ _ (by omega)]; exact v₁, by rw [ag (pC hr p) 1 (by omega), ag 53 p (by omega)]; exact v₂, by rw [ag (pC hr p) 8 (by omega), ag 56 p (by omega)]; exact v₃, fun j j₀ j₁ => by rw [ag (pC hr p) (9 + j) (by omega), ag 58 (4 * p + j) (by omega)]; exact v₄ j j₀ j₁, n₁.trans m₁.symm, by rw [ag (pC hr p) 14 (by omega), ag 61 p (by omega)]; exact v₆, by rw [ag (pC hr p) 15 (by omega), ag 62 p (by omega)]; exact v₇, by rw [n₂, m₂, if_pos rfl], fun j j₀ j₁ => by rw [ag (mC hr p) j (by omega), ag 57 (8 * p + j) (by omega)]; exact v₉ j j₀ j₁⟩ ?_ (by rw [ag 56 p (by omega), ag 61 p (by omega)]; have := hP.2.2.2.1 p; exact ⟨this.1, this.2.1, by omega⟩) ?_⟩
      · unfold pBd
        rw [m₁, m₂, ag 61 p (by omega), ag 62 p (by omega), ag 53 p (by omega), ag 63 p (by omega), ag 37 45 (by omega)]
        exact ⟨c'.2.imp id fun y => y.1, bd.2.1, Or.inl rfl, bd.2.2.2⟩
      · obtain ⟨g₁, g₂, g₃, g₄⟩ := hB
        refine ⟨?_, fun x x₀ x₁ => ?_, ?_, fun x x₀ x₁ => ?_⟩
        · rw [ag 0 10 (by omega), ag 37 45 (by omega)]; exact g₁
        · rw [ag 37 45 (by omega)] at x₁
          have q := g₂ x x₀ x₁
          have d₁ : bC hr x ≠ pC hr p := a_is_ne q.2.1 s.2.1 (by decide)
          have q8 := q.2.2.1
          rw [ag _ 0 (by omega), ag _ 1 (by omega), ag _ 2 (by omega), ag 70 x (by omega), ag 71 x (by omega), ag 72 x (by omega)]
          exact q
        · rw [ag 37 45 (by omega)]; exact g₃
        · rw [ag 37 45 (by omega)] at x₁
          rw [ag 37 25 (by omega), ag 72 x (by omega), show hi2 59 = wU (hi 59) p b from funext fun j => by
            by_cases e : j = p
            · rw [e, m₁, wV_s]
            · rw [ag 59 j (by omega), wV_n e]]
          have l₁ := ld_set (hi 37 25).toNat (g := hi 59) (q := p) (b := b) (x := x) ⟨p₀, by omega⟩
          have l₂ : ld (hi 37 25).toNat (hi 59) x ≤ hi 72 x := g₄ x x₀ x₁
          show ld (hi 37 25).toNat (wU (hi 59) p b) x ≤ hi 72 x
          rw [l₁]
          by_cases e : x = b
          · rw [if_pos e]
            have l₃ := there_ld (f := hi 59) (p := p) x₀ (hi 37 25).toNat
            rcases c'.2 with y | y
            · omega
            · rw [← e] at y
              have y₃ := y.2.2
              rw [l₃] at y₃
              by_cases u : x = hi 59 p
              · rw [if_pos u]; rw [if_pos ⟨⟨p₀, by omega⟩, u.symm⟩] at y₃; omega
              · rw [if_neg u]; rw [if_neg (fun q => u q.2.symm)] at y₃; omega
          · rw [if_neg e]
            split <;> omega
    · exact absurd c' c₂
  · obtain rfl := e₅.symm
    refine ⟨_, rfl, hz, (m_lay (d := d + 29) hz hR hP.1.2 hB.1.2.2).mono (fun r2 z2 hr2 hi2 hl2 q => ?_)⟩
    obtain ⟨e₁, e₂, e₃, q⟩ := q
    obtain rfl := e₁.symm
    obtain rfl := e₂.symm
    obtain rfl := e₃.symm
    rcases q with ⟨c₂, -⟩ | ⟨c₂, rfl, rfl⟩
    · exact absurd (key.mpr c₂) c
    · exact ⟨rfl, h.t0⟩
end STP6
