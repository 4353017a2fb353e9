/-! steps: the class's call, then the reference's; the answers are the same and R holds again *) -/
section STP1
variable {G : aG} {d k : Nat} {z : aZ} {hr : aR} {hi hi' hl : aI}
def stp (G : aG) (d k : Nat) (M₁ M₂ : aM) (A₁ A₂ : List aV) (z : aZ) (hr : aR) (hi hl : aI) : Prop := a_ct G M₁ (d + 30) A₁ z hr hi hl (fun r z' hr' hi' hl' => ∃ v, r = some (vI v) ∧ stZ z' ∧ a_ct G M₂ (d + 30) A₂ z' hr' hi' hl' (fun r2 z2 hr2 hi2 hl2 => r2 = some (vI v) ∧ RR (k + 1) z2 hr2 hi2 hl2))
theorem gM.day (h : gM hi) (e : ∀ b j, rdM b j → ¬ (b = 37 ∧ j = 24) → hi' b j = hi b j) (he : hi 37 24 ≤ hi' 37 24) : gM hi' := by
  have g := gM.cg (hi' := up2 hi' 37 24 (hi 37 24)) h (fun b j q => by
    by_cases w : b = 37 ∧ j = 24
    · rw [w.1, w.2, up2_s]
    · rw [up2_if w]; exact e b j q w)
  have en : ∀ b j, ¬ (b = 37 ∧ j = 24) → up2 hi' 37 24 (hi 37 24) b j = hi' b j := fun b j w => up2_if w
  obtain ⟨g₁, g₂, g₃, g₄, g₅, g₆⟩ := g
  rw [en 3 6 (by omega), en 37 37 (by omega)] at g₁
  rw [en 3 7 (by omega), en 37 41 (by omega)] at g₂
  refine ⟨g₁, g₂, g₃, fun i i₀ i₁ => ?_, fun i i₀ i₁ => ?_, g₆⟩
  · have := g₄ i i₀ (by rw [en 37 41 (by omega)]; exact i₁)
    rw [up2_s, en 67 i (by omega), en 68 i (by omega), en 69 i (by omega)] at this
    exact ⟨this.1, this.2.1, Int.le_trans this.2.2 he⟩
  · exact g₅ i i₀ (by rw [en 37 37 (by omega)]; exact i₁)
theorem st_days (h : RR k z hr hi hl) {n : Int} : stp G d k mX9_days mX10_days [vR 0, vI n] [vR 37, vI n] z hr hi hl := by
  obtain ⟨⟨hz, hR, hk, hs⟩, hD, hP, hB, hM, hS, hT, hX⟩ := id h
  have hD₁ := hD.1
  refine (c_days (d := d + 29) hz hR (by rw [hD.1]; exact hD.2)).mono (fun r z' hr' hi' hl' q => ?_)
  obtain ⟨e₁, e₂, e₃, q⟩ := q
  obtain rfl := e₁.symm
  obtain rfl := e₂.symm
  obtain rfl := e₃.symm
  rcases q with ⟨c, rfl, rfl⟩ | ⟨c, rfl, rfl⟩
  · have k24 : up2 hi 0 11 (hi 0 11 + n) 37 24 = hi 37 24 := up2_n (by decide)
    refine ⟨_, rfl, hz, (m_days (d := d + 30) (n := n) hz (by rw [k24]; exact hD.2)).mono (fun r2 z2 hr2 hi2 hl2 q => ?_)⟩
    obtain ⟨e₁, e₂, e₃, q⟩ := q
    obtain rfl := e₁.symm
    obtain rfl := e₂.symm
    obtain rfl := e₃.symm
    rcases q with ⟨c₁, c₂, c₃, rfl, rfl⟩ | ⟨c₂, rfl, rfl⟩
    · rw [k24]
      refine ⟨by rw [hD.1], ⟨⟨hz, hR, by omega, by omega⟩, ⟨?_, ?_⟩, (hP.k1.cg (fun b j q => by unfold rdP at q; rw [up2_if (by omega), up2_if (by omega), up2_if (by omega)])), (hB.cg (fun b j q => by unfold rdB at q; rw [up2_if (by omega), up2_if (by omega), up2_if (by omega)])), hM.day (fun b j q w => by unfold rdM at q; rw [up2_if (by omega), up2_if (by omega), up2_if (by omega)]) (by rw [up2_s]; omega), (hS.cg (fun b j q => by unfold rdS at q; rw [up2_if (by omega), up2_if (by omega), up2_if (by omega)])), (hT.cg (fun b j q => by unfold rdT at q; rw [up2_if (by omega), up2_if (by omega), up2_if (by omega)])), (hX.cg (fun b j q => by unfold rdX at q; rw [up2_if (by omega), up2_if (by omega), up2_if (by omega)]) rfl rfl)⟩⟩
      · rw [up2_if (by omega), up2_if (by omega), up2_s, up2_s, hD.1]
      · rw [up2_s]; have := hD.2; omega
    · rw [k24] at c₂; omega
  · refine ⟨_, rfl, hz, (m_days (d := d + 30) (n := n) hz hD.2).mono (fun r2 z2 hr2 hi2 hl2 q => ?_)⟩
    obtain ⟨e₁, e₂, e₃, q⟩ := q
    obtain rfl := e₁.symm
    obtain rfl := e₂.symm
    obtain rfl := e₃.symm
    rcases q with ⟨c₁, c₂, c₃, rfl, rfl⟩ | ⟨c₂, rfl, rfl⟩
    · omega
    · exact ⟨rfl, h.t0⟩
theorem st_sent (hN : gN G) (h : RR k z hr hi hl) {i w : Int} : stp G d k mX9_sent mX10_sent [vR 0, vI i, vI w] [vR 37, vI i, vI w] z hr hi hl := by
  obtain ⟨⟨hz, hR, hk, hs⟩, hD, hP, hB, hM, hS, hT, hX⟩ := id h
  have hS₁ := hS.1
  refine (c_sent (d := d + 28) hz hR hN (by rw [hS.1.1]; exact hS.1.2)).mono (fun r z' hr' hi' hl' q => ?_)
  obtain ⟨e₁, e₂, e₃, e₄, q⟩ := q
  obtain rfl := e₁.symm
  obtain rfl := e₂.symm
  obtain rfl := e₃.symm
  obtain rfl := e₄.symm
  rcases q with ⟨c, rfl⟩ | ⟨c, rfl⟩
  · refine ⟨_, rfl, hz, (m_sent (d := d + 30) hz hR hS.1.2).mono (fun r2 z2 hr2 hi2 hl2 q => ?_)⟩
    obtain ⟨e₁, e₂, e₃, q⟩ := q
    obtain rfl := e₁.symm
    obtain rfl := e₂.symm
    obtain rfl := e₃.symm
    rcases q with ⟨c₂, rfl, rfl⟩ | ⟨c₂, rfl, rfl⟩
    · exact ⟨by rw [hS.2], h.t0⟩
    · omega
  · refine ⟨_, rfl, hz, (m_sent (d := d + 30) hz hR hS.1.2).mono (fun r2 z2 hr2 hi2 hl2 q => ?_)⟩
    obtain ⟨e₁, e₂, e₃, q⟩ := q
    obtain rfl := e₁.symm
    obtain rfl := e₂.symm
    obtain rfl := e₃.symm
    rcases q with ⟨c₂, rfl, rfl⟩ | ⟨c₂, rfl, rfl⟩
    · omega
    · exact ⟨rfl, h.t0⟩
theorem RR.chg {p : Int} (h : RR k z hr hi hl) (p₀ : 0 ≤ p) (p₁ : p < hi 37 25) (e : ∀ b j, ¬ NR b j → ¬ chP hr p b j → hi' b j = hi b j) (hv : pV hr hi' p) (hb : pBd hi' p) (h56 : (0 ≤ hi' 56 p ∧ hi' 56 p ≤ 100) ∧ 0 ≤ hi' 61 p ∧ hi' 61 p ≤ (k : Int) + 1) (hB' : gB z hr hi') : RR (k + 1) z hr hi' hl := by
  obtain ⟨⟨hz, hR, hk, hs⟩, hD, hP, hB, hM, hS, hT, hX⟩ := id h
  have s := hP.st p₀ p₁
  have s8 := s.2.2.2.2
  refine ⟨⟨hz, hR, by omega, by omega⟩, hD.cg (fun b j q => e b j (fun w => w.1 q) ?_), ?_, hB', hM.cg (fun b j q => e b j (fun w => w.2.2.2.1 q) ?_), hS.cg (fun b j q => e b j (fun w => w.2.2.2.2.1 q) ?_), hT.cg (fun b j q => e b j (fun w => w.2.2.2.2.2.1 q) ?_), hX.cg (fun b j q => e b j (fun w => w.2.2.2.2.2.2 q) ?_) rfl rfl⟩
  · unfold rdD at q; unfold chP; omega
  · exact hP.chg p₀ p₁ (fun b j q w => e b j (fun w' => w'.2.1 q) w) hv hb (by have := h56; exact ⟨this.1, this.2.1, by omega⟩) (Nat.le_succ k)
  · unfold rdM at q; unfold chP; omega
  · unfold rdS at q; unfold chP; omega
  · unfold rdT at q; unfold chP; omega
  · unfold rdX at q; unfold chP; omega
theorem RR.ch1 {p : Int} (h : RR k z hr hi hl) (p₀ : 0 ≤ p) (p₁ : p < hi 37 25) (e : ∀ b j, ¬ NR b j → ¬ chP hr p b j → hi' b j = hi b j) (hv : pV hr hi' p) (hb : pBd hi' p) (h56 : (0 ≤ hi' 56 p ∧ hi' 56 p ≤ 100) ∧ 0 ≤ hi' 61 p ∧ hi' 61 p ≤ (k : Int) + 1) (h59 : hi' 59 p = hi 59 p) : RR (k + 1) z hr hi' hl := by
  refine h.chg p₀ p₁ e hv hb h56 (h.2.2.2.1.pl fun b j q w => ?_)
  have s := h.2.2.1.st p₀ p₁
  by_cases w₁ : b = pC hr p
  · exact absurd (Or.inl ⟨by have := s.2.2.2.2; omega, by rw [w₁]; exact s.2.1⟩) w
  · by_cases w₂ : b = mC hr p
    · exact absurd (Or.inr ⟨by have := s.2.2.2.2; omega, by rw [w₂]; exact s.2.2.2.1⟩) w
    · by_cases w₃ : b = 59 ∧ j = p
      · rw [w₃.1, w₃.2]; exact h59
      · exact e b j (fun w' => w'.2.2.1 q) (by have := s.2.2.2.2; unfold rdB at q; unfold chP; omega)
theorem st_needs (h : RR k z hr hi hl) {p a b9 c9 e9 : Int} : stp G d k mX9_needs mX10_needs [vR 0, vI p, vI a, vI b9, vI c9, vI e9] [vR 37, vI p, vI a, vI b9, vI c9, vI e9] z hr hi hl := by
  obtain ⟨⟨hz, hR, hk, hs⟩, hD, hP, hB, hM, hS, hT, hX⟩ := id h
  have hP₁ := hP.1
  have hB₁ := hB.1
  refine (c_needs (d := d + 27) hz hR hP.n hP.cP).mono (fun r z' hr' hi' hl' q => ?_)
  obtain ⟨e₁, e₂, e₃, q⟩ := q
  obtain rfl := e₁.symm
  obtain rfl := e₂.symm
  obtain rfl := e₃.symm
  rcases q with ⟨c, rfl, rfl⟩ | ⟨c, rfl, e₅⟩
  · have p₀ : 0 ≤ p := c.1.1
    have p₁ : p < hi 37 25 := by rw [← hP₁.1]; exact c.1.2
    obtain ⟨s, v, t, b⟩ := hP.2.1 p p₀ p₁
    have s8 := s.2.2.2.2
    have npm := hP.pm p₀ p₁ p₀ p₁
    have aU : ∀ b j, b < 81 → (up2 (up2 (up2 (up2 hi (pC hr p) 9 a) (pC hr p) 10 b9) (pC hr p) 11 c9) (pC hr p) 12 e9) b j = hi b j := fun b j w => by rw [up2_if (by omega), up2_if (by omega), up2_if (by omega), up2_if (by omega)]
    have k25 := aU 37 25 (by decide)
    have k45 := aU 37 45 (by decide)
    refine ⟨_, rfl, hz, (m_needs (d := d + 29) hz hR (by rw [k25]; exact hP.1.2.2)).mono (fun r2 z2 hr2 hi2 hl2 q => ?_)⟩
    obtain ⟨e₁, e₂, e₃, q⟩ := q
    obtain rfl := e₁.symm
    obtain rfl := e₂.symm
    obtain rfl := e₃.symm
    rcases q with ⟨c₂, rfl, e₄⟩ | ⟨c₂, rfl, rfl⟩
    · have ag : ∀ b j, ¬ ((b = pC hr p ∧ (j = 9 ∨ j = 10 ∨ j = 11 ∨ j = 12)) ∨ (b = 37 ∧ j = 0) ∨ (b = 58 ∧ (j = 4 * p ∨ j = 4 * p + 1 ∨ j = 4 * p + 2 ∨ j = 4 * p + 3))) → hi2 b j = hi b j := fun b j w => by rw [e₄, up2_if (by omega), up2_if (by omega), up2_if (by omega), up2_if (by omega), up2_if (by omega), up2_if (by omega), up2_if (by omega), up2_if (by omega), up2_if (by omega)]
      have n₁ : hi2 (pC hr p) 9 = a := by rw [e₄, up2_if (by omega), up2_if (by omega), up2_if (by omega), up2_if (by omega), up2_if (by omega), up2_if (by omega), up2_if (by omega), up2_if (by omega), up2_s]
      have n₂ : hi2 (pC hr p) 10 = b9 := by rw [e₄, up2_if (by omega), up2_if (by omega), up2_if (by omega), up2_if (by omega), up2_if (by omega), up2_if (by omega), up2_if (by omega), up2_s]
      have n₃ : hi2 (pC hr p) 11 = c9 := by rw [e₄, up2_if (by omega), up2_if (by omega), up2_if (by omega), up2_if (by omega), up2_if (by omega), up2_if (by omega), up2_s]
      have n₄ : hi2 (pC hr p) 12 = e9 := by rw [e₄, up2_if (by omega), up2_if (by omega), up2_if (by omega), up2_if (by omega), up2_if (by omega), up2_s]
      have m₁ : hi2 58 (4 * p) = a := by rw [e₄, up2_if (by omega), up2_if (by omega), up2_if (by omega), up2_s]
      have m₂ : hi2 58 (4 * p + 1) = b9 := by rw [e₄, up2_if (by omega), up2_if (by omega), up2_s]
      have m₃ : hi2 58 (4 * p + 2) = c9 := by rw [e₄, up2_if (by omega), up2_s]
      have m₄ : hi2 58 (4 * p + 3) = e9 := by rw [e₄, up2_s]
      obtain ⟨v₁, v₂, v₃, v₄, v₅, v₆, v₇, v₈, v₉⟩ := v
      exact ⟨rfl, h.ch1 p₀ p₁ (fun b j w₁ w₂ => ag b j (by unfold NR rdD rdP rdB rdM rdS rdT rdX at w₁; unfold chP at w₂; omega)) ⟨(by rw [ag _ _ (by omega)]; exact v₁), (by rw [ag (pC hr p) 1 (by omega), ag 53 p (by omega)]; exact v₂), (by rw [ag (pC hr p) 8 (by omega), ag 56 p (by omega)]; exact v₃), (fun j j₀ j₁ => by
        have e : j = 0 ∨ j = 1 ∨ j = 2 ∨ j = 3 := by omega
        rcases e with rfl | rfl | rfl | rfl
        · exact n₁.trans (by rw [show 4 * p + 0 = 4 * p by omega, m₁])
        · exact n₂.trans m₂.symm
        · exact n₃.trans m₃.symm
        · exact n₄.trans m₄.symm), (by rw [ag (pC hr p) 13 (by omega), ag 59 p (by omega)]; exact v₅), (by rw [ag (pC hr p) 14 (by omega), ag 61 p (by omega)]; exact v₆), (by rw [ag (pC hr p) 15 (by omega), ag 62 p (by omega)]; exact v₇), (by rw [ag (pC hr p) 16 (by omega), ag 60 p (by omega)]; exact v₈), (fun j j₀ j₁ => by rw [ag (mC hr p) j (by omega), ag 57 (8 * p + j) (by omega)]; exact v₉ j j₀ j₁)⟩ (by unfold pBd; rw [ag 59 p (by omega), ag 61 p (by omega), ag 62 p (by omega), ag 60 p (by omega), ag 53 p (by omega), ag 63 p (by omega), ag 37 45 (by omega)]; exact b) (by rw [ag 56 p (by omega), ag 61 p (by omega)]; have := hP.2.2.2.1 p; exact ⟨this.1, this.2.1, by omega⟩) (ag 59 p (by omega))⟩
    · exfalso
      rw [k25] at c₂
      omega
  · obtain rfl := e₅.symm
    refine ⟨_, rfl, hz, (m_needs (d := d + 29) hz hR hP.1.2.2).mono (fun r2 z2 hr2 hi2 hl2 q => ?_)⟩
    obtain ⟨e₁, e₂, e₃, q⟩ := q
    obtain rfl := e₁.symm
    obtain rfl := e₂.symm
    obtain rfl := e₃.symm
    rcases q with ⟨c₂, rfl, rfl⟩ | ⟨c₂, rfl, rfl⟩
    · exfalso
      omega
    · exact ⟨rfl, h.t0⟩
theorem st_seen (h : RR k z hr hi hl) {p m : Int} : stp G d k mX9_seen mX10_seen [vR 0, vI p, vI m] [vR 37, vI p, vI m] z hr hi hl := by
  obtain ⟨⟨hz, hR, hk, hs⟩, hD, hP, hB, hM, hS, hT, hX⟩ := id h
  have hP₁ := hP.1
  have hB₁ := hB.1
  refine (c_seen (d := d + 28) hz hR hP.n hP.cP).mono (fun r z' hr' hi' hl' q => ?_)
  obtain ⟨e₁, e₂, e₃, q⟩ := q
  obtain rfl := e₁.symm
  obtain rfl := e₂.symm
  obtain rfl := e₃.symm
  rcases q with ⟨c, rfl, rfl⟩ | ⟨c, rfl, e₅⟩
  · have p₀ : 0 ≤ p := c.1.1
    have p₁ : p < hi 37 25 := by rw [← hP₁.1]; exact c.1.2
    obtain ⟨s, v, t, b⟩ := hP.2.1 p p₀ p₁
    have s8 := s.2.2.2.2
    have npm := hP.pm p₀ p₁ p₀ p₁
    have aU : ∀ b j, b < 81 → (up2 hi (pC hr p) 16 m) b j = hi b j := fun b j w => by rw [up2_if (by omega)]
    have k25 := aU 37 25 (by decide)
    have k45 := aU 37 45 (by decide)
    refine ⟨_, rfl, hz, (m_seen (d := d + 29) hz hR (by rw [k25]; exact hP.1.2.2)).mono (fun r2 z2 hr2 hi2 hl2 q => ?_)⟩
    obtain ⟨e₁, e₂, e₃, q⟩ := q
    obtain rfl := e₁.symm
    obtain rfl := e₂.symm
    obtain rfl := e₃.symm
    rcases q with ⟨c₂, rfl, e₄⟩ | ⟨c₂, rfl, rfl⟩
    · have ag : ∀ b j, ¬ ((b = pC hr p ∧ j = 16) ∨ (b = 37 ∧ j = 0) ∨ (b = 60 ∧ j = p)) → hi2 b j = hi b j := fun b j w => by rw [e₄, up2_if (by omega), up2_if (by omega), up2_if (by omega)]
      have n₁ : hi2 (pC hr p) 16 = m := by rw [e₄, up2_if (by omega), up2_if (by omega), up2_s]
      have n₂ : hi2 60 p = m := by rw [e₄, up2_s]
      obtain ⟨v₁, v₂, v₃, v₄, v₅, v₆, v₇, v₈, v₉⟩ := v
      exact ⟨rfl, h.ch1 p₀ p₁ (fun b j w₁ w₂ => ag b j (by unfold NR rdD rdP rdB rdM rdS rdT rdX at w₁; unfold chP at w₂; omega)) ⟨(by rw [ag _ _ (by omega)]; exact v₁), (by rw [ag (pC hr p) 1 (by omega), ag 53 p (by omega)]; exact v₂), (by rw [ag (pC hr p) 8 (by omega), ag 56 p (by omega)]; exact v₃), (fun j j₀ j₁ => by rw [ag (pC hr p) (9 + j) (by omega), ag 58 (4 * p + j) (by omega)]; exact v₄ j j₀ j₁), (by rw [ag (pC hr p) 13 (by omega), ag 59 p (by omega)]; exact v₅), (by rw [ag (pC hr p) 14 (by omega), ag 61 p (by omega)]; exact v₆), (by rw [ag (pC hr p) 15 (by omega), ag 62 p (by omega)]; exact v₇), (by rw [n₁, n₂, if_neg (by omega)]), (fun j j₀ j₁ => by rw [ag (mC hr p) j (by omega), ag 57 (8 * p + j) (by omega)]; exact v₉ j j₀ j₁)⟩ (by unfold pBd; rw [ag 59 p (by omega), ag 61 p (by omega), ag 62 p (by omega), n₂, ag 53 p (by omega), ag 63 p (by omega), ag 37 45 (by omega)]; exact ⟨b.1, b.2.1, Or.inr c.2.2, b.2.2.2⟩) (by rw [ag 56 p (by omega), ag 61 p (by omega)]; have := hP.2.2.2.1 p; exact ⟨this.1, this.2.1, by omega⟩) (ag 59 p (by omega))⟩
    · exfalso
      rw [k25] at c₂
      have kb : ∀ q, 0 ≤ q → q < hi 37 25 → hi (pC hr q) 13 = hi 59 q ∧ (hi 59 q = -1 ∨ 0 ≤ hi 59 q) := fun q q₀ q₁ => by
        have w := hP.2.1 q q₀ q₁
        exact ⟨w.2.1.2.2.2.2.1, w.2.2.2.1.imp id (fun x => x.1)⟩
      by_cases w : 0 ≤ p ∧ p < hi 37 25
      · have kb := kb p w.1 w.2
        rw [aU 59 p (by decide)] at c₂
        omega
      · omega
  · obtain rfl := e₅.symm
    refine ⟨_, rfl, hz, (m_seen (d := d + 29) hz hR hP.1.2.2).mono (fun r2 z2 hr2 hi2 hl2 q => ?_)⟩
    obtain ⟨e₁, e₂, e₃, q⟩ := q
    obtain rfl := e₁.symm
    obtain rfl := e₂.symm
    obtain rfl := e₃.symm
    rcases q with ⟨c₂, rfl, rfl⟩ | ⟨c₂, rfl, rfl⟩
    · exfalso
      have kb : ∀ q, 0 ≤ q → q < hi 37 25 → hi (pC hr q) 13 = hi 59 q ∧ (hi 59 q = -1 ∨ 0 ≤ hi 59 q) := fun q q₀ q₁ => by
        have w := hP.2.1 q q₀ q₁
        exact ⟨w.2.1.2.2.2.2.1, w.2.2.2.1.imp id (fun x => x.1)⟩
      by_cases w : 0 ≤ p ∧ p < hi 37 25
      · have kb := kb p w.1 w.2
        omega
      · omega
    · exact ⟨rfl, h.t0⟩
theorem st_mark (h : RR k z hr hi hl) {p w a b9 : Int} : stp G d k mX9_mark mX10_mark [vR 0, vI p, vI w, vI a, vI b9] [vR 37, vI p, vI w, vI a, vI b9] z hr hi hl := by
  obtain ⟨⟨hz, hR, hk, hs⟩, hD, hP, hB, hM, hS, hT, hX⟩ := id h
  have hP₁ := hP.1
  have hB₁ := hB.1
  refine (c_mark (d := d + 28) hz hR hP.n hP.cP).mono (fun r z' hr' hi' hl' q => ?_)
  obtain ⟨e₁, e₂, e₃, q⟩ := q
  obtain rfl := e₁.symm
  obtain rfl := e₂.symm
  obtain rfl := e₃.symm
  rcases q with ⟨c, rfl, rfl⟩ | ⟨c, rfl, e₅⟩
  · have p₀ : 0 ≤ p := c.1.1
    have p₁ : p < hi 37 25 := by rw [← hP₁.1]; exact c.1.2
    obtain ⟨s, v, t, b⟩ := hP.2.1 p p₀ p₁
    have s8 := s.2.2.2.2
    have npm := hP.pm p₀ p₁ p₀ p₁
    have aU : ∀ b j, b < 81 → (up2 (up2 hi (mC hr p) (2 * w) (if b9 < a then b9 else a)) (mC hr p) (2 * w + 1) (if a < b9 then b9 else a)) b j = hi b j := fun b j w => by rw [up2_if (by omega), up2_if (by omega)]
    have k25 := aU 37 25 (by decide)
    have k45 := aU 37 45 (by decide)
    refine ⟨_, rfl, hz, (m_mark (d := d + 29) hz hR (by rw [k25]; exact hP.1.2.2)).mono (fun r2 z2 hr2 hi2 hl2 q => ?_)⟩
    obtain ⟨e₁, e₂, e₃, q⟩ := q
    obtain rfl := e₁.symm
    obtain rfl := e₂.symm
    obtain rfl := e₃.symm
    rcases q with ⟨c₂, rfl, e₄⟩ | ⟨c₂, rfl, rfl⟩
    · have ag : ∀ b j, ¬ ((b = mC hr p ∧ (j = 2 * w ∨ j = 2 * w + 1)) ∨ (b = 37 ∧ j = 0) ∨ (b = 57 ∧ (j = 8 * p + 2 * w ∨ j = 8 * p + 2 * w + 1))) → hi2 b j = hi b j := fun b j w => by rw [e₄, up2_if (by omega), up2_if (by omega), up2_if (by omega), up2_if (by omega), up2_if (by omega)]
      have n₁ : hi2 (mC hr p) (2 * w) = (if b9 < a then b9 else a) := by rw [e₄, up2_if (by omega), up2_if (by omega), up2_if (by omega), up2_if (by omega), up2_s]
      have n₂ : hi2 (mC hr p) (2 * w + 1) = (if a < b9 then b9 else a) := by rw [e₄, up2_if (by omega), up2_if (by omega), up2_if (by omega), up2_s]
      have m₁ : hi2 57 (8 * p + 2 * w) = (if a < b9 then a else b9) := by rw [e₄, up2_if (by omega), up2_s]
      have m₂ : hi2 57 (8 * p + 2 * w + 1) = (if a < b9 then b9 else a) := by rw [e₄, up2_s]
      obtain ⟨v₁, v₂, v₃, v₄, v₅, v₆, v₇, v₈, v₉⟩ := v
      exact ⟨rfl, h.ch1 p₀ p₁ (fun b j w₁ w₂ => ag b j (by unfold NR rdD rdP rdB rdM rdS rdT rdX at w₁; unfold chP at w₂; omega)) ⟨(by rw [ag _ _ (by omega)]; exact v₁), (by rw [ag (pC hr p) 1 (by omega), ag 53 p (by omega)]; exact v₂), (by rw [ag (pC hr p) 8 (by omega), ag 56 p (by omega)]; exact v₃), (fun j j₀ j₁ => by rw [ag (pC hr p) (9 + j) (by omega), ag 58 (4 * p + j) (by omega)]; exact v₄ j j₀ j₁), (by rw [ag (pC hr p) 13 (by omega), ag 59 p (by omega)]; exact v₅), (by rw [ag (pC hr p) 14 (by omega), ag 61 p (by omega)]; exact v₆), (by rw [ag (pC hr p) 15 (by omega), ag 62 p (by omega)]; exact v₇), (by rw [ag (pC hr p) 16 (by omega), ag 60 p (by omega)]; exact v₈), (fun j j₀ j₁ => by
        by_cases e : j = 2 * w
        · subst e
          rw [n₁, m₁]
          split <;> split <;> omega
        · by_cases e' : j = 2 * w + 1
          · subst e'
            rw [n₂, show 8 * p + (2 * w + 1) = 8 * p + 2 * w + 1 by omega, m₂]
          · rw [ag (mC hr p) j (by omega), ag 57 (8 * p + j) (by omega)]; exact v₉ j j₀ j₁)⟩ (by unfold pBd; rw [ag 59 p (by omega), ag 61 p (by omega), ag 62 p (by omega), ag 60 p (by omega), ag 53 p (by omega), ag 63 p (by omega), ag 37 45 (by omega)]; exact b) (by rw [ag 56 p (by omega), ag 61 p (by omega)]; have := hP.2.2.2.1 p; exact ⟨this.1, this.2.1, by omega⟩) (ag 59 p (by omega))⟩
    · exfalso
      rw [k25] at c₂
      omega
  · obtain rfl := e₅.symm
    refine ⟨_, rfl, hz, (m_mark (d := d + 29) hz hR hP.1.2.2).mono (fun r2 z2 hr2 hi2 hl2 q => ?_)⟩
    obtain ⟨e₁, e₂, e₃, q⟩ := q
    obtain rfl := e₁.symm
    obtain rfl := e₂.symm
    obtain rfl := e₃.symm
    rcases q with ⟨c₂, rfl, rfl⟩ | ⟨c₂, rfl, rfl⟩
    · exfalso
      omega
    · exact ⟨rfl, h.t0⟩
end STP1
