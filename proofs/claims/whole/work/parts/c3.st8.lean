/-! steps: close, all PLANTS of a BED *) -/
section STP8
variable {G : aG} {d k k' : Nat} {z : aZ} {hr : aR} {hi hi' hl hl' : aI}
def cq (j : Int) : Prop := j = 8 ∨ j = 14 ∨ j = 15 ∨ j = 16
def cr (x : Nat) : Prop := x = 56 ∨ x = 60 ∨ x = 61 ∨ x = 62
def cvl (hr : aR) (h : aI) (q : Int) : Prop := h (pC hr q) 8 = h 56 q ∧ h (pC hr q) 14 = h 61 q ∧ h (pC hr q) 15 = h 62 q ∧ h (pC hr q) 16 = (if h 60 q = -1 then 0 else h 60 q)
def cbd (h : aI) (q : Int) : Prop := (h 62 q = 0 ∨ (h 62 q = 1 ∧ 2 ≤ h 61 q)) ∧ (h 60 q = -1 ∨ (1 ≤ h 60 q ∧ h 60 q ≤ 100))
theorem gP.all (h : gP k z hr hi) (e : ∀ x j, rdP x j → ¬ (81 ≤ x ∧ cq j) → ¬ cr x → hi' x j = hi x j) (hv : ∀ q, 0 ≤ q → q < hi 37 25 → cvl hr hi' q ∧ cbd hi' q) (hb : ∀ q, (0 ≤ hi' 56 q ∧ hi' 56 q ≤ 100) ∧ 0 ≤ hi' 61 q ∧ hi' 61 q ≤ k') (hd : ∀ q, hi 37 25 ≤ q → hi' 60 q = hi 60 q ∧ hi' 61 q = hi 61 q ∧ hi' 62 q = hi 62 q) : gP k' z hr hi' := by
  obtain ⟨h₁, h₂, h₃, h₄, h₅⟩ := h
  have e1 : hi' 37 25 = hi 37 25 := e 37 25 (by unfold rdP; omega) (by omega) (by unfold cr; omega)
  have e2 : hi' 37 45 = hi 37 45 := e 37 45 (by unfold rdP; omega) (by omega) (by unfold cr; omega)
  have e0 : hi' 0 9 = hi 0 9 := e 0 9 (by unfold rdP; omega) (by omega) (by unfold cr; omega)
  have eb : ∀ x : Nat, (53 ≤ x ∧ x ≤ 63) → ¬ cr x → hi' x = hi x := fun x hx hc => funext fun j => e x j (by unfold rdP; omega) (by omega) hc
  have e53 := eb 53 (by omega) (by unfold cr; omega)
  have e54 := eb 54 (by omega) (by unfold cr; omega)
  have e55 := eb 55 (by omega) (by unfold cr; omega)
  have e57 := eb 57 (by omega) (by unfold cr; omega)
  have e58 := eb 58 (by omega) (by unfold cr; omega)
  have e59 := eb 59 (by omega) (by unfold cr; omega)
  have e63 := eb 63 (by omega) (by unfold cr; omega)
  have ec : ∀ (x : Nat) (j : Int), 81 ≤ x → ¬ cq j → hi' x j = hi x j := fun x j hx hj => e x j (by unfold rdP; omega) (fun q => hj q.2) (by unfold cr; omega)
  unfold gP
  rw [e0, e1]
  refine ⟨h₁, fun q q₀ q₁ => ?_, h₃, hb, fun q q₀ q₁ => ?_⟩
  · obtain ⟨s, v, t, b⟩ := h₂ q q₀ q₁
    obtain ⟨⟨w₁, w₂, w₃, w₄⟩, b₁, b₂⟩ := hv q q₀ q₁
    have s5 := s.2.2.2.2.1
    have s6 := s.2.2.2.2.2
    obtain ⟨v₁, v₂, v₃, v₄, v₅, v₆, v₇, v₈, v₉⟩ := v
    refine ⟨s, ⟨?_, ?_, w₁, fun j j₀ j₁ => ?_, ?_, w₂, w₃, w₄, fun j j₀ j₁ => ?_⟩, ?_, ?_⟩
    · rw [ec _ 0 s5 (by unfold cq; omega)]; exact v₁
    · rw [ec _ 1 s5 (by unfold cq; omega), e53]; exact v₂
    · rw [ec _ (9 + j) s5 (by unfold cq; omega), e58]; exact v₄ j j₀ j₁
    · rw [ec _ 13 s5 (by unfold cq; omega), e59]; exact v₅
    · rw [ec _ j s6 (by unfold cq; omega), e57]; exact v₉ j j₀ j₁
    · unfold pT
      rw [e53, e54, e55, e63, ec _ 4 s5 (by unfold cq; omega), ec _ 5 s5 (by unfold cq; omega), ec _ 6 s5 (by unfold cq; omega)]
      rcases t with t | t
      · exact Or.inl t
      · have s7 := (h₂ (hi 54 q) t.2.1.1 (by have := t.2.1.2; omega)).1.2.2.2.2.1
        rw [ec (pC hr (hi 54 q)) 4 s7 (by unfold cq; omega), ec (pC hr (hi 54 q)) 5 s7 (by unfold cq; omega), ec (pC hr (hi 54 q)) 6 s7 (by unfold cq; omega)]
        exact Or.inr t
    · unfold pBd
      rw [e53, e59, e63, e2]
      exact ⟨b.1, b₁, b₂, b.2.2.2⟩
  · have d' := h₅ q q₀ q₁
    have d₂ := hd q q₀
    unfold pD0 at d' ⊢
    rw [e57, e59, d₂.1, d₂.2.1, d₂.2.2]
    exact d'
/-- both sides behind m PLANTS *) -/
def cloI (hr : aR) (hi B₀ : aI) (k : Nat) (m : Nat) (A B : aI × Int) : Prop := A.2 = B.2 ∧ (∀ x j, (∀ q, 0 ≤ q → q < (m : Int) → x ≠ pC hr q) → A.1 x j = hi x j) ∧ (∀ x j, ¬ cq j → A.1 x j = hi x j) ∧ (∀ x j, ¬ cr x → B.1 x j = B₀ x j) ∧ (∀ x q, ¬ (0 ≤ q ∧ q < (m : Int)) → B.1 x q = B₀ x q) ∧
  (∀ q, 0 ≤ q → q < (m : Int) → (A.1 (pC hr q) 8 = B.1 56 q ∧ A.1 (pC hr q) 14 = B.1 61 q ∧ A.1 (pC hr q) 15 = B.1 62 q ∧ A.1 (pC hr q) 16 = (if B.1 60 q = -1 then 0 else B.1 60 q)) ∧ cbd B.1 q ∧ (0 ≤ B.1 61 q ∧ B.1 61 q ≤ (k : Int) + 1) ∧ 0 ≤ B.1 56 q ∧ B.1 56 q ≤ 100)
set_option maxHeartbeats 1000000 in
theorem gP.clo (h : gP k z hr hi) {b : Int} {B₀ : aI} (hB : ∀ x j, x = 59 ∨ cr x → B₀ x j = hi x j) (m : Nat) : (m : Int) ≤ hi 37 25 → cloI hr hi B₀ k m (cClo hr b m hi) (mClo b m 0 B₀ 0) := by
  induction m with
  | zero => exact fun _ => ⟨rfl, fun _ _ _ => rfl, fun _ _ _ => rfl, fun _ _ _ => rfl, fun _ _ _ => rfl, fun q q₀ q₁ => absurd q₁ (by omega)⟩
  | succ m ih =>
    intro hm
    obtain ⟨i₁, i₂, i₃, i₄, i₅, i₆⟩ := ih (by omega)
    obtain ⟨s, ⟨v₁, v₂, v₃, v₄, v₅, v₆, v₇, v₈, v₉⟩, t, bd⟩ := h.2.1 m (by omega) (by omega)
    have hk := h.2.2.2.1 m
    rw [mClo_s, show (0 : Int) + m = m by omega]
    show cloI hr hi B₀ k (m + 1) (if (cClo hr b m hi).1 (pC hr m) 13 = b then (cChk (cClo hr b m hi).1 (pC hr m), (cClo hr b m hi).2 + cDie (cClo hr b m hi).1 (pC hr m)) else cClo hr b m hi) _
    generalize cClo hr b m hi = A at i₁ i₂ i₃ i₆ ⊢
    generalize mClo b m 0 B₀ 0 = B at i₁ i₄ i₅ i₆ ⊢
    have a13 : A.1 (pC hr m) 13 = hi 59 m := (i₃ _ 13 (by unfold cq; omega)).trans v₅
    have b59 : B.1 59 m = hi 59 m := (i₄ 59 m (by unfold cr; omega)).trans (hB 59 m (Or.inl rfl))
    have ap : ∀ j, A.1 (pC hr m) j = hi (pC hr m) j := fun j => i₂ _ j fun q q₀ q₁ e => by
      have := h.inj (p := m) (q := q) (by omega) (by omega) q₀ (by omega) e
      omega
    have br : ∀ x, cr x → B.1 x m = hi x m := fun x hx => (i₅ x m (by omega)).trans (hB x m (Or.inr hx))
    have b56 := br 56 (by unfold cr; omega)
    have b60 := br 60 (by unfold cr; omega)
    have b61 := br 61 (by unfold cr; omega)
    have b62 := br 62 (by unfold cr; omega)
    rw [a13, b59]
    by_cases c : hi 59 m = b
    · rw [if_pos c, if_pos c]
      obtain ⟨c₁, c₂, c₃, c₄, c₅, c₆, c₇, c₈, c₉⟩ := chk_same (A := A.1) (B := B.1) (a := pC hr m) (p := m) (by rw [ap, b61]; exact v₆) (by rw [ap, b62]; exact v₇) (by rw [ap, b60]; exact v₈) (by rw [ap, b56]; exact v₃) (by rw [b60, b61, b62]; exact ⟨bd.2.1, bd.2.2.1⟩) (by rw [b61]; exact hk.2.1) (by rw [b56]; exact hk.1)
      refine ⟨?_, fun x j w => ?_, fun x j w => ?_, fun x j w => ?_, fun x q w => ?_, fun q q₀ q₁ => ?_⟩
      · show A.2 + cDie A.1 (pC hr m) = B.2 + mDies B.1 m
        rw [i₁, c₁]
      · show (cChk A.1 (pC hr m)) x j = hi x j
        rw [cChk_f (fun q => w m (by omega) (by omega) q.1)]
        exact i₂ x j fun q q₀ q₁ => w q q₀ (by omega)
      · show (cChk A.1 (pC hr m)) x j = hi x j
        rw [cChk_f (fun q => w q.2)]
        exact i₃ x j w
      · show (mChk B.1 m) x j = B₀ x j
        rw [mChk_f (fun q => w q.1)]
        exact i₄ x j w
      · show (mChk B.1 m) x q = B₀ x q
        rw [mChk_f (by omega)]
        exact i₅ x q (by omega)
      · by_cases e : q = m
        · subst e
          refine ⟨⟨c₅, c₂, c₃, c₄⟩, ⟨c₆, c₇⟩, ⟨c₈.1, ?_⟩, c₉⟩
          show (mChk B.1 m) 61 m ≤ _
          have := c₈.2
          rw [b61] at this
          omega
        · obtain ⟨j₁, j₂, j₃, j₄⟩ := i₆ q q₀ (by omega)
          have ne : pC hr q ≠ pC hr m := fun w => e (h.inj q₀ (by omega) (by omega) (by omega) w)
          show ((cChk A.1 (pC hr m)) (pC hr q) 8 = (mChk B.1 m) 56 q ∧ (cChk A.1 (pC hr m)) (pC hr q) 14 = (mChk B.1 m) 61 q ∧ (cChk A.1 (pC hr m)) (pC hr q) 15 = (mChk B.1 m) 62 q ∧ (cChk A.1 (pC hr m)) (pC hr q) 16 = (if (mChk B.1 m) 60 q = -1 then 0 else (mChk B.1 m) 60 q)) ∧ cbd (mChk B.1 m) q ∧ (0 ≤ (mChk B.1 m) 61 q ∧ (mChk B.1 m) 61 q ≤ (k : Int) + 1) ∧ 0 ≤ (mChk B.1 m) 56 q ∧ (mChk B.1 m) 56 q ≤ 100
          unfold cbd at j₂ ⊢
          rw [cChk_f (by omega), cChk_f (by omega), cChk_f (by omega), cChk_f (by omega), mChk_f (b := 56) (by omega), mChk_f (b := 60) (by omega), mChk_f (b := 61) (by omega), mChk_f (b := 62) (by omega)]
          exact ⟨j₁, j₂, j₃, j₄⟩
    · rw [if_neg c, if_neg c]
      refine ⟨i₁, fun x j w => i₂ x j fun q q₀ q₁ => w q q₀ (by omega), i₃, i₄, fun x q w => i₅ x q (by omega), fun q q₀ q₁ => ?_⟩
      by_cases e : q = m
      · subst e
        unfold cbd
        rw [ap, ap, ap, ap, b56, b60, b61, b62]
        exact ⟨⟨v₃, v₆, v₇, v₈⟩, ⟨bd.2.1, bd.2.2.1⟩, ⟨hk.2.1, by omega⟩, hk.1⟩
      · exact i₆ q q₀ (by omega)
theorem st_close (h : RR k z hr hi hl) (hk9 : k < 100000) {b : Int} : stp G d k mX9_close mX10_close [vR 0, vI b] [vR 37, vI b] z hr hi hl := by
  obtain ⟨⟨hz, hR, hk, hs⟩, hD, hP, hB, hM, hS, hT, hX⟩ := id h
  have hP₁ := hP.1
  have hB₁ := hB.1
  have h9 := hP.1.1
  refine (c_close (d := d + 28) hz hR hP.n hP.cP (fun q q₀ q₁ => (hP.st q₀ (by omega)).2.2.2.2.1) (fun p q p₀ p₁ q₀ q₁ n e => n (hP.inj p₀ (by omega) q₀ (by omega) e)) (fun q q₀ q₁ => ?_) hB.n hB.cBd).mono (fun r z' hr' hi' hl' q => ?_)
  · have w := hP.2.1 q q₀ (by omega)
    have u := hP.2.2.2.1 q
    rw [w.2.1.2.2.2.2.2.1, w.2.1.2.2.2.2.2.2.1]
    exact ⟨by omega, w.2.2.2.2.1.imp id fun x => x.1⟩
  · obtain ⟨e₁, e₂, e₃, q⟩ := q
    obtain rfl := e₁.symm
    obtain rfl := e₂.symm
    obtain rfl := e₃.symm
    rcases q with ⟨c, rfl, e₄⟩ | ⟨c, rfl, e₅⟩
    · rw [h9] at e₄ ⊢
      have fA : ∀ x j, x < 81 → hi' x j = hi x j := fun x j hx => by
        obtain ⟨-, i₂, -⟩ := hP.clo (b := b) (B₀ := hi) (fun _ _ _ => rfl) (hi 37 25).toNat (by omega)
        rw [e₄]
        exact i₂ x j fun q q₀ q₁ e => by have := (hP.st q₀ (by omega : q < hi 37 25)).2.2.2.2.1; omega
      obtain ⟨i₁, i₂, i₃, i₄, i₅, i₆⟩ := hP.clo (b := b) (B₀ := up2 hi' 37 0 0) (fun x j w => by unfold cr at w; rw [up2_if (by omega)]; exact fA x j (by omega)) (hi 37 25).toNat (by omega)
      have k25 := fA 37 25 (by decide)
      refine ⟨_, rfl, hz, (m_close (d := d + 29) hz hR (by rw [k25]; exact hP.1.2) (fun q => by rw [fA 61 q (by decide)]; have := hP.2.2.2.1 q; omega)).mono (fun r2 z2 hr2 hi2 hl2 q => ?_)⟩
      obtain ⟨e₁, e₂, e₃, q⟩ := q
      obtain rfl := e₁.symm
      obtain rfl := e₂.symm
      obtain rfl := e₃.symm
      rw [k25, fA 37 45 (by decide)] at q
      rcases q with ⟨c₂, rfl, e₆⟩ | ⟨c₂, -⟩
      · rw [← e₄] at i₂ i₃ i₆
        rw [← e₆] at i₄ i₅ i₆
        have ag : ∀ x j, ¬ (81 ≤ x ∧ cq j) → ¬ cr x → ¬ (x = 37 ∧ j = 0) → hi2 x j = hi x j := fun x j w₁ w₂ w₃ => by
          rw [i₄ x j w₂, up2_if w₃]
          by_cases w : x < 81
          · exact fA x j w
          · exact i₃ x j fun q => w₁ ⟨by omega, q⟩
        have ap : ∀ x j, 81 ≤ x → hi2 x j = hi' x j := fun x j w => by rw [i₄ x j (by unfold cr; omega), up2_if (by omega)]
        have ao : ∀ x q, cr x → ¬ (0 ≤ q ∧ q < hi 37 25) → hi2 x q = hi x q := fun x q w w₂ => by
          unfold cr at w
          rw [i₅ x q (by omega), up2_if (by omega)]
          exact fA x q (by omega)
        refine ⟨by rw [i₁], ⟨hz, hR, by omega, by omega⟩, hD.cg fun x j q => ag x j (by unfold rdD at q; omega) (by unfold rdD at q; unfold cr; omega) (by unfold rdD at q; omega), ?_, ?_, hM.cg fun x j q => ag x j (by unfold rdM at q; omega) (by unfold rdM at q; unfold cr; omega) (by unfold rdM at q; omega), hS.cg fun x j q => ag x j (by unfold rdS at q; omega) (by unfold rdS at q; unfold cr; omega) (by unfold rdS at q; omega), hT.cg fun x j q => ag x j (by unfold rdT at q; omega) (by unfold rdT at q; unfold cr; omega) (by unfold rdT at q; omega), hX.cg (fun x j q => ag x j (by unfold rdX at q; omega) (by unfold rdX at q; unfold cr; omega) (by unfold rdX at q; omega)) rfl rfl⟩
        · refine hP.all (fun x j q w₁ w₂ => ag x j w₁ w₂ (by unfold rdP at q; omega)) (fun q q₀ q₁ => ?_) (fun q => ?_) (fun q q₀ => ⟨ao 60 q (by unfold cr; omega) (by omega), ao 61 q (by unfold cr; omega) (by omega), ao 62 q (by unfold cr; omega) (by omega)⟩)
          · obtain ⟨j₁, j₂, -⟩ := i₆ q q₀ (by omega)
            have s := (hP.st q₀ q₁).2.2.2.2.1
            unfold cvl
            rw [ap _ 8 s, ap _ 14 s, ap _ 15 s, ap _ 16 s]
            exact ⟨j₁, j₂⟩
          · by_cases w : 0 ≤ q ∧ q < hi 37 25
            · obtain ⟨-, -, j₃, j₄⟩ := i₆ q w.1 (by omega)
              exact ⟨j₄, j₃.1, by omega⟩
            · rw [ao 56 q (by unfold cr; omega) w, ao 61 q (by unfold cr; omega) w]
              have := hP.2.2.2.1 q
              exact ⟨this.1, this.2.1, by omega⟩
        · obtain ⟨g₁, g₂, g₃, g₄⟩ := hB
          have n45 : hi2 37 45 = hi 37 45 := ag 37 45 (by omega) (by unfold cr; omega) (by omega)
          refine ⟨?_, fun x x₀ x₁ => ?_, ?_, fun x x₀ x₁ => ?_⟩
          · rw [ag 0 10 (by omega) (by unfold cr; omega) (by omega), n45]; exact g₁
          · rw [n45] at x₁
            have q := g₂ x x₀ x₁
            rw [ag _ 0 (by unfold cq; omega) (by unfold cr; omega) (by omega), ag _ 1 (by unfold cq; omega) (by unfold cr; omega) (by omega), ag _ 2 (by unfold cq; omega) (by unfold cr; omega) (by omega), ag 70 x (by omega) (by unfold cr; omega) (by omega), ag 71 x (by omega) (by unfold cr; omega) (by omega), ag 72 x (by omega) (by unfold cr; omega) (by omega)]
            exact q
          · rw [n45]; exact g₃
          · rw [n45] at x₁
            rw [ag 37 25 (by omega) (by unfold cr; omega) (by omega), ag 72 x (by omega) (by unfold cr; omega) (by omega), show hi2 59 = hi 59 from funext fun j => ag 59 j (by omega) (by unfold cr; omega) (by omega)]
            exact g₄ x x₀ x₁
      · exfalso; omega
    · obtain rfl := e₅.symm
      refine ⟨_, rfl, hz, (m_close (d := d + 29) hz hR hP.1.2 (fun q => by have := hP.2.2.2.1 q; omega)).mono (fun r2 z2 hr2 hi2 hl2 q => ?_)⟩
      obtain ⟨e₁, e₂, e₃, q⟩ := q
      obtain rfl := e₁.symm
      obtain rfl := e₂.symm
      obtain rfl := e₃.symm
      rcases q with ⟨c₂, -⟩ | ⟨c₂, rfl, rfl⟩
      · exfalso; omega
      · exact ⟨rfl, h.t0⟩
end STP8
