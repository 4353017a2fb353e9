/-! steps: fits, changed *) -/
section STP3
variable {G : aG} {d k : Nat} {z : aZ} {hr : aR} {hi hi' hl hl' : aI}
theorem isB_cg {P P' : Prop} {r : Option aV} (e : P ↔ P') (h : isB P r) : isB P' r := by
  obtain ⟨b, h₁, h₂⟩ := h
  exact ⟨b, h₁, h₂.imp (fun x => ⟨x.1, e.mp x.2⟩) (fun x => ⟨x.1, fun y => x.2 (e.mpr y)⟩)⟩
theorem gP.mk (h : gP k z hr hi) {x r : Int} (x₀ : 0 ≤ x) (x₁ : x < hi 37 25) (r₀ : 0 ≤ r) (r₁ : r < 4) : hi (mC hr x) (2 * r) = hi 57 (8 * x + 2 * r + 0) ∧ hi (mC hr x) (2 * r + 1) = hi 57 (8 * x + 2 * r + 1) := by
  have v₉ := (h.2.1 x x₀ x₁).2.1.2.2.2.2.2.2.2.2
  refine ⟨?_, ?_⟩
  · rw [v₉ (2 * r) (by omega) (by omega), Int.add_zero]
  · rw [v₉ (2 * r + 1) (by omega) (by omega), ← Int.add_assoc]
theorem gP.org_ (h : gP k z hr hi) {p s : Int} (p₀ : 0 ≤ p) (p₁ : p < hi 37 25) (s₀ : 0 ≤ s) (s₁ : s < hi 37 25) : a_ct G mX3_fitsOriginOf (d + 2) [vR (pC hr p), vR (pC hr s)] z hr hi hl (Qs z hr hi hl (isB (mFit hi p s))) := by
  obtain ⟨a, -, -, -⟩ := h.2.1 p p₀ p₁
  obtain ⟨b, v, t, -⟩ := h.2.1 s s₀ s₁
  have up : ∀ {Q : Int → Prop}, ¬ hi 53 s = 0 → (∀ r, 0 ≤ r → r < 4 → (Q r ↔ mFitR hi p s r)) → ((∀ j, 0 ≤ j → j < 4 → Q j) ↔ mFit hi p s) := fun {Q} n e => ⟨fun w => Or.inr fun r r₀ r₁ => (e r r₀ r₁).mp (w r r₀ r₁), fun w => w.elim (fun c => absurd c n) (fun w r r₀ r₁ => (e r r₀ r₁).mpr (w r r₀ r₁))⟩
  rcases t with ⟨t₁, t₂, t₃, t₄, t₅, t₆, t₇, t₈⟩ | ⟨t₁, t₂, t₃, t₄, t₅, t₆, t₇⟩
  · refine (c_org0 (d := d) b.2.1 t₄).mono (fun r z' hr' hi' hl' q => ?_)
    obtain ⟨e₁, e₂, e₃, e₄, rfl⟩ := q
    exact ⟨e₁, e₂, e₃, e₄, 1, rfl, Or.inl ⟨rfl, Or.inl t₁⟩⟩
  · have m := (h.2.1 _ t₂.1 (by omega : hi 54 s < hi 37 25)).1
    by_cases c : hi 53 s = 1
    · rcases t₄ with ⟨u₁, u₂⟩ | ⟨u₁, u₂, u₃⟩
      · refine (c_org1 (d := d) a.2.1 a.2.2.1 a.2.2.2.1 b.2.1 t₃ m.2.1 m.2.2.1 m.2.2.2.1 (by rw [v.2.1]; exact c) u₂).mono (fun r z' hr' hi' hl' q => ?_)
        obtain ⟨e₁, e₂, e₃, e₄, q⟩ := q
        refine ⟨e₁, e₂, e₃, e₄, isB_cg (up (by omega) fun r r₀ r₁ => ?_) q⟩
        unfold f1
        rw [(h.mk p₀ p₁ r₀ r₁).1, (h.mk p₀ p₁ r₀ r₁).2, (h.mk t₂.1 (by omega) r₀ r₁).1, (h.mk t₂.1 (by omega) r₀ r₁).2]
        exact ⟨fun w => ⟨fun q => absurd q (by omega), fun _ _ => w, fun _ q => absurd q (by omega)⟩, fun w => w.2.1 (by omega) (by omega)⟩
      · have f := (h.2.1 _ u₁.1 (by omega : hi 55 s < hi 37 25)).1
        refine (c_org2 (d := d) a.2.1 a.2.2.1 a.2.2.2.1 b.2.1 t₃ m.2.1 m.2.2.1 m.2.2.2.1 (by rw [v.2.1]; exact c) u₃ f.2.1 f.2.2.1 f.2.2.2.1).mono (fun r z' hr' hi' hl' q => ?_)
        obtain ⟨e₁, e₂, e₃, e₄, q⟩ := q
        refine ⟨e₁, e₂, e₃, e₄, isB_cg (up (by omega) fun r r₀ r₁ => ?_) q⟩
        unfold f2
        rw [(h.mk p₀ p₁ r₀ r₁).1, (h.mk p₀ p₁ r₀ r₁).2, (h.mk t₂.1 (by omega) r₀ r₁).1, (h.mk t₂.1 (by omega) r₀ r₁).2, (h.mk u₁.1 (by omega) r₀ r₁).1, (h.mk u₁.1 (by omega) r₀ r₁).2]
        exact ⟨fun w => ⟨fun q => absurd q (by omega), fun _ q => absurd q (by omega), fun _ _ => w⟩, fun w => w.2.2 (by omega) (by omega)⟩
    · refine (c_orgS (d := d) a.2.1 a.2.2.1 a.2.2.2.1 b.2.1 t₃ m.2.1 m.2.2.1 m.2.2.2.1 (by rw [v.2.1]; exact c)).mono (fun r z' hr' hi' hl' q => ?_)
      obtain ⟨e₁, e₂, e₃, e₄, q⟩ := q
      refine ⟨e₁, e₂, e₃, e₄, isB_cg (up (by omega) fun r r₀ r₁ => ?_) q⟩
      unfold fS
      rw [(h.mk p₀ p₁ r₀ r₁).1, (h.mk p₀ p₁ r₀ r₁).2, (h.mk t₂.1 (by omega) r₀ r₁).1, (h.mk t₂.1 (by omega) r₀ r₁).2]
      exact ⟨fun w => ⟨fun _ => w, fun q => absurd q (by omega), fun q => absurd q (by omega)⟩, fun w => w.1 (by omega)⟩
theorem st_fits (h : RR k z hr hi hl) {p : Int} : stp G d k mX9_fits mX10_fits [vR 0, vI p] [vR 37, vI p] z hr hi hl := by
  obtain ⟨⟨hz, hR, hk, hs⟩, hD, hP, hB, hM, hS, hT, hX⟩ := id h
  have hP₁ := hP.1
  refine (c_fits (d := d + 27) (F := mFit hi) hz hR hP.n hP.cP (fun p q p₀ p₁ q₀ q₁ => hP.org_ p₀ (by omega) q₀ (by omega))).mono (fun r z' hr' hi' hl' q => ?_)
  obtain ⟨e₁, e₂, e₃, e₄, q⟩ := q
  obtain rfl := e₁.symm
  obtain rfl := e₂.symm
  obtain rfl := e₃.symm
  obtain rfl := e₄.symm
  rcases q with ⟨c, v, rfl, w⟩ | ⟨c, rfl⟩
  · refine ⟨_, rfl, hz, (m_fits (d := d + 27) hz hR hP.ori).mono (fun r2 z2 hr2 hi2 hl2 q => ?_)⟩
    obtain ⟨e₁, e₂, e₃, rfl, q⟩ := q
    obtain rfl := e₁.symm
    obtain rfl := e₂.symm
    obtain rfl := e₃.symm
    refine ⟨?_, h.t0⟩
    rcases q with ⟨c₂, ⟨f, rfl⟩ | ⟨f, rfl⟩⟩ | ⟨c₂, rfl⟩
    · rcases w with w | w
      · rw [w.1]
      · exact absurd f w.2
    · rcases w with w | w
      · exact absurd w.2 f
      · rw [w.1]
    · omega
  · refine ⟨_, rfl, hz, (m_fits (d := d + 27) hz hR hP.ori).mono (fun r2 z2 hr2 hi2 hl2 q => ?_)⟩
    obtain ⟨e₁, e₂, e₃, rfl, q⟩ := q
    obtain rfl := e₁.symm
    obtain rfl := e₂.symm
    obtain rfl := e₃.symm
    refine ⟨?_, h.t0⟩
    rcases q with ⟨c₂, q⟩ | ⟨c₂, rfl⟩
    · omega
    · rfl
theorem st_changed (h : RR k z hr hi hl) {a b : Int} : stp G d k mX9_changed mX10_changed [vR 0, vI a, vI b] [vR 37, vI a, vI b] z hr hi hl := by
  obtain ⟨⟨hz, hR, hk, hs⟩, hD, hP, hB, hM, hS, hT, hX⟩ := id h
  have hP₁ := hP.1
  refine (c_changed (d := d + 27) (F := mFit hi) hz hR hP.n hP.cP (fun p q p₀ p₁ q₀ q₁ => hP.org_ p₀ (by omega) q₀ (by omega))).mono (fun r z' hr' hi' hl' q => ?_)
  obtain ⟨e₁, e₂, e₃, e₄, q⟩ := q
  obtain rfl := e₁.symm
  obtain rfl := e₂.symm
  obtain rfl := e₃.symm
  obtain rfl := e₄.symm
  rcases q with ⟨c, v, rfl, w⟩ | ⟨c, rfl⟩
  · refine ⟨_, rfl, hz, (m_changed (d := d + 27) hz hR hP.ori).mono (fun r2 z2 hr2 hi2 hl2 q => ?_)⟩
    obtain ⟨e₁, e₂, e₃, rfl, q⟩ := q
    obtain rfl := e₁.symm
    obtain rfl := e₂.symm
    obtain rfl := e₃.symm
    refine ⟨?_, h.t0⟩
    rcases q with ⟨c₂, ⟨f, rfl⟩ | ⟨f, rfl⟩⟩ | ⟨c₂, rfl⟩
    · rcases w with w | w
      · rw [w.1]
      · exact absurd ⟨⟨f.1, f.2.1⟩, f.2.2⟩ w.2
    · rcases w with w | w
      · exact absurd ⟨w.2.1.1, w.2.1.2, w.2.2⟩ f
      · rw [w.1]
    · omega
  · refine ⟨_, rfl, hz, (m_changed (d := d + 27) hz hR hP.ori).mono (fun r2 z2 hr2 hi2 hl2 q => ?_)⟩
    obtain ⟨e₁, e₂, e₃, rfl, q⟩ := q
    obtain rfl := e₁.symm
    obtain rfl := e₂.symm
    obtain rfl := e₃.symm
    refine ⟨?_, h.t0⟩
    rcases q with ⟨c₂, q⟩ | ⟨c₂, rfl⟩
    · omega
    · rfl
end STP3
