/-! steps: may, send *) -/
section STPE
variable {G : aG} {d k : Nat} {z : aZ} {hr : aR} {hi hi' hl : aI}
theorem gP.place (h : gP k z hr hi) (m : Nat) : ∀ q, 0 ≤ q → q < hi 37 25 → q < m → 0 ≤ hi (pC hr q) 5 ∧ hi (pC hr q) 5 ≤ 99 := by
  induction m with
  | zero => intro q q₀ q₁ q₂; omega
  | succ m ih =>
    intro q q₀ q₁ q₂
    obtain ⟨s, v, t, b⟩ := h.2.1 q q₀ q₁
    rcases t with ⟨t₁, t₂, t₃, t₄, t₅, t₆, t₇, t₈⟩ | ⟨t₁, t₂, t₃, t₄, t₅, t₆, t₇⟩
    · rw [t₇]; exact b.2.2.2 t₁
    · rw [t₆]; exact ih _ t₂.1 (by omega) (by omega)
theorem mEnd_b {f : Int → Int} (hf : ∀ y, 0 ≤ f y ∧ f y ≤ 50) (n : Nat) : ∀ x, 0 ≤ x ∧ x ≤ 50 → 0 ≤ mEnd f n x ∧ mEnd f n x ≤ 50 := by
  induction n with
  | zero => exact fun x h => h
  | succ n ih =>
    intro x h
    unfold mEnd
    split
    · exact ih _ (hf x)
    · exact h
theorem gM.vb (h : gM hi) (x jd : Int) : 0 ≤ mGiven hi x jd ∧ mGiven hi x jd ≤ 50 := by
  have := h.1
  exact ⟨mLast_ge _ (fun i i₀ i₁ => by have := h.2.2.2.2.1 i i₀ (by omega); omega) _, mLast_le _ (fun i i₀ i₁ => by have := h.2.2.2.2.1 i i₀ (by omega); omega) _⟩
theorem mKn_cg {N : Nat} {p h a : Int} (e : ∀ b j, b = 51 ∨ b = 53 ∨ b = 54 ∨ b = 56 ∨ b = 63 ∨ (64 ≤ b ∧ b ≤ 69) ∨ (b = 37 ∧ (j = 24 ∨ j = 37 ∨ j = 41)) → hi' b j = hi b j) : mKn hi' N p h a 51 = mKn hi N p h a 51 := by
  have eb : ∀ b, b = 51 ∨ b = 53 ∨ b = 54 ∨ b = 56 ∨ b = 63 ∨ (64 ≤ b ∧ b ≤ 69) → hi' b = hi b := fun b w => funext fun j => e b j (by omega)
  have en : ∀ dy jd, mName hi' N p dy jd = mName hi N p dy jd := fun dy jd => by
    have eg : mGiven hi' p dy = mGiven hi p dy := by
      show mLast (hi' 64) (hi' 66) (hi' 65) p dy (hi' 37 37).toNat = mLast (hi 64) (hi 66) (hi 65) p dy (hi 37 37).toNat
      rw [eb 64 (by omega), eb 65 (by omega), eb 66 (by omega), e 37 37 (by omega)]
    have ej : (fun y => mJoin hi' y jd) = (fun y => mJoin hi y jd) := funext fun y => by
      show mLast (hi' 67) (hi' 69) (hi' 68) y jd (hi' 37 41).toNat = mLast (hi 67) (hi 69) (hi 68) y jd (hi 37 41).toNat
      rw [eb 67 (by omega), eb 68 (by omega), eb 69 (by omega), e 37 41 (by omega)]
    unfold mName
    rw [eg, ej]
  funext j
  unfold mKn
  simp only [up2_eq]
  rw [eb 63 (by omega), eb 53 (by omega), eb 54 (by omega), eb 56 (by omega), e 37 24 (by omega), en, eb 51 (by omega)]
set_option maxHeartbeats 1000000 in
theorem RR.run (h : RR k z hr hi hl) {c : Nat} {X : List (Int × List (Int × Int))} (x₄ : tOk X) (x₅ : lC c hi 0 0 X) (x₆ : lR (hi 37 15) hi 0 0 X) (x₇ : hi c 7 = X.length) (x₈ : hi 43 (hi 37 15) = X.length) {p ho a : Int} (hv : (0 ≤ p ∧ p < hi 0 9) ∧ (0 ≤ ho ∧ ho ≤ 99) ∧ (0 ≤ a ∧ a ≤ 9)) :
    ∃ (v : Int) (u : Int → Int) (t₂ : Int) (w : Int → Int), (v = 0 ∨ v = 1) ∧ cLe (hi (c + 1)) (hi (c + 2)) (cKn hr hi p ho a 30) (hi (c + 3)) (hi (c + 4)) (hi c 7).toNat 0 0 (hi c 5) (hi (c + 5)) = some (v, u, t₂) ∧ leR (hi 46) (hi 47) (mKn hi 50 p ho a 51) (hi 45) (hi 44) 700 (hi 43 (hi 37 15)).toNat (16 * hi 37 15) (hi 52) = some (v, w) := by
  obtain ⟨⟨hz, hR, hk, hs⟩, hD, hP, hB, hM, hS, hT, hX⟩ := id h
  have hP₁ := hP.1
  have p₀ : 0 ≤ p := hv.1.1
  have p₁ : p < hi 37 25 := by omega
  obtain ⟨o₁, o₂, o₃⟩ := hP.org 40 p p₀ p₁ (by omega)
  have v8 := (hP.2.1 p p₀ p₁).2.1.2.2.1
  have b8 := (hP.2.2.2.1 p).1
  have pl := hP.place 40 p p₀ p₁ (by omega)
  have nm := hM.nm p (hi 0 11) (hi 0 11)
  have nb := mEnd_b (f := fun y => mJoin hi y (hi 0 11)) (fun y => hM.jb y _) 50 (mGiven hi p (hi 0 11)) (hM.vb p _)
  rw [← hM.gv, ← show (fun y => cJoin hi y (hi 0 11)) = (fun y => mJoin hi y (hi 0 11)) from funext fun y => hM.jn y _] at nb
  have hkn : ∀ i, 0 ≤ i → i < 7 → cKn hr hi p ho a 30 i = mKn hi 50 p ho a 51 i ∧ 0 ≤ cKn hr hi p ho a 30 i ∧ cKn hr hi p ho a 30 i ≤ 9999 := fun i i₀ i₁ => by
    have e : i = 0 ∨ i = 1 ∨ i = 2 ∨ i = 3 ∨ i = 4 ∨ i = 5 ∨ i = 6 := by omega
    unfold cKn mKn
    rcases e with rfl | rfl | rfl | rfl | rfl | rfl | rfl
    · show hi (pC hr p) 5 = hi 63 (mRoot (hi 53) (hi 54) 40 p) ∧ 0 ≤ hi (pC hr p) 5 ∧ hi (pC hr p) 5 ≤ 9999
      exact ⟨o₂, by omega, by omega⟩
    · show mEnd (fun y => cJoin hi y (hi 0 11)) 50 (cGiven hi p (hi 0 11)) = mName hi 50 p (hi 37 24) (hi 37 24) ∧ 0 ≤ mEnd (fun y => cJoin hi y (hi 0 11)) 50 (cGiven hi p (hi 0 11)) ∧ mEnd (fun y => cJoin hi y (hi 0 11)) 50 (cGiven hi p (hi 0 11)) ≤ 9999
      refine ⟨by rw [nm, hD.1], nb.1, by omega⟩
    · show ho = ho ∧ 0 ≤ ho ∧ ho ≤ 9999
      exact ⟨rfl, by omega, by omega⟩
    · show a = a ∧ 0 ≤ a ∧ a ≤ 9999
      exact ⟨rfl, by omega, by omega⟩
    · show (if hi (pC hr p) 6 = 0 then (0 : Int) else 1) = (if hi 53 (mStem (hi 53) (hi 54) 40 p) = 2 then 1 else 0) ∧ 0 ≤ (if hi (pC hr p) 6 = 0 then (0 : Int) else 1) ∧ (if hi (pC hr p) 6 = 0 then (0 : Int) else 1) ≤ 9999
      rw [o₃]
      by_cases u : hi 53 (mStem (hi 53) (hi 54) 40 p) = 2
      · rw [if_pos u]; decide
      · rw [if_neg u]; decide
    · show hi (pC hr p) 8 = hi 56 p ∧ 0 ≤ hi (pC hr p) 8 ∧ hi (pC hr p) 8 ≤ 9999
      exact ⟨v8, by omega, by omega⟩
    · show hi 0 11 = hi 37 24 ∧ 0 ≤ hi 0 11 ∧ hi 0 11 ≤ 9999
      have := hD.2
      have := hD.1
      exact ⟨hD.1, by omega, by omega⟩
  obtain ⟨y₁, y₂, y₃⟩ := x₄
  obtain ⟨v, u, t₂, w, r₁, r₂, r₃⟩ := le_both hX.2.1 hkn X 0 0 0 (hi c 5) (hi (c + 5)) (hi 52) x₅ x₆ y₁ (by decide) (by omega) (by decide) (by omega) (by decide)
  refine ⟨v, u, t₂, w, r₁, ?_, ?_⟩
  · rw [x₇]; exact r₂
  · rw [x₈]
    rw [show 16 * hi 37 15 + 0 = 16 * hi 37 15 by omega] at r₃
    exact r₃
set_option maxHeartbeats 1000000 in
theorem st_may22 (h : RR k z hr hi hl) {p ho a : Int} {X : List (Int × List (Int × Int))} (x₂ : hr 0 8 = some 22) (x₄ : tOk X) (x₅ : lC 22 hi 0 0 X) (x₆ : lR (hi 37 15) hi 0 0 X) (x₇ : hi 22 7 = X.length) (x₈ : hi 43 (hi 37 15) = X.length) : stp G d k mX9_may mX10_may [vR 0, vI p, vI ho, vI a] [vR 37, vI p, vI ho, vI a] z hr hi hl := by
  obtain ⟨⟨hz, hR, hk, hs⟩, hD, hP, hB, hM, hS, hT, hX⟩ := id h
  have hP₁ := hP.1
  have hM₁ := hM.1
  have hM₂ := hM.2.1
  have hS₁ := hS.1
  have y₂ := x₄.2.1
  have p8 : ∀ q, 0 ≤ q → q < hi 0 9 → 81 ≤ pC hr q := fun q q₀ q₁ => (hP.st q₀ (by omega)).2.2.2.2.1
  have v8 : ∀ q, 0 ≤ q → q < hi 37 25 → hi (pC hr q) 8 = hi 56 q := fun q q₀ q₁ => (hP.2.1 q q₀ q₁).2.1.2.2.1
  have hpc : ∀ q, 0 ≤ hi 56 q ∧ hi 56 q ≤ 100 := fun q => (hP.2.2.2.1 q).1
  by_cases hv : (0 ≤ p ∧ p < hi 0 9) ∧ (0 ≤ ho ∧ ho ≤ 99) ∧ (0 ≤ a ∧ a ≤ 9)
  · obtain ⟨v, u, t₂, w, r₁, r₂, r₃⟩ := h.run x₄ x₅ x₆ x₇ x₈ hv
    have aU : ∀ b j, ¬ (b = 30 ∨ b = 27 ∨ (b = 22 ∧ j = 5)) → (vH22 (cKn hr hi p ho a) u t₂) b j = hi b j := fun b j q => by
      rw [vH22_eq, if_neg (by omega), if_neg (by omega), cKn_f (by omega)]
    have fU : ∀ b, ¬ (b = 30 ∨ b = 27 ∨ b = 22) → (vH22 (cKn hr hi p ho a) u t₂) b = hi b := fun b q => funext fun j => aU b j (by omega)
    have hU : RR k z hr (vH22 (cKn hr hi p ho a) u t₂) hl := h.cgk (fun b j q => aU b j (fun w => q (by unfold NR rdD rdP rdB rdM rdS rdT rdX; omega))) rfl rfl
    obtain ⟨-, hD', hP', hB', hM', hS', hT', hX'⟩ := id hU
    have ek : mKn (up2 (vH22 (cKn hr hi p ho a) u t₂) 37 0 0) 50 p ho a 51 = mKn hi 50 p ho a 51 := mKn_cg fun b j q => by rw [up2_if (by omega)]; exact aU b j (by omega)
    have run' : leR ((vH22 (cKn hr hi p ho a) u t₂) 46) ((vH22 (cKn hr hi p ho a) u t₂) 47) (mKn (up2 (vH22 (cKn hr hi p ho a) u t₂) 37 0 0) 50 p ho a 51) ((vH22 (cKn hr hi p ho a) u t₂) 45) ((vH22 (cKn hr hi p ho a) u t₂) 44) 700 ((vH22 (cKn hr hi p ho a) u t₂) 43 ((vH22 (cKn hr hi p ho a) u t₂) 37 15)).toNat (16 * (vH22 (cKn hr hi p ho a) u t₂) 37 15) ((vH22 (cKn hr hi p ho a) u t₂) 52) = some (v, w) := by
      rw [ek, fU 46 (by omega), fU 47 (by omega), fU 45 (by omega), fU 44 (by omega), fU 43 (by omega), fU 37 (by omega), fU 52 (by omega)]
      exact r₃
    have hL' : 0 ≤ (vH22 (cKn hr hi p ho a) u t₂) 43 ((vH22 (cKn hr hi p ho a) u t₂) 37 15) ∧ (vH22 (cKn hr hi p ho a) u t₂) 43 ((vH22 (cKn hr hi p ho a) u t₂) 37 15) ≤ 16 := by
      rw [fU 43 (by omega), fU 37 (by omega), x₈]
      omega
    have hZ' : ∀ x, mZ (fun y => mJoin (vH22 (cKn hr hi p ho a) u t₂) y ((vH22 (cKn hr hi p ho a) u t₂) 37 24)) 50 (mJoin (vH22 (cKn hr hi p ho a) u t₂) x ((vH22 (cKn hr hi p ho a) u t₂) 37 24)) := fun x => hM'.zz _ _
    have pilN : ∀ b j, ¬ NR b j → pil (mKn (up2 (vH22 (cKn hr hi p ho a) u t₂) 37 0 0) 50 p ho a) w b j = (vH22 (cKn hr hi p ho a) u t₂) b j := fun b j q => by
      have w51 : ¬ b = 51 := fun e => q (by unfold NR rdD rdP rdB rdM rdS rdT rdX; omega)
      have w52 : ¬ b = 52 := fun e => q (by unfold NR rdD rdP rdB rdM rdS rdT rdX; omega)
      have w0 : ¬ (b = 37 ∧ j = 0) := fun e => q (by unfold NR rdD rdP rdB rdM rdS rdT rdX; omega)
      rw [pil_eq, if_neg w52]
      unfold mKn
      rw [up2_if (by omega), up2_if (by omega), up2_if (by omega), up2_if (by omega), up2_if (by omega), up2_if (by omega), up2_if (by omega), up2_if w0]
    refine (c_mayC22 (d := d + 26) hz hR hP.n hP.cP p8 x₂ (by omega) (by omega) (fun x => by rw [hM.jn]; exact (hM.jb x _).1) (by omega) (fun l _ _ => hX.2.2.1 l) (fun _ => ⟨r₁, r₂⟩)).mono (fun r z' hr' hi' hl' q => ?_)
    obtain ⟨e₁, e₂, e₃, q⟩ := q
    obtain rfl := e₁.symm
    obtain rfl := e₂.symm
    obtain rfl := e₃.symm
    rcases q with ⟨c₁, rfl, rfl⟩ | ⟨c₁, -⟩
    · refine ⟨_, rfl, hz, (m_may (d := d + 26) (N := 50) (F := 700) hz hR hP'.tree hM'.1.2 hM'.2.1.2 hZ' hX'.2.1 hL' (fun _ => ⟨r₁, run'⟩)).mono (fun r2 z2 hr2 hi2 hl2 q => ?_)⟩
      obtain ⟨e₁, e₂, e₃, q⟩ := q
      obtain rfl := e₁.symm
      obtain rfl := e₂.symm
      obtain rfl := e₃.symm
      rcases q with ⟨c₂, rfl, rfl⟩ | ⟨c₂, -⟩
      · exact ⟨rfl, hU.cg pilN rfl rfl⟩
      · exfalso
        rw [aU 37 25 (by omega)] at c₂
        omega
    · exact absurd hv c₁
  · refine (c_mayC22 (d := d + 26) (v := 0) (t2 := 0) (g := fun _ => 0) hz hR hP.n hP.cP p8 x₂ (by omega) (by omega) (fun x => by rw [hM.jn]; exact (hM.jb x _).1) (by omega) (fun l _ _ => hX.2.2.1 l) (fun q => absurd q hv)).mono (fun r z' hr' hi' hl' q => ?_)
    obtain ⟨e₁, e₂, e₃, q⟩ := q
    obtain rfl := e₁.symm
    obtain rfl := e₂.symm
    obtain rfl := e₃.symm
    rcases q with ⟨c₁, -⟩ | ⟨c₁, rfl, e₅⟩
    · exact absurd c₁ hv
    · obtain rfl := e₅.symm
      refine ⟨_, rfl, hz, (m_may (d := d + 26) (N := 50) (F := 700) (v := 0) (g := fun _ => 0) hz hR hP.tree hM₁.2 hM₂.2 (fun x => hM.zz _ _) hX.2.1 (by rw [x₈]; omega) (fun q => by omega)).mono (fun r2 z2 hr2 hi2 hl2 q => ?_)⟩
      obtain ⟨e₁, e₂, e₃, q⟩ := q
      obtain rfl := e₁.symm
      obtain rfl := e₂.symm
      obtain rfl := e₃.symm
      rcases q with ⟨c₂, -⟩ | ⟨c₂, rfl, rfl⟩
      · omega
      · exact ⟨rfl, h.t0⟩
set_option maxHeartbeats 1000000 in
theorem st_may31 (h : RR k z hr hi hl) {p ho a : Int} {X : List (Int × List (Int × Int))} (x₂ : hr 0 8 = some 31) (x₄ : tOk X) (x₅ : lC 31 hi 0 0 X) (x₆ : lR (hi 37 15) hi 0 0 X) (x₇ : hi 31 7 = X.length) (x₈ : hi 43 (hi 37 15) = X.length) : stp G d k mX9_may mX10_may [vR 0, vI p, vI ho, vI a] [vR 37, vI p, vI ho, vI a] z hr hi hl := by
  obtain ⟨⟨hz, hR, hk, hs⟩, hD, hP, hB, hM, hS, hT, hX⟩ := id h
  have hP₁ := hP.1
  have hM₁ := hM.1
  have hM₂ := hM.2.1
  have hS₁ := hS.1
  have y₂ := x₄.2.1
  have p8 : ∀ q, 0 ≤ q → q < hi 0 9 → 81 ≤ pC hr q := fun q q₀ q₁ => (hP.st q₀ (by omega)).2.2.2.2.1
  have v8 : ∀ q, 0 ≤ q → q < hi 37 25 → hi (pC hr q) 8 = hi 56 q := fun q q₀ q₁ => (hP.2.1 q q₀ q₁).2.1.2.2.1
  have hpc : ∀ q, 0 ≤ hi 56 q ∧ hi 56 q ≤ 100 := fun q => (hP.2.2.2.1 q).1
  by_cases hv : (0 ≤ p ∧ p < hi 0 9) ∧ (0 ≤ ho ∧ ho ≤ 99) ∧ (0 ≤ a ∧ a ≤ 9)
  · obtain ⟨v, u, t₂, w, r₁, r₂, r₃⟩ := h.run x₄ x₅ x₆ x₇ x₈ hv
    have aU : ∀ b j, ¬ (b = 30 ∨ b = 36 ∨ (b = 31 ∧ j = 5)) → (vH31 (cKn hr hi p ho a) u t₂) b j = hi b j := fun b j q => by
      rw [vH31_eq, if_neg (by omega), if_neg (by omega), cKn_f (by omega)]
    have fU : ∀ b, ¬ (b = 30 ∨ b = 36 ∨ b = 31) → (vH31 (cKn hr hi p ho a) u t₂) b = hi b := fun b q => funext fun j => aU b j (by omega)
    have hU : RR k z hr (vH31 (cKn hr hi p ho a) u t₂) hl := h.cgk (fun b j q => aU b j (fun w => q (by unfold NR rdD rdP rdB rdM rdS rdT rdX; omega))) rfl rfl
    obtain ⟨-, hD', hP', hB', hM', hS', hT', hX'⟩ := id hU
    have ek : mKn (up2 (vH31 (cKn hr hi p ho a) u t₂) 37 0 0) 50 p ho a 51 = mKn hi 50 p ho a 51 := mKn_cg fun b j q => by rw [up2_if (by omega)]; exact aU b j (by omega)
    have run' : leR ((vH31 (cKn hr hi p ho a) u t₂) 46) ((vH31 (cKn hr hi p ho a) u t₂) 47) (mKn (up2 (vH31 (cKn hr hi p ho a) u t₂) 37 0 0) 50 p ho a 51) ((vH31 (cKn hr hi p ho a) u t₂) 45) ((vH31 (cKn hr hi p ho a) u t₂) 44) 700 ((vH31 (cKn hr hi p ho a) u t₂) 43 ((vH31 (cKn hr hi p ho a) u t₂) 37 15)).toNat (16 * (vH31 (cKn hr hi p ho a) u t₂) 37 15) ((vH31 (cKn hr hi p ho a) u t₂) 52) = some (v, w) := by
      rw [ek, fU 46 (by omega), fU 47 (by omega), fU 45 (by omega), fU 44 (by omega), fU 43 (by omega), fU 37 (by omega), fU 52 (by omega)]
      exact r₃
    have hL' : 0 ≤ (vH31 (cKn hr hi p ho a) u t₂) 43 ((vH31 (cKn hr hi p ho a) u t₂) 37 15) ∧ (vH31 (cKn hr hi p ho a) u t₂) 43 ((vH31 (cKn hr hi p ho a) u t₂) 37 15) ≤ 16 := by
      rw [fU 43 (by omega), fU 37 (by omega), x₈]
      omega
    have hZ' : ∀ x, mZ (fun y => mJoin (vH31 (cKn hr hi p ho a) u t₂) y ((vH31 (cKn hr hi p ho a) u t₂) 37 24)) 50 (mJoin (vH31 (cKn hr hi p ho a) u t₂) x ((vH31 (cKn hr hi p ho a) u t₂) 37 24)) := fun x => hM'.zz _ _
    have pilN : ∀ b j, ¬ NR b j → pil (mKn (up2 (vH31 (cKn hr hi p ho a) u t₂) 37 0 0) 50 p ho a) w b j = (vH31 (cKn hr hi p ho a) u t₂) b j := fun b j q => by
      have w51 : ¬ b = 51 := fun e => q (by unfold NR rdD rdP rdB rdM rdS rdT rdX; omega)
      have w52 : ¬ b = 52 := fun e => q (by unfold NR rdD rdP rdB rdM rdS rdT rdX; omega)
      have w0 : ¬ (b = 37 ∧ j = 0) := fun e => q (by unfold NR rdD rdP rdB rdM rdS rdT rdX; omega)
      rw [pil_eq, if_neg w52]
      unfold mKn
      rw [up2_if (by omega), up2_if (by omega), up2_if (by omega), up2_if (by omega), up2_if (by omega), up2_if (by omega), up2_if (by omega), up2_if w0]
    refine (c_mayC31 (d := d + 26) hz hR hP.n hP.cP p8 x₂ (by omega) (by omega) (fun x => by rw [hM.jn]; exact (hM.jb x _).1) (by omega) (fun l _ _ => hX.2.2.2.1 l) (fun _ => ⟨r₁, r₂⟩)).mono (fun r z' hr' hi' hl' q => ?_)
    obtain ⟨e₁, e₂, e₃, q⟩ := q
    obtain rfl := e₁.symm
    obtain rfl := e₂.symm
    obtain rfl := e₃.symm
    rcases q with ⟨c₁, rfl, rfl⟩ | ⟨c₁, -⟩
    · refine ⟨_, rfl, hz, (m_may (d := d + 26) (N := 50) (F := 700) hz hR hP'.tree hM'.1.2 hM'.2.1.2 hZ' hX'.2.1 hL' (fun _ => ⟨r₁, run'⟩)).mono (fun r2 z2 hr2 hi2 hl2 q => ?_)⟩
      obtain ⟨e₁, e₂, e₃, q⟩ := q
      obtain rfl := e₁.symm
      obtain rfl := e₂.symm
      obtain rfl := e₃.symm
      rcases q with ⟨c₂, rfl, rfl⟩ | ⟨c₂, -⟩
      · exact ⟨rfl, hU.cg pilN rfl rfl⟩
      · exfalso
        rw [aU 37 25 (by omega)] at c₂
        omega
    · exact absurd hv c₁
  · refine (c_mayC31 (d := d + 26) (v := 0) (t2 := 0) (g := fun _ => 0) hz hR hP.n hP.cP p8 x₂ (by omega) (by omega) (fun x => by rw [hM.jn]; exact (hM.jb x _).1) (by omega) (fun l _ _ => hX.2.2.2.1 l) (fun q => absurd q hv)).mono (fun r z' hr' hi' hl' q => ?_)
    obtain ⟨e₁, e₂, e₃, q⟩ := q
    obtain rfl := e₁.symm
    obtain rfl := e₂.symm
    obtain rfl := e₃.symm
    rcases q with ⟨c₁, -⟩ | ⟨c₁, rfl, e₅⟩
    · exact absurd c₁ hv
    · obtain rfl := e₅.symm
      refine ⟨_, rfl, hz, (m_may (d := d + 26) (N := 50) (F := 700) (v := 0) (g := fun _ => 0) hz hR hP.tree hM₁.2 hM₂.2 (fun x => hM.zz _ _) hX.2.1 (by rw [x₈]; omega) (fun q => by omega)).mono (fun r2 z2 hr2 hi2 hl2 q => ?_)⟩
      obtain ⟨e₁, e₂, e₃, q⟩ := q
      obtain rfl := e₁.symm
      obtain rfl := e₂.symm
      obtain rfl := e₃.symm
      rcases q with ⟨c₂, -⟩ | ⟨c₂, rfl, rfl⟩
      · omega
      · exact ⟨rfl, h.t0⟩
theorem st_may (h : RR k z hr hi hl) {p ho a : Int} : stp G d k mX9_may mX10_may [vR 0, vI p, vI ho, vI a] [vR 37, vI p, vI ho, vI a] z hr hi hl := by
  obtain ⟨c, o, X, x₁, x₂, x₃, x₄, x₅, x₆, x₇, x₈⟩ := h.2.2.2.2.2.2.2.1
  rcases x₁ with ⟨rfl, rfl⟩ | ⟨rfl, rfl⟩
  · exact st_may22 h x₂ x₄ x₅ x₆ x₇ x₈
  · exact st_may31 h x₂ x₄ x₅ x₆ x₇ x₈
end STPE
