/-! steps: send *) -/
section STPF
variable {G : aG} {d k : Nat} {z : aZ} {hr : aR} {hi hi' hl : aI}
set_option maxHeartbeats 4000000 in
theorem st_send22 (h : RR k z hr hi hl) {p ho a : Int} {X : List (Int × List (Int × Int))} (x₂ : hr 0 8 = some 22) (x₄ : tOk X) (x₅ : lC 22 hi 0 0 X) (x₆ : lR (hi 37 15) hi 0 0 X) (x₇ : hi 22 7 = X.length) (x₈ : hi 43 (hi 37 15) = X.length) : stp G d k mX9_send mX10_send [vR 0, vI p, vI ho, vI a] [vR 37, vI p, vI ho, vI a] z hr hi hl := by
  obtain ⟨⟨hz, hR, hk, hs⟩, hD, hP, hB, hM, hS, hT, hX⟩ := id h
  have hP₁ := hP.1
  have hM₁ := hM.1
  have hM₂ := hM.2.1
  have hS₁ := hS.1
  have y₂ := x₄.2.1
  have p8 : ∀ q, 0 ≤ q → q < hi 0 9 → 81 ≤ pC hr q := fun q q₀ q₁ => (hP.st q₀ (by omega)).2.2.2.2.1
  have v8 : ∀ q, 0 ≤ q → q < hi 37 25 → hi (pC hr q) 8 = hi 56 q := fun q q₀ q₁ => (hP.2.1 q q₀ q₁).2.1.2.2.1
  have hpc : ∀ q, 0 ≤ hi 56 q ∧ hi 56 q ≤ 100 := fun q => (hP.2.2.2.1 q).1
  by_cases hv : (0 ≤ p ∧ p < hi 0 9) ∧ (0 ≤ ho ∧ ho ≤ 99) ∧ (0 ≤ a ∧ a ≤ 9)
  · obtain ⟨v, u, t₂, w, r₁, r₂, r₃⟩ := h.run x₄ x₅ x₆ x₇ x₈ hv
    have aU : ∀ b j, ¬ (b = 30 ∨ b = 27 ∨ (b = 22 ∧ j = 5)) → (vH22 (cKn hr hi p ho a) u t₂) b j = hi b j := fun b j q => by
      rw [vH22_eq, if_neg (by omega), if_neg (by omega), cKn_f (by omega)]
    have fU : ∀ b, ¬ (b = 30 ∨ b = 27 ∨ b = 22) → (vH22 (cKn hr hi p ho a) u t₂) b = hi b := fun b q => funext fun j => aU b j (by omega)
    have hU : RR k z hr (vH22 (cKn hr hi p ho a) u t₂) hl := h.cgk (fun b j q => aU b j (fun w => q (by unfold NR rdD rdP rdB rdM rdS rdT rdX; omega))) rfl rfl
    obtain ⟨-, hD', hP', hB', hM', hS', hT', hX'⟩ := id hU
    have ek : mKn (up2 (vH22 (cKn hr hi p ho a) u t₂) 37 0 0) 50 p ho a 51 = mKn hi 50 p ho a 51 := mKn_cg fun b j q => by rw [up2_if (by omega)]; exact aU b j (by omega)
    have run' : leR ((vH22 (cKn hr hi p ho a) u t₂) 46) ((vH22 (cKn hr hi p ho a) u t₂) 47) (mKn (up2 (vH22 (cKn hr hi p ho a) u t₂) 37 0 0) 50 p ho a 51) ((vH22 (cKn hr hi p ho a) u t₂) 45) ((vH22 (cKn hr hi p ho a) u t₂) 44) 700 ((vH22 (cKn hr hi p ho a) u t₂) 43 ((vH22 (cKn hr hi p ho a) u t₂) 37 15)).toNat (16 * (vH22 (cKn hr hi p ho a) u t₂) 37 15) ((vH22 (cKn hr hi p ho a) u t₂) 52) = some (v, w) := by
      rw [ek, fU 46 (by omega), fU 47 (by omega), fU 45 (by omega), fU 44 (by omega), fU 43 (by omega), fU 37 (by omega), fU 52 (by omega)]
      exact r₃
    have hL' : 0 ≤ (vH22 (cKn hr hi p ho a) u t₂) 43 ((vH22 (cKn hr hi p ho a) u t₂) 37 15) ∧ (vH22 (cKn hr hi p ho a) u t₂) 43 ((vH22 (cKn hr hi p ho a) u t₂) 37 15) ≤ 16 := by
      rw [fU 43 (by omega), fU 37 (by omega), x₈]
      omega
    have hZ' : ∀ x, mZ (fun y => mJoin (vH22 (cKn hr hi p ho a) u t₂) y ((vH22 (cKn hr hi p ho a) u t₂) 37 24)) 50 (mJoin (vH22 (cKn hr hi p ho a) u t₂) x ((vH22 (cKn hr hi p ho a) u t₂) 37 24)) := fun x => hM'.zz _ _
    have pilN : ∀ b j, ¬ NR b j → pil (mKn (up2 (vH22 (cKn hr hi p ho a) u t₂) 37 0 0) 50 p ho a) w b j = (vH22 (cKn hr hi p ho a) u t₂) b j := fun b j q => by
      have w51 : ¬ b = 51 := fun e => q (by unfold NR rdD rdP rdB rdM rdS rdT rdX; omega)
      have w52 : ¬ b = 52 := fun e => q (by unfold NR rdD rdP rdB rdM rdS rdT rdX; omega)
      have w0 : ¬ (b = 37 ∧ j = 0) := fun e => q (by unfold NR rdD rdP rdB rdM rdS rdT rdX; omega)
      rw [pil_eq, if_neg w52]
      unfold mKn
      rw [up2_if (by omega), up2_if (by omega), up2_if (by omega), up2_if (by omega), up2_if (by omega), up2_if (by omega), up2_if (by omega), up2_if w0]
    have p₀ : 0 ≤ p := hv.1.1
    have p₁ : p < hi 37 25 := by omega
    have vp := v8 p p₀ p₁
    have s8 := (hP.st p₀ p₁).2.2.2.2
    refine (c_sendC22 (d := d + 25)  hz hR hP.n hP.cP p8 (fun q q₀ q₁ => by rw [v8 q q₀ (by omega)]; exact hpc q) (by omega) x₂ (by omega) (by omega) (fun x => by rw [hM.jn]; exact (hM.jb x _).1) (by omega) (fun l _ _ => hX.2.2.1 l) (fun _ => ⟨r₁, r₂⟩)).mono (fun r z' hr' hi' hl' q => ?_)
    obtain ⟨e₁, e₂, e₃, q⟩ := q
    obtain rfl := e₁.symm
    obtain rfl := e₂.symm
    obtain rfl := e₃.symm
    rcases q with ⟨c₁, c₃, rfl, e₀⟩ | ⟨c₁, c₃, rfl, rfl⟩ | ⟨c₁, rfl, e₅⟩
    · have u1 : (vH22 (cKn hr hi p ho a) u t₂) 28 1 = hi 28 1 := aU 28 1 (by omega)
      have u8 : (vH22 (cKn hr hi p ho a) u t₂) (pC hr p) 8 = hi 56 p := (aU _ 8 (by omega)).trans vp
      have u11 : (vH22 (cKn hr hi p ho a) u t₂) 0 11 = hi 0 11 := aU 0 11 (by omega)
      unfold cSnd at e₀
      rw [u1, u8, u11] at e₀
      have aW : ∀ b j, ¬ (b = 29 ∨ (b = 28 ∧ j = 1) ∨ (b = pC hr p ∧ j = 8)) → hi' b j = (vH22 (cKn hr hi p ho a) u t₂) b j := fun b j q => by rw [e₀, up2_if (by omega), up2_if (by omega), up2_if (by omega), up2_if (by omega), up2_if (by omega), up2_if (by omega)]
      have fW : ∀ b, ¬ (b = 29 ∨ b = 28 ∨ b = pC hr p) → hi' b = (vH22 (cKn hr hi p ho a) u t₂) b := fun b q => funext fun j => aW b j (by omega)
      have eW : mKn (up2 hi' 37 0 0) 50 p ho a 51 = mKn hi 50 p ho a 51 := mKn_cg fun b j q => by rw [up2_if (by omega), aW b j (by omega)]; exact aU b j (by omega)
      have hL2 : 0 ≤ hi' 43 (hi' 37 15) ∧ hi' 43 (hi' 37 15) ≤ 16 := by rw [fW 43 (by omega), fW 37 (by omega)]; exact hL'
      have runW : leR (hi' 46) (hi' 47) (mKn (up2 hi' 37 0 0) 50 p ho a 51) (hi' 45) (hi' 44) 700 (hi' 43 (hi' 37 15)).toNat (16 * hi' 37 15) (hi' 52) = some (v, w) := by
        rw [eW, ← ek, fW 46 (by omega), fW 47 (by omega), fW 45 (by omega), fW 44 (by omega), fW 43 (by omega), fW 37 (by omega), fW 52 (by omega)]
        exact run'
      have jW' : ∀ x jd, mJoin hi' x jd = mJoin (vH22 (cKn hr hi p ho a) u t₂) x jd := fun x jd => by
        show mLast (hi' 67) (hi' 69) (hi' 68) x jd (hi' 37 41).toNat = mLast ((vH22 (cKn hr hi p ho a) u t₂) 67) ((vH22 (cKn hr hi p ho a) u t₂) 69) ((vH22 (cKn hr hi p ho a) u t₂) 68) x jd ((vH22 (cKn hr hi p ho a) u t₂) 37 41).toNat
        rw [fW 67 (by omega), fW 68 (by omega), fW 69 (by omega), fW 37 (by omega)]
      have q25 := (aW 37 25 (by omega)).trans (aU 37 25 (by omega))
      have q54 := (aW 37 54 (by omega)).trans (aU 37 54 (by omega))
      have q56 : ∀ q, hi' 56 q = hi 56 q := fun q => (aW 56 q (by omega)).trans (aU 56 q (by omega))
      refine ⟨_, rfl, hz, (m_send (d := d + 26) (N := 50) (F := 700) hz hR (by unfold mTree; rw [fW 37 (by omega), fW 53 (by omega), fW 54 (by omega)]; exact hP'.tree) (by rw [fW 37 (by omega)]; exact hM'.1.2) (by rw [fW 37 (by omega)]; exact hM'.2.1.2) (fun x => by rw [show (fun y => mJoin hi' y (hi' 37 24)) = (fun y => mJoin (vH22 (cKn hr hi p ho a) u t₂) y (hi' 37 24)) from funext fun y => jW' y _]; exact hM'.zz _ _) (by rw [fW 37 (by omega)]; exact hX'.2.1) hL2 (fun q => by rw [q56]; exact hpc q) (by rw [q54]; exact hS₁.2) (fun _ => ⟨r₁, runW⟩)).mono (fun r2 z2 hr2 hi2 hl2 q => ?_)⟩
      obtain ⟨e₁, e₂, e₃, q⟩ := q
      obtain rfl := e₁.symm
      obtain rfl := e₂.symm
      obtain rfl := e₃.symm
      rw [q25, q54, q56] at q
      rcases q with ⟨c₂, -, rfl, e₄⟩ | ⟨c₂, c₄, -⟩ | ⟨c₂, -⟩
      · have P0 : ∀ b j, ¬ b = 51 → ¬ b = 52 → ¬ (b = 37 ∧ j = 0) → pil (mKn (up2 hi' 37 0 0) 50 p ho a) w b j = hi' b j := fun b j w₁ w₂ w₃ => by
          rw [pil_eq, if_neg w₂]
          unfold mKn
          rw [up2_if (by omega), up2_if (by omega), up2_if (by omega), up2_if (by omega), up2_if (by omega), up2_if (by omega), up2_if (by omega), up2_if w₃]
        have q24 : hi' 37 24 = hi 0 11 := ((aW 37 24 (by omega)).trans (aU 37 24 (by omega))).trans hD.1.symm
        unfold mSnd at e₄
        rw [P0 56 p (by omega) (by omega) (by omega), P0 37 54 (by omega) (by omega) (by omega), P0 37 24 (by omega) (by omega) (by omega), q56, q54, q24, ← hS₁.1] at e₄
        obtain ⟨hi1, hh⟩ : ∃ Y, Y = up2 (up2 (vH22 (cKn hr hi p ho a) u t₂) (pC hr p) 8 (hi 56 p - 1)) 56 p (hi 56 p - 1) := ⟨_, rfl⟩
        have b1 : ∀ b j, ¬ ((b = pC hr p ∧ j = 8) ∨ (b = 56 ∧ j = p)) → hi1 b j = (vH22 (cKn hr hi p ho a) u t₂) b j := fun b j q => by rw [hh, up2_if (by omega), up2_if (by omega)]
        have b8 : hi1 (pC hr p) 8 = hi 56 p - 1 := by rw [hh, up2_if (by omega), up2_s]
        have b56 : hi1 56 p = hi 56 p - 1 := by rw [hh, up2_s]
        have h1 : RR k z hr hi1 hl := by
          have p₁' : p < (vH22 (cKn hr hi p ho a) u t₂) 37 25 := by rw [aU 37 25 (by omega)]; exact p₁
          obtain ⟨s, ⟨v₁, v₂, v₃, v₄, v₅, v₆, v₇, v₈, v₉⟩, t, bd⟩ := hP'.2.1 p p₀ p₁'
          have npm := hP.pm p₀ p₁ p₀ p₁
          refine hU.ch0 p₀ p₁' (fun b j w₁ w₂ => b1 b j (by unfold chP at w₂; omega)) ⟨?_, ?_, b8.trans b56.symm, fun j j₀ j₁ => ?_, ?_, ?_, ?_, ?_, fun j j₀ j₁ => ?_⟩ ?_ ?_ (b1 59 p (by omega))
          · rw [b1 _ 0 (by omega)]; exact v₁
          · rw [b1 _ 1 (by omega), b1 53 p (by omega)]; exact v₂
          · rw [b1 _ (9 + j) (by omega), b1 58 _ (by omega)]; exact v₄ j j₀ j₁
          · rw [b1 _ 13 (by omega), b1 59 p (by omega)]; exact v₅
          · rw [b1 _ 14 (by omega), b1 61 p (by omega)]; exact v₆
          · rw [b1 _ 15 (by omega), b1 62 p (by omega)]; exact v₇
          · rw [b1 _ 16 (by omega), b1 60 p (by omega)]; exact v₈
          · rw [b1 _ j (by omega), b1 57 _ (by omega)]; exact v₉ j j₀ j₁
          · unfold pBd
            rw [b1 59 p (by omega), b1 61 p (by omega), b1 62 p (by omega), b1 60 p (by omega), b1 53 p (by omega), b1 63 p (by omega), b1 37 45 (by omega)]
            exact bd
          · rw [b56, b1 61 p (by omega)]
            have w₁ := hP'.2.2.2.1 p
            have := hpc p
            exact ⟨by omega, w₁.2⟩
        have ag : ∀ b j, ¬ (b = 28 ∨ b = 29 ∨ b = 78 ∨ b = 51 ∨ b = 52 ∨ (b = 37 ∧ (j = 0 ∨ j = 54))) → hi2 b j = hi1 b j := fun b j q => by
          by_cases w₁ : b = 56 ∧ j = p
          · rw [w₁.1, w₁.2, e₄, up2_if (by omega), up2_if (by omega), up2_if (by omega), up2_if (by omega), up2_if (by omega), up2_s, b56]
          · rw [e₄, up2_if (by omega), up2_if (by omega), up2_if (by omega), up2_if (by omega), up2_if (by omega), up2_if w₁, P0 b j (by omega) (by omega) (by omega)]
            by_cases w₂ : b = pC hr p ∧ j = 8
            · rw [w₂.1, w₂.2, b8, e₀, up2_s]
            · rw [aW b j (by omega), b1 b j (by omega)]
        obtain ⟨⟨hz1, hR1, hk1, hs1⟩, hD1, hP1, hB1, hM1, hS1, hT1, hX1⟩ := h1
        refine ⟨rfl, ⟨hz1, hR1, by omega, by omega⟩, hD1.cg fun b j q => ag b j (by unfold rdD at q; omega), hP1.k1.cg fun b j q => ag b j (by unfold rdP at q; omega), hB1.cg fun b j q => ag b j (by unfold rdB at q; omega), hM1.cg fun b j q => ag b j (by unfold rdM at q; omega), ?_, hT1.cg fun b j q => ag b j (by unfold rdT at q; omega), hX1.cg (fun b j q => ag b j (by unfold rdX at q; omega)) rfl rfl⟩
        have n28 : hi2 28 1 = hi 28 1 + 1 := by rw [e₄, up2_if (by omega), up2_if (by omega), up2_if (by omega), up2_if (by omega), up2_if (by omega), up2_if (by omega), P0 28 1 (by omega) (by omega) (by omega), e₀, up2_if (by omega), up2_s]
        have n54 : hi2 37 54 = hi 28 1 + 1 := by rw [e₄, up2_s]
        have n29 : ∀ i, hi2 29 i = (if i = 4 * hi 28 1 + 3 then hi 0 11 else if i = 4 * hi 28 1 + 2 then a else if i = 4 * hi 28 1 + 1 then ho else if i = 4 * hi 28 1 then p else hi 29 i) := fun i => by
          rw [e₄, up2_if (by omega), up2_if (by omega), up2_if (by omega), up2_if (by omega), up2_if (by omega), up2_if (by omega), P0 29 i (by omega) (by omega) (by omega), e₀, up2_if (by omega), up2_if (by omega), up2_eq, up2_eq, up2_eq, up2_eq, aU 29 i (by omega)]
          simp only [true_and]
        have n78 : ∀ i, hi2 78 i = (if i = 4 * hi 28 1 + 3 then hi 0 11 else if i = 4 * hi 28 1 + 2 then a else if i = 4 * hi 28 1 + 1 then ho else if i = 4 * hi 28 1 then p else hi 78 i) := fun i => by
          rw [e₄, up2_if (by omega), up2_eq, up2_eq, up2_eq, up2_eq, up2_if (by omega), P0 78 i (by omega) (by omega) (by omega), aW 78 i (by omega), aU 78 i (by omega)]
          simp only [true_and]
        refine ⟨⟨n28.trans n54.symm, by omega, by omega⟩, fun i => ?_⟩
        rw [n29, n78, hS.2 i]
      · omega
      · exfalso
        have := hpc p
        omega
    · refine ⟨_, rfl, hz, (m_send (d := d + 26) (N := 50) (F := 700) hz hR hP'.tree hM'.1.2 hM'.2.1.2 hZ' hX'.2.1 hL' (fun q => (hP'.2.2.2.1 q).1) hS'.1.2 (fun _ => ⟨r₁, run'⟩)).mono (fun r2 z2 hr2 hi2 hl2 q => ?_)⟩
      obtain ⟨e₁, e₂, e₃, q⟩ := q
      obtain rfl := e₁.symm
      obtain rfl := e₂.symm
      obtain rfl := e₃.symm
      rcases q with ⟨c₂, c₄, -⟩ | ⟨c₂, -, rfl, rfl⟩ | ⟨c₂, rfl, rfl⟩
      · exfalso
        rw [aU 37 54 (by omega)] at c₂
        omega
      · exact ⟨rfl, hU.cg pilN rfl rfl⟩
      · exact ⟨rfl, hU.t0⟩
    · obtain rfl := e₅.symm
      refine ⟨_, rfl, hz, (m_send (d := d + 26) (N := 50) (F := 700) (v := v) (g := w) hz hR hP.tree hM₁.2 hM₂.2 (fun x => hM.zz _ _) hX.2.1 (by rw [x₈]; omega) hpc hS₁.2 (fun _ => ⟨r₁, by rw [show mKn (up2 hi 37 0 0) 50 p ho a 51 = mKn hi 50 p ho a 51 from mKn_cg fun b j q => up2_if (by omega)]; exact r₃⟩)).mono (fun r2 z2 hr2 hi2 hl2 q => ?_)⟩
      obtain ⟨e₁, e₂, e₃, q⟩ := q
      obtain rfl := e₁.symm
      obtain rfl := e₂.symm
      obtain rfl := e₃.symm
      rcases q with ⟨c₂, -⟩ | ⟨c₂, -⟩ | ⟨c₂, rfl, rfl⟩
      · exfalso
        have := hpc p
        omega
      · exfalso
        have := hpc p
        omega
      · exact ⟨rfl, h.t0⟩
  · refine (c_sendC22 (d := d + 25) (v := 0) (t2 := 0) (g := fun _ => 0) hz hR hP.n hP.cP p8 (fun q q₀ q₁ => by rw [v8 q q₀ (by omega)]; exact hpc q) (by omega) x₂ (by omega) (by omega) (fun x => by rw [hM.jn]; exact (hM.jb x _).1) (by omega) (fun l _ _ => hX.2.2.1 l) (fun q => absurd q hv)).mono (fun r z' hr' hi' hl' q => ?_)
    obtain ⟨e₁, e₂, e₃, q⟩ := q
    obtain rfl := e₁.symm
    obtain rfl := e₂.symm
    obtain rfl := e₃.symm
    rcases q with ⟨c₁, -⟩ | ⟨c₁, -⟩ | ⟨c₁, rfl, e₅⟩
    · exact absurd c₁.1 hv
    · exact absurd c₁.1 hv
    · obtain rfl := e₅.symm
      refine ⟨_, rfl, hz, (m_send (d := d + 26) (N := 50) (F := 700) (v := 0) (g := fun _ => 0) hz hR hP.tree hM₁.2 hM₂.2 (fun x => hM.zz _ _) hX.2.1 (by rw [x₈]; omega) hpc hS₁.2 (fun q => by omega)).mono (fun r2 z2 hr2 hi2 hl2 q => ?_)⟩
      obtain ⟨e₁, e₂, e₃, q⟩ := q
      obtain rfl := e₁.symm
      obtain rfl := e₂.symm
      obtain rfl := e₃.symm
      rcases q with ⟨c₂, -⟩ | ⟨c₂, -⟩ | ⟨c₂, rfl, rfl⟩
      · omega
      · omega
      · exact ⟨rfl, h.t0⟩
set_option maxHeartbeats 4000000 in
theorem st_send31 (h : RR k z hr hi hl) {p ho a : Int} {X : List (Int × List (Int × Int))} (x₂ : hr 0 8 = some 31) (x₄ : tOk X) (x₅ : lC 31 hi 0 0 X) (x₆ : lR (hi 37 15) hi 0 0 X) (x₇ : hi 31 7 = X.length) (x₈ : hi 43 (hi 37 15) = X.length) : stp G d k mX9_send mX10_send [vR 0, vI p, vI ho, vI a] [vR 37, vI p, vI ho, vI a] z hr hi hl := by
  obtain ⟨⟨hz, hR, hk, hs⟩, hD, hP, hB, hM, hS, hT, hX⟩ := id h
  have hP₁ := hP.1
  have hM₁ := hM.1
  have hM₂ := hM.2.1
  have hS₁ := hS.1
  have y₂ := x₄.2.1
  have p8 : ∀ q, 0 ≤ q → q < hi 0 9 → 81 ≤ pC hr q := fun q q₀ q₁ => (hP.st q₀ (by omega)).2.2.2.2.1
  have v8 : ∀ q, 0 ≤ q → q < hi 37 25 → hi (pC hr q) 8 = hi 56 q := fun q q₀ q₁ => (hP.2.1 q q₀ q₁).2.1.2.2.1
  have hpc : ∀ q, 0 ≤ hi 56 q ∧ hi 56 q ≤ 100 := fun q => (hP.2.2.2.1 q).1
  by_cases hv : (0 ≤ p ∧ p < hi 0 9) ∧ (0 ≤ ho ∧ ho ≤ 99) ∧ (0 ≤ a ∧ a ≤ 9)
  · obtain ⟨v, u, t₂, w, r₁, r₂, r₃⟩ := h.run x₄ x₅ x₆ x₇ x₈ hv
    have aU : ∀ b j, ¬ (b = 30 ∨ b = 36 ∨ (b = 31 ∧ j = 5)) → (vH31 (cKn hr hi p ho a) u t₂) b j = hi b j := fun b j q => by
      rw [vH31_eq, if_neg (by omega), if_neg (by omega), cKn_f (by omega)]
    have fU : ∀ b, ¬ (b = 30 ∨ b = 36 ∨ b = 31) → (vH31 (cKn hr hi p ho a) u t₂) b = hi b := fun b q => funext fun j => aU b j (by omega)
    have hU : RR k z hr (vH31 (cKn hr hi p ho a) u t₂) hl := h.cgk (fun b j q => aU b j (fun w => q (by unfold NR rdD rdP rdB rdM rdS rdT rdX; omega))) rfl rfl
    obtain ⟨-, hD', hP', hB', hM', hS', hT', hX'⟩ := id hU
    have ek : mKn (up2 (vH31 (cKn hr hi p ho a) u t₂) 37 0 0) 50 p ho a 51 = mKn hi 50 p ho a 51 := mKn_cg fun b j q => by rw [up2_if (by omega)]; exact aU b j (by omega)
    have run' : leR ((vH31 (cKn hr hi p ho a) u t₂) 46) ((vH31 (cKn hr hi p ho a) u t₂) 47) (mKn (up2 (vH31 (cKn hr hi p ho a) u t₂) 37 0 0) 50 p ho a 51) ((vH31 (cKn hr hi p ho a) u t₂) 45) ((vH31 (cKn hr hi p ho a) u t₂) 44) 700 ((vH31 (cKn hr hi p ho a) u t₂) 43 ((vH31 (cKn hr hi p ho a) u t₂) 37 15)).toNat (16 * (vH31 (cKn hr hi p ho a) u t₂) 37 15) ((vH31 (cKn hr hi p ho a) u t₂) 52) = some (v, w) := by
      rw [ek, fU 46 (by omega), fU 47 (by omega), fU 45 (by omega), fU 44 (by omega), fU 43 (by omega), fU 37 (by omega), fU 52 (by omega)]
      exact r₃
    have hL' : 0 ≤ (vH31 (cKn hr hi p ho a) u t₂) 43 ((vH31 (cKn hr hi p ho a) u t₂) 37 15) ∧ (vH31 (cKn hr hi p ho a) u t₂) 43 ((vH31 (cKn hr hi p ho a) u t₂) 37 15) ≤ 16 := by
      rw [fU 43 (by omega), fU 37 (by omega), x₈]
      omega
    have hZ' : ∀ x, mZ (fun y => mJoin (vH31 (cKn hr hi p ho a) u t₂) y ((vH31 (cKn hr hi p ho a) u t₂) 37 24)) 50 (mJoin (vH31 (cKn hr hi p ho a) u t₂) x ((vH31 (cKn hr hi p ho a) u t₂) 37 24)) := fun x => hM'.zz _ _
    have pilN : ∀ b j, ¬ NR b j → pil (mKn (up2 (vH31 (cKn hr hi p ho a) u t₂) 37 0 0) 50 p ho a) w b j = (vH31 (cKn hr hi p ho a) u t₂) b j := fun b j q => by
      have w51 : ¬ b = 51 := fun e => q (by unfold NR rdD rdP rdB rdM rdS rdT rdX; omega)
      have w52 : ¬ b = 52 := fun e => q (by unfold NR rdD rdP rdB rdM rdS rdT rdX; omega)
      have w0 : ¬ (b = 37 ∧ j = 0) := fun e => q (by unfold NR rdD rdP rdB rdM rdS rdT rdX; omega)
      rw [pil_eq, if_neg w52]
      unfold mKn
      rw [up2_if (by omega), up2_if (by omega), up2_if (by omega), up2_if (by omega), up2_if (by omega), up2_if (by omega), up2_if (by omega), up2_if w0]
    have p₀ : 0 ≤ p := hv.1.1
    have p₁ : p < hi 37 25 := by omega
    have vp := v8 p p₀ p₁
    have s8 := (hP.st p₀ p₁).2.2.2.2
    refine (c_sendC31 (d := d + 25)  hz hR hP.n hP.cP p8 (fun q q₀ q₁ => by rw [v8 q q₀ (by omega)]; exact hpc q) (by omega) x₂ (by omega) (by omega) (fun x => by rw [hM.jn]; exact (hM.jb x _).1) (by omega) (fun l _ _ => hX.2.2.2.1 l) (fun _ => ⟨r₁, r₂⟩)).mono (fun r z' hr' hi' hl' q => ?_)
    obtain ⟨e₁, e₂, e₃, q⟩ := q
    obtain rfl := e₁.symm
    obtain rfl := e₂.symm
    obtain rfl := e₃.symm
    rcases q with ⟨c₁, c₃, rfl, e₀⟩ | ⟨c₁, c₃, rfl, rfl⟩ | ⟨c₁, rfl, e₅⟩
    · have u1 : (vH31 (cKn hr hi p ho a) u t₂) 28 1 = hi 28 1 := aU 28 1 (by omega)
      have u8 : (vH31 (cKn hr hi p ho a) u t₂) (pC hr p) 8 = hi 56 p := (aU _ 8 (by omega)).trans vp
      have u11 : (vH31 (cKn hr hi p ho a) u t₂) 0 11 = hi 0 11 := aU 0 11 (by omega)
      unfold cSnd at e₀
      rw [u1, u8, u11] at e₀
      have aW : ∀ b j, ¬ (b = 29 ∨ (b = 28 ∧ j = 1) ∨ (b = pC hr p ∧ j = 8)) → hi' b j = (vH31 (cKn hr hi p ho a) u t₂) b j := fun b j q => by rw [e₀, up2_if (by omega), up2_if (by omega), up2_if (by omega), up2_if (by omega), up2_if (by omega), up2_if (by omega)]
      have fW : ∀ b, ¬ (b = 29 ∨ b = 28 ∨ b = pC hr p) → hi' b = (vH31 (cKn hr hi p ho a) u t₂) b := fun b q => funext fun j => aW b j (by omega)
      have eW : mKn (up2 hi' 37 0 0) 50 p ho a 51 = mKn hi 50 p ho a 51 := mKn_cg fun b j q => by rw [up2_if (by omega), aW b j (by omega)]; exact aU b j (by omega)
      have hL2 : 0 ≤ hi' 43 (hi' 37 15) ∧ hi' 43 (hi' 37 15) ≤ 16 := by rw [fW 43 (by omega), fW 37 (by omega)]; exact hL'
      have runW : leR (hi' 46) (hi' 47) (mKn (up2 hi' 37 0 0) 50 p ho a 51) (hi' 45) (hi' 44) 700 (hi' 43 (hi' 37 15)).toNat (16 * hi' 37 15) (hi' 52) = some (v, w) := by
        rw [eW, ← ek, fW 46 (by omega), fW 47 (by omega), fW 45 (by omega), fW 44 (by omega), fW 43 (by omega), fW 37 (by omega), fW 52 (by omega)]
        exact run'
      have jW' : ∀ x jd, mJoin hi' x jd = mJoin (vH31 (cKn hr hi p ho a) u t₂) x jd := fun x jd => by
        show mLast (hi' 67) (hi' 69) (hi' 68) x jd (hi' 37 41).toNat = mLast ((vH31 (cKn hr hi p ho a) u t₂) 67) ((vH31 (cKn hr hi p ho a) u t₂) 69) ((vH31 (cKn hr hi p ho a) u t₂) 68) x jd ((vH31 (cKn hr hi p ho a) u t₂) 37 41).toNat
        rw [fW 67 (by omega), fW 68 (by omega), fW 69 (by omega), fW 37 (by omega)]
      have q25 := (aW 37 25 (by omega)).trans (aU 37 25 (by omega))
      have q54 := (aW 37 54 (by omega)).trans (aU 37 54 (by omega))
      have q56 : ∀ q, hi' 56 q = hi 56 q := fun q => (aW 56 q (by omega)).trans (aU 56 q (by omega))
      refine ⟨_, rfl, hz, (m_send (d := d + 26) (N := 50) (F := 700) hz hR (by unfold mTree; rw [fW 37 (by omega), fW 53 (by omega), fW 54 (by omega)]; exact hP'.tree) (by rw [fW 37 (by omega)]; exact hM'.1.2) (by rw [fW 37 (by omega)]; exact hM'.2.1.2) (fun x => by rw [show (fun y => mJoin hi' y (hi' 37 24)) = (fun y => mJoin (vH31 (cKn hr hi p ho a) u t₂) y (hi' 37 24)) from funext fun y => jW' y _]; exact hM'.zz _ _) (by rw [fW 37 (by omega)]; exact hX'.2.1) hL2 (fun q => by rw [q56]; exact hpc q) (by rw [q54]; exact hS₁.2) (fun _ => ⟨r₁, runW⟩)).mono (fun r2 z2 hr2 hi2 hl2 q => ?_)⟩
      obtain ⟨e₁, e₂, e₃, q⟩ := q
      obtain rfl := e₁.symm
      obtain rfl := e₂.symm
      obtain rfl := e₃.symm
      rw [q25, q54, q56] at q
      rcases q with ⟨c₂, -, rfl, e₄⟩ | ⟨c₂, c₄, -⟩ | ⟨c₂, -⟩
      · have P0 : ∀ b j, ¬ b = 51 → ¬ b = 52 → ¬ (b = 37 ∧ j = 0) → pil (mKn (up2 hi' 37 0 0) 50 p ho a) w b j = hi' b j := fun b j w₁ w₂ w₃ => by
          rw [pil_eq, if_neg w₂]
          unfold mKn
          rw [up2_if (by omega), up2_if (by omega), up2_if (by omega), up2_if (by omega), up2_if (by omega), up2_if (by omega), up2_if (by omega), up2_if w₃]
        have q24 : hi' 37 24 = hi 0 11 := ((aW 37 24 (by omega)).trans (aU 37 24 (by omega))).trans hD.1.symm
        unfold mSnd at e₄
        rw [P0 56 p (by omega) (by omega) (by omega), P0 37 54 (by omega) (by omega) (by omega), P0 37 24 (by omega) (by omega) (by omega), q56, q54, q24, ← hS₁.1] at e₄
        obtain ⟨hi1, hh⟩ : ∃ Y, Y = up2 (up2 (vH31 (cKn hr hi p ho a) u t₂) (pC hr p) 8 (hi 56 p - 1)) 56 p (hi 56 p - 1) := ⟨_, rfl⟩
        have b1 : ∀ b j, ¬ ((b = pC hr p ∧ j = 8) ∨ (b = 56 ∧ j = p)) → hi1 b j = (vH31 (cKn hr hi p ho a) u t₂) b j := fun b j q => by rw [hh, up2_if (by omega), up2_if (by omega)]
        have b8 : hi1 (pC hr p) 8 = hi 56 p - 1 := by rw [hh, up2_if (by omega), up2_s]
        have b56 : hi1 56 p = hi 56 p - 1 := by rw [hh, up2_s]
        have h1 : RR k z hr hi1 hl := by
          have p₁' : p < (vH31 (cKn hr hi p ho a) u t₂) 37 25 := by rw [aU 37 25 (by omega)]; exact p₁
          obtain ⟨s, ⟨v₁, v₂, v₃, v₄, v₅, v₆, v₇, v₈, v₉⟩, t, bd⟩ := hP'.2.1 p p₀ p₁'
          have npm := hP.pm p₀ p₁ p₀ p₁
          refine hU.ch0 p₀ p₁' (fun b j w₁ w₂ => b1 b j (by unfold chP at w₂; omega)) ⟨?_, ?_, b8.trans b56.symm, fun j j₀ j₁ => ?_, ?_, ?_, ?_, ?_, fun j j₀ j₁ => ?_⟩ ?_ ?_ (b1 59 p (by omega))
          · rw [b1 _ 0 (by omega)]; exact v₁
          · rw [b1 _ 1 (by omega), b1 53 p (by omega)]; exact v₂
          · rw [b1 _ (9 + j) (by omega), b1 58 _ (by omega)]; exact v₄ j j₀ j₁
          · rw [b1 _ 13 (by omega), b1 59 p (by omega)]; exact v₅
          · rw [b1 _ 14 (by omega), b1 61 p (by omega)]; exact v₆
          · rw [b1 _ 15 (by omega), b1 62 p (by omega)]; exact v₇
          · rw [b1 _ 16 (by omega), b1 60 p (by omega)]; exact v₈
          · rw [b1 _ j (by omega), b1 57 _ (by omega)]; exact v₉ j j₀ j₁
          · unfold pBd
            rw [b1 59 p (by omega), b1 61 p (by omega), b1 62 p (by omega), b1 60 p (by omega), b1 53 p (by omega), b1 63 p (by omega), b1 37 45 (by omega)]
            exact bd
          · rw [b56, b1 61 p (by omega)]
            have w₁ := hP'.2.2.2.1 p
            have := hpc p
            exact ⟨by omega, w₁.2⟩
        have ag : ∀ b j, ¬ (b = 28 ∨ b = 29 ∨ b = 78 ∨ b = 51 ∨ b = 52 ∨ (b = 37 ∧ (j = 0 ∨ j = 54))) → hi2 b j = hi1 b j := fun b j q => by
          by_cases w₁ : b = 56 ∧ j = p
          · rw [w₁.1, w₁.2, e₄, up2_if (by omega), up2_if (by omega), up2_if (by omega), up2_if (by omega), up2_if (by omega), up2_s, b56]
          · rw [e₄, up2_if (by omega), up2_if (by omega), up2_if (by omega), up2_if (by omega), up2_if (by omega), up2_if w₁, P0 b j (by omega) (by omega) (by omega)]
            by_cases w₂ : b = pC hr p ∧ j = 8
            · rw [w₂.1, w₂.2, b8, e₀, up2_s]
            · rw [aW b j (by omega), b1 b j (by omega)]
        obtain ⟨⟨hz1, hR1, hk1, hs1⟩, hD1, hP1, hB1, hM1, hS1, hT1, hX1⟩ := h1
        refine ⟨rfl, ⟨hz1, hR1, by omega, by omega⟩, hD1.cg fun b j q => ag b j (by unfold rdD at q; omega), hP1.k1.cg fun b j q => ag b j (by unfold rdP at q; omega), hB1.cg fun b j q => ag b j (by unfold rdB at q; omega), hM1.cg fun b j q => ag b j (by unfold rdM at q; omega), ?_, hT1.cg fun b j q => ag b j (by unfold rdT at q; omega), hX1.cg (fun b j q => ag b j (by unfold rdX at q; omega)) rfl rfl⟩
        have n28 : hi2 28 1 = hi 28 1 + 1 := by rw [e₄, up2_if (by omega), up2_if (by omega), up2_if (by omega), up2_if (by omega), up2_if (by omega), up2_if (by omega), P0 28 1 (by omega) (by omega) (by omega), e₀, up2_if (by omega), up2_s]
        have n54 : hi2 37 54 = hi 28 1 + 1 := by rw [e₄, up2_s]
        have n29 : ∀ i, hi2 29 i = (if i = 4 * hi 28 1 + 3 then hi 0 11 else if i = 4 * hi 28 1 + 2 then a else if i = 4 * hi 28 1 + 1 then ho else if i = 4 * hi 28 1 then p else hi 29 i) := fun i => by
          rw [e₄, up2_if (by omega), up2_if (by omega), up2_if (by omega), up2_if (by omega), up2_if (by omega), up2_if (by omega), P0 29 i (by omega) (by omega) (by omega), e₀, up2_if (by omega), up2_if (by omega), up2_eq, up2_eq, up2_eq, up2_eq, aU 29 i (by omega)]
          simp only [true_and]
        have n78 : ∀ i, hi2 78 i = (if i = 4 * hi 28 1 + 3 then hi 0 11 else if i = 4 * hi 28 1 + 2 then a else if i = 4 * hi 28 1 + 1 then ho else if i = 4 * hi 28 1 then p else hi 78 i) := fun i => by
          rw [e₄, up2_if (by omega), up2_eq, up2_eq, up2_eq, up2_eq, up2_if (by omega), P0 78 i (by omega) (by omega) (by omega), aW 78 i (by omega), aU 78 i (by omega)]
          simp only [true_and]
        refine ⟨⟨n28.trans n54.symm, by omega, by omega⟩, fun i => ?_⟩
        rw [n29, n78, hS.2 i]
      · omega
      · exfalso
        have := hpc p
        omega
    · refine ⟨_, rfl, hz, (m_send (d := d + 26) (N := 50) (F := 700) hz hR hP'.tree hM'.1.2 hM'.2.1.2 hZ' hX'.2.1 hL' (fun q => (hP'.2.2.2.1 q).1) hS'.1.2 (fun _ => ⟨r₁, run'⟩)).mono (fun r2 z2 hr2 hi2 hl2 q => ?_)⟩
      obtain ⟨e₁, e₂, e₃, q⟩ := q
      obtain rfl := e₁.symm
      obtain rfl := e₂.symm
      obtain rfl := e₃.symm
      rcases q with ⟨c₂, c₄, -⟩ | ⟨c₂, -, rfl, rfl⟩ | ⟨c₂, rfl, rfl⟩
      · exfalso
        rw [aU 37 54 (by omega)] at c₂
        omega
      · exact ⟨rfl, hU.cg pilN rfl rfl⟩
      · exact ⟨rfl, hU.t0⟩
    · obtain rfl := e₅.symm
      refine ⟨_, rfl, hz, (m_send (d := d + 26) (N := 50) (F := 700) (v := v) (g := w) hz hR hP.tree hM₁.2 hM₂.2 (fun x => hM.zz _ _) hX.2.1 (by rw [x₈]; omega) hpc hS₁.2 (fun _ => ⟨r₁, by rw [show mKn (up2 hi 37 0 0) 50 p ho a 51 = mKn hi 50 p ho a 51 from mKn_cg fun b j q => up2_if (by omega)]; exact r₃⟩)).mono (fun r2 z2 hr2 hi2 hl2 q => ?_)⟩
      obtain ⟨e₁, e₂, e₃, q⟩ := q
      obtain rfl := e₁.symm
      obtain rfl := e₂.symm
      obtain rfl := e₃.symm
      rcases q with ⟨c₂, -⟩ | ⟨c₂, -⟩ | ⟨c₂, rfl, rfl⟩
      · exfalso
        have := hpc p
        omega
      · exfalso
        have := hpc p
        omega
      · exact ⟨rfl, h.t0⟩
  · refine (c_sendC31 (d := d + 25) (v := 0) (t2 := 0) (g := fun _ => 0) hz hR hP.n hP.cP p8 (fun q q₀ q₁ => by rw [v8 q q₀ (by omega)]; exact hpc q) (by omega) x₂ (by omega) (by omega) (fun x => by rw [hM.jn]; exact (hM.jb x _).1) (by omega) (fun l _ _ => hX.2.2.2.1 l) (fun q => absurd q hv)).mono (fun r z' hr' hi' hl' q => ?_)
    obtain ⟨e₁, e₂, e₃, q⟩ := q
    obtain rfl := e₁.symm
    obtain rfl := e₂.symm
    obtain rfl := e₃.symm
    rcases q with ⟨c₁, -⟩ | ⟨c₁, -⟩ | ⟨c₁, rfl, e₅⟩
    · exact absurd c₁.1 hv
    · exact absurd c₁.1 hv
    · obtain rfl := e₅.symm
      refine ⟨_, rfl, hz, (m_send (d := d + 26) (N := 50) (F := 700) (v := 0) (g := fun _ => 0) hz hR hP.tree hM₁.2 hM₂.2 (fun x => hM.zz _ _) hX.2.1 (by rw [x₈]; omega) hpc hS₁.2 (fun q => by omega)).mono (fun r2 z2 hr2 hi2 hl2 q => ?_)⟩
      obtain ⟨e₁, e₂, e₃, q⟩ := q
      obtain rfl := e₁.symm
      obtain rfl := e₂.symm
      obtain rfl := e₃.symm
      rcases q with ⟨c₂, -⟩ | ⟨c₂, -⟩ | ⟨c₂, rfl, rfl⟩
      · omega
      · omega
      · exact ⟨rfl, h.t0⟩
theorem st_send (h : RR k z hr hi hl) {p ho a : Int} : stp G d k mX9_send mX10_send [vR 0, vI p, vI ho, vI a] [vR 37, vI p, vI ho, vI a] z hr hi hl := by
  obtain ⟨c, o, X, x₁, x₂, x₃, x₄, x₅, x₆, x₇, x₈⟩ := h.2.2.2.2.2.2.2.1
  rcases x₁ with ⟨rfl, rfl⟩ | ⟨rfl, rfl⟩
  · exact st_send22 h x₂ x₄ x₅ x₆ x₇ x₈
  · exact st_send31 h x₂ x₄ x₅ x₆ x₇ x₈
end STPF
