/-! steps: wild, seed, cut, split *) -/
section STPB
variable {G : aG} {d k : Nat} {z : aZ} {hr : aR} {hi hi2 hl : aI}
theorem up2_no {α : Type} {f : Nat → Int → α} {a b : Nat} {i j : Int} {v : α} (h : ¬ (b = a ∧ j = i)) : up2 f a i v b j = f b j := if_neg h
def nwR (h : aR) (a b : Nat) (o₂ o₃ : Option Nat) : aR := up2 (up2 (up2 h a 7 (some b)) a 2 o₂) a 3 o₃
def nR (z : aZ) (hr : aR) (n : Int) (o₂ o₃ : Option Nat) : aR := up2 (nwR (cl0 (cl0 hr z.1 none) (z.1 + 1) none) z.1 (z.1 + 1) o₂ o₃) 1 n (some z.1)
theorem ofI_r {h : aI} {a : Nat} {n c ro pl cu m : Int} (j : Int) : ofI h a n c ro pl cu m a j = if j = 8 then m else if j = 6 then cu else if j = 5 then pl else if j = 4 then ro else if j = 1 then c else if j = 0 then n else if j = 13 then -1 else if j = 12 then 9 else if j = 10 then 9 else h a j := by
  unfold ofI
  simp only [up2_eq, true_and]
set_option maxHeartbeats 2000000 in
theorem RR_grow (h : RR k z hr hi hl) (hn : hi 37 25 < 40) {c f e m ro pl cu : Int} {o₂ o₃ : Option Nat} {hX : aI} (ag : ∀ b j, b < z.1 → ¬ chN (hi 37 25) b j → hi2 b j = hi b j) (n9 : hi2 0 9 = hi 37 25 + 1) (n25 : hi2 37 25 = hi 37 25 + 1)
    (fz : ∀ j, hi2 z.1 j = ofI (cl0 (cl0 hX z.1 0) (z.1 + 1) 0) z.1 (hi 37 25) c ro pl cu m z.1 j) (g53 : hi2 53 (hi 37 25) = c) (g54 : hi2 54 (hi 37 25) = f) (g55 : hi2 55 (hi 37 25) = e) (g56 : hi2 56 (hi 37 25) = m) (g58 : ∀ j, 0 ≤ j → j < 4 → hi2 58 (4 * hi 37 25 + j) = (if j = 1 ∨ j = 3 then 9 else 0)) (mk : ∀ j, 0 ≤ j → j < 8 → hi2 (z.1 + 1) j = hi2 57 (8 * hi 37 25 + j)) (hm : 1 ≤ m ∧ m ≤ 100)
    (tree : (c = 0 ∧ f = -1 ∧ e = -1 ∧ o₂ = none ∧ o₃ = none ∧ ro = hi 37 25 ∧ pl = hi2 63 (hi 37 25) ∧ cu = 0 ∧ 0 ≤ hi2 63 (hi 37 25) ∧ hi2 63 (hi 37 25) ≤ 99) ∨ ((c = 1 ∨ c = 2 ∨ c = 3) ∧ (0 ≤ f ∧ f < hi 37 25) ∧ o₂ = some (pC hr f) ∧ ((e = -1 ∧ o₃ = none) ∨ ((0 ≤ e ∧ e < hi 37 25) ∧ c = 1 ∧ o₃ = some (pC hr e))) ∧ ro = hi (pC hr f) 4 ∧ pl = hi (pC hr f) 5 ∧ cu = (if c = 1 then 0 else if c = 2 then 1 else hi (pC hr f) 6))) :
    RR (k + 1) (a_al (a_al z 3 17) 20 8) (nR z hr (hi 37 25) o₂ o₃) hi2 (cl0 (cl0 hl z.1 0) (z.1 + 1) 0) := by
  obtain ⟨⟨hz, hR, hk, hs⟩, hD, hP, -⟩ := id h
  have h80 := hz.1
  have hP₁ := hP.1
  have er : ∀ b j, b < z.1 → ¬ (b = 1 ∧ j = hi 37 25) → nR z hr (hi 37 25) o₂ o₃ b j = hr b j := fun b j w₁ w₂ => by
    unfold nR nwR
    rw [up2_no w₂, up2_no (by omega), up2_no (by omega), up2_no (by omega), cl0_n (by omega), cl0_n (by omega)]
  have r1 : nR z hr (hi 37 25) o₂ o₃ 1 (hi 37 25) = some z.1 := by unfold nR; rw [up2_s]
  have r7 : nR z hr (hi 37 25) o₂ o₃ z.1 7 = some (z.1 + 1) := by unfold nR nwR; rw [up2_no (by omega), up2_no (by omega), up2_no (by omega), up2_s]
  have r2 : nR z hr (hi 37 25) o₂ o₃ z.1 2 = o₂ := by unfold nR nwR; rw [up2_no (by omega), up2_no (by omega), up2_s]
  have r3 : nR z hr (hi 37 25) o₂ o₃ z.1 3 = o₃ := by unfold nR nwR; rw [up2_no (by omega), up2_s]
  have cN : pC (nR z hr (hi 37 25) o₂ o₃) (hi 37 25) = z.1 := by unfold pC; rw [r1]; rfl
  have mN : mC (nR z hr (hi 37 25) o₂ o₃) (hi 37 25) = z.1 + 1 := by unfold mC; rw [cN, r7]; rfl
  have cO : ∀ q, ¬ q = hi 37 25 → pC (nR z hr (hi 37 25) o₂ o₃) q = pC hr q := fun q w => by unfold pC; rw [er 1 q (by omega) (by omega)]
  have cz : ∀ j, cl0 (cl0 hX z.1 0) (z.1 + 1) 0 z.1 j = 0 := fun j => by rw [cl0_n (by omega), cl0_s]
  have fr : ∀ j, hi2 z.1 j = if j = 8 then m else if j = 6 then cu else if j = 5 then pl else if j = 4 then ro else if j = 1 then c else if j = 0 then hi 37 25 else if j = 13 then -1 else if j = 12 then 9 else if j = 10 then 9 else 0 := fun j => by rw [fz, ofI_r, cz]
  obtain ⟨d₁, d₂, d₃, d₄, d₅⟩ := hP.2.2.2.2 (hi 37 25) (Int.le_refl _) hn
  have g59 := (ag 59 (hi 37 25) (by omega) (by unfold chN; omega)).trans d₂
  have g60 := (ag 60 (hi 37 25) (by omega) (by unfold chN; omega)).trans d₃
  have g61 := (ag 61 (hi 37 25) (by omega) (by unfold chN; omega)).trans d₄
  have g62 := (ag 62 (hi 37 25) (by omega) (by unfold chN; omega)).trans d₅
  refine RR_new h hn er r1 r7 ag (fun b j w => by rw [cl0_n (by omega), cl0_n (by omega)]) n9 n25 ?_ ?_ ?_ (by rw [g56]; omega)
  · unfold pV
    rw [cN, mN, g53, g56, g59, g60, g61, g62]
    refine ⟨fr 0, fr 1, fr 8, fun j j₀ j₁ => ?_, fr 13, fr 14, fr 15, fr 16, fun j j₀ j₁ => mk j j₀ j₁⟩
    have ej : j = 0 ∨ j = 1 ∨ j = 2 ∨ j = 3 := by omega
    rw [g58 j j₀ j₁]
    rcases ej with rfl | rfl | rfl | rfl
    · exact fr 9
    · exact fr 10
    · exact fr 11
    · exact fr 12
  · unfold pT
    rw [cN, g53, g54, g55, r2, r3]
    rcases tree with ⟨t₁, t₂, t₃, t₄, t₅, t₆, t₇, t₈, -⟩ | ⟨t₁, t₂, t₃, t₄, t₅, t₆, t₇⟩
    · refine Or.inl ⟨t₁, t₂, t₃, t₄, t₅, ?_, ?_, ?_⟩
      · exact (fr 4).trans t₆
      · exact (fr 5).trans t₇
      · exact (fr 6).trans t₈
    · have sf := hP.st t₂.1 t₂.2
      have s8 := sf.2.2.2.2.1
      have af : ∀ j, hi2 (pC hr f) j = hi (pC hr f) j := fun j => ag _ j sf.2.1.1 (by unfold chN; omega)
      rw [cO f (by omega), af, af, af]
      refine Or.inr ⟨t₁, t₂, t₃, ?_, (fr 4).trans t₅, (fr 5).trans t₆, (fr 6).trans t₇⟩
      rcases t₄ with u | u
      · exact Or.inl u
      · rw [cO e (by omega)]; exact Or.inr u
  · unfold pBd
    rw [g53, g59, g60, g61, g62]
    refine ⟨Or.inl rfl, Or.inl rfl, Or.inl rfl, fun w => ?_⟩
    rcases tree with t | t
    · exact t.2.2.2.2.2.2.2.2
    · omega
--GEN
set_option maxHeartbeats 2000000 in
theorem st_wild (h : RR k z hr hi hl) (hk9 : k < 100000) {a m : Int} : stp G d k mX9_wild mX10_wild [vR 0, vI a, vI m] [vR 37, vI a, vI m] z hr hi hl := by
  obtain ⟨⟨hz, hR, hk, hs⟩, hD, hP, hB, hM, hS, hT, hX⟩ := id h
  have h80 := hz.1
  have hP₁ := hP.1
  have h9 := hP.1.1
  refine (c_wild (d := d + 28) hz hR (by omega) hP.n).mono (fun r z' hr' hi' hl' q => ?_)
  rcases q with ⟨c₁, rfl, e₂, rfl, rfl, e₀⟩ | ⟨c₁, e₁, e₂, e₃, rfl, e₅⟩
  · rw [h9] at e₀ e₂
    have hz' : stZ (a_al (a_al z 3 17) 20 8) := hz.al.al
    have e₂' : hr' = nR z hr (hi 37 25) (none) (none) := e₂
    subst e₂'
    have er : ∀ b j, b < z.1 → b ≠ 1 → nR z hr (hi 37 25) (none) (none) b j = hr b j := fun b j w₁ w₂ => by
      unfold nR nwR
      rw [up2_no (by omega), up2_no (by omega), up2_no (by omega), up2_no (by omega), cl0_n (by omega), cl0_n (by omega)]
    have hR' : stR (nR z hr (hi 37 25) (none) (none)) := hR.ext2 hz fun b j w₁ w₂ w₃ => er b j w₁ w₂
    have aU : ∀ b j, b < z.1 → ¬ (b = 0 ∧ j = 9) → hi' b j = hi b j := fun b j w₁ w₂ => by
      rw [e₀, up2_if w₂]
      unfold wldI
      rw [up2_if (by omega), up2_if (by omega), up2_if (by omega), up2_if (by omega), up2_if (by omega), up2_if (by omega), up2_if (by omega), up2_if (by omega), up2_if (by omega), cl0_n (by omega), cl0_n (by omega)]
    have aZ' : ∀ j, hi' z.1 j = ofI (cl0 (cl0 (hi) z.1 0) (z.1 + 1) 0) z.1 (hi 37 25) (0) (hi 37 25) (a) (0) m z.1 j := fun j => by
      rw [e₀, up2_if (by omega)]
      rfl
    have aM' : ∀ j, 0 ≤ j → j < 8 → hi' (z.1 + 1) j = 0 := fun j j₀ j₁ => by
      rw [e₀, up2_if (by omega)]
      unfold wldI
      rw [up2_if (by omega), up2_if (by omega), up2_if (by omega), up2_if (by omega), up2_if (by omega), up2_if (by omega), up2_if (by omega), up2_if (by omega), up2_if (by omega), cl0_s]
    have k25 := aU 37 25 (by omega) (by omega)
    refine ⟨_, rfl, hz', (m_wild (d := d + 29) hz' hR' (by rw [k25]; exact hP.1.2)).mono (fun r2 z2 hr2 hi2 hl2 q => ?_)⟩
    obtain ⟨e₁, e₂, e₃, q⟩ := q
    subst e₁ e₂ e₃
    rw [k25] at q
    rcases q with ⟨c₂, rfl, e₄⟩ | ⟨c₂, rfl, rfl⟩
    · have nk : (up2 (up2 hi' 37 0 0) 63 (hi 37 25) a) 37 25 = hi 37 25 := by rw [up2_if (by omega), up2_if (by omega), k25]
      have hr_ : ∀ b j, hi2 b j = if b = 37 ∧ j = 25 then hi 37 25 + 1 else if b = 58 ∧ (4 * hi 37 25 ≤ j ∧ j < 4 * hi 37 25 + 4) then mN4 (j - 4 * hi 37 25) else if 2 ≤ (0 : Int) ∧ b = 57 ∧ (8 * hi 37 25 ≤ j ∧ j < 8 * hi 37 25 + 8) then (up2 (up2 hi' 37 0 0) 63 (hi 37 25) a) 57 (8 * (-1) + (j - 8 * hi 37 25)) else if b = 56 ∧ j = hi 37 25 then m else if b = 55 ∧ j = hi 37 25 then (-1) else if b = 54 ∧ j = hi 37 25 then (-1) else if b = 53 ∧ j = hi 37 25 then (0) else (up2 (up2 hi' 37 0 0) 63 (hi 37 25) a) b j := fun b j => by rw [e₄, mGr_r, nk]
      have hz_ : ∀ b j, z.1 ≤ b → hi2 b j = hi' b j := fun b j w => by rw [hr_, if_neg (by omega), if_neg (by omega), if_neg (by omega), if_neg (by omega), if_neg (by omega), if_neg (by omega), if_neg (by omega), up2_if (by omega), up2_if (by omega)]
      have ho : ∀ b j, ¬ chN (hi 37 25) b j → hi2 b j = (up2 (up2 hi' 37 0 0) 63 (hi 37 25) a) b j := fun b j w => by
        unfold chN at w
        rw [hr_, if_neg (by omega), if_neg (by omega), if_neg (by omega), if_neg (by omega), if_neg (by omega), if_neg (by omega), if_neg (by omega)]
      refine ⟨by rw [h9], ?_⟩
      refine RR_grow h (by omega) (f := -1) (e := -1)  ?_ ?_ ?_ (fun j => by rw [hz_ z.1 j (Nat.le_refl _)]; exact aZ' j) ?_ ?_ ?_ ?_ (fun j j₀ j₁ => ?_) (fun j j₀ j₁ => ?_) ?_ ?_
      · intro b j w₁ w₂
        rw [ho b j w₂]
        unfold chN at w₂
        rw [up2_if (by omega), up2_if (by omega)]
        exact aU b j w₁ (by omega)
      · rw [hr_, if_neg (by omega), if_neg (by omega), if_neg (by omega), if_neg (by omega), if_neg (by omega), if_neg (by omega), if_neg (by omega)]
        rw [up2_if (by omega), up2_if (by omega), e₀, up2_s]
      · rw [hr_, if_pos ⟨rfl, rfl⟩]
      · rw [hr_, if_neg (by omega), if_neg (by omega), if_neg (by omega), if_neg (by omega), if_neg (by omega), if_neg (by omega), if_pos ⟨rfl, rfl⟩]
      · rw [hr_, if_neg (by omega), if_neg (by omega), if_neg (by omega), if_neg (by omega), if_neg (by omega), if_pos ⟨rfl, rfl⟩]
      · rw [hr_, if_neg (by omega), if_neg (by omega), if_neg (by omega), if_neg (by omega), if_pos ⟨rfl, rfl⟩]
      · rw [hr_, if_neg (by omega), if_neg (by omega), if_neg (by omega), if_pos ⟨rfl, rfl⟩]
      · rw [hr_, if_neg (by omega), if_pos ⟨rfl, by omega, by omega⟩, show 4 * hi 37 25 + j - 4 * hi 37 25 = j by omega, mN4_v ⟨j₀, j₁⟩]
      · rw [hz_ (z.1 + 1) j (by omega), aM' j j₀ j₁, hr_, if_neg (by omega), if_neg (by omega), if_neg (by omega), if_neg (by omega), if_neg (by omega), if_neg (by omega), if_neg (by omega), up2_if (by omega), up2_if (by omega), aU 57 _ (by omega) (by omega)]
        exact ((hP.2.2.2.2 (hi 37 25) (Int.le_refl _) (by omega)).1 j j₀ j₁).symm
      · exact c₁.2.1
      · have n63 : hi2 63 (hi 37 25) = a := by rw [hr_, if_neg (by omega), if_neg (by omega), if_neg (by omega), if_neg (by omega), if_neg (by omega), if_neg (by omega), if_neg (by omega), up2_s]
        rw [n63]
        exact Or.inl ⟨rfl, rfl, rfl, rfl, rfl, rfl, rfl, rfl, c₁.1⟩
    · exfalso; omega
  · obtain rfl := e₁.symm
    obtain rfl := e₂.symm
    obtain rfl := e₃.symm
    obtain rfl := e₅.symm
    refine ⟨_, rfl, hz, (m_wild (d := d + 29) hz hR hP.1.2).mono (fun r2 z2 hr2 hi2 hl2 q => ?_)⟩
    obtain ⟨e₁, e₂, e₃, q⟩ := q
    obtain rfl := e₁.symm
    obtain rfl := e₂.symm
    obtain rfl := e₃.symm
    rcases q with ⟨c₂, rfl, rfl⟩ | ⟨c₂, rfl, rfl⟩
    · exfalso; omega
    · exact ⟨rfl, h.t0⟩
set_option maxHeartbeats 2000000 in
theorem st_seed (h : RR k z hr hi hl) (hk9 : k < 100000) {a b9 m : Int} : stp G d k mX9_seed mX10_seed [vR 0, vI a, vI b9, vI m] [vR 37, vI a, vI b9, vI m] z hr hi hl := by
  obtain ⟨⟨hz, hR, hk, hs⟩, hD, hP, hB, hM, hS, hT, hX⟩ := id h
  have h80 := hz.1
  have hP₁ := hP.1
  have h9 := hP.1.1
  refine (c_seed (d := d + 27) hz hR (by omega) hP.n hP.cP).mono (fun r z' hr' hi' hl' q => ?_)
  rcases q with ⟨c₁, rfl, e₂, rfl, rfl, e₀⟩ | ⟨c₁, e₁, e₂, e₃, rfl, e₅⟩
  · rw [h9] at e₀ e₂
    have hz' : stZ (a_al (a_al z 3 17) 20 8) := hz.al.al
    have e₂' : hr' = nR z hr (hi 37 25) (some (pC hr a)) (if b9 = -1 then none else some (pC hr b9)) := e₂
    subst e₂'
    have er : ∀ b j, b < z.1 → b ≠ 1 → nR z hr (hi 37 25) (some (pC hr a)) (if b9 = -1 then none else some (pC hr b9)) b j = hr b j := fun b j w₁ w₂ => by
      unfold nR nwR
      rw [up2_no (by omega), up2_no (by omega), up2_no (by omega), up2_no (by omega), cl0_n (by omega), cl0_n (by omega)]
    have hR' : stR (nR z hr (hi 37 25) (some (pC hr a)) (if b9 = -1 then none else some (pC hr b9))) := hR.ext2 hz fun b j w₁ w₂ w₃ => er b j w₁ w₂
    have aU : ∀ b j, b < z.1 → ¬ (b = 0 ∧ j = 9) → hi' b j = hi b j := fun b j w₁ w₂ => by
      rw [e₀, up2_if w₂]
      unfold ofI
      rw [up2_if (by omega), up2_if (by omega), up2_if (by omega), up2_if (by omega), up2_if (by omega), up2_if (by omega), up2_if (by omega), up2_if (by omega), up2_if (by omega), cl0_n (by omega), cl0_n (by omega)]
    have aZ' : ∀ j, hi' z.1 j = ofI (cl0 (cl0 (hi) z.1 0) (z.1 + 1) 0) z.1 (hi 37 25) (1) (hi (pC hr a) 4) (hi (pC hr a) 5) (0) m z.1 j := fun j => by
      rw [e₀, up2_if (by omega)]
    have aM' : ∀ j, 0 ≤ j → j < 8 → hi' (z.1 + 1) j = 0 := fun j j₀ j₁ => by
      rw [e₀, up2_if (by omega)]
      unfold ofI
      rw [up2_if (by omega), up2_if (by omega), up2_if (by omega), up2_if (by omega), up2_if (by omega), up2_if (by omega), up2_if (by omega), up2_if (by omega), up2_if (by omega), cl0_s]
    have k25 := aU 37 25 (by omega) (by omega)
    refine ⟨_, rfl, hz', (m_seed (d := d + 29) hz' hR' (by rw [k25]; exact hP.1.2)).mono (fun r2 z2 hr2 hi2 hl2 q => ?_)⟩
    obtain ⟨e₁, e₂, e₃, q⟩ := q
    subst e₁ e₂ e₃
    rw [k25] at q
    rcases q with ⟨c₂, rfl, e₄⟩ | ⟨c₂, rfl, rfl⟩
    · have nk : (up2 hi' 37 0 0) 37 25 = hi 37 25 := by rw [up2_if (by omega), k25]
      have hr_ : ∀ b j, hi2 b j = if b = 37 ∧ j = 25 then hi 37 25 + 1 else if b = 58 ∧ (4 * hi 37 25 ≤ j ∧ j < 4 * hi 37 25 + 4) then mN4 (j - 4 * hi 37 25) else if 2 ≤ (1 : Int) ∧ b = 57 ∧ (8 * hi 37 25 ≤ j ∧ j < 8 * hi 37 25 + 8) then (up2 hi' 37 0 0) 57 (8 * (a) + (j - 8 * hi 37 25)) else if b = 56 ∧ j = hi 37 25 then m else if b = 55 ∧ j = hi 37 25 then (b9) else if b = 54 ∧ j = hi 37 25 then (a) else if b = 53 ∧ j = hi 37 25 then (1) else (up2 hi' 37 0 0) b j := fun b j => by rw [e₄, mGr_r, nk]
      have hz_ : ∀ b j, z.1 ≤ b → hi2 b j = hi' b j := fun b j w => by rw [hr_, if_neg (by omega), if_neg (by omega), if_neg (by omega), if_neg (by omega), if_neg (by omega), if_neg (by omega), if_neg (by omega), up2_if (by omega)]
      have ho : ∀ b j, ¬ chN (hi 37 25) b j → hi2 b j = (up2 hi' 37 0 0) b j := fun b j w => by
        unfold chN at w
        rw [hr_, if_neg (by omega), if_neg (by omega), if_neg (by omega), if_neg (by omega), if_neg (by omega), if_neg (by omega), if_neg (by omega)]
      refine ⟨by rw [h9], ?_⟩
      refine RR_grow h (by omega) (f := a) (e := b9)  ?_ ?_ ?_ (fun j => by rw [hz_ z.1 j (Nat.le_refl _)]; exact aZ' j) ?_ ?_ ?_ ?_ (fun j j₀ j₁ => ?_) (fun j j₀ j₁ => ?_) ?_ ?_
      · intro b j w₁ w₂
        rw [ho b j w₂]
        unfold chN at w₂
        rw [up2_if (by omega)]
        exact aU b j w₁ (by omega)
      · rw [hr_, if_neg (by omega), if_neg (by omega), if_neg (by omega), if_neg (by omega), if_neg (by omega), if_neg (by omega), if_neg (by omega)]
        rw [up2_if (by omega), e₀, up2_s]
      · rw [hr_, if_pos ⟨rfl, rfl⟩]
      · rw [hr_, if_neg (by omega), if_neg (by omega), if_neg (by omega), if_neg (by omega), if_neg (by omega), if_neg (by omega), if_pos ⟨rfl, rfl⟩]
      · rw [hr_, if_neg (by omega), if_neg (by omega), if_neg (by omega), if_neg (by omega), if_neg (by omega), if_pos ⟨rfl, rfl⟩]
      · rw [hr_, if_neg (by omega), if_neg (by omega), if_neg (by omega), if_neg (by omega), if_pos ⟨rfl, rfl⟩]
      · rw [hr_, if_neg (by omega), if_neg (by omega), if_neg (by omega), if_pos ⟨rfl, rfl⟩]
      · rw [hr_, if_neg (by omega), if_pos ⟨rfl, by omega, by omega⟩, show 4 * hi 37 25 + j - 4 * hi 37 25 = j by omega, mN4_v ⟨j₀, j₁⟩]
      · rw [hz_ (z.1 + 1) j (by omega), aM' j j₀ j₁, hr_, if_neg (by omega), if_neg (by omega), if_neg (by omega), if_neg (by omega), if_neg (by omega), if_neg (by omega), if_neg (by omega), up2_if (by omega), aU 57 _ (by omega) (by omega)]
        exact ((hP.2.2.2.2 (hi 37 25) (Int.le_refl _) (by omega)).1 j j₀ j₁).symm
      · exact c₁.2.2.1
      · refine Or.inr ⟨Or.inl rfl, ⟨c₁.1.1, by omega⟩, rfl, ?_, rfl, rfl, rfl⟩
        by_cases u : b9 = -1
        · exact Or.inl ⟨u, if_pos u⟩
        · exact Or.inr ⟨by omega, rfl, if_neg u⟩
    · exfalso; omega
  · obtain rfl := e₁.symm
    obtain rfl := e₂.symm
    obtain rfl := e₃.symm
    obtain rfl := e₅.symm
    refine ⟨_, rfl, hz, (m_seed (d := d + 29) hz hR hP.1.2).mono (fun r2 z2 hr2 hi2 hl2 q => ?_)⟩
    obtain ⟨e₁, e₂, e₃, q⟩ := q
    obtain rfl := e₁.symm
    obtain rfl := e₂.symm
    obtain rfl := e₃.symm
    rcases q with ⟨c₂, rfl, rfl⟩ | ⟨c₂, rfl, rfl⟩
    · exfalso; omega
    · exact ⟨rfl, h.t0⟩
set_option maxHeartbeats 2000000 in
theorem st_cut (h : RR k z hr hi hl) (hk9 : k < 100000) {a m : Int} : stp G d k mX9_cut mX10_cut [vR 0, vI a, vI m] [vR 37, vI a, vI m] z hr hi hl := by
  obtain ⟨⟨hz, hR, hk, hs⟩, hD, hP, hB, hM, hS, hT, hX⟩ := id h
  have h80 := hz.1
  have hP₁ := hP.1
  have h9 := hP.1.1
  refine (c_cut (d := d + 27) hz hR (by omega) hP.n hP.cP).mono (fun r z' hr' hi' hl' q => ?_)
  rcases q with ⟨c₁, rfl, e₂, rfl, rfl, e₀⟩ | ⟨c₁, e₁, e₂, e₃, rfl, e₅⟩
  · rw [h9] at e₀ e₂
    have hz' : stZ (a_al (a_al z 3 17) 20 8) := hz.al.al
    have e₂' : hr' = nR z hr (hi 37 25) (some (pC hr a)) (none) := e₂
    subst e₂'
    have er : ∀ b j, b < z.1 → b ≠ 1 → nR z hr (hi 37 25) (some (pC hr a)) (none) b j = hr b j := fun b j w₁ w₂ => by
      unfold nR nwR
      rw [up2_no (by omega), up2_no (by omega), up2_no (by omega), up2_no (by omega), cl0_n (by omega), cl0_n (by omega)]
    have hR' : stR (nR z hr (hi 37 25) (some (pC hr a)) (none)) := hR.ext2 hz fun b j w₁ w₂ w₃ => er b j w₁ w₂
    have s := hP.st c₁.1.1 (by omega : a < hi 37 25)
    have s1 := s.2.1.1
    have s2 := s.2.2.2.1.1
    have s8 := s.2.2.2.2
    have aU : ∀ b j, b < z.1 → ¬ (b = 0 ∧ j = 9) → hi' b j = hi b j := fun b j w₁ w₂ => by
      rw [e₀, up2_if w₂]
      unfold cpy ofI
      rw [if_neg (by omega), up2_if (by omega), up2_if (by omega), up2_if (by omega), up2_if (by omega), up2_if (by omega), up2_if (by omega), up2_if (by omega), up2_if (by omega), up2_if (by omega), cl0_n (by omega), cl0_n (by omega)]
    have aZ' : ∀ j, hi' z.1 j = ofI (cl0 (cl0 (hi) z.1 0) (z.1 + 1) 0) z.1 (hi 37 25) (2) (hi (pC hr a) 4) (hi (pC hr a) 5) (1) m z.1 j := fun j => by
      rw [e₀, up2_if (by omega)]
      unfold cpy
      rw [if_neg (by omega)]
    have aM' : ∀ j, 0 ≤ j → j < 8 → hi' (z.1 + 1) j = hi (mC hr a) j := fun j j₀ j₁ => by
      rw [e₀, up2_if (by omega)]
      unfold cpy ofI
      rw [if_pos ⟨rfl, j₀, j₁⟩, up2_if (by omega), up2_if (by omega), up2_if (by omega), up2_if (by omega), up2_if (by omega), up2_if (by omega), up2_if (by omega), up2_if (by omega), up2_if (by omega), cl0_n (by omega), cl0_n (by omega)]
    have k25 := aU 37 25 (by omega) (by omega)
    refine ⟨_, rfl, hz', (m_cut (d := d + 29) hz' hR' (by rw [k25]; exact hP.1.2)).mono (fun r2 z2 hr2 hi2 hl2 q => ?_)⟩
    obtain ⟨e₁, e₂, e₃, q⟩ := q
    subst e₁ e₂ e₃
    rw [k25] at q
    rcases q with ⟨c₂, rfl, e₄⟩ | ⟨c₂, rfl, rfl⟩
    · have nk : (up2 hi' 37 0 0) 37 25 = hi 37 25 := by rw [up2_if (by omega), k25]
      have hr_ : ∀ b j, hi2 b j = if b = 37 ∧ j = 25 then hi 37 25 + 1 else if b = 58 ∧ (4 * hi 37 25 ≤ j ∧ j < 4 * hi 37 25 + 4) then mN4 (j - 4 * hi 37 25) else if 2 ≤ (2 : Int) ∧ b = 57 ∧ (8 * hi 37 25 ≤ j ∧ j < 8 * hi 37 25 + 8) then (up2 hi' 37 0 0) 57 (8 * (a) + (j - 8 * hi 37 25)) else if b = 56 ∧ j = hi 37 25 then m else if b = 55 ∧ j = hi 37 25 then (-1) else if b = 54 ∧ j = hi 37 25 then (a) else if b = 53 ∧ j = hi 37 25 then (2) else (up2 hi' 37 0 0) b j := fun b j => by rw [e₄, mGr_r, nk]
      have hz_ : ∀ b j, z.1 ≤ b → hi2 b j = hi' b j := fun b j w => by rw [hr_, if_neg (by omega), if_neg (by omega), if_neg (by omega), if_neg (by omega), if_neg (by omega), if_neg (by omega), if_neg (by omega), up2_if (by omega)]
      have ho : ∀ b j, ¬ chN (hi 37 25) b j → hi2 b j = (up2 hi' 37 0 0) b j := fun b j w => by
        unfold chN at w
        rw [hr_, if_neg (by omega), if_neg (by omega), if_neg (by omega), if_neg (by omega), if_neg (by omega), if_neg (by omega), if_neg (by omega)]
      refine ⟨by rw [h9], ?_⟩
      refine RR_grow h (by omega) (f := a) (e := -1)  ?_ ?_ ?_ (fun j => by rw [hz_ z.1 j (Nat.le_refl _)]; exact aZ' j) ?_ ?_ ?_ ?_ (fun j j₀ j₁ => ?_) (fun j j₀ j₁ => ?_) ?_ ?_
      · intro b j w₁ w₂
        rw [ho b j w₂]
        unfold chN at w₂
        rw [up2_if (by omega)]
        exact aU b j w₁ (by omega)
      · rw [hr_, if_neg (by omega), if_neg (by omega), if_neg (by omega), if_neg (by omega), if_neg (by omega), if_neg (by omega), if_neg (by omega)]
        rw [up2_if (by omega), e₀, up2_s]
      · rw [hr_, if_pos ⟨rfl, rfl⟩]
      · rw [hr_, if_neg (by omega), if_neg (by omega), if_neg (by omega), if_neg (by omega), if_neg (by omega), if_neg (by omega), if_pos ⟨rfl, rfl⟩]
      · rw [hr_, if_neg (by omega), if_neg (by omega), if_neg (by omega), if_neg (by omega), if_neg (by omega), if_pos ⟨rfl, rfl⟩]
      · rw [hr_, if_neg (by omega), if_neg (by omega), if_neg (by omega), if_neg (by omega), if_pos ⟨rfl, rfl⟩]
      · rw [hr_, if_neg (by omega), if_neg (by omega), if_neg (by omega), if_pos ⟨rfl, rfl⟩]
      · rw [hr_, if_neg (by omega), if_pos ⟨rfl, by omega, by omega⟩, show 4 * hi 37 25 + j - 4 * hi 37 25 = j by omega, mN4_v ⟨j₀, j₁⟩]
      · rw [hz_ (z.1 + 1) j (by omega), aM' j j₀ j₁, hr_, if_neg (by omega), if_neg (by omega), if_pos ⟨by decide, rfl, by omega, by omega⟩, show 8 * hi 37 25 + j - 8 * hi 37 25 = j by omega, up2_if (by omega), aU 57 _ (by omega) (by omega)]
        exact (hP.2.1 a c₁.1.1 (by omega)).2.1.2.2.2.2.2.2.2.2 j j₀ j₁
      · exact c₁.2.1
      · exact Or.inr ⟨Or.inr (Or.inl rfl), ⟨c₁.1.1, by omega⟩, rfl, Or.inl ⟨rfl, rfl⟩, rfl, rfl, rfl⟩
    · exfalso; omega
  · obtain rfl := e₁.symm
    obtain rfl := e₂.symm
    obtain rfl := e₃.symm
    obtain rfl := e₅.symm
    refine ⟨_, rfl, hz, (m_cut (d := d + 29) hz hR hP.1.2).mono (fun r2 z2 hr2 hi2 hl2 q => ?_)⟩
    obtain ⟨e₁, e₂, e₃, q⟩ := q
    obtain rfl := e₁.symm
    obtain rfl := e₂.symm
    obtain rfl := e₃.symm
    rcases q with ⟨c₂, rfl, rfl⟩ | ⟨c₂, rfl, rfl⟩
    · exfalso; omega
    · exact ⟨rfl, h.t0⟩
end STPB
