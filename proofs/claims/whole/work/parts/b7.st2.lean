/-! steps that leave what R reads: count, look, named, fits, changed *) -/
section STP2
variable {G : aG} {d k : Nat} {z : aZ} {hr : aR} {hi hi' hl hl' : aI}
theorem RR.cgk (h : RR k z hr hi hl) (e : ∀ b j, ¬ NR b j → hi' b j = hi b j) (e41 : hl' 41 = hl 41) (e42 : hl' 42 = hl 42) : RR k z hr hi' hl' := by
  obtain ⟨h₁, h₂, h₃, h₄, h₅, h₆, h₇, h₈⟩ := h
  exact ⟨h₁, h₂.cg fun b j q => e b j fun w => w.1 q, h₃.cg fun b j q => e b j fun w => w.2.1 q, h₄.cg fun b j q => e b j fun w => w.2.2.1 q, h₅.cg fun b j q => e b j fun w => w.2.2.2.1 q, h₆.cg fun b j q => e b j fun w => w.2.2.2.2.1 q, h₇.cg fun b j q => e b j fun w => w.2.2.2.2.2.1 q, h₈.cg (fun b j q => e b j fun w => w.2.2.2.2.2.2 q) e41 e42⟩
theorem RR.t0k {v : Int} (h : RR k z hr hi hl) : RR k z hr (up2 hi 37 0 v) hl := h.cgk (fun b j q => up2_if (fun w => q (by unfold NR rdD rdP rdB rdM rdS rdT rdX; omega))) rfl rfl
theorem gP.dead (h : gP k z hr hi) (m : Nat) (hm : (m : Int) ≤ hi 37 25) : sm m (fun i => if ¬ hi (pC hr i) 15 = 0 then 1 else 0) = mCnt (hi 62) m := by
  induction m with
  | zero => rfl
  | succ m ih =>
    show sm m (fun i => if ¬ hi (pC hr i) 15 = 0 then 1 else 0) + (if ¬ hi (pC hr m) 15 = 0 then 1 else 0) = mCnt (hi 62) m + if hi 62 m = 0 then 0 else 1
    rw [ih (by omega), (h.2.1 m (by omega) (by omega)).2.1.2.2.2.2.2.2.1]
    by_cases c : hi 62 m = 0
    · rw [if_neg (fun q => q c), if_pos c]
    · rw [if_pos c, if_neg c]
theorem gP.lie (h : gP k z hr hi) (m : Nat) (hm : (m : Int) ≤ hi 37 25) : sm m (fun i => if ¬ hi (pC hr i) 13 = -1 then 1 else 0) = mCnt0 (hi 59) m := by
  induction m with
  | zero => rfl
  | succ m ih =>
    show sm m (fun i => if ¬ hi (pC hr i) 13 = -1 then 1 else 0) + (if ¬ hi (pC hr m) 13 = -1 then 1 else 0) = mCnt0 (hi 59) m + if hi 59 m < 0 then 0 else 1
    have w := h.2.1 m (by omega) (by omega)
    rw [ih (by omega), w.2.1.2.2.2.2.1]
    have b := w.2.2.2.1
    by_cases c : hi 59 m = -1
    · rw [if_neg (fun q => q c), if_pos (by omega)]
    · rw [if_pos c, if_neg (by omega)]
theorem st_count (h : RR k z hr hi hl) {x : Int} : stp G d k mX9_count mX10_count [vR 0, vI x] [vR 37, vI x] z hr hi hl := by
  obtain ⟨⟨hz, hR, hk, hs⟩, hD, hP, hB, hM, hS, hT, hX⟩ := id h
  obtain ⟨c, o, X, x₁, x₂, x₃, x₄, x₅, x₆, x₇, x₈⟩ := hX.1
  have hp := hP.1.2
  have e6 := hP.dead (hi 37 25).toNat (by omega)
  have e9 := hP.lie (hi 37 25).toNat (by omega)
  have key : ∀ c : Nat, hi c 7 = hi 43 (hi 37 15) → (if x = 0 then hi 0 9 else if x = 1 then hi 0 11 else if x = 2 then hi 0 10 else if x = 3 then hi 3 6 else if x = 4 then hi 3 7 else if x = 5 then hi 28 1 else if x = 6 then (sm (hi 0 9).toNat (fun i => if ¬ hi (pC hr i) 15 = 0 then 1 else 0)) else if x = 7 then hi c 7 else if x = 8 then hi 15 1 else if x = 9 then (sm (hi 0 9).toNat (fun i => if ¬ hi (pC hr i) 13 = -1 then 1 else 0)) else -1) = mCount hi x := fun c hc => by
    rw [hP.1.1, hD.1, hB.1.1, hM.1.1, hM.2.1.1, hS.1.1, hT.1.1, hc, e6, e9]
    rfl
  have hc : hi c 7 = hi 43 (hi 37 15) := x₇.trans x₈.symm
  have fin : a_ct G mX10_count (d + 30) [vR 37, vI x] z hr hi hl (fun r2 z2 hr2 hi2 hl2 => r2 = some (vI (mCount hi x)) ∧ RR (k + 1) z2 hr2 hi2 hl2) := (m_count (d := d + 30) hz hR hP.1.2 hX.2.1).mono (fun r2 z2 hr2 hi2 hl2 q => by
    obtain ⟨e₁, e₂, e₃, rfl, rfl⟩ := q
    obtain rfl := e₁.symm
    obtain rfl := e₂.symm
    obtain rfl := e₃.symm
    exact ⟨rfl, h.t0⟩)
  rcases x₁ with ⟨rfl, rfl⟩ | ⟨rfl, rfl⟩
  · refine (c_count22 (d := d + 29) hz hR hP.n hP.cP x₂).mono (fun r z' hr' hi' hl' q => ?_)
    obtain ⟨e₁, e₂, e₃, e₄, rfl⟩ := q
    obtain rfl := e₁.symm
    obtain rfl := e₂.symm
    obtain rfl := e₃.symm
    obtain rfl := e₄.symm
    exact ⟨_, by rw [key 22 hc], hz, fin⟩
  · refine (c_count31 (d := d + 29) hz hR hP.n hP.cP x₂).mono (fun r z' hr' hi' hl' q => ?_)
    obtain ⟨e₁, e₂, e₃, e₄, rfl⟩ := q
    obtain rfl := e₁.symm
    obtain rfl := e₂.symm
    obtain rfl := e₃.symm
    obtain rfl := e₄.symm
    exact ⟨_, by rw [key 31 hc], hz, fin⟩
/-- the law's own calls that may catch *) -/
def stL (G : aG) (d k : Nat) (M₁ : aM) (hh : List (Nat × Nat × Nat × Nat)) (A₁ : List aV) (M₂ : aM) (A₂ : List aV) (z : aZ) (hr : aR) (hi hl : aI) : Prop := a_ctH G M₁ hh (d + 30) A₁ z hr hi hl (fun r z' hr' hi' hl' => ∃ u, r = some (vI u) ∧ stZ z' ∧ a_ct G M₂ (d + 30) A₂ z' hr' hi' hl' (fun r2 z2 hr2 hi2 hl2 => ∃ v, r2 = some (vI v) ∧ hi2 37 0 = u ∧ ((u = 0 ∧ hl2 79 0 = v) ∨ u = 1) ∧ RR (k + 1) z2 hr2 hi2 hl2))
theorem a_ctH.mono {M : aM} {hh : List (Nat × Nat × Nat × Nat)} {As : List aV} {Q Q2 : Option aV → aZ → aR → aI → aI → Prop} (h : a_ctH G M hh d As z hr hi hl Q) (hq : ∀ r z' hr' hi' hl', Q r z' hr' hi' hl' → Q2 r z' hr' hi' hl') : a_ctH G M hh d As z hr hi hl Q2 := by
  obtain ⟨r, z', hr', hi', hl', h1, h2⟩ := h
  exact ⟨r, z', hr', hi', hl', h1, hq _ _ _ _ _ h2⟩
theorem gP.par (h : gP k z hr hi) : (∀ q, 0 ≤ q → q < hi 0 9 → ∀ b, hr (pC hr q) 2 = some b → a_is z b 3 17) ∧ ∀ q, 0 ≤ q → q < hi 0 9 → ∀ b, hr (pC hr q) 3 = some b → a_is z b 3 17 := by
  rw [h.1.1]
  refine ⟨fun q q₀ q₁ b e => ?_, fun q q₀ q₁ b e => ?_⟩
  · rcases (h.2.1 q q₀ q₁).2.2.1 with ⟨t₁, t₂, t₃, t₄, t₅, t₆, t₇, t₈⟩ | ⟨t₁, t₂, t₃, t₄, t₅, t₆, t₇⟩
    · rw [t₄] at e; cases e
    · rw [t₃] at e
      cases e
      exact (h.2.1 _ t₂.1 (by omega)).1.2.1
  · rcases (h.2.1 q q₀ q₁).2.2.1 with ⟨t₁, t₂, t₃, t₄, t₅, t₆, t₇, t₈⟩ | ⟨t₁, t₂, t₃, t₄, t₅, t₆, t₇⟩
    · rw [t₅] at e; cases e
    · rcases t₄ with ⟨u₁, u₂⟩ | ⟨u₁, u₂, u₃⟩
      · rw [u₂] at e; cases e
      · rw [u₃] at e
        cases e
        exact (h.2.1 _ u₁.1 (by omega)).1.2.1
theorem RR.thr (h : RR k z hr hi hl) : RR (k + 1) (a_al z 31 6) (cl0 hr z.1 none) (cl0 hi z.1 0) (cl0 hl z.1 0) := h.ext ext.al (fun b j hb => cl0_n (by omega)) (fun b j hb => cl0_n (by omega)) (fun b j hb => cl0_n (by omega)) (Nat.le_succ _) (by show z.2.1 + 6 ≤ _; omega)
theorem st_look (hTh : gT G) (hG : gS G) (h : RR k z hr hi hl) (hk9 : k < 1000000) {p w : Int} : stL G d k mL_look [(0, 10, 13, 13)] [vR 0, vI p, vI w, vR 79] mX10_look [vR 37, vI p, vI w] z hr hi hl := by
  obtain ⟨⟨hz, hR, hk, hs⟩, hD, hP, hB, hM, hS, hT, hX⟩ := id h
  have h80 := hz.1
  have hP₁ := hP.1
  by_cases hv : (0 ≤ p ∧ p < hi 0 9) ∧ 0 ≤ w ∧ w ≤ 17
  · refine (l_look (d := d + 26) hz hR hP.n hP.cP hP.par.1 hP.par.2 hv).mono (fun r z' hr' hi' hl' q => ?_)
    obtain ⟨e₁, e₂, e₃, rfl, rfl⟩ := q
    obtain rfl := e₁.symm
    obtain rfl := e₂.symm
    obtain rfl := e₃.symm
    refine ⟨_, rfl, hz, (m_look (d := d + 29) hz hR hP.tree hP.1.2.2).mono (fun r2 z2 hr2 hi2 hl2 q => ?_)⟩
    obtain ⟨e₁, e₂, e₃, q⟩ := q
    obtain rfl := e₁.symm
    obtain rfl := e₂.symm
    obtain rfl := e₃.symm
    rcases q with ⟨c₂, rfl, rfl⟩ | ⟨c₂, rfl, rfl⟩
    · refine ⟨_, rfl, up2_s, Or.inl ⟨rfl, ?_⟩, ?_⟩
      · rw [up2_s]
        exact hP.look hv.1.1 (by omega) hv.2.1 hv.2.2
      · exact h.cg (fun b j q => up2_if (fun w => q (by unfold NR rdD rdP rdB rdM rdS rdT rdX; omega))) (funext fun j => up2_n (by decide)) (funext fun j => up2_n (by decide))
    · omega
  · refine (l_lookT (d := d + 22) hz hR hTh hG (by omega) hP.n hv).mono (fun r z' hr' hi' hl' q => ?_)
    obtain ⟨rfl, rfl, rfl, rfl, rfl⟩ := q
    have h' := h.thr
    obtain ⟨⟨hz', hR', -, -⟩, -, hP', -⟩ := id h'
    have e25 : cl0 hi z.1 0 37 25 = hi 37 25 := cl0_n (by omega)
    refine ⟨_, rfl, hz', (m_look (d := d + 29) hz' hR' hP'.tree hP'.1.2.2).mono (fun r2 z2 hr2 hi2 hl2 q => ?_)⟩
    obtain ⟨e₁, e₂, e₃, q⟩ := q
    subst e₁ e₂ e₃
    rcases q with ⟨c₂, rfl, rfl⟩ | ⟨c₂, rfl, rfl⟩
    · rw [e25] at c₂; omega
    · exact ⟨_, rfl, up2_s, Or.inr rfl, h'.t0k⟩
theorem gM.fe (h : gM hi) : hi 4 = hi 64 ∧ hi 5 = hi 65 ∧ hi 6 = hi 66 ∧ hi 7 = hi 67 ∧ hi 8 = hi 68 ∧ hi 9 = hi 69 := ⟨funext fun i => (h.2.2.1 i).1, funext fun i => (h.2.2.1 i).2.1, funext fun i => (h.2.2.1 i).2.2.1, funext fun i => (h.2.2.1 i).2.2.2.1, funext fun i => (h.2.2.1 i).2.2.2.2.1, funext fun i => (h.2.2.1 i).2.2.2.2.2⟩
theorem gM.jn (h : gM hi) (x jd : Int) : cJoin hi x jd = mJoin hi x jd := by
  obtain ⟨-, -, -, e₄, e₅, e₆⟩ := h.fe
  show mLast (hi 7) (hi 9) (hi 8) x jd (hi 3 7).toNat = mLast (hi 67) (hi 69) (hi 68) x jd (hi 37 41).toNat
  rw [e₄, e₅, e₆, h.2.1.1]
theorem gM.gv (h : gM hi) (x jd : Int) : cGiven hi x jd = mGiven hi x jd := by
  obtain ⟨e₁, e₂, e₃, -⟩ := h.fe
  show mLast (hi 4) (hi 6) (hi 5) x jd (hi 3 6).toNat = mLast (hi 64) (hi 66) (hi 65) x jd (hi 37 37).toNat
  rw [e₁, e₂, e₃, h.1.1]
theorem gM.jb (h : gM hi) (x jd : Int) : 0 ≤ mJoin hi x jd ∧ mJoin hi x jd ≤ 50 := by
  have := h.2.1
  exact ⟨mLast_ge _ (fun i i₀ i₁ => (h.2.2.2.1 i i₀ (by omega)).2.1.1) _, mLast_le _ (fun i i₀ i₁ => (h.2.2.2.1 i i₀ (by omega)).2.1.2) _⟩
theorem mLast_0 {a b c : Int → Int} {x d : Int} (n : Nat) (h : ∀ i : Int, 0 ≤ i → i < n → ¬ a i = x) : mLast a b c x d n = 0 := by
  induction n with
  | zero => rfl
  | succ n ih =>
    unfold mLast
    rw [if_neg (fun q => h n (by omega) (by omega) q.1)]
    exact ih fun i i₀ i₁ => h i i₀ (by omega)
theorem gM.j0 (h : gM hi) (jd : Int) : mJoin hi 0 jd = 0 := by
  have := h.2.1
  exact mLast_0 _ fun i i₀ i₁ => by have := (h.2.2.2.1 i i₀ (by omega)).1; omega
theorem gM.nm (h : gM hi) (p dy jd : Int) : mEnd (fun y => cJoin hi y jd) 50 (cGiven hi p dy) = mName hi 50 p dy jd := by
  rw [show (fun y => cJoin hi y jd) = (fun y => mJoin hi y jd) from funext fun y => h.jn y jd, h.gv]
  unfold mName
  by_cases c : mGiven hi p dy = 0
  · rw [if_pos c, c]
    exact mEnd_0 (h.j0 jd) 50
  · rw [if_neg c]
theorem st_named (hTh : gT G) (hG : gS G) (h : RR k z hr hi hl) (hk9 : k < 1000000) {p dy w : Int} : stL G d k mL_named [(0, 12, 15, 13)] [vR 0, vI p, vI dy, vI w, vR 79] mX10_named [vR 37, vI p, vI dy, vI w] z hr hi hl := by
  obtain ⟨⟨hz, hR, hk, hs⟩, hD, hP, hB, hM, hS, hT, hX⟩ := id h
  have h80 := hz.1
  have hP₁ := hP.1
  have hD₁ := hD.1
  have hM₁ := hM.1
  have hM₂ := hM.2.1
  by_cases hv : (0 ≤ p ∧ p < hi 0 9) ∧ (0 ≤ dy ∧ dy ≤ hi 0 11) ∧ 0 ≤ w ∧ w ≤ 1
  · refine (l_named (d := d + 26) hz hR hP.n hP.cP (by omega) (by omega) (fun dy x => by rw [hM.jn]; exact (hM.jb x dy).1) hv).mono (fun r z' hr' hi' hl' q => ?_)
    obtain ⟨e₁, e₂, e₃, rfl, rfl⟩ := q
    obtain rfl := e₁.symm
    obtain rfl := e₂.symm
    obtain rfl := e₃.symm
    refine ⟨_, rfl, hz, (m_named (d := d + 27) (N := 50) hz hR hM₁.2 hM₂.2 (fun jd _ _ x => hM.2.2.2.2.2 jd _ (hM.jb x jd).2)).mono (fun r2 z2 hr2 hi2 hl2 q => ?_)⟩
    obtain ⟨e₁, e₂, e₃, q⟩ := q
    obtain rfl := e₁.symm
    obtain rfl := e₂.symm
    obtain rfl := e₃.symm
    rcases q with ⟨c₂, rfl, rfl⟩ | ⟨c₂, rfl, rfl⟩
    · refine ⟨_, rfl, up2_s, Or.inl ⟨rfl, ?_⟩, ?_⟩
      · rw [up2_s, hM.nm, hD.1]
      · exact h.cg (fun b j q => up2_if (fun w => q (by unfold NR rdD rdP rdB rdM rdS rdT rdX; omega))) (funext fun j => up2_n (by decide)) (funext fun j => up2_n (by decide))
    · omega
  · refine (l_namedT (d := d + 22) hz hR hTh hG (by omega) hP.n hv).mono (fun r z' hr' hi' hl' q => ?_)
    obtain ⟨rfl, rfl, rfl, rfl, rfl⟩ := q
    have h' := h.thr
    obtain ⟨⟨hz', hR', -, -⟩, -, hP', -, hM', -⟩ := id h'
    have e25 : cl0 hi z.1 0 37 25 = hi 37 25 := cl0_n (by omega)
    have e24 : cl0 hi z.1 0 37 24 = hi 37 24 := cl0_n (by omega)
    refine ⟨_, rfl, hz', (m_named (d := d + 27) (N := 50) hz' hR' hM'.1.2 hM'.2.1.2 (fun jd _ _ x => hM'.2.2.2.2.2 jd _ (hM'.jb x jd).2)).mono (fun r2 z2 hr2 hi2 hl2 q => ?_)⟩
    obtain ⟨e₁, e₂, e₃, q⟩ := q
    subst e₁ e₂ e₃
    rcases q with ⟨c₂, rfl, rfl⟩ | ⟨c₂, rfl, rfl⟩
    · rw [e25, e24] at c₂; omega
    · exact ⟨_, rfl, up2_s, Or.inr rfl, h'.t0k⟩
end STP2
