/-! both sides beside each other: the relation R, in groups, each with the cells that it reads -/
section RELS
variable {z z' : aZ} {hr : aR} {hi hi' hl hl' : aI} {k : Nat}
def rdD (b : Nat) (j : Int) : Prop := (b = 0 ∧ j = 11) ∨ (b = 37 ∧ j = 24)
def rdP (b : Nat) (j : Int) : Prop := (b = 0 ∧ j = 9) ∨ (b = 37 ∧ (j = 25 ∨ j = 45)) ∨ (53 ≤ b ∧ b ≤ 63) ∨ 81 ≤ b
def rdB (b : Nat) (j : Int) : Prop := (b = 0 ∧ j = 10) ∨ (b = 37 ∧ (j = 25 ∨ j = 45)) ∨ b = 59 ∨ (70 ≤ b ∧ b ≤ 72) ∨ 81 ≤ b
def rdM (b : Nat) (j : Int) : Prop := (b = 3 ∧ (j = 6 ∨ j = 7)) ∨ (4 ≤ b ∧ b ≤ 9) ∨ (b = 37 ∧ (j = 24 ∨ j = 37 ∨ j = 41)) ∨ (64 ≤ b ∧ b ≤ 69)
def rdS (b : Nat) (j : Int) : Prop := (b = 28 ∧ j = 1) ∨ b = 29 ∨ (b = 37 ∧ j = 54) ∨ b = 78
def rdT (b : Nat) (j : Int) : Prop := (b = 15 ∧ j = 1) ∨ b = 16 ∨ (b = 37 ∧ j = 2) ∨ b = 38
def rdX (b : Nat) (j : Int) : Prop := (39 ≤ b ∧ b ≤ 40) ∨ (43 ≤ b ∧ b ≤ 47) ∨ (b = 37 ∧ (j = 15 ∨ j = 18)) ∨ ((b = 22 ∨ b = 31) ∧ j = 7) ∨ (23 ≤ b ∧ b ≤ 26) ∨ (32 ≤ b ∧ b ≤ 35)
/-- the days *) -/
def gD (hi : aI) : Prop := hi 0 11 = hi 37 24 ∧ 0 ≤ hi 37 24 ∧ hi 37 24 ≤ 9999
/-- a PLANT: its cells; what they hold; what it comes of; bounds; what stands for a PLANT that isn't there yet *) -/
def pS (z : aZ) (hr : aR) (q : Int) : Prop := hr 1 q = some (pC hr q) ∧ a_is z (pC hr q) 3 17 ∧ hr (pC hr q) 7 = some (mC hr q) ∧ a_is z (mC hr q) 20 8 ∧ 81 ≤ pC hr q ∧ 81 ≤ mC hr q
def pV (hr : aR) (hi : aI) (q : Int) : Prop := hi (pC hr q) 0 = q ∧ hi (pC hr q) 1 = hi 53 q ∧ hi (pC hr q) 8 = hi 56 q ∧ (∀ j, 0 ≤ j → j < 4 → hi (pC hr q) (9 + j) = hi 58 (4 * q + j)) ∧ hi (pC hr q) 13 = hi 59 q ∧ hi (pC hr q) 14 = hi 61 q ∧ hi (pC hr q) 15 = hi 62 q ∧ hi (pC hr q) 16 = (if hi 60 q = -1 then 0 else hi 60 q) ∧ ∀ j, 0 ≤ j → j < 8 → hi (mC hr q) j = hi 57 (8 * q + j)
def pT (hr : aR) (hi : aI) (q : Int) : Prop :=
  (hi 53 q = 0 ∧ hi 54 q = -1 ∧ hi 55 q = -1 ∧ hr (pC hr q) 2 = none ∧ hr (pC hr q) 3 = none ∧ hi (pC hr q) 4 = q ∧ hi (pC hr q) 5 = hi 63 q ∧ hi (pC hr q) 6 = 0) ∨
  ((hi 53 q = 1 ∨ hi 53 q = 2 ∨ hi 53 q = 3) ∧ (0 ≤ hi 54 q ∧ hi 54 q < q) ∧ hr (pC hr q) 2 = some (pC hr (hi 54 q)) ∧ ((hi 55 q = -1 ∧ hr (pC hr q) 3 = none) ∨ ((0 ≤ hi 55 q ∧ hi 55 q < q) ∧ hi 53 q = 1 ∧ hr (pC hr q) 3 = some (pC hr (hi 55 q)))) ∧
    hi (pC hr q) 4 = hi (pC hr (hi 54 q)) 4 ∧ hi (pC hr q) 5 = hi (pC hr (hi 54 q)) 5 ∧ hi (pC hr q) 6 = (if hi 53 q = 1 then 0 else if hi 53 q = 2 then 1 else hi (pC hr (hi 54 q)) 6))
def pBd (hi : aI) (q : Int) : Prop := (hi 59 q = -1 ∨ (0 ≤ hi 59 q ∧ hi 59 q < hi 37 45)) ∧ (hi 62 q = 0 ∨ (hi 62 q = 1 ∧ 2 ≤ hi 61 q)) ∧ (hi 60 q = -1 ∨ (1 ≤ hi 60 q ∧ hi 60 q ≤ 100)) ∧ (hi 53 q = 0 → 0 ≤ hi 63 q ∧ hi 63 q ≤ 99)
def pD0 (hi : aI) (q : Int) : Prop := (∀ j, 0 ≤ j → j < 8 → hi 57 (8 * q + j) = 0) ∧ hi 59 q = -1 ∧ hi 60 q = -1 ∧ hi 61 q = 0 ∧ hi 62 q = 0
def gP (k : Nat) (z : aZ) (hr : aR) (hi : aI) : Prop := (hi 0 9 = hi 37 25 ∧ 0 ≤ hi 37 25 ∧ hi 37 25 ≤ 40) ∧ (∀ q, 0 ≤ q → q < hi 37 25 → pS z hr q ∧ pV hr hi q ∧ pT hr hi q ∧ pBd hi q) ∧
  (∀ p q, 0 ≤ p → p < hi 37 25 → 0 ≤ q → q < hi 37 25 → mC hr p = mC hr q → p = q) ∧ (∀ q, (0 ≤ hi 56 q ∧ hi 56 q ≤ 100) ∧ 0 ≤ hi 61 q ∧ hi 61 q ≤ k) ∧ ∀ q, hi 37 25 ≤ q → q < 40 → pD0 hi q
def gB (z : aZ) (hr : aR) (hi : aI) : Prop := (hi 0 10 = hi 37 45 ∧ 0 ≤ hi 37 45 ∧ hi 37 45 ≤ 8) ∧ (∀ b, 0 ≤ b → b < hi 37 45 → hr 2 b = some (bC hr b) ∧ a_is z (bC hr b) 0 3 ∧ 81 ≤ bC hr b ∧ hi (bC hr b) 0 = hi 70 b ∧ hi (bC hr b) 1 = hi 71 b ∧ hi (bC hr b) 2 = hi 72 b ∧ 1 ≤ hi 72 b ∧ hi 72 b ≤ 40) ∧
  (∀ a b, 0 ≤ a → a < hi 37 45 → 0 ≤ b → b < hi 37 45 → bC hr a = bC hr b → a = b) ∧ ∀ b, 0 ≤ b → b < hi 37 45 → sm (hi 37 25).toNat (fun q => if hi 59 q = b then 1 else 0) ≤ hi 72 b
def gM (hi : aI) : Prop := (hi 3 6 = hi 37 37 ∧ 0 ≤ hi 37 37 ∧ hi 37 37 ≤ 300) ∧ (hi 3 7 = hi 37 41 ∧ 0 ≤ hi 37 41 ∧ hi 37 41 ≤ 100) ∧
  (∀ i, hi 4 i = hi 64 i ∧ hi 5 i = hi 65 i ∧ hi 6 i = hi 66 i ∧ hi 7 i = hi 67 i ∧ hi 8 i = hi 68 i ∧ hi 9 i = hi 69 i) ∧
  (∀ i, 0 ≤ i → i < hi 37 41 → (1 ≤ hi 67 i ∧ hi 67 i ≤ 50) ∧ (0 ≤ hi 68 i ∧ hi 68 i ≤ 50) ∧ hi 69 i ≤ hi 37 24) ∧ (∀ i, 0 ≤ i → i < hi 37 37 → 1 ≤ hi 65 i ∧ hi 65 i ≤ 50) ∧
  ∀ jd v, v ≤ 50 → mZ (fun y => mJoin hi y jd) 50 v
def gSn (hi : aI) : Prop := (hi 28 1 = hi 37 54 ∧ 0 ≤ hi 37 54 ∧ hi 37 54 ≤ 100) ∧ ∀ i, hi 29 i = hi 78 i
def gTp (hi : aI) : Prop := (hi 15 1 = hi 37 2 ∧ 0 ≤ hi 37 2 ∧ hi 37 2 ≤ 600) ∧ (∀ i, hi 16 i = hi 38 i) ∧ ∀ i, 0 ≤ hi 38 i ∧ hi 38 i ≤ 255
def gTx (hr : aR) (hi hl : aI) : Prop := (∃ (c o : Nat) (X : List (Int × List (Int × Int))), ((c = 22 ∧ o = 31) ∨ (c = 31 ∧ o = 22)) ∧ hr 0 8 = some c ∧ hr 17 1 = some o ∧ tOk X ∧ lC c hi 0 0 X ∧ lR (hi 37 15) hi 0 0 X ∧ hi c 7 = X.length ∧ hi 43 (hi 37 15) = X.length) ∧
  (0 ≤ hi 37 15 ∧ hi 37 15 ≤ 1) ∧ (∀ l, hi 26 l = 0 ∨ hi 26 l = 1) ∧ (∀ l, hi 35 l = 0 ∨ hi 35 l = 1) ∧ (0 ≤ hi 37 18 ∧ hi 37 18 ≤ 5) ∧ LXI hi hl
/-- both sides agree, behind k calls *) -/
def RR (k : Nat) (z : aZ) (hr : aR) (hi hl : aI) : Prop := (stZ z ∧ stR hr ∧ z.1 ≤ 81 + 2 * k ∧ z.2.1 ≤ slT 81 + 25 * k) ∧ gD hi ∧ gP k z hr hi ∧ gB z hr hi ∧ gM hi ∧ gSn hi ∧ gTp hi ∧ gTx hr hi hl
theorem gD.cg (h : gD hi) (e : ∀ b j, rdD b j → hi' b j = hi b j) : gD hi' := by
  unfold gD
  rw [e 0 11 (by unfold rdD; omega), e 37 24 (by unfold rdD; omega)]
  exact h
theorem gP.cg (h : gP k z hr hi) (e : ∀ b j, rdP b j → hi' b j = hi b j) : gP k z hr hi' := by
  obtain ⟨h₁, h₂, h₃, h₄, h₅⟩ := h
  have e1 : hi' 37 25 = hi 37 25 := e 37 25 (by unfold rdP; omega)
  have e2 : hi' 37 45 = hi 37 45 := e 37 45 (by unfold rdP; omega)
  have e0 : hi' 0 9 = hi 0 9 := e 0 9 (by unfold rdP; omega)
  have eb : ∀ b : Nat, (53 ≤ b ∧ b ≤ 63) ∨ 81 ≤ b → hi' b = hi b := fun b hb => funext fun j => e b j (by unfold rdP; omega)
  have e53 := eb 53 (by omega)
  have e54 := eb 54 (by omega)
  have e55 := eb 55 (by omega)
  have e56 := eb 56 (by omega)
  have e57 := eb 57 (by omega)
  have e58 := eb 58 (by omega)
  have e59 := eb 59 (by omega)
  have e60 := eb 60 (by omega)
  have e61 := eb 61 (by omega)
  have e62 := eb 62 (by omega)
  have e63 := eb 63 (by omega)
  unfold gP
  rw [e0, e1, e56, e61]
  refine ⟨h₁, fun q q₀ q₁ => ?_, h₃, h₄, fun q q₀ q₁ => ?_⟩
  · obtain ⟨s, v, t, b⟩ := h₂ q q₀ q₁
    have ep := eb (pC hr q) (Or.inr s.2.2.2.2.1)
    have em := eb (mC hr q) (Or.inr s.2.2.2.2.2)
    refine ⟨s, ?_, ?_, ?_⟩
    · unfold pV
      rw [ep, em, e53, e56, e57, e58, e59, e60, e61, e62]
      exact v
    · rcases t with t | t
      · refine Or.inl ?_
        rw [ep, e53, e54, e55, e63]
        exact t
      · refine Or.inr ?_
        obtain ⟨t₁, t₂, t₃, t₄⟩ := t
        have eq_ := eb (pC hr (hi 54 q)) (Or.inr (h₂ (hi 54 q) t₂.1 (by omega)).1.2.2.2.2.1)
        rw [ep, e53, e54, e55, eq_]
        exact ⟨t₁, t₂, t₃, t₄⟩
    · unfold pBd
      rw [e53, e59, e60, e61, e62, e63, e2]
      exact b
  · unfold pD0
    rw [e57, e59, e60, e61, e62]
    exact h₅ q q₀ q₁
theorem gP.k1 (h : gP k z hr hi) : gP (k + 1) z hr hi := ⟨h.1, h.2.1, h.2.2.1, fun q => by have := h.2.2.2.1 q; exact ⟨this.1, this.2.1, by omega⟩, h.2.2.2.2⟩
theorem gB.cg (h : gB z hr hi) (e : ∀ b j, rdB b j → hi' b j = hi b j) : gB z hr hi' := by
  obtain ⟨h₁, h₂, h₃, h₄⟩ := h
  have e1 : hi' 37 25 = hi 37 25 := e 37 25 (by unfold rdB; omega)
  have e2 : hi' 37 45 = hi 37 45 := e 37 45 (by unfold rdB; omega)
  have e0 : hi' 0 10 = hi 0 10 := e 0 10 (by unfold rdB; omega)
  have eb : ∀ b : Nat, b = 59 ∨ (70 ≤ b ∧ b ≤ 72) ∨ 81 ≤ b → hi' b = hi b := fun b hb => funext fun j => e b j (by unfold rdB; omega)
  have e59 := eb 59 (by omega)
  have e70 := eb 70 (by omega)
  have e71 := eb 71 (by omega)
  have e72 := eb 72 (by omega)
  unfold gB
  rw [e0, e1, e2, e59, e70, e71, e72]
  refine ⟨h₁, fun b b₀ b₁ => ?_, h₃, h₄⟩
  have w := h₂ b b₀ b₁
  rw [eb (bC hr b) (Or.inr (Or.inr w.2.2.1))]
  exact w
theorem gM.cg (h : gM hi) (e : ∀ b j, rdM b j → hi' b j = hi b j) : gM hi' := by
  have e36 : hi' 3 6 = hi 3 6 := e 3 6 (by unfold rdM; omega)
  have e37 : hi' 3 7 = hi 3 7 := e 3 7 (by unfold rdM; omega)
  have e24 : hi' 37 24 = hi 37 24 := e 37 24 (by unfold rdM; omega)
  have e1 : hi' 37 37 = hi 37 37 := e 37 37 (by unfold rdM; omega)
  have e2 : hi' 37 41 = hi 37 41 := e 37 41 (by unfold rdM; omega)
  have eb : ∀ b : Nat, (4 ≤ b ∧ b ≤ 9) ∨ (64 ≤ b ∧ b ≤ 69) → hi' b = hi b := fun b hb => funext fun j => e b j (by unfold rdM; omega)
  have ej : ∀ y jd, mJoin hi' y jd = mJoin hi y jd := fun y jd => by
    show mLast (hi' 67) (hi' 69) (hi' 68) y jd (hi' 37 41).toNat = mLast (hi 67) (hi 69) (hi 68) y jd (hi 37 41).toNat
    rw [eb 67 (by omega), eb 68 (by omega), eb 69 (by omega), e2]
  unfold gM
  rw [e36, e37, e24, e1, e2, eb 4 (by omega), eb 5 (by omega), eb 6 (by omega), eb 7 (by omega), eb 8 (by omega), eb 9 (by omega), eb 64 (by omega), eb 65 (by omega), eb 66 (by omega), eb 67 (by omega), eb 68 (by omega), eb 69 (by omega)]
  refine ⟨h.1, h.2.1, h.2.2.1, h.2.2.2.1, h.2.2.2.2.1, fun jd v hv => ?_⟩
  rw [show (fun y => mJoin hi' y jd) = (fun y => mJoin hi y jd) from funext fun y => ej y jd]
  exact h.2.2.2.2.2 jd v hv
theorem gSn.cg (h : gSn hi) (e : ∀ b j, rdS b j → hi' b j = hi b j) : gSn hi' := by
  unfold gSn
  rw [e 28 1 (by unfold rdS; omega), e 37 54 (by unfold rdS; omega)]
  exact ⟨h.1, fun i => by rw [e 29 i (by unfold rdS; omega), e 78 i (by unfold rdS; omega)]; exact h.2 i⟩
theorem gTp.cg (h : gTp hi) (e : ∀ b j, rdT b j → hi' b j = hi b j) : gTp hi' := by
  unfold gTp
  rw [e 15 1 (by unfold rdT; omega), e 37 2 (by unfold rdT; omega)]
  exact ⟨h.1, fun i => by rw [e 16 i (by unfold rdT; omega), e 38 i (by unfold rdT; omega)]; exact h.2.1 i, fun i => by rw [e 38 i (by unfold rdT; omega)]; exact h.2.2 i⟩
theorem lC_cg {c : Nat} (e1 : hi' (c + 1) = hi (c + 1)) (e2 : hi' (c + 2) = hi (c + 2)) (e3 : hi' (c + 3) = hi (c + 3)) (e4 : hi' (c + 4) = hi (c + 4)) (X : List (Int × List (Int × Int))) : ∀ l f, lC c hi l f X → lC c hi' l f X := by
  induction X with
  | nil => exact fun _ _ _ => trivial
  | cons x X ih =>
    intro l f h
    unfold lC at h ⊢
    rw [e1, e2, e3, e4]
    exact ⟨h.1, h.2.1, h.2.2.1, ih _ _ h.2.2.2⟩
theorem lR_cg {nx : Int} (e1 : hi' 44 = hi 44) (e2 : hi' 45 = hi 45) (e3 : hi' 46 = hi 46) (e4 : hi' 47 = hi 47) (X : List (Int × List (Int × Int))) : ∀ l f, lR nx hi l f X → lR nx hi' l f X := by
  induction X with
  | nil => exact fun _ _ _ => trivial
  | cons x X ih =>
    intro l f h
    unfold lR at h ⊢
    rw [e1, e2, e3, e4]
    exact ⟨h.1, h.2.1, h.2.2.1, h.2.2.2.1, ih _ _ h.2.2.2.2⟩
theorem gTx.cg (h : gTx hr hi hl) (e : ∀ b j, rdX b j → hi' b j = hi b j) (e41 : hl' 41 = hl 41) (e42 : hl' 42 = hl 42) : gTx hr hi' hl' := by
  obtain ⟨⟨c, o, X, h₁, h₂, h₃, h₄, h₅, h₆, h₇, h₈⟩, h₉, ha, hb, hc, hd⟩ := h
  have eb : ∀ b : Nat, (39 ≤ b ∧ b ≤ 40) ∨ (43 ≤ b ∧ b ≤ 47) ∨ (23 ≤ b ∧ b ≤ 26) ∨ (32 ≤ b ∧ b ≤ 35) → hi' b = hi b := fun b hb => funext fun j => e b j (by unfold rdX; omega)
  have e15 : hi' 37 15 = hi 37 15 := e 37 15 (by unfold rdX; omega)
  have e18 : hi' 37 18 = hi 37 18 := e 37 18 (by unfold rdX; omega)
  unfold gTx LXI
  rw [e15, e18, eb 26 (by omega), eb 35 (by omega), eb 39 (by omega), eb 40 (by omega), eb 43 (by omega), e41, e42]
  refine ⟨⟨c, o, X, h₁, h₂, h₃, h₄, lC_cg (eb _ (by omega)) (eb _ (by omega)) (eb _ (by omega)) (eb _ (by omega)) X 0 0 h₅, lR_cg (eb _ (by omega)) (eb _ (by omega)) (eb _ (by omega)) (eb _ (by omega)) X 0 0 h₆, ?_, h₈⟩, h₉, ha, hb, hc, hd⟩
  rw [e c 7 (by unfold rdX; omega)]
  exact h₇
/-- what no group reads *) -/
def NR (b : Nat) (j : Int) : Prop := ¬ rdD b j ∧ ¬ rdP b j ∧ ¬ rdB b j ∧ ¬ rdM b j ∧ ¬ rdS b j ∧ ¬ rdT b j ∧ ¬ rdX b j
theorem RR.k1 (h : RR k z hr hi hl) : RR (k + 1) z hr hi hl := ⟨⟨h.1.1, h.1.2.1, by have := h.1.2.2.1; omega, by have := h.1.2.2.2; omega⟩, h.2.1, h.2.2.1.k1, h.2.2.2⟩
theorem RR.cg (h : RR k z hr hi hl) (e : ∀ b j, ¬ NR b j → hi' b j = hi b j) (e41 : hl' 41 = hl 41) (e42 : hl' 42 = hl 42) : RR (k + 1) z hr hi' hl' := by
  obtain ⟨h₁, h₂, h₃, h₄, h₅, h₆, h₇, h₈⟩ := h.k1
  exact ⟨h₁, h₂.cg fun b j q => e b j fun w => w.1 q, h₃.cg fun b j q => e b j fun w => w.2.1 q, h₄.cg fun b j q => e b j fun w => w.2.2.1 q, h₅.cg fun b j q => e b j fun w => w.2.2.2.1 q, h₆.cg fun b j q => e b j fun w => w.2.2.2.2.1 q, h₇.cg fun b j q => e b j fun w => w.2.2.2.2.2.1 q, h₈.cg (fun b j q => e b j fun w => w.2.2.2.2.2.2 q) e41 e42⟩
/-- only the reference's mark of a throw was set *) -/
theorem RR.t0 {v : Int} (h : RR k z hr hi hl) : RR (k + 1) z hr (up2 hi 37 0 v) hl := h.cg (fun b j q => up2_if (fun w => q (by unfold NR rdD rdP rdB rdM rdS rdT rdX; omega))) rfl rfl
end RELS
