/-! steps: close *) -/
section STP7
variable {G : aG} {d k : Nat} {z : aZ} {hr : aR} {hi hi' hl hl' : aI}
/-- one PLANT checked on both sides *) -/
theorem chk_same {A B : aI} {a : Nat} {p : Int} (e14 : A a 14 = B 61 p) (e15 : A a 15 = B 62 p) (e16 : A a 16 = (if B 60 p = -1 then 0 else B 60 p)) (e8 : A a 8 = B 56 p) (hb : (B 62 p = 0 ∨ (B 62 p = 1 ∧ 2 ≤ B 61 p)) ∧ (B 60 p = -1 ∨ (1 ≤ B 60 p ∧ B 60 p ≤ 100))) (h61 : 0 ≤ B 61 p) (h56 : 0 ≤ B 56 p ∧ B 56 p ≤ 100) :
    cDie A a = mDies B p ∧ (cChk A a) a 14 = (mChk B p) 61 p ∧ (cChk A a) a 15 = (mChk B p) 62 p ∧ (cChk A a) a 16 = (if (mChk B p) 60 p = -1 then 0 else (mChk B p) 60 p) ∧ (cChk A a) a 8 = (mChk B p) 56 p ∧ ((mChk B p) 62 p = 0 ∨ ((mChk B p) 62 p = 1 ∧ 2 ≤ (mChk B p) 61 p)) ∧ ((mChk B p) 60 p = -1 ∨ (1 ≤ (mChk B p) 60 p ∧ (mChk B p) 60 p ≤ 100)) ∧ (0 ≤ (mChk B p) 61 p ∧ (mChk B p) 61 p ≤ B 61 p + 1) ∧ 0 ≤ (mChk B p) 56 p ∧ (mChk B p) 56 p ≤ 100 := by
  unfold cDie cChk mChk
  by_cases c : 0 ≤ B 60 p
  · have c' : 0 < A a 16 := by rw [e16, if_neg (by omega)]; omega
    have e16' : A a 16 = B 60 p := by rw [e16, if_neg (by omega)]
    rw [if_pos c', if_pos c', if_pos c]
    have d₁ : mDies B p = 0 := by unfold mDies; rw [if_pos c]
    have x₁ : up2 (up2 (up2 (up2 A a 14 0) a 8 (A a 16)) a 16 0) a 15 0 a 14 = 0 := by rw [up2_if (by omega), up2_if (by omega), up2_if (by omega), up2_s]
    have x₂ : up2 (up2 (up2 (up2 A a 14 0) a 8 (A a 16)) a 16 0) a 15 0 a 15 = 0 := by rw [up2_s]
    have x₃ : up2 (up2 (up2 (up2 A a 14 0) a 8 (A a 16)) a 16 0) a 15 0 a 16 = 0 := by rw [up2_if (by omega), up2_s]
    have x₄ : up2 (up2 (up2 (up2 A a 14 0) a 8 (A a 16)) a 16 0) a 15 0 a 8 = B 60 p := by rw [up2_if (by omega), up2_if (by omega), up2_s, e16']
    have y₁ : up2 (up2 (up2 (up2 B 61 p 0) 62 p 0) 56 p (B 60 p)) 60 p (-1) 61 p = 0 := by rw [up2_if (by omega), up2_if (by omega), up2_if (by omega), up2_s]
    have y₂ : up2 (up2 (up2 (up2 B 61 p 0) 62 p 0) 56 p (B 60 p)) 60 p (-1) 62 p = 0 := by rw [up2_if (by omega), up2_if (by omega), up2_s]
    have y₃ : up2 (up2 (up2 (up2 B 61 p 0) 62 p 0) 56 p (B 60 p)) 60 p (-1) 60 p = -1 := by rw [up2_s]
    have y₄ : up2 (up2 (up2 (up2 B 61 p 0) 62 p 0) 56 p (B 60 p)) 60 p (-1) 56 p = B 60 p := by rw [up2_if (by omega), up2_s]
    rw [d₁, x₁, x₂, x₃, x₄, y₁, y₂, y₃, y₄, if_pos rfl]
    exact ⟨rfl, rfl, rfl, rfl, rfl, Or.inl rfl, Or.inl rfl, ⟨by decide, by omega⟩, by omega, by omega⟩
  · have c' : ¬ 0 < A a 16 := by rw [e16, if_pos (by omega)]; decide
    rw [if_neg c', if_neg c', if_neg c, e14, e15]
    have d₁ : mDies B p = (if 2 ≤ B 61 p + 1 ∧ B 62 p = 0 then 1 else 0) := by unfold mDies; rw [if_neg c]
    have x₁ : up2 (up2 A a 14 (B 61 p + 1)) a 15 (if 2 ≤ B 61 p + 1 then 1 else 0) a 14 = B 61 p + 1 := by rw [up2_if (by omega), up2_s]
    have x₂ : up2 (up2 A a 14 (B 61 p + 1)) a 15 (if 2 ≤ B 61 p + 1 then 1 else 0) a 15 = (if 2 ≤ B 61 p + 1 then 1 else 0) := by rw [up2_s]
    have x₃ : up2 (up2 A a 14 (B 61 p + 1)) a 15 (if 2 ≤ B 61 p + 1 then 1 else 0) a 16 = A a 16 := by rw [up2_if (by omega), up2_if (by omega)]
    have x₄ : up2 (up2 A a 14 (B 61 p + 1)) a 15 (if 2 ≤ B 61 p + 1 then 1 else 0) a 8 = A a 8 := by rw [up2_if (by omega), up2_if (by omega)]
    have y₁ : ∀ v, up2 (up2 B 61 p (B 61 p + 1)) 62 p v 61 p = B 61 p + 1 := fun v => by rw [up2_if (by omega), up2_s]
    have y₂ : ∀ v, up2 (up2 B 61 p (B 61 p + 1)) 62 p v 62 p = v := fun v => by rw [up2_s]
    have y₃ : ∀ v, up2 (up2 B 61 p (B 61 p + 1)) 62 p v 60 p = B 60 p := fun v => by rw [up2_if (by omega), up2_if (by omega)]
    have y₄ : ∀ v, up2 (up2 B 61 p (B 61 p + 1)) 62 p v 56 p = B 56 p := fun v => by rw [up2_if (by omega), up2_if (by omega)]
    rw [x₁, x₂, x₃, x₄, y₁, y₂, y₃, y₄, d₁]
    have f : (if 2 ≤ B 61 p + 1 then (1 : Int) else 0) = (if ¬ B 62 p = 0 ∨ (if 2 ≤ B 61 p + 1 ∧ B 62 p = 0 then (1 : Int) else 0) = 1 then 1 else 0) := by
      by_cases u : 2 ≤ B 61 p + 1
      · rw [if_pos u]
        by_cases w : B 62 p = 0
        · have i₁ : (if 2 ≤ B 61 p + 1 ∧ B 62 p = 0 then (1 : Int) else 0) = 1 := if_pos ⟨u, w⟩
          exact (if_pos (Or.inr i₁)).symm
        · exact (if_pos (Or.inl w)).symm
      · have w : B 62 p = 0 := by omega
        have i₁ : (if 2 ≤ B 61 p + 1 ∧ B 62 p = 0 then (1 : Int) else 0) = 0 := if_neg (fun q => u q.1)
        rw [if_neg u]
        exact (if_neg (fun q => Or.elim q (fun q => q w) (fun q => by rw [i₁] at q; exact absurd q (by decide)))).symm
    refine ⟨rfl, rfl, f, e16, e8, ?_, hb.2, ⟨by omega, Int.le_refl _⟩, h56⟩
    rw [← f]
    by_cases u : 2 ≤ B 61 p + 1
    · rw [if_pos u]; exact Or.inr ⟨rfl, u⟩
    · rw [if_neg u]; exact Or.inl rfl
theorem mChk_f {B : aI} {p : Int} {b : Nat} {j : Int} (h : ¬ ((b = 56 ∨ b = 60 ∨ b = 61 ∨ b = 62) ∧ j = p)) : (mChk B p) b j = B b j := by
  unfold mChk
  split
  · rw [up2_if (by omega), up2_if (by omega), up2_if (by omega), up2_if (by omega)]
  · rw [up2_if (by omega), up2_if (by omega)]
theorem cChk_f {A : aI} {a b : Nat} {j : Int} (h : ¬ (b = a ∧ (j = 8 ∨ j = 14 ∨ j = 15 ∨ j = 16))) : (cChk A a) b j = A b j := by
  unfold cChk
  split
  · rw [up2_if (by omega), up2_if (by omega), up2_if (by omega), up2_if (by omega)]
  · rw [up2_if (by omega), up2_if (by omega)]
/-- the reference's way from behind *) -/
theorem mClo_s {b : Int} (m : Nat) : ∀ (p : Int) (h : aI) (n : Int), mClo b (m + 1) p h n = (if (mClo b m p h n).1 59 (p + m) = b then (mChk (mClo b m p h n).1 (p + m), (mClo b m p h n).2 + mDies (mClo b m p h n).1 (p + m)) else mClo b m p h n) := by
  induction m with
  | zero =>
    intro p h n
    show (if h 59 p = b then mClo b 0 (p + 1) (mChk h p) (n + mDies h p) else mClo b 0 (p + 1) h n) = (if h 59 (p + (0 : Nat)) = b then (mChk h (p + (0 : Nat)), n + mDies h (p + (0 : Nat))) else (h, n))
    rw [show p + ((0 : Nat) : Int) = p by omega]
    rfl
  | succ m ih =>
    intro p h n
    show (if h 59 p = b then mClo b (m + 1) (p + 1) (mChk h p) (n + mDies h p) else mClo b (m + 1) (p + 1) h n) = _
    have e : p + ((m + 1 : Nat) : Int) = p + 1 + m := by omega
    rw [e]
    have u : mClo b (m + 1) p h n = (if h 59 p = b then mClo b m (p + 1) (mChk h p) (n + mDies h p) else mClo b m (p + 1) h n) := rfl
    rw [u]
    by_cases c : h 59 p = b
    · rw [if_pos c, if_pos c]; exact ih _ _ _
    · rw [if_neg c, if_neg c]; exact ih _ _ _
end STP7
