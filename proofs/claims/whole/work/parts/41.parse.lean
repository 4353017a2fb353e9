/-! The reference's reading of a TEXT, said as a partial function of the heap alone (pRun: controls 0 part, 1 to 6 the places of goesOnBehind). kd: the kind of each TOKEN, numbered as the class numbers it; pl: its place; nu: its number. -/
def mEm (hi : aI) (c a : Int) : aI := up2 (up2 (up2 hi 46 (660 * hi 37 16 + hi 37 17) c) 47 (660 * hi 37 16 + hi 37 17) a) 37 17 (hi 37 17 + 1)
def mOp (hi : aI) : aI := up2 (up2 (up2 hi 48 (hi 37 18) 0) 49 (hi 37 18) 0) 50 (hi 37 18) 0
abbrev pG (hi : aI) : Prop := (0 ≤ hi 37 7 ∧ hi 37 7 ≤ 600) ∧ (0 ≤ hi 37 17 ∧ hi 37 17 ≤ 650) ∧ (0 ≤ hi 37 18 ∧ hi 37 18 ≤ 5) ∧ (0 ≤ hi 37 16 ∧ hi 37 16 ≤ 1)
def pRun (kd pl nu : Int → Int) : Nat → Nat → aI → Option aI
  | 0, _, _ => none
  | n + 1, c, hi => if ¬ pG hi then none else match c with
    | 0 => if kd (hi 37 7) > 8 then some (up2 hi 37 8 (1 + 16 * pl (hi 37 7)))
      else if hi 37 18 = 5 then some (up2 hi 37 8 (5 + 16 * pl (hi 37 7)))
      else if kd (hi 37 7) = 8 then pRun kd pl nu n 0 (mOp (up2 (up2 hi 37 7 (hi 37 7 + 1)) 37 18 (hi 37 18 + 1)))
      else pRun kd pl nu n 1 (up2 (mEm hi (if kd (hi 37 7) = 7 then 1 else 2) (if kd (hi 37 7) = 7 then nu (hi 37 7) else kd (hi 37 7))) 37 7 (hi 37 7 + 1))
    | 1 => if ¬ hi 48 (hi 37 18) = 0 then pRun kd pl nu n 2 (up2 (mEm hi (hi 48 (hi 37 18)) 0) 48 (hi 37 18) 0) else pRun kd pl nu n 2 hi
    | 2 => if kd (hi 37 7) = 12 then pRun kd pl nu n 0 (up2 (up2 hi 48 (hi 37 18) 3) 37 7 (hi 37 7 + 1))
      else if kd (hi 37 7) = 13 then pRun kd pl nu n 0 (up2 (up2 hi 48 (hi 37 18) 4) 37 7 (hi 37 7 + 1)) else pRun kd pl nu n 3 hi
    | 3 => if ¬ hi 49 (hi 37 18) = 0 then pRun kd pl nu n 4 (up2 (mEm hi (hi 49 (hi 37 18)) 0) 49 (hi 37 18) 0)
      else if kd (hi 37 7) = 10 then pRun kd pl nu n 0 (up2 (up2 hi 49 (hi 37 18) 5) 37 7 (hi 37 7 + 1))
      else if kd (hi 37 7) = 11 then pRun kd pl nu n 0 (up2 (up2 hi 49 (hi 37 18) 6) 37 7 (hi 37 7 + 1)) else pRun kd pl nu n 4 hi
    | 4 => if ¬ hi 50 (hi 37 18) = 0 then pRun kd pl nu n 5 (up2 (mEm hi 7 0) 50 (hi 37 18) 0) else pRun kd pl nu n 5 hi
    | 5 => if kd (hi 37 7) = 14 then pRun kd pl nu n 0 (up2 (up2 hi 50 (hi 37 18) 7) 37 7 (hi 37 7 + 1)) else pRun kd pl nu n 6 hi
    | _ => if hi 37 18 = 0 then some hi
      else if kd (hi 37 7) = 9 then pRun kd pl nu n 1 (up2 (up2 hi 37 7 (hi 37 7 + 1)) 37 18 (hi 37 18 - 1))
      else some (up2 (up2 hi 37 8 (1 + 16 * pl (hi 37 7))) 37 18 (hi 37 18 - 1))
/-- the TOKEN a of the reference is of kind kd a .. -/
def tkAt (kd pl nu : Int → Int) (so p : Int → Int) (hl : aI) (a : Int) : Prop :=
  (0 ≤ kd a ∧ kd a ≤ 20) ∧ (0 ≤ pl a ∧ pl a ≤ 600) ∧ p a = pl a ∧ (so a = 0 ↔ kd a = 19) ∧ (so a = 2 ↔ kd a = 7) ∧ (kd a = 7 → hl 41 a = nu a ∧ 0 ≤ nu a ∧ nu a ≤ 9999) ∧
  ((so a = 3 ∧ hl 41 a = 40) ↔ kd a = 8) ∧ ((so a = 3 ∧ hl 41 a = 41) ↔ kd a = 9) ∧ ((so a = 3 ∧ hl 41 a = 60) ↔ kd a = 10) ∧ ((so a = 3 ∧ hl 41 a = 61) ↔ kd a = 11) ∧
  ((so a = 3 ∧ hl 41 a = 43) ↔ kd a = 12) ∧ ((so a = 3 ∧ hl 41 a = 45) ↔ kd a = 13) ∧ ((so a = 3 ∧ hl 41 a = 59) ↔ kd a = 15) ∧
  ((so a = 1 ∧ hl 41 a = hl 42 0) ↔ kd a = 16) ∧ ((so a = 1 ∧ hl 41 a = hl 42 1) ↔ kd a = 17) ∧ ((so a = 1 ∧ hl 41 a = hl 42 2) ↔ kd a = 18) ∧ ((so a = 1 ∧ hl 41 a = hl 42 3) ↔ kd a = 14) ∧
  (∀ k : Int, 0 ≤ k → k < 7 → ((so a = 1 ∧ hl 41 a = hl 42 (4 + k)) ↔ kd a = k))
def tkR (kd pl nu : Int → Int) (so p : Int → Int) (hl : aI) : Prop := ∀ a, 0 ≤ a → a ≤ 600 → tkAt kd pl nu so p hl a
section TK
variable {kd pl nu : Int → Int} {so p : Int → Int} {hl : aI} {a : Int}
theorem tkAt.k (h : tkAt kd pl nu so p hl a) : 0 ≤ kd a ∧ kd a ≤ 20 := h.1
theorem tkAt.pp (h : tkAt kd pl nu so p hl a) : 0 ≤ pl a ∧ pl a ≤ 600 := h.2.1
theorem tkAt.e (h : tkAt kd pl nu so p hl a) : p a = pl a := h.2.2.1
theorem tkAt.s19 (h : tkAt kd pl nu so p hl a) : so a = 0 ↔ kd a = 19 := h.2.2.2.1
theorem tkAt.s7 (h : tkAt kd pl nu so p hl a) : so a = 2 ↔ kd a = 7 := h.2.2.2.2.1
theorem tkAt.n (h : tkAt kd pl nu so p hl a) : kd a = 7 → hl 41 a = nu a ∧ 0 ≤ nu a ∧ nu a ≤ 9999 := h.2.2.2.2.2.1
theorem tkAt.s8 (h : tkAt kd pl nu so p hl a) : (so a = 3 ∧ hl 41 a = 40) ↔ kd a = 8 := h.2.2.2.2.2.2.1
theorem tkAt.s9 (h : tkAt kd pl nu so p hl a) : (so a = 3 ∧ hl 41 a = 41) ↔ kd a = 9 := h.2.2.2.2.2.2.2.1
theorem tkAt.s10 (h : tkAt kd pl nu so p hl a) : (so a = 3 ∧ hl 41 a = 60) ↔ kd a = 10 := h.2.2.2.2.2.2.2.2.1
theorem tkAt.s11 (h : tkAt kd pl nu so p hl a) : (so a = 3 ∧ hl 41 a = 61) ↔ kd a = 11 := h.2.2.2.2.2.2.2.2.2.1
theorem tkAt.s12 (h : tkAt kd pl nu so p hl a) : (so a = 3 ∧ hl 41 a = 43) ↔ kd a = 12 := h.2.2.2.2.2.2.2.2.2.2.1
theorem tkAt.s13 (h : tkAt kd pl nu so p hl a) : (so a = 3 ∧ hl 41 a = 45) ↔ kd a = 13 := h.2.2.2.2.2.2.2.2.2.2.2.1
theorem tkAt.s15 (h : tkAt kd pl nu so p hl a) : (so a = 3 ∧ hl 41 a = 59) ↔ kd a = 15 := h.2.2.2.2.2.2.2.2.2.2.2.2.1
theorem tkAt.w16 (h : tkAt kd pl nu so p hl a) : (so a = 1 ∧ hl 41 a = hl 42 0) ↔ kd a = 16 := h.2.2.2.2.2.2.2.2.2.2.2.2.2.1
theorem tkAt.w17 (h : tkAt kd pl nu so p hl a) : (so a = 1 ∧ hl 41 a = hl 42 1) ↔ kd a = 17 := h.2.2.2.2.2.2.2.2.2.2.2.2.2.2.1
theorem tkAt.w18 (h : tkAt kd pl nu so p hl a) : (so a = 1 ∧ hl 41 a = hl 42 2) ↔ kd a = 18 := h.2.2.2.2.2.2.2.2.2.2.2.2.2.2.2.1
theorem tkAt.w14 (h : tkAt kd pl nu so p hl a) : (so a = 1 ∧ hl 41 a = hl 42 3) ↔ kd a = 14 := h.2.2.2.2.2.2.2.2.2.2.2.2.2.2.2.2.1
theorem tkAt.w (h : tkAt kd pl nu so p hl a) : ∀ k : Int, 0 ≤ k → k < 7 → ((so a = 1 ∧ hl 41 a = hl 42 (4 + k)) ↔ kd a = k) := h.2.2.2.2.2.2.2.2.2.2.2.2.2.2.2.2.2
end TK
def tkH (kd pl nu : Int → Int) (hi hl : aI) : Prop := tkR kd pl nu (hi 39) (hi 40) hl
theorem tkH.up {kd pl nu : Int → Int} {hi hl : aI} {b : Nat} {i v : Int} (h : tkH kd pl nu hi hl) (h1 : 39 ≠ b) (h2 : 40 ≠ b) : tkH kd pl nu (up2 hi b i v) hl := by
  unfold tkH
  rw [up2_f h1, up2_f h2]
  exact h
theorem tkH.em {kd pl nu : Int → Int} {hi hl : aI} {c a : Int} (h : tkH kd pl nu hi hl) : tkH kd pl nu (mEm hi c a) hl := ((h.up (by decide) (by decide)).up (by decide) (by decide)).up (by decide) (by decide)
theorem tkH.op {kd pl nu : Int → Int} {hi hl : aI} (h : tkH kd pl nu hi hl) : tkH kd pl nu (mOp hi) hl := ((h.up (by decide) (by decide)).up (by decide) (by decide)).up (by decide) (by decide)
theorem pRun_g {kd pl nu : Int → Int} {n c : Nat} {hi hf : aI} (h : pRun kd pl nu n c hi = some hf) : pG hi := by
  cases n with
  | zero => exact absurd h (by simp [pRun])
  | succ n =>
    by_cases hg : pG hi
    · exact hg
    · simp [pRun, hg] at h
section PR
variable {kd pl nu : Int → Int} {n : Nat} {hi hf : aI}
theorem pRun_0 (hg : pG hi) : pRun kd pl nu (n + 1) 0 hi = if kd (hi 37 7) > 8 then some (up2 hi 37 8 (1 + 16 * pl (hi 37 7)))
      else if hi 37 18 = 5 then some (up2 hi 37 8 (5 + 16 * pl (hi 37 7)))
      else if kd (hi 37 7) = 8 then pRun kd pl nu n 0 (mOp (up2 (up2 hi 37 7 (hi 37 7 + 1)) 37 18 (hi 37 18 + 1)))
      else pRun kd pl nu n 1 (up2 (mEm hi (if kd (hi 37 7) = 7 then 1 else 2) (if kd (hi 37 7) = 7 then nu (hi 37 7) else kd (hi 37 7))) 37 7 (hi 37 7 + 1)) := by
  rw [pRun, if_neg (not_not_intro hg)]
theorem pRun_1 (hg : pG hi) : pRun kd pl nu (n + 1) 1 hi = if ¬ hi 48 (hi 37 18) = 0 then pRun kd pl nu n 2 (up2 (mEm hi (hi 48 (hi 37 18)) 0) 48 (hi 37 18) 0) else pRun kd pl nu n 2 hi := by
  rw [pRun, if_neg (not_not_intro hg)]
theorem pRun_2 (hg : pG hi) : pRun kd pl nu (n + 1) 2 hi = if kd (hi 37 7) = 12 then pRun kd pl nu n 0 (up2 (up2 hi 48 (hi 37 18) 3) 37 7 (hi 37 7 + 1))
      else if kd (hi 37 7) = 13 then pRun kd pl nu n 0 (up2 (up2 hi 48 (hi 37 18) 4) 37 7 (hi 37 7 + 1)) else pRun kd pl nu n 3 hi := by
  rw [pRun, if_neg (not_not_intro hg)]
theorem pRun_3 (hg : pG hi) : pRun kd pl nu (n + 1) 3 hi = if ¬ hi 49 (hi 37 18) = 0 then pRun kd pl nu n 4 (up2 (mEm hi (hi 49 (hi 37 18)) 0) 49 (hi 37 18) 0)
      else if kd (hi 37 7) = 10 then pRun kd pl nu n 0 (up2 (up2 hi 49 (hi 37 18) 5) 37 7 (hi 37 7 + 1))
      else if kd (hi 37 7) = 11 then pRun kd pl nu n 0 (up2 (up2 hi 49 (hi 37 18) 6) 37 7 (hi 37 7 + 1)) else pRun kd pl nu n 4 hi := by
  rw [pRun, if_neg (not_not_intro hg)]
theorem pRun_4 (hg : pG hi) : pRun kd pl nu (n + 1) 4 hi = if ¬ hi 50 (hi 37 18) = 0 then pRun kd pl nu n 5 (up2 (mEm hi 7 0) 50 (hi 37 18) 0) else pRun kd pl nu n 5 hi := by
  rw [pRun, if_neg (not_not_intro hg)]
theorem pRun_5 (hg : pG hi) : pRun kd pl nu (n + 1) 5 hi = if kd (hi 37 7) = 14 then pRun kd pl nu n 0 (up2 (up2 hi 50 (hi 37 18) 7) 37 7 (hi 37 7 + 1)) else pRun kd pl nu n 6 hi := by
  rw [pRun, if_neg (not_not_intro hg)]
theorem pRun_6 (hg : pG hi) : pRun kd pl nu (n + 1) 6 hi = if hi 37 18 = 0 then some hi
      else if kd (hi 37 7) = 9 then pRun kd pl nu n 1 (up2 (up2 hi 37 7 (hi 37 7 + 1)) 37 18 (hi 37 18 - 1))
      else some (up2 (up2 hi 37 8 (1 + 16 * pl (hi 37 7))) 37 18 (hi 37 18 - 1)) := by
  rw [pRun, if_neg (not_not_intro hg)] <;> decide
end PR
