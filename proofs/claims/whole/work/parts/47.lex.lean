/-! TOKENS of a tape, said once for both sides: s the signs, sz how many -/
def rEnd (p : Int → Bool) (s : Int → Int) (sz : Int) : Nat → Int → Int
  | 0, k => k
  | n + 1, k => if k < sz ∧ p (s k) = true then rEnd p s sz n (k + 1) else k
/-- the end of the run of such signs that begins at k -/
def rE (p : Int → Bool) (s : Int → Int) (sz k : Int) : Int := rEnd p s sz (sz - k).toNat k
def pL (c : Int) : Bool := decide (97 ≤ c ∧ c ≤ 122)
def pD (c : Int) : Bool := decide (48 ≤ c ∧ c ≤ 57)
def pB (c : Int) : Bool := decide (c = 10 ∨ c = 32)
theorem pL_t {c : Int} : pL c = true ↔ (97 ≤ c ∧ c ≤ 122) := decide_eq_true_iff
theorem pD_t {c : Int} : pD c = true ↔ (48 ≤ c ∧ c ≤ 57) := decide_eq_true_iff
theorem pB_t {c : Int} : pB c = true ↔ (c = 10 ∨ c = 32) := decide_eq_true_iff
section LX
variable {p : Int → Bool} {s : Int → Int} {sz k : Int}
theorem rE_t (h : k < sz) (hp : p (s k) = true) : rE p s sz k = rE p s sz (k + 1) := by
  unfold rE
  have e : (sz - k).toNat = (sz - (k + 1)).toNat + 1 := by omega
  rw [e, rEnd, if_pos ⟨h, hp⟩]
theorem rE_f (h : ¬ (k < sz ∧ p (s k) = true)) : rE p s sz k = k := by
  unfold rE
  cases (sz - k).toNat with
  | zero => rfl
  | succ n => rw [rEnd, if_neg h]
theorem rE_b (m : Nat) : ∀ k, (sz - k).toNat = m → k ≤ rE p s sz k ∧ (k ≤ sz → rE p s sz k ≤ sz) ∧ ∀ i, k ≤ i → i < rE p s sz k → p (s i) = true := by
  induction m with
  | zero =>
    intro k hm
    rw [rE_f (by omega)]
    exact ⟨Int.le_refl k, fun h => h, fun i h1 h2 => by omega⟩
  | succ m ih =>
    intro k hm
    by_cases h : k < sz ∧ p (s k) = true
    · rw [rE_t h.1 h.2]
      obtain ⟨i1, i2, i3⟩ := ih (k + 1) (by omega)
      refine ⟨by omega, fun _ => i2 (by omega), fun i h1 h2 => ?_⟩
      by_cases e : i = k
      · rw [e]; exact h.2
      · exact i3 i (by omega) h2
    · rw [rE_f h]
      exact ⟨Int.le_refl k, fun h => h, fun i h1 h2 => by omega⟩
theorem rE_ge : k ≤ rE p s sz k := (rE_b _ k rfl).1
theorem rE_le (h : k ≤ sz) : rE p s sz k ≤ sz := (rE_b _ k rfl).2.1 h
theorem rE_all {i : Int} (h1 : k ≤ i) (h2 : i < rE p s sz k) : p (s i) = true := (rE_b _ k rfl).2.2 i h1 h2
end LX
/-- the number that signs from f on spell with base q, a the sign of 0 -/
def vP (q a : Int) (s : Int → Int) (f : Int) : Nat → Int
  | 0 => 0
  | m + 1 => q * vP q a s f m + (s (f + m) - a)
theorem vP_b {q a : Int} {s : Int → Int} {f : Int} (hq : 1 ≤ q) (m : Nat) (h : ∀ i : Nat, i < m → 0 ≤ s (f + i) - a ∧ s (f + i) - a < q) : 0 ≤ vP q a s f m ∧ vP q a s f m < q ^ m := by
  induction m with
  | zero => simp [vP]
  | succ m ih =>
    obtain ⟨i1, i2⟩ := ih fun i hi => h i (by omega)
    obtain ⟨j1, j2⟩ := h m (by omega)
    rw [vP, Int.pow_succ]
    have h1 : 0 ≤ q * vP q a s f m := Int.mul_nonneg (by omega) i1
    have h2 : q * vP q a s f m ≤ q * (q ^ m - 1) := Int.mul_le_mul_of_nonneg_left (by omega) (by omega)
    rw [Int.mul_sub, Int.mul_one] at h2
    rw [Int.mul_comm (q ^ m) q]
    omega
theorem vP_7 {s : Int → Int} {f : Int} (m : Nat) (hm : m ≤ 7) (h : ∀ i : Nat, i < m → 97 ≤ s (f + i) ∧ s (f + i) ≤ 122) : 0 ≤ vP 37 96 s f m ∧ vP 37 96 s f m < 94931877133 := by
  obtain ⟨h1, h2⟩ := vP_b (q := 37) (a := 96) (s := s) (f := f) (by decide) m fun i hi => by have := h i hi; omega
  have h3 : (37 : Int) ^ m ≤ 94931877133 := by
    have e : m = 0 ∨ m = 1 ∨ m = 2 ∨ m = 3 ∨ m = 4 ∨ m = 5 ∨ m = 6 ∨ m = 7 := by omega
    rcases e with rfl | rfl | rfl | rfl | rfl | rfl | rfl | rfl <;> decide
  omega
theorem vP_3 {s : Int → Int} {f : Int} (m : Nat) (hm : m ≤ 4) (h : ∀ i : Nat, i < m → 48 ≤ s (f + i) ∧ s (f + i) ≤ 57) : 0 ≤ vP 10 48 s f m ∧ vP 10 48 s f m < 10000 := by
  obtain ⟨h1, h2⟩ := vP_b (q := 10) (a := 48) (s := s) (f := f) (by decide) m fun i hi => by have := h i hi; omega
  have h3 : (10 : Int) ^ m ≤ 10000 := by
    have e : m = 0 ∨ m = 1 ∨ m = 2 ∨ m = 3 ∨ m = 4 := by omega
    rcases e with rfl | rfl | rfl | rfl | rfl <;> decide
  omega
/-- the TOKEN that begins at k: its end, its sort, its value -/
def tE (s : Int → Int) (sz k : Int) : Int := if pL (s k) = true then rE pL s sz k else if pD (s k) = true then rE pD s sz k else k + 1
def tSo (s : Int → Int) (sz k : Int) : Int := if pL (s k) = true then (if rE pL s sz k - k > 8 then 4 else 1) else if pD (s k) = true then (if rE pD s sz k - k > 4 then 4 else 2)
  else if s k = 40 ∨ s k = 41 ∨ s k = 59 ∨ s k = 61 ∨ s k = 60 ∨ s k = 43 ∨ s k = 45 then 3 else 4
def tV (s : Int → Int) (sz k : Int) : Int := if pL (s k) = true then vP 37 96 s k (min (rE pL s sz k - k).toNat 8) else if pD (s k) = true then vP 10 48 s k (min (rE pD s sz k - k).toNat 4) else s k
/-- where the TOKEN n begins -/
def tS (s : Int → Int) (sz : Int) : Nat → Int
  | 0 => rE pB s sz 0
  | n + 1 => rE pB s sz (tE s sz (tS s sz n))
/-- the first n TOKENS are written in cells 39, 40, 41; the rest is as it was -/
def Ct (s : Int → Int) (sz : Int) (hi0 hl0 : aI) (n : Int) (hi hl : aI) : Prop :=
  (∀ b j, b ≠ 39 → b ≠ 40 → hi b j = hi0 b j) ∧ (∀ b j, b ≠ 41 → hl b j = hl0 b j) ∧
  (∀ j : Int, 0 ≤ j → j < n → hi 40 j = tS s sz j.toNat ∧ hi 39 j = tSo s sz (tS s sz j.toNat) ∧ hl 41 j = tV s sz (tS s sz j.toNat)) ∧
  ∀ j : Int, ¬ (0 ≤ j ∧ j < n) → hi 39 j = hi0 39 j ∧ hi 40 j = hi0 40 j ∧ hl 41 j = hl0 41 j
theorem Ct.zero {s : Int → Int} {sz : Int} {hi hl : aI} : Ct s sz hi hl 0 hi hl := ⟨fun _ _ _ _ => rfl, fun _ _ _ => rfl, fun j h1 h2 => by omega, fun _ _ => ⟨rfl, rfl, rfl⟩⟩
theorem Ct.add {s : Int → Int} {sz n k so v : Int} {hi0 hl0 hi hl : aI} (h : Ct s sz hi0 hl0 n hi hl) (hn : 0 ≤ n) (hk : k = tS s sz n.toNat) (hso : so = tSo s sz k) (hv : v = tV s sz k) : Ct s sz hi0 hl0 (n + 1) (up2 (up2 hi 40 n k) 39 n so) (up2 hl 41 n v) := by
  obtain ⟨h1, h2, h3, h4⟩ := h
  refine ⟨fun b j b1 b2 => ?_, fun b j b1 => ?_, fun j j1 j2 => ?_, fun j hj => ?_⟩
  · rw [up2_n b1, up2_n b2]; exact h1 b j b1 b2
  · rw [up2_n b1]; exact h2 b j b1
  · by_cases e : j = n
    · subst e
      rw [up2_n (by decide), up2_s, up2_s, up2_s, hso, hv, hk]
      exact ⟨rfl, rfl, rfl⟩
    · rw [up2_n (by decide), up2_m e, up2_m e, up2_n (by decide), up2_m e]
      exact h3 j j1 (by omega)
  · have e : j ≠ n := fun e => hj ⟨by omega, by omega⟩
    rw [up2_m e, up2_n (by decide), up2_n (by decide), up2_m e, up2_m e]
    exact h4 j fun q => hj ⟨q.1, by omega⟩
theorem Ct.tape {s : Int → Int} {sz n : Int} {hi0 hl0 hi hl : aI} (h : Ct s sz hi0 hl0 n hi hl) : hi 38 = hi0 38 ∧ hi 37 = hi0 37 := ⟨funext fun j => h.1 38 j (by decide) (by decide), funext fun j => h.1 37 j (by decide) (by decide)⟩
section B4
variable {G : aG} {M : aM} {d pc n : Nat} {L : List (Option aV)} {st : List aV} {z : aZ} {hr : aR} {hi hl : aI} {Q : Option aV → aZ → aR → aI → aI → Prop}
theorem b_lstore {i : Nat} {x : Int} (hd : decode M.2.1 pc = .ok (.lstore i, 2)) (hn : pc + 2 = n) (hL : i + 1 < M.2.2.1) (hj : a_pj L i = false) (k : a_wp G M d n ((L.set i (some (vJ x))).set (i + 1) none) st z hr hi hl Q) : a_wp G M d pc L (vJ x :: st) z hr hi hl Q := a_lstore hd hn hL (by
  have e := a_st_set (v := vJ x) hj
  unfold a_st at e
  unfold a_st2
  rw [e]
  exact k)
end B4
