/-! JOINS never lead round: a chain of NAMES comes to its end within 50 steps, as of any day -/
theorem pgn (m : Nat) : ∀ g : Nat → Nat, (∀ i, i ≤ m → g i < m) → ∃ i j, i < j ∧ j ≤ m ∧ g i = g j := by
  induction m with
  | zero => exact fun g h => absurd (h 0 (Nat.le_refl _)) (by omega)
  | succ m ih =>
    intro g h
    by_cases q : ∃ i, i ≤ m ∧ g i = g (m + 1)
    · obtain ⟨i, h₁, h₂⟩ := q
      exact ⟨i, m + 1, by omega, Nat.le_refl _, h₂⟩
    · have hv := h (m + 1) (Nat.le_refl _)
      obtain ⟨i, j, h₁, h₂, h₃⟩ := ih (fun i => if g (m + 1) < g i then g i - 1 else g i) (fun i hi => by
        have h₄ := h i (by omega)
        have h₅ : g i ≠ g (m + 1) := fun e => q ⟨i, hi, e⟩
        show (if g (m + 1) < g i then g i - 1 else g i) < m
        split <;> omega)
      refine ⟨i, j, h₁, by omega, ?_⟩
      have h₆ : g i ≠ g (m + 1) := fun e => q ⟨i, by omega, e⟩
      have h₇ : g j ≠ g (m + 1) := fun e => q ⟨j, by omega, e⟩
      have h₃ : (if g (m + 1) < g i then g i - 1 else g i) = (if g (m + 1) < g j then g j - 1 else g j) := h₃
      split at h₃ <;> split at h₃ <;> omega
def itF (f : Int → Int) : Nat → Int → Int
  | 0, x => x
  | n + 1, x => itF f n (f x)
theorem itF_add {f : Int → Int} (a : Nat) : ∀ (b : Nat) (x : Int), itF f (a + b) x = itF f b (itF f a x) := by
  induction a with
  | zero => intro b x; rw [Nat.zero_add]; rfl
  | succ a ih =>
    intro b x
    rw [show a + 1 + b = a + b + 1 by omega]
    exact ih b (f x)
theorem mZ_it {f : Int → Int} (n : Nat) : ∀ x : Int, mZ f n x ↔ ∃ k, k ≤ n ∧ itF f k x ≤ 0 := by
  induction n with
  | zero =>
    intro x
    constructor
    · exact fun h => ⟨0, Nat.le_refl _, h⟩
    · rintro ⟨k, h₁, h₂⟩
      obtain rfl : k = 0 := by omega
      exact h₂
  | succ n ih =>
    intro x
    constructor
    · intro h
      rcases h with h | h
      · exact ⟨0, Nat.zero_le _, h⟩
      · obtain ⟨k, h₁, h₂⟩ := (ih (f x)).mp h
        exact ⟨k + 1, by omega, h₂⟩
    · rintro ⟨k, h₁, h₂⟩
      cases k with
      | zero => exact Or.inl h₂
      | succ k => exact Or.inr ((ih (f x)).mpr ⟨k, by omega, h₂⟩)
/-- a chain that ends ends within 50 steps -/
theorem mZ_50 {f : Int → Int} (hf : ∀ y, f y ≤ 50) (k : Nat) : ∀ x : Int, x ≤ 50 → itF f k x ≤ 0 → mZ f 50 x := by
  induction k using Nat.strongRecOn with
  | _ k ih =>
    intro x hx hk
    by_cases h₅ : k ≤ 50
    · exact (mZ_it 50 x).mpr ⟨k, h₅, hk⟩
    · by_cases q : ∃ i, i < k ∧ itF f i x ≤ 0
      · obtain ⟨i, h₁, h₂⟩ := q
        exact ih i h₁ x hx h₂
      · have hb : ∀ i, itF f i x ≤ 50 := fun i => by
          cases i with
          | zero => exact hx
          | succ i =>
            have := itF_add (f := f) i 1 x
            rw [this]
            exact hf _
        have hp : ∀ i, i < k → 0 < itF f i x := fun i h₁ => by
          by_cases w : 0 < itF f i x
          · exact w
          · exact absurd ⟨i, h₁, Int.not_lt.mp w⟩ q
        obtain ⟨i, j, h₁, h₂, h₃⟩ := pgn 50 (fun i => (itF f i x - 1).toNat) (fun i h₁ => by
          have := hb i
          have := hp i (by omega)
          show (itF f i x - 1).toNat < 50
          omega)
        have e : itF f i x = itF f j x := by
          have h₃ : (itF f i x - 1).toNat = (itF f j x - 1).toNat := h₃
          have := hp i (by omega)
          have := hp j (by omega)
          omega
        refine absurd ⟨i + (k - j), by omega, ?_⟩ q
        rw [itF_add, e, ← itF_add, show j + (k - j) = k by omega]
        exact hk
/-- one more JOIN that doesn't lead back -/
theorem mZ_upd {f g : Int → Int} {x y : Int} (hf : ∀ v, f v ≤ 50) (hg : ∀ v, g v = if v = x then y else f v) (hy : y ≤ 50) (hz : ∀ v, v ≤ 50 → mZ f 50 v) (hn : ¬ mBack f x 50 y) : ∀ v, v ≤ 50 → mZ g 50 v := by
  have hgb : ∀ v, g v ≤ 50 := fun v => by rw [hg]; split; exact hy; exact hf v
  have hx0 : ∀ (n : Nat) (v : Int), mZ f n v → ¬ mBack f x n v → ∃ k, itF g k v ≤ 0 := by
    intro n
    induction n with
    | zero => exact fun v h _ => ⟨0, h⟩
    | succ n ih =>
      intro v h hb
      by_cases hv : v ≤ 0
      · exact ⟨0, hv⟩
      · rcases h with h | h
        · exact absurd h hv
        · have h₁ : ¬ v = x := fun e => hb ⟨by omega, Or.inl e⟩
          obtain ⟨k, hk⟩ := ih (f v) h (fun e => hb ⟨by omega, Or.inr e⟩)
          refine ⟨k + 1, ?_⟩
          show itF g k (g v) ≤ 0
          rw [hg, if_neg h₁]
          exact hk
  obtain ⟨ky, hky⟩ := hx0 50 y (hz y hy) hn
  have hall : ∀ (n : Nat) (v : Int), itF f n v ≤ 0 → ∃ k, itF g k v ≤ 0 := by
    intro n
    induction n with
    | zero => exact fun v h => ⟨0, h⟩
    | succ n ih =>
      intro v h
      by_cases hv : v = x
      · refine ⟨ky + 1, ?_⟩
        show itF g ky (g v) ≤ 0
        rw [hg, if_pos hv]
        exact hky
      · obtain ⟨k, hk⟩ := ih (f v) h
        refine ⟨k + 1, ?_⟩
        show itF g k (g v) ≤ 0
        rw [hg, if_neg hv]
        exact hk
  intro v hv
  obtain ⟨k, _, hk⟩ := (mZ_it 50 v).mp (hz v hv)
  obtain ⟨k', hk'⟩ := hall k v hk
  exact mZ_50 hgb k' v hv hk'
theorem mLast_le {a b c : Int → Int} {x : Int} (n : Nat) (h : ∀ i : Int, 0 ≤ i → i < n → c i ≤ 50) : ∀ d, mLast a b c x d n ≤ 50 := by
  induction n with
  | zero => intro d; show (0 : Int) ≤ 50; omega
  | succ n ih =>
    intro d
    rw [mLast]
    split
    · exact h n (by omega) (by omega)
    · exact ih (fun i h₁ h₂ => h i h₁ (by omega)) d
theorem mLast_ge {a b c : Int → Int} {x : Int} (n : Nat) (h : ∀ i : Int, 0 ≤ i → i < n → 0 ≤ c i) : ∀ d, 0 ≤ mLast a b c x d n := by
  induction n with
  | zero => intro d; show (0 : Int) ≤ 0; omega
  | succ n ih =>
    intro d
    rw [mLast]
    split
    · exact h n (by omega) (by omega)
    · exact ih (fun i h₁ h₂ => h i h₁ (by omega)) d
theorem mLast_dy {a b c : Int → Int} {x : Int} {t d : Int} (n : Nat) (h : ∀ i : Int, 0 ≤ i → i < n → b i ≤ t) (hd : t ≤ d) : mLast a b c x d n = mLast a b c x t n := by
  induction n with
  | zero => rfl
  | succ n ih =>
    rw [mLast, mLast, ih (fun i h₁ h₂ => h i h₁ (by omega))]
    have h₁ := h n (by omega) (by omega)
    by_cases q : a n = x
    · rw [if_pos ⟨q, by omega⟩, if_pos ⟨q, h₁⟩]
    · rw [if_neg (fun w => q w.1), if_neg (fun w => q w.1)]
theorem mLast_cg {a b c a₂ b₂ c₂ : Int → Int} {x d : Int} (n : Nat) (h : ∀ i : Int, 0 ≤ i → i < n → a₂ i = a i ∧ b₂ i = b i ∧ c₂ i = c i) : mLast a₂ b₂ c₂ x d n = mLast a b c x d n := by
  induction n with
  | zero => rfl
  | succ n ih =>
    obtain ⟨h₁, h₂, h₃⟩ := h n (by omega) (by omega)
    rw [mLast, mLast, ih (fun i i₁ i₂ => h i i₁ (by omega)), h₁, h₂, h₃]
theorem mEnd_0 {f : Int → Int} (hf : f 0 = 0) (n : Nat) : mEnd f n 0 = 0 := by
  cases n with
  | zero => rfl
  | succ n =>
    show (if 0 < f 0 then mEnd f n (f 0) else 0) = 0
    rw [if_neg (by omega)]
