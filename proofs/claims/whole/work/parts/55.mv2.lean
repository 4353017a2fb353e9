section MV2
variable {nP nB p K : Int} {S : Int → Int → Prop} {w : Int → Int → Int} {g y cost by_ : Int → Int}
/-- the prices, once one more has come in -/
def yN (y cost : Int → Int) (D : Int) : Int → Int := fun b => max (y b) (D - cost b)
theorem yN_eq {D b : Int} : yN y cost D b = max (y b) (D - cost b) := rfl
/-- q could lie nowhere cheaper than in x -/
def mvG (nB : Int) (S : Int → Int → Prop) (w : Int → Int → Int) (y2 : Int → Int) (q x : Int) : Prop := 0 ≤ x ∧ x < nB ∧ S q x ∧ ∀ b, 0 ≤ b → b < nB → S q b → w q x + y2 x ≤ w q b + y2 b
theorem mvB_D (h : mvB nP nB S w g y p cost by_) {b : Int} (hb : 0 ≤ b ∧ b < nB) (hf : cost b < 1000000) : cost b ≤ nB := by
  obtain ⟨T, u, h⟩ := h
  have h1 := ((h b hb.1 hb.2).2.2 hf).2.2.1
  have h2 := cF_n (nB := nB) (cost := cost)
  omega
theorem mvA (hC : mvC nP nB S w g y K) (hF : mvF nP nB S w g cost) {D q : Int} (hD : D < 1000000) (hq : 0 ≤ q ∧ q < nP) (hg : 0 ≤ g q) : mvG nB S w (yN y cost D) q (g q) := by
  obtain ⟨c1, c2, c3⟩ := hC.2 q hq.1 hq.2 hg
  refine ⟨hg, c1, c2, fun b b0 b1 s => ?_⟩
  have h1 := c3 b b0 b1 s
  have h2 := (hC.1 (g q) hg c1).1
  rw [yN_eq, yN_eq]
  by_cases k : cost (g q) < 1000000
  · have h3 := hF q hq.1 hq.2 hg k b b0 b1 s
    omega
  · omega
theorem mvM (hC : mvC nP nB S w g y K) (hB : mvB nP nB S w g y p cost by_) (hF : mvF nP nB S w g cost) {D b : Int} (hb : 0 ≤ b ∧ b < nB) (hf : cost b < 1000000) (hD : cost b + y b ≤ D) : mvG nB S w (yN y cost D) (by_ b) b := by
  obtain ⟨T, u, h⟩ := hB
  obtain ⟨r1, r2, r3⟩ := h b hb.1 hb.2
  obtain ⟨t1, t2, t3, t4, t5, t6, t7⟩ := r3 hf
  refine ⟨hb.1, hb.2, t6, fun x x0 x1 s => ?_⟩
  rw [yN_eq, yN_eq]
  rcases t7 with ⟨t7, t8⟩ | ⟨t7, t8, t9, t10, t11, t12⟩
  · have h1 := (h x x0 x1).2.1 (by rw [← t7]; exact s)
    rw [t7]
    omega
  · have h3 := hF (by_ b) t4 t5 t8 t10 x x0 x1 s
    omega
theorem mvN (hB : mvB nP nB S w g y p cost by_) {D b : Int} (hb : 0 ≤ b ∧ b < nB) (hf : cost b < 1000000) (hD : cost b + y b ≤ D) (hne : ¬ by_ b = p) : (0 ≤ g (by_ b) ∧ g (by_ b) < nB) ∧ cost (g (by_ b)) < 1000000 ∧ cost (g (by_ b)) + y (g (by_ b)) ≤ D := by
  obtain ⟨T, u, h⟩ := hB
  obtain ⟨r1, r2, r3⟩ := h b hb.1 hb.2
  obtain ⟨t1, t2, t3, t4, t5, t6, t7⟩ := r3 hf
  rcases t7 with ⟨t7, t8⟩ | ⟨t7, t8, t9, t10, t11, t12⟩
  · exact absurd t7 hne
  · exact ⟨⟨t8, t9⟩, t10, by omega⟩
/-- all who give way, from the last BED back -/
def aug (by_ g0 : Int → Int) : Nat → Int → (Int → Int) → (Int → Int)
  | 0, _, h => h
  | n + 1, b, h => if b < 0 then h else aug by_ g0 n (g0 (by_ b)) (wU h (by_ b) b)
theorem aug_neg {g0 h : Int → Int} {b : Int} (n : Nat) (hb : b < 0) : aug by_ g0 n b h = h := by
  cases n with
  | zero => rfl
  | succ n => rw [aug, if_pos hb]
def augQ (nP nB : Int) (S : Int → Int → Prop) (w : Int → Int → Int) (g0 y2 : Int → Int) (p best : Int) (h : Int → Int) : Prop :=
  (∀ q, 0 ≤ q → q < nP → 0 ≤ h q → mvG nB S w y2 q (h q)) ∧ (∀ q, 0 ≤ q → q < nP → ¬ q = p → (0 ≤ h q ↔ 0 ≤ g0 q)) ∧ 0 ≤ h p ∧ ∀ x, 0 ≤ x → ld nP.toNat h x = ld nP.toNat g0 x + (if x = best then 1 else 0)
theorem aug_ok (hC : mvC nP nB S w g y K) (hp0 : 0 ≤ p ∧ p < nP) (hp : g p = -1) (hB : mvB nP nB S w g y p cost by_) (hF : mvF nP nB S w g cost) {rk : Int → Nat} (hrk : ∀ b, 0 ≤ b → b < nB → cost b < 1000000 → (rk b : Int) < nB ∧ (¬ by_ b = p → rk (g (by_ b)) < rk b)) {D best : Int} (n : Nat) : ∀ (b : Int) (h : Int → Int), 0 ≤ b → b < nB → cost b < 1000000 → cost b + y b ≤ D → rk b < n →
    (∀ q, 0 ≤ q → q < nP → h q = g q ∨ (0 ≤ g q ∧ rk b ≤ rk (g q))) → (∀ q, 0 ≤ q → q < nP → 0 ≤ h q → mvG nB S w (yN y cost D) q (h q)) → (∀ q, 0 ≤ q → q < nP → ¬ q = p → (0 ≤ h q ↔ 0 ≤ g q)) →
    (∀ x, 0 ≤ x → ld nP.toNat h x + (if x = b then 1 else 0) = ld nP.toNat g x + (if x = best then 1 else 0)) → augQ nP nB S w g (yN y cost D) p best (aug by_ g n b h) := by
  induction n with
  | zero => intro b h _ _ _ _ hn; omega
  | succ n ih =>
    intro b h b0 b1 bf bD hn i1 i2 i3 i4
    rw [aug, if_neg (by omega)]
    have hG := mvM hC hB hF ⟨b0, b1⟩ bf bD
    have hq : 0 ≤ by_ b ∧ by_ b < nP := by
      obtain ⟨T, u, hB⟩ := hB
      have := (hB b b0 b1).2.2 bf
      exact ⟨this.2.2.2.1, this.2.2.2.2.1⟩
    have s2 : ∀ q, 0 ≤ q → q < nP → 0 ≤ wU h (by_ b) b q → mvG nB S w (yN y cost D) q (wU h (by_ b) b q) := fun q q0 q1 k => by
      by_cases e : q = by_ b
      · rw [e, wU_s]; exact hG
      · rw [wU_n e] at k ⊢; exact i2 q q0 q1 k
    by_cases hbp : by_ b = p
    · rw [hbp, hp, aug_neg n (by decide)]
      rw [hbp] at s2
      have hpp : h p = -1 := by
        rcases i1 p hp0.1 hp0.2 with k | k
        · rw [k, hp]
        · rw [hp] at k; omega
      refine ⟨s2, fun q q0 q1 k => by rw [wU_n k]; exact i3 q q0 q1 k, by rw [wU_s]; exact b0, fun x x0 => ?_⟩
      have := i4 x x0
      rw [ld_set _ ⟨hp0.1, by omega⟩, hpp, if_neg (c := x = -1) (by omega)]
      omega
    · obtain ⟨⟨a0, a1⟩, af, aD⟩ := mvN hB ⟨b0, b1⟩ bf bD hbp
      have hr := (hrk b b0 b1 bf).2 hbp
      have hgq : h (by_ b) = g (by_ b) := by
        rcases i1 (by_ b) hq.1 hq.2 with k | k
        · exact k
        · omega
      refine ih (g (by_ b)) _ a0 a1 af aD (by omega) (fun q q0 q1 => ?_) s2 (fun q q0 q1 k => ?_) (fun x x0 => ?_)
      · by_cases e : q = by_ b
        · rw [e]; exact Or.inr ⟨a0, Nat.le_refl _⟩
        · rw [wU_n e]
          rcases i1 q q0 q1 with k | k
          · exact Or.inl k
          · exact Or.inr ⟨k.1, by omega⟩
      · by_cases e : q = by_ b
        · rw [e, wU_s]; exact ⟨fun _ => a0, fun _ => b0⟩
        · rw [wU_n e]; exact i3 q q0 q1 k
      · have := i4 x x0
        rw [ld_set _ ⟨hq.1, by omega⟩, hgq]
        omega
/-- one more comes in: the prices still show it -/
theorem mv_in (hw : ∀ q b, 0 ≤ w q b ∧ w q b ≤ 1) (hnB : nB ≤ 8) (hC : mvC nP nB S w g y K) (hp0 : 0 ≤ p ∧ p < nP) (hp : g p = -1) (hB : mvB nP nB S w g y p cost by_) (hF : mvF nP nB S w g cost) {rm : Int → Int} (hfull : ∀ x, 0 ≤ x → x < nB → 0 < y x → rm x ≤ ld nP.toNat g x) (hld : ∀ x, 0 ≤ x → x < nB → ld nP.toNat g x ≤ rm x) {best : Int} (hb : 0 ≤ best ∧ best < nB) (hbf : cost best < 1000000) (hbr : ld nP.toNat g best < rm best) (hmin : ∀ x, 0 ≤ x → x < nB → ld nP.toNat g x < rm x → cost best ≤ cost x) {n : Nat} (hn : nB ≤ n) :
    mvC nP nB S w (aug by_ g n best g) (yN y cost (cost best)) (K + 8) ∧ augQ nP nB S w g (yN y cost (cost best)) p best (aug by_ g n best g) ∧ (∀ x, 0 ≤ x → x < nB → 0 < yN y cost (cost best) x → rm x ≤ ld nP.toNat (aug by_ g n best g) x) ∧ ∀ x, 0 ≤ x → x < nB → ld nP.toNat (aug by_ g n best g) x ≤ rm x := by
  obtain ⟨rk, hrk⟩ := mvB_rank hB
  have hy0 : y best = 0 := by
    have h1 := (hC.1 best hb.1 hb.2).1
    by_cases k : 0 < y best
    · have := hfull best hb.1 hb.2 k
      omega
    · omega
  have hA := aug_ok hC hp0 hp hB hF hrk (D := cost best) (best := best) n best g hb.1 hb.2 hbf (by omega) (by have := (hrk best hb.1 hb.2 hbf).1; omega) (fun q _ _ => Or.inl rfl) (fun q q0 q1 k => mvA hC hF hbf ⟨q0, q1⟩ k) (fun q _ _ _ => Iff.rfl) (fun x _ => rfl)
  have hD := mvB_D hB hb hbf
  refine ⟨⟨fun b b0 b1 => ?_, fun q q0 q1 k => (hA.1 q q0 q1 k).2⟩, hA, fun x x0 x1 k => ?_, fun x x0 x1 => ?_⟩
  · have h1 := hC.1 b b0 b1
    obtain ⟨T, u, hB⟩ := hB
    obtain ⟨r1, r2, r3⟩ := hB b b0 b1
    rw [yN_eq]
    by_cases k : cost b < 1000000
    · have := (r3 k).2.1
      omega
    · omega
  · rw [hA.2.2.2 x x0]
    rw [yN_eq] at k
    by_cases e : x = best
    · rw [e] at k; omega
    · rw [if_neg e]
      by_cases k2 : 0 < y x
      · have := hfull x x0 x1 k2; omega
      · by_cases k3 : ld nP.toNat g x < rm x
        · have := hmin x x0 x1 k3
          omega
        · omega
  · rw [hA.2.2.2 x x0]
    by_cases e : x = best
    · rw [if_pos e, e]; omega
    · rw [if_neg e]; have := hld x x0 x1; omega
/-- the least that can be moved -/
theorem mv_opt (hC : mvC nP nB S w g y K) {rm : Int → Int} (hfull : ∀ x, 0 ≤ x → x < nB → 0 < y x → rm x ≤ ld nP.toNat g x) {h : Int → Int} (hs : ∀ q, 0 ≤ q → q < nP → (0 ≤ g q ↔ 0 ≤ h q)) (hn : ∀ q, 0 ≤ q → q < nP → g q < nB ∧ h q < nB) (hS : ∀ q, 0 ≤ q → q < nP → 0 ≤ h q → S q (h q)) (hl : ∀ x, 0 ≤ x → x < nB → ld nP.toNat h x ≤ rm x) :
    sm nP.toNat (fun q => if 0 ≤ g q then w q (g q) else 0) ≤ sm nP.toNat (fun q => if 0 ≤ h q then w q (h q) else 0) := by
  have e1 := dsum nB.toNat (y := y) nP.toNat (g := g) fun q q0 q1 => by have := (hn q q0 (by omega)).1; by_cases k : 0 ≤ g q <;> omega
  have e2 := dsum nB.toNat (y := y) nP.toNat (g := h) fun q q0 q1 => by have := (hn q q0 (by omega)).2; by_cases k : 0 ≤ h q <;> omega
  have e3 := sm_le (f := fun q => (if 0 ≤ g q then w q (g q) else 0) + (if 0 ≤ g q then y (g q) else 0)) (h := fun q => (if 0 ≤ h q then w q (h q) else 0) + (if 0 ≤ h q then y (h q) else 0)) nP.toNat fun q q0 q1 => by
    have q1' : q < nP := by omega
    have hsq := hs q q0 q1'
    by_cases k : 0 ≤ g q
    · have k2 := hsq.mp k
      have := (hC.2 q q0 q1' k).2.2 (h q) k2 (hn q q0 q1').2 (hS q q0 q1' k2)
      rw [if_pos k, if_pos k, if_pos k2, if_pos k2]
      exact this
    · have k2 : ¬ 0 ≤ h q := fun q => k (hsq.mpr q)
      rw [if_neg k, if_neg k, if_neg k2, if_neg k2]
      exact Int.le_refl _
  have e4 := sm_le (f := fun x => y x * ld nP.toNat h x) (h := fun x => y x * ld nP.toNat g x) nB.toNat fun x x0 x1 => by
    have hy := (hC.1 x x0 (by omega)).1
    by_cases k : 0 < y x
    · have h1 := hfull x x0 (by omega) k
      have h2 := hl x x0 (by omega)
      exact Int.mul_le_mul_of_nonneg_left (by omega) hy
    · have : y x = 0 := by omega
      rw [this, Int.zero_mul, Int.zero_mul]
      exact Int.le_refl 0
  rw [sm_add, sm_add] at e3
  omega
/-- no way in: then there is no plan at all -/
theorem mv_none (hp0 : 0 ≤ p ∧ p < nP) (hp : g p = -1) (hC : mvC nP nB S w g y K) (hB : mvB nP nB S w g y p cost by_) (hF : mvF nP nB S w g cost) (hw : ∀ q b, 0 ≤ w q b ∧ w q b ≤ 1) {rm : Int → Int} (hfull : ∀ x, 0 ≤ x → x < nB → cost x < 1000000 → rm x ≤ ld nP.toNat g x) {h : Int → Int} (hs : ∀ q, 0 ≤ q → q < nP → (0 ≤ g q ∨ q = p) → 0 ≤ h q ∧ S q (h q)) (hn : ∀ q, 0 ≤ q → q < nP → h q < nB) (hl : ∀ x, 0 ≤ x → x < nB → ld nP.toNat h x ≤ rm x) (hnB : 0 ≤ nB ∧ nB ≤ 8) (hgn : ∀ q, 0 ≤ q → q < nP → g q < nB) : False := by
  have e1 := dsum nB.toNat (y := fun x => if cost x < 1000000 then 1 else 0) nP.toNat (g := g) fun q q0 q1 => by have := hgn q q0 (by omega); omega
  have e2 := dsum nB.toNat (y := fun x => if cost x < 1000000 then 1 else 0) nP.toNat (g := h) fun q q0 q1 => by have := hn q q0 (by omega); omega
  have e3 := sm_lt (f := fun q => if 0 ≤ g q then (if cost (g q) < 1000000 then 1 else 0) else 0) (h := fun q => if 0 ≤ h q then (if cost (h q) < 1000000 then 1 else 0) else 0) nP.toNat (fun q q0 q1 => by
    have q1' : q < nP := by omega
    by_cases k : 0 ≤ g q
    · obtain ⟨h1, h2⟩ := hs q q0 q1' (Or.inl k)
      rw [if_pos k, if_pos h1]
      by_cases k2 : cost (g q) < 1000000
      · have := hF q q0 q1' k k2 (h q) h1 (hn q q0 q1') h2
        obtain ⟨T, u, hB⟩ := hB
        have c5 := (hB (g q) k (hgn q q0 q1')).2.2 k2
        have c6 := cF_n (nB := nB) (cost := cost)
        have h3 := hw q (h q)
        have h4 := hw q (g q)
        rw [if_pos k2, if_pos (by omega)]
        exact Int.le_refl 1
      · rw [if_neg k2]; split <;> decide
    · rw [if_neg k]; split
      · split <;> decide
      · decide) ⟨p, hp0.1, by omega, by
      rw [hp, if_neg (by decide)]
      obtain ⟨h1, h2⟩ := hs p hp0.1 hp0.2 (Or.inr rfl)
      obtain ⟨T, u, hB⟩ := hB
      have := (hB (h p) h1 (hn p hp0.1 hp0.2)).2.1 h2
      have h3 := hw p (h p)
      rw [if_pos h1, if_pos (by omega)]
      decide⟩
  have e4 := sm_le (f := fun x => (if cost x < 1000000 then 1 else 0) * ld nP.toNat h x) (h := fun x => (if cost x < 1000000 then 1 else 0) * ld nP.toNat g x) nB.toNat fun x x0 x1 => by
    by_cases k : cost x < 1000000
    · have h1 := hfull x x0 (by omega) k
      have h2 := hl x x0 (by omega)
      rw [if_pos k, Int.one_mul, Int.one_mul]
      omega
    · rw [if_neg k, Int.zero_mul, Int.zero_mul]
      exact Int.le_refl 0
  omega
end MV2
