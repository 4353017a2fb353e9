/-! MOVES: sums, and the cheapest way to bring a PLANT in (for both sides). nP PLANTS, nB BEDS, S q b: b suits q, w q b: what q in b costs (0 or 1), g: where each goes (below 0: nowhere), y: a price of each BED. -/
def sm : Nat → (Int → Int) → Int
  | 0, _ => 0
  | n + 1, f => sm n f + f n
theorem sm_le {f h : Int → Int} (n : Nat) : (∀ i : Int, 0 ≤ i → i < n → f i ≤ h i) → sm n f ≤ sm n h := by
  induction n with
  | zero => intro _; exact Int.le_refl 0
  | succ n ih =>
    intro k
    have h1 := ih fun i h0 h1 => k i h0 (by omega)
    have h2 := k n (by omega) (by omega)
    rw [sm, sm]
    omega
theorem sm_lt {f h : Int → Int} (n : Nat) : (∀ i : Int, 0 ≤ i → i < n → f i ≤ h i) → (∃ i : Int, 0 ≤ i ∧ i < n ∧ f i < h i) → sm n f < sm n h := by
  induction n with
  | zero => intro _ ⟨i, h0, h1, _⟩; omega
  | succ n ih =>
    intro k ⟨i, h0, h1, h2⟩
    rw [sm, sm]
    by_cases e : i = n
    · subst e
      have := sm_le n fun i h0 h1 => k i h0 (by omega)
      omega
    · have h3 := ih (fun i h0 h1 => k i h0 (by omega)) ⟨i, h0, by omega, h2⟩
      have h4 := k n (by omega) (by omega)
      omega
theorem sm_eq {f h : Int → Int} (n : Nat) (k : ∀ i : Int, 0 ≤ i → i < n → f i = h i) : sm n f = sm n h := Int.le_antisymm (sm_le n fun i h0 h1 => Int.le_of_eq (k i h0 h1)) (sm_le n fun i h0 h1 => Int.le_of_eq (k i h0 h1).symm)
theorem sm_add {f h : Int → Int} (n : Nat) : sm n (fun i => f i + h i) = sm n f + sm n h := by
  induction n with
  | zero => rfl
  | succ n ih => rw [sm, sm, sm, ih]; omega
theorem sm_0 (n : Nat) : sm n (fun _ => 0) = 0 := by
  induction n with
  | zero => rfl
  | succ n ih => rw [sm, ih]; rfl
theorem sm_1 (n : Nat) : sm n (fun _ => 1) = n := by
  induction n with
  | zero => rfl
  | succ n ih => rw [sm, ih]; omega
theorem sm_one {c v : Int} (n : Nat) : sm n (fun i => if i = c then v else 0) = if 0 ≤ c ∧ c < n then v else 0 := by
  induction n with
  | zero => rw [sm, if_neg (by omega)]
  | succ n ih =>
    rw [sm, ih]
    by_cases e : (n : Int) = c
    · rw [if_neg (by omega), if_pos e, if_pos ⟨by omega, by omega⟩]; omega
    · rw [if_neg e]
      by_cases h : 0 ≤ c ∧ c < n
      · rw [if_pos h, if_pos ⟨h.1, by omega⟩]; omega
      · rw [if_neg h, if_neg (by omega)]; omega
/-- how many go to x -/
def ld (n : Nat) (g : Int → Int) (x : Int) : Int := sm n (fun q => if g q = x then 1 else 0)
theorem ld_set (n : Nat) {g : Int → Int} {q b x : Int} (h : 0 ≤ q ∧ q < n) : ld n (wU g q b) x = ld n g x + (if x = b then 1 else 0) - (if x = g q then 1 else 0) := by
  have e : ld n (wU g q b) x + sm n (fun i => if i = q then (if x = g q then 1 else 0) else 0) = ld n g x + sm n (fun i => if i = q then (if x = b then 1 else 0) else 0) := by
    unfold ld
    rw [← sm_add, ← sm_add]
    refine sm_eq n fun i _ _ => ?_
    unfold wU
    by_cases k : i = q
    · subst k
      rw [if_pos rfl, if_pos rfl, if_pos rfl]
      by_cases k1 : x = b <;> by_cases k2 : x = g i
      · rw [if_pos k1.symm, if_pos k2, if_pos k2.symm, if_pos k1]
      · rw [if_pos k1.symm, if_neg k2, if_neg (Ne.symm k2), if_pos k1]; omega
      · rw [if_neg (Ne.symm k1), if_pos k2, if_pos k2.symm, if_neg k1]; omega
      · rw [if_neg (Ne.symm k1), if_neg k2, if_neg (Ne.symm k2), if_neg k1]
    · rw [if_neg k, if_neg k, if_neg k]
  rw [sm_one, sm_one, if_pos h, if_pos h] at e
  omega
theorem ld_0 (n : Nat) {g : Int → Int} {x : Int} : 0 ≤ ld n g x := by
  have := sm_le (f := fun _ => 0) (h := fun q => if g q = x then 1 else 0) n fun i _ _ => by split <;> decide
  rw [sm_0] at this
  exact this
/-- a sum over PLANTS is one over BEDS -/
theorem dsum (m : Nat) {y : Int → Int} (n : Nat) {g : Int → Int} : (∀ q : Int, 0 ≤ q → q < n → g q < m) → sm n (fun q => if 0 ≤ g q then y (g q) else 0) = sm m (fun x => y x * ld n g x) := by
  induction n with
  | zero =>
    intro _
    have e : sm m (fun x => y x * ld 0 g x) = sm m (fun _ => 0) := sm_eq m fun i _ _ => by unfold ld; rw [sm, Int.mul_zero]
    rw [e, sm_0]
    rfl
  | succ n ih =>
    intro h
    rw [sm, ih fun q h0 h1 => h q h0 (by omega)]
    have e : sm m (fun x => y x * ld (n + 1) g x) = sm m (fun x => y x * ld n g x) + sm m (fun x => if x = g n then y (g n) else 0) := by
      rw [← sm_add]
      refine sm_eq m fun i _ _ => ?_
      show y i * (ld n g i + (if g n = i then 1 else 0)) = _
      rw [Int.mul_add]
      by_cases k : g n = i
      · rw [if_pos k, if_pos k.symm, Int.mul_one, k]
      · rw [if_neg k, if_neg (Ne.symm k), Int.mul_zero]
    rw [e, sm_one]
    have hn := h n (by omega) (by omega)
    by_cases k : 0 ≤ g n
    · rw [if_pos k, if_pos ⟨k, hn⟩]
    · rw [if_neg k, if_neg (fun q => k q.1)]
section MV
variable {nP nB p K : Int} {S : Int → Int → Prop} {w : Int → Int → Int} {g y cost by_ : Int → Int}
/-- the prices show that what is planned is the cheapest -/
def mvC (nP nB : Int) (S : Int → Int → Prop) (w : Int → Int → Int) (g y : Int → Int) (K : Int) : Prop :=
  (∀ b, 0 ≤ b → b < nB → 0 ≤ y b ∧ y b ≤ K) ∧ ∀ q, 0 ≤ q → q < nP → 0 ≤ g q → g q < nB ∧ S q (g q) ∧ ∀ b, 0 ≤ b → b < nB → S q b → w q (g q) + y (g q) ≤ w q b + y b
/-- how many BEDS are reached -/
def cF (n : Nat) (cost : Int → Int) : Int := sm n (fun b => if cost b < 1000000 then 1 else 0)
/-- what a BED's row says: how dear it is, and who comes into it -/
def mvR (nP nB : Int) (S : Int → Int → Prop) (w : Int → Int → Int) (g y : Int → Int) (p : Int) (cost by_ T : Int → Int) (u b : Int) : Prop :=
  cost b ≤ 1000000 ∧ (S p b → cost b ≤ w p b) ∧ (cost b < 1000000 → T b < u ∧ 0 ≤ cost b + y b ∧ cost b ≤ cF nB.toNat cost ∧ 0 ≤ by_ b ∧ by_ b < nP ∧ S (by_ b) b ∧
    ((by_ b = p ∧ w p b ≤ cost b) ∨ (¬ by_ b = p ∧ 0 ≤ g (by_ b) ∧ g (by_ b) < nB ∧ cost (g (by_ b)) < 1000000 ∧ cost (g (by_ b)) + w (by_ b) b - w (by_ b) (g (by_ b)) ≤ cost b ∧
      (cost (g (by_ b)) + y (g (by_ b)) < cost b + y b ∨ (cost (g (by_ b)) + y (g (by_ b)) = cost b + y b ∧ T (g (by_ b)) < T b)))))
def mvB (nP nB : Int) (S : Int → Int → Prop) (w : Int → Int → Int) (g y : Int → Int) (p : Int) (cost by_ : Int → Int) : Prop :=
  ∃ T : Int → Int, ∃ u : Int, ∀ b, 0 ≤ b → b < nB → mvR nP nB S w g y p cost by_ T u b
/-- nothing gets cheaper any more -/
def mvF (nP nB : Int) (S : Int → Int → Prop) (w : Int → Int → Int) (g cost : Int → Int) : Prop :=
  ∀ q, 0 ≤ q → q < nP → 0 ≤ g q → cost (g q) < 1000000 → ∀ b, 0 ≤ b → b < nB → S q b → cost b ≤ cost (g q) + w q b - w q (g q)
theorem cF_set {v b : Int} (hb : 0 ≤ b ∧ b < nB) (hv : v < 1000000) : cF nB.toNat (wU cost b v) = cF nB.toNat cost + (if cost b < 1000000 then 0 else 1) := by
  have e : cF nB.toNat (wU cost b v) = cF nB.toNat cost + sm nB.toNat (fun i => if i = b then (if cost b < 1000000 then 0 else 1) else 0) := by
    unfold cF
    rw [← sm_add]
    refine sm_eq _ fun i _ _ => ?_
    unfold wU
    by_cases k : i = b
    · subst k
      rw [if_pos rfl, if_pos hv, if_pos rfl]
      by_cases k1 : cost i < 1000000
      · rw [if_pos k1, if_pos k1]; rfl
      · rw [if_neg k1, if_neg k1]; rfl
    · rw [if_neg k, if_neg k]; omega
  rw [e, sm_one, if_pos ⟨hb.1, by omega⟩]
theorem cF_n : cF nB.toNat cost ≤ nB.toNat := by
  have := sm_le (f := fun b => if cost b < 1000000 then 1 else 0) (h := fun _ => 1) nB.toNat fun i _ _ => by split <;> decide
  rw [sm_1] at this
  exact this
theorem cF_1 {b : Int} (hb : 0 ≤ b ∧ b < nB) (h : cost b < 1000000) : 1 ≤ cF nB.toNat cost := by
  have := sm_le (f := fun i => if i = b then 1 else 0) (h := fun b => if cost b < 1000000 then 1 else 0) nB.toNat fun i _ _ => by
    by_cases k : i = b
    · rw [if_pos k, k, if_pos h]; decide
    · rw [if_neg k]; split <;> decide
  rw [sm_one, if_pos ⟨hb.1, by omega⟩] at this
  exact this
theorem wU_s {f : Int → Int} {i v : Int} : wU f i v i = v := if_pos rfl
theorem wU_n {f : Int → Int} {i j v : Int} (h : j ≠ i) : wU f i v j = f j := if_neg h
/-- one BED gets cheaper -/
theorem mvB_relax (hw : ∀ q b, 0 ≤ w q b ∧ w q b ≤ 1) (hC : mvC nP nB S w g y K) (hp : g p = -1) (h : mvB nP nB S w g y p cost by_) {q b v : Int} (hq : 0 ≤ q ∧ q < nP) (hg : 0 ≤ g q) (hf : cost (g q) < 1000000) (hb : 0 ≤ b ∧ b < nB) (hS : S q b) (hv : v = cost (g q) + w q b - w q (g q)) (hlt : v < cost b) : mvB nP nB S w g y p (wU cost b v) (wU by_ b q) := by
  obtain ⟨T, u, h⟩ := h
  obtain ⟨c1, c2, c3⟩ := hC.2 q hq.1 hq.2 hg
  have c4 := c3 b hb.1 hb.2 hS
  have hqp : ¬ q = p := fun e => by rw [e, hp] at hg; omega
  have hab : ¬ g q = b := fun e => by rw [e] at hv; omega
  obtain ⟨a1, a2, a3⟩ := h (g q) hg c1
  obtain ⟨a4, a5, a6, _⟩ := a3 hf
  obtain ⟨b1, b2, b3⟩ := h b hb.1 hb.2
  have hv6 : v < 1000000 := by omega
  have hcf := cF_set (cost := cost) hb hv6
  have hw1 := hw q b
  have hw2 := hw q (g q)
  refine ⟨wU T b u, u + 1, fun x x0 x1 => ?_⟩
  obtain ⟨r1, r2, r3⟩ := h x x0 x1
  by_cases e : x = b
  · subst e
    refine ⟨by rw [wU_s]; omega, fun s => by rw [wU_s]; have := r2 s; omega, fun _ => ?_⟩
    rw [wU_s, wU_s, wU_s, wU_n hab, wU_n hab, hcf]
    refine ⟨by omega, by omega, ?_, hq.1, hq.2, hS, Or.inr ⟨hqp, hg, c1, hf, by omega, by omega⟩⟩
    by_cases k : cost x < 1000000
    · have := (r3 k).2.2.1
      rw [if_pos k]; omega
    · rw [if_neg k]; omega
  · unfold mvR
    rw [wU_n e, wU_n e, wU_n e]
    refine ⟨r1, r2, fun k => ?_⟩
    obtain ⟨t1, t2, t3, t4, t5, t6, t7⟩ := r3 k
    refine ⟨by omega, t2, ?_, t4, t5, t6, ?_⟩
    · rw [hcf]
      by_cases k : cost b < 1000000
      · rw [if_pos k]; omega
      · rw [if_neg k]; omega
    · rcases t7 with t7 | ⟨t7, t8, t9, t10, t11, t12⟩
      · exact Or.inl t7
      · refine Or.inr ⟨t7, t8, t9, ?_⟩
        by_cases e2 : g (by_ x) = b
        · rw [e2] at t10 t11 t12 ⊢
          rw [wU_s, wU_s]
          exact ⟨hv6, by omega, by omega⟩
        · rw [wU_n e2, wU_n e2]
          exact ⟨t10, t11, t12⟩
theorem mvB_init (hw : ∀ q b, 0 ≤ w q b ∧ w q b ≤ 1) (hy : ∀ b, 0 ≤ b → b < nB → 0 ≤ y b) (hp : 0 ≤ p ∧ p < nP) (h : ∀ b, 0 ≤ b → b < nB → (S p b ∧ cost b = w p b ∧ by_ b = p) ∨ (¬ S p b ∧ cost b = 1000000)) : mvB nP nB S w g y p cost by_ := by
  refine ⟨fun _ => 0, 1, fun b b0 b1 => ?_⟩
  have hwb := hw p b
  have hyb := hy b b0 b1
  rcases h b b0 b1 with ⟨h1, h2, h3⟩ | ⟨h1, h2⟩
  · have h6 : cost b < 1000000 := by omega
    have := cF_1 ⟨b0, b1⟩ h6
    refine ⟨by omega, fun _ => by omega, fun _ => ⟨by show (0 : Int) < 1; decide, by omega, by omega, by omega, by omega, by rw [h3]; exact h1, Or.inl ⟨h3, by omega⟩⟩⟩
  · exact ⟨by omega, fun s => absurd s h1, fun k => by omega⟩
/-- who comes before whom: no way leads round -/
def lxF (cost y T : Int → Int) (b x : Int) : Int := if (cost x + y x < cost b + y b ∨ (cost x + y x = cost b + y b ∧ T x < T b)) then 1 else 0
theorem lxF_01 {T : Int → Int} {b x : Int} : 0 ≤ lxF cost y T b x ∧ lxF cost y T b x ≤ 1 := by
  unfold lxF
  split <;> decide
theorem mvB_rank (h : mvB nP nB S w g y p cost by_) : ∃ rk : Int → Nat, ∀ b, 0 ≤ b → b < nB → cost b < 1000000 → (rk b : Int) < nB ∧ (¬ by_ b = p → rk (g (by_ b)) < rk b) := by
  obtain ⟨T, u, h⟩ := h
  have fself : ∀ b, lxF cost y T b b = 0 := fun b => if_neg (by omega)
  have s0 : ∀ b, 0 ≤ sm nB.toNat (lxF cost y T b) := fun b => by
    have := sm_le (f := fun _ => 0) (h := lxF cost y T b) nB.toNat fun i _ _ => lxF_01.1
    rw [sm_0] at this
    exact this
  refine ⟨fun b => (sm nB.toNat (lxF cost y T b)).toNat, fun b b0 b1 hf => ⟨?_, fun hne => ?_⟩⟩
  · have := sm_lt (f := lxF cost y T b) (h := fun _ => 1) nB.toNat (fun i _ _ => lxF_01.2) ⟨b, b0, by omega, by rw [fself]; decide⟩
    rw [sm_1] at this
    have := s0 b
    show (((sm nB.toNat (lxF cost y T b)).toNat : Nat) : Int) < nB
    omega
  · obtain ⟨_, _, r3⟩ := h b b0 b1
    obtain ⟨_, _, _, _, _, _, t7⟩ := r3 hf
    rcases t7 with t7 | ⟨_, t8, t9, _, _, t12⟩
    · exact absurd t7.1 hne
    · have := sm_lt (f := lxF cost y T (g (by_ b))) (h := lxF cost y T b) nB.toNat (fun i _ _ => by
        unfold lxF
        split
        · rw [if_pos (by omega)]; exact Int.le_refl 1
        · split <;> decide) ⟨g (by_ b), t8, by omega, by
        rw [fself]
        unfold lxF
        rw [if_pos t12]
        decide⟩
      have := s0 (g (by_ b))
      show (sm nB.toNat (lxF cost y T (g (by_ b)))).toNat < (sm nB.toNat (lxF cost y T b)).toNat
      omega
/-- going on, it comes to an end -/
theorem mvB_end (hw : ∀ q b, 0 ≤ w q b ∧ w q b ≤ 1) (hC : mvC nP nB S w g y K) (hp : g p = -1) (m : Nat) : ∀ cost by_ : Int → Int, sm nB.toNat (fun b => cost b + y b) < m → mvB nP nB S w g y p cost by_ → ∃ c2 b2 : Int → Int, mvB nP nB S w g y p c2 b2 ∧ mvF nP nB S w g c2 ∧ ∀ b, c2 b ≤ cost b := by
  induction m with
  | zero =>
    intro cost by_ hm h
    exfalso
    have := sm_le (f := fun _ => 0) (h := fun b => cost b + y b) nB.toNat fun i i0 i1 => by
      obtain ⟨T, u, h⟩ := h
      obtain ⟨r1, r2, r3⟩ := h i i0 (by omega)
      by_cases k : cost i < 1000000
      · exact (r3 k).2.1
      · have := (hC.1 i i0 (by omega)).1
        show 0 ≤ cost i + y i
        omega
    rw [sm_0] at this
    omega
  | succ m ih =>
    intro cost by_ hm h
    by_cases hF : mvF nP nB S w g cost
    · exact ⟨cost, by_, h, hF, fun b => Int.le_refl _⟩
    · have ⟨q, hq⟩ := Classical.not_forall.mp hF
      have ⟨q0, hq⟩ := Classical.not_forall.mp hq
      have ⟨q1, hq⟩ := Classical.not_forall.mp hq
      have ⟨q2, hq⟩ := Classical.not_forall.mp hq
      have ⟨q3, hq⟩ := Classical.not_forall.mp hq
      have ⟨b, hq⟩ := Classical.not_forall.mp hq
      have ⟨b0, hq⟩ := Classical.not_forall.mp hq
      have ⟨b1, hq⟩ := Classical.not_forall.mp hq
      have ⟨hS, hq⟩ := Classical.not_forall.mp hq
      have hlt : cost (g q) + w q b - w q (g q) < cost b := by omega
      have h2 := mvB_relax hw hC hp h ⟨q0, q1⟩ q2 q3 ⟨b0, b1⟩ hS rfl hlt
      have hs := sm_lt (f := fun x => wU cost b (cost (g q) + w q b - w q (g q)) x + y x) (h := fun x => cost x + y x) nB.toNat (fun i _ _ => by
        by_cases e : i = b
        · rw [e, wU_s]; omega
        · rw [wU_n e]; exact Int.le_refl _) ⟨b, b0, by omega, by rw [wU_s]; omega⟩
      obtain ⟨c2, b2, e1, e2, e3⟩ := ih _ _ (by omega) h2
      refine ⟨c2, b2, e1, e2, fun x => ?_⟩
      have e4 := e3 x
      by_cases e : x = b
      · rw [e, wU_s] at e4; rw [e]; omega
      · rw [wU_n e] at e4; exact e4
end MV
