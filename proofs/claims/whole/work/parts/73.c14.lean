/-- how many of the first q lie *) -/
def rk (B : Int → Int) (q : Int) : Int := sm q.toNat (fun i => if 0 ≤ B i then 1 else 0)
section RK
variable {B : Int → Int} {nP nB p q v : Int}
theorem rk_s (h : 0 ≤ q) : rk B (q + 1) = rk B q + (if 0 ≤ B q then 1 else 0) := by
  unfold rk
  rw [show (q + 1).toNat = q.toNat + 1 by omega, sm, show (q.toNat : Int) = q by omega]
theorem rk_nn : 0 ≤ rk B q := (sm_b (fun i => 0 ≤ B i) q.toNat).1
theorem rk_le (h : 0 ≤ q) : rk B q ≤ q := by
  have := (sm_b (fun i => 0 ≤ B i) q.toNat).2
  unfold rk
  omega
theorem rk_add (h : 0 ≤ p) (n : Nat) : rk B p ≤ rk B (p + n) := by
  induction n with
  | zero => rw [show p + ((0 : Nat) : Int) = p by omega]; exact Int.le_refl _
  | succ n ih =>
    rw [show p + ((n + 1 : Nat) : Int) = p + n + 1 by omega, rk_s (by omega)]
    split <;> omega
theorem rk_lt (h : 0 ≤ p) (hq : p < q) (hB : 0 ≤ B p) : rk B p < rk B q := by
  have h1 := rk_s (B := B) h
  rw [if_pos hB] at h1
  have h2 := rk_add (B := B) (p := p + 1) (by omega) (q - (p + 1)).toNat
  rw [show p + 1 + (((q - (p + 1)).toNat : Nat) : Int) = q by omega] at h2
  omega
theorem rk_sur (n : Nat) : ∀ c : Int, 0 ≤ c → c < rk B n → ∃ q : Int, 0 ≤ q ∧ q < n ∧ 0 ≤ B q ∧ rk B q = c := by
  induction n with
  | zero =>
    intro c h0 h1
    have e : rk B ((0 : Nat) : Int) = 0 := rfl
    omega
  | succ n ih =>
    intro c h0 h1
    have e := rk_s (B := B) (q := (n : Int)) (by omega)
    rw [show ((n + 1 : Nat) : Int) = (n : Int) + 1 by omega, e] at h1
    by_cases k : c < rk B n
    · obtain ⟨q, q0, q1, q2, q3⟩ := ih c h0 k
      exact ⟨q, q0, by omega, q2, q3⟩
    · by_cases k2 : 0 ≤ B n
      · rw [if_pos k2] at h1
        exact ⟨n, by omega, by omega, k2, by omega⟩
      · rw [if_neg k2] at h1
        omega
theorem rk_sum (F : Int → Int) (n : Nat) : sm (rk B n).toNat F = sm n (fun q => if 0 ≤ B q then F (rk B q) else 0) := by
  induction n with
  | zero => rfl
  | succ n ih =>
    have e := rk_s (B := B) (q := (n : Int)) (by omega)
    have h0 := rk_nn (B := B) (q := (n : Int))
    rw [show ((n + 1 : Nat) : Int) = (n : Int) + 1 by omega, e, sm, ← ih]
    by_cases k : 0 ≤ B n
    · rw [if_pos k, if_pos k, show (rk B n + 1).toNat = (rk B n).toNat + 1 by omega, sm, show ((rk B n).toNat : Int) = rk B n by omega]
    · rw [if_neg k, if_neg k, Int.add_zero, Int.add_zero]
theorem rk_fn (h : Int → Int) (n : Nat) : ∃ k : Int → Int, ∀ q : Int, 0 ≤ q → q < n → 0 ≤ B q → k (rk B q) = h q := by
  induction n with
  | zero => exact ⟨h, fun q q0 q1 => by omega⟩
  | succ n ih =>
    obtain ⟨k, hk⟩ := ih
    refine ⟨wU k (rk B n) (h n), fun q q0 q1 qB => ?_⟩
    by_cases e : q = n
    · rw [e, wU_s]
    · have := rk_lt (B := B) q0 (show q < n by omega) qB
      rw [wU_n (by omega)]
      exact hk q q0 (by omega) qB
/-- a plan of all, and the same plan of those that lie *) -/
def pRel (B : Int → Int) (nP : Int) (h k : Int → Int) : Prop := ∀ q, 0 ≤ q → q < nP → (0 ≤ B q → k (rk B q) = h q) ∧ (¬ 0 ≤ B q → ¬ 0 ≤ h q)
variable {S S' : Int → Int → Prop} {w w' : Int → Int → Int} {rm h k : Int → Int}
theorem pRel_ld (hP : 0 ≤ nP) (r : pRel B nP h k) {x : Int} (hx : 0 ≤ x) : ld (rk B nP).toNat k x = ld nP.toNat h x := by
  unfold ld
  rw [show rk B nP = rk B (nP.toNat : Int) by rw [show (nP.toNat : Int) = nP by omega], rk_sum]
  refine sm_eq _ fun q q0 q1 => ?_
  obtain ⟨r1, r2⟩ := r q q0 (by omega)
  by_cases c : 0 ≤ B q
  · rw [if_pos c, r1 c]
  · have := r2 c
    rw [if_neg c, if_neg (by omega)]
theorem pRel.plan (hP : 0 ≤ nP) (hB : 0 ≤ nB) (hS : ∀ q b, 0 ≤ q → q < nP → 0 ≤ B q → 0 ≤ b → b < nB → (S' (rk B q) b ↔ S q b)) (r : pRel B nP h k) : mvP nP nB S rm (fun q => 0 ≤ B q) h ↔ mvP (rk B nP) nB S' rm (fun _ => True) k := by
  have hn : (nP.toNat : Int) = nP := by omega
  refine ⟨fun H => ⟨fun c c0 c1 => ?_, fun x x0 x1 => by rw [pRel_ld hP r x0]; exact H.2 x x0 x1⟩, fun H => ⟨fun q q0 q1 => ?_, fun x x0 x1 => by rw [← pRel_ld hP r x0]; exact H.2 x x0 x1⟩⟩
  · obtain ⟨q, q0, q1, qB, e⟩ := rk_sur (B := B) nP.toNat c c0 (by rw [hn]; exact c1)
    have q1 : q < nP := by omega
    obtain ⟨h1, h2, h3⟩ := H.1 q q0 q1
    have hk := (r q q0 q1).1 qB
    have h4 := h1.mpr qB
    rw [← e, hk]
    exact ⟨⟨fun _ => trivial, fun _ => h4⟩, h2, fun _ => (hS q (h q) q0 q1 qB h4 h2).mpr (h3 h4)⟩
  · by_cases c : 0 ≤ B q
    · have hk := (r q q0 q1).1 c
      obtain ⟨h1, h2, h3⟩ := H.1 (rk B q) rk_nn (rk_lt q0 q1 c)
      rw [hk] at h1 h2 h3
      have h4 := h1.mpr trivial
      exact ⟨⟨fun _ => c, fun _ => h4⟩, h2, fun _ => (hS q (h q) q0 q1 c h4 h2).mp (h3 h4)⟩
    · have h4 := (r q q0 q1).2 c
      exact ⟨⟨fun y => absurd y h4, fun y => absurd y c⟩, by omega, fun y => absurd y h4⟩
theorem pRel.cost (hP : 0 ≤ nP) (hw : ∀ q b, 0 ≤ q → q < nP → 0 ≤ B q → 0 ≤ b → b < nB → S q b → w' (rk B q) b = w q b) (r : pRel B nP h k) (H : mvP nP nB S rm (fun q => 0 ≤ B q) h) : mvT nP w h = mvT (rk B nP) w' k := by
  unfold mvT
  rw [show rk B nP = rk B (nP.toNat : Int) by rw [show (nP.toNat : Int) = nP by omega], rk_sum]
  refine sm_eq _ fun q q0 q1 => ?_
  have q1 : q < nP := by omega
  obtain ⟨h1, h2, h3⟩ := H.1 q q0 q1
  by_cases c : 0 ≤ B q
  · have hk := (r q q0 q1).1 c
    have h4 := h1.mpr c
    rw [if_pos c, hk, if_pos h4, if_pos h4, hw q (h q) q0 q1 c h4 h2 (h3 h4)]
  · rw [if_neg c, if_neg ((r q q0 q1).2 c)]
theorem mv_cmp (hP : 0 ≤ nP) (hB : 0 ≤ nB) (hS : ∀ q b, 0 ≤ q → q < nP → 0 ≤ B q → 0 ≤ b → b < nB → (S' (rk B q) b ↔ S q b)) (hw : ∀ q b, 0 ≤ q → q < nP → 0 ≤ B q → 0 ≤ b → b < nB → S q b → w' (rk B q) b = w q b) (H : mvAns (rk B nP) nB S' w' rm (fun _ => True) v) : mvAns nP nB S w rm (fun q => 0 ≤ B q) v := by
  have hn : (nP.toNat : Int) = nP := by omega
  have fw : ∀ h, mvP nP nB S rm (fun q => 0 ≤ B q) h → ∃ k, pRel B nP h k := fun h H => by
    obtain ⟨k, hk⟩ := rk_fn (B := B) h nP.toNat
    exact ⟨k, fun q q0 q1 => ⟨hk q q0 (by omega), fun c y => c ((H.1 q q0 q1).1.mp y)⟩⟩
  rcases H with ⟨H1, H2⟩ | ⟨g, H1, H2, H3⟩
  · refine Or.inl ⟨H1, fun h x => ?_⟩
    obtain ⟨k, r⟩ := fw h x
    exact H2 k ((r.plan hP hB hS).mp x)
  · have r : pRel B nP (fun q => if 0 ≤ B q then g (rk B q) else -1) g := fun q q0 q1 => ⟨fun c => (if_pos c).symm, fun c => by show ¬ 0 ≤ (if 0 ≤ B q then g (rk B q) else -1); rw [if_neg c]; decide⟩
    have e := (r.plan hP hB hS).mpr H1
    refine Or.inr ⟨_, e, by rw [r.cost hP hw e]; exact H2, fun h x => ?_⟩
    obtain ⟨k, r2⟩ := fw h x
    rw [r.cost hP hw e, r2.cost hP hw x]
    exact H3 k ((r2.plan hP hB hS).mp x)
end RK
/-- the heap while MovePlan is filled: how many PLANTS and BEDS, the prices, who is planned where, what room is left *) -/
def kH (hi : aI) (m n : Int) (pr go rl : Int → Int) : aI := fun b j => if b = 10 ∧ j = 5 then m else if b = 10 ∧ j = 6 then n else if b = 80 then pr j else if b = 11 then go j else if b = 12 then rl j else hi b j
theorem kH_eq (hi : aI) (m n : Int) (pr go rl : Int → Int) (b : Nat) (j : Int) : kH hi m n pr go rl b j = if b = 10 ∧ j = 5 then m else if b = 10 ∧ j = 6 then n else if b = 80 then pr j else if b = 11 then go j else if b = 12 then rl j else hi b j := rfl
theorem kH_p {hi : aI} {m n : Int} {pr go rl : Int → Int} {a : Nat} (h : 81 ≤ a) : kH hi m n pr go rl a = hi a := by
  funext j
  rw [kH_eq, if_neg (by omega), if_neg (by omega), if_neg (by omega), if_neg (by omega), if_neg (by omega)]
theorem kH_0 {hi : aI} : up2 (up2 hi 10 5 0) 10 6 0 = kH hi 0 0 (hi 80) (hi 11) (hi 12) := by
  funext b j
  rw [up2_eq, up2_eq, kH_eq]
  by_cases h1 : b = 10 ∧ j = 5
  · rw [if_pos h1, if_pos h1, if_neg (by omega)]
  · rw [if_neg h1, if_neg h1]
    by_cases h2 : b = 10 ∧ j = 6
    · rw [if_pos h2, if_pos h2]
    · rw [if_neg h2, if_neg h2]
      by_cases h3 : b = 80
      · rw [if_pos h3, h3]
      · rw [if_neg h3]
        by_cases h4 : b = 11
        · rw [if_pos h4, h4]
        · rw [if_neg h4]
          by_cases h5 : b = 12
          · rw [if_pos h5, h5]
          · rw [if_neg h5]
theorem kH_5 {hi : aI} {m n v : Int} {pr go rl : Int → Int} : up2 (kH hi m n pr go rl) 10 5 v = kH hi v n pr go rl := by
  funext b j
  rw [up2_eq, kH_eq, kH_eq]
  by_cases h1 : b = 10 ∧ j = 5
  · rw [if_pos h1, if_pos h1]
  · rw [if_neg h1, if_neg h1, if_neg h1]
theorem kH_6 {hi : aI} {m n v : Int} {pr go rl : Int → Int} : up2 (kH hi m n pr go rl) 10 6 v = kH hi m v pr go rl := by
  funext b j
  rw [up2_eq, kH_eq, kH_eq]
  by_cases h1 : b = 10 ∧ j = 6
  · rw [if_pos h1, if_neg (by omega), if_pos h1]
  · rw [if_neg h1, if_neg h1, if_neg h1]
theorem kH_80 {hi : aI} {m n i v : Int} {pr go rl : Int → Int} : up2 (kH hi m n pr go rl) 80 i v = kH hi m n (wU pr i v) go rl := by
  funext b j
  rw [up2_eq, kH_eq, kH_eq]
  by_cases h : b = 80
  · subst h
    by_cases k : j = i
    · rw [if_pos ⟨rfl, k⟩, k]
      simp [wU]
    · rw [if_neg (fun q => k q.2)]
      simp [wU, k]
  · rw [if_neg (fun q => h q.1)]
    simp only [h, if_false]
theorem kH_11 {hi : aI} {m n i v : Int} {pr go rl : Int → Int} : up2 (kH hi m n pr go rl) 11 i v = kH hi m n pr (wU go i v) rl := by
  funext b j
  rw [up2_eq, kH_eq, kH_eq]
  by_cases h : b = 11
  · subst h
    by_cases k : j = i
    · rw [if_pos ⟨rfl, k⟩, k]
      simp [wU]
    · rw [if_neg (fun q => k q.2)]
      simp [wU, k]
  · rw [if_neg (fun q => h q.1)]
    simp only [h, if_false]
theorem kH_12 {hi : aI} {m n i v : Int} {pr go rl : Int → Int} : up2 (kH hi m n pr go rl) 12 i v = kH hi m n pr go (wU rl i v) := by
  funext b j
  rw [up2_eq, kH_eq, kH_eq]
  by_cases h : b = 12
  · subst h
    by_cases k : j = i
    · rw [if_pos ⟨rfl, k⟩, k]
      simp [wU]
    · rw [if_neg (fun q => k q.2)]
      simp [wU, k]
  · rw [if_neg (fun q => h q.1)]
    simp only [h, if_false]
/-- what PLANT and BED say: does q suit b; what it costs *) -/
def dSu (hr : aR) (hi : aI) (q b : Int) : Prop := (hi (pC hr q) 9 ≤ hi (bC hr b) 0 ∧ hi (bC hr b) 0 ≤ hi (pC hr q) 10) ∧ hi (pC hr q) 11 ≤ hi (bC hr b) 1 ∧ hi (bC hr b) 1 ≤ hi (pC hr q) 12
def dWt (hr : aR) (hi : aI) (q b : Int) : Int := if hi (pC hr q) 13 = b then 0 else 1
def crm (hr : aR) (hi : aI) (x : Int) : Int := hi (bC hr x) 2
/-- v is the price of b for q *) -/
def dPr (hr : aR) (hi : aI) (q b v : Int) : Prop := (dSu hr hi q b ∧ hi (pC hr q) 13 = b ∧ v = 0) ∨ (dSu hr hi q b ∧ ¬ hi (pC hr q) 13 = b ∧ v = 1) ∨ (¬ dSu hr hi q b ∧ v = 1000)
def dGo (hr : aR) (hi : aI) (q v : Int) : Prop := (dSu hr hi q (hi (pC hr q) 13) ∧ v = hi (pC hr q) 13) ∨ (¬ dSu hr hi q (hi (pC hr q) 13) ∧ v = -1)
/-- PLANT q is added as the m-th: the first b BEDS are done *) -/
def apI (hr : aR) (hi : aI) (q m b : Int) (pr go rl pr0 go0 rl0 : Int → Int) : Prop := (∀ j, ¬ (m * 8 ≤ j ∧ j < m * 8 + b) → pr j = pr0 j) ∧ (∀ x, 0 ≤ x → x < b → dPr hr hi q x (pr (m * 8 + x))) ∧ (∀ j, ¬ j = m → go j = go0 j) ∧
  ((dSu hr hi q (hi (pC hr q) 13) ∧ hi (pC hr q) 13 < b ∧ go m = hi (pC hr q) 13) ∨ (¬ (dSu hr hi q (hi (pC hr q) 13) ∧ hi (pC hr q) 13 < b) ∧ go m = -1)) ∧ ∀ x, 0 ≤ x → rl x = rl0 x - (if go m = x then 1 else 0)
theorem apI.no {hr : aR} {hi : aI} {m : Int} {pr go rl : Int → Int} {q b v : Int} {pr0 go0 rl0 : Int → Int} (hb : 0 ≤ b) (h : apI hr hi q m b pr go rl pr0 go0 rl0) (hv : (dSu hr hi q b ∧ ¬ hi (pC hr q) 13 = b ∧ v = 1) ∨ (¬ dSu hr hi q b ∧ v = 1000)) : apI hr hi q m (b + 1) (wU pr (m * 8 + b) v) go rl pr0 go0 rl0 := by
  obtain ⟨h1, h2, h3, h4, h5⟩ := h
  refine ⟨fun j hj => ?_, fun x x0 x1 => ?_, h3, ?_, h5⟩
  · rw [wU_n (by omega)]; exact h1 j (by omega)
  · by_cases e : x = b
    · rw [e, wU_s]; exact Or.inr hv
    · rw [wU_n (by omega)]; exact h2 x x0 (by omega)
  · rcases h4 with ⟨k1, k2, k3⟩ | ⟨k1, k2⟩
    · exact Or.inl ⟨k1, by omega, k3⟩
    · refine Or.inr ⟨fun k => ?_, k2⟩
      by_cases e : hi (pC hr q) 13 = b
      · rcases hv with hv | hv
        · exact hv.2.1 e
        · rw [e] at k; exact hv.1 k.1
      · exact k1 ⟨k.1, by omega⟩
theorem apI.yes {hr : aR} {hi : aI} {m : Int} {pr go rl : Int → Int} {q b : Int} {pr0 go0 rl0 : Int → Int} (hb : 0 ≤ b) (h : apI hr hi q m b pr go rl pr0 go0 rl0) (hs : dSu hr hi q b) (ho : hi (pC hr q) 13 = b) : apI hr hi q m (b + 1) (wU pr (m * 8 + b) 0) (wU go m b) (wU rl b (rl b - 1)) pr0 go0 rl0 := by
  obtain ⟨h1, h2, h3, h4, h5⟩ := h
  have hg : go m = -1 := by
    rcases h4 with k | k
    · omega
    · exact k.2
  refine ⟨fun j hj => ?_, fun x x0 x1 => ?_, fun j hj => ?_, ?_, fun x x0 => ?_⟩
  · rw [wU_n (by omega)]; exact h1 j (by omega)
  · by_cases e : x = b
    · rw [e, wU_s]; exact Or.inl ⟨hs, ho, rfl⟩
    · rw [wU_n (by omega)]; exact h2 x x0 (by omega)
  · rw [wU_n hj]; exact h3 j hj
  · rw [wU_s]; exact Or.inl ⟨by rw [ho]; exact hs, by omega, ho.symm⟩
  · rw [wU_s]
    have h6 := h5 x x0
    rw [hg, if_neg (by omega)] at h6
    by_cases e : x = b
    · rw [e, wU_s, if_pos rfl]; rw [e] at h6; omega
    · rw [wU_n e, if_neg (Ne.symm e)]; exact h6
section C14
variable {G : aG} {d : Nat} {z : aZ} {hr : aR} {hi hl : aI} {go rl pr : Int → Int} {m nB : Int}
set_option maxRecDepth 100000 in
set_option maxHeartbeats 4000000 in
theorem c_makeEmpty (hz : stZ z) (hR : stR hr) : a_ct G mX1_makeEmpty (d + 0) [vR 10] z hr hi hl (fun r z' hr' hi' hl' => z' = z ∧ hr' = hr ∧ hl' = hl ∧ r = none ∧ hi' = kH hi 0 0 (hi 80) (hi 11) (hi 12)) := by
  refine a_ct_of rfl (Nat.le_of_ble_eq_true rfl) ?_
  refine a_aload_n (n := 1) dX1_makeEmpty_0 rfl rfl ?_
  refine a_iconst (n := 2) dX1_makeEmpty_1 rfl ⟨by decide, by decide⟩ ?_
  refine a_putI (n := 5) dX1_makeEmpty_2 rfl fX1_27 rfl (s10 hz) (Or.inl rfl) ?_
  refine a_aload_n (n := 6) dX1_makeEmpty_5 rfl rfl ?_
  refine a_iconst (n := 7) dX1_makeEmpty_6 rfl ⟨by decide, by decide⟩ ?_
  refine a_putI (n := 10) dX1_makeEmpty_7 rfl fX1_31 rfl (s10 hz) (Or.inl rfl) ?_
  refine a_return dX1_makeEmpty_10 rfl ?_
  exact ⟨rfl, rfl, rfl, rfl, kH_0⟩
set_option maxRecDepth 100000 in
set_option maxHeartbeats 4000000 in
theorem c_addBed (hz : stZ z) (hR : stR hr) (hn : 0 ≤ nB ∧ nB < 8) {v : Int} : a_ct G mX1_addBed (d + 0) [vR 10, vI v] z hr (kH hi m nB pr go rl) hl (fun r z' hr' hi' hl' => z' = z ∧ hr' = hr ∧ hl' = hl ∧ r = none ∧ hi' = kH hi m (nB + 1) pr go (wU rl nB v)) := by
  refine a_ct_of rfl (Nat.le_of_ble_eq_true rfl) ?_
  refine a_aload_n (n := 1) dX1_addBed_0 rfl rfl ?_
  refine a_getI (n := 4) dX1_addBed_1 rfl fX1_31 (s10 hz) ?_
  try simp only [up2_eq, kH_eq, Nat.reduceEqDiff, Int.reduceEq, Int.reduceNeg, and_true, true_and, and_false, false_and, and_self, if_true, if_false, ite_true, ite_false, reduceIte, eq_self]
  refine a_bipush (n := 6) dX1_addBed_4 rfl ⟨by decide, by decide⟩ (by decide) ?_
  refine a_icmp_ge (t := 29) (n := 9) dX1_addBed_6 rfl rfl (fun c6 => ?_) (fun c6 => ?_)
  · omega
  · refine a_aload_n (n := 10) dX1_addBed_9 rfl rfl ?_
    refine a_getR (n := 13) dX1_addBed_10 rfl fX1_18 (s10 hz) (r10_2 hR) ?_
    refine a_aload_n (n := 14) dX1_addBed_13 rfl rfl ?_
    refine a_getI (n := 17) dX1_addBed_14 rfl fX1_31 (s10 hz) ?_
    try simp only [up2_eq, kH_eq, Nat.reduceEqDiff, Int.reduceEq, Int.reduceNeg, and_true, true_and, and_false, false_and, and_self, if_true, if_false, ite_true, ite_false, reduceIte, eq_self]
    refine a_iload_n (n := 18) dX1_addBed_17 rfl rfl ?_
    refine a_iast (n := 19) dX1_addBed_18 rfl (s12 hz) (by omega) (by omega) ?_
    try simp only [kH_80, kH_11, kH_12, kH_5, kH_6]
    refine a_aload_n (n := 20) dX1_addBed_19 rfl rfl ?_
    refine a_dup (n := 21) dX1_addBed_20 rfl rfl ?_
    refine a_getI (n := 24) dX1_addBed_21 rfl fX1_31 (s10 hz) ?_
    try simp only [up2_eq, kH_eq, Nat.reduceEqDiff, Int.reduceEq, Int.reduceNeg, and_true, true_and, and_false, false_and, and_self, if_true, if_false, ite_true, ite_false, reduceIte, eq_self]
    refine a_iconst (n := 25) dX1_addBed_24 rfl ⟨by decide, by decide⟩ ?_
    refine a_iadd (n := 26) dX1_addBed_25 rfl ⟨by omega, by omega⟩ ?_
    refine a_putI (n := 29) dX1_addBed_26 rfl fX1_31 rfl (s10 hz) (Or.inl rfl) ?_
    try simp only [kH_80, kH_11, kH_12, kH_5, kH_6]
    refine a_return dX1_addBed_29 rfl ?_
    exact ⟨rfl, rfl, rfl, rfl, rfl⟩
set_option maxRecDepth 100000 in
set_option maxHeartbeats 4000000 in
theorem c_ap_22 (hz : stZ z) (hR : stR hr) (hN : gN G) {q : Int} (hm : 0 ≤ m ∧ m < 40) (hn : 0 ≤ nB ∧ nB ≤ 8) (f2 : a_is z (pC hr q) 3 17) (f3 : 81 ≤ pC hr q) (hWB : ∀ b, 0 ≤ b → b < nB → hr 2 b = some (bC hr b) ∧ a_is z (bC hr b) 0 3 ∧ 81 ≤ bC hr b) {pr0 go0 rl0 : Int → Int} (hrl : ∀ x, 0 ≤ x → x < nB → -1000 ≤ rl0 x ∧ rl0 x ≤ 1000) (n : Nat) : ∀ (b : Int) (x4 x5 : Option aV) (pr go rl : Int → Int), 0 ≤ b → b + n = nB → apI hr hi q m b pr go rl pr0 go0 rl0 → a_wp G mX1_addPlant (d + 2) 22 [some (vR 10), some (vR (pC hr q)), some (vR 2), some (vI b), x4, x5] [] z hr (kH hi m nB pr go rl) hl (fun r z' hr' hi' hl' => z' = z ∧ hr' = hr ∧ hl' = hl ∧ r = none ∧ ∃ pr go rl : Int → Int, hi' = kH hi (m + 1) nB pr go rl ∧ apI hr hi q m nB pr go rl pr0 go0 rl0) := by
  induction n with
  | zero =>
    intro b x4 x5 pr go rl h0 hn1 hI
    refine a_iload_n (n := 23) dX1_addPlant_22 rfl rfl ?_
    refine a_aload_n (n := 24) dX1_addPlant_23 rfl rfl ?_
    refine a_getI (n := 27) dX1_addPlant_24 rfl fX1_31 (s10 hz) ?_
    try simp only [up2_eq, kH_eq, Nat.reduceEqDiff, Int.reduceEq, Int.reduceNeg, and_true, true_and, and_false, false_and, and_self, if_true, if_false, ite_true, ite_false, reduceIte, eq_self]
    refine a_icmp_ge (t := 125) (n := 30) dX1_addPlant_27 rfl rfl (fun c27 => ?_) (fun c27 => ?_)
    · refine a_aload_n (n := 126) dX1_addPlant_125 rfl rfl ?_
      refine a_dup (n := 127) dX1_addPlant_126 rfl rfl ?_
      refine a_getI (n := 130) dX1_addPlant_127 rfl fX1_27 (s10 hz) ?_
      try simp only [up2_eq, kH_eq, Nat.reduceEqDiff, Int.reduceEq, Int.reduceNeg, and_true, true_and, and_false, false_and, and_self, if_true, if_false, ite_true, ite_false, reduceIte, eq_self]
      refine a_iconst (n := 131) dX1_addPlant_130 rfl ⟨by decide, by decide⟩ ?_
      refine a_iadd (n := 132) dX1_addPlant_131 rfl ⟨by omega, by omega⟩ ?_
      refine a_putI (n := 135) dX1_addPlant_132 rfl fX1_27 rfl (s10 hz) (Or.inl rfl) ?_
      try simp only [kH_80, kH_11, kH_12, kH_5, kH_6]
      refine a_return dX1_addPlant_135 rfl ?_
      obtain rfl : b = nB := by omega
      exact ⟨rfl, rfl, rfl, rfl, pr, go, rl, rfl, hI⟩
    · have hrb := hrl b h0 (by omega)
      have hrc := hI.2.2.2.2 b h0
      have hrd : -1 ≤ rl b - rl0 b ∧ rl b - rl0 b ≤ 0 := by split at hrc <;> omega
      omega
  | succ n ih =>
    intro b x4 x5 pr go rl h0 hn1 hI
    refine a_iload_n (n := 23) dX1_addPlant_22 rfl rfl ?_
    refine a_aload_n (n := 24) dX1_addPlant_23 rfl rfl ?_
    refine a_getI (n := 27) dX1_addPlant_24 rfl fX1_31 (s10 hz) ?_
    try simp only [up2_eq, kH_eq, Nat.reduceEqDiff, Int.reduceEq, Int.reduceNeg, and_true, true_and, and_false, false_and, and_self, if_true, if_false, ite_true, ite_false, reduceIte, eq_self]
    refine a_icmp_ge (t := 125) (n := 30) dX1_addPlant_27 rfl rfl (fun c27 => ?_) (fun c27 => ?_)
    · omega
    · have hrb := hrl b h0 (by omega)
      have hrc := hI.2.2.2.2 b h0
      have hrd : -1 ≤ rl b - rl0 b ∧ rl b - rl0 b ≤ 0 := by split at hrc <;> omega
      refine a_aload_n (n := 31) dX1_addPlant_30 rfl rfl ?_
      refine a_aload_n (n := 32) dX1_addPlant_31 rfl rfl ?_
      refine a_iload_n (n := 33) dX1_addPlant_32 rfl rfl ?_
      refine a_aald (n := 34) dX1_addPlant_33 rfl (s2 hz) (by decide) (by omega) (by omega) ?_
      obtain ⟨g1, g2, g3⟩ := hWB b (by omega) (by omega)
      rw [g1]
      refine a_callV (M2 := mX3_suits) (n := 37) dX1_addPlant_34 rfl (c_suits (d := d) hN f2 g2) kX3_suits lX1_34 iX3_suits eX3_suits (by decide) (by omega) f2 rfl (Nat.le_of_ble_eq_true rfl) (fun q34 z34 hr34 hi34 hl34 h34 => ?_)
      obtain ⟨e134, e234, e334, e434, b34, rfl, hb34⟩ := h34
      obtain rfl := e134.symm
      obtain rfl := e234.symm
      obtain rfl := e334.symm
      obtain rfl := e434.symm
      simp only [kH_p f3, kH_p g3] at hb34
      replace hb34 : (b34 = 1 ∧ dSu hr hi q b) ∨ (b34 = 0 ∧ ¬ dSu hr hi q b) := hb34
      show a_wp G _ _ _ _ (vI b34 :: _) _ _ _ _ _
      refine b_istore (n := 39) dX1_addPlant_37 rfl (by decide) rfl ?_
      refine a_iload (n := 41) dX1_addPlant_39 rfl rfl ?_
      refine a_if_eq (t := 56) (n := 44) dX1_addPlant_41 rfl rfl (fun c41 => ?_) (fun c41 => ?_)
      · refine a_iconst (n := 57) dX1_addPlant_56 rfl ⟨by decide, by decide⟩ ?_
        refine b_istore (n := 59) dX1_addPlant_57 rfl (by decide) rfl ?_
        refine a_aload_n (n := 60) dX1_addPlant_59 rfl rfl ?_
        refine a_getR (n := 63) dX1_addPlant_60 rfl fX1_9 (s10 hz) (r10_0 hR) ?_
        refine a_aload_n (n := 64) dX1_addPlant_63 rfl rfl ?_
        refine a_getI (n := 67) dX1_addPlant_64 rfl fX1_27 (s10 hz) ?_
        try simp only [up2_eq, kH_eq, Nat.reduceEqDiff, Int.reduceEq, Int.reduceNeg, and_true, true_and, and_false, false_and, and_self, if_true, if_false, ite_true, ite_false, reduceIte, eq_self]
        refine a_bipush (n := 69) dX1_addPlant_67 rfl ⟨by decide, by decide⟩ (by decide) ?_
        refine a_imul (n := 70) dX1_addPlant_69 rfl ⟨by omega, by omega⟩ ?_
        refine a_iload_n (n := 71) dX1_addPlant_70 rfl rfl ?_
        refine a_iadd (n := 72) dX1_addPlant_71 rfl ⟨by omega, by omega⟩ ?_
        refine a_iload (n := 74) dX1_addPlant_72 rfl rfl ?_
        refine a_if_eq (t := 81) (n := 77) dX1_addPlant_74 rfl rfl (fun c74 => ?_) (fun c74 => ?_)
        · refine a_iload (n := 83) dX1_addPlant_81 rfl rfl ?_
          refine a_if_eq (t := 90) (n := 86) dX1_addPlant_83 rfl rfl (fun c83 => ?_) (fun c83 => ?_)
          · refine a_sipush (n := 93) dX1_addPlant_90 rfl ⟨by decide, by decide⟩ (by decide) ?_
            refine a_iast (n := 94) dX1_addPlant_93 rfl (s80 hz) (by omega) (by omega) ?_
            try simp only [kH_80, kH_11, kH_12, kH_5, kH_6]
            refine a_iload (n := 96) dX1_addPlant_94 rfl rfl ?_
            refine a_if_eq (t := 119) (n := 99) dX1_addPlant_96 rfl rfl (fun c96 => ?_) (fun c96 => ?_)
            · try simp only [kH_80, kH_11, kH_12, kH_5, kH_6]
              refine b_iinc (n := 122) dX1_addPlant_119 rfl (by decide) rfl rfl ⟨by omega, by omega⟩ ?_
              refine a_goto (t := 22) dX1_addPlant_122 rfl ?_
              exact ih (b + 1) _ _ _ _ _ (by omega) (by omega) (hI.no h0 (Or.inr ⟨isB_f hb34 (by omega), rfl⟩))
            · omega
          · omega
        · omega
      · refine a_aload_n (n := 45) dX1_addPlant_44 rfl rfl ?_
        refine a_getI (n := 48) dX1_addPlant_45 rfl fX1_40 f2 ?_
        rw [kH_p f3]
        refine a_iload_n (n := 49) dX1_addPlant_48 rfl rfl ?_
        refine a_icmp_ne (t := 56) (n := 52) dX1_addPlant_49 rfl rfl (fun c49 => ?_) (fun c49 => ?_)
        · refine a_iconst (n := 57) dX1_addPlant_56 rfl ⟨by decide, by decide⟩ ?_
          refine b_istore (n := 59) dX1_addPlant_57 rfl (by decide) rfl ?_
          refine a_aload_n (n := 60) dX1_addPlant_59 rfl rfl ?_
          refine a_getR (n := 63) dX1_addPlant_60 rfl fX1_9 (s10 hz) (r10_0 hR) ?_
          refine a_aload_n (n := 64) dX1_addPlant_63 rfl rfl ?_
          refine a_getI (n := 67) dX1_addPlant_64 rfl fX1_27 (s10 hz) ?_
          try simp only [up2_eq, kH_eq, Nat.reduceEqDiff, Int.reduceEq, Int.reduceNeg, and_true, true_and, and_false, false_and, and_self, if_true, if_false, ite_true, ite_false, reduceIte, eq_self]
          refine a_bipush (n := 69) dX1_addPlant_67 rfl ⟨by decide, by decide⟩ (by decide) ?_
          refine a_imul (n := 70) dX1_addPlant_69 rfl ⟨by omega, by omega⟩ ?_
          refine a_iload_n (n := 71) dX1_addPlant_70 rfl rfl ?_
          refine a_iadd (n := 72) dX1_addPlant_71 rfl ⟨by omega, by omega⟩ ?_
          refine a_iload (n := 74) dX1_addPlant_72 rfl rfl ?_
          refine a_if_eq (t := 81) (n := 77) dX1_addPlant_74 rfl rfl (fun c74 => ?_) (fun c74 => ?_)
          · refine a_iload (n := 83) dX1_addPlant_81 rfl rfl ?_
            refine a_if_eq (t := 90) (n := 86) dX1_addPlant_83 rfl rfl (fun c83 => ?_) (fun c83 => ?_)
            · omega
            · refine a_iconst (n := 87) dX1_addPlant_86 rfl ⟨by decide, by decide⟩ ?_
              refine a_goto (t := 93) dX1_addPlant_87 rfl ?_
              refine a_iast (n := 94) dX1_addPlant_93 rfl (s80 hz) (by omega) (by omega) ?_
              try simp only [kH_80, kH_11, kH_12, kH_5, kH_6]
              refine a_iload (n := 96) dX1_addPlant_94 rfl rfl ?_
              refine a_if_eq (t := 119) (n := 99) dX1_addPlant_96 rfl rfl (fun c96 => ?_) (fun c96 => ?_)
              · try simp only [kH_80, kH_11, kH_12, kH_5, kH_6]
                refine b_iinc (n := 122) dX1_addPlant_119 rfl (by decide) rfl rfl ⟨by omega, by omega⟩ ?_
                refine a_goto (t := 22) dX1_addPlant_122 rfl ?_
                exact ih (b + 1) _ _ _ _ _ (by omega) (by omega) (hI.no h0 (Or.inl ⟨isB_t hb34 (by omega), by omega, rfl⟩))
              · omega
          · omega
        · refine a_iconst (n := 53) dX1_addPlant_52 rfl ⟨by decide, by decide⟩ ?_
          refine a_goto (t := 57) dX1_addPlant_53 rfl ?_
          refine b_istore (n := 59) dX1_addPlant_57 rfl (by decide) rfl ?_
          refine a_aload_n (n := 60) dX1_addPlant_59 rfl rfl ?_
          refine a_getR (n := 63) dX1_addPlant_60 rfl fX1_9 (s10 hz) (r10_0 hR) ?_
          refine a_aload_n (n := 64) dX1_addPlant_63 rfl rfl ?_
          refine a_getI (n := 67) dX1_addPlant_64 rfl fX1_27 (s10 hz) ?_
          try simp only [up2_eq, kH_eq, Nat.reduceEqDiff, Int.reduceEq, Int.reduceNeg, and_true, true_and, and_false, false_and, and_self, if_true, if_false, ite_true, ite_false, reduceIte, eq_self]
          refine a_bipush (n := 69) dX1_addPlant_67 rfl ⟨by decide, by decide⟩ (by decide) ?_
          refine a_imul (n := 70) dX1_addPlant_69 rfl ⟨by omega, by omega⟩ ?_
          refine a_iload_n (n := 71) dX1_addPlant_70 rfl rfl ?_
          refine a_iadd (n := 72) dX1_addPlant_71 rfl ⟨by omega, by omega⟩ ?_
          refine a_iload (n := 74) dX1_addPlant_72 rfl rfl ?_
          refine a_if_eq (t := 81) (n := 77) dX1_addPlant_74 rfl rfl (fun c74 => ?_) (fun c74 => ?_)
          · omega
          · refine a_iconst (n := 78) dX1_addPlant_77 rfl ⟨by decide, by decide⟩ ?_
            refine a_goto (t := 93) dX1_addPlant_78 rfl ?_
            refine a_iast (n := 94) dX1_addPlant_93 rfl (s80 hz) (by omega) (by omega) ?_
            try simp only [kH_80, kH_11, kH_12, kH_5, kH_6]
            refine a_iload (n := 96) dX1_addPlant_94 rfl rfl ?_
            refine a_if_eq (t := 119) (n := 99) dX1_addPlant_96 rfl rfl (fun c96 => ?_) (fun c96 => ?_)
            · omega
            · refine a_aload_n (n := 100) dX1_addPlant_99 rfl rfl ?_
              refine a_getR (n := 103) dX1_addPlant_100 rfl fX1_15 (s10 hz) (r10_1 hR) ?_
              refine a_aload_n (n := 104) dX1_addPlant_103 rfl rfl ?_
              refine a_getI (n := 107) dX1_addPlant_104 rfl fX1_27 (s10 hz) ?_
              try simp only [up2_eq, kH_eq, Nat.reduceEqDiff, Int.reduceEq, Int.reduceNeg, and_true, true_and, and_false, false_and, and_self, if_true, if_false, ite_true, ite_false, reduceIte, eq_self]
              refine a_iload_n (n := 108) dX1_addPlant_107 rfl rfl ?_
              refine a_iast (n := 109) dX1_addPlant_108 rfl (s11 hz) (by omega) (by omega) ?_
              try simp only [kH_80, kH_11, kH_12, kH_5, kH_6]
              refine a_aload_n (n := 110) dX1_addPlant_109 rfl rfl ?_
              refine a_getR (n := 113) dX1_addPlant_110 rfl fX1_18 (s10 hz) (r10_2 hR) ?_
              refine a_iload_n (n := 114) dX1_addPlant_113 rfl rfl ?_
              refine a_dup2 (n := 115) dX1_addPlant_114 rfl rfl rfl ?_
              refine a_iald (n := 116) dX1_addPlant_115 rfl (s12 hz) (by omega) (by omega) ?_
              try simp only [up2_eq, kH_eq, Nat.reduceEqDiff, Int.reduceEq, Int.reduceNeg, and_true, true_and, and_false, false_and, and_self, if_true, if_false, ite_true, ite_false, reduceIte, eq_self]
              refine a_iconst (n := 117) dX1_addPlant_116 rfl ⟨by decide, by decide⟩ ?_
              refine a_isub (n := 118) dX1_addPlant_117 rfl ⟨by omega, by omega⟩ ?_
              refine a_iast (n := 119) dX1_addPlant_118 rfl (s12 hz) (by omega) (by omega) ?_
              try simp only [kH_80, kH_11, kH_12, kH_5, kH_6]
              refine b_iinc (n := 122) dX1_addPlant_119 rfl (by decide) rfl rfl ⟨by omega, by omega⟩ ?_
              refine a_goto (t := 22) dX1_addPlant_122 rfl ?_
              exact ih (b + 1) _ _ _ _ _ (by omega) (by omega) (hI.yes h0 (isB_t hb34 (by omega)) (by omega))
set_option maxRecDepth 100000 in
set_option maxHeartbeats 4000000 in
theorem c_addPlant (hz : stZ z) (hR : stR hr) (hN : gN G) {q : Int} (hm : 0 ≤ m ∧ m < 40) (hn : 0 ≤ nB ∧ nB ≤ 8) (f2 : a_is z (pC hr q) 3 17) (f3 : 81 ≤ pC hr q) (hWB : ∀ b, 0 ≤ b → b < nB → hr 2 b = some (bC hr b) ∧ a_is z (bC hr b) 0 3 ∧ 81 ≤ bC hr b) (hrl : ∀ x, 0 ≤ x → x < nB → -1000 ≤ rl x ∧ rl x ≤ 1000) (hbed : 0 ≤ hi (pC hr q) 13) : a_ct G mX1_addPlant (d + 2) [vR 10, vR (pC hr q), vR 2] z hr (kH hi m nB pr go rl) hl (fun r z' hr' hi' hl' => z' = z ∧ hr' = hr ∧ hl' = hl ∧ r = none ∧ ∃ pr2 go2 rl2 : Int → Int, hi' = kH hi (m + 1) nB pr2 go2 rl2 ∧ apI hr hi q m nB pr2 go2 rl2 pr go rl) := by
  refine a_ct_of rfl (Nat.le_of_ble_eq_true rfl) ?_
  refine a_aload_n (n := 1) dX1_addPlant_0 rfl rfl ?_
  refine a_getI (n := 4) dX1_addPlant_1 rfl fX1_27 (s10 hz) ?_
  try simp only [up2_eq, kH_eq, Nat.reduceEqDiff, Int.reduceEq, Int.reduceNeg, and_true, true_and, and_false, false_and, and_self, if_true, if_false, ite_true, ite_false, reduceIte, eq_self]
  refine a_bipush (n := 6) dX1_addPlant_4 rfl ⟨by decide, by decide⟩ (by decide) ?_
  refine a_icmp_lt (t := 10) (n := 9) dX1_addPlant_6 rfl rfl (fun c6 => ?_) (fun c6 => ?_)
  · refine a_aload_n (n := 11) dX1_addPlant_10 rfl rfl ?_
    refine a_getR (n := 14) dX1_addPlant_11 rfl fX1_15 (s10 hz) (r10_1 hR) ?_
    refine a_aload_n (n := 15) dX1_addPlant_14 rfl rfl ?_
    refine a_getI (n := 18) dX1_addPlant_15 rfl fX1_27 (s10 hz) ?_
    try simp only [up2_eq, kH_eq, Nat.reduceEqDiff, Int.reduceEq, Int.reduceNeg, and_true, true_and, and_false, false_and, and_self, if_true, if_false, ite_true, ite_false, reduceIte, eq_self]
    refine a_iconst (n := 19) dX1_addPlant_18 rfl ⟨by decide, by decide⟩ ?_
    refine a_iast (n := 20) dX1_addPlant_19 rfl (s11 hz) (by omega) (by omega) ?_
    try simp only [kH_80, kH_11, kH_12, kH_5, kH_6]
    refine a_iconst (n := 21) dX1_addPlant_20 rfl ⟨by decide, by decide⟩ ?_
    refine b_istore_n (n := 22) dX1_addPlant_21 rfl (by decide) rfl ?_
    exact c_ap_22 hz hR hN hm hn f2 f3 hWB hrl nB.toNat 0 _ _ _ _ _ (by decide) (by omega) ⟨fun j _ => rfl, fun x x0 x1 => by omega, fun j hj => wU_n hj, Or.inr ⟨fun k => by omega, wU_s⟩, fun x x0 => by rw [wU_s, if_neg (by omega)]; omega⟩
  · omega
end C14
