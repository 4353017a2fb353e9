section C16
variable {G : aG} {d : Nat} {z : aZ} {hr : aR} {hi hl : aI} {go rl pr : Int → Int} {p nP nB : Int}
abbrev bdO (hr : aR) (hi : aI) : Int → Int := fun q => hi (pC hr q) 13
/-- the first p PLANTS are told *) -/
def loI (hr : aR) (hi : aI) (nB p : Int) (pr go rl : Int → Int) : Prop := (∀ q, 0 ≤ q → q < p → 0 ≤ hi (pC hr q) 13 → (∀ b, 0 ≤ b → b < nB → dPr hr hi q b (pr (rk (bdO hr hi) q * 8 + b))) ∧ dGo hr hi q (go (rk (bdO hr hi) q))) ∧ ∀ x, 0 ≤ x → x < nB → rl x = crm hr hi x - ld (rk (bdO hr hi) p).toNat go x
theorem ld_le {go : Int → Int} (n : Nat) {x : Int} : ld n go x ≤ n := (sm_b (fun q => go q = x) n).2
theorem bdO_s (h : 0 ≤ p) : rk (bdO hr hi) (p + 1) = rk (bdO hr hi) p + (if 0 ≤ hi (pC hr p) 13 then 1 else 0) := rk_s h
theorem loI.skip (h0 : 0 ≤ p) (h : loI hr hi nB p pr go rl) (hb : ¬ 0 ≤ hi (pC hr p) 13) : loI hr hi nB (p + 1) pr go rl := by
  have e := bdO_s (hr := hr) (hi := hi) h0
  rw [if_neg hb, Int.add_zero] at e
  refine ⟨fun q q0 q1 qB => ?_, fun x x0 x1 => by rw [e]; exact h.2 x x0 x1⟩
  by_cases k : q = p
  · rw [k] at qB; exact absurd qB hb
  · exact h.1 q q0 (by omega) qB
theorem loI.add {pr2 go2 rl2 : Int → Int} (hn : nB ≤ 8) (h0 : 0 ≤ p) (h : loI hr hi nB p pr go rl) (hb : 0 ≤ hi (pC hr p) 13 ∧ hi (pC hr p) 13 < nB) (hA : apI hr hi p (rk (bdO hr hi) p) nB pr2 go2 rl2 pr go rl) : loI hr hi nB (p + 1) pr2 go2 rl2 := by
  have e := bdO_s (hr := hr) (hi := hi) h0
  rw [if_pos hb.1] at e
  obtain ⟨a1, a2, a3, a4, a5⟩ := hA
  refine ⟨fun q q0 q1 qB => ?_, fun x x0 x1 => ?_⟩
  · by_cases k : q = p
    · rw [k]
      refine ⟨a2, ?_⟩
      rcases a4 with k2 | k2
      · exact Or.inl ⟨k2.1, k2.2.2⟩
      · exact Or.inr ⟨fun s => k2.1 ⟨s, hb.2⟩, k2.2⟩
    · have hl := rk_lt (B := bdO hr hi) q0 (show q < p by omega) qB
      obtain ⟨h1, h2⟩ := h.1 q q0 (by omega) qB
      rw [a3 _ (by omega)]
      refine ⟨fun b b0 b1 => ?_, h2⟩
      rw [a1 _ (by omega)]
      exact h1 b b0 b1
  · have hn0 := rk_nn (B := bdO hr hi) (q := p)
    rw [e, show (rk (bdO hr hi) p + 1).toNat = (rk (bdO hr hi) p).toNat + 1 by omega]
    have e1 : ld ((rk (bdO hr hi) p).toNat + 1) go2 x = ld (rk (bdO hr hi) p).toNat go2 x + (if go2 ((rk (bdO hr hi) p).toNat : Int) = x then 1 else 0) := rfl
    have e2 : ld (rk (bdO hr hi) p).toNat go2 x = ld (rk (bdO hr hi) p).toNat go x := sm_eq _ fun i i0 i1 => by rw [a3 i (by omega)]
    rw [show ((rk (bdO hr hi) p).toNat : Int) = rk (bdO hr hi) p by omega] at e1
    rw [e1, e2, a5 x x0, h.2 x x0 x1]
    omega
theorem loI.b (hP : 0 ≤ p ∧ p ≤ 40) (h : loI hr hi nB p pr go rl) (hrm : ∀ x, 0 ≤ x → x < nB → 0 ≤ crm hr hi x ∧ crm hr hi x ≤ 40) : ∀ x, 0 ≤ x → x < nB → -1000 ≤ rl x ∧ rl x ≤ 1000 := fun x x0 x1 => by
  have h1 := h.2 x x0 x1
  have h2 := hrm x x0 x1
  have h3 := ld_0 (rk (bdO hr hi) p).toNat (g := go) (x := x)
  have h4 := ld_le (rk (bdO hr hi) p).toNat (go := go) (x := x)
  have h5 := rk_le (B := bdO hr hi) hP.1
  omega
theorem mo_ans {H : aI} (e5 : H 10 5 = rk (bdO hr hi) nP) (e6 : H 10 6 = nB) (e80 : H 80 = pr) (e11 : H 11 = go) (e12 : H 12 = rl) (hP : 0 ≤ nP ∧ nP ≤ 40) (hB : 0 ≤ nB ∧ nB ≤ 8) (hbed : ∀ q, 0 ≤ q → q < nP → hi (pC hr q) 13 = -1 ∨ (0 ≤ hi (pC hr q) 13 ∧ hi (pC hr q) 13 < nB)) (hroom : ∀ x, 0 ≤ x → x < nB → sm nP.toNat (fun q => if hi (pC hr q) 13 = x then 1 else 0) ≤ crm hr hi x) (hI : loI hr hi nB nP pr go rl) :
    cMP H ∧ mJ (H 10 5) (H 10 6) (cSu H) (cWt H) (crm hr hi) (inP (H 11) 0) (H 11) (fun _ => 0) 0 ∧ (∀ x, 0 ≤ x → x < H 10 6 → H 12 x = crm hr hi x - ld (H 10 5).toNat (H 11) x) ∧ ∀ v, mvAns (H 10 5) (H 10 6) (cSu H) (cWt H) (crm hr hi) (fun _ => True) v → mvAns nP nB (dSu hr hi) (dWt hr hi) (crm hr hi) (fun q => 0 ≤ hi (pC hr q) 13) v := by
  have hn : (nP.toNat : Int) = nP := by omega
  have sur : ∀ c, 0 ≤ c → c < rk (bdO hr hi) nP → ∃ q : Int, 0 ≤ q ∧ q < nP ∧ 0 ≤ hi (pC hr q) 13 ∧ rk (bdO hr hi) q = c := fun c c0 c1 => by
    obtain ⟨q, q0, q1, qB, e⟩ := rk_sur (B := bdO hr hi) nP.toNat c c0 (by rw [hn]; exact c1)
    exact ⟨q, q0, by omega, qB, e⟩
  rw [e5, e6, e11, e12]
  refine ⟨⟨?_, ?_, fun c b c0 c1 b0 b1 => ?_⟩, ⟨⟨fun b _ _ => ⟨Int.le_refl 0, Int.le_refl 0⟩, fun c c0 c1 k => ?_⟩, fun x _ _ k => absurd k (Int.lt_irrefl 0), fun x x0 x1 => ?_, fun c c0 c1 => ?_⟩, hI.2, fun v hv => ?_⟩
  · rw [e5]
    have := rk_le (B := bdO hr hi) hP.1
    exact ⟨rk_nn, by omega⟩
  · rw [e6]; exact hB
  · rw [e5] at c1
    rw [e6] at b1
    obtain ⟨q, q0, q1, qB, e⟩ := sur c c0 c1
    have h1 := (hI.1 q q0 q1 qB).1 b b0 b1
    rw [e] at h1
    rw [e80]
    rcases h1 with k | k | k
    · exact Or.inl k.2.2
    · exact Or.inr (Or.inl k.2.2)
    · exact Or.inr (Or.inr k.2)
  · obtain ⟨q, q0, q1, qB, e⟩ := sur c c0 c1
    obtain ⟨h1, h2⟩ := hI.1 q q0 q1 qB
    rw [e] at h1 h2
    rcases h2 with ⟨k1, k2⟩ | ⟨k1, k2⟩
    · have hb := hbed q q0 q1
      rw [k2]
      have h3 : pr (c * 8 + hi (pC hr q) 13) = 0 := by
        rcases h1 _ qB (by omega) with k3 | k3 | k3
        · exact k3.2.2
        · exact absurd rfl k3.2.1
        · exact absurd k1 k3.1
      refine ⟨by omega, ?_, fun b b0 b1 s => ?_⟩
      · unfold cSu
        rw [e80, h3]
        decide
      · have h4 : cWt H c (hi (pC hr q) 13) = 0 := by
          unfold cWt
          rw [e80, if_pos h3]
        have h5 := cWt_01 (hi := H) c b
        show cWt H c (hi (pC hr q) 13) + 0 ≤ cWt H c b + 0
        omega
    · omega
  · refine Int.le_trans (Int.le_of_eq ?_) (Int.le_trans (sm_le nP.toNat (f := fun q => if 0 ≤ hi (pC hr q) 13 then (if go (rk (bdO hr hi) q) = x then 1 else 0) else 0) fun q q0 q1 => ?_) (hroom x x0 x1))
    · have := rk_sum (B := bdO hr hi) (fun c => if go c = x then 1 else 0) nP.toNat
      rw [hn] at this
      exact this
    · show (if 0 ≤ hi (pC hr q) 13 then (if go (rk (bdO hr hi) q) = x then (1 : Int) else 0) else 0) ≤ (if hi (pC hr q) 13 = x then 1 else 0)
      by_cases c : 0 ≤ hi (pC hr q) 13
      · rw [if_pos c]
        rcases (hI.1 q q0 (by omega) c).2 with k | k
        · rw [k.2]; exact Int.le_refl _
        · rw [k.2, if_neg (by omega)]
          split <;> decide
      · rw [if_neg c]
        split <;> decide
  · obtain ⟨q, q0, q1, qB, e⟩ := sur c c0 c1
    have h2 := (hI.1 q q0 q1 qB).2
    rw [e] at h2
    refine ⟨⟨fun k => Or.inl k, fun k => k.elim id (fun j => by omega)⟩, ?_⟩
    rcases h2 with k | k
    · rw [k.2]; exact Or.inl qB
    · exact Or.inr k.2
  · refine mv_cmp (B := bdO hr hi) hP.1 hB.1 (fun q b q0 q1 qB b0 b1 => ?_) (fun q b q0 q1 qB b0 b1 s => ?_) hv
    · unfold cSu
      rw [e80]
      rcases (hI.1 q q0 q1 qB).1 b b0 b1 with k | k | k
      · rw [k.2.2]; exact ⟨fun _ => k.1, fun _ => by decide⟩
      · rw [k.2.2]; exact ⟨fun _ => k.1, fun _ => by decide⟩
      · rw [k.2]; exact ⟨fun j => absurd j (by decide), fun j => absurd j k.1⟩
    · unfold cWt dWt
      rw [e80]
      rcases (hI.1 q q0 q1 qB).1 b b0 b1 with k | k | k
      · rw [k.2.2, if_pos rfl, if_pos k.2.1]
      · rw [k.2.2, if_neg (by decide), if_neg k.2.1]
      · exact absurd s k.1
theorem kH_r5 {m n : Int} : kH hi m n pr go rl 10 5 = m := by rw [kH_eq, if_pos ⟨rfl, rfl⟩]
theorem kH_r6 {m n : Int} : kH hi m n pr go rl 10 6 = n := by rw [kH_eq, if_neg (by omega), if_pos ⟨rfl, rfl⟩]
theorem kH_r80 {m n : Int} : kH hi m n pr go rl 80 = pr := by funext j; rw [kH_eq, if_neg (by omega), if_neg (by omega), if_pos rfl]
theorem kH_r11 {m n : Int} : kH hi m n pr go rl 11 = go := by funext j; rw [kH_eq, if_neg (by omega), if_neg (by omega), if_neg (by omega), if_pos rfl]
theorem kH_r12 {m n : Int} : kH hi m n pr go rl 12 = rl := by funext j; rw [kH_eq, if_neg (by omega), if_neg (by omega), if_neg (by omega), if_neg (by omega), if_pos rfl]
theorem kH_fr {m n : Int} {g2 r2 c2 b2 : Int → Int} {b : Nat} {j : Int} (h1 : ¬ (10 ≤ b ∧ b ≤ 14)) (h2 : ¬ b = 80) : nH (kH hi m n pr go rl) g2 r2 c2 b2 b j = hi b j := by
  rw [nH_eq, if_neg (by omega), if_neg (by omega), if_neg (by omega), if_neg (by omega), kH_eq, if_neg (by omega), if_neg (by omega), if_neg (by omega), if_neg (by omega), if_neg (by omega)]
set_option maxRecDepth 100000 in
set_option maxHeartbeats 4000000 in
theorem c_mo_85 (hz : stZ z) (hR : stR hr) (hN : gN G) (hP : 0 ≤ hi 0 9 ∧ hi 0 9 ≤ 40) (hB : 0 ≤ hi 0 10 ∧ hi 0 10 ≤ 8) (hWP : ∀ q, 0 ≤ q → q < hi 0 9 → hr 1 q = some (pC hr q) ∧ a_is z (pC hr q) 3 17 ∧ 81 ≤ pC hr q) (hWB : ∀ b, 0 ≤ b → b < hi 0 10 → hr 2 b = some (bC hr b) ∧ a_is z (bC hr b) 0 3 ∧ 81 ≤ bC hr b) (hbed : ∀ q, 0 ≤ q → q < hi 0 9 → hi (pC hr q) 13 = -1 ∨ (0 ≤ hi (pC hr q) 13 ∧ hi (pC hr q) 13 < hi 0 10)) (hrm : ∀ x, 0 ≤ x → x < hi 0 10 → 0 ≤ crm hr hi x ∧ crm hr hi x ≤ 40) (hroom : ∀ x, 0 ≤ x → x < hi 0 10 → sm (hi 0 9).toNat (fun q => if hi (pC hr q) 13 = x then 1 else 0) ≤ crm hr hi x) {x : Int} (hI : loI hr hi (hi 0 10) (hi 0 9) pr go rl) : a_wp G mX9_moves (d + 6) 85 [some (vR 0), some (vI x)] [] z hr (kH hi (rk (bdO hr hi) (hi 0 9)) (hi 0 10) pr go rl) hl (fun r z' hr' hi' hl' => z' = z ∧ hr' = hr ∧ hl' = hl ∧ ∃ v : Int, (∀ b j, ¬ (10 ≤ b ∧ b ≤ 14) → ¬ b = 80 → hi' b j = hi b j) ∧ r = some (vI v) ∧ mvAns (hi 0 9) (hi 0 10) (dSu hr hi) (dWt hr hi) (crm hr hi) (fun q => 0 ≤ hi (pC hr q) 13) v) := by
  obtain ⟨m1, m2, m3, m4⟩ := mo_ans (H := (kH hi (rk (bdO hr hi) (hi 0 9)) (hi 0 10) pr go rl)) kH_r5 kH_r6 kH_r80 kH_r11 kH_r12 hP hB hbed hroom hI
  have KF := c_fewest (G := G) (d := d) (z := z) (hr := hr) (hl := hl) (hi := (kH hi (rk (bdO hr hi) (hi 0 9)) (hi 0 10) pr go rl)) (go := (kH hi (rk (bdO hr hi) (hi 0 9)) (hi 0 10) pr go rl) 11) (rl := (kH hi (rk (bdO hr hi) (hi 0 9)) (hi 0 10) pr go rl) 12) (co := (kH hi (rk (bdO hr hi) (hi 0 9)) (hi 0 10) pr go rl) 13) (by_ := (kH hi (rk (bdO hr hi) (hi 0 9)) (hi 0 10) pr go rl) 14) (y := fun _ => 0) (rm := crm hr hi) (g0 := (kH hi (rk (bdO hr hi) (hi 0 9)) (hi 0 10) pr go rl) 11) hz hR m1 (by rw [kH_r6]; exact hrm) m2 m3
  rw [nH_0] at KF
  refine a_aload_n (n := 86) dX9_moves_85 rfl rfl ?_
  refine a_getR (n := 89) dX9_moves_86 rfl fX9_31 (s0 hz) (r0_3 hR) ?_
  refine a_callV (M2 := mX1_fewest) (n := 92) dX9_moves_89 rfl (KF) kX1_fewest lX9_185 iX1_fewest eX1_fewest (by decide) (by omega) (s10 hz) rfl (Nat.le_of_ble_eq_true rfl) (fun q89 z89 hr89 hi89 hl89 h89 => ?_)
  obtain ⟨e189, e289, e389, v, g2, r2, c2, b2, rfl, rfl, hA⟩ := h89
  obtain rfl := e189.symm
  obtain rfl := e289.symm
  obtain rfl := e389.symm
  show a_wp G _ _ _ _ (vI v :: _) _ _ _ _ _
  refine a_ireturn dX9_moves_92 rfl ?_
  exact ⟨rfl, rfl, rfl, v, fun b j k1 k2 => kH_fr k1 k2, rfl, m4 v hA⟩
set_option maxRecDepth 100000 in
set_option maxHeartbeats 4000000 in
theorem c_mo_41 (hz : stZ z) (hR : stR hr) (hN : gN G) (hP : 0 ≤ hi 0 9 ∧ hi 0 9 ≤ 40) (hB : 0 ≤ hi 0 10 ∧ hi 0 10 ≤ 8) (hWP : ∀ q, 0 ≤ q → q < hi 0 9 → hr 1 q = some (pC hr q) ∧ a_is z (pC hr q) 3 17 ∧ 81 ≤ pC hr q) (hWB : ∀ b, 0 ≤ b → b < hi 0 10 → hr 2 b = some (bC hr b) ∧ a_is z (bC hr b) 0 3 ∧ 81 ≤ bC hr b) (hbed : ∀ q, 0 ≤ q → q < hi 0 9 → hi (pC hr q) 13 = -1 ∨ (0 ≤ hi (pC hr q) 13 ∧ hi (pC hr q) 13 < hi 0 10)) (hrm : ∀ x, 0 ≤ x → x < hi 0 10 → 0 ≤ crm hr hi x ∧ crm hr hi x ≤ 40) (hroom : ∀ x, 0 ≤ x → x < hi 0 10 → sm (hi 0 9).toNat (fun q => if hi (pC hr q) 13 = x then 1 else 0) ≤ crm hr hi x) (n : Nat) : ∀ (p : Int) (pr go rl : Int → Int), 0 ≤ p → p + n = hi 0 9 → loI hr hi (hi 0 10) p pr go rl → a_wp G mX9_moves (d + 6) 41 [some (vR 0), some (vI p)] [] z hr (kH hi (rk (bdO hr hi) p) (hi 0 10) pr go rl) hl (fun r z' hr' hi' hl' => z' = z ∧ hr' = hr ∧ hl' = hl ∧ ∃ v : Int, (∀ b j, ¬ (10 ≤ b ∧ b ≤ 14) → ¬ b = 80 → hi' b j = hi b j) ∧ r = some (vI v) ∧ mvAns (hi 0 9) (hi 0 10) (dSu hr hi) (dWt hr hi) (crm hr hi) (fun q => 0 ≤ hi (pC hr q) 13) v) := by
  induction n with
  | zero =>
    intro p pr go rl h0 hn hI
    refine a_iload_n (n := 42) dX9_moves_41 rfl rfl ?_
    refine a_aload_n (n := 43) dX9_moves_42 rfl rfl ?_
    refine a_getI (n := 46) dX9_moves_43 rfl fX9_79 (s0 hz) ?_
    try simp only [up2_eq, kH_eq, Nat.reduceEqDiff, Int.reduceEq, Int.reduceNeg, and_true, true_and, and_false, false_and, and_self, if_true, if_false, ite_true, ite_false, reduceIte, eq_self]
    refine a_icmp_ge (t := 85) (n := 49) dX9_moves_46 rfl rfl (fun c46 => ?_) (fun c46 => ?_)
    · obtain rfl : p = hi 0 9 := by omega
      exact c_mo_85 hz hR hN hP hB hWP hWB hbed hrm hroom hI
    · have hbp := hbed p h0 (by omega)
      have hrk := rk_le (B := bdO hr hi) h0
      omega
  | succ n ih =>
    intro p pr go rl h0 hn hI
    refine a_iload_n (n := 42) dX9_moves_41 rfl rfl ?_
    refine a_aload_n (n := 43) dX9_moves_42 rfl rfl ?_
    refine a_getI (n := 46) dX9_moves_43 rfl fX9_79 (s0 hz) ?_
    try simp only [up2_eq, kH_eq, Nat.reduceEqDiff, Int.reduceEq, Int.reduceNeg, and_true, true_and, and_false, false_and, and_self, if_true, if_false, ite_true, ite_false, reduceIte, eq_self]
    refine a_icmp_ge (t := 85) (n := 49) dX9_moves_46 rfl rfl (fun c46 => ?_) (fun c46 => ?_)
    · omega
    · have hbp := hbed p h0 (by omega)
      have hrk := rk_le (B := bdO hr hi) h0
      refine a_aload_n (n := 50) dX9_moves_49 rfl rfl ?_
      refine a_getR (n := 53) dX9_moves_50 rfl fX9_11 (s0 hz) (r0_0 hR) ?_
      refine a_iload_n (n := 54) dX9_moves_53 rfl rfl ?_
      refine a_aald (n := 55) dX9_moves_54 rfl (s1 hz) (by decide) (by omega) (by omega) ?_
      obtain ⟨f1, f2, f3⟩ := hWP p (by omega) (by omega)
      rw [f1]
      refine a_getI (n := 58) dX9_moves_55 rfl fX9_165 f2 ?_
      rw [kH_p f3]
      refine a_iconst (n := 59) dX9_moves_58 rfl ⟨by decide, by decide⟩ ?_
      refine a_icmp_eq (t := 79) (n := 62) dX9_moves_59 rfl rfl (fun c59 => ?_) (fun c59 => ?_)
      · refine b_iinc (n := 82) dX9_moves_79 rfl (by decide) rfl rfl ⟨by omega, by omega⟩ ?_
        refine a_goto (t := 41) dX9_moves_82 rfl ?_
        have hX := ih (p + 1) pr go rl (by omega) (by omega) (hI.skip h0 (by omega))
        rw [bdO_s h0, if_neg (by omega), Int.add_zero] at hX
        exact hX
      · refine a_aload_n (n := 63) dX9_moves_62 rfl rfl ?_
        refine a_getR (n := 66) dX9_moves_63 rfl fX9_31 (s0 hz) (r0_3 hR) ?_
        refine a_aload_n (n := 67) dX9_moves_66 rfl rfl ?_
        refine a_getR (n := 70) dX9_moves_67 rfl fX9_11 (s0 hz) (r0_0 hR) ?_
        refine a_iload_n (n := 71) dX9_moves_70 rfl rfl ?_
        refine a_aald (n := 72) dX9_moves_71 rfl (s1 hz) (by decide) (by omega) (by omega) ?_
        obtain ⟨f1, f2, f3⟩ := hWP p (by omega) (by omega)
        rw [f1]
        refine a_aload_n (n := 73) dX9_moves_72 rfl rfl ?_
        refine a_getR (n := 76) dX9_moves_73 rfl fX9_17 (s0 hz) (r0_1 hR) ?_
        refine a_callV (M2 := mX1_addPlant) (n := 79) dX9_moves_76 rfl (c_addPlant (d := d + 3) hz hR hN ⟨rk_nn, by omega⟩ hB f2 f3 hWB (hI.b ⟨h0, by omega⟩ hrm) (by omega)) kX1_addPlant lX9_181 iX1_addPlant eX1_addPlant (by decide) (by omega) (s10 hz) rfl (Nat.le_of_ble_eq_true rfl) (fun q76 z76 hr76 hi76 hl76 h76 => ?_)
        obtain ⟨e176, e276, e376, rfl, pr2, go2, rl2, rfl, hA2⟩ := h76
        obtain rfl := e176.symm
        obtain rfl := e276.symm
        obtain rfl := e376.symm
        show a_wp G _ _ _ _ [] _ _ _ _ _
        refine b_iinc (n := 82) dX9_moves_79 rfl (by decide) rfl rfl ⟨by omega, by omega⟩ ?_
        refine a_goto (t := 41) dX9_moves_82 rfl ?_
        have hX := ih (p + 1) pr2 go2 rl2 (by omega) (by omega) (hI.add hB.2 h0 (by omega) hA2)
        rw [bdO_s h0, if_pos (by omega)] at hX
        exact hX
set_option maxRecDepth 100000 in
set_option maxHeartbeats 4000000 in
theorem c_mo_9 (hz : stZ z) (hR : stR hr) (hN : gN G) (hP : 0 ≤ hi 0 9 ∧ hi 0 9 ≤ 40) (hB : 0 ≤ hi 0 10 ∧ hi 0 10 ≤ 8) (hWP : ∀ q, 0 ≤ q → q < hi 0 9 → hr 1 q = some (pC hr q) ∧ a_is z (pC hr q) 3 17 ∧ 81 ≤ pC hr q) (hWB : ∀ b, 0 ≤ b → b < hi 0 10 → hr 2 b = some (bC hr b) ∧ a_is z (bC hr b) 0 3 ∧ 81 ≤ bC hr b) (hbed : ∀ q, 0 ≤ q → q < hi 0 9 → hi (pC hr q) 13 = -1 ∨ (0 ≤ hi (pC hr q) 13 ∧ hi (pC hr q) 13 < hi 0 10)) (hrm : ∀ x, 0 ≤ x → x < hi 0 10 → 0 ≤ crm hr hi x ∧ crm hr hi x ≤ 40) (hroom : ∀ x, 0 ≤ x → x < hi 0 10 → sm (hi 0 9).toNat (fun q => if hi (pC hr q) 13 = x then 1 else 0) ≤ crm hr hi x) {Q : Option aV → aZ → aR → aI → aI → Prop} (W : (∀ rl : Int → Int, (∀ x, 0 ≤ x → x < hi 0 10 → rl x = crm hr hi x) → a_wp G mX9_moves (d + 6) 39 [some (vR 0), some (vI (hi 0 10))] [] z hr (kH hi 0 (hi 0 10) pr go rl) hl Q)) (n : Nat) : ∀ (b : Int) (rl : Int → Int), 0 ≤ b → b + n = hi 0 10 → (∀ x, 0 ≤ x → x < b → rl x = crm hr hi x) → a_wp G mX9_moves (d + 6) 9 [some (vR 0), some (vI b)] [] z hr (kH hi 0 b pr go rl) hl Q := by
  induction n with
  | zero =>
    intro b rl h0 hn hI
    refine a_iload_n (n := 10) dX9_moves_9 rfl rfl ?_
    refine a_aload_n (n := 11) dX9_moves_10 rfl rfl ?_
    refine a_getI (n := 14) dX9_moves_11 rfl fX9_131 (s0 hz) ?_
    try simp only [up2_eq, kH_eq, Nat.reduceEqDiff, Int.reduceEq, Int.reduceNeg, and_true, true_and, and_false, false_and, and_self, if_true, if_false, ite_true, ite_false, reduceIte, eq_self]
    refine a_icmp_ge (t := 39) (n := 17) dX9_moves_14 rfl rfl (fun c14 => ?_) (fun c14 => ?_)
    · obtain rfl : b = hi 0 10 := by omega
      exact W rl hI
    · omega
  | succ n ih =>
    intro b rl h0 hn hI
    refine a_iload_n (n := 10) dX9_moves_9 rfl rfl ?_
    refine a_aload_n (n := 11) dX9_moves_10 rfl rfl ?_
    refine a_getI (n := 14) dX9_moves_11 rfl fX9_131 (s0 hz) ?_
    try simp only [up2_eq, kH_eq, Nat.reduceEqDiff, Int.reduceEq, Int.reduceNeg, and_true, true_and, and_false, false_and, and_self, if_true, if_false, ite_true, ite_false, reduceIte, eq_self]
    refine a_icmp_ge (t := 39) (n := 17) dX9_moves_14 rfl rfl (fun c14 => ?_) (fun c14 => ?_)
    · omega
    · refine a_aload_n (n := 18) dX9_moves_17 rfl rfl ?_
      refine a_getR (n := 21) dX9_moves_18 rfl fX9_31 (s0 hz) (r0_3 hR) ?_
      refine a_aload_n (n := 22) dX9_moves_21 rfl rfl ?_
      refine a_getR (n := 25) dX9_moves_22 rfl fX9_17 (s0 hz) (r0_1 hR) ?_
      refine a_iload_n (n := 26) dX9_moves_25 rfl rfl ?_
      refine a_aald (n := 27) dX9_moves_26 rfl (s2 hz) (by decide) (by omega) (by omega) ?_
      obtain ⟨g1, g2, g3⟩ := hWB b (by omega) (by omega)
      rw [g1]
      refine a_getI (n := 30) dX9_moves_27 rfl fX9_174 g2 ?_
      rw [kH_p g3]
      refine a_callV (M2 := mX1_addBed) (n := 33) dX9_moves_30 rfl (c_addBed (d := d + 5) hz hR ⟨h0, by omega⟩) kX1_addBed lX9_177 iX1_addBed eX1_addBed (by decide) (by omega) (s10 hz) rfl (Nat.le_of_ble_eq_true rfl) (fun q30 z30 hr30 hi30 hl30 h30 => ?_)
      obtain ⟨e130, e230, e330, rfl, rfl⟩ := h30
      obtain rfl := e130.symm
      obtain rfl := e230.symm
      obtain rfl := e330.symm
      show a_wp G _ _ _ _ [] _ _ _ _ _
      refine b_iinc (n := 36) dX9_moves_33 rfl (by decide) rfl rfl ⟨by omega, by omega⟩ ?_
      refine a_goto (t := 9) dX9_moves_36 rfl ?_
      refine ih (b + 1) _ (by omega) (by omega) (fun x x0 x1 => ?_)
      by_cases e : x = b
      · rw [e, wU_s]; rfl
      · rw [wU_n e]; exact hI x x0 (by omega)
set_option maxRecDepth 100000 in
set_option maxHeartbeats 4000000 in
theorem c_mo_39 (hz : stZ z) (hR : stR hr) (hN : gN G) (hP : 0 ≤ hi 0 9 ∧ hi 0 9 ≤ 40) (hB : 0 ≤ hi 0 10 ∧ hi 0 10 ≤ 8) (hWP : ∀ q, 0 ≤ q → q < hi 0 9 → hr 1 q = some (pC hr q) ∧ a_is z (pC hr q) 3 17 ∧ 81 ≤ pC hr q) (hWB : ∀ b, 0 ≤ b → b < hi 0 10 → hr 2 b = some (bC hr b) ∧ a_is z (bC hr b) 0 3 ∧ 81 ≤ bC hr b) (hbed : ∀ q, 0 ≤ q → q < hi 0 9 → hi (pC hr q) 13 = -1 ∨ (0 ≤ hi (pC hr q) 13 ∧ hi (pC hr q) 13 < hi 0 10)) (hrm : ∀ x, 0 ≤ x → x < hi 0 10 → 0 ≤ crm hr hi x ∧ crm hr hi x ≤ 40) (hroom : ∀ x, 0 ≤ x → x < hi 0 10 → sm (hi 0 9).toNat (fun q => if hi (pC hr q) 13 = x then 1 else 0) ≤ crm hr hi x) {x : Int} (hI : ∀ x, 0 ≤ x → x < hi 0 10 → rl x = crm hr hi x) : a_wp G mX9_moves (d + 6) 39 [some (vR 0), some (vI x)] [] z hr (kH hi 0 (hi 0 10) pr go rl) hl (fun r z' hr' hi' hl' => z' = z ∧ hr' = hr ∧ hl' = hl ∧ ∃ v : Int, (∀ b j, ¬ (10 ≤ b ∧ b ≤ 14) → ¬ b = 80 → hi' b j = hi b j) ∧ r = some (vI v) ∧ mvAns (hi 0 9) (hi 0 10) (dSu hr hi) (dWt hr hi) (crm hr hi) (fun q => 0 ≤ hi (pC hr q) 13) v) := by
  refine a_iconst (n := 40) dX9_moves_39 rfl ⟨by decide, by decide⟩ ?_
  refine b_istore_n (n := 41) dX9_moves_40 rfl (by decide) rfl ?_
  exact c_mo_41 hz hR hN hP hB hWP hWB hbed hrm hroom (hi 0 9).toNat 0 pr go rl (by decide) (by omega) ⟨fun q q0 q1 => by omega, fun x x0 x1 => by rw [hI x x0 x1]; show _ = _ - sm 0 _; rw [sm]; omega⟩
set_option maxRecDepth 100000 in
set_option maxHeartbeats 4000000 in
theorem c_moves (hz : stZ z) (hR : stR hr) (hN : gN G) (hP : 0 ≤ hi 0 9 ∧ hi 0 9 ≤ 40) (hB : 0 ≤ hi 0 10 ∧ hi 0 10 ≤ 8) (hWP : ∀ q, 0 ≤ q → q < hi 0 9 → hr 1 q = some (pC hr q) ∧ a_is z (pC hr q) 3 17 ∧ 81 ≤ pC hr q) (hWB : ∀ b, 0 ≤ b → b < hi 0 10 → hr 2 b = some (bC hr b) ∧ a_is z (bC hr b) 0 3 ∧ 81 ≤ bC hr b) (hbed : ∀ q, 0 ≤ q → q < hi 0 9 → hi (pC hr q) 13 = -1 ∨ (0 ≤ hi (pC hr q) 13 ∧ hi (pC hr q) 13 < hi 0 10)) (hrm : ∀ x, 0 ≤ x → x < hi 0 10 → 0 ≤ crm hr hi x ∧ crm hr hi x ≤ 40) (hroom : ∀ x, 0 ≤ x → x < hi 0 10 → sm (hi 0 9).toNat (fun q => if hi (pC hr q) 13 = x then 1 else 0) ≤ crm hr hi x) : a_ct G mX9_moves (d + 6) [vR 0] z hr hi hl (fun r z' hr' hi' hl' => z' = z ∧ hr' = hr ∧ hl' = hl ∧ ∃ v : Int, (∀ b j, ¬ (10 ≤ b ∧ b ≤ 14) → ¬ b = 80 → hi' b j = hi b j) ∧ r = some (vI v) ∧ mvAns (hi 0 9) (hi 0 10) (dSu hr hi) (dWt hr hi) (crm hr hi) (fun q => 0 ≤ hi (pC hr q) 13) v) := by
  refine a_ct_of rfl (Nat.le_of_ble_eq_true rfl) ?_
  refine a_aload_n (n := 1) dX9_moves_0 rfl rfl ?_
  refine a_getR (n := 4) dX9_moves_1 rfl fX9_31 (s0 hz) (r0_3 hR) ?_
  refine a_callV (M2 := mX1_makeEmpty) (n := 7) dX9_moves_4 rfl (c_makeEmpty (d := d + 5) hz hR) kX1_makeEmpty lX9_171 iX1_makeEmpty eX1_makeEmpty (by decide) (by omega) (s10 hz) rfl (Nat.le_of_ble_eq_true rfl) (fun q4 z4 hr4 hi4 hl4 h4 => ?_)
  obtain ⟨e14, e24, e34, rfl, rfl⟩ := h4
  obtain rfl := e14.symm
  obtain rfl := e24.symm
  obtain rfl := e34.symm
  show a_wp G _ _ _ _ [] _ _ _ _ _
  refine a_iconst (n := 8) dX9_moves_7 rfl ⟨by decide, by decide⟩ ?_
  refine b_istore_n (n := 9) dX9_moves_8 rfl (by decide) rfl ?_
  exact c_mo_9 hz hR hN hP hB hWP hWB hbed hrm hroom (fun rl hI => c_mo_39 hz hR hN hP hB hWP hWB hbed hrm hroom hI) (hi 0 10).toNat 0 _ (by decide) (by omega) (fun x x0 x1 => by omega)
end C16
