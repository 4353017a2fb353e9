section C11
variable {G : aG} {d : Nat} {z : aZ} {hr : aR} {hi hl : aI} {go rl co by_ y : Int → Int} {p K : Int}
set_option maxRecDepth 100000 in
set_option maxHeartbeats 4000000 in
theorem c_spreadFrom (hz : stZ z) (hR : stR hr) (hM : cMP hi) (hC : mvC (hi 10 5) (hi 10 6) (cSu hi) (cWt hi) go y K) (hK : 0 ≤ K ∧ K ≤ 800) (hgp : go p = -1) {q : Int} (hq : 0 ≤ q ∧ q < hi 10 5) (hg : 0 ≤ go q ∧ go q < hi 10 6) (hB : mvB (hi 10 5) (hi 10 6) (cSu hi) (cWt hi) go y p (upC co) by_) (h1k : ∀ x, 0 ≤ x → x < hi 10 6 → co x ≤ 1000) : a_ct G mX1_spreadFrom (d + 2) [vR 10, vI q] z hr (nH hi go rl co by_) hl (fun r z' hr' hi' hl' => z' = z ∧ hr' = hr ∧ hl' = hl ∧ ((¬ co (go q) < 1000 ∧ r = some (vI 0) ∧ hi' = nH hi go rl co by_) ∨ (co (go q) < 1000 ∧ ∃ c2 b2 : Int → Int, ∃ e : Int, hi' = nH hi go rl c2 b2 ∧ r = some (vI e) ∧ sF hi go y p q (hi 10 6) c2 b2 co by_ e))) := by
  have hM1 := hM.1
  have hM2 := hM.2.1
  have hS0 : sF hi go y p q 0 co by_ co by_ 0 := ⟨hB, h1k, fun x _ _ => Int.le_refl _, rfl, fun F _ h x x0 x1 => h x x0 x1, fun x x0 x1 => by omega, Or.inl ⟨rfl, rfl, rfl⟩⟩
  have hlo := hS0.lo hC hg.1 hg.2 hK.1
  refine a_ct_of rfl (Nat.le_of_ble_eq_true rfl) ?_
  refine a_aload_n (n := 1) dX1_spreadFrom_0 rfl rfl ?_
  refine a_getR (n := 4) dX1_spreadFrom_1 rfl fX1_15 (s10 hz) (r10_1 hR) ?_
  refine a_iload_n (n := 5) dX1_spreadFrom_4 rfl rfl ?_
  refine a_iald (n := 6) dX1_spreadFrom_5 rfl (s11 hz) (by omega) (by omega) ?_
  try simp only [up2_eq, nH_eq, Nat.reduceEqDiff, Int.reduceEq, Int.reduceNeg, and_true, true_and, and_false, false_and, and_self, if_true, if_false, ite_true, ite_false, reduceIte, eq_self]
  refine b_istore_n (n := 7) dX1_spreadFrom_6 rfl (by decide) rfl ?_
  refine a_aload_n (n := 8) dX1_spreadFrom_7 rfl rfl ?_
  refine a_getR (n := 11) dX1_spreadFrom_8 rfl fX1_21 (s10 hz) (r10_3 hR) ?_
  refine a_iload_n (n := 12) dX1_spreadFrom_11 rfl rfl ?_
  refine a_iald (n := 13) dX1_spreadFrom_12 rfl (s13 hz) (by omega) (by omega) ?_
  try simp only [up2_eq, nH_eq, Nat.reduceEqDiff, Int.reduceEq, Int.reduceNeg, and_true, true_and, and_false, false_and, and_self, if_true, if_false, ite_true, ite_false, reduceIte, eq_self]
  refine a_sipush (n := 16) dX1_spreadFrom_13 rfl ⟨by decide, by decide⟩ (by decide) ?_
  refine a_icmp_lt (t := 21) (n := 19) dX1_spreadFrom_16 rfl rfl (fun c16 => ?_) (fun c16 => ?_)
  · refine a_iconst (n := 22) dX1_spreadFrom_21 rfl ⟨by decide, by decide⟩ ?_
    refine b_istore_n (n := 23) dX1_spreadFrom_22 rfl (by decide) rfl ?_
    refine a_aload_n (n := 24) dX1_spreadFrom_23 rfl rfl ?_
    refine a_getR (n := 27) dX1_spreadFrom_24 rfl fX1_21 (s10 hz) (r10_3 hR) ?_
    refine a_iload_n (n := 28) dX1_spreadFrom_27 rfl rfl ?_
    refine a_iald (n := 29) dX1_spreadFrom_28 rfl (s13 hz) (by omega) (by omega) ?_
    try simp only [up2_eq, nH_eq, Nat.reduceEqDiff, Int.reduceEq, Int.reduceNeg, and_true, true_and, and_false, false_and, and_self, if_true, if_false, ite_true, ite_false, reduceIte, eq_self]
    refine a_aload_n (n := 30) dX1_spreadFrom_29 rfl rfl ?_
    refine a_iload_n (n := 31) dX1_spreadFrom_30 rfl rfl ?_
    refine a_iload_n (n := 32) dX1_spreadFrom_31 rfl rfl ?_
    refine a_callV (M2 := mX1_price) (n := 35) dX1_spreadFrom_32 rfl (c_price (d := d) (b := go q) hz hR hM hq hg) kX1_price lX1_47 iX1_price eX1_price (by decide) (by omega) (s10 hz) rfl (Nat.le_of_ble_eq_true rfl) (fun q32 z32 hr32 hi32 hl32 h32 => ?_)
    obtain ⟨e132, e232, e332, e432, rfl⟩ := h32
    obtain rfl := e132.symm
    obtain rfl := e232.symm
    obtain rfl := e332.symm
    obtain rfl := e432.symm
    have hw1 := cWt_01 (hi := hi) q (go q)
    show a_wp G _ _ _ _ (vI (hi 80 (q * 8 + go q)) :: _) _ _ _ _ _
    rw [hM.w hq.1 hq.2 hg.1 hg.2 (hC.2 q hq.1 hq.2 hg.1).2.1]
    refine a_isub (n := 36) dX1_spreadFrom_35 rfl ⟨by omega, by omega⟩ ?_
    refine b_istore (n := 38) dX1_spreadFrom_36 rfl (by decide) rfl ?_
    refine a_iconst (n := 39) dX1_spreadFrom_38 rfl ⟨by decide, by decide⟩ ?_
    refine b_istore (n := 41) dX1_spreadFrom_39 rfl (by decide) rfl ?_
    refine (c_sf_41 hz hR hM hC hK hgp hq hg (by omega) (hi 10 6).toNat 0 0 _ co by_ (by decide) (by omega) hS0).mono fun r z2 hr2 hi2 hl2 ⟨q1, q2, q3, c2, b2, e, q4, q5, q6⟩ => ⟨q1, q2, q3, Or.inr ⟨by omega, c2, b2, e, q4, q5, q6⟩⟩
  · refine a_iconst (n := 20) dX1_spreadFrom_19 rfl ⟨by decide, by decide⟩ ?_
    refine a_zreturn dX1_spreadFrom_20 rfl (by omega) ?_
    exact ⟨rfl, rfl, rfl, Or.inl ⟨by omega, rfl, rfl⟩⟩
/-- rounds of spreading: F, bs where all ends, rk how far from the newcomer; r rounds are done *) -/
def oI (hi : aI) (go y : Int → Int) (p : Int) (F : Int → Int) (rk : Int → Nat) (r : Int) (co by_ : Int → Int) : Prop := mvB (hi 10 5) (hi 10 6) (cSu hi) (cWt hi) go y p (upC co) by_ ∧ (∀ x, 0 ≤ x → x < hi 10 6 → co x ≤ 1000) ∧ (∀ x, 0 ≤ x → x < hi 10 6 → F x ≤ upC co x) ∧ ∀ b, 0 ≤ b → b < hi 10 6 → F b < 1000000 → (rk b : Int) < r → upC co b ≤ F b
/-- in a round, at PLANT q *) -/
def rI (hi : aI) (go y : Int → Int) (p : Int) (F bs : Int → Int) (rk : Int → Nat) (r q e : Int) (co by_ : Int → Int) : Prop := oI hi go y p F rk r co by_ ∧ (∀ b, 0 ≤ b → b < hi 10 6 → F b < 1000000 → (rk b : Int) < r + 1 → ¬ bs b = p → bs b < q → upC co b ≤ F b) ∧
  ((e = 0 ∧ ∀ q', 0 ≤ q' → q' < q → 0 ≤ go q' → upC co (go q') < 1000000 → ∀ b, 0 ≤ b → b < hi 10 6 → cSu hi q' b → upC co b ≤ upC co (go q') + cWt hi q' b - cWt hi q' (go q')) ∨ e = 1)
section RI
variable {F bs : Int → Int} {rk : Int → Nat} {r q e : Int}
theorem rI.skip (hFB : mvB (hi 10 5) (hi 10 6) (cSu hi) (cWt hi) go y p F bs) (hq0 : 0 ≤ q) (h : rI hi go y p F bs rk r q e co by_) (hg : ¬ 0 ≤ go q) : rI hi go y p F bs rk r (q + 1) e co by_ := by
  obtain ⟨h1, h2, h3⟩ := h
  refine ⟨h1, fun b b0 b1 hf hr1 hne hlt => ?_, h3.imp (fun k => ⟨k.1, fun q' q0 q1 g0 => ?_⟩) id⟩
  · by_cases k : bs b = q
    · obtain ⟨T, u, hFB⟩ := hFB
      have h7 := ((hFB b b0 b1).2.2 hf).2.2.2.2.2.2
      rcases h7 with h7 | h7
      · exact absurd h7.1 hne
      · rw [k] at h7; exact absurd h7.2.1 hg
    · exact h2 b b0 b1 hf hr1 hne (by omega)
  · by_cases k2 : q' = q
    · rw [k2] at g0; exact absurd g0 hg
    · exact k.2 q' q0 (by omega) g0
theorem rI.far (hFB : mvB (hi 10 5) (hi 10 6) (cSu hi) (cWt hi) go y p F bs) (hrk : ∀ b, 0 ≤ b → b < hi 10 6 → F b < 1000000 → (rk b : Int) < hi 10 6 ∧ (¬ bs b = p → rk (go (bs b)) < rk b)) (h : rI hi go y p F bs rk r q e co by_) (hg : 0 ≤ go q ∧ go q < hi 10 6) (hfar : ¬ co (go q) < 1000) : rI hi go y p F bs rk r (q + 1) e co by_ := by
  obtain ⟨h1, h2, h3⟩ := h
  have hc := h1.2.1 (go q) hg.1 hg.2
  have hnf : ¬ upC co (go q) < 1000000 := fun k => hfar ((upC_lt hc).mp k)
  refine ⟨h1, fun b b0 b1 hf hr1 hne hlt => ?_, h3.imp (fun k => ⟨k.1, fun q' q0 q1 g0 hfi => ?_⟩) id⟩
  · by_cases k : bs b = q
    · exfalso
      obtain ⟨T, u, hFB⟩ := hFB
      have h7 := ((hFB b b0 b1).2.2 hf).2.2.2.2.2.2
      have hr2 := (hrk b b0 b1 hf).2 hne
      rcases h7 with h7 | h7
      · exact absurd h7.1 hne
      · rw [k] at h7 hr2
        have := h1.2.2.2 (go q) hg.1 hg.2 h7.2.2.2.1 (by omega)
        have := h7.2.2.2.1
        omega
    · exact h2 b b0 b1 hf hr1 hne (by omega)
  · by_cases k2 : q' = q
    · rw [k2] at hfi; exact absurd hfi hnf
    · exact k.2 q' q0 (by omega) g0 hfi
theorem rI.near (hB8 : hi 10 6 ≤ 8) (hFB : mvB (hi 10 5) (hi 10 6) (cSu hi) (cWt hi) go y p F bs) (hFF : mvF (hi 10 5) (hi 10 6) (cSu hi) (cWt hi) go F) (hrk : ∀ b, 0 ≤ b → b < hi 10 6 → F b < 1000000 → (rk b : Int) < hi 10 6 ∧ (¬ bs b = p → rk (go (bs b)) < rk b)) (h : rI hi go y p F bs rk r q e co by_) (hg : 0 ≤ go q ∧ go q < hi 10 6) (hnr : co (go q) < 1000) {c2 b2 : Int → Int} {e2 : Int} (hs : sF hi go y p q (hi 10 6) c2 b2 co by_ e2) : rI hi go y p F bs rk r (q + 1) (if e2 = 0 then e else 1) c2 b2 := by
  obtain ⟨h1, h2, h3⟩ := h
  obtain ⟨s1, s2, s3, s4, s5, s6, s7⟩ := hs
  obtain ⟨o1, o2, o3, o4⟩ := h1
  have hc2 : c2 (go q) < 1000 := by rw [s4]; exact hnr
  have eg : upC c2 (go q) = c2 (go q) := upC_eq hc2
  have eg0 : upC co (go q) = co (go q) := upC_eq hnr
  have pf : ∀ b, 0 ≤ b → b < hi 10 6 → cSu hi q b → upC c2 b ≤ upC c2 (go q) + cWt hi q b - cWt hi q (go q) := fun b b0 b1 s => by
    have h8 := s6 b b0 b1 s
    have h9 := s2 b b0 b1
    have hw1 := cWt_01 (hi := hi) q b
    have hw2 := cWt_01 (hi := hi) q (go q)
    by_cases k : c2 b < 1000
    · rw [upC_eq k, eg]; exact h8
    · exfalso
      obtain ⟨T, u, s1⟩ := s1
      have h10 := ((s1 (go q) hg.1 hg.2).2.2 (by rw [eg]; omega)).2.2.1
      have h11 := cF_n (nB := hi 10 6) (cost := upC c2)
      rw [eg] at h10
      omega
  refine ⟨⟨s1, s2, s5 F hFF o3, fun b b0 b1 hf hr1 => Int.le_trans (s3 b b0 b1) (o4 b b0 b1 hf hr1)⟩, fun b b0 b1 hf hr1 hne hlt => ?_, ?_⟩
  · by_cases k : bs b = q
    · obtain ⟨T, u, hFB⟩ := hFB
      have h6 := ((hFB b b0 b1).2.2 hf).2.2.2.2.2
      have hr2 := (hrk b b0 b1 hf).2 hne
      rcases h6.2 with h7 | h7
      · exact absurd h7.1 hne
      · rw [k] at h6 h7 hr2
        have h8 := o4 (go q) hg.1 hg.2 h7.2.2.2.1 (by omega)
        have h9 := pf b b0 b1 h6.1
        have h10 := h7.2.2.2.2.1
        rw [eg, s4, ← eg0] at h9
        omega
    · exact Int.le_trans (s3 b b0 b1) (h2 b b0 b1 hf hr1 hne (by omega))
  · rcases s7 with ⟨k1, k2, k3⟩ | k1
    · rw [if_pos k1]
      refine h3.imp (fun k => ⟨k.1, fun q' q0 q1 g0 hfi b b0 b1 s => ?_⟩) id
      by_cases k4 : q' = q
      · subst k4; exact pf b b0 b1 s
      · rw [k2] at hfi ⊢; exact k.2 q' q0 (by omega) g0 hfi b b0 b1 s
    · exact Or.inr (if_neg (by omega))
theorem rI.done (hFB : mvB (hi 10 5) (hi 10 6) (cSu hi) (cWt hi) go y p F bs) (h : rI hi go y p F bs rk r (hi 10 5) e co by_) : oI hi go y p F rk (r + 1) co by_ := by
  obtain ⟨⟨o1, o2, o3, o4⟩, h2, h3⟩ := h
  refine ⟨o1, o2, o3, fun b b0 b1 hf hr1 => ?_⟩
  obtain ⟨T, u, hFB⟩ := hFB
  have h6 := (hFB b b0 b1).2.2 hf
  obtain ⟨T2, u2, o1⟩ := o1
  by_cases k : bs b = p
  · rcases h6.2.2.2.2.2.2 with h7 | h7
    · have h8 := (o1 b b0 b1).2.1 (by rw [← k]; exact h6.2.2.2.2.2.1)
      omega
    · exact absurd k h7.1
  · exact h2 b b0 b1 hf hr1 k h6.2.2.2.2.1
theorem oI.fix (hC : mvC (hi 10 5) (hi 10 6) (cSu hi) (cWt hi) go y K) (hFF : mvF (hi 10 5) (hi 10 6) (cSu hi) (cWt hi) go F) (hrk : ∀ b, 0 ≤ b → b < hi 10 6 → F b < 1000000 → (rk b : Int) < hi 10 6 ∧ (¬ bs b = p → rk (go (bs b)) < rk b)) (hr1 : hi 10 6 ≤ r) (h : oI hi go y p F rk r co by_) : mvF (hi 10 5) (hi 10 6) (cSu hi) (cWt hi) go (upC co) := by
  obtain ⟨o1, o2, o3, o4⟩ := h
  have eq : ∀ b, 0 ≤ b → b < hi 10 6 → upC co b = F b := fun b b0 b1 => by
    have h1 := o3 b b0 b1
    by_cases k : F b < 1000000
    · have := o4 b b0 b1 k (by have := (hrk b b0 b1 k).1; omega)
      omega
    · obtain ⟨T, u, o1⟩ := o1
      have := (o1 b b0 b1).1
      omega
  intro q q0 q1 g0 hf b b0 b1 s
  have g1 := (hC.2 q q0 q1 g0).1
  rw [eq (go q) g0 g1] at hf ⊢
  rw [eq b b0 b1]
  exact hFF q q0 q1 g0 hf b b0 b1 s
end RI
set_option maxRecDepth 100000 in
set_option maxHeartbeats 4000000 in
theorem c_sc_20 (hz : stZ z) (hR : stR hr) (hM : cMP hi) (hC : mvC (hi 10 5) (hi 10 6) (cSu hi) (cWt hi) go y K) (hK : 0 ≤ K ∧ K ≤ 800) (hgp : go p = -1) {F bs : Int → Int} {rk : Int → Nat} (hFB : mvB (hi 10 5) (hi 10 6) (cSu hi) (cWt hi) go y p F bs) (hFF : mvF (hi 10 5) (hi 10 6) (cSu hi) (cWt hi) go F) (hrk : ∀ b, 0 ≤ b → b < hi 10 6 → F b < 1000000 → (rk b : Int) < hi 10 6 ∧ (¬ bs b = p → rk (go (bs b)) < rk b)) (hgo : ∀ q, 0 ≤ q → q < hi 10 5 → 0 ≤ go q ∨ go q = -1) {r : Int} {Q : Option aV → aZ → aR → aI → aI → Prop} (n : Nat) : ∀ (q e : Int) (co by_ : Int → Int), 0 ≤ q → q + n = hi 10 5 → rI hi go y p F bs rk r q e co by_ → (∀ (e : Int) (co by_ : Int → Int), rI hi go y p F bs rk r (hi 10 5) e co by_ → a_wp G mX1_spreadCosts (d + 3) 54 [some (vR 10), some (vI e), some (vI r), some (vI (hi 10 5))] [] z hr (nH hi go rl co by_) hl Q) → a_wp G mX1_spreadCosts (d + 3) 20 [some (vR 10), some (vI e), some (vI r), some (vI q)] [] z hr (nH hi go rl co by_) hl Q := by
  induction n with
  | zero =>
    intro q e co by_ h0 hn hI W
    have hM1 := hM.1
    have hM2 := hM.2.1
    refine a_iload_n (n := 21) dX1_spreadCosts_20 rfl rfl ?_
    refine a_aload_n (n := 22) dX1_spreadCosts_21 rfl rfl ?_
    refine a_getI (n := 25) dX1_spreadCosts_22 rfl fX1_27 (s10 hz) ?_
    try simp only [up2_eq, nH_eq, Nat.reduceEqDiff, Int.reduceEq, Int.reduceNeg, and_true, true_and, and_false, false_and, and_self, if_true, if_false, ite_true, ite_false, reduceIte, eq_self]
    refine a_icmp_ge (t := 54) (n := 28) dX1_spreadCosts_25 rfl rfl (fun c25 => ?_) (fun c25 => ?_)
    · obtain rfl : q = hi 10 5 := by omega
      exact W _ _ _ hI
    · omega
  | succ n ih =>
    intro q e co by_ h0 hn hI W
    have hM1 := hM.1
    have hM2 := hM.2.1
    refine a_iload_n (n := 21) dX1_spreadCosts_20 rfl rfl ?_
    refine a_aload_n (n := 22) dX1_spreadCosts_21 rfl rfl ?_
    refine a_getI (n := 25) dX1_spreadCosts_22 rfl fX1_27 (s10 hz) ?_
    try simp only [up2_eq, nH_eq, Nat.reduceEqDiff, Int.reduceEq, Int.reduceNeg, and_true, true_and, and_false, false_and, and_self, if_true, if_false, ite_true, ite_false, reduceIte, eq_self]
    refine a_icmp_ge (t := 54) (n := 28) dX1_spreadCosts_25 rfl rfl (fun c25 => ?_) (fun c25 => ?_)
    · omega
    · refine a_aload_n (n := 29) dX1_spreadCosts_28 rfl rfl ?_
      refine a_getR (n := 32) dX1_spreadCosts_29 rfl fX1_15 (s10 hz) (r10_1 hR) ?_
      refine a_iload_n (n := 33) dX1_spreadCosts_32 rfl rfl ?_
      refine a_iald (n := 34) dX1_spreadCosts_33 rfl (s11 hz) (by omega) (by omega) ?_
      try simp only [up2_eq, nH_eq, Nat.reduceEqDiff, Int.reduceEq, Int.reduceNeg, and_true, true_and, and_false, false_and, and_self, if_true, if_false, ite_true, ite_false, reduceIte, eq_self]
      refine a_iconst (n := 35) dX1_spreadCosts_34 rfl ⟨by decide, by decide⟩ ?_
      refine a_icmp_eq (t := 48) (n := 38) dX1_spreadCosts_35 rfl rfl (fun c35 => ?_) (fun c35 => ?_)
      · refine b_iinc (n := 51) dX1_spreadCosts_48 rfl (by decide) rfl rfl ⟨by omega, by omega⟩ ?_
        refine a_goto (t := 20) dX1_spreadCosts_51 rfl ?_
        exact ih (q + 1) e _ _ (by omega) (by omega) (hI.skip hFB h0 (by omega)) W
      · have hgq : 0 ≤ go q := by have := hgo q h0 (by omega); omega
        have hgq2 := (hC.2 q h0 (by omega) hgq).1
        refine a_aload_n (n := 39) dX1_spreadCosts_38 rfl rfl ?_
        refine a_iload_n (n := 40) dX1_spreadCosts_39 rfl rfl ?_
        refine a_callV (M2 := mX1_spreadFrom) (n := 43) dX1_spreadCosts_40 rfl (c_spreadFrom (d := d) hz hR hM hC hK hgp ⟨h0, by omega⟩ ⟨hgq, hgq2⟩ hI.1.1 hI.1.2.1) kX1_spreadFrom lX1_62 iX1_spreadFrom eX1_spreadFrom (by decide) (by omega) (s10 hz) rfl (Nat.le_of_ble_eq_true rfl) (fun q40 z40 hr40 hi40 hl40 h40 => ?_)
        obtain ⟨e140, e240, e340, h40⟩ := h40
        obtain rfl := e140.symm
        obtain rfl := e240.symm
        obtain rfl := e340.symm
        rcases h40 with ⟨k40, rfl, rfl⟩ | ⟨k40, c2, b2, e2, rfl, rfl, hs⟩
        · show a_wp G _ _ _ _ (vI 0 :: _) _ _ _ _ _
          refine a_if_eq (t := 48) (n := 46) dX1_spreadCosts_43 rfl rfl (fun c43 => ?_) (fun c43 => ?_)
          · refine b_iinc (n := 51) dX1_spreadCosts_48 rfl (by decide) rfl rfl ⟨by omega, by omega⟩ ?_
            refine a_goto (t := 20) dX1_spreadCosts_51 rfl ?_
            exact ih (q + 1) e _ _ (by omega) (by omega) (hI.far hFB hrk ⟨hgq, hgq2⟩ k40) W
          · omega
        · show a_wp G _ _ _ _ (vI e2 :: _) _ _ _ _ _
          refine a_if_eq (t := 48) (n := 46) dX1_spreadCosts_43 rfl rfl (fun c43 => ?_) (fun c43 => ?_)
          · refine b_iinc (n := 51) dX1_spreadCosts_48 rfl (by decide) rfl rfl ⟨by omega, by omega⟩ ?_
            refine a_goto (t := 20) dX1_spreadCosts_51 rfl ?_
            have hX := hI.near hM2.2 hFB hFF hrk ⟨hgq, hgq2⟩ k40 hs
            rw [if_pos c43] at hX
            exact ih (q + 1) e _ _ (by omega) (by omega) hX W
          · refine a_iconst (n := 47) dX1_spreadCosts_46 rfl ⟨by decide, by decide⟩ ?_
            refine b_istore_n (n := 48) dX1_spreadCosts_47 rfl (by decide) rfl ?_
            refine b_iinc (n := 51) dX1_spreadCosts_48 rfl (by decide) rfl rfl ⟨by omega, by omega⟩ ?_
            refine a_goto (t := 20) dX1_spreadCosts_51 rfl ?_
            have hX := hI.near hM2.2 hFB hFF hrk ⟨hgq, hgq2⟩ k40 hs
            rw [if_neg c43] at hX
            exact ih (q + 1) 1 _ _ (by omega) (by omega) hX W
set_option maxRecDepth 100000 in
set_option maxHeartbeats 4000000 in
theorem c_sc_54 {e r q : Int} {h2 : aI} {Q : Option aV → aZ → aR → aI → aI → Prop} (hr0 : 0 ≤ r ∧ r < 8) (k : a_wp G mX1_spreadCosts (d + 3) 4 [some (vR 10), some (vI e), some (vI (r + 1)), some (vI q)] [] z hr h2 hl Q) : a_wp G mX1_spreadCosts (d + 3) 54 [some (vR 10), some (vI e), some (vI r), some (vI q)] [] z hr h2 hl Q := by
  refine b_iinc (n := 57) dX1_spreadCosts_54 rfl (by decide) rfl rfl ⟨by omega, by omega⟩ ?_
  refine a_goto (t := 4) dX1_spreadCosts_57 rfl ?_
  exact k
set_option maxRecDepth 100000 in
set_option maxHeartbeats 4000000 in
theorem c_sc_4 (hz : stZ z) (hR : stR hr) (hM : cMP hi) (hC : mvC (hi 10 5) (hi 10 6) (cSu hi) (cWt hi) go y K) (hK : 0 ≤ K ∧ K ≤ 800) (hgp : go p = -1) {F bs : Int → Int} {rk : Int → Nat} (hFB : mvB (hi 10 5) (hi 10 6) (cSu hi) (cWt hi) go y p F bs) (hFF : mvF (hi 10 5) (hi 10 6) (cSu hi) (cWt hi) go F) (hrk : ∀ b, 0 ≤ b → b < hi 10 6 → F b < 1000000 → (rk b : Int) < hi 10 6 ∧ (¬ bs b = p → rk (go (bs b)) < rk b)) (hgo : ∀ q, 0 ≤ q → q < hi 10 5 → 0 ≤ go q ∨ go q = -1) (n : Nat) : ∀ (r e : Int) (x3 : Option aV) (co by_ : Int → Int), 0 ≤ r → r + n = hi 10 6 → oI hi go y p F rk r co by_ → (e = 0 → mvF (hi 10 5) (hi 10 6) (cSu hi) (cWt hi) go (upC co)) → a_wp G mX1_spreadCosts (d + 3) 4 [some (vR 10), some (vI e), some (vI r), x3] [] z hr (nH hi go rl co by_) hl (fun r z' hr' hi' hl' => z' = z ∧ hr' = hr ∧ hl' = hl ∧ r = none ∧ ∃ c2 b2 : Int → Int, hi' = nH hi go rl c2 b2 ∧ mvB (hi 10 5) (hi 10 6) (cSu hi) (cWt hi) go y p (upC c2) b2 ∧ mvF (hi 10 5) (hi 10 6) (cSu hi) (cWt hi) go (upC c2) ∧ ∀ x, 0 ≤ x → x < hi 10 6 → c2 x ≤ 1000) := by
  induction n with
  | zero =>
    intro r e x3 co by_ h0 hn hI hE
    have hM1 := hM.1
    have hM2 := hM.2.1
    refine a_iload_n (n := 5) dX1_spreadCosts_4 rfl rfl ?_
    refine a_aload_n (n := 6) dX1_spreadCosts_5 rfl rfl ?_
    refine a_getI (n := 9) dX1_spreadCosts_6 rfl fX1_31 (s10 hz) ?_
    try simp only [up2_eq, nH_eq, Nat.reduceEqDiff, Int.reduceEq, Int.reduceNeg, and_true, true_and, and_false, false_and, and_self, if_true, if_false, ite_true, ite_false, reduceIte, eq_self]
    refine a_icmp_ge (t := 60) (n := 12) dX1_spreadCosts_9 rfl rfl (fun c9 => ?_) (fun c9 => ?_)
    · refine a_return dX1_spreadCosts_60 rfl ?_
      exact ⟨rfl, rfl, rfl, rfl, co, by_, rfl, hI.1, hI.fix hC hFF hrk (by omega), hI.2.1⟩
    · omega
  | succ n ih =>
    intro r e x3 co by_ h0 hn hI hE
    have hM1 := hM.1
    have hM2 := hM.2.1
    refine a_iload_n (n := 5) dX1_spreadCosts_4 rfl rfl ?_
    refine a_aload_n (n := 6) dX1_spreadCosts_5 rfl rfl ?_
    refine a_getI (n := 9) dX1_spreadCosts_6 rfl fX1_31 (s10 hz) ?_
    try simp only [up2_eq, nH_eq, Nat.reduceEqDiff, Int.reduceEq, Int.reduceNeg, and_true, true_and, and_false, false_and, and_self, if_true, if_false, ite_true, ite_false, reduceIte, eq_self]
    refine a_icmp_ge (t := 60) (n := 12) dX1_spreadCosts_9 rfl rfl (fun c9 => ?_) (fun c9 => ?_)
    · omega
    · refine a_iload_n (n := 13) dX1_spreadCosts_12 rfl rfl ?_
      refine a_if_eq (t := 60) (n := 16) dX1_spreadCosts_13 rfl rfl (fun c13 => ?_) (fun c13 => ?_)
      · refine a_return dX1_spreadCosts_60 rfl ?_
        exact ⟨rfl, rfl, rfl, rfl, co, by_, rfl, hI.1, hE (by omega), hI.2.1⟩
      · refine a_iconst (n := 17) dX1_spreadCosts_16 rfl ⟨by decide, by decide⟩ ?_
        refine b_istore_n (n := 18) dX1_spreadCosts_17 rfl (by decide) rfl ?_
        refine a_iconst (n := 19) dX1_spreadCosts_18 rfl ⟨by decide, by decide⟩ ?_
        refine b_istore_n (n := 20) dX1_spreadCosts_19 rfl (by decide) rfl ?_
        refine c_sc_20 hz hR hM hC hK hgp hFB hFF hrk hgo (hi 10 5).toNat 0 0 co by_ (by decide) (by omega) ⟨hI, fun b b0 b1 hf _ hne hlt => ?_, Or.inl ⟨rfl, fun q' q0 q1 => by omega⟩⟩ (fun e co by_ hR2 => ?_)
        · exfalso
          obtain ⟨T, u, hFB⟩ := hFB
          have := ((hFB b b0 b1).2.2 hf).2.2.2.1
          omega
        · refine c_sc_54 (by omega) (ih (r + 1) e _ _ _ (by omega) (by omega) (hR2.done hFB) (fun he => ?_))
          rcases hR2.2.2 with k | k
          · exact fun q q0 q1 g0 hf b b0 b1 s => k.2 q q0 q1 g0 hf b b0 b1 s
          · omega
set_option maxRecDepth 100000 in
set_option maxHeartbeats 4000000 in
theorem c_spreadCosts (hz : stZ z) (hR : stR hr) (hM : cMP hi) (hC : mvC (hi 10 5) (hi 10 6) (cSu hi) (cWt hi) go y K) (hK : 0 ≤ K ∧ K ≤ 800) (hgp : go p = -1) (hgo : ∀ q, 0 ≤ q → q < hi 10 5 → 0 ≤ go q ∨ go q = -1) (hB : mvB (hi 10 5) (hi 10 6) (cSu hi) (cWt hi) go y p (upC co) by_) (h1k : ∀ x, 0 ≤ x → x < hi 10 6 → co x ≤ 1000) : a_ct G mX1_spreadCosts (d + 3) [vR 10] z hr (nH hi go rl co by_) hl (fun r z' hr' hi' hl' => z' = z ∧ hr' = hr ∧ hl' = hl ∧ r = none ∧ ∃ c2 b2 : Int → Int, hi' = nH hi go rl c2 b2 ∧ mvB (hi 10 5) (hi 10 6) (cSu hi) (cWt hi) go y p (upC c2) b2 ∧ mvF (hi 10 5) (hi 10 6) (cSu hi) (cWt hi) go (upC c2) ∧ ∀ x, 0 ≤ x → x < hi 10 6 → c2 x ≤ 1000) := by
  have hM1 := hM.1
  have hM2 := hM.2.1
  refine a_ct_of rfl (Nat.le_of_ble_eq_true rfl) ?_
  refine a_iconst (n := 1) dX1_spreadCosts_0 rfl ⟨by decide, by decide⟩ ?_
  refine b_istore_n (n := 2) dX1_spreadCosts_1 rfl (by decide) rfl ?_
  refine a_iconst (n := 3) dX1_spreadCosts_2 rfl ⟨by decide, by decide⟩ ?_
  refine b_istore_n (n := 4) dX1_spreadCosts_3 rfl (by decide) rfl ?_
  obtain ⟨F, bs, hFB, hFF, hle⟩ := mvB_end cWt_01 hC hgp ((sm (hi 10 6).toNat (fun b => upC co b + y b)).toNat + 1) (upC co) by_ (by omega) hB
  obtain ⟨rk, hrk⟩ := mvB_rank hFB
  exact c_sc_4 hz hR hM hC hK hgp hFB hFF hrk hgo (hi 10 6).toNat 0 1 none co by_ (by decide) (by omega) ⟨hB, h1k, fun x _ _ => hle x, fun b _ _ _ k => by omega⟩ (fun e => absurd e (by decide))
end C11
