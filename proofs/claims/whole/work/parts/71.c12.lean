section C12
variable {G : aG} {d : Nat} {z : aZ} {hr : aR} {hi hl : aI} {go rl co by_ y : Int → Int} {p K : Int}
/-- a plan in which just those of A are *) -/
def mJ (nP nB : Int) (S : Int → Int → Prop) (w : Int → Int → Int) (rm : Int → Int) (A : Int → Prop) (go y : Int → Int) (K : Int) : Prop := mvC nP nB S w go y K ∧ (∀ x, 0 ≤ x → x < nB → 0 < y x → rm x ≤ ld nP.toNat go x) ∧ (∀ x, 0 ≤ x → x < nB → ld nP.toNat go x ≤ rm x) ∧ ∀ q, 0 ≤ q → q < nP → (0 ≤ go q ↔ A q) ∧ (0 ≤ go q ∨ go q = -1)
theorem mJ.no {nP nB : Int} {S : Int → Int → Prop} {w : Int → Int → Int} {rm : Int → Int} {ly A : Int → Prop} (h : mJ nP nB S w rm A go y K) (hp : 0 ≤ p ∧ p < nP) (hA : ¬ A p) (hAl : ∀ q, A q → ly q) (hl : ly p) (hnB : 0 ≤ nB ∧ nB ≤ 8) (hw : ∀ q b, 0 ≤ w q b ∧ w q b ≤ 1) {cost by_ : Int → Int} (hB : mvB nP nB S w go y p cost by_) (hF : mvF nP nB S w go cost) (hfull : ∀ x, 0 ≤ x → x < nB → cost x < 1000000 → rm x ≤ ld nP.toNat go x) : ∀ k, ¬ mvP nP nB S rm ly k := fun k hk => by
  have hgp : go p = -1 := by
    obtain ⟨k1, k2⟩ := h.2.2.2 p hp.1 hp.2
    rcases k2 with k2 | k2
    · exact absurd (k1.mp k2) hA
    · exact k2
  refine mv_none hp hgp h.1 hB hF hw hfull (fun q q0 q1 hq => ?_) (fun q q0 q1 => (hk.1 q q0 q1).2.1) hk.2 hnB (fun q q0 q1 => ?_)
  · have hlq : ly q := by
      rcases hq with hq | hq
      · exact hAl q ((h.2.2.2 q q0 q1).1.mp hq)
      · rw [hq]; exact hl
    have k2 := (hk.1 q q0 q1).1.mpr hlq
    exact ⟨k2, (hk.1 q q0 q1).2.2 k2⟩
  · rcases (h.2.2.2 q q0 q1).2 with k2 | k2
    · exact (h.1.2 q q0 q1 k2).1
    · omega
theorem mJ.yes {nP nB : Int} {S : Int → Int → Prop} {w : Int → Int → Int} {rm : Int → Int} {A : Int → Prop} (h : mJ nP nB S w rm A go y K) (hp : 0 ≤ p ∧ p < nP) (hgp : go p = -1) (hnB : 0 ≤ nB ∧ nB ≤ 8) (hw : ∀ q b, 0 ≤ w q b ∧ w q b ≤ 1) {cost by_ : Int → Int} (hB : mvB nP nB S w go y p cost by_) (hF : mvF nP nB S w go cost) {best : Int} (hb : 0 ≤ best ∧ best < nB) (hbf : cost best < 1000000) (hbr : ld nP.toNat go best < rm best) (hmin : ∀ x, 0 ≤ x → x < nB → ld nP.toNat go x < rm x → cost best ≤ cost x) {n : Nat} (hn : nB ≤ n) :
    mJ nP nB S w rm (fun q => A q ∨ q = p) (aug by_ go n best go) (yN y cost (cost best)) (K + 8) ∧ ∀ x, 0 ≤ x → ld nP.toNat (aug by_ go n best go) x = ld nP.toNat go x + (if x = best then 1 else 0) := by
  obtain ⟨h1, h3, h4, h5⟩ := h
  obtain ⟨a1, a2, a3, a4⟩ := mv_in hw hnB.2 h1 hp hgp hB hF h3 h4 hb hbf hbr hmin hn
  refine ⟨⟨a1, a3, a4, fun q q0 q1 => ⟨?_, ?_⟩⟩, a2.2.2.2⟩
  · by_cases e : q = p
    · rw [e]; exact ⟨fun _ => Or.inr rfl, fun _ => a2.2.2.1⟩
    · exact (a2.2.1 q q0 q1 e).trans ((h5 q q0 q1).1.trans ⟨Or.inl, fun k => k.elim id (fun k => absurd k e)⟩)
  · rcases aug_or n best go (by_ := by_) (g0 := go) (q := q) with k | k
    · exact Or.inl k
    · rw [k]; exact (h5 q q0 q1).2
/-- the best BED with room among the first n *) -/
def dB (rl co : Int → Int) (n t : Int) : Prop := (t = -1 ∧ ∀ x, 0 ≤ x → x < n → ¬ (0 < rl x ∧ co x < 1000)) ∨ (0 ≤ t ∧ t < n ∧ 0 < rl t ∧ co t < 1000 ∧ ∀ x, 0 ≤ x → x < n → 0 < rl x → co x < 1000 → co t ≤ co x)
theorem dB.no {n t : Int} (h : dB rl co n t) (k : ¬ (0 < rl n ∧ co n < 1000 ∧ (t = -1 ∨ co n < co t))) : dB rl co (n + 1) t := by
  rcases h with ⟨h1, h2⟩ | ⟨h1, h2, h3, h4, h5⟩
  · refine Or.inl ⟨h1, fun x x0 x1 => ?_⟩
    by_cases e : x = n
    · subst e; omega
    · exact h2 x x0 (by omega)
  · refine Or.inr ⟨h1, by omega, h3, h4, fun x x0 x1 k1 k2 => ?_⟩
    by_cases e : x = n
    · subst e; omega
    · exact h5 x x0 (by omega) k1 k2
theorem dB.yes {n t : Int} (h0 : 0 ≤ n) (h : dB rl co n t) (k : 0 < rl n ∧ co n < 1000 ∧ (t = -1 ∨ co n < co t)) : dB rl co (n + 1) n := by
  refine Or.inr ⟨h0, by omega, k.1, k.2.1, fun x x0 x1 k1 k2 => ?_⟩
  by_cases e : x = n
  · rw [e]; exact Int.le_refl _
  · rcases h with ⟨h1, h2⟩ | ⟨h1, h2, h3, h4, h5⟩
    · exact absurd ⟨k1, k2⟩ (h2 x x0 (by omega))
    · have := h5 x x0 (by omega) k1 k2
      omega
set_option maxRecDepth 100000 in
set_option maxHeartbeats 4000000 in
theorem c_ch_4 (hz : stZ z) (hR : stR hr) (hM : cMP hi) (n : Nat) : ∀ b t : Int, 0 ≤ b → b + n = hi 10 6 → dB rl co b t → a_wp G mX1_cheapestWithRoom d 4 [some (vR 10), some (vI t), some (vI b)] [] z hr (nH hi go rl co by_) hl (Qs z hr (nH hi go rl co by_) hl (fun r => ∃ t, r = some (vI t) ∧ dB rl co (hi 10 6) t)) := by
  induction n with
  | zero =>
    intro b t h0 hn hI
    have hM2 := hM.2.1
    refine a_iload_n (n := 5) dX1_cheapestWithRoom_4 rfl rfl ?_
    refine a_aload_n (n := 6) dX1_cheapestWithRoom_5 rfl rfl ?_
    refine a_getI (n := 9) dX1_cheapestWithRoom_6 rfl fX1_31 (s10 hz) ?_
    try simp only [up2_eq, nH_eq, Nat.reduceEqDiff, Int.reduceEq, Int.reduceNeg, and_true, true_and, and_false, false_and, and_self, if_true, if_false, ite_true, ite_false, reduceIte, eq_self]
    refine a_icmp_ge (t := 61) (n := 12) dX1_cheapestWithRoom_9 rfl rfl (fun c9 => ?_) (fun c9 => ?_)
    · refine a_iload_n (n := 62) dX1_cheapestWithRoom_61 rfl rfl ?_
      refine a_ireturn dX1_cheapestWithRoom_62 rfl ?_
      obtain rfl : b = hi 10 6 := by omega
      exact ⟨rfl, rfl, rfl, rfl, t, rfl, hI⟩
    · omega
  | succ n ih =>
    intro b t h0 hn hI
    have hM2 := hM.2.1
    refine a_iload_n (n := 5) dX1_cheapestWithRoom_4 rfl rfl ?_
    refine a_aload_n (n := 6) dX1_cheapestWithRoom_5 rfl rfl ?_
    refine a_getI (n := 9) dX1_cheapestWithRoom_6 rfl fX1_31 (s10 hz) ?_
    try simp only [up2_eq, nH_eq, Nat.reduceEqDiff, Int.reduceEq, Int.reduceNeg, and_true, true_and, and_false, false_and, and_self, if_true, if_false, ite_true, ite_false, reduceIte, eq_self]
    refine a_icmp_ge (t := 61) (n := 12) dX1_cheapestWithRoom_9 rfl rfl (fun c9 => ?_) (fun c9 => ?_)
    · omega
    · refine a_aload_n (n := 13) dX1_cheapestWithRoom_12 rfl rfl ?_
      refine a_getR (n := 16) dX1_cheapestWithRoom_13 rfl fX1_18 (s10 hz) (r10_2 hR) ?_
      refine a_iload_n (n := 17) dX1_cheapestWithRoom_16 rfl rfl ?_
      refine a_iald (n := 18) dX1_cheapestWithRoom_17 rfl (s12 hz) (by omega) (by omega) ?_
      try simp only [up2_eq, nH_eq, Nat.reduceEqDiff, Int.reduceEq, Int.reduceNeg, and_true, true_and, and_false, false_and, and_self, if_true, if_false, ite_true, ite_false, reduceIte, eq_self]
      refine a_if_le (t := 55) (n := 21) dX1_cheapestWithRoom_18 rfl rfl (fun c18 => ?_) (fun c18 => ?_)
      · refine b_iinc (n := 58) dX1_cheapestWithRoom_55 rfl (by decide) rfl rfl ⟨by omega, by omega⟩ ?_
        refine a_goto (t := 4) dX1_cheapestWithRoom_58 rfl ?_
        exact ih (b + 1) t (by omega) (by omega) (hI.no (by omega))
      · refine a_aload_n (n := 22) dX1_cheapestWithRoom_21 rfl rfl ?_
        refine a_getR (n := 25) dX1_cheapestWithRoom_22 rfl fX1_21 (s10 hz) (r10_3 hR) ?_
        refine a_iload_n (n := 26) dX1_cheapestWithRoom_25 rfl rfl ?_
        refine a_iald (n := 27) dX1_cheapestWithRoom_26 rfl (s13 hz) (by omega) (by omega) ?_
        try simp only [up2_eq, nH_eq, Nat.reduceEqDiff, Int.reduceEq, Int.reduceNeg, and_true, true_and, and_false, false_and, and_self, if_true, if_false, ite_true, ite_false, reduceIte, eq_self]
        refine a_sipush (n := 30) dX1_cheapestWithRoom_27 rfl ⟨by decide, by decide⟩ (by decide) ?_
        refine a_icmp_ge (t := 55) (n := 33) dX1_cheapestWithRoom_30 rfl rfl (fun c30 => ?_) (fun c30 => ?_)
        · refine b_iinc (n := 58) dX1_cheapestWithRoom_55 rfl (by decide) rfl rfl ⟨by omega, by omega⟩ ?_
          refine a_goto (t := 4) dX1_cheapestWithRoom_58 rfl ?_
          exact ih (b + 1) t (by omega) (by omega) (hI.no (by omega))
        · refine a_iload_n (n := 34) dX1_cheapestWithRoom_33 rfl rfl ?_
          refine a_iconst (n := 35) dX1_cheapestWithRoom_34 rfl ⟨by decide, by decide⟩ ?_
          refine a_icmp_eq (t := 53) (n := 38) dX1_cheapestWithRoom_35 rfl rfl (fun c35 => ?_) (fun c35 => ?_)
          · refine a_iload_n (n := 54) dX1_cheapestWithRoom_53 rfl rfl ?_
            refine b_istore_n (n := 55) dX1_cheapestWithRoom_54 rfl (by decide) rfl ?_
            refine b_iinc (n := 58) dX1_cheapestWithRoom_55 rfl (by decide) rfl rfl ⟨by omega, by omega⟩ ?_
            refine a_goto (t := 4) dX1_cheapestWithRoom_58 rfl ?_
            exact ih (b + 1) b (by omega) (by omega) (hI.yes h0 ⟨by omega, by omega, by omega⟩)
          · have htb : 0 ≤ t ∧ t < b := by rcases hI with k | k; omega; exact ⟨k.1, k.2.1⟩
            refine a_aload_n (n := 39) dX1_cheapestWithRoom_38 rfl rfl ?_
            refine a_getR (n := 42) dX1_cheapestWithRoom_39 rfl fX1_21 (s10 hz) (r10_3 hR) ?_
            refine a_iload_n (n := 43) dX1_cheapestWithRoom_42 rfl rfl ?_
            refine a_iald (n := 44) dX1_cheapestWithRoom_43 rfl (s13 hz) (by omega) (by omega) ?_
            try simp only [up2_eq, nH_eq, Nat.reduceEqDiff, Int.reduceEq, Int.reduceNeg, and_true, true_and, and_false, false_and, and_self, if_true, if_false, ite_true, ite_false, reduceIte, eq_self]
            refine a_aload_n (n := 45) dX1_cheapestWithRoom_44 rfl rfl ?_
            refine a_getR (n := 48) dX1_cheapestWithRoom_45 rfl fX1_21 (s10 hz) (r10_3 hR) ?_
            refine a_iload_n (n := 49) dX1_cheapestWithRoom_48 rfl rfl ?_
            refine a_iald (n := 50) dX1_cheapestWithRoom_49 rfl (s13 hz) (by omega) (by omega) ?_
            try simp only [up2_eq, nH_eq, Nat.reduceEqDiff, Int.reduceEq, Int.reduceNeg, and_true, true_and, and_false, false_and, and_self, if_true, if_false, ite_true, ite_false, reduceIte, eq_self]
            refine a_icmp_ge (t := 55) (n := 53) dX1_cheapestWithRoom_50 rfl rfl (fun c50 => ?_) (fun c50 => ?_)
            · refine b_iinc (n := 58) dX1_cheapestWithRoom_55 rfl (by decide) rfl rfl ⟨by omega, by omega⟩ ?_
              refine a_goto (t := 4) dX1_cheapestWithRoom_58 rfl ?_
              exact ih (b + 1) t (by omega) (by omega) (hI.no (by omega))
            · refine a_iload_n (n := 54) dX1_cheapestWithRoom_53 rfl rfl ?_
              refine b_istore_n (n := 55) dX1_cheapestWithRoom_54 rfl (by decide) rfl ?_
              refine b_iinc (n := 58) dX1_cheapestWithRoom_55 rfl (by decide) rfl rfl ⟨by omega, by omega⟩ ?_
              refine a_goto (t := 4) dX1_cheapestWithRoom_58 rfl ?_
              exact ih (b + 1) b (by omega) (by omega) (hI.yes h0 ⟨by omega, by omega, by omega⟩)
set_option maxRecDepth 100000 in
set_option maxHeartbeats 4000000 in
theorem c_cheapest (hz : stZ z) (hR : stR hr) (hM : cMP hi) : a_ct G mX1_cheapestWithRoom (d + 0) [vR 10] z hr (nH hi go rl co by_) hl (Qs z hr (nH hi go rl co by_) hl (fun r => ∃ t, r = some (vI t) ∧ dB rl co (hi 10 6) t)) := by
  have hM2 := hM.2.1
  refine a_ct_of rfl (Nat.le_of_ble_eq_true rfl) ?_
  refine a_iconst (n := 1) dX1_cheapestWithRoom_0 rfl ⟨by decide, by decide⟩ ?_
  refine b_istore_n (n := 2) dX1_cheapestWithRoom_1 rfl (by decide) rfl ?_
  refine a_iconst (n := 3) dX1_cheapestWithRoom_2 rfl ⟨by decide, by decide⟩ ?_
  refine b_istore_n (n := 4) dX1_cheapestWithRoom_3 rfl (by decide) rfl ?_
  exact c_ch_4 hz hR hM (hi 10 6).toNat 0 (-1) (by decide) (by omega) (Or.inl ⟨rfl, fun x x0 x1 => by omega⟩)
set_option maxRecDepth 100000 in
set_option maxHeartbeats 4000000 in
theorem c_sh_e (hz : stZ z) (hR : stR hr) (hM : cMP hi) {la k : Int} {x4 x5 : Option aV} : a_wp G mX1_shiftAlong d 4 [some (vR 10), some (vI la), some (vI (-1)), some (vI k), x4, x5] [] z hr (nH hi go rl co by_) hl (fun r z' hr' hi' hl' => z' = z ∧ hr' = hr ∧ hl' = hl ∧ r = none ∧ hi' = nH hi go rl co by_) := by
  refine a_iload_n (n := 5) dX1_shiftAlong_4 rfl rfl ?_
  refine a_aload_n (n := 6) dX1_shiftAlong_5 rfl rfl ?_
  refine a_getI (n := 9) dX1_shiftAlong_6 rfl fX1_31 (s10 hz) ?_
  try simp only [up2_eq, nH_eq, Nat.reduceEqDiff, Int.reduceEq, Int.reduceNeg, and_true, true_and, and_false, false_and, and_self, if_true, if_false, ite_true, ite_false, reduceIte, eq_self]
  refine a_icmp_ge (t := 51) (n := 12) dX1_shiftAlong_9 rfl rfl (fun c9 => ?_) (fun c9 => ?_)
  · refine a_return dX1_shiftAlong_51 rfl ?_
    exact ⟨rfl, rfl, rfl, rfl, rfl⟩
  · refine a_iload_n (n := 13) dX1_shiftAlong_12 rfl rfl ?_
    refine a_iconst (n := 14) dX1_shiftAlong_13 rfl ⟨by decide, by decide⟩ ?_
    refine a_icmp_eq (t := 51) (n := 17) dX1_shiftAlong_14 rfl rfl (fun c14 => ?_) (fun c14 => ?_)
    · refine a_return dX1_shiftAlong_51 rfl ?_
      exact ⟨rfl, rfl, rfl, rfl, rfl⟩
    · omega
set_option maxRecDepth 100000 in
set_option maxHeartbeats 4000000 in
theorem c_sh_4 (hz : stZ z) (hR : stR hr) (hM : cMP hi) (hgp : go p = -1) (hB : mvB (hi 10 5) (hi 10 6) (cSu hi) (cWt hi) go y p (upC co) by_) {rk : Int → Nat} (hrk : ∀ b, 0 ≤ b → b < hi 10 6 → upC co b < 1000000 → (rk b : Int) < hi 10 6 ∧ (¬ by_ b = p → rk (go (by_ b)) < rk b)) {la : Int} (n : Nat) : ∀ (b k : Int) (h : Int → Int) (x4 x5 : Option aV), 0 ≤ b ∧ b < hi 10 6 → upC co b < 1000000 → 0 ≤ k → k + n = hi 10 6 → rk b < n → (∀ q, 0 ≤ q → q < hi 10 5 → h q = go q ∨ (0 ≤ go q ∧ rk b ≤ rk (go q))) → a_wp G mX1_shiftAlong d 4 [some (vR 10), some (vI la), some (vI b), some (vI k), x4, x5] [] z hr (nH hi h rl co by_) hl (fun r z' hr' hi' hl' => z' = z ∧ hr' = hr ∧ hl' = hl ∧ r = none ∧ hi' = nH hi (aug by_ go n b h) rl co by_) := by
  induction n with
  | zero => intro b k h x4 x5 _ _ _ _ hn; omega
  | succ n ih =>
    intro b k h x4 x5 hb hf h0 hn hr1 hI
    have hM1 := hM.1
    have hM2 := hM.2.1
    rw [aug, if_neg (by omega)]
    have hq : 0 ≤ by_ b ∧ by_ b < hi 10 5 := by
      obtain ⟨T, u, hB⟩ := hB
      have := (hB b hb.1 hb.2).2.2 hf
      exact ⟨this.2.2.2.1, this.2.2.2.2.1⟩
    have hgq : h (by_ b) = go (by_ b) := by
      rcases hI (by_ b) hq.1 hq.2 with k2 | k2
      · exact k2
      · by_cases hbp : by_ b = p
        · rw [hbp, hgp] at k2; omega
        · have := (hrk b hb.1 hb.2 hf).2 hbp; omega
    refine a_iload_n (n := 5) dX1_shiftAlong_4 rfl rfl ?_
    refine a_aload_n (n := 6) dX1_shiftAlong_5 rfl rfl ?_
    refine a_getI (n := 9) dX1_shiftAlong_6 rfl fX1_31 (s10 hz) ?_
    try simp only [up2_eq, nH_eq, Nat.reduceEqDiff, Int.reduceEq, Int.reduceNeg, and_true, true_and, and_false, false_and, and_self, if_true, if_false, ite_true, ite_false, reduceIte, eq_self]
    refine a_icmp_ge (t := 51) (n := 12) dX1_shiftAlong_9 rfl rfl (fun c9 => ?_) (fun c9 => ?_)
    · omega
    · refine a_iload_n (n := 13) dX1_shiftAlong_12 rfl rfl ?_
      refine a_iconst (n := 14) dX1_shiftAlong_13 rfl ⟨by decide, by decide⟩ ?_
      refine a_icmp_eq (t := 51) (n := 17) dX1_shiftAlong_14 rfl rfl (fun c14 => ?_) (fun c14 => ?_)
      · omega
      · refine a_aload_n (n := 18) dX1_shiftAlong_17 rfl rfl ?_
        refine a_getR (n := 21) dX1_shiftAlong_18 rfl fX1_24 (s10 hz) (r10_4 hR) ?_
        refine a_iload_n (n := 22) dX1_shiftAlong_21 rfl rfl ?_
        refine a_iald (n := 23) dX1_shiftAlong_22 rfl (s14 hz) (by omega) (by omega) ?_
        try simp only [up2_eq, nH_eq, Nat.reduceEqDiff, Int.reduceEq, Int.reduceNeg, and_true, true_and, and_false, false_and, and_self, if_true, if_false, ite_true, ite_false, reduceIte, eq_self]
        refine b_istore (n := 25) dX1_shiftAlong_23 rfl (by decide) rfl ?_
        refine a_aload_n (n := 26) dX1_shiftAlong_25 rfl rfl ?_
        refine a_getR (n := 29) dX1_shiftAlong_26 rfl fX1_15 (s10 hz) (r10_1 hR) ?_
        refine a_iload (n := 31) dX1_shiftAlong_29 rfl rfl ?_
        refine a_iald (n := 32) dX1_shiftAlong_31 rfl (s11 hz) (by omega) (by omega) ?_
        try simp only [up2_eq, nH_eq, Nat.reduceEqDiff, Int.reduceEq, Int.reduceNeg, and_true, true_and, and_false, false_and, and_self, if_true, if_false, ite_true, ite_false, reduceIte, eq_self]
        refine b_istore (n := 34) dX1_shiftAlong_32 rfl (by decide) rfl ?_
        refine a_aload_n (n := 35) dX1_shiftAlong_34 rfl rfl ?_
        refine a_getR (n := 38) dX1_shiftAlong_35 rfl fX1_15 (s10 hz) (r10_1 hR) ?_
        refine a_iload (n := 40) dX1_shiftAlong_38 rfl rfl ?_
        refine a_iload_n (n := 41) dX1_shiftAlong_40 rfl rfl ?_
        refine a_iast (n := 42) dX1_shiftAlong_41 rfl (s11 hz) (by omega) (by omega) ?_
        try simp only [nH_13, nH_14, nH_11, nH_12]
        refine a_iload (n := 44) dX1_shiftAlong_42 rfl rfl ?_
        refine b_istore_n (n := 45) dX1_shiftAlong_44 rfl (by decide) rfl ?_
        refine b_iinc (n := 48) dX1_shiftAlong_45 rfl (by decide) rfl rfl ⟨by omega, by omega⟩ ?_
        refine a_goto (t := 4) dX1_shiftAlong_48 rfl ?_
        rw [hgq]
        by_cases hbp : by_ b = p
        · rw [hbp, hgp, aug_neg n (by decide)]
          exact c_sh_e hz hR hM
        · obtain ⟨a1, a2, a3⟩ := mvN hB (D := upC co b + y b) hb hf (Int.le_refl _) hbp
          refine ih (go (by_ b)) (k + 1) _ _ _ a1 a2 (by omega) (by omega) (by have := (hrk b hb.1 hb.2 hf).2 hbp; omega) (fun q q0 q1 => ?_)
          have hr2 := (hrk b hb.1 hb.2 hf).2 hbp
          by_cases e : q = by_ b
          · rw [e]; exact Or.inr ⟨a1.1, Nat.le_refl _⟩
          · rw [wU_n e]
            rcases hI q q0 q1 with k2 | k2
            · exact Or.inl k2
            · exact Or.inr ⟨k2.1, by omega⟩
set_option maxRecDepth 100000 in
set_option maxHeartbeats 4000000 in
theorem c_shift (hz : stZ z) (hR : stR hr) (hM : cMP hi) (hgp : go p = -1) (hB : mvB (hi 10 5) (hi 10 6) (cSu hi) (cWt hi) go y p (upC co) by_) {rk : Int → Nat} (hrk : ∀ b, 0 ≤ b → b < hi 10 6 → upC co b < 1000000 → (rk b : Int) < hi 10 6 ∧ (¬ by_ b = p → rk (go (by_ b)) < rk b)) {b : Int} (hb : 0 ≤ b ∧ b < hi 10 6) (hf : upC co b < 1000000) : a_ct G mX1_shiftAlong (d + 0) [vR 10, vI b] z hr (nH hi go rl co by_) hl (fun r z' hr' hi' hl' => z' = z ∧ hr' = hr ∧ hl' = hl ∧ r = none ∧ hi' = nH hi (aug by_ go (hi 10 6).toNat b go) rl co by_) := by
  refine a_ct_of rfl (Nat.le_of_ble_eq_true rfl) ?_
  refine a_iload_n (n := 1) dX1_shiftAlong_0 rfl rfl ?_
  refine b_istore_n (n := 2) dX1_shiftAlong_1 rfl (by decide) rfl ?_
  refine a_iconst (n := 3) dX1_shiftAlong_2 rfl ⟨by decide, by decide⟩ ?_
  refine b_istore_n (n := 4) dX1_shiftAlong_3 rfl (by decide) rfl ?_
  have hbn := (hrk b hb.1 hb.2 hf).1
  exact c_sh_4 hz hR hM hgp hB hrk (hi 10 6).toNat b 0 go none none hb hf (by decide) (by omega) (by omega) (fun q _ _ => Or.inl rfl)
end C12
