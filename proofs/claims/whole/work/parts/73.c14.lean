section C14
variable {G : aG} {d : Nat} {z : aZ} {hr : aR} {hi hl : aI} {go rl co by_ y : Int → Int} {p K : Int}
/-- who stays: in its own BED if that suits it *) -/
def stay (hr : aR) (hi : aI) (q g : Int) : Prop := (cly hr hi q ∧ cSu hr hi q (hi (pC hr q) 13) ∧ g = hi (pC hr q) 13) ∨ (¬ (cly hr hi q ∧ cSu hr hi q (hi (pC hr q) 13)) ∧ g = -1)
def lvI (hr : aR) (hi : aI) (q : Int) (go rl : Int → Int) : Prop := (∀ i, 0 ≤ i → i < q → stay hr hi i (go i)) ∧ ∀ x, 0 ≤ x → x < hi 10 7 → rl x = crm hr hi x - ld q.toNat go x
theorem lvI.add {q : Int} {g2 r2 : Int → Int} (hq : 0 ≤ q) (h : lvI hr hi q go rl) (h1 : ∀ x, ¬ x = q → g2 x = go x) (h2 : stay hr hi q (g2 q)) (h3 : ∀ x, 0 ≤ x → x < hi 10 7 → r2 x = rl x - (if g2 q = x then 1 else 0)) : lvI hr hi (q + 1) g2 r2 := by
  refine ⟨fun i i0 i1 => ?_, fun x x0 x1 => ?_⟩
  · by_cases e : i = q
    · rw [e]; exact h2
    · rw [h1 i e]; exact h.1 i i0 (by omega)
  · have e : ld (q + 1).toNat g2 x = ld q.toNat g2 x + (if g2 (q.toNat : Int) = x then 1 else 0) := by rw [show (q + 1).toNat = q.toNat + 1 by omega]; rfl
    have e2 : ld q.toNat g2 x = ld q.toNat go x := sm_eq _ fun i i0 i1 => by rw [h1 i (by omega)]
    rw [show (q.toNat : Int) = q by omega] at e
    rw [e, e2, h3 x x0 x1, h.2 x x0 x1]
    omega
theorem ld_le (n : Nat) {x : Int} : ld n go x ≤ n := (sm_b (fun q => go q = x) n).2
set_option maxRecDepth 100000 in
set_option maxHeartbeats 4000000 in
theorem c_lv_33 (hz : stZ z) (hR : stR hr) (hN : gN G) (hM : cMP z hr hi) (hbed : ∀ q, 0 ≤ q → q < hi 10 6 → hi (pC hr q) 13 = -1 ∨ (0 ≤ hi (pC hr q) 13 ∧ hi (pC hr q) 13 < hi 10 7)) (hrm : ∀ x, 0 ≤ x → x < hi 10 7 → 0 ≤ crm hr hi x ∧ crm hr hi x ≤ 40) (n : Nat) : ∀ (q : Int) (go rl : Int → Int) (x2 : Option aV), 0 ≤ q → q + n = hi 10 6 → lvI hr hi q go rl → a_wp G mX1_leaveWhatSuits (d + 2) 33 [some (vR 10), some (vI q), x2] [] z hr (nH hi go rl co by_) hl (fun r z' hr' hi' hl' => z' = z ∧ hr' = hr ∧ hl' = hl ∧ r = none ∧ ∃ go rl : Int → Int, hi' = nH hi go rl co by_ ∧ lvI hr hi (hi 10 6) go rl) := by
  induction n with
  | zero =>
    intro q go rl x2 h0 hn hI
    have hM1 := hM.1
    have hM2 := hM.2.1
    refine a_iload_n (n := 34) dX1_leaveWhatSuits_33 rfl rfl ?_
    refine a_aload_n (n := 35) dX1_leaveWhatSuits_34 rfl rfl ?_
    refine a_getI (n := 38) dX1_leaveWhatSuits_35 rfl fX1_32 (s10 hz) ?_
    try simp only [up2_eq, nH_eq, Nat.reduceEqDiff, Int.reduceEq, Int.reduceNeg, and_true, true_and, and_false, false_and, and_self, if_true, if_false, ite_true, ite_false, reduceIte, eq_self]
    refine a_icmp_ge (t := 104) (n := 41) dX1_leaveWhatSuits_38 rfl rfl (fun c38 => ?_) (fun c38 => ?_)
    · refine a_return dX1_leaveWhatSuits_104 rfl ?_
      obtain rfl : q = hi 10 6 := by omega
      exact ⟨rfl, rfl, rfl, rfl, go, rl, rfl, hI⟩
    · have hbq := hbed q h0 (by omega)
      omega
  | succ n ih =>
    intro q go rl x2 h0 hn hI
    have hM1 := hM.1
    have hM2 := hM.2.1
    refine a_iload_n (n := 34) dX1_leaveWhatSuits_33 rfl rfl ?_
    refine a_aload_n (n := 35) dX1_leaveWhatSuits_34 rfl rfl ?_
    refine a_getI (n := 38) dX1_leaveWhatSuits_35 rfl fX1_32 (s10 hz) ?_
    try simp only [up2_eq, nH_eq, Nat.reduceEqDiff, Int.reduceEq, Int.reduceNeg, and_true, true_and, and_false, false_and, and_self, if_true, if_false, ite_true, ite_false, reduceIte, eq_self]
    refine a_icmp_ge (t := 104) (n := 41) dX1_leaveWhatSuits_38 rfl rfl (fun c38 => ?_) (fun c38 => ?_)
    · omega
    · have hbq := hbed q h0 (by omega)
      refine a_aload_n (n := 42) dX1_leaveWhatSuits_41 rfl rfl ?_
      refine a_getR (n := 45) dX1_leaveWhatSuits_42 rfl fX1_24 (s10 hz) (r10_0 hR) ?_
      refine a_iload_n (n := 46) dX1_leaveWhatSuits_45 rfl rfl ?_
      refine a_aald (n := 47) dX1_leaveWhatSuits_46 rfl (s1 hz) (by decide) (by omega) (by omega) ?_
      obtain ⟨f1, f2, f3⟩ := hM.2.2.1 q (by omega) (by omega)
      rw [f1]
      refine a_getI (n := 50) dX1_leaveWhatSuits_47 rfl fX1_42 f2 ?_
      rw [nH_p f3]
      refine b_istore_n (n := 51) dX1_leaveWhatSuits_50 rfl (by decide) rfl ?_
      refine a_aload_n (n := 52) dX1_leaveWhatSuits_51 rfl rfl ?_
      refine a_getR (n := 55) dX1_leaveWhatSuits_52 rfl fX1_9 (s10 hz) (r10_2 hR) ?_
      refine a_iload_n (n := 56) dX1_leaveWhatSuits_55 rfl rfl ?_
      refine a_iconst (n := 57) dX1_leaveWhatSuits_56 rfl ⟨by decide, by decide⟩ ?_
      refine a_iast (n := 58) dX1_leaveWhatSuits_57 rfl (s11 hz) (by omega) (by omega) ?_
      try simp only [nH_13, nH_14, nH_11, nH_12]
      refine a_iload_n (n := 59) dX1_leaveWhatSuits_58 rfl rfl ?_
      refine a_iconst (n := 60) dX1_leaveWhatSuits_59 rfl ⟨by decide, by decide⟩ ?_
      refine a_icmp_eq (t := 98) (n := 63) dX1_leaveWhatSuits_60 rfl rfl (fun c60 => ?_) (fun c60 => ?_)
      · try simp only [nH_13, nH_14, nH_11, nH_12]
        refine b_iinc (n := 101) dX1_leaveWhatSuits_98 rfl (by decide) rfl rfl ⟨by omega, by omega⟩ ?_
        refine a_goto (t := 33) dX1_leaveWhatSuits_101 rfl ?_
        refine ih (q + 1) _ _ _ (by omega) (by omega) (hI.add h0 (fun x e => by rw [wU_n e]) (by rw [wU_s]; exact Or.inr ⟨fun k => absurd k.1 (by unfold cly; omega), rfl⟩) (fun x x0 x1 => ?_))
        rw [wU_s, if_neg (by omega)]; omega
      · refine a_aload_n (n := 64) dX1_leaveWhatSuits_63 rfl rfl ?_
        refine a_getR (n := 67) dX1_leaveWhatSuits_64 rfl fX1_24 (s10 hz) (r10_0 hR) ?_
        refine a_iload_n (n := 68) dX1_leaveWhatSuits_67 rfl rfl ?_
        refine a_aald (n := 69) dX1_leaveWhatSuits_68 rfl (s1 hz) (by decide) (by omega) (by omega) ?_
        obtain ⟨f1, f2, f3⟩ := hM.2.2.1 q (by omega) (by omega)
        rw [f1]
        refine a_aload_n (n := 70) dX1_leaveWhatSuits_69 rfl rfl ?_
        refine a_getR (n := 73) dX1_leaveWhatSuits_70 rfl fX1_28 (s10 hz) (r10_1 hR) ?_
        refine a_iload_n (n := 74) dX1_leaveWhatSuits_73 rfl rfl ?_
        refine a_aald (n := 75) dX1_leaveWhatSuits_74 rfl (s2 hz) (by decide) (by omega) (by omega) ?_
        obtain ⟨g1, g2, g3⟩ := hM.2.2.2 (hi (pC hr q) 13) (by omega) (by omega)
        rw [g1]
        refine a_callV (M2 := mX3_suits) (n := 78) dX1_leaveWhatSuits_75 rfl (c_suits (d := d) hN f2 g2) kX3_suits lX1_56 iX3_suits eX3_suits (by decide) (by omega) f2 rfl (Nat.le_of_ble_eq_true rfl) (fun q75 z75 hr75 hi75 hl75 h75 => ?_)
        obtain ⟨e175, e275, e375, e475, b75, rfl, hb75⟩ := h75
        obtain rfl := e175.symm
        obtain rfl := e275.symm
        obtain rfl := e375.symm
        obtain rfl := e475.symm
        simp only [nH_p f3, nH_p g3] at hb75
        replace hb75 : (b75 = 1 ∧ cSu hr hi q (hi (pC hr q) 13)) ∨ (b75 = 0 ∧ ¬ cSu hr hi q (hi (pC hr q) 13)) := hb75
        show a_wp G _ _ _ _ (vI b75 :: _) _ _ _ _ _
        refine a_if_eq (t := 98) (n := 81) dX1_leaveWhatSuits_78 rfl rfl (fun c78 => ?_) (fun c78 => ?_)
        · replace hb75 := isB_f hb75 (by omega)
          try simp only [nH_13, nH_14, nH_11, nH_12]
          refine b_iinc (n := 101) dX1_leaveWhatSuits_98 rfl (by decide) rfl rfl ⟨by omega, by omega⟩ ?_
          refine a_goto (t := 33) dX1_leaveWhatSuits_101 rfl ?_
          refine ih (q + 1) _ _ _ (by omega) (by omega) (hI.add h0 (fun x e => by rw [wU_n e]) (by rw [wU_s]; exact Or.inr ⟨fun k => hb75 k.2, rfl⟩) (fun x x0 x1 => ?_))
          rw [wU_s, if_neg (by omega)]; omega
        · replace hb75 := isB_t hb75 (by omega)
          refine a_aload_n (n := 82) dX1_leaveWhatSuits_81 rfl rfl ?_
          refine a_getR (n := 85) dX1_leaveWhatSuits_82 rfl fX1_9 (s10 hz) (r10_2 hR) ?_
          refine a_iload_n (n := 86) dX1_leaveWhatSuits_85 rfl rfl ?_
          refine a_iload_n (n := 87) dX1_leaveWhatSuits_86 rfl rfl ?_
          refine a_iast (n := 88) dX1_leaveWhatSuits_87 rfl (s11 hz) (by omega) (by omega) ?_
          try simp only [nH_13, nH_14, nH_11, nH_12]
          refine a_aload_n (n := 89) dX1_leaveWhatSuits_88 rfl rfl ?_
          refine a_getR (n := 92) dX1_leaveWhatSuits_89 rfl fX1_15 (s10 hz) (r10_3 hR) ?_
          have hcq := hrm (hi (pC hr q) 13) (by omega) (by omega)
          have hlq := hI.2 (hi (pC hr q) 13) (by omega) (by omega)
          have hl0 := ld_0 q.toNat (g := go) (x := hi (pC hr q) 13)
          have hl1 := ld_le (go := go) q.toNat (x := hi (pC hr q) 13)
          refine a_iload_n (n := 93) dX1_leaveWhatSuits_92 rfl rfl ?_
          refine a_dup2 (n := 94) dX1_leaveWhatSuits_93 rfl rfl rfl ?_
          refine a_iald (n := 95) dX1_leaveWhatSuits_94 rfl (s12 hz) (by omega) (by omega) ?_
          try simp only [up2_eq, nH_eq, Nat.reduceEqDiff, Int.reduceEq, Int.reduceNeg, and_true, true_and, and_false, false_and, and_self, if_true, if_false, ite_true, ite_false, reduceIte, eq_self]
          refine a_iconst (n := 96) dX1_leaveWhatSuits_95 rfl ⟨by decide, by decide⟩ ?_
          refine a_isub (n := 97) dX1_leaveWhatSuits_96 rfl ⟨by omega, by omega⟩ ?_
          refine a_iast (n := 98) dX1_leaveWhatSuits_97 rfl (s12 hz) (by omega) (by omega) ?_
          try simp only [nH_13, nH_14, nH_11, nH_12]
          refine b_iinc (n := 101) dX1_leaveWhatSuits_98 rfl (by decide) rfl rfl ⟨by omega, by omega⟩ ?_
          refine a_goto (t := 33) dX1_leaveWhatSuits_101 rfl ?_
          refine ih (q + 1) _ _ _ (by omega) (by omega) (hI.add h0 (fun x e => by rw [wU_n e, wU_n e]) (by rw [wU_s]; exact Or.inl ⟨by unfold cly; omega, hb75, rfl⟩) (fun x x0 x1 => ?_))
          rw [wU_s]
          by_cases e : x = hi (pC hr q) 13
          · rw [e, wU_s, if_pos rfl]
          · rw [wU_n e, if_neg (Ne.symm e)]; omega
set_option maxRecDepth 100000 in
set_option maxHeartbeats 4000000 in
theorem c_lv_2 (hz : stZ z) (hR : stR hr) (hN : gN G) (hM : cMP z hr hi) (hbed : ∀ q, 0 ≤ q → q < hi 10 6 → hi (pC hr q) 13 = -1 ∨ (0 ≤ hi (pC hr q) 13 ∧ hi (pC hr q) 13 < hi 10 7)) (hrm : ∀ x, 0 ≤ x → x < hi 10 7 → 0 ≤ crm hr hi x ∧ crm hr hi x ≤ 40) (n : Nat) : ∀ (b : Int) (rl : Int → Int), 0 ≤ b → b + n = hi 10 7 → (∀ x, 0 ≤ x → x < b → rl x = crm hr hi x) → a_wp G mX1_leaveWhatSuits (d + 2) 2 [some (vR 10), some (vI b), none] [] z hr (nH hi go rl co by_) hl (fun r z' hr' hi' hl' => z' = z ∧ hr' = hr ∧ hl' = hl ∧ r = none ∧ ∃ go rl : Int → Int, hi' = nH hi go rl co by_ ∧ lvI hr hi (hi 10 6) go rl) := by
  induction n with
  | zero =>
    intro b rl h0 hn hI
    have hM1 := hM.1
    have hM2 := hM.2.1
    refine a_iload_n (n := 3) dX1_leaveWhatSuits_2 rfl rfl ?_
    refine a_aload_n (n := 4) dX1_leaveWhatSuits_3 rfl rfl ?_
    refine a_getI (n := 7) dX1_leaveWhatSuits_4 rfl fX1_36 (s10 hz) ?_
    try simp only [up2_eq, nH_eq, Nat.reduceEqDiff, Int.reduceEq, Int.reduceNeg, and_true, true_and, and_false, false_and, and_self, if_true, if_false, ite_true, ite_false, reduceIte, eq_self]
    refine a_icmp_ge (t := 31) (n := 10) dX1_leaveWhatSuits_7 rfl rfl (fun c7 => ?_) (fun c7 => ?_)
    · refine a_iconst (n := 32) dX1_leaveWhatSuits_31 rfl ⟨by decide, by decide⟩ ?_
      refine b_istore_n (n := 33) dX1_leaveWhatSuits_32 rfl (by decide) rfl ?_
      exact c_lv_33 hz hR hN hM hbed hrm (hi 10 6).toNat 0 go rl none (by decide) (by omega) ⟨fun i i0 i1 => by omega, fun x x0 x1 => by rw [hI x x0 (by omega)]; show _ = _ - sm 0 _; rw [sm]; omega⟩
    · omega
  | succ n ih =>
    intro b rl h0 hn hI
    have hM1 := hM.1
    have hM2 := hM.2.1
    refine a_iload_n (n := 3) dX1_leaveWhatSuits_2 rfl rfl ?_
    refine a_aload_n (n := 4) dX1_leaveWhatSuits_3 rfl rfl ?_
    refine a_getI (n := 7) dX1_leaveWhatSuits_4 rfl fX1_36 (s10 hz) ?_
    try simp only [up2_eq, nH_eq, Nat.reduceEqDiff, Int.reduceEq, Int.reduceNeg, and_true, true_and, and_false, false_and, and_self, if_true, if_false, ite_true, ite_false, reduceIte, eq_self]
    refine a_icmp_ge (t := 31) (n := 10) dX1_leaveWhatSuits_7 rfl rfl (fun c7 => ?_) (fun c7 => ?_)
    · omega
    · refine a_aload_n (n := 11) dX1_leaveWhatSuits_10 rfl rfl ?_
      refine a_getR (n := 14) dX1_leaveWhatSuits_11 rfl fX1_15 (s10 hz) (r10_3 hR) ?_
      refine a_iload_n (n := 15) dX1_leaveWhatSuits_14 rfl rfl ?_
      refine a_aload_n (n := 16) dX1_leaveWhatSuits_15 rfl rfl ?_
      refine a_getR (n := 19) dX1_leaveWhatSuits_16 rfl fX1_28 (s10 hz) (r10_1 hR) ?_
      refine a_iload_n (n := 20) dX1_leaveWhatSuits_19 rfl rfl ?_
      refine a_aald (n := 21) dX1_leaveWhatSuits_20 rfl (s2 hz) (by decide) (by omega) (by omega) ?_
      obtain ⟨g1, g2, g3⟩ := hM.2.2.2 b (by omega) (by omega)
      rw [g1]
      refine a_getI (n := 24) dX1_leaveWhatSuits_21 rfl fX1_51 g2 ?_
      rw [nH_p g3]
      refine a_iast (n := 25) dX1_leaveWhatSuits_24 rfl (s12 hz) (by omega) (by omega) ?_
      try simp only [nH_13, nH_14, nH_11, nH_12]
      refine b_iinc (n := 28) dX1_leaveWhatSuits_25 rfl (by decide) rfl rfl ⟨by omega, by omega⟩ ?_
      refine a_goto (t := 2) dX1_leaveWhatSuits_28 rfl ?_
      refine ih (b + 1) _ (by omega) (by omega) (fun x x0 x1 => ?_)
      by_cases e : x = b
      · rw [e, wU_s]; rfl
      · rw [wU_n e]; exact hI x x0 (by omega)
set_option maxRecDepth 100000 in
set_option maxHeartbeats 4000000 in
theorem c_leave (hz : stZ z) (hR : stR hr) (hN : gN G) (hM : cMP z hr hi) (hbed : ∀ q, 0 ≤ q → q < hi 10 6 → hi (pC hr q) 13 = -1 ∨ (0 ≤ hi (pC hr q) 13 ∧ hi (pC hr q) 13 < hi 10 7)) (hrm : ∀ x, 0 ≤ x → x < hi 10 7 → 0 ≤ crm hr hi x ∧ crm hr hi x ≤ 40) : a_ct G mX1_leaveWhatSuits (d + 2) [vR 10] z hr (nH hi go rl co by_) hl (fun r z' hr' hi' hl' => z' = z ∧ hr' = hr ∧ hl' = hl ∧ r = none ∧ ∃ go rl : Int → Int, hi' = nH hi go rl co by_ ∧ lvI hr hi (hi 10 6) go rl) := by
  have hM2 := hM.2.1
  refine a_ct_of rfl (Nat.le_of_ble_eq_true rfl) ?_
  refine a_iconst (n := 1) dX1_leaveWhatSuits_0 rfl ⟨by decide, by decide⟩ ?_
  refine b_istore_n (n := 2) dX1_leaveWhatSuits_1 rfl (by decide) rfl ?_
  exact c_lv_2 hz hR hN hM hbed hrm (hi 10 7).toNat 0 rl (by decide) (by omega) (fun x x0 x1 => by omega)
end C14
