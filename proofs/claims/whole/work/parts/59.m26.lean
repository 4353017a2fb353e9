section M26
variable {G : aG} {d : Nat} {z : aZ} {hr : aR} {H hl : aI} {go ma co by_ fr y : Int → Int} {p K : Int}
set_option maxRecDepth 100000 in
set_option maxHeartbeats 4000000 in
theorem mo_7 (hz : stZ z) (hR : stR hr) (hP : 0 ≤ H 37 25 ∧ H 37 25 ≤ 40) (hB : 0 ≤ H 37 45 ∧ H 37 45 ≤ 8) {x2 : Option aV} {Q : Option aV → aZ → aR → aI → aI → Prop} (n : Nat) : ∀ (b : Int) (f : Int → Int), 0 ≤ b → b + n = H 37 45 → (∀ x, 0 ≤ x → x < b → f x = 0) → (∀ f : Int → Int, (∀ x, 0 ≤ x → x < H 37 45 → f x = 0) → a_wp G mX10_moves (d + 4) 28 [some (vR 37), some (vI (H 37 45)), x2] [] z hr (mvH H go f co by_ fr) hl Q) → a_wp G mX10_moves (d + 4) 7 [some (vR 37), some (vI b), x2] [] z hr (mvH H go f co by_ fr) hl Q := by
  induction n with
  | zero =>
    intro b f h0 hn hI K
    refine a_iload_n (n := 8) dX10_moves_7 rfl rfl ?_
    refine a_aload_n (n := 9) dX10_moves_8 rfl rfl ?_
    refine a_getI (n := 12) dX10_moves_9 rfl fX10_308 (s37 hz) ?_
    try simp only [up2_eq, mvH_eq, Nat.reduceEqDiff, Int.reduceEq, Int.reduceNeg, and_true, true_and, and_false, false_and, and_self, if_true, if_false, ite_true, ite_false, reduceIte, eq_self]
    refine a_icmp_ge (t := 28) (n := 15) dX10_moves_12 rfl rfl (fun c12 => ?_) (fun c12 => ?_)
    · obtain rfl : b = H 37 45 := by omega
      exact K _ hI
    · omega
  | succ n ih =>
    intro b f h0 hn hI K
    refine a_iload_n (n := 8) dX10_moves_7 rfl rfl ?_
    refine a_aload_n (n := 9) dX10_moves_8 rfl rfl ?_
    refine a_getI (n := 12) dX10_moves_9 rfl fX10_308 (s37 hz) ?_
    try simp only [up2_eq, mvH_eq, Nat.reduceEqDiff, Int.reduceEq, Int.reduceNeg, and_true, true_and, and_false, false_and, and_self, if_true, if_false, ite_true, ite_false, reduceIte, eq_self]
    refine a_icmp_ge (t := 28) (n := 15) dX10_moves_12 rfl rfl (fun c12 => ?_) (fun c12 => ?_)
    · omega
    · refine a_aload_n (n := 16) dX10_moves_15 rfl rfl ?_
      refine a_getR (n := 19) dX10_moves_16 rfl fX10_153 (s37 hz) (r37_50 hR) ?_
      refine a_iload_n (n := 20) dX10_moves_19 rfl rfl ?_
      refine a_iconst (n := 21) dX10_moves_20 rfl ⟨by decide, by decide⟩ ?_
      refine a_iast (n := 22) dX10_moves_21 rfl (s74 hz) (by omega) (by omega) ?_
      try simp only [mvH_75, mvH_76, mvH_77, mvH_73, mvH_74]
      refine b_iinc (n := 25) dX10_moves_22 rfl (by decide) rfl rfl ⟨by omega, by omega⟩ ?_
      refine a_goto (t := 7) dX10_moves_25 rfl ?_
      refine ih (b + 1) _ (by omega) (by omega) (fun x x0 x1 => ?_) K
      by_cases e : x = b
      · rw [e, wU_s]
      · rw [wU_n e]; exact hI x x0 (by omega)
set_option maxRecDepth 100000 in
set_option maxHeartbeats 4000000 in
theorem mo_30 (hz : stZ z) (hR : stR hr) (hP : 0 ≤ H 37 25 ∧ H 37 25 ≤ 40) (hB : 0 ≤ H 37 45 ∧ H 37 45 ≤ 8) {x2 : Option aV} {Q : Option aV → aZ → aR → aI → aI → Prop} (n : Nat) : ∀ (b : Int) (f : Int → Int), 0 ≤ b → b + n = H 37 25 → (∀ x, 0 ≤ x → x < b → f x = -1) → (∀ f : Int → Int, (∀ x, 0 ≤ x → x < H 37 25 → f x = -1) → a_wp G mX10_moves (d + 4) 51 [some (vR 37), some (vI (H 37 25)), x2] [] z hr (mvH H f ma co by_ fr) hl Q) → a_wp G mX10_moves (d + 4) 30 [some (vR 37), some (vI b), x2] [] z hr (mvH H f ma co by_ fr) hl Q := by
  induction n with
  | zero =>
    intro b f h0 hn hI K
    refine a_iload_n (n := 31) dX10_moves_30 rfl rfl ?_
    refine a_aload_n (n := 32) dX10_moves_31 rfl rfl ?_
    refine a_getI (n := 35) dX10_moves_32 rfl fX10_258 (s37 hz) ?_
    try simp only [up2_eq, mvH_eq, Nat.reduceEqDiff, Int.reduceEq, Int.reduceNeg, and_true, true_and, and_false, false_and, and_self, if_true, if_false, ite_true, ite_false, reduceIte, eq_self]
    refine a_icmp_ge (t := 51) (n := 38) dX10_moves_35 rfl rfl (fun c35 => ?_) (fun c35 => ?_)
    · obtain rfl : b = H 37 25 := by omega
      exact K _ hI
    · omega
  | succ n ih =>
    intro b f h0 hn hI K
    refine a_iload_n (n := 31) dX10_moves_30 rfl rfl ?_
    refine a_aload_n (n := 32) dX10_moves_31 rfl rfl ?_
    refine a_getI (n := 35) dX10_moves_32 rfl fX10_258 (s37 hz) ?_
    try simp only [up2_eq, mvH_eq, Nat.reduceEqDiff, Int.reduceEq, Int.reduceNeg, and_true, true_and, and_false, false_and, and_self, if_true, if_false, ite_true, ite_false, reduceIte, eq_self]
    refine a_icmp_ge (t := 51) (n := 38) dX10_moves_35 rfl rfl (fun c35 => ?_) (fun c35 => ?_)
    · omega
    · refine a_aload_n (n := 39) dX10_moves_38 rfl rfl ?_
      refine a_getR (n := 42) dX10_moves_39 rfl fX10_150 (s37 hz) (r37_49 hR) ?_
      refine a_iload_n (n := 43) dX10_moves_42 rfl rfl ?_
      refine a_iconst (n := 44) dX10_moves_43 rfl ⟨by decide, by decide⟩ ?_
      refine a_iast (n := 45) dX10_moves_44 rfl (s73 hz) (by omega) (by omega) ?_
      try simp only [mvH_75, mvH_76, mvH_77, mvH_73, mvH_74]
      refine b_iinc (n := 48) dX10_moves_45 rfl (by decide) rfl rfl ⟨by omega, by omega⟩ ?_
      refine a_goto (t := 30) dX10_moves_48 rfl ?_
      refine ih (b + 1) _ (by omega) (by omega) (fun x x0 x1 => ?_) K
      by_cases e : x = b
      · rw [e, wU_s]
      · rw [wU_n e]; exact hI x x0 (by omega)
/-- what moves comes to -/
def moQ (z : aZ) (hr : aR) (H hl : aI) : Option aV → aZ → aR → aI → aI → Prop := fun r z' hr' hi' hl' => z' = z ∧ hr' = hr ∧ hl' = hl ∧ ∃ v : Int, ∃ go ma co by_ fr : Int → Int, r = some (vI v) ∧ hi' = mvH H go ma co by_ fr ∧ mvAns (H 37 25) (H 37 45) (mS H) (mW H) (H 72) (fun q => 0 ≤ H 59 q) v
def moS (H : aI) (go : Int → Int) (n : Nat) : Int := sm n (fun q => if 0 ≤ go q then mW H q (go q) else 0)
theorem moS_b (n : Nat) : 0 ≤ moS H go n ∧ moS H go n ≤ n := by
  induction n with
  | zero => exact ⟨Int.le_refl 0, Int.le_refl 0⟩
  | succ n ih =>
    have e : moS H go (n + 1) = moS H go n + (if 0 ≤ go n then mW H n (go n) else 0) := rfl
    have := mW_01 (hi := H) n (go n)
    rw [e]
    split <;> omega
set_option maxRecDepth 100000 in
set_option maxHeartbeats 4000000 in
theorem mo_90 (hz : stZ z) (hR : stR hr) (hP : 0 ≤ H 37 25 ∧ H 37 25 ≤ 40) (hB : 0 ≤ H 37 45 ∧ H 37 45 ≤ 8) (hgo : ∀ q, 0 ≤ q → q < H 37 25 → (0 ≤ go q ↔ 0 ≤ H 59 q)) (hA : mvAns (H 37 25) (H 37 45) (mS H) (mW H) (H 72) (fun q => 0 ≤ H 59 q) (moS H go (H 37 25).toNat)) (n : Nat) : ∀ q : Int, 0 ≤ q → q + n = H 37 25 → a_wp G mX10_moves (d + 4) 90 [some (vR 37), some (vI (moS H go q.toNat)), some (vI q)] [] z hr (mvH H go ma co by_ fr) hl (moQ z hr H hl) := by
  induction n with
  | zero =>
    intro q h0 hn
    refine a_iload_n (n := 91) dX10_moves_90 rfl rfl ?_
    refine a_aload_n (n := 92) dX10_moves_91 rfl rfl ?_
    refine a_getI (n := 95) dX10_moves_92 rfl fX10_258 (s37 hz) ?_
    try simp only [up2_eq, mvH_eq, Nat.reduceEqDiff, Int.reduceEq, Int.reduceNeg, and_true, true_and, and_false, false_and, and_self, if_true, if_false, ite_true, ite_false, reduceIte, eq_self]
    refine a_icmp_ge (t := 136) (n := 98) dX10_moves_95 rfl rfl (fun c95 => ?_) (fun c95 => ?_)
    · refine a_iload_n (n := 137) dX10_moves_136 rfl rfl ?_
      refine a_ireturn dX10_moves_137 rfl ?_
      have e : q = H 37 25 := by omega
      rw [e]
      exact ⟨rfl, rfl, rfl, _, go, ma, co, by_, fr, rfl, rfl, hA⟩
    · omega
  | succ n ih =>
    intro q h0 hn
    refine a_iload_n (n := 91) dX10_moves_90 rfl rfl ?_
    refine a_aload_n (n := 92) dX10_moves_91 rfl rfl ?_
    refine a_getI (n := 95) dX10_moves_92 rfl fX10_258 (s37 hz) ?_
    try simp only [up2_eq, mvH_eq, Nat.reduceEqDiff, Int.reduceEq, Int.reduceNeg, and_true, true_and, and_false, false_and, and_self, if_true, if_false, ite_true, ite_false, reduceIte, eq_self]
    refine a_icmp_ge (t := 136) (n := 98) dX10_moves_95 rfl rfl (fun c95 => ?_) (fun c95 => ?_)
    · omega
    · have hiq := hgo q h0 (by omega)
      have hbq := moS_b (H := H) (go := go) q.toNat
      refine a_iload_n (n := 99) dX10_moves_98 rfl rfl ?_
      refine a_aload_n (n := 100) dX10_moves_99 rfl rfl ?_
      refine a_getR (n := 103) dX10_moves_100 rfl fX10_108 (s37 hz) (r37_32 hR) ?_
      refine a_iload_n (n := 104) dX10_moves_103 rfl rfl ?_
      refine a_iald (n := 105) dX10_moves_104 rfl (s59 hz) (by omega) (by omega) ?_
      try simp only [up2_eq, mvH_eq, Nat.reduceEqDiff, Int.reduceEq, Int.reduceNeg, and_true, true_and, and_false, false_and, and_self, if_true, if_false, ite_true, ite_false, reduceIte, eq_self]
      refine a_if_lt (t := 127) (n := 108) dX10_moves_105 rfl rfl (fun c105 => ?_) (fun c105 => ?_)
      · refine a_iconst (n := 128) dX10_moves_127 rfl ⟨by decide, by decide⟩ ?_
        refine a_iadd (n := 129) dX10_moves_128 rfl ⟨by omega, by omega⟩ ?_
        refine b_istore_n (n := 130) dX10_moves_129 rfl (by decide) rfl ?_
        refine b_iinc (n := 133) dX10_moves_130 rfl (by decide) rfl rfl ⟨by omega, by omega⟩ ?_
        refine a_goto (t := 90) dX10_moves_133 rfl ?_
        have e1 : moS H go (q.toNat + 1) = moS H go q.toNat + (if 0 ≤ go (q.toNat : Int) then mW H (q.toNat : Int) (go (q.toNat : Int)) else 0) := rfl
        have e2 : (q.toNat : Int) = q := by omega
        rw [e2] at e1
        have e3 : moS H go (q + 1).toNat = moS H go q.toNat + 0 := by
          rw [show (q + 1).toNat = q.toNat + 1 by omega, e1]
          congr 1
          rw [if_neg (by omega)]
        rw [← e3]
        exact ih (q + 1) (by omega) (by omega)
      · refine a_aload_n (n := 109) dX10_moves_108 rfl rfl ?_
        refine a_getR (n := 112) dX10_moves_109 rfl fX10_150 (s37 hz) (r37_49 hR) ?_
        refine a_iload_n (n := 113) dX10_moves_112 rfl rfl ?_
        refine a_iald (n := 114) dX10_moves_113 rfl (s73 hz) (by omega) (by omega) ?_
        try simp only [up2_eq, mvH_eq, Nat.reduceEqDiff, Int.reduceEq, Int.reduceNeg, and_true, true_and, and_false, false_and, and_self, if_true, if_false, ite_true, ite_false, reduceIte, eq_self]
        refine a_aload_n (n := 115) dX10_moves_114 rfl rfl ?_
        refine a_getR (n := 118) dX10_moves_115 rfl fX10_108 (s37 hz) (r37_32 hR) ?_
        refine a_iload_n (n := 119) dX10_moves_118 rfl rfl ?_
        refine a_iald (n := 120) dX10_moves_119 rfl (s59 hz) (by omega) (by omega) ?_
        try simp only [up2_eq, mvH_eq, Nat.reduceEqDiff, Int.reduceEq, Int.reduceNeg, and_true, true_and, and_false, false_and, and_self, if_true, if_false, ite_true, ite_false, reduceIte, eq_self]
        refine a_icmp_eq (t := 127) (n := 123) dX10_moves_120 rfl rfl (fun c120 => ?_) (fun c120 => ?_)
        · refine a_iconst (n := 128) dX10_moves_127 rfl ⟨by decide, by decide⟩ ?_
          refine a_iadd (n := 129) dX10_moves_128 rfl ⟨by omega, by omega⟩ ?_
          refine b_istore_n (n := 130) dX10_moves_129 rfl (by decide) rfl ?_
          refine b_iinc (n := 133) dX10_moves_130 rfl (by decide) rfl rfl ⟨by omega, by omega⟩ ?_
          refine a_goto (t := 90) dX10_moves_133 rfl ?_
          have e1 : moS H go (q.toNat + 1) = moS H go q.toNat + (if 0 ≤ go (q.toNat : Int) then mW H (q.toNat : Int) (go (q.toNat : Int)) else 0) := rfl
          have e2 : (q.toNat : Int) = q := by omega
          rw [e2] at e1
          have e3 : moS H go (q + 1).toNat = moS H go q.toNat + 0 := by
            rw [show (q + 1).toNat = q.toNat + 1 by omega, e1]
            congr 1
            rw [if_pos (by omega)]; unfold mW; rw [if_pos (by omega)]
          rw [← e3]
          exact ih (q + 1) (by omega) (by omega)
        · refine a_iconst (n := 124) dX10_moves_123 rfl ⟨by decide, by decide⟩ ?_
          refine a_goto (t := 128) dX10_moves_124 rfl ?_
          refine a_iadd (n := 129) dX10_moves_128 rfl ⟨by omega, by omega⟩ ?_
          refine b_istore_n (n := 130) dX10_moves_129 rfl (by decide) rfl ?_
          refine b_iinc (n := 133) dX10_moves_130 rfl (by decide) rfl rfl ⟨by omega, by omega⟩ ?_
          refine a_goto (t := 90) dX10_moves_133 rfl ?_
          have e1 : moS H go (q.toNat + 1) = moS H go q.toNat + (if 0 ≤ go (q.toNat : Int) then mW H (q.toNat : Int) (go (q.toNat : Int)) else 0) := rfl
          have e2 : (q.toNat : Int) = q := by omega
          rw [e2] at e1
          have e3 : moS H go (q + 1).toNat = moS H go q.toNat + 1 := by
            rw [show (q + 1).toNat = q.toNat + 1 by omega, e1]
            congr 1
            rw [if_pos (by omega)]; unfold mW; rw [if_neg (by omega)]
          rw [← e3]
          exact ih (q + 1) (by omega) (by omega)
set_option maxRecDepth 100000 in
set_option maxHeartbeats 4000000 in
theorem mo_88 (hz : stZ z) (hR : stR hr) (hP : 0 ≤ H 37 25 ∧ H 37 25 ≤ 40) (hB : 0 ≤ H 37 45 ∧ H 37 45 ≤ 8) {x : Int} (hI : mI (H 37 25) (H 37 45) (mS H) (mW H) (H 72) (fun q => 0 ≤ H 59 q) (H 37 25) go y K) : a_wp G mX10_moves (d + 4) 88 [some (vR 37), some (vI 0), some (vI x)] [] z hr (mvH H go ma co by_ fr) hl (moQ z hr H hl) := by
  refine a_iconst (n := 89) dX10_moves_88 rfl ⟨by decide, by decide⟩ ?_
  refine b_istore_n (n := 90) dX10_moves_89 rfl (by decide) rfl ?_
  exact mo_90 hz hR hP hB (fun q q0 q1 => (hI.2.2.2.2 q q0 q1).1.trans ⟨fun k => k.2, fun k => ⟨q1, k⟩⟩) (hI.ans hB.1) (H 37 25).toNat 0 (by decide) (by omega)
set_option maxRecDepth 100000 in
set_option maxHeartbeats 4000000 in
theorem mo_55 (hz : stZ z) (hR : stR hr) (hP : 0 ≤ H 37 25 ∧ H 37 25 ≤ 40) (hB : 0 ≤ H 37 45 ∧ H 37 45 ≤ 8) (hrm : ∀ x, 0 ≤ x → x < H 37 45 → H 72 x ≤ 40) (n : Nat) : ∀ (p : Int) (go ma co by_ fr y : Int → Int) (K : Int), 0 ≤ p → p + n = H 37 25 → mI (H 37 25) (H 37 45) (mS H) (mW H) (H 72) (fun q => 0 ≤ H 59 q) p go y K → (∀ x, 0 ≤ x → x < H 37 45 → ma x = ld (H 37 25).toNat go x) → a_wp G mX10_moves (d + 4) 55 [some (vR 37), some (vI 0), some (vI p)] [] z hr (mvH H go ma co by_ fr) hl (moQ z hr H hl) := by
  induction n with
  | zero =>
    intro p go ma co by_ fr y K h0 hn hI hma
    refine a_iload_n (n := 56) dX10_moves_55 rfl rfl ?_
    refine a_aload_n (n := 57) dX10_moves_56 rfl rfl ?_
    refine a_getI (n := 60) dX10_moves_57 rfl fX10_258 (s37 hz) ?_
    try simp only [up2_eq, mvH_eq, Nat.reduceEqDiff, Int.reduceEq, Int.reduceNeg, and_true, true_and, and_false, false_and, and_self, if_true, if_false, ite_true, ite_false, reduceIte, eq_self]
    refine a_icmp_ge (t := 88) (n := 63) dX10_moves_60 rfl rfl (fun c60 => ?_) (fun c60 => ?_)
    · obtain rfl : p = H 37 25 := by omega
      exact mo_88 hz hR hP hB hI
    · omega
  | succ n ih =>
    intro p go ma co by_ fr y K h0 hn hI hma
    refine a_iload_n (n := 56) dX10_moves_55 rfl rfl ?_
    refine a_aload_n (n := 57) dX10_moves_56 rfl rfl ?_
    refine a_getI (n := 60) dX10_moves_57 rfl fX10_258 (s37 hz) ?_
    try simp only [up2_eq, mvH_eq, Nat.reduceEqDiff, Int.reduceEq, Int.reduceNeg, and_true, true_and, and_false, false_and, and_self, if_true, if_false, ite_true, ite_false, reduceIte, eq_self]
    refine a_icmp_ge (t := 88) (n := 63) dX10_moves_60 rfl rfl (fun c60 => ?_) (fun c60 => ?_)
    · omega
    · refine a_aload_n (n := 64) dX10_moves_63 rfl rfl ?_
      refine a_getR (n := 67) dX10_moves_64 rfl fX10_108 (s37 hz) (r37_32 hR) ?_
      refine a_iload_n (n := 68) dX10_moves_67 rfl rfl ?_
      refine a_iald (n := 69) dX10_moves_68 rfl (s59 hz) (by omega) (by omega) ?_
      try simp only [up2_eq, mvH_eq, Nat.reduceEqDiff, Int.reduceEq, Int.reduceNeg, and_true, true_and, and_false, false_and, and_self, if_true, if_false, ite_true, ite_false, reduceIte, eq_self]
      refine a_if_lt (t := 82) (n := 72) dX10_moves_69 rfl rfl (fun c69 => ?_) (fun c69 => ?_)
      · refine b_iinc (n := 85) dX10_moves_82 rfl (by decide) rfl rfl ⟨by omega, by omega⟩ ?_
        refine a_goto (t := 55) dX10_moves_85 rfl ?_
        exact ih (p + 1) go ma co by_ fr y K (by omega) (by omega) (hI.skip (by omega)) hma
      · refine a_aload_n (n := 73) dX10_moves_72 rfl rfl ?_
        refine a_iload_n (n := 74) dX10_moves_73 rfl rfl ?_
        refine a_callV (M2 := mX10_comes) (n := 77) dX10_moves_74 rfl (m_comes (d := d) hz hR hP hB ⟨h0, by omega⟩ (by omega) hI hma hrm) kX10_comes lX10_324 iX10_comes eX10_comes (by decide) (by omega) (s37 hz) rfl (Nat.le_of_ble_eq_true rfl) (fun q74 z74 hr74 hi74 hl74 h74 => ?_)
        obtain ⟨e174, e274, e374, go1, ma1, co1, by1, fr1, rfl, h74⟩ := h74
        obtain rfl := e174.symm
        obtain rfl := e274.symm
        obtain rfl := e374.symm
        rcases h74 with ⟨rfl, hno⟩ | ⟨rfl, ⟨y1, hI1⟩, hma1⟩
        · show a_wp G _ _ _ _ (vI 0 :: _) _ _ _ _ _
          refine a_if_ne (t := 82) (n := 80) dX10_moves_77 rfl rfl (fun c77 => ?_) (fun c77 => ?_)
          · omega
          · refine a_iconst (n := 81) dX10_moves_80 rfl ⟨by decide, by decide⟩ ?_
            refine a_ireturn dX10_moves_81 rfl ?_
            exact ⟨rfl, rfl, rfl, _, _, _, _, _, _, rfl, rfl, Or.inl ⟨rfl, hno⟩⟩
        · show a_wp G _ _ _ _ (vI 1 :: _) _ _ _ _ _
          refine a_if_ne (t := 82) (n := 80) dX10_moves_77 rfl rfl (fun c77 => ?_) (fun c77 => ?_)
          · refine b_iinc (n := 85) dX10_moves_82 rfl (by decide) rfl rfl ⟨by omega, by omega⟩ ?_
            refine a_goto (t := 55) dX10_moves_85 rfl ?_
            exact ih (p + 1) _ _ _ _ _ _ _ (by omega) (by omega) hI1 hma1
          · omega
set_option maxRecDepth 100000 in
set_option maxHeartbeats 4000000 in
theorem mo_51 (hz : stZ z) (hR : stR hr) (hP : 0 ≤ H 37 25 ∧ H 37 25 ≤ 40) (hB : 0 ≤ H 37 45 ∧ H 37 45 ≤ 8) (hrm : ∀ x, 0 ≤ x → x < H 37 45 → H 72 x ≤ 40) (hrm0 : ∀ x, 0 ≤ x → x < H 37 45 → 0 ≤ H 72 x) {x : Int} {x2 : Option aV} (hg : ∀ q, 0 ≤ q → q < H 37 25 → go q = -1) (hm : ∀ x, 0 ≤ x → x < H 37 45 → ma x = 0) : a_wp G mX10_moves (d + 4) 51 [some (vR 37), some (vI x), x2] [] z hr (mvH H go ma co by_ fr) hl (moQ z hr H hl) := by
  refine a_iconst (n := 52) dX10_moves_51 rfl ⟨by decide, by decide⟩ ?_
  refine b_istore_n (n := 53) dX10_moves_52 rfl (by decide) rfl ?_
  refine a_iconst (n := 54) dX10_moves_53 rfl ⟨by decide, by decide⟩ ?_
  refine b_istore_n (n := 55) dX10_moves_54 rfl (by decide) rfl ?_
  have hz0 : ∀ x, 0 ≤ x → ld (H 37 25).toNat go x = 0 := fun x x0 => by
    have e : ld (H 37 25).toNat go x = sm (H 37 25).toNat (fun _ => 0) := sm_eq _ fun q q0 q1 => if_neg (by have := hg q q0 (by omega); omega)
    rw [e, sm_0]
  refine mo_55 hz hR hP hB hrm (H 37 25).toNat 0 go ma co by_ fr (fun _ => 0) 0 (by decide) (by omega) ⟨⟨fun b _ _ => ⟨Int.le_refl 0, Int.le_refl 0⟩, fun q q0 q1 k => ?_⟩, by decide, fun x _ _ k => absurd k (Int.lt_irrefl 0), fun x x0 x1 => ?_, fun q q0 q1 => ⟨⟨fun k => ?_, fun k => ?_⟩, Or.inr (hg q q0 q1)⟩⟩ (fun x x0 x1 => ?_)
  · have := hg q q0 q1; omega
  · rw [hz0 x x0]; exact hrm0 x x0 x1
  · have := hg q q0 q1; omega
  · have := k.1; omega
  · rw [hz0 x x0]; exact hm x x0 x1
set_option maxRecDepth 100000 in
set_option maxHeartbeats 4000000 in
theorem mo_28 (hz : stZ z) (hR : stR hr) (hP : 0 ≤ H 37 25 ∧ H 37 25 ≤ 40) (hB : 0 ≤ H 37 45 ∧ H 37 45 ≤ 8) (hrm : ∀ x, 0 ≤ x → x < H 37 45 → H 72 x ≤ 40) (hrm0 : ∀ x, 0 ≤ x → x < H 37 45 → 0 ≤ H 72 x) {x : Int} {x2 : Option aV} (hm : ∀ x, 0 ≤ x → x < H 37 45 → ma x = 0) : a_wp G mX10_moves (d + 4) 28 [some (vR 37), some (vI x), x2] [] z hr (mvH H go ma co by_ fr) hl (moQ z hr H hl) := by
  refine a_iconst (n := 29) dX10_moves_28 rfl ⟨by decide, by decide⟩ ?_
  refine b_istore_n (n := 30) dX10_moves_29 rfl (by decide) rfl ?_
  exact mo_30 hz hR hP hB (H 37 25).toNat 0 _ (by decide) (by omega) (fun x x0 x1 => by omega) (fun f hf => mo_51 hz hR hP hB hrm hrm0 hf hm)
set_option maxRecDepth 100000 in
set_option maxHeartbeats 4000000 in
theorem m_moves {hi : aI} (hz : stZ z) (hR : stR hr) (hP : 0 ≤ (up2 hi 37 0 0) 37 25 ∧ (up2 hi 37 0 0) 37 25 ≤ 40) (hB : 0 ≤ (up2 hi 37 0 0) 37 45 ∧ (up2 hi 37 0 0) 37 45 ≤ 8) (hrm : ∀ x, 0 ≤ x → x < (up2 hi 37 0 0) 37 45 → (up2 hi 37 0 0) 72 x ≤ 40) (hrm0 : ∀ x, 0 ≤ x → x < (up2 hi 37 0 0) 37 45 → 0 ≤ (up2 hi 37 0 0) 72 x) : a_ct G mX10_moves (d + 4) [vR 37] z hr hi hl (moQ z hr (up2 hi 37 0 0) hl) := by
  refine a_ct_of rfl (Nat.le_of_ble_eq_true rfl) ?_
  refine a_aload_n (n := 1) dX10_moves_0 rfl rfl ?_
  refine a_iconst (n := 2) dX10_moves_1 rfl ⟨by decide, by decide⟩ ?_
  refine a_putI (n := 5) dX10_moves_2 rfl fX10_1 rfl (s37 hz) (Or.inl rfl) ?_
  refine a_iconst (n := 6) dX10_moves_5 rfl ⟨by decide, by decide⟩ ?_
  refine b_istore_n (n := 7) dX10_moves_6 rfl (by decide) rfl ?_
  have K := mo_7 (G := G) (d := d) (z := z) (hr := hr) (hl := hl) (H := up2 hi 37 0 0) (go := (up2 hi 37 0 0) 73) (co := (up2 hi 37 0 0) 75) (by_ := (up2 hi 37 0 0) 76) (fr := (up2 hi 37 0 0) 77) (x2 := none) hz hR hP hB ((up2 hi 37 0 0) 37 45).toNat 0 ((up2 hi 37 0 0) 74) (by decide) (by omega) (fun x x0 x1 => by omega) (fun f hf => mo_28 hz hR hP hB hrm hrm0 hf)
  rw [mvH_0] at K
  exact K
end M26
