section C9
variable {G : aG} {d : Nat} {z : aZ} {hr : aR} {hi hl : aI}
set_option maxRecDepth 100000 in
set_option maxHeartbeats 4000000 in
theorem c_number_l (hz : stZ z) (hR : stR hr) {f e : Int} (hf : 0 ≤ f) (he : e ≤ 600) (h4 : e - f ≤ 4) (hd : ∀ i, f ≤ i → i < e → 48 ≤ hi 16 i ∧ hi 16 i ≤ 57) (n : Nat) : ∀ i : Int, f ≤ i → i + n = e → a_wp G mX7_numberIn d 5 [some (vR 15), some (vI f), some (vI e), some (vI (vP 10 48 (hi 16) f (i - f).toNat)), some (vI i)] [] z hr hi hl (Qs z hr hi hl (fun r => r = some (vI (vP 10 48 (hi 16) f (e - f).toNat)))) := by
  induction n with
  | zero =>
    intro i h0 hk
    have hv := vP_3 (s := hi 16) (f := f) (i - f).toNat (by omega) (fun j hj => hd (f + j) (by omega) (by omega))
    refine a_iload (n := 7) dX7_numberIn_5 rfl rfl ?_
    refine a_iload_n (n := 8) dX7_numberIn_7 rfl rfl ?_
    refine a_icmp_ge (t := 33) (n := 11) dX7_numberIn_8 rfl rfl (fun c8 => ?_) (fun c8 => ?_)
    · refine a_iload_n (n := 34) dX7_numberIn_33 rfl rfl ?_
      refine a_ireturn dX7_numberIn_34 rfl ?_
      exact ⟨rfl, rfl, rfl, rfl, by rw [show i = e by omega]⟩
    · omega
  | succ n ih =>
    intro i h0 hk
    have hv := vP_3 (s := hi 16) (f := f) (i - f).toNat (by omega) (fun j hj => hd (f + j) (by omega) (by omega))
    refine a_iload (n := 7) dX7_numberIn_5 rfl rfl ?_
    refine a_iload_n (n := 8) dX7_numberIn_7 rfl rfl ?_
    refine a_icmp_ge (t := 33) (n := 11) dX7_numberIn_8 rfl rfl (fun c8 => ?_) (fun c8 => ?_)
    · omega
    · have hdi := hd i (by omega) (by omega)
      refine a_iload_n (n := 12) dX7_numberIn_11 rfl rfl ?_
      refine a_bipush (n := 14) dX7_numberIn_12 rfl ⟨by decide, by decide⟩ (by decide) ?_
      refine a_imul (n := 15) dX7_numberIn_14 rfl ⟨by omega, by omega⟩ ?_
      refine a_aload_n (n := 16) dX7_numberIn_15 rfl rfl ?_
      refine a_getR (n := 19) dX7_numberIn_16 rfl fX7_9 (s15 hz) (r15_0 hR) ?_
      refine a_iload (n := 21) dX7_numberIn_19 rfl rfl ?_
      refine a_iald (n := 22) dX7_numberIn_21 rfl (s16 hz) (by omega) (by omega) ?_
      refine a_bipush (n := 24) dX7_numberIn_22 rfl ⟨by decide, by decide⟩ (by decide) ?_
      refine a_isub (n := 25) dX7_numberIn_24 rfl ⟨by omega, by omega⟩ ?_
      refine a_iadd (n := 26) dX7_numberIn_25 rfl ⟨by omega, by omega⟩ ?_
      refine b_istore_n (n := 27) dX7_numberIn_26 rfl (by decide) rfl ?_
      refine b_iinc (n := 30) dX7_numberIn_27 rfl (by decide) rfl rfl ⟨by omega, by omega⟩ ?_
      refine a_goto (t := 5) dX7_numberIn_30 rfl ?_
      have e := ih (i + 1) (by omega) (by omega)
      rw [show (i + 1 - f).toNat = (i - f).toNat + 1 by omega, vP, show f + ((i - f).toNat : Int) = i by omega, Int.mul_comm] at e
      exact e
set_option maxRecDepth 100000 in
set_option maxHeartbeats 4000000 in
theorem c_number (hz : stZ z) (hR : stR hr) {f e : Int} (hf : 0 ≤ f) (hfe : f ≤ e) (he : e ≤ 600) (h4 : e - f ≤ 4) (hd : ∀ i, f ≤ i → i < e → 48 ≤ hi 16 i ∧ hi 16 i ≤ 57) : a_ct G mX7_numberIn (d + 0) [vR 15, vI f, vI e] z hr hi hl (Qs z hr hi hl (fun r => r = some (vI (vP 10 48 (hi 16) f (e - f).toNat)))) := by
  refine a_ct_of rfl (Nat.le_of_ble_eq_true rfl) ?_
  refine a_iconst (n := 1) dX7_numberIn_0 rfl ⟨by decide, by decide⟩ ?_
  refine b_istore_n (n := 2) dX7_numberIn_1 rfl (by decide) rfl ?_
  refine a_iload_n (n := 3) dX7_numberIn_2 rfl rfl ?_
  refine b_istore (n := 5) dX7_numberIn_3 rfl (by decide) rfl ?_
  have e1 := c_number_l (G := G) (d := d + 0) (z := z) (hr := hr) (hi := hi) (hl := hl) (f := f) (e := e) hz hR hf he h4 hd (e - f).toNat f (by omega) (by omega)
  rw [show (f - f).toNat = 0 by omega] at e1
  exact e1
set_option maxRecDepth 100000 in
set_option maxHeartbeats 4000000 in
theorem c_add (hz : stZ z) (hR : stR hr) {k s n : Int} (hl6 : 0 ≤ hi 18 3 ∧ hi 18 3 < 601) : a_ct G mX8_add (d + 0) [vR 18, vI k, vI s, vI n] z hr hi hl (fun r z' hr' hi' hl' => z' = z ∧ hr' = hr ∧ hl' = hl ∧ r = none ∧ hi' = up2 (up2 (up2 (up2 hi 19 (hi 18 3) k) 20 (hi 18 3) s) 21 (hi 18 3) n) 18 3 (hi 18 3 + 1)) := by
  refine a_ct_of rfl (Nat.le_of_ble_eq_true rfl) ?_
  refine a_aload_n (n := 1) dX8_add_0 rfl rfl ?_
  refine a_getI (n := 4) dX8_add_1 rfl fX8_21 (s18 hz) ?_
  refine a_sipush (n := 7) dX8_add_4 rfl ⟨by decide, by decide⟩ (by decide) ?_
  refine a_icmp_ge (t := 50) (n := 10) dX8_add_7 rfl rfl (fun c7 => ?_) (fun c7 => ?_)
  · omega
  · refine a_aload_n (n := 11) dX8_add_10 rfl rfl ?_
    refine a_getR (n := 14) dX8_add_11 rfl fX8_11 (s18 hz) (r18_0 hR) ?_
    refine a_aload_n (n := 15) dX8_add_14 rfl rfl ?_
    refine a_getI (n := 18) dX8_add_15 rfl fX8_21 (s18 hz) ?_
    refine a_iload_n (n := 19) dX8_add_18 rfl rfl ?_
    refine a_iast (n := 20) dX8_add_19 rfl (s19 hz) (by omega) (by omega) ?_
    refine a_aload_n (n := 21) dX8_add_20 rfl rfl ?_
    refine a_getR (n := 24) dX8_add_21 rfl fX8_15 (s18 hz) (r18_1 hR) ?_
    refine a_aload_n (n := 25) dX8_add_24 rfl rfl ?_
    refine a_getI (n := 28) dX8_add_25 rfl fX8_21 (s18 hz) ?_
    try simp only [up2_eq, Nat.reduceEqDiff, Int.reduceEq, Int.reduceNeg, and_true, true_and, and_false, false_and, and_self, if_true, if_false, ite_true, ite_false, reduceIte, eq_self]
    refine a_iload_n (n := 29) dX8_add_28 rfl rfl ?_
    refine a_iast (n := 30) dX8_add_29 rfl (s20 hz) (by omega) (by omega) ?_
    refine a_aload_n (n := 31) dX8_add_30 rfl rfl ?_
    refine a_getR (n := 34) dX8_add_31 rfl fX8_18 (s18 hz) (r18_2 hR) ?_
    refine a_aload_n (n := 35) dX8_add_34 rfl rfl ?_
    refine a_getI (n := 38) dX8_add_35 rfl fX8_21 (s18 hz) ?_
    try simp only [up2_eq, Nat.reduceEqDiff, Int.reduceEq, Int.reduceNeg, and_true, true_and, and_false, false_and, and_self, if_true, if_false, ite_true, ite_false, reduceIte, eq_self]
    refine a_iload_n (n := 39) dX8_add_38 rfl rfl ?_
    refine a_iast (n := 40) dX8_add_39 rfl (s21 hz) (by omega) (by omega) ?_
    refine a_aload_n (n := 41) dX8_add_40 rfl rfl ?_
    refine a_dup (n := 42) dX8_add_41 rfl rfl ?_
    refine a_getI (n := 45) dX8_add_42 rfl fX8_21 (s18 hz) ?_
    try simp only [up2_eq, Nat.reduceEqDiff, Int.reduceEq, Int.reduceNeg, and_true, true_and, and_false, false_and, and_self, if_true, if_false, ite_true, ite_false, reduceIte, eq_self]
    refine a_iconst (n := 46) dX8_add_45 rfl ⟨by decide, by decide⟩ ?_
    refine a_iadd (n := 47) dX8_add_46 rfl ⟨by omega, by omega⟩ ?_
    refine a_putI (n := 50) dX8_add_47 rfl fX8_21 rfl (s18 hz) (Or.inl rfl) ?_
    refine a_return dX8_add_50 rfl ?_
    exact ⟨rfl, rfl, rfl, rfl, rfl⟩
def kSg (s : Int) : Int := if s = 40 then 8 else if s = 41 then 9 else if s = 43 then 12 else if s = 45 then 13 else if s = 59 then 15 else if s = 60 then 10 else if s = 61 then 11 else 20
set_option maxRecDepth 100000 in
set_option maxHeartbeats 4000000 in
theorem c_sign {s : Int} : a_ct G mX8_kindOfSign (d + 0) [vI s] z hr hi hl (Qs z hr hi hl (fun r => r = some (vI (kSg s)))) := by
  refine a_ct_of rfl (Nat.le_of_ble_eq_true rfl) ?_
  refine a_iload_n (n := 1) dX8_kindOfSign_0 rfl rfl ?_
  by_cases hw1 : s < 40 ∨ 61 < s
  · refine a_tableOut (t := 125) dX8_kindOfSign_1 hw1 rfl ?_
    refine a_bipush (n := 127) dX8_kindOfSign_125 rfl ⟨by decide, by decide⟩ (by decide) ?_
    refine a_ireturn dX8_kindOfSign_127 rfl ?_
    refine ⟨rfl, rfl, rfl, rfl, ?_⟩
    unfold kSg
    rw [if_neg (by omega), if_neg (by omega), if_neg (by omega), if_neg (by omega), if_neg (by omega), if_neg (by omega), if_neg (by omega)]
  · have hx1 : s = 40 ∨ s = 41 ∨ s = 42 ∨ s = 43 ∨ s = 44 ∨ s = 45 ∨ s = 46 ∨ s = 47 ∨ s = 48 ∨ s = 49 ∨ s = 50 ∨ s = 51 ∨ s = 52 ∨ s = 53 ∨ s = 54 ∨ s = 55 ∨ s = 56 ∨ s = 57 ∨ s = 58 ∨ s = 59 ∨ s = 60 ∨ s = 61 := by omega
    rcases hx1 with rfl | rfl | rfl | rfl | rfl | rfl | rfl | rfl | rfl | rfl | rfl | rfl | rfl | rfl | rfl | rfl | rfl | rfl | rfl | rfl | rfl | rfl
    · refine a_tableIn (off := 103) (t := 104) dX8_kindOfSign_1 (by decide) (by decide) rfl rfl ?_
      refine a_bipush (n := 106) dX8_kindOfSign_104 rfl ⟨by decide, by decide⟩ (by decide) ?_
      refine a_ireturn dX8_kindOfSign_106 rfl ?_
      exact ⟨rfl, rfl, rfl, rfl, rfl⟩
    · refine a_tableIn (off := 106) (t := 107) dX8_kindOfSign_1 (by decide) (by decide) rfl rfl ?_
      refine a_bipush (n := 109) dX8_kindOfSign_107 rfl ⟨by decide, by decide⟩ (by decide) ?_
      refine a_ireturn dX8_kindOfSign_109 rfl ?_
      exact ⟨rfl, rfl, rfl, rfl, rfl⟩
    · refine a_tableIn (off := 124) (t := 125) dX8_kindOfSign_1 (by decide) (by decide) rfl rfl ?_
      refine a_bipush (n := 127) dX8_kindOfSign_125 rfl ⟨by decide, by decide⟩ (by decide) ?_
      refine a_ireturn dX8_kindOfSign_127 rfl ?_
      exact ⟨rfl, rfl, rfl, rfl, rfl⟩
    · refine a_tableIn (off := 115) (t := 116) dX8_kindOfSign_1 (by decide) (by decide) rfl rfl ?_
      refine a_bipush (n := 118) dX8_kindOfSign_116 rfl ⟨by decide, by decide⟩ (by decide) ?_
      refine a_ireturn dX8_kindOfSign_118 rfl ?_
      exact ⟨rfl, rfl, rfl, rfl, rfl⟩
    · refine a_tableIn (off := 124) (t := 125) dX8_kindOfSign_1 (by decide) (by decide) rfl rfl ?_
      refine a_bipush (n := 127) dX8_kindOfSign_125 rfl ⟨by decide, by decide⟩ (by decide) ?_
      refine a_ireturn dX8_kindOfSign_127 rfl ?_
      exact ⟨rfl, rfl, rfl, rfl, rfl⟩
    · refine a_tableIn (off := 118) (t := 119) dX8_kindOfSign_1 (by decide) (by decide) rfl rfl ?_
      refine a_bipush (n := 121) dX8_kindOfSign_119 rfl ⟨by decide, by decide⟩ (by decide) ?_
      refine a_ireturn dX8_kindOfSign_121 rfl ?_
      exact ⟨rfl, rfl, rfl, rfl, rfl⟩
    · refine a_tableIn (off := 124) (t := 125) dX8_kindOfSign_1 (by decide) (by decide) rfl rfl ?_
      refine a_bipush (n := 127) dX8_kindOfSign_125 rfl ⟨by decide, by decide⟩ (by decide) ?_
      refine a_ireturn dX8_kindOfSign_127 rfl ?_
      exact ⟨rfl, rfl, rfl, rfl, rfl⟩
    · refine a_tableIn (off := 124) (t := 125) dX8_kindOfSign_1 (by decide) (by decide) rfl rfl ?_
      refine a_bipush (n := 127) dX8_kindOfSign_125 rfl ⟨by decide, by decide⟩ (by decide) ?_
      refine a_ireturn dX8_kindOfSign_127 rfl ?_
      exact ⟨rfl, rfl, rfl, rfl, rfl⟩
    · refine a_tableIn (off := 124) (t := 125) dX8_kindOfSign_1 (by decide) (by decide) rfl rfl ?_
      refine a_bipush (n := 127) dX8_kindOfSign_125 rfl ⟨by decide, by decide⟩ (by decide) ?_
      refine a_ireturn dX8_kindOfSign_127 rfl ?_
      exact ⟨rfl, rfl, rfl, rfl, rfl⟩
    · refine a_tableIn (off := 124) (t := 125) dX8_kindOfSign_1 (by decide) (by decide) rfl rfl ?_
      refine a_bipush (n := 127) dX8_kindOfSign_125 rfl ⟨by decide, by decide⟩ (by decide) ?_
      refine a_ireturn dX8_kindOfSign_127 rfl ?_
      exact ⟨rfl, rfl, rfl, rfl, rfl⟩
    · refine a_tableIn (off := 124) (t := 125) dX8_kindOfSign_1 (by decide) (by decide) rfl rfl ?_
      refine a_bipush (n := 127) dX8_kindOfSign_125 rfl ⟨by decide, by decide⟩ (by decide) ?_
      refine a_ireturn dX8_kindOfSign_127 rfl ?_
      exact ⟨rfl, rfl, rfl, rfl, rfl⟩
    · refine a_tableIn (off := 124) (t := 125) dX8_kindOfSign_1 (by decide) (by decide) rfl rfl ?_
      refine a_bipush (n := 127) dX8_kindOfSign_125 rfl ⟨by decide, by decide⟩ (by decide) ?_
      refine a_ireturn dX8_kindOfSign_127 rfl ?_
      exact ⟨rfl, rfl, rfl, rfl, rfl⟩
    · refine a_tableIn (off := 124) (t := 125) dX8_kindOfSign_1 (by decide) (by decide) rfl rfl ?_
      refine a_bipush (n := 127) dX8_kindOfSign_125 rfl ⟨by decide, by decide⟩ (by decide) ?_
      refine a_ireturn dX8_kindOfSign_127 rfl ?_
      exact ⟨rfl, rfl, rfl, rfl, rfl⟩
    · refine a_tableIn (off := 124) (t := 125) dX8_kindOfSign_1 (by decide) (by decide) rfl rfl ?_
      refine a_bipush (n := 127) dX8_kindOfSign_125 rfl ⟨by decide, by decide⟩ (by decide) ?_
      refine a_ireturn dX8_kindOfSign_127 rfl ?_
      exact ⟨rfl, rfl, rfl, rfl, rfl⟩
    · refine a_tableIn (off := 124) (t := 125) dX8_kindOfSign_1 (by decide) (by decide) rfl rfl ?_
      refine a_bipush (n := 127) dX8_kindOfSign_125 rfl ⟨by decide, by decide⟩ (by decide) ?_
      refine a_ireturn dX8_kindOfSign_127 rfl ?_
      exact ⟨rfl, rfl, rfl, rfl, rfl⟩
    · refine a_tableIn (off := 124) (t := 125) dX8_kindOfSign_1 (by decide) (by decide) rfl rfl ?_
      refine a_bipush (n := 127) dX8_kindOfSign_125 rfl ⟨by decide, by decide⟩ (by decide) ?_
      refine a_ireturn dX8_kindOfSign_127 rfl ?_
      exact ⟨rfl, rfl, rfl, rfl, rfl⟩
    · refine a_tableIn (off := 124) (t := 125) dX8_kindOfSign_1 (by decide) (by decide) rfl rfl ?_
      refine a_bipush (n := 127) dX8_kindOfSign_125 rfl ⟨by decide, by decide⟩ (by decide) ?_
      refine a_ireturn dX8_kindOfSign_127 rfl ?_
      exact ⟨rfl, rfl, rfl, rfl, rfl⟩
    · refine a_tableIn (off := 124) (t := 125) dX8_kindOfSign_1 (by decide) (by decide) rfl rfl ?_
      refine a_bipush (n := 127) dX8_kindOfSign_125 rfl ⟨by decide, by decide⟩ (by decide) ?_
      refine a_ireturn dX8_kindOfSign_127 rfl ?_
      exact ⟨rfl, rfl, rfl, rfl, rfl⟩
    · refine a_tableIn (off := 124) (t := 125) dX8_kindOfSign_1 (by decide) (by decide) rfl rfl ?_
      refine a_bipush (n := 127) dX8_kindOfSign_125 rfl ⟨by decide, by decide⟩ (by decide) ?_
      refine a_ireturn dX8_kindOfSign_127 rfl ?_
      exact ⟨rfl, rfl, rfl, rfl, rfl⟩
    · refine a_tableIn (off := 121) (t := 122) dX8_kindOfSign_1 (by decide) (by decide) rfl rfl ?_
      refine a_bipush (n := 124) dX8_kindOfSign_122 rfl ⟨by decide, by decide⟩ (by decide) ?_
      refine a_ireturn dX8_kindOfSign_124 rfl ?_
      exact ⟨rfl, rfl, rfl, rfl, rfl⟩
    · refine a_tableIn (off := 109) (t := 110) dX8_kindOfSign_1 (by decide) (by decide) rfl rfl ?_
      refine a_bipush (n := 112) dX8_kindOfSign_110 rfl ⟨by decide, by decide⟩ (by decide) ?_
      refine a_ireturn dX8_kindOfSign_112 rfl ?_
      exact ⟨rfl, rfl, rfl, rfl, rfl⟩
    · refine a_tableIn (off := 112) (t := 113) dX8_kindOfSign_1 (by decide) (by decide) rfl rfl ?_
      refine a_bipush (n := 115) dX8_kindOfSign_113 rfl ⟨by decide, by decide⟩ (by decide) ?_
      refine a_ireturn dX8_kindOfSign_115 rfl ?_
      exact ⟨rfl, rfl, rfl, rfl, rfl⟩
set_option maxRecDepth 100000 in
set_option maxHeartbeats 4000000 in
theorem c_begins (hz : stZ z) (hR : stR hr) : a_ct G mX4_beginsLine (d + 0) [vR 17] z hr hi hl (Qs z hr hi hl (isB (hi 17 3 = 16 ∨ hi 17 3 = 17))) := by
  refine a_ct_of rfl (Nat.le_of_ble_eq_true rfl) ?_
  refine a_aload_n (n := 1) dX4_beginsLine_0 rfl rfl ?_
  refine a_getI (n := 4) dX4_beginsLine_1 rfl fX4_43 (s17 hz) ?_
  refine a_bipush (n := 6) dX4_beginsLine_4 rfl ⟨by decide, by decide⟩ (by decide) ?_
  refine a_icmp_eq (t := 18) (n := 9) dX4_beginsLine_6 rfl rfl (fun c6 => ?_) (fun c6 => ?_)
  · refine a_iconst (n := 19) dX4_beginsLine_18 rfl ⟨by decide, by decide⟩ ?_
    refine a_goto (t := 23) dX4_beginsLine_19 rfl ?_
    refine a_zreturn dX4_beginsLine_23 rfl (by omega) ?_
    exact ⟨rfl, rfl, rfl, rfl, _, rfl, by omega⟩
  · refine a_aload_n (n := 10) dX4_beginsLine_9 rfl rfl ?_
    refine a_getI (n := 13) dX4_beginsLine_10 rfl fX4_43 (s17 hz) ?_
    refine a_bipush (n := 15) dX4_beginsLine_13 rfl ⟨by decide, by decide⟩ (by decide) ?_
    refine a_icmp_ne (t := 22) (n := 18) dX4_beginsLine_15 rfl rfl (fun c15 => ?_) (fun c15 => ?_)
    · refine a_iconst (n := 23) dX4_beginsLine_22 rfl ⟨by decide, by decide⟩ ?_
      refine a_zreturn dX4_beginsLine_23 rfl (by omega) ?_
      exact ⟨rfl, rfl, rfl, rfl, _, rfl, by omega⟩
    · refine a_iconst (n := 19) dX4_beginsLine_18 rfl ⟨by decide, by decide⟩ ?_
      refine a_goto (t := 23) dX4_beginsLine_19 rfl ?_
      refine a_zreturn dX4_beginsLine_23 rfl (by omega) ?_
      exact ⟨rfl, rfl, rfl, rfl, _, rfl, by omega⟩
/-- the reader goes on *) -/
def cAd (hi : aI) : aI := if hi 17 3 = 19 then hi else up2 (up2 hi 17 2 (hi 17 2 + 1)) 17 3 (hi 19 (hi 17 2 + 1))
set_option maxRecDepth 100000 in
set_option maxHeartbeats 4000000 in
theorem c_advance (hz : stZ z) (hR : stR hr) (ha : 0 ≤ hi 17 2 ∧ hi 17 2 ≤ 600) (he : hi 17 2 = 600 → hi 17 3 = 19) : a_ct G mX4_advance (d + 0) [vR 17] z hr hi hl (fun r z' hr' hi' hl' => z' = z ∧ hr' = hr ∧ hl' = hl ∧ r = none ∧ hi' = cAd hi) := by
  refine a_ct_of rfl (Nat.le_of_ble_eq_true rfl) ?_
  refine a_aload_n (n := 1) dX4_advance_0 rfl rfl ?_
  refine a_getI (n := 4) dX4_advance_1 rfl fX4_43 (s17 hz) ?_
  refine a_bipush (n := 6) dX4_advance_4 rfl ⟨by decide, by decide⟩ (by decide) ?_
  refine a_icmp_eq (t := 47) (n := 9) dX4_advance_6 rfl rfl (fun c6 => ?_) (fun c6 => ?_)
  · refine a_return dX4_advance_47 rfl ?_
    exact ⟨rfl, rfl, rfl, rfl, by unfold cAd; rw [if_pos c6]⟩
  · refine a_aload_n (n := 10) dX4_advance_9 rfl rfl ?_
    refine a_getI (n := 13) dX4_advance_10 rfl fX4_36 (s17 hz) ?_
    refine a_iconst (n := 14) dX4_advance_13 rfl ⟨by decide, by decide⟩ ?_
    refine a_iadd (n := 15) dX4_advance_14 rfl ⟨by omega, by omega⟩ ?_
    refine a_sipush (n := 18) dX4_advance_15 rfl ⟨by decide, by decide⟩ (by decide) ?_
    refine a_icmp_ge (t := 47) (n := 21) dX4_advance_18 rfl rfl (fun c18 => ?_) (fun c18 => ?_)
    · omega
    · refine a_aload_n (n := 22) dX4_advance_21 rfl rfl ?_
      refine a_dup (n := 23) dX4_advance_22 rfl rfl ?_
      refine a_getI (n := 26) dX4_advance_23 rfl fX4_36 (s17 hz) ?_
      refine a_iconst (n := 27) dX4_advance_26 rfl ⟨by decide, by decide⟩ ?_
      refine a_iadd (n := 28) dX4_advance_27 rfl ⟨by omega, by omega⟩ ?_
      refine a_putI (n := 31) dX4_advance_28 rfl fX4_36 rfl (s17 hz) (Or.inl rfl) ?_
      refine a_aload_n (n := 32) dX4_advance_31 rfl rfl ?_
      refine a_aload_n (n := 33) dX4_advance_32 rfl rfl ?_
      refine a_getR (n := 36) dX4_advance_33 rfl fX4_12 (s17 hz) (r17_0 hR) ?_
      refine a_getR (n := 39) dX4_advance_36 rfl fX4_39 (s18 hz) (r18_0 hR) ?_
      refine a_aload_n (n := 40) dX4_advance_39 rfl rfl ?_
      refine a_getI (n := 43) dX4_advance_40 rfl fX4_36 (s17 hz) ?_
      try simp only [up2_eq, Nat.reduceEqDiff, Int.reduceEq, Int.reduceNeg, and_true, true_and, and_false, false_and, and_self, if_true, if_false, ite_true, ite_false, reduceIte, eq_self]
      refine a_iald (n := 44) dX4_advance_43 rfl (s19 hz) (by omega) (by omega) ?_
      try simp only [up2_eq, Nat.reduceEqDiff, Int.reduceEq, Int.reduceNeg, and_true, true_and, and_false, false_and, and_self, if_true, if_false, ite_true, ite_false, reduceIte, eq_self]
      refine a_putI (n := 47) dX4_advance_44 rfl fX4_43 rfl (s17 hz) (Or.inl rfl) ?_
      refine a_return dX4_advance_47 rfl ?_
      exact ⟨rfl, rfl, rfl, rfl, by unfold cAd; rw [if_neg c6]⟩
set_option maxRecDepth 100000 in
set_option maxHeartbeats 4000000 in
theorem c_refuse (hz : stZ z) (hR : stR hr) {k : Int} (hk : 0 ≤ k ∧ k ≤ 5) (ha : 0 ≤ hi 17 2 ∧ hi 17 2 ≤ 600) (hs : 0 ≤ hi 20 (hi 17 2) ∧ hi 20 (hi 17 2) ≤ 600) : a_ct G mX4_refuse (d + 0) [vR 17, vI k] z hr hi hl (fun r z' hr' hi' hl' => z' = z ∧ hr' = hr ∧ hl' = hl ∧ r = some (vI 0) ∧ hi' = up2 hi 17 4 (k + 16 * hi 20 (hi 17 2))) := by
  refine a_ct_of rfl (Nat.le_of_ble_eq_true rfl) ?_
  refine a_aload_n (n := 1) dX4_refuse_0 rfl rfl ?_
  refine a_iload_n (n := 2) dX4_refuse_1 rfl rfl ?_
  refine a_bipush (n := 4) dX4_refuse_2 rfl ⟨by decide, by decide⟩ (by decide) ?_
  refine a_aload_n (n := 5) dX4_refuse_4 rfl rfl ?_
  refine a_getR (n := 8) dX4_refuse_5 rfl fX4_12 (s17 hz) (r17_0 hR) ?_
  refine a_getR (n := 11) dX4_refuse_8 rfl fX4_86 (s18 hz) (r18_1 hR) ?_
  refine a_aload_n (n := 12) dX4_refuse_11 rfl rfl ?_
  refine a_getI (n := 15) dX4_refuse_12 rfl fX4_36 (s17 hz) ?_
  refine a_iald (n := 16) dX4_refuse_15 rfl (s20 hz) (by omega) (by omega) ?_
  refine a_imul (n := 17) dX4_refuse_16 rfl ⟨by omega, by omega⟩ ?_
  refine a_iadd (n := 18) dX4_refuse_17 rfl ⟨by omega, by omega⟩ ?_
  refine a_putI (n := 21) dX4_refuse_18 rfl fX4_32 rfl (s17 hz) (Or.inl rfl) ?_
  refine a_iconst (n := 22) dX4_refuse_21 rfl ⟨by decide, by decide⟩ ?_
  refine a_zreturn dX4_refuse_22 rfl (by omega) ?_
  exact ⟨rfl, rfl, rfl, rfl, rfl⟩
set_option maxRecDepth 100000 in
set_option maxHeartbeats 4000000 in
theorem c_expect (hz : stZ z) (hR : stR hr) {w : Int} (ha : 0 ≤ hi 17 2 ∧ hi 17 2 ≤ 600) (he : hi 17 2 = 600 → hi 17 3 = 19) (hs : 0 ≤ hi 20 (hi 17 2) ∧ hi 20 (hi 17 2) ≤ 600) : a_ct G mX4_expect (d + 1) [vR 17, vI w] z hr hi hl (fun r z' hr' hi' hl' => z' = z ∧ hr' = hr ∧ hl' = hl ∧ (hi 17 3 = w ∧ r = some (vI 1) ∧ hi' = cAd hi ∨ ¬ hi 17 3 = w ∧ r = some (vI 0) ∧ hi' = up2 hi 17 4 (1 + 16 * hi 20 (hi 17 2)))) := by
  refine a_ct_of rfl (Nat.le_of_ble_eq_true rfl) ?_
  refine a_aload_n (n := 1) dX4_expect_0 rfl rfl ?_
  refine a_getI (n := 4) dX4_expect_1 rfl fX4_43 (s17 hz) ?_
  refine a_iload_n (n := 5) dX4_expect_4 rfl rfl ?_
  refine a_icmp_eq (t := 14) (n := 8) dX4_expect_5 rfl rfl (fun c5 => ?_) (fun c5 => ?_)
  · refine a_aload_n (n := 15) dX4_expect_14 rfl rfl ?_
    refine a_callV (M2 := mX4_advance) (n := 18) dX4_expect_15 rfl (c_advance (d := d) hz hR ha he) kX4_advance lX4_57 iX4_advance eX4_advance (by decide) (by omega) (s17 hz) rfl (Nat.le_of_ble_eq_true rfl) (fun q15 z15 hr15 hi15 hl15 h15 => ?_)
    obtain ⟨e115, e215, e315, rfl, rfl⟩ := h15
    obtain rfl := e115.symm
    obtain rfl := e215.symm
    obtain rfl := e315.symm
    show a_wp G _ _ _ _ [] _ _ _ _ _
    refine a_iconst (n := 19) dX4_expect_18 rfl ⟨by decide, by decide⟩ ?_
    refine a_zreturn dX4_expect_19 rfl (by omega) ?_
    exact ⟨rfl, rfl, rfl, Or.inl ⟨c5, rfl, rfl⟩⟩
  · refine a_aload_n (n := 9) dX4_expect_8 rfl rfl ?_
    refine a_iconst (n := 10) dX4_expect_9 rfl ⟨by decide, by decide⟩ ?_
    refine a_callV (M2 := mX4_refuse) (n := 13) dX4_expect_10 rfl (c_refuse (d := d) hz hR (by decide) ha hs) kX4_refuse lX4_53 iX4_refuse eX4_refuse (by decide) (by omega) (s17 hz) rfl (Nat.le_of_ble_eq_true rfl) (fun q10 z10 hr10 hi10 hl10 h10 => ?_)
    obtain ⟨e110, e210, e310, rfl, rfl⟩ := h10
    obtain rfl := e110.symm
    obtain rfl := e210.symm
    obtain rfl := e310.symm
    show a_wp G _ _ _ _ (vI 0 :: _) _ _ _ _ _
    refine a_zreturn dX4_expect_13 rfl (by omega) ?_
    exact ⟨rfl, rfl, rfl, Or.inr ⟨c5, rfl, rfl⟩⟩
end C9
