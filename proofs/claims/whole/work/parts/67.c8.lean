section C8
variable {G : aG} {d : Nat} {z : aZ} {hr : aR} {hi hl : aI}
set_option maxRecDepth 100000 in
set_option maxHeartbeats 4000000 in
theorem c_per22_l (hz : stZ z) (hR : stR hr) {v t2 : Int} {g : Int → Int} (hL : 0 ≤ hi 22 7 ∧ hi 22 7 ≤ 16) (hlt : ∀ l, 0 ≤ l → l < 16 → hi 26 l = 0 ∨ hi 26 l = 1) (n : Nat) : ∀ (l fr t : Int) (f : Int → Int), 0 ≤ l → l + n = hi 22 7 → cLe (hi 23) (hi 24) (hi 30) (hi 25) (hi 26) n l fr t f = some (v, g, t2) → a_wp G mX5_permit (d + 2) 4 [some (vR 22), some (vR 30), some (vI fr), some (vI l)] [] z hr (vH22 hi f t) hl (fun r z' hr' hi' hl' => z' = z ∧ hr' = hr ∧ hl' = hl ∧ r = some (vI v) ∧ hi' = vH22 hi g t2) := by
  induction n with
  | zero =>
    intro l fr t f h0 hn hrun
    refine a_iload_n (n := 5) dX5_permit_4 rfl rfl ?_
    refine a_aload_n (n := 6) dX5_permit_5 rfl rfl ?_
    refine a_getI (n := 9) dX5_permit_6 rfl fX5_32 (s22 hz) ?_
    try simp only [up2_eq, vH22_eq, Nat.reduceEqDiff, Int.reduceEq, Int.reduceNeg, and_true, true_and, and_false, false_and, and_self, if_true, if_false, ite_true, ite_false, reduceIte, eq_self]
    refine a_icmp_ge (t := 47) (n := 12) dX5_permit_9 rfl rfl (fun c9 => ?_) (fun c9 => ?_)
    · refine a_iconst (n := 48) dX5_permit_47 rfl ⟨by decide, by decide⟩ ?_
      refine a_zreturn dX5_permit_48 rfl (by omega) ?_
      rw [cLe] at hrun
      obtain ⟨rfl, q⟩ := Prod.mk.inj (Option.some.inj hrun)
      obtain ⟨rfl, rfl⟩ := Prod.mk.inj q
      exact ⟨rfl, rfl, rfl, rfl, rfl⟩
    · omega
  | succ n ih =>
    intro l fr t f h0 hn hrun
    rw [cLe] at hrun
    by_cases hfe : fr ≤ hi 25 l
    case neg => rw [if_pos hfe] at hrun; cases hrun
    rw [if_neg (not_not_intro hfe)] at hrun
    cases e : cV (hi 23) (hi 24) (hi 30) (hi 25 l - fr).toNat fr 0 f with
    | none => rw [e] at hrun; cases hrun
    | some y =>
      rw [e] at hrun
      replace hrun : (if y.1 = 0 then cLe (hi 23) (hi 24) (hi 30) (hi 25) (hi 26) n (l + 1) (hi 25 l) y.2.2 y.2.1 else some (hi 26 l, y.2.1, y.2.2)) = some (v, g, t2) := hrun
      refine a_iload_n (n := 5) dX5_permit_4 rfl rfl ?_
      refine a_aload_n (n := 6) dX5_permit_5 rfl rfl ?_
      refine a_getI (n := 9) dX5_permit_6 rfl fX5_32 (s22 hz) ?_
      try simp only [up2_eq, vH22_eq, Nat.reduceEqDiff, Int.reduceEq, Int.reduceNeg, and_true, true_and, and_false, false_and, and_self, if_true, if_false, ite_true, ite_false, reduceIte, eq_self]
      refine a_icmp_ge (t := 47) (n := 12) dX5_permit_9 rfl rfl (fun c9 => ?_) (fun c9 => ?_)
      · omega
      · refine a_aload_n (n := 13) dX5_permit_12 rfl rfl ?_
        refine a_iload_n (n := 14) dX5_permit_13 rfl rfl ?_
        refine a_aload_n (n := 15) dX5_permit_14 rfl rfl ?_
        refine a_getR (n := 18) dX5_permit_15 rfl fX5_18 (s22 hz) (r22_2 hR) ?_
        refine a_iload_n (n := 19) dX5_permit_18 rfl rfl ?_
        refine a_iald (n := 20) dX5_permit_19 rfl (s25 hz) (by omega) (by omega) ?_
        try simp only [up2_eq, vH22_eq, Nat.reduceEqDiff, Int.reduceEq, Int.reduceNeg, and_true, true_and, and_false, false_and, and_self, if_true, if_false, ite_true, ite_false, reduceIte, eq_self]
        refine a_aload_n (n := 21) dX5_permit_20 rfl rfl ?_
        refine a_callV (M2 := mX5_valueOf) (n := 24) dX5_permit_21 rfl (c_val22 (d := d) (v := y.1) (g := y.2.1) (t2 := y.2.2) hz hR hfe e) kX5_valueOf lX5_35 iX5_valueOf eX5_valueOf (by decide) (by omega) (s22 hz) rfl (Nat.le_of_ble_eq_true rfl) (fun q21 z21 hr21 hi21 hl21 h21 => ?_)
        obtain ⟨e121, e221, e321, rfl, rfl⟩ := h21
        obtain rfl := e121.symm
        obtain rfl := e221.symm
        obtain rfl := e321.symm
        show a_wp G _ _ _ _ (vI _ :: _) _ _ _ _ _
        refine a_if_eq (t := 34) (n := 27) dX5_permit_24 rfl rfl (fun c24 => ?_) (fun c24 => ?_)
        · refine a_aload_n (n := 35) dX5_permit_34 rfl rfl ?_
          refine a_getR (n := 38) dX5_permit_35 rfl fX5_18 (s22 hz) (r22_2 hR) ?_
          refine a_iload_n (n := 39) dX5_permit_38 rfl rfl ?_
          refine a_iald (n := 40) dX5_permit_39 rfl (s25 hz) (by omega) (by omega) ?_
          try simp only [up2_eq, vH22_eq, Nat.reduceEqDiff, Int.reduceEq, Int.reduceNeg, and_true, true_and, and_false, false_and, and_self, if_true, if_false, ite_true, ite_false, reduceIte, eq_self]
          refine b_istore_n (n := 41) dX5_permit_40 rfl (by decide) rfl ?_
          refine b_iinc (n := 44) dX5_permit_41 rfl (by decide) rfl rfl ⟨by omega, by omega⟩ ?_
          refine a_goto (t := 4) dX5_permit_44 rfl ?_
          rw [if_pos c24] at hrun
          exact ih (l + 1) _ _ _ (by omega) (by omega) hrun
        · refine a_aload_n (n := 28) dX5_permit_27 rfl rfl ?_
          refine a_getR (n := 31) dX5_permit_28 rfl fX5_21 (s22 hz) (r22_3 hR) ?_
          refine a_iload_n (n := 32) dX5_permit_31 rfl rfl ?_
          refine a_zald (n := 33) dX5_permit_32 rfl (s26 hz) (by omega) (by omega) ?_
          try simp only [up2_eq, vH22_eq, Nat.reduceEqDiff, Int.reduceEq, Int.reduceNeg, and_true, true_and, and_false, false_and, and_self, if_true, if_false, ite_true, ite_false, reduceIte, eq_self]
          have hle := hlt l h0 (by omega)
          refine a_zreturn dX5_permit_33 rfl (by omega) ?_
          rw [if_neg c24] at hrun
          obtain ⟨rfl, q⟩ := Prod.mk.inj (Option.some.inj hrun)
          obtain ⟨rfl, rfl⟩ := Prod.mk.inj q
          exact ⟨rfl, rfl, rfl, rfl, rfl⟩
set_option maxRecDepth 100000 in
set_option maxHeartbeats 4000000 in
theorem c_per22 (hz : stZ z) (hR : stR hr) {v t2 : Int} {g : Int → Int} (hL : 0 ≤ hi 22 7 ∧ hi 22 7 ≤ 16) (hlt : ∀ l, 0 ≤ l → l < 16 → hi 26 l = 0 ∨ hi 26 l = 1) (hrun : cLe (hi 23) (hi 24) (hi 30) (hi 25) (hi 26) (hi 22 7).toNat 0 0 (hi 22 5) (hi 27) = some (v, g, t2)) : a_ct G mX5_permit (d + 2) [vR 22, vR 30] z hr hi hl (fun r z' hr' hi' hl' => z' = z ∧ hr' = hr ∧ hl' = hl ∧ r = some (vI v) ∧ hi' = vH22 hi g t2) := by
  refine a_ct_of rfl (Nat.le_of_ble_eq_true rfl) ?_
  refine a_iconst (n := 1) dX5_permit_0 rfl ⟨by decide, by decide⟩ ?_
  refine b_istore_n (n := 2) dX5_permit_1 rfl (by decide) rfl ?_
  refine a_iconst (n := 3) dX5_permit_2 rfl ⟨by decide, by decide⟩ ?_
  refine b_istore_n (n := 4) dX5_permit_3 rfl (by decide) rfl ?_
  have K := c_per22_l (G := G) (d := d) (z := z) (hr := hr) (hi := hi) (hl := hl) (v := v) (t2 := t2) (g := g) hz hR hL hlt (hi 22 7).toNat 0 0 (hi 22 5) (hi 27) (by decide) (by omega) hrun
  rw [vH22_0] at K
  exact K
set_option maxRecDepth 100000 in
set_option maxHeartbeats 4000000 in
theorem c_per31_l (hz : stZ z) (hR : stR hr) {v t2 : Int} {g : Int → Int} (hL : 0 ≤ hi 31 7 ∧ hi 31 7 ≤ 16) (hlt : ∀ l, 0 ≤ l → l < 16 → hi 35 l = 0 ∨ hi 35 l = 1) (n : Nat) : ∀ (l fr t : Int) (f : Int → Int), 0 ≤ l → l + n = hi 31 7 → cLe (hi 32) (hi 33) (hi 30) (hi 34) (hi 35) n l fr t f = some (v, g, t2) → a_wp G mX5_permit (d + 2) 4 [some (vR 31), some (vR 30), some (vI fr), some (vI l)] [] z hr (vH31 hi f t) hl (fun r z' hr' hi' hl' => z' = z ∧ hr' = hr ∧ hl' = hl ∧ r = some (vI v) ∧ hi' = vH31 hi g t2) := by
  induction n with
  | zero =>
    intro l fr t f h0 hn hrun
    refine a_iload_n (n := 5) dX5_permit_4 rfl rfl ?_
    refine a_aload_n (n := 6) dX5_permit_5 rfl rfl ?_
    refine a_getI (n := 9) dX5_permit_6 rfl fX5_32 (s31 hz) ?_
    try simp only [up2_eq, vH31_eq, Nat.reduceEqDiff, Int.reduceEq, Int.reduceNeg, and_true, true_and, and_false, false_and, and_self, if_true, if_false, ite_true, ite_false, reduceIte, eq_self]
    refine a_icmp_ge (t := 47) (n := 12) dX5_permit_9 rfl rfl (fun c9 => ?_) (fun c9 => ?_)
    · refine a_iconst (n := 48) dX5_permit_47 rfl ⟨by decide, by decide⟩ ?_
      refine a_zreturn dX5_permit_48 rfl (by omega) ?_
      rw [cLe] at hrun
      obtain ⟨rfl, q⟩ := Prod.mk.inj (Option.some.inj hrun)
      obtain ⟨rfl, rfl⟩ := Prod.mk.inj q
      exact ⟨rfl, rfl, rfl, rfl, rfl⟩
    · omega
  | succ n ih =>
    intro l fr t f h0 hn hrun
    rw [cLe] at hrun
    by_cases hfe : fr ≤ hi 34 l
    case neg => rw [if_pos hfe] at hrun; cases hrun
    rw [if_neg (not_not_intro hfe)] at hrun
    cases e : cV (hi 32) (hi 33) (hi 30) (hi 34 l - fr).toNat fr 0 f with
    | none => rw [e] at hrun; cases hrun
    | some y =>
      rw [e] at hrun
      replace hrun : (if y.1 = 0 then cLe (hi 32) (hi 33) (hi 30) (hi 34) (hi 35) n (l + 1) (hi 34 l) y.2.2 y.2.1 else some (hi 35 l, y.2.1, y.2.2)) = some (v, g, t2) := hrun
      refine a_iload_n (n := 5) dX5_permit_4 rfl rfl ?_
      refine a_aload_n (n := 6) dX5_permit_5 rfl rfl ?_
      refine a_getI (n := 9) dX5_permit_6 rfl fX5_32 (s31 hz) ?_
      try simp only [up2_eq, vH31_eq, Nat.reduceEqDiff, Int.reduceEq, Int.reduceNeg, and_true, true_and, and_false, false_and, and_self, if_true, if_false, ite_true, ite_false, reduceIte, eq_self]
      refine a_icmp_ge (t := 47) (n := 12) dX5_permit_9 rfl rfl (fun c9 => ?_) (fun c9 => ?_)
      · omega
      · refine a_aload_n (n := 13) dX5_permit_12 rfl rfl ?_
        refine a_iload_n (n := 14) dX5_permit_13 rfl rfl ?_
        refine a_aload_n (n := 15) dX5_permit_14 rfl rfl ?_
        refine a_getR (n := 18) dX5_permit_15 rfl fX5_18 (s31 hz) (r31_2 hR) ?_
        refine a_iload_n (n := 19) dX5_permit_18 rfl rfl ?_
        refine a_iald (n := 20) dX5_permit_19 rfl (s34 hz) (by omega) (by omega) ?_
        try simp only [up2_eq, vH31_eq, Nat.reduceEqDiff, Int.reduceEq, Int.reduceNeg, and_true, true_and, and_false, false_and, and_self, if_true, if_false, ite_true, ite_false, reduceIte, eq_self]
        refine a_aload_n (n := 21) dX5_permit_20 rfl rfl ?_
        refine a_callV (M2 := mX5_valueOf) (n := 24) dX5_permit_21 rfl (c_val31 (d := d) (v := y.1) (g := y.2.1) (t2 := y.2.2) hz hR hfe e) kX5_valueOf lX5_35 iX5_valueOf eX5_valueOf (by decide) (by omega) (s31 hz) rfl (Nat.le_of_ble_eq_true rfl) (fun q21 z21 hr21 hi21 hl21 h21 => ?_)
        obtain ⟨e121, e221, e321, rfl, rfl⟩ := h21
        obtain rfl := e121.symm
        obtain rfl := e221.symm
        obtain rfl := e321.symm
        show a_wp G _ _ _ _ (vI _ :: _) _ _ _ _ _
        refine a_if_eq (t := 34) (n := 27) dX5_permit_24 rfl rfl (fun c24 => ?_) (fun c24 => ?_)
        · refine a_aload_n (n := 35) dX5_permit_34 rfl rfl ?_
          refine a_getR (n := 38) dX5_permit_35 rfl fX5_18 (s31 hz) (r31_2 hR) ?_
          refine a_iload_n (n := 39) dX5_permit_38 rfl rfl ?_
          refine a_iald (n := 40) dX5_permit_39 rfl (s34 hz) (by omega) (by omega) ?_
          try simp only [up2_eq, vH31_eq, Nat.reduceEqDiff, Int.reduceEq, Int.reduceNeg, and_true, true_and, and_false, false_and, and_self, if_true, if_false, ite_true, ite_false, reduceIte, eq_self]
          refine b_istore_n (n := 41) dX5_permit_40 rfl (by decide) rfl ?_
          refine b_iinc (n := 44) dX5_permit_41 rfl (by decide) rfl rfl ⟨by omega, by omega⟩ ?_
          refine a_goto (t := 4) dX5_permit_44 rfl ?_
          rw [if_pos c24] at hrun
          exact ih (l + 1) _ _ _ (by omega) (by omega) hrun
        · refine a_aload_n (n := 28) dX5_permit_27 rfl rfl ?_
          refine a_getR (n := 31) dX5_permit_28 rfl fX5_21 (s31 hz) (r31_3 hR) ?_
          refine a_iload_n (n := 32) dX5_permit_31 rfl rfl ?_
          refine a_zald (n := 33) dX5_permit_32 rfl (s35 hz) (by omega) (by omega) ?_
          try simp only [up2_eq, vH31_eq, Nat.reduceEqDiff, Int.reduceEq, Int.reduceNeg, and_true, true_and, and_false, false_and, and_self, if_true, if_false, ite_true, ite_false, reduceIte, eq_self]
          have hle := hlt l h0 (by omega)
          refine a_zreturn dX5_permit_33 rfl (by omega) ?_
          rw [if_neg c24] at hrun
          obtain ⟨rfl, q⟩ := Prod.mk.inj (Option.some.inj hrun)
          obtain ⟨rfl, rfl⟩ := Prod.mk.inj q
          exact ⟨rfl, rfl, rfl, rfl, rfl⟩
set_option maxRecDepth 100000 in
set_option maxHeartbeats 4000000 in
theorem c_per31 (hz : stZ z) (hR : stR hr) {v t2 : Int} {g : Int → Int} (hL : 0 ≤ hi 31 7 ∧ hi 31 7 ≤ 16) (hlt : ∀ l, 0 ≤ l → l < 16 → hi 35 l = 0 ∨ hi 35 l = 1) (hrun : cLe (hi 32) (hi 33) (hi 30) (hi 34) (hi 35) (hi 31 7).toNat 0 0 (hi 31 5) (hi 36) = some (v, g, t2)) : a_ct G mX5_permit (d + 2) [vR 31, vR 30] z hr hi hl (fun r z' hr' hi' hl' => z' = z ∧ hr' = hr ∧ hl' = hl ∧ r = some (vI v) ∧ hi' = vH31 hi g t2) := by
  refine a_ct_of rfl (Nat.le_of_ble_eq_true rfl) ?_
  refine a_iconst (n := 1) dX5_permit_0 rfl ⟨by decide, by decide⟩ ?_
  refine b_istore_n (n := 2) dX5_permit_1 rfl (by decide) rfl ?_
  refine a_iconst (n := 3) dX5_permit_2 rfl ⟨by decide, by decide⟩ ?_
  refine b_istore_n (n := 4) dX5_permit_3 rfl (by decide) rfl ?_
  have K := c_per31_l (G := G) (d := d) (z := z) (hr := hr) (hi := hi) (hl := hl) (v := v) (t2 := t2) (g := g) hz hR hL hlt (hi 31 7).toNat 0 0 (hi 31 5) (hi 36) (by decide) (by omega) hrun
  rw [vH31_0] at K
  exact K
set_option maxRecDepth 100000 in
set_option maxHeartbeats 4000000 in
theorem c_blanks_l (hz : stZ z) (hR : stR hr) {f0 : Int} (ht : hi 15 1 ≤ 600) (n : Nat) : ∀ k : Int, 0 ≤ k → (hi 15 1 - k).toNat = n → a_wp G mX7_endOfBlanks (d + 0) 2 [some (vR 15), some (vI f0), some (vI k)] [] z hr hi hl (Qs z hr hi hl (fun r => r = some (vI (rE pB (hi 16) (hi 15 1) k)))) := by
  induction n with
  | zero =>
    intro k h0 hk
    refine a_iload_n (n := 3) dX7_endOfBlanks_2 rfl rfl ?_
    refine a_aload_n (n := 4) dX7_endOfBlanks_3 rfl rfl ?_
    refine a_getI (n := 7) dX7_endOfBlanks_4 rfl fX7_19 (s15 hz) ?_
    refine a_icmp_ge (t := 38) (n := 10) dX7_endOfBlanks_7 rfl rfl (fun c7 => ?_) (fun c7 => ?_)
    · refine a_iload_n (n := 39) dX7_endOfBlanks_38 rfl rfl ?_
      refine a_ireturn dX7_endOfBlanks_39 rfl ?_
      exact ⟨rfl, rfl, rfl, rfl, by rw [rE_f (fun q => by omega)]⟩
    · omega
  | succ n ih =>
    intro k h0 hk
    refine a_iload_n (n := 3) dX7_endOfBlanks_2 rfl rfl ?_
    refine a_aload_n (n := 4) dX7_endOfBlanks_3 rfl rfl ?_
    refine a_getI (n := 7) dX7_endOfBlanks_4 rfl fX7_19 (s15 hz) ?_
    refine a_icmp_ge (t := 38) (n := 10) dX7_endOfBlanks_7 rfl rfl (fun c7 => ?_) (fun c7 => ?_)
    · omega
    · refine a_aload_n (n := 11) dX7_endOfBlanks_10 rfl rfl ?_
      refine a_getR (n := 14) dX7_endOfBlanks_11 rfl fX7_9 (s15 hz) (r15_0 hR) ?_
      refine a_iload_n (n := 15) dX7_endOfBlanks_14 rfl rfl ?_
      refine a_iald (n := 16) dX7_endOfBlanks_15 rfl (s16 hz) (by omega) (by omega) ?_
      refine a_bipush (n := 18) dX7_endOfBlanks_16 rfl ⟨by decide, by decide⟩ (by decide) ?_
      refine a_icmp_eq (t := 32) (n := 21) dX7_endOfBlanks_18 rfl rfl (fun c18 => ?_) (fun c18 => ?_)
      · refine b_iinc (n := 35) dX7_endOfBlanks_32 rfl (by decide) rfl rfl ⟨by omega, by omega⟩ ?_
        refine a_goto (t := 2) dX7_endOfBlanks_35 rfl ?_
        have e := ih (k + 1) (by omega) (by omega)
        rw [← rE_t (p := pB) (s := hi 16) (sz := hi 15 1) (k := k) (by omega) (pB_t.mpr (Or.inl c18))] at e
        exact e
      · refine a_aload_n (n := 22) dX7_endOfBlanks_21 rfl rfl ?_
        refine a_getR (n := 25) dX7_endOfBlanks_22 rfl fX7_9 (s15 hz) (r15_0 hR) ?_
        refine a_iload_n (n := 26) dX7_endOfBlanks_25 rfl rfl ?_
        refine a_iald (n := 27) dX7_endOfBlanks_26 rfl (s16 hz) (by omega) (by omega) ?_
        refine a_bipush (n := 29) dX7_endOfBlanks_27 rfl ⟨by decide, by decide⟩ (by decide) ?_
        refine a_icmp_ne (t := 38) (n := 32) dX7_endOfBlanks_29 rfl rfl (fun c29 => ?_) (fun c29 => ?_)
        · refine a_iload_n (n := 39) dX7_endOfBlanks_38 rfl rfl ?_
          refine a_ireturn dX7_endOfBlanks_39 rfl ?_
          exact ⟨rfl, rfl, rfl, rfl, by rw [rE_f (fun q => (pB_t.mp q.2).elim c18 (fun e => absurd e (by omega)))]⟩
        · refine b_iinc (n := 35) dX7_endOfBlanks_32 rfl (by decide) rfl rfl ⟨by omega, by omega⟩ ?_
          refine a_goto (t := 2) dX7_endOfBlanks_35 rfl ?_
          have e := ih (k + 1) (by omega) (by omega)
          rw [← rE_t (p := pB) (s := hi 16) (sz := hi 15 1) (k := k) (by omega) (pB_t.mpr (Or.inr (by omega)))] at e
          exact e
set_option maxRecDepth 100000 in
set_option maxHeartbeats 4000000 in
theorem c_blanks (hz : stZ z) (hR : stR hr) {f : Int} (ht : hi 15 1 ≤ 600) (hf : 0 ≤ f) : a_ct G mX7_endOfBlanks (d + 0) [vR 15, vI f] z hr hi hl (Qs z hr hi hl (fun r => r = some (vI (rE pB (hi 16) (hi 15 1) f)))) := by
  refine a_ct_of rfl (Nat.le_of_ble_eq_true rfl) ?_
  refine a_iload_n (n := 1) dX7_endOfBlanks_0 rfl rfl ?_
  refine b_istore_n (n := 2) dX7_endOfBlanks_1 rfl (by decide) rfl ?_
  exact c_blanks_l hz hR ht _ f hf rfl
set_option maxRecDepth 100000 in
set_option maxHeartbeats 4000000 in
theorem c_letters_l (hz : stZ z) (hR : stR hr) (hN : gN G) {f0 : Int} (ht : hi 15 1 ≤ 600) (n : Nat) : ∀ k : Int, 0 ≤ k → (hi 15 1 - k).toNat = n → a_wp G mX7_endOfLetters (d + 1) 2 [some (vR 15), some (vI f0), some (vI k)] [] z hr hi hl (Qs z hr hi hl (fun r => r = some (vI (rE pL (hi 16) (hi 15 1) k)))) := by
  induction n with
  | zero =>
    intro k h0 hk
    refine a_iload_n (n := 3) dX7_endOfLetters_2 rfl rfl ?_
    refine a_aload_n (n := 4) dX7_endOfLetters_3 rfl rfl ?_
    refine a_getI (n := 7) dX7_endOfLetters_4 rfl fX7_19 (s15 hz) ?_
    refine a_icmp_ge (t := 32) (n := 10) dX7_endOfLetters_7 rfl rfl (fun c7 => ?_) (fun c7 => ?_)
    · refine a_iload_n (n := 33) dX7_endOfLetters_32 rfl rfl ?_
      refine a_ireturn dX7_endOfLetters_33 rfl ?_
      exact ⟨rfl, rfl, rfl, rfl, by rw [rE_f (fun q => by omega)]⟩
    · omega
  | succ n ih =>
    intro k h0 hk
    refine a_iload_n (n := 3) dX7_endOfLetters_2 rfl rfl ?_
    refine a_aload_n (n := 4) dX7_endOfLetters_3 rfl rfl ?_
    refine a_getI (n := 7) dX7_endOfLetters_4 rfl fX7_19 (s15 hz) ?_
    refine a_icmp_ge (t := 32) (n := 10) dX7_endOfLetters_7 rfl rfl (fun c7 => ?_) (fun c7 => ?_)
    · omega
    · refine a_aload_n (n := 11) dX7_endOfLetters_10 rfl rfl ?_
      refine a_getR (n := 14) dX7_endOfLetters_11 rfl fX7_9 (s15 hz) (r15_0 hR) ?_
      refine a_iload_n (n := 15) dX7_endOfLetters_14 rfl rfl ?_
      refine a_iald (n := 16) dX7_endOfLetters_15 rfl (s16 hz) (by omega) (by omega) ?_
      refine a_bipush (n := 18) dX7_endOfLetters_16 rfl ⟨by decide, by decide⟩ (by decide) ?_
      refine a_bipush (n := 20) dX7_endOfLetters_18 rfl ⟨by decide, by decide⟩ (by decide) ?_
      refine a_callSN (M2 := mX9_within) (n := 23) dX7_endOfLetters_20 rfl (c_within (d := d)) kX9_within (nX7_15 hN) sX9_within (by omega) rfl (Nat.le_of_ble_eq_true rfl) (fun q20 z20 hr20 hi20 hl20 h20 => ?_)
      obtain ⟨e120, e220, e320, e420, b20, rfl, hb20⟩ := h20
      obtain rfl := e120.symm
      obtain rfl := e220.symm
      obtain rfl := e320.symm
      obtain rfl := e420.symm
      show a_wp G _ _ _ _ (vI b20 :: _) _ _ _ _ _
      refine a_if_eq (t := 32) (n := 26) dX7_endOfLetters_23 rfl rfl (fun c23 => ?_) (fun c23 => ?_)
      · replace hb20 := isB_f hb20 (by omega)
        refine a_iload_n (n := 33) dX7_endOfLetters_32 rfl rfl ?_
        refine a_ireturn dX7_endOfLetters_33 rfl ?_
        exact ⟨rfl, rfl, rfl, rfl, by rw [rE_f (fun q => hb20 (pL_t.mp q.2))]⟩
      · replace hb20 := isB_t hb20 (by omega)
        refine b_iinc (n := 29) dX7_endOfLetters_26 rfl (by decide) rfl rfl ⟨by omega, by omega⟩ ?_
        refine a_goto (t := 2) dX7_endOfLetters_29 rfl ?_
        have e := ih (k + 1) (by omega) (by omega)
        rw [← rE_t (p := pL) (s := hi 16) (sz := hi 15 1) (k := k) (by omega) (pL_t.mpr hb20)] at e
        exact e
set_option maxRecDepth 100000 in
set_option maxHeartbeats 4000000 in
theorem c_letters (hz : stZ z) (hR : stR hr) (hN : gN G) {f : Int} (ht : hi 15 1 ≤ 600) (hf : 0 ≤ f) : a_ct G mX7_endOfLetters (d + 1) [vR 15, vI f] z hr hi hl (Qs z hr hi hl (fun r => r = some (vI (rE pL (hi 16) (hi 15 1) f)))) := by
  refine a_ct_of rfl (Nat.le_of_ble_eq_true rfl) ?_
  refine a_iload_n (n := 1) dX7_endOfLetters_0 rfl rfl ?_
  refine b_istore_n (n := 2) dX7_endOfLetters_1 rfl (by decide) rfl ?_
  exact c_letters_l hz hR hN ht _ f hf rfl
set_option maxRecDepth 100000 in
set_option maxHeartbeats 4000000 in
theorem c_digits_l (hz : stZ z) (hR : stR hr) (hN : gN G) {f0 : Int} (ht : hi 15 1 ≤ 600) (n : Nat) : ∀ k : Int, 0 ≤ k → (hi 15 1 - k).toNat = n → a_wp G mX7_endOfDigits (d + 1) 2 [some (vR 15), some (vI f0), some (vI k)] [] z hr hi hl (Qs z hr hi hl (fun r => r = some (vI (rE pD (hi 16) (hi 15 1) k)))) := by
  induction n with
  | zero =>
    intro k h0 hk
    refine a_iload_n (n := 3) dX7_endOfDigits_2 rfl rfl ?_
    refine a_aload_n (n := 4) dX7_endOfDigits_3 rfl rfl ?_
    refine a_getI (n := 7) dX7_endOfDigits_4 rfl fX7_19 (s15 hz) ?_
    refine a_icmp_ge (t := 32) (n := 10) dX7_endOfDigits_7 rfl rfl (fun c7 => ?_) (fun c7 => ?_)
    · refine a_iload_n (n := 33) dX7_endOfDigits_32 rfl rfl ?_
      refine a_ireturn dX7_endOfDigits_33 rfl ?_
      exact ⟨rfl, rfl, rfl, rfl, by rw [rE_f (fun q => by omega)]⟩
    · omega
  | succ n ih =>
    intro k h0 hk
    refine a_iload_n (n := 3) dX7_endOfDigits_2 rfl rfl ?_
    refine a_aload_n (n := 4) dX7_endOfDigits_3 rfl rfl ?_
    refine a_getI (n := 7) dX7_endOfDigits_4 rfl fX7_19 (s15 hz) ?_
    refine a_icmp_ge (t := 32) (n := 10) dX7_endOfDigits_7 rfl rfl (fun c7 => ?_) (fun c7 => ?_)
    · omega
    · refine a_aload_n (n := 11) dX7_endOfDigits_10 rfl rfl ?_
      refine a_getR (n := 14) dX7_endOfDigits_11 rfl fX7_9 (s15 hz) (r15_0 hR) ?_
      refine a_iload_n (n := 15) dX7_endOfDigits_14 rfl rfl ?_
      refine a_iald (n := 16) dX7_endOfDigits_15 rfl (s16 hz) (by omega) (by omega) ?_
      refine a_bipush (n := 18) dX7_endOfDigits_16 rfl ⟨by decide, by decide⟩ (by decide) ?_
      refine a_bipush (n := 20) dX7_endOfDigits_18 rfl ⟨by decide, by decide⟩ (by decide) ?_
      refine a_callSN (M2 := mX9_within) (n := 23) dX7_endOfDigits_20 rfl (c_within (d := d)) kX9_within (nX7_15 hN) sX9_within (by omega) rfl (Nat.le_of_ble_eq_true rfl) (fun q20 z20 hr20 hi20 hl20 h20 => ?_)
      obtain ⟨e120, e220, e320, e420, b20, rfl, hb20⟩ := h20
      obtain rfl := e120.symm
      obtain rfl := e220.symm
      obtain rfl := e320.symm
      obtain rfl := e420.symm
      show a_wp G _ _ _ _ (vI b20 :: _) _ _ _ _ _
      refine a_if_eq (t := 32) (n := 26) dX7_endOfDigits_23 rfl rfl (fun c23 => ?_) (fun c23 => ?_)
      · replace hb20 := isB_f hb20 (by omega)
        refine a_iload_n (n := 33) dX7_endOfDigits_32 rfl rfl ?_
        refine a_ireturn dX7_endOfDigits_33 rfl ?_
        exact ⟨rfl, rfl, rfl, rfl, by rw [rE_f (fun q => hb20 (pD_t.mp q.2))]⟩
      · replace hb20 := isB_t hb20 (by omega)
        refine b_iinc (n := 29) dX7_endOfDigits_26 rfl (by decide) rfl rfl ⟨by omega, by omega⟩ ?_
        refine a_goto (t := 2) dX7_endOfDigits_29 rfl ?_
        have e := ih (k + 1) (by omega) (by omega)
        rw [← rE_t (p := pD) (s := hi 16) (sz := hi 15 1) (k := k) (by omega) (pD_t.mpr hb20)] at e
        exact e
set_option maxRecDepth 100000 in
set_option maxHeartbeats 4000000 in
theorem c_digits (hz : stZ z) (hR : stR hr) (hN : gN G) {f : Int} (ht : hi 15 1 ≤ 600) (hf : 0 ≤ f) : a_ct G mX7_endOfDigits (d + 1) [vR 15, vI f] z hr hi hl (Qs z hr hi hl (fun r => r = some (vI (rE pD (hi 16) (hi 15 1) f)))) := by
  refine a_ct_of rfl (Nat.le_of_ble_eq_true rfl) ?_
  refine a_iload_n (n := 1) dX7_endOfDigits_0 rfl rfl ?_
  refine b_istore_n (n := 2) dX7_endOfDigits_1 rfl (by decide) rfl ?_
  exact c_digits_l hz hR hN ht _ f hf rfl
end C8
