section C7
variable {G : aG} {d : Nat} {z : aZ} {hr : aR} {hi hl : aI}
/-- the worth of codes as the class finds it: f what waits, t how many -/
def cj (c a b : Int) : Int := if c = 12 then a + b else if c = 13 then a - b else if c = 10 then (if a < b then 1 else 0) else if c = 11 then (if a = b then 1 else 0) else (if ¬ a = 0 ∧ ¬ b = 0 then 1 else 0)
def cV (co nu fa : Int → Int) : Nat → Int → Int → (Int → Int) → Option (Int × (Int → Int) × Int)
  | 0, _, t, f => if 1 ≤ t ∧ t ≤ 24 then some (f (t - 1), f, t - 1) else none
  | n + 1, i, t, f => if ¬ (0 ≤ i ∧ i < 600) then none
    else if co i < 7 then (if ¬ (0 ≤ co i ∧ 0 ≤ t ∧ t < 24) then none else cV co nu fa n (i + 1) (t + 1) (wU f t (fa (co i))))
    else if co i = 7 then (if ¬ (0 ≤ t ∧ t < 24) then none else cV co nu fa n (i + 1) (t + 1) (wU f t (nu i)))
    else if ¬ (2 ≤ t ∧ t ≤ 24 ∧ (-2000000000 ≤ f (t - 2) + f (t - 1) ∧ f (t - 2) + f (t - 1) ≤ 2000000000) ∧ (-2000000000 ≤ f (t - 2) - f (t - 1) ∧ f (t - 2) - f (t - 1) ≤ 2000000000)) then none
    else cV co nu fa n (i + 1) (t - 1) (wU f (t - 2) (cj (co i) (f (t - 2)) (f (t - 1))))
def cLe (co nu fa en le : Int → Int) : Nat → Int → Int → Int → (Int → Int) → Option (Int × (Int → Int) × Int)
  | 0, _, _, t, f => some (0, f, t)
  | n + 1, l, fr, _, f => if ¬ (fr ≤ en l) then none else match cV co nu fa (en l - fr).toNat fr 0 f with
    | none => none
    | some (v, g, t2) => if v = 0 then cLe co nu fa en le n (l + 1) (en l) t2 g else some (le l, g, t2)
set_option maxRecDepth 100000 in
set_option maxHeartbeats 4000000 in
theorem c_joined {c a b : Int} (h1 : -2000000000 ≤ a + b ∧ a + b ≤ 2000000000) (h2 : -2000000000 ≤ a - b ∧ a - b ≤ 2000000000) : a_ct G mX5_joined (d + 0) [vI c, vI a, vI b] z hr hi hl (Qs z hr hi hl (fun r => r = some (vI (cj c a b)))) := by
  refine a_ct_of rfl (Nat.le_of_ble_eq_true rfl) ?_
  refine a_iload_n (n := 1) dX5_joined_0 rfl rfl ?_
  by_cases hw1 : c < 10 ∨ 13 < c
  · refine a_tableOut (t := 62) dX5_joined_1 hw1 rfl ?_
    refine a_iload_n (n := 63) dX5_joined_62 rfl rfl ?_
    refine a_if_eq (t := 74) (n := 66) dX5_joined_63 rfl rfl (fun c63 => ?_) (fun c63 => ?_)
    · refine a_iconst (n := 75) dX5_joined_74 rfl ⟨by decide, by decide⟩ ?_
      refine a_ireturn dX5_joined_75 rfl ?_
      refine ⟨rfl, rfl, rfl, rfl, ?_⟩
      unfold cj
      rw [if_neg (by omega), if_neg (by omega), if_neg (by omega), if_neg (by omega), if_neg (by omega)]
    · refine a_iload_n (n := 67) dX5_joined_66 rfl rfl ?_
      refine a_if_eq (t := 74) (n := 70) dX5_joined_67 rfl rfl (fun c67 => ?_) (fun c67 => ?_)
      · refine a_iconst (n := 75) dX5_joined_74 rfl ⟨by decide, by decide⟩ ?_
        refine a_ireturn dX5_joined_75 rfl ?_
        refine ⟨rfl, rfl, rfl, rfl, ?_⟩
        unfold cj
        rw [if_neg (by omega), if_neg (by omega), if_neg (by omega), if_neg (by omega), if_neg (by omega)]
      · refine a_iconst (n := 71) dX5_joined_70 rfl ⟨by decide, by decide⟩ ?_
        refine a_goto (t := 75) dX5_joined_71 rfl ?_
        refine a_ireturn dX5_joined_75 rfl ?_
        refine ⟨rfl, rfl, rfl, rfl, ?_⟩
        unfold cj
        rw [if_neg (by omega), if_neg (by omega), if_neg (by omega), if_neg (by omega), if_pos ⟨by omega, by omega⟩]
  · have hx1 : c = 10 ∨ c = 11 ∨ c = 12 ∨ c = 13 := by omega
    rcases hx1 with rfl | rfl | rfl | rfl
    · refine a_tableIn (off := 39) (t := 40) dX5_joined_1 (by decide) (by decide) rfl rfl ?_
      refine a_iload_n (n := 41) dX5_joined_40 rfl rfl ?_
      refine a_iload_n (n := 42) dX5_joined_41 rfl rfl ?_
      refine a_icmp_ge (t := 49) (n := 45) dX5_joined_42 rfl rfl (fun c42 => ?_) (fun c42 => ?_)
      · refine a_iconst (n := 50) dX5_joined_49 rfl ⟨by decide, by decide⟩ ?_
        refine a_ireturn dX5_joined_50 rfl ?_
        refine ⟨rfl, rfl, rfl, rfl, ?_⟩
        unfold cj
        rw [if_neg (by decide), if_neg (by decide), if_pos rfl, if_neg (by omega)]
      · refine a_iconst (n := 46) dX5_joined_45 rfl ⟨by decide, by decide⟩ ?_
        refine a_goto (t := 50) dX5_joined_46 rfl ?_
        refine a_ireturn dX5_joined_50 rfl ?_
        refine ⟨rfl, rfl, rfl, rfl, ?_⟩
        unfold cj
        rw [if_neg (by decide), if_neg (by decide), if_pos rfl, if_pos (by omega)]
    · refine a_tableIn (off := 50) (t := 51) dX5_joined_1 (by decide) (by decide) rfl rfl ?_
      refine a_iload_n (n := 52) dX5_joined_51 rfl rfl ?_
      refine a_iload_n (n := 53) dX5_joined_52 rfl rfl ?_
      refine a_icmp_ne (t := 60) (n := 56) dX5_joined_53 rfl rfl (fun c53 => ?_) (fun c53 => ?_)
      · refine a_iconst (n := 61) dX5_joined_60 rfl ⟨by decide, by decide⟩ ?_
        refine a_ireturn dX5_joined_61 rfl ?_
        refine ⟨rfl, rfl, rfl, rfl, ?_⟩
        unfold cj
        rw [if_neg (by decide), if_neg (by decide), if_neg (by decide), if_pos rfl, if_neg (by omega)]
      · refine a_iconst (n := 57) dX5_joined_56 rfl ⟨by decide, by decide⟩ ?_
        refine a_goto (t := 61) dX5_joined_57 rfl ?_
        refine a_ireturn dX5_joined_61 rfl ?_
        refine ⟨rfl, rfl, rfl, rfl, ?_⟩
        unfold cj
        rw [if_neg (by decide), if_neg (by decide), if_neg (by decide), if_pos rfl, if_pos (by omega)]
    · refine a_tableIn (off := 31) (t := 32) dX5_joined_1 (by decide) (by decide) rfl rfl ?_
      refine a_iload_n (n := 33) dX5_joined_32 rfl rfl ?_
      refine a_iload_n (n := 34) dX5_joined_33 rfl rfl ?_
      refine a_iadd (n := 35) dX5_joined_34 rfl ⟨by omega, by omega⟩ ?_
      refine a_ireturn dX5_joined_35 rfl ?_
      refine ⟨rfl, rfl, rfl, rfl, ?_⟩
      unfold cj
      rw [if_pos rfl]
    · refine a_tableIn (off := 35) (t := 36) dX5_joined_1 (by decide) (by decide) rfl rfl ?_
      refine a_iload_n (n := 37) dX5_joined_36 rfl rfl ?_
      refine a_iload_n (n := 38) dX5_joined_37 rfl rfl ?_
      refine a_isub (n := 39) dX5_joined_38 rfl ⟨by omega, by omega⟩ ?_
      refine a_ireturn dX5_joined_39 rfl ?_
      refine ⟨rfl, rfl, rfl, rfl, ?_⟩
      unfold cj
      rw [if_neg (by decide), if_pos rfl]
def vH22 (hi : aI) (f : Int → Int) (t : Int) : aI := fun b j => if b = 27 then f j else if b = 22 ∧ j = 5 then t else hi b j
theorem vH22_eq (hi : aI) (f : Int → Int) (t : Int) (b : Nat) (j : Int) : vH22 hi f t b j = if b = 27 then f j else if b = 22 ∧ j = 5 then t else hi b j := rfl
theorem vH22_0 {hi : aI} : vH22 hi (hi 27) (hi 22 5) = hi := by
  funext b j
  rw [vH22_eq]
  by_cases h : b = 27
  · rw [if_pos h, h]
  · rw [if_neg h]
    by_cases k : b = 22 ∧ j = 5
    · rw [if_pos k, k.1, k.2]
    · rw [if_neg k]
theorem vH22_t {hi : aI} {f : Int → Int} {t v : Int} : up2 (vH22 hi f t) 22 5 v = vH22 hi f v := by
  funext b j
  rw [up2_eq, vH22_eq, vH22_eq]
  by_cases k : b = 22 ∧ j = 5
  · rw [if_pos k, if_neg (by rw [k.1]; decide), if_pos k]
  · rw [if_neg k, if_neg k]
    by_cases h : b = 27
    · rw [if_pos h, if_pos h]
    · rw [if_neg h, if_neg h, if_neg k]
theorem vH22_f {hi : aI} {f : Int → Int} {t i v : Int} : up2 (vH22 hi f t) 27 i v = vH22 hi (wU f i v) t := by
  funext b j
  rw [up2_eq, vH22_eq, vH22_eq]
  by_cases h : b = 27
  · by_cases k : j = i
    · rw [if_pos ⟨h, k⟩, if_pos h, wU, if_pos k]
    · rw [if_neg (fun q => k q.2), if_pos h, if_pos h, wU, if_neg k]
  · rw [if_neg (fun q => h q.1), if_neg h, if_neg h]
set_option maxRecDepth 100000 in
set_option maxHeartbeats 4000000 in
theorem c_empty22 (hz : stZ z) (hR : stR hr) : a_ct G mX5_makeEmpty (d + 0) [vR 22] z hr hi hl (fun r z' hr' hi' hl' => z' = z ∧ hr' = hr ∧ hl' = hl ∧ r = none ∧ hi' = up2 (up2 hi 22 6 0) 22 7 0) := by
  refine a_ct_of rfl (Nat.le_of_ble_eq_true rfl) ?_
  refine a_aload_n (n := 1) dX5_makeEmpty_0 rfl rfl ?_
  refine a_iconst (n := 2) dX5_makeEmpty_1 rfl ⟨by decide, by decide⟩ ?_
  refine a_putI (n := 5) dX5_makeEmpty_2 rfl fX5_28 rfl (s22 hz) (Or.inl rfl) ?_
  refine a_aload_n (n := 6) dX5_makeEmpty_5 rfl rfl ?_
  refine a_iconst (n := 7) dX5_makeEmpty_6 rfl ⟨by decide, by decide⟩ ?_
  refine a_putI (n := 10) dX5_makeEmpty_7 rfl fX5_32 rfl (s22 hz) (Or.inl rfl) ?_
  refine a_return dX5_makeEmpty_10 rfl ?_
  exact ⟨rfl, rfl, rfl, rfl, rfl⟩
set_option maxRecDepth 100000 in
set_option maxHeartbeats 4000000 in
theorem c_addCode22 (hz : stZ z) (hR : stR hr) {k n : Int} (hl6 : 0 ≤ hi 22 6 ∧ hi 22 6 < 600) : a_ct G mX5_addCode (d + 0) [vR 22, vI k, vI n] z hr hi hl (fun r z' hr' hi' hl' => z' = z ∧ hr' = hr ∧ hl' = hl ∧ r = none ∧ hi' = up2 (up2 (up2 hi 23 (hi 22 6) k) 24 (hi 22 6) n) 22 6 (hi 22 6 + 1)) := by
  refine a_ct_of rfl (Nat.le_of_ble_eq_true rfl) ?_
  refine a_aload_n (n := 1) dX5_addCode_0 rfl rfl ?_
  refine a_getI (n := 4) dX5_addCode_1 rfl fX5_28 (s22 hz) ?_
  refine a_sipush (n := 7) dX5_addCode_4 rfl ⟨by decide, by decide⟩ (by decide) ?_
  refine a_icmp_ge (t := 40) (n := 10) dX5_addCode_7 rfl rfl (fun c7 => ?_) (fun c7 => ?_)
  · omega
  · refine a_aload_n (n := 11) dX5_addCode_10 rfl rfl ?_
    refine a_getR (n := 14) dX5_addCode_11 rfl fX5_9 (s22 hz) (r22_0 hR) ?_
    refine a_aload_n (n := 15) dX5_addCode_14 rfl rfl ?_
    refine a_getI (n := 18) dX5_addCode_15 rfl fX5_28 (s22 hz) ?_
    refine a_iload_n (n := 19) dX5_addCode_18 rfl rfl ?_
    refine a_iast (n := 20) dX5_addCode_19 rfl (s23 hz) (by omega) (by omega) ?_
    refine a_aload_n (n := 21) dX5_addCode_20 rfl rfl ?_
    refine a_getR (n := 24) dX5_addCode_21 rfl fX5_15 (s22 hz) (r22_1 hR) ?_
    refine a_aload_n (n := 25) dX5_addCode_24 rfl rfl ?_
    refine a_getI (n := 28) dX5_addCode_25 rfl fX5_28 (s22 hz) ?_
    try simp only [up2_eq, Nat.reduceEqDiff, Int.reduceEq, Int.reduceNeg, and_true, true_and, and_false, false_and, and_self, if_true, if_false, ite_true, ite_false, reduceIte, eq_self]
    refine a_iload_n (n := 29) dX5_addCode_28 rfl rfl ?_
    refine a_iast (n := 30) dX5_addCode_29 rfl (s24 hz) (by omega) (by omega) ?_
    refine a_aload_n (n := 31) dX5_addCode_30 rfl rfl ?_
    refine a_dup (n := 32) dX5_addCode_31 rfl rfl ?_
    refine a_getI (n := 35) dX5_addCode_32 rfl fX5_28 (s22 hz) ?_
    try simp only [up2_eq, Nat.reduceEqDiff, Int.reduceEq, Int.reduceNeg, and_true, true_and, and_false, false_and, and_self, if_true, if_false, ite_true, ite_false, reduceIte, eq_self]
    refine a_iconst (n := 36) dX5_addCode_35 rfl ⟨by decide, by decide⟩ ?_
    refine a_iadd (n := 37) dX5_addCode_36 rfl ⟨by omega, by omega⟩ ?_
    refine a_putI (n := 40) dX5_addCode_37 rfl fX5_28 rfl (s22 hz) (Or.inl rfl) ?_
    refine a_return dX5_addCode_40 rfl ?_
    exact ⟨rfl, rfl, rfl, rfl, rfl⟩
set_option maxRecDepth 100000 in
set_option maxHeartbeats 4000000 in
theorem c_endLine22 (hz : stZ z) (hR : stR hr) {b : Int} (hb : b = 0 ∨ b = 1) (hl7 : 0 ≤ hi 22 7 ∧ hi 22 7 < 16) : a_ct G mX5_endLine (d + 0) [vR 22, vI b] z hr hi hl (fun r z' hr' hi' hl' => z' = z ∧ hr' = hr ∧ hl' = hl ∧ r = none ∧ hi' = up2 (up2 (up2 hi 25 (hi 22 7) (hi 22 6)) 26 (hi 22 7) b) 22 7 (hi 22 7 + 1)) := by
  refine a_ct_of rfl (Nat.le_of_ble_eq_true rfl) ?_
  refine a_aload_n (n := 1) dX5_endLine_0 rfl rfl ?_
  refine a_getI (n := 4) dX5_endLine_1 rfl fX5_32 (s22 hz) ?_
  refine a_bipush (n := 6) dX5_endLine_4 rfl ⟨by decide, by decide⟩ (by decide) ?_
  refine a_icmp_ge (t := 42) (n := 9) dX5_endLine_6 rfl rfl (fun c6 => ?_) (fun c6 => ?_)
  · omega
  · refine a_aload_n (n := 10) dX5_endLine_9 rfl rfl ?_
    refine a_getR (n := 13) dX5_endLine_10 rfl fX5_18 (s22 hz) (r22_2 hR) ?_
    refine a_aload_n (n := 14) dX5_endLine_13 rfl rfl ?_
    refine a_getI (n := 17) dX5_endLine_14 rfl fX5_32 (s22 hz) ?_
    refine a_aload_n (n := 18) dX5_endLine_17 rfl rfl ?_
    refine a_getI (n := 21) dX5_endLine_18 rfl fX5_28 (s22 hz) ?_
    refine a_iast (n := 22) dX5_endLine_21 rfl (s25 hz) (by omega) (by omega) ?_
    refine a_aload_n (n := 23) dX5_endLine_22 rfl rfl ?_
    refine a_getR (n := 26) dX5_endLine_23 rfl fX5_21 (s22 hz) (r22_3 hR) ?_
    refine a_aload_n (n := 27) dX5_endLine_26 rfl rfl ?_
    refine a_getI (n := 30) dX5_endLine_27 rfl fX5_32 (s22 hz) ?_
    try simp only [up2_eq, Nat.reduceEqDiff, Int.reduceEq, Int.reduceNeg, and_true, true_and, and_false, false_and, and_self, if_true, if_false, ite_true, ite_false, reduceIte, eq_self]
    refine a_iload_n (n := 31) dX5_endLine_30 rfl rfl ?_
    refine a_zast (n := 32) dX5_endLine_31 rfl (s26 hz) (by omega) (by omega) (by omega) ?_
    refine a_aload_n (n := 33) dX5_endLine_32 rfl rfl ?_
    refine a_dup (n := 34) dX5_endLine_33 rfl rfl ?_
    refine a_getI (n := 37) dX5_endLine_34 rfl fX5_32 (s22 hz) ?_
    try simp only [up2_eq, Nat.reduceEqDiff, Int.reduceEq, Int.reduceNeg, and_true, true_and, and_false, false_and, and_self, if_true, if_false, ite_true, ite_false, reduceIte, eq_self]
    refine a_iconst (n := 38) dX5_endLine_37 rfl ⟨by decide, by decide⟩ ?_
    refine a_iadd (n := 39) dX5_endLine_38 rfl ⟨by omega, by omega⟩ ?_
    refine a_putI (n := 42) dX5_endLine_39 rfl fX5_32 rfl (s22 hz) (Or.inl rfl) ?_
    refine a_return dX5_endLine_42 rfl ?_
    exact ⟨rfl, rfl, rfl, rfl, rfl⟩
set_option maxRecDepth 100000 in
set_option maxHeartbeats 4000000 in
theorem c_push22 (hz : stZ z) (hR : stR hr) {f : Int → Int} {t v : Int} (ht : 0 ≤ t ∧ t < 24) : a_ct G mX5_push (d + 0) [vR 22, vI v] z hr (vH22 hi f t) hl (fun r z' hr' hi' hl' => z' = z ∧ hr' = hr ∧ hl' = hl ∧ r = none ∧ hi' = vH22 hi (wU f t v) (t + 1)) := by
  refine a_ct_of rfl (Nat.le_of_ble_eq_true rfl) ?_
  refine a_aload_n (n := 1) dX5_push_0 rfl rfl ?_
  refine a_getI (n := 4) dX5_push_1 rfl fX5_39 (s22 hz) ?_
  try simp only [up2_eq, vH22_eq, Nat.reduceEqDiff, Int.reduceEq, Int.reduceNeg, and_true, true_and, and_false, false_and, and_self, if_true, if_false, ite_true, ite_false, reduceIte, eq_self]
  refine a_bipush (n := 6) dX5_push_4 rfl ⟨by decide, by decide⟩ (by decide) ?_
  refine a_icmp_ge (t := 29) (n := 9) dX5_push_6 rfl rfl (fun c6 => ?_) (fun c6 => ?_)
  · omega
  · refine a_aload_n (n := 10) dX5_push_9 rfl rfl ?_
    refine a_getR (n := 13) dX5_push_10 rfl fX5_25 (s22 hz) (r22_4 hR) ?_
    refine a_aload_n (n := 14) dX5_push_13 rfl rfl ?_
    refine a_getI (n := 17) dX5_push_14 rfl fX5_39 (s22 hz) ?_
    try simp only [up2_eq, vH22_eq, Nat.reduceEqDiff, Int.reduceEq, Int.reduceNeg, and_true, true_and, and_false, false_and, and_self, if_true, if_false, ite_true, ite_false, reduceIte, eq_self]
    refine a_iload_n (n := 18) dX5_push_17 rfl rfl ?_
    refine a_iast (n := 19) dX5_push_18 rfl (s27 hz) (by omega) (by omega) ?_
    try simp only [vH22_t, vH22_f]
    refine a_aload_n (n := 20) dX5_push_19 rfl rfl ?_
    refine a_dup (n := 21) dX5_push_20 rfl rfl ?_
    refine a_getI (n := 24) dX5_push_21 rfl fX5_39 (s22 hz) ?_
    try simp only [up2_eq, vH22_eq, Nat.reduceEqDiff, Int.reduceEq, Int.reduceNeg, and_true, true_and, and_false, false_and, and_self, if_true, if_false, ite_true, ite_false, reduceIte, eq_self]
    refine a_iconst (n := 25) dX5_push_24 rfl ⟨by decide, by decide⟩ ?_
    refine a_iadd (n := 26) dX5_push_25 rfl ⟨by omega, by omega⟩ ?_
    refine a_putI (n := 29) dX5_push_26 rfl fX5_39 rfl (s22 hz) (Or.inl rfl) ?_
    try simp only [vH22_t, vH22_f]
    refine a_return dX5_push_29 rfl ?_
    exact ⟨rfl, rfl, rfl, rfl, rfl⟩
set_option maxRecDepth 100000 in
set_option maxHeartbeats 4000000 in
theorem c_pop22 (hz : stZ z) (hR : stR hr) {f : Int → Int} {t : Int} (ht : 1 ≤ t ∧ t ≤ 24) : a_ct G mX5_pop (d + 0) [vR 22] z hr (vH22 hi f t) hl (fun r z' hr' hi' hl' => z' = z ∧ hr' = hr ∧ hl' = hl ∧ r = some (vI (f (t - 1))) ∧ hi' = vH22 hi f (t - 1)) := by
  refine a_ct_of rfl (Nat.le_of_ble_eq_true rfl) ?_
  refine a_aload_n (n := 1) dX5_pop_0 rfl rfl ?_
  refine a_getI (n := 4) dX5_pop_1 rfl fX5_39 (s22 hz) ?_
  try simp only [up2_eq, vH22_eq, Nat.reduceEqDiff, Int.reduceEq, Int.reduceNeg, and_true, true_and, and_false, false_and, and_self, if_true, if_false, ite_true, ite_false, reduceIte, eq_self]
  refine a_iconst (n := 5) dX5_pop_4 rfl ⟨by decide, by decide⟩ ?_
  refine a_icmp_ge (t := 10) (n := 8) dX5_pop_5 rfl rfl (fun c5 => ?_) (fun c5 => ?_)
  · refine a_aload_n (n := 11) dX5_pop_10 rfl rfl ?_
    refine a_dup (n := 12) dX5_pop_11 rfl rfl ?_
    refine a_getI (n := 15) dX5_pop_12 rfl fX5_39 (s22 hz) ?_
    try simp only [up2_eq, vH22_eq, Nat.reduceEqDiff, Int.reduceEq, Int.reduceNeg, and_true, true_and, and_false, false_and, and_self, if_true, if_false, ite_true, ite_false, reduceIte, eq_self]
    refine a_iconst (n := 16) dX5_pop_15 rfl ⟨by decide, by decide⟩ ?_
    refine a_isub (n := 17) dX5_pop_16 rfl ⟨by omega, by omega⟩ ?_
    refine a_putI (n := 20) dX5_pop_17 rfl fX5_39 rfl (s22 hz) (Or.inl rfl) ?_
    try simp only [vH22_t, vH22_f]
    refine a_aload_n (n := 21) dX5_pop_20 rfl rfl ?_
    refine a_getR (n := 24) dX5_pop_21 rfl fX5_25 (s22 hz) (r22_4 hR) ?_
    refine a_aload_n (n := 25) dX5_pop_24 rfl rfl ?_
    refine a_getI (n := 28) dX5_pop_25 rfl fX5_39 (s22 hz) ?_
    try simp only [up2_eq, vH22_eq, Nat.reduceEqDiff, Int.reduceEq, Int.reduceNeg, and_true, true_and, and_false, false_and, and_self, if_true, if_false, ite_true, ite_false, reduceIte, eq_self]
    refine a_iald (n := 29) dX5_pop_28 rfl (s27 hz) (by omega) (by omega) ?_
    try simp only [up2_eq, vH22_eq, Nat.reduceEqDiff, Int.reduceEq, Int.reduceNeg, and_true, true_and, and_false, false_and, and_self, if_true, if_false, ite_true, ite_false, reduceIte, eq_self]
    refine a_ireturn dX5_pop_29 rfl ?_
    exact ⟨rfl, rfl, rfl, rfl, rfl⟩
  · omega
set_option maxRecDepth 100000 in
set_option maxHeartbeats 4000000 in
theorem c_val22_l (hz : stZ z) (hR : stR hr) {fr to v t2 : Int} {g : Int → Int} (n : Nat) : ∀ (i t : Int) (f : Int → Int) (x5 x6 : Option aV), i + n = to → cV (hi 23) (hi 24) (hi 30) n i t f = some (v, g, t2) → a_wp G mX5_valueOf (d + 1) 8 [some (vR 22), some (vI fr), some (vI to), some (vR 30), some (vI i), x5, x6] [] z hr (vH22 hi f t) hl (fun r z' hr' hi' hl' => z' = z ∧ hr' = hr ∧ hl' = hl ∧ r = some (vI v) ∧ hi' = vH22 hi g t2) := by
  induction n with
  | zero =>
    intro i t f x5 x6 hn hrun
    refine a_iload (n := 10) dX5_valueOf_8 rfl rfl ?_
    refine a_iload_n (n := 11) dX5_valueOf_10 rfl rfl ?_
    refine a_icmp_ge (t := 104) (n := 14) dX5_valueOf_11 rfl rfl (fun c11 => ?_) (fun c11 => ?_)
    · by_cases hG : 1 ≤ t ∧ t ≤ 24
      case neg => rw [cV, if_neg hG] at hrun; cases hrun
      refine a_aload_n (n := 105) dX5_valueOf_104 rfl rfl ?_
      refine a_callV (M2 := mX5_pop) (n := 108) dX5_valueOf_105 rfl (c_pop22 (d := d) hz hR hG) kX5_pop lX5_46 iX5_pop eX5_pop (by decide) (by omega) (s22 hz) rfl (Nat.le_of_ble_eq_true rfl) (fun q105 z105 hr105 hi105 hl105 h105 => ?_)
      obtain ⟨e1105, e2105, e3105, rfl, rfl⟩ := h105
      obtain rfl := e1105.symm
      obtain rfl := e2105.symm
      obtain rfl := e3105.symm
      show a_wp G _ _ _ _ (vI _ :: _) _ _ _ _ _
      refine a_ireturn dX5_valueOf_108 rfl ?_
      rw [cV, if_pos hG] at hrun
      obtain ⟨rfl, q⟩ := Prod.mk.inj (Option.some.inj hrun)
      obtain ⟨rfl, rfl⟩ := Prod.mk.inj q
      exact ⟨rfl, rfl, rfl, rfl, rfl⟩
    · omega
  | succ n ih =>
    intro i t f x5 x6 hn hrun
    rw [cV] at hrun
    by_cases hI : 0 ≤ i ∧ i < 600
    case neg => rw [if_pos hI] at hrun; cases hrun
    rw [if_neg (not_not_intro hI)] at hrun
    refine a_iload (n := 10) dX5_valueOf_8 rfl rfl ?_
    refine a_iload_n (n := 11) dX5_valueOf_10 rfl rfl ?_
    refine a_icmp_ge (t := 104) (n := 14) dX5_valueOf_11 rfl rfl (fun c11 => ?_) (fun c11 => ?_)
    · omega
    · refine a_aload_n (n := 15) dX5_valueOf_14 rfl rfl ?_
      refine a_getR (n := 18) dX5_valueOf_15 rfl fX5_9 (s22 hz) (r22_0 hR) ?_
      refine a_iload (n := 20) dX5_valueOf_18 rfl rfl ?_
      refine a_iald (n := 21) dX5_valueOf_20 rfl (s23 hz) (by omega) (by omega) ?_
      try simp only [up2_eq, vH22_eq, Nat.reduceEqDiff, Int.reduceEq, Int.reduceNeg, and_true, true_and, and_false, false_and, and_self, if_true, if_false, ite_true, ite_false, reduceIte, eq_self]
      refine a_bipush (n := 23) dX5_valueOf_21 rfl ⟨by decide, by decide⟩ (by decide) ?_
      refine a_icmp_ge (t := 42) (n := 26) dX5_valueOf_23 rfl rfl (fun c23 => ?_) (fun c23 => ?_)
      · rw [if_neg (by omega)] at hrun
        refine a_aload_n (n := 43) dX5_valueOf_42 rfl rfl ?_
        refine a_getR (n := 46) dX5_valueOf_43 rfl fX5_9 (s22 hz) (r22_0 hR) ?_
        refine a_iload (n := 48) dX5_valueOf_46 rfl rfl ?_
        refine a_iald (n := 49) dX5_valueOf_48 rfl (s23 hz) (by omega) (by omega) ?_
        try simp only [up2_eq, vH22_eq, Nat.reduceEqDiff, Int.reduceEq, Int.reduceNeg, and_true, true_and, and_false, false_and, and_self, if_true, if_false, ite_true, ite_false, reduceIte, eq_self]
        refine a_bipush (n := 51) dX5_valueOf_49 rfl ⟨by decide, by decide⟩ (by decide) ?_
        refine a_icmp_ne (t := 68) (n := 54) dX5_valueOf_51 rfl rfl (fun c51 => ?_) (fun c51 => ?_)
        · rw [if_neg (by omega)] at hrun
          by_cases hG : 2 ≤ t ∧ t ≤ 24 ∧ (-2000000000 ≤ f (t - 2) + f (t - 1) ∧ f (t - 2) + f (t - 1) ≤ 2000000000) ∧ (-2000000000 ≤ f (t - 2) - f (t - 1) ∧ f (t - 2) - f (t - 1) ≤ 2000000000)
          case neg => rw [if_pos hG] at hrun; cases hrun
          rw [if_neg (not_not_intro hG)] at hrun
          refine a_aload_n (n := 69) dX5_valueOf_68 rfl rfl ?_
          refine a_callV (M2 := mX5_pop) (n := 72) dX5_valueOf_69 rfl (c_pop22 (d := d) hz hR ⟨by omega, hG.2.1⟩) kX5_pop lX5_46 iX5_pop eX5_pop (by decide) (by omega) (s22 hz) rfl (Nat.le_of_ble_eq_true rfl) (fun q69 z69 hr69 hi69 hl69 h69 => ?_)
          obtain ⟨e169, e269, e369, rfl, rfl⟩ := h69
          obtain rfl := e169.symm
          obtain rfl := e269.symm
          obtain rfl := e369.symm
          show a_wp G _ _ _ _ (vI _ :: _) _ _ _ _ _
          refine b_istore (n := 74) dX5_valueOf_72 rfl (by decide) rfl ?_
          refine a_aload_n (n := 75) dX5_valueOf_74 rfl rfl ?_
          refine a_callV (M2 := mX5_pop) (n := 78) dX5_valueOf_75 rfl (c_pop22 (d := d) hz hR ⟨by omega, by omega⟩) kX5_pop lX5_46 iX5_pop eX5_pop (by decide) (by omega) (s22 hz) rfl (Nat.le_of_ble_eq_true rfl) (fun q75 z75 hr75 hi75 hl75 h75 => ?_)
          obtain ⟨e175, e275, e375, rfl, rfl⟩ := h75
          obtain rfl := e175.symm
          obtain rfl := e275.symm
          obtain rfl := e375.symm
          show a_wp G _ _ _ _ (vI _ :: _) _ _ _ _ _
          refine b_istore (n := 80) dX5_valueOf_78 rfl (by decide) rfl ?_
          refine a_aload_n (n := 81) dX5_valueOf_80 rfl rfl ?_
          refine a_aload_n (n := 82) dX5_valueOf_81 rfl rfl ?_
          refine a_getR (n := 85) dX5_valueOf_82 rfl fX5_9 (s22 hz) (r22_0 hR) ?_
          refine a_iload (n := 87) dX5_valueOf_85 rfl rfl ?_
          refine a_iald (n := 88) dX5_valueOf_87 rfl (s23 hz) (by omega) (by omega) ?_
          try simp only [up2_eq, vH22_eq, Nat.reduceEqDiff, Int.reduceEq, Int.reduceNeg, and_true, true_and, and_false, false_and, and_self, if_true, if_false, ite_true, ite_false, reduceIte, eq_self]
          refine a_iload (n := 90) dX5_valueOf_88 rfl rfl ?_
          refine a_iload (n := 92) dX5_valueOf_90 rfl rfl ?_
          refine a_callS (M2 := mX5_joined) (n := 95) dX5_valueOf_92 rfl (c_joined (d := d) (by rw [show t - 1 - 1 = t - 2 by omega]; exact hG.2.2.1) (by rw [show t - 1 - 1 = t - 2 by omega]; exact hG.2.2.2)) kX5_joined lX5_50 sX5_joined (by omega) rfl (Nat.le_of_ble_eq_true rfl) (fun q92 z92 hr92 hi92 hl92 h92 => ?_)
          obtain ⟨e192, e292, e392, e492, rfl⟩ := h92
          obtain rfl := e192.symm
          obtain rfl := e292.symm
          obtain rfl := e392.symm
          obtain rfl := e492.symm
          show a_wp G _ _ _ _ (vI _ :: _) _ _ _ _ _
          refine a_callV (M2 := mX5_push) (n := 98) dX5_valueOf_95 rfl (c_push22 (d := d) hz hR ⟨by omega, by omega⟩) kX5_push lX5_42 iX5_push eX5_push (by decide) (by omega) (s22 hz) rfl (Nat.le_of_ble_eq_true rfl) (fun q95 z95 hr95 hi95 hl95 h95 => ?_)
          obtain ⟨e195, e295, e395, rfl, rfl⟩ := h95
          obtain rfl := e195.symm
          obtain rfl := e295.symm
          obtain rfl := e395.symm
          show a_wp G _ _ _ _ [] _ _ _ _ _
          refine b_iinc (n := 101) dX5_valueOf_98 rfl (by decide) rfl rfl ⟨by omega, by omega⟩ ?_
          refine a_goto (t := 8) dX5_valueOf_101 rfl ?_
          rw [show t - 1 - 1 = t - 2 by omega, show t - 2 + 1 = t - 1 by omega]
          exact ih (i + 1) _ _ _ _ (by omega) hrun
        · rw [if_pos (by omega)] at hrun
          by_cases hG : 0 ≤ t ∧ t < 24
          case neg => rw [if_pos hG] at hrun; cases hrun
          rw [if_neg (not_not_intro hG)] at hrun
          refine a_aload_n (n := 55) dX5_valueOf_54 rfl rfl ?_
          refine a_aload_n (n := 56) dX5_valueOf_55 rfl rfl ?_
          refine a_getR (n := 59) dX5_valueOf_56 rfl fX5_15 (s22 hz) (r22_1 hR) ?_
          refine a_iload (n := 61) dX5_valueOf_59 rfl rfl ?_
          refine a_iald (n := 62) dX5_valueOf_61 rfl (s24 hz) (by omega) (by omega) ?_
          try simp only [up2_eq, vH22_eq, Nat.reduceEqDiff, Int.reduceEq, Int.reduceNeg, and_true, true_and, and_false, false_and, and_self, if_true, if_false, ite_true, ite_false, reduceIte, eq_self]
          refine a_callV (M2 := mX5_push) (n := 65) dX5_valueOf_62 rfl (c_push22 (d := d) hz hR hG) kX5_push lX5_42 iX5_push eX5_push (by decide) (by omega) (s22 hz) rfl (Nat.le_of_ble_eq_true rfl) (fun q62 z62 hr62 hi62 hl62 h62 => ?_)
          obtain ⟨e162, e262, e362, rfl, rfl⟩ := h62
          obtain rfl := e162.symm
          obtain rfl := e262.symm
          obtain rfl := e362.symm
          show a_wp G _ _ _ _ [] _ _ _ _ _
          refine a_goto (t := 98) dX5_valueOf_65 rfl ?_
          refine b_iinc (n := 101) dX5_valueOf_98 rfl (by decide) rfl rfl ⟨by omega, by omega⟩ ?_
          refine a_goto (t := 8) dX5_valueOf_101 rfl ?_
          exact ih (i + 1) _ _ _ _ (by omega) hrun
      · rw [if_pos (show hi 23 i < 7 by omega)] at hrun
        by_cases hG : 0 ≤ hi 23 i ∧ 0 ≤ t ∧ t < 24
        case neg => rw [if_pos hG] at hrun; cases hrun
        rw [if_neg (not_not_intro hG)] at hrun
        refine a_aload_n (n := 27) dX5_valueOf_26 rfl rfl ?_
        refine a_aload_n (n := 28) dX5_valueOf_27 rfl rfl ?_
        refine a_aload_n (n := 29) dX5_valueOf_28 rfl rfl ?_
        refine a_getR (n := 32) dX5_valueOf_29 rfl fX5_9 (s22 hz) (r22_0 hR) ?_
        refine a_iload (n := 34) dX5_valueOf_32 rfl rfl ?_
        refine a_iald (n := 35) dX5_valueOf_34 rfl (s23 hz) (by omega) (by omega) ?_
        try simp only [up2_eq, vH22_eq, Nat.reduceEqDiff, Int.reduceEq, Int.reduceNeg, and_true, true_and, and_false, false_and, and_self, if_true, if_false, ite_true, ite_false, reduceIte, eq_self]
        refine a_iald (n := 36) dX5_valueOf_35 rfl (s30 hz) (by omega) (by omega) ?_
        try simp only [up2_eq, vH22_eq, Nat.reduceEqDiff, Int.reduceEq, Int.reduceNeg, and_true, true_and, and_false, false_and, and_self, if_true, if_false, ite_true, ite_false, reduceIte, eq_self]
        refine a_callV (M2 := mX5_push) (n := 39) dX5_valueOf_36 rfl (c_push22 (d := d) hz hR hG.2) kX5_push lX5_42 iX5_push eX5_push (by decide) (by omega) (s22 hz) rfl (Nat.le_of_ble_eq_true rfl) (fun q36 z36 hr36 hi36 hl36 h36 => ?_)
        obtain ⟨e136, e236, e336, rfl, rfl⟩ := h36
        obtain rfl := e136.symm
        obtain rfl := e236.symm
        obtain rfl := e336.symm
        show a_wp G _ _ _ _ [] _ _ _ _ _
        refine a_goto (t := 98) dX5_valueOf_39 rfl ?_
        refine b_iinc (n := 101) dX5_valueOf_98 rfl (by decide) rfl rfl ⟨by omega, by omega⟩ ?_
        refine a_goto (t := 8) dX5_valueOf_101 rfl ?_
        exact ih (i + 1) _ _ _ _ (by omega) hrun
set_option maxRecDepth 100000 in
set_option maxHeartbeats 4000000 in
theorem c_val22 (hz : stZ z) (hR : stR hr) {fr to v t t2 : Int} {f g : Int → Int} (hft : fr ≤ to) (hrun : cV (hi 23) (hi 24) (hi 30) (to - fr).toNat fr 0 f = some (v, g, t2)) : a_ct G mX5_valueOf (d + 1) [vR 22, vI fr, vI to, vR 30] z hr (vH22 hi f t) hl (fun r z' hr' hi' hl' => z' = z ∧ hr' = hr ∧ hl' = hl ∧ r = some (vI v) ∧ hi' = vH22 hi g t2) := by
  refine a_ct_of rfl (Nat.le_of_ble_eq_true rfl) ?_
  refine a_aload_n (n := 1) dX5_valueOf_0 rfl rfl ?_
  refine a_iconst (n := 2) dX5_valueOf_1 rfl ⟨by decide, by decide⟩ ?_
  refine a_putI (n := 5) dX5_valueOf_2 rfl fX5_39 rfl (s22 hz) (Or.inl rfl) ?_
  try simp only [vH22_t, vH22_f]
  refine a_iload_n (n := 6) dX5_valueOf_5 rfl rfl ?_
  refine b_istore (n := 8) dX5_valueOf_6 rfl (by decide) rfl ?_
  exact c_val22_l hz hR (to - fr).toNat fr 0 f none none (by omega) hrun
def vH31 (hi : aI) (f : Int → Int) (t : Int) : aI := fun b j => if b = 36 then f j else if b = 31 ∧ j = 5 then t else hi b j
theorem vH31_eq (hi : aI) (f : Int → Int) (t : Int) (b : Nat) (j : Int) : vH31 hi f t b j = if b = 36 then f j else if b = 31 ∧ j = 5 then t else hi b j := rfl
theorem vH31_0 {hi : aI} : vH31 hi (hi 36) (hi 31 5) = hi := by
  funext b j
  rw [vH31_eq]
  by_cases h : b = 36
  · rw [if_pos h, h]
  · rw [if_neg h]
    by_cases k : b = 31 ∧ j = 5
    · rw [if_pos k, k.1, k.2]
    · rw [if_neg k]
theorem vH31_t {hi : aI} {f : Int → Int} {t v : Int} : up2 (vH31 hi f t) 31 5 v = vH31 hi f v := by
  funext b j
  rw [up2_eq, vH31_eq, vH31_eq]
  by_cases k : b = 31 ∧ j = 5
  · rw [if_pos k, if_neg (by rw [k.1]; decide), if_pos k]
  · rw [if_neg k, if_neg k]
    by_cases h : b = 36
    · rw [if_pos h, if_pos h]
    · rw [if_neg h, if_neg h, if_neg k]
theorem vH31_f {hi : aI} {f : Int → Int} {t i v : Int} : up2 (vH31 hi f t) 36 i v = vH31 hi (wU f i v) t := by
  funext b j
  rw [up2_eq, vH31_eq, vH31_eq]
  by_cases h : b = 36
  · by_cases k : j = i
    · rw [if_pos ⟨h, k⟩, if_pos h, wU, if_pos k]
    · rw [if_neg (fun q => k q.2), if_pos h, if_pos h, wU, if_neg k]
  · rw [if_neg (fun q => h q.1), if_neg h, if_neg h]
set_option maxRecDepth 100000 in
set_option maxHeartbeats 4000000 in
theorem c_empty31 (hz : stZ z) (hR : stR hr) : a_ct G mX5_makeEmpty (d + 0) [vR 31] z hr hi hl (fun r z' hr' hi' hl' => z' = z ∧ hr' = hr ∧ hl' = hl ∧ r = none ∧ hi' = up2 (up2 hi 31 6 0) 31 7 0) := by
  refine a_ct_of rfl (Nat.le_of_ble_eq_true rfl) ?_
  refine a_aload_n (n := 1) dX5_makeEmpty_0 rfl rfl ?_
  refine a_iconst (n := 2) dX5_makeEmpty_1 rfl ⟨by decide, by decide⟩ ?_
  refine a_putI (n := 5) dX5_makeEmpty_2 rfl fX5_28 rfl (s31 hz) (Or.inl rfl) ?_
  refine a_aload_n (n := 6) dX5_makeEmpty_5 rfl rfl ?_
  refine a_iconst (n := 7) dX5_makeEmpty_6 rfl ⟨by decide, by decide⟩ ?_
  refine a_putI (n := 10) dX5_makeEmpty_7 rfl fX5_32 rfl (s31 hz) (Or.inl rfl) ?_
  refine a_return dX5_makeEmpty_10 rfl ?_
  exact ⟨rfl, rfl, rfl, rfl, rfl⟩
set_option maxRecDepth 100000 in
set_option maxHeartbeats 4000000 in
theorem c_addCode31 (hz : stZ z) (hR : stR hr) {k n : Int} (hl6 : 0 ≤ hi 31 6 ∧ hi 31 6 < 600) : a_ct G mX5_addCode (d + 0) [vR 31, vI k, vI n] z hr hi hl (fun r z' hr' hi' hl' => z' = z ∧ hr' = hr ∧ hl' = hl ∧ r = none ∧ hi' = up2 (up2 (up2 hi 32 (hi 31 6) k) 33 (hi 31 6) n) 31 6 (hi 31 6 + 1)) := by
  refine a_ct_of rfl (Nat.le_of_ble_eq_true rfl) ?_
  refine a_aload_n (n := 1) dX5_addCode_0 rfl rfl ?_
  refine a_getI (n := 4) dX5_addCode_1 rfl fX5_28 (s31 hz) ?_
  refine a_sipush (n := 7) dX5_addCode_4 rfl ⟨by decide, by decide⟩ (by decide) ?_
  refine a_icmp_ge (t := 40) (n := 10) dX5_addCode_7 rfl rfl (fun c7 => ?_) (fun c7 => ?_)
  · omega
  · refine a_aload_n (n := 11) dX5_addCode_10 rfl rfl ?_
    refine a_getR (n := 14) dX5_addCode_11 rfl fX5_9 (s31 hz) (r31_0 hR) ?_
    refine a_aload_n (n := 15) dX5_addCode_14 rfl rfl ?_
    refine a_getI (n := 18) dX5_addCode_15 rfl fX5_28 (s31 hz) ?_
    refine a_iload_n (n := 19) dX5_addCode_18 rfl rfl ?_
    refine a_iast (n := 20) dX5_addCode_19 rfl (s32 hz) (by omega) (by omega) ?_
    refine a_aload_n (n := 21) dX5_addCode_20 rfl rfl ?_
    refine a_getR (n := 24) dX5_addCode_21 rfl fX5_15 (s31 hz) (r31_1 hR) ?_
    refine a_aload_n (n := 25) dX5_addCode_24 rfl rfl ?_
    refine a_getI (n := 28) dX5_addCode_25 rfl fX5_28 (s31 hz) ?_
    try simp only [up2_eq, Nat.reduceEqDiff, Int.reduceEq, Int.reduceNeg, and_true, true_and, and_false, false_and, and_self, if_true, if_false, ite_true, ite_false, reduceIte, eq_self]
    refine a_iload_n (n := 29) dX5_addCode_28 rfl rfl ?_
    refine a_iast (n := 30) dX5_addCode_29 rfl (s33 hz) (by omega) (by omega) ?_
    refine a_aload_n (n := 31) dX5_addCode_30 rfl rfl ?_
    refine a_dup (n := 32) dX5_addCode_31 rfl rfl ?_
    refine a_getI (n := 35) dX5_addCode_32 rfl fX5_28 (s31 hz) ?_
    try simp only [up2_eq, Nat.reduceEqDiff, Int.reduceEq, Int.reduceNeg, and_true, true_and, and_false, false_and, and_self, if_true, if_false, ite_true, ite_false, reduceIte, eq_self]
    refine a_iconst (n := 36) dX5_addCode_35 rfl ⟨by decide, by decide⟩ ?_
    refine a_iadd (n := 37) dX5_addCode_36 rfl ⟨by omega, by omega⟩ ?_
    refine a_putI (n := 40) dX5_addCode_37 rfl fX5_28 rfl (s31 hz) (Or.inl rfl) ?_
    refine a_return dX5_addCode_40 rfl ?_
    exact ⟨rfl, rfl, rfl, rfl, rfl⟩
set_option maxRecDepth 100000 in
set_option maxHeartbeats 4000000 in
theorem c_endLine31 (hz : stZ z) (hR : stR hr) {b : Int} (hb : b = 0 ∨ b = 1) (hl7 : 0 ≤ hi 31 7 ∧ hi 31 7 < 16) : a_ct G mX5_endLine (d + 0) [vR 31, vI b] z hr hi hl (fun r z' hr' hi' hl' => z' = z ∧ hr' = hr ∧ hl' = hl ∧ r = none ∧ hi' = up2 (up2 (up2 hi 34 (hi 31 7) (hi 31 6)) 35 (hi 31 7) b) 31 7 (hi 31 7 + 1)) := by
  refine a_ct_of rfl (Nat.le_of_ble_eq_true rfl) ?_
  refine a_aload_n (n := 1) dX5_endLine_0 rfl rfl ?_
  refine a_getI (n := 4) dX5_endLine_1 rfl fX5_32 (s31 hz) ?_
  refine a_bipush (n := 6) dX5_endLine_4 rfl ⟨by decide, by decide⟩ (by decide) ?_
  refine a_icmp_ge (t := 42) (n := 9) dX5_endLine_6 rfl rfl (fun c6 => ?_) (fun c6 => ?_)
  · omega
  · refine a_aload_n (n := 10) dX5_endLine_9 rfl rfl ?_
    refine a_getR (n := 13) dX5_endLine_10 rfl fX5_18 (s31 hz) (r31_2 hR) ?_
    refine a_aload_n (n := 14) dX5_endLine_13 rfl rfl ?_
    refine a_getI (n := 17) dX5_endLine_14 rfl fX5_32 (s31 hz) ?_
    refine a_aload_n (n := 18) dX5_endLine_17 rfl rfl ?_
    refine a_getI (n := 21) dX5_endLine_18 rfl fX5_28 (s31 hz) ?_
    refine a_iast (n := 22) dX5_endLine_21 rfl (s34 hz) (by omega) (by omega) ?_
    refine a_aload_n (n := 23) dX5_endLine_22 rfl rfl ?_
    refine a_getR (n := 26) dX5_endLine_23 rfl fX5_21 (s31 hz) (r31_3 hR) ?_
    refine a_aload_n (n := 27) dX5_endLine_26 rfl rfl ?_
    refine a_getI (n := 30) dX5_endLine_27 rfl fX5_32 (s31 hz) ?_
    try simp only [up2_eq, Nat.reduceEqDiff, Int.reduceEq, Int.reduceNeg, and_true, true_and, and_false, false_and, and_self, if_true, if_false, ite_true, ite_false, reduceIte, eq_self]
    refine a_iload_n (n := 31) dX5_endLine_30 rfl rfl ?_
    refine a_zast (n := 32) dX5_endLine_31 rfl (s35 hz) (by omega) (by omega) (by omega) ?_
    refine a_aload_n (n := 33) dX5_endLine_32 rfl rfl ?_
    refine a_dup (n := 34) dX5_endLine_33 rfl rfl ?_
    refine a_getI (n := 37) dX5_endLine_34 rfl fX5_32 (s31 hz) ?_
    try simp only [up2_eq, Nat.reduceEqDiff, Int.reduceEq, Int.reduceNeg, and_true, true_and, and_false, false_and, and_self, if_true, if_false, ite_true, ite_false, reduceIte, eq_self]
    refine a_iconst (n := 38) dX5_endLine_37 rfl ⟨by decide, by decide⟩ ?_
    refine a_iadd (n := 39) dX5_endLine_38 rfl ⟨by omega, by omega⟩ ?_
    refine a_putI (n := 42) dX5_endLine_39 rfl fX5_32 rfl (s31 hz) (Or.inl rfl) ?_
    refine a_return dX5_endLine_42 rfl ?_
    exact ⟨rfl, rfl, rfl, rfl, rfl⟩
set_option maxRecDepth 100000 in
set_option maxHeartbeats 4000000 in
theorem c_push31 (hz : stZ z) (hR : stR hr) {f : Int → Int} {t v : Int} (ht : 0 ≤ t ∧ t < 24) : a_ct G mX5_push (d + 0) [vR 31, vI v] z hr (vH31 hi f t) hl (fun r z' hr' hi' hl' => z' = z ∧ hr' = hr ∧ hl' = hl ∧ r = none ∧ hi' = vH31 hi (wU f t v) (t + 1)) := by
  refine a_ct_of rfl (Nat.le_of_ble_eq_true rfl) ?_
  refine a_aload_n (n := 1) dX5_push_0 rfl rfl ?_
  refine a_getI (n := 4) dX5_push_1 rfl fX5_39 (s31 hz) ?_
  try simp only [up2_eq, vH31_eq, Nat.reduceEqDiff, Int.reduceEq, Int.reduceNeg, and_true, true_and, and_false, false_and, and_self, if_true, if_false, ite_true, ite_false, reduceIte, eq_self]
  refine a_bipush (n := 6) dX5_push_4 rfl ⟨by decide, by decide⟩ (by decide) ?_
  refine a_icmp_ge (t := 29) (n := 9) dX5_push_6 rfl rfl (fun c6 => ?_) (fun c6 => ?_)
  · omega
  · refine a_aload_n (n := 10) dX5_push_9 rfl rfl ?_
    refine a_getR (n := 13) dX5_push_10 rfl fX5_25 (s31 hz) (r31_4 hR) ?_
    refine a_aload_n (n := 14) dX5_push_13 rfl rfl ?_
    refine a_getI (n := 17) dX5_push_14 rfl fX5_39 (s31 hz) ?_
    try simp only [up2_eq, vH31_eq, Nat.reduceEqDiff, Int.reduceEq, Int.reduceNeg, and_true, true_and, and_false, false_and, and_self, if_true, if_false, ite_true, ite_false, reduceIte, eq_self]
    refine a_iload_n (n := 18) dX5_push_17 rfl rfl ?_
    refine a_iast (n := 19) dX5_push_18 rfl (s36 hz) (by omega) (by omega) ?_
    try simp only [vH31_t, vH31_f]
    refine a_aload_n (n := 20) dX5_push_19 rfl rfl ?_
    refine a_dup (n := 21) dX5_push_20 rfl rfl ?_
    refine a_getI (n := 24) dX5_push_21 rfl fX5_39 (s31 hz) ?_
    try simp only [up2_eq, vH31_eq, Nat.reduceEqDiff, Int.reduceEq, Int.reduceNeg, and_true, true_and, and_false, false_and, and_self, if_true, if_false, ite_true, ite_false, reduceIte, eq_self]
    refine a_iconst (n := 25) dX5_push_24 rfl ⟨by decide, by decide⟩ ?_
    refine a_iadd (n := 26) dX5_push_25 rfl ⟨by omega, by omega⟩ ?_
    refine a_putI (n := 29) dX5_push_26 rfl fX5_39 rfl (s31 hz) (Or.inl rfl) ?_
    try simp only [vH31_t, vH31_f]
    refine a_return dX5_push_29 rfl ?_
    exact ⟨rfl, rfl, rfl, rfl, rfl⟩
set_option maxRecDepth 100000 in
set_option maxHeartbeats 4000000 in
theorem c_pop31 (hz : stZ z) (hR : stR hr) {f : Int → Int} {t : Int} (ht : 1 ≤ t ∧ t ≤ 24) : a_ct G mX5_pop (d + 0) [vR 31] z hr (vH31 hi f t) hl (fun r z' hr' hi' hl' => z' = z ∧ hr' = hr ∧ hl' = hl ∧ r = some (vI (f (t - 1))) ∧ hi' = vH31 hi f (t - 1)) := by
  refine a_ct_of rfl (Nat.le_of_ble_eq_true rfl) ?_
  refine a_aload_n (n := 1) dX5_pop_0 rfl rfl ?_
  refine a_getI (n := 4) dX5_pop_1 rfl fX5_39 (s31 hz) ?_
  try simp only [up2_eq, vH31_eq, Nat.reduceEqDiff, Int.reduceEq, Int.reduceNeg, and_true, true_and, and_false, false_and, and_self, if_true, if_false, ite_true, ite_false, reduceIte, eq_self]
  refine a_iconst (n := 5) dX5_pop_4 rfl ⟨by decide, by decide⟩ ?_
  refine a_icmp_ge (t := 10) (n := 8) dX5_pop_5 rfl rfl (fun c5 => ?_) (fun c5 => ?_)
  · refine a_aload_n (n := 11) dX5_pop_10 rfl rfl ?_
    refine a_dup (n := 12) dX5_pop_11 rfl rfl ?_
    refine a_getI (n := 15) dX5_pop_12 rfl fX5_39 (s31 hz) ?_
    try simp only [up2_eq, vH31_eq, Nat.reduceEqDiff, Int.reduceEq, Int.reduceNeg, and_true, true_and, and_false, false_and, and_self, if_true, if_false, ite_true, ite_false, reduceIte, eq_self]
    refine a_iconst (n := 16) dX5_pop_15 rfl ⟨by decide, by decide⟩ ?_
    refine a_isub (n := 17) dX5_pop_16 rfl ⟨by omega, by omega⟩ ?_
    refine a_putI (n := 20) dX5_pop_17 rfl fX5_39 rfl (s31 hz) (Or.inl rfl) ?_
    try simp only [vH31_t, vH31_f]
    refine a_aload_n (n := 21) dX5_pop_20 rfl rfl ?_
    refine a_getR (n := 24) dX5_pop_21 rfl fX5_25 (s31 hz) (r31_4 hR) ?_
    refine a_aload_n (n := 25) dX5_pop_24 rfl rfl ?_
    refine a_getI (n := 28) dX5_pop_25 rfl fX5_39 (s31 hz) ?_
    try simp only [up2_eq, vH31_eq, Nat.reduceEqDiff, Int.reduceEq, Int.reduceNeg, and_true, true_and, and_false, false_and, and_self, if_true, if_false, ite_true, ite_false, reduceIte, eq_self]
    refine a_iald (n := 29) dX5_pop_28 rfl (s36 hz) (by omega) (by omega) ?_
    try simp only [up2_eq, vH31_eq, Nat.reduceEqDiff, Int.reduceEq, Int.reduceNeg, and_true, true_and, and_false, false_and, and_self, if_true, if_false, ite_true, ite_false, reduceIte, eq_self]
    refine a_ireturn dX5_pop_29 rfl ?_
    exact ⟨rfl, rfl, rfl, rfl, rfl⟩
  · omega
set_option maxRecDepth 100000 in
set_option maxHeartbeats 4000000 in
theorem c_val31_l (hz : stZ z) (hR : stR hr) {fr to v t2 : Int} {g : Int → Int} (n : Nat) : ∀ (i t : Int) (f : Int → Int) (x5 x6 : Option aV), i + n = to → cV (hi 32) (hi 33) (hi 30) n i t f = some (v, g, t2) → a_wp G mX5_valueOf (d + 1) 8 [some (vR 31), some (vI fr), some (vI to), some (vR 30), some (vI i), x5, x6] [] z hr (vH31 hi f t) hl (fun r z' hr' hi' hl' => z' = z ∧ hr' = hr ∧ hl' = hl ∧ r = some (vI v) ∧ hi' = vH31 hi g t2) := by
  induction n with
  | zero =>
    intro i t f x5 x6 hn hrun
    refine a_iload (n := 10) dX5_valueOf_8 rfl rfl ?_
    refine a_iload_n (n := 11) dX5_valueOf_10 rfl rfl ?_
    refine a_icmp_ge (t := 104) (n := 14) dX5_valueOf_11 rfl rfl (fun c11 => ?_) (fun c11 => ?_)
    · by_cases hG : 1 ≤ t ∧ t ≤ 24
      case neg => rw [cV, if_neg hG] at hrun; cases hrun
      refine a_aload_n (n := 105) dX5_valueOf_104 rfl rfl ?_
      refine a_callV (M2 := mX5_pop) (n := 108) dX5_valueOf_105 rfl (c_pop31 (d := d) hz hR hG) kX5_pop lX5_46 iX5_pop eX5_pop (by decide) (by omega) (s31 hz) rfl (Nat.le_of_ble_eq_true rfl) (fun q105 z105 hr105 hi105 hl105 h105 => ?_)
      obtain ⟨e1105, e2105, e3105, rfl, rfl⟩ := h105
      obtain rfl := e1105.symm
      obtain rfl := e2105.symm
      obtain rfl := e3105.symm
      show a_wp G _ _ _ _ (vI _ :: _) _ _ _ _ _
      refine a_ireturn dX5_valueOf_108 rfl ?_
      rw [cV, if_pos hG] at hrun
      obtain ⟨rfl, q⟩ := Prod.mk.inj (Option.some.inj hrun)
      obtain ⟨rfl, rfl⟩ := Prod.mk.inj q
      exact ⟨rfl, rfl, rfl, rfl, rfl⟩
    · omega
  | succ n ih =>
    intro i t f x5 x6 hn hrun
    rw [cV] at hrun
    by_cases hI : 0 ≤ i ∧ i < 600
    case neg => rw [if_pos hI] at hrun; cases hrun
    rw [if_neg (not_not_intro hI)] at hrun
    refine a_iload (n := 10) dX5_valueOf_8 rfl rfl ?_
    refine a_iload_n (n := 11) dX5_valueOf_10 rfl rfl ?_
    refine a_icmp_ge (t := 104) (n := 14) dX5_valueOf_11 rfl rfl (fun c11 => ?_) (fun c11 => ?_)
    · omega
    · refine a_aload_n (n := 15) dX5_valueOf_14 rfl rfl ?_
      refine a_getR (n := 18) dX5_valueOf_15 rfl fX5_9 (s31 hz) (r31_0 hR) ?_
      refine a_iload (n := 20) dX5_valueOf_18 rfl rfl ?_
      refine a_iald (n := 21) dX5_valueOf_20 rfl (s32 hz) (by omega) (by omega) ?_
      try simp only [up2_eq, vH31_eq, Nat.reduceEqDiff, Int.reduceEq, Int.reduceNeg, and_true, true_and, and_false, false_and, and_self, if_true, if_false, ite_true, ite_false, reduceIte, eq_self]
      refine a_bipush (n := 23) dX5_valueOf_21 rfl ⟨by decide, by decide⟩ (by decide) ?_
      refine a_icmp_ge (t := 42) (n := 26) dX5_valueOf_23 rfl rfl (fun c23 => ?_) (fun c23 => ?_)
      · rw [if_neg (by omega)] at hrun
        refine a_aload_n (n := 43) dX5_valueOf_42 rfl rfl ?_
        refine a_getR (n := 46) dX5_valueOf_43 rfl fX5_9 (s31 hz) (r31_0 hR) ?_
        refine a_iload (n := 48) dX5_valueOf_46 rfl rfl ?_
        refine a_iald (n := 49) dX5_valueOf_48 rfl (s32 hz) (by omega) (by omega) ?_
        try simp only [up2_eq, vH31_eq, Nat.reduceEqDiff, Int.reduceEq, Int.reduceNeg, and_true, true_and, and_false, false_and, and_self, if_true, if_false, ite_true, ite_false, reduceIte, eq_self]
        refine a_bipush (n := 51) dX5_valueOf_49 rfl ⟨by decide, by decide⟩ (by decide) ?_
        refine a_icmp_ne (t := 68) (n := 54) dX5_valueOf_51 rfl rfl (fun c51 => ?_) (fun c51 => ?_)
        · rw [if_neg (by omega)] at hrun
          by_cases hG : 2 ≤ t ∧ t ≤ 24 ∧ (-2000000000 ≤ f (t - 2) + f (t - 1) ∧ f (t - 2) + f (t - 1) ≤ 2000000000) ∧ (-2000000000 ≤ f (t - 2) - f (t - 1) ∧ f (t - 2) - f (t - 1) ≤ 2000000000)
          case neg => rw [if_pos hG] at hrun; cases hrun
          rw [if_neg (not_not_intro hG)] at hrun
          refine a_aload_n (n := 69) dX5_valueOf_68 rfl rfl ?_
          refine a_callV (M2 := mX5_pop) (n := 72) dX5_valueOf_69 rfl (c_pop31 (d := d) hz hR ⟨by omega, hG.2.1⟩) kX5_pop lX5_46 iX5_pop eX5_pop (by decide) (by omega) (s31 hz) rfl (Nat.le_of_ble_eq_true rfl) (fun q69 z69 hr69 hi69 hl69 h69 => ?_)
          obtain ⟨e169, e269, e369, rfl, rfl⟩ := h69
          obtain rfl := e169.symm
          obtain rfl := e269.symm
          obtain rfl := e369.symm
          show a_wp G _ _ _ _ (vI _ :: _) _ _ _ _ _
          refine b_istore (n := 74) dX5_valueOf_72 rfl (by decide) rfl ?_
          refine a_aload_n (n := 75) dX5_valueOf_74 rfl rfl ?_
          refine a_callV (M2 := mX5_pop) (n := 78) dX5_valueOf_75 rfl (c_pop31 (d := d) hz hR ⟨by omega, by omega⟩) kX5_pop lX5_46 iX5_pop eX5_pop (by decide) (by omega) (s31 hz) rfl (Nat.le_of_ble_eq_true rfl) (fun q75 z75 hr75 hi75 hl75 h75 => ?_)
          obtain ⟨e175, e275, e375, rfl, rfl⟩ := h75
          obtain rfl := e175.symm
          obtain rfl := e275.symm
          obtain rfl := e375.symm
          show a_wp G _ _ _ _ (vI _ :: _) _ _ _ _ _
          refine b_istore (n := 80) dX5_valueOf_78 rfl (by decide) rfl ?_
          refine a_aload_n (n := 81) dX5_valueOf_80 rfl rfl ?_
          refine a_aload_n (n := 82) dX5_valueOf_81 rfl rfl ?_
          refine a_getR (n := 85) dX5_valueOf_82 rfl fX5_9 (s31 hz) (r31_0 hR) ?_
          refine a_iload (n := 87) dX5_valueOf_85 rfl rfl ?_
          refine a_iald (n := 88) dX5_valueOf_87 rfl (s32 hz) (by omega) (by omega) ?_
          try simp only [up2_eq, vH31_eq, Nat.reduceEqDiff, Int.reduceEq, Int.reduceNeg, and_true, true_and, and_false, false_and, and_self, if_true, if_false, ite_true, ite_false, reduceIte, eq_self]
          refine a_iload (n := 90) dX5_valueOf_88 rfl rfl ?_
          refine a_iload (n := 92) dX5_valueOf_90 rfl rfl ?_
          refine a_callS (M2 := mX5_joined) (n := 95) dX5_valueOf_92 rfl (c_joined (d := d) (by rw [show t - 1 - 1 = t - 2 by omega]; exact hG.2.2.1) (by rw [show t - 1 - 1 = t - 2 by omega]; exact hG.2.2.2)) kX5_joined lX5_50 sX5_joined (by omega) rfl (Nat.le_of_ble_eq_true rfl) (fun q92 z92 hr92 hi92 hl92 h92 => ?_)
          obtain ⟨e192, e292, e392, e492, rfl⟩ := h92
          obtain rfl := e192.symm
          obtain rfl := e292.symm
          obtain rfl := e392.symm
          obtain rfl := e492.symm
          show a_wp G _ _ _ _ (vI _ :: _) _ _ _ _ _
          refine a_callV (M2 := mX5_push) (n := 98) dX5_valueOf_95 rfl (c_push31 (d := d) hz hR ⟨by omega, by omega⟩) kX5_push lX5_42 iX5_push eX5_push (by decide) (by omega) (s31 hz) rfl (Nat.le_of_ble_eq_true rfl) (fun q95 z95 hr95 hi95 hl95 h95 => ?_)
          obtain ⟨e195, e295, e395, rfl, rfl⟩ := h95
          obtain rfl := e195.symm
          obtain rfl := e295.symm
          obtain rfl := e395.symm
          show a_wp G _ _ _ _ [] _ _ _ _ _
          refine b_iinc (n := 101) dX5_valueOf_98 rfl (by decide) rfl rfl ⟨by omega, by omega⟩ ?_
          refine a_goto (t := 8) dX5_valueOf_101 rfl ?_
          rw [show t - 1 - 1 = t - 2 by omega, show t - 2 + 1 = t - 1 by omega]
          exact ih (i + 1) _ _ _ _ (by omega) hrun
        · rw [if_pos (by omega)] at hrun
          by_cases hG : 0 ≤ t ∧ t < 24
          case neg => rw [if_pos hG] at hrun; cases hrun
          rw [if_neg (not_not_intro hG)] at hrun
          refine a_aload_n (n := 55) dX5_valueOf_54 rfl rfl ?_
          refine a_aload_n (n := 56) dX5_valueOf_55 rfl rfl ?_
          refine a_getR (n := 59) dX5_valueOf_56 rfl fX5_15 (s31 hz) (r31_1 hR) ?_
          refine a_iload (n := 61) dX5_valueOf_59 rfl rfl ?_
          refine a_iald (n := 62) dX5_valueOf_61 rfl (s33 hz) (by omega) (by omega) ?_
          try simp only [up2_eq, vH31_eq, Nat.reduceEqDiff, Int.reduceEq, Int.reduceNeg, and_true, true_and, and_false, false_and, and_self, if_true, if_false, ite_true, ite_false, reduceIte, eq_self]
          refine a_callV (M2 := mX5_push) (n := 65) dX5_valueOf_62 rfl (c_push31 (d := d) hz hR hG) kX5_push lX5_42 iX5_push eX5_push (by decide) (by omega) (s31 hz) rfl (Nat.le_of_ble_eq_true rfl) (fun q62 z62 hr62 hi62 hl62 h62 => ?_)
          obtain ⟨e162, e262, e362, rfl, rfl⟩ := h62
          obtain rfl := e162.symm
          obtain rfl := e262.symm
          obtain rfl := e362.symm
          show a_wp G _ _ _ _ [] _ _ _ _ _
          refine a_goto (t := 98) dX5_valueOf_65 rfl ?_
          refine b_iinc (n := 101) dX5_valueOf_98 rfl (by decide) rfl rfl ⟨by omega, by omega⟩ ?_
          refine a_goto (t := 8) dX5_valueOf_101 rfl ?_
          exact ih (i + 1) _ _ _ _ (by omega) hrun
      · rw [if_pos (show hi 32 i < 7 by omega)] at hrun
        by_cases hG : 0 ≤ hi 32 i ∧ 0 ≤ t ∧ t < 24
        case neg => rw [if_pos hG] at hrun; cases hrun
        rw [if_neg (not_not_intro hG)] at hrun
        refine a_aload_n (n := 27) dX5_valueOf_26 rfl rfl ?_
        refine a_aload_n (n := 28) dX5_valueOf_27 rfl rfl ?_
        refine a_aload_n (n := 29) dX5_valueOf_28 rfl rfl ?_
        refine a_getR (n := 32) dX5_valueOf_29 rfl fX5_9 (s31 hz) (r31_0 hR) ?_
        refine a_iload (n := 34) dX5_valueOf_32 rfl rfl ?_
        refine a_iald (n := 35) dX5_valueOf_34 rfl (s32 hz) (by omega) (by omega) ?_
        try simp only [up2_eq, vH31_eq, Nat.reduceEqDiff, Int.reduceEq, Int.reduceNeg, and_true, true_and, and_false, false_and, and_self, if_true, if_false, ite_true, ite_false, reduceIte, eq_self]
        refine a_iald (n := 36) dX5_valueOf_35 rfl (s30 hz) (by omega) (by omega) ?_
        try simp only [up2_eq, vH31_eq, Nat.reduceEqDiff, Int.reduceEq, Int.reduceNeg, and_true, true_and, and_false, false_and, and_self, if_true, if_false, ite_true, ite_false, reduceIte, eq_self]
        refine a_callV (M2 := mX5_push) (n := 39) dX5_valueOf_36 rfl (c_push31 (d := d) hz hR hG.2) kX5_push lX5_42 iX5_push eX5_push (by decide) (by omega) (s31 hz) rfl (Nat.le_of_ble_eq_true rfl) (fun q36 z36 hr36 hi36 hl36 h36 => ?_)
        obtain ⟨e136, e236, e336, rfl, rfl⟩ := h36
        obtain rfl := e136.symm
        obtain rfl := e236.symm
        obtain rfl := e336.symm
        show a_wp G _ _ _ _ [] _ _ _ _ _
        refine a_goto (t := 98) dX5_valueOf_39 rfl ?_
        refine b_iinc (n := 101) dX5_valueOf_98 rfl (by decide) rfl rfl ⟨by omega, by omega⟩ ?_
        refine a_goto (t := 8) dX5_valueOf_101 rfl ?_
        exact ih (i + 1) _ _ _ _ (by omega) hrun
set_option maxRecDepth 100000 in
set_option maxHeartbeats 4000000 in
theorem c_val31 (hz : stZ z) (hR : stR hr) {fr to v t t2 : Int} {f g : Int → Int} (hft : fr ≤ to) (hrun : cV (hi 32) (hi 33) (hi 30) (to - fr).toNat fr 0 f = some (v, g, t2)) : a_ct G mX5_valueOf (d + 1) [vR 31, vI fr, vI to, vR 30] z hr (vH31 hi f t) hl (fun r z' hr' hi' hl' => z' = z ∧ hr' = hr ∧ hl' = hl ∧ r = some (vI v) ∧ hi' = vH31 hi g t2) := by
  refine a_ct_of rfl (Nat.le_of_ble_eq_true rfl) ?_
  refine a_aload_n (n := 1) dX5_valueOf_0 rfl rfl ?_
  refine a_iconst (n := 2) dX5_valueOf_1 rfl ⟨by decide, by decide⟩ ?_
  refine a_putI (n := 5) dX5_valueOf_2 rfl fX5_39 rfl (s31 hz) (Or.inl rfl) ?_
  try simp only [vH31_t, vH31_f]
  refine a_iload_n (n := 6) dX5_valueOf_5 rfl rfl ?_
  refine b_istore (n := 8) dX5_valueOf_6 rfl (by decide) rfl ?_
  exact c_val31_l hz hR (to - fr).toNat fr 0 f none none (by omega) hrun
end C7
