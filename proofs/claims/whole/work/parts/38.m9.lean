section M9
variable {G : aG} {d : Nat} {z : aZ} {hr : aR} {hi hl : aI}
theorem b_cmp0 {x y : Int} : b_cmp x y = 0 ↔ x = y := by
  unfold b_cmp
  split
  · exact ⟨fun h => absurd h (by decide), fun h => by omega⟩
  · split
    · rename_i h; exact ⟨fun _ => h, fun _ => rfl⟩
    · rename_i h; exact ⟨fun q => absurd q (by decide), fun q => absurd q h⟩
set_option maxRecDepth 100000 in
set_option maxHeartbeats 4000000 in
theorem m_emit (hz : stZ z) (hR : stR hr) {c a : Int} (hn : 0 ≤ hi 37 16 ∧ hi 37 16 ≤ 1) (hc : 0 ≤ hi 37 17 ∧ hi 37 17 < 660) : a_ct G mX10_emit (d + 0) [vR 37, vI c, vI a] z hr hi hl (fun r z' hr' hi' hl' => z' = z ∧ hr' = hr ∧ hl' = hl ∧ r = none ∧ hi' = up2 (up2 (up2 hi 46 (660 * hi 37 16 + hi 37 17) c) 47 (660 * hi 37 16 + hi 37 17) a) 37 17 (hi 37 17 + 1)) := by
  refine a_ct_of rfl (Nat.le_of_ble_eq_true rfl) ?_
  refine a_aload_n (n := 1) dX10_emit_0 rfl rfl ?_
  refine a_getR (n := 4) dX10_emit_1 rfl fX10_69 (s37 hz) (r37_13 hR) ?_
  refine a_sipush (n := 7) dX10_emit_4 rfl ⟨by decide, by decide⟩ (by decide) ?_
  refine a_aload_n (n := 8) dX10_emit_7 rfl rfl ?_
  refine a_getI (n := 11) dX10_emit_8 rfl fX10_210 (s37 hz) ?_
  refine a_imul (n := 12) dX10_emit_11 rfl ⟨by omega, by omega⟩ ?_
  refine a_aload_n (n := 13) dX10_emit_12 rfl rfl ?_
  refine a_getI (n := 16) dX10_emit_13 rfl fX10_213 (s37 hz) ?_
  refine a_iadd (n := 17) dX10_emit_16 rfl ⟨by omega, by omega⟩ ?_
  refine a_iload_n (n := 18) dX10_emit_17 rfl rfl ?_
  refine a_iast (n := 19) dX10_emit_18 rfl (s46 hz) (by omega) (by omega) ?_
  refine a_aload_n (n := 20) dX10_emit_19 rfl rfl ?_
  refine a_getR (n := 23) dX10_emit_20 rfl fX10_72 (s37 hz) (r37_14 hR) ?_
  refine a_sipush (n := 26) dX10_emit_23 rfl ⟨by decide, by decide⟩ (by decide) ?_
  refine a_aload_n (n := 27) dX10_emit_26 rfl rfl ?_
  refine a_getI (n := 30) dX10_emit_27 rfl fX10_210 (s37 hz) ?_
  try simp only [up2_eq, Nat.reduceEqDiff, Int.reduceEq, Int.reduceNeg, and_true, true_and, and_false, false_and, and_self, if_true, if_false, ite_true, ite_false, reduceIte, eq_self]
  refine a_imul (n := 31) dX10_emit_30 rfl ⟨by omega, by omega⟩ ?_
  refine a_aload_n (n := 32) dX10_emit_31 rfl rfl ?_
  refine a_getI (n := 35) dX10_emit_32 rfl fX10_213 (s37 hz) ?_
  try simp only [up2_eq, Nat.reduceEqDiff, Int.reduceEq, Int.reduceNeg, and_true, true_and, and_false, false_and, and_self, if_true, if_false, ite_true, ite_false, reduceIte, eq_self]
  refine a_iadd (n := 36) dX10_emit_35 rfl ⟨by omega, by omega⟩ ?_
  refine a_iload_n (n := 37) dX10_emit_36 rfl rfl ?_
  refine a_iast (n := 38) dX10_emit_37 rfl (s47 hz) (by omega) (by omega) ?_
  refine a_aload_n (n := 39) dX10_emit_38 rfl rfl ?_
  refine a_dup (n := 40) dX10_emit_39 rfl rfl ?_
  refine a_getI (n := 43) dX10_emit_40 rfl fX10_213 (s37 hz) ?_
  try simp only [up2_eq, Nat.reduceEqDiff, Int.reduceEq, Int.reduceNeg, and_true, true_and, and_false, false_and, and_self, if_true, if_false, ite_true, ite_false, reduceIte, eq_self]
  refine a_iconst (n := 44) dX10_emit_43 rfl ⟨by decide, by decide⟩ ?_
  refine a_iadd (n := 45) dX10_emit_44 rfl ⟨by omega, by omega⟩ ?_
  refine a_putI (n := 48) dX10_emit_45 rfl fX10_213 rfl (s37 hz) (Or.inl rfl) ?_
  refine a_return dX10_emit_48 rfl ?_
  exact ⟨rfl, rfl, rfl, rfl, rfl⟩
set_option maxRecDepth 100000 in
set_option maxHeartbeats 4000000 in
theorem m_opens (hz : stZ z) (hR : stR hr) (hd : 0 ≤ hi 37 18 ∧ hi 37 18 < 7) : a_ct G mX10_opens (d + 0) [vR 37] z hr hi hl (fun r z' hr' hi' hl' => z' = z ∧ hr' = hr ∧ hl' = hl ∧ r = none ∧ hi' = up2 (up2 (up2 hi 48 (hi 37 18) 0) 49 (hi 37 18) 0) 50 (hi 37 18) 0) := by
  refine a_ct_of rfl (Nat.le_of_ble_eq_true rfl) ?_
  refine a_aload_n (n := 1) dX10_opens_0 rfl rfl ?_
  refine a_getR (n := 4) dX10_opens_1 rfl fX10_75 (s37 hz) (r37_19 hR) ?_
  refine a_aload_n (n := 5) dX10_opens_4 rfl rfl ?_
  refine a_getI (n := 8) dX10_opens_5 rfl fX10_228 (s37 hz) ?_
  refine a_iconst (n := 9) dX10_opens_8 rfl ⟨by decide, by decide⟩ ?_
  refine a_iast (n := 10) dX10_opens_9 rfl (s48 hz) (by omega) (by omega) ?_
  refine a_aload_n (n := 11) dX10_opens_10 rfl rfl ?_
  refine a_getR (n := 14) dX10_opens_11 rfl fX10_78 (s37 hz) (r37_20 hR) ?_
  refine a_aload_n (n := 15) dX10_opens_14 rfl rfl ?_
  refine a_getI (n := 18) dX10_opens_15 rfl fX10_228 (s37 hz) ?_
  try simp only [up2_eq, Nat.reduceEqDiff, Int.reduceEq, Int.reduceNeg, and_true, true_and, and_false, false_and, and_self, if_true, if_false, ite_true, ite_false, reduceIte, eq_self]
  refine a_iconst (n := 19) dX10_opens_18 rfl ⟨by decide, by decide⟩ ?_
  refine a_iast (n := 20) dX10_opens_19 rfl (s49 hz) (by omega) (by omega) ?_
  refine a_aload_n (n := 21) dX10_opens_20 rfl rfl ?_
  refine a_getR (n := 24) dX10_opens_21 rfl fX10_81 (s37 hz) (r37_21 hR) ?_
  refine a_aload_n (n := 25) dX10_opens_24 rfl rfl ?_
  refine a_getI (n := 28) dX10_opens_25 rfl fX10_228 (s37 hz) ?_
  try simp only [up2_eq, Nat.reduceEqDiff, Int.reduceEq, Int.reduceNeg, and_true, true_and, and_false, false_and, and_self, if_true, if_false, ite_true, ite_false, reduceIte, eq_self]
  refine a_iconst (n := 29) dX10_opens_28 rfl ⟨by decide, by decide⟩ ?_
  refine a_iast (n := 30) dX10_opens_29 rfl (s50 hz) (by omega) (by omega) ?_
  refine a_return dX10_opens_30 rfl ?_
  exact ⟨rfl, rfl, rfl, rfl, rfl⟩
set_option maxRecDepth 100000 in
set_option maxHeartbeats 4000000 in
theorem m_wrong (hz : stZ z) (hR : stR hr) {w : Int} (hw : 0 ≤ w ∧ w ≤ 5) (ha : 0 ≤ hi 37 7 ∧ hi 37 7 ≤ 601) (hp : 0 ≤ hi 40 (hi 37 7) ∧ hi 40 (hi 37 7) ≤ 600) : a_ct G mX10_wrong (d + 0) [vR 37, vI w] z hr hi hl (fun r z' hr' hi' hl' => z' = z ∧ hr' = hr ∧ hl' = hl ∧ r = none ∧ ((hi 37 8 = 0 ∧ hi' = up2 hi 37 8 (w + 16 * hi 40 (hi 37 7))) ∨ (¬ hi 37 8 = 0 ∧ hi' = hi))) := by
  refine a_ct_of rfl (Nat.le_of_ble_eq_true rfl) ?_
  refine a_aload_n (n := 1) dX10_wrong_0 rfl rfl ?_
  refine a_getI (n := 4) dX10_wrong_1 rfl fX10_194 (s37 hz) ?_
  refine a_if_ne (t := 25) (n := 7) dX10_wrong_4 rfl rfl (fun c4 => ?_) (fun c4 => ?_)
  · refine a_return dX10_wrong_25 rfl ?_
    first | exact ⟨rfl, rfl, rfl, rfl, Or.inl ⟨by omega, rfl⟩⟩ | exact ⟨rfl, rfl, rfl, rfl, Or.inr ⟨by omega, rfl⟩⟩
  · refine a_aload_n (n := 8) dX10_wrong_7 rfl rfl ?_
    refine a_iload_n (n := 9) dX10_wrong_8 rfl rfl ?_
    refine a_bipush (n := 11) dX10_wrong_9 rfl ⟨by decide, by decide⟩ (by decide) ?_
    refine a_aload_n (n := 12) dX10_wrong_11 rfl rfl ?_
    refine a_getR (n := 15) dX10_wrong_12 rfl fX10_27 (s37 hz) (r37_5 hR) ?_
    refine a_aload_n (n := 16) dX10_wrong_15 rfl rfl ?_
    refine a_getI (n := 19) dX10_wrong_16 rfl fX10_191 (s37 hz) ?_
    refine a_iald (n := 20) dX10_wrong_19 rfl (s40 hz) (by omega) (by omega) ?_
    refine a_imul (n := 21) dX10_wrong_20 rfl ⟨by omega, by omega⟩ ?_
    refine a_iadd (n := 22) dX10_wrong_21 rfl ⟨by omega, by omega⟩ ?_
    refine a_putI (n := 25) dX10_wrong_22 rfl fX10_194 rfl (s37 hz) (Or.inl rfl) ?_
    refine a_return dX10_wrong_25 rfl ?_
    first | exact ⟨rfl, rfl, rfl, rfl, Or.inl ⟨by omega, rfl⟩⟩ | exact ⟨rfl, rfl, rfl, rfl, Or.inr ⟨by omega, rfl⟩⟩
set_option maxRecDepth 100000 in
set_option maxHeartbeats 4000000 in
theorem m_isSign (hz : stZ z) (hR : stR hr) {c : Int} (ha : 0 ≤ hi 37 7 ∧ hi 37 7 ≤ 601) : a_ct G mX10_isSign (d + 0) [vR 37, vI c] z hr hi hl (Qs z hr hi hl (isB (hi 37 8 = 0 ∧ hi 39 (hi 37 7) = 3 ∧ hl 41 (hi 37 7) = c))) := by
  refine a_ct_of rfl (Nat.le_of_ble_eq_true rfl) ?_
  refine a_aload_n (n := 1) dX10_isSign_0 rfl rfl ?_
  refine a_getI (n := 4) dX10_isSign_1 rfl fX10_194 (s37 hz) ?_
  refine a_if_ne (t := 39) (n := 7) dX10_isSign_4 rfl rfl (fun c4 => ?_) (fun c4 => ?_)
  · refine a_iconst (n := 40) dX10_isSign_39 rfl ⟨by decide, by decide⟩ ?_
    refine a_zreturn dX10_isSign_40 rfl (by omega) ?_
    first | exact ⟨rfl, rfl, rfl, rfl, _, rfl, by omega⟩ | exact ⟨rfl, rfl, rfl, rfl, _, rfl, by rw [b_cmp0] at *; omega⟩
  · refine a_aload_n (n := 8) dX10_isSign_7 rfl rfl ?_
    refine a_getR (n := 11) dX10_isSign_8 rfl fX10_24 (s37 hz) (r37_4 hR) ?_
    refine a_aload_n (n := 12) dX10_isSign_11 rfl rfl ?_
    refine a_getI (n := 15) dX10_isSign_12 rfl fX10_191 (s37 hz) ?_
    refine a_iald (n := 16) dX10_isSign_15 rfl (s39 hz) (by omega) (by omega) ?_
    refine a_iconst (n := 17) dX10_isSign_16 rfl ⟨by decide, by decide⟩ ?_
    refine a_icmp_ne (t := 39) (n := 20) dX10_isSign_17 rfl rfl (fun c17 => ?_) (fun c17 => ?_)
    · refine a_iconst (n := 40) dX10_isSign_39 rfl ⟨by decide, by decide⟩ ?_
      refine a_zreturn dX10_isSign_40 rfl (by omega) ?_
      first | exact ⟨rfl, rfl, rfl, rfl, _, rfl, by omega⟩ | exact ⟨rfl, rfl, rfl, rfl, _, rfl, by rw [b_cmp0] at *; omega⟩
    · refine a_aload_n (n := 21) dX10_isSign_20 rfl rfl ?_
      refine a_getR (n := 24) dX10_isSign_21 rfl fX10_30 (s37 hz) (r37_6 hR) ?_
      refine a_aload_n (n := 25) dX10_isSign_24 rfl rfl ?_
      refine a_getI (n := 28) dX10_isSign_25 rfl fX10_191 (s37 hz) ?_
      refine a_lald (n := 29) dX10_isSign_28 rfl (s41 hz) (by omega) (by omega) ?_
      refine a_iload_n (n := 30) dX10_isSign_29 rfl rfl ?_
      refine a_i2l (n := 31) dX10_isSign_30 rfl ?_
      refine a_lcmp (n := 32) dX10_isSign_31 rfl ?_
      refine a_if_ne (t := 39) (n := 35) dX10_isSign_32 rfl rfl (fun c32 => ?_) (fun c32 => ?_)
      · refine a_iconst (n := 40) dX10_isSign_39 rfl ⟨by decide, by decide⟩ ?_
        refine a_zreturn dX10_isSign_40 rfl (by omega) ?_
        first | exact ⟨rfl, rfl, rfl, rfl, _, rfl, by omega⟩ | exact ⟨rfl, rfl, rfl, rfl, _, rfl, by rw [b_cmp0] at *; omega⟩
      · refine a_iconst (n := 36) dX10_isSign_35 rfl ⟨by decide, by decide⟩ ?_
        refine a_goto (t := 40) dX10_isSign_36 rfl ?_
        refine a_zreturn dX10_isSign_40 rfl (by omega) ?_
        first | exact ⟨rfl, rfl, rfl, rfl, _, rfl, by omega⟩ | exact ⟨rfl, rfl, rfl, rfl, _, rfl, by rw [b_cmp0] at *; omega⟩
set_option maxRecDepth 100000 in
set_option maxHeartbeats 4000000 in
theorem m_isWord (hz : stZ z) (hR : stR hr) {c : Int} (hc : 0 ≤ c ∧ c < 11) (ha : 0 ≤ hi 37 7 ∧ hi 37 7 ≤ 601) : a_ct G mX10_isWord (d + 0) [vR 37, vI c] z hr hi hl (Qs z hr hi hl (isB (hi 37 8 = 0 ∧ hi 39 (hi 37 7) = 1 ∧ hl 41 (hi 37 7) = hl 42 c))) := by
  refine a_ct_of rfl (Nat.le_of_ble_eq_true rfl) ?_
  refine a_aload_n (n := 1) dX10_isWord_0 rfl rfl ?_
  refine a_getI (n := 4) dX10_isWord_1 rfl fX10_194 (s37 hz) ?_
  refine a_if_ne (t := 43) (n := 7) dX10_isWord_4 rfl rfl (fun c4 => ?_) (fun c4 => ?_)
  · refine a_iconst (n := 44) dX10_isWord_43 rfl ⟨by decide, by decide⟩ ?_
    refine a_zreturn dX10_isWord_44 rfl (by omega) ?_
    first | exact ⟨rfl, rfl, rfl, rfl, _, rfl, by omega⟩ | exact ⟨rfl, rfl, rfl, rfl, _, rfl, by rw [b_cmp0] at *; omega⟩
  · refine a_aload_n (n := 8) dX10_isWord_7 rfl rfl ?_
    refine a_getR (n := 11) dX10_isWord_8 rfl fX10_24 (s37 hz) (r37_4 hR) ?_
    refine a_aload_n (n := 12) dX10_isWord_11 rfl rfl ?_
    refine a_getI (n := 15) dX10_isWord_12 rfl fX10_191 (s37 hz) ?_
    refine a_iald (n := 16) dX10_isWord_15 rfl (s39 hz) (by omega) (by omega) ?_
    refine a_iconst (n := 17) dX10_isWord_16 rfl ⟨by decide, by decide⟩ ?_
    refine a_icmp_ne (t := 43) (n := 20) dX10_isWord_17 rfl rfl (fun c17 => ?_) (fun c17 => ?_)
    · refine a_iconst (n := 44) dX10_isWord_43 rfl ⟨by decide, by decide⟩ ?_
      refine a_zreturn dX10_isWord_44 rfl (by omega) ?_
      first | exact ⟨rfl, rfl, rfl, rfl, _, rfl, by omega⟩ | exact ⟨rfl, rfl, rfl, rfl, _, rfl, by rw [b_cmp0] at *; omega⟩
    · refine a_aload_n (n := 21) dX10_isWord_20 rfl rfl ?_
      refine a_getR (n := 24) dX10_isWord_21 rfl fX10_30 (s37 hz) (r37_6 hR) ?_
      refine a_aload_n (n := 25) dX10_isWord_24 rfl rfl ?_
      refine a_getI (n := 28) dX10_isWord_25 rfl fX10_191 (s37 hz) ?_
      refine a_lald (n := 29) dX10_isWord_28 rfl (s41 hz) (by omega) (by omega) ?_
      refine a_aload_n (n := 30) dX10_isWord_29 rfl rfl ?_
      refine a_getR (n := 33) dX10_isWord_30 rfl fX10_56 (s37 hz) (r37_9 hR) ?_
      refine a_iload_n (n := 34) dX10_isWord_33 rfl rfl ?_
      refine a_lald (n := 35) dX10_isWord_34 rfl (s42 hz) (by omega) (by omega) ?_
      refine a_lcmp (n := 36) dX10_isWord_35 rfl ?_
      refine a_if_ne (t := 43) (n := 39) dX10_isWord_36 rfl rfl (fun c36 => ?_) (fun c36 => ?_)
      · refine a_iconst (n := 44) dX10_isWord_43 rfl ⟨by decide, by decide⟩ ?_
        refine a_zreturn dX10_isWord_44 rfl (by omega) ?_
        first | exact ⟨rfl, rfl, rfl, rfl, _, rfl, by omega⟩ | exact ⟨rfl, rfl, rfl, rfl, _, rfl, by rw [b_cmp0] at *; omega⟩
      · refine a_iconst (n := 40) dX10_isWord_39 rfl ⟨by decide, by decide⟩ ?_
        refine a_goto (t := 44) dX10_isWord_40 rfl ?_
        refine a_zreturn dX10_isWord_44 rfl (by omega) ?_
        first | exact ⟨rfl, rfl, rfl, rfl, _, rfl, by omega⟩ | exact ⟨rfl, rfl, rfl, rfl, _, rfl, by rw [b_cmp0] at *; omega⟩
end M9
