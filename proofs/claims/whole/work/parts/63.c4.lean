section C4
variable {G : aG} {d : Nat} {z : aZ} {hr : aR} {hi hl : aI}
set_option maxRecDepth 100000 in
set_option maxHeartbeats 4000000 in
theorem c_dies {a : Nat} (ha : a_is z a 3 17) (hm : 0 ≤ hi a 14 ∧ hi a 14 ≤ 1000000) (hd : hi a 15 = 0 ∨ hi a 15 = 1) : a_ct G mX3_diesByCheck (d + 0) [vR a] z hr hi hl (fun r z' hr' hi' hl' => z' = z ∧ hr' = hr ∧ hl' = hl ∧ (0 < hi a 16 ∧ r = some (vI 0) ∧ hi' = up2 (up2 (up2 (up2 hi a 14 0) a 8 (hi a 16)) a 16 0) a 15 0 ∨ ¬ 0 < hi a 16 ∧ r = some (vI (if 2 ≤ hi a 14 + 1 ∧ hi a 15 = 0 then 1 else 0)) ∧ hi' = up2 (up2 hi a 14 (hi a 14 + 1)) a 15 (if 2 ≤ hi a 14 + 1 then 1 else 0))) := by
  refine a_ct_of rfl (Nat.le_of_ble_eq_true rfl) ?_
  refine a_aload_n (n := 1) dX3_diesByCheck_0 rfl rfl ?_
  refine a_getI (n := 4) dX3_diesByCheck_1 rfl fX3_75 ha ?_
  refine b_istore_n (n := 5) dX3_diesByCheck_4 rfl (by decide) rfl ?_
  refine a_aload_n (n := 6) dX3_diesByCheck_5 rfl rfl ?_
  refine a_getI (n := 9) dX3_diesByCheck_6 rfl fX3_78 ha ?_
  refine a_if_le (t := 33) (n := 12) dX3_diesByCheck_9 rfl rfl (fun c9 => ?_) (fun c9 => ?_)
  · refine a_aload_n (n := 34) dX3_diesByCheck_33 rfl rfl ?_
    refine a_dup (n := 35) dX3_diesByCheck_34 rfl rfl ?_
    refine a_getI (n := 38) dX3_diesByCheck_35 rfl fX3_81 ha ?_
    refine a_iconst (n := 39) dX3_diesByCheck_38 rfl ⟨by decide, by decide⟩ ?_
    refine a_iadd (n := 40) dX3_diesByCheck_39 rfl ⟨by omega, by omega⟩ ?_
    refine a_putI (n := 43) dX3_diesByCheck_40 rfl fX3_81 rfl ha (Or.inl rfl) ?_
    refine a_aload_n (n := 44) dX3_diesByCheck_43 rfl rfl ?_
    refine a_aload_n (n := 45) dX3_diesByCheck_44 rfl rfl ?_
    refine a_getI (n := 48) dX3_diesByCheck_45 rfl fX3_81 ha ?_
    try simp only [up2_eq, Nat.reduceEqDiff, Int.reduceEq, Int.reduceNeg, and_true, true_and, and_false, false_and, and_self, if_true, if_false, ite_true, ite_false, reduceIte, eq_self]
    refine a_iconst (n := 49) dX3_diesByCheck_48 rfl ⟨by decide, by decide⟩ ?_
    refine a_icmp_lt (t := 56) (n := 52) dX3_diesByCheck_49 rfl rfl (fun c49 => ?_) (fun c49 => ?_)
    · refine a_iconst (n := 57) dX3_diesByCheck_56 rfl ⟨by decide, by decide⟩ ?_
      refine a_putZ (n := 60) dX3_diesByCheck_57 rfl fX3_75 rfl ha (Or.inl rfl) (by omega) ?_
      refine a_aload_n (n := 61) dX3_diesByCheck_60 rfl rfl ?_
      refine a_getI (n := 64) dX3_diesByCheck_61 rfl fX3_75 ha ?_
      try simp only [up2_eq, Nat.reduceEqDiff, Int.reduceEq, Int.reduceNeg, and_true, true_and, and_false, false_and, and_self, if_true, if_false, ite_true, ite_false, reduceIte, eq_self]
      refine a_if_eq (t := 75) (n := 67) dX3_diesByCheck_64 rfl rfl (fun c64 => ?_) (fun c64 => ?_)
      · refine a_iconst (n := 76) dX3_diesByCheck_75 rfl ⟨by decide, by decide⟩ ?_
        refine a_zreturn dX3_diesByCheck_76 rfl (by omega) ?_
        exact ⟨rfl, rfl, rfl, Or.inr ⟨by omega, by rw [if_neg (by omega)], by rw [if_neg (show ¬ 2 ≤ hi a 14 + 1 by omega)]⟩⟩
      · omega
    · refine a_iconst (n := 53) dX3_diesByCheck_52 rfl ⟨by decide, by decide⟩ ?_
      refine a_goto (t := 57) dX3_diesByCheck_53 rfl ?_
      refine a_putZ (n := 60) dX3_diesByCheck_57 rfl fX3_75 rfl ha (Or.inl rfl) (by omega) ?_
      refine a_aload_n (n := 61) dX3_diesByCheck_60 rfl rfl ?_
      refine a_getI (n := 64) dX3_diesByCheck_61 rfl fX3_75 ha ?_
      try simp only [up2_eq, Nat.reduceEqDiff, Int.reduceEq, Int.reduceNeg, and_true, true_and, and_false, false_and, and_self, if_true, if_false, ite_true, ite_false, reduceIte, eq_self]
      refine a_if_eq (t := 75) (n := 67) dX3_diesByCheck_64 rfl rfl (fun c64 => ?_) (fun c64 => ?_)
      · omega
      · refine a_iload_n (n := 68) dX3_diesByCheck_67 rfl rfl ?_
        refine a_if_ne (t := 75) (n := 71) dX3_diesByCheck_68 rfl rfl (fun c68 => ?_) (fun c68 => ?_)
        · refine a_iconst (n := 76) dX3_diesByCheck_75 rfl ⟨by decide, by decide⟩ ?_
          refine a_zreturn dX3_diesByCheck_76 rfl (by omega) ?_
          exact ⟨rfl, rfl, rfl, Or.inr ⟨by omega, by rw [if_neg (by omega)], by rw [if_pos (show 2 ≤ hi a 14 + 1 by omega)]⟩⟩
        · refine a_iconst (n := 72) dX3_diesByCheck_71 rfl ⟨by decide, by decide⟩ ?_
          refine a_goto (t := 76) dX3_diesByCheck_72 rfl ?_
          refine a_zreturn dX3_diesByCheck_76 rfl (by omega) ?_
          exact ⟨rfl, rfl, rfl, Or.inr ⟨by omega, by rw [if_pos ⟨by omega, by omega⟩], by rw [if_pos (show 2 ≤ hi a 14 + 1 by omega)]⟩⟩
  · refine a_aload_n (n := 13) dX3_diesByCheck_12 rfl rfl ?_
    refine a_iconst (n := 14) dX3_diesByCheck_13 rfl ⟨by decide, by decide⟩ ?_
    refine a_putI (n := 17) dX3_diesByCheck_14 rfl fX3_81 rfl ha (Or.inl rfl) ?_
    refine a_aload_n (n := 18) dX3_diesByCheck_17 rfl rfl ?_
    refine a_aload_n (n := 19) dX3_diesByCheck_18 rfl rfl ?_
    refine a_getI (n := 22) dX3_diesByCheck_19 rfl fX3_78 ha ?_
    try simp only [up2_eq, Nat.reduceEqDiff, Int.reduceEq, Int.reduceNeg, and_true, true_and, and_false, false_and, and_self, if_true, if_false, ite_true, ite_false, reduceIte, eq_self]
    refine a_putI (n := 25) dX3_diesByCheck_22 rfl fX3_48 rfl ha (Or.inl rfl) ?_
    refine a_aload_n (n := 26) dX3_diesByCheck_25 rfl rfl ?_
    refine a_iconst (n := 27) dX3_diesByCheck_26 rfl ⟨by decide, by decide⟩ ?_
    refine a_putI (n := 30) dX3_diesByCheck_27 rfl fX3_78 rfl ha (Or.inl rfl) ?_
    refine a_goto (t := 43) dX3_diesByCheck_30 rfl ?_
    refine a_aload_n (n := 44) dX3_diesByCheck_43 rfl rfl ?_
    refine a_aload_n (n := 45) dX3_diesByCheck_44 rfl rfl ?_
    refine a_getI (n := 48) dX3_diesByCheck_45 rfl fX3_81 ha ?_
    try simp only [up2_eq, Nat.reduceEqDiff, Int.reduceEq, Int.reduceNeg, and_true, true_and, and_false, false_and, and_self, if_true, if_false, ite_true, ite_false, reduceIte, eq_self]
    refine a_iconst (n := 49) dX3_diesByCheck_48 rfl ⟨by decide, by decide⟩ ?_
    refine a_icmp_lt (t := 56) (n := 52) dX3_diesByCheck_49 rfl rfl (fun c49 => ?_) (fun c49 => ?_)
    · refine a_iconst (n := 57) dX3_diesByCheck_56 rfl ⟨by decide, by decide⟩ ?_
      refine a_putZ (n := 60) dX3_diesByCheck_57 rfl fX3_75 rfl ha (Or.inl rfl) (by omega) ?_
      refine a_aload_n (n := 61) dX3_diesByCheck_60 rfl rfl ?_
      refine a_getI (n := 64) dX3_diesByCheck_61 rfl fX3_75 ha ?_
      try simp only [up2_eq, Nat.reduceEqDiff, Int.reduceEq, Int.reduceNeg, and_true, true_and, and_false, false_and, and_self, if_true, if_false, ite_true, ite_false, reduceIte, eq_self]
      refine a_if_eq (t := 75) (n := 67) dX3_diesByCheck_64 rfl rfl (fun c64 => ?_) (fun c64 => ?_)
      · refine a_iconst (n := 76) dX3_diesByCheck_75 rfl ⟨by decide, by decide⟩ ?_
        refine a_zreturn dX3_diesByCheck_76 rfl (by omega) ?_
        exact ⟨rfl, rfl, rfl, Or.inl ⟨by omega, rfl, rfl⟩⟩
      · omega
    · omega
set_option maxRecDepth 100000 in
set_option maxHeartbeats 4000000 in
theorem c_parent1 {a m b n : Nat} {k : Int} (ha : a_is z a 3 17) (hm : hr a 7 = some m) (hM : a_is z m 20 8) (hb : a_is z b 3 17) (hm2 : hr b 7 = some n) (hM2 : a_is z n 20 8) (hk : 0 ≤ k ∧ k < 4) : a_ct G mX3_fitsParents (d + 1) [vR a, vI k, vR b, vO none] z hr hi hl (Qs z hr hi hl (isB ((hi n (2 * k) = hi m (2 * k) ∨ hi n (2 * k + 1) = hi m (2 * k)) ∨ (hi n (2 * k) = hi m (2 * k + 1) ∨ hi n (2 * k + 1) = hi m (2 * k + 1))))) := by
  refine a_ct_of rfl (Nat.le_of_ble_eq_true rfl) ?_
  refine a_aload_n (n := 1) dX3_fitsParents_0 rfl rfl ?_
  refine a_getO (n := 4) dX3_fitsParents_1 rfl fX3_9 ha ?_
  rw [hm]
  refine a_iconst (n := 5) dX3_fitsParents_4 rfl ⟨by decide, by decide⟩ ?_
  refine a_iload_n (n := 6) dX3_fitsParents_5 rfl rfl ?_
  refine a_imul (n := 7) dX3_fitsParents_6 rfl ⟨by omega, by omega⟩ ?_
  refine a_iald (n := 8) dX3_fitsParents_7 rfl hM (by omega) (by omega) ?_
  refine b_istore (n := 10) dX3_fitsParents_8 rfl (by decide) rfl ?_
  refine a_aload_n (n := 11) dX3_fitsParents_10 rfl rfl ?_
  refine a_getO (n := 14) dX3_fitsParents_11 rfl fX3_9 ha ?_
  rw [hm]
  refine a_iconst (n := 15) dX3_fitsParents_14 rfl ⟨by decide, by decide⟩ ?_
  refine a_iload_n (n := 16) dX3_fitsParents_15 rfl rfl ?_
  refine a_imul (n := 17) dX3_fitsParents_16 rfl ⟨by omega, by omega⟩ ?_
  refine a_iconst (n := 18) dX3_fitsParents_17 rfl ⟨by decide, by decide⟩ ?_
  refine a_iadd (n := 19) dX3_fitsParents_18 rfl ⟨by omega, by omega⟩ ?_
  refine a_iald (n := 20) dX3_fitsParents_19 rfl hM (by omega) (by omega) ?_
  refine b_istore (n := 22) dX3_fitsParents_20 rfl (by decide) rfl ?_
  refine a_aload_n (n := 23) dX3_fitsParents_22 rfl rfl ?_
  refine a_ifnonnull (t := 52) (n := 26) dX3_fitsParents_23 rfl rfl (fun p23 c23 => ?_) (fun c23 => ?_)
  · cases c23
  · refine a_aload_n (n := 27) dX3_fitsParents_26 rfl rfl ?_
    refine a_iload_n (n := 28) dX3_fitsParents_27 rfl rfl ?_
    refine a_iload (n := 30) dX3_fitsParents_28 rfl rfl ?_
    refine a_callV (M2 := mX3_bears) (n := 33) dX3_fitsParents_30 rfl (c_bears (d := d) hb hm2 hM2 hk) kX3_bears lX3_92 iX3_bears eX3_bears (by decide) (by omega) hb rfl (Nat.le_of_ble_eq_true rfl) (fun q30 z30 hr30 hi30 hl30 h30 => ?_)
    obtain ⟨e130, e230, e330, e430, b30, rfl, hb30⟩ := h30
    obtain rfl := e130.symm
    obtain rfl := e230.symm
    obtain rfl := e330.symm
    obtain rfl := e430.symm
    show a_wp G _ _ _ _ (vI b30 :: _) _ _ _ _ _
    refine a_if_ne (t := 46) (n := 36) dX3_fitsParents_33 rfl rfl (fun c33 => ?_) (fun c33 => ?_)
    · replace hb30 := isB_t hb30 (by omega)
      refine a_iconst (n := 47) dX3_fitsParents_46 rfl ⟨by decide, by decide⟩ ?_
      refine a_goto (t := 51) dX3_fitsParents_47 rfl ?_
      refine a_zreturn dX3_fitsParents_51 rfl (by omega) ?_
      exact ⟨rfl, rfl, rfl, rfl, _, rfl, Or.inl ⟨rfl, Or.inl hb30⟩⟩
    · replace hb30 := isB_f hb30 (by omega)
      refine a_aload_n (n := 37) dX3_fitsParents_36 rfl rfl ?_
      refine a_iload_n (n := 38) dX3_fitsParents_37 rfl rfl ?_
      refine a_iload (n := 40) dX3_fitsParents_38 rfl rfl ?_
      refine a_callV (M2 := mX3_bears) (n := 43) dX3_fitsParents_40 rfl (c_bears (d := d) hb hm2 hM2 hk) kX3_bears lX3_92 iX3_bears eX3_bears (by decide) (by omega) hb rfl (Nat.le_of_ble_eq_true rfl) (fun q40 z40 hr40 hi40 hl40 h40 => ?_)
      obtain ⟨e140, e240, e340, e440, b40, rfl, hb40⟩ := h40
      obtain rfl := e140.symm
      obtain rfl := e240.symm
      obtain rfl := e340.symm
      obtain rfl := e440.symm
      show a_wp G _ _ _ _ (vI b40 :: _) _ _ _ _ _
      refine a_if_eq (t := 50) (n := 46) dX3_fitsParents_43 rfl rfl (fun c43 => ?_) (fun c43 => ?_)
      · replace hb40 := isB_f hb40 (by omega)
        refine a_iconst (n := 51) dX3_fitsParents_50 rfl ⟨by decide, by decide⟩ ?_
        refine a_zreturn dX3_fitsParents_51 rfl (by omega) ?_
        exact ⟨rfl, rfl, rfl, rfl, _, rfl, Or.inr ⟨rfl, fun q => q.elim hb30 hb40⟩⟩
      · replace hb40 := isB_t hb40 (by omega)
        refine a_iconst (n := 47) dX3_fitsParents_46 rfl ⟨by decide, by decide⟩ ?_
        refine a_goto (t := 51) dX3_fitsParents_47 rfl ?_
        refine a_zreturn dX3_fitsParents_51 rfl (by omega) ?_
        exact ⟨rfl, rfl, rfl, rfl, _, rfl, Or.inl ⟨rfl, Or.inr hb40⟩⟩
set_option maxRecDepth 100000 in
set_option maxHeartbeats 4000000 in
theorem c_parent2 {a m b n c o : Nat} {k : Int} (ha : a_is z a 3 17) (hm : hr a 7 = some m) (hM : a_is z m 20 8) (hb : a_is z b 3 17) (hm2 : hr b 7 = some n) (hM2 : a_is z n 20 8) (hk : 0 ≤ k ∧ k < 4) (hc : a_is z c 3 17) (hm3 : hr c 7 = some o) (hM3 : a_is z o 20 8) : a_ct G mX3_fitsParents (d + 1) [vR a, vI k, vR b, vR c] z hr hi hl (Qs z hr hi hl (isB (((hi n (2 * k) = hi m (2 * k) ∨ hi n (2 * k + 1) = hi m (2 * k)) ∧ (hi o (2 * k) = hi m (2 * k + 1) ∨ hi o (2 * k + 1) = hi m (2 * k + 1))) ∨ ((hi n (2 * k) = hi m (2 * k + 1) ∨ hi n (2 * k + 1) = hi m (2 * k + 1)) ∧ (hi o (2 * k) = hi m (2 * k) ∨ hi o (2 * k + 1) = hi m (2 * k)))))) := by
  refine a_ct_of rfl (Nat.le_of_ble_eq_true rfl) ?_
  refine a_aload_n (n := 1) dX3_fitsParents_0 rfl rfl ?_
  refine a_getO (n := 4) dX3_fitsParents_1 rfl fX3_9 ha ?_
  rw [hm]
  refine a_iconst (n := 5) dX3_fitsParents_4 rfl ⟨by decide, by decide⟩ ?_
  refine a_iload_n (n := 6) dX3_fitsParents_5 rfl rfl ?_
  refine a_imul (n := 7) dX3_fitsParents_6 rfl ⟨by omega, by omega⟩ ?_
  refine a_iald (n := 8) dX3_fitsParents_7 rfl hM (by omega) (by omega) ?_
  refine b_istore (n := 10) dX3_fitsParents_8 rfl (by decide) rfl ?_
  refine a_aload_n (n := 11) dX3_fitsParents_10 rfl rfl ?_
  refine a_getO (n := 14) dX3_fitsParents_11 rfl fX3_9 ha ?_
  rw [hm]
  refine a_iconst (n := 15) dX3_fitsParents_14 rfl ⟨by decide, by decide⟩ ?_
  refine a_iload_n (n := 16) dX3_fitsParents_15 rfl rfl ?_
  refine a_imul (n := 17) dX3_fitsParents_16 rfl ⟨by omega, by omega⟩ ?_
  refine a_iconst (n := 18) dX3_fitsParents_17 rfl ⟨by decide, by decide⟩ ?_
  refine a_iadd (n := 19) dX3_fitsParents_18 rfl ⟨by omega, by omega⟩ ?_
  refine a_iald (n := 20) dX3_fitsParents_19 rfl hM (by omega) (by omega) ?_
  refine b_istore (n := 22) dX3_fitsParents_20 rfl (by decide) rfl ?_
  refine a_aload_n (n := 23) dX3_fitsParents_22 rfl rfl ?_
  refine a_ifnonnull (t := 52) (n := 26) dX3_fitsParents_23 rfl rfl (fun p23 c23 => ?_) (fun c23 => ?_)
  · refine a_aload_n (n := 53) dX3_fitsParents_52 rfl rfl ?_
    refine a_iload_n (n := 54) dX3_fitsParents_53 rfl rfl ?_
    refine a_iload (n := 56) dX3_fitsParents_54 rfl rfl ?_
    refine a_callV (M2 := mX3_bears) (n := 59) dX3_fitsParents_56 rfl (c_bears (d := d) hb hm2 hM2 hk) kX3_bears lX3_92 iX3_bears eX3_bears (by decide) (by omega) hb rfl (Nat.le_of_ble_eq_true rfl) (fun q56 z56 hr56 hi56 hl56 h56 => ?_)
    obtain ⟨e156, e256, e356, e456, b56, rfl, hb56⟩ := h56
    obtain rfl := e156.symm
    obtain rfl := e256.symm
    obtain rfl := e356.symm
    obtain rfl := e456.symm
    show a_wp G _ _ _ _ (vI b56 :: _) _ _ _ _ _
    refine a_if_eq (t := 72) (n := 62) dX3_fitsParents_59 rfl rfl (fun c59 => ?_) (fun c59 => ?_)
    · replace hb56 := isB_f hb56 (by omega)
      refine a_aload_n (n := 73) dX3_fitsParents_72 rfl rfl ?_
      refine a_iload_n (n := 74) dX3_fitsParents_73 rfl rfl ?_
      refine a_iload (n := 76) dX3_fitsParents_74 rfl rfl ?_
      refine a_callV (M2 := mX3_bears) (n := 79) dX3_fitsParents_76 rfl (c_bears (d := d) hb hm2 hM2 hk) kX3_bears lX3_92 iX3_bears eX3_bears (by decide) (by omega) hb rfl (Nat.le_of_ble_eq_true rfl) (fun q76 z76 hr76 hi76 hl76 h76 => ?_)
      obtain ⟨e176, e276, e376, e476, b76, rfl, hb76⟩ := h76
      obtain rfl := e176.symm
      obtain rfl := e276.symm
      obtain rfl := e376.symm
      obtain rfl := e476.symm
      show a_wp G _ _ _ _ (vI b76 :: _) _ _ _ _ _
      refine a_if_eq (t := 96) (n := 82) dX3_fitsParents_79 rfl rfl (fun c79 => ?_) (fun c79 => ?_)
      · replace hb76 := isB_f hb76 (by omega)
        refine a_iconst (n := 97) dX3_fitsParents_96 rfl ⟨by decide, by decide⟩ ?_
        refine a_zreturn dX3_fitsParents_97 rfl (by omega) ?_
        exact ⟨rfl, rfl, rfl, rfl, _, rfl, Or.inr ⟨rfl, fun q => q.elim (fun q => hb56 q.1) (fun q => hb76 q.1)⟩⟩
      · replace hb76 := isB_t hb76 (by omega)
        refine a_aload_n (n := 83) dX3_fitsParents_82 rfl rfl ?_
        refine a_iload_n (n := 84) dX3_fitsParents_83 rfl rfl ?_
        refine a_iload (n := 86) dX3_fitsParents_84 rfl rfl ?_
        refine a_callV (M2 := mX3_bears) (n := 89) dX3_fitsParents_86 rfl (c_bears (d := d) hc hm3 hM3 hk) kX3_bears lX3_92 iX3_bears eX3_bears (by decide) (by omega) hc rfl (Nat.le_of_ble_eq_true rfl) (fun q86 z86 hr86 hi86 hl86 h86 => ?_)
        obtain ⟨e186, e286, e386, e486, b86, rfl, hb86⟩ := h86
        obtain rfl := e186.symm
        obtain rfl := e286.symm
        obtain rfl := e386.symm
        obtain rfl := e486.symm
        show a_wp G _ _ _ _ (vI b86 :: _) _ _ _ _ _
        refine a_if_eq (t := 96) (n := 92) dX3_fitsParents_89 rfl rfl (fun c89 => ?_) (fun c89 => ?_)
        · replace hb86 := isB_f hb86 (by omega)
          refine a_iconst (n := 97) dX3_fitsParents_96 rfl ⟨by decide, by decide⟩ ?_
          refine a_zreturn dX3_fitsParents_97 rfl (by omega) ?_
          exact ⟨rfl, rfl, rfl, rfl, _, rfl, Or.inr ⟨rfl, fun q => q.elim (fun q => hb56 q.1) (fun q => hb86 q.2)⟩⟩
        · replace hb86 := isB_t hb86 (by omega)
          refine a_iconst (n := 93) dX3_fitsParents_92 rfl ⟨by decide, by decide⟩ ?_
          refine a_goto (t := 97) dX3_fitsParents_93 rfl ?_
          refine a_zreturn dX3_fitsParents_97 rfl (by omega) ?_
          exact ⟨rfl, rfl, rfl, rfl, _, rfl, Or.inl ⟨rfl, Or.inr ⟨hb76, hb86⟩⟩⟩
    · replace hb56 := isB_t hb56 (by omega)
      refine a_aload_n (n := 63) dX3_fitsParents_62 rfl rfl ?_
      refine a_iload_n (n := 64) dX3_fitsParents_63 rfl rfl ?_
      refine a_iload (n := 66) dX3_fitsParents_64 rfl rfl ?_
      refine a_callV (M2 := mX3_bears) (n := 69) dX3_fitsParents_66 rfl (c_bears (d := d) hc hm3 hM3 hk) kX3_bears lX3_92 iX3_bears eX3_bears (by decide) (by omega) hc rfl (Nat.le_of_ble_eq_true rfl) (fun q66 z66 hr66 hi66 hl66 h66 => ?_)
      obtain ⟨e166, e266, e366, e466, b66, rfl, hb66⟩ := h66
      obtain rfl := e166.symm
      obtain rfl := e266.symm
      obtain rfl := e366.symm
      obtain rfl := e466.symm
      show a_wp G _ _ _ _ (vI b66 :: _) _ _ _ _ _
      refine a_if_ne (t := 92) (n := 72) dX3_fitsParents_69 rfl rfl (fun c69 => ?_) (fun c69 => ?_)
      · replace hb66 := isB_t hb66 (by omega)
        refine a_iconst (n := 93) dX3_fitsParents_92 rfl ⟨by decide, by decide⟩ ?_
        refine a_goto (t := 97) dX3_fitsParents_93 rfl ?_
        refine a_zreturn dX3_fitsParents_97 rfl (by omega) ?_
        exact ⟨rfl, rfl, rfl, rfl, _, rfl, Or.inl ⟨rfl, Or.inl ⟨hb56, hb66⟩⟩⟩
      · replace hb66 := isB_f hb66 (by omega)
        refine a_aload_n (n := 73) dX3_fitsParents_72 rfl rfl ?_
        refine a_iload_n (n := 74) dX3_fitsParents_73 rfl rfl ?_
        refine a_iload (n := 76) dX3_fitsParents_74 rfl rfl ?_
        refine a_callV (M2 := mX3_bears) (n := 79) dX3_fitsParents_76 rfl (c_bears (d := d) hb hm2 hM2 hk) kX3_bears lX3_92 iX3_bears eX3_bears (by decide) (by omega) hb rfl (Nat.le_of_ble_eq_true rfl) (fun q76 z76 hr76 hi76 hl76 h76 => ?_)
        obtain ⟨e176, e276, e376, e476, b76, rfl, hb76⟩ := h76
        obtain rfl := e176.symm
        obtain rfl := e276.symm
        obtain rfl := e376.symm
        obtain rfl := e476.symm
        show a_wp G _ _ _ _ (vI b76 :: _) _ _ _ _ _
        refine a_if_eq (t := 96) (n := 82) dX3_fitsParents_79 rfl rfl (fun c79 => ?_) (fun c79 => ?_)
        · replace hb76 := isB_f hb76 (by omega)
          refine a_iconst (n := 97) dX3_fitsParents_96 rfl ⟨by decide, by decide⟩ ?_
          refine a_zreturn dX3_fitsParents_97 rfl (by omega) ?_
          exact ⟨rfl, rfl, rfl, rfl, _, rfl, Or.inr ⟨rfl, fun q => q.elim (fun q => hb66 q.2) (fun q => hb76 q.1)⟩⟩
        · replace hb76 := isB_t hb76 (by omega)
          refine a_aload_n (n := 83) dX3_fitsParents_82 rfl rfl ?_
          refine a_iload_n (n := 84) dX3_fitsParents_83 rfl rfl ?_
          refine a_iload (n := 86) dX3_fitsParents_84 rfl rfl ?_
          refine a_callV (M2 := mX3_bears) (n := 89) dX3_fitsParents_86 rfl (c_bears (d := d) hc hm3 hM3 hk) kX3_bears lX3_92 iX3_bears eX3_bears (by decide) (by omega) hc rfl (Nat.le_of_ble_eq_true rfl) (fun q86 z86 hr86 hi86 hl86 h86 => ?_)
          obtain ⟨e186, e286, e386, e486, b86, rfl, hb86⟩ := h86
          obtain rfl := e186.symm
          obtain rfl := e286.symm
          obtain rfl := e386.symm
          obtain rfl := e486.symm
          show a_wp G _ _ _ _ (vI b86 :: _) _ _ _ _ _
          refine a_if_eq (t := 96) (n := 92) dX3_fitsParents_89 rfl rfl (fun c89 => ?_) (fun c89 => ?_)
          · replace hb86 := isB_f hb86 (by omega)
            refine a_iconst (n := 97) dX3_fitsParents_96 rfl ⟨by decide, by decide⟩ ?_
            refine a_zreturn dX3_fitsParents_97 rfl (by omega) ?_
            exact ⟨rfl, rfl, rfl, rfl, _, rfl, Or.inr ⟨rfl, fun q => q.elim (fun q => hb66 q.2) (fun q => hb86 q.2)⟩⟩
          · replace hb86 := isB_t hb86 (by omega)
            refine a_iconst (n := 93) dX3_fitsParents_92 rfl ⟨by decide, by decide⟩ ?_
            refine a_goto (t := 97) dX3_fitsParents_93 rfl ?_
            refine a_zreturn dX3_fitsParents_97 rfl (by omega) ?_
            exact ⟨rfl, rfl, rfl, rfl, _, rfl, Or.inl ⟨rfl, Or.inr ⟨hb76, hb86⟩⟩⟩
  · cases c23
end C4
