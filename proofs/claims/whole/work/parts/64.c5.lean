section C5
variable {G : aG} {d : Nat} {z : aZ} {hr : aR} {hi hl : aI}
/-- one row of MARKS (in cell m) beside those of the parents (in n, o) *) -/
def fS (hi : aI) (m n : Nat) (k : Int) : Prop := hi m (2 * k) = hi n (2 * k) ∧ hi m (2 * k + 1) = hi n (2 * k + 1)
def f1 (hi : aI) (m n : Nat) (k : Int) : Prop := (hi n (2 * k) = hi m (2 * k) ∨ hi n (2 * k + 1) = hi m (2 * k)) ∨ (hi n (2 * k) = hi m (2 * k + 1) ∨ hi n (2 * k + 1) = hi m (2 * k + 1))
def f2 (hi : aI) (m n o : Nat) (k : Int) : Prop := ((hi n (2 * k) = hi m (2 * k) ∨ hi n (2 * k + 1) = hi m (2 * k)) ∧ (hi o (2 * k) = hi m (2 * k + 1) ∨ hi o (2 * k + 1) = hi m (2 * k + 1))) ∨ ((hi n (2 * k) = hi m (2 * k + 1) ∨ hi n (2 * k + 1) = hi m (2 * k + 1)) ∧ (hi o (2 * k) = hi m (2 * k) ∨ hi o (2 * k + 1) = hi m (2 * k)))
set_option maxRecDepth 100000 in
set_option maxHeartbeats 4000000 in
theorem c_orgS_l {a m b c n : Nat} (ha : a_is z a 3 17) (hm : hr a 7 = some m) (hM : a_is z m 20 8) (hb : a_is z b 3 17) (hpar : hr b 2 = some c) (hc : a_is z c 3 17) (hm2 : hr c 7 = some n) (hM2 : a_is z n 20 8) (hk1 : ¬ hi b 1 = 1) (nn : Nat) : ∀ (k : Int) (x : Option aV), 0 ≤ k → k + nn = 4 → a_wp G mX3_fitsOriginOf (d + 2) 11 [some (vR a), some (vR b), some (vI k), x] [] z hr hi hl (Qs z hr hi hl (isB (∀ j, k ≤ j → j < 4 → fS hi m n j))) := by
  induction nn with
  | zero =>
    intro k x h0 hk
    refine a_iload_n (n := 12) dX3_fitsOriginOf_11 rfl rfl ?_
    refine a_iconst (n := 13) dX3_fitsOriginOf_12 rfl ⟨by decide, by decide⟩ ?_
    refine a_icmp_ge (t := 62) (n := 16) dX3_fitsOriginOf_13 rfl rfl (fun c13 => ?_) (fun c13 => ?_)
    · refine a_iconst (n := 63) dX3_fitsOriginOf_62 rfl ⟨by decide, by decide⟩ ?_
      refine a_zreturn dX3_fitsOriginOf_63 rfl (by omega) ?_
      exact ⟨rfl, rfl, rfl, rfl, _, rfl, Or.inl ⟨rfl, fun j j0 j1 => by omega⟩⟩
    · omega
  | succ nn ih =>
    intro k x h0 hk
    refine a_iload_n (n := 12) dX3_fitsOriginOf_11 rfl rfl ?_
    refine a_iconst (n := 13) dX3_fitsOriginOf_12 rfl ⟨by decide, by decide⟩ ?_
    refine a_icmp_ge (t := 62) (n := 16) dX3_fitsOriginOf_13 rfl rfl (fun c13 => ?_) (fun c13 => ?_)
    · omega
    · refine a_aload_n (n := 17) dX3_fitsOriginOf_16 rfl rfl ?_
      refine a_getI (n := 20) dX3_fitsOriginOf_17 rfl fX3_28 hb ?_
      refine a_iconst (n := 21) dX3_fitsOriginOf_20 rfl ⟨by decide, by decide⟩ ?_
      refine a_icmp_ne (t := 40) (n := 24) dX3_fitsOriginOf_21 rfl rfl (fun c21 => ?_) (fun c21 => ?_)
      · refine a_aload_n (n := 41) dX3_fitsOriginOf_40 rfl rfl ?_
        refine a_iload_n (n := 42) dX3_fitsOriginOf_41 rfl rfl ?_
        refine a_aload_n (n := 43) dX3_fitsOriginOf_42 rfl rfl ?_
        refine a_getO (n := 46) dX3_fitsOriginOf_43 rfl fX3_31 hb ?_
        rw [hpar]
        refine a_callV (M2 := mX3_sameMarks) (n := 49) dX3_fitsOriginOf_46 rfl (c_same (d := d + 1) ha hm hM hc hm2 hM2 ⟨h0, by omega⟩) kX3_sameMarks lX3_88 iX3_sameMarks eX3_sameMarks (by decide) (by omega) ha rfl (Nat.le_of_ble_eq_true rfl) (fun q46 z46 hr46 hi46 hl46 h46 => ?_)
        obtain ⟨e146, e246, e346, e446, b46, rfl, hb46⟩ := h46
        obtain rfl := e146.symm
        obtain rfl := e246.symm
        obtain rfl := e346.symm
        obtain rfl := e446.symm
        show a_wp G _ _ _ _ (vI b46 :: _) _ _ _ _ _
        refine b_istore_n (n := 50) dX3_fitsOriginOf_49 rfl (by decide) rfl ?_
        refine a_iload_n (n := 51) dX3_fitsOriginOf_50 rfl rfl ?_
        refine a_if_ne (t := 56) (n := 54) dX3_fitsOriginOf_51 rfl rfl (fun c51 => ?_) (fun c51 => ?_)
        · replace hb46 : fS hi m n k := isB_t hb46 c51
          refine b_iinc (n := 59) dX3_fitsOriginOf_56 rfl (by decide) rfl rfl ⟨by omega, by omega⟩ ?_
          refine a_goto (t := 11) dX3_fitsOriginOf_59 rfl ?_
          refine (ih (k + 1) _ (by omega) (by omega)).mono fun r z2 hr2 hi2 hl2 ⟨q1, q2, q3, q4, b2, q5, q6⟩ => ⟨q1, q2, q3, q4, b2, q5, ?_⟩
          rcases q6 with ⟨q6, q7⟩ | ⟨q6, q7⟩
          · refine Or.inl ⟨q6, fun j j0 j1 => ?_⟩
            by_cases e : j = k
            · rw [e]; exact hb46
            · exact q7 j (by omega) j1
          · exact Or.inr ⟨q6, fun w => q7 fun j j0 j1 => w j (by omega) j1⟩
        · replace hb46 : ¬ fS hi m n k := isB_f hb46 (by omega)
          refine a_iconst (n := 55) dX3_fitsOriginOf_54 rfl ⟨by decide, by decide⟩ ?_
          refine a_zreturn dX3_fitsOriginOf_55 rfl (by omega) ?_
          exact ⟨rfl, rfl, rfl, rfl, _, rfl, Or.inr ⟨rfl, fun w => hb46 (w k (Int.le_refl k) (by omega))⟩⟩
      · omega
set_option maxRecDepth 100000 in
set_option maxHeartbeats 4000000 in
theorem c_orgS {a m b c n : Nat} (ha : a_is z a 3 17) (hm : hr a 7 = some m) (hM : a_is z m 20 8) (hb : a_is z b 3 17) (hpar : hr b 2 = some c) (hc : a_is z c 3 17) (hm2 : hr c 7 = some n) (hM2 : a_is z n 20 8) (hk1 : ¬ hi b 1 = 1) : a_ct G mX3_fitsOriginOf (d + 2) [vR a, vR b] z hr hi hl (Qs z hr hi hl (isB (∀ j, 0 ≤ j → j < 4 → fS hi m n j))) := by
  refine a_ct_of rfl (Nat.le_of_ble_eq_true rfl) ?_
  refine a_aload_n (n := 1) dX3_fitsOriginOf_0 rfl rfl ?_
  refine a_getO (n := 4) dX3_fitsOriginOf_1 rfl fX3_31 hb ?_
  rw [hpar]
  refine a_ifnonnull (t := 9) (n := 7) dX3_fitsOriginOf_4 rfl rfl (fun p4 c4 => ?_) (fun c4 => ?_)
  · refine a_iconst (n := 10) dX3_fitsOriginOf_9 rfl ⟨by decide, by decide⟩ ?_
    refine b_istore_n (n := 11) dX3_fitsOriginOf_10 rfl (by decide) rfl ?_
    exact c_orgS_l ha hm hM hb hpar hc hm2 hM2 hk1 4 0 _ (by decide) (by decide)
  · cases c4
set_option maxRecDepth 100000 in
set_option maxHeartbeats 4000000 in
theorem c_org1_l {a m b c n : Nat} (ha : a_is z a 3 17) (hm : hr a 7 = some m) (hM : a_is z m 20 8) (hb : a_is z b 3 17) (hpar : hr b 2 = some c) (hc : a_is z c 3 17) (hm2 : hr c 7 = some n) (hM2 : a_is z n 20 8) (hk1 : hi b 1 = 1) (hfa : hr b 3 = none) (nn : Nat) : ∀ (k : Int) (x : Option aV), 0 ≤ k → k + nn = 4 → a_wp G mX3_fitsOriginOf (d + 2) 11 [some (vR a), some (vR b), some (vI k), x] [] z hr hi hl (Qs z hr hi hl (isB (∀ j, k ≤ j → j < 4 → f1 hi m n j))) := by
  induction nn with
  | zero =>
    intro k x h0 hk
    refine a_iload_n (n := 12) dX3_fitsOriginOf_11 rfl rfl ?_
    refine a_iconst (n := 13) dX3_fitsOriginOf_12 rfl ⟨by decide, by decide⟩ ?_
    refine a_icmp_ge (t := 62) (n := 16) dX3_fitsOriginOf_13 rfl rfl (fun c13 => ?_) (fun c13 => ?_)
    · refine a_iconst (n := 63) dX3_fitsOriginOf_62 rfl ⟨by decide, by decide⟩ ?_
      refine a_zreturn dX3_fitsOriginOf_63 rfl (by omega) ?_
      exact ⟨rfl, rfl, rfl, rfl, _, rfl, Or.inl ⟨rfl, fun j j0 j1 => by omega⟩⟩
    · omega
  | succ nn ih =>
    intro k x h0 hk
    refine a_iload_n (n := 12) dX3_fitsOriginOf_11 rfl rfl ?_
    refine a_iconst (n := 13) dX3_fitsOriginOf_12 rfl ⟨by decide, by decide⟩ ?_
    refine a_icmp_ge (t := 62) (n := 16) dX3_fitsOriginOf_13 rfl rfl (fun c13 => ?_) (fun c13 => ?_)
    · omega
    · refine a_aload_n (n := 17) dX3_fitsOriginOf_16 rfl rfl ?_
      refine a_getI (n := 20) dX3_fitsOriginOf_17 rfl fX3_28 hb ?_
      refine a_iconst (n := 21) dX3_fitsOriginOf_20 rfl ⟨by decide, by decide⟩ ?_
      refine a_icmp_ne (t := 40) (n := 24) dX3_fitsOriginOf_21 rfl rfl (fun c21 => ?_) (fun c21 => ?_)
      · omega
      · refine a_aload_n (n := 25) dX3_fitsOriginOf_24 rfl rfl ?_
        refine a_iload_n (n := 26) dX3_fitsOriginOf_25 rfl rfl ?_
        refine a_aload_n (n := 27) dX3_fitsOriginOf_26 rfl rfl ?_
        refine a_getO (n := 30) dX3_fitsOriginOf_27 rfl fX3_31 hb ?_
        rw [hpar]
        refine a_aload_n (n := 31) dX3_fitsOriginOf_30 rfl rfl ?_
        refine a_getO (n := 34) dX3_fitsOriginOf_31 rfl fX3_35 hb ?_
        rw [hfa]
        refine a_callV (M2 := mX3_fitsParents) (n := 37) dX3_fitsOriginOf_34 rfl (c_parent1 (d := d) ha hm hM hc hm2 hM2 ⟨h0, by omega⟩) kX3_fitsParents lX3_84 iX3_fitsParents eX3_fitsParents (by decide) (by omega) ha rfl (Nat.le_of_ble_eq_true rfl) (fun q34 z34 hr34 hi34 hl34 h34 => ?_)
        obtain ⟨e134, e234, e334, e434, b34, rfl, hb34⟩ := h34
        obtain rfl := e134.symm
        obtain rfl := e234.symm
        obtain rfl := e334.symm
        obtain rfl := e434.symm
        show a_wp G _ _ _ _ (vI b34 :: _) _ _ _ _ _
        refine a_goto (t := 49) dX3_fitsOriginOf_37 rfl ?_
        refine b_istore_n (n := 50) dX3_fitsOriginOf_49 rfl (by decide) rfl ?_
        refine a_iload_n (n := 51) dX3_fitsOriginOf_50 rfl rfl ?_
        refine a_if_ne (t := 56) (n := 54) dX3_fitsOriginOf_51 rfl rfl (fun c51 => ?_) (fun c51 => ?_)
        · replace hb34 : f1 hi m n k := isB_t hb34 c51
          refine b_iinc (n := 59) dX3_fitsOriginOf_56 rfl (by decide) rfl rfl ⟨by omega, by omega⟩ ?_
          refine a_goto (t := 11) dX3_fitsOriginOf_59 rfl ?_
          refine (ih (k + 1) _ (by omega) (by omega)).mono fun r z2 hr2 hi2 hl2 ⟨q1, q2, q3, q4, b2, q5, q6⟩ => ⟨q1, q2, q3, q4, b2, q5, ?_⟩
          rcases q6 with ⟨q6, q7⟩ | ⟨q6, q7⟩
          · refine Or.inl ⟨q6, fun j j0 j1 => ?_⟩
            by_cases e : j = k
            · rw [e]; exact hb34
            · exact q7 j (by omega) j1
          · exact Or.inr ⟨q6, fun w => q7 fun j j0 j1 => w j (by omega) j1⟩
        · replace hb34 : ¬ f1 hi m n k := isB_f hb34 (by omega)
          refine a_iconst (n := 55) dX3_fitsOriginOf_54 rfl ⟨by decide, by decide⟩ ?_
          refine a_zreturn dX3_fitsOriginOf_55 rfl (by omega) ?_
          exact ⟨rfl, rfl, rfl, rfl, _, rfl, Or.inr ⟨rfl, fun w => hb34 (w k (Int.le_refl k) (by omega))⟩⟩
set_option maxRecDepth 100000 in
set_option maxHeartbeats 4000000 in
theorem c_org1 {a m b c n : Nat} (ha : a_is z a 3 17) (hm : hr a 7 = some m) (hM : a_is z m 20 8) (hb : a_is z b 3 17) (hpar : hr b 2 = some c) (hc : a_is z c 3 17) (hm2 : hr c 7 = some n) (hM2 : a_is z n 20 8) (hk1 : hi b 1 = 1) (hfa : hr b 3 = none) : a_ct G mX3_fitsOriginOf (d + 2) [vR a, vR b] z hr hi hl (Qs z hr hi hl (isB (∀ j, 0 ≤ j → j < 4 → f1 hi m n j))) := by
  refine a_ct_of rfl (Nat.le_of_ble_eq_true rfl) ?_
  refine a_aload_n (n := 1) dX3_fitsOriginOf_0 rfl rfl ?_
  refine a_getO (n := 4) dX3_fitsOriginOf_1 rfl fX3_31 hb ?_
  rw [hpar]
  refine a_ifnonnull (t := 9) (n := 7) dX3_fitsOriginOf_4 rfl rfl (fun p4 c4 => ?_) (fun c4 => ?_)
  · refine a_iconst (n := 10) dX3_fitsOriginOf_9 rfl ⟨by decide, by decide⟩ ?_
    refine b_istore_n (n := 11) dX3_fitsOriginOf_10 rfl (by decide) rfl ?_
    exact c_org1_l ha hm hM hb hpar hc hm2 hM2 hk1 hfa 4 0 _ (by decide) (by decide)
  · cases c4
set_option maxRecDepth 100000 in
set_option maxHeartbeats 4000000 in
theorem c_org2_l {a m b c n e o : Nat} (ha : a_is z a 3 17) (hm : hr a 7 = some m) (hM : a_is z m 20 8) (hb : a_is z b 3 17) (hpar : hr b 2 = some c) (hc : a_is z c 3 17) (hm2 : hr c 7 = some n) (hM2 : a_is z n 20 8) (hk1 : hi b 1 = 1) (hfa : hr b 3 = some e) (he : a_is z e 3 17) (hm3 : hr e 7 = some o) (hM3 : a_is z o 20 8) (nn : Nat) : ∀ (k : Int) (x : Option aV), 0 ≤ k → k + nn = 4 → a_wp G mX3_fitsOriginOf (d + 2) 11 [some (vR a), some (vR b), some (vI k), x] [] z hr hi hl (Qs z hr hi hl (isB (∀ j, k ≤ j → j < 4 → f2 hi m n o j))) := by
  induction nn with
  | zero =>
    intro k x h0 hk
    refine a_iload_n (n := 12) dX3_fitsOriginOf_11 rfl rfl ?_
    refine a_iconst (n := 13) dX3_fitsOriginOf_12 rfl ⟨by decide, by decide⟩ ?_
    refine a_icmp_ge (t := 62) (n := 16) dX3_fitsOriginOf_13 rfl rfl (fun c13 => ?_) (fun c13 => ?_)
    · refine a_iconst (n := 63) dX3_fitsOriginOf_62 rfl ⟨by decide, by decide⟩ ?_
      refine a_zreturn dX3_fitsOriginOf_63 rfl (by omega) ?_
      exact ⟨rfl, rfl, rfl, rfl, _, rfl, Or.inl ⟨rfl, fun j j0 j1 => by omega⟩⟩
    · omega
  | succ nn ih =>
    intro k x h0 hk
    refine a_iload_n (n := 12) dX3_fitsOriginOf_11 rfl rfl ?_
    refine a_iconst (n := 13) dX3_fitsOriginOf_12 rfl ⟨by decide, by decide⟩ ?_
    refine a_icmp_ge (t := 62) (n := 16) dX3_fitsOriginOf_13 rfl rfl (fun c13 => ?_) (fun c13 => ?_)
    · omega
    · refine a_aload_n (n := 17) dX3_fitsOriginOf_16 rfl rfl ?_
      refine a_getI (n := 20) dX3_fitsOriginOf_17 rfl fX3_28 hb ?_
      refine a_iconst (n := 21) dX3_fitsOriginOf_20 rfl ⟨by decide, by decide⟩ ?_
      refine a_icmp_ne (t := 40) (n := 24) dX3_fitsOriginOf_21 rfl rfl (fun c21 => ?_) (fun c21 => ?_)
      · omega
      · refine a_aload_n (n := 25) dX3_fitsOriginOf_24 rfl rfl ?_
        refine a_iload_n (n := 26) dX3_fitsOriginOf_25 rfl rfl ?_
        refine a_aload_n (n := 27) dX3_fitsOriginOf_26 rfl rfl ?_
        refine a_getO (n := 30) dX3_fitsOriginOf_27 rfl fX3_31 hb ?_
        rw [hpar]
        refine a_aload_n (n := 31) dX3_fitsOriginOf_30 rfl rfl ?_
        refine a_getO (n := 34) dX3_fitsOriginOf_31 rfl fX3_35 hb ?_
        rw [hfa]
        refine a_callV (M2 := mX3_fitsParents) (n := 37) dX3_fitsOriginOf_34 rfl (c_parent2 (d := d) ha hm hM hc hm2 hM2 ⟨h0, by omega⟩ he hm3 hM3) kX3_fitsParents lX3_84 iX3_fitsParents eX3_fitsParents (by decide) (by omega) ha rfl (Nat.le_of_ble_eq_true rfl) (fun q34 z34 hr34 hi34 hl34 h34 => ?_)
        obtain ⟨e134, e234, e334, e434, b34, rfl, hb34⟩ := h34
        obtain rfl := e134.symm
        obtain rfl := e234.symm
        obtain rfl := e334.symm
        obtain rfl := e434.symm
        show a_wp G _ _ _ _ (vI b34 :: _) _ _ _ _ _
        refine a_goto (t := 49) dX3_fitsOriginOf_37 rfl ?_
        refine b_istore_n (n := 50) dX3_fitsOriginOf_49 rfl (by decide) rfl ?_
        refine a_iload_n (n := 51) dX3_fitsOriginOf_50 rfl rfl ?_
        refine a_if_ne (t := 56) (n := 54) dX3_fitsOriginOf_51 rfl rfl (fun c51 => ?_) (fun c51 => ?_)
        · replace hb34 : f2 hi m n o k := isB_t hb34 c51
          refine b_iinc (n := 59) dX3_fitsOriginOf_56 rfl (by decide) rfl rfl ⟨by omega, by omega⟩ ?_
          refine a_goto (t := 11) dX3_fitsOriginOf_59 rfl ?_
          refine (ih (k + 1) _ (by omega) (by omega)).mono fun r z2 hr2 hi2 hl2 ⟨q1, q2, q3, q4, b2, q5, q6⟩ => ⟨q1, q2, q3, q4, b2, q5, ?_⟩
          rcases q6 with ⟨q6, q7⟩ | ⟨q6, q7⟩
          · refine Or.inl ⟨q6, fun j j0 j1 => ?_⟩
            by_cases e : j = k
            · rw [e]; exact hb34
            · exact q7 j (by omega) j1
          · exact Or.inr ⟨q6, fun w => q7 fun j j0 j1 => w j (by omega) j1⟩
        · replace hb34 : ¬ f2 hi m n o k := isB_f hb34 (by omega)
          refine a_iconst (n := 55) dX3_fitsOriginOf_54 rfl ⟨by decide, by decide⟩ ?_
          refine a_zreturn dX3_fitsOriginOf_55 rfl (by omega) ?_
          exact ⟨rfl, rfl, rfl, rfl, _, rfl, Or.inr ⟨rfl, fun w => hb34 (w k (Int.le_refl k) (by omega))⟩⟩
set_option maxRecDepth 100000 in
set_option maxHeartbeats 4000000 in
theorem c_org2 {a m b c n e o : Nat} (ha : a_is z a 3 17) (hm : hr a 7 = some m) (hM : a_is z m 20 8) (hb : a_is z b 3 17) (hpar : hr b 2 = some c) (hc : a_is z c 3 17) (hm2 : hr c 7 = some n) (hM2 : a_is z n 20 8) (hk1 : hi b 1 = 1) (hfa : hr b 3 = some e) (he : a_is z e 3 17) (hm3 : hr e 7 = some o) (hM3 : a_is z o 20 8) : a_ct G mX3_fitsOriginOf (d + 2) [vR a, vR b] z hr hi hl (Qs z hr hi hl (isB (∀ j, 0 ≤ j → j < 4 → f2 hi m n o j))) := by
  refine a_ct_of rfl (Nat.le_of_ble_eq_true rfl) ?_
  refine a_aload_n (n := 1) dX3_fitsOriginOf_0 rfl rfl ?_
  refine a_getO (n := 4) dX3_fitsOriginOf_1 rfl fX3_31 hb ?_
  rw [hpar]
  refine a_ifnonnull (t := 9) (n := 7) dX3_fitsOriginOf_4 rfl rfl (fun p4 c4 => ?_) (fun c4 => ?_)
  · refine a_iconst (n := 10) dX3_fitsOriginOf_9 rfl ⟨by decide, by decide⟩ ?_
    refine b_istore_n (n := 11) dX3_fitsOriginOf_10 rfl (by decide) rfl ?_
    exact c_org2_l ha hm hM hb hpar hc hm2 hM2 hk1 hfa he hm3 hM3 4 0 _ (by decide) (by decide)
  · cases c4
set_option maxRecDepth 100000 in
set_option maxHeartbeats 4000000 in
theorem c_org0 {a b : Nat} (hb : a_is z b 3 17) (hpar : hr b 2 = none) : a_ct G mX3_fitsOriginOf (d + 2) [vR a, vR b] z hr hi hl (Qs z hr hi hl (fun r => r = some (vI (1)))) := by
  refine a_ct_of rfl (Nat.le_of_ble_eq_true rfl) ?_
  refine a_aload_n (n := 1) dX3_fitsOriginOf_0 rfl rfl ?_
  refine a_getO (n := 4) dX3_fitsOriginOf_1 rfl fX3_31 hb ?_
  rw [hpar]
  refine a_ifnonnull (t := 9) (n := 7) dX3_fitsOriginOf_4 rfl rfl (fun p4 c4 => ?_) (fun c4 => ?_)
  · cases c4
  · refine a_iconst (n := 8) dX3_fitsOriginOf_7 rfl ⟨by decide, by decide⟩ ?_
    refine a_zreturn dX3_fitsOriginOf_8 rfl (by omega) ?_
    exact ⟨rfl, rfl, rfl, rfl, rfl⟩
end C5
