section C28
variable {G : aG} {d : Nat} {z : aZ} {hr : aR} {hi hl : aI}
def pSl (c : Nat) (part : aI → Option (Int × aI)) : Nat → aI → Option (Int × aI)
  | 0, h => some (1, h)
  | n + 1, h => if ¬ (h 17 3 = 12 ∨ h 17 3 = 13) then some (1, h) else if ¬ gd c h then none else match part (cAd h) with
    | none => none
    | some (r, h2) => if r = 0 then some (0, h2) else if ¬ (0 ≤ h2 c 6 ∧ h2 c 6 < 600) then none else pSl c part n (cAdd c h2 (h 17 3) 0)
def pSm (c : Nat) (part : aI → Option (Int × aI)) (h : aI) : Option (Int × aI) := match part h with
  | none => none
  | some (r, h2) => if r = 0 then some (0, h2) else pSl c part 600 h2
def pTs (c : Nat) (sum : aI → Option (Int × aI)) (h : aI) : Option (Int × aI) := match sum h with
  | none => none
  | some (r, h2) => if r = 0 then some (0, h2) else if ¬ (h2 17 3 = 10 ∨ h2 17 3 = 11) then some (1, h2) else if ¬ gd c h2 then none else match sum (cAd h2) with
    | none => none
    | some (r3, h3) => if r3 = 0 then some (0, h3) else if ¬ (0 ≤ h3 c 6 ∧ h3 c 6 < 600) then none else some (1, cAdd c h3 (h2 17 3) 0)
def pAl (c : Nat) (test : aI → Option (Int × aI)) : Nat → aI → Option (Int × aI)
  | 0, h => some (1, h)
  | n + 1, h => if ¬ h 17 3 = 14 then some (1, h) else if ¬ gd c h then none else match test (cAd h) with
    | none => none
    | some (r, h2) => if r = 0 then some (0, h2) else if ¬ (0 ≤ h2 c 6 ∧ h2 c 6 < 600) then none else pAl c test n (cAdd c h2 14 0)
def pAn (c : Nat) (test : aI → Option (Int × aI)) (h : aI) : Option (Int × aI) := match test h with
  | none => none
  | some (r, h2) => if r = 0 then some (0, h2) else pAl c test 600 h2
set_option maxRecDepth 100000 in
set_option maxHeartbeats 4000000 in
theorem c_sum22_l (hz : stZ z) (hR : stR hr) (hdr : hr 17 1 = some 22) {part : aI → Option (Int × aI)} {dp v : Int} {h9 : aI} (hsub : ∀ h v h2, part h = some (v, h2) → a_ct G mX4_readPart (d + 2) [vR 17, vI dp] z hr h hl (rdQ z hr hl v h2)) (n : Nat) : ∀ (k : Int) (hi : aI) (x3 : Option aV), 0 ≤ k → k + n = 600 → pSl 22 part n hi = some (v, h9) → a_wp G mX4_readSum (d + 3) 12 [some (vR 17), some (vI dp), some (vI k), x3] [] z hr hi hl (rdQ z hr hl v h9) := by
  induction n with
  | zero =>
    intro k hi x3 h0 hk hrun
    rw [pSl] at hrun
    refine a_iload_n (n := 13) dX4_readSum_12 rfl rfl ?_
    refine a_sipush (n := 16) dX4_readSum_13 rfl ⟨by decide, by decide⟩ (by decide) ?_
    refine a_icmp_ge (t := 71) (n := 19) dX4_readSum_16 rfl rfl (fun c16 => ?_) (fun c16 => ?_)
    · refine a_iconst (n := 72) dX4_readSum_71 rfl ⟨by decide, by decide⟩ ?_
      refine a_zreturn dX4_readSum_72 rfl (by omega) ?_
      obtain ⟨rfl, rfl⟩ := Prod.mk.inj (Option.some.inj hrun)
      exact ⟨rfl, rfl, rfl, rfl, rfl⟩
    · omega
  | succ n ih =>
    intro k hi x3 h0 hk hrun
    rw [pSl] at hrun
    refine a_iload_n (n := 13) dX4_readSum_12 rfl rfl ?_
    refine a_sipush (n := 16) dX4_readSum_13 rfl ⟨by decide, by decide⟩ (by decide) ?_
    refine a_icmp_ge (t := 71) (n := 19) dX4_readSum_16 rfl rfl (fun c16 => ?_) (fun c16 => ?_)
    · omega
    · refine a_aload_n (n := 20) dX4_readSum_19 rfl rfl ?_
      refine a_getI (n := 23) dX4_readSum_20 rfl fX4_43 (s17 hz) ?_
      refine a_bipush (n := 25) dX4_readSum_23 rfl ⟨by decide, by decide⟩ (by decide) ?_
      refine a_icmp_eq (t := 37) (n := 28) dX4_readSum_25 rfl rfl (fun c25 => ?_) (fun c25 => ?_)
      · rw [if_neg (not_not_intro (by omega))] at hrun
        by_cases hG : gd 22 hi
        case neg => rw [if_pos hG] at hrun; cases hrun
        rw [if_neg (not_not_intro hG)] at hrun
        cases e : part (cAd hi) with
        | none => rw [e] at hrun; cases hrun
        | some yy =>
        rw [e] at hrun
        replace hrun : (if yy.1 = 0 then some (0, yy.2) else if ¬ (0 ≤ yy.2 22 6 ∧ yy.2 22 6 < 600) then none else pSl 22 part n (cAdd 22 yy.2 (hi 17 3) 0)) = some (v, h9) := hrun
        refine a_aload_n (n := 38) dX4_readSum_37 rfl rfl ?_
        refine a_getI (n := 41) dX4_readSum_38 rfl fX4_43 (s17 hz) ?_
        refine b_istore_n (n := 42) dX4_readSum_41 rfl (by decide) rfl ?_
        refine a_aload_n (n := 43) dX4_readSum_42 rfl rfl ?_
        refine a_callV (M2 := mX4_advance) (n := 46) dX4_readSum_43 rfl (c_advance (d := d) hz hR hG.1 hG.2.1) kX4_advance lX4_57 iX4_advance eX4_advance (by decide) (by omega) (s17 hz) rfl (Nat.le_of_ble_eq_true rfl) (fun q43 z43 hr43 hi43 hl43 h43 => ?_)
        obtain ⟨e143, e243, e343, rfl, rfl⟩ := h43
        obtain rfl := e143.symm
        obtain rfl := e243.symm
        obtain rfl := e343.symm
        show a_wp G _ _ _ _ [] _ _ _ _ _
        refine a_aload_n (n := 47) dX4_readSum_46 rfl rfl ?_
        refine a_iload_n (n := 48) dX4_readSum_47 rfl rfl ?_
        refine a_callV (M2 := mX4_readPart) (n := 51) dX4_readSum_48 rfl (hsub _ _ _ e) kX4_readPart lX4_80 iX4_readPart eX4_readPart (by decide) (by omega) (s17 hz) rfl (Nat.le_of_ble_eq_true rfl) (fun q48 z48 hr48 hi48 hl48 h48 => ?_)
        obtain ⟨e148, e248, e348, rfl, rfl⟩ := h48
        obtain rfl := e148.symm
        obtain rfl := e248.symm
        obtain rfl := e348.symm
        show a_wp G _ _ _ _ (vI yy.1 :: _) _ _ _ _ _
        refine a_if_ne (t := 56) (n := 54) dX4_readSum_51 rfl rfl (fun c51 => ?_) (fun c51 => ?_)
        · rw [if_neg (by omega)] at hrun
          by_cases hC : 0 ≤ yy.2 22 6 ∧ yy.2 22 6 < 600
          case neg => rw [if_pos hC] at hrun; cases hrun
          rw [if_neg (not_not_intro hC)] at hrun
          refine a_aload_n (n := 57) dX4_readSum_56 rfl rfl ?_
          refine a_getO (n := 60) dX4_readSum_57 rfl fX4_21 (s17 hz) ?_
          rw [hdr]
          refine a_iload_n (n := 61) dX4_readSum_60 rfl rfl ?_
          refine a_iconst (n := 62) dX4_readSum_61 rfl ⟨by decide, by decide⟩ ?_
          refine a_callV (M2 := mX5_addCode) (n := 65) dX4_readSum_62 rfl (c_addCode22 (d := d) hz hR hC) kX5_addCode lX4_73 iX5_addCode eX5_addCode (by decide) (by omega) (s22 hz) rfl (Nat.le_of_ble_eq_true rfl) (fun q62 z62 hr62 hi62 hl62 h62 => ?_)
          obtain ⟨e162, e262, e362, rfl, e462⟩ := h62
          obtain rfl := e162.symm
          obtain rfl := e262.symm
          obtain rfl := e362.symm
          obtain rfl : hi62 = cAdd 22 yy.2 (hi 17 3) 0 := e462
          show a_wp G _ _ _ _ [] _ _ _ _ _
          refine b_iinc (n := 68) dX4_readSum_65 rfl (by decide) rfl rfl ⟨by omega, by omega⟩ ?_
          refine a_goto (t := 12) dX4_readSum_68 rfl ?_
          exact ih (k + 1) _ _ (by omega) (by omega) hrun
        · rw [if_pos (by omega)] at hrun
          obtain ⟨rfl, rfl⟩ := Prod.mk.inj (Option.some.inj hrun)
          refine a_iconst (n := 55) dX4_readSum_54 rfl ⟨by decide, by decide⟩ ?_
          refine a_zreturn dX4_readSum_55 rfl (by omega) ?_
          exact ⟨rfl, rfl, rfl, rfl, rfl⟩
      · refine a_aload_n (n := 29) dX4_readSum_28 rfl rfl ?_
        refine a_getI (n := 32) dX4_readSum_29 rfl fX4_43 (s17 hz) ?_
        refine a_bipush (n := 34) dX4_readSum_32 rfl ⟨by decide, by decide⟩ (by decide) ?_
        refine a_icmp_ne (t := 71) (n := 37) dX4_readSum_34 rfl rfl (fun c34 => ?_) (fun c34 => ?_)
        · rw [if_pos (by omega)] at hrun
          obtain ⟨rfl, rfl⟩ := Prod.mk.inj (Option.some.inj hrun)
          refine a_iconst (n := 72) dX4_readSum_71 rfl ⟨by decide, by decide⟩ ?_
          refine a_zreturn dX4_readSum_72 rfl (by omega) ?_
          exact ⟨rfl, rfl, rfl, rfl, rfl⟩
        · rw [if_neg (not_not_intro (by omega))] at hrun
          by_cases hG : gd 22 hi
          case neg => rw [if_pos hG] at hrun; cases hrun
          rw [if_neg (not_not_intro hG)] at hrun
          cases e : part (cAd hi) with
          | none => rw [e] at hrun; cases hrun
          | some yy =>
          rw [e] at hrun
          replace hrun : (if yy.1 = 0 then some (0, yy.2) else if ¬ (0 ≤ yy.2 22 6 ∧ yy.2 22 6 < 600) then none else pSl 22 part n (cAdd 22 yy.2 (hi 17 3) 0)) = some (v, h9) := hrun
          refine a_aload_n (n := 38) dX4_readSum_37 rfl rfl ?_
          refine a_getI (n := 41) dX4_readSum_38 rfl fX4_43 (s17 hz) ?_
          refine b_istore_n (n := 42) dX4_readSum_41 rfl (by decide) rfl ?_
          refine a_aload_n (n := 43) dX4_readSum_42 rfl rfl ?_
          refine a_callV (M2 := mX4_advance) (n := 46) dX4_readSum_43 rfl (c_advance (d := d) hz hR hG.1 hG.2.1) kX4_advance lX4_57 iX4_advance eX4_advance (by decide) (by omega) (s17 hz) rfl (Nat.le_of_ble_eq_true rfl) (fun q43 z43 hr43 hi43 hl43 h43 => ?_)
          obtain ⟨e143, e243, e343, rfl, rfl⟩ := h43
          obtain rfl := e143.symm
          obtain rfl := e243.symm
          obtain rfl := e343.symm
          show a_wp G _ _ _ _ [] _ _ _ _ _
          refine a_aload_n (n := 47) dX4_readSum_46 rfl rfl ?_
          refine a_iload_n (n := 48) dX4_readSum_47 rfl rfl ?_
          refine a_callV (M2 := mX4_readPart) (n := 51) dX4_readSum_48 rfl (hsub _ _ _ e) kX4_readPart lX4_80 iX4_readPart eX4_readPart (by decide) (by omega) (s17 hz) rfl (Nat.le_of_ble_eq_true rfl) (fun q48 z48 hr48 hi48 hl48 h48 => ?_)
          obtain ⟨e148, e248, e348, rfl, rfl⟩ := h48
          obtain rfl := e148.symm
          obtain rfl := e248.symm
          obtain rfl := e348.symm
          show a_wp G _ _ _ _ (vI yy.1 :: _) _ _ _ _ _
          refine a_if_ne (t := 56) (n := 54) dX4_readSum_51 rfl rfl (fun c51 => ?_) (fun c51 => ?_)
          · rw [if_neg (by omega)] at hrun
            by_cases hC : 0 ≤ yy.2 22 6 ∧ yy.2 22 6 < 600
            case neg => rw [if_pos hC] at hrun; cases hrun
            rw [if_neg (not_not_intro hC)] at hrun
            refine a_aload_n (n := 57) dX4_readSum_56 rfl rfl ?_
            refine a_getO (n := 60) dX4_readSum_57 rfl fX4_21 (s17 hz) ?_
            rw [hdr]
            refine a_iload_n (n := 61) dX4_readSum_60 rfl rfl ?_
            refine a_iconst (n := 62) dX4_readSum_61 rfl ⟨by decide, by decide⟩ ?_
            refine a_callV (M2 := mX5_addCode) (n := 65) dX4_readSum_62 rfl (c_addCode22 (d := d) hz hR hC) kX5_addCode lX4_73 iX5_addCode eX5_addCode (by decide) (by omega) (s22 hz) rfl (Nat.le_of_ble_eq_true rfl) (fun q62 z62 hr62 hi62 hl62 h62 => ?_)
            obtain ⟨e162, e262, e362, rfl, e462⟩ := h62
            obtain rfl := e162.symm
            obtain rfl := e262.symm
            obtain rfl := e362.symm
            obtain rfl : hi62 = cAdd 22 yy.2 (hi 17 3) 0 := e462
            show a_wp G _ _ _ _ [] _ _ _ _ _
            refine b_iinc (n := 68) dX4_readSum_65 rfl (by decide) rfl rfl ⟨by omega, by omega⟩ ?_
            refine a_goto (t := 12) dX4_readSum_68 rfl ?_
            exact ih (k + 1) _ _ (by omega) (by omega) hrun
          · rw [if_pos (by omega)] at hrun
            obtain ⟨rfl, rfl⟩ := Prod.mk.inj (Option.some.inj hrun)
            refine a_iconst (n := 55) dX4_readSum_54 rfl ⟨by decide, by decide⟩ ?_
            refine a_zreturn dX4_readSum_55 rfl (by omega) ?_
            exact ⟨rfl, rfl, rfl, rfl, rfl⟩
set_option maxRecDepth 100000 in
set_option maxHeartbeats 4000000 in
theorem c_sum22 (hz : stZ z) (hR : stR hr) (hdr : hr 17 1 = some 22) {part : aI → Option (Int × aI)} {dp v : Int} {h9 : aI} (hsub : ∀ h v h2, part h = some (v, h2) → a_ct G mX4_readPart (d + 2) [vR 17, vI dp] z hr h hl (rdQ z hr hl v h2)) (hrun : pSm 22 part hi = some (v, h9)) : a_ct G mX4_readSum (d + 3) [vR 17, vI dp] z hr hi hl (rdQ z hr hl v h9) := by
  unfold pSm at hrun
  cases e : part hi with
  | none => rw [e] at hrun; cases hrun
  | some yy =>
  rw [e] at hrun
  replace hrun : (if yy.1 = 0 then some (0, yy.2) else pSl 22 part 600 yy.2) = some (v, h9) := hrun
  refine a_ct_of rfl (Nat.le_of_ble_eq_true rfl) ?_
  refine a_aload_n (n := 1) dX4_readSum_0 rfl rfl ?_
  refine a_iload_n (n := 2) dX4_readSum_1 rfl rfl ?_
  refine a_callV (M2 := mX4_readPart) (n := 5) dX4_readSum_2 rfl (hsub _ _ _ e) kX4_readPart lX4_80 iX4_readPart eX4_readPart (by decide) (by omega) (s17 hz) rfl (Nat.le_of_ble_eq_true rfl) (fun q2 z2 hr2 hi2 hl2 h2 => ?_)
  obtain ⟨e12, e22, e32, rfl, rfl⟩ := h2
  obtain rfl := e12.symm
  obtain rfl := e22.symm
  obtain rfl := e32.symm
  show a_wp G _ _ _ _ (vI yy.1 :: _) _ _ _ _ _
  refine a_if_ne (t := 10) (n := 8) dX4_readSum_5 rfl rfl (fun c5 => ?_) (fun c5 => ?_)
  · rw [if_neg (by omega)] at hrun
    refine a_iconst (n := 11) dX4_readSum_10 rfl ⟨by decide, by decide⟩ ?_
    refine b_istore_n (n := 12) dX4_readSum_11 rfl (by decide) rfl ?_
    exact c_sum22_l hz hR hdr hsub 600 0 _ _ (by decide) (by decide) hrun
  · rw [if_pos (by omega)] at hrun
    obtain ⟨rfl, rfl⟩ := Prod.mk.inj (Option.some.inj hrun)
    refine a_iconst (n := 9) dX4_readSum_8 rfl ⟨by decide, by decide⟩ ?_
    refine a_zreturn dX4_readSum_9 rfl (by omega) ?_
    exact ⟨rfl, rfl, rfl, rfl, rfl⟩
set_option maxRecDepth 100000 in
set_option maxHeartbeats 4000000 in
theorem c_ands22_l (hz : stZ z) (hR : stR hr) (hdr : hr 17 1 = some 22) {test : aI → Option (Int × aI)} {dp v : Int} {h9 : aI} (hsub : ∀ h v h2, test h = some (v, h2) → a_ct G mX4_readTest (d + 4) [vR 17, vI dp] z hr h hl (rdQ z hr hl v h2)) (n : Nat) : ∀ (k : Int) (hi : aI), 0 ≤ k → k + n = 600 → pAl 22 test n hi = some (v, h9) → a_wp G mX4_readAnds (d + 5) 12 [some (vR 17), some (vI dp), some (vI k)] [] z hr hi hl (rdQ z hr hl v h9) := by
  induction n with
  | zero =>
    intro k hi h0 hk hrun
    rw [pAl] at hrun
    refine a_iload_n (n := 13) dX4_readAnds_12 rfl rfl ?_
    refine a_sipush (n := 16) dX4_readAnds_13 rfl ⟨by decide, by decide⟩ (by decide) ?_
    refine a_icmp_ge (t := 58) (n := 19) dX4_readAnds_16 rfl rfl (fun c16 => ?_) (fun c16 => ?_)
    · refine a_iconst (n := 59) dX4_readAnds_58 rfl ⟨by decide, by decide⟩ ?_
      refine a_zreturn dX4_readAnds_59 rfl (by omega) ?_
      obtain ⟨rfl, rfl⟩ := Prod.mk.inj (Option.some.inj hrun)
      exact ⟨rfl, rfl, rfl, rfl, rfl⟩
    · omega
  | succ n ih =>
    intro k hi h0 hk hrun
    rw [pAl] at hrun
    refine a_iload_n (n := 13) dX4_readAnds_12 rfl rfl ?_
    refine a_sipush (n := 16) dX4_readAnds_13 rfl ⟨by decide, by decide⟩ (by decide) ?_
    refine a_icmp_ge (t := 58) (n := 19) dX4_readAnds_16 rfl rfl (fun c16 => ?_) (fun c16 => ?_)
    · omega
    · refine a_aload_n (n := 20) dX4_readAnds_19 rfl rfl ?_
      refine a_getI (n := 23) dX4_readAnds_20 rfl fX4_43 (s17 hz) ?_
      refine a_bipush (n := 25) dX4_readAnds_23 rfl ⟨by decide, by decide⟩ (by decide) ?_
      refine a_icmp_ne (t := 58) (n := 28) dX4_readAnds_25 rfl rfl (fun c25 => ?_) (fun c25 => ?_)
      · rw [if_pos (by omega)] at hrun
        obtain ⟨rfl, rfl⟩ := Prod.mk.inj (Option.some.inj hrun)
        refine a_iconst (n := 59) dX4_readAnds_58 rfl ⟨by decide, by decide⟩ ?_
        refine a_zreturn dX4_readAnds_59 rfl (by omega) ?_
        exact ⟨rfl, rfl, rfl, rfl, rfl⟩
      · rw [if_neg (not_not_intro (by omega))] at hrun
        by_cases hG : gd 22 hi
        case neg => rw [if_pos hG] at hrun; cases hrun
        rw [if_neg (not_not_intro hG)] at hrun
        cases e : test (cAd hi) with
        | none => rw [e] at hrun; cases hrun
        | some yy =>
        rw [e] at hrun
        replace hrun : (if yy.1 = 0 then some (0, yy.2) else if ¬ (0 ≤ yy.2 22 6 ∧ yy.2 22 6 < 600) then none else pAl 22 test n (cAdd 22 yy.2 14 0)) = some (v, h9) := hrun
        refine a_aload_n (n := 29) dX4_readAnds_28 rfl rfl ?_
        refine a_callV (M2 := mX4_advance) (n := 32) dX4_readAnds_29 rfl (c_advance (d := d) hz hR hG.1 hG.2.1) kX4_advance lX4_57 iX4_advance eX4_advance (by decide) (by omega) (s17 hz) rfl (Nat.le_of_ble_eq_true rfl) (fun q29 z29 hr29 hi29 hl29 h29 => ?_)
        obtain ⟨e129, e229, e329, rfl, rfl⟩ := h29
        obtain rfl := e129.symm
        obtain rfl := e229.symm
        obtain rfl := e329.symm
        show a_wp G _ _ _ _ [] _ _ _ _ _
        refine a_aload_n (n := 33) dX4_readAnds_32 rfl rfl ?_
        refine a_iload_n (n := 34) dX4_readAnds_33 rfl rfl ?_
        refine a_callV (M2 := mX4_readTest) (n := 37) dX4_readAnds_34 rfl (hsub _ _ _ e) kX4_readTest lX4_70 iX4_readTest eX4_readTest (by decide) (by omega) (s17 hz) rfl (Nat.le_of_ble_eq_true rfl) (fun q34 z34 hr34 hi34 hl34 h34 => ?_)
        obtain ⟨e134, e234, e334, rfl, rfl⟩ := h34
        obtain rfl := e134.symm
        obtain rfl := e234.symm
        obtain rfl := e334.symm
        show a_wp G _ _ _ _ (vI yy.1 :: _) _ _ _ _ _
        refine a_if_ne (t := 42) (n := 40) dX4_readAnds_37 rfl rfl (fun c37 => ?_) (fun c37 => ?_)
        · rw [if_neg (by omega)] at hrun
          by_cases hC : 0 ≤ yy.2 22 6 ∧ yy.2 22 6 < 600
          case neg => rw [if_pos hC] at hrun; cases hrun
          rw [if_neg (not_not_intro hC)] at hrun
          refine a_aload_n (n := 43) dX4_readAnds_42 rfl rfl ?_
          refine a_getO (n := 46) dX4_readAnds_43 rfl fX4_21 (s17 hz) ?_
          rw [hdr]
          refine a_bipush (n := 48) dX4_readAnds_46 rfl ⟨by decide, by decide⟩ (by decide) ?_
          refine a_iconst (n := 49) dX4_readAnds_48 rfl ⟨by decide, by decide⟩ ?_
          refine a_callV (M2 := mX5_addCode) (n := 52) dX4_readAnds_49 rfl (c_addCode22 (d := d) hz hR hC) kX5_addCode lX4_73 iX5_addCode eX5_addCode (by decide) (by omega) (s22 hz) rfl (Nat.le_of_ble_eq_true rfl) (fun q49 z49 hr49 hi49 hl49 h49 => ?_)
          obtain ⟨e149, e249, e349, rfl, e449⟩ := h49
          obtain rfl := e149.symm
          obtain rfl := e249.symm
          obtain rfl := e349.symm
          obtain rfl : hi49 = cAdd 22 yy.2 14 0 := e449
          show a_wp G _ _ _ _ [] _ _ _ _ _
          refine b_iinc (n := 55) dX4_readAnds_52 rfl (by decide) rfl rfl ⟨by omega, by omega⟩ ?_
          refine a_goto (t := 12) dX4_readAnds_55 rfl ?_
          exact ih (k + 1) _ (by omega) (by omega) hrun
        · rw [if_pos (by omega)] at hrun
          obtain ⟨rfl, rfl⟩ := Prod.mk.inj (Option.some.inj hrun)
          refine a_iconst (n := 41) dX4_readAnds_40 rfl ⟨by decide, by decide⟩ ?_
          refine a_zreturn dX4_readAnds_41 rfl (by omega) ?_
          exact ⟨rfl, rfl, rfl, rfl, rfl⟩
set_option maxRecDepth 100000 in
set_option maxHeartbeats 4000000 in
theorem c_ands22 (hz : stZ z) (hR : stR hr) (hdr : hr 17 1 = some 22) {test : aI → Option (Int × aI)} {dp v : Int} {h9 : aI} (hsub : ∀ h v h2, test h = some (v, h2) → a_ct G mX4_readTest (d + 4) [vR 17, vI dp] z hr h hl (rdQ z hr hl v h2)) (hrun : pAn 22 test hi = some (v, h9)) : a_ct G mX4_readAnds (d + 5) [vR 17, vI dp] z hr hi hl (rdQ z hr hl v h9) := by
  unfold pAn at hrun
  cases e : test hi with
  | none => rw [e] at hrun; cases hrun
  | some yy =>
  rw [e] at hrun
  replace hrun : (if yy.1 = 0 then some (0, yy.2) else pAl 22 test 600 yy.2) = some (v, h9) := hrun
  refine a_ct_of rfl (Nat.le_of_ble_eq_true rfl) ?_
  refine a_aload_n (n := 1) dX4_readAnds_0 rfl rfl ?_
  refine a_iload_n (n := 2) dX4_readAnds_1 rfl rfl ?_
  refine a_callV (M2 := mX4_readTest) (n := 5) dX4_readAnds_2 rfl (hsub _ _ _ e) kX4_readTest lX4_70 iX4_readTest eX4_readTest (by decide) (by omega) (s17 hz) rfl (Nat.le_of_ble_eq_true rfl) (fun q2 z2 hr2 hi2 hl2 h2 => ?_)
  obtain ⟨e12, e22, e32, rfl, rfl⟩ := h2
  obtain rfl := e12.symm
  obtain rfl := e22.symm
  obtain rfl := e32.symm
  show a_wp G _ _ _ _ (vI yy.1 :: _) _ _ _ _ _
  refine a_if_ne (t := 10) (n := 8) dX4_readAnds_5 rfl rfl (fun c5 => ?_) (fun c5 => ?_)
  · rw [if_neg (by omega)] at hrun
    refine a_iconst (n := 11) dX4_readAnds_10 rfl ⟨by decide, by decide⟩ ?_
    refine b_istore_n (n := 12) dX4_readAnds_11 rfl (by decide) rfl ?_
    exact c_ands22_l hz hR hdr hsub 600 0 _ (by decide) (by decide) hrun
  · rw [if_pos (by omega)] at hrun
    obtain ⟨rfl, rfl⟩ := Prod.mk.inj (Option.some.inj hrun)
    refine a_iconst (n := 9) dX4_readAnds_8 rfl ⟨by decide, by decide⟩ ?_
    refine a_zreturn dX4_readAnds_9 rfl (by omega) ?_
    exact ⟨rfl, rfl, rfl, rfl, rfl⟩
set_option maxRecDepth 100000 in
set_option maxHeartbeats 4000000 in
theorem c_test22 (hz : stZ z) (hR : stR hr) (hdr : hr 17 1 = some 22) {sum : aI → Option (Int × aI)} {dp v : Int} {h9 : aI} (hsub : ∀ h v h2, sum h = some (v, h2) → a_ct G mX4_readSum (d + 3) [vR 17, vI dp] z hr h hl (rdQ z hr hl v h2)) (hrun : pTs 22 sum hi = some (v, h9)) : a_ct G mX4_readTest (d + 4) [vR 17, vI dp] z hr hi hl (rdQ z hr hl v h9) := by
  unfold pTs at hrun
  cases e : sum hi with
  | none => rw [e] at hrun; cases hrun
  | some yy =>
  rw [e] at hrun
  replace hrun : (if yy.1 = 0 then (some (0, yy.2) : Option (Int × aI)) else if ¬ (yy.2 17 3 = 10 ∨ yy.2 17 3 = 11) then some (1, yy.2) else if ¬ gd 22 yy.2 then none else match sum (cAd yy.2) with
    | none => none
    | some (r3, h3) => if r3 = 0 then some (0, h3) else if ¬ (0 ≤ h3 22 6 ∧ h3 22 6 < 600) then none else some (1, cAdd 22 h3 (yy.2 17 3) 0)) = some (v, h9) := hrun
  refine a_ct_of rfl (Nat.le_of_ble_eq_true rfl) ?_
  refine a_aload_n (n := 1) dX4_readTest_0 rfl rfl ?_
  refine a_iload_n (n := 2) dX4_readTest_1 rfl rfl ?_
  refine a_callV (M2 := mX4_readSum) (n := 5) dX4_readTest_2 rfl (hsub _ _ _ e) kX4_readSum lX4_77 iX4_readSum eX4_readSum (by decide) (by omega) (s17 hz) rfl (Nat.le_of_ble_eq_true rfl) (fun q2 z2 hr2 hi2 hl2 h2 => ?_)
  obtain ⟨e12, e22, e32, rfl, rfl⟩ := h2
  obtain rfl := e12.symm
  obtain rfl := e22.symm
  obtain rfl := e32.symm
  show a_wp G _ _ _ _ (vI yy.1 :: _) _ _ _ _ _
  refine a_if_ne (t := 10) (n := 8) dX4_readTest_5 rfl rfl (fun c5 => ?_) (fun c5 => ?_)
  · rw [if_neg (by omega)] at hrun
    refine a_aload_n (n := 11) dX4_readTest_10 rfl rfl ?_
    refine a_getI (n := 14) dX4_readTest_11 rfl fX4_43 (s17 hz) ?_
    refine a_bipush (n := 16) dX4_readTest_14 rfl ⟨by decide, by decide⟩ (by decide) ?_
    refine a_icmp_eq (t := 30) (n := 19) dX4_readTest_16 rfl rfl (fun c16 => ?_) (fun c16 => ?_)
    · rw [if_neg (not_not_intro (by omega))] at hrun
      by_cases hG : gd 22 yy.2
      case neg => rw [if_pos hG] at hrun; cases hrun
      rw [if_neg (not_not_intro hG)] at hrun
      cases e2 : sum (cAd yy.2) with
      | none => rw [e2] at hrun; cases hrun
      | some y2 =>
      rw [e2] at hrun
      replace hrun : (if y2.1 = 0 then (some (0, y2.2) : Option (Int × aI)) else if ¬ (0 ≤ y2.2 22 6 ∧ y2.2 22 6 < 600) then none else some (1, cAdd 22 y2.2 (yy.2 17 3) 0)) = some (v, h9) := hrun
      refine a_aload_n (n := 31) dX4_readTest_30 rfl rfl ?_
      refine a_getI (n := 34) dX4_readTest_31 rfl fX4_43 (s17 hz) ?_
      refine b_istore_n (n := 35) dX4_readTest_34 rfl (by decide) rfl ?_
      refine a_aload_n (n := 36) dX4_readTest_35 rfl rfl ?_
      refine a_callV (M2 := mX4_advance) (n := 39) dX4_readTest_36 rfl (c_advance (d := d) hz hR hG.1 hG.2.1) kX4_advance lX4_57 iX4_advance eX4_advance (by decide) (by omega) (s17 hz) rfl (Nat.le_of_ble_eq_true rfl) (fun q36 z36 hr36 hi36 hl36 h36 => ?_)
      obtain ⟨e136, e236, e336, rfl, rfl⟩ := h36
      obtain rfl := e136.symm
      obtain rfl := e236.symm
      obtain rfl := e336.symm
      show a_wp G _ _ _ _ [] _ _ _ _ _
      refine a_aload_n (n := 40) dX4_readTest_39 rfl rfl ?_
      refine a_iload_n (n := 41) dX4_readTest_40 rfl rfl ?_
      refine a_callV (M2 := mX4_readSum) (n := 44) dX4_readTest_41 rfl (hsub _ _ _ e2) kX4_readSum lX4_77 iX4_readSum eX4_readSum (by decide) (by omega) (s17 hz) rfl (Nat.le_of_ble_eq_true rfl) (fun q41 z41 hr41 hi41 hl41 h41 => ?_)
      obtain ⟨e141, e241, e341, rfl, rfl⟩ := h41
      obtain rfl := e141.symm
      obtain rfl := e241.symm
      obtain rfl := e341.symm
      show a_wp G _ _ _ _ (vI y2.1 :: _) _ _ _ _ _
      refine a_if_ne (t := 49) (n := 47) dX4_readTest_44 rfl rfl (fun c44 => ?_) (fun c44 => ?_)
      · rw [if_neg (by omega)] at hrun
        by_cases hC : 0 ≤ y2.2 22 6 ∧ y2.2 22 6 < 600
        case neg => rw [if_pos hC] at hrun; cases hrun
        rw [if_neg (not_not_intro hC)] at hrun
        obtain ⟨rfl, rfl⟩ := Prod.mk.inj (Option.some.inj hrun)
        refine a_aload_n (n := 50) dX4_readTest_49 rfl rfl ?_
        refine a_getO (n := 53) dX4_readTest_50 rfl fX4_21 (s17 hz) ?_
        rw [hdr]
        refine a_iload_n (n := 54) dX4_readTest_53 rfl rfl ?_
        refine a_iconst (n := 55) dX4_readTest_54 rfl ⟨by decide, by decide⟩ ?_
        refine a_callV (M2 := mX5_addCode) (n := 58) dX4_readTest_55 rfl (c_addCode22 (d := d) hz hR hC) kX5_addCode lX4_73 iX5_addCode eX5_addCode (by decide) (by omega) (s22 hz) rfl (Nat.le_of_ble_eq_true rfl) (fun q55 z55 hr55 hi55 hl55 h55 => ?_)
        obtain ⟨e155, e255, e355, rfl, e455⟩ := h55
        obtain rfl := e155.symm
        obtain rfl := e255.symm
        obtain rfl := e355.symm
        obtain rfl : hi55 = cAdd 22 y2.2 (yy.2 17 3) 0 := e455
        show a_wp G _ _ _ _ [] _ _ _ _ _
        refine a_iconst (n := 59) dX4_readTest_58 rfl ⟨by decide, by decide⟩ ?_
        refine a_zreturn dX4_readTest_59 rfl (by omega) ?_
        exact ⟨rfl, rfl, rfl, rfl, rfl⟩
      · rw [if_pos (by omega)] at hrun
        obtain ⟨rfl, rfl⟩ := Prod.mk.inj (Option.some.inj hrun)
        refine a_iconst (n := 48) dX4_readTest_47 rfl ⟨by decide, by decide⟩ ?_
        refine a_zreturn dX4_readTest_48 rfl (by omega) ?_
        exact ⟨rfl, rfl, rfl, rfl, rfl⟩
    · refine a_aload_n (n := 20) dX4_readTest_19 rfl rfl ?_
      refine a_getI (n := 23) dX4_readTest_20 rfl fX4_43 (s17 hz) ?_
      refine a_bipush (n := 25) dX4_readTest_23 rfl ⟨by decide, by decide⟩ (by decide) ?_
      refine a_icmp_eq (t := 30) (n := 28) dX4_readTest_25 rfl rfl (fun c25 => ?_) (fun c25 => ?_)
      · rw [if_neg (not_not_intro (by omega))] at hrun
        by_cases hG : gd 22 yy.2
        case neg => rw [if_pos hG] at hrun; cases hrun
        rw [if_neg (not_not_intro hG)] at hrun
        cases e2 : sum (cAd yy.2) with
        | none => rw [e2] at hrun; cases hrun
        | some y2 =>
        rw [e2] at hrun
        replace hrun : (if y2.1 = 0 then (some (0, y2.2) : Option (Int × aI)) else if ¬ (0 ≤ y2.2 22 6 ∧ y2.2 22 6 < 600) then none else some (1, cAdd 22 y2.2 (yy.2 17 3) 0)) = some (v, h9) := hrun
        refine a_aload_n (n := 31) dX4_readTest_30 rfl rfl ?_
        refine a_getI (n := 34) dX4_readTest_31 rfl fX4_43 (s17 hz) ?_
        refine b_istore_n (n := 35) dX4_readTest_34 rfl (by decide) rfl ?_
        refine a_aload_n (n := 36) dX4_readTest_35 rfl rfl ?_
        refine a_callV (M2 := mX4_advance) (n := 39) dX4_readTest_36 rfl (c_advance (d := d) hz hR hG.1 hG.2.1) kX4_advance lX4_57 iX4_advance eX4_advance (by decide) (by omega) (s17 hz) rfl (Nat.le_of_ble_eq_true rfl) (fun q36 z36 hr36 hi36 hl36 h36 => ?_)
        obtain ⟨e136, e236, e336, rfl, rfl⟩ := h36
        obtain rfl := e136.symm
        obtain rfl := e236.symm
        obtain rfl := e336.symm
        show a_wp G _ _ _ _ [] _ _ _ _ _
        refine a_aload_n (n := 40) dX4_readTest_39 rfl rfl ?_
        refine a_iload_n (n := 41) dX4_readTest_40 rfl rfl ?_
        refine a_callV (M2 := mX4_readSum) (n := 44) dX4_readTest_41 rfl (hsub _ _ _ e2) kX4_readSum lX4_77 iX4_readSum eX4_readSum (by decide) (by omega) (s17 hz) rfl (Nat.le_of_ble_eq_true rfl) (fun q41 z41 hr41 hi41 hl41 h41 => ?_)
        obtain ⟨e141, e241, e341, rfl, rfl⟩ := h41
        obtain rfl := e141.symm
        obtain rfl := e241.symm
        obtain rfl := e341.symm
        show a_wp G _ _ _ _ (vI y2.1 :: _) _ _ _ _ _
        refine a_if_ne (t := 49) (n := 47) dX4_readTest_44 rfl rfl (fun c44 => ?_) (fun c44 => ?_)
        · rw [if_neg (by omega)] at hrun
          by_cases hC : 0 ≤ y2.2 22 6 ∧ y2.2 22 6 < 600
          case neg => rw [if_pos hC] at hrun; cases hrun
          rw [if_neg (not_not_intro hC)] at hrun
          obtain ⟨rfl, rfl⟩ := Prod.mk.inj (Option.some.inj hrun)
          refine a_aload_n (n := 50) dX4_readTest_49 rfl rfl ?_
          refine a_getO (n := 53) dX4_readTest_50 rfl fX4_21 (s17 hz) ?_
          rw [hdr]
          refine a_iload_n (n := 54) dX4_readTest_53 rfl rfl ?_
          refine a_iconst (n := 55) dX4_readTest_54 rfl ⟨by decide, by decide⟩ ?_
          refine a_callV (M2 := mX5_addCode) (n := 58) dX4_readTest_55 rfl (c_addCode22 (d := d) hz hR hC) kX5_addCode lX4_73 iX5_addCode eX5_addCode (by decide) (by omega) (s22 hz) rfl (Nat.le_of_ble_eq_true rfl) (fun q55 z55 hr55 hi55 hl55 h55 => ?_)
          obtain ⟨e155, e255, e355, rfl, e455⟩ := h55
          obtain rfl := e155.symm
          obtain rfl := e255.symm
          obtain rfl := e355.symm
          obtain rfl : hi55 = cAdd 22 y2.2 (yy.2 17 3) 0 := e455
          show a_wp G _ _ _ _ [] _ _ _ _ _
          refine a_iconst (n := 59) dX4_readTest_58 rfl ⟨by decide, by decide⟩ ?_
          refine a_zreturn dX4_readTest_59 rfl (by omega) ?_
          exact ⟨rfl, rfl, rfl, rfl, rfl⟩
        · rw [if_pos (by omega)] at hrun
          obtain ⟨rfl, rfl⟩ := Prod.mk.inj (Option.some.inj hrun)
          refine a_iconst (n := 48) dX4_readTest_47 rfl ⟨by decide, by decide⟩ ?_
          refine a_zreturn dX4_readTest_48 rfl (by omega) ?_
          exact ⟨rfl, rfl, rfl, rfl, rfl⟩
      · rw [if_pos (by omega)] at hrun
        obtain ⟨rfl, rfl⟩ := Prod.mk.inj (Option.some.inj hrun)
        refine a_iconst (n := 29) dX4_readTest_28 rfl ⟨by decide, by decide⟩ ?_
        refine a_zreturn dX4_readTest_29 rfl (by omega) ?_
        exact ⟨rfl, rfl, rfl, rfl, rfl⟩
  · rw [if_pos (by omega)] at hrun
    obtain ⟨rfl, rfl⟩ := Prod.mk.inj (Option.some.inj hrun)
    refine a_iconst (n := 9) dX4_readTest_8 rfl ⟨by decide, by decide⟩ ?_
    refine a_zreturn dX4_readTest_9 rfl (by omega) ?_
    exact ⟨rfl, rfl, rfl, rfl, rfl⟩
set_option maxRecDepth 100000 in
set_option maxHeartbeats 4000000 in
theorem c_sum31_l (hz : stZ z) (hR : stR hr) (hdr : hr 17 1 = some 31) {part : aI → Option (Int × aI)} {dp v : Int} {h9 : aI} (hsub : ∀ h v h2, part h = some (v, h2) → a_ct G mX4_readPart (d + 2) [vR 17, vI dp] z hr h hl (rdQ z hr hl v h2)) (n : Nat) : ∀ (k : Int) (hi : aI) (x3 : Option aV), 0 ≤ k → k + n = 600 → pSl 31 part n hi = some (v, h9) → a_wp G mX4_readSum (d + 3) 12 [some (vR 17), some (vI dp), some (vI k), x3] [] z hr hi hl (rdQ z hr hl v h9) := by
  induction n with
  | zero =>
    intro k hi x3 h0 hk hrun
    rw [pSl] at hrun
    refine a_iload_n (n := 13) dX4_readSum_12 rfl rfl ?_
    refine a_sipush (n := 16) dX4_readSum_13 rfl ⟨by decide, by decide⟩ (by decide) ?_
    refine a_icmp_ge (t := 71) (n := 19) dX4_readSum_16 rfl rfl (fun c16 => ?_) (fun c16 => ?_)
    · refine a_iconst (n := 72) dX4_readSum_71 rfl ⟨by decide, by decide⟩ ?_
      refine a_zreturn dX4_readSum_72 rfl (by omega) ?_
      obtain ⟨rfl, rfl⟩ := Prod.mk.inj (Option.some.inj hrun)
      exact ⟨rfl, rfl, rfl, rfl, rfl⟩
    · omega
  | succ n ih =>
    intro k hi x3 h0 hk hrun
    rw [pSl] at hrun
    refine a_iload_n (n := 13) dX4_readSum_12 rfl rfl ?_
    refine a_sipush (n := 16) dX4_readSum_13 rfl ⟨by decide, by decide⟩ (by decide) ?_
    refine a_icmp_ge (t := 71) (n := 19) dX4_readSum_16 rfl rfl (fun c16 => ?_) (fun c16 => ?_)
    · omega
    · refine a_aload_n (n := 20) dX4_readSum_19 rfl rfl ?_
      refine a_getI (n := 23) dX4_readSum_20 rfl fX4_43 (s17 hz) ?_
      refine a_bipush (n := 25) dX4_readSum_23 rfl ⟨by decide, by decide⟩ (by decide) ?_
      refine a_icmp_eq (t := 37) (n := 28) dX4_readSum_25 rfl rfl (fun c25 => ?_) (fun c25 => ?_)
      · rw [if_neg (not_not_intro (by omega))] at hrun
        by_cases hG : gd 31 hi
        case neg => rw [if_pos hG] at hrun; cases hrun
        rw [if_neg (not_not_intro hG)] at hrun
        cases e : part (cAd hi) with
        | none => rw [e] at hrun; cases hrun
        | some yy =>
        rw [e] at hrun
        replace hrun : (if yy.1 = 0 then some (0, yy.2) else if ¬ (0 ≤ yy.2 31 6 ∧ yy.2 31 6 < 600) then none else pSl 31 part n (cAdd 31 yy.2 (hi 17 3) 0)) = some (v, h9) := hrun
        refine a_aload_n (n := 38) dX4_readSum_37 rfl rfl ?_
        refine a_getI (n := 41) dX4_readSum_38 rfl fX4_43 (s17 hz) ?_
        refine b_istore_n (n := 42) dX4_readSum_41 rfl (by decide) rfl ?_
        refine a_aload_n (n := 43) dX4_readSum_42 rfl rfl ?_
        refine a_callV (M2 := mX4_advance) (n := 46) dX4_readSum_43 rfl (c_advance (d := d) hz hR hG.1 hG.2.1) kX4_advance lX4_57 iX4_advance eX4_advance (by decide) (by omega) (s17 hz) rfl (Nat.le_of_ble_eq_true rfl) (fun q43 z43 hr43 hi43 hl43 h43 => ?_)
        obtain ⟨e143, e243, e343, rfl, rfl⟩ := h43
        obtain rfl := e143.symm
        obtain rfl := e243.symm
        obtain rfl := e343.symm
        show a_wp G _ _ _ _ [] _ _ _ _ _
        refine a_aload_n (n := 47) dX4_readSum_46 rfl rfl ?_
        refine a_iload_n (n := 48) dX4_readSum_47 rfl rfl ?_
        refine a_callV (M2 := mX4_readPart) (n := 51) dX4_readSum_48 rfl (hsub _ _ _ e) kX4_readPart lX4_80 iX4_readPart eX4_readPart (by decide) (by omega) (s17 hz) rfl (Nat.le_of_ble_eq_true rfl) (fun q48 z48 hr48 hi48 hl48 h48 => ?_)
        obtain ⟨e148, e248, e348, rfl, rfl⟩ := h48
        obtain rfl := e148.symm
        obtain rfl := e248.symm
        obtain rfl := e348.symm
        show a_wp G _ _ _ _ (vI yy.1 :: _) _ _ _ _ _
        refine a_if_ne (t := 56) (n := 54) dX4_readSum_51 rfl rfl (fun c51 => ?_) (fun c51 => ?_)
        · rw [if_neg (by omega)] at hrun
          by_cases hC : 0 ≤ yy.2 31 6 ∧ yy.2 31 6 < 600
          case neg => rw [if_pos hC] at hrun; cases hrun
          rw [if_neg (not_not_intro hC)] at hrun
          refine a_aload_n (n := 57) dX4_readSum_56 rfl rfl ?_
          refine a_getO (n := 60) dX4_readSum_57 rfl fX4_21 (s17 hz) ?_
          rw [hdr]
          refine a_iload_n (n := 61) dX4_readSum_60 rfl rfl ?_
          refine a_iconst (n := 62) dX4_readSum_61 rfl ⟨by decide, by decide⟩ ?_
          refine a_callV (M2 := mX5_addCode) (n := 65) dX4_readSum_62 rfl (c_addCode31 (d := d) hz hR hC) kX5_addCode lX4_73 iX5_addCode eX5_addCode (by decide) (by omega) (s31 hz) rfl (Nat.le_of_ble_eq_true rfl) (fun q62 z62 hr62 hi62 hl62 h62 => ?_)
          obtain ⟨e162, e262, e362, rfl, e462⟩ := h62
          obtain rfl := e162.symm
          obtain rfl := e262.symm
          obtain rfl := e362.symm
          obtain rfl : hi62 = cAdd 31 yy.2 (hi 17 3) 0 := e462
          show a_wp G _ _ _ _ [] _ _ _ _ _
          refine b_iinc (n := 68) dX4_readSum_65 rfl (by decide) rfl rfl ⟨by omega, by omega⟩ ?_
          refine a_goto (t := 12) dX4_readSum_68 rfl ?_
          exact ih (k + 1) _ _ (by omega) (by omega) hrun
        · rw [if_pos (by omega)] at hrun
          obtain ⟨rfl, rfl⟩ := Prod.mk.inj (Option.some.inj hrun)
          refine a_iconst (n := 55) dX4_readSum_54 rfl ⟨by decide, by decide⟩ ?_
          refine a_zreturn dX4_readSum_55 rfl (by omega) ?_
          exact ⟨rfl, rfl, rfl, rfl, rfl⟩
      · refine a_aload_n (n := 29) dX4_readSum_28 rfl rfl ?_
        refine a_getI (n := 32) dX4_readSum_29 rfl fX4_43 (s17 hz) ?_
        refine a_bipush (n := 34) dX4_readSum_32 rfl ⟨by decide, by decide⟩ (by decide) ?_
        refine a_icmp_ne (t := 71) (n := 37) dX4_readSum_34 rfl rfl (fun c34 => ?_) (fun c34 => ?_)
        · rw [if_pos (by omega)] at hrun
          obtain ⟨rfl, rfl⟩ := Prod.mk.inj (Option.some.inj hrun)
          refine a_iconst (n := 72) dX4_readSum_71 rfl ⟨by decide, by decide⟩ ?_
          refine a_zreturn dX4_readSum_72 rfl (by omega) ?_
          exact ⟨rfl, rfl, rfl, rfl, rfl⟩
        · rw [if_neg (not_not_intro (by omega))] at hrun
          by_cases hG : gd 31 hi
          case neg => rw [if_pos hG] at hrun; cases hrun
          rw [if_neg (not_not_intro hG)] at hrun
          cases e : part (cAd hi) with
          | none => rw [e] at hrun; cases hrun
          | some yy =>
          rw [e] at hrun
          replace hrun : (if yy.1 = 0 then some (0, yy.2) else if ¬ (0 ≤ yy.2 31 6 ∧ yy.2 31 6 < 600) then none else pSl 31 part n (cAdd 31 yy.2 (hi 17 3) 0)) = some (v, h9) := hrun
          refine a_aload_n (n := 38) dX4_readSum_37 rfl rfl ?_
          refine a_getI (n := 41) dX4_readSum_38 rfl fX4_43 (s17 hz) ?_
          refine b_istore_n (n := 42) dX4_readSum_41 rfl (by decide) rfl ?_
          refine a_aload_n (n := 43) dX4_readSum_42 rfl rfl ?_
          refine a_callV (M2 := mX4_advance) (n := 46) dX4_readSum_43 rfl (c_advance (d := d) hz hR hG.1 hG.2.1) kX4_advance lX4_57 iX4_advance eX4_advance (by decide) (by omega) (s17 hz) rfl (Nat.le_of_ble_eq_true rfl) (fun q43 z43 hr43 hi43 hl43 h43 => ?_)
          obtain ⟨e143, e243, e343, rfl, rfl⟩ := h43
          obtain rfl := e143.symm
          obtain rfl := e243.symm
          obtain rfl := e343.symm
          show a_wp G _ _ _ _ [] _ _ _ _ _
          refine a_aload_n (n := 47) dX4_readSum_46 rfl rfl ?_
          refine a_iload_n (n := 48) dX4_readSum_47 rfl rfl ?_
          refine a_callV (M2 := mX4_readPart) (n := 51) dX4_readSum_48 rfl (hsub _ _ _ e) kX4_readPart lX4_80 iX4_readPart eX4_readPart (by decide) (by omega) (s17 hz) rfl (Nat.le_of_ble_eq_true rfl) (fun q48 z48 hr48 hi48 hl48 h48 => ?_)
          obtain ⟨e148, e248, e348, rfl, rfl⟩ := h48
          obtain rfl := e148.symm
          obtain rfl := e248.symm
          obtain rfl := e348.symm
          show a_wp G _ _ _ _ (vI yy.1 :: _) _ _ _ _ _
          refine a_if_ne (t := 56) (n := 54) dX4_readSum_51 rfl rfl (fun c51 => ?_) (fun c51 => ?_)
          · rw [if_neg (by omega)] at hrun
            by_cases hC : 0 ≤ yy.2 31 6 ∧ yy.2 31 6 < 600
            case neg => rw [if_pos hC] at hrun; cases hrun
            rw [if_neg (not_not_intro hC)] at hrun
            refine a_aload_n (n := 57) dX4_readSum_56 rfl rfl ?_
            refine a_getO (n := 60) dX4_readSum_57 rfl fX4_21 (s17 hz) ?_
            rw [hdr]
            refine a_iload_n (n := 61) dX4_readSum_60 rfl rfl ?_
            refine a_iconst (n := 62) dX4_readSum_61 rfl ⟨by decide, by decide⟩ ?_
            refine a_callV (M2 := mX5_addCode) (n := 65) dX4_readSum_62 rfl (c_addCode31 (d := d) hz hR hC) kX5_addCode lX4_73 iX5_addCode eX5_addCode (by decide) (by omega) (s31 hz) rfl (Nat.le_of_ble_eq_true rfl) (fun q62 z62 hr62 hi62 hl62 h62 => ?_)
            obtain ⟨e162, e262, e362, rfl, e462⟩ := h62
            obtain rfl := e162.symm
            obtain rfl := e262.symm
            obtain rfl := e362.symm
            obtain rfl : hi62 = cAdd 31 yy.2 (hi 17 3) 0 := e462
            show a_wp G _ _ _ _ [] _ _ _ _ _
            refine b_iinc (n := 68) dX4_readSum_65 rfl (by decide) rfl rfl ⟨by omega, by omega⟩ ?_
            refine a_goto (t := 12) dX4_readSum_68 rfl ?_
            exact ih (k + 1) _ _ (by omega) (by omega) hrun
          · rw [if_pos (by omega)] at hrun
            obtain ⟨rfl, rfl⟩ := Prod.mk.inj (Option.some.inj hrun)
            refine a_iconst (n := 55) dX4_readSum_54 rfl ⟨by decide, by decide⟩ ?_
            refine a_zreturn dX4_readSum_55 rfl (by omega) ?_
            exact ⟨rfl, rfl, rfl, rfl, rfl⟩
set_option maxRecDepth 100000 in
set_option maxHeartbeats 4000000 in
theorem c_sum31 (hz : stZ z) (hR : stR hr) (hdr : hr 17 1 = some 31) {part : aI → Option (Int × aI)} {dp v : Int} {h9 : aI} (hsub : ∀ h v h2, part h = some (v, h2) → a_ct G mX4_readPart (d + 2) [vR 17, vI dp] z hr h hl (rdQ z hr hl v h2)) (hrun : pSm 31 part hi = some (v, h9)) : a_ct G mX4_readSum (d + 3) [vR 17, vI dp] z hr hi hl (rdQ z hr hl v h9) := by
  unfold pSm at hrun
  cases e : part hi with
  | none => rw [e] at hrun; cases hrun
  | some yy =>
  rw [e] at hrun
  replace hrun : (if yy.1 = 0 then some (0, yy.2) else pSl 31 part 600 yy.2) = some (v, h9) := hrun
  refine a_ct_of rfl (Nat.le_of_ble_eq_true rfl) ?_
  refine a_aload_n (n := 1) dX4_readSum_0 rfl rfl ?_
  refine a_iload_n (n := 2) dX4_readSum_1 rfl rfl ?_
  refine a_callV (M2 := mX4_readPart) (n := 5) dX4_readSum_2 rfl (hsub _ _ _ e) kX4_readPart lX4_80 iX4_readPart eX4_readPart (by decide) (by omega) (s17 hz) rfl (Nat.le_of_ble_eq_true rfl) (fun q2 z2 hr2 hi2 hl2 h2 => ?_)
  obtain ⟨e12, e22, e32, rfl, rfl⟩ := h2
  obtain rfl := e12.symm
  obtain rfl := e22.symm
  obtain rfl := e32.symm
  show a_wp G _ _ _ _ (vI yy.1 :: _) _ _ _ _ _
  refine a_if_ne (t := 10) (n := 8) dX4_readSum_5 rfl rfl (fun c5 => ?_) (fun c5 => ?_)
  · rw [if_neg (by omega)] at hrun
    refine a_iconst (n := 11) dX4_readSum_10 rfl ⟨by decide, by decide⟩ ?_
    refine b_istore_n (n := 12) dX4_readSum_11 rfl (by decide) rfl ?_
    exact c_sum31_l hz hR hdr hsub 600 0 _ _ (by decide) (by decide) hrun
  · rw [if_pos (by omega)] at hrun
    obtain ⟨rfl, rfl⟩ := Prod.mk.inj (Option.some.inj hrun)
    refine a_iconst (n := 9) dX4_readSum_8 rfl ⟨by decide, by decide⟩ ?_
    refine a_zreturn dX4_readSum_9 rfl (by omega) ?_
    exact ⟨rfl, rfl, rfl, rfl, rfl⟩
set_option maxRecDepth 100000 in
set_option maxHeartbeats 4000000 in
theorem c_ands31_l (hz : stZ z) (hR : stR hr) (hdr : hr 17 1 = some 31) {test : aI → Option (Int × aI)} {dp v : Int} {h9 : aI} (hsub : ∀ h v h2, test h = some (v, h2) → a_ct G mX4_readTest (d + 4) [vR 17, vI dp] z hr h hl (rdQ z hr hl v h2)) (n : Nat) : ∀ (k : Int) (hi : aI), 0 ≤ k → k + n = 600 → pAl 31 test n hi = some (v, h9) → a_wp G mX4_readAnds (d + 5) 12 [some (vR 17), some (vI dp), some (vI k)] [] z hr hi hl (rdQ z hr hl v h9) := by
  induction n with
  | zero =>
    intro k hi h0 hk hrun
    rw [pAl] at hrun
    refine a_iload_n (n := 13) dX4_readAnds_12 rfl rfl ?_
    refine a_sipush (n := 16) dX4_readAnds_13 rfl ⟨by decide, by decide⟩ (by decide) ?_
    refine a_icmp_ge (t := 58) (n := 19) dX4_readAnds_16 rfl rfl (fun c16 => ?_) (fun c16 => ?_)
    · refine a_iconst (n := 59) dX4_readAnds_58 rfl ⟨by decide, by decide⟩ ?_
      refine a_zreturn dX4_readAnds_59 rfl (by omega) ?_
      obtain ⟨rfl, rfl⟩ := Prod.mk.inj (Option.some.inj hrun)
      exact ⟨rfl, rfl, rfl, rfl, rfl⟩
    · omega
  | succ n ih =>
    intro k hi h0 hk hrun
    rw [pAl] at hrun
    refine a_iload_n (n := 13) dX4_readAnds_12 rfl rfl ?_
    refine a_sipush (n := 16) dX4_readAnds_13 rfl ⟨by decide, by decide⟩ (by decide) ?_
    refine a_icmp_ge (t := 58) (n := 19) dX4_readAnds_16 rfl rfl (fun c16 => ?_) (fun c16 => ?_)
    · omega
    · refine a_aload_n (n := 20) dX4_readAnds_19 rfl rfl ?_
      refine a_getI (n := 23) dX4_readAnds_20 rfl fX4_43 (s17 hz) ?_
      refine a_bipush (n := 25) dX4_readAnds_23 rfl ⟨by decide, by decide⟩ (by decide) ?_
      refine a_icmp_ne (t := 58) (n := 28) dX4_readAnds_25 rfl rfl (fun c25 => ?_) (fun c25 => ?_)
      · rw [if_pos (by omega)] at hrun
        obtain ⟨rfl, rfl⟩ := Prod.mk.inj (Option.some.inj hrun)
        refine a_iconst (n := 59) dX4_readAnds_58 rfl ⟨by decide, by decide⟩ ?_
        refine a_zreturn dX4_readAnds_59 rfl (by omega) ?_
        exact ⟨rfl, rfl, rfl, rfl, rfl⟩
      · rw [if_neg (not_not_intro (by omega))] at hrun
        by_cases hG : gd 31 hi
        case neg => rw [if_pos hG] at hrun; cases hrun
        rw [if_neg (not_not_intro hG)] at hrun
        cases e : test (cAd hi) with
        | none => rw [e] at hrun; cases hrun
        | some yy =>
        rw [e] at hrun
        replace hrun : (if yy.1 = 0 then some (0, yy.2) else if ¬ (0 ≤ yy.2 31 6 ∧ yy.2 31 6 < 600) then none else pAl 31 test n (cAdd 31 yy.2 14 0)) = some (v, h9) := hrun
        refine a_aload_n (n := 29) dX4_readAnds_28 rfl rfl ?_
        refine a_callV (M2 := mX4_advance) (n := 32) dX4_readAnds_29 rfl (c_advance (d := d) hz hR hG.1 hG.2.1) kX4_advance lX4_57 iX4_advance eX4_advance (by decide) (by omega) (s17 hz) rfl (Nat.le_of_ble_eq_true rfl) (fun q29 z29 hr29 hi29 hl29 h29 => ?_)
        obtain ⟨e129, e229, e329, rfl, rfl⟩ := h29
        obtain rfl := e129.symm
        obtain rfl := e229.symm
        obtain rfl := e329.symm
        show a_wp G _ _ _ _ [] _ _ _ _ _
        refine a_aload_n (n := 33) dX4_readAnds_32 rfl rfl ?_
        refine a_iload_n (n := 34) dX4_readAnds_33 rfl rfl ?_
        refine a_callV (M2 := mX4_readTest) (n := 37) dX4_readAnds_34 rfl (hsub _ _ _ e) kX4_readTest lX4_70 iX4_readTest eX4_readTest (by decide) (by omega) (s17 hz) rfl (Nat.le_of_ble_eq_true rfl) (fun q34 z34 hr34 hi34 hl34 h34 => ?_)
        obtain ⟨e134, e234, e334, rfl, rfl⟩ := h34
        obtain rfl := e134.symm
        obtain rfl := e234.symm
        obtain rfl := e334.symm
        show a_wp G _ _ _ _ (vI yy.1 :: _) _ _ _ _ _
        refine a_if_ne (t := 42) (n := 40) dX4_readAnds_37 rfl rfl (fun c37 => ?_) (fun c37 => ?_)
        · rw [if_neg (by omega)] at hrun
          by_cases hC : 0 ≤ yy.2 31 6 ∧ yy.2 31 6 < 600
          case neg => rw [if_pos hC] at hrun; cases hrun
          rw [if_neg (not_not_intro hC)] at hrun
          refine a_aload_n (n := 43) dX4_readAnds_42 rfl rfl ?_
          refine a_getO (n := 46) dX4_readAnds_43 rfl fX4_21 (s17 hz) ?_
          rw [hdr]
          refine a_bipush (n := 48) dX4_readAnds_46 rfl ⟨by decide, by decide⟩ (by decide) ?_
          refine a_iconst (n := 49) dX4_readAnds_48 rfl ⟨by decide, by decide⟩ ?_
          refine a_callV (M2 := mX5_addCode) (n := 52) dX4_readAnds_49 rfl (c_addCode31 (d := d) hz hR hC) kX5_addCode lX4_73 iX5_addCode eX5_addCode (by decide) (by omega) (s31 hz) rfl (Nat.le_of_ble_eq_true rfl) (fun q49 z49 hr49 hi49 hl49 h49 => ?_)
          obtain ⟨e149, e249, e349, rfl, e449⟩ := h49
          obtain rfl := e149.symm
          obtain rfl := e249.symm
          obtain rfl := e349.symm
          obtain rfl : hi49 = cAdd 31 yy.2 14 0 := e449
          show a_wp G _ _ _ _ [] _ _ _ _ _
          refine b_iinc (n := 55) dX4_readAnds_52 rfl (by decide) rfl rfl ⟨by omega, by omega⟩ ?_
          refine a_goto (t := 12) dX4_readAnds_55 rfl ?_
          exact ih (k + 1) _ (by omega) (by omega) hrun
        · rw [if_pos (by omega)] at hrun
          obtain ⟨rfl, rfl⟩ := Prod.mk.inj (Option.some.inj hrun)
          refine a_iconst (n := 41) dX4_readAnds_40 rfl ⟨by decide, by decide⟩ ?_
          refine a_zreturn dX4_readAnds_41 rfl (by omega) ?_
          exact ⟨rfl, rfl, rfl, rfl, rfl⟩
set_option maxRecDepth 100000 in
set_option maxHeartbeats 4000000 in
theorem c_ands31 (hz : stZ z) (hR : stR hr) (hdr : hr 17 1 = some 31) {test : aI → Option (Int × aI)} {dp v : Int} {h9 : aI} (hsub : ∀ h v h2, test h = some (v, h2) → a_ct G mX4_readTest (d + 4) [vR 17, vI dp] z hr h hl (rdQ z hr hl v h2)) (hrun : pAn 31 test hi = some (v, h9)) : a_ct G mX4_readAnds (d + 5) [vR 17, vI dp] z hr hi hl (rdQ z hr hl v h9) := by
  unfold pAn at hrun
  cases e : test hi with
  | none => rw [e] at hrun; cases hrun
  | some yy =>
  rw [e] at hrun
  replace hrun : (if yy.1 = 0 then some (0, yy.2) else pAl 31 test 600 yy.2) = some (v, h9) := hrun
  refine a_ct_of rfl (Nat.le_of_ble_eq_true rfl) ?_
  refine a_aload_n (n := 1) dX4_readAnds_0 rfl rfl ?_
  refine a_iload_n (n := 2) dX4_readAnds_1 rfl rfl ?_
  refine a_callV (M2 := mX4_readTest) (n := 5) dX4_readAnds_2 rfl (hsub _ _ _ e) kX4_readTest lX4_70 iX4_readTest eX4_readTest (by decide) (by omega) (s17 hz) rfl (Nat.le_of_ble_eq_true rfl) (fun q2 z2 hr2 hi2 hl2 h2 => ?_)
  obtain ⟨e12, e22, e32, rfl, rfl⟩ := h2
  obtain rfl := e12.symm
  obtain rfl := e22.symm
  obtain rfl := e32.symm
  show a_wp G _ _ _ _ (vI yy.1 :: _) _ _ _ _ _
  refine a_if_ne (t := 10) (n := 8) dX4_readAnds_5 rfl rfl (fun c5 => ?_) (fun c5 => ?_)
  · rw [if_neg (by omega)] at hrun
    refine a_iconst (n := 11) dX4_readAnds_10 rfl ⟨by decide, by decide⟩ ?_
    refine b_istore_n (n := 12) dX4_readAnds_11 rfl (by decide) rfl ?_
    exact c_ands31_l hz hR hdr hsub 600 0 _ (by decide) (by decide) hrun
  · rw [if_pos (by omega)] at hrun
    obtain ⟨rfl, rfl⟩ := Prod.mk.inj (Option.some.inj hrun)
    refine a_iconst (n := 9) dX4_readAnds_8 rfl ⟨by decide, by decide⟩ ?_
    refine a_zreturn dX4_readAnds_9 rfl (by omega) ?_
    exact ⟨rfl, rfl, rfl, rfl, rfl⟩
set_option maxRecDepth 100000 in
set_option maxHeartbeats 4000000 in
theorem c_test31 (hz : stZ z) (hR : stR hr) (hdr : hr 17 1 = some 31) {sum : aI → Option (Int × aI)} {dp v : Int} {h9 : aI} (hsub : ∀ h v h2, sum h = some (v, h2) → a_ct G mX4_readSum (d + 3) [vR 17, vI dp] z hr h hl (rdQ z hr hl v h2)) (hrun : pTs 31 sum hi = some (v, h9)) : a_ct G mX4_readTest (d + 4) [vR 17, vI dp] z hr hi hl (rdQ z hr hl v h9) := by
  unfold pTs at hrun
  cases e : sum hi with
  | none => rw [e] at hrun; cases hrun
  | some yy =>
  rw [e] at hrun
  replace hrun : (if yy.1 = 0 then (some (0, yy.2) : Option (Int × aI)) else if ¬ (yy.2 17 3 = 10 ∨ yy.2 17 3 = 11) then some (1, yy.2) else if ¬ gd 31 yy.2 then none else match sum (cAd yy.2) with
    | none => none
    | some (r3, h3) => if r3 = 0 then some (0, h3) else if ¬ (0 ≤ h3 31 6 ∧ h3 31 6 < 600) then none else some (1, cAdd 31 h3 (yy.2 17 3) 0)) = some (v, h9) := hrun
  refine a_ct_of rfl (Nat.le_of_ble_eq_true rfl) ?_
  refine a_aload_n (n := 1) dX4_readTest_0 rfl rfl ?_
  refine a_iload_n (n := 2) dX4_readTest_1 rfl rfl ?_
  refine a_callV (M2 := mX4_readSum) (n := 5) dX4_readTest_2 rfl (hsub _ _ _ e) kX4_readSum lX4_77 iX4_readSum eX4_readSum (by decide) (by omega) (s17 hz) rfl (Nat.le_of_ble_eq_true rfl) (fun q2 z2 hr2 hi2 hl2 h2 => ?_)
  obtain ⟨e12, e22, e32, rfl, rfl⟩ := h2
  obtain rfl := e12.symm
  obtain rfl := e22.symm
  obtain rfl := e32.symm
  show a_wp G _ _ _ _ (vI yy.1 :: _) _ _ _ _ _
  refine a_if_ne (t := 10) (n := 8) dX4_readTest_5 rfl rfl (fun c5 => ?_) (fun c5 => ?_)
  · rw [if_neg (by omega)] at hrun
    refine a_aload_n (n := 11) dX4_readTest_10 rfl rfl ?_
    refine a_getI (n := 14) dX4_readTest_11 rfl fX4_43 (s17 hz) ?_
    refine a_bipush (n := 16) dX4_readTest_14 rfl ⟨by decide, by decide⟩ (by decide) ?_
    refine a_icmp_eq (t := 30) (n := 19) dX4_readTest_16 rfl rfl (fun c16 => ?_) (fun c16 => ?_)
    · rw [if_neg (not_not_intro (by omega))] at hrun
      by_cases hG : gd 31 yy.2
      case neg => rw [if_pos hG] at hrun; cases hrun
      rw [if_neg (not_not_intro hG)] at hrun
      cases e2 : sum (cAd yy.2) with
      | none => rw [e2] at hrun; cases hrun
      | some y2 =>
      rw [e2] at hrun
      replace hrun : (if y2.1 = 0 then (some (0, y2.2) : Option (Int × aI)) else if ¬ (0 ≤ y2.2 31 6 ∧ y2.2 31 6 < 600) then none else some (1, cAdd 31 y2.2 (yy.2 17 3) 0)) = some (v, h9) := hrun
      refine a_aload_n (n := 31) dX4_readTest_30 rfl rfl ?_
      refine a_getI (n := 34) dX4_readTest_31 rfl fX4_43 (s17 hz) ?_
      refine b_istore_n (n := 35) dX4_readTest_34 rfl (by decide) rfl ?_
      refine a_aload_n (n := 36) dX4_readTest_35 rfl rfl ?_
      refine a_callV (M2 := mX4_advance) (n := 39) dX4_readTest_36 rfl (c_advance (d := d) hz hR hG.1 hG.2.1) kX4_advance lX4_57 iX4_advance eX4_advance (by decide) (by omega) (s17 hz) rfl (Nat.le_of_ble_eq_true rfl) (fun q36 z36 hr36 hi36 hl36 h36 => ?_)
      obtain ⟨e136, e236, e336, rfl, rfl⟩ := h36
      obtain rfl := e136.symm
      obtain rfl := e236.symm
      obtain rfl := e336.symm
      show a_wp G _ _ _ _ [] _ _ _ _ _
      refine a_aload_n (n := 40) dX4_readTest_39 rfl rfl ?_
      refine a_iload_n (n := 41) dX4_readTest_40 rfl rfl ?_
      refine a_callV (M2 := mX4_readSum) (n := 44) dX4_readTest_41 rfl (hsub _ _ _ e2) kX4_readSum lX4_77 iX4_readSum eX4_readSum (by decide) (by omega) (s17 hz) rfl (Nat.le_of_ble_eq_true rfl) (fun q41 z41 hr41 hi41 hl41 h41 => ?_)
      obtain ⟨e141, e241, e341, rfl, rfl⟩ := h41
      obtain rfl := e141.symm
      obtain rfl := e241.symm
      obtain rfl := e341.symm
      show a_wp G _ _ _ _ (vI y2.1 :: _) _ _ _ _ _
      refine a_if_ne (t := 49) (n := 47) dX4_readTest_44 rfl rfl (fun c44 => ?_) (fun c44 => ?_)
      · rw [if_neg (by omega)] at hrun
        by_cases hC : 0 ≤ y2.2 31 6 ∧ y2.2 31 6 < 600
        case neg => rw [if_pos hC] at hrun; cases hrun
        rw [if_neg (not_not_intro hC)] at hrun
        obtain ⟨rfl, rfl⟩ := Prod.mk.inj (Option.some.inj hrun)
        refine a_aload_n (n := 50) dX4_readTest_49 rfl rfl ?_
        refine a_getO (n := 53) dX4_readTest_50 rfl fX4_21 (s17 hz) ?_
        rw [hdr]
        refine a_iload_n (n := 54) dX4_readTest_53 rfl rfl ?_
        refine a_iconst (n := 55) dX4_readTest_54 rfl ⟨by decide, by decide⟩ ?_
        refine a_callV (M2 := mX5_addCode) (n := 58) dX4_readTest_55 rfl (c_addCode31 (d := d) hz hR hC) kX5_addCode lX4_73 iX5_addCode eX5_addCode (by decide) (by omega) (s31 hz) rfl (Nat.le_of_ble_eq_true rfl) (fun q55 z55 hr55 hi55 hl55 h55 => ?_)
        obtain ⟨e155, e255, e355, rfl, e455⟩ := h55
        obtain rfl := e155.symm
        obtain rfl := e255.symm
        obtain rfl := e355.symm
        obtain rfl : hi55 = cAdd 31 y2.2 (yy.2 17 3) 0 := e455
        show a_wp G _ _ _ _ [] _ _ _ _ _
        refine a_iconst (n := 59) dX4_readTest_58 rfl ⟨by decide, by decide⟩ ?_
        refine a_zreturn dX4_readTest_59 rfl (by omega) ?_
        exact ⟨rfl, rfl, rfl, rfl, rfl⟩
      · rw [if_pos (by omega)] at hrun
        obtain ⟨rfl, rfl⟩ := Prod.mk.inj (Option.some.inj hrun)
        refine a_iconst (n := 48) dX4_readTest_47 rfl ⟨by decide, by decide⟩ ?_
        refine a_zreturn dX4_readTest_48 rfl (by omega) ?_
        exact ⟨rfl, rfl, rfl, rfl, rfl⟩
    · refine a_aload_n (n := 20) dX4_readTest_19 rfl rfl ?_
      refine a_getI (n := 23) dX4_readTest_20 rfl fX4_43 (s17 hz) ?_
      refine a_bipush (n := 25) dX4_readTest_23 rfl ⟨by decide, by decide⟩ (by decide) ?_
      refine a_icmp_eq (t := 30) (n := 28) dX4_readTest_25 rfl rfl (fun c25 => ?_) (fun c25 => ?_)
      · rw [if_neg (not_not_intro (by omega))] at hrun
        by_cases hG : gd 31 yy.2
        case neg => rw [if_pos hG] at hrun; cases hrun
        rw [if_neg (not_not_intro hG)] at hrun
        cases e2 : sum (cAd yy.2) with
        | none => rw [e2] at hrun; cases hrun
        | some y2 =>
        rw [e2] at hrun
        replace hrun : (if y2.1 = 0 then (some (0, y2.2) : Option (Int × aI)) else if ¬ (0 ≤ y2.2 31 6 ∧ y2.2 31 6 < 600) then none else some (1, cAdd 31 y2.2 (yy.2 17 3) 0)) = some (v, h9) := hrun
        refine a_aload_n (n := 31) dX4_readTest_30 rfl rfl ?_
        refine a_getI (n := 34) dX4_readTest_31 rfl fX4_43 (s17 hz) ?_
        refine b_istore_n (n := 35) dX4_readTest_34 rfl (by decide) rfl ?_
        refine a_aload_n (n := 36) dX4_readTest_35 rfl rfl ?_
        refine a_callV (M2 := mX4_advance) (n := 39) dX4_readTest_36 rfl (c_advance (d := d) hz hR hG.1 hG.2.1) kX4_advance lX4_57 iX4_advance eX4_advance (by decide) (by omega) (s17 hz) rfl (Nat.le_of_ble_eq_true rfl) (fun q36 z36 hr36 hi36 hl36 h36 => ?_)
        obtain ⟨e136, e236, e336, rfl, rfl⟩ := h36
        obtain rfl := e136.symm
        obtain rfl := e236.symm
        obtain rfl := e336.symm
        show a_wp G _ _ _ _ [] _ _ _ _ _
        refine a_aload_n (n := 40) dX4_readTest_39 rfl rfl ?_
        refine a_iload_n (n := 41) dX4_readTest_40 rfl rfl ?_
        refine a_callV (M2 := mX4_readSum) (n := 44) dX4_readTest_41 rfl (hsub _ _ _ e2) kX4_readSum lX4_77 iX4_readSum eX4_readSum (by decide) (by omega) (s17 hz) rfl (Nat.le_of_ble_eq_true rfl) (fun q41 z41 hr41 hi41 hl41 h41 => ?_)
        obtain ⟨e141, e241, e341, rfl, rfl⟩ := h41
        obtain rfl := e141.symm
        obtain rfl := e241.symm
        obtain rfl := e341.symm
        show a_wp G _ _ _ _ (vI y2.1 :: _) _ _ _ _ _
        refine a_if_ne (t := 49) (n := 47) dX4_readTest_44 rfl rfl (fun c44 => ?_) (fun c44 => ?_)
        · rw [if_neg (by omega)] at hrun
          by_cases hC : 0 ≤ y2.2 31 6 ∧ y2.2 31 6 < 600
          case neg => rw [if_pos hC] at hrun; cases hrun
          rw [if_neg (not_not_intro hC)] at hrun
          obtain ⟨rfl, rfl⟩ := Prod.mk.inj (Option.some.inj hrun)
          refine a_aload_n (n := 50) dX4_readTest_49 rfl rfl ?_
          refine a_getO (n := 53) dX4_readTest_50 rfl fX4_21 (s17 hz) ?_
          rw [hdr]
          refine a_iload_n (n := 54) dX4_readTest_53 rfl rfl ?_
          refine a_iconst (n := 55) dX4_readTest_54 rfl ⟨by decide, by decide⟩ ?_
          refine a_callV (M2 := mX5_addCode) (n := 58) dX4_readTest_55 rfl (c_addCode31 (d := d) hz hR hC) kX5_addCode lX4_73 iX5_addCode eX5_addCode (by decide) (by omega) (s31 hz) rfl (Nat.le_of_ble_eq_true rfl) (fun q55 z55 hr55 hi55 hl55 h55 => ?_)
          obtain ⟨e155, e255, e355, rfl, e455⟩ := h55
          obtain rfl := e155.symm
          obtain rfl := e255.symm
          obtain rfl := e355.symm
          obtain rfl : hi55 = cAdd 31 y2.2 (yy.2 17 3) 0 := e455
          show a_wp G _ _ _ _ [] _ _ _ _ _
          refine a_iconst (n := 59) dX4_readTest_58 rfl ⟨by decide, by decide⟩ ?_
          refine a_zreturn dX4_readTest_59 rfl (by omega) ?_
          exact ⟨rfl, rfl, rfl, rfl, rfl⟩
        · rw [if_pos (by omega)] at hrun
          obtain ⟨rfl, rfl⟩ := Prod.mk.inj (Option.some.inj hrun)
          refine a_iconst (n := 48) dX4_readTest_47 rfl ⟨by decide, by decide⟩ ?_
          refine a_zreturn dX4_readTest_48 rfl (by omega) ?_
          exact ⟨rfl, rfl, rfl, rfl, rfl⟩
      · rw [if_pos (by omega)] at hrun
        obtain ⟨rfl, rfl⟩ := Prod.mk.inj (Option.some.inj hrun)
        refine a_iconst (n := 29) dX4_readTest_28 rfl ⟨by decide, by decide⟩ ?_
        refine a_zreturn dX4_readTest_29 rfl (by omega) ?_
        exact ⟨rfl, rfl, rfl, rfl, rfl⟩
  · rw [if_pos (by omega)] at hrun
    obtain ⟨rfl, rfl⟩ := Prod.mk.inj (Option.some.inj hrun)
    refine a_iconst (n := 9) dX4_readTest_8 rfl ⟨by decide, by decide⟩ ?_
    refine a_zreturn dX4_readTest_9 rfl (by omega) ?_
    exact ⟨rfl, rfl, rfl, rfl, rfl⟩
end C28
