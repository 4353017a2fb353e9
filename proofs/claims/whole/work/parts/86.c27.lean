section C27
variable {G : aG} {d : Nat} {z : aZ} {hr : aR} {hi hl : aI}
/-- the reader, as a partial function of the heap (c: the draft's cell); guards give the bounds *) -/
abbrev gd (c : Nat) (h : aI) : Prop := (0 ≤ h 17 2 ∧ h 17 2 ≤ 600) ∧ (h 17 2 = 600 → h 17 3 = 19) ∧ (0 ≤ h 20 (h 17 2) ∧ h 20 (h 17 2) ≤ 600) ∧ (0 ≤ h c 6 ∧ h c 6 < 600)
def cRf (h : aI) (k : Int) : aI := up2 h 17 4 (k + 16 * h 20 (h 17 2))
def cAdd (c : Nat) (h : aI) (k n : Int) : aI := up2 (up2 (up2 h (c + 1) (h c 6) k) (c + 2) (h c 6) n) c 6 (h c 6 + 1)
def pPt (c : Nat) (rec : aI → Option (Int × aI)) (d : Int) (h : aI) : Option (Int × aI) :=
  if ¬ gd c h then none else if 8 < h 17 3 then some (0, cRf h 1) else if 5 ≤ d then some (0, cRf h 5)
  else if h 17 3 = 8 then (match rec (cAd h) with
    | none => none
    | some (r, h2) => if r = 0 then some (0, h2) else if ¬ gd c h2 then none else if h2 17 3 = 9 then some (1, cAd h2) else some (0, cRf h2 1))
  else some (1, cAd (cAdd c h (h 17 3) (h 21 (h 17 2))))
/-- a method that reads: what it answers, what it leaves *) -/
abbrev rdQ (z : aZ) (hr : aR) (hl : aI) (v : Int) (h : aI) : Option aV → aZ → aR → aI → aI → Prop := fun r z' hr' hi' hl' => z' = z ∧ hr' = hr ∧ hl' = hl ∧ r = some (vI v) ∧ hi' = h
set_option maxRecDepth 100000 in
set_option maxHeartbeats 4000000 in
theorem c_part22 (hz : stZ z) (hR : stR hr) (hdr : hr 17 1 = some 22) {rec : aI → Option (Int × aI)} {dp v : Int} {h2 : aI} (hdp : 0 ≤ dp ∧ dp ≤ 6) (hrec : ∀ h v h2, rec h = some (v, h2) → a_ct G mX4_readAnds (d + 1) [vR 17, vI (dp + 1)] z hr h hl (rdQ z hr hl v h2)) (hrun : pPt 22 rec dp hi = some (v, h2)) : a_ct G mX4_readPart (d + 2) [vR 17, vI dp] z hr hi hl (rdQ z hr hl v h2) := by
  unfold pPt at hrun
  by_cases hG : gd 22 hi
  case neg => rw [if_pos hG] at hrun; cases hrun
  rw [if_neg (not_not_intro hG)] at hrun
  refine a_ct_of rfl (Nat.le_of_ble_eq_true rfl) ?_
  refine a_aload_n (n := 1) dX4_readPart_0 rfl rfl ?_
  refine a_getI (n := 4) dX4_readPart_1 rfl fX4_43 (s17 hz) ?_
  refine a_bipush (n := 6) dX4_readPart_4 rfl ⟨by decide, by decide⟩ (by decide) ?_
  refine a_icmp_le (t := 15) (n := 9) dX4_readPart_6 rfl rfl (fun c6 => ?_) (fun c6 => ?_)
  · rw [if_neg (by omega)] at hrun
    refine a_iload_n (n := 16) dX4_readPart_15 rfl rfl ?_
    refine a_iconst (n := 17) dX4_readPart_16 rfl ⟨by decide, by decide⟩ ?_
    refine a_icmp_lt (t := 26) (n := 20) dX4_readPart_17 rfl rfl (fun c17 => ?_) (fun c17 => ?_)
    · rw [if_neg (by omega)] at hrun
      refine a_aload_n (n := 27) dX4_readPart_26 rfl rfl ?_
      refine a_getI (n := 30) dX4_readPart_27 rfl fX4_43 (s17 hz) ?_
      refine a_bipush (n := 32) dX4_readPart_30 rfl ⟨by decide, by decide⟩ (by decide) ?_
      refine a_icmp_ne (t := 66) (n := 35) dX4_readPart_32 rfl rfl (fun c32 => ?_) (fun c32 => ?_)
      · rw [if_neg c32] at hrun
        obtain ⟨rfl, rfl⟩ := Prod.mk.inj (Option.some.inj hrun)
        refine a_aload_n (n := 67) dX4_readPart_66 rfl rfl ?_
        refine a_getO (n := 70) dX4_readPart_67 rfl fX4_21 (s17 hz) ?_
        rw [hdr]
        refine a_aload_n (n := 71) dX4_readPart_70 rfl rfl ?_
        refine a_getI (n := 74) dX4_readPart_71 rfl fX4_43 (s17 hz) ?_
        refine a_aload_n (n := 75) dX4_readPart_74 rfl rfl ?_
        refine a_getR (n := 78) dX4_readPart_75 rfl fX4_12 (s17 hz) (r17_0 hR) ?_
        refine a_getR (n := 81) dX4_readPart_78 rfl fX4_83 (s18 hz) (r18_2 hR) ?_
        refine a_aload_n (n := 82) dX4_readPart_81 rfl rfl ?_
        refine a_getI (n := 85) dX4_readPart_82 rfl fX4_36 (s17 hz) ?_
        refine a_iald (n := 86) dX4_readPart_85 rfl (s21 hz) (by omega) (by omega) ?_
        refine a_callV (M2 := mX5_addCode) (n := 89) dX4_readPart_86 rfl (c_addCode22 (d := d + 1) hz hR hG.2.2.2) kX5_addCode lX4_73 iX5_addCode eX5_addCode (by decide) (by omega) (s22 hz) rfl (Nat.le_of_ble_eq_true rfl) (fun q86 z86 hr86 hi86 hl86 h86 => ?_)
        obtain ⟨e186, e286, e386, rfl, e486⟩ := h86
        obtain rfl := e186.symm
        obtain rfl := e286.symm
        obtain rfl := e386.symm
        obtain rfl : hi86 = cAdd 22 hi (hi 17 3) (hi 21 (hi 17 2)) := e486
        show a_wp G _ _ _ _ [] _ _ _ _ _
        refine a_aload_n (n := 90) dX4_readPart_89 rfl rfl ?_
        refine a_callV (M2 := mX4_advance) (n := 93) dX4_readPart_90 rfl (c_advance (d := d + 1) hz hR (by unfold cAdd; simp only [up2_eq, Nat.reduceEqDiff, Int.reduceEq, and_true, true_and, and_false, false_and, and_self, if_true, if_false, reduceIte]; exact hG.1) (by unfold cAdd; simp only [up2_eq, Nat.reduceEqDiff, Int.reduceEq, and_true, true_and, and_false, false_and, and_self, if_true, if_false, reduceIte]; exact hG.2.1)) kX4_advance lX4_57 iX4_advance eX4_advance (by decide) (by omega) (s17 hz) rfl (Nat.le_of_ble_eq_true rfl) (fun q90 z90 hr90 hi90 hl90 h90 => ?_)
        obtain ⟨e190, e290, e390, rfl, rfl⟩ := h90
        obtain rfl := e190.symm
        obtain rfl := e290.symm
        obtain rfl := e390.symm
        show a_wp G _ _ _ _ [] _ _ _ _ _
        refine a_iconst (n := 94) dX4_readPart_93 rfl ⟨by decide, by decide⟩ ?_
        refine a_zreturn dX4_readPart_94 rfl (by omega) ?_
        exact ⟨rfl, rfl, rfl, rfl, rfl⟩
      · rw [if_pos (by omega)] at hrun
        cases e : rec (cAd hi) with
        | none => rw [e] at hrun; cases hrun
        | some y =>
        rw [e] at hrun
        replace hrun : (if y.1 = 0 then some (0, y.2) else if ¬ gd 22 y.2 then none else if y.2 17 3 = 9 then some (1, cAd y.2) else some (0, cRf y.2 1)) = some (v, h2) := hrun
        refine a_aload_n (n := 36) dX4_readPart_35 rfl rfl ?_
        refine a_callV (M2 := mX4_advance) (n := 39) dX4_readPart_36 rfl (c_advance (d := d + 1) hz hR hG.1 hG.2.1) kX4_advance lX4_57 iX4_advance eX4_advance (by decide) (by omega) (s17 hz) rfl (Nat.le_of_ble_eq_true rfl) (fun q36 z36 hr36 hi36 hl36 h36 => ?_)
        obtain ⟨e136, e236, e336, rfl, rfl⟩ := h36
        obtain rfl := e136.symm
        obtain rfl := e236.symm
        obtain rfl := e336.symm
        show a_wp G _ _ _ _ [] _ _ _ _ _
        refine a_aload_n (n := 40) dX4_readPart_39 rfl rfl ?_
        refine a_iload_n (n := 41) dX4_readPart_40 rfl rfl ?_
        refine a_iconst (n := 42) dX4_readPart_41 rfl ⟨by decide, by decide⟩ ?_
        refine a_iadd (n := 43) dX4_readPart_42 rfl ⟨by omega, by omega⟩ ?_
        refine a_callV (M2 := mX4_readAnds) (n := 46) dX4_readPart_43 rfl (hrec _ _ _ e) kX4_readAnds lX4_63 iX4_readAnds eX4_readAnds (by decide) (by omega) (s17 hz) rfl (Nat.le_of_ble_eq_true rfl) (fun q43 z43 hr43 hi43 hl43 h43 => ?_)
        obtain ⟨e143, e243, e343, rfl, rfl⟩ := h43
        obtain rfl := e143.symm
        obtain rfl := e243.symm
        obtain rfl := e343.symm
        show a_wp G _ _ _ _ (vI y.1 :: _) _ _ _ _ _
        refine a_if_ne (t := 51) (n := 49) dX4_readPart_46 rfl rfl (fun c46 => ?_) (fun c46 => ?_)
        · rw [if_neg (by omega)] at hrun
          by_cases hG2 : gd 22 y.2
          case neg => rw [if_pos hG2] at hrun; cases hrun
          rw [if_neg (not_not_intro hG2)] at hrun
          refine a_aload_n (n := 52) dX4_readPart_51 rfl rfl ?_
          refine a_getI (n := 55) dX4_readPart_52 rfl fX4_43 (s17 hz) ?_
          refine a_bipush (n := 57) dX4_readPart_55 rfl ⟨by decide, by decide⟩ (by decide) ?_
          refine a_icmp_eq (t := 89) (n := 60) dX4_readPart_57 rfl rfl (fun c57 => ?_) (fun c57 => ?_)
          · rw [if_pos c57] at hrun
            obtain ⟨rfl, rfl⟩ := Prod.mk.inj (Option.some.inj hrun)
            refine a_aload_n (n := 90) dX4_readPart_89 rfl rfl ?_
            refine a_callV (M2 := mX4_advance) (n := 93) dX4_readPart_90 rfl (c_advance (d := d + 1) hz hR hG2.1 hG2.2.1) kX4_advance lX4_57 iX4_advance eX4_advance (by decide) (by omega) (s17 hz) rfl (Nat.le_of_ble_eq_true rfl) (fun q90 z90 hr90 hi90 hl90 h90 => ?_)
            obtain ⟨e190, e290, e390, rfl, rfl⟩ := h90
            obtain rfl := e190.symm
            obtain rfl := e290.symm
            obtain rfl := e390.symm
            show a_wp G _ _ _ _ [] _ _ _ _ _
            refine a_iconst (n := 94) dX4_readPart_93 rfl ⟨by decide, by decide⟩ ?_
            refine a_zreturn dX4_readPart_94 rfl (by omega) ?_
            exact ⟨rfl, rfl, rfl, rfl, rfl⟩
          · rw [if_neg c57] at hrun
            obtain ⟨rfl, rfl⟩ := Prod.mk.inj (Option.some.inj hrun)
            refine a_aload_n (n := 61) dX4_readPart_60 rfl rfl ?_
            refine a_iconst (n := 62) dX4_readPart_61 rfl ⟨by decide, by decide⟩ ?_
            refine a_callV (M2 := mX4_refuse) (n := 65) dX4_readPart_62 rfl (c_refuse (d := d + 1) hz hR (by decide) hG2.1 hG2.2.2.1) kX4_refuse lX4_53 iX4_refuse eX4_refuse (by decide) (by omega) (s17 hz) rfl (Nat.le_of_ble_eq_true rfl) (fun q62 z62 hr62 hi62 hl62 h62 => ?_)
            obtain ⟨e162, e262, e362, rfl, rfl⟩ := h62
            obtain rfl := e162.symm
            obtain rfl := e262.symm
            obtain rfl := e362.symm
            show a_wp G _ _ _ _ (vI 0 :: _) _ _ _ _ _
            refine a_zreturn dX4_readPart_65 rfl (by omega) ?_
            exact ⟨rfl, rfl, rfl, rfl, rfl⟩
        · rw [if_pos (by omega)] at hrun
          obtain ⟨rfl, rfl⟩ := Prod.mk.inj (Option.some.inj hrun)
          refine a_iconst (n := 50) dX4_readPart_49 rfl ⟨by decide, by decide⟩ ?_
          refine a_zreturn dX4_readPart_50 rfl (by omega) ?_
          exact ⟨rfl, rfl, rfl, rfl, rfl⟩
    · rw [if_pos (by omega)] at hrun
      obtain ⟨rfl, rfl⟩ := Prod.mk.inj (Option.some.inj hrun)
      refine a_aload_n (n := 21) dX4_readPart_20 rfl rfl ?_
      refine a_iconst (n := 22) dX4_readPart_21 rfl ⟨by decide, by decide⟩ ?_
      refine a_callV (M2 := mX4_refuse) (n := 25) dX4_readPart_22 rfl (c_refuse (d := d + 1) hz hR (by decide) hG.1 hG.2.2.1) kX4_refuse lX4_53 iX4_refuse eX4_refuse (by decide) (by omega) (s17 hz) rfl (Nat.le_of_ble_eq_true rfl) (fun q22 z22 hr22 hi22 hl22 h22 => ?_)
      obtain ⟨e122, e222, e322, rfl, rfl⟩ := h22
      obtain rfl := e122.symm
      obtain rfl := e222.symm
      obtain rfl := e322.symm
      show a_wp G _ _ _ _ (vI 0 :: _) _ _ _ _ _
      refine a_zreturn dX4_readPart_25 rfl (by omega) ?_
      exact ⟨rfl, rfl, rfl, rfl, rfl⟩
  · rw [if_pos (by omega)] at hrun
    obtain ⟨rfl, rfl⟩ := Prod.mk.inj (Option.some.inj hrun)
    refine a_aload_n (n := 10) dX4_readPart_9 rfl rfl ?_
    refine a_iconst (n := 11) dX4_readPart_10 rfl ⟨by decide, by decide⟩ ?_
    refine a_callV (M2 := mX4_refuse) (n := 14) dX4_readPart_11 rfl (c_refuse (d := d + 1) hz hR (by decide) hG.1 hG.2.2.1) kX4_refuse lX4_53 iX4_refuse eX4_refuse (by decide) (by omega) (s17 hz) rfl (Nat.le_of_ble_eq_true rfl) (fun q11 z11 hr11 hi11 hl11 h11 => ?_)
    obtain ⟨e111, e211, e311, rfl, rfl⟩ := h11
    obtain rfl := e111.symm
    obtain rfl := e211.symm
    obtain rfl := e311.symm
    show a_wp G _ _ _ _ (vI 0 :: _) _ _ _ _ _
    refine a_zreturn dX4_readPart_14 rfl (by omega) ?_
    exact ⟨rfl, rfl, rfl, rfl, rfl⟩
set_option maxRecDepth 100000 in
set_option maxHeartbeats 4000000 in
theorem c_part31 (hz : stZ z) (hR : stR hr) (hdr : hr 17 1 = some 31) {rec : aI → Option (Int × aI)} {dp v : Int} {h2 : aI} (hdp : 0 ≤ dp ∧ dp ≤ 6) (hrec : ∀ h v h2, rec h = some (v, h2) → a_ct G mX4_readAnds (d + 1) [vR 17, vI (dp + 1)] z hr h hl (rdQ z hr hl v h2)) (hrun : pPt 31 rec dp hi = some (v, h2)) : a_ct G mX4_readPart (d + 2) [vR 17, vI dp] z hr hi hl (rdQ z hr hl v h2) := by
  unfold pPt at hrun
  by_cases hG : gd 31 hi
  case neg => rw [if_pos hG] at hrun; cases hrun
  rw [if_neg (not_not_intro hG)] at hrun
  refine a_ct_of rfl (Nat.le_of_ble_eq_true rfl) ?_
  refine a_aload_n (n := 1) dX4_readPart_0 rfl rfl ?_
  refine a_getI (n := 4) dX4_readPart_1 rfl fX4_43 (s17 hz) ?_
  refine a_bipush (n := 6) dX4_readPart_4 rfl ⟨by decide, by decide⟩ (by decide) ?_
  refine a_icmp_le (t := 15) (n := 9) dX4_readPart_6 rfl rfl (fun c6 => ?_) (fun c6 => ?_)
  · rw [if_neg (by omega)] at hrun
    refine a_iload_n (n := 16) dX4_readPart_15 rfl rfl ?_
    refine a_iconst (n := 17) dX4_readPart_16 rfl ⟨by decide, by decide⟩ ?_
    refine a_icmp_lt (t := 26) (n := 20) dX4_readPart_17 rfl rfl (fun c17 => ?_) (fun c17 => ?_)
    · rw [if_neg (by omega)] at hrun
      refine a_aload_n (n := 27) dX4_readPart_26 rfl rfl ?_
      refine a_getI (n := 30) dX4_readPart_27 rfl fX4_43 (s17 hz) ?_
      refine a_bipush (n := 32) dX4_readPart_30 rfl ⟨by decide, by decide⟩ (by decide) ?_
      refine a_icmp_ne (t := 66) (n := 35) dX4_readPart_32 rfl rfl (fun c32 => ?_) (fun c32 => ?_)
      · rw [if_neg c32] at hrun
        obtain ⟨rfl, rfl⟩ := Prod.mk.inj (Option.some.inj hrun)
        refine a_aload_n (n := 67) dX4_readPart_66 rfl rfl ?_
        refine a_getO (n := 70) dX4_readPart_67 rfl fX4_21 (s17 hz) ?_
        rw [hdr]
        refine a_aload_n (n := 71) dX4_readPart_70 rfl rfl ?_
        refine a_getI (n := 74) dX4_readPart_71 rfl fX4_43 (s17 hz) ?_
        refine a_aload_n (n := 75) dX4_readPart_74 rfl rfl ?_
        refine a_getR (n := 78) dX4_readPart_75 rfl fX4_12 (s17 hz) (r17_0 hR) ?_
        refine a_getR (n := 81) dX4_readPart_78 rfl fX4_83 (s18 hz) (r18_2 hR) ?_
        refine a_aload_n (n := 82) dX4_readPart_81 rfl rfl ?_
        refine a_getI (n := 85) dX4_readPart_82 rfl fX4_36 (s17 hz) ?_
        refine a_iald (n := 86) dX4_readPart_85 rfl (s21 hz) (by omega) (by omega) ?_
        refine a_callV (M2 := mX5_addCode) (n := 89) dX4_readPart_86 rfl (c_addCode31 (d := d + 1) hz hR hG.2.2.2) kX5_addCode lX4_73 iX5_addCode eX5_addCode (by decide) (by omega) (s31 hz) rfl (Nat.le_of_ble_eq_true rfl) (fun q86 z86 hr86 hi86 hl86 h86 => ?_)
        obtain ⟨e186, e286, e386, rfl, e486⟩ := h86
        obtain rfl := e186.symm
        obtain rfl := e286.symm
        obtain rfl := e386.symm
        obtain rfl : hi86 = cAdd 31 hi (hi 17 3) (hi 21 (hi 17 2)) := e486
        show a_wp G _ _ _ _ [] _ _ _ _ _
        refine a_aload_n (n := 90) dX4_readPart_89 rfl rfl ?_
        refine a_callV (M2 := mX4_advance) (n := 93) dX4_readPart_90 rfl (c_advance (d := d + 1) hz hR (by unfold cAdd; simp only [up2_eq, Nat.reduceEqDiff, Int.reduceEq, and_true, true_and, and_false, false_and, and_self, if_true, if_false, reduceIte]; exact hG.1) (by unfold cAdd; simp only [up2_eq, Nat.reduceEqDiff, Int.reduceEq, and_true, true_and, and_false, false_and, and_self, if_true, if_false, reduceIte]; exact hG.2.1)) kX4_advance lX4_57 iX4_advance eX4_advance (by decide) (by omega) (s17 hz) rfl (Nat.le_of_ble_eq_true rfl) (fun q90 z90 hr90 hi90 hl90 h90 => ?_)
        obtain ⟨e190, e290, e390, rfl, rfl⟩ := h90
        obtain rfl := e190.symm
        obtain rfl := e290.symm
        obtain rfl := e390.symm
        show a_wp G _ _ _ _ [] _ _ _ _ _
        refine a_iconst (n := 94) dX4_readPart_93 rfl ⟨by decide, by decide⟩ ?_
        refine a_zreturn dX4_readPart_94 rfl (by omega) ?_
        exact ⟨rfl, rfl, rfl, rfl, rfl⟩
      · rw [if_pos (by omega)] at hrun
        cases e : rec (cAd hi) with
        | none => rw [e] at hrun; cases hrun
        | some y =>
        rw [e] at hrun
        replace hrun : (if y.1 = 0 then some (0, y.2) else if ¬ gd 31 y.2 then none else if y.2 17 3 = 9 then some (1, cAd y.2) else some (0, cRf y.2 1)) = some (v, h2) := hrun
        refine a_aload_n (n := 36) dX4_readPart_35 rfl rfl ?_
        refine a_callV (M2 := mX4_advance) (n := 39) dX4_readPart_36 rfl (c_advance (d := d + 1) hz hR hG.1 hG.2.1) kX4_advance lX4_57 iX4_advance eX4_advance (by decide) (by omega) (s17 hz) rfl (Nat.le_of_ble_eq_true rfl) (fun q36 z36 hr36 hi36 hl36 h36 => ?_)
        obtain ⟨e136, e236, e336, rfl, rfl⟩ := h36
        obtain rfl := e136.symm
        obtain rfl := e236.symm
        obtain rfl := e336.symm
        show a_wp G _ _ _ _ [] _ _ _ _ _
        refine a_aload_n (n := 40) dX4_readPart_39 rfl rfl ?_
        refine a_iload_n (n := 41) dX4_readPart_40 rfl rfl ?_
        refine a_iconst (n := 42) dX4_readPart_41 rfl ⟨by decide, by decide⟩ ?_
        refine a_iadd (n := 43) dX4_readPart_42 rfl ⟨by omega, by omega⟩ ?_
        refine a_callV (M2 := mX4_readAnds) (n := 46) dX4_readPart_43 rfl (hrec _ _ _ e) kX4_readAnds lX4_63 iX4_readAnds eX4_readAnds (by decide) (by omega) (s17 hz) rfl (Nat.le_of_ble_eq_true rfl) (fun q43 z43 hr43 hi43 hl43 h43 => ?_)
        obtain ⟨e143, e243, e343, rfl, rfl⟩ := h43
        obtain rfl := e143.symm
        obtain rfl := e243.symm
        obtain rfl := e343.symm
        show a_wp G _ _ _ _ (vI y.1 :: _) _ _ _ _ _
        refine a_if_ne (t := 51) (n := 49) dX4_readPart_46 rfl rfl (fun c46 => ?_) (fun c46 => ?_)
        · rw [if_neg (by omega)] at hrun
          by_cases hG2 : gd 31 y.2
          case neg => rw [if_pos hG2] at hrun; cases hrun
          rw [if_neg (not_not_intro hG2)] at hrun
          refine a_aload_n (n := 52) dX4_readPart_51 rfl rfl ?_
          refine a_getI (n := 55) dX4_readPart_52 rfl fX4_43 (s17 hz) ?_
          refine a_bipush (n := 57) dX4_readPart_55 rfl ⟨by decide, by decide⟩ (by decide) ?_
          refine a_icmp_eq (t := 89) (n := 60) dX4_readPart_57 rfl rfl (fun c57 => ?_) (fun c57 => ?_)
          · rw [if_pos c57] at hrun
            obtain ⟨rfl, rfl⟩ := Prod.mk.inj (Option.some.inj hrun)
            refine a_aload_n (n := 90) dX4_readPart_89 rfl rfl ?_
            refine a_callV (M2 := mX4_advance) (n := 93) dX4_readPart_90 rfl (c_advance (d := d + 1) hz hR hG2.1 hG2.2.1) kX4_advance lX4_57 iX4_advance eX4_advance (by decide) (by omega) (s17 hz) rfl (Nat.le_of_ble_eq_true rfl) (fun q90 z90 hr90 hi90 hl90 h90 => ?_)
            obtain ⟨e190, e290, e390, rfl, rfl⟩ := h90
            obtain rfl := e190.symm
            obtain rfl := e290.symm
            obtain rfl := e390.symm
            show a_wp G _ _ _ _ [] _ _ _ _ _
            refine a_iconst (n := 94) dX4_readPart_93 rfl ⟨by decide, by decide⟩ ?_
            refine a_zreturn dX4_readPart_94 rfl (by omega) ?_
            exact ⟨rfl, rfl, rfl, rfl, rfl⟩
          · rw [if_neg c57] at hrun
            obtain ⟨rfl, rfl⟩ := Prod.mk.inj (Option.some.inj hrun)
            refine a_aload_n (n := 61) dX4_readPart_60 rfl rfl ?_
            refine a_iconst (n := 62) dX4_readPart_61 rfl ⟨by decide, by decide⟩ ?_
            refine a_callV (M2 := mX4_refuse) (n := 65) dX4_readPart_62 rfl (c_refuse (d := d + 1) hz hR (by decide) hG2.1 hG2.2.2.1) kX4_refuse lX4_53 iX4_refuse eX4_refuse (by decide) (by omega) (s17 hz) rfl (Nat.le_of_ble_eq_true rfl) (fun q62 z62 hr62 hi62 hl62 h62 => ?_)
            obtain ⟨e162, e262, e362, rfl, rfl⟩ := h62
            obtain rfl := e162.symm
            obtain rfl := e262.symm
            obtain rfl := e362.symm
            show a_wp G _ _ _ _ (vI 0 :: _) _ _ _ _ _
            refine a_zreturn dX4_readPart_65 rfl (by omega) ?_
            exact ⟨rfl, rfl, rfl, rfl, rfl⟩
        · rw [if_pos (by omega)] at hrun
          obtain ⟨rfl, rfl⟩ := Prod.mk.inj (Option.some.inj hrun)
          refine a_iconst (n := 50) dX4_readPart_49 rfl ⟨by decide, by decide⟩ ?_
          refine a_zreturn dX4_readPart_50 rfl (by omega) ?_
          exact ⟨rfl, rfl, rfl, rfl, rfl⟩
    · rw [if_pos (by omega)] at hrun
      obtain ⟨rfl, rfl⟩ := Prod.mk.inj (Option.some.inj hrun)
      refine a_aload_n (n := 21) dX4_readPart_20 rfl rfl ?_
      refine a_iconst (n := 22) dX4_readPart_21 rfl ⟨by decide, by decide⟩ ?_
      refine a_callV (M2 := mX4_refuse) (n := 25) dX4_readPart_22 rfl (c_refuse (d := d + 1) hz hR (by decide) hG.1 hG.2.2.1) kX4_refuse lX4_53 iX4_refuse eX4_refuse (by decide) (by omega) (s17 hz) rfl (Nat.le_of_ble_eq_true rfl) (fun q22 z22 hr22 hi22 hl22 h22 => ?_)
      obtain ⟨e122, e222, e322, rfl, rfl⟩ := h22
      obtain rfl := e122.symm
      obtain rfl := e222.symm
      obtain rfl := e322.symm
      show a_wp G _ _ _ _ (vI 0 :: _) _ _ _ _ _
      refine a_zreturn dX4_readPart_25 rfl (by omega) ?_
      exact ⟨rfl, rfl, rfl, rfl, rfl⟩
  · rw [if_pos (by omega)] at hrun
    obtain ⟨rfl, rfl⟩ := Prod.mk.inj (Option.some.inj hrun)
    refine a_aload_n (n := 10) dX4_readPart_9 rfl rfl ?_
    refine a_iconst (n := 11) dX4_readPart_10 rfl ⟨by decide, by decide⟩ ?_
    refine a_callV (M2 := mX4_refuse) (n := 14) dX4_readPart_11 rfl (c_refuse (d := d + 1) hz hR (by decide) hG.1 hG.2.2.1) kX4_refuse lX4_53 iX4_refuse eX4_refuse (by decide) (by omega) (s17 hz) rfl (Nat.le_of_ble_eq_true rfl) (fun q11 z11 hr11 hi11 hl11 h11 => ?_)
    obtain ⟨e111, e211, e311, rfl, rfl⟩ := h11
    obtain rfl := e111.symm
    obtain rfl := e211.symm
    obtain rfl := e311.symm
    show a_wp G _ _ _ _ (vI 0 :: _) _ _ _ _ _
    refine a_zreturn dX4_readPart_14 rfl (by omega) ?_
    exact ⟨rfl, rfl, rfl, rfl, rfl⟩
end C27
