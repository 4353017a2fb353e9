section C30
variable {G : aG} {d : Nat} {z : aZ} {hr : aR} {hi hl : aI}
/-- the end of a TEXT, and its lines *) -/
def pTe (c : Nat) (h : aI) : Option aI := if h 17 3 = 16 ∨ h 17 3 = 17 then (if ¬ gd c h then none else some (cRf h 5)) else if h 17 3 = 19 then some h else if ¬ gd c h then none else some (cRf h 1)
def pTl (c : Nat) : Nat → aI → Option aI
  | 0, h => pTe c h
  | n + 1, h => if ¬ (h 17 3 = 16 ∨ h 17 3 = 17) then pTe c h else match pLn c h with
    | none => none
    | some (r, h2) => if r = 0 then some h2 else pTl c n h2
set_option maxRecDepth 100000 in
set_option maxHeartbeats 4000000 in
theorem c_rt22_74 (hz : stZ z) (hR : stR hr) {x1 : Option aV} {k : Int} {h9 : aI} (hrun : pTe 22 hi = some h9) : a_wp G mX4_readText (d + 27) 74 [some (vR 17), x1, some (vI k)] [] z hr hi hl (rdQ z hr hl (h9 17 4) h9) := by
  unfold pTe at hrun
  refine a_aload_n (n := 75) dX4_readText_74 rfl rfl ?_
  refine a_callV (M2 := mX4_beginsLine) (n := 78) dX4_readText_75 rfl (c_begins (d := d + 26) hz hR) kX4_beginsLine lX4_46 iX4_beginsLine eX4_beginsLine (by decide) (by omega) (s17 hz) rfl (Nat.le_of_ble_eq_true rfl) (fun q75 z75 hr75 hi75 hl75 h75 => ?_)
  obtain ⟨e175, e275, e375, e475, b75, rfl, hb75⟩ := h75
  obtain rfl := e175.symm
  obtain rfl := e275.symm
  obtain rfl := e375.symm
  obtain rfl := e475.symm
  show a_wp G _ _ _ _ (vI b75 :: _) _ _ _ _ _
  refine a_if_eq (t := 90) (n := 81) dX4_readText_78 rfl rfl (fun c78 => ?_) (fun c78 => ?_)
  · replace hb75 := isB_f hb75 (by omega)
    rw [if_neg hb75] at hrun
    refine a_aload_n (n := 91) dX4_readText_90 rfl rfl ?_
    refine a_getI (n := 94) dX4_readText_91 rfl fX4_43 (s17 hz) ?_
    refine a_bipush (n := 96) dX4_readText_94 rfl ⟨by decide, by decide⟩ (by decide) ?_
    refine a_icmp_eq (t := 105) (n := 99) dX4_readText_96 rfl rfl (fun c96 => ?_) (fun c96 => ?_)
    · rw [if_pos c96] at hrun
      obtain rfl := Option.some.inj hrun
      refine a_aload_n (n := 106) dX4_readText_105 rfl rfl ?_
      refine a_getI (n := 109) dX4_readText_106 rfl fX4_32 (s17 hz) ?_
      refine a_ireturn dX4_readText_109 rfl ?_
      exact ⟨rfl, rfl, rfl, rfl, rfl⟩
    · rw [if_neg c96] at hrun
      by_cases hG : gd 22 hi
      case neg => rw [if_pos hG] at hrun; cases hrun
      rw [if_neg (not_not_intro hG)] at hrun
      obtain rfl := Option.some.inj hrun
      refine a_aload_n (n := 100) dX4_readText_99 rfl rfl ?_
      refine a_iconst (n := 101) dX4_readText_100 rfl ⟨by decide, by decide⟩ ?_
      refine a_callV (M2 := mX4_refuse) (n := 104) dX4_readText_101 rfl (c_refuse (d := d + 26) hz hR (by decide) hG.1 hG.2.2.1) kX4_refuse lX4_53 iX4_refuse eX4_refuse (by decide) (by omega) (s17 hz) rfl (Nat.le_of_ble_eq_true rfl) (fun q101 z101 hr101 hi101 hl101 h101 => ?_)
      obtain ⟨e1101, e2101, e3101, rfl, rfl⟩ := h101
      obtain rfl := e1101.symm
      obtain rfl := e2101.symm
      obtain rfl := e3101.symm
      show a_wp G _ _ _ _ (vI 0 :: _) _ _ _ _ _
      refine a_pop (n := 105) dX4_readText_104 rfl rfl ?_
      refine a_aload_n (n := 106) dX4_readText_105 rfl rfl ?_
      refine a_getI (n := 109) dX4_readText_106 rfl fX4_32 (s17 hz) ?_
      refine a_ireturn dX4_readText_109 rfl ?_
      exact ⟨rfl, rfl, rfl, rfl, rfl⟩
  · replace hb75 := isB_t hb75 (by omega)
    rw [if_pos hb75] at hrun
    by_cases hG : gd 22 hi
    case neg => rw [if_pos hG] at hrun; cases hrun
    rw [if_neg (not_not_intro hG)] at hrun
    obtain rfl := Option.some.inj hrun
    refine a_aload_n (n := 82) dX4_readText_81 rfl rfl ?_
    refine a_iconst (n := 83) dX4_readText_82 rfl ⟨by decide, by decide⟩ ?_
    refine a_callV (M2 := mX4_refuse) (n := 86) dX4_readText_83 rfl (c_refuse (d := d + 26) hz hR (by decide) hG.1 hG.2.2.1) kX4_refuse lX4_53 iX4_refuse eX4_refuse (by decide) (by omega) (s17 hz) rfl (Nat.le_of_ble_eq_true rfl) (fun q83 z83 hr83 hi83 hl83 h83 => ?_)
    obtain ⟨e183, e283, e383, rfl, rfl⟩ := h83
    obtain rfl := e183.symm
    obtain rfl := e283.symm
    obtain rfl := e383.symm
    show a_wp G _ _ _ _ (vI 0 :: _) _ _ _ _ _
    refine a_pop (n := 87) dX4_readText_86 rfl rfl ?_
    refine a_goto (t := 105) dX4_readText_87 rfl ?_
    refine a_aload_n (n := 106) dX4_readText_105 rfl rfl ?_
    refine a_getI (n := 109) dX4_readText_106 rfl fX4_32 (s17 hz) ?_
    refine a_ireturn dX4_readText_109 rfl ?_
    exact ⟨rfl, rfl, rfl, rfl, rfl⟩
set_option maxRecDepth 100000 in
set_option maxHeartbeats 4000000 in
theorem c_rt22_43 (hz : stZ z) (hR : stR hr) (hdr : hr 17 1 = some 22) {h9 : aI} (n : Nat) : ∀ (k : Int) (hi : aI), 0 ≤ k → k + n = 16 → pTl 22 n hi = some h9 → a_wp G mX4_readText (d + 27) 43 [some (vR 17), some (vR 15), some (vI k)] [] z hr hi hl (rdQ z hr hl (h9 17 4) h9) := by
  induction n with
  | zero =>
    intro k hi h0 hk hrun
    rw [pTl] at hrun
    refine a_iload_n (n := 44) dX4_readText_43 rfl rfl ?_
    refine a_bipush (n := 46) dX4_readText_44 rfl ⟨by decide, by decide⟩ (by decide) ?_
    refine a_icmp_ge (t := 74) (n := 49) dX4_readText_46 rfl rfl (fun c46 => ?_) (fun c46 => ?_)
    · exact c_rt22_74 hz hR hrun
    · omega
  | succ n ih =>
    intro k hi h0 hk hrun
    rw [pTl] at hrun
    refine a_iload_n (n := 44) dX4_readText_43 rfl rfl ?_
    refine a_bipush (n := 46) dX4_readText_44 rfl ⟨by decide, by decide⟩ (by decide) ?_
    refine a_icmp_ge (t := 74) (n := 49) dX4_readText_46 rfl rfl (fun c46 => ?_) (fun c46 => ?_)
    · omega
    · refine a_aload_n (n := 50) dX4_readText_49 rfl rfl ?_
      refine a_callV (M2 := mX4_beginsLine) (n := 53) dX4_readText_50 rfl (c_begins (d := d + 26) hz hR) kX4_beginsLine lX4_46 iX4_beginsLine eX4_beginsLine (by decide) (by omega) (s17 hz) rfl (Nat.le_of_ble_eq_true rfl) (fun q50 z50 hr50 hi50 hl50 h50 => ?_)
      obtain ⟨e150, e250, e350, e450, b50, rfl, hb50⟩ := h50
      obtain rfl := e150.symm
      obtain rfl := e250.symm
      obtain rfl := e350.symm
      obtain rfl := e450.symm
      show a_wp G _ _ _ _ (vI b50 :: _) _ _ _ _ _
      refine a_if_eq (t := 74) (n := 56) dX4_readText_53 rfl rfl (fun c53 => ?_) (fun c53 => ?_)
      · replace hb50 := isB_f hb50 (by omega)
        rw [if_pos hb50] at hrun
        exact c_rt22_74 hz hR hrun
      · replace hb50 := isB_t hb50 (by omega)
        rw [if_neg (not_not_intro hb50)] at hrun
        cases e : pLn 22 hi with
        | none => rw [e] at hrun; cases hrun
        | some yy =>
        rw [e] at hrun
        replace hrun : (if yy.1 = 0 then some yy.2 else pTl 22 n yy.2) = some h9 := hrun
        refine a_aload_n (n := 57) dX4_readText_56 rfl rfl ?_
        refine a_callV (M2 := mX4_readLine) (n := 60) dX4_readText_57 rfl (c_line22 (d := d) hz hR hdr e) kX4_readLine lX4_50 iX4_readLine eX4_readLine (by decide) (by omega) (s17 hz) rfl (Nat.le_of_ble_eq_true rfl) (fun q57 z57 hr57 hi57 hl57 h57 => ?_)
        obtain ⟨e157, e257, e357, rfl, rfl⟩ := h57
        obtain rfl := e157.symm
        obtain rfl := e257.symm
        obtain rfl := e357.symm
        show a_wp G _ _ _ _ (vI yy.1 :: _) _ _ _ _ _
        refine a_if_ne (t := 68) (n := 63) dX4_readText_60 rfl rfl (fun c60 => ?_) (fun c60 => ?_)
        · rw [if_neg (by omega)] at hrun
          refine b_iinc (n := 71) dX4_readText_68 rfl (by decide) rfl rfl ⟨by omega, by omega⟩ ?_
          refine a_goto (t := 43) dX4_readText_71 rfl ?_
          exact ih (k + 1) _ (by omega) (by omega) hrun
        · rw [if_pos (by omega)] at hrun
          obtain rfl := Option.some.inj hrun
          refine a_aload_n (n := 64) dX4_readText_63 rfl rfl ?_
          refine a_getI (n := 67) dX4_readText_64 rfl fX4_32 (s17 hz) ?_
          refine a_ireturn dX4_readText_67 rfl ?_
          exact ⟨rfl, rfl, rfl, rfl, rfl⟩
set_option maxRecDepth 100000 in
set_option maxHeartbeats 4000000 in
theorem c_rt31_74 (hz : stZ z) (hR : stR hr) {x1 : Option aV} {k : Int} {h9 : aI} (hrun : pTe 31 hi = some h9) : a_wp G mX4_readText (d + 27) 74 [some (vR 17), x1, some (vI k)] [] z hr hi hl (rdQ z hr hl (h9 17 4) h9) := by
  unfold pTe at hrun
  refine a_aload_n (n := 75) dX4_readText_74 rfl rfl ?_
  refine a_callV (M2 := mX4_beginsLine) (n := 78) dX4_readText_75 rfl (c_begins (d := d + 26) hz hR) kX4_beginsLine lX4_46 iX4_beginsLine eX4_beginsLine (by decide) (by omega) (s17 hz) rfl (Nat.le_of_ble_eq_true rfl) (fun q75 z75 hr75 hi75 hl75 h75 => ?_)
  obtain ⟨e175, e275, e375, e475, b75, rfl, hb75⟩ := h75
  obtain rfl := e175.symm
  obtain rfl := e275.symm
  obtain rfl := e375.symm
  obtain rfl := e475.symm
  show a_wp G _ _ _ _ (vI b75 :: _) _ _ _ _ _
  refine a_if_eq (t := 90) (n := 81) dX4_readText_78 rfl rfl (fun c78 => ?_) (fun c78 => ?_)
  · replace hb75 := isB_f hb75 (by omega)
    rw [if_neg hb75] at hrun
    refine a_aload_n (n := 91) dX4_readText_90 rfl rfl ?_
    refine a_getI (n := 94) dX4_readText_91 rfl fX4_43 (s17 hz) ?_
    refine a_bipush (n := 96) dX4_readText_94 rfl ⟨by decide, by decide⟩ (by decide) ?_
    refine a_icmp_eq (t := 105) (n := 99) dX4_readText_96 rfl rfl (fun c96 => ?_) (fun c96 => ?_)
    · rw [if_pos c96] at hrun
      obtain rfl := Option.some.inj hrun
      refine a_aload_n (n := 106) dX4_readText_105 rfl rfl ?_
      refine a_getI (n := 109) dX4_readText_106 rfl fX4_32 (s17 hz) ?_
      refine a_ireturn dX4_readText_109 rfl ?_
      exact ⟨rfl, rfl, rfl, rfl, rfl⟩
    · rw [if_neg c96] at hrun
      by_cases hG : gd 31 hi
      case neg => rw [if_pos hG] at hrun; cases hrun
      rw [if_neg (not_not_intro hG)] at hrun
      obtain rfl := Option.some.inj hrun
      refine a_aload_n (n := 100) dX4_readText_99 rfl rfl ?_
      refine a_iconst (n := 101) dX4_readText_100 rfl ⟨by decide, by decide⟩ ?_
      refine a_callV (M2 := mX4_refuse) (n := 104) dX4_readText_101 rfl (c_refuse (d := d + 26) hz hR (by decide) hG.1 hG.2.2.1) kX4_refuse lX4_53 iX4_refuse eX4_refuse (by decide) (by omega) (s17 hz) rfl (Nat.le_of_ble_eq_true rfl) (fun q101 z101 hr101 hi101 hl101 h101 => ?_)
      obtain ⟨e1101, e2101, e3101, rfl, rfl⟩ := h101
      obtain rfl := e1101.symm
      obtain rfl := e2101.symm
      obtain rfl := e3101.symm
      show a_wp G _ _ _ _ (vI 0 :: _) _ _ _ _ _
      refine a_pop (n := 105) dX4_readText_104 rfl rfl ?_
      refine a_aload_n (n := 106) dX4_readText_105 rfl rfl ?_
      refine a_getI (n := 109) dX4_readText_106 rfl fX4_32 (s17 hz) ?_
      refine a_ireturn dX4_readText_109 rfl ?_
      exact ⟨rfl, rfl, rfl, rfl, rfl⟩
  · replace hb75 := isB_t hb75 (by omega)
    rw [if_pos hb75] at hrun
    by_cases hG : gd 31 hi
    case neg => rw [if_pos hG] at hrun; cases hrun
    rw [if_neg (not_not_intro hG)] at hrun
    obtain rfl := Option.some.inj hrun
    refine a_aload_n (n := 82) dX4_readText_81 rfl rfl ?_
    refine a_iconst (n := 83) dX4_readText_82 rfl ⟨by decide, by decide⟩ ?_
    refine a_callV (M2 := mX4_refuse) (n := 86) dX4_readText_83 rfl (c_refuse (d := d + 26) hz hR (by decide) hG.1 hG.2.2.1) kX4_refuse lX4_53 iX4_refuse eX4_refuse (by decide) (by omega) (s17 hz) rfl (Nat.le_of_ble_eq_true rfl) (fun q83 z83 hr83 hi83 hl83 h83 => ?_)
    obtain ⟨e183, e283, e383, rfl, rfl⟩ := h83
    obtain rfl := e183.symm
    obtain rfl := e283.symm
    obtain rfl := e383.symm
    show a_wp G _ _ _ _ (vI 0 :: _) _ _ _ _ _
    refine a_pop (n := 87) dX4_readText_86 rfl rfl ?_
    refine a_goto (t := 105) dX4_readText_87 rfl ?_
    refine a_aload_n (n := 106) dX4_readText_105 rfl rfl ?_
    refine a_getI (n := 109) dX4_readText_106 rfl fX4_32 (s17 hz) ?_
    refine a_ireturn dX4_readText_109 rfl ?_
    exact ⟨rfl, rfl, rfl, rfl, rfl⟩
set_option maxRecDepth 100000 in
set_option maxHeartbeats 4000000 in
theorem c_rt31_43 (hz : stZ z) (hR : stR hr) (hdr : hr 17 1 = some 31) {h9 : aI} (n : Nat) : ∀ (k : Int) (hi : aI), 0 ≤ k → k + n = 16 → pTl 31 n hi = some h9 → a_wp G mX4_readText (d + 27) 43 [some (vR 17), some (vR 15), some (vI k)] [] z hr hi hl (rdQ z hr hl (h9 17 4) h9) := by
  induction n with
  | zero =>
    intro k hi h0 hk hrun
    rw [pTl] at hrun
    refine a_iload_n (n := 44) dX4_readText_43 rfl rfl ?_
    refine a_bipush (n := 46) dX4_readText_44 rfl ⟨by decide, by decide⟩ (by decide) ?_
    refine a_icmp_ge (t := 74) (n := 49) dX4_readText_46 rfl rfl (fun c46 => ?_) (fun c46 => ?_)
    · exact c_rt31_74 hz hR hrun
    · omega
  | succ n ih =>
    intro k hi h0 hk hrun
    rw [pTl] at hrun
    refine a_iload_n (n := 44) dX4_readText_43 rfl rfl ?_
    refine a_bipush (n := 46) dX4_readText_44 rfl ⟨by decide, by decide⟩ (by decide) ?_
    refine a_icmp_ge (t := 74) (n := 49) dX4_readText_46 rfl rfl (fun c46 => ?_) (fun c46 => ?_)
    · omega
    · refine a_aload_n (n := 50) dX4_readText_49 rfl rfl ?_
      refine a_callV (M2 := mX4_beginsLine) (n := 53) dX4_readText_50 rfl (c_begins (d := d + 26) hz hR) kX4_beginsLine lX4_46 iX4_beginsLine eX4_beginsLine (by decide) (by omega) (s17 hz) rfl (Nat.le_of_ble_eq_true rfl) (fun q50 z50 hr50 hi50 hl50 h50 => ?_)
      obtain ⟨e150, e250, e350, e450, b50, rfl, hb50⟩ := h50
      obtain rfl := e150.symm
      obtain rfl := e250.symm
      obtain rfl := e350.symm
      obtain rfl := e450.symm
      show a_wp G _ _ _ _ (vI b50 :: _) _ _ _ _ _
      refine a_if_eq (t := 74) (n := 56) dX4_readText_53 rfl rfl (fun c53 => ?_) (fun c53 => ?_)
      · replace hb50 := isB_f hb50 (by omega)
        rw [if_pos hb50] at hrun
        exact c_rt31_74 hz hR hrun
      · replace hb50 := isB_t hb50 (by omega)
        rw [if_neg (not_not_intro hb50)] at hrun
        cases e : pLn 31 hi with
        | none => rw [e] at hrun; cases hrun
        | some yy =>
        rw [e] at hrun
        replace hrun : (if yy.1 = 0 then some yy.2 else pTl 31 n yy.2) = some h9 := hrun
        refine a_aload_n (n := 57) dX4_readText_56 rfl rfl ?_
        refine a_callV (M2 := mX4_readLine) (n := 60) dX4_readText_57 rfl (c_line31 (d := d) hz hR hdr e) kX4_readLine lX4_50 iX4_readLine eX4_readLine (by decide) (by omega) (s17 hz) rfl (Nat.le_of_ble_eq_true rfl) (fun q57 z57 hr57 hi57 hl57 h57 => ?_)
        obtain ⟨e157, e257, e357, rfl, rfl⟩ := h57
        obtain rfl := e157.symm
        obtain rfl := e257.symm
        obtain rfl := e357.symm
        show a_wp G _ _ _ _ (vI yy.1 :: _) _ _ _ _ _
        refine a_if_ne (t := 68) (n := 63) dX4_readText_60 rfl rfl (fun c60 => ?_) (fun c60 => ?_)
        · rw [if_neg (by omega)] at hrun
          refine b_iinc (n := 71) dX4_readText_68 rfl (by decide) rfl rfl ⟨by omega, by omega⟩ ?_
          refine a_goto (t := 43) dX4_readText_71 rfl ?_
          exact ih (k + 1) _ (by omega) (by omega) hrun
        · rw [if_pos (by omega)] at hrun
          obtain rfl := Option.some.inj hrun
          refine a_aload_n (n := 64) dX4_readText_63 rfl rfl ?_
          refine a_getI (n := 67) dX4_readText_64 rfl fX4_32 (s17 hz) ?_
          refine a_ireturn dX4_readText_67 rfl ?_
          exact ⟨rfl, rfl, rfl, rfl, rfl⟩
end C30
