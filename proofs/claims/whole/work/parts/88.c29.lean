section C29
variable {G : aG} {d : Nat} {z : aZ} {hr : aR} {hi hl : aI}
/-- an E, read with j levels left (at depth 6 - j) *) -/
def rdA (c : Nat) : Nat → aI → Option (Int × aI)
  | 0, _ => none
  | j + 1, h => pAn c (pTs c (pSm c (pPt c (rdA c j) (5 - (j : Int))))) h
def cEnd (c : Nat) (h : aI) (b : Int) : aI := up2 (up2 (up2 h (c + 3) (h c 7) (h c 6)) (c + 4) (h c 7) b) c 7 (h c 7 + 1)
def pLn (c : Nat) (h : aI) : Option (Int × aI) := if ¬ gd c h then none else if ¬ gd c (cAd h) then none else if ¬ (cAd h) 17 3 = 18 then some (0, cRf (cAd h) 1) else match rdA c 6 (cAd (cAd h)) with
  | none => none
  | some (r, h3) => if r = 0 then some (0, h3) else if ¬ gd c h3 then none else if ¬ h3 17 3 = 15 then some (0, cRf h3 1) else if ¬ (0 ≤ (cAd h3) c 7 ∧ (cAd h3) c 7 < 16) then none else some (1, cEnd c (cAd h3) (if h 17 3 = 16 then 1 else 0))
theorem c_rdA22 (hz : stZ z) (hR : stR hr) (hdr : hr 17 1 = some 22) (j : Nat) : j ≤ 6 → ∀ (h : aI) (v : Int) (h2 : aI), rdA 22 j h = some (v, h2) → a_ct G mX4_readAnds (d + 4 * j + 1) [vR 17, vI (6 - (j : Int))] z hr h hl (rdQ z hr hl v h2) := by
  induction j with
  | zero => intro _ h v h2 q; cases q
  | succ j ih =>
    intro hj h v h2 q
    rw [rdA] at q
    have hp : ∀ h v h2, pPt 22 (rdA 22 j) (5 - (j : Int)) h = some (v, h2) → a_ct G mX4_readPart (d + 4 * j + 2) [vR 17, vI (5 - (j : Int))] z hr h hl (rdQ z hr hl v h2) := fun h v h2 q => c_part22 (d := d + 4 * j) hz hR hdr (by omega) (fun h v h2 q => by
      have := ih (by omega) h v h2 q
      rw [show 6 - (j : Int) = 5 - j + 1 by omega] at this
      exact this) q
    have hs : ∀ h v h2, pSm 22 (pPt 22 (rdA 22 j) (5 - (j : Int))) h = some (v, h2) → a_ct G mX4_readSum (d + 4 * j + 3) [vR 17, vI (5 - (j : Int))] z hr h hl (rdQ z hr hl v h2) := fun h v h2 q => c_sum22 (d := d + 4 * j) hz hR hdr hp q
    have ht : ∀ h v h2, pTs 22 (pSm 22 (pPt 22 (rdA 22 j) (5 - (j : Int)))) h = some (v, h2) → a_ct G mX4_readTest (d + 4 * j + 4) [vR 17, vI (5 - (j : Int))] z hr h hl (rdQ z hr hl v h2) := fun h v h2 q => c_test22 (d := d + 4 * j) hz hR hdr hs q
    have ha := c_ands22 (d := d + 4 * j) (hi := h) hz hR hdr ht q
    rw [show (6 : Int) - ((j + 1 : Nat) : Int) = 5 - j by omega]
    exact ha
set_option maxRecDepth 100000 in
set_option maxHeartbeats 4000000 in
theorem c_line22 (hz : stZ z) (hR : stR hr) (hdr : hr 17 1 = some 22) {v : Int} {h9 : aI} (hrun : pLn 22 hi = some (v, h9)) : a_ct G mX4_readLine (d + 26) [vR 17] z hr hi hl (rdQ z hr hl v h9) := by
  unfold pLn at hrun
  by_cases hG : gd 22 hi
  case neg => rw [if_pos hG] at hrun; cases hrun
  rw [if_neg (not_not_intro hG)] at hrun
  by_cases hG1 : gd 22 (cAd hi)
  case neg => rw [if_pos hG1] at hrun; cases hrun
  rw [if_neg (not_not_intro hG1)] at hrun
  refine a_ct_of rfl (Nat.le_of_ble_eq_true rfl) ?_
  refine a_aload_n (n := 1) dX4_readLine_0 rfl rfl ?_
  refine a_getI (n := 4) dX4_readLine_1 rfl fX4_43 (s17 hz) ?_
  refine a_bipush (n := 6) dX4_readLine_4 rfl ⟨by decide, by decide⟩ (by decide) ?_
  refine a_icmp_ne (t := 13) (n := 9) dX4_readLine_6 rfl rfl (fun c6 => ?_) (fun c6 => ?_)
  · refine a_iconst (n := 14) dX4_readLine_13 rfl ⟨by decide, by decide⟩ ?_
    refine b_istore_n (n := 15) dX4_readLine_14 rfl (by decide) rfl ?_
    refine a_aload_n (n := 16) dX4_readLine_15 rfl rfl ?_
    refine a_callV (M2 := mX4_advance) (n := 19) dX4_readLine_16 rfl (c_advance (d := d + 25) hz hR hG.1 hG.2.1) kX4_advance lX4_57 iX4_advance eX4_advance (by decide) (by omega) (s17 hz) rfl (Nat.le_of_ble_eq_true rfl) (fun q16 z16 hr16 hi16 hl16 h16 => ?_)
    obtain ⟨e116, e216, e316, rfl, rfl⟩ := h16
    obtain rfl := e116.symm
    obtain rfl := e216.symm
    obtain rfl := e316.symm
    show a_wp G _ _ _ _ [] _ _ _ _ _
    refine a_aload_n (n := 20) dX4_readLine_19 rfl rfl ?_
    refine a_bipush (n := 22) dX4_readLine_20 rfl ⟨by decide, by decide⟩ (by decide) ?_
    refine a_callV (M2 := mX4_expect) (n := 25) dX4_readLine_22 rfl (c_expect (d := d + 24) hz hR hG1.1 hG1.2.1 hG1.2.2.1) kX4_expect lX4_60 iX4_expect eX4_expect (by decide) (by omega) (s17 hz) rfl (Nat.le_of_ble_eq_true rfl) (fun q22 z22 hr22 hi22 hl22 h22 => ?_)
    obtain ⟨e122, e222, e322, h22⟩ := h22
    obtain rfl := e122.symm
    obtain rfl := e222.symm
    obtain rfl := e322.symm
    rcases h22 with ⟨k22, rfl, rfl⟩ | ⟨k22, rfl, rfl⟩
    · show a_wp G _ _ _ _ (vI 1 :: _) _ _ _ _ _
      refine a_if_eq (t := 45) (n := 28) dX4_readLine_25 rfl rfl (fun c25 => ?_) (fun c25 => ?_)
      · skip
        omega
      · rw [if_neg (not_not_intro k22)] at hrun
        cases e : rdA 22 6 (cAd (cAd hi)) with
        | none => rw [e] at hrun; cases hrun
        | some yy =>
        rw [e] at hrun
        replace hrun : (if yy.1 = 0 then (some (0, yy.2) : Option (Int × aI)) else if ¬ gd 22 yy.2 then none else if ¬ yy.2 17 3 = 15 then some (0, cRf yy.2 1) else if ¬ (0 ≤ (cAd yy.2) 22 7 ∧ (cAd yy.2) 22 7 < 16) then none else some (1, cEnd 22 (cAd yy.2) (if hi 17 3 = 16 then 1 else 0))) = some (v, h9) := hrun
        refine a_aload_n (n := 29) dX4_readLine_28 rfl rfl ?_
        refine a_iconst (n := 30) dX4_readLine_29 rfl ⟨by decide, by decide⟩ ?_
        refine a_callV (M2 := mX4_readAnds) (n := 33) dX4_readLine_30 rfl (c_rdA22 (d := d) hz hR hdr 6 (by decide) _ _ _ e) kX4_readAnds lX4_63 iX4_readAnds eX4_readAnds (by decide) (by omega) (s17 hz) rfl (Nat.le_of_ble_eq_true rfl) (fun q30 z30 hr30 hi30 hl30 h30 => ?_)
        obtain ⟨e130, e230, e330, rfl, rfl⟩ := h30
        obtain rfl := e130.symm
        obtain rfl := e230.symm
        obtain rfl := e330.symm
        show a_wp G _ _ _ _ (vI yy.1 :: _) _ _ _ _ _
        refine a_if_eq (t := 45) (n := 36) dX4_readLine_33 rfl rfl (fun c33 => ?_) (fun c33 => ?_)
        · rw [if_pos (by omega)] at hrun
          obtain ⟨rfl, rfl⟩ := Prod.mk.inj (Option.some.inj hrun)
          refine a_iconst (n := 46) dX4_readLine_45 rfl ⟨by decide, by decide⟩ ?_
          refine a_zreturn dX4_readLine_46 rfl (by omega) ?_
          exact ⟨rfl, rfl, rfl, rfl, rfl⟩
        · rw [if_neg (by omega)] at hrun
          by_cases hG3 : gd 22 yy.2
          case neg => rw [if_pos hG3] at hrun; cases hrun
          rw [if_neg (not_not_intro hG3)] at hrun
          refine a_aload_n (n := 37) dX4_readLine_36 rfl rfl ?_
          refine a_bipush (n := 39) dX4_readLine_37 rfl ⟨by decide, by decide⟩ (by decide) ?_
          refine a_callV (M2 := mX4_expect) (n := 42) dX4_readLine_39 rfl (c_expect (d := d + 24) hz hR hG3.1 hG3.2.1 hG3.2.2.1) kX4_expect lX4_60 iX4_expect eX4_expect (by decide) (by omega) (s17 hz) rfl (Nat.le_of_ble_eq_true rfl) (fun q39 z39 hr39 hi39 hl39 h39 => ?_)
          obtain ⟨e139, e239, e339, h39⟩ := h39
          obtain rfl := e139.symm
          obtain rfl := e239.symm
          obtain rfl := e339.symm
          rcases h39 with ⟨k39, rfl, rfl⟩ | ⟨k39, rfl, rfl⟩
          · show a_wp G _ _ _ _ (vI 1 :: _) _ _ _ _ _
            refine a_if_ne (t := 47) (n := 45) dX4_readLine_42 rfl rfl (fun c42 => ?_) (fun c42 => ?_)
            · rw [if_neg (not_not_intro k39)] at hrun
              by_cases hC : 0 ≤ (cAd yy.2) 22 7 ∧ (cAd yy.2) 22 7 < 16
              case neg => rw [if_pos hC] at hrun; cases hrun
              rw [if_neg (not_not_intro hC), if_neg c6] at hrun
              obtain ⟨rfl, rfl⟩ := Prod.mk.inj (Option.some.inj hrun)
              refine a_aload_n (n := 48) dX4_readLine_47 rfl rfl ?_
              refine a_getO (n := 51) dX4_readLine_48 rfl fX4_21 (s17 hz) ?_
              rw [hdr]
              refine a_iload_n (n := 52) dX4_readLine_51 rfl rfl ?_
              refine a_callV (M2 := mX5_endLine) (n := 55) dX4_readLine_52 rfl (c_endLine22 (d := d + 25) hz hR (by decide) hC) kX5_endLine lX4_66 iX5_endLine eX5_endLine (by decide) (by omega) (s22 hz) rfl (Nat.le_of_ble_eq_true rfl) (fun q52 z52 hr52 hi52 hl52 h52 => ?_)
              obtain ⟨e152, e252, e352, rfl, e452⟩ := h52
              obtain rfl := e152.symm
              obtain rfl := e252.symm
              obtain rfl := e352.symm
              obtain rfl : hi52 = cEnd 22 (cAd yy.2) 0 := e452
              show a_wp G _ _ _ _ [] _ _ _ _ _
              refine a_iconst (n := 56) dX4_readLine_55 rfl ⟨by decide, by decide⟩ ?_
              refine a_zreturn dX4_readLine_56 rfl (by omega) ?_
              exact ⟨rfl, rfl, rfl, rfl, rfl⟩
            · skip
              omega
          · show a_wp G _ _ _ _ (vI 0 :: _) _ _ _ _ _
            refine a_if_ne (t := 47) (n := 45) dX4_readLine_42 rfl rfl (fun c42 => ?_) (fun c42 => ?_)
            · skip
              omega
            · rw [if_pos k39] at hrun
              obtain ⟨rfl, rfl⟩ := Prod.mk.inj (Option.some.inj hrun)
              refine a_iconst (n := 46) dX4_readLine_45 rfl ⟨by decide, by decide⟩ ?_
              refine a_zreturn dX4_readLine_46 rfl (by omega) ?_
              exact ⟨rfl, rfl, rfl, rfl, rfl⟩
    · show a_wp G _ _ _ _ (vI 0 :: _) _ _ _ _ _
      refine a_if_eq (t := 45) (n := 28) dX4_readLine_25 rfl rfl (fun c25 => ?_) (fun c25 => ?_)
      · rw [if_pos k22] at hrun
        obtain ⟨rfl, rfl⟩ := Prod.mk.inj (Option.some.inj hrun)
        refine a_iconst (n := 46) dX4_readLine_45 rfl ⟨by decide, by decide⟩ ?_
        refine a_zreturn dX4_readLine_46 rfl (by omega) ?_
        exact ⟨rfl, rfl, rfl, rfl, rfl⟩
      · skip
        omega
  · refine a_iconst (n := 10) dX4_readLine_9 rfl ⟨by decide, by decide⟩ ?_
    refine a_goto (t := 14) dX4_readLine_10 rfl ?_
    refine b_istore_n (n := 15) dX4_readLine_14 rfl (by decide) rfl ?_
    refine a_aload_n (n := 16) dX4_readLine_15 rfl rfl ?_
    refine a_callV (M2 := mX4_advance) (n := 19) dX4_readLine_16 rfl (c_advance (d := d + 25) hz hR hG.1 hG.2.1) kX4_advance lX4_57 iX4_advance eX4_advance (by decide) (by omega) (s17 hz) rfl (Nat.le_of_ble_eq_true rfl) (fun q16 z16 hr16 hi16 hl16 h16 => ?_)
    obtain ⟨e116, e216, e316, rfl, rfl⟩ := h16
    obtain rfl := e116.symm
    obtain rfl := e216.symm
    obtain rfl := e316.symm
    show a_wp G _ _ _ _ [] _ _ _ _ _
    refine a_aload_n (n := 20) dX4_readLine_19 rfl rfl ?_
    refine a_bipush (n := 22) dX4_readLine_20 rfl ⟨by decide, by decide⟩ (by decide) ?_
    refine a_callV (M2 := mX4_expect) (n := 25) dX4_readLine_22 rfl (c_expect (d := d + 24) hz hR hG1.1 hG1.2.1 hG1.2.2.1) kX4_expect lX4_60 iX4_expect eX4_expect (by decide) (by omega) (s17 hz) rfl (Nat.le_of_ble_eq_true rfl) (fun q22 z22 hr22 hi22 hl22 h22 => ?_)
    obtain ⟨e122, e222, e322, h22⟩ := h22
    obtain rfl := e122.symm
    obtain rfl := e222.symm
    obtain rfl := e322.symm
    rcases h22 with ⟨k22, rfl, rfl⟩ | ⟨k22, rfl, rfl⟩
    · show a_wp G _ _ _ _ (vI 1 :: _) _ _ _ _ _
      refine a_if_eq (t := 45) (n := 28) dX4_readLine_25 rfl rfl (fun c25 => ?_) (fun c25 => ?_)
      · skip
        omega
      · rw [if_neg (not_not_intro k22)] at hrun
        cases e : rdA 22 6 (cAd (cAd hi)) with
        | none => rw [e] at hrun; cases hrun
        | some yy =>
        rw [e] at hrun
        replace hrun : (if yy.1 = 0 then (some (0, yy.2) : Option (Int × aI)) else if ¬ gd 22 yy.2 then none else if ¬ yy.2 17 3 = 15 then some (0, cRf yy.2 1) else if ¬ (0 ≤ (cAd yy.2) 22 7 ∧ (cAd yy.2) 22 7 < 16) then none else some (1, cEnd 22 (cAd yy.2) (if hi 17 3 = 16 then 1 else 0))) = some (v, h9) := hrun
        refine a_aload_n (n := 29) dX4_readLine_28 rfl rfl ?_
        refine a_iconst (n := 30) dX4_readLine_29 rfl ⟨by decide, by decide⟩ ?_
        refine a_callV (M2 := mX4_readAnds) (n := 33) dX4_readLine_30 rfl (c_rdA22 (d := d) hz hR hdr 6 (by decide) _ _ _ e) kX4_readAnds lX4_63 iX4_readAnds eX4_readAnds (by decide) (by omega) (s17 hz) rfl (Nat.le_of_ble_eq_true rfl) (fun q30 z30 hr30 hi30 hl30 h30 => ?_)
        obtain ⟨e130, e230, e330, rfl, rfl⟩ := h30
        obtain rfl := e130.symm
        obtain rfl := e230.symm
        obtain rfl := e330.symm
        show a_wp G _ _ _ _ (vI yy.1 :: _) _ _ _ _ _
        refine a_if_eq (t := 45) (n := 36) dX4_readLine_33 rfl rfl (fun c33 => ?_) (fun c33 => ?_)
        · rw [if_pos (by omega)] at hrun
          obtain ⟨rfl, rfl⟩ := Prod.mk.inj (Option.some.inj hrun)
          refine a_iconst (n := 46) dX4_readLine_45 rfl ⟨by decide, by decide⟩ ?_
          refine a_zreturn dX4_readLine_46 rfl (by omega) ?_
          exact ⟨rfl, rfl, rfl, rfl, rfl⟩
        · rw [if_neg (by omega)] at hrun
          by_cases hG3 : gd 22 yy.2
          case neg => rw [if_pos hG3] at hrun; cases hrun
          rw [if_neg (not_not_intro hG3)] at hrun
          refine a_aload_n (n := 37) dX4_readLine_36 rfl rfl ?_
          refine a_bipush (n := 39) dX4_readLine_37 rfl ⟨by decide, by decide⟩ (by decide) ?_
          refine a_callV (M2 := mX4_expect) (n := 42) dX4_readLine_39 rfl (c_expect (d := d + 24) hz hR hG3.1 hG3.2.1 hG3.2.2.1) kX4_expect lX4_60 iX4_expect eX4_expect (by decide) (by omega) (s17 hz) rfl (Nat.le_of_ble_eq_true rfl) (fun q39 z39 hr39 hi39 hl39 h39 => ?_)
          obtain ⟨e139, e239, e339, h39⟩ := h39
          obtain rfl := e139.symm
          obtain rfl := e239.symm
          obtain rfl := e339.symm
          rcases h39 with ⟨k39, rfl, rfl⟩ | ⟨k39, rfl, rfl⟩
          · show a_wp G _ _ _ _ (vI 1 :: _) _ _ _ _ _
            refine a_if_ne (t := 47) (n := 45) dX4_readLine_42 rfl rfl (fun c42 => ?_) (fun c42 => ?_)
            · rw [if_neg (not_not_intro k39)] at hrun
              by_cases hC : 0 ≤ (cAd yy.2) 22 7 ∧ (cAd yy.2) 22 7 < 16
              case neg => rw [if_pos hC] at hrun; cases hrun
              rw [if_neg (not_not_intro hC), if_pos c6] at hrun
              obtain ⟨rfl, rfl⟩ := Prod.mk.inj (Option.some.inj hrun)
              refine a_aload_n (n := 48) dX4_readLine_47 rfl rfl ?_
              refine a_getO (n := 51) dX4_readLine_48 rfl fX4_21 (s17 hz) ?_
              rw [hdr]
              refine a_iload_n (n := 52) dX4_readLine_51 rfl rfl ?_
              refine a_callV (M2 := mX5_endLine) (n := 55) dX4_readLine_52 rfl (c_endLine22 (d := d + 25) hz hR (by decide) hC) kX5_endLine lX4_66 iX5_endLine eX5_endLine (by decide) (by omega) (s22 hz) rfl (Nat.le_of_ble_eq_true rfl) (fun q52 z52 hr52 hi52 hl52 h52 => ?_)
              obtain ⟨e152, e252, e352, rfl, e452⟩ := h52
              obtain rfl := e152.symm
              obtain rfl := e252.symm
              obtain rfl := e352.symm
              obtain rfl : hi52 = cEnd 22 (cAd yy.2) 1 := e452
              show a_wp G _ _ _ _ [] _ _ _ _ _
              refine a_iconst (n := 56) dX4_readLine_55 rfl ⟨by decide, by decide⟩ ?_
              refine a_zreturn dX4_readLine_56 rfl (by omega) ?_
              exact ⟨rfl, rfl, rfl, rfl, rfl⟩
            · skip
              omega
          · show a_wp G _ _ _ _ (vI 0 :: _) _ _ _ _ _
            refine a_if_ne (t := 47) (n := 45) dX4_readLine_42 rfl rfl (fun c42 => ?_) (fun c42 => ?_)
            · skip
              omega
            · rw [if_pos k39] at hrun
              obtain ⟨rfl, rfl⟩ := Prod.mk.inj (Option.some.inj hrun)
              refine a_iconst (n := 46) dX4_readLine_45 rfl ⟨by decide, by decide⟩ ?_
              refine a_zreturn dX4_readLine_46 rfl (by omega) ?_
              exact ⟨rfl, rfl, rfl, rfl, rfl⟩
    · show a_wp G _ _ _ _ (vI 0 :: _) _ _ _ _ _
      refine a_if_eq (t := 45) (n := 28) dX4_readLine_25 rfl rfl (fun c25 => ?_) (fun c25 => ?_)
      · rw [if_pos k22] at hrun
        obtain ⟨rfl, rfl⟩ := Prod.mk.inj (Option.some.inj hrun)
        refine a_iconst (n := 46) dX4_readLine_45 rfl ⟨by decide, by decide⟩ ?_
        refine a_zreturn dX4_readLine_46 rfl (by omega) ?_
        exact ⟨rfl, rfl, rfl, rfl, rfl⟩
      · skip
        omega
theorem c_rdA31 (hz : stZ z) (hR : stR hr) (hdr : hr 17 1 = some 31) (j : Nat) : j ≤ 6 → ∀ (h : aI) (v : Int) (h2 : aI), rdA 31 j h = some (v, h2) → a_ct G mX4_readAnds (d + 4 * j + 1) [vR 17, vI (6 - (j : Int))] z hr h hl (rdQ z hr hl v h2) := by
  induction j with
  | zero => intro _ h v h2 q; cases q
  | succ j ih =>
    intro hj h v h2 q
    rw [rdA] at q
    have hp : ∀ h v h2, pPt 31 (rdA 31 j) (5 - (j : Int)) h = some (v, h2) → a_ct G mX4_readPart (d + 4 * j + 2) [vR 17, vI (5 - (j : Int))] z hr h hl (rdQ z hr hl v h2) := fun h v h2 q => c_part31 (d := d + 4 * j) hz hR hdr (by omega) (fun h v h2 q => by
      have := ih (by omega) h v h2 q
      rw [show 6 - (j : Int) = 5 - j + 1 by omega] at this
      exact this) q
    have hs : ∀ h v h2, pSm 31 (pPt 31 (rdA 31 j) (5 - (j : Int))) h = some (v, h2) → a_ct G mX4_readSum (d + 4 * j + 3) [vR 17, vI (5 - (j : Int))] z hr h hl (rdQ z hr hl v h2) := fun h v h2 q => c_sum31 (d := d + 4 * j) hz hR hdr hp q
    have ht : ∀ h v h2, pTs 31 (pSm 31 (pPt 31 (rdA 31 j) (5 - (j : Int)))) h = some (v, h2) → a_ct G mX4_readTest (d + 4 * j + 4) [vR 17, vI (5 - (j : Int))] z hr h hl (rdQ z hr hl v h2) := fun h v h2 q => c_test31 (d := d + 4 * j) hz hR hdr hs q
    have ha := c_ands31 (d := d + 4 * j) (hi := h) hz hR hdr ht q
    rw [show (6 : Int) - ((j + 1 : Nat) : Int) = 5 - j by omega]
    exact ha
set_option maxRecDepth 100000 in
set_option maxHeartbeats 4000000 in
theorem c_line31 (hz : stZ z) (hR : stR hr) (hdr : hr 17 1 = some 31) {v : Int} {h9 : aI} (hrun : pLn 31 hi = some (v, h9)) : a_ct G mX4_readLine (d + 26) [vR 17] z hr hi hl (rdQ z hr hl v h9) := by
  unfold pLn at hrun
  by_cases hG : gd 31 hi
  case neg => rw [if_pos hG] at hrun; cases hrun
  rw [if_neg (not_not_intro hG)] at hrun
  by_cases hG1 : gd 31 (cAd hi)
  case neg => rw [if_pos hG1] at hrun; cases hrun
  rw [if_neg (not_not_intro hG1)] at hrun
  refine a_ct_of rfl (Nat.le_of_ble_eq_true rfl) ?_
  refine a_aload_n (n := 1) dX4_readLine_0 rfl rfl ?_
  refine a_getI (n := 4) dX4_readLine_1 rfl fX4_43 (s17 hz) ?_
  refine a_bipush (n := 6) dX4_readLine_4 rfl ⟨by decide, by decide⟩ (by decide) ?_
  refine a_icmp_ne (t := 13) (n := 9) dX4_readLine_6 rfl rfl (fun c6 => ?_) (fun c6 => ?_)
  · refine a_iconst (n := 14) dX4_readLine_13 rfl ⟨by decide, by decide⟩ ?_
    refine b_istore_n (n := 15) dX4_readLine_14 rfl (by decide) rfl ?_
    refine a_aload_n (n := 16) dX4_readLine_15 rfl rfl ?_
    refine a_callV (M2 := mX4_advance) (n := 19) dX4_readLine_16 rfl (c_advance (d := d + 25) hz hR hG.1 hG.2.1) kX4_advance lX4_57 iX4_advance eX4_advance (by decide) (by omega) (s17 hz) rfl (Nat.le_of_ble_eq_true rfl) (fun q16 z16 hr16 hi16 hl16 h16 => ?_)
    obtain ⟨e116, e216, e316, rfl, rfl⟩ := h16
    obtain rfl := e116.symm
    obtain rfl := e216.symm
    obtain rfl := e316.symm
    show a_wp G _ _ _ _ [] _ _ _ _ _
    refine a_aload_n (n := 20) dX4_readLine_19 rfl rfl ?_
    refine a_bipush (n := 22) dX4_readLine_20 rfl ⟨by decide, by decide⟩ (by decide) ?_
    refine a_callV (M2 := mX4_expect) (n := 25) dX4_readLine_22 rfl (c_expect (d := d + 24) hz hR hG1.1 hG1.2.1 hG1.2.2.1) kX4_expect lX4_60 iX4_expect eX4_expect (by decide) (by omega) (s17 hz) rfl (Nat.le_of_ble_eq_true rfl) (fun q22 z22 hr22 hi22 hl22 h22 => ?_)
    obtain ⟨e122, e222, e322, h22⟩ := h22
    obtain rfl := e122.symm
    obtain rfl := e222.symm
    obtain rfl := e322.symm
    rcases h22 with ⟨k22, rfl, rfl⟩ | ⟨k22, rfl, rfl⟩
    · show a_wp G _ _ _ _ (vI 1 :: _) _ _ _ _ _
      refine a_if_eq (t := 45) (n := 28) dX4_readLine_25 rfl rfl (fun c25 => ?_) (fun c25 => ?_)
      · skip
        omega
      · rw [if_neg (not_not_intro k22)] at hrun
        cases e : rdA 31 6 (cAd (cAd hi)) with
        | none => rw [e] at hrun; cases hrun
        | some yy =>
        rw [e] at hrun
        replace hrun : (if yy.1 = 0 then (some (0, yy.2) : Option (Int × aI)) else if ¬ gd 31 yy.2 then none else if ¬ yy.2 17 3 = 15 then some (0, cRf yy.2 1) else if ¬ (0 ≤ (cAd yy.2) 31 7 ∧ (cAd yy.2) 31 7 < 16) then none else some (1, cEnd 31 (cAd yy.2) (if hi 17 3 = 16 then 1 else 0))) = some (v, h9) := hrun
        refine a_aload_n (n := 29) dX4_readLine_28 rfl rfl ?_
        refine a_iconst (n := 30) dX4_readLine_29 rfl ⟨by decide, by decide⟩ ?_
        refine a_callV (M2 := mX4_readAnds) (n := 33) dX4_readLine_30 rfl (c_rdA31 (d := d) hz hR hdr 6 (by decide) _ _ _ e) kX4_readAnds lX4_63 iX4_readAnds eX4_readAnds (by decide) (by omega) (s17 hz) rfl (Nat.le_of_ble_eq_true rfl) (fun q30 z30 hr30 hi30 hl30 h30 => ?_)
        obtain ⟨e130, e230, e330, rfl, rfl⟩ := h30
        obtain rfl := e130.symm
        obtain rfl := e230.symm
        obtain rfl := e330.symm
        show a_wp G _ _ _ _ (vI yy.1 :: _) _ _ _ _ _
        refine a_if_eq (t := 45) (n := 36) dX4_readLine_33 rfl rfl (fun c33 => ?_) (fun c33 => ?_)
        · rw [if_pos (by omega)] at hrun
          obtain ⟨rfl, rfl⟩ := Prod.mk.inj (Option.some.inj hrun)
          refine a_iconst (n := 46) dX4_readLine_45 rfl ⟨by decide, by decide⟩ ?_
          refine a_zreturn dX4_readLine_46 rfl (by omega) ?_
          exact ⟨rfl, rfl, rfl, rfl, rfl⟩
        · rw [if_neg (by omega)] at hrun
          by_cases hG3 : gd 31 yy.2
          case neg => rw [if_pos hG3] at hrun; cases hrun
          rw [if_neg (not_not_intro hG3)] at hrun
          refine a_aload_n (n := 37) dX4_readLine_36 rfl rfl ?_
          refine a_bipush (n := 39) dX4_readLine_37 rfl ⟨by decide, by decide⟩ (by decide) ?_
          refine a_callV (M2 := mX4_expect) (n := 42) dX4_readLine_39 rfl (c_expect (d := d + 24) hz hR hG3.1 hG3.2.1 hG3.2.2.1) kX4_expect lX4_60 iX4_expect eX4_expect (by decide) (by omega) (s17 hz) rfl (Nat.le_of_ble_eq_true rfl) (fun q39 z39 hr39 hi39 hl39 h39 => ?_)
          obtain ⟨e139, e239, e339, h39⟩ := h39
          obtain rfl := e139.symm
          obtain rfl := e239.symm
          obtain rfl := e339.symm
          rcases h39 with ⟨k39, rfl, rfl⟩ | ⟨k39, rfl, rfl⟩
          · show a_wp G _ _ _ _ (vI 1 :: _) _ _ _ _ _
            refine a_if_ne (t := 47) (n := 45) dX4_readLine_42 rfl rfl (fun c42 => ?_) (fun c42 => ?_)
            · rw [if_neg (not_not_intro k39)] at hrun
              by_cases hC : 0 ≤ (cAd yy.2) 31 7 ∧ (cAd yy.2) 31 7 < 16
              case neg => rw [if_pos hC] at hrun; cases hrun
              rw [if_neg (not_not_intro hC), if_neg c6] at hrun
              obtain ⟨rfl, rfl⟩ := Prod.mk.inj (Option.some.inj hrun)
              refine a_aload_n (n := 48) dX4_readLine_47 rfl rfl ?_
              refine a_getO (n := 51) dX4_readLine_48 rfl fX4_21 (s17 hz) ?_
              rw [hdr]
              refine a_iload_n (n := 52) dX4_readLine_51 rfl rfl ?_
              refine a_callV (M2 := mX5_endLine) (n := 55) dX4_readLine_52 rfl (c_endLine31 (d := d + 25) hz hR (by decide) hC) kX5_endLine lX4_66 iX5_endLine eX5_endLine (by decide) (by omega) (s31 hz) rfl (Nat.le_of_ble_eq_true rfl) (fun q52 z52 hr52 hi52 hl52 h52 => ?_)
              obtain ⟨e152, e252, e352, rfl, e452⟩ := h52
              obtain rfl := e152.symm
              obtain rfl := e252.symm
              obtain rfl := e352.symm
              obtain rfl : hi52 = cEnd 31 (cAd yy.2) 0 := e452
              show a_wp G _ _ _ _ [] _ _ _ _ _
              refine a_iconst (n := 56) dX4_readLine_55 rfl ⟨by decide, by decide⟩ ?_
              refine a_zreturn dX4_readLine_56 rfl (by omega) ?_
              exact ⟨rfl, rfl, rfl, rfl, rfl⟩
            · skip
              omega
          · show a_wp G _ _ _ _ (vI 0 :: _) _ _ _ _ _
            refine a_if_ne (t := 47) (n := 45) dX4_readLine_42 rfl rfl (fun c42 => ?_) (fun c42 => ?_)
            · skip
              omega
            · rw [if_pos k39] at hrun
              obtain ⟨rfl, rfl⟩ := Prod.mk.inj (Option.some.inj hrun)
              refine a_iconst (n := 46) dX4_readLine_45 rfl ⟨by decide, by decide⟩ ?_
              refine a_zreturn dX4_readLine_46 rfl (by omega) ?_
              exact ⟨rfl, rfl, rfl, rfl, rfl⟩
    · show a_wp G _ _ _ _ (vI 0 :: _) _ _ _ _ _
      refine a_if_eq (t := 45) (n := 28) dX4_readLine_25 rfl rfl (fun c25 => ?_) (fun c25 => ?_)
      · rw [if_pos k22] at hrun
        obtain ⟨rfl, rfl⟩ := Prod.mk.inj (Option.some.inj hrun)
        refine a_iconst (n := 46) dX4_readLine_45 rfl ⟨by decide, by decide⟩ ?_
        refine a_zreturn dX4_readLine_46 rfl (by omega) ?_
        exact ⟨rfl, rfl, rfl, rfl, rfl⟩
      · skip
        omega
  · refine a_iconst (n := 10) dX4_readLine_9 rfl ⟨by decide, by decide⟩ ?_
    refine a_goto (t := 14) dX4_readLine_10 rfl ?_
    refine b_istore_n (n := 15) dX4_readLine_14 rfl (by decide) rfl ?_
    refine a_aload_n (n := 16) dX4_readLine_15 rfl rfl ?_
    refine a_callV (M2 := mX4_advance) (n := 19) dX4_readLine_16 rfl (c_advance (d := d + 25) hz hR hG.1 hG.2.1) kX4_advance lX4_57 iX4_advance eX4_advance (by decide) (by omega) (s17 hz) rfl (Nat.le_of_ble_eq_true rfl) (fun q16 z16 hr16 hi16 hl16 h16 => ?_)
    obtain ⟨e116, e216, e316, rfl, rfl⟩ := h16
    obtain rfl := e116.symm
    obtain rfl := e216.symm
    obtain rfl := e316.symm
    show a_wp G _ _ _ _ [] _ _ _ _ _
    refine a_aload_n (n := 20) dX4_readLine_19 rfl rfl ?_
    refine a_bipush (n := 22) dX4_readLine_20 rfl ⟨by decide, by decide⟩ (by decide) ?_
    refine a_callV (M2 := mX4_expect) (n := 25) dX4_readLine_22 rfl (c_expect (d := d + 24) hz hR hG1.1 hG1.2.1 hG1.2.2.1) kX4_expect lX4_60 iX4_expect eX4_expect (by decide) (by omega) (s17 hz) rfl (Nat.le_of_ble_eq_true rfl) (fun q22 z22 hr22 hi22 hl22 h22 => ?_)
    obtain ⟨e122, e222, e322, h22⟩ := h22
    obtain rfl := e122.symm
    obtain rfl := e222.symm
    obtain rfl := e322.symm
    rcases h22 with ⟨k22, rfl, rfl⟩ | ⟨k22, rfl, rfl⟩
    · show a_wp G _ _ _ _ (vI 1 :: _) _ _ _ _ _
      refine a_if_eq (t := 45) (n := 28) dX4_readLine_25 rfl rfl (fun c25 => ?_) (fun c25 => ?_)
      · skip
        omega
      · rw [if_neg (not_not_intro k22)] at hrun
        cases e : rdA 31 6 (cAd (cAd hi)) with
        | none => rw [e] at hrun; cases hrun
        | some yy =>
        rw [e] at hrun
        replace hrun : (if yy.1 = 0 then (some (0, yy.2) : Option (Int × aI)) else if ¬ gd 31 yy.2 then none else if ¬ yy.2 17 3 = 15 then some (0, cRf yy.2 1) else if ¬ (0 ≤ (cAd yy.2) 31 7 ∧ (cAd yy.2) 31 7 < 16) then none else some (1, cEnd 31 (cAd yy.2) (if hi 17 3 = 16 then 1 else 0))) = some (v, h9) := hrun
        refine a_aload_n (n := 29) dX4_readLine_28 rfl rfl ?_
        refine a_iconst (n := 30) dX4_readLine_29 rfl ⟨by decide, by decide⟩ ?_
        refine a_callV (M2 := mX4_readAnds) (n := 33) dX4_readLine_30 rfl (c_rdA31 (d := d) hz hR hdr 6 (by decide) _ _ _ e) kX4_readAnds lX4_63 iX4_readAnds eX4_readAnds (by decide) (by omega) (s17 hz) rfl (Nat.le_of_ble_eq_true rfl) (fun q30 z30 hr30 hi30 hl30 h30 => ?_)
        obtain ⟨e130, e230, e330, rfl, rfl⟩ := h30
        obtain rfl := e130.symm
        obtain rfl := e230.symm
        obtain rfl := e330.symm
        show a_wp G _ _ _ _ (vI yy.1 :: _) _ _ _ _ _
        refine a_if_eq (t := 45) (n := 36) dX4_readLine_33 rfl rfl (fun c33 => ?_) (fun c33 => ?_)
        · rw [if_pos (by omega)] at hrun
          obtain ⟨rfl, rfl⟩ := Prod.mk.inj (Option.some.inj hrun)
          refine a_iconst (n := 46) dX4_readLine_45 rfl ⟨by decide, by decide⟩ ?_
          refine a_zreturn dX4_readLine_46 rfl (by omega) ?_
          exact ⟨rfl, rfl, rfl, rfl, rfl⟩
        · rw [if_neg (by omega)] at hrun
          by_cases hG3 : gd 31 yy.2
          case neg => rw [if_pos hG3] at hrun; cases hrun
          rw [if_neg (not_not_intro hG3)] at hrun
          refine a_aload_n (n := 37) dX4_readLine_36 rfl rfl ?_
          refine a_bipush (n := 39) dX4_readLine_37 rfl ⟨by decide, by decide⟩ (by decide) ?_
          refine a_callV (M2 := mX4_expect) (n := 42) dX4_readLine_39 rfl (c_expect (d := d + 24) hz hR hG3.1 hG3.2.1 hG3.2.2.1) kX4_expect lX4_60 iX4_expect eX4_expect (by decide) (by omega) (s17 hz) rfl (Nat.le_of_ble_eq_true rfl) (fun q39 z39 hr39 hi39 hl39 h39 => ?_)
          obtain ⟨e139, e239, e339, h39⟩ := h39
          obtain rfl := e139.symm
          obtain rfl := e239.symm
          obtain rfl := e339.symm
          rcases h39 with ⟨k39, rfl, rfl⟩ | ⟨k39, rfl, rfl⟩
          · show a_wp G _ _ _ _ (vI 1 :: _) _ _ _ _ _
            refine a_if_ne (t := 47) (n := 45) dX4_readLine_42 rfl rfl (fun c42 => ?_) (fun c42 => ?_)
            · rw [if_neg (not_not_intro k39)] at hrun
              by_cases hC : 0 ≤ (cAd yy.2) 31 7 ∧ (cAd yy.2) 31 7 < 16
              case neg => rw [if_pos hC] at hrun; cases hrun
              rw [if_neg (not_not_intro hC), if_pos c6] at hrun
              obtain ⟨rfl, rfl⟩ := Prod.mk.inj (Option.some.inj hrun)
              refine a_aload_n (n := 48) dX4_readLine_47 rfl rfl ?_
              refine a_getO (n := 51) dX4_readLine_48 rfl fX4_21 (s17 hz) ?_
              rw [hdr]
              refine a_iload_n (n := 52) dX4_readLine_51 rfl rfl ?_
              refine a_callV (M2 := mX5_endLine) (n := 55) dX4_readLine_52 rfl (c_endLine31 (d := d + 25) hz hR (by decide) hC) kX5_endLine lX4_66 iX5_endLine eX5_endLine (by decide) (by omega) (s31 hz) rfl (Nat.le_of_ble_eq_true rfl) (fun q52 z52 hr52 hi52 hl52 h52 => ?_)
              obtain ⟨e152, e252, e352, rfl, e452⟩ := h52
              obtain rfl := e152.symm
              obtain rfl := e252.symm
              obtain rfl := e352.symm
              obtain rfl : hi52 = cEnd 31 (cAd yy.2) 1 := e452
              show a_wp G _ _ _ _ [] _ _ _ _ _
              refine a_iconst (n := 56) dX4_readLine_55 rfl ⟨by decide, by decide⟩ ?_
              refine a_zreturn dX4_readLine_56 rfl (by omega) ?_
              exact ⟨rfl, rfl, rfl, rfl, rfl⟩
            · skip
              omega
          · show a_wp G _ _ _ _ (vI 0 :: _) _ _ _ _ _
            refine a_if_ne (t := 47) (n := 45) dX4_readLine_42 rfl rfl (fun c42 => ?_) (fun c42 => ?_)
            · skip
              omega
            · rw [if_pos k39] at hrun
              obtain ⟨rfl, rfl⟩ := Prod.mk.inj (Option.some.inj hrun)
              refine a_iconst (n := 46) dX4_readLine_45 rfl ⟨by decide, by decide⟩ ?_
              refine a_zreturn dX4_readLine_46 rfl (by omega) ?_
              exact ⟨rfl, rfl, rfl, rfl, rfl⟩
    · show a_wp G _ _ _ _ (vI 0 :: _) _ _ _ _ _
      refine a_if_eq (t := 45) (n := 28) dX4_readLine_25 rfl rfl (fun c25 => ?_) (fun c25 => ?_)
      · rw [if_pos k22] at hrun
        obtain ⟨rfl, rfl⟩ := Prod.mk.inj (Option.some.inj hrun)
        refine a_iconst (n := 46) dX4_readLine_45 rfl ⟨by decide, by decide⟩ ?_
        refine a_zreturn dX4_readLine_46 rfl (by omega) ?_
        exact ⟨rfl, rfl, rfl, rfl, rfl⟩
      · skip
        omega
end C29
