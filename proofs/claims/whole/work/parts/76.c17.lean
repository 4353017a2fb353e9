section C17
variable {G : aG} {d : Nat} {z : aZ} {hr : aR} {hi hl : aI}
set_option maxRecDepth 100000 in
set_option maxHeartbeats 4000000 in
theorem c_numN  : a_ct G mX9_numberOf (d + 0) [vO none] z hr hi hl (Qs z hr hi hl (fun r => r = some (vI (-1)))) := by
  refine a_ct_of rfl (Nat.le_of_ble_eq_true rfl) ?_
  refine a_aload_n (n := 1) dX9_numberOf_0 rfl rfl ?_
  refine a_ifnonnull (t := 8) (n := 4) dX9_numberOf_1 rfl rfl (fun p1 c1 => ?_) (fun c1 => ?_)
  · cases c1
  · refine a_iconst (n := 5) dX9_numberOf_4 rfl ⟨by decide, by decide⟩ ?_
    refine a_goto (t := 12) dX9_numberOf_5 rfl ?_
    refine a_ireturn dX9_numberOf_12 rfl ?_
    exact ⟨rfl, rfl, rfl, rfl, rfl⟩
set_option maxRecDepth 100000 in
set_option maxHeartbeats 4000000 in
theorem c_numS {a : Nat} (ha : a_is z a 3 17) : a_ct G mX9_numberOf (d + 0) [vR a] z hr hi hl (Qs z hr hi hl (fun r => r = some (vI (hi a 0)))) := by
  refine a_ct_of rfl (Nat.le_of_ble_eq_true rfl) ?_
  refine a_aload_n (n := 1) dX9_numberOf_0 rfl rfl ?_
  refine a_ifnonnull (t := 8) (n := 4) dX9_numberOf_1 rfl rfl (fun p1 c1 => ?_) (fun c1 => ?_)
  · refine a_aload_n (n := 9) dX9_numberOf_8 rfl rfl ?_
    refine a_getI (n := 12) dX9_numberOf_9 rfl fX9_283 ha ?_
    refine a_ireturn dX9_numberOf_12 rfl ?_
    exact ⟨rfl, rfl, rfl, rfl, rfl⟩
  · cases c1
/-- the number of a PLANT that may be none *) -/
def cNo (hi : aI) (o : Option Nat) : Int := match o with
  | none => -1
  | some a => hi a 0
theorem c_numberOf {o : Option Nat} (h : ∀ a, o = some a → a_is z a 3 17) : a_ct G mX9_numberOf (d + 0) [vO o] z hr hi hl (Qs z hr hi hl (fun r => r = some (vI (cNo hi o)))) := by
  cases o with
  | none => exact c_numN
  | some a => exact c_numS (h a rfl)
def cL1 (hr : aR) (hi : aI) (a : Nat) (w : Int) : Int := if w = 0 then hi a 1 else if w = 1 then cNo hi (hr a 2) else if w = 2 then cNo hi (hr a 3) else if w = 3 then hi a 8 else hi a 5
def cL2 (hi : aI) (a : Nat) (w : Int) : Int := if w = 5 then hi a 4 else if w = 6 then (if hi a 6 = 0 then 0 else 1) else if w = 7 then hi a 13 else if w = 8 then hi a 14 else (if hi a 15 = 0 then 0 else 1)
set_option maxRecDepth 100000 in
set_option maxHeartbeats 4000000 in
theorem c_look1 {a : Nat} {w : Int} (ha : a_is z a 3 17) (h2 : ∀ b, hr a 2 = some b → a_is z b 3 17) (h3 : ∀ b, hr a 3 = some b → a_is z b 3 17) : a_ct G mX9_lookAtOrigin (d + 1) [vR a, vI w] z hr hi hl (Qs z hr hi hl (fun r => r = some (vI (cL1 hr hi a w)))) := by
  refine a_ct_of rfl (Nat.le_of_ble_eq_true rfl) ?_
  refine a_iload_n (n := 1) dX9_lookAtOrigin_0 rfl rfl ?_
  by_cases hw1 : w < 0 ∨ 3 < w
  · refine a_tableOut (t := 58) dX9_lookAtOrigin_1 hw1 rfl ?_
    refine a_aload_n (n := 59) dX9_lookAtOrigin_58 rfl rfl ?_
    refine a_getI (n := 62) dX9_lookAtOrigin_59 rfl fX9_204 ha ?_
    refine a_ireturn dX9_lookAtOrigin_62 rfl ?_
    refine ⟨rfl, rfl, rfl, rfl, ?_⟩
    unfold cL1
    rw [if_neg (by omega), if_neg (by omega), if_neg (by omega), if_neg (by omega)]
  · have hx1 : w = 0 ∨ w = 1 ∨ w = 2 ∨ w = 3 := by omega
    rcases hx1 with rfl | rfl | rfl | rfl
    · refine a_tableIn (off := 31) (t := 32) dX9_lookAtOrigin_1 (by decide) (by decide) rfl rfl ?_
      refine a_aload_n (n := 33) dX9_lookAtOrigin_32 rfl rfl ?_
      refine a_getI (n := 36) dX9_lookAtOrigin_33 rfl fX9_261 ha ?_
      refine a_ireturn dX9_lookAtOrigin_36 rfl ?_
      exact ⟨rfl, rfl, rfl, rfl, rfl⟩
    · refine a_tableIn (off := 36) (t := 37) dX9_lookAtOrigin_1 (by decide) (by decide) rfl rfl ?_
      refine a_aload_n (n := 38) dX9_lookAtOrigin_37 rfl rfl ?_
      refine a_getO (n := 41) dX9_lookAtOrigin_38 rfl fX9_264 ha ?_
      refine a_callS (M2 := mX9_numberOf) (n := 44) dX9_lookAtOrigin_41 rfl (c_numberOf (d := d) h2) kX9_numberOf lX9_268 sX9_numberOf (by omega) rfl (Nat.le_of_ble_eq_true rfl) (fun q41 z41 hr41 hi41 hl41 h41 => ?_)
      obtain ⟨e141, e241, e341, e441, rfl⟩ := h41
      obtain rfl := e141.symm
      obtain rfl := e241.symm
      obtain rfl := e341.symm
      obtain rfl := e441.symm
      show a_wp G _ _ _ _ (vI _ :: _) _ _ _ _ _
      refine a_ireturn dX9_lookAtOrigin_44 rfl ?_
      exact ⟨rfl, rfl, rfl, rfl, rfl⟩
    · refine a_tableIn (off := 44) (t := 45) dX9_lookAtOrigin_1 (by decide) (by decide) rfl rfl ?_
      refine a_aload_n (n := 46) dX9_lookAtOrigin_45 rfl rfl ?_
      refine a_getO (n := 49) dX9_lookAtOrigin_46 rfl fX9_271 ha ?_
      refine a_callS (M2 := mX9_numberOf) (n := 52) dX9_lookAtOrigin_49 rfl (c_numberOf (d := d) h3) kX9_numberOf lX9_268 sX9_numberOf (by omega) rfl (Nat.le_of_ble_eq_true rfl) (fun q49 z49 hr49 hi49 hl49 h49 => ?_)
      obtain ⟨e149, e249, e349, e449, rfl⟩ := h49
      obtain rfl := e149.symm
      obtain rfl := e249.symm
      obtain rfl := e349.symm
      obtain rfl := e449.symm
      show a_wp G _ _ _ _ (vI _ :: _) _ _ _ _ _
      refine a_ireturn dX9_lookAtOrigin_52 rfl ?_
      exact ⟨rfl, rfl, rfl, rfl, rfl⟩
    · refine a_tableIn (off := 52) (t := 53) dX9_lookAtOrigin_1 (by decide) (by decide) rfl rfl ?_
      refine a_aload_n (n := 54) dX9_lookAtOrigin_53 rfl rfl ?_
      refine a_getI (n := 57) dX9_lookAtOrigin_54 rfl fX9_96 ha ?_
      refine a_ireturn dX9_lookAtOrigin_57 rfl ?_
      exact ⟨rfl, rfl, rfl, rfl, rfl⟩
set_option maxRecDepth 100000 in
set_option maxHeartbeats 4000000 in
theorem c_look2 {a : Nat} {w : Int} (ha : a_is z a 3 17) : a_ct G mX9_lookAtState (d + 0) [vR a, vI w] z hr hi hl (Qs z hr hi hl (fun r => r = some (vI (cL2 hi a w)))) := by
  refine a_ct_of rfl (Nat.le_of_ble_eq_true rfl) ?_
  refine a_iload_n (n := 1) dX9_lookAtState_0 rfl rfl ?_
  by_cases hw1 : w < 5 ∨ 8 < w
  · refine a_tableOut (t := 60) dX9_lookAtState_1 hw1 rfl ?_
    refine a_aload_n (n := 61) dX9_lookAtState_60 rfl rfl ?_
    refine a_getI (n := 64) dX9_lookAtState_61 rfl fX9_280 ha ?_
    refine a_if_eq (t := 71) (n := 67) dX9_lookAtState_64 rfl rfl (fun c64 => ?_) (fun c64 => ?_)
    · refine a_iconst (n := 72) dX9_lookAtState_71 rfl ⟨by decide, by decide⟩ ?_
      refine a_ireturn dX9_lookAtState_72 rfl ?_
      refine ⟨rfl, rfl, rfl, rfl, ?_⟩
      unfold cL2
      rw [if_neg (by omega), if_neg (by omega), if_neg (by omega), if_neg (by omega), if_pos c64]
    · refine a_iconst (n := 68) dX9_lookAtState_67 rfl ⟨by decide, by decide⟩ ?_
      refine a_goto (t := 72) dX9_lookAtState_68 rfl ?_
      refine a_ireturn dX9_lookAtState_72 rfl ?_
      refine ⟨rfl, rfl, rfl, rfl, ?_⟩
      unfold cL2
      rw [if_neg (by omega), if_neg (by omega), if_neg (by omega), if_neg (by omega), if_neg c64]
  · have hx1 : w = 5 ∨ w = 6 ∨ w = 7 ∨ w = 8 := by omega
    rcases hx1 with rfl | rfl | rfl | rfl
    · refine a_tableIn (off := 31) (t := 32) dX9_lookAtState_1 (by decide) (by decide) rfl rfl ?_
      refine a_aload_n (n := 33) dX9_lookAtState_32 rfl rfl ?_
      refine a_getI (n := 36) dX9_lookAtState_33 rfl fX9_274 ha ?_
      refine a_ireturn dX9_lookAtState_36 rfl ?_
      exact ⟨rfl, rfl, rfl, rfl, rfl⟩
    · refine a_tableIn (off := 36) (t := 37) dX9_lookAtState_1 (by decide) (by decide) rfl rfl ?_
      refine a_aload_n (n := 38) dX9_lookAtState_37 rfl rfl ?_
      refine a_getI (n := 41) dX9_lookAtState_38 rfl fX9_207 ha ?_
      refine a_if_eq (t := 48) (n := 44) dX9_lookAtState_41 rfl rfl (fun c41 => ?_) (fun c41 => ?_)
      · refine a_iconst (n := 49) dX9_lookAtState_48 rfl ⟨by decide, by decide⟩ ?_
        refine a_ireturn dX9_lookAtState_49 rfl ?_
        refine ⟨rfl, rfl, rfl, rfl, ?_⟩
        unfold cL2
        simp only [Int.reduceEq, if_false, if_true, reduceIte, ite_true, ite_false]
        rw [if_pos c41]
      · refine a_iconst (n := 45) dX9_lookAtState_44 rfl ⟨by decide, by decide⟩ ?_
        refine a_goto (t := 49) dX9_lookAtState_45 rfl ?_
        refine a_ireturn dX9_lookAtState_49 rfl ?_
        refine ⟨rfl, rfl, rfl, rfl, ?_⟩
        unfold cL2
        simp only [Int.reduceEq, if_false, if_true, reduceIte, ite_true, ite_false]
        rw [if_neg c41]
    · refine a_tableIn (off := 49) (t := 50) dX9_lookAtState_1 (by decide) (by decide) rfl rfl ?_
      refine a_aload_n (n := 51) dX9_lookAtState_50 rfl rfl ?_
      refine a_getI (n := 54) dX9_lookAtState_51 rfl fX9_165 ha ?_
      refine a_ireturn dX9_lookAtState_54 rfl ?_
      exact ⟨rfl, rfl, rfl, rfl, rfl⟩
    · refine a_tableIn (off := 54) (t := 55) dX9_lookAtState_1 (by decide) (by decide) rfl rfl ?_
      refine a_aload_n (n := 56) dX9_lookAtState_55 rfl rfl ?_
      refine a_getI (n := 59) dX9_lookAtState_56 rfl fX9_277 ha ?_
      refine a_ireturn dX9_lookAtState_59 rfl ?_
      exact ⟨rfl, rfl, rfl, rfl, rfl⟩
set_option maxRecDepth 100000 in
set_option maxHeartbeats 4000000 in
theorem c_count22 (hz : stZ z) (hR : stR hr) (hn : 0 ≤ hi 0 9 ∧ hi 0 9 ≤ 40) (hW : cP z hr hi) {w : Int} (hru : hr 0 8 = some 22) : a_ct G mX9_count (d + 1) [vR 0, vI w] z hr hi hl (Qs z hr hi hl (fun r => r = some (vI (if w = 0 then hi 0 9 else if w = 1 then hi 0 11 else if w = 2 then hi 0 10 else if w = 3 then hi 3 6 else if w = 4 then hi 3 7 else if w = 5 then hi 28 1 else if w = 6 then (sm (hi 0 9).toNat (fun i => if ¬ hi (pC hr i) 15 = 0 then 1 else 0)) else if w = 7 then hi 22 7 else if w = 8 then hi 15 1 else if w = 9 then (sm (hi 0 9).toNat (fun i => if ¬ hi (pC hr i) 13 = -1 then 1 else 0)) else -1)))) := by
  refine a_ct_of rfl (Nat.le_of_ble_eq_true rfl) ?_
  refine a_iload_n (n := 1) dX9_count_0 rfl rfl ?_
  by_cases hw1 : w < 0 ∨ 9 < w
  · refine a_tableOut (t := 121) dX9_count_1 hw1 rfl ?_
    refine a_iconst (n := 122) dX9_count_121 rfl ⟨by decide, by decide⟩ ?_
    refine a_ireturn dX9_count_122 rfl ?_
    refine ⟨rfl, rfl, rfl, rfl, ?_⟩
    rw [if_neg (by omega), if_neg (by omega), if_neg (by omega), if_neg (by omega), if_neg (by omega), if_neg (by omega), if_neg (by omega), if_neg (by omega), if_neg (by omega), if_neg (by omega)]
  · have hx1 : w = 0 ∨ w = 1 ∨ w = 2 ∨ w = 3 ∨ w = 4 ∨ w = 5 ∨ w = 6 ∨ w = 7 ∨ w = 8 ∨ w = 9 := by omega
    rcases hx1 with rfl | rfl | rfl | rfl | rfl | rfl | rfl | rfl | rfl | rfl
    · refine a_tableIn (off := 55) (t := 56) dX9_count_1 (by decide) (by decide) rfl rfl ?_
      refine a_aload_n (n := 57) dX9_count_56 rfl rfl ?_
      refine a_getI (n := 60) dX9_count_57 rfl fX9_79 (s0 hz) ?_
      refine a_ireturn dX9_count_60 rfl ?_
      exact ⟨rfl, rfl, rfl, rfl, rfl⟩
    · refine a_tableIn (off := 60) (t := 61) dX9_count_1 (by decide) (by decide) rfl rfl ?_
      refine a_aload_n (n := 62) dX9_count_61 rfl rfl ?_
      refine a_getI (n := 65) dX9_count_62 rfl fX9_71 (s0 hz) ?_
      refine a_ireturn dX9_count_65 rfl ?_
      exact ⟨rfl, rfl, rfl, rfl, rfl⟩
    · refine a_tableIn (off := 65) (t := 66) dX9_count_1 (by decide) (by decide) rfl rfl ?_
      refine a_aload_n (n := 67) dX9_count_66 rfl rfl ?_
      refine a_getI (n := 70) dX9_count_67 rfl fX9_131 (s0 hz) ?_
      refine a_ireturn dX9_count_70 rfl ?_
      exact ⟨rfl, rfl, rfl, rfl, rfl⟩
    · refine a_tableIn (off := 70) (t := 71) dX9_count_1 (by decide) (by decide) rfl rfl ?_
      refine a_aload_n (n := 72) dX9_count_71 rfl rfl ?_
      refine a_getR (n := 75) dX9_count_72 rfl fX9_24 (s0 hz) (r0_2 hR) ?_
      refine a_getI (n := 78) dX9_count_75 rfl fX9_245 (s3 hz) ?_
      refine a_ireturn dX9_count_78 rfl ?_
      exact ⟨rfl, rfl, rfl, rfl, rfl⟩
    · refine a_tableIn (off := 78) (t := 79) dX9_count_1 (by decide) (by decide) rfl rfl ?_
      refine a_aload_n (n := 80) dX9_count_79 rfl rfl ?_
      refine a_getR (n := 83) dX9_count_80 rfl fX9_24 (s0 hz) (r0_2 hR) ?_
      refine a_getI (n := 86) dX9_count_83 rfl fX9_248 (s3 hz) ?_
      refine a_ireturn dX9_count_86 rfl ?_
      exact ⟨rfl, rfl, rfl, rfl, rfl⟩
    · refine a_tableIn (off := 86) (t := 87) dX9_count_1 (by decide) (by decide) rfl rfl ?_
      refine a_aload_n (n := 88) dX9_count_87 rfl rfl ?_
      refine a_getR (n := 91) dX9_count_88 rfl fX9_52 (s0 hz) (r0_6 hR) ?_
      refine a_getI (n := 94) dX9_count_91 rfl fX9_251 (s28 hz) ?_
      refine a_ireturn dX9_count_94 rfl ?_
      exact ⟨rfl, rfl, rfl, rfl, rfl⟩
    · refine a_tableIn (off := 94) (t := 95) dX9_count_1 (by decide) (by decide) rfl rfl ?_
      refine a_aload_n (n := 96) dX9_count_95 rfl rfl ?_
      refine a_callV (M2 := mX9_countDead) (n := 99) dX9_count_96 rfl (c_countDead (d := d) hz hR hn hW) kX9_countDead lX9_252 iX9_countDead eX9_countDead (by decide) (by omega) (s0 hz) rfl (Nat.le_of_ble_eq_true rfl) (fun q96 z96 hr96 hi96 hl96 h96 => ?_)
      obtain ⟨e196, e296, e396, e496, rfl⟩ := h96
      obtain rfl := e196.symm
      obtain rfl := e296.symm
      obtain rfl := e396.symm
      obtain rfl := e496.symm
      show a_wp G _ _ _ _ (vI _ :: _) _ _ _ _ _
      refine a_ireturn dX9_count_99 rfl ?_
      exact ⟨rfl, rfl, rfl, rfl, rfl⟩
    · refine a_tableIn (off := 99) (t := 100) dX9_count_1 (by decide) (by decide) rfl rfl ?_
      refine a_aload_n (n := 101) dX9_count_100 rfl rfl ?_
      refine a_getO (n := 104) dX9_count_101 rfl fX9_63 (s0 hz) ?_
      rw [hru]
      refine a_getI (n := 107) dX9_count_104 rfl fX9_255 (s22 hz) ?_
      refine a_ireturn dX9_count_107 rfl ?_
      exact ⟨rfl, rfl, rfl, rfl, rfl⟩
    · refine a_tableIn (off := 107) (t := 108) dX9_count_1 (by decide) (by decide) rfl rfl ?_
      refine a_aload_n (n := 109) dX9_count_108 rfl rfl ?_
      refine a_getR (n := 112) dX9_count_109 rfl fX9_38 (s0 hz) (r0_4 hR) ?_
      refine a_getI (n := 115) dX9_count_112 rfl fX9_193 (s15 hz) ?_
      refine a_ireturn dX9_count_115 rfl ?_
      exact ⟨rfl, rfl, rfl, rfl, rfl⟩
    · refine a_tableIn (off := 115) (t := 116) dX9_count_1 (by decide) (by decide) rfl rfl ?_
      refine a_aload_n (n := 117) dX9_count_116 rfl rfl ?_
      refine a_callV (M2 := mX9_countLying) (n := 120) dX9_count_117 rfl (c_countLying (d := d) hz hR hn hW) kX9_countLying lX9_258 iX9_countLying eX9_countLying (by decide) (by omega) (s0 hz) rfl (Nat.le_of_ble_eq_true rfl) (fun q117 z117 hr117 hi117 hl117 h117 => ?_)
      obtain ⟨e1117, e2117, e3117, e4117, rfl⟩ := h117
      obtain rfl := e1117.symm
      obtain rfl := e2117.symm
      obtain rfl := e3117.symm
      obtain rfl := e4117.symm
      show a_wp G _ _ _ _ (vI _ :: _) _ _ _ _ _
      refine a_ireturn dX9_count_120 rfl ?_
      exact ⟨rfl, rfl, rfl, rfl, rfl⟩
set_option maxRecDepth 100000 in
set_option maxHeartbeats 4000000 in
theorem c_count31 (hz : stZ z) (hR : stR hr) (hn : 0 ≤ hi 0 9 ∧ hi 0 9 ≤ 40) (hW : cP z hr hi) {w : Int} (hru : hr 0 8 = some 31) : a_ct G mX9_count (d + 1) [vR 0, vI w] z hr hi hl (Qs z hr hi hl (fun r => r = some (vI (if w = 0 then hi 0 9 else if w = 1 then hi 0 11 else if w = 2 then hi 0 10 else if w = 3 then hi 3 6 else if w = 4 then hi 3 7 else if w = 5 then hi 28 1 else if w = 6 then (sm (hi 0 9).toNat (fun i => if ¬ hi (pC hr i) 15 = 0 then 1 else 0)) else if w = 7 then hi 31 7 else if w = 8 then hi 15 1 else if w = 9 then (sm (hi 0 9).toNat (fun i => if ¬ hi (pC hr i) 13 = -1 then 1 else 0)) else -1)))) := by
  refine a_ct_of rfl (Nat.le_of_ble_eq_true rfl) ?_
  refine a_iload_n (n := 1) dX9_count_0 rfl rfl ?_
  by_cases hw1 : w < 0 ∨ 9 < w
  · refine a_tableOut (t := 121) dX9_count_1 hw1 rfl ?_
    refine a_iconst (n := 122) dX9_count_121 rfl ⟨by decide, by decide⟩ ?_
    refine a_ireturn dX9_count_122 rfl ?_
    refine ⟨rfl, rfl, rfl, rfl, ?_⟩
    rw [if_neg (by omega), if_neg (by omega), if_neg (by omega), if_neg (by omega), if_neg (by omega), if_neg (by omega), if_neg (by omega), if_neg (by omega), if_neg (by omega), if_neg (by omega)]
  · have hx1 : w = 0 ∨ w = 1 ∨ w = 2 ∨ w = 3 ∨ w = 4 ∨ w = 5 ∨ w = 6 ∨ w = 7 ∨ w = 8 ∨ w = 9 := by omega
    rcases hx1 with rfl | rfl | rfl | rfl | rfl | rfl | rfl | rfl | rfl | rfl
    · refine a_tableIn (off := 55) (t := 56) dX9_count_1 (by decide) (by decide) rfl rfl ?_
      refine a_aload_n (n := 57) dX9_count_56 rfl rfl ?_
      refine a_getI (n := 60) dX9_count_57 rfl fX9_79 (s0 hz) ?_
      refine a_ireturn dX9_count_60 rfl ?_
      exact ⟨rfl, rfl, rfl, rfl, rfl⟩
    · refine a_tableIn (off := 60) (t := 61) dX9_count_1 (by decide) (by decide) rfl rfl ?_
      refine a_aload_n (n := 62) dX9_count_61 rfl rfl ?_
      refine a_getI (n := 65) dX9_count_62 rfl fX9_71 (s0 hz) ?_
      refine a_ireturn dX9_count_65 rfl ?_
      exact ⟨rfl, rfl, rfl, rfl, rfl⟩
    · refine a_tableIn (off := 65) (t := 66) dX9_count_1 (by decide) (by decide) rfl rfl ?_
      refine a_aload_n (n := 67) dX9_count_66 rfl rfl ?_
      refine a_getI (n := 70) dX9_count_67 rfl fX9_131 (s0 hz) ?_
      refine a_ireturn dX9_count_70 rfl ?_
      exact ⟨rfl, rfl, rfl, rfl, rfl⟩
    · refine a_tableIn (off := 70) (t := 71) dX9_count_1 (by decide) (by decide) rfl rfl ?_
      refine a_aload_n (n := 72) dX9_count_71 rfl rfl ?_
      refine a_getR (n := 75) dX9_count_72 rfl fX9_24 (s0 hz) (r0_2 hR) ?_
      refine a_getI (n := 78) dX9_count_75 rfl fX9_245 (s3 hz) ?_
      refine a_ireturn dX9_count_78 rfl ?_
      exact ⟨rfl, rfl, rfl, rfl, rfl⟩
    · refine a_tableIn (off := 78) (t := 79) dX9_count_1 (by decide) (by decide) rfl rfl ?_
      refine a_aload_n (n := 80) dX9_count_79 rfl rfl ?_
      refine a_getR (n := 83) dX9_count_80 rfl fX9_24 (s0 hz) (r0_2 hR) ?_
      refine a_getI (n := 86) dX9_count_83 rfl fX9_248 (s3 hz) ?_
      refine a_ireturn dX9_count_86 rfl ?_
      exact ⟨rfl, rfl, rfl, rfl, rfl⟩
    · refine a_tableIn (off := 86) (t := 87) dX9_count_1 (by decide) (by decide) rfl rfl ?_
      refine a_aload_n (n := 88) dX9_count_87 rfl rfl ?_
      refine a_getR (n := 91) dX9_count_88 rfl fX9_52 (s0 hz) (r0_6 hR) ?_
      refine a_getI (n := 94) dX9_count_91 rfl fX9_251 (s28 hz) ?_
      refine a_ireturn dX9_count_94 rfl ?_
      exact ⟨rfl, rfl, rfl, rfl, rfl⟩
    · refine a_tableIn (off := 94) (t := 95) dX9_count_1 (by decide) (by decide) rfl rfl ?_
      refine a_aload_n (n := 96) dX9_count_95 rfl rfl ?_
      refine a_callV (M2 := mX9_countDead) (n := 99) dX9_count_96 rfl (c_countDead (d := d) hz hR hn hW) kX9_countDead lX9_252 iX9_countDead eX9_countDead (by decide) (by omega) (s0 hz) rfl (Nat.le_of_ble_eq_true rfl) (fun q96 z96 hr96 hi96 hl96 h96 => ?_)
      obtain ⟨e196, e296, e396, e496, rfl⟩ := h96
      obtain rfl := e196.symm
      obtain rfl := e296.symm
      obtain rfl := e396.symm
      obtain rfl := e496.symm
      show a_wp G _ _ _ _ (vI _ :: _) _ _ _ _ _
      refine a_ireturn dX9_count_99 rfl ?_
      exact ⟨rfl, rfl, rfl, rfl, rfl⟩
    · refine a_tableIn (off := 99) (t := 100) dX9_count_1 (by decide) (by decide) rfl rfl ?_
      refine a_aload_n (n := 101) dX9_count_100 rfl rfl ?_
      refine a_getO (n := 104) dX9_count_101 rfl fX9_63 (s0 hz) ?_
      rw [hru]
      refine a_getI (n := 107) dX9_count_104 rfl fX9_255 (s31 hz) ?_
      refine a_ireturn dX9_count_107 rfl ?_
      exact ⟨rfl, rfl, rfl, rfl, rfl⟩
    · refine a_tableIn (off := 107) (t := 108) dX9_count_1 (by decide) (by decide) rfl rfl ?_
      refine a_aload_n (n := 109) dX9_count_108 rfl rfl ?_
      refine a_getR (n := 112) dX9_count_109 rfl fX9_38 (s0 hz) (r0_4 hR) ?_
      refine a_getI (n := 115) dX9_count_112 rfl fX9_193 (s15 hz) ?_
      refine a_ireturn dX9_count_115 rfl ?_
      exact ⟨rfl, rfl, rfl, rfl, rfl⟩
    · refine a_tableIn (off := 115) (t := 116) dX9_count_1 (by decide) (by decide) rfl rfl ?_
      refine a_aload_n (n := 117) dX9_count_116 rfl rfl ?_
      refine a_callV (M2 := mX9_countLying) (n := 120) dX9_count_117 rfl (c_countLying (d := d) hz hR hn hW) kX9_countLying lX9_258 iX9_countLying eX9_countLying (by decide) (by omega) (s0 hz) rfl (Nat.le_of_ble_eq_true rfl) (fun q117 z117 hr117 hi117 hl117 h117 => ?_)
      obtain ⟨e1117, e2117, e3117, e4117, rfl⟩ := h117
      obtain rfl := e1117.symm
      obtain rfl := e2117.symm
      obtain rfl := e3117.symm
      obtain rfl := e4117.symm
      show a_wp G _ _ _ _ (vI _ :: _) _ _ _ _ _
      refine a_ireturn dX9_count_120 rfl ?_
      exact ⟨rfl, rfl, rfl, rfl, rfl⟩
end C17
