section C2
variable {G : aG} {d : Nat} {z : aZ} {hr : aR} {hi hl : aI}
/-- the PLANTS and the BEDS are there -/
def cP (z : aZ) (hr : aR) (hi : aI) : Prop := ∀ p, 0 ≤ p → p < hi 0 9 → ∃ a m, hr 1 p = some a ∧ a_is z a 3 17 ∧ hr a 7 = some m ∧ a_is z m 20 8
def cBd (z : aZ) (hr : aR) (hi : aI) : Prop := ∀ b, 0 ≤ b → b < hi 0 10 → ∃ a, hr 2 b = some a ∧ a_is z a 0 3
set_option maxRecDepth 100000 in
set_option maxHeartbeats 4000000 in
theorem c_name (hz : stZ z) (hR : stR hr) (hn : 0 ≤ hi 0 9 ∧ hi 0 9 ≤ 40) (hW : cP z hr hi) {p n : Int} (hg : 0 ≤ hi 3 6 ∧ hi 3 6 ≤ 300) : a_ct G mX9_name (d + 2) [vR 0, vI p, vI n] z hr hi hl (fun r z' hr' hi' hl' => z' = z ∧ hr' = hr ∧ hl' = hl ∧ (((0 ≤ p ∧ p < hi 0 9) ∧ (1 ≤ n ∧ n ≤ 50) ∧ ¬ hi 3 6 = 300) ∧ r = some (vI 1) ∧ hi' = up2 (up2 (up2 (up2 hi 4 (hi 3 6) p) 5 (hi 3 6) n) 6 (hi 3 6) (hi 0 11)) 3 6 (hi 3 6 + 1) ∨ ¬ ((0 ≤ p ∧ p < hi 0 9) ∧ (1 ≤ n ∧ n ≤ 50) ∧ ¬ hi 3 6 = 300) ∧ r = some (vI 0) ∧ hi' = hi)) := by
  refine a_ct_of rfl (Nat.le_of_ble_eq_true rfl) ?_
  refine a_aload_n (n := 1) dX9_name_0 rfl rfl ?_
  refine a_iload_n (n := 2) dX9_name_1 rfl rfl ?_
  refine a_callV (M2 := mX9_plantAt) (n := 5) dX9_name_2 rfl (c_plantAt (d := d + 0) hz hR hn) kX9_plantAt lX9_89 iX9_plantAt eX9_plantAt (by decide) (by omega) (s0 hz) rfl (Nat.le_of_ble_eq_true rfl) (fun q2 z2 hr2 hi2 hl2 h2 => ?_)
  obtain ⟨e12, e22, e32, e42, h2⟩ := h2
  obtain rfl := e12.symm
  obtain rfl := e22.symm
  obtain rfl := e32.symm
  obtain rfl := e42.symm
  rcases h2 with ⟨hp2, rfl⟩ | ⟨hp2, rfl⟩
  · obtain ⟨a2, m2, f12, f22, f32, f42⟩ := hW p hp2.1 hp2.2
    rw [f12]
    show a_wp G _ _ _ _ (vR a2 :: _) _ _ _ _ _
    refine a_ifnull (t := 18) (n := 8) dX9_name_5 rfl rfl (fun c5 => ?_) (fun p5 c5 => ?_)
    · cases c5
    · refine a_iload_n (n := 9) dX9_name_8 rfl rfl ?_
      refine a_iconst (n := 10) dX9_name_9 rfl ⟨by decide, by decide⟩ ?_
      refine a_bipush (n := 12) dX9_name_10 rfl ⟨by decide, by decide⟩ (by decide) ?_
      refine a_callS (M2 := mX9_within) (n := 15) dX9_name_12 rfl (c_within (d := d)) kX9_within lX9_67 sX9_within (by omega) rfl (Nat.le_of_ble_eq_true rfl) (fun q12 z12 hr12 hi12 hl12 h12 => ?_)
      obtain ⟨e112, e212, e312, e412, b12, rfl, hb12⟩ := h12
      obtain rfl := e112.symm
      obtain rfl := e212.symm
      obtain rfl := e312.symm
      obtain rfl := e412.symm
      show a_wp G _ _ _ _ (vI b12 :: _) _ _ _ _ _
      refine a_if_ne (t := 20) (n := 18) dX9_name_15 rfl rfl (fun c15 => ?_) (fun c15 => ?_)
      · replace hb12 := isB_t hb12 (by omega)
        refine a_aload_n (n := 21) dX9_name_20 rfl rfl ?_
        refine a_getR (n := 24) dX9_name_21 rfl fX9_24 (s0 hz) (r0_2 hR) ?_
        refine a_iload_n (n := 25) dX9_name_24 rfl rfl ?_
        refine a_iload_n (n := 26) dX9_name_25 rfl rfl ?_
        refine a_aload_n (n := 27) dX9_name_26 rfl rfl ?_
        refine a_getI (n := 30) dX9_name_27 rfl fX9_71 (s0 hz) ?_
        refine a_callV (M2 := mX2_give) (n := 33) dX9_name_30 rfl (c_give (d := d) hz hR hg) kX2_give lX9_114 iX2_give eX2_give (by decide) (by omega) (s3 hz) rfl (Nat.le_of_ble_eq_true rfl) (fun q30 z30 hr30 hi30 hl30 h30 => ?_)
        obtain ⟨e130, e230, e330, h30⟩ := h30
        obtain rfl := e130.symm
        obtain rfl := e230.symm
        obtain rfl := e330.symm
        rcases h30 with ⟨k30, rfl, rfl⟩ | ⟨k30, rfl, e430⟩
        · show a_wp G _ _ _ _ (vI 1 :: _) _ _ _ _ _
          refine a_zreturn dX9_name_33 rfl (by omega) ?_
          exact ⟨rfl, rfl, rfl, Or.inl ⟨⟨hp2, hb12, k30⟩, rfl, rfl⟩⟩
        · obtain rfl := e430.symm
          show a_wp G _ _ _ _ (vI 0 :: _) _ _ _ _ _
          refine a_zreturn dX9_name_33 rfl (by omega) ?_
          exact ⟨rfl, rfl, rfl, Or.inr ⟨fun q => q.2.2 k30, rfl, rfl⟩⟩
      · replace hb12 := isB_f hb12 (by omega)
        refine a_iconst (n := 19) dX9_name_18 rfl ⟨by decide, by decide⟩ ?_
        refine a_zreturn dX9_name_19 rfl (by omega) ?_
        exact ⟨rfl, rfl, rfl, Or.inr ⟨fun q => hb12 q.2.1, rfl, rfl⟩⟩
  · show a_wp G _ _ _ _ (vO none :: _) _ _ _ _ _
    refine a_ifnull (t := 18) (n := 8) dX9_name_5 rfl rfl (fun c5 => ?_) (fun p5 c5 => ?_)
    · refine a_iconst (n := 19) dX9_name_18 rfl ⟨by decide, by decide⟩ ?_
      refine a_zreturn dX9_name_19 rfl (by omega) ?_
      exact ⟨rfl, rfl, rfl, Or.inr ⟨fun q => hp2 q.1, rfl, rfl⟩⟩
    · cases c5
set_option maxRecDepth 100000 in
set_option maxHeartbeats 4000000 in
theorem c_join (hz : stZ z) (hR : stR hr) {x y : Int} (hc : 0 ≤ hi 3 7 ∧ hi 3 7 ≤ 100) (hf : ∀ x, 0 ≤ cJoin hi x (hi 0 11)) : a_ct G mX9_join (d + 3) [vR 0, vI x, vI y] z hr hi hl (fun r z' hr' hi' hl' => z' = z ∧ hr' = hr ∧ hl' = hl ∧ (((1 ≤ x ∧ x ≤ 50) ∧ (0 ≤ y ∧ y ≤ 50) ∧ ¬ hi 3 7 = 100 ∧ ¬ mBack (fun y => cJoin hi y (hi 0 11)) x 50 y) ∧ r = some (vI 1) ∧ hi' = up2 (up2 (up2 (up2 hi 7 (hi 3 7) x) 8 (hi 3 7) y) 9 (hi 3 7) (hi 0 11)) 3 7 (hi 3 7 + 1) ∨ ¬ ((1 ≤ x ∧ x ≤ 50) ∧ (0 ≤ y ∧ y ≤ 50) ∧ ¬ hi 3 7 = 100 ∧ ¬ mBack (fun y => cJoin hi y (hi 0 11)) x 50 y) ∧ r = some (vI 0) ∧ hi' = hi)) := by
  refine a_ct_of rfl (Nat.le_of_ble_eq_true rfl) ?_
  refine a_iload_n (n := 1) dX9_join_0 rfl rfl ?_
  refine a_iconst (n := 2) dX9_join_1 rfl ⟨by decide, by decide⟩ ?_
  refine a_bipush (n := 4) dX9_join_2 rfl ⟨by decide, by decide⟩ (by decide) ?_
  refine a_callS (M2 := mX9_within) (n := 7) dX9_join_4 rfl (c_within (d := d)) kX9_within lX9_67 sX9_within (by omega) rfl (Nat.le_of_ble_eq_true rfl) (fun q4 z4 hr4 hi4 hl4 h4 => ?_)
  obtain ⟨e14, e24, e34, e44, b4, rfl, hb4⟩ := h4
  obtain rfl := e14.symm
  obtain rfl := e24.symm
  obtain rfl := e34.symm
  obtain rfl := e44.symm
  show a_wp G _ _ _ _ (vI b4 :: _) _ _ _ _ _
  refine a_if_eq (t := 20) (n := 10) dX9_join_7 rfl rfl (fun c7 => ?_) (fun c7 => ?_)
  · replace hb4 := isB_f hb4 (by omega)
    refine a_iconst (n := 21) dX9_join_20 rfl ⟨by decide, by decide⟩ ?_
    refine a_zreturn dX9_join_21 rfl (by omega) ?_
    exact ⟨rfl, rfl, rfl, Or.inr ⟨fun q => hb4 q.1, rfl, rfl⟩⟩
  · replace hb4 := isB_t hb4 (by omega)
    refine a_iload_n (n := 11) dX9_join_10 rfl rfl ?_
    refine a_iconst (n := 12) dX9_join_11 rfl ⟨by decide, by decide⟩ ?_
    refine a_bipush (n := 14) dX9_join_12 rfl ⟨by decide, by decide⟩ (by decide) ?_
    refine a_callS (M2 := mX9_within) (n := 17) dX9_join_14 rfl (c_within (d := d)) kX9_within lX9_67 sX9_within (by omega) rfl (Nat.le_of_ble_eq_true rfl) (fun q14 z14 hr14 hi14 hl14 h14 => ?_)
    obtain ⟨e114, e214, e314, e414, b14, rfl, hb14⟩ := h14
    obtain rfl := e114.symm
    obtain rfl := e214.symm
    obtain rfl := e314.symm
    obtain rfl := e414.symm
    show a_wp G _ _ _ _ (vI b14 :: _) _ _ _ _ _
    refine a_if_ne (t := 22) (n := 20) dX9_join_17 rfl rfl (fun c17 => ?_) (fun c17 => ?_)
    · replace hb14 := isB_t hb14 (by omega)
      refine a_aload_n (n := 23) dX9_join_22 rfl rfl ?_
      refine a_getR (n := 26) dX9_join_23 rfl fX9_24 (s0 hz) (r0_2 hR) ?_
      refine a_iload_n (n := 27) dX9_join_26 rfl rfl ?_
      refine a_iload_n (n := 28) dX9_join_27 rfl rfl ?_
      refine a_aload_n (n := 29) dX9_join_28 rfl rfl ?_
      refine a_getI (n := 32) dX9_join_29 rfl fX9_71 (s0 hz) ?_
      refine a_callV (M2 := mX2_tie) (n := 35) dX9_join_32 rfl (c_tie (d := d) hz hR hc hf (by omega)) kX2_tie lX9_117 iX2_tie eX2_tie (by decide) (by omega) (s3 hz) rfl (Nat.le_of_ble_eq_true rfl) (fun q32 z32 hr32 hi32 hl32 h32 => ?_)
      obtain ⟨e132, e232, e332, h32⟩ := h32
      obtain rfl := e132.symm
      obtain rfl := e232.symm
      obtain rfl := e332.symm
      rcases h32 with ⟨k32, rfl, rfl⟩ | ⟨k32, rfl, e432⟩
      · show a_wp G _ _ _ _ (vI 1 :: _) _ _ _ _ _
        refine a_zreturn dX9_join_35 rfl (by omega) ?_
        exact ⟨rfl, rfl, rfl, Or.inl ⟨⟨hb4, hb14, k32⟩, rfl, rfl⟩⟩
      · obtain rfl := e432.symm
        show a_wp G _ _ _ _ (vI 0 :: _) _ _ _ _ _
        refine a_zreturn dX9_join_35 rfl (by omega) ?_
        exact ⟨rfl, rfl, rfl, Or.inr ⟨fun q => k32 q.2.2, rfl, rfl⟩⟩
    · replace hb14 := isB_f hb14 (by omega)
      refine a_iconst (n := 21) dX9_join_20 rfl ⟨by decide, by decide⟩ ?_
      refine a_zreturn dX9_join_21 rfl (by omega) ?_
      exact ⟨rfl, rfl, rfl, Or.inr ⟨fun q => hb14 q.2.1, rfl, rfl⟩⟩
set_option maxRecDepth 100000 in
set_option maxHeartbeats 4000000 in
theorem c_write (hz : stZ z) (hR : stR hr) {p h a dy : Int} (hs : 0 ≤ hi 28 1 ∧ hi 28 1 ≤ 100) : a_ct G mX6_write (d + 0) [vR 28, vI p, vI h, vI a, vI dy] z hr hi hl (fun r z' hr' hi' hl' => z' = z ∧ hr' = hr ∧ hl' = hl ∧ (¬ hi 28 1 = 100 ∧ r = some (vI 1) ∧ hi' = up2 (up2 (up2 (up2 (up2 hi 29 (4 * hi 28 1) p) 29 (4 * hi 28 1 + 1) h) 29 (4 * hi 28 1 + 2) a) 29 (4 * hi 28 1 + 3) dy) 28 1 (hi 28 1 + 1) ∨ hi 28 1 = 100 ∧ r = some (vI 0) ∧ hi' = hi)) := by
  refine a_ct_of rfl (Nat.le_of_ble_eq_true rfl) ?_
  refine a_aload_n (n := 1) dX6_write_0 rfl rfl ?_
  refine a_getI (n := 4) dX6_write_1 rfl fX6_15 (s28 hz) ?_
  refine a_bipush (n := 6) dX6_write_4 rfl ⟨by decide, by decide⟩ (by decide) ?_
  refine a_icmp_lt (t := 11) (n := 9) dX6_write_6 rfl rfl (fun c6 => ?_) (fun c6 => ?_)
  · refine a_iconst (n := 12) dX6_write_11 rfl ⟨by decide, by decide⟩ ?_
    refine a_aload_n (n := 13) dX6_write_12 rfl rfl ?_
    refine a_getI (n := 16) dX6_write_13 rfl fX6_15 (s28 hz) ?_
    refine a_imul (n := 17) dX6_write_16 rfl ⟨by omega, by omega⟩ ?_
    refine b_istore (n := 19) dX6_write_17 rfl (by decide) rfl ?_
    refine a_aload_n (n := 20) dX6_write_19 rfl rfl ?_
    refine a_getR (n := 23) dX6_write_20 rfl fX6_11 (s28 hz) (r28_0 hR) ?_
    refine a_iload (n := 25) dX6_write_23 rfl rfl ?_
    refine a_iload_n (n := 26) dX6_write_25 rfl rfl ?_
    refine a_iast (n := 27) dX6_write_26 rfl (s29 hz) (by omega) (by omega) ?_
    refine a_aload_n (n := 28) dX6_write_27 rfl rfl ?_
    refine a_getR (n := 31) dX6_write_28 rfl fX6_11 (s28 hz) (r28_0 hR) ?_
    refine a_iload (n := 33) dX6_write_31 rfl rfl ?_
    refine a_iconst (n := 34) dX6_write_33 rfl ⟨by decide, by decide⟩ ?_
    refine a_iadd (n := 35) dX6_write_34 rfl ⟨by omega, by omega⟩ ?_
    refine a_iload_n (n := 36) dX6_write_35 rfl rfl ?_
    refine a_iast (n := 37) dX6_write_36 rfl (s29 hz) (by omega) (by omega) ?_
    refine a_aload_n (n := 38) dX6_write_37 rfl rfl ?_
    refine a_getR (n := 41) dX6_write_38 rfl fX6_11 (s28 hz) (r28_0 hR) ?_
    refine a_iload (n := 43) dX6_write_41 rfl rfl ?_
    refine a_iconst (n := 44) dX6_write_43 rfl ⟨by decide, by decide⟩ ?_
    refine a_iadd (n := 45) dX6_write_44 rfl ⟨by omega, by omega⟩ ?_
    refine a_iload_n (n := 46) dX6_write_45 rfl rfl ?_
    refine a_iast (n := 47) dX6_write_46 rfl (s29 hz) (by omega) (by omega) ?_
    refine a_aload_n (n := 48) dX6_write_47 rfl rfl ?_
    refine a_getR (n := 51) dX6_write_48 rfl fX6_11 (s28 hz) (r28_0 hR) ?_
    refine a_iload (n := 53) dX6_write_51 rfl rfl ?_
    refine a_iconst (n := 54) dX6_write_53 rfl ⟨by decide, by decide⟩ ?_
    refine a_iadd (n := 55) dX6_write_54 rfl ⟨by omega, by omega⟩ ?_
    refine a_iload (n := 57) dX6_write_55 rfl rfl ?_
    refine a_iast (n := 58) dX6_write_57 rfl (s29 hz) (by omega) (by omega) ?_
    refine a_aload_n (n := 59) dX6_write_58 rfl rfl ?_
    refine a_dup (n := 60) dX6_write_59 rfl rfl ?_
    refine a_getI (n := 63) dX6_write_60 rfl fX6_15 (s28 hz) ?_
    try simp only [up2_eq, Nat.reduceEqDiff, Int.reduceEq, Int.reduceNeg, and_true, true_and, and_false, false_and, and_self, if_true, if_false, ite_true, ite_false, reduceIte, eq_self]
    refine a_iconst (n := 64) dX6_write_63 rfl ⟨by decide, by decide⟩ ?_
    refine a_iadd (n := 65) dX6_write_64 rfl ⟨by omega, by omega⟩ ?_
    refine a_putI (n := 68) dX6_write_65 rfl fX6_15 rfl (s28 hz) (Or.inl rfl) ?_
    refine a_iconst (n := 69) dX6_write_68 rfl ⟨by decide, by decide⟩ ?_
    refine a_zreturn dX6_write_69 rfl (by omega) ?_
    exact ⟨rfl, rfl, rfl, Or.inl ⟨by omega, rfl, rfl⟩⟩
  · refine a_iconst (n := 10) dX6_write_9 rfl ⟨by decide, by decide⟩ ?_
    refine a_zreturn dX6_write_10 rfl (by omega) ?_
    exact ⟨rfl, rfl, rfl, Or.inr ⟨by omega, rfl, rfl⟩⟩
set_option maxRecDepth 100000 in
set_option maxHeartbeats 4000000 in
theorem c_entry (hz : stZ z) (hR : stR hr) (hN : gN G) {i w : Int} (hs : 0 ≤ hi 28 1 ∧ hi 28 1 ≤ 100) : a_ct G mX6_entry (d + 1) [vR 28, vI i, vI w] z hr hi hl (Qs z hr hi hl (fun r => (((0 ≤ i ∧ i < hi 28 1) ∧ 0 ≤ w ∧ w ≤ 3) ∧ r = some (vI (hi 29 (4 * i + w)))) ∨ (¬ ((0 ≤ i ∧ i < hi 28 1) ∧ 0 ≤ w ∧ w ≤ 3) ∧ r = some (vI (-1))))) := by
  refine a_ct_of rfl (Nat.le_of_ble_eq_true rfl) ?_
  refine a_iload_n (n := 1) dX6_entry_0 rfl rfl ?_
  refine a_iconst (n := 2) dX6_entry_1 rfl ⟨by decide, by decide⟩ ?_
  refine a_aload_n (n := 3) dX6_entry_2 rfl rfl ?_
  refine a_getI (n := 6) dX6_entry_3 rfl fX6_15 (s28 hz) ?_
  refine a_iconst (n := 7) dX6_entry_6 rfl ⟨by decide, by decide⟩ ?_
  refine a_isub (n := 8) dX6_entry_7 rfl ⟨by omega, by omega⟩ ?_
  refine a_callSN (M2 := mX9_within) (n := 11) dX6_entry_8 rfl (c_within (d := d)) kX9_within (nX6_19 hN) sX9_within (by omega) rfl (Nat.le_of_ble_eq_true rfl) (fun q8 z8 hr8 hi8 hl8 h8 => ?_)
  obtain ⟨e18, e28, e38, e48, b8, rfl, hb8⟩ := h8
  obtain rfl := e18.symm
  obtain rfl := e28.symm
  obtain rfl := e38.symm
  obtain rfl := e48.symm
  show a_wp G _ _ _ _ (vI b8 :: _) _ _ _ _ _
  refine a_if_eq (t := 23) (n := 14) dX6_entry_11 rfl rfl (fun c11 => ?_) (fun c11 => ?_)
  · replace hb8 := isB_f hb8 (by omega)
    refine a_iconst (n := 24) dX6_entry_23 rfl ⟨by decide, by decide⟩ ?_
    refine a_ireturn dX6_entry_24 rfl ?_
    exact ⟨rfl, rfl, rfl, rfl, Or.inr ⟨by omega, rfl⟩⟩
  · replace hb8 := isB_t hb8 (by omega)
    refine a_iload_n (n := 15) dX6_entry_14 rfl rfl ?_
    refine a_iconst (n := 16) dX6_entry_15 rfl ⟨by decide, by decide⟩ ?_
    refine a_iconst (n := 17) dX6_entry_16 rfl ⟨by decide, by decide⟩ ?_
    refine a_callSN (M2 := mX9_within) (n := 20) dX6_entry_17 rfl (c_within (d := d)) kX9_within (nX6_19 hN) sX9_within (by omega) rfl (Nat.le_of_ble_eq_true rfl) (fun q17 z17 hr17 hi17 hl17 h17 => ?_)
    obtain ⟨e117, e217, e317, e417, b17, rfl, hb17⟩ := h17
    obtain rfl := e117.symm
    obtain rfl := e217.symm
    obtain rfl := e317.symm
    obtain rfl := e417.symm
    show a_wp G _ _ _ _ (vI b17 :: _) _ _ _ _ _
    refine a_if_ne (t := 25) (n := 23) dX6_entry_20 rfl rfl (fun c20 => ?_) (fun c20 => ?_)
    · replace hb17 := isB_t hb17 (by omega)
      refine a_aload_n (n := 26) dX6_entry_25 rfl rfl ?_
      refine a_getR (n := 29) dX6_entry_26 rfl fX6_11 (s28 hz) (r28_0 hR) ?_
      refine a_iconst (n := 30) dX6_entry_29 rfl ⟨by decide, by decide⟩ ?_
      refine a_iload_n (n := 31) dX6_entry_30 rfl rfl ?_
      refine a_imul (n := 32) dX6_entry_31 rfl ⟨by omega, by omega⟩ ?_
      refine a_iload_n (n := 33) dX6_entry_32 rfl rfl ?_
      refine a_iadd (n := 34) dX6_entry_33 rfl ⟨by omega, by omega⟩ ?_
      refine a_iald (n := 35) dX6_entry_34 rfl (s29 hz) (by omega) (by omega) ?_
      refine a_ireturn dX6_entry_35 rfl ?_
      exact ⟨rfl, rfl, rfl, rfl, Or.inl ⟨by omega, rfl⟩⟩
    · replace hb17 := isB_f hb17 (by omega)
      refine a_iconst (n := 24) dX6_entry_23 rfl ⟨by decide, by decide⟩ ?_
      refine a_ireturn dX6_entry_24 rfl ?_
      exact ⟨rfl, rfl, rfl, rfl, Or.inr ⟨by omega, rfl⟩⟩
set_option maxRecDepth 100000 in
set_option maxHeartbeats 4000000 in
theorem c_sent (hz : stZ z) (hR : stR hr) (hN : gN G) {i w : Int} (hs : 0 ≤ hi 28 1 ∧ hi 28 1 ≤ 100) : a_ct G mX9_sent (d + 2) [vR 0, vI i, vI w] z hr hi hl (Qs z hr hi hl (fun r => (((0 ≤ i ∧ i < hi 28 1) ∧ 0 ≤ w ∧ w ≤ 3) ∧ r = some (vI (hi 29 (4 * i + w)))) ∨ (¬ ((0 ≤ i ∧ i < hi 28 1) ∧ 0 ≤ w ∧ w ≤ 3) ∧ r = some (vI (-1))))) := by
  refine a_ct_of rfl (Nat.le_of_ble_eq_true rfl) ?_
  refine a_aload_n (n := 1) dX9_sent_0 rfl rfl ?_
  refine a_getR (n := 4) dX9_sent_1 rfl fX9_52 (s0 hz) (r0_6 hR) ?_
  refine a_iload_n (n := 5) dX9_sent_4 rfl rfl ?_
  refine a_iload_n (n := 6) dX9_sent_5 rfl rfl ?_
  refine a_callV (M2 := mX6_entry) (n := 9) dX9_sent_6 rfl (c_entry (d := d) hz hR hN hs) kX6_entry lX9_222 iX6_entry eX6_entry (by decide) (by omega) (s28 hz) rfl (Nat.le_of_ble_eq_true rfl) (fun q6 z6 hr6 hi6 hl6 h6 => ?_)
  obtain ⟨e16, e26, e36, e46, h6⟩ := h6
  obtain rfl := e16.symm
  obtain rfl := e26.symm
  obtain rfl := e36.symm
  obtain rfl := e46.symm
  rcases h6 with ⟨k6, rfl⟩ | ⟨k6, rfl⟩
  · show a_wp G _ _ _ _ (vI _ :: _) _ _ _ _ _
    refine a_ireturn dX9_sent_9 rfl ?_
    exact ⟨rfl, rfl, rfl, rfl, Or.inl ⟨k6, rfl⟩⟩
  · show a_wp G _ _ _ _ (vI _ :: _) _ _ _ _ _
    refine a_ireturn dX9_sent_9 rfl ?_
    exact ⟨rfl, rfl, rfl, rfl, Or.inr ⟨k6, rfl⟩⟩
def cBy (v k : Int) : Int := b_and (b_l2i (b_lushr v k)) 255
def cLay1 (hi : aI) (c : Int) : aI := if (c = 10 ∨ (32 ≤ c ∧ c ≤ 126)) ∧ hi 15 1 < 600 then up2 (up2 hi 16 (hi 15 1) c) 15 1 (hi 15 1 + 1) else hi
def cLayN (v : Int) : Nat → aI → aI
  | 0, hi => hi
  | n + 1, hi => cLayN v n (cLay1 hi (cBy v (8 * n)))
theorem cLay1_b {hi : aI} {c : Int} (h : 0 ≤ hi 15 1 ∧ hi 15 1 ≤ 600) : 0 ≤ (cLay1 hi c) 15 1 ∧ (cLay1 hi c) 15 1 ≤ 600 := by
  unfold cLay1
  split
  · rw [up2_s]; omega
  · exact h
theorem cLayN_b {v : Int} (n : Nat) : ∀ {hi : aI}, 0 ≤ hi 15 1 ∧ hi 15 1 ≤ 600 → 0 ≤ (cLayN v n hi) 15 1 ∧ (cLayN v n hi) 15 1 ≤ 600 := by
  induction n with
  | zero => intro hi h; exact h
  | succ n ih => intro hi h; exact ih (cLay1_b h)
set_option maxRecDepth 100000 in
set_option maxHeartbeats 4000000 in
theorem c_takeBytes_l (hz : stZ z) (hR : stR hr) (hN : gN G) {v : Int} (n : Nat) : n ≤ 8 → ∀ (hi : aI), 0 ≤ hi 15 1 ∧ hi 15 1 ≤ 600 → ∀ (k : Int) (x x5 : Option aV), k = 8 * n - 8 → a_wp G mX7_takeBytes (d + 1) 3 [some (vR 15), some (vJ v), none, some (vI k), x, x5] [] z hr hi hl (fun r z' hr' hi' hl' => z' = z ∧ hr' = hr ∧ hl' = hl ∧ r = none ∧ hi' = cLayN v n hi) := by
  induction n with
  | zero =>
    intro hn8 hi ht k x x5 hk
    refine a_iload_n (n := 4) dX7_takeBytes_3 rfl rfl ?_
    refine a_if_lt (t := 85) (n := 7) dX7_takeBytes_4 rfl rfl (fun c4 => ?_) (fun c4 => ?_)
    · refine a_return dX7_takeBytes_85 rfl ?_
      exact ⟨rfl, rfl, rfl, rfl, rfl⟩
    · omega
  | succ n ih =>
    intro hn8 hi ht k x x5 hk
    obtain rfl : k = 8 * n := by omega
    refine a_iload_n (n := 4) dX7_takeBytes_3 rfl rfl ?_
    refine a_if_lt (t := 85) (n := 7) dX7_takeBytes_4 rfl rfl (fun c4 => ?_) (fun c4 => ?_)
    · omega
    · refine a_lload_n (n := 8) dX7_takeBytes_7 rfl rfl ?_
      refine a_iload_n (n := 9) dX7_takeBytes_8 rfl rfl ?_
      refine a_lushr (n := 10) dX7_takeBytes_9 rfl ?_
      refine a_l2i (n := 11) dX7_takeBytes_10 rfl ?_
      refine a_sipush (n := 14) dX7_takeBytes_11 rfl ⟨by decide, by decide⟩ (by decide) ?_
      refine a_iand (n := 15) dX7_takeBytes_14 rfl ?_
      refine b_istore (n := 17) dX7_takeBytes_15 rfl (by decide) rfl ?_
      show a_wp G _ _ _ [some (vR 15), some (vJ v), none, some (vI (8 * n)), some (vI (cBy v (8 * n))), x5] _ _ _ _ _ _
      refine a_iload (n := 19) dX7_takeBytes_17 rfl rfl ?_
      refine a_bipush (n := 21) dX7_takeBytes_19 rfl ⟨by decide, by decide⟩ (by decide) ?_
      refine a_icmp_eq (t := 36) (n := 24) dX7_takeBytes_21 rfl rfl (fun c21 => ?_) (fun c21 => ?_)
      · refine a_iconst (n := 37) dX7_takeBytes_36 rfl ⟨by decide, by decide⟩ ?_
        refine a_goto (t := 41) dX7_takeBytes_37 rfl ?_
        refine b_istore (n := 43) dX7_takeBytes_41 rfl (by decide) rfl ?_
        refine a_iload (n := 45) dX7_takeBytes_43 rfl rfl ?_
        refine a_if_eq (t := 79) (n := 48) dX7_takeBytes_45 rfl rfl (fun c45 => ?_) (fun c45 => ?_)
        · omega
        · refine a_aload_n (n := 49) dX7_takeBytes_48 rfl rfl ?_
          refine a_getI (n := 52) dX7_takeBytes_49 rfl fX7_19 (s15 hz) ?_
          refine a_sipush (n := 55) dX7_takeBytes_52 rfl ⟨by decide, by decide⟩ (by decide) ?_
          refine a_icmp_ge (t := 79) (n := 58) dX7_takeBytes_55 rfl rfl (fun c55 => ?_) (fun c55 => ?_)
          · refine b_iinc (n := 82) dX7_takeBytes_79 rfl (by decide) rfl rfl ⟨by omega, by omega⟩ ?_
            refine a_goto (t := 3) dX7_takeBytes_82 rfl ?_
            have e2 := cLay1_b (c := cBy v (8 * n)) ht
            rw [cLayN]
            rw [cLay1, if_neg (by omega)] at e2 ⊢
            exact ih (by omega) _ e2 (8 * n + -8) _ _ (by omega)
          · refine a_aload_n (n := 59) dX7_takeBytes_58 rfl rfl ?_
            refine a_getR (n := 62) dX7_takeBytes_59 rfl fX7_9 (s15 hz) (r15_0 hR) ?_
            refine a_aload_n (n := 63) dX7_takeBytes_62 rfl rfl ?_
            refine a_getI (n := 66) dX7_takeBytes_63 rfl fX7_19 (s15 hz) ?_
            refine a_iload (n := 68) dX7_takeBytes_66 rfl rfl ?_
            refine a_iast (n := 69) dX7_takeBytes_68 rfl (s16 hz) (by omega) (by omega) ?_
            refine a_aload_n (n := 70) dX7_takeBytes_69 rfl rfl ?_
            refine a_dup (n := 71) dX7_takeBytes_70 rfl rfl ?_
            refine a_getI (n := 74) dX7_takeBytes_71 rfl fX7_19 (s15 hz) ?_
            try simp only [up2_eq, Nat.reduceEqDiff, Int.reduceEq, Int.reduceNeg, and_true, true_and, and_false, false_and, and_self, if_true, if_false, ite_true, ite_false, reduceIte, eq_self]
            refine a_iconst (n := 75) dX7_takeBytes_74 rfl ⟨by decide, by decide⟩ ?_
            refine a_iadd (n := 76) dX7_takeBytes_75 rfl ⟨by omega, by omega⟩ ?_
            refine a_putI (n := 79) dX7_takeBytes_76 rfl fX7_19 rfl (s15 hz) (Or.inl rfl) ?_
            refine b_iinc (n := 82) dX7_takeBytes_79 rfl (by decide) rfl rfl ⟨by omega, by omega⟩ ?_
            refine a_goto (t := 3) dX7_takeBytes_82 rfl ?_
            have e2 := cLay1_b (c := cBy v (8 * n)) ht
            rw [cLayN]
            rw [cLay1, if_pos ⟨by omega, by omega⟩] at e2 ⊢
            exact ih (by omega) _ e2 (8 * n + -8) _ _ (by omega)
      · refine a_iload (n := 26) dX7_takeBytes_24 rfl rfl ?_
        refine a_bipush (n := 28) dX7_takeBytes_26 rfl ⟨by decide, by decide⟩ (by decide) ?_
        refine a_bipush (n := 30) dX7_takeBytes_28 rfl ⟨by decide, by decide⟩ (by decide) ?_
        refine a_callSN (M2 := mX9_within) (n := 33) dX7_takeBytes_30 rfl (c_within (d := d)) kX9_within (nX7_15 hN) sX9_within (by omega) rfl (Nat.le_of_ble_eq_true rfl) (fun q30 z30 hr30 hi30 hl30 h30 => ?_)
        obtain ⟨e130, e230, e330, e430, b30, rfl, hb30⟩ := h30
        obtain rfl := e130.symm
        obtain rfl := e230.symm
        obtain rfl := e330.symm
        obtain rfl := e430.symm
        show a_wp G _ _ _ _ (vI b30 :: _) _ _ _ _ _
        refine a_if_eq (t := 40) (n := 36) dX7_takeBytes_33 rfl rfl (fun c33 => ?_) (fun c33 => ?_)
        · replace hb30 := isB_f hb30 (by omega)
          refine a_iconst (n := 41) dX7_takeBytes_40 rfl ⟨by decide, by decide⟩ ?_
          refine b_istore (n := 43) dX7_takeBytes_41 rfl (by decide) rfl ?_
          refine a_iload (n := 45) dX7_takeBytes_43 rfl rfl ?_
          refine a_if_eq (t := 79) (n := 48) dX7_takeBytes_45 rfl rfl (fun c45 => ?_) (fun c45 => ?_)
          · refine b_iinc (n := 82) dX7_takeBytes_79 rfl (by decide) rfl rfl ⟨by omega, by omega⟩ ?_
            refine a_goto (t := 3) dX7_takeBytes_82 rfl ?_
            have e2 := cLay1_b (c := cBy v (8 * n)) ht
            rw [cLayN]
            rw [cLay1, if_neg (by omega)] at e2 ⊢
            exact ih (by omega) _ e2 (8 * n + -8) _ _ (by omega)
          · omega
        · replace hb30 := isB_t hb30 (by omega)
          refine a_iconst (n := 37) dX7_takeBytes_36 rfl ⟨by decide, by decide⟩ ?_
          refine a_goto (t := 41) dX7_takeBytes_37 rfl ?_
          refine b_istore (n := 43) dX7_takeBytes_41 rfl (by decide) rfl ?_
          refine a_iload (n := 45) dX7_takeBytes_43 rfl rfl ?_
          refine a_if_eq (t := 79) (n := 48) dX7_takeBytes_45 rfl rfl (fun c45 => ?_) (fun c45 => ?_)
          · omega
          · refine a_aload_n (n := 49) dX7_takeBytes_48 rfl rfl ?_
            refine a_getI (n := 52) dX7_takeBytes_49 rfl fX7_19 (s15 hz) ?_
            refine a_sipush (n := 55) dX7_takeBytes_52 rfl ⟨by decide, by decide⟩ (by decide) ?_
            refine a_icmp_ge (t := 79) (n := 58) dX7_takeBytes_55 rfl rfl (fun c55 => ?_) (fun c55 => ?_)
            · refine b_iinc (n := 82) dX7_takeBytes_79 rfl (by decide) rfl rfl ⟨by omega, by omega⟩ ?_
              refine a_goto (t := 3) dX7_takeBytes_82 rfl ?_
              have e2 := cLay1_b (c := cBy v (8 * n)) ht
              rw [cLayN]
              rw [cLay1, if_neg (by omega)] at e2 ⊢
              exact ih (by omega) _ e2 (8 * n + -8) _ _ (by omega)
            · refine a_aload_n (n := 59) dX7_takeBytes_58 rfl rfl ?_
              refine a_getR (n := 62) dX7_takeBytes_59 rfl fX7_9 (s15 hz) (r15_0 hR) ?_
              refine a_aload_n (n := 63) dX7_takeBytes_62 rfl rfl ?_
              refine a_getI (n := 66) dX7_takeBytes_63 rfl fX7_19 (s15 hz) ?_
              refine a_iload (n := 68) dX7_takeBytes_66 rfl rfl ?_
              refine a_iast (n := 69) dX7_takeBytes_68 rfl (s16 hz) (by omega) (by omega) ?_
              refine a_aload_n (n := 70) dX7_takeBytes_69 rfl rfl ?_
              refine a_dup (n := 71) dX7_takeBytes_70 rfl rfl ?_
              refine a_getI (n := 74) dX7_takeBytes_71 rfl fX7_19 (s15 hz) ?_
              try simp only [up2_eq, Nat.reduceEqDiff, Int.reduceEq, Int.reduceNeg, and_true, true_and, and_false, false_and, and_self, if_true, if_false, ite_true, ite_false, reduceIte, eq_self]
              refine a_iconst (n := 75) dX7_takeBytes_74 rfl ⟨by decide, by decide⟩ ?_
              refine a_iadd (n := 76) dX7_takeBytes_75 rfl ⟨by omega, by omega⟩ ?_
              refine a_putI (n := 79) dX7_takeBytes_76 rfl fX7_19 rfl (s15 hz) (Or.inl rfl) ?_
              refine b_iinc (n := 82) dX7_takeBytes_79 rfl (by decide) rfl rfl ⟨by omega, by omega⟩ ?_
              refine a_goto (t := 3) dX7_takeBytes_82 rfl ?_
              have e2 := cLay1_b (c := cBy v (8 * n)) ht
              rw [cLayN]
              rw [cLay1, if_pos ⟨by omega, by omega⟩] at e2 ⊢
              exact ih (by omega) _ e2 (8 * n + -8) _ _ (by omega)
set_option maxRecDepth 100000 in
set_option maxHeartbeats 4000000 in
theorem c_takeBytes (hz : stZ z) (hR : stR hr) (hN : gN G) {v : Int} (ht : 0 ≤ hi 15 1 ∧ hi 15 1 ≤ 600) : a_ct G mX7_takeBytes (d + 1) [vR 15, vJ v] z hr hi hl (fun r z' hr' hi' hl' => z' = z ∧ hr' = hr ∧ hl' = hl ∧ r = none ∧ hi' = cLayN v 8 hi) := by
  refine a_ct_of rfl (Nat.le_of_ble_eq_true rfl) ?_
  refine a_bipush (n := 2) dX7_takeBytes_0 rfl ⟨by decide, by decide⟩ (by decide) ?_
  refine b_istore_n (n := 3) dX7_takeBytes_2 rfl (by decide) rfl ?_
  exact c_takeBytes_l hz hR hN 8 (by decide) hi ht 56 none none (by decide)
set_option maxRecDepth 100000 in
set_option maxHeartbeats 4000000 in
theorem c_feed (hz : stZ z) (hR : stR hr) (hN : gN G) {a b c : Int} (ht : 0 ≤ hi 15 1 ∧ hi 15 1 ≤ 600) : a_ct G mX9_feed (d + 2) [vR 0, vJ a, vJ b, vJ c] z hr hi hl (fun r z' hr' hi' hl' => z' = z ∧ hr' = hr ∧ hl' = hl ∧ hi' = cLayN c 8 (cLayN b 8 (cLayN a 8 hi)) ∧ r = some (vI (hi' 15 1))) := by
  refine a_ct_of rfl (Nat.le_of_ble_eq_true rfl) ?_
  refine a_aload_n (n := 1) dX9_feed_0 rfl rfl ?_
  refine a_getR (n := 4) dX9_feed_1 rfl fX9_38 (s0 hz) (r0_4 hR) ?_
  refine a_lload_n (n := 5) dX9_feed_4 rfl rfl ?_
  refine a_callV (M2 := mX7_takeBytes) (n := 8) dX9_feed_5 rfl (c_takeBytes (d := d) hz hR hN ht) kX7_takeBytes lX9_189 iX7_takeBytes eX7_takeBytes (by decide) (by omega) (s15 hz) rfl (Nat.le_of_ble_eq_true rfl) (fun q5 z5 hr5 hi5 hl5 h5 => ?_)
  obtain ⟨e15, e25, e35, rfl, rfl⟩ := h5
  obtain rfl := e15.symm
  obtain rfl := e25.symm
  obtain rfl := e35.symm
  show a_wp G _ _ _ _ [] _ _ _ _ _
  refine a_aload_n (n := 9) dX9_feed_8 rfl rfl ?_
  refine a_getR (n := 12) dX9_feed_9 rfl fX9_38 (s0 hz) (r0_4 hR) ?_
  refine a_lload_n (n := 13) dX9_feed_12 rfl rfl ?_
  refine a_callV (M2 := mX7_takeBytes) (n := 16) dX9_feed_13 rfl (c_takeBytes (d := d) hz hR hN (cLayN_b 8 ht)) kX7_takeBytes lX9_189 iX7_takeBytes eX7_takeBytes (by decide) (by omega) (s15 hz) rfl (Nat.le_of_ble_eq_true rfl) (fun q13 z13 hr13 hi13 hl13 h13 => ?_)
  obtain ⟨e113, e213, e313, rfl, rfl⟩ := h13
  obtain rfl := e113.symm
  obtain rfl := e213.symm
  obtain rfl := e313.symm
  show a_wp G _ _ _ _ [] _ _ _ _ _
  refine a_aload_n (n := 17) dX9_feed_16 rfl rfl ?_
  refine a_getR (n := 20) dX9_feed_17 rfl fX9_38 (s0 hz) (r0_4 hR) ?_
  refine a_lload (n := 22) dX9_feed_20 rfl rfl ?_
  refine a_callV (M2 := mX7_takeBytes) (n := 25) dX9_feed_22 rfl (c_takeBytes (d := d) hz hR hN (cLayN_b 8 (cLayN_b 8 ht))) kX7_takeBytes lX9_189 iX7_takeBytes eX7_takeBytes (by decide) (by omega) (s15 hz) rfl (Nat.le_of_ble_eq_true rfl) (fun q22 z22 hr22 hi22 hl22 h22 => ?_)
  obtain ⟨e122, e222, e322, rfl, rfl⟩ := h22
  obtain rfl := e122.symm
  obtain rfl := e222.symm
  obtain rfl := e322.symm
  show a_wp G _ _ _ _ [] _ _ _ _ _
  refine a_aload_n (n := 26) dX9_feed_25 rfl rfl ?_
  refine a_getR (n := 29) dX9_feed_26 rfl fX9_38 (s0 hz) (r0_4 hR) ?_
  refine a_getI (n := 32) dX9_feed_29 rfl fX9_193 (s15 hz) ?_
  refine a_ireturn dX9_feed_32 rfl ?_
  exact ⟨rfl, rfl, rfl, rfl, rfl⟩
end C2
