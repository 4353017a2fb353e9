section C34
variable {G : aG} {d : Nat} {z : aZ} {hr : aR} {hi hl : aI}
theorem cpN : Cond.native arraycopyName ∈ lw_tbl := List.mem_append_right _ (List.mem_of_getElem? (i := 349) (by decide +kernel))
theorem cpS : Cond.static arraycopyName ∈ lw_tbl := List.mem_append_right _ (List.mem_of_getElem? (i := 348) (by decide +kernel))
theorem cpI : Cond.initialized "java/lang/System" ∈ lw_tbl := List.mem_append_right _ (List.mem_of_getElem? (i := 11) (by decide +kernel))
theorem lX3_51 : Cond.methodLink RX3 51 arraycopyName ∈ lw_tbl := List.mem_append_right _ (List.mem_of_getElem? (i := 347) (by decide +kernel))
set_option maxRecDepth 100000 in
set_option maxHeartbeats 4000000 in
theorem c_setMarks {a b : Nat} {row x y : Int} (ha : a_is z a 3 17) (hm : hr a 7 = some b) (hb : a_is z b 20 8) (hrow : 0 ≤ row ∧ row ≤ 3) : a_ct G mX3_setMarks (d + 0) [vR a, vI row, vI x, vI y] z hr hi hl (fun r z' hr' hi' hl' => z' = z ∧ hr' = hr ∧ hl' = hl ∧ r = none ∧ hi' = up2 (up2 hi b (2 * row) x) b (2 * row + 1) y) := by
  refine a_ct_of rfl (Nat.le_of_ble_eq_true rfl) ?_
  refine a_aload_n (n := 1) dX3_setMarks_0 rfl rfl ?_
  refine a_getO (n := 4) dX3_setMarks_1 rfl fX3_9 ha ?_
  rw [hm]
  refine a_iconst (n := 5) dX3_setMarks_4 rfl ⟨by decide, by decide⟩ ?_
  refine a_iload_n (n := 6) dX3_setMarks_5 rfl rfl ?_
  refine a_imul (n := 7) dX3_setMarks_6 rfl ⟨by omega, by omega⟩ ?_
  refine a_iload_n (n := 8) dX3_setMarks_7 rfl rfl ?_
  refine a_iast (n := 9) dX3_setMarks_8 rfl hb (by omega) (by omega) ?_
  refine a_aload_n (n := 10) dX3_setMarks_9 rfl rfl ?_
  refine a_getO (n := 13) dX3_setMarks_10 rfl fX3_9 ha ?_
  rw [hm]
  refine a_iconst (n := 14) dX3_setMarks_13 rfl ⟨by decide, by decide⟩ ?_
  refine a_iload_n (n := 15) dX3_setMarks_14 rfl rfl ?_
  refine a_imul (n := 16) dX3_setMarks_15 rfl ⟨by omega, by omega⟩ ?_
  refine a_iconst (n := 17) dX3_setMarks_16 rfl ⟨by decide, by decide⟩ ?_
  refine a_iadd (n := 18) dX3_setMarks_17 rfl ⟨by omega, by omega⟩ ?_
  refine a_iload_n (n := 19) dX3_setMarks_18 rfl rfl ?_
  refine a_iast (n := 20) dX3_setMarks_19 rfl hb (by omega) (by omega) ?_
  refine a_return dX3_setMarks_20 rfl ?_
  exact ⟨rfl, rfl, rfl, rfl, rfl⟩
set_option maxRecDepth 100000 in
set_option maxHeartbeats 4000000 in
theorem c_mark (hz : stZ z) (hR : stR hr) (hn : 0 ≤ hi 0 9 ∧ hi 0 9 ≤ 40) (hW : cP z hr hi) {p row x y : Int} : a_ct G mX9_mark (d + 2) [vR 0, vI p, vI row, vI x, vI y] z hr hi hl (fun r z' hr' hi' hl' => z' = z ∧ hr' = hr ∧ hl' = hl ∧ ((((0 ≤ p ∧ p < hi 0 9) ∧ (0 ≤ row ∧ row ≤ 3) ∧ (0 ≤ x ∧ x ≤ 9) ∧ (0 ≤ y ∧ y ≤ 9)) ∧ r = some (vI 1) ∧ hi' = up2 (up2 hi (mC hr p) (2 * row) (if y < x then y else x)) (mC hr p) (2 * row + 1) (if x < y then y else x)) ∨ (¬ ((0 ≤ p ∧ p < hi 0 9) ∧ (0 ≤ row ∧ row ≤ 3) ∧ (0 ≤ x ∧ x ≤ 9) ∧ (0 ≤ y ∧ y ≤ 9)) ∧ r = some (vI 0) ∧ hi' = hi))) := by
  refine a_ct_of rfl (Nat.le_of_ble_eq_true rfl) ?_
  refine a_aload_n (n := 1) dX9_mark_0 rfl rfl ?_
  refine a_iload_n (n := 2) dX9_mark_1 rfl rfl ?_
  refine a_callV (M2 := mX9_plantAt) (n := 5) dX9_mark_2 rfl (c_plantAt (d := d + 0) hz hR hn) kX9_plantAt lX9_89 iX9_plantAt eX9_plantAt (by decide) (by omega) (s0 hz) rfl (Nat.le_of_ble_eq_true rfl) (fun q2 z2 hr2 hi2 hl2 h2 => ?_)
  obtain ⟨e12, e22, e32, e42, h2⟩ := h2
  obtain rfl := e12.symm
  obtain rfl := e22.symm
  obtain rfl := e32.symm
  obtain rfl := e42.symm
  rcases h2 with ⟨hp2, rfl⟩ | ⟨hp2, rfl⟩
  · obtain ⟨f12, f22, f32, f42⟩ := hW.at_ hp2.1 hp2.2
    rw [f12]
    show a_wp G _ _ _ _ (vR (pC hr p) :: _) _ _ _ _ _
    refine b_astore (n := 7) dX9_mark_5 rfl (by decide) rfl ?_
    refine a_aload (n := 9) dX9_mark_7 rfl rfl ?_
    refine a_ifnull (t := 36) (n := 12) dX9_mark_9 rfl rfl (fun c9 => ?_) (fun p9 c9 => ?_)
    · cases c9
    · refine a_iload_n (n := 13) dX9_mark_12 rfl rfl ?_
      refine a_iconst (n := 14) dX9_mark_13 rfl ⟨by decide, by decide⟩ ?_
      refine a_iconst (n := 15) dX9_mark_14 rfl ⟨by decide, by decide⟩ ?_
      refine a_callS (M2 := mX9_within) (n := 18) dX9_mark_15 rfl (c_within (d := d + 1)) kX9_within lX9_67 sX9_within (by omega) rfl (Nat.le_of_ble_eq_true rfl) (fun q15 z15 hr15 hi15 hl15 h15 => ?_)
      obtain ⟨e115, e215, e315, e415, b15, rfl, hb15⟩ := h15
      obtain rfl := e115.symm
      obtain rfl := e215.symm
      obtain rfl := e315.symm
      obtain rfl := e415.symm
      show a_wp G _ _ _ _ (vI b15 :: _) _ _ _ _ _
      refine a_if_eq (t := 36) (n := 21) dX9_mark_18 rfl rfl (fun c18 => ?_) (fun c18 => ?_)
      · replace hb15 := isB_f hb15 (by omega)
        refine a_iconst (n := 37) dX9_mark_36 rfl ⟨by decide, by decide⟩ ?_
        refine a_zreturn dX9_mark_37 rfl (by omega) ?_
        exact ⟨rfl, rfl, rfl, Or.inr ⟨fun q => hb15 q.2.1, rfl, rfl⟩⟩
      · replace hb15 := isB_t hb15 (by omega)
        refine a_iload_n (n := 22) dX9_mark_21 rfl rfl ?_
        refine a_callS (M2 := mX9_isDigit) (n := 25) dX9_mark_22 rfl (c_isDigit (d := d)) kX9_isDigit lX9_99 sX9_isDigit (by omega) rfl (Nat.le_of_ble_eq_true rfl) (fun q22 z22 hr22 hi22 hl22 h22 => ?_)
        obtain ⟨e122, e222, e322, e422, b22, rfl, hb22⟩ := h22
        obtain rfl := e122.symm
        obtain rfl := e222.symm
        obtain rfl := e322.symm
        obtain rfl := e422.symm
        show a_wp G _ _ _ _ (vI b22 :: _) _ _ _ _ _
        refine a_if_eq (t := 36) (n := 28) dX9_mark_25 rfl rfl (fun c25 => ?_) (fun c25 => ?_)
        · replace hb22 := isB_f hb22 (by omega)
          refine a_iconst (n := 37) dX9_mark_36 rfl ⟨by decide, by decide⟩ ?_
          refine a_zreturn dX9_mark_37 rfl (by omega) ?_
          exact ⟨rfl, rfl, rfl, Or.inr ⟨fun q => hb22 q.2.2.1, rfl, rfl⟩⟩
        · replace hb22 := isB_t hb22 (by omega)
          refine a_iload (n := 30) dX9_mark_28 rfl rfl ?_
          refine a_callS (M2 := mX9_isDigit) (n := 33) dX9_mark_30 rfl (c_isDigit (d := d)) kX9_isDigit lX9_99 sX9_isDigit (by omega) rfl (Nat.le_of_ble_eq_true rfl) (fun q30 z30 hr30 hi30 hl30 h30 => ?_)
          obtain ⟨e130, e230, e330, e430, b30, rfl, hb30⟩ := h30
          obtain rfl := e130.symm
          obtain rfl := e230.symm
          obtain rfl := e330.symm
          obtain rfl := e430.symm
          show a_wp G _ _ _ _ (vI b30 :: _) _ _ _ _ _
          refine a_if_ne (t := 38) (n := 36) dX9_mark_33 rfl rfl (fun c33 => ?_) (fun c33 => ?_)
          · replace hb30 := isB_t hb30 (by omega)
            refine a_aload (n := 40) dX9_mark_38 rfl rfl ?_
            refine a_iload_n (n := 41) dX9_mark_40 rfl rfl ?_
            refine a_iload_n (n := 42) dX9_mark_41 rfl rfl ?_
            refine a_iload (n := 44) dX9_mark_42 rfl rfl ?_
            refine a_mmin (n := 47) dX9_mark_44 rfl lX9_102 (by omega) (Nat.le_of_ble_eq_true rfl) ?_
            refine a_iload_n (n := 48) dX9_mark_47 rfl rfl ?_
            refine a_iload (n := 50) dX9_mark_48 rfl rfl ?_
            refine a_mmax (n := 53) dX9_mark_50 rfl lX9_108 (by omega) (Nat.le_of_ble_eq_true rfl) ?_
            refine a_callV (M2 := mX3_setMarks) (n := 56) dX9_mark_53 rfl (c_setMarks (d := d + 1) f22 f32 f42 hb15) kX3_setMarks lX9_111 iX3_setMarks eX3_setMarks (by decide) (by omega) f22 rfl (Nat.le_of_ble_eq_true rfl) (fun q53 z53 hr53 hi53 hl53 h53 => ?_)
            obtain ⟨e153, e253, e353, rfl, rfl⟩ := h53
            obtain rfl := e153.symm
            obtain rfl := e253.symm
            obtain rfl := e353.symm
            show a_wp G _ _ _ _ [] _ _ _ _ _
            refine a_iconst (n := 57) dX9_mark_56 rfl ⟨by decide, by decide⟩ ?_
            refine a_zreturn dX9_mark_57 rfl (by omega) ?_
            exact ⟨rfl, rfl, rfl, Or.inl ⟨⟨hp2, hb15, hb22, hb30⟩, rfl, rfl⟩⟩
          · replace hb30 := isB_f hb30 (by omega)
            refine a_iconst (n := 37) dX9_mark_36 rfl ⟨by decide, by decide⟩ ?_
            refine a_zreturn dX9_mark_37 rfl (by omega) ?_
            exact ⟨rfl, rfl, rfl, Or.inr ⟨fun q => hb30 q.2.2.2, rfl, rfl⟩⟩
  · show a_wp G _ _ _ _ (vO none :: _) _ _ _ _ _
    refine b_astore (n := 7) dX9_mark_5 rfl (by decide) rfl ?_
    refine a_aload (n := 9) dX9_mark_7 rfl rfl ?_
    refine a_ifnull (t := 36) (n := 12) dX9_mark_9 rfl rfl (fun c9 => ?_) (fun p9 c9 => ?_)
    · refine a_iconst (n := 37) dX9_mark_36 rfl ⟨by decide, by decide⟩ ?_
      refine a_zreturn dX9_mark_37 rfl (by omega) ?_
      exact ⟨rfl, rfl, rfl, Or.inr ⟨fun q => hp2 q.1, rfl, rfl⟩⟩
    · cases c9
set_option maxRecDepth 100000 in
set_option maxHeartbeats 4000000 in
theorem c_initCut {a c mm : Nat} {n m : Int} (ha : a_is z a 3 17) (hc : a_is z c 3 17) (hcm : hr c 7 = some mm) (hmm : a_is z mm 20 8) (hca : c ≠ a) (hz1 : z.1 < 900000000) : a_ct G mX3_init_ (d + 1) [vR a, vI n, vI 2, vR c, vO none, vI m] z hr hi hl (fun r z' hr' hi' hl' => z' = a_al z 20 8 ∧ hr' = ofR (cl0 hr z.1 none) a z.1 c none ∧ hl' = cl0 hl z.1 0 ∧ r = none ∧ hi' = cpy (ofI (cl0 hi z.1 0) a n 2 (hi c 4) (hi c 5) 1 m) mm z.1 8) := by
  refine a_ct_of rfl (Nat.le_of_ble_eq_true rfl) ?_
  refine a_aload_n (n := 1) dX3_init__0 rfl rfl ?_
  refine a_objInit (n := 4) dX3_init__1 rfl oX3_3 (by omega) ha.1 (Nat.le_of_ble_eq_true rfl) ?_
  refine a_aload_n (n := 5) dX3_init__4 rfl rfl ?_
  refine a_bipush (n := 7) dX3_init__5 rfl ⟨by decide, by decide⟩ (by decide) ?_
  refine a_newaI (n := 9) dX3_init__7 rfl (by decide) (by decide) (by omega) ?_
  have hcz : c ≠ z.1 := by have := hc.1; omega
  have haz : a ≠ z.1 := by have := ha.1; omega
  replace ha := ha.al (t2 := 20) (l2 := 8)
  replace hc := hc.al (t2 := 20) (l2 := 8)
  replace hmm := hmm.al (t2 := 20) (l2 := 8)
  have hnw : a_is (a_al z 20 8) z.1 20 8 := a_al_new
  refine a_putO (n := 12) dX3_init__9 rfl fX3_9 ha (Or.inr ⟨rfl, rfl, rfl⟩) ?_
  refine a_aload_n (n := 13) dX3_init__12 rfl rfl ?_
  refine a_bipush (n := 15) dX3_init__13 rfl ⟨by decide, by decide⟩ (by decide) ?_
  refine a_putI (n := 18) dX3_init__15 rfl fX3_15 rfl ha (Or.inl rfl) ?_
  refine a_aload_n (n := 19) dX3_init__18 rfl rfl ?_
  refine a_bipush (n := 21) dX3_init__19 rfl ⟨by decide, by decide⟩ (by decide) ?_
  refine a_putI (n := 24) dX3_init__21 rfl fX3_19 rfl ha (Or.inl rfl) ?_
  refine a_aload_n (n := 25) dX3_init__24 rfl rfl ?_
  refine a_iconst (n := 26) dX3_init__25 rfl ⟨by decide, by decide⟩ ?_
  refine a_putI (n := 29) dX3_init__26 rfl fX3_22 rfl ha (Or.inl rfl) ?_
  refine a_aload_n (n := 30) dX3_init__29 rfl rfl ?_
  refine a_iload_n (n := 31) dX3_init__30 rfl rfl ?_
  refine a_putI (n := 34) dX3_init__31 rfl fX3_25 rfl ha (Or.inr ⟨rfl, rfl, rfl⟩) ?_
  refine a_aload_n (n := 35) dX3_init__34 rfl rfl ?_
  refine a_iload_n (n := 36) dX3_init__35 rfl rfl ?_
  refine a_putI (n := 39) dX3_init__36 rfl fX3_28 rfl ha (Or.inr ⟨rfl, rfl, rfl⟩) ?_
  refine a_aload_n (n := 40) dX3_init__39 rfl rfl ?_
  refine a_aload_n (n := 41) dX3_init__40 rfl rfl ?_
  refine a_putO (n := 44) dX3_init__41 rfl fX3_31 ha (Or.inr ⟨rfl, rfl, rfl⟩) ?_
  refine a_aload_n (n := 45) dX3_init__44 rfl rfl ?_
  refine a_aload (n := 47) dX3_init__45 rfl rfl ?_
  refine a_putO (n := 50) dX3_init__47 rfl fX3_35 ha (Or.inr ⟨rfl, rfl, rfl⟩) ?_
  refine a_aload_n (n := 51) dX3_init__50 rfl rfl ?_
  refine a_aload_n (n := 52) dX3_init__51 rfl rfl ?_
  refine a_getI (n := 55) dX3_init__52 rfl fX3_38 hc ?_
  simp only [upc hca, clc hcz]
  refine a_putI (n := 58) dX3_init__55 rfl fX3_38 rfl ha (Or.inr ⟨rfl, rfl, rfl⟩) ?_
  refine a_aload_n (n := 59) dX3_init__58 rfl rfl ?_
  refine a_aload_n (n := 60) dX3_init__59 rfl rfl ?_
  refine a_getI (n := 63) dX3_init__60 rfl fX3_41 hc ?_
  simp only [upc hca, clc hcz]
  refine a_putI (n := 66) dX3_init__63 rfl fX3_41 rfl ha (Or.inr ⟨rfl, rfl, rfl⟩) ?_
  refine a_aload_n (n := 67) dX3_init__66 rfl rfl ?_
  refine a_iload_n (n := 68) dX3_init__67 rfl rfl ?_
  refine a_iconst (n := 69) dX3_init__68 rfl ⟨by decide, by decide⟩ ?_
  refine a_icmp_eq (t := 84) (n := 72) dX3_init__69 rfl rfl (fun c69 => ?_) (fun c69 => ?_)
  · refine a_iconst (n := 85) dX3_init__84 rfl ⟨by decide, by decide⟩ ?_
    refine a_goto (t := 89) dX3_init__85 rfl ?_
    refine a_putZ (n := 92) dX3_init__89 rfl fX3_44 rfl ha (Or.inr ⟨rfl, rfl, rfl⟩) (by omega) ?_
    refine a_aload_n (n := 93) dX3_init__92 rfl rfl ?_
    refine a_iload (n := 95) dX3_init__93 rfl rfl ?_
    refine a_putI (n := 98) dX3_init__95 rfl fX3_48 rfl ha (Or.inl rfl) ?_
    refine a_iload_n (n := 99) dX3_init__98 rfl rfl ?_
    refine a_iconst (n := 100) dX3_init__99 rfl ⟨by decide, by decide⟩ ?_
    refine a_icmp_eq (t := 121) (n := 103) dX3_init__100 rfl rfl (fun c100 => ?_) (fun c100 => ?_)
    · omega
    · have q₇ : (up2 (up2 (up2 (cl0 hr z.1 none) a 7 (some z.1)) a 2 (some c)) a 3 none) c 7 = some mm := by
        rw [up2_n hca, up2_n hca, up2_n hca, cl0_n hcz]
        exact hcm
      have q₈ : (up2 (up2 (up2 (cl0 hr z.1 none) a 7 (some z.1)) a 2 (some c)) a 3 none) a 7 = some z.1 := by
        rw [up2_m (by decide), up2_m (by decide), up2_s]
      refine a_aload_n (n := 104) dX3_init__103 rfl rfl ?_
      refine a_getO (n := 107) dX3_init__104 rfl fX3_9 hc ?_
      rw [q₇]
      refine a_iconst (n := 108) dX3_init__107 rfl ⟨by decide, by decide⟩ ?_
      refine a_aload_n (n := 109) dX3_init__108 rfl rfl ?_
      refine a_getO (n := 112) dX3_init__109 rfl fX3_9 ha ?_
      rw [q₈]
      refine a_iconst (n := 113) dX3_init__112 rfl ⟨by decide, by decide⟩ ?_
      refine a_aload_n (n := 114) dX3_init__113 rfl rfl ?_
      refine a_getO (n := 117) dX3_init__114 rfl fX3_9 ha ?_
      rw [q₈]
      refine a_alen (n := 118) dX3_init__117 rfl hnw rfl (by decide) (by decide) ?_
      refine a_copy (n := 121) dX3_init__118 rfl lX3_51 cpN cpS cpI hmm hnw (by decide) (by decide) (by omega) (Nat.le_of_ble_eq_true rfl) ?_
      refine a_return dX3_init__121 rfl ?_
      exact ⟨rfl, rfl, rfl, rfl, rfl⟩
  · omega
set_option maxRecDepth 100000 in
set_option maxHeartbeats 4000000 in
theorem c_initSplit {a c mm : Nat} {n m : Int} (ha : a_is z a 3 17) (hc : a_is z c 3 17) (hcm : hr c 7 = some mm) (hmm : a_is z mm 20 8) (hca : c ≠ a) (hz1 : z.1 < 900000000) : a_ct G mX3_init_ (d + 1) [vR a, vI n, vI 3, vR c, vO none, vI m] z hr hi hl (fun r z' hr' hi' hl' => z' = a_al z 20 8 ∧ hr' = ofR (cl0 hr z.1 none) a z.1 c none ∧ hl' = cl0 hl z.1 0 ∧ r = none ∧ hi' = cpy (ofI (cl0 hi z.1 0) a n 3 (hi c 4) (hi c 5) (if hi c 6 = 0 then 0 else 1) m) mm z.1 8) := by
  refine a_ct_of rfl (Nat.le_of_ble_eq_true rfl) ?_
  refine a_aload_n (n := 1) dX3_init__0 rfl rfl ?_
  refine a_objInit (n := 4) dX3_init__1 rfl oX3_3 (by omega) ha.1 (Nat.le_of_ble_eq_true rfl) ?_
  refine a_aload_n (n := 5) dX3_init__4 rfl rfl ?_
  refine a_bipush (n := 7) dX3_init__5 rfl ⟨by decide, by decide⟩ (by decide) ?_
  refine a_newaI (n := 9) dX3_init__7 rfl (by decide) (by decide) (by omega) ?_
  have hcz : c ≠ z.1 := by have := hc.1; omega
  have haz : a ≠ z.1 := by have := ha.1; omega
  replace ha := ha.al (t2 := 20) (l2 := 8)
  replace hc := hc.al (t2 := 20) (l2 := 8)
  replace hmm := hmm.al (t2 := 20) (l2 := 8)
  have hnw : a_is (a_al z 20 8) z.1 20 8 := a_al_new
  refine a_putO (n := 12) dX3_init__9 rfl fX3_9 ha (Or.inr ⟨rfl, rfl, rfl⟩) ?_
  refine a_aload_n (n := 13) dX3_init__12 rfl rfl ?_
  refine a_bipush (n := 15) dX3_init__13 rfl ⟨by decide, by decide⟩ (by decide) ?_
  refine a_putI (n := 18) dX3_init__15 rfl fX3_15 rfl ha (Or.inl rfl) ?_
  refine a_aload_n (n := 19) dX3_init__18 rfl rfl ?_
  refine a_bipush (n := 21) dX3_init__19 rfl ⟨by decide, by decide⟩ (by decide) ?_
  refine a_putI (n := 24) dX3_init__21 rfl fX3_19 rfl ha (Or.inl rfl) ?_
  refine a_aload_n (n := 25) dX3_init__24 rfl rfl ?_
  refine a_iconst (n := 26) dX3_init__25 rfl ⟨by decide, by decide⟩ ?_
  refine a_putI (n := 29) dX3_init__26 rfl fX3_22 rfl ha (Or.inl rfl) ?_
  refine a_aload_n (n := 30) dX3_init__29 rfl rfl ?_
  refine a_iload_n (n := 31) dX3_init__30 rfl rfl ?_
  refine a_putI (n := 34) dX3_init__31 rfl fX3_25 rfl ha (Or.inr ⟨rfl, rfl, rfl⟩) ?_
  refine a_aload_n (n := 35) dX3_init__34 rfl rfl ?_
  refine a_iload_n (n := 36) dX3_init__35 rfl rfl ?_
  refine a_putI (n := 39) dX3_init__36 rfl fX3_28 rfl ha (Or.inr ⟨rfl, rfl, rfl⟩) ?_
  refine a_aload_n (n := 40) dX3_init__39 rfl rfl ?_
  refine a_aload_n (n := 41) dX3_init__40 rfl rfl ?_
  refine a_putO (n := 44) dX3_init__41 rfl fX3_31 ha (Or.inr ⟨rfl, rfl, rfl⟩) ?_
  refine a_aload_n (n := 45) dX3_init__44 rfl rfl ?_
  refine a_aload (n := 47) dX3_init__45 rfl rfl ?_
  refine a_putO (n := 50) dX3_init__47 rfl fX3_35 ha (Or.inr ⟨rfl, rfl, rfl⟩) ?_
  refine a_aload_n (n := 51) dX3_init__50 rfl rfl ?_
  refine a_aload_n (n := 52) dX3_init__51 rfl rfl ?_
  refine a_getI (n := 55) dX3_init__52 rfl fX3_38 hc ?_
  simp only [upc hca, clc hcz]
  refine a_putI (n := 58) dX3_init__55 rfl fX3_38 rfl ha (Or.inr ⟨rfl, rfl, rfl⟩) ?_
  refine a_aload_n (n := 59) dX3_init__58 rfl rfl ?_
  refine a_aload_n (n := 60) dX3_init__59 rfl rfl ?_
  refine a_getI (n := 63) dX3_init__60 rfl fX3_41 hc ?_
  simp only [upc hca, clc hcz]
  refine a_putI (n := 66) dX3_init__63 rfl fX3_41 rfl ha (Or.inr ⟨rfl, rfl, rfl⟩) ?_
  refine a_aload_n (n := 67) dX3_init__66 rfl rfl ?_
  refine a_iload_n (n := 68) dX3_init__67 rfl rfl ?_
  refine a_iconst (n := 69) dX3_init__68 rfl ⟨by decide, by decide⟩ ?_
  refine a_icmp_eq (t := 84) (n := 72) dX3_init__69 rfl rfl (fun c69 => ?_) (fun c69 => ?_)
  · omega
  · refine a_iload_n (n := 73) dX3_init__72 rfl rfl ?_
    refine a_iconst (n := 74) dX3_init__73 rfl ⟨by decide, by decide⟩ ?_
    refine a_icmp_ne (t := 88) (n := 77) dX3_init__74 rfl rfl (fun c74 => ?_) (fun c74 => ?_)
    · omega
    · refine a_aload_n (n := 78) dX3_init__77 rfl rfl ?_
      refine a_getI (n := 81) dX3_init__78 rfl fX3_44 hc ?_
      simp only [upc hca, clc hcz]
      refine a_if_eq (t := 88) (n := 84) dX3_init__81 rfl rfl (fun c81 => ?_) (fun c81 => ?_)
      · refine a_iconst (n := 89) dX3_init__88 rfl ⟨by decide, by decide⟩ ?_
        refine a_putZ (n := 92) dX3_init__89 rfl fX3_44 rfl ha (Or.inr ⟨rfl, rfl, rfl⟩) (by omega) ?_
        refine a_aload_n (n := 93) dX3_init__92 rfl rfl ?_
        refine a_iload (n := 95) dX3_init__93 rfl rfl ?_
        refine a_putI (n := 98) dX3_init__95 rfl fX3_48 rfl ha (Or.inl rfl) ?_
        refine a_iload_n (n := 99) dX3_init__98 rfl rfl ?_
        refine a_iconst (n := 100) dX3_init__99 rfl ⟨by decide, by decide⟩ ?_
        refine a_icmp_eq (t := 121) (n := 103) dX3_init__100 rfl rfl (fun c100 => ?_) (fun c100 => ?_)
        · omega
        · have q₇ : (up2 (up2 (up2 (cl0 hr z.1 none) a 7 (some z.1)) a 2 (some c)) a 3 none) c 7 = some mm := by
            rw [up2_n hca, up2_n hca, up2_n hca, cl0_n hcz]
            exact hcm
          have q₈ : (up2 (up2 (up2 (cl0 hr z.1 none) a 7 (some z.1)) a 2 (some c)) a 3 none) a 7 = some z.1 := by
            rw [up2_m (by decide), up2_m (by decide), up2_s]
          refine a_aload_n (n := 104) dX3_init__103 rfl rfl ?_
          refine a_getO (n := 107) dX3_init__104 rfl fX3_9 hc ?_
          rw [q₇]
          refine a_iconst (n := 108) dX3_init__107 rfl ⟨by decide, by decide⟩ ?_
          refine a_aload_n (n := 109) dX3_init__108 rfl rfl ?_
          refine a_getO (n := 112) dX3_init__109 rfl fX3_9 ha ?_
          rw [q₈]
          refine a_iconst (n := 113) dX3_init__112 rfl ⟨by decide, by decide⟩ ?_
          refine a_aload_n (n := 114) dX3_init__113 rfl rfl ?_
          refine a_getO (n := 117) dX3_init__114 rfl fX3_9 ha ?_
          rw [q₈]
          refine a_alen (n := 118) dX3_init__117 rfl hnw rfl (by decide) (by decide) ?_
          refine a_copy (n := 121) dX3_init__118 rfl lX3_51 cpN cpS cpI hmm hnw (by decide) (by decide) (by omega) (Nat.le_of_ble_eq_true rfl) ?_
          refine a_return dX3_init__121 rfl ?_
          refine ⟨rfl, rfl, rfl, rfl, ?_⟩
          rw [if_pos c81]
          rfl
      · refine a_iconst (n := 85) dX3_init__84 rfl ⟨by decide, by decide⟩ ?_
        refine a_goto (t := 89) dX3_init__85 rfl ?_
        refine a_putZ (n := 92) dX3_init__89 rfl fX3_44 rfl ha (Or.inr ⟨rfl, rfl, rfl⟩) (by omega) ?_
        refine a_aload_n (n := 93) dX3_init__92 rfl rfl ?_
        refine a_iload (n := 95) dX3_init__93 rfl rfl ?_
        refine a_putI (n := 98) dX3_init__95 rfl fX3_48 rfl ha (Or.inl rfl) ?_
        refine a_iload_n (n := 99) dX3_init__98 rfl rfl ?_
        refine a_iconst (n := 100) dX3_init__99 rfl ⟨by decide, by decide⟩ ?_
        refine a_icmp_eq (t := 121) (n := 103) dX3_init__100 rfl rfl (fun c100 => ?_) (fun c100 => ?_)
        · omega
        · have q₇ : (up2 (up2 (up2 (cl0 hr z.1 none) a 7 (some z.1)) a 2 (some c)) a 3 none) c 7 = some mm := by
            rw [up2_n hca, up2_n hca, up2_n hca, cl0_n hcz]
            exact hcm
          have q₈ : (up2 (up2 (up2 (cl0 hr z.1 none) a 7 (some z.1)) a 2 (some c)) a 3 none) a 7 = some z.1 := by
            rw [up2_m (by decide), up2_m (by decide), up2_s]
          refine a_aload_n (n := 104) dX3_init__103 rfl rfl ?_
          refine a_getO (n := 107) dX3_init__104 rfl fX3_9 hc ?_
          rw [q₇]
          refine a_iconst (n := 108) dX3_init__107 rfl ⟨by decide, by decide⟩ ?_
          refine a_aload_n (n := 109) dX3_init__108 rfl rfl ?_
          refine a_getO (n := 112) dX3_init__109 rfl fX3_9 ha ?_
          rw [q₈]
          refine a_iconst (n := 113) dX3_init__112 rfl ⟨by decide, by decide⟩ ?_
          refine a_aload_n (n := 114) dX3_init__113 rfl rfl ?_
          refine a_getO (n := 117) dX3_init__114 rfl fX3_9 ha ?_
          rw [q₈]
          refine a_alen (n := 118) dX3_init__117 rfl hnw rfl (by decide) (by decide) ?_
          refine a_copy (n := 121) dX3_init__118 rfl lX3_51 cpN cpS cpI hmm hnw (by decide) (by decide) (by omega) (Nat.le_of_ble_eq_true rfl) ?_
          refine a_return dX3_init__121 rfl ?_
          refine ⟨rfl, rfl, rfl, rfl, ?_⟩
          rw [if_neg c81]
          rfl
end C34
