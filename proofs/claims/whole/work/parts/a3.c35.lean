section C35
variable {G : aG} {d : Nat} {z : aZ} {hr : aR} {hi hl : aI}
theorem cpy_n {h : aI} {b a x : Nat} {len : Int} (hx : x ≠ a) : cpy h b a len x = h x := by
  funext j
  unfold cpy
  rw [if_neg (fun q => hx q.1)]
set_option maxRecDepth 100000 in
set_option maxHeartbeats 4000000 in
theorem c_cut (hz : stZ z) (hR : stR hr) (hz1 : z.1 < 800000000) (hn : 0 ≤ hi 0 9 ∧ hi 0 9 ≤ 40) (hW : cP z hr hi) {p m : Int} : a_ct G mX9_cut (d + 3) [vR 0, vI p, vI m] z hr hi hl (fun r z' hr' hi' hl' => (((0 ≤ p ∧ p < hi 0 9) ∧ ((1 ≤ m ∧ m ≤ 100) ∧ hi 0 9 < 40)) ∧ z' = a_al (a_al z 3 17) 20 8 ∧ hr' = up2 (ofR (cl0 (cl0 hr z.1 none) (z.1 + 1) none) z.1 (z.1 + 1) (pC hr p) none) 1 (hi 0 9) (some z.1) ∧ hl' = cl0 (cl0 hl z.1 0) (z.1 + 1) 0 ∧ r = some (vI (hi 0 9)) ∧ hi' = up2 (cpy (ofI (cl0 (cl0 hi z.1 0) (z.1 + 1) 0) z.1 (hi 0 9) 2 (hi (pC hr p) 4) (hi (pC hr p) 5) 1 m) (mC hr p) (z.1 + 1) 8) 0 9 (hi 0 9 + 1)) ∨ (¬ ((0 ≤ p ∧ p < hi 0 9) ∧ ((1 ≤ m ∧ m ≤ 100) ∧ hi 0 9 < 40)) ∧ z' = z ∧ hr' = hr ∧ hl' = hl ∧ r = some (vI (-1)) ∧ hi' = hi)) := by
  refine a_ct_of rfl (Nat.le_of_ble_eq_true rfl) ?_
  refine a_aload_n (n := 1) dX9_cut_0 rfl rfl ?_
  refine a_iload_n (n := 2) dX9_cut_1 rfl rfl ?_
  refine a_callV (M2 := mX9_plantAt) (n := 5) dX9_cut_2 rfl (c_plantAt (d := d + 1) hz hR hn) kX9_plantAt lX9_89 iX9_plantAt eX9_plantAt (by decide) (by omega) (s0 hz) rfl (Nat.le_of_ble_eq_true rfl) (fun q2 z2 hr2 hi2 hl2 h2 => ?_)
  obtain ⟨e12, e22, e32, e42, h2⟩ := h2
  obtain rfl := e12.symm
  obtain rfl := e22.symm
  obtain rfl := e32.symm
  obtain rfl := e42.symm
  rcases h2 with ⟨hp2, rfl⟩ | ⟨hp2, rfl⟩
  · obtain ⟨f12, f22, f32, f42⟩ := hW.at_ hp2.1 hp2.2
    rw [f12]
    show a_wp G _ _ _ _ (vR (pC hr p) :: _) _ _ _ _ _
    refine b_astore_n (n := 6) dX9_cut_5 rfl (by decide) rfl ?_
    refine a_aload_n (n := 7) dX9_cut_6 rfl rfl ?_
    refine a_ifnull (t := 18) (n := 10) dX9_cut_7 rfl rfl (fun c7 => ?_) (fun p7 c7 => ?_)
    · cases c7
    · refine a_aload_n (n := 11) dX9_cut_10 rfl rfl ?_
      refine a_iload_n (n := 12) dX9_cut_11 rfl rfl ?_
      refine a_callV (M2 := mX9_canEnter) (n := 15) dX9_cut_12 rfl (c_canEnter (d := d + 1) hz hR) kX9_canEnter lX9_75 iX9_canEnter eX9_canEnter (by decide) (by omega) (s0 hz) rfl (Nat.le_of_ble_eq_true rfl) (fun q12 z12 hr12 hi12 hl12 h12 => ?_)
      obtain ⟨e112, e212, e312, e412, b12, rfl, hb12⟩ := h12
      obtain rfl := e112.symm
      obtain rfl := e212.symm
      obtain rfl := e312.symm
      obtain rfl := e412.symm
      show a_wp G _ _ _ _ (vI b12 :: _) _ _ _ _ _
      refine a_if_ne (t := 20) (n := 18) dX9_cut_15 rfl rfl (fun c15 => ?_) (fun c15 => ?_)
      · replace hb12 := isB_t hb12 (by omega)
        refine a_aload_n (n := 21) dX9_cut_20 rfl rfl ?_
        refine a_new (t := 3) (len := 17) (n := 24) dX9_cut_21 rfl (by decide) rfl nX9_9 q3 qi3 (by omega) ?_
        have hmz : pC hr p ≠ z.1 := by have := f22.1; omega
        replace hR := hR.cl hz
        have hz0 := hz.1
        replace hz := hz.al (t := 3) (len := 17)
        replace f22 := f22.al (t2 := 3) (l2 := 17)
        replace f42 := f42.al (t2 := 3) (l2 := 17)
        refine a_dup (n := 25) dX9_cut_24 rfl rfl ?_
        refine a_aload_n (n := 26) dX9_cut_25 rfl rfl ?_
        refine a_getI (n := 29) dX9_cut_26 rfl fX9_79 (s0 hz) ?_
        rw [cl0_n (by omega)]
        refine a_iconst (n := 30) dX9_cut_29 rfl ⟨by decide, by decide⟩ ?_
        refine a_aload_n (n := 31) dX9_cut_30 rfl rfl ?_
        refine a_null (n := 32) dX9_cut_31 rfl ?_
        refine a_iload_n (n := 33) dX9_cut_32 rfl rfl ?_
        refine a_callI (M2 := mX3_init_) (n := 36) dX9_cut_33 rfl (c_initCut (d := d) a_al_new f22 (mm := mC hr p) (by rw [cl0_n hmz]; exact f32) f42 hmz (by show z.1 + 1 < _; omega)) kX3_init_ lX9_93 iX3_init_ rfl rfl (by omega) a_al_new.1 rfl (Nat.le_of_ble_eq_true rfl) (fun q33 z33 hr33 hi33 hl33 h33 => ?_)
        rw [cl0_n hmz, cl0_n hmz] at h33
        obtain ⟨rfl, rfl, rfl, rfl, rfl⟩ := h33
        have hz2 : stZ (a_al (a_al z 3 17) 20 8) := hz.al
        have hR2 : stR (ofR (cl0 (cl0 hr z.1 none) (z.1 + 1) none) z.1 (z.1 + 1) (pC hr p) none) := (((((hR.cl (z := a_al z 3 17) hz)).hi80 hz0).hi80 hz0).hi80 hz0)
        have h09 : (cpy (ofI (cl0 (cl0 hi z.1 0) (z.1 + 1) 0) z.1 (hi 0 9) 2 (hi (pC hr p) 4) (hi (pC hr p) 5) 1 m) (mC hr p) (z.1 + 1) 8) 0 9 = hi 0 9 := by
          rw [cpy_n (by omega), ofI_n (by omega), cl0_n (by omega), cl0_n (by omega)]
          skip
        have h00 : (cpy (ofI (cl0 (cl0 hi z.1 0) (z.1 + 1) 0) z.1 (hi 0 9) 2 (hi (pC hr p) 4) (hi (pC hr p) 5) 1 m) (mC hr p) (z.1 + 1) 8) z.1 0 = hi 0 9 := by
          rw [cpy_n (by omega), ofI_0]
        clear hz
        have hz := hz2
        show a_wp G _ _ _ _ (vR z.1 :: _) _ _ _ _ _
        refine a_callV (M2 := mX9_enter) (n := 39) dX9_cut_36 rfl (c_enter (d := d + 1) (hi := (cpy (ofI (cl0 (cl0 hi z.1 0) (z.1 + 1) 0) z.1 (hi 0 9) 2 (hi (pC hr p) 4) (hi (pC hr p) 5) 1 m) (mC hr p) (z.1 + 1) 8)) hz2 hR2 (a_al_new.al) hz0 (by rw [h09]; omega)) kX9_enter lX9_85 iX9_enter eX9_enter (by decide) (by omega) (s0 hz) rfl (Nat.le_of_ble_eq_true rfl) (fun q36 z36 hr36 hi36 hl36 h36 => ?_)
        rw [h09, h00] at h36
        obtain ⟨rfl, rfl, rfl, rfl, rfl⟩ := h36
        show a_wp G _ _ _ _ (vI (hi 0 9) :: _) _ _ _ _ _
        refine a_ireturn dX9_cut_39 rfl ?_
        exact Or.inl ⟨⟨hp2, hb12⟩, rfl, rfl, rfl, rfl, rfl⟩
      · replace hb12 := isB_f hb12 (by omega)
        refine a_iconst (n := 19) dX9_cut_18 rfl ⟨by decide, by decide⟩ ?_
        refine a_ireturn dX9_cut_19 rfl ?_
        exact Or.inr ⟨fun q => hb12 q.2, rfl, rfl, rfl, rfl, rfl⟩
  · show a_wp G _ _ _ _ (vO none :: _) _ _ _ _ _
    refine b_astore_n (n := 6) dX9_cut_5 rfl (by decide) rfl ?_
    refine a_aload_n (n := 7) dX9_cut_6 rfl rfl ?_
    refine a_ifnull (t := 18) (n := 10) dX9_cut_7 rfl rfl (fun c7 => ?_) (fun p7 c7 => ?_)
    · refine a_iconst (n := 19) dX9_cut_18 rfl ⟨by decide, by decide⟩ ?_
      refine a_ireturn dX9_cut_19 rfl ?_
      exact Or.inr ⟨fun q => hp2 q.1, rfl, rfl, rfl, rfl, rfl⟩
    · cases c7
set_option maxRecDepth 100000 in
set_option maxHeartbeats 4000000 in
theorem c_split (hz : stZ z) (hR : stR hr) (hz1 : z.1 < 800000000) (hn : 0 ≤ hi 0 9 ∧ hi 0 9 ≤ 40) (hW : cP z hr hi) (h80 : ∀ q, 0 ≤ q → q < hi 0 9 → 81 ≤ pC hr q) (hpc : ∀ q, 0 ≤ q → q < hi 0 9 → 0 ≤ hi (pC hr q) 8 ∧ hi (pC hr q) 8 ≤ 100) {p m : Int} : a_ct G mX9_split (d + 3) [vR 0, vI p, vI m] z hr hi hl (fun r z' hr' hi' hl' => (((0 ≤ p ∧ p < hi 0 9) ∧ ((1 ≤ m ∧ m ≤ 100) ∧ hi 0 9 < 40) ∧ m < hi (pC hr p) 8) ∧ z' = a_al (a_al z 3 17) 20 8 ∧ hr' = up2 (ofR (cl0 (cl0 hr z.1 none) (z.1 + 1) none) z.1 (z.1 + 1) (pC hr p) none) 1 (hi 0 9) (some z.1) ∧ hl' = cl0 (cl0 hl z.1 0) (z.1 + 1) 0 ∧ r = some (vI (hi 0 9)) ∧ hi' = up2 (cpy (ofI (cl0 (cl0 (up2 hi (pC hr p) 8 (hi (pC hr p) 8 - m)) z.1 0) (z.1 + 1) 0) z.1 (hi 0 9) 3 (hi (pC hr p) 4) (hi (pC hr p) 5) (if hi (pC hr p) 6 = 0 then 0 else 1) m) (mC hr p) (z.1 + 1) 8) 0 9 (hi 0 9 + 1)) ∨ (¬ ((0 ≤ p ∧ p < hi 0 9) ∧ ((1 ≤ m ∧ m ≤ 100) ∧ hi 0 9 < 40) ∧ m < hi (pC hr p) 8) ∧ z' = z ∧ hr' = hr ∧ hl' = hl ∧ r = some (vI (-1)) ∧ hi' = hi)) := by
  refine a_ct_of rfl (Nat.le_of_ble_eq_true rfl) ?_
  refine a_aload_n (n := 1) dX9_split_0 rfl rfl ?_
  refine a_iload_n (n := 2) dX9_split_1 rfl rfl ?_
  refine a_callV (M2 := mX9_plantAt) (n := 5) dX9_split_2 rfl (c_plantAt (d := d + 1) hz hR hn) kX9_plantAt lX9_89 iX9_plantAt eX9_plantAt (by decide) (by omega) (s0 hz) rfl (Nat.le_of_ble_eq_true rfl) (fun q2 z2 hr2 hi2 hl2 h2 => ?_)
  obtain ⟨e12, e22, e32, e42, h2⟩ := h2
  obtain rfl := e12.symm
  obtain rfl := e22.symm
  obtain rfl := e32.symm
  obtain rfl := e42.symm
  rcases h2 with ⟨hp2, rfl⟩ | ⟨hp2, rfl⟩
  · obtain ⟨f12, f22, f32, f42⟩ := hW.at_ hp2.1 hp2.2
    rw [f12]
    show a_wp G _ _ _ _ (vR (pC hr p) :: _) _ _ _ _ _
    refine b_astore_n (n := 6) dX9_split_5 rfl (by decide) rfl ?_
    refine a_aload_n (n := 7) dX9_split_6 rfl rfl ?_
    refine a_ifnull (t := 26) (n := 10) dX9_split_7 rfl rfl (fun c7 => ?_) (fun p7 c7 => ?_)
    · cases c7
    · refine a_aload_n (n := 11) dX9_split_10 rfl rfl ?_
      refine a_iload_n (n := 12) dX9_split_11 rfl rfl ?_
      refine a_callV (M2 := mX9_canEnter) (n := 15) dX9_split_12 rfl (c_canEnter (d := d + 1) hz hR) kX9_canEnter lX9_75 iX9_canEnter eX9_canEnter (by decide) (by omega) (s0 hz) rfl (Nat.le_of_ble_eq_true rfl) (fun q12 z12 hr12 hi12 hl12 h12 => ?_)
      obtain ⟨e112, e212, e312, e412, b12, rfl, hb12⟩ := h12
      obtain rfl := e112.symm
      obtain rfl := e212.symm
      obtain rfl := e312.symm
      obtain rfl := e412.symm
      show a_wp G _ _ _ _ (vI b12 :: _) _ _ _ _ _
      refine a_if_eq (t := 26) (n := 18) dX9_split_15 rfl rfl (fun c15 => ?_) (fun c15 => ?_)
      · replace hb12 := isB_f hb12 (by omega)
        refine a_iconst (n := 27) dX9_split_26 rfl ⟨by decide, by decide⟩ ?_
        refine a_ireturn dX9_split_27 rfl ?_
        exact Or.inr ⟨fun q => hb12 q.2.1, rfl, rfl, rfl, rfl, rfl⟩
      · replace hb12 := isB_t hb12 (by omega)
        refine a_iload_n (n := 19) dX9_split_18 rfl rfl ?_
        refine a_aload_n (n := 20) dX9_split_19 rfl rfl ?_
        refine a_getI (n := 23) dX9_split_20 rfl fX9_96 f22 ?_
        refine a_icmp_lt (t := 28) (n := 26) dX9_split_23 rfl rfl (fun c23 => ?_) (fun c23 => ?_)
        · refine a_aload_n (n := 29) dX9_split_28 rfl rfl ?_
          refine a_dup (n := 30) dX9_split_29 rfl rfl ?_
          refine a_getI (n := 33) dX9_split_30 rfl fX9_96 f22 ?_
          have hq₈ := hpc p hp2.1 hp2.2
          refine a_iload_n (n := 34) dX9_split_33 rfl rfl ?_
          refine a_isub (n := 35) dX9_split_34 rfl ⟨by omega, by omega⟩ ?_
          refine a_putI (n := 38) dX9_split_35 rfl fX9_96 rfl f22 (Or.inl rfl) ?_
          refine a_aload_n (n := 39) dX9_split_38 rfl rfl ?_
          refine a_new (t := 3) (len := 17) (n := 42) dX9_split_39 rfl (by decide) rfl nX9_9 q3 qi3 (by omega) ?_
          have hmz : pC hr p ≠ z.1 := by have := f22.1; omega
          replace hR := hR.cl hz
          have hz0 := hz.1
          replace hz := hz.al (t := 3) (len := 17)
          replace f22 := f22.al (t2 := 3) (l2 := 17)
          replace f42 := f42.al (t2 := 3) (l2 := 17)
          refine a_dup (n := 43) dX9_split_42 rfl rfl ?_
          refine a_aload_n (n := 44) dX9_split_43 rfl rfl ?_
          refine a_getI (n := 47) dX9_split_44 rfl fX9_79 (s0 hz) ?_
          rw [cl0_n (by omega)]
          rw [show up2 hi (pC hr p) 8 (hi (pC hr p) 8 - m) 0 9 = hi 0 9 from up2_n (by have := h80 p hp2.1 hp2.2; omega)]
          refine a_iconst (n := 48) dX9_split_47 rfl ⟨by decide, by decide⟩ ?_
          refine a_aload_n (n := 49) dX9_split_48 rfl rfl ?_
          refine a_null (n := 50) dX9_split_49 rfl ?_
          refine a_iload_n (n := 51) dX9_split_50 rfl rfl ?_
          refine a_callI (M2 := mX3_init_) (n := 54) dX9_split_51 rfl (c_initSplit (d := d) a_al_new f22 (mm := mC hr p) (by rw [cl0_n hmz]; exact f32) f42 hmz (by show z.1 + 1 < _; omega)) kX3_init_ lX9_93 iX3_init_ rfl rfl (by omega) a_al_new.1 rfl (Nat.le_of_ble_eq_true rfl) (fun q51 z51 hr51 hi51 hl51 h51 => ?_)
          rw [cl0_n hmz, cl0_n hmz, cl0_n hmz] at h51
          rw [up2_m (by decide), up2_m (by decide), up2_m (by decide)] at h51
          obtain ⟨rfl, rfl, rfl, rfl, rfl⟩ := h51
          have hz2 : stZ (a_al (a_al z 3 17) 20 8) := hz.al
          have hR2 : stR (ofR (cl0 (cl0 hr z.1 none) (z.1 + 1) none) z.1 (z.1 + 1) (pC hr p) none) := (((((hR.cl (z := a_al z 3 17) hz)).hi80 hz0).hi80 hz0).hi80 hz0)
          have h09 : (cpy (ofI (cl0 (cl0 (up2 hi (pC hr p) 8 (hi (pC hr p) 8 - m)) z.1 0) (z.1 + 1) 0) z.1 (hi 0 9) 3 (hi (pC hr p) 4) (hi (pC hr p) 5) (if hi (pC hr p) 6 = 0 then 0 else 1) m) (mC hr p) (z.1 + 1) 8) 0 9 = hi 0 9 := by
            rw [cpy_n (by omega), ofI_n (by omega), cl0_n (by omega), cl0_n (by omega)]
            exact up2_n (by have := h80 p hp2.1 hp2.2; omega)
          have h00 : (cpy (ofI (cl0 (cl0 (up2 hi (pC hr p) 8 (hi (pC hr p) 8 - m)) z.1 0) (z.1 + 1) 0) z.1 (hi 0 9) 3 (hi (pC hr p) 4) (hi (pC hr p) 5) (if hi (pC hr p) 6 = 0 then 0 else 1) m) (mC hr p) (z.1 + 1) 8) z.1 0 = hi 0 9 := by
            rw [cpy_n (by omega), ofI_0]
          clear hz
          have hz := hz2
          show a_wp G _ _ _ _ (vR z.1 :: _) _ _ _ _ _
          refine a_callV (M2 := mX9_enter) (n := 57) dX9_split_54 rfl (c_enter (d := d + 1) (hi := (cpy (ofI (cl0 (cl0 (up2 hi (pC hr p) 8 (hi (pC hr p) 8 - m)) z.1 0) (z.1 + 1) 0) z.1 (hi 0 9) 3 (hi (pC hr p) 4) (hi (pC hr p) 5) (if hi (pC hr p) 6 = 0 then 0 else 1) m) (mC hr p) (z.1 + 1) 8)) hz2 hR2 (a_al_new.al) hz0 (by rw [h09]; omega)) kX9_enter lX9_85 iX9_enter eX9_enter (by decide) (by omega) (s0 hz) rfl (Nat.le_of_ble_eq_true rfl) (fun q54 z54 hr54 hi54 hl54 h54 => ?_)
          rw [h09, h00] at h54
          obtain ⟨rfl, rfl, rfl, rfl, rfl⟩ := h54
          show a_wp G _ _ _ _ (vI (hi 0 9) :: _) _ _ _ _ _
          refine a_ireturn dX9_split_57 rfl ?_
          exact Or.inl ⟨⟨hp2, hb12, c23⟩, rfl, rfl, rfl, rfl, rfl⟩
        · refine a_iconst (n := 27) dX9_split_26 rfl ⟨by decide, by decide⟩ ?_
          refine a_ireturn dX9_split_27 rfl ?_
          exact Or.inr ⟨fun q => c23 q.2.2, rfl, rfl, rfl, rfl, rfl⟩
  · show a_wp G _ _ _ _ (vO none :: _) _ _ _ _ _
    refine b_astore_n (n := 6) dX9_split_5 rfl (by decide) rfl ?_
    refine a_aload_n (n := 7) dX9_split_6 rfl rfl ?_
    refine a_ifnull (t := 26) (n := 10) dX9_split_7 rfl rfl (fun c7 => ?_) (fun p7 c7 => ?_)
    · refine a_iconst (n := 27) dX9_split_26 rfl ⟨by decide, by decide⟩ ?_
      refine a_ireturn dX9_split_27 rfl ?_
      exact Or.inr ⟨fun q => hp2 q.1, rfl, rfl, rfl, rfl, rfl⟩
    · cases c7
end C35
