section C26
variable {G : aG} {d : Nat} {z : aZ} {hr : aR} {hi hl : aI}
theorem ofI_n {h : aI} {a x : Nat} {n k ro pl cu m : Int} (hx : x ≠ a) : ofI h a n k ro pl cu m x = h x := by
  unfold ofI
  rw [up2_f hx, up2_f hx, up2_f hx, up2_f hx, up2_f hx, up2_f hx, up2_f hx, up2_f hx, up2_f hx]
theorem ofI_0 {h : aI} {a : Nat} {n k ro pl cu m : Int} : ofI h a n k ro pl cu m a 0 = n := by
  unfold ofI
  rw [up2_m (by decide), up2_m (by decide), up2_m (by decide), up2_m (by decide), up2_m (by decide), up2_s]
set_option maxRecDepth 100000 in
set_option maxHeartbeats 4000000 in
theorem c_seed (hz : stZ z) (hR : stR hr) (hz1 : z.1 < 800000000) (hn : 0 ≤ hi 0 9 ∧ hi 0 9 ≤ 40) (hW : cP z hr hi) {mo fa m : Int} : a_ct G mX9_seed (d + 3) [vR 0, vI mo, vI fa, vI m] z hr hi hl (fun r z' hr' hi' hl' => (((0 ≤ mo ∧ mo < hi 0 9) ∧ (fa = -1 ∨ (0 ≤ fa ∧ fa < hi 0 9)) ∧ (1 ≤ m ∧ m ≤ 100) ∧ hi 0 9 < 40) ∧ z' = a_al (a_al z 3 17) 20 8 ∧ hr' = up2 (ofR (cl0 (cl0 hr z.1 none) (z.1 + 1) none) z.1 (z.1 + 1) (pC hr mo) (if fa = -1 then none else some (pC hr fa))) 1 (hi 0 9) (some z.1) ∧ hl' = cl0 (cl0 hl z.1 0) (z.1 + 1) 0 ∧ r = some (vI (hi 0 9)) ∧ hi' = up2 (ofI (cl0 (cl0 hi z.1 0) (z.1 + 1) 0) z.1 (hi 0 9) 1 (hi (pC hr mo) 4) (hi (pC hr mo) 5) 0 m) 0 9 (hi 0 9 + 1)) ∨ (¬ ((0 ≤ mo ∧ mo < hi 0 9) ∧ (fa = -1 ∨ (0 ≤ fa ∧ fa < hi 0 9)) ∧ (1 ≤ m ∧ m ≤ 100) ∧ hi 0 9 < 40) ∧ z' = z ∧ hr' = hr ∧ hl' = hl ∧ r = some (vI (-1)) ∧ hi' = hi)) := by
  refine a_ct_of rfl (Nat.le_of_ble_eq_true rfl) ?_
  refine a_aload_n (n := 1) dX9_seed_0 rfl rfl ?_
  refine a_iload_n (n := 2) dX9_seed_1 rfl rfl ?_
  refine a_callV (M2 := mX9_plantAt) (n := 5) dX9_seed_2 rfl (c_plantAt (d := d + 1) hz hR hn) kX9_plantAt lX9_89 iX9_plantAt eX9_plantAt (by decide) (by omega) (s0 hz) rfl (Nat.le_of_ble_eq_true rfl) (fun q2 z2 hr2 hi2 hl2 h2 => ?_)
  obtain ⟨e12, e22, e32, e42, h2⟩ := h2
  obtain rfl := e12.symm
  obtain rfl := e22.symm
  obtain rfl := e32.symm
  obtain rfl := e42.symm
  rcases h2 with ⟨hp2, rfl⟩ | ⟨hp2, rfl⟩
  · obtain ⟨f12, f22, f32, f42⟩ := hW.at_ hp2.1 hp2.2
    rw [f12]
    show a_wp G _ _ _ _ (vR (pC hr mo) :: _) _ _ _ _ _
    refine b_astore (n := 7) dX9_seed_5 rfl (by decide) rfl ?_
    refine a_aload_n (n := 8) dX9_seed_7 rfl rfl ?_
    refine a_iload_n (n := 9) dX9_seed_8 rfl rfl ?_
    refine a_callV (M2 := mX9_plantAt) (n := 12) dX9_seed_9 rfl (c_plantAt (d := d + 1) hz hR hn) kX9_plantAt lX9_89 iX9_plantAt eX9_plantAt (by decide) (by omega) (s0 hz) rfl (Nat.le_of_ble_eq_true rfl) (fun q9 z9 hr9 hi9 hl9 h9 => ?_)
    obtain ⟨e19, e29, e39, e49, h9⟩ := h9
    obtain rfl := e19.symm
    obtain rfl := e29.symm
    obtain rfl := e39.symm
    obtain rfl := e49.symm
    rcases h9 with ⟨hp9, rfl⟩ | ⟨hp9, rfl⟩
    · obtain ⟨f19, f29, f39, f49⟩ := hW.at_ hp9.1 hp9.2
      rw [f19]
      show a_wp G _ _ _ _ (vR (pC hr fa) :: _) _ _ _ _ _
      refine b_astore (n := 14) dX9_seed_12 rfl (by decide) rfl ?_
      refine a_aload (n := 16) dX9_seed_14 rfl rfl ?_
      refine a_ifnull (t := 37) (n := 19) dX9_seed_16 rfl rfl (fun c16 => ?_) (fun p16 c16 => ?_)
      · cases c16
      · refine a_aload (n := 21) dX9_seed_19 rfl rfl ?_
        refine a_ifnonnull (t := 29) (n := 24) dX9_seed_21 rfl rfl (fun p21 c21 => ?_) (fun c21 => ?_)
        · refine a_aload_n (n := 30) dX9_seed_29 rfl rfl ?_
          refine a_iload_n (n := 31) dX9_seed_30 rfl rfl ?_
          refine a_callV (M2 := mX9_canEnter) (n := 34) dX9_seed_31 rfl (c_canEnter (d := d + 1) hz hR) kX9_canEnter lX9_75 iX9_canEnter eX9_canEnter (by decide) (by omega) (s0 hz) rfl (Nat.le_of_ble_eq_true rfl) (fun q31 z31 hr31 hi31 hl31 h31 => ?_)
          obtain ⟨e131, e231, e331, e431, b31, rfl, hb31⟩ := h31
          obtain rfl := e131.symm
          obtain rfl := e231.symm
          obtain rfl := e331.symm
          obtain rfl := e431.symm
          show a_wp G _ _ _ _ (vI b31 :: _) _ _ _ _ _
          refine a_if_ne (t := 39) (n := 37) dX9_seed_34 rfl rfl (fun c34 => ?_) (fun c34 => ?_)
          · replace hb31 := isB_t hb31 (by omega)
            refine a_aload_n (n := 40) dX9_seed_39 rfl rfl ?_
            refine a_new (t := 3) (len := 17) (n := 43) dX9_seed_40 rfl (by decide) rfl nX9_9 q3 qi3 (by omega) ?_
            have hmz : pC hr mo ≠ z.1 := by have := f22.1; omega
            replace hR := hR.cl hz
            have hz0 := hz.1
            replace hz := hz.al (t := 3) (len := 17)
            replace f22 := f22.al (t2 := 3) (l2 := 17)
            refine a_dup (n := 44) dX9_seed_43 rfl rfl ?_
            refine a_aload_n (n := 45) dX9_seed_44 rfl rfl ?_
            refine a_getI (n := 48) dX9_seed_45 rfl fX9_79 (s0 hz) ?_
            rw [cl0_n (by omega)]
            refine a_iconst (n := 49) dX9_seed_48 rfl ⟨by decide, by decide⟩ ?_
            refine a_aload (n := 51) dX9_seed_49 rfl rfl ?_
            refine a_aload (n := 53) dX9_seed_51 rfl rfl ?_
            refine a_iload_n (n := 54) dX9_seed_53 rfl rfl ?_
            refine a_callI (M2 := mX3_init_) (n := 57) dX9_seed_54 rfl (c_seedInit2 (d := d) a_al_new f22 hmz (by show z.1 + 1 < _; omega)) kX3_init_ lX9_93 iX3_init_ rfl rfl (by omega) a_al_new.1 rfl (Nat.le_of_ble_eq_true rfl) (fun q54 z54 hr54 hi54 hl54 h54 => ?_)
            rw [cl0_n hmz, cl0_n hmz] at h54
            obtain ⟨rfl, rfl, rfl, rfl, rfl⟩ := h54
            have hz2 : stZ (a_al (a_al z 3 17) 20 8) := hz.al
            have hR2 : stR (ofR (cl0 (cl0 hr z.1 none) (z.1 + 1) none) z.1 (z.1 + 1) (pC hr mo) (some (pC hr fa))) := (((((hR.cl (z := a_al z 3 17) hz)).hi80 hz0).hi80 hz0).hi80 hz0)
            have h09 : (ofI (cl0 (cl0 hi z.1 0) (z.1 + 1) 0) z.1 (hi 0 9) 1 (hi (pC hr mo) 4) (hi (pC hr mo) 5) 0 m) 0 9 = hi 0 9 := by
              rw [ofI_n (by omega), cl0_n (by omega), cl0_n (by omega)]
            clear hz
            have hz := hz2
            show a_wp G _ _ _ _ (vR z.1 :: _) _ _ _ _ _
            refine a_callV (M2 := mX9_enter) (n := 60) dX9_seed_57 rfl (c_enter (d := d + 1) (hi := (ofI (cl0 (cl0 hi z.1 0) (z.1 + 1) 0) z.1 (hi 0 9) 1 (hi (pC hr mo) 4) (hi (pC hr mo) 5) 0 m)) hz2 hR2 (a_al_new.al) hz0 (by rw [h09]; omega)) kX9_enter lX9_85 iX9_enter eX9_enter (by decide) (by omega) (s0 hz) rfl (Nat.le_of_ble_eq_true rfl) (fun q57 z57 hr57 hi57 hl57 h57 => ?_)
            rw [h09, ofI_0] at h57
            obtain ⟨rfl, rfl, rfl, rfl, rfl⟩ := h57
            show a_wp G _ _ _ _ (vI (hi 0 9) :: _) _ _ _ _ _
            refine a_ireturn dX9_seed_60 rfl ?_
            exact Or.inl ⟨⟨hp2, Or.inr hp9, hb31⟩, rfl, by rw [if_neg (by omega)], rfl, rfl, rfl⟩
          · replace hb31 := isB_f hb31 (by omega)
            refine a_iconst (n := 38) dX9_seed_37 rfl ⟨by decide, by decide⟩ ?_
            refine a_ireturn dX9_seed_38 rfl ?_
            exact Or.inr ⟨fun q => hb31 q.2.2, rfl, rfl, rfl, rfl, rfl⟩
        · cases c21
    · show a_wp G _ _ _ _ (vO none :: _) _ _ _ _ _
      refine b_astore (n := 14) dX9_seed_12 rfl (by decide) rfl ?_
      refine a_aload (n := 16) dX9_seed_14 rfl rfl ?_
      refine a_ifnull (t := 37) (n := 19) dX9_seed_16 rfl rfl (fun c16 => ?_) (fun p16 c16 => ?_)
      · cases c16
      · refine a_aload (n := 21) dX9_seed_19 rfl rfl ?_
        refine a_ifnonnull (t := 29) (n := 24) dX9_seed_21 rfl rfl (fun p21 c21 => ?_) (fun c21 => ?_)
        · cases c21
        · refine a_iload_n (n := 25) dX9_seed_24 rfl rfl ?_
          refine a_iconst (n := 26) dX9_seed_25 rfl ⟨by decide, by decide⟩ ?_
          refine a_icmp_ne (t := 37) (n := 29) dX9_seed_26 rfl rfl (fun c26 => ?_) (fun c26 => ?_)
          · refine a_iconst (n := 38) dX9_seed_37 rfl ⟨by decide, by decide⟩ ?_
            refine a_ireturn dX9_seed_38 rfl ?_
            exact Or.inr ⟨fun q => q.2.1.elim (fun e => c26 e) hp9, rfl, rfl, rfl, rfl, rfl⟩
          · refine a_aload_n (n := 30) dX9_seed_29 rfl rfl ?_
            refine a_iload_n (n := 31) dX9_seed_30 rfl rfl ?_
            refine a_callV (M2 := mX9_canEnter) (n := 34) dX9_seed_31 rfl (c_canEnter (d := d + 1) hz hR) kX9_canEnter lX9_75 iX9_canEnter eX9_canEnter (by decide) (by omega) (s0 hz) rfl (Nat.le_of_ble_eq_true rfl) (fun q31 z31 hr31 hi31 hl31 h31 => ?_)
            obtain ⟨e131, e231, e331, e431, b31, rfl, hb31⟩ := h31
            obtain rfl := e131.symm
            obtain rfl := e231.symm
            obtain rfl := e331.symm
            obtain rfl := e431.symm
            show a_wp G _ _ _ _ (vI b31 :: _) _ _ _ _ _
            refine a_if_ne (t := 39) (n := 37) dX9_seed_34 rfl rfl (fun c34 => ?_) (fun c34 => ?_)
            · replace hb31 := isB_t hb31 (by omega)
              refine a_aload_n (n := 40) dX9_seed_39 rfl rfl ?_
              refine a_new (t := 3) (len := 17) (n := 43) dX9_seed_40 rfl (by decide) rfl nX9_9 q3 qi3 (by omega) ?_
              have hmz : pC hr mo ≠ z.1 := by have := f22.1; omega
              replace hR := hR.cl hz
              have hz0 := hz.1
              replace hz := hz.al (t := 3) (len := 17)
              replace f22 := f22.al (t2 := 3) (l2 := 17)
              refine a_dup (n := 44) dX9_seed_43 rfl rfl ?_
              refine a_aload_n (n := 45) dX9_seed_44 rfl rfl ?_
              refine a_getI (n := 48) dX9_seed_45 rfl fX9_79 (s0 hz) ?_
              rw [cl0_n (by omega)]
              refine a_iconst (n := 49) dX9_seed_48 rfl ⟨by decide, by decide⟩ ?_
              refine a_aload (n := 51) dX9_seed_49 rfl rfl ?_
              refine a_aload (n := 53) dX9_seed_51 rfl rfl ?_
              refine a_iload_n (n := 54) dX9_seed_53 rfl rfl ?_
              refine a_callI (M2 := mX3_init_) (n := 57) dX9_seed_54 rfl (c_seedInit1 (d := d) a_al_new f22 hmz (by show z.1 + 1 < _; omega)) kX3_init_ lX9_93 iX3_init_ rfl rfl (by omega) a_al_new.1 rfl (Nat.le_of_ble_eq_true rfl) (fun q54 z54 hr54 hi54 hl54 h54 => ?_)
              rw [cl0_n hmz, cl0_n hmz] at h54
              obtain ⟨rfl, rfl, rfl, rfl, rfl⟩ := h54
              have hz2 : stZ (a_al (a_al z 3 17) 20 8) := hz.al
              have hR2 : stR (ofR (cl0 (cl0 hr z.1 none) (z.1 + 1) none) z.1 (z.1 + 1) (pC hr mo) none) := (((((hR.cl (z := a_al z 3 17) hz)).hi80 hz0).hi80 hz0).hi80 hz0)
              have h09 : (ofI (cl0 (cl0 hi z.1 0) (z.1 + 1) 0) z.1 (hi 0 9) 1 (hi (pC hr mo) 4) (hi (pC hr mo) 5) 0 m) 0 9 = hi 0 9 := by
                rw [ofI_n (by omega), cl0_n (by omega), cl0_n (by omega)]
              clear hz
              have hz := hz2
              show a_wp G _ _ _ _ (vR z.1 :: _) _ _ _ _ _
              refine a_callV (M2 := mX9_enter) (n := 60) dX9_seed_57 rfl (c_enter (d := d + 1) (hi := (ofI (cl0 (cl0 hi z.1 0) (z.1 + 1) 0) z.1 (hi 0 9) 1 (hi (pC hr mo) 4) (hi (pC hr mo) 5) 0 m)) hz2 hR2 (a_al_new.al) hz0 (by rw [h09]; omega)) kX9_enter lX9_85 iX9_enter eX9_enter (by decide) (by omega) (s0 hz) rfl (Nat.le_of_ble_eq_true rfl) (fun q57 z57 hr57 hi57 hl57 h57 => ?_)
              rw [h09, ofI_0] at h57
              obtain ⟨rfl, rfl, rfl, rfl, rfl⟩ := h57
              show a_wp G _ _ _ _ (vI (hi 0 9) :: _) _ _ _ _ _
              refine a_ireturn dX9_seed_60 rfl ?_
              exact Or.inl ⟨⟨hp2, Or.inl (by omega), hb31⟩, rfl, by rw [if_pos (by omega)], rfl, rfl, rfl⟩
            · replace hb31 := isB_f hb31 (by omega)
              refine a_iconst (n := 38) dX9_seed_37 rfl ⟨by decide, by decide⟩ ?_
              refine a_ireturn dX9_seed_38 rfl ?_
              exact Or.inr ⟨fun q => hb31 q.2.2, rfl, rfl, rfl, rfl, rfl⟩
  · show a_wp G _ _ _ _ (vO none :: _) _ _ _ _ _
    refine b_astore (n := 7) dX9_seed_5 rfl (by decide) rfl ?_
    refine a_aload_n (n := 8) dX9_seed_7 rfl rfl ?_
    refine a_iload_n (n := 9) dX9_seed_8 rfl rfl ?_
    refine a_callV (M2 := mX9_plantAt) (n := 12) dX9_seed_9 rfl (c_plantAt (d := d + 1) hz hR hn) kX9_plantAt lX9_89 iX9_plantAt eX9_plantAt (by decide) (by omega) (s0 hz) rfl (Nat.le_of_ble_eq_true rfl) (fun q9 z9 hr9 hi9 hl9 h9 => ?_)
    obtain ⟨e19, e29, e39, e49, h9⟩ := h9
    obtain rfl := e19.symm
    obtain rfl := e29.symm
    obtain rfl := e39.symm
    obtain rfl := e49.symm
    rcases h9 with ⟨hp9, rfl⟩ | ⟨hp9, rfl⟩
    · obtain ⟨f19, f29, f39, f49⟩ := hW.at_ hp9.1 hp9.2
      rw [f19]
      show a_wp G _ _ _ _ (vR (pC hr fa) :: _) _ _ _ _ _
      refine b_astore (n := 14) dX9_seed_12 rfl (by decide) rfl ?_
      refine a_aload (n := 16) dX9_seed_14 rfl rfl ?_
      refine a_ifnull (t := 37) (n := 19) dX9_seed_16 rfl rfl (fun c16 => ?_) (fun p16 c16 => ?_)
      · refine a_iconst (n := 38) dX9_seed_37 rfl ⟨by decide, by decide⟩ ?_
        refine a_ireturn dX9_seed_38 rfl ?_
        exact Or.inr ⟨fun q => hp2 q.1, rfl, rfl, rfl, rfl, rfl⟩
      · cases c16
    · show a_wp G _ _ _ _ (vO none :: _) _ _ _ _ _
      refine b_astore (n := 14) dX9_seed_12 rfl (by decide) rfl ?_
      refine a_aload (n := 16) dX9_seed_14 rfl rfl ?_
      refine a_ifnull (t := 37) (n := 19) dX9_seed_16 rfl rfl (fun c16 => ?_) (fun p16 c16 => ?_)
      · refine a_iconst (n := 38) dX9_seed_37 rfl ⟨by decide, by decide⟩ ?_
        refine a_ireturn dX9_seed_38 rfl ?_
        exact Or.inr ⟨fun q => hp2 q.1, rfl, rfl, rfl, rfl, rfl⟩
      · cases c16
end C26
