section C24
variable {G : aG} {d : Nat} {z : aZ} {hr : aR} {hi hl : aI}
theorem stR.hi80 {a : Nat} {i : Int} {v : Option Nat} (h : stR hr) (ha : 81 ≤ a) : stR (up2 hr a i v) := fun q hq => by
  have h1 := rT_80 q hq
  rw [up2_n (by omega)]
  exact h q hq
theorem wldI_n {h : aI} {a x : Nat} {n pl m : Int} (hx : x ≠ a) : wldI h a n pl m x = h x := by
  unfold wldI
  rw [up2_f hx, up2_f hx, up2_f hx, up2_f hx, up2_f hx, up2_f hx, up2_f hx, up2_f hx, up2_f hx]
theorem wldI_0 {h : aI} {a : Nat} {n pl m : Int} : wldI h a n pl m a 0 = n := by
  unfold wldI
  rw [up2_m (by decide), up2_m (by decide), up2_m (by decide), up2_m (by decide), up2_m (by decide), up2_s]
set_option maxRecDepth 100000 in
set_option maxHeartbeats 4000000 in
theorem c_wild (hz : stZ z) (hR : stR hr) (hz1 : z.1 < 800000000) {pl m : Int} (hn : 0 ≤ hi 0 9 ∧ hi 0 9 ≤ 40) : a_ct G mX9_wild (d + 2) [vR 0, vI pl, vI m] z hr hi hl (fun r z' hr' hi' hl' => (((0 ≤ pl ∧ pl ≤ 99) ∧ (1 ≤ m ∧ m ≤ 100) ∧ hi 0 9 < 40) ∧ z' = a_al (a_al z 3 17) 20 8 ∧ hr' = up2 (wldR (cl0 (cl0 hr z.1 none) (z.1 + 1) none) z.1 (z.1 + 1)) 1 (hi 0 9) (some z.1) ∧ hl' = cl0 (cl0 hl z.1 0) (z.1 + 1) 0 ∧ r = some (vI (hi 0 9)) ∧ hi' = up2 (wldI (cl0 (cl0 hi z.1 0) (z.1 + 1) 0) z.1 (hi 0 9) pl m) 0 9 (hi 0 9 + 1)) ∨ (¬ ((0 ≤ pl ∧ pl ≤ 99) ∧ (1 ≤ m ∧ m ≤ 100) ∧ hi 0 9 < 40) ∧ z' = z ∧ hr' = hr ∧ hl' = hl ∧ r = some (vI (-1)) ∧ hi' = hi)) := by
  refine a_ct_of rfl (Nat.le_of_ble_eq_true rfl) ?_
  refine a_iload_n (n := 1) dX9_wild_0 rfl rfl ?_
  refine a_iconst (n := 2) dX9_wild_1 rfl ⟨by decide, by decide⟩ ?_
  refine a_bipush (n := 4) dX9_wild_2 rfl ⟨by decide, by decide⟩ (by decide) ?_
  refine a_callS (M2 := mX9_within) (n := 7) dX9_wild_4 rfl (c_within (d := d + 1)) kX9_within lX9_67 sX9_within (by omega) rfl (Nat.le_of_ble_eq_true rfl) (fun q4 z4 hr4 hi4 hl4 h4 => ?_)
  obtain ⟨e14, e24, e34, e44, b4, rfl, hb4⟩ := h4
  obtain rfl := e14.symm
  obtain rfl := e24.symm
  obtain rfl := e34.symm
  obtain rfl := e44.symm
  show a_wp G _ _ _ _ (vI b4 :: _) _ _ _ _ _
  refine a_if_eq (t := 18) (n := 10) dX9_wild_7 rfl rfl (fun c7 => ?_) (fun c7 => ?_)
  · replace hb4 := isB_f hb4 (by omega)
    refine a_iconst (n := 19) dX9_wild_18 rfl ⟨by decide, by decide⟩ ?_
    refine a_ireturn dX9_wild_19 rfl ?_
    exact Or.inr ⟨fun q => hb4 q.1, rfl, rfl, rfl, rfl, rfl⟩
  · replace hb4 := isB_t hb4 (by omega)
    refine a_aload_n (n := 11) dX9_wild_10 rfl rfl ?_
    refine a_iload_n (n := 12) dX9_wild_11 rfl rfl ?_
    refine a_callV (M2 := mX9_canEnter) (n := 15) dX9_wild_12 rfl (c_canEnter (d := d) hz hR) kX9_canEnter lX9_75 iX9_canEnter eX9_canEnter (by decide) (by omega) (s0 hz) rfl (Nat.le_of_ble_eq_true rfl) (fun q12 z12 hr12 hi12 hl12 h12 => ?_)
    obtain ⟨e112, e212, e312, e412, b12, rfl, hb12⟩ := h12
    obtain rfl := e112.symm
    obtain rfl := e212.symm
    obtain rfl := e312.symm
    obtain rfl := e412.symm
    show a_wp G _ _ _ _ (vI b12 :: _) _ _ _ _ _
    refine a_if_ne (t := 20) (n := 18) dX9_wild_15 rfl rfl (fun c15 => ?_) (fun c15 => ?_)
    · replace hb12 := isB_t hb12 (by omega)
      refine a_aload_n (n := 21) dX9_wild_20 rfl rfl ?_
      refine a_new (t := 3) (len := 17) (n := 24) dX9_wild_21 rfl (by decide) rfl nX9_9 q3 qi3 (by omega) ?_
      replace hR := hR.cl hz
      have hz0 := hz.1
      replace hz := hz.al (t := 3) (len := 17)
      refine a_dup (n := 25) dX9_wild_24 rfl rfl ?_
      refine a_aload_n (n := 26) dX9_wild_25 rfl rfl ?_
      refine a_getI (n := 29) dX9_wild_26 rfl fX9_79 (s0 hz) ?_
      rw [cl0_n (by omega)]
      refine a_iload_n (n := 30) dX9_wild_29 rfl rfl ?_
      refine a_iload_n (n := 31) dX9_wild_30 rfl rfl ?_
      refine a_callI (M2 := mX3_init) (n := 34) dX9_wild_31 rfl (c_wildInit (d := d) a_al_new (by show z.1 + 1 < _; omega)) kX3_init lX9_82 iX3_init rfl rfl (by omega) a_al_new.1 rfl (Nat.le_of_ble_eq_true rfl) (fun q31 z31 hr31 hi31 hl31 h31 => ?_)
      obtain ⟨rfl, rfl, rfl, rfl, rfl⟩ := h31
      have hz2 : stZ (a_al (a_al z 3 17) 20 8) := hz.al
      have hR2 : stR (wldR (cl0 (cl0 hr z.1 none) (z.1 + 1) none) z.1 (z.1 + 1)) := (((((hR.cl (z := a_al z 3 17) hz)).hi80 hz0).hi80 hz0).hi80 hz0)
      have h09 : (wldI (cl0 (cl0 hi z.1 0) (z.1 + 1) 0) z.1 (hi 0 9) pl m) 0 9 = hi 0 9 := by
        rw [wldI_n (by omega), cl0_n (by omega), cl0_n (by omega)]
      clear hz
      have hz := hz2
      show a_wp G _ _ _ _ (vR z.1 :: _) _ _ _ _ _
      refine a_callV (M2 := mX9_enter) (n := 37) dX9_wild_34 rfl (c_enter (d := d + 1) (hi := (wldI (cl0 (cl0 hi z.1 0) (z.1 + 1) 0) z.1 (hi 0 9) pl m)) hz2 hR2 (a_al_new.al) hz0 (by rw [h09]; omega)) kX9_enter lX9_85 iX9_enter eX9_enter (by decide) (by omega) (s0 hz) rfl (Nat.le_of_ble_eq_true rfl) (fun q34 z34 hr34 hi34 hl34 h34 => ?_)
      rw [h09, wldI_0] at h34
      obtain ⟨rfl, rfl, rfl, rfl, rfl⟩ := h34
      show a_wp G _ _ _ _ (vI (hi 0 9) :: _) _ _ _ _ _
      refine a_ireturn dX9_wild_37 rfl ?_
      exact Or.inl ⟨⟨hb4, hb12⟩, rfl, rfl, rfl, rfl, rfl⟩
    · replace hb12 := isB_f hb12 (by omega)
      refine a_iconst (n := 19) dX9_wild_18 rfl ⟨by decide, by decide⟩ ?_
      refine a_ireturn dX9_wild_19 rfl ?_
      exact Or.inr ⟨fun q => hb12 q.2, rfl, rfl, rfl, rfl, rfl⟩
end C24
