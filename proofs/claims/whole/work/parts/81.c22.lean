section C22
variable {G : aG} {d : Nat} {z : aZ} {hr : aR} {hi hl : aI}
theorem stZ.al {t : Nat} {len : Int} (h : stZ z) : stZ (a_al z t len) := ⟨Nat.le_succ_of_le h.1, fun a ha => by
  show (if a = z.1 then _ else _) = _
  rw [if_neg (by have := h.1; omega)]
  exact h.2 a ha⟩
theorem rT_80 : ∀ q ∈ rT, q.1 < 81 := by decide
theorem stR.cl (hz : stZ z) (h : stR hr) : stR (cl0 hr z.1 none) := fun q hq => by
  have h1 := rT_80 q hq
  have h2 := hz.1
  rw [cl0_n (by omega)]
  exact h q hq
set_option maxRecDepth 100000 in
set_option maxHeartbeats 4000000 in
theorem c_bed (hz : stZ z) (hR : stR hr) (hz1 : z.1 < 900000000) {l w m : Int} (hnB : 0 ≤ hi 0 10 ∧ hi 0 10 ≤ 8) : a_ct G mX9_bed (d + 2) [vR 0, vI l, vI w, vI m] z hr hi hl (fun r z' hr' hi' hl' => (((0 ≤ l ∧ l ≤ 9) ∧ (0 ≤ w ∧ w ≤ 9) ∧ (1 ≤ m ∧ m ≤ 40) ∧ hi 0 10 < 8) ∧ z' = a_al z 0 3 ∧ hr' = up2 (cl0 hr z.1 none) 2 (hi 0 10) (some z.1) ∧ hl' = cl0 hl z.1 0 ∧ r = some (vI (hi 0 10)) ∧ hi' = up2 (up2 (up2 (up2 (cl0 hi z.1 0) z.1 0 l) z.1 1 w) z.1 2 m) 0 10 (hi 0 10 + 1)) ∨ (¬ ((0 ≤ l ∧ l ≤ 9) ∧ (0 ≤ w ∧ w ≤ 9) ∧ (1 ≤ m ∧ m ≤ 40) ∧ hi 0 10 < 8) ∧ z' = z ∧ hr' = hr ∧ hl' = hl ∧ r = some (vI (-1)) ∧ hi' = hi)) := by
  refine a_ct_of rfl (Nat.le_of_ble_eq_true rfl) ?_
  refine a_iload_n (n := 1) dX9_bed_0 rfl rfl ?_
  refine a_callS (M2 := mX9_isDigit) (n := 4) dX9_bed_1 rfl (c_isDigit (d := d)) kX9_isDigit lX9_99 sX9_isDigit (by omega) rfl (Nat.le_of_ble_eq_true rfl) (fun q1 z1 hr1 hi1 hl1 h1 => ?_)
  obtain ⟨e11, e21, e31, e41, b1, rfl, hb1⟩ := h1
  obtain rfl := e11.symm
  obtain rfl := e21.symm
  obtain rfl := e31.symm
  obtain rfl := e41.symm
  show a_wp G _ _ _ _ (vI b1 :: _) _ _ _ _ _
  refine a_if_eq (t := 33) (n := 7) dX9_bed_4 rfl rfl (fun c4 => ?_) (fun c4 => ?_)
  · replace hb1 := isB_f hb1 (by omega)
    refine a_iconst (n := 34) dX9_bed_33 rfl ⟨by decide, by decide⟩ ?_
    refine a_ireturn dX9_bed_34 rfl ?_
    exact Or.inr ⟨fun q => hb1 q.1, rfl, rfl, rfl, rfl, rfl⟩
  · replace hb1 := isB_t hb1 (by omega)
    refine a_iload_n (n := 8) dX9_bed_7 rfl rfl ?_
    refine a_callS (M2 := mX9_isDigit) (n := 11) dX9_bed_8 rfl (c_isDigit (d := d)) kX9_isDigit lX9_99 sX9_isDigit (by omega) rfl (Nat.le_of_ble_eq_true rfl) (fun q8 z8 hr8 hi8 hl8 h8 => ?_)
    obtain ⟨e18, e28, e38, e48, b8, rfl, hb8⟩ := h8
    obtain rfl := e18.symm
    obtain rfl := e28.symm
    obtain rfl := e38.symm
    obtain rfl := e48.symm
    show a_wp G _ _ _ _ (vI b8 :: _) _ _ _ _ _
    refine a_if_eq (t := 33) (n := 14) dX9_bed_11 rfl rfl (fun c11 => ?_) (fun c11 => ?_)
    · replace hb8 := isB_f hb8 (by omega)
      refine a_iconst (n := 34) dX9_bed_33 rfl ⟨by decide, by decide⟩ ?_
      refine a_ireturn dX9_bed_34 rfl ?_
      exact Or.inr ⟨fun q => hb8 q.2.1, rfl, rfl, rfl, rfl, rfl⟩
    · replace hb8 := isB_t hb8 (by omega)
      refine a_iload_n (n := 15) dX9_bed_14 rfl rfl ?_
      refine a_iconst (n := 16) dX9_bed_15 rfl ⟨by decide, by decide⟩ ?_
      refine a_bipush (n := 18) dX9_bed_16 rfl ⟨by decide, by decide⟩ (by decide) ?_
      refine a_callS (M2 := mX9_within) (n := 21) dX9_bed_18 rfl (c_within (d := d + 1)) kX9_within lX9_67 sX9_within (by omega) rfl (Nat.le_of_ble_eq_true rfl) (fun q18 z18 hr18 hi18 hl18 h18 => ?_)
      obtain ⟨e118, e218, e318, e418, b18, rfl, hb18⟩ := h18
      obtain rfl := e118.symm
      obtain rfl := e218.symm
      obtain rfl := e318.symm
      obtain rfl := e418.symm
      show a_wp G _ _ _ _ (vI b18 :: _) _ _ _ _ _
      refine a_if_eq (t := 33) (n := 24) dX9_bed_21 rfl rfl (fun c21 => ?_) (fun c21 => ?_)
      · replace hb18 := isB_f hb18 (by omega)
        refine a_iconst (n := 34) dX9_bed_33 rfl ⟨by decide, by decide⟩ ?_
        refine a_ireturn dX9_bed_34 rfl ?_
        exact Or.inr ⟨fun q => hb18 q.2.2.1, rfl, rfl, rfl, rfl, rfl⟩
      · replace hb18 := isB_t hb18 (by omega)
        refine a_aload_n (n := 25) dX9_bed_24 rfl rfl ?_
        refine a_getI (n := 28) dX9_bed_25 rfl fX9_131 (s0 hz) ?_
        refine a_bipush (n := 30) dX9_bed_28 rfl ⟨by decide, by decide⟩ (by decide) ?_
        refine a_icmp_lt (t := 35) (n := 33) dX9_bed_30 rfl rfl (fun c30 => ?_) (fun c30 => ?_)
        · refine a_aload_n (n := 36) dX9_bed_35 rfl rfl ?_
          refine a_getR (n := 39) dX9_bed_36 rfl fX9_17 (s0 hz) (r0_1 hR) ?_
          refine a_aload_n (n := 40) dX9_bed_39 rfl rfl ?_
          refine a_getI (n := 43) dX9_bed_40 rfl fX9_131 (s0 hz) ?_
          refine a_new (t := 0) (len := 3) (n := 46) dX9_bed_43 rfl (by decide) rfl nX9_15 q0 qi0 (by omega) ?_
          replace hR := hR.cl hz
          have hz0 := hz.1
          replace hz := hz.al (t := 0) (len := 3)
          refine a_dup (n := 47) dX9_bed_46 rfl rfl ?_
          refine a_iload_n (n := 48) dX9_bed_47 rfl rfl ?_
          refine a_iload_n (n := 49) dX9_bed_48 rfl rfl ?_
          refine a_iload_n (n := 50) dX9_bed_49 rfl rfl ?_
          refine a_callI (M2 := mX0_init) (n := 53) dX9_bed_50 rfl (c_bedInit (d := d) a_al_new) kX0_init lX9_134 iX0_init rfl rfl (by omega) a_al_new.1 rfl (Nat.le_of_ble_eq_true rfl) (fun q50 z50 hr50 hi50 hl50 h50 => ?_)
          obtain ⟨e150, e250, e350, rfl, rfl⟩ := h50
          obtain rfl := e150.symm
          obtain rfl := e250.symm
          obtain rfl := e350.symm
          have hrd : (up2 (up2 (up2 (cl0 hi z.1 0) z.1 0 l) z.1 1 w) z.1 2 m) 0 10 = hi 0 10 := by
            rw [up2_n (by omega), up2_n (by omega), up2_n (by omega), cl0_n (by omega)]
          show a_wp G _ _ _ _ (vR z.1 :: _) _ _ _ _ _
          refine a_aast (n := 54) dX9_bed_53 rfl (s2 hz) a_al_new (by decide) (by omega) (by omega) ?_
          refine a_aload_n (n := 55) dX9_bed_54 rfl rfl ?_
          refine a_dup (n := 56) dX9_bed_55 rfl rfl ?_
          refine a_getI (n := 59) dX9_bed_56 rfl fX9_131 (s0 hz) ?_
          rw [hrd]
          refine a_iconst (n := 60) dX9_bed_59 rfl ⟨by decide, by decide⟩ ?_
          refine a_iadd (n := 61) dX9_bed_60 rfl ⟨by omega, by omega⟩ ?_
          refine a_putI (n := 64) dX9_bed_61 rfl fX9_131 rfl (s0 hz) (Or.inl rfl) ?_
          refine a_aload_n (n := 65) dX9_bed_64 rfl rfl ?_
          refine a_getI (n := 68) dX9_bed_65 rfl fX9_131 (s0 hz) ?_
          rw [up2_s]
          refine a_iconst (n := 69) dX9_bed_68 rfl ⟨by decide, by decide⟩ ?_
          refine a_isub (n := 70) dX9_bed_69 rfl ⟨by omega, by omega⟩ ?_
          refine a_ireturn dX9_bed_70 rfl ?_
          exact Or.inl ⟨⟨hb1, hb8, hb18, by omega⟩, rfl, rfl, rfl, by rw [show hi 0 10 + 1 - 1 = hi 0 10 by omega], rfl⟩
        · refine a_iconst (n := 34) dX9_bed_33 rfl ⟨by decide, by decide⟩ ?_
          refine a_ireturn dX9_bed_34 rfl ?_
          exact Or.inr ⟨fun q => by have := q.2.2.2; omega, rfl, rfl, rfl, rfl, rfl⟩
end C22
