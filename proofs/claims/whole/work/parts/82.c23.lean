section C23
variable {G : aG} {d : Nat} {z : aZ} {hr : aR} {hi hl : aI}
/-- the fields of a new WILD PLANT in cell a, and its links *) -/
def wldI (h : aI) (a : Nat) (n pl m : Int) : aI := up2 (up2 (up2 (up2 (up2 (up2 (up2 (up2 (up2 h a 10 9) a 12 9) a 13 (-1)) a 0 n) a 1 0) a 4 n) a 5 pl) a 6 0) a 8 m
def wldR (h : aR) (a b : Nat) : aR := up2 (up2 (up2 h a 7 (some b)) a 2 none) a 3 none
set_option maxRecDepth 100000 in
set_option maxHeartbeats 4000000 in
theorem c_wildInit {a : Nat} {n pl m : Int} (ha : a_is z a 3 17) (hz1 : z.1 < 900000000) : a_ct G mX3_init (d + 1) [vR a, vI n, vI pl, vI m] z hr hi hl (fun r z' hr' hi' hl' => z' = a_al z 20 8 ∧ hr' = wldR (cl0 hr z.1 none) a z.1 ∧ hl' = cl0 hl z.1 0 ∧ r = none ∧ hi' = wldI (cl0 hi z.1 0) a n pl m) := by
  refine a_ct_of rfl (Nat.le_of_ble_eq_true rfl) ?_
  refine a_aload_n (n := 1) dX3_init_0 rfl rfl ?_
  refine a_objInit (n := 4) dX3_init_1 rfl oX3_3 (by omega) ha.1 (Nat.le_of_ble_eq_true rfl) ?_
  refine a_aload_n (n := 5) dX3_init_4 rfl rfl ?_
  refine a_bipush (n := 7) dX3_init_5 rfl ⟨by decide, by decide⟩ (by decide) ?_
  refine a_newaI (n := 9) dX3_init_7 rfl (by decide) (by decide) (by omega) ?_
  replace ha := ha.al (t2 := 20) (l2 := 8)
  refine a_putO (n := 12) dX3_init_9 rfl fX3_9 ha (Or.inr ⟨rfl, rfl, rfl⟩) ?_
  refine a_aload_n (n := 13) dX3_init_12 rfl rfl ?_
  refine a_bipush (n := 15) dX3_init_13 rfl ⟨by decide, by decide⟩ (by decide) ?_
  refine a_putI (n := 18) dX3_init_15 rfl fX3_15 rfl ha (Or.inl rfl) ?_
  refine a_aload_n (n := 19) dX3_init_18 rfl rfl ?_
  refine a_bipush (n := 21) dX3_init_19 rfl ⟨by decide, by decide⟩ (by decide) ?_
  refine a_putI (n := 24) dX3_init_21 rfl fX3_19 rfl ha (Or.inl rfl) ?_
  refine a_aload_n (n := 25) dX3_init_24 rfl rfl ?_
  refine a_iconst (n := 26) dX3_init_25 rfl ⟨by decide, by decide⟩ ?_
  refine a_putI (n := 29) dX3_init_26 rfl fX3_22 rfl ha (Or.inl rfl) ?_
  refine a_aload_n (n := 30) dX3_init_29 rfl rfl ?_
  refine a_iload_n (n := 31) dX3_init_30 rfl rfl ?_
  refine a_putI (n := 34) dX3_init_31 rfl fX3_25 rfl ha (Or.inr ⟨rfl, rfl, rfl⟩) ?_
  refine a_aload_n (n := 35) dX3_init_34 rfl rfl ?_
  refine a_iconst (n := 36) dX3_init_35 rfl ⟨by decide, by decide⟩ ?_
  refine a_putI (n := 39) dX3_init_36 rfl fX3_28 rfl ha (Or.inr ⟨rfl, rfl, rfl⟩) ?_
  refine a_aload_n (n := 40) dX3_init_39 rfl rfl ?_
  refine a_null (n := 41) dX3_init_40 rfl ?_
  refine a_putO (n := 44) dX3_init_41 rfl fX3_31 ha (Or.inr ⟨rfl, rfl, rfl⟩) ?_
  refine a_aload_n (n := 45) dX3_init_44 rfl rfl ?_
  refine a_null (n := 46) dX3_init_45 rfl ?_
  refine a_putO (n := 49) dX3_init_46 rfl fX3_35 ha (Or.inr ⟨rfl, rfl, rfl⟩) ?_
  refine a_aload_n (n := 50) dX3_init_49 rfl rfl ?_
  refine a_iload_n (n := 51) dX3_init_50 rfl rfl ?_
  refine a_putI (n := 54) dX3_init_51 rfl fX3_38 rfl ha (Or.inr ⟨rfl, rfl, rfl⟩) ?_
  refine a_aload_n (n := 55) dX3_init_54 rfl rfl ?_
  refine a_iload_n (n := 56) dX3_init_55 rfl rfl ?_
  refine a_putI (n := 59) dX3_init_56 rfl fX3_41 rfl ha (Or.inr ⟨rfl, rfl, rfl⟩) ?_
  refine a_aload_n (n := 60) dX3_init_59 rfl rfl ?_
  refine a_iconst (n := 61) dX3_init_60 rfl ⟨by decide, by decide⟩ ?_
  refine a_putZ (n := 64) dX3_init_61 rfl fX3_44 rfl ha (Or.inr ⟨rfl, rfl, rfl⟩) (by omega) ?_
  refine a_aload_n (n := 65) dX3_init_64 rfl rfl ?_
  refine a_iload_n (n := 66) dX3_init_65 rfl rfl ?_
  refine a_putI (n := 69) dX3_init_66 rfl fX3_48 rfl ha (Or.inl rfl) ?_
  refine a_return dX3_init_69 rfl ?_
  exact ⟨rfl, rfl, rfl, rfl, rfl⟩
set_option maxRecDepth 100000 in
set_option maxHeartbeats 4000000 in
theorem c_enter (hz : stZ z) (hR : stR hr) {a : Nat} (ha : a_is z a 3 17) (h80 : 81 ≤ a) (hn : 0 ≤ hi 0 9 ∧ hi 0 9 < 40) : a_ct G mX9_enter (d + 0) [vR 0, vR a] z hr hi hl (fun r z' hr' hi' hl' => z' = z ∧ hr' = up2 hr 1 (hi 0 9) (some a) ∧ hl' = hl ∧ r = some (vI (hi a 0)) ∧ hi' = up2 hi 0 9 (hi 0 9 + 1)) := by
  refine a_ct_of rfl (Nat.le_of_ble_eq_true rfl) ?_
  refine a_aload_n (n := 1) dX9_enter_0 rfl rfl ?_
  refine a_getR (n := 4) dX9_enter_1 rfl fX9_11 (s0 hz) (r0_0 hR) ?_
  refine a_aload_n (n := 5) dX9_enter_4 rfl rfl ?_
  refine a_getI (n := 8) dX9_enter_5 rfl fX9_79 (s0 hz) ?_
  refine a_aload_n (n := 9) dX9_enter_8 rfl rfl ?_
  refine a_aast (n := 10) dX9_enter_9 rfl (s1 hz) ha (by decide) (by omega) (by omega) ?_
  refine a_aload_n (n := 11) dX9_enter_10 rfl rfl ?_
  refine a_dup (n := 12) dX9_enter_11 rfl rfl ?_
  refine a_getI (n := 15) dX9_enter_12 rfl fX9_79 (s0 hz) ?_
  refine a_iconst (n := 16) dX9_enter_15 rfl ⟨by decide, by decide⟩ ?_
  refine a_iadd (n := 17) dX9_enter_16 rfl ⟨by omega, by omega⟩ ?_
  refine a_putI (n := 20) dX9_enter_17 rfl fX9_79 rfl (s0 hz) (Or.inl rfl) ?_
  refine a_aload_n (n := 21) dX9_enter_20 rfl rfl ?_
  refine a_getI (n := 24) dX9_enter_21 rfl fX9_283 ha ?_
  rw [up2_n (by omega)]
  refine a_ireturn dX9_enter_24 rfl ?_
  exact ⟨rfl, rfl, rfl, rfl, rfl⟩
end C23
