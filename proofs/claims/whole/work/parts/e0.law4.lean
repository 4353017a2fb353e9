/-! the law from its beginning *) -/
section LAW4
variable {G : aG} {d N : Nat} {xs : Nat → Int32} {z : aZ} {hr : aR} {hi hl : aI}
set_option maxRecDepth 100000 in
set_option maxHeartbeats 4000000 in
theorem w_law (hL : gL G N xs) (hN9 : N < 100000) (hz0 : z.1 = 0) (hz2 : z.2.1 = 0) : a_wp G mL_law (d + 31) 0 [some (vR 1000000500), none, none, none, none, none, none] [] z hr hi hl (lawQ N) := by
  have hN := hL.1
  have hA := hL.2.2.2.1
  have hB : bS 0 [] 0 z hr hi hl := ⟨hz0, hz2, fun a ha => absurd ha (Nat.not_lt_zero a), fun a ha => absurd ha (Nat.not_lt_zero a), fun a ha => absurd ha (Nat.not_lt_zero a), fun a ha => absurd ha (Nat.not_lt_zero a)⟩
  refine e_new (t := 9) (len := 12) (p2 := 3) hB dL_law_0 rfl (by decide) rfl nL_8 q9 qi9 (by decide) rfl (by decide) (by decide) (n9 := 1) rfl (fun z hr hi hl hB => ?_)
  refine a_dup (n := 4) dL_law_3 rfl rfl ?_
  refine a_callI (M2 := mX9_init) (n := 7) dL_law_4 rfl (i_X9_init_0 (d := d + 27) hN hA hB) kX9_init lL_19 iX9_init rfl rfl (by omega) (by rw [hB.1]; decide) rfl (Nat.le_of_ble_eq_true rfl) (fun r z hr hi hl hB => ?_)
  obtain ⟨rfl, hB⟩ := hB
  show a_wp G _ _ _ _ [vR 0] _ _ _ _ _
  refine b_astore_n (n := 8) dL_law_7 rfl (by decide) rfl ?_
  refine e_new (t := 10) (len := 56) (p2 := 11) hB dL_law_8 rfl (by decide) rfl nL_20 q10 qi10 (by decide) rfl (by decide) (by decide) (n9 := 38) rfl (fun z hr hi hl hB => ?_)
  refine a_dup (n := 12) dL_law_11 rfl rfl ?_
  refine a_callI (M2 := mX10_init) (n := 15) dL_law_12 rfl (i_X10_init_37 (d := d + 29) hB) kX10_init lL_22 iX10_init rfl rfl (by omega) (by rw [hB.1]; decide) rfl (Nat.le_of_ble_eq_true rfl) (fun r z hr hi hl hB => ?_)
  obtain ⟨rfl, hB⟩ := hB
  show a_wp G _ _ _ _ [vR 37] _ _ _ _ _
  refine b_astore_n (n := 16) dL_law_15 rfl (by decide) rfl ?_
  refine a_iconst (n := 17) dL_law_16 rfl ⟨by decide, by decide⟩ ?_
  refine a_newaJ (n := 19) dL_law_17 rfl (by decide) (by decide) (by rw [hB.1]; decide) ?_
  have hT : bT 81 (li_X10 li_X9) 40 (a_al z 21 1) (cl0 hr z.1 none) (cl0 hi z.1 0) (cl0 hl z.1 0) := hB.nw (t := 21) (len := 1) rfl (by decide) (by decide)
  have e79 := hB.1
  rw [e79] at hT ⊢
  refine b_astore_n (n := 20) dL_law_19 rfl (by decide) rfl ?_
  refine a_iconst (n := 21) dL_law_20 rfl ⟨by decide, by decide⟩ ?_
  refine b_istore (n := 23) dL_law_21 rfl (by decide) rfl ?_
  exact w_lp hL hN9 N 0 0 _ _ (by omega) (by decide) (by omega) (by decide) (RR_0 hT)
end LAW4
