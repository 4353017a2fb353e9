/-! the law from its beginning *) -/
section LAW4
variable {G : aG} {d N : Nat} {xs : Nat → Int32} {z : aZ} {hr : aR} {hi hl : aI}
theorem gL_sg (hq : gq G = false) (h : gL G N xs) : gL (sg G true) N xs := by
  obtain ⟨h1, ⟨s1, s2, ⟨v0, s3⟩, s4⟩, h3, h4, h5, h6⟩ := h
  refine ⟨h1, ⟨s1, s2, ⟨v0.map pv, fun U hU => ?_⟩, s4⟩, h3, h4, h5, fun U hU => ?_⟩
  · have s9 := s3 U hU
    have e : (v0.map pv).map (a_ca (sg G true)) = v0.map (a_ca G) := by
      cases v0 with
      | none => rfl
      | some a => show some _ = some _; rw [ca_f, sg_f hq]
    rw [e]
    exact s9
  · have h9 := h6 U hU
    rw [a_ca_x (k := 500) rfl] at h9 ⊢
    exact h9
/-- what the law comes to *) -/
def lawE (N : Nat) : Option aV → aZ → aR → aI → aI → Prop := fun r z' _ _ _ => r = some (vI 1) ∧ ∃ k' : Nat, 7 * (k' : Int) ≤ N + 7 ∧ z'.1 ≤ 81 + 2 * k' ∧ z'.2.1 ≤ slT 81 + 25 * k'
set_option maxRecDepth 100000 in
set_option maxHeartbeats 4000000 in
theorem w_law (hq : gq G = false) (hL : gL G N xs) (hN9 : N < 100000) (hz0 : z.1 = 0) (hz2 : z.2.1 = 0) : a_wp G mL_law (d + 31) 0 [some (vR 1000000500), none, none, none, none, none, none] [] z hr hi hl (lawE N) := by
  have hN := hL.1
  have hA := hL.2.2.2.1
  have hB : bS 0 [] 0 z hr hi hl := ⟨hz0, hz2, fun a ha => absurd ha (Nat.not_lt_zero a), fun a ha => absurd ha (Nat.not_lt_zero a), fun a ha => absurd ha (Nat.not_lt_zero a), fun a ha => absurd ha (Nat.not_lt_zero a)⟩
  refine e_new (t := 9) (len := 12) (p2 := 3) hB dL_law_0 rfl (by decide) rfl nL_8 q9 qi9 (by decide) rfl (by decide) (by decide) (n9 := 1) rfl (fun z hr hi hl hB => ?_)
  refine a_dup (n := 4) dL_law_3 rfl rfl ?_
  refine a_callI (M2 := mX9_init) (n := 7) dL_law_4 rfl (i_X9_init_0 (d := d + 27) hN hA hB) kX9_init lL_19 iX9_init rfl rfl (by omega) (by rw [hB.1]; decide) rfl (Nat.le_of_ble_eq_true rfl) (fun r z hr hi hl hB => ?_)
  obtain ⟨rfl, hB⟩ := hB
  show a_wp G _ _ _ _ [vR 0] _ _ _ _ _
  refine b_astore_n (n := 8) dL_law_7 rfl (by decide) rfl ?_
  refine e_new (t := 10) (len := 56) (p2 := 11) hB dL_law_8 rfl (by decide) rfl nL_20 q10 qi10 (by decide) rfl (by decide) (by decide) (n9 := 39) rfl (fun z hr hi hl hB => ?_)
  refine a_dup (n := 12) dL_law_11 rfl rfl ?_
  refine a_callI (M2 := mX10_init) (n := 15) dL_law_12 rfl (i_X10_init_38 (d := d + 29) hB) kX10_init lL_22 iX10_init rfl rfl (by omega) (by rw [hB.1]; decide) rfl (Nat.le_of_ble_eq_true rfl) (fun r z hr hi hl hB => ?_)
  obtain ⟨rfl, hB⟩ := hB
  show a_wp G _ _ _ _ [vR 38] _ _ _ _ _
  refine b_astore_n (n := 16) dL_law_15 rfl (by decide) rfl ?_
  refine a_iconst (n := 17) dL_law_16 rfl ⟨by decide, by decide⟩ ?_
  refine a_newaJ (n := 19) dL_law_17 rfl (by decide) (by decide) (by rw [hB.1]; decide) ?_
  have hT : bT 81 (li_X10 li_X9) 40 (a_al z 21 1) (cl0 hr z.1 none) (cl0 hi z.1 0) (cl0 hl z.1 0) := hB.nw (t := 21) (len := 1) rfl (by decide) (by decide)
  have e79 := hB.1
  rw [e79] at hT ⊢
  refine b_astore_n (n := 20) dL_law_19 rfl (by decide) rfl ?_
  refine a_iconst (n := 21) dL_law_20 rfl ⟨by decide, by decide⟩ ?_
  refine b_istore (n := 23) dL_law_21 rfl (by decide) rfl ?_
  have K := w_lp (d := d) (gL_sg hq hL) hN9 N 0 0 none none (by omega) (by decide) (by omega) (by decide) (RR_0 hT)
  have K2 := a_sw (G := G) (L := [some (vR 1000000500), some (vR 0), some (vR 38), some (vR 80), some (vI 0), none, none]) (Nat.le_of_eq hT.1.symm) (fun r _ _ _ _ h => ⟨1, h.1⟩) K
  rw [sg_f hq] at K2
  exact K2.mono (fun r z' hr' hi' hl' ⟨z2, hr2, hi2, hl2, ⟨q1, k', q2, q3⟩, e1, e2⟩ => ⟨q1, k', q2, by rw [e1]; exact q3.1.2.2.1, by rw [e2]; exact q3.1.2.2.2⟩)
end LAW4
