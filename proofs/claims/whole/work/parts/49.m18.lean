section M18
variable {G : aG} {d : Nat} {z : aZ} {hr : aR} {kd pl nu : Int → Int}
set_option maxRecDepth 100000 in
set_option maxHeartbeats 4000000 in
theorem m_cutAll (hz : stZ z) (hR : stR hr) {hi hl : aI} (ht : 0 ≤ hi 37 2 ∧ hi 37 2 ≤ 600) (hc : ∀ i, 0 ≤ i → i < hi 37 2 → 0 ≤ hi 38 i ∧ hi 38 i ≤ 255) : a_ct G mX10_cutAll (d + 2) [vR 37] z hr hi hl (CQ z hr (hi 38) (hi 37 2) (up2 (up2 hi 37 3 (hi 37 2)) 37 2 0) hl) := by
  refine a_ct_of rfl (Nat.le_of_ble_eq_true rfl) ?_
  refine a_aload_n (n := 1) dX10_cutAll_0 rfl rfl ?_
  refine a_aload_n (n := 2) dX10_cutAll_1 rfl rfl ?_
  refine a_getI (n := 5) dX10_cutAll_2 rfl fX10_11 (s37 hz) ?_
  refine a_putI (n := 8) dX10_cutAll_5 rfl fX10_172 rfl (s37 hz) (Or.inl rfl) ?_
  refine a_aload_n (n := 9) dX10_cutAll_8 rfl rfl ?_
  refine a_iconst (n := 10) dX10_cutAll_9 rfl ⟨by decide, by decide⟩ ?_
  refine a_putI (n := 13) dX10_cutAll_10 rfl fX10_11 rfl (s37 hz) (Or.inl rfl) ?_
  refine a_iconst (n := 14) dX10_cutAll_13 rfl ⟨by decide, by decide⟩ ?_
  refine b_istore_n (n := 15) dX10_cutAll_14 rfl (by decide) rfl ?_
  refine a_iconst (n := 16) dX10_cutAll_15 rfl ⟨by decide, by decide⟩ ?_
  refine b_istore_n (n := 17) dX10_cutAll_16 rfl (by decide) rfl ?_
  exact cut_all hz hR ht.2 ((up2_f (by decide)).trans (up2_f (by decide))) (by simp only [up2_eq, Nat.reduceEqDiff, Int.reduceEq, and_true, true_and, and_false, false_and, and_self, if_true, if_false, reduceIte]) hc ((hi 37 2 - 0).toNat + 1) 0 0 _ _ _ _ _ _ (by omega) ⟨by decide, by decide, ht.1, rfl, fun i h => absurd h (by simp), Ct.zero⟩
/-- what the reading of a line leaves as it was -/
def qOut (nx : Int) (b : Nat) (j : Int) : Prop := pOut nx b j ∨ (b = 43 ∧ j = nx) ∨ ((b = 44 ∨ b = 45) ∧ 16 * nx ≤ j ∧ j < 16 * nx + 16)
def qFr (nx : Int) (hi hf : aI) : Prop := ∀ (b : Nat) (j : Int), ¬ qOut nx b j → hf b j = hi b j
theorem qFr.refl {nx : Int} (hi : aI) : qFr nx hi hi := fun _ _ _ => rfl
theorem qFr.trans {nx : Int} {a b c : aI} (h : qFr nx a b) (k : qFr nx b c) : qFr nx a c := fun x j h1 => (k x j h1).trans (h x j h1)
theorem pFr.q {nx : Int} {a b : aI} (h : pFr nx a b) : qFr nx a b := fun x j h1 => h x j fun q => h1 (Or.inl q)
theorem qFr.of {nx : Int} {hi : aI} {a : Nat} {i v : Int} (h : qOut nx a i) : qFr nx hi (up2 hi a i v) := fun b j h1 => by
  rw [up2_eq]
  split
  · rename_i q
    obtain ⟨rfl, rfl⟩ := q
    exact absurd h h1
  · rfl
theorem qFr.n {nx : Int} {hi hf : aI} (h : qFr nx hi hf) : hf 37 16 = hi 37 16 := h 37 16 (by unfold qOut pOut; omega)
theorem qFr.tk {nx : Int} {hi hf hl : aI} (h : qFr nx hi hf) (hT : tkH kd pl nu hi hl) : tkH kd pl nu hf hl := by
  have e1 : hf 39 = hi 39 := funext fun j => h 39 j (by unfold qOut pOut; omega)
  have e2 : hf 40 = hi 40 := funext fun j => h 40 j (by unfold qOut pOut; omega)
  unfold tkH
  rw [e1, e2]
  exact hT
theorem lnE_fr {nx : Int} {h : aI} (hn : h 37 16 = nx) (hc : 0 ≤ h 37 17 ∧ h 37 17 ≤ 650) : qFr nx h (lnE kd pl h) := by
  have k := (pFr.em (c := 0) (a := 0) hn hc).q
  unfold lnE
  rw [hn]
  refine qFr.trans ?_ (qFr.of (Or.inr (Or.inl ⟨rfl, rfl⟩)))
  split
  · split
    · exact k.trans (qFr.of (Or.inl pO7))
    · exact k.trans (qFr.of (Or.inl pO8))
  · exact k
theorem ln2_fr {nx : Int} {hi h : aI} (hn : hi 37 16 = nx) (hL : 0 ≤ hi 43 nx ∧ hi 43 nx < 16) : qFr nx h (ln2 hi h) := by
  unfold ln2
  rw [hn]
  exact ((qFr.of (Or.inr (Or.inr ⟨Or.inr rfl, by omega, by omega⟩))).trans (qFr.of (Or.inl pO18))).trans pFr.op.q
theorem ln1_fr {nx : Int} {hi : aI} (hn : hi 37 16 = nx) (hL : 0 ≤ hi 43 nx ∧ hi 43 nx < 16) : qFr nx hi (ln1 kd hi) := by
  unfold ln1
  rw [hn]
  exact (qFr.of (Or.inl pO7)).trans (qFr.of (Or.inr (Or.inr ⟨Or.inl rfl, by omega, by omega⟩)))
theorem lnR_fr {n : Nat} {hi hf : aI} (h : lnR kd pl nu n hi = some hf) : qFr (hi 37 16) hi hf := by
  unfold lnR at h
  split at h
  · cases h
  · rename_i hG
    obtain ⟨hg, hL1, hL2⟩ := Classical.not_not.mp hG
    split at h
    · obtain rfl := Option.some.inj h
      exact qFr.of (Or.inl pO8)
    · split at h
      · obtain rfl := Option.some.inj h
        exact qFr.of (Or.inl pO8)
      · rename_i hne
        have k1 := ln1_fr (kd := kd) (hi := hi) rfl ⟨hL1, by omega⟩
        split at h
        · cases e : pRun kd pl nu n 0 (ln2 hi (up2 (ln1 kd hi) 37 7 (hi 37 7 + 1 + 1))) with
          | none => rw [e] at h; cases h
          | some h4 =>
            rw [e] at h
            obtain rfl := Option.some.inj h
            have k2 := (k1.trans (qFr.of (v := hi 37 7 + 1 + 1) (Or.inl pO7))).trans (ln2_fr (hi := hi) rfl ⟨hL1, by omega⟩)
            have hE := pRun_end (nx := hi 37 16) n 0 _ (by decide) k2.n e
            exact (k2.trans hE.2.q).trans (lnE_fr (hE.2.n.trans k2.n) hE.1.2)
        · obtain rfl := Option.some.inj h
          have k2 := (k1.trans (qFr.of (v := 1 + 16 * pl (hi 37 7 + 1)) (Or.inl pO8))).trans (ln2_fr (hi := hi) rfl ⟨hL1, by omega⟩)
          refine k2.trans (lnE_fr k2.n ?_)
          have e17 : (ln2 hi (up2 (ln1 kd hi) 37 8 (1 + 16 * pl (hi 37 7 + 1)))) 37 17 = hi 37 17 := by
            simp only [ln2, ln1, mOp, up2_eq, Nat.reduceEqDiff, Int.reduceEq, and_true, true_and, and_false, false_and, and_self, if_true, if_false, reduceIte]
          rw [e17]
          exact hg.2.1
/-- all lines of a TEXT -/
def txR (kd pl nu : Int → Int) (F : Nat) : Nat → aI → Option aI
  | 0, _ => none
  | n + 1, hi => if hi 37 8 = 0 then (if ¬ pG hi then none else if kd (hi 37 7) = 19 then some hi else match lnR kd pl nu F hi with
      | none => none
      | some h => txR kd pl nu F n h) else some hi
set_option maxRecDepth 100000 in
set_option maxHeartbeats 4000000 in
theorem tx_loop (hz : stZ z) (hR : stR hr) {hf hl : aI} {Q : Option aV → aZ → aR → aI → aI → Prop} {F : Nat} (h6 : kd 600 = 19) (n : Nat) : ∀ hi : aI, tkH kd pl nu hi hl → txR kd pl nu F n hi = some hf → a_wp G mX10_text (d + 4) 60 [some (vR 37)] [] z hr hf hl Q → a_wp G mX10_text (d + 4) 34 [some (vR 37)] [] z hr hi hl Q := by
  induction n with
  | zero => intro hi _ h; cases h
  | succ n ih =>
    intro hi hT hrun K
    rw [txR] at hrun
    by_cases hf0 : hi 37 8 = 0
    case neg =>
      rw [if_neg hf0] at hrun
      obtain rfl := Option.some.inj hrun
      refine a_aload_n (n := 35) dX10_text_34 rfl rfl ?_
      refine a_getI (n := 38) dX10_text_35 rfl fX10_194 (s37 hz) ?_
      refine a_if_ne (t := 60) (n := 41) dX10_text_38 rfl rfl (fun c38 => ?_) (fun c38 => ?_)
      · exact K
      · exact absurd c38 hf0
    rw [if_pos hf0] at hrun
    by_cases hg : pG hi
    case neg => rw [if_pos hg] at hrun; cases hrun
    rw [if_neg (not_not_intro hg)] at hrun
    have hA := hT (hi 37 7) hg.1.1 hg.1.2
    have hg1 := hg.1
    by_cases h19 : kd (hi 37 7) = 19
    case pos =>
      rw [if_pos h19] at hrun
      obtain rfl := Option.some.inj hrun
      refine a_aload_n (n := 35) dX10_text_34 rfl rfl ?_
      refine a_getI (n := 38) dX10_text_35 rfl fX10_194 (s37 hz) ?_
      refine a_if_ne (t := 60) (n := 41) dX10_text_38 rfl rfl (fun c38 => ?_) (fun c38 => ?_)
      · exact absurd hf0 c38
      · refine a_aload_n (n := 42) dX10_text_41 rfl rfl ?_
        refine a_getR (n := 45) dX10_text_42 rfl fX10_24 (s37 hz) (r37_4 hR) ?_
        refine a_aload_n (n := 46) dX10_text_45 rfl rfl ?_
        refine a_getI (n := 49) dX10_text_46 rfl fX10_191 (s37 hz) ?_
        refine a_iald (n := 50) dX10_text_49 rfl (s39 hz) (by omega) (by omega) ?_
        refine a_if_eq (t := 60) (n := 53) dX10_text_50 rfl rfl (fun c50 => ?_) (fun c50 => ?_)
        · exact K
        · exact absurd (hA.s19.mpr h19) c50
    rw [if_neg h19] at hrun
    cases e : lnR kd pl nu F hi with
    | none => rw [e] at hrun; cases hrun
    | some h2 =>
      rw [e] at hrun
      replace hrun : txR kd pl nu F n h2 = some hf := hrun
      refine a_aload_n (n := 35) dX10_text_34 rfl rfl ?_
      refine a_getI (n := 38) dX10_text_35 rfl fX10_194 (s37 hz) ?_
      refine a_if_ne (t := 60) (n := 41) dX10_text_38 rfl rfl (fun c38 => ?_) (fun c38 => ?_)
      · exact absurd hf0 c38
      · refine a_aload_n (n := 42) dX10_text_41 rfl rfl ?_
        refine a_getR (n := 45) dX10_text_42 rfl fX10_24 (s37 hz) (r37_4 hR) ?_
        refine a_aload_n (n := 46) dX10_text_45 rfl rfl ?_
        refine a_getI (n := 49) dX10_text_46 rfl fX10_191 (s37 hz) ?_
        refine a_iald (n := 50) dX10_text_49 rfl (s39 hz) (by omega) (by omega) ?_
        refine a_if_eq (t := 60) (n := 53) dX10_text_50 rfl rfl (fun c50 => ?_) (fun c50 => ?_)
        · exact absurd (hA.s19.mp c50) h19
        · refine a_aload_n (n := 54) dX10_text_53 rfl rfl ?_
          refine a_callV (M2 := mX10_line) (n := 57) dX10_text_54 rfl (m_line (d := d) hz hR hT hf0 h6 e) kX10_line lX10_222 iX10_line eX10_line (by decide) (by omega) (s37 hz) rfl (Nat.le_of_ble_eq_true rfl) (fun q54 z54 hr54 hi54 hl54 h54 => ?_)
          obtain ⟨e154, e254, e354, rfl, e454⟩ := h54
          obtain rfl := e154.symm
          obtain rfl := e254.symm
          obtain rfl := e354.symm
          obtain rfl := e454.symm
          show a_wp G _ _ _ _ [] _ _ _ _ _
          refine a_goto (t := 34) dX10_text_57 rfl ?_
          exact ih _ ((lnR_fr e).tk hT) hrun K
set_option maxRecDepth 100000 in
set_option maxHeartbeats 4000000 in
theorem tx_60 (hz : stZ z) (hR : stR hr) {hf hl : aI} {P : aI → aI → Prop} (hP : P hf hl) : a_wp G mX10_text (d + 4) 60 [some (vR 37)] [] z hr hf hl (fun r z' hr' hi'' hl'' => z' = z ∧ hr' = hr ∧ ∃ hf, P hf hl'' ∧ r = some (vI (hf 37 8)) ∧ ((hf 37 8 = 0 ∧ hi'' = up2 hf 37 15 (hf 37 16)) ∨ (¬ hf 37 8 = 0 ∧ hi'' = hf))) := by
  refine a_aload_n (n := 61) dX10_text_60 rfl rfl ?_
  refine a_getI (n := 64) dX10_text_61 rfl fX10_194 (s37 hz) ?_
  refine a_if_ne (t := 75) (n := 67) dX10_text_64 rfl rfl (fun c64 => ?_) (fun c64 => ?_)
  · refine a_aload_n (n := 76) dX10_text_75 rfl rfl ?_
    refine a_getI (n := 79) dX10_text_76 rfl fX10_194 (s37 hz) ?_
    refine a_ireturn dX10_text_79 rfl ?_
    exact ⟨rfl, rfl, hf, hP, rfl, Or.inr ⟨c64, rfl⟩⟩
  · refine a_aload_n (n := 68) dX10_text_67 rfl rfl ?_
    refine a_aload_n (n := 69) dX10_text_68 rfl rfl ?_
    refine a_getI (n := 72) dX10_text_69 rfl fX10_210 (s37 hz) ?_
    refine a_putI (n := 75) dX10_text_72 rfl fX10_219 rfl (s37 hz) (Or.inl rfl) ?_
    refine a_aload_n (n := 76) dX10_text_75 rfl rfl ?_
    refine a_getI (n := 79) dX10_text_76 rfl fX10_194 (s37 hz) ?_
    try simp only [up2_eq, Nat.reduceEqDiff, Int.reduceEq, Int.reduceNeg, and_true, true_and, and_false, false_and, and_self, if_true, if_false, ite_true, ite_false, reduceIte, eq_self]
    refine a_ireturn dX10_text_79 rfl ?_
    exact ⟨rfl, rfl, hf, hP, rfl, Or.inl ⟨c64, rfl⟩⟩
set_option maxRecDepth 100000 in
set_option maxHeartbeats 4000000 in
theorem m_text (hz : stZ z) (hR : stR hr) {hi hl : aI} {P : aI → aI → Prop} (ht : 0 ≤ hi 37 2 ∧ hi 37 2 ≤ 600) (hc : ∀ i, 0 ≤ i → i < hi 37 2 → 0 ≤ hi 38 i ∧ hi 38 i ≤ 255) (H : ∀ hi' hl' : aI, CQ z hr (hi 38) (hi 37 2) (up2 (up2 (up2 hi 37 0 0) 37 3 (hi 37 2)) 37 2 0) hl none z hr hi' hl' → ∃ (kd pl nu : Int → Int) (F n : Nat) (hf : aI), tkH kd pl nu hi' hl' ∧ kd 600 = 19 ∧ (0 ≤ hi' 37 15 ∧ hi' 37 15 ≤ 1) ∧ txR kd pl nu F n (up2 (up2 (up2 hi' 37 16 (1 - hi' 37 15)) 43 (1 - hi' 37 15) 0) 37 17 0) = some hf ∧ P hf hl') : a_ct G mX10_text (d + 4) [vR 37] z hr hi hl (fun r z' hr' hi'' hl'' => z' = z ∧ hr' = hr ∧ ∃ hf, P hf hl'' ∧ r = some (vI (hf 37 8)) ∧ ((hf 37 8 = 0 ∧ hi'' = up2 hf 37 15 (hf 37 16)) ∨ (¬ hf 37 8 = 0 ∧ hi'' = hf))) := by
  refine a_ct_of rfl (Nat.le_of_ble_eq_true rfl) ?_
  refine a_aload_n (n := 1) dX10_text_0 rfl rfl ?_
  refine a_iconst (n := 2) dX10_text_1 rfl ⟨by decide, by decide⟩ ?_
  refine a_putI (n := 5) dX10_text_2 rfl fX10_1 rfl (s37 hz) (Or.inl rfl) ?_
  refine a_aload_n (n := 6) dX10_text_5 rfl rfl ?_
  refine a_callV (M2 := mX10_cutAll) (n := 9) dX10_text_6 rfl (m_cutAll (d := d + 1) hz hR (by simp only [up2_eq, Nat.reduceEqDiff, Int.reduceEq, and_true, true_and, and_false, false_and, and_self, if_true, if_false, reduceIte]; exact ht) (by simp only [up2_eq, Nat.reduceEqDiff, Int.reduceEq, and_true, true_and, and_false, false_and, and_self, if_true, if_false, reduceIte]; exact hc)) kX10_cutAll lX10_216 iX10_cutAll eX10_cutAll (by decide) (by omega) (s37 hz) rfl (Nat.le_of_ble_eq_true rfl) (fun q6 z6 hr6 hi6 hl6 h6 => ?_)
  have e38 : (up2 hi 37 0 0) 38 = hi 38 := up2_f (by decide)
  have e2 : (up2 hi 37 0 0) 37 2 = hi 37 2 := up2_m (by decide)
  rw [e38, e2] at h6
  obtain ⟨e16, e26, rfl, hq⟩ := id h6
  obtain rfl := e16.symm
  obtain rfl := e26.symm
  obtain ⟨kd, pl, nu, F, n, hf, hT, h6, hh, hrun, hP⟩ := H hi6 hl6 h6
  show a_wp G _ _ _ _ [] _ _ _ _ _
  refine a_aload_n (n := 10) dX10_text_9 rfl rfl ?_
  refine a_iconst (n := 11) dX10_text_10 rfl ⟨by decide, by decide⟩ ?_
  refine a_aload_n (n := 12) dX10_text_11 rfl rfl ?_
  refine a_getI (n := 15) dX10_text_12 rfl fX10_219 (s37 hz) ?_
  try simp only [up2_eq, Nat.reduceEqDiff, Int.reduceEq, Int.reduceNeg, and_true, true_and, and_false, false_and, and_self, if_true, if_false, ite_true, ite_false, reduceIte, eq_self]
  refine a_isub (n := 16) dX10_text_15 rfl ⟨by omega, by omega⟩ ?_
  refine a_putI (n := 19) dX10_text_16 rfl fX10_210 rfl (s37 hz) (Or.inl rfl) ?_
  refine a_aload_n (n := 20) dX10_text_19 rfl rfl ?_
  refine a_getR (n := 23) dX10_text_20 rfl fX10_59 (s37 hz) (r37_10 hR) ?_
  refine a_aload_n (n := 24) dX10_text_23 rfl rfl ?_
  refine a_getI (n := 27) dX10_text_24 rfl fX10_210 (s37 hz) ?_
  try simp only [up2_eq, Nat.reduceEqDiff, Int.reduceEq, Int.reduceNeg, and_true, true_and, and_false, false_and, and_self, if_true, if_false, ite_true, ite_false, reduceIte, eq_self]
  refine a_iconst (n := 28) dX10_text_27 rfl ⟨by decide, by decide⟩ ?_
  refine a_iast (n := 29) dX10_text_28 rfl (s43 hz) (by omega) (by omega) ?_
  refine a_aload_n (n := 30) dX10_text_29 rfl rfl ?_
  refine a_iconst (n := 31) dX10_text_30 rfl ⟨by decide, by decide⟩ ?_
  refine a_putI (n := 34) dX10_text_31 rfl fX10_213 rfl (s37 hz) (Or.inl rfl) ?_
  refine tx_loop hz hR h6 n _ (((hT.up (by decide) (by decide)).up (by decide) (by decide)).up (by decide) (by decide)) hrun ?_
  exact tx_60 hz hR hP
end M18
