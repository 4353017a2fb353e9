section M15
variable {G : aG} {d : Nat} {z : aZ} {hr : aR} {hl : aI} {kd pl nu : Int → Int}
/-- what the reading of an E leaves as it was; nx: the half that is written -/
def pOut (nx : Int) (b : Nat) (j : Int) : Prop := ((b = 46 ∨ b = 47) ∧ 660 * nx ≤ j ∧ j < 660 * nx + 660) ∨ b = 48 ∨ b = 49 ∨ b = 50 ∨ (b = 37 ∧ (j = 7 ∨ j = 8 ∨ j = 17 ∨ j = 18))
def pFr (nx : Int) (hi hf : aI) : Prop := ∀ (b : Nat) (j : Int), ¬ pOut nx b j → hf b j = hi b j
theorem pFr.refl {nx : Int} (hi : aI) : pFr nx hi hi := fun _ _ _ => rfl
theorem pFr.trans {nx : Int} {a b c : aI} (h : pFr nx a b) (k : pFr nx b c) : pFr nx a c := fun x j h1 => (k x j h1).trans (h x j h1)
theorem pFr.of {nx : Int} {hi : aI} {a : Nat} {i v : Int} (h : pOut nx a i) : pFr nx hi (up2 hi a i v) := fun b j h1 => by
  rw [up2_eq]
  split
  · rename_i q
    obtain ⟨rfl, rfl⟩ := q
    exact absurd h h1
  · rfl
theorem pO7 {nx : Int} : pOut nx 37 7 := Or.inr (Or.inr (Or.inr (Or.inr ⟨rfl, Or.inl rfl⟩)))
theorem pO8 {nx : Int} : pOut nx 37 8 := Or.inr (Or.inr (Or.inr (Or.inr ⟨rfl, Or.inr (Or.inl rfl)⟩)))
theorem pO17 {nx : Int} : pOut nx 37 17 := Or.inr (Or.inr (Or.inr (Or.inr ⟨rfl, Or.inr (Or.inr (Or.inl rfl))⟩)))
theorem pO18 {nx : Int} : pOut nx 37 18 := Or.inr (Or.inr (Or.inr (Or.inr ⟨rfl, Or.inr (Or.inr (Or.inr rfl))⟩)))
theorem pO48 {nx i : Int} : pOut nx 48 i := Or.inr (Or.inl rfl)
theorem pO49 {nx i : Int} : pOut nx 49 i := Or.inr (Or.inr (Or.inl rfl))
theorem pO50 {nx i : Int} : pOut nx 50 i := Or.inr (Or.inr (Or.inr (Or.inl rfl)))
theorem pFr.em {nx : Int} {hi : aI} {c a : Int} (hn : hi 37 16 = nx) (hc : 0 ≤ hi 37 17 ∧ hi 37 17 ≤ 650) : pFr nx hi (mEm hi c a) := ((pFr.of (Or.inl ⟨Or.inl rfl, by omega, by omega⟩)).trans (pFr.of (Or.inl ⟨Or.inr rfl, by omega, by omega⟩))).trans (pFr.of pO17)
theorem pFr.op {nx : Int} {hi : aI} : pFr nx hi (mOp hi) := ((pFr.of pO48).trans (pFr.of pO49)).trans (pFr.of pO50)
theorem pFr.n {nx : Int} {hi hf : aI} (h : pFr nx hi hf) : hf 37 16 = hi 37 16 := h 37 16 (by unfold pOut; omega)
theorem pFr.tk {nx : Int} {hi hf : aI} (h : pFr nx hi hf) (hT : tkH kd pl nu hi hl) : tkH kd pl nu hf hl := by
  have e1 : hf 39 = hi 39 := funext fun j => h 39 j (by unfold pOut; omega)
  have e2 : hf 40 = hi 40 := funext fun j => h 40 j (by unfold pOut; omega)
  unfold tkH
  rw [e1, e2]
  exact hT
/-- where a run ends: the bounds, and what is as it was -/
theorem pRun_end {nx : Int} {hf : aI} (n : Nat) : ∀ (c : Nat) (hi : aI), c ≤ 6 → hi 37 16 = nx → pRun kd pl nu n c hi = some hf → ((0 ≤ hf 37 7 ∧ hf 37 7 ≤ 600) ∧ (0 ≤ hf 37 17 ∧ hf 37 17 ≤ 650)) ∧ pFr nx hi hf := by
  induction n with
  | zero => intro c hi _ _ h; simp [pRun] at h
  | succ n ih =>
    intro c hi hc hnx h
    have hg := pRun_g h
    have hb : (0 ≤ hi 37 7 ∧ hi 37 7 ≤ 600) ∧ (0 ≤ hi 37 17 ∧ hi 37 17 ≤ 650) := ⟨hg.1, hg.2.1⟩
    have step : ∀ (c2 : Nat) (h2 : aI), c2 ≤ 6 → pRun kd pl nu n c2 h2 = some hf → pFr nx hi h2 → ((0 ≤ hf 37 7 ∧ hf 37 7 ≤ 600) ∧ (0 ≤ hf 37 17 ∧ hf 37 17 ≤ 650)) ∧ pFr nx hi hf := fun c2 h2 hc2 q f => ⟨(ih c2 h2 hc2 (f.n.trans hnx) q).1, f.trans (ih c2 h2 hc2 (f.n.trans hnx) q).2⟩
    have fin : ∀ (h2 : aI), some h2 = some hf → h2 37 7 = hi 37 7 → h2 37 17 = hi 37 17 → pFr nx hi h2 → ((0 ≤ hf 37 7 ∧ hf 37 7 ≤ 600) ∧ (0 ≤ hf 37 17 ∧ hf 37 17 ≤ 650)) ∧ pFr nx hi hf := fun h2 e q1 q2 f => by
      obtain rfl := Option.some.inj e
      rw [q1, q2]
      exact ⟨hb, f⟩
    have hc' : c = 0 ∨ c = 1 ∨ c = 2 ∨ c = 3 ∨ c = 4 ∨ c = 5 ∨ c = 6 := by omega
    rcases hc' with rfl | rfl | rfl | rfl | rfl | rfl | rfl
    · rw [pRun_0 hg] at h
      split at h
      · exact fin _ h (up2_m (by decide)) (up2_m (by decide)) (pFr.of pO8)
      · split at h
        · exact fin _ h (up2_m (by decide)) (up2_m (by decide)) (pFr.of pO8)
        · split at h
          · exact step 0 _ (by decide) h (((pFr.of pO7).trans (pFr.of pO18)).trans pFr.op)
          · exact step 1 _ (by decide) h ((pFr.em hnx hg.2.1).trans (pFr.of pO7))
    · rw [pRun_1 hg] at h
      split at h
      · exact step 2 _ (by decide) h ((pFr.em hnx hg.2.1).trans (pFr.of pO48))
      · exact step 2 _ (by decide) h (pFr.refl hi)
    · rw [pRun_2 hg] at h
      split at h
      · exact step 0 _ (by decide) h ((pFr.of pO48).trans (pFr.of pO7))
      · split at h
        · exact step 0 _ (by decide) h ((pFr.of pO48).trans (pFr.of pO7))
        · exact step 3 _ (by decide) h (pFr.refl hi)
    · rw [pRun_3 hg] at h
      split at h
      · exact step 4 _ (by decide) h ((pFr.em hnx hg.2.1).trans (pFr.of pO49))
      · split at h
        · exact step 0 _ (by decide) h ((pFr.of pO49).trans (pFr.of pO7))
        · split at h
          · exact step 0 _ (by decide) h ((pFr.of pO49).trans (pFr.of pO7))
          · exact step 4 _ (by decide) h (pFr.refl hi)
    · rw [pRun_4 hg] at h
      split at h
      · exact step 5 _ (by decide) h ((pFr.em hnx hg.2.1).trans (pFr.of pO50))
      · exact step 5 _ (by decide) h (pFr.refl hi)
    · rw [pRun_5 hg] at h
      split at h
      · exact step 0 _ (by decide) h ((pFr.of pO50).trans (pFr.of pO7))
      · exact step 6 _ (by decide) h (pFr.refl hi)
    · rw [pRun_6 hg] at h
      split at h
      · exact fin _ h rfl rfl (pFr.refl hi)
      · split at h
        · exact step 1 _ (by decide) h ((pFr.of pO7).trans (pFr.of pO18))
        · exact fin _ h ((up2_m (by decide)).trans (up2_m (by decide))) ((up2_m (by decide)).trans (up2_m (by decide))) ((pFr.of pO8).trans (pFr.of pO18))
/-- the end of a line -/
def lnE (kd pl : Int → Int) (h : aI) : aI := up2 (if h 37 8 = 0 then (if kd (h 37 7) = 15 then up2 (mEm h 0 0) 37 7 (h 37 7 + 1) else up2 (mEm h 0 0) 37 8 (1 + 16 * pl (h 37 7))) else mEm h 0 0) 43 (h 37 16) (h 43 (h 37 16) + 1)
/-- a line, from its first TOKEN -/
def ln1 (kd : Int → Int) (hi : aI) : aI := up2 (up2 hi 37 7 (hi 37 7 + 1)) 44 (16 * hi 37 16 + hi 43 (hi 37 16)) (if kd (hi 37 7) = 17 then 1 else 0)
def ln2 (hi h : aI) : aI := mOp (up2 (up2 h 45 (16 * hi 37 16 + hi 43 (hi 37 16)) (660 * hi 37 16 + hi 37 17)) 37 18 0)
def lnR (kd pl nu : Int → Int) (n : Nat) (hi : aI) : Option aI :=
  if ¬ (pG hi ∧ 0 ≤ hi 43 (hi 37 16) ∧ hi 43 (hi 37 16) ≤ 16) then none
  else if ¬ (kd (hi 37 7) = 16 ∨ kd (hi 37 7) = 17) then some (up2 hi 37 8 (1 + 16 * pl (hi 37 7)))
  else if hi 43 (hi 37 16) = 16 then some (up2 hi 37 8 (5 + 16 * pl (hi 37 7)))
  else if kd (hi 37 7 + 1) = 18 then (pRun kd pl nu n 0 (ln2 hi (up2 (ln1 kd hi) 37 7 (hi 37 7 + 1 + 1)))).map (lnE kd pl)
  else some (lnE kd pl (ln2 hi (up2 (ln1 kd hi) 37 8 (1 + 16 * pl (hi 37 7 + 1)))))
set_option maxRecDepth 100000 in
set_option maxHeartbeats 4000000 in
theorem ln_e (hz : stZ z) (hR : stR hr) {hi : aI} {x y v : Option aV} (ha : 0 ≤ hi 37 7 ∧ hi 37 7 ≤ 600) (hc : 0 ≤ hi 37 17 ∧ hi 37 17 ≤ 650) (hn : 0 ≤ hi 37 16 ∧ hi 37 16 ≤ 1) (hL : 0 ≤ hi 43 (hi 37 16) ∧ hi 43 (hi 37 16) ≤ 15) (hT : tkH kd pl nu hi hl) (hf0 : hi 37 8 = 0) : a_wp G mX10_line (d + 3) 157 [some (vR 37), x, y, v] [] z hr hi hl (fun r z' hr' hi' hl' => z' = z ∧ hr' = hr ∧ hl' = hl ∧ r = none ∧ hi' = lnE kd pl hi) := by
  have hA := hT (hi 37 7) ha.1 ha.2
  have hp0 := hA.pp
  refine a_aload_n (n := 158) dX10_line_157 rfl rfl ?_
  refine a_iconst (n := 159) dX10_line_158 rfl ⟨by decide, by decide⟩ ?_
  refine a_iconst (n := 160) dX10_line_159 rfl ⟨by decide, by decide⟩ ?_
  refine a_callV (M2 := mX10_emit) (n := 163) dX10_line_160 rfl (m_emit (d := d) hz hR hn ⟨hc.1, by omega⟩) kX10_emit lX10_241 iX10_emit eX10_emit (by decide) (by omega) (s37 hz) rfl (Nat.le_of_ble_eq_true rfl) (fun q160 z160 hr160 hi160 hl160 h160 => ?_)
  obtain ⟨e1160, e2160, e3160, rfl, rfl⟩ := h160
  obtain rfl := e1160.symm
  obtain rfl := e2160.symm
  obtain rfl := e3160.symm
  show a_wp G _ _ _ _ [] _ _ _ _ _
  refine a_aload_n (n := 164) dX10_line_163 rfl rfl ?_
  refine a_bipush (n := 166) dX10_line_164 rfl ⟨by decide, by decide⟩ (by decide) ?_
  refine a_callV (M2 := mX10_takeSign) (n := 169) dX10_line_166 rfl (m_tsk (d := d) (kd := kd) (k := 15) hz hR (by simp only [up2_eq, mEm, mOp, Nat.reduceEqDiff, Int.reduceEq, and_true, true_and, and_false, false_and, and_self, if_true, if_false, reduceIte]; omega) (tkH.em hT) (by simp only [up2_eq, mEm, mOp, Nat.reduceEqDiff, Int.reduceEq, and_true, true_and, and_false, false_and, and_self, if_true, if_false, reduceIte]; exact hf0) (by simp only [up2_eq, mEm, mOp, Nat.reduceEqDiff, Int.reduceEq, and_true, true_and, and_false, false_and, and_self, if_true, if_false, reduceIte]; exact hA.s15)) kX10_takeSign lX10_245 iX10_takeSign eX10_takeSign (by decide) (by omega) (s37 hz) rfl (Nat.le_of_ble_eq_true rfl) (fun q166 z166 hr166 hi166 hl166 h166 => ?_)
  obtain ⟨e1166, e2166, e3166, rfl, h166⟩ := h166
  obtain rfl := e1166.symm
  obtain rfl := e2166.symm
  obtain rfl := e3166.symm
  rcases h166 with ⟨hk166, rfl⟩ | ⟨hk166, rfl⟩
  · simp only [up2_eq, mEm, mOp, Nat.reduceEqDiff, Int.reduceEq, and_true, true_and, and_false, false_and, and_self, if_true, if_false, reduceIte] at hk166
    show a_wp G _ _ _ _ [] _ _ _ _ _
    refine a_aload_n (n := 170) dX10_line_169 rfl rfl ?_
    refine a_getR (n := 173) dX10_line_170 rfl fX10_59 (s37 hz) (r37_10 hR) ?_
    refine a_aload_n (n := 174) dX10_line_173 rfl rfl ?_
    refine a_getI (n := 177) dX10_line_174 rfl fX10_210 (s37 hz) ?_
    try simp only [up2_eq, Nat.reduceEqDiff, Int.reduceEq, Int.reduceNeg, and_true, true_and, and_false, false_and, and_self, if_true, if_false, ite_true, ite_false, reduceIte, eq_self]
    refine a_dup2 (n := 178) dX10_line_177 rfl rfl rfl ?_
    refine a_iald (n := 179) dX10_line_178 rfl (s43 hz) (by omega) (by omega) ?_
    try simp only [up2_eq, Nat.reduceEqDiff, Int.reduceEq, Int.reduceNeg, and_true, true_and, and_false, false_and, and_self, if_true, if_false, ite_true, ite_false, reduceIte, eq_self]
    refine a_iconst (n := 180) dX10_line_179 rfl ⟨by decide, by decide⟩ ?_
    refine a_iadd (n := 181) dX10_line_180 rfl ⟨by omega, by omega⟩ ?_
    refine a_iast (n := 182) dX10_line_181 rfl (s43 hz) (by omega) (by omega) ?_
    refine a_return dX10_line_182 rfl ?_
    unfold lnE
    rw [if_pos hf0, if_pos hk166]
    exact ⟨rfl, rfl, rfl, rfl, rfl⟩
  · simp only [up2_eq, mEm, mOp, Nat.reduceEqDiff, Int.reduceEq, and_true, true_and, and_false, false_and, and_self, if_true, if_false, reduceIte] at hk166
    show a_wp G _ _ _ _ [] _ _ _ _ _
    refine a_aload_n (n := 170) dX10_line_169 rfl rfl ?_
    refine a_getR (n := 173) dX10_line_170 rfl fX10_59 (s37 hz) (r37_10 hR) ?_
    refine a_aload_n (n := 174) dX10_line_173 rfl rfl ?_
    refine a_getI (n := 177) dX10_line_174 rfl fX10_210 (s37 hz) ?_
    try simp only [up2_eq, Nat.reduceEqDiff, Int.reduceEq, Int.reduceNeg, and_true, true_and, and_false, false_and, and_self, if_true, if_false, ite_true, ite_false, reduceIte, eq_self]
    refine a_dup2 (n := 178) dX10_line_177 rfl rfl rfl ?_
    refine a_iald (n := 179) dX10_line_178 rfl (s43 hz) (by omega) (by omega) ?_
    try simp only [up2_eq, Nat.reduceEqDiff, Int.reduceEq, Int.reduceNeg, and_true, true_and, and_false, false_and, and_self, if_true, if_false, ite_true, ite_false, reduceIte, eq_self]
    refine a_iconst (n := 180) dX10_line_179 rfl ⟨by decide, by decide⟩ ?_
    refine a_iadd (n := 181) dX10_line_180 rfl ⟨by omega, by omega⟩ ?_
    refine a_iast (n := 182) dX10_line_181 rfl (s43 hz) (by omega) (by omega) ?_
    refine a_return dX10_line_182 rfl ?_
    unfold lnE
    rw [if_pos hf0, if_neg hk166]
    exact ⟨rfl, rfl, rfl, rfl, rfl⟩
set_option maxRecDepth 100000 in
set_option maxHeartbeats 4000000 in
theorem ln_f (hz : stZ z) (hR : stR hr) {hi : aI} {x y v : Option aV} (ha : 0 ≤ hi 37 7 ∧ hi 37 7 ≤ 600) (hc : 0 ≤ hi 37 17 ∧ hi 37 17 ≤ 650) (hn : 0 ≤ hi 37 16 ∧ hi 37 16 ≤ 1) (hL : 0 ≤ hi 43 (hi 37 16) ∧ hi 43 (hi 37 16) ≤ 15) (hT : tkH kd pl nu hi hl) (hf0 : ¬ hi 37 8 = 0) : a_wp G mX10_line (d + 3) 157 [some (vR 37), x, y, v] [] z hr hi hl (fun r z' hr' hi' hl' => z' = z ∧ hr' = hr ∧ hl' = hl ∧ r = none ∧ hi' = lnE kd pl hi) := by
  have hA := hT (hi 37 7) ha.1 ha.2
  have hp0 := hA.pp
  refine a_aload_n (n := 158) dX10_line_157 rfl rfl ?_
  refine a_iconst (n := 159) dX10_line_158 rfl ⟨by decide, by decide⟩ ?_
  refine a_iconst (n := 160) dX10_line_159 rfl ⟨by decide, by decide⟩ ?_
  refine a_callV (M2 := mX10_emit) (n := 163) dX10_line_160 rfl (m_emit (d := d) hz hR hn ⟨hc.1, by omega⟩) kX10_emit lX10_241 iX10_emit eX10_emit (by decide) (by omega) (s37 hz) rfl (Nat.le_of_ble_eq_true rfl) (fun q160 z160 hr160 hi160 hl160 h160 => ?_)
  obtain ⟨e1160, e2160, e3160, rfl, rfl⟩ := h160
  obtain rfl := e1160.symm
  obtain rfl := e2160.symm
  obtain rfl := e3160.symm
  show a_wp G _ _ _ _ [] _ _ _ _ _
  refine a_aload_n (n := 164) dX10_line_163 rfl rfl ?_
  refine a_bipush (n := 166) dX10_line_164 rfl ⟨by decide, by decide⟩ (by decide) ?_
  refine a_callV (M2 := mX10_takeSign) (n := 169) dX10_line_166 rfl (m_tsf (d := d) hz hR (by simp only [up2_eq, mEm, mOp, Nat.reduceEqDiff, Int.reduceEq, and_true, true_and, and_false, false_and, and_self, if_true, if_false, reduceIte]; omega) (tkH.em hT) (by simp only [up2_eq, mEm, mOp, Nat.reduceEqDiff, Int.reduceEq, and_true, true_and, and_false, false_and, and_self, if_true, if_false, reduceIte]; exact hf0)) kX10_takeSign lX10_245 iX10_takeSign eX10_takeSign (by decide) (by omega) (s37 hz) rfl (Nat.le_of_ble_eq_true rfl) (fun q166 z166 hr166 hi166 hl166 h166 => ?_)
  obtain ⟨e1166, e2166, e3166, rfl, e4166⟩ := h166
  obtain rfl := e1166.symm
  obtain rfl := e2166.symm
  obtain rfl := e3166.symm
  obtain rfl := e4166.symm
  show a_wp G _ _ _ _ [] _ _ _ _ _
  refine a_aload_n (n := 170) dX10_line_169 rfl rfl ?_
  refine a_getR (n := 173) dX10_line_170 rfl fX10_59 (s37 hz) (r37_10 hR) ?_
  refine a_aload_n (n := 174) dX10_line_173 rfl rfl ?_
  refine a_getI (n := 177) dX10_line_174 rfl fX10_210 (s37 hz) ?_
  try simp only [up2_eq, Nat.reduceEqDiff, Int.reduceEq, Int.reduceNeg, and_true, true_and, and_false, false_and, and_self, if_true, if_false, ite_true, ite_false, reduceIte, eq_self]
  refine a_dup2 (n := 178) dX10_line_177 rfl rfl rfl ?_
  refine a_iald (n := 179) dX10_line_178 rfl (s43 hz) (by omega) (by omega) ?_
  try simp only [up2_eq, Nat.reduceEqDiff, Int.reduceEq, Int.reduceNeg, and_true, true_and, and_false, false_and, and_self, if_true, if_false, ite_true, ite_false, reduceIte, eq_self]
  refine a_iconst (n := 180) dX10_line_179 rfl ⟨by decide, by decide⟩ ?_
  refine a_iadd (n := 181) dX10_line_180 rfl ⟨by omega, by omega⟩ ?_
  refine a_iast (n := 182) dX10_line_181 rfl (s43 hz) (by omega) (by omega) ?_
  refine a_return dX10_line_182 rfl ?_
  unfold lnE
  rw [if_neg hf0]
  exact ⟨rfl, rfl, rfl, rfl, rfl⟩
end M15
