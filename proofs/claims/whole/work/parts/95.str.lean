/-! lines and TEXTS: the reference's side -/
def lR (nx : Int) (h : aI) : Int → Int → List (Int × List (Int × Int)) → Prop
  | _, _, [] => True
  | l, f, x :: ls => h 44 (16 * nx + l) = 1 - x.1 ∧ h 45 (16 * nx + l) = 660 * nx + f ∧ rows (h 46) (h 47) (660 * nx + f) (oM x.2) ∧ h 46 (660 * nx + f + x.2.length) = 0 ∧ lR nx h (l + 1) (f + x.2.length + 1) ls
def uOut (nx l f : Int) (b : Nat) (j : Int) : Prop := (b = 37 ∧ (j = 7 ∨ j = 8 ∨ j = 17 ∨ j = 18)) ∨ ((b = 46 ∨ b = 47) ∧ 660 * nx + f ≤ j) ∨ b = 48 ∨ b = 49 ∨ b = 50 ∨ (b = 43 ∧ j = nx) ∨ ((b = 44 ∨ b = 45) ∧ 16 * nx + l ≤ j)
def uFr (nx : Int) (h k : aI) : Prop := h 37 17 ≤ k 37 17 ∧ h 43 nx ≤ k 43 nx ∧ ∀ b j, ¬ uOut nx (h 43 nx) (h 37 17) b j → k b j = h b j
def rSl (nt nx : Int) (h : aI) (a : Int) : Prop := h 37 7 = a ∧ h 37 8 = 0 ∧ (0 ≤ a ∧ a ≤ nt) ∧ (0 ≤ h 37 17 ∧ h 37 17 ≤ a) ∧ (0 ≤ h 37 18 ∧ h 37 18 ≤ 5) ∧ h 37 16 = nx
theorem uFr.refl {nx : Int} (h : aI) : uFr nx h h := ⟨Int.le_refl _, Int.le_refl _, fun _ _ _ => rfl⟩
theorem uFr.trans {nx : Int} {h k l : aI} (p : uFr nx h k) (q : uFr nx k l) : uFr nx h l := ⟨Int.le_trans p.1 q.1, Int.le_trans p.2.1 q.2.1, fun b j h₁ => (q.2.2 b j (fun hc => h₁ (by
  have := p.1
  have := p.2.1
  unfold uOut at hc ⊢
  omega))).trans (p.2.2 b j h₁)⟩
section STR
variable {kd pl nu : Int → Int} {nt nx : Int}
theorem pRun_dp {hf : aI} (n : Nat) : ∀ (c : Nat) (hi : aI), c ≤ 6 → pRun kd pl nu n c hi = some hf → 0 ≤ hf 37 18 ∧ hf 37 18 ≤ 5 := by
  induction n with
  | zero => intro c hi _ h; simp [pRun] at h
  | succ n ih =>
    intro c hi hc h
    have hg := pRun_g h
    have hd := hg.2.2.1
    have fin : ∀ h2 : aI, some h2 = some hf → 0 ≤ h2 37 18 ∧ h2 37 18 ≤ 5 → 0 ≤ hf 37 18 ∧ hf 37 18 ≤ 5 := fun h2 e q => by
      obtain rfl := Option.some.inj e
      exact q
    have hc' : c = 0 ∨ c = 1 ∨ c = 2 ∨ c = 3 ∨ c = 4 ∨ c = 5 ∨ c = 6 := by omega
    rcases hc' with rfl | rfl | rfl | rfl | rfl | rfl | rfl
    · rw [pRun_0 hg] at h
      split at h
      · exact fin _ h (by rw [up2_if (by omega)]; exact hd)
      · split at h
        · exact fin _ h (by rw [up2_if (by omega)]; exact hd)
        · split at h
          · exact ih 0 _ (by decide) h
          · exact ih 1 _ (by decide) h
    · rw [pRun_1 hg] at h
      split at h
      · exact ih 2 _ (by decide) h
      · exact ih 2 _ (by decide) h
    · rw [pRun_2 hg] at h
      split at h
      · exact ih 0 _ (by decide) h
      · split at h
        · exact ih 0 _ (by decide) h
        · exact ih 3 _ (by decide) h
    · rw [pRun_3 hg] at h
      split at h
      · exact ih 4 _ (by decide) h
      · split at h
        · exact ih 0 _ (by decide) h
        · split at h
          · exact ih 0 _ (by decide) h
          · exact ih 4 _ (by decide) h
    · rw [pRun_4 hg] at h
      split at h
      · exact ih 5 _ (by decide) h
      · exact ih 5 _ (by decide) h
    · rw [pRun_5 hg] at h
      split at h
      · exact ih 0 _ (by decide) h
      · exact ih 6 _ (by decide) h
    · rw [pRun_6 hg] at h
      split at h
      · exact fin _ h hd
      · split at h
        · exact ih 1 _ (by decide) h
        · exact fin _ h (by rw [up2_s]; omega)
theorem lnE_8 {h : aI} (q : ¬ h 37 8 = 0) : (lnE kd pl h) 37 8 = h 37 8 ∧ (lnE kd pl h) 37 18 = h 37 18 := by
  unfold lnE mEm
  rw [if_neg q]
  exact ⟨by rw [up2_if (by omega), up2_if (by omega), up2_if (by omega), up2_if (by omega)], by rw [up2_if (by omega), up2_if (by omega), up2_if (by omega), up2_if (by omega)]⟩
/-- a line -/
theorem rLn (hT : nt ≤ 600) (hnt : kd nt = 19) (hpl : ∀ b, 0 ≤ b → b ≤ nt → 0 ≤ pl b ∧ pl b ≤ 600) (hk : ∀ a, 0 ≤ a → a ≤ nt → 0 ≤ kd a ∧ 0 ≤ nu a ∧ nu a ≤ 9999) (hnx : 0 ≤ nx ∧ nx ≤ 1) {h : aI} {a : Int} (s : rSl nt nx h a) (hlt : a < nt) (hka : kd a = 16 ∨ kd a = 17) (hL : 0 ≤ h 43 nx ∧ h 43 nx < 16) :
    ∃ (k : aI) (m : Nat), (∀ n, lnR kd pl nu (n + m) h = some k) ∧ (0 ≤ k 37 18 ∧ k 37 18 ≤ 5) ∧
    (((sLn kd nu a).1 = 0 ∧ rSl nt nx k (sLn kd nu a).2.1 ∧ k 37 17 = h 37 17 + (sLn kd nu a).2.2.length + 1 ∧ k 43 nx = h 43 nx + 1 ∧ uFr nx h k ∧ k 44 (16 * nx + h 43 nx) = (if kd a = 17 then 1 else 0) ∧ k 45 (16 * nx + h 43 nx) = 660 * nx + h 37 17 ∧ rows (k 46) (k 47) (660 * nx + h 37 17) (oM (sLn kd nu a).2.2) ∧ k 46 (660 * nx + h 37 17 + (sLn kd nu a).2.2.length) = 0) ∨
    (¬ (sLn kd nu a).1 = 0 ∧ k 37 8 = (sLn kd nu a).1 + 16 * pl (sLn kd nu a).2.1)) := by
  obtain ⟨s₁, s₂, s₃, s₄, s₅, s₆⟩ := s
  have hg : pG h := ⟨by omega, by omega, s₅, by omega⟩
  have hr : ∀ n, lnR kd pl nu n h = (if kd (a + 1) = 18 then (pRun kd pl nu n 0 (ln2 h (up2 (ln1 kd h) 37 7 (a + 1 + 1)))).map (lnE kd pl) else some (lnE kd pl (ln2 h (up2 (ln1 kd h) 37 8 (1 + 16 * pl (a + 1)))))) := fun n => by
    unfold lnR
    rw [if_neg (not_not_intro ⟨hg, by rw [s₆]; omega, by rw [s₆]; omega⟩), s₁, if_neg (not_not_intro hka), if_neg (by rw [s₆]; omega)]
  unfold sLn
  by_cases c₁ : kd (a + 1) = 18
  · rw [if_pos c₁]
    have hl₂ : a + 1 < nt := by
      rcases Int.lt_or_eq_of_le (show a + 1 ≤ nt by omega) with q | q
      · exact q
      · rw [q, hnt] at c₁; omega
    generalize hh : ln2 h (up2 (ln1 kd h) 37 7 (a + 1 + 1)) = h₁ at hr
    have e₁ : ∀ b j, ¬ (b = 37 ∧ (j = 7 ∨ j = 18)) → ¬ ((b = 44 ∨ b = 45) ∧ j = 16 * nx + h 43 nx) → ¬ ((b = 48 ∨ b = 49 ∨ b = 50) ∧ j = 0) → h₁ b j = h b j := fun b j j₁ j₂ j₃ => by
      rw [← hh]
      unfold ln2 ln1 mOp
      rw [s₆, up2_s, up2_if (by omega), up2_if (by omega), up2_if (by omega), up2_if (by omega), up2_if (by omega), up2_if (by omega), up2_if (by omega), up2_if (by omega)]
    have e₂ : h₁ 37 7 = a + 2 := by
      rw [← hh]
      unfold ln2 ln1 mOp
      rw [up2_if (by omega), up2_if (by omega), up2_if (by omega), up2_if (by omega), up2_if (by omega), up2_s]
      omega
    have e₃ : h₁ 37 18 = 0 := by
      rw [← hh]
      unfold ln2 ln1 mOp
      rw [up2_if (by omega), up2_if (by omega), up2_if (by omega), up2_s]
    have e₄ : h₁ 48 0 = 0 ∧ h₁ 49 0 = 0 ∧ h₁ 50 0 = 0 := by
      rw [← hh]
      unfold ln2 ln1 mOp
      rw [up2_s]
      refine ⟨?_, ?_, up2_s⟩
      · rw [up2_if (by omega), up2_if (by omega), up2_s]
      · rw [up2_if (by omega), up2_s]
    have e₅ : h₁ 44 (16 * nx + h 43 nx) = (if kd a = 17 then 1 else 0) := by
      rw [← hh]
      unfold ln2 ln1 mOp
      rw [up2_if (by omega), up2_if (by omega), up2_if (by omega), up2_if (by omega), up2_if (by omega), up2_if (by omega), s₆, up2_s, s₁]
    have e₆ : h₁ 45 (16 * nx + h 43 nx) = 660 * nx + h 37 17 := by
      rw [← hh]
      unfold ln2 ln1 mOp
      rw [up2_if (by omega), up2_if (by omega), up2_if (by omega), up2_if (by omega), s₆, up2_s]
    have e₇ : h₁ 37 17 = h 37 17 := e₁ 37 17 (by omega) (by omega) (by omega)
    have e₈ : h₁ 37 16 = nx := (e₁ 37 16 (by omega) (by omega) (by omega)).trans s₆
    have e₉ : h₁ 43 nx = h 43 nx := e₁ 43 nx (by omega) (by omega) (by omega)
    have e₀ : h₁ 37 8 = 0 := (e₁ 37 8 (by omega) (by omega) (by omega)).trans s₂
    have st : rSt nt 0 h₁ (a + 2) := ⟨e₂, e₃, by omega, by omega, by omega, by omega, by omega⟩
    have hgo := rGo_E (pl := pl) hT hnt hk 5
    rw [show (5 : Int) - ((5 : Nat) : Int) = 0 by omega] at hgo
    have hq := hgo h₁ (a + 2) st e₄
    rcases (sGood_Pj hk hnt 5).2 (a + 2) (by omega) (by omega) with ⟨⟨y₁, y₂, y₃, y₄, y₅, y₆⟩, y₇⟩ | hno
    · have y₁ : (sA kd nu 6 (a + 2)).1 = 0 := y₁
      have y₃ : (sA kd nu 6 (a + 2)).2.1 ≤ nt := y₃
      have y₄ : ((sA kd nu 6 (a + 2)).2.2.length : Int) ≤ (sA kd nu 6 (a + 2)).2.1 - (a + 2) := y₄
      have y₇ : a + 2 < (sA kd nu 6 (a + 2)).2.1 := y₇
      rw [if_pos y₁]
      rcases hq with ⟨q₁, k, q₂, q₃⟩ | ⟨q₁, q₂⟩
      · have st₂ : rSt nt 0 k (sA kd nu 6 (a + 2)).2.1 := st.af q₂ y₄ y₃
        have hfl : rFl kd pl nu 0 h₁ k := q₃.fl (rFl.one (fun n => by rw [pRun_6 (st₂.g hT), st₂.2.1, if_pos rfl]))
        obtain ⟨m, hm⟩ := hfl
        have f₁ : k 37 8 = 0 := (q₂.1.2 37 8 (by unfold rOut; omega)).trans e₀
        have f₂ : k 37 16 = nx := q₂.1.nx.trans e₈
        have f₃ : k 43 nx = h 43 nx := (q₂.1.2 43 nx (by unfold rOut; omega)).trans e₉
        have f₄ : k 37 17 = h 37 17 + (sA kd nu 6 (a + 2)).2.2.length := by
          have := q₂.2.2.1
          rw [e₇] at this
          exact this
        have f₅ := q₂.2.2.2
        rw [e₈, e₇] at f₅
        have f₆ : k 37 7 = (sA kd nu 6 (a + 2)).2.1 := q₂.2.1
        have f₇ : k 37 18 = 0 := st₂.2.1
        have fr₀ : ∀ b j, ¬ uOut nx (h 43 nx) (h 37 17) b j → k b j = h b j := fun b j hb => by
          rw [q₂.1.2 b j (by unfold uOut at hb; unfold rOut; rw [e₇, e₈]; omega), e₁ b j (by unfold uOut at hb; omega) (by unfold uOut at hb; omega) (by unfold uOut at hb; omega)]
        by_cases c₂ : kd (sA kd nu 6 (a + 2)).2.1 = 15
        · rw [if_pos c₂]
          have hl₃ : (sA kd nu 6 (a + 2)).2.1 < nt := by
            rcases Int.lt_or_eq_of_le y₃ with q | q
            · exact q
            · rw [q, hnt] at c₂; omega
          refine ⟨lnE kd pl k, m, fun n => by rw [hr, if_pos c₁, hm]; rfl, ?_⟩
          have hE : lnE kd pl k = up2 (up2 (up2 (up2 (up2 k 46 (660 * nx + k 37 17) 0) 47 (660 * nx + k 37 17) 0) 37 17 (k 37 17 + 1)) 37 7 ((sA kd nu 6 (a + 2)).2.1 + 1)) 43 nx (h 43 nx + 1) := by
            unfold lnE mEm
            rw [f₂, f₃, if_pos f₁, f₆, if_pos c₂]
          rw [hE]
          refine ⟨?_, Or.inl ⟨rfl, ⟨?_, ?_, by show 0 ≤ (sA kd nu 6 (a + 2)).2.1 + 1 ∧ (sA kd nu 6 (a + 2)).2.1 + 1 ≤ nt; omega, ?_, ?_, ?_⟩, ?_, ?_, ⟨?_, ?_, fun b j hb => ?_⟩, ?_, ?_, ?_, ?_⟩⟩
          · rw [up2_if (by omega), up2_if (by omega), up2_if (by omega), up2_if (by omega), up2_if (by omega), f₇]; omega
          · rw [up2_if (by omega), up2_s]
          · rw [up2_if (by omega), up2_if (by omega), up2_if (by omega), up2_if (by omega), up2_if (by omega)]; exact f₁
          · rw [up2_if (by omega), up2_if (by omega), up2_s]
            show 0 ≤ k 37 17 + 1 ∧ k 37 17 + 1 ≤ (sA kd nu 6 (a + 2)).2.1 + 1
            omega
          · rw [up2_if (by omega), up2_if (by omega), up2_if (by omega), up2_if (by omega), up2_if (by omega), f₇]; omega
          · rw [up2_if (by omega), up2_if (by omega), up2_if (by omega), up2_if (by omega), up2_if (by omega)]; exact f₂
          · rw [up2_if (by omega), up2_if (by omega), up2_s, f₄]
          · rw [up2_s]
          · rw [up2_if (by omega), up2_if (by omega), up2_s]; omega
          · rw [up2_s]; omega
          · have hb₂ := hb
            unfold uOut at hb₂
            rw [up2_if (by omega), up2_if (by omega), up2_if (by omega), up2_if (by omega), up2_if (by omega)]
            exact fr₀ b j hb
          · rw [up2_if (by omega), up2_if (by omega), up2_if (by omega), up2_if (by omega), up2_if (by omega), q₂.1.2 44 _ (by unfold rOut; omega)]; exact e₅
          · rw [up2_if (by omega), up2_if (by omega), up2_if (by omega), up2_if (by omega), up2_if (by omega), q₂.1.2 45 _ (by unfold rOut; omega)]; exact e₆
          · refine rows_cg _ _ (fun j j₁ j₂ => ⟨?_, ?_⟩) f₅
            · rw [oM_len] at j₂
              have j₂ : j < 660 * nx + h 37 17 + (sA kd nu 6 (a + 2)).2.2.length := j₂
              rw [up2_if (by omega), up2_if (by omega), up2_if (by omega), up2_if (by omega), up2_if (by omega)]
            · rw [oM_len] at j₂
              have j₂ : j < 660 * nx + h 37 17 + (sA kd nu 6 (a + 2)).2.2.length := j₂
              rw [up2_if (by omega), up2_if (by omega), up2_if (by omega), up2_if (by omega), up2_if (by omega)]
          · show up2 _ _ _ _ 46 (660 * nx + h 37 17 + (sA kd nu 6 (a + 2)).2.2.length) = 0
            rw [up2_if (by omega), up2_if (by omega), up2_if (by omega), up2_if (by omega), show 660 * nx + h 37 17 + ((sA kd nu 6 (a + 2)).2.2.length : Int) = 660 * nx + k 37 17 by omega, up2_s]
        · rw [if_neg c₂]
          refine ⟨lnE kd pl k, m, fun n => by rw [hr, if_pos c₁, hm]; rfl, ?_, Or.inr ⟨by show ¬ (1 : Int) = 0; decide, ?_⟩⟩
          · unfold lnE mEm
            rw [if_pos f₁, f₆, if_neg c₂, up2_if (by omega), up2_if (by omega), up2_if (by omega), up2_if (by omega), up2_if (by omega), f₇]
            omega
          · unfold lnE mEm
            rw [if_pos f₁, f₆, if_neg c₂, up2_if (by omega), up2_s]
      · exact absurd y₁ q₁
    · have hno : sNo nt (sA kd nu 6 (a + 2)) := hno
      rw [if_neg hno.ne]
      rcases hq with ⟨q₁, q₂⟩ | ⟨q₁, k, q₂, m, hm⟩
      · exact absurd q₁ hno.ne
      · have q₂ : k 37 8 = (sA kd nu 6 (a + 2)).1 + 16 * pl (sA kd nu 6 (a + 2)).2.1 := q₂
        have hd := pRun_dp _ 0 _ (by decide) (hm 0)
        have hb := hpl _ hno.2.1 hno.2.2
        have h₈ : ¬ k 37 8 = 0 := by
          have := hno.1
          omega
        exact ⟨lnE kd pl k, m, fun n => by rw [hr, if_pos c₁, hm]; rfl, by rw [(lnE_8 h₈).2]; exact hd, Or.inr ⟨hno.ne, by rw [(lnE_8 h₈).1]; exact q₂⟩⟩
  · rw [if_neg c₁]
    have h₈ : (ln2 h (up2 (ln1 kd h) 37 8 (1 + 16 * pl (a + 1)))) 37 8 = 1 + 16 * pl (a + 1) := by
      unfold ln2 mOp
      rw [up2_if (by omega), up2_if (by omega), up2_if (by omega), up2_if (by omega), up2_if (by omega), up2_s]
    have h₉ : (ln2 h (up2 (ln1 kd h) 37 8 (1 + 16 * pl (a + 1)))) 37 18 = 0 := by
      unfold ln2 mOp
      rw [up2_if (by omega), up2_if (by omega), up2_if (by omega), up2_s]
    have hb := hpl (a + 1) (by omega) (by omega)
    have h₇ : ¬ (ln2 h (up2 (ln1 kd h) 37 8 (1 + 16 * pl (a + 1)))) 37 8 = 0 := by rw [h₈]; omega
    exact ⟨_, 0, fun n => by rw [hr, if_neg c₁], by rw [(lnE_8 h₇).2, h₉]; omega, Or.inr ⟨by show ¬ (1 : Int) = 0; decide, by rw [(lnE_8 h₇).1]; exact h₈⟩⟩
theorem rTx (hT : nt ≤ 600) (hnt : kd nt = 19) (hpl : ∀ b, 0 ≤ b → b ≤ nt → 0 ≤ pl b ∧ pl b ≤ 600) (hk : ∀ a, 0 ≤ a → a ≤ nt → 0 ≤ kd a ∧ 0 ≤ nu a ∧ nu a ≤ 9999) (hnx : 0 ≤ nx ∧ nx ≤ 1) (n : Nat) : ∀ (h : aI) (a : Int), rSl nt nx h a → 0 ≤ h 43 nx → h 43 nx + n = 16 →
    ∃ (k : aI) (m : Nat), (∀ F, txR kd pl nu (F + m) (n + 2) h = some k) ∧ (0 ≤ k 37 18 ∧ k 37 18 ≤ 5) ∧ qFr nx h k ∧
    (((sTx kd nu n a).1 = 0 ∧ k 37 8 = 0 ∧ k 43 nx = h 43 nx + (sTx kd nu n a).2.2.length ∧ uFr nx h k ∧ lR nx k (h 43 nx) (h 37 17) (sTx kd nu n a).2.2) ∨ (¬ (sTx kd nu n a).1 = 0 ∧ k 37 8 = (sTx kd nu n a).1 + 16 * pl (sTx kd nu n a).2.1)) := by
  have hen : ∀ (j : Nat) (h : aI) (a : Int), rSl nt nx h a → 0 ≤ h 43 nx → h 43 nx ≤ 16 → (h 43 nx = 16 ∨ ¬ (kd a = 16 ∨ kd a = 17)) → ∃ (k : aI) (m : Nat), (∀ F, txR kd pl nu (F + m) (j + 2) h = some k) ∧ (0 ≤ k 37 18 ∧ k 37 18 ≤ 5) ∧ qFr nx h k ∧
    (((sEn kd a).1 = 0 ∧ k 37 8 = 0 ∧ k 43 nx = h 43 nx + (sEn kd a).2.2.length ∧ uFr nx h k ∧ lR nx k (h 43 nx) (h 37 17) (sEn kd a).2.2) ∨ (¬ (sEn kd a).1 = 0 ∧ k 37 8 = (sEn kd a).1 + 16 * pl (sEn kd a).2.1)) := fun j h a s h₇ h₈ h₉ => by
    obtain ⟨s₁, s₂, s₃, s₄, s₅, s₆⟩ := s
    have hg : pG h := ⟨by omega, by omega, s₅, by omega⟩
    have ht : ∀ F i, txR kd pl nu F (i + 1) h = (if kd a = 19 then some h else match lnR kd pl nu F h with
      | none => none
      | some h2 => txR kd pl nu F i h2) := fun F i => by
      rw [txR, if_pos s₂, if_neg (not_not_intro hg), s₁]
      rfl
    have fl : ∀ x : Int, (x = 1 ∨ x = 5) → ¬ kd a = 19 → (∀ F, lnR kd pl nu F h = some (up2 h 37 8 (x + 16 * pl a))) → ∃ (k : aI) (m : Nat), (∀ F, txR kd pl nu (F + m) (j + 2) h = some k) ∧ (0 ≤ k 37 18 ∧ k 37 18 ≤ 5) ∧ qFr nx h k ∧ k 37 8 = x + 16 * pl a := fun x hx hq hl => by
      have hb := hpl a s₃.1 s₃.2
      refine ⟨up2 h 37 8 (x + 16 * pl a), 0, fun F => ?_, by rw [up2_if (by omega)]; exact s₅, qFr.of (Or.inl pO8), up2_s⟩
      rw [ht, if_neg hq, hl]
      dsimp only
      rw [txR, if_neg (by rw [up2_s]; omega)]
    unfold sEn
    by_cases c₁ : kd a = 16 ∨ kd a = 17
    · rw [if_pos c₁]
      obtain ⟨k, m, k₁, k₂, k₃, k₄⟩ := fl 5 (Or.inr rfl) (by omega) (fun F => by
        unfold lnR
        rw [if_neg (not_not_intro ⟨hg, by rw [s₆]; exact h₇, by rw [s₆]; exact h₈⟩), s₁, if_neg (not_not_intro c₁), if_pos (by rw [s₆]; omega)])
      exact ⟨k, m, k₁, k₂, k₃, Or.inr ⟨by show ¬ (5 : Int) = 0; decide, k₄⟩⟩
    · rw [if_neg c₁]
      by_cases c₂ : kd a = 19
      · rw [if_pos c₂]
        exact ⟨h, 0, fun F => by rw [ht, if_pos c₂], s₅, qFr.refl h, Or.inl ⟨rfl, s₂, by show h 43 nx = h 43 nx + ((0 : Nat) : Int); omega, uFr.refl h, trivial⟩⟩
      · rw [if_neg c₂]
        obtain ⟨k, m, k₁, k₂, k₃, k₄⟩ := fl 1 (Or.inl rfl) c₂ (fun F => by
          unfold lnR
          rw [if_neg (not_not_intro ⟨hg, by rw [s₆]; exact h₇, by rw [s₆]; exact h₈⟩), s₁, if_pos c₁])
        exact ⟨k, m, k₁, k₂, k₃, Or.inr ⟨by show ¬ (1 : Int) = 0; decide, k₄⟩⟩
  induction n with
  | zero => exact fun h a s h₇ h₈ => hen 0 h a s h₇ (by omega) (Or.inl (by omega))
  | succ n ih =>
    intro h a s h₇ h₈
    unfold sTx
    by_cases c₁ : kd a = 16 ∨ kd a = 17
    · rw [if_pos c₁]
      obtain ⟨s₁, s₂, s₃, s₄, s₅, s₆⟩ := id s
      have hg : pG h := ⟨by omega, by omega, s₅, by omega⟩
      have ht : ∀ F i, txR kd pl nu F (i + 1) h = (if kd a = 19 then some h else match lnR kd pl nu F h with
        | none => none
        | some h2 => txR kd pl nu F i h2) := fun F i => by
        rw [txR, if_pos s₂, if_neg (not_not_intro hg), s₁]
        rfl
      have hlt : a < nt := by
        rcases Int.lt_or_eq_of_le s₃.2 with q | q
        · exact q
        · rw [q, hnt] at c₁; omega
      obtain ⟨k, m, k₁, k₂, k₃⟩ := rLn hT hnt hpl hk hnx s hlt c₁ ⟨h₇, by omega⟩
      have fr₁ : qFr nx h k := by
        have := lnR_fr (k₁ 0)
        rw [s₆] at this
        exact this
      rcases k₃ with ⟨y₁, r₁, r₂, r₃, r₄, r₅, r₆, r₇, r₈⟩ | ⟨y₁, r₁⟩
      · rw [if_pos y₁]
        obtain ⟨k', m', x₁, x₂, x₃, x₄⟩ := ih k _ r₁ (by omega) (by omega)
        refine ⟨k', m + m', fun F => ?_, x₂, fr₁.trans x₃, ?_⟩
        · rw [show n + 1 + 2 = n + 2 + 1 from rfl, ht, if_neg (by omega), show F + (m + m') = F + m' + m by omega, k₁]
          dsimp only
          rw [show F + m' + m = F + m + m' by omega, x₁]
        · rcases x₄ with ⟨z₁, z₂, z₃, z₄, z₅⟩ | ⟨z₁, z₂⟩
          · refine Or.inl ⟨z₁, z₂, by rw [z₃, r₃, List.length_cons]; omega, r₄.trans z₄, ?_, ?_, ?_, ?_, ?_⟩
            · show k' 44 (16 * nx + h 43 nx) = 1 - (if kd a = 16 then 1 else 0)
              rw [z₄.2.2 44 _ (by unfold uOut; omega), r₅]
              rcases c₁ with q | q
              · rw [q]; rfl
              · rw [q]; rfl
            · rw [z₄.2.2 45 _ (by unfold uOut; omega)]; exact r₆
            · refine rows_cg _ _ (fun j j₁ j₂ => ?_) r₇
              rw [oM_len] at j₂
              have j₂ : j < 660 * nx + h 37 17 + (sLn kd nu a).2.2.length := j₂
              exact ⟨z₄.2.2 46 j (by unfold uOut; omega), z₄.2.2 47 j (by unfold uOut; omega)⟩
            · show k' 46 (660 * nx + h 37 17 + (sLn kd nu a).2.2.length) = 0
              rw [z₄.2.2 46 _ (by unfold uOut; omega)]; exact r₈
            · show lR nx k' (h 43 nx + 1) (h 37 17 + (sLn kd nu a).2.2.length + 1) _
              rw [← r₃, ← r₂]
              exact z₅
          · exact Or.inr ⟨z₁, z₂⟩
      · rw [if_neg y₁]
        refine ⟨k, m, fun F => ?_, k₂, fr₁, Or.inr ⟨y₁, r₁⟩⟩
        have hno := (sLn_good hk hnt s₃.1 hlt hT).resolve_left (fun q => y₁ q.1)
        have hb := hpl _ hno.2.1 hno.2.2
        have h₅ : ¬ k 37 8 = 0 := by
          have := hno.1
          omega
        rw [show n + 1 + 2 = n + 2 + 1 from rfl, ht, if_neg (by omega), k₁]
        dsimp only
        rw [txR, if_neg h₅]
    · rw [if_neg c₁]
      exact hen (n + 1) h a s h₇ (by omega) (Or.inr c₁)
end STR
