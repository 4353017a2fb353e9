/-! TOKENS of both sides are the same -/
def kdW (v : Int) : Int := if v = 30595897 then 0 else if v = 710997 then 1 else if v = 15782540 then 2 else if v = 1715 then 3 else if v = 4904 then 4 else if v = 1126628337 then 5 else if v = 5538 then 6 else if v = 1891 then 14 else if v = 16633 then 16 else if v = 2793 then 17 else if v = 1176170 then 18 else 20
def kdF (so v : Int) : Int := if so = 0 then 19 else if so = 2 then 7 else if so = 3 then kSg v else if so = 1 then kdW v else 20
def nuF (so v : Int) : Int := if so = 2 then v else 0
theorem vP_cg {q a : Int} {s s' : Int → Int} {f f' : Int} (m : Nat) (h : ∀ i : Nat, i < m → s (f + i) = s' (f' + i)) : vP q a s f m = vP q a s' f' m := by
  induction m with
  | zero => rfl
  | succ m ih => rw [vP, vP, ih fun i hi => h i (by omega), h m (by omega)]
theorem vP_inj {s s' : Int → Int} {f f' : Int} (m : Nat) : ∀ m' : Nat, (∀ i : Nat, i < m → 97 ≤ s (f + i) ∧ s (f + i) ≤ 122) → (∀ i : Nat, i < m' → 97 ≤ s' (f' + i) ∧ s' (f' + i) ≤ 122) → vP 37 96 s f m = vP 37 96 s' f' m' → m = m' ∧ ∀ i : Nat, i < m → s (f + i) = s' (f' + i) := by
  induction m with
  | zero =>
    intro m' h₁ h₂ h₃
    cases m' with
    | zero => exact ⟨rfl, fun i hi => absurd hi (by omega)⟩
    | succ k =>
      have p₁ := (vP_b (q := 37) (a := 96) (s := s') (f := f') (by decide) k fun i hi => by have := h₂ i (by omega); omega).1
      have p₂ := h₂ k (by omega)
      rw [vP, vP] at h₃
      omega
  | succ n ih =>
    intro m' h₁ h₂ h₃
    have p₁ := (vP_b (q := 37) (a := 96) (s := s) (f := f) (by decide) n fun i hi => by have := h₁ i (by omega); omega).1
    have p₂ := h₁ n (by omega)
    cases m' with
    | zero =>
      rw [vP, vP] at h₃
      omega
    | succ k =>
      have p₃ := (vP_b (q := 37) (a := 96) (s := s') (f := f') (by decide) k fun i hi => by have := h₂ i (by omega); omega).1
      have p₄ := h₂ k (by omega)
      rw [vP, vP] at h₃
      obtain ⟨e₁, e₂⟩ := ih k (fun i hi => h₁ i (by omega)) (fun i hi => h₂ i (by omega)) (by omega)
      subst e₁
      refine ⟨rfl, fun i hi => ?_⟩
      by_cases q : i = n
      · subst q; omega
      · exact e₂ i (by omega)
def kV (i : Nat) : Int := vP 37 96 (fun k => (jW i).getD k.toNat 0) 0 (jW i).length
theorem jW_l : ∀ i, i < 11 → ∀ k, k < (jW i).length → 97 ≤ (jW i).getD k 0 ∧ (jW i).getD k 0 ≤ 122 := by decide +kernel
theorem sp_iff {s : Int → Int} {f e : Int} {i : Nat} (hi : i < 11) (hfe : f ≤ e) (hL : ∀ k, f ≤ k → k < e → 97 ≤ s k ∧ s k ≤ 122) : spW s f e (jW i) ↔ vP 37 96 s f (e - f).toNat = kV i := by
  have hJ : ∀ k : Nat, (fun k : Int => (jW i).getD k.toNat 0) (0 + (k : Int)) = (jW i).getD k 0 := fun k => by
    show (jW i).getD (0 + (k : Int)).toNat 0 = _
    rw [show (0 + (k : Int)).toNat = k by omega]
  constructor
  · intro h
    have e₁ : (e - f).toNat = (jW i).length := by have := h.1; omega
    unfold kV
    rw [e₁]
    exact vP_cg _ fun k hk => (h.2 k hk).trans (hJ k).symm
  · intro h
    obtain ⟨e₁, e₂⟩ := vP_inj (s := s) (f := f) (s' := fun k => (jW i).getD k.toNat 0) (f' := 0) _ _ (fun k hk => hL _ (by omega) (by omega)) (fun k hk => by rw [show (0 + (k : Int)).toNat = k by omega]; exact jW_l i hi k hk) h
    refine ⟨by omega, fun k hk => ?_⟩
    rw [e₂ k (by omega)]
    exact hJ k
theorem kV_0 : kV 0 = 30595897 := by decide +kernel
theorem kV_1 : kV 1 = 710997 := by decide +kernel
theorem kV_2 : kV 2 = 15782540 := by decide +kernel
theorem kV_3 : kV 3 = 1715 := by decide +kernel
theorem kV_4 : kV 4 = 4904 := by decide +kernel
theorem kV_5 : kV 5 = 1126628337 := by decide +kernel
theorem kV_6 : kV 6 = 5538 := by decide +kernel
theorem kV_7 : kV 7 = 1891 := by decide +kernel
theorem kV_8 : kV 8 = 16633 := by decide +kernel
theorem kV_9 : kV 9 = 2793 := by decide +kernel
theorem kV_10 : kV 10 = 1176170 := by decide +kernel
set_option maxHeartbeats 1000000 in
theorem kw_eq {s : Int → Int} {f e k : Int} (hfe : f ≤ e) (hL : ∀ k, f ≤ k → k < e → 97 ≤ s k ∧ s k ≤ 122) (h : kWd s f e k) : k = kdW (vP 37 96 s f (e - f).toNat) := by
  have s0 := (sp_iff (s := s) (i := 0) (by decide) hfe hL)
  rw [kV_0] at s0
  have s1 := (sp_iff (s := s) (i := 1) (by decide) hfe hL)
  rw [kV_1] at s1
  have s2 := (sp_iff (s := s) (i := 2) (by decide) hfe hL)
  rw [kV_2] at s2
  have s3 := (sp_iff (s := s) (i := 3) (by decide) hfe hL)
  rw [kV_3] at s3
  have s4 := (sp_iff (s := s) (i := 4) (by decide) hfe hL)
  rw [kV_4] at s4
  have s5 := (sp_iff (s := s) (i := 5) (by decide) hfe hL)
  rw [kV_5] at s5
  have s6 := (sp_iff (s := s) (i := 6) (by decide) hfe hL)
  rw [kV_6] at s6
  have s7 := (sp_iff (s := s) (i := 7) (by decide) hfe hL)
  rw [kV_7] at s7
  have s8 := (sp_iff (s := s) (i := 8) (by decide) hfe hL)
  rw [kV_8] at s8
  have s9 := (sp_iff (s := s) (i := 9) (by decide) hfe hL)
  rw [kV_9] at s9
  have s10 := (sp_iff (s := s) (i := 10) (by decide) hfe hL)
  rw [kV_10] at s10
  unfold kWd at h
  simp only [s0, s1, s2, s3, s4, s5, s6, s7, s8, s9, s10] at h
  generalize vP 37 96 s f (e - f).toNat = v at h
  unfold kdW
  rcases h with ⟨a0, rfl⟩ | ⟨a0, a1, rfl⟩ | ⟨a0, a1, a2, rfl⟩ | ⟨a0, a1, a2, a3, rfl⟩ | ⟨a0, a1, a2, a3, a4, rfl⟩ | ⟨a0, a1, a2, a3, a4, a5, rfl⟩ | ⟨a0, a1, a2, a3, a4, a5, a6, rfl⟩ | ⟨a0, a1, a2, a3, a4, a5, a6, a7, rfl⟩ | ⟨a0, a1, a2, a3, a4, a5, a6, a7, a8, rfl⟩ | ⟨a0, a1, a2, a3, a4, a5, a6, a7, a8, a9, rfl⟩ | ⟨a0, a1, a2, a3, a4, a5, a6, a7, a8, a9, a10, rfl⟩ | ⟨a0, a1, a2, a3, a4, a5, a6, a7, a8, a9, a10, rfl⟩
  · rw [if_pos a0]
  · rw [if_neg a0, if_pos a1]
  · rw [if_neg a0, if_neg a1, if_pos a2]
  · rw [if_neg a0, if_neg a1, if_neg a2, if_pos a3]
  · rw [if_neg a0, if_neg a1, if_neg a2, if_neg a3, if_pos a4]
  · rw [if_neg a0, if_neg a1, if_neg a2, if_neg a3, if_neg a4, if_pos a5]
  · rw [if_neg a0, if_neg a1, if_neg a2, if_neg a3, if_neg a4, if_neg a5, if_pos a6]
  · rw [if_neg a0, if_neg a1, if_neg a2, if_neg a3, if_neg a4, if_neg a5, if_neg a6, if_pos a7]
  · rw [if_neg a0, if_neg a1, if_neg a2, if_neg a3, if_neg a4, if_neg a5, if_neg a6, if_neg a7, if_pos a8]
  · rw [if_neg a0, if_neg a1, if_neg a2, if_neg a3, if_neg a4, if_neg a5, if_neg a6, if_neg a7, if_neg a8, if_pos a9]
  · rw [if_neg a0, if_neg a1, if_neg a2, if_neg a3, if_neg a4, if_neg a5, if_neg a6, if_neg a7, if_neg a8, if_neg a9, if_pos a10]
  · rw [if_neg a0, if_neg a1, if_neg a2, if_neg a3, if_neg a4, if_neg a5, if_neg a6, if_neg a7, if_neg a8, if_neg a9, if_neg a10]
theorem kS_f (v : Int) : (kSg v = 8 ↔ v = 40) ∧ (kSg v = 9 ↔ v = 41) ∧ (kSg v = 10 ↔ v = 60) ∧ (kSg v = 11 ↔ v = 61) ∧ (kSg v = 12 ↔ v = 43) ∧ (kSg v = 13 ↔ v = 45) ∧ (kSg v = 15 ↔ v = 59) ∧ 8 ≤ kSg v ∧ kSg v ≤ 20 ∧ ¬ kSg v = 14 ∧ ¬ kSg v = 16 ∧ ¬ kSg v = 17 ∧ ¬ kSg v = 18 ∧ ¬ kSg v = 19 := by
  unfold kSg
  by_cases a0 : v = 40
  · subst a0; decide
  · rw [if_neg a0]
    by_cases a1 : v = 41
    · subst a1; decide
    · rw [if_neg a1]
      by_cases a2 : v = 43
      · subst a2; decide
      · rw [if_neg a2]
        by_cases a3 : v = 45
        · subst a3; decide
        · rw [if_neg a3]
          by_cases a4 : v = 59
          · subst a4; decide
          · rw [if_neg a4]
            by_cases a5 : v = 60
            · subst a5; decide
            · rw [if_neg a5]
              by_cases a6 : v = 61
              · subst a6; decide
              · rw [if_neg a6]
                exact ⟨by omega, by omega, by omega, by omega, by omega, by omega, by omega, by decide, by decide, by decide, by decide, by decide, by decide, by decide⟩
set_option maxHeartbeats 1000000 in
theorem kW_f (v : Int) : (kdW v = 0 ↔ v = 30595897) ∧ (kdW v = 1 ↔ v = 710997) ∧ (kdW v = 2 ↔ v = 15782540) ∧ (kdW v = 3 ↔ v = 1715) ∧ (kdW v = 4 ↔ v = 4904) ∧ (kdW v = 5 ↔ v = 1126628337) ∧ (kdW v = 6 ↔ v = 5538) ∧ (kdW v = 14 ↔ v = 1891) ∧ (kdW v = 16 ↔ v = 16633) ∧ (kdW v = 17 ↔ v = 2793) ∧ (kdW v = 18 ↔ v = 1176170) ∧ 0 ≤ kdW v ∧ kdW v ≤ 20 ∧ ¬ kdW v = 7 ∧ ¬ kdW v = 8 ∧ ¬ kdW v = 9 ∧ ¬ kdW v = 10 ∧ ¬ kdW v = 11 ∧ ¬ kdW v = 12 ∧ ¬ kdW v = 13 ∧ ¬ kdW v = 15 ∧ ¬ kdW v = 19 := by
  unfold kdW
  by_cases a0 : v = 30595897
  · subst a0; decide
  · rw [if_neg a0]
    by_cases a1 : v = 710997
    · subst a1; decide
    · rw [if_neg a1]
      by_cases a2 : v = 15782540
      · subst a2; decide
      · rw [if_neg a2]
        by_cases a3 : v = 1715
        · subst a3; decide
        · rw [if_neg a3]
          by_cases a4 : v = 4904
          · subst a4; decide
          · rw [if_neg a4]
            by_cases a5 : v = 1126628337
            · subst a5; decide
            · rw [if_neg a5]
              by_cases a6 : v = 5538
              · subst a6; decide
              · rw [if_neg a6]
                by_cases a7 : v = 1891
                · subst a7; decide
                · rw [if_neg a7]
                  by_cases a8 : v = 16633
                  · subst a8; decide
                  · rw [if_neg a8]
                    by_cases a9 : v = 2793
                    · subst a9; decide
                    · rw [if_neg a9]
                      by_cases a10 : v = 1176170
                      · subst a10; decide
                      · rw [if_neg a10]
                        exact ⟨by omega, by omega, by omega, by omega, by omega, by omega, by omega, by omega, by omega, by omega, by omega, by decide, by decide, by decide, by decide, by decide, by decide, by decide, by decide, by decide, by decide, by decide⟩
theorem kF_0 (v : Int) : kdF 0 v = 19 := rfl
theorem kF_2 (v : Int) : kdF 2 v = 7 := rfl
theorem kF_3 (v : Int) : kdF 3 v = kSg v := rfl
theorem kF_1 (v : Int) : kdF 1 v = kdW v := rfl
theorem kF_4 {so : Int} (v : Int) (h₀ : ¬ so = 0) (h₂ : ¬ so = 2) (h₃ : ¬ so = 3) (h₁ : ¬ so = 1) : kdF so v = 20 := by
  unfold kdF
  rw [if_neg h₀, if_neg h₂, if_neg h₃, if_neg h₁]
theorem kTk_eq {s : Int → Int} {sz f k nu : Int} (hf : f < sz) (h : kTk s sz f k nu) : k = kdF (tSo s sz f) (tV s sz f) ∧ nu = nuF (tSo s sz f) (tV s sz f) := by
  unfold kTk at h
  unfold tSo tV
  have g₁ := rE_ge (p := pL) (s := s) (sz := sz) (k := f)
  have g₃ := rE_ge (p := pD) (s := s) (sz := sz) (k := f)
  rcases h with ⟨h₁, rfl, h₂⟩ | ⟨h₁, h₂, h₃⟩ | ⟨h₁, h₂, rfl, rfl⟩
  · rw [if_pos h₁, if_pos h₁]
    rcases h₂ with ⟨h₂, rfl⟩ | ⟨h₂, h₃⟩
    · rw [if_pos (by omega)]
      exact ⟨rfl, rfl⟩
    · rw [if_neg (by omega), kF_1, show min (rE pL s sz f - f).toNat 8 = (rE pL s sz f - f).toNat by omega]
      exact ⟨kw_eq g₁ (fun k a b => pL_t.mp (rE_all a b)) h₃, rfl⟩
  · rw [if_neg h₁, if_neg h₁, if_pos h₂, if_pos h₂]
    rcases h₃ with ⟨h₃, rfl, rfl⟩ | ⟨h₃, rfl, rfl⟩
    · rw [if_neg (by omega), show min (rE pD s sz f - f).toNat 4 = (rE pD s sz f - f).toNat by omega]
      exact ⟨rfl, rfl⟩
    · rw [if_pos (by omega)]
      exact ⟨rfl, rfl⟩
  · rw [if_neg h₁, if_neg h₁, if_neg h₂, if_neg h₂]
    by_cases q : s f = 40 ∨ s f = 41 ∨ s f = 59 ∨ s f = 61 ∨ s f = 60 ∨ s f = 43 ∨ s f = 45
    · rw [if_pos q]
      exact ⟨rfl, rfl⟩
    · rw [if_neg q]
      refine ⟨?_, rfl⟩
      show kSg (s f) = 20
      unfold kSg
      rw [if_neg (by omega), if_neg (by omega), if_neg (by omega), if_neg (by omega), if_neg (by omega), if_neg (by omega), if_neg (by omega)]
/-- kd pl nu are the TOKENS of the tape, of which there are nt, the end not counted -/
def TK (s : Int → Int) (sz nt : Int) (kd pl nu : Int → Int) : Prop :=
  (0 ≤ nt ∧ nt ≤ 600) ∧ tS s sz nt.toNat = sz ∧ (∀ i : Nat, i < nt.toNat → 0 ≤ tS s sz i ∧ tS s sz i < sz) ∧
  (∀ b : Int, 0 ≤ b → b < nt → kd b = kdF (tSo s sz (tS s sz b.toNat)) (tV s sz (tS s sz b.toNat)) ∧ pl b = tS s sz b.toNat ∧ nu b = nuF (tSo s sz (tS s sz b.toNat)) (tV s sz (tS s sz b.toNat))) ∧
  kd nt = 19 ∧ pl nt = sz ∧ nu nt = 0
section TKs
variable {s : Int → Int} {sz nt : Int} {kd pl nu : Int → Int}
theorem TK.uniq {nt' : Int} {kd' pl' nu' : Int → Int} (h : TK s sz nt kd pl nu) (h' : TK s sz nt' kd' pl' nu') : nt' = nt := by
  obtain ⟨a₁, a₂, a₃, -⟩ := h
  obtain ⟨b₁, b₂, b₃, -⟩ := h'
  by_cases q : nt' < nt
  · have := a₃ nt'.toNat (by omega)
    omega
  · by_cases q₂ : nt < nt'
    · have := b₃ nt.toNat (by omega)
      omega
    · omega
theorem TK.same {nt' : Int} {kd' pl' nu' : Int → Int} (h : TK s sz nt kd pl nu) (h' : TK s sz nt' kd' pl' nu') : ∀ b, 0 ≤ b → b ≤ nt → kd' b = kd b ∧ pl' b = pl b ∧ nu' b = nu b := fun b h₀ h₁ => by
  have e := h.uniq h'
  subst e
  obtain ⟨-, -, -, a₄, a₅, a₆, a₇⟩ := h
  obtain ⟨-, -, -, b₄, b₅, b₆, b₇⟩ := h'
  by_cases q : b = nt'
  · subst q
    exact ⟨b₅.trans a₅.symm, b₆.trans a₆.symm, b₇.trans a₇.symm⟩
  · obtain ⟨c₁, c₂, c₃⟩ := a₄ b h₀ (by omega)
    obtain ⟨d₁, d₂, d₃⟩ := b₄ b h₀ (by omega)
    exact ⟨d₁.trans c₁.symm, d₂.trans c₂.symm, d₃.trans c₃.symm⟩
theorem nuF_b {f : Int} : 0 ≤ nuF (tSo s sz f) (tV s sz f) ∧ nuF (tSo s sz f) (tV s sz f) ≤ 9999 := by
  have g₃ := rE_ge (p := pD) (s := s) (sz := sz) (k := f)
  unfold nuF
  split
  · rename_i q
    unfold tSo at q
    unfold tV
    split at q
    · split at q <;> omega
    · split at q
      · rename_i q₁ q₂
        rw [if_neg q₁, if_pos q₂]
        have := vP_3 (s := s) (f := f) (min (rE pD s sz f - f).toNat 4) (by omega) fun i hi => pD_t.mp (rE_all (k := f) (sz := sz) (by omega) (by omega))
        omega
      · split at q <;> omega
  · decide
theorem kdF_b (so v : Int) : 0 ≤ kdF so v ∧ kdF so v ≤ 20 := by
  by_cases h₀ : so = 0
  · subst h₀; rw [kF_0]; decide
  · by_cases h₂ : so = 2
    · subst h₂; rw [kF_2]; decide
    · by_cases h₃ : so = 3
      · subst h₃
        rw [kF_3]
        have := (kS_f v).2.2.2.2.2.2.2
        omega
      · by_cases h₁ : so = 1
        · subst h₁
          rw [kF_1]
          have := (kW_f v).2.2.2.2.2.2.2.2.2.2.2
          omega
        · rw [kF_4 v h₀ h₂ h₃ h₁]; decide
theorem TK.b (h : TK s sz nt kd pl nu) (hsz : 0 ≤ sz ∧ sz ≤ 600) : (∀ b, 0 ≤ b → b ≤ nt → 0 ≤ pl b ∧ pl b ≤ 600) ∧ ∀ a, 0 ≤ a → a ≤ nt → 0 ≤ kd a ∧ 0 ≤ nu a ∧ nu a ≤ 9999 := by
  obtain ⟨a₁, a₂, a₃, a₄, a₅, a₆, a₇⟩ := h
  refine ⟨fun b h₀ h₁ => ?_, fun b h₀ h₁ => ?_⟩
  · by_cases q : b = nt
    · subst q; rw [a₆]; exact hsz
    · rw [(a₄ b h₀ (by omega)).2.1]
      have := a₃ b.toNat (by omega)
      omega
  · by_cases q : b = nt
    · subst q; rw [a₅, a₇]; decide
    · obtain ⟨c₁, -, c₃⟩ := a₄ b h₀ (by omega)
      rw [c₁, c₃]
      exact ⟨(kdF_b _ _).1, nuF_b⟩
end TKs
theorem cAT_r {h : aI} {k s n : Int} (b : Nat) (j : Int) : cAT h k s n b j = if b = 18 ∧ j = 3 then h 18 3 + 1 else if b = 21 ∧ j = h 18 3 then n else if b = 20 ∧ j = h 18 3 then s else if b = 19 ∧ j = h 18 3 then k else h b j := rfl
/-- what the class's scan leaves is the TOKENS -/
theorem scQ.tk {h₀ H : aI} (h : scQ h₀ H) : ∃ nt, TK (h₀ 16) (h₀ 15 1) nt (H 19) (H 20) (H 21) := by
  obtain ⟨nt, h₂, n₀, n₁, ⟨c₁, c₂, c₃⟩, t₁, t₂, rfl⟩ := h
  refine ⟨nt, ⟨n₀, n₁⟩, t₁, t₂, fun b b₀ b₁ => ?_, ?_, ?_, ?_⟩
  · obtain ⟨e₁, e₂⟩ := c₃ b b₀ b₁
    have hf := (t₂ b.toNat (by omega)).2
    obtain ⟨k₁, k₂⟩ := kTk_eq hf e₂
    rw [cAT_r, cAT_r, cAT_r, c₂, if_neg (by omega), if_neg (by omega), if_neg (by omega), if_neg (by omega), if_neg (by omega), if_neg (by omega), if_neg (by omega), if_neg (by omega), if_neg (by omega), if_neg (by omega), if_neg (by omega), if_neg (by omega)]
    exact ⟨k₁, e₁, k₂⟩
  · rw [cAT_r, c₂, if_neg (by omega), if_neg (by omega), if_neg (by omega), if_pos ⟨rfl, rfl⟩]
  · rw [cAT_r, c₂, if_neg (by omega), if_neg (by omega), if_pos ⟨rfl, rfl⟩]
  · rw [cAT_r, c₂, if_neg (by omega), if_pos ⟨rfl, rfl⟩]
theorem scQ.fr {h₀ H : aI} (h : scQ h₀ H) {b : Nat} {j : Int} (h₁ : b ≠ 19) (h₂ : b ≠ 20) (h₃ : b ≠ 21) (h₄ : ¬ (b = 18 ∧ j = 3)) : H b j = h₀ b j := by
  obtain ⟨nt, h₂', n₀, n₁, ⟨c₁, c₂, c₃⟩, t₁, t₂, rfl⟩ := h
  rw [cAT_r, if_neg h₄, if_neg (fun q => h₃ q.1), if_neg (fun q => h₂ q.1), if_neg (fun q => h₁ q.1), c₁ b j h₁ h₂ h₃ h₄, up2_eq, if_neg h₄]
/-- what the reference keeps of TOKENS read before *) -/
def LXI (hi hl : aI) : Prop := (∀ a, 0 ≤ a → a ≤ 600 → 0 ≤ hi 40 a ∧ hi 40 a ≤ 600) ∧ (∀ a, 0 ≤ a → a ≤ 600 → hi 39 a = 2 → 0 ≤ hl 41 a ∧ hl 41 a ≤ 9999) ∧ hi 39 600 = 0 ∧ ∀ i, hl 42 i = iwU 11 43 i
theorem LXI.w {hi hl : aI} (h : LXI hi hl) : hl 42 0 = 16633 ∧ hl 42 1 = 2793 ∧ hl 42 2 = 1176170 ∧ hl 42 3 = 1891 ∧ hl 42 (4 + 0) = 30595897 ∧ hl 42 (4 + 1) = 710997 ∧ hl 42 (4 + 2) = 15782540 ∧ hl 42 (4 + 3) = 1715 ∧ hl 42 (4 + 4) = 4904 ∧ hl 42 (4 + 5) = 1126628337 ∧ hl 42 (4 + 6) = 5538 := by
  have w := h.2.2.2
  exact ⟨(w _).trans (by decide), (w _).trans (by decide), (w _).trans (by decide), (w _).trans (by decide), (w _).trans (by decide), (w _).trans (by decide), (w _).trans (by decide), (w _).trans (by decide), (w _).trans (by decide), (w _).trans (by decide), (w _).trans (by decide)⟩
set_option maxHeartbeats 2000000 in
theorem LXI.tk {hi hl : aI} (h : LXI hi hl) : tkH (fun b => kdF (hi 39 b) (hl 41 b)) (hi 40) (fun b => nuF (hi 39 b) (hl 41 b)) hi hl := fun a a₀ a₁ => by
  have hw := h.w
  have hp := h.1 a a₀ a₁
  have hn := h.2.1 a a₀ a₁
  have hb := kdF_b (hi 39 a) (hl 41 a)
  show tkAt (fun b => kdF (hi 39 b) (hl 41 b)) (hi 40) (fun b => nuF (hi 39 b) (hl 41 b)) (hi 39) (hi 40) hl a
  unfold tkAt
  obtain ⟨w0, w1, w2, w3, w4, w5, w6, w7, w8, w9, w10⟩ := hw
  rw [w0, w1, w2, w3]
  dsimp only
  have hk : ∀ k : Int, 0 ≤ k → k < 7 → (k = 0 ∧ hl 42 (4 + k) = 30595897) ∨ (k = 1 ∧ hl 42 (4 + k) = 710997) ∨ (k = 2 ∧ hl 42 (4 + k) = 15782540) ∨ (k = 3 ∧ hl 42 (4 + k) = 1715) ∨ (k = 4 ∧ hl 42 (4 + k) = 4904) ∨ (k = 5 ∧ hl 42 (4 + k) = 1126628337) ∨ (k = 6 ∧ hl 42 (4 + k) = 5538) := fun k k₀ k₁ => by
    have e : k = 0 ∨ k = 1 ∨ k = 2 ∨ k = 3 ∨ k = 4 ∨ k = 5 ∨ k = 6 := by omega
    rcases e with rfl | rfl | rfl | rfl | rfl | rfl | rfl
    · exact Or.inl ⟨rfl, w4⟩
    · exact Or.inr (Or.inl ⟨rfl, w5⟩)
    · exact Or.inr (Or.inr (Or.inl ⟨rfl, w6⟩))
    · exact Or.inr (Or.inr (Or.inr (Or.inl ⟨rfl, w7⟩)))
    · exact Or.inr (Or.inr (Or.inr (Or.inr (Or.inl ⟨rfl, w8⟩))))
    · exact Or.inr (Or.inr (Or.inr (Or.inr (Or.inr (Or.inl ⟨rfl, w9⟩)))))
    · exact Or.inr (Or.inr (Or.inr (Or.inr (Or.inr (Or.inr ⟨rfl, w10⟩)))))
  clear w0 w1 w2 w3 w4 w5 w6 w7 w8 w9 w10
  refine ⟨hb, hp, rfl, ?_⟩
  generalize hi 39 a = so at hn hb ⊢
  generalize hl 41 a = v at hn hb ⊢
  have i3 : ¬ so = 3 → ∀ x y : Int, ¬ kdF so v = y → ((so = 3 ∧ v = x) ↔ kdF so v = y) := fun q x y hy => ⟨fun e => absurd e.1 q, fun e => absurd e hy⟩
  have i1 : ¬ so = 1 → ∀ x y : Int, ¬ kdF so v = y → ((so = 1 ∧ v = x) ↔ kdF so v = y) := fun q x y hy => ⟨fun e => absurd e.1 q, fun e => absurd e hy⟩
  by_cases h₀ : so = 0
  · subst h₀
    rw [kF_0] at *
    exact ⟨by decide, by decide, fun q => absurd q (by decide), i3 (by decide) _ _ (by decide), i3 (by decide) _ _ (by decide), i3 (by decide) _ _ (by decide), i3 (by decide) _ _ (by decide), i3 (by decide) _ _ (by decide), i3 (by decide) _ _ (by decide), i3 (by decide) _ _ (by decide), i1 (by decide) _ _ (by decide), i1 (by decide) _ _ (by decide), i1 (by decide) _ _ (by decide), i1 (by decide) _ _ (by decide), fun k k₀ k₁ => i1 (by decide) _ _ (by omega)⟩
  · by_cases h₂ : so = 2
    · subst h₂
      have hn := hn rfl
      rw [kF_2] at *
      exact ⟨by decide, by decide, fun _ => ⟨rfl, hn⟩, i3 (by decide) _ _ (by decide), i3 (by decide) _ _ (by decide), i3 (by decide) _ _ (by decide), i3 (by decide) _ _ (by decide), i3 (by decide) _ _ (by decide), i3 (by decide) _ _ (by decide), i3 (by decide) _ _ (by decide), i1 (by decide) _ _ (by decide), i1 (by decide) _ _ (by decide), i1 (by decide) _ _ (by decide), i1 (by decide) _ _ (by decide), fun k k₀ k₁ => i1 (by decide) _ _ (by omega)⟩
    · by_cases h₃ : so = 3
      · subst h₃
        obtain ⟨f1, f2, f3, f4, f5, f6, f7, f8, f9, f10, f11, f12, f13, f14⟩ := kS_f v
        rw [kF_3] at *
        have j3 : ∀ x y : Int, (kSg v = y ↔ v = x) → (((3 : Int) = 3 ∧ v = x) ↔ kSg v = y) := fun x y e => ⟨fun q => e.mpr q.2, fun q => ⟨rfl, e.mp q⟩⟩
        exact ⟨⟨fun q => absurd q (by decide), fun q => absurd q f14⟩, ⟨fun q => absurd q (by decide), fun q => by omega⟩, fun q => by omega, j3 _ _ f1, j3 _ _ f2, j3 _ _ f3, j3 _ _ f4, j3 _ _ f5, j3 _ _ f6, j3 _ _ f7, i1 (by decide) _ _ f11, i1 (by decide) _ _ f12, i1 (by decide) _ _ f13, i1 (by decide) _ _ f10, fun k k₀ k₁ => i1 (by decide) _ _ (by omega)⟩
      · by_cases h₁ : so = 1
        · subst h₁
          obtain ⟨g0, g1, g2, g3, g4, g5, g6, g7, g8, g9, g10, b₀, b₁, n7, n8, n9, n10, n11, n12, n13, n15, n19⟩ := kW_f v
          rw [kF_1] at *
          have j1 : ∀ x y : Int, (kdW v = y ↔ v = x) → (((1 : Int) = 1 ∧ v = x) ↔ kdW v = y) := fun x y e => ⟨fun q => e.mpr q.2, fun q => ⟨rfl, e.mp q⟩⟩
          refine ⟨⟨fun q => absurd q (by decide), fun q => absurd q n19⟩, ⟨fun q => absurd q (by decide), fun q => absurd q n7⟩, fun q => absurd q n7, i3 (by decide) _ _ n8, i3 (by decide) _ _ n9, i3 (by decide) _ _ n10, i3 (by decide) _ _ n11, i3 (by decide) _ _ n12, i3 (by decide) _ _ n13, i3 (by decide) _ _ n15, j1 _ _ g8, j1 _ _ g9, j1 _ _ g10, j1 _ _ g7, fun k k₀ k₁ => ?_⟩
          rcases hk k k₀ k₁ with ⟨rfl, e⟩ | ⟨rfl, e⟩ | ⟨rfl, e⟩ | ⟨rfl, e⟩ | ⟨rfl, e⟩ | ⟨rfl, e⟩ | ⟨rfl, e⟩ <;> rw [e]
          · exact j1 _ _ g0
          · exact j1 _ _ g1
          · exact j1 _ _ g2
          · exact j1 _ _ g3
          · exact j1 _ _ g4
          · exact j1 _ _ g5
          · exact j1 _ _ g6
        · have e := kF_4 v h₀ h₂ h₃ h₁
          rw [e] at i3 i1 ⊢
          exact ⟨⟨fun q => absurd q h₀, fun q => absurd q (by decide)⟩, ⟨fun q => absurd q h₂, fun q => absurd q (by decide)⟩, fun q => absurd q (by decide), i3 h₃ _ _ (by decide), i3 h₃ _ _ (by decide), i3 h₃ _ _ (by decide), i3 h₃ _ _ (by decide), i3 h₃ _ _ (by decide), i3 h₃ _ _ (by decide), i3 h₃ _ _ (by decide), i1 h₁ _ _ (by decide), i1 h₁ _ _ (by decide), i1 h₁ _ _ (by decide), i1 h₁ _ _ (by decide), fun k k₀ k₁ => i1 h₁ _ _ (by omega)⟩
/-- what the reference's cutAll leaves is the TOKENS *) -/
theorem CQ_tk {z : aZ} {hr : aR} {s : Int → Int} {sz : Int} {h₀ l₀ hi hl : aI} (h : CQ z hr s sz h₀ l₀ none z hr hi hl) (hx : LXI h₀ l₀) (hsz : 0 ≤ sz ∧ sz ≤ 600) : LXI hi hl ∧ ∃ nt, TK s sz nt (fun b => kdF (hi 39 b) (hl 41 b)) (hi 40) (fun b => nuF (hi 39 b) (hl 41 b)) := by
  obtain ⟨-, -, -, nt, h₂, n₀, n₁, ⟨c₁, c₂, c₃, c₄⟩, t₁, t₂, rfl⟩ := h
  obtain ⟨x₁, x₂, x₃, x₄⟩ := hx
  have e39 : ∀ b, up2 (up2 (up2 (up2 h₂ 39 nt 0) 40 nt sz) 37 7 0) 37 8 0 39 b = if b = nt then 0 else h₂ 39 b := fun b => by
    rw [up2_n (by decide), up2_n (by decide), up2_n (by decide), up2_eq]
    by_cases q : b = nt
    · rw [if_pos q, if_pos ⟨rfl, q⟩]
    · rw [if_neg q, if_neg (fun e => q e.2)]
  have e40 : ∀ b, up2 (up2 (up2 (up2 h₂ 39 nt 0) 40 nt sz) 37 7 0) 37 8 0 40 b = if b = nt then sz else h₂ 40 b := fun b => by
    rw [up2_n (by decide), up2_n (by decide), up2_eq]
    by_cases q : b = nt
    · rw [if_pos q, if_pos ⟨rfl, q⟩]
    · rw [if_neg q, if_neg (fun e => q e.2), up2_n (by decide)]
  refine ⟨⟨fun a a₀ a₁ => ?_, fun a a₀ a₁ => ?_, ?_, fun i => by rw [c₂ 42 i (by decide)]; exact x₄ i⟩, nt, ⟨n₀, n₁⟩, t₁, t₂, fun b b₀ b₁ => ?_, ?_, ?_, ?_⟩
  · rw [e40]
    split
    · exact hsz
    · by_cases q : a < nt
      · rw [(c₃ a a₀ q).1]
        have := t₂ a.toNat (by omega)
        omega
      · rw [(c₄ a (by omega)).2.1]
        exact x₁ a a₀ a₁
  · rw [e39]
    split
    · intro q; exact absurd q (by decide)
    · by_cases q : a < nt
      · rw [(c₃ a a₀ q).2.1, (c₃ a a₀ q).2.2]
        intro q₂
        have := nuF_b (s := s) (sz := sz) (f := tS s sz a.toNat)
        unfold nuF at this
        rwa [if_pos q₂] at this
      · rw [(c₄ a (by omega)).1, (c₄ a (by omega)).2.2]
        exact x₂ a a₀ a₁
  · rw [e39]
    split
    · rfl
    · rw [(c₄ 600 (by omega)).1]; exact x₃
  · show kdF (up2 (up2 (up2 (up2 h₂ 39 nt 0) 40 nt sz) 37 7 0) 37 8 0 39 b) (hl 41 b) = _ ∧ up2 (up2 (up2 (up2 h₂ 39 nt 0) 40 nt sz) 37 7 0) 37 8 0 40 b = _ ∧ nuF (up2 (up2 (up2 (up2 h₂ 39 nt 0) 40 nt sz) 37 7 0) 37 8 0 39 b) (hl 41 b) = _
    rw [e39, e40, if_neg (by omega), if_neg (by omega), (c₃ b b₀ b₁).1, (c₃ b b₀ b₁).2.1, (c₃ b b₀ b₁).2.2]
    exact ⟨rfl, rfl, rfl⟩
  · show kdF (up2 (up2 (up2 (up2 h₂ 39 nt 0) 40 nt sz) 37 7 0) 37 8 0 39 nt) (hl 41 nt) = 19
    rw [e39, if_pos rfl]; rfl
  · rw [e40, if_pos rfl]
  · show nuF (up2 (up2 (up2 (up2 h₂ 39 nt 0) 40 nt sz) 37 7 0) 37 8 0 39 nt) (hl 41 nt) = 0
    rw [e39, if_pos rfl]; rfl
