section STPH
variable {G : aG} {d k : Nat} {z : aZ} {hr : aR} {hi hl : aI}
set_option maxHeartbeats 4000000 in
theorem st_text22 (hN : gN G) (hG : gS G) (h : RR k z hr hi hl) {X : List (Int × List (Int × Int))} (x₂ : hr 0 8 = some 31) (x₃ : hr 17 1 = some 22) (x₄ : tOk X) (x₅ : lC 31 hi 0 0 X) (x₆ : lR (hi 37 15) hi 0 0 X) (x₇ : hi 31 7 = X.length) (x₈ : hi 43 (hi 37 15) = X.length) : stp G d k mX9_text mX10_text [vR 0] [vR 37] z hr hi hl := by
  obtain ⟨⟨hz, hR, hk, hs⟩, hD, hP, hB, hM, hS, hT, hX⟩ := id h
  have hT₁ := hT.1
  have h15 : 0 ≤ hi 15 1 ∧ hi 15 1 ≤ 600 := by omega
  have n15 := hX.2.1
  refine (c_text22 (d := d + 2) (P := tP 22 hi) hz hR hN hG x₃ x₂ h15 (fun H hq => tPx (Or.inl rfl) h15 hX.2.2.1 hq)).mono (fun r z' hr' hi' hl' q => ?_)
  obtain ⟨e₁, e₃, k', hp, rfl, q⟩ := q
  obtain rfl := e₁.symm
  obtain rfl := e₃.symm
  obtain ⟨p₁, p₂, p₃⟩ := hp
  have eh : hi' = up2 k' 15 1 0 := q.elim (fun q => q.2.2) (fun q => q.2.2)
  have aU : ∀ b j, ¬ tCh 22 b → ¬ (b = 15 ∧ j = 1) → hi' b j = hi b j := fun b j w₁ w₂ => by rw [eh, up2_if w₂]; exact p₁ b j w₁
  have aK : ∀ b j, ¬ (b = 15 ∧ j = 1) → hi' b j = k' b j := fun b j w₂ => by rw [eh, up2_if w₂]
  have rR : ∀ b j, ¬ (b = 17 ∧ j = 1) → ¬ (b = 0 ∧ j = 8) → hr' b j = hr b j := fun b j w₁ w₂ => by
    rcases q with ⟨-, q, -⟩ | ⟨-, q, -⟩
    · rw [q, up2_no w₂, up2_no w₁]
    · rw [q]
  have hR' : stR hr' := fun x hx => by
    have := rT_ns x hx
    rw [rR _ _ this.1 this.2]
    exact hR x hx
  have u15 := aU 37 15 (by unfold tCh; omega) (by omega)
  have u2 := aU 37 2 (by unfold tCh; omega) (by omega)
  have LX : LXI hi' hl := ⟨fun a a₀ a₁ => by rw [aU 40 a (by unfold tCh; omega) (by omega)]; exact hX.2.2.2.2.2.1 a a₀ a₁, fun a a₀ a₁ => by rw [aU 39 a (by unfold tCh; omega) (by omega)]; exact hX.2.2.2.2.2.2.1 a a₀ a₁, by rw [aU 39 600 (by unfold tCh; omega) (by omega)]; exact hX.2.2.2.2.2.2.2.1, hX.2.2.2.2.2.2.2.2⟩
  refine ⟨_, rfl, hz, (m_text (d := d + 26) (P := rP hi') hz hR' (by rw [u2]; exact hT₁.2) (fun i _ _ => by rw [aU 38 i (by unfold tCh; omega) (by omega)]; exact hT.2.2 i) (fun hi'' hl'' hq => rPx LX (by rw [u15]; exact n15) (by rw [aU 37 18 (by unfold tCh; omega) (by omega)]; exact hX.2.2.2.2.1) (by rw [u2]; exact hT₁.2) hq)).mono (fun r2 z2 hr2 hi2 hl2 q2 => ?_)⟩
  obtain ⟨e₁, e₂, hf, ⟨f₁, f₂, f₃, f₄, f₅, nt, kd, pl, nu, T, fin⟩, rfl, q2⟩ := q2
  obtain rfl := e₁.symm
  obtain rfl := e₂.symm
  rw [u15] at f₁ f₄ fin
  rw [show hi' 38 = hi 16 from funext fun j => (aU 38 j (by unfold tCh; omega) (by omega)).trans (hT.2.1 j).symm, u2.trans hT₁.1.symm] at T
  obtain ⟨t₁, t₂⟩ := p₃ nt kd pl nu T
  have aF : ∀ b j, ¬ rCh (1 - hi 37 15) b j → ¬ tCh 22 b → ¬ (b = 15 ∧ j = 1) → hf b j = hi b j := fun b j w₁ w₂ w₃ => by rw [f₁ b j w₁]; exact aU b j w₂ w₃
  have ag : ∀ b j, ¬ rCh (1 - hi 37 15) b j → ¬ tCh 22 b → ¬ (b = 15 ∧ j = 1) → ¬ (b = 37 ∧ j = 15) → hi2 b j = hi b j := fun b j w₁ w₂ w₃ w₄ => by
    rcases q2 with ⟨-, q2⟩ | ⟨-, q2⟩
    · rw [q2, up2_if w₄]; exact aF b j w₁ w₂ w₃
    · rw [q2]; exact aF b j w₁ w₂ w₃
  have an : ∀ b j, ¬ (b = 37 ∧ j = 15) → hi2 b j = hf b j := fun b j w => by
    rcases q2 with ⟨-, q2⟩ | ⟨-, q2⟩
    · rw [q2, up2_if w]
    · rw [q2]
  have ak : ∀ b j, ¬ rCh (1 - hi 37 15) b j → ¬ (b = 15 ∧ j = 1) → ¬ (b = 37 ∧ j = 15) → hi2 b j = k' b j := fun b j w₁ w₂ w₃ => by rw [an b j w₃, f₁ b j w₁]; exact aK b j w₂
  have good := sTx_good (T.b h15).2 T.2.2.2.2.1 T.1.2 16 0 (Int.le_refl 0) T.1.1
  have er1 : ∀ b j, b = 1 ∨ 81 ≤ b → hr' b j = hr b j := fun b j w => rR b j (by omega) (by omega)
  have gP' : gP (k + 1) z hr' hi2 := gP_hr (hP.k1.cg fun b j q => ag b j (by unfold rdP at q; unfold rCh; omega) (by unfold rdP at q; unfold tCh; omega) (by unfold rdP at q; omega) (by unfold rdP at q; omega)) er1
  have gB' : gB z hr' hi2 := gB_hr (hB.cg fun b j q => ag b j (by unfold rdB at q; unfold rCh; omega) (by unfold rdB at q; unfold tCh; omega) (by unfold rdB at q; omega) (by unfold rdB at q; omega)) (fun j => rR 2 j (by omega) (by omega))
  have gD' : gD hi2 := hD.cg fun b j q => ag b j (by unfold rdD at q; unfold rCh; omega) (by unfold rdD at q; unfold tCh; omega) (by unfold rdD at q; omega) (by unfold rdD at q; omega)
  have gM' : gM hi2 := hM.cg fun b j q => ag b j (by unfold rdM at q; unfold rCh; omega) (by unfold rdM at q; unfold tCh; omega) (by unfold rdM at q; omega) (by unfold rdM at q; omega)
  have gS' : gSn hi2 := hS.cg fun b j q => ag b j (by unfold rdS at q; unfold rCh; omega) (by unfold rdS at q; unfold tCh; omega) (by unfold rdS at q; omega) (by unfold rdS at q; omega)
  have gT' : gTp hi2 := by
    have m1 : hi2 15 1 = 0 := by rw [an 15 1 (by omega), f₁ 15 1 (by unfold rCh; omega), eh, up2_s]
    have m2 : hi2 37 2 = 0 := by rw [an 37 2 (by omega)]; exact f₅
    refine ⟨⟨m1.trans m2.symm, by omega, by omega⟩, fun i => ?_, fun i => ?_⟩
    · rw [ag 16 i (by unfold rCh; omega) (by unfold tCh; omega) (by omega) (by omega), ag 38 i (by unfold rCh; omega) (by unfold tCh; omega) (by omega) (by omega)]
      exact hT.2.1 i
    · rw [ag 38 i (by unfold rCh; omega) (by unfold tCh; omega) (by omega) (by omega)]
      exact hT.2.2 i
  have L2 : LXI hi2 hl2 := ⟨fun a a₀ a₁ => by rw [an 40 a (by omega)]; exact f₂.1 a a₀ a₁, fun a a₀ a₁ => by rw [an 39 a (by omega)]; exact f₂.2.1 a a₀ a₁, by rw [an 39 600 (by omega)]; exact f₂.2.2.1, f₂.2.2.2⟩
  have z26 : ∀ l, hi2 26 l = 0 ∨ hi2 26 l = 1 := fun l => by
    rw [ak 26 l (by unfold rCh; omega) (by omega) (by omega)]; exact p₂ l
  have z35 : ∀ l, hi2 35 l = 0 ∨ hi2 35 l = 1 := fun l => by
    rw [ag 35 l (by unfold rCh; omega) (by unfold tCh; omega) (by omega) (by omega)]; exact hX.2.2.2.1 l
  have d18 : 0 ≤ hi2 37 18 ∧ hi2 37 18 ≤ 5 := by rw [an 37 18 (by omega)]; exact f₃
  rcases fin with ⟨s₁, s₂, s₃, s₄⟩ | ⟨s₁, s₂⟩
  · obtain ⟨w₁, w₂, w₃⟩ := t₁ s₁
    refine ⟨by rw [s₂, w₁], ⟨hz, hR', by omega, by omega⟩, gD', gP', gB', gM', gS', gT', ⟨22, 31, (sTx kd nu 16 0).2.2, Or.inl ⟨rfl, rfl⟩, ?_, ?_, ⟨good.2.1 s₁, good.1, ?_⟩, ?_, ?_, ?_, ?_⟩, ?_, z26, z35, d18, L2⟩
    · rcases q with ⟨-, q, -⟩ | ⟨q, -⟩
      · rw [q, up2_s]
      · exact absurd w₁ q
    · rcases q with ⟨-, q, -⟩ | ⟨q, -⟩
      · rw [q, up2_no (by omega), up2_s]
      · exact absurd w₁ q
    · have := sTx_sum (T.b h15).2 T.2.2.2.2.1 T.1.2 16 0 (Int.le_refl 0) T.1.1 s₁
      have := T.1
      omega
    · exact lC_cg (funext fun j => ak _ j (by unfold rCh; omega) (by omega) (by omega)) (funext fun j => ak _ j (by unfold rCh; omega) (by omega) (by omega)) (funext fun j => ak _ j (by unfold rCh; omega) (by omega) (by omega)) (funext fun j => ak _ j (by unfold rCh; omega) (by omega) (by omega)) _ 0 0 w₃
    · have n37 : hi2 37 15 = 1 - hi 37 15 := by
        rcases q2 with ⟨-, q2⟩ | ⟨q2, -⟩
        · rw [q2, up2_s]; exact f₄
        · exact absurd s₂ q2
      rw [n37]
      exact lR_cg (funext fun j => an 44 j (by omega)) (funext fun j => an 45 j (by omega)) (funext fun j => an 46 j (by omega)) (funext fun j => an 47 j (by omega)) _ 0 0 s₄
    · rw [ak 22 7 (by unfold rCh; omega) (by omega) (by omega)]; exact w₂
    · have n37 : hi2 37 15 = 1 - hi 37 15 := by
        rcases q2 with ⟨-, q2⟩ | ⟨q2, -⟩
        · rw [q2, up2_s]; exact f₄
        · exact absurd s₂ q2
      rw [n37, an 43 _ (by omega)]; exact s₃
    · have n37 : hi2 37 15 = 1 - hi 37 15 := by
        rcases q2 with ⟨-, q2⟩ | ⟨q2, -⟩
        · rw [q2, up2_s]; exact f₄
        · exact absurd s₂ q2
      omega
  · have w₁ := t₂ s₁
    have pp : 0 ≤ (sTx kd nu 16 0).2.1 ∧ (sTx kd nu 16 0).2.1 ≤ nt := good.2.2.elim (fun q => absurd q s₁) (fun q => q.2)
    have p1 : (sTx kd nu 16 0).1 = 1 ∨ (sTx kd nu 16 0).1 = 5 := good.2.2.elim (fun q => absurd q s₁) (fun q => q.1)
    have pv := (T.b h15).1 _ pp.1 pp.2
    have nk : ¬ k' 17 4 = 0 := by omega
    have nf : ¬ hf 37 8 = 0 := by omega
    have hr0 : hr' = hr := by
      rcases q with ⟨q, -⟩ | ⟨-, q, -⟩
      · exact absurd q nk
      · exact q
    have n37 : hi2 37 15 = hi 37 15 := by
      rcases q2 with ⟨q2, -⟩ | ⟨-, q2⟩
      · exact absurd q2 nf
      · rw [q2]; exact aF 37 15 (by unfold rCh; omega) (by unfold tCh; omega) (by omega)
    have y₁ := x₄.2.1
    have y₂ := x₄.2.2
    refine ⟨by rw [s₂, w₁], ⟨hz, hR', by omega, by omega⟩, gD', gP', gB', gM', gS', gT', ⟨31, 22, X, Or.inr ⟨rfl, rfl⟩, by rw [hr0]; exact x₂, by rw [hr0]; exact x₃, x₄, ?_, ?_, ?_, ?_⟩, by rw [n37]; exact n15, z26, z35, d18, L2⟩
    · exact lC_cg (funext fun j => ag _ j (by unfold rCh; omega) (by unfold tCh; omega) (by omega) (by omega)) (funext fun j => ag _ j (by unfold rCh; omega) (by unfold tCh; omega) (by omega) (by omega)) (funext fun j => ag _ j (by unfold rCh; omega) (by unfold tCh; omega) (by omega) (by omega)) (funext fun j => ag _ j (by unfold rCh; omega) (by unfold tCh; omega) (by omega) (by omega)) X 0 0 x₅
    · rw [n37]
      exact lR_rg (fun b j w => ag b j (by unfold rCh; omega) (by unfold tCh; omega) (by omega) (by omega)) X 0 0 (Int.le_refl 0) (Int.le_refl 0) (by omega) (by omega) x₆
    · rw [ag 31 7 (by unfold rCh; omega) (by unfold tCh; omega) (by omega) (by omega)]; exact x₇
    · rw [n37, ag 43 _ (by unfold rCh; omega) (by unfold tCh; omega) (by omega) (by omega)]; exact x₈
set_option maxHeartbeats 4000000 in
theorem st_text31 (hN : gN G) (hG : gS G) (h : RR k z hr hi hl) {X : List (Int × List (Int × Int))} (x₂ : hr 0 8 = some 22) (x₃ : hr 17 1 = some 31) (x₄ : tOk X) (x₅ : lC 22 hi 0 0 X) (x₆ : lR (hi 37 15) hi 0 0 X) (x₇ : hi 22 7 = X.length) (x₈ : hi 43 (hi 37 15) = X.length) : stp G d k mX9_text mX10_text [vR 0] [vR 37] z hr hi hl := by
  obtain ⟨⟨hz, hR, hk, hs⟩, hD, hP, hB, hM, hS, hT, hX⟩ := id h
  have hT₁ := hT.1
  have h15 : 0 ≤ hi 15 1 ∧ hi 15 1 ≤ 600 := by omega
  have n15 := hX.2.1
  refine (c_text31 (d := d + 2) (P := tP 31 hi) hz hR hN hG x₃ x₂ h15 (fun H hq => tPx (Or.inr rfl) h15 hX.2.2.2.1 hq)).mono (fun r z' hr' hi' hl' q => ?_)
  obtain ⟨e₁, e₃, k', hp, rfl, q⟩ := q
  obtain rfl := e₁.symm
  obtain rfl := e₃.symm
  obtain ⟨p₁, p₂, p₃⟩ := hp
  have eh : hi' = up2 k' 15 1 0 := q.elim (fun q => q.2.2) (fun q => q.2.2)
  have aU : ∀ b j, ¬ tCh 31 b → ¬ (b = 15 ∧ j = 1) → hi' b j = hi b j := fun b j w₁ w₂ => by rw [eh, up2_if w₂]; exact p₁ b j w₁
  have aK : ∀ b j, ¬ (b = 15 ∧ j = 1) → hi' b j = k' b j := fun b j w₂ => by rw [eh, up2_if w₂]
  have rR : ∀ b j, ¬ (b = 17 ∧ j = 1) → ¬ (b = 0 ∧ j = 8) → hr' b j = hr b j := fun b j w₁ w₂ => by
    rcases q with ⟨-, q, -⟩ | ⟨-, q, -⟩
    · rw [q, up2_no w₂, up2_no w₁]
    · rw [q]
  have hR' : stR hr' := fun x hx => by
    have := rT_ns x hx
    rw [rR _ _ this.1 this.2]
    exact hR x hx
  have u15 := aU 37 15 (by unfold tCh; omega) (by omega)
  have u2 := aU 37 2 (by unfold tCh; omega) (by omega)
  have LX : LXI hi' hl := ⟨fun a a₀ a₁ => by rw [aU 40 a (by unfold tCh; omega) (by omega)]; exact hX.2.2.2.2.2.1 a a₀ a₁, fun a a₀ a₁ => by rw [aU 39 a (by unfold tCh; omega) (by omega)]; exact hX.2.2.2.2.2.2.1 a a₀ a₁, by rw [aU 39 600 (by unfold tCh; omega) (by omega)]; exact hX.2.2.2.2.2.2.2.1, hX.2.2.2.2.2.2.2.2⟩
  refine ⟨_, rfl, hz, (m_text (d := d + 26) (P := rP hi') hz hR' (by rw [u2]; exact hT₁.2) (fun i _ _ => by rw [aU 38 i (by unfold tCh; omega) (by omega)]; exact hT.2.2 i) (fun hi'' hl'' hq => rPx LX (by rw [u15]; exact n15) (by rw [aU 37 18 (by unfold tCh; omega) (by omega)]; exact hX.2.2.2.2.1) (by rw [u2]; exact hT₁.2) hq)).mono (fun r2 z2 hr2 hi2 hl2 q2 => ?_)⟩
  obtain ⟨e₁, e₂, hf, ⟨f₁, f₂, f₃, f₄, f₅, nt, kd, pl, nu, T, fin⟩, rfl, q2⟩ := q2
  obtain rfl := e₁.symm
  obtain rfl := e₂.symm
  rw [u15] at f₁ f₄ fin
  rw [show hi' 38 = hi 16 from funext fun j => (aU 38 j (by unfold tCh; omega) (by omega)).trans (hT.2.1 j).symm, u2.trans hT₁.1.symm] at T
  obtain ⟨t₁, t₂⟩ := p₃ nt kd pl nu T
  have aF : ∀ b j, ¬ rCh (1 - hi 37 15) b j → ¬ tCh 31 b → ¬ (b = 15 ∧ j = 1) → hf b j = hi b j := fun b j w₁ w₂ w₃ => by rw [f₁ b j w₁]; exact aU b j w₂ w₃
  have ag : ∀ b j, ¬ rCh (1 - hi 37 15) b j → ¬ tCh 31 b → ¬ (b = 15 ∧ j = 1) → ¬ (b = 37 ∧ j = 15) → hi2 b j = hi b j := fun b j w₁ w₂ w₃ w₄ => by
    rcases q2 with ⟨-, q2⟩ | ⟨-, q2⟩
    · rw [q2, up2_if w₄]; exact aF b j w₁ w₂ w₃
    · rw [q2]; exact aF b j w₁ w₂ w₃
  have an : ∀ b j, ¬ (b = 37 ∧ j = 15) → hi2 b j = hf b j := fun b j w => by
    rcases q2 with ⟨-, q2⟩ | ⟨-, q2⟩
    · rw [q2, up2_if w]
    · rw [q2]
  have ak : ∀ b j, ¬ rCh (1 - hi 37 15) b j → ¬ (b = 15 ∧ j = 1) → ¬ (b = 37 ∧ j = 15) → hi2 b j = k' b j := fun b j w₁ w₂ w₃ => by rw [an b j w₃, f₁ b j w₁]; exact aK b j w₂
  have good := sTx_good (T.b h15).2 T.2.2.2.2.1 T.1.2 16 0 (Int.le_refl 0) T.1.1
  have er1 : ∀ b j, b = 1 ∨ 81 ≤ b → hr' b j = hr b j := fun b j w => rR b j (by omega) (by omega)
  have gP' : gP (k + 1) z hr' hi2 := gP_hr (hP.k1.cg fun b j q => ag b j (by unfold rdP at q; unfold rCh; omega) (by unfold rdP at q; unfold tCh; omega) (by unfold rdP at q; omega) (by unfold rdP at q; omega)) er1
  have gB' : gB z hr' hi2 := gB_hr (hB.cg fun b j q => ag b j (by unfold rdB at q; unfold rCh; omega) (by unfold rdB at q; unfold tCh; omega) (by unfold rdB at q; omega) (by unfold rdB at q; omega)) (fun j => rR 2 j (by omega) (by omega))
  have gD' : gD hi2 := hD.cg fun b j q => ag b j (by unfold rdD at q; unfold rCh; omega) (by unfold rdD at q; unfold tCh; omega) (by unfold rdD at q; omega) (by unfold rdD at q; omega)
  have gM' : gM hi2 := hM.cg fun b j q => ag b j (by unfold rdM at q; unfold rCh; omega) (by unfold rdM at q; unfold tCh; omega) (by unfold rdM at q; omega) (by unfold rdM at q; omega)
  have gS' : gSn hi2 := hS.cg fun b j q => ag b j (by unfold rdS at q; unfold rCh; omega) (by unfold rdS at q; unfold tCh; omega) (by unfold rdS at q; omega) (by unfold rdS at q; omega)
  have gT' : gTp hi2 := by
    have m1 : hi2 15 1 = 0 := by rw [an 15 1 (by omega), f₁ 15 1 (by unfold rCh; omega), eh, up2_s]
    have m2 : hi2 37 2 = 0 := by rw [an 37 2 (by omega)]; exact f₅
    refine ⟨⟨m1.trans m2.symm, by omega, by omega⟩, fun i => ?_, fun i => ?_⟩
    · rw [ag 16 i (by unfold rCh; omega) (by unfold tCh; omega) (by omega) (by omega), ag 38 i (by unfold rCh; omega) (by unfold tCh; omega) (by omega) (by omega)]
      exact hT.2.1 i
    · rw [ag 38 i (by unfold rCh; omega) (by unfold tCh; omega) (by omega) (by omega)]
      exact hT.2.2 i
  have L2 : LXI hi2 hl2 := ⟨fun a a₀ a₁ => by rw [an 40 a (by omega)]; exact f₂.1 a a₀ a₁, fun a a₀ a₁ => by rw [an 39 a (by omega)]; exact f₂.2.1 a a₀ a₁, by rw [an 39 600 (by omega)]; exact f₂.2.2.1, f₂.2.2.2⟩
  have z26 : ∀ l, hi2 26 l = 0 ∨ hi2 26 l = 1 := fun l => by
    rw [ag 26 l (by unfold rCh; omega) (by unfold tCh; omega) (by omega) (by omega)]; exact hX.2.2.1 l
  have z35 : ∀ l, hi2 35 l = 0 ∨ hi2 35 l = 1 := fun l => by
    rw [ak 35 l (by unfold rCh; omega) (by omega) (by omega)]; exact p₂ l
  have d18 : 0 ≤ hi2 37 18 ∧ hi2 37 18 ≤ 5 := by rw [an 37 18 (by omega)]; exact f₃
  rcases fin with ⟨s₁, s₂, s₃, s₄⟩ | ⟨s₁, s₂⟩
  · obtain ⟨w₁, w₂, w₃⟩ := t₁ s₁
    refine ⟨by rw [s₂, w₁], ⟨hz, hR', by omega, by omega⟩, gD', gP', gB', gM', gS', gT', ⟨31, 22, (sTx kd nu 16 0).2.2, Or.inr ⟨rfl, rfl⟩, ?_, ?_, ⟨good.2.1 s₁, good.1, ?_⟩, ?_, ?_, ?_, ?_⟩, ?_, z26, z35, d18, L2⟩
    · rcases q with ⟨-, q, -⟩ | ⟨q, -⟩
      · rw [q, up2_s]
      · exact absurd w₁ q
    · rcases q with ⟨-, q, -⟩ | ⟨q, -⟩
      · rw [q, up2_no (by omega), up2_s]
      · exact absurd w₁ q
    · have := sTx_sum (T.b h15).2 T.2.2.2.2.1 T.1.2 16 0 (Int.le_refl 0) T.1.1 s₁
      have := T.1
      omega
    · exact lC_cg (funext fun j => ak _ j (by unfold rCh; omega) (by omega) (by omega)) (funext fun j => ak _ j (by unfold rCh; omega) (by omega) (by omega)) (funext fun j => ak _ j (by unfold rCh; omega) (by omega) (by omega)) (funext fun j => ak _ j (by unfold rCh; omega) (by omega) (by omega)) _ 0 0 w₃
    · have n37 : hi2 37 15 = 1 - hi 37 15 := by
        rcases q2 with ⟨-, q2⟩ | ⟨q2, -⟩
        · rw [q2, up2_s]; exact f₄
        · exact absurd s₂ q2
      rw [n37]
      exact lR_cg (funext fun j => an 44 j (by omega)) (funext fun j => an 45 j (by omega)) (funext fun j => an 46 j (by omega)) (funext fun j => an 47 j (by omega)) _ 0 0 s₄
    · rw [ak 31 7 (by unfold rCh; omega) (by omega) (by omega)]; exact w₂
    · have n37 : hi2 37 15 = 1 - hi 37 15 := by
        rcases q2 with ⟨-, q2⟩ | ⟨q2, -⟩
        · rw [q2, up2_s]; exact f₄
        · exact absurd s₂ q2
      rw [n37, an 43 _ (by omega)]; exact s₃
    · have n37 : hi2 37 15 = 1 - hi 37 15 := by
        rcases q2 with ⟨-, q2⟩ | ⟨q2, -⟩
        · rw [q2, up2_s]; exact f₄
        · exact absurd s₂ q2
      omega
  · have w₁ := t₂ s₁
    have pp : 0 ≤ (sTx kd nu 16 0).2.1 ∧ (sTx kd nu 16 0).2.1 ≤ nt := good.2.2.elim (fun q => absurd q s₁) (fun q => q.2)
    have p1 : (sTx kd nu 16 0).1 = 1 ∨ (sTx kd nu 16 0).1 = 5 := good.2.2.elim (fun q => absurd q s₁) (fun q => q.1)
    have pv := (T.b h15).1 _ pp.1 pp.2
    have nk : ¬ k' 17 4 = 0 := by omega
    have nf : ¬ hf 37 8 = 0 := by omega
    have hr0 : hr' = hr := by
      rcases q with ⟨q, -⟩ | ⟨-, q, -⟩
      · exact absurd q nk
      · exact q
    have n37 : hi2 37 15 = hi 37 15 := by
      rcases q2 with ⟨q2, -⟩ | ⟨-, q2⟩
      · exact absurd q2 nf
      · rw [q2]; exact aF 37 15 (by unfold rCh; omega) (by unfold tCh; omega) (by omega)
    have y₁ := x₄.2.1
    have y₂ := x₄.2.2
    refine ⟨by rw [s₂, w₁], ⟨hz, hR', by omega, by omega⟩, gD', gP', gB', gM', gS', gT', ⟨22, 31, X, Or.inl ⟨rfl, rfl⟩, by rw [hr0]; exact x₂, by rw [hr0]; exact x₃, x₄, ?_, ?_, ?_, ?_⟩, by rw [n37]; exact n15, z26, z35, d18, L2⟩
    · exact lC_cg (funext fun j => ag _ j (by unfold rCh; omega) (by unfold tCh; omega) (by omega) (by omega)) (funext fun j => ag _ j (by unfold rCh; omega) (by unfold tCh; omega) (by omega) (by omega)) (funext fun j => ag _ j (by unfold rCh; omega) (by unfold tCh; omega) (by omega) (by omega)) (funext fun j => ag _ j (by unfold rCh; omega) (by unfold tCh; omega) (by omega) (by omega)) X 0 0 x₅
    · rw [n37]
      exact lR_rg (fun b j w => ag b j (by unfold rCh; omega) (by unfold tCh; omega) (by omega) (by omega)) X 0 0 (Int.le_refl 0) (Int.le_refl 0) (by omega) (by omega) x₆
    · rw [ag 22 7 (by unfold rCh; omega) (by unfold tCh; omega) (by omega) (by omega)]; exact x₇
    · rw [n37, ag 43 _ (by unfold rCh; omega) (by unfold tCh; omega) (by omega) (by omega)]; exact x₈
theorem st_text (hN : gN G) (hG : gS G) (h : RR k z hr hi hl) : stp G d k mX9_text mX10_text [vR 0] [vR 37] z hr hi hl := by
  obtain ⟨c, o, X, x₁, x₂, x₃, x₄, x₅, x₆, x₇, x₈⟩ := h.2.2.2.2.2.2.2.1
  rcases x₁ with ⟨rfl, rfl⟩ | ⟨rfl, rfl⟩
  · exact st_text31 hN hG h x₂ x₃ x₄ x₅ x₆ x₇ x₈
  · exact st_text22 hN hG h x₂ x₃ x₄ x₅ x₆ x₇ x₈
end STPH
