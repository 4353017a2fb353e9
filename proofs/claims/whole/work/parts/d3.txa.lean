/-! steps: text *) -/
section STPG
variable {G : aG} {d k : Nat} {z : aZ} {hr : aR} {hi hl : aI}
def tCh (c b : Nat) : Prop := b = 17 ∨ b = 18 ∨ b = 19 ∨ b = 20 ∨ b = 21 ∨ b = c ∨ (c + 1 ≤ b ∧ b ≤ c + 4)
def tP (c : Nat) (hi k : aI) : Prop := (∀ b j, ¬ tCh c b → k b j = hi b j) ∧ (∀ l, k (c + 4) l = 0 ∨ k (c + 4) l = 1) ∧ ∀ nt kd pl nu, TK (hi 16) (hi 15 1) nt kd pl nu → ((sTx kd nu 16 0).1 = 0 → k 17 4 = 0 ∧ k c 7 = ((sTx kd nu 16 0).2.2.length : Int) ∧ lC c k 0 0 (sTx kd nu 16 0).2.2) ∧ (¬ (sTx kd nu 16 0).1 = 0 → k 17 4 = (sTx kd nu 16 0).1 + 16 * pl (sTx kd nu 16 0).2.1)
theorem tPx {c : Nat} (hc : c = 22 ∨ c = 31) (h15 : 0 ≤ hi 15 1 ∧ hi 15 1 ≤ 600) (h01 : ∀ l, hi (c + 4) l = 0 ∨ hi (c + 4) l = 1) {H : aI} (hq : scQ hi H) : ∃ k, pTl c 16 (rd0 c H) = some k ∧ tP c hi k := by
  obtain ⟨nt₀, T₀⟩ := hq.tk
  have r0 : ∀ b j, ¬ b = c → ¬ b = 17 → rd0 c H b j = H b j := fun b j w₁ w₂ => by
    unfold rd0
    rw [up2_if (by omega), up2_if (by omega), up2_if (by omega), up2_if (by omega), up2_if (by omega)]
  have c6 : rd0 c H c 6 = 0 := by unfold rd0; rw [up2_if (by omega), up2_if (by omega), up2_if (by omega), up2_if (by omega), up2_s]
  have c7 : rd0 c H c 7 = 0 := by unfold rd0; rw [up2_if (by omega), up2_if (by omega), up2_if (by omega), up2_s]
  have d4 : rd0 c H 17 4 = 0 := by unfold rd0; rw [up2_if (by omega), up2_if (by omega), up2_s]
  have d2 : rd0 c H 17 2 = 0 := by unfold rd0; rw [up2_if (by omega), up2_s]
  have d3 : rd0 c H 17 3 = H 19 0 := by unfold rd0; rw [up2_s]
  have sl : ∀ {nt : Int} {kd pl nu : Int → Int}, TK (hi 16) (hi 15 1) nt kd pl nu → cSl c kd pl nu nt (rd0 c H) 0 := fun T => by
    have sm := T.same T₀
    have n0 := T.1
    refine ⟨fun b b₀ b₁ => ?_, d2, ?_, ⟨Int.le_refl 0, n0.1⟩, by rw [c6]; exact ⟨Int.le_refl 0, Int.le_refl 0⟩, d4⟩
    · rw [r0 19 b (by omega) (by omega), r0 20 b (by omega) (by omega), r0 21 b (by omega) (by omega)]
      exact sm b b₀ b₁
    · rw [d3]; exact (sm 0 (Int.le_refl 0) n0.1).1
  have run := fun {nt : Int} {kd pl nu : Int → Int} (T : TK (hi 16) (hi 15 1) nt kd pl nu) => cTx hc T.1.2 T.2.2.2.2.1 (T.b h15).1 (T.b h15).2 16 (rd0 c H) 0 (sl T) (by rw [c7]; exact Int.le_refl 0) (by rw [c7]; rfl)
  obtain ⟨k, k₁, k₂, -⟩ := run T₀
  refine ⟨k, k₁, fun b j w => ?_, ?_, fun nt kd pl nu T => ?_⟩
  · unfold tCh at w
    rw [k₂.2.2 b j (by unfold cOut; omega) (by omega) (by omega), r0 b j (by omega) (by omega)]
    exact hq.fr (by omega) (by omega) (by omega) (by omega)
  · exact pTl_01 hc T₀.1.2 T₀.2.2.2.2.1 (T₀.b h15).1 (T₀.b h15).2 16 (rd0 c H) 0 k (sl T₀) (by rw [c7]; exact Int.le_refl 0) (by rw [c7]; rfl) k₁ (fun j => by rw [r0 _ j (by omega) (by omega), hq.fr (by omega) (by omega) (by omega) (by omega)]; exact h01 j)
  · obtain ⟨k', k₁', k₂', k₃', k₄'⟩ := run T
    obtain rfl : k = k' := by rw [k₁] at k₁'; exact Option.some.inj k₁'
    rw [c7, c6] at k₃'
    refine ⟨fun q => ?_, k₄'⟩
    obtain ⟨w₁, w₂, w₃⟩ := k₃' q
    exact ⟨w₁, by omega, w₃⟩
def rCh (nx : Int) (b : Nat) (j : Int) : Prop := (b = 37 ∧ (j = 0 ∨ j = 2 ∨ j = 3 ∨ j = 7 ∨ j = 8 ∨ j = 16 ∨ j = 17 ∨ j = 18)) ∨ b = 39 ∨ b = 40 ∨ (b = 43 ∧ j = nx) ∨ ((b = 44 ∨ b = 45) ∧ 16 * nx ≤ j ∧ j < 16 * nx + 16) ∨ ((b = 46 ∨ b = 47) ∧ 660 * nx ≤ j ∧ j < 660 * nx + 660) ∨ b = 48 ∨ b = 49 ∨ b = 50
def rP (h₁ hf hl' : aI) : Prop := (∀ b j, ¬ rCh (1 - h₁ 37 15) b j → hf b j = h₁ b j) ∧ LXI hf hl' ∧ (0 ≤ hf 37 18 ∧ hf 37 18 ≤ 5) ∧ hf 37 16 = 1 - h₁ 37 15 ∧ hf 37 2 = 0 ∧ ∃ nt kd pl nu, TK (h₁ 38) (h₁ 37 2) nt kd pl nu ∧ (((sTx kd nu 16 0).1 = 0 ∧ hf 37 8 = 0 ∧ hf 43 (1 - h₁ 37 15) = ((sTx kd nu 16 0).2.2.length : Int) ∧ lR (1 - h₁ 37 15) hf 0 0 (sTx kd nu 16 0).2.2) ∨ (¬ (sTx kd nu 16 0).1 = 0 ∧ hf 37 8 = (sTx kd nu 16 0).1 + 16 * pl (sTx kd nu 16 0).2.1))
set_option maxHeartbeats 1000000 in
theorem rPx {h₁ : aI} (hX : LXI h₁ hl) (h15 : 0 ≤ h₁ 37 15 ∧ h₁ 37 15 ≤ 1) (h18 : 0 ≤ h₁ 37 18 ∧ h₁ 37 18 ≤ 5) (hsz : 0 ≤ h₁ 37 2 ∧ h₁ 37 2 ≤ 600) {hi' hl' : aI} (hq : CQ z hr (h₁ 38) (h₁ 37 2) (up2 (up2 (up2 h₁ 37 0 0) 37 3 (h₁ 37 2)) 37 2 0) hl none z hr hi' hl') :
    ∃ (kd pl nu : Int → Int) (F n : Nat) (hf : aI), tkH kd pl nu hi' hl' ∧ kd 600 = 19 ∧ (0 ≤ hi' 37 15 ∧ hi' 37 15 ≤ 1) ∧ txR kd pl nu F n (up2 (up2 (up2 hi' 37 16 (1 - hi' 37 15)) 43 (1 - hi' 37 15) 0) 37 17 0) = some hf ∧ rP h₁ hf hl' := by
  have b0 : ∀ b j, ¬ (b = 37 ∧ (j = 0 ∨ j = 2 ∨ j = 3)) → up2 (up2 (up2 h₁ 37 0 0) 37 3 (h₁ 37 2)) 37 2 0 b j = h₁ b j := fun b j w => by rw [up2_if (by omega), up2_if (by omega), up2_if (by omega)]
  have X0 : LXI (up2 (up2 (up2 h₁ 37 0 0) 37 3 (h₁ 37 2)) 37 2 0) hl := ⟨fun a a₀ a₁ => by rw [b0 40 a (by omega)]; exact hX.1 a a₀ a₁, fun a a₀ a₁ => by rw [b0 39 a (by omega)]; exact hX.2.1 a a₀ a₁, by rw [b0 39 600 (by omega)]; exact hX.2.2.1, hX.2.2.2⟩
  obtain ⟨L', nt, T⟩ := CQ_tk hq X0 hsz
  obtain ⟨-, -, -, nt₂, h₂, n₀, n₁, ⟨c₁, -⟩, -, -, e⟩ := id hq
  have fr : ∀ b j, ¬ b = 39 → ¬ b = 40 → ¬ (b = 37 ∧ (j = 7 ∨ j = 8 ∨ j = 0 ∨ j = 2 ∨ j = 3)) → hi' b j = h₁ b j := fun b j w₁ w₂ w₃ => by
    rw [e, up2_if (by omega), up2_if (by omega), up2_if (by omega), up2_if (by omega), c₁ b j w₁ w₂]
    exact b0 b j (by omega)
  have f2 : hi' 37 2 = 0 := by rw [e, up2_if (by omega), up2_if (by omega), up2_if (by omega), up2_if (by omega), c₁ 37 2 (by omega) (by omega), up2_s]
  have f7 : hi' 37 7 = 0 := by rw [e, up2_if (by omega), up2_s]
  have f8 : hi' 37 8 = 0 := by rw [e, up2_s]
  have e15 := fr 37 15 (by omega) (by omega) (by omega)
  have e18 := fr 37 18 (by omega) (by omega) (by omega)
  rw [e15]
  have g0 : ∀ b j, ¬ (b = 37 ∧ (j = 16 ∨ j = 17)) → ¬ (b = 43 ∧ j = 1 - h₁ 37 15) → up2 (up2 (up2 hi' 37 16 (1 - h₁ 37 15)) 43 (1 - h₁ 37 15) 0) 37 17 0 b j = hi' b j := fun b j w₁ w₂ => by rw [up2_if (by omega), up2_if w₂, up2_if (by omega)]
  have g16 : up2 (up2 (up2 hi' 37 16 (1 - h₁ 37 15)) 43 (1 - h₁ 37 15) 0) 37 17 0 37 16 = 1 - h₁ 37 15 := by rw [up2_if (by omega), up2_if (by omega), up2_s]
  have g17 : up2 (up2 (up2 hi' 37 16 (1 - h₁ 37 15)) 43 (1 - h₁ 37 15) 0) 37 17 0 37 17 = 0 := by rw [up2_s]
  have g43 : up2 (up2 (up2 hi' 37 16 (1 - h₁ 37 15)) 43 (1 - h₁ 37 15) 0) 37 17 0 43 (1 - h₁ 37 15) = 0 := by rw [up2_if (by omega), up2_s]
  have n0 := T.1
  obtain ⟨k, m, k₁, k₂, k₃, k₄⟩ := rTx (nx := 1 - h₁ 37 15) T.1.2 T.2.2.2.2.1 (T.b hsz).1 (T.b hsz).2 ⟨by omega, by omega⟩ 16 (up2 (up2 (up2 hi' 37 16 (1 - h₁ 37 15)) 43 (1 - h₁ 37 15) 0) 37 17 0) 0 ⟨by rw [g0 37 7 (by omega) (by omega)]; exact f7, by rw [g0 37 8 (by omega) (by omega)]; exact f8, ⟨Int.le_refl 0, n0.1⟩, by rw [g17]; exact ⟨Int.le_refl 0, Int.le_refl 0⟩, by rw [g0 37 18 (by omega) (by omega), e18]; exact h18, g16⟩ (by rw [g43]; exact Int.le_refl 0) (by rw [g43]; rfl)
  have ka : ∀ b j, ¬ rCh (1 - h₁ 37 15) b j → k b j = h₁ b j := fun b j w => by
    unfold rCh at w
    rw [k₃ b j (by unfold qOut pOut; omega), g0 b j (by omega) (by omega)]
    exact fr b j (by omega) (by omega) (by omega)
  have kb : ∀ b j, b = 39 ∨ b = 40 → k b j = hi' b j := fun b j w => by rw [k₃ b j (by unfold qOut pOut; omega), g0 b j (by omega) (by omega)]
  refine ⟨_, _, _, 0 + m, 18, k, L'.tk, ?_, h15, k₁ 0, ka, ⟨fun a a₀ a₁ => by rw [kb 40 a (by omega)]; exact L'.1 a a₀ a₁, fun a a₀ a₁ => by rw [kb 39 a (by omega)]; exact L'.2.1 a a₀ a₁, by rw [kb 39 600 (by omega)]; exact L'.2.2.1, L'.2.2.2⟩, k₂, ?_, ?_, nt, _, _, _, T, ?_⟩
  · show kdF (hi' 39 600) (hl' 41 600) = 19
    rw [L'.2.2.1]; rfl
  · rw [k₃ 37 16 (by unfold qOut pOut; omega)]; exact g16
  · rw [k₃ 37 2 (by unfold qOut pOut; omega), g0 37 2 (by omega) (by omega)]; exact f2
  · rcases k₄ with ⟨q₁, q₂, q₃, q₄, q₅⟩ | ⟨q₁, q₂⟩
    · rw [g43] at q₃ q₅
      rw [g17] at q₅
      exact Or.inl ⟨q₁, q₂, by omega, q₅⟩
    · exact Or.inr ⟨q₁, q₂⟩
theorem lR_rg {nx : Int} {h k : aI} (e : ∀ b j, ((b = 44 ∨ b = 45) ∧ 16 * nx ≤ j ∧ j < 16 * nx + 16) ∨ ((b = 46 ∨ b = 47) ∧ 660 * nx ≤ j ∧ j < 660 * nx + 660) → k b j = h b j) (X : List (Int × List (Int × Int))) : ∀ l f : Int, 0 ≤ l → 0 ≤ f → l + X.length ≤ 16 → f + lSum X + X.length ≤ 660 → lR nx h l f X → lR nx k l f X := by
  induction X with
  | nil => exact fun _ _ _ _ _ _ _ => trivial
  | cons x X ih =>
    intro l f l₀ f₀ h₁ h₂ q
    obtain ⟨q₁, q₂, q₃, q₄, q₅⟩ := q
    rw [lSum_c] at h₂
    have s0 := lSum_0 X
    rw [List.length_cons] at h₁ h₂
    have ol : (oM x.2).length = x.2.length := oM_len
    refine ⟨?_, ?_, rows_cg _ _ (fun j j₁ j₂ => ?_) q₃, ?_, ih (l + 1) (f + x.2.length + 1) (by omega) (by omega) (by omega) (by omega) q₅⟩
    · rw [e 44 _ (by omega)]; exact q₁
    · rw [e 45 _ (by omega)]; exact q₂
    · rw [ol] at j₂
      exact ⟨e 46 j (by omega), e 47 j (by omega)⟩
    · rw [e 46 _ (by omega)]; exact q₄
theorem gP_hr {hr' : aR} (h : gP k z hr hi) (er : ∀ b j, b = 1 ∨ 81 ≤ b → hr' b j = hr b j) : gP k z hr' hi := by
  have ec : ∀ q, pC hr' q = pC hr q := fun q => by unfold pC; rw [er 1 q (by omega)]
  have em : ∀ q, 0 ≤ q → q < hi 37 25 → mC hr' q = mC hr q := fun q q₀ q₁ => by unfold mC; rw [ec, er _ 7 (Or.inr (h.st q₀ q₁).2.2.2.2.1)]
  obtain ⟨h₁, h₂, h₃, h₄, h₅⟩ := id h
  refine ⟨h₁, fun q q₀ q₁ => ?_, fun p q p₀ p₁ q₀ q₁ e => ?_, h₄, h₅⟩
  · obtain ⟨s, v, t, b⟩ := h₂ q q₀ q₁
    have s8 := s.2.2.2.2.1
    refine ⟨?_, ?_, ?_, b⟩
    · unfold pS
      rw [ec, em q q₀ q₁, er 1 q (by omega), er _ 7 (Or.inr s8)]
      exact s
    · unfold pV
      rw [ec, em q q₀ q₁]
      exact v
    · unfold pT
      rw [ec q, ec (hi 54 q), ec (hi 55 q), er _ 2 (Or.inr s8), er _ 3 (Or.inr s8)]
      exact t
  · rw [em p p₀ p₁, em q q₀ q₁] at e
    exact h₃ p q p₀ p₁ q₀ q₁ e
theorem gB_hr {hr' : aR} (h : gB z hr hi) (er : ∀ j, hr' 2 j = hr 2 j) : gB z hr' hi := by
  have ec : ∀ q, bC hr' q = bC hr q := fun q => by unfold bC; rw [er]
  obtain ⟨h₁, h₂, h₃, h₄⟩ := h
  refine ⟨h₁, fun b b₀ b₁ => ?_, fun a b a₀ a₁ b₀ b₁ e => ?_, h₄⟩
  · rw [ec, er]; exact h₂ b b₀ b₁
  · rw [ec, ec] at e
    exact h₃ a b a₀ a₁ b₀ b₁ e
theorem rT_ns : ∀ q ∈ rT, ¬ (q.1 = 17 ∧ q.2.1 = 1) ∧ ¬ (q.1 = 0 ∧ q.2.1 = 8) := by decide
end STPG
