/-! steps: moves, name, change, feed *) -/
section STP4
variable {G : aG} {d k : Nat} {z : aZ} {hr : aR} {hi hi' hl hl' : aI}
theorem mvP_cg {nP nB : Int} {S S' : Int → Int → Prop} {rm rm' : Int → Int} {ly ly' : Int → Prop} {h : Int → Int} (hS : ∀ q b, 0 ≤ q → q < nP → 0 ≤ b → b < nB → (S q b ↔ S' q b)) (hr : ∀ b, 0 ≤ b → b < nB → rm b = rm' b) (hl : ∀ q, 0 ≤ q → q < nP → (ly q ↔ ly' q)) (H : mvP nP nB S rm ly h) : mvP nP nB S' rm' ly' h := by
  refine ⟨fun q q₀ q₁ => ?_, fun x x₀ x₁ => ?_⟩
  · obtain ⟨h₁, h₂, h₃⟩ := H.1 q q₀ q₁
    exact ⟨h₁.trans (hl q q₀ q₁), h₂, fun c => (hS q (h q) q₀ q₁ c h₂).mp (h₃ c)⟩
  · rw [← hr x x₀ x₁]; exact H.2 x x₀ x₁
theorem mvAns_cg {nP nB v : Int} {S S' : Int → Int → Prop} {w w' : Int → Int → Int} {rm rm' : Int → Int} {ly ly' : Int → Prop} (hP : 0 ≤ nP) (hS : ∀ q b, 0 ≤ q → q < nP → 0 ≤ b → b < nB → (S q b ↔ S' q b)) (hw : ∀ q b, 0 ≤ q → q < nP → 0 ≤ b → b < nB → w q b = w' q b) (hr : ∀ b, 0 ≤ b → b < nB → rm b = rm' b) (hl : ∀ q, 0 ≤ q → q < nP → (ly q ↔ ly' q)) (H : mvAns nP nB S w rm ly v) : mvAns nP nB S' w' rm' ly' v := by
  have fw : ∀ h, mvP nP nB S rm ly h → mvP nP nB S' rm' ly' h := fun h x => mvP_cg hS hr hl x
  have bw : ∀ h, mvP nP nB S' rm' ly' h → mvP nP nB S rm ly h := fun h x => mvP_cg (fun q b q₀ q₁ b₀ b₁ => (hS q b q₀ q₁ b₀ b₁).symm) (fun b b₀ b₁ => (hr b b₀ b₁).symm) (fun q q₀ q₁ => (hl q q₀ q₁).symm) x
  have eT : ∀ h, mvP nP nB S rm ly h → mvT nP w h = mvT nP w' h := fun h x => by
    unfold mvT
    refine sm_eq _ fun q q₀ q₁ => ?_
    by_cases c : 0 ≤ h q
    · rw [if_pos c, if_pos c, hw q (h q) q₀ (by omega) c (x.1 q q₀ (by omega)).2.1]
    · rw [if_neg c, if_neg c]
  rcases H with ⟨H₁, H₂⟩ | ⟨g, H₁, H₂, H₃⟩
  · exact Or.inl ⟨H₁, fun h x => H₂ h (bw h x)⟩
  · exact Or.inr ⟨g, fw g H₁, by rw [← eT g H₁]; exact H₂, fun h x => by rw [← eT g H₁, ← eT h (bw h x)]; exact H₃ h (bw h x)⟩
set_option maxHeartbeats 1000000 in
theorem st_moves (hN : gN G) (h : RR k z hr hi hl) : stp G d k mX9_moves mX10_moves [vR 0] [vR 37] z hr hi hl := by
  obtain ⟨⟨hz, hR, hk, hs⟩, hD, hP, hB, hM, hS, hT, hX⟩ := id h
  have hP₁ := hP.1
  have hB₁ := hB.1
  have p8 : ∀ q, 0 ≤ q → q < hi 37 25 → 81 ≤ pC hr q := fun q q₀ q₁ => (hP.st q₀ q₁).2.2.2.2.1
  have b8 : ∀ b, 0 ≤ b → b < hi 37 45 → 81 ≤ bC hr b := fun b b₀ b₁ => (hB.2.1 b b₀ b₁).2.2.1
  have v13 : ∀ q, 0 ≤ q → q < hi 37 25 → hi (pC hr q) 13 = hi 59 q := fun q q₀ q₁ => (hP.2.1 q q₀ q₁).2.1.2.2.2.2.1
  refine (c_moves (d := d + 24) hz hR hN ⟨by omega, by omega⟩ ⟨by omega, by omega⟩ (fun q q₀ q₁ => ?_) (fun b b₀ b₁ => ?_) (fun q q₀ q₁ => ?_) (fun x x₀ x₁ => ?_) (fun x x₀ x₁ => ?_)).mono (fun r z' hr' hi' hl' q => ?_)
  · have s := hP.st q₀ (by omega : q < hi 37 25)
    exact ⟨s.1, s.2.1, s.2.2.2.2.1⟩
  · have w := hB.2.1 b b₀ (by omega)
    exact ⟨w.1, w.2.1, w.2.2.1⟩
  · rw [hB.1.1, v13 q q₀ (by omega)]
    exact (hP.2.1 q q₀ (by omega)).2.2.2.1
  · unfold crm
    have w := hB.2.1 x x₀ (by omega)
    omega
  · unfold crm
    rw [hP.1.1]
    have w := hB.2.2.2 x x₀ (by omega)
    rw [(hB.2.1 x x₀ (by omega)).2.2.2.2.2.1]
    refine Int.le_trans (Int.le_of_eq (sm_eq _ fun q q₀ q₁ => ?_)) w
    show (if _ then _ else _) = (if _ then _ else _)
    rw [v13 q q₀ (by omega)]
  · obtain ⟨e₁, e₂, e₃, v, fr, rfl, ans⟩ := q
    obtain rfl := e₁.symm
    obtain rfl := e₂.symm
    obtain rfl := e₃.symm
    have aV : ∀ b j, ¬ (10 ≤ b ∧ b ≤ 14) → ¬ b = 80 → ¬ (b = 37 ∧ j = 0) → up2 hi' 37 0 0 b j = hi b j := fun b j w₁ w₂ w₃ => by
      rw [up2_if w₃, fr b j w₁ w₂]
    have a25 := aV 37 25 (by omega) (by omega) (by omega)
    have a45 := aV 37 45 (by omega) (by omega) (by omega)
    refine ⟨_, rfl, hz, (m_moves (d := d + 26) hz hR (by rw [a25]; exact hP.1.2) (by rw [a45]; exact hB.1.2) (fun x x₀ x₁ => ?_) (fun x x₀ x₁ => ?_)).mono (fun r2 z2 hr2 hi2 hl2 q => ?_)⟩
    · rw [a45] at x₁
      rw [aV 72 x (by omega) (by omega) (by omega)]
      exact (hB.2.1 x x₀ x₁).2.2.2.2.2.2.2
    · rw [a45] at x₁
      rw [aV 72 x (by omega) (by omega) (by omega)]
      have := (hB.2.1 x x₀ x₁).2.2.2.2.2.2.1
      omega
    · obtain ⟨e₁, e₂, e₃, v2, go2, ma2, co2, by2, fr2, rfl, rfl, ans2⟩ := q
      obtain rfl := e₁.symm
      obtain rfl := e₂.symm
      obtain rfl := e₃.symm
      refine ⟨?_, h.cg (fun b j q => ?_) rfl rfl⟩
      · rw [a25, a45] at ans2
        rw [hP.1.1, hB.1.1] at ans
        have ans3 := mvAns_cg (S' := mS hi) (w' := mW hi) (rm' := hi 72) (ly' := fun q => 0 ≤ hi 59 q) hP.1.2.1 (fun q b q₀ q₁ b₀ b₁ => by
          have v := (hP.2.1 q q₀ q₁).2.1
          have w := hB.2.1 b b₀ b₁
          unfold dSu mS
          rw [w.2.2.2.1, w.2.2.2.2.1]
          have f0 := v.2.2.2.1 0 (by decide) (by decide)
          have f1 := v.2.2.2.1 1 (by decide) (by decide)
          have f2 := v.2.2.2.1 2 (by decide) (by decide)
          have f3 := v.2.2.2.1 3 (by decide) (by decide)
          rw [show (9 : Int) + 0 = 9 from rfl, Int.add_zero] at f0
          rw [show (9 : Int) + 1 = 10 from rfl] at f1
          rw [show (9 : Int) + 2 = 11 from rfl] at f2
          rw [show (9 : Int) + 3 = 12 from rfl] at f3
          rw [f0, f1, f2, f3]
          exact ⟨fun x => ⟨x.1.1, x.1.2, x.2.1, x.2.2⟩, fun x => ⟨⟨x.1, x.2.1⟩, x.2.2.1, x.2.2.2⟩⟩) (fun q b q₀ q₁ b₀ b₁ => by
          unfold dWt mW
          rw [v13 q q₀ q₁]) (fun b b₀ b₁ => by
          unfold crm
          rw [(hB.2.1 b b₀ b₁).2.2.2.2.2.1]) (fun q q₀ q₁ => by
          rw [v13 q q₀ q₁]) ans
        have ans4 := mvAns_cg (S' := mS hi) (w' := mW hi) (rm' := hi 72) (ly' := fun q => 0 ≤ hi 59 q) hP.1.2.1 (fun q b q₀ q₁ b₀ b₁ => by
          unfold mS
          rw [aV 58 _ (by omega) (by omega) (by omega), aV 58 _ (by omega) (by omega) (by omega), aV 58 _ (by omega) (by omega) (by omega), aV 58 _ (by omega) (by omega) (by omega), aV 70 _ (by omega) (by omega) (by omega), aV 71 _ (by omega) (by omega) (by omega)]) (fun q b q₀ q₁ b₀ b₁ => by
          unfold mW
          rw [aV 59 _ (by omega) (by omega) (by omega)]) (fun b b₀ b₁ => aV 72 _ (by omega) (by omega) (by omega)) (fun q q₀ q₁ => by
          rw [aV 59 _ (by omega) (by omega) (by omega)]) ans2
        rw [mvAns_u ans3 ans4]
      · have w : ¬ (10 ≤ b ∧ b ≤ 14) ∧ ¬ b = 80 ∧ ¬ (b = 37 ∧ j = 0) ∧ ¬ (73 ≤ b ∧ b ≤ 77) := by
          refine ⟨fun w => q ?_, fun w => q ?_, fun w => q ?_, fun w => q ?_⟩ <;> (unfold NR rdD rdP rdB rdM rdS rdT rdX; omega)
        rw [mvH_eq, if_neg (by omega), if_neg (by omega), if_neg (by omega), if_neg (by omega), if_neg (by omega)]
        exact aV b j w.1 w.2.1 w.2.2.1
end STP4
