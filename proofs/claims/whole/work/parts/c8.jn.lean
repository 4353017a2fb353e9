/-! steps: join *) -/
section STPD
variable {G : aG} {d k : Nat} {z : aZ} {hr : aR} {hi hi' hl : aI}
theorem mBack_up {f : Int → Int} {x : Int} (n : Nat) : ∀ y, mBack f x n y → mBack f x (n + 1) y := by
  induction n with
  | zero => exact fun y h => h.elim
  | succ n ih => exact fun y h => ⟨h.1, h.2.imp id (ih _)⟩
theorem mBack_dn {f : Int → Int} {x : Int} (n : Nat) : ∀ y, mZ f n y → mBack f x (n + 1) y → mBack f x n y := by
  induction n with
  | zero =>
    intro y hz h
    have h₁ : y ≤ 0 := hz
    have := h.1
    omega
  | succ n ih =>
    intro y hz h
    rcases hz with hz | hz
    · have := h.1
      omega
    · exact ⟨h.1, h.2.imp id (ih _ hz)⟩
theorem gM.zz (h : gM hi) (jd y : Int) : mZ (fun y => mJoin hi y jd) 50 y := by
  by_cases c : y ≤ 50
  · exact h.2.2.2.2.2 jd y c
  · have e : mJoin hi y jd = 0 := by
      have := h.2.1
      exact mLast_0 _ fun i i₀ i₁ => by have := (h.2.2.2.1 i i₀ (by omega)).1; omega
    show y ≤ 0 ∨ mZ (fun y => mJoin hi y jd) 49 (mJoin hi y jd)
    rw [e]
    exact Or.inr (Or.inl (Int.le_refl 0))
set_option maxHeartbeats 1000000 in
theorem st_join (h : RR k z hr hi hl) {x y : Int} : stp G d k mX9_join mX10_join [vR 0, vI x, vI y] [vR 37, vI x, vI y] z hr hi hl := by
  obtain ⟨⟨hz, hR, hk, hs⟩, hD, hP, hB, hM, hS, hT, hX⟩ := id h
  have hD₁ := hD.1
  have hM₂ := hM.2.1
  have ef : (fun y => cJoin hi y (hi 0 11)) = (fun y => mJoin hi y (hi 37 24)) := funext fun y => by rw [hD.1]; exact hM.jn y _
  have hZ := hM.zz (hi 37 24) y
  have key : ((1 ≤ x ∧ x ≤ 50) ∧ (0 ≤ y ∧ y ≤ 50) ∧ ¬ hi 3 7 = 100 ∧ ¬ mBack (fun y => cJoin hi y (hi 0 11)) x 50 y) ↔ ((1 ≤ x ∧ x ≤ 50) ∧ (y = 0 ∨ (1 ≤ y ∧ y ≤ 50)) ∧ ¬ x = y ∧ ¬ hi 37 41 = 100 ∧ ¬ (0 < y ∧ mBack (fun y => mJoin hi y (hi 37 24)) x (50 + 1) y)) := by
    rw [ef, hM₂.1]
    constructor
    · rintro ⟨a, b, c, e⟩
      refine ⟨a, by omega, fun q => e ⟨by omega, Or.inl q.symm⟩, c, fun q => e (mBack_dn 50 y hZ q.2)⟩
    · rintro ⟨a, b, c, e, q⟩
      refine ⟨a, by omega, e, fun w => q ⟨w.1, mBack_up 50 y w⟩⟩
  refine (c_join (d := d + 27) hz hR (by omega) (fun x => by rw [hM.jn]; exact (hM.jb x _).1)).mono (fun r z' hr' hi' hl' q => ?_)
  obtain ⟨e₁, e₂, e₃, q⟩ := q
  obtain rfl := e₁.symm
  obtain rfl := e₂.symm
  obtain rfl := e₃.symm
  rcases q with ⟨c, rfl, rfl⟩ | ⟨c, rfl, e₅⟩
  · have c' := key.mp c
    have aU : ∀ b j, ¬ (b = 3 ∨ (7 ≤ b ∧ b ≤ 9)) → up2 (up2 (up2 (up2 hi 7 (hi 3 7) x) 8 (hi 3 7) y) 9 (hi 3 7) (hi 0 11)) 3 7 (hi 3 7 + 1) b j = hi b j := fun b j w => by rw [up2_if (by omega), up2_if (by omega), up2_if (by omega), up2_if (by omega)]
    have fU : ∀ b, ¬ (b = 3 ∨ (7 ≤ b ∧ b ≤ 9)) → up2 (up2 (up2 (up2 hi 7 (hi 3 7) x) 8 (hi 3 7) y) 9 (hi 3 7) (hi 0 11)) 3 7 (hi 3 7 + 1) b = hi b := fun b w => funext fun j => aU b j w
    have eU : ∀ v jd, mJoin (up2 (up2 (up2 (up2 hi 7 (hi 3 7) x) 8 (hi 3 7) y) 9 (hi 3 7) (hi 0 11)) 3 7 (hi 3 7 + 1)) v jd = mJoin hi v jd := fun v jd => by
      show mLast (up2 (up2 (up2 (up2 hi 7 (hi 3 7) x) 8 (hi 3 7) y) 9 (hi 3 7) (hi 0 11)) 3 7 (hi 3 7 + 1) 67) (up2 (up2 (up2 (up2 hi 7 (hi 3 7) x) 8 (hi 3 7) y) 9 (hi 3 7) (hi 0 11)) 3 7 (hi 3 7 + 1) 69) (up2 (up2 (up2 (up2 hi 7 (hi 3 7) x) 8 (hi 3 7) y) 9 (hi 3 7) (hi 0 11)) 3 7 (hi 3 7 + 1) 68) v jd (up2 (up2 (up2 (up2 hi 7 (hi 3 7) x) 8 (hi 3 7) y) 9 (hi 3 7) (hi 0 11)) 3 7 (hi 3 7 + 1) 37 41).toNat = mLast (hi 67) (hi 69) (hi 68) v jd (hi 37 41).toNat
      rw [fU 67 (by omega), fU 68 (by omega), fU 69 (by omega), fU 37 (by omega)]
    have k24 := aU 37 24 (by omega)
    have k41 := aU 37 41 (by omega)
    have eg : (fun v => mJoin (up2 (up2 (up2 (up2 hi 7 (hi 3 7) x) 8 (hi 3 7) y) 9 (hi 3 7) (hi 0 11)) 3 7 (hi 3 7 + 1)) v (up2 (up2 (up2 (up2 hi 7 (hi 3 7) x) 8 (hi 3 7) y) 9 (hi 3 7) (hi 0 11)) 3 7 (hi 3 7 + 1) 37 24)) = (fun v => mJoin hi v (hi 37 24)) := funext fun v => by rw [k24]; exact eU v _
    refine ⟨_, rfl, hz, (m_join (d := d + 28) (N := 50) hz hR (by rw [k41]; exact hM₂.2) (by rw [eg]; exact hZ)).mono (fun r2 z2 hr2 hi2 hl2 q => ?_)⟩
    obtain ⟨e₁, e₂, e₃, q⟩ := q
    obtain rfl := e₁.symm
    obtain rfl := e₂.symm
    obtain rfl := e₃.symm
    rw [eg, k24, k41, ← hM₂.1, ← hD₁] at q
    rw [← hM₂.1] at c'
    rcases q with ⟨c₂, rfl, e₄⟩ | ⟨c₂, -⟩
    · have ag : ∀ b j, ¬ ((b = 3 ∧ j = 7) ∨ (b = 37 ∧ (j = 0 ∨ j = 41)) ∨ ((b = 7 ∨ b = 8 ∨ b = 9 ∨ b = 67 ∨ b = 68 ∨ b = 69) ∧ j = hi 3 7)) → hi2 b j = hi b j := fun b j w => by
        rw [e₄, up2_if (by omega), up2_if (by omega), up2_if (by omega), up2_if (by omega), up2_if (by omega), up2_if (by omega), up2_if (by omega), up2_if (by omega), up2_if (by omega)]
      have n₁ : hi2 3 7 = hi 3 7 + 1 := by rw [e₄, up2_if (by omega), up2_if (by omega), up2_if (by omega), up2_if (by omega), up2_if (by omega), up2_s]
      have n₂ : hi2 37 41 = hi 3 7 + 1 := by rw [e₄, up2_s]
      have n7 : hi2 7 (hi 3 7) = x := by rw [e₄, up2_if (by omega), up2_if (by omega), up2_if (by omega), up2_if (by omega), up2_if (by omega), up2_if (by omega), up2_if (by omega), up2_if (by omega), up2_s]
      have n8 : hi2 8 (hi 3 7) = y := by rw [e₄, up2_if (by omega), up2_if (by omega), up2_if (by omega), up2_if (by omega), up2_if (by omega), up2_if (by omega), up2_if (by omega), up2_s]
      have n9 : hi2 9 (hi 3 7) = hi 0 11 := by rw [e₄, up2_if (by omega), up2_if (by omega), up2_if (by omega), up2_if (by omega), up2_if (by omega), up2_if (by omega), up2_s]
      have m7 : hi2 67 (hi 3 7) = x := by rw [e₄, up2_if (by omega), up2_if (by omega), up2_if (by omega), up2_s]
      have m8 : hi2 68 (hi 3 7) = y := by rw [e₄, up2_if (by omega), up2_if (by omega), up2_s]
      have m9 : hi2 69 (hi 3 7) = hi 0 11 := by rw [e₄, up2_if (by omega), up2_s]
      refine ⟨rfl, ⟨hz, hR, by omega, by omega⟩, hD.cg fun b j q => ag b j (by unfold rdD at q; omega), hP.k1.cg fun b j q => ag b j (by unfold rdP at q; omega), hB.cg fun b j q => ag b j (by unfold rdB at q; omega), ?_, hS.cg fun b j q => ag b j (by unfold rdS at q; omega), hT.cg fun b j q => ag b j (by unfold rdT at q; omega), hX.cg (fun b j q => ag b j (by unfold rdX at q; omega)) rfl rfl⟩
      have hjb := fun v jd => hM.jb v jd
      obtain ⟨g₁, g₂, g₃, g₄, g₅, g₆⟩ := hM
      have ej : ∀ v jd, mJoin hi2 v jd = if x = v ∧ hi 0 11 ≤ jd then y else mJoin hi v jd := fun v jd => by
        show mLast (hi2 67) (hi2 69) (hi2 68) v jd (hi2 37 41).toNat = _
        rw [n₂, mLast_s (by omega), m7, m8, m9]
        have cg : mLast (hi2 67) (hi2 69) (hi2 68) v jd (hi 3 7).toNat = mLast (hi 67) (hi 69) (hi 68) v jd (hi 3 7).toNat := mLast_cg _ fun i i₀ i₁ => ⟨ag 67 i (by omega), ag 69 i (by omega), ag 68 i (by omega)⟩
        rw [cg]
        show _ = (if x = v ∧ hi 0 11 ≤ jd then y else mLast (hi 67) (hi 69) (hi 68) v jd (hi 37 41).toNat)
        rw [← g₂.1]
      refine ⟨?_, ⟨n₁.trans n₂.symm, by omega, by omega⟩, fun i => ?_, fun i i₀ i₁ => ?_, fun i i₀ i₁ => ?_, fun jd v hv => ?_⟩
      · rw [ag 3 6 (by omega), ag 37 37 (by omega)]; exact g₁
      · rw [ag 4 i (by omega), ag 5 i (by omega), ag 6 i (by omega), ag 64 i (by omega), ag 65 i (by omega), ag 66 i (by omega)]
        by_cases w : i = hi 3 7
        · rw [w]
          exact ⟨(g₃ _).1, (g₃ _).2.1, (g₃ _).2.2.1, n7.trans m7.symm, n8.trans m8.symm, n9.trans m9.symm⟩
        · rw [ag 7 i (by omega), ag 8 i (by omega), ag 9 i (by omega), ag 67 i (by omega), ag 68 i (by omega), ag 69 i (by omega)]
          exact g₃ i
      · rw [n₂] at i₁
        rw [ag 37 24 (by omega)]
        by_cases w : i = hi 3 7
        · rw [w, m7, m8, m9]
          exact ⟨c.1, c.2.1, by omega⟩
        · rw [ag 67 i (by omega), ag 68 i (by omega), ag 69 i (by omega)]
          exact g₄ i i₀ (by omega)
      · rw [ag 37 37 (by omega)] at i₁
        rw [ag 65 i (by omega)]
        exact g₅ i i₀ i₁
      · by_cases w : hi 0 11 ≤ jd
        · have et : ∀ v, mJoin hi v jd = mJoin hi v (hi 37 24) := fun v => mLast_dy _ (fun i i₀ i₁ => (g₄ i i₀ (by omega)).2.2) (by omega)
          refine mZ_upd (f := fun v => mJoin hi v jd) (x := x) (y := y) (fun v => (hjb v jd).2) (fun v => ?_) c.2.1.2 (g₆ jd) ?_ v hv
          · show mJoin hi2 v jd = _
            rw [ej]
            by_cases u : v = x
            · rw [if_pos ⟨u.symm, w⟩, if_pos u]
            · rw [if_neg (fun q => u q.1.symm), if_neg u]
          · rw [show (fun v => mJoin hi v jd) = (fun y => cJoin hi y (hi 0 11)) by rw [ef]; exact funext et]
            exact c.2.2.2
        · rw [show (fun y => mJoin hi2 y jd) = (fun y => mJoin hi y jd) from funext fun v => by rw [ej, if_neg (fun q => w q.2)]]
          exact g₆ jd v hv
    · rw [hD₁] at c₂
      exact absurd c' c₂
  · obtain rfl := e₅.symm
    refine ⟨_, rfl, hz, (m_join (d := d + 28) (N := 50) hz hR hM₂.2 hZ).mono (fun r2 z2 hr2 hi2 hl2 q => ?_)⟩
    obtain ⟨e₁, e₂, e₃, q⟩ := q
    obtain rfl := e₁.symm
    obtain rfl := e₂.symm
    obtain rfl := e₃.symm
    rcases q with ⟨c₂, rfl, rfl⟩ | ⟨c₂, rfl, rfl⟩
    · exact absurd (key.mpr c₂) c
    · exact ⟨rfl, h.t0⟩
end STPD
