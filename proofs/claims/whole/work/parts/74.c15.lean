section C15
variable {G : aG} {d : Nat} {z : aZ} {hr : aR} {hi hl : aI} {go rl co by_ y : Int → Int} {p K : Int}
theorem mJ.congr {nP nB : Int} {S : Int → Int → Prop} {w : Int → Int → Int} {rm : Int → Int} {A B : Int → Prop} (h : mJ nP nB S w rm A go y K) (hAB : ∀ q, 0 ≤ q → q < nP → (A q ↔ B q)) : mJ nP nB S w rm B go y K := ⟨h.1, h.2.1, h.2.2.1, fun q q0 q1 => ⟨(h.2.2.2 q q0 q1).1.trans (hAB q q0 q1), (h.2.2.2 q q0 q1).2⟩⟩
theorem mJ.ans {nP nB : Int} {S : Int → Int → Prop} {w : Int → Int → Int} {rm : Int → Int} {ly : Int → Prop} (hB : 0 ≤ nB) (h : mJ nP nB S w rm ly go y K) : mvAns nP nB S w rm ly (mvT nP w go) := by
  obtain ⟨h1, h3, h4, h5⟩ := h
  have hg : ∀ q, 0 ≤ q → q < nP → go q < nB := fun q q0 q1 => by
    rcases (h5 q q0 q1).2 with k | k
    · exact (h1.2 q q0 q1 k).1
    · omega
  refine Or.inr ⟨go, ⟨fun q q0 q1 => ⟨(h5 q q0 q1).1, hg q q0 q1, fun k => (h1.2 q q0 q1 k).2.1⟩, h4⟩, rfl, fun k hk => ?_⟩
  exact mv_opt h1 h3 (fun q q0 q1 => (h5 q q0 q1).1.trans (hk.1 q q0 q1).1.symm) (fun q q0 q1 => ⟨hg q q0 q1, (hk.1 q q0 q1).2.1⟩) (fun q q0 q1 => (hk.1 q q0 q1).2.2) hk.2
/-- who is in the plan when the first p have been brought in *) -/
def inP (hr : aR) (hi : aI) (p q : Int) : Prop := cly hr hi q ∧ (cSu hr hi q (hi (pC hr q) 13) ∨ q < p)
theorem mJ.start (hbed : ∀ q, 0 ≤ q → q < hi 10 6 → hi (pC hr q) 13 = -1 ∨ (0 ≤ hi (pC hr q) 13 ∧ hi (pC hr q) 13 < hi 10 7)) (hroom : ∀ x, 0 ≤ x → x < hi 10 7 → sm (hi 10 6).toNat (fun q => if hi (pC hr q) 13 = x then 1 else 0) ≤ crm hr hi x) (h : lvI hr hi (hi 10 6) go rl) : mJ (hi 10 6) (hi 10 7) (cSu hr hi) (cWt hr hi) (crm hr hi) (inP hr hi 0) go (fun _ => 0) 0 := by
  have hs := h.1
  refine ⟨⟨fun b _ _ => ⟨Int.le_refl 0, Int.le_refl 0⟩, fun q q0 q1 k => ?_⟩, fun x _ _ k => absurd k (Int.lt_irrefl 0), fun x x0 x1 => ?_, fun q q0 q1 => ?_⟩
  · rcases hs q q0 q1 with ⟨k1, k2, k3⟩ | ⟨k1, k2⟩
    · have hb := hbed q q0 q1
      unfold cly at k1
      rw [k3]
      refine ⟨by omega, k2, fun b b0 b1 s => ?_⟩
      have hw := cWt_01 (hr := hr) (hi := hi) q b
      have e : cWt hr hi q (hi (pC hr q) 13) = 0 := if_pos rfl
      show cWt hr hi q (hi (pC hr q) 13) + 0 ≤ cWt hr hi q b + 0
      omega
    · omega
  · refine Int.le_trans (sm_le _ fun q q0 q1 => ?_) (hroom x x0 x1)
    show (if go q = x then (1 : Int) else 0) ≤ (if hi (pC hr q) 13 = x then 1 else 0)
    rcases hs q q0 (by omega) with ⟨k1, k2, k3⟩ | ⟨k1, k2⟩
    · rw [k3]; exact Int.le_refl _
    · rw [k2, if_neg (by omega)]
      split <;> decide
  · rcases hs q q0 q1 with ⟨k1, k2, k3⟩ | ⟨k1, k2⟩
    · rw [k3]
      have k4 : 0 ≤ hi (pC hr q) 13 := k1
      exact ⟨⟨fun _ => ⟨k1, Or.inl k2⟩, fun _ => k4⟩, Or.inl k4⟩
    · rw [k2]
      refine ⟨⟨fun k => by omega, fun k => ?_⟩, Or.inr rfl⟩
      rcases k.2 with k3 | k3
      · exact absurd ⟨k.1, k3⟩ k1
      · omega
theorem mT_b (n : Nat) : 0 ≤ sm n (fun q => if 0 ≤ go q then cWt hr hi q (go q) else 0) ∧ sm n (fun q => if 0 ≤ go q then cWt hr hi q (go q) else 0) ≤ n := by
  induction n with
  | zero => exact ⟨Int.le_refl 0, Int.le_refl 0⟩
  | succ n ih =>
    have := cWt_01 (hr := hr) (hi := hi) n (go n)
    rw [sm]
    split <;> omega
set_option maxRecDepth 100000 in
set_option maxHeartbeats 4000000 in
theorem c_fw_65 (hz : stZ z) (hR : stR hr) (hN : gN G) (hM : cMP z hr hi) (hbed : ∀ q, 0 ≤ q → q < hi 10 6 → hi (pC hr q) 13 = -1 ∨ (0 ≤ hi (pC hr q) 13 ∧ hi (pC hr q) 13 < hi 10 7)) (hrm : ∀ x, 0 ≤ x → x < hi 10 7 → 0 ≤ crm hr hi x ∧ crm hr hi x ≤ 40) {nB : Int} (hJ : mJ (hi 10 6) (hi 10 7) (cSu hr hi) (cWt hr hi) (crm hr hi) (cly hr hi) go y K) (n : Nat) : ∀ q : Int, 0 ≤ q → q + n = hi 10 6 → a_wp G mX1_fewest (d + 5) 65 [some (vR 10), some (vI (hi 10 6)), some (vI nB), some (vI (sm q.toNat (fun q => if 0 ≤ go q then cWt hr hi q (go q) else 0))), some (vI q)] [] z hr (nH hi go rl co by_) hl (fun r z' hr' hi' hl' => z' = z ∧ hr' = hr ∧ hl' = hl ∧ ∃ v : Int, ∃ go rl co by_ : Int → Int, hi' = nH hi go rl co by_ ∧ r = some (vI v) ∧ mvAns (hi 10 6) (hi 10 7) (cSu hr hi) (cWt hr hi) (crm hr hi) (cly hr hi) v) := by
  induction n with
  | zero =>
    intro q h0 hn
    have hM1 := hM.1
    have hmb := mT_b (hr := hr) (hi := hi) (go := go) q.toNat
    refine a_iload (n := 67) dX1_fewest_65 rfl rfl ?_
    refine a_iload_n (n := 68) dX1_fewest_67 rfl rfl ?_
    refine a_icmp_ge (t := 100) (n := 71) dX1_fewest_68 rfl rfl (fun c68 => ?_) (fun c68 => ?_)
    · refine a_iload_n (n := 101) dX1_fewest_100 rfl rfl ?_
      refine a_ireturn dX1_fewest_101 rfl ?_
      obtain rfl : q = hi 10 6 := by omega
      exact ⟨rfl, rfl, rfl, _, go, rl, co, by_, rfl, rfl, hJ.ans hM.2.1.1⟩
    · have hbq := hbed q h0 (by omega)
      have hgq := (hJ.2.2.2 q h0 (by omega)).2
      have hiq : 0 ≤ go q ↔ 0 ≤ hi (pC hr q) 13 := (hJ.2.2.2 q h0 (by omega)).1
      omega
  | succ n ih =>
    intro q h0 hn
    have hM1 := hM.1
    have hmb := mT_b (hr := hr) (hi := hi) (go := go) q.toNat
    refine a_iload (n := 67) dX1_fewest_65 rfl rfl ?_
    refine a_iload_n (n := 68) dX1_fewest_67 rfl rfl ?_
    refine a_icmp_ge (t := 100) (n := 71) dX1_fewest_68 rfl rfl (fun c68 => ?_) (fun c68 => ?_)
    · omega
    · have hbq := hbed q h0 (by omega)
      have hgq := (hJ.2.2.2 q h0 (by omega)).2
      have hiq : 0 ≤ go q ↔ 0 ≤ hi (pC hr q) 13 := (hJ.2.2.2 q h0 (by omega)).1
      refine a_aload_n (n := 72) dX1_fewest_71 rfl rfl ?_
      refine a_getR (n := 75) dX1_fewest_72 rfl fX1_9 (s10 hz) (r10_2 hR) ?_
      refine a_iload (n := 77) dX1_fewest_75 rfl rfl ?_
      refine a_iald (n := 78) dX1_fewest_77 rfl (s11 hz) (by omega) (by omega) ?_
      try simp only [up2_eq, nH_eq, Nat.reduceEqDiff, Int.reduceEq, Int.reduceNeg, and_true, true_and, and_false, false_and, and_self, if_true, if_false, ite_true, ite_false, reduceIte, eq_self]
      refine a_aload_n (n := 79) dX1_fewest_78 rfl rfl ?_
      refine a_getR (n := 82) dX1_fewest_79 rfl fX1_24 (s10 hz) (r10_0 hR) ?_
      refine a_iload (n := 84) dX1_fewest_82 rfl rfl ?_
      refine a_aald (n := 85) dX1_fewest_84 rfl (s1 hz) (by decide) (by omega) (by omega) ?_
      obtain ⟨f1, f2, f3⟩ := hM.2.2.1 q (by omega) (by omega)
      rw [f1]
      refine a_getI (n := 88) dX1_fewest_85 rfl fX1_42 f2 ?_
      rw [nH_p f3]
      refine a_icmp_eq (t := 94) (n := 91) dX1_fewest_88 rfl rfl (fun c88 => ?_) (fun c88 => ?_)
      · refine b_iinc (n := 97) dX1_fewest_94 rfl (by decide) rfl rfl ⟨by omega, by omega⟩ ?_
        refine a_goto (t := 65) dX1_fewest_97 rfl ?_
        have e1 : sm (q.toNat + 1) (fun q => if 0 ≤ go q then cWt hr hi q (go q) else 0) = sm q.toNat (fun q => if 0 ≤ go q then cWt hr hi q (go q) else 0) + (if 0 ≤ go (q.toNat : Int) then cWt hr hi (q.toNat : Int) (go (q.toNat : Int)) else 0) := rfl
        rw [show (q.toNat : Int) = q by omega] at e1
        have e2 := ih (q + 1) (by omega) (by omega)
        have e3 : (if 0 ≤ go q then cWt hr hi q (go q) else 0) = 0 := by
          split
          · exact if_pos c88.symm
          · rfl
        rw [show (q + 1).toNat = q.toNat + 1 by omega, e1, e3, Int.add_zero] at e2
        exact e2
      · refine b_iinc (n := 94) dX1_fewest_91 rfl (by decide) rfl rfl ⟨by omega, by omega⟩ ?_
        refine b_iinc (n := 97) dX1_fewest_94 rfl (by decide) rfl rfl ⟨by omega, by omega⟩ ?_
        refine a_goto (t := 65) dX1_fewest_97 rfl ?_
        have e1 : sm (q.toNat + 1) (fun q => if 0 ≤ go q then cWt hr hi q (go q) else 0) = sm q.toNat (fun q => if 0 ≤ go q then cWt hr hi q (go q) else 0) + (if 0 ≤ go (q.toNat : Int) then cWt hr hi (q.toNat : Int) (go (q.toNat : Int)) else 0) := rfl
        rw [show (q.toNat : Int) = q by omega] at e1
        have e2 := ih (q + 1) (by omega) (by omega)
        have e3 : (if 0 ≤ go q then cWt hr hi q (go q) else 0) = 1 := by
          rw [if_pos (by omega)]
          exact if_neg (Ne.symm c88)
        rw [show (q + 1).toNat = q.toNat + 1 by omega, e1, e3] at e2
        exact e2
set_option maxRecDepth 100000 in
set_option maxHeartbeats 4000000 in
theorem c_fw_60 (hz : stZ z) (hR : stR hr) (hN : gN G) (hM : cMP z hr hi) (hbed : ∀ q, 0 ≤ q → q < hi 10 6 → hi (pC hr q) 13 = -1 ∨ (0 ≤ hi (pC hr q) 13 ∧ hi (pC hr q) 13 < hi 10 7)) (hrm : ∀ x, 0 ≤ x → x < hi 10 7 → 0 ≤ crm hr hi x ∧ crm hr hi x ≤ 40) {nB x : Int} {x4 : Option aV} (hJ : mJ (hi 10 6) (hi 10 7) (cSu hr hi) (cWt hr hi) (crm hr hi) (cly hr hi) go y K) : a_wp G mX1_fewest (d + 5) 60 [some (vR 10), some (vI (hi 10 6)), some (vI nB), some (vI x), x4] [] z hr (nH hi go rl co by_) hl (fun r z' hr' hi' hl' => z' = z ∧ hr' = hr ∧ hl' = hl ∧ ∃ v : Int, ∃ go rl co by_ : Int → Int, hi' = nH hi go rl co by_ ∧ r = some (vI v) ∧ mvAns (hi 10 6) (hi 10 7) (cSu hr hi) (cWt hr hi) (crm hr hi) (cly hr hi) v) := by
  have hM1 := hM.1
  refine a_iconst (n := 61) dX1_fewest_60 rfl ⟨by decide, by decide⟩ ?_
  refine b_istore_n (n := 62) dX1_fewest_61 rfl (by decide) rfl ?_
  refine a_iconst (n := 63) dX1_fewest_62 rfl ⟨by decide, by decide⟩ ?_
  refine b_istore (n := 65) dX1_fewest_63 rfl (by decide) rfl ?_
  exact c_fw_65 hz hR hN hM hbed hrm hJ (hi 10 6).toNat 0 (by decide) (by omega)
set_option maxRecDepth 100000 in
set_option maxHeartbeats 4000000 in
theorem c_fw_16 (hz : stZ z) (hR : stR hr) (hN : gN G) (hM : cMP z hr hi) (hbed : ∀ q, 0 ≤ q → q < hi 10 6 → hi (pC hr q) 13 = -1 ∨ (0 ≤ hi (pC hr q) 13 ∧ hi (pC hr q) 13 < hi 10 7)) (hrm : ∀ x, 0 ≤ x → x < hi 10 7 → 0 ≤ crm hr hi x ∧ crm hr hi x ≤ 40) {nB : Int} (n : Nat) : ∀ (p : Int) (go rl co by_ y : Int → Int) (K : Int), 0 ≤ p → p + n = hi 10 6 → 0 ≤ K → K ≤ 8 * p → mJ (hi 10 6) (hi 10 7) (cSu hr hi) (cWt hr hi) (crm hr hi) (inP hr hi p) go y K → (∀ x, 0 ≤ x → x < hi 10 7 → rl x = crm hr hi x - ld (hi 10 6).toNat go x) → a_wp G mX1_fewest (d + 5) 16 [some (vR 10), some (vI (hi 10 6)), some (vI nB), some (vI p), none] [] z hr (nH hi go rl co by_) hl (fun r z' hr' hi' hl' => z' = z ∧ hr' = hr ∧ hl' = hl ∧ ∃ v : Int, ∃ go rl co by_ : Int → Int, hi' = nH hi go rl co by_ ∧ r = some (vI v) ∧ mvAns (hi 10 6) (hi 10 7) (cSu hr hi) (cWt hr hi) (crm hr hi) (cly hr hi) v) := by
  induction n with
  | zero =>
    intro p go rl co by_ y K h0 hn hK0 hK hJ hrl
    have hM1 := hM.1
    have hM2 := hM.2.1
    refine a_iload_n (n := 17) dX1_fewest_16 rfl rfl ?_
    refine a_iload_n (n := 18) dX1_fewest_17 rfl rfl ?_
    refine a_icmp_ge (t := 60) (n := 21) dX1_fewest_18 rfl rfl (fun c18 => ?_) (fun c18 => ?_)
    · exact c_fw_60 hz hR hN hM hbed hrm (hJ.congr (fun q q0 q1 => ⟨fun k => k.1, fun k => ⟨k, Or.inr (by omega)⟩⟩))
    · have hbp := hbed p h0 (by omega)
      omega
  | succ n ih =>
    intro p go rl co by_ y K h0 hn hK0 hK hJ hrl
    have hM1 := hM.1
    have hM2 := hM.2.1
    refine a_iload_n (n := 17) dX1_fewest_16 rfl rfl ?_
    refine a_iload_n (n := 18) dX1_fewest_17 rfl rfl ?_
    refine a_icmp_ge (t := 60) (n := 21) dX1_fewest_18 rfl rfl (fun c18 => ?_) (fun c18 => ?_)
    · omega
    · have hbp := hbed p h0 (by omega)
      refine a_aload_n (n := 22) dX1_fewest_21 rfl rfl ?_
      refine a_getR (n := 25) dX1_fewest_22 rfl fX1_24 (s10 hz) (r10_0 hR) ?_
      refine a_iload_n (n := 26) dX1_fewest_25 rfl rfl ?_
      refine a_aald (n := 27) dX1_fewest_26 rfl (s1 hz) (by decide) (by omega) (by omega) ?_
      obtain ⟨f1, f2, f3⟩ := hM.2.2.1 p (by omega) (by omega)
      rw [f1]
      refine a_getI (n := 30) dX1_fewest_27 rfl fX1_42 f2 ?_
      rw [nH_p f3]
      refine a_iconst (n := 31) dX1_fewest_30 rfl ⟨by decide, by decide⟩ ?_
      refine a_icmp_eq (t := 54) (n := 34) dX1_fewest_31 rfl rfl (fun c31 => ?_) (fun c31 => ?_)
      · refine b_iinc (n := 57) dX1_fewest_54 rfl (by decide) rfl rfl ⟨by omega, by omega⟩ ?_
        refine a_goto (t := 16) dX1_fewest_57 rfl ?_
        exact ih (p + 1) go rl co by_ y K (by omega) (by omega) hK0 (by omega) (hJ.congr (fun q q0 q1 => ⟨fun k => ⟨k.1, k.2.imp id (fun j => by omega)⟩, fun k => ⟨k.1, k.2.imp id (fun j => by
          by_cases e : q = p
          · rw [e] at k; exact absurd k.1 (by unfold cly; omega)
          · omega)⟩⟩)) hrl
      · refine a_aload_n (n := 35) dX1_fewest_34 rfl rfl ?_
        refine a_getR (n := 38) dX1_fewest_35 rfl fX1_9 (s10 hz) (r10_2 hR) ?_
        refine a_iload_n (n := 39) dX1_fewest_38 rfl rfl ?_
        refine a_iald (n := 40) dX1_fewest_39 rfl (s11 hz) (by omega) (by omega) ?_
        try simp only [up2_eq, nH_eq, Nat.reduceEqDiff, Int.reduceEq, Int.reduceNeg, and_true, true_and, and_false, false_and, and_self, if_true, if_false, ite_true, ite_false, reduceIte, eq_self]
        refine a_iconst (n := 41) dX1_fewest_40 rfl ⟨by decide, by decide⟩ ?_
        refine a_icmp_ne (t := 54) (n := 44) dX1_fewest_41 rfl rfl (fun c41 => ?_) (fun c41 => ?_)
        · have hgp2 := (hJ.2.2.2 p h0 (by omega)).2
          refine b_iinc (n := 57) dX1_fewest_54 rfl (by decide) rfl rfl ⟨by omega, by omega⟩ ?_
          refine a_goto (t := 16) dX1_fewest_57 rfl ?_
          exact ih (p + 1) go rl co by_ y K (by omega) (by omega) hK0 (by omega) (hJ.congr (fun q q0 q1 => ⟨fun k => ⟨k.1, k.2.imp id (fun j => by omega)⟩, fun k => by
            by_cases e : q = p
            · rw [e]; exact (hJ.2.2.2 p h0 (by omega)).1.mp (by omega)
            · exact ⟨k.1, k.2.imp id (fun j => by omega)⟩⟩)) hrl
        · have hgp2 := (hJ.2.2.2 p h0 (by omega)).2
          have hnA : ¬ inP hr hi p p := fun k => by have := (hJ.2.2.2 p h0 (by omega)).1.mpr k; omega
          refine a_aload_n (n := 45) dX1_fewest_44 rfl rfl ?_
          refine a_iload_n (n := 46) dX1_fewest_45 rfl rfl ?_
          refine a_callV (M2 := mX1_bringIn) (n := 49) dX1_fewest_46 rfl (c_bringIn (d := d) hz hR hN hM ⟨h0, by omega⟩ hJ ⟨hK0, by omega⟩ hnA (fun q k => k.1) (by unfold cly; omega) hrl hrm) kX1_bringIn lX1_47 iX1_bringIn eX1_bringIn (by decide) (by omega) (s10 hz) rfl (Nat.le_of_ble_eq_true rfl) (fun q46 z46 hr46 hi46 hl46 h46 => ?_)
          obtain ⟨e146, e246, e346, g2, r2, c2, b2, rfl, h46⟩ := h46
          obtain rfl := e146.symm
          obtain rfl := e246.symm
          obtain rfl := e346.symm
          rcases h46 with ⟨rfl, hno⟩ | ⟨rfl, ⟨y2, hJ2⟩, hrl2⟩
          · show a_wp G _ _ _ _ (vI 0 :: _) _ _ _ _ _
            refine a_if_ne (t := 54) (n := 52) dX1_fewest_49 rfl rfl (fun c49 => ?_) (fun c49 => ?_)
            · omega
            · refine a_iconst (n := 53) dX1_fewest_52 rfl ⟨by decide, by decide⟩ ?_
              refine a_ireturn dX1_fewest_53 rfl ?_
              exact ⟨rfl, rfl, rfl, _, _, _, _, _, rfl, rfl, Or.inl ⟨rfl, hno⟩⟩
          · show a_wp G _ _ _ _ (vI 1 :: _) _ _ _ _ _
            refine a_if_ne (t := 54) (n := 52) dX1_fewest_49 rfl rfl (fun c49 => ?_) (fun c49 => ?_)
            · refine b_iinc (n := 57) dX1_fewest_54 rfl (by decide) rfl rfl ⟨by omega, by omega⟩ ?_
              refine a_goto (t := 16) dX1_fewest_57 rfl ?_
              refine ih (p + 1) _ _ _ _ _ _ (by omega) (by omega) (by omega) (by omega) (hJ2.congr (fun q q0 q1 => ⟨fun k => ?_, fun k => ?_⟩)) hrl2
              · rcases k with k | k
                · exact ⟨k.1, k.2.imp id (fun j => by omega)⟩
                · rw [k]; exact ⟨by unfold cly; omega, Or.inr (by omega)⟩
              · by_cases e : q = p
                · exact Or.inr e
                · exact Or.inl ⟨k.1, k.2.imp id (fun j => by omega)⟩
            · omega
end C15
