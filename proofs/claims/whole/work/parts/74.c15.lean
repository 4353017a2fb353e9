section C15
variable {G : aG} {d : Nat} {z : aZ} {hr : aR} {hi hl : aI} {go rl co by_ y rm : Int → Int} {p K : Int}
theorem mJ.congr {nP nB : Int} {S : Int → Int → Prop} {w : Int → Int → Int} {rm : Int → Int} {A B : Int → Prop} (h : mJ nP nB S w rm A go y K) (hAB : ∀ q, 0 ≤ q → q < nP → (A q ↔ B q)) : mJ nP nB S w rm B go y K := ⟨h.1, h.2.1, h.2.2.1, fun q q0 q1 => ⟨(h.2.2.2 q q0 q1).1.trans (hAB q q0 q1), (h.2.2.2 q q0 q1).2⟩⟩
theorem mJ.ans {nP nB : Int} {S : Int → Int → Prop} {w : Int → Int → Int} {rm : Int → Int} {ly : Int → Prop} (hB : 0 ≤ nB) (h : mJ nP nB S w rm ly go y K) : mvAns nP nB S w rm ly (mvT nP w go) := by
  obtain ⟨h1, h3, h4, h5⟩ := h
  have hg : ∀ q, 0 ≤ q → q < nP → go q < nB := fun q q0 q1 => by
    rcases (h5 q q0 q1).2 with k | k
    · exact (h1.2 q q0 q1 k).1
    · omega
  refine Or.inr ⟨go, ⟨fun q q0 q1 => ⟨(h5 q q0 q1).1, hg q q0 q1, fun k => (h1.2 q q0 q1 k).2.1⟩, h4⟩, rfl, fun k hk => ?_⟩
  exact mv_opt h1 h3 (fun q q0 q1 => (h5 q q0 q1).1.trans (hk.1 q q0 q1).1.symm) (fun q q0 q1 => ⟨hg q q0 q1, (hk.1 q q0 q1).2.1⟩) (fun q q0 q1 => (hk.1 q q0 q1).2.2) hk.2
/-- who is in the plan when the first p have been brought in *) -/
def inP (g0 : Int → Int) (p q : Int) : Prop := 0 ≤ g0 q ∨ q < p
theorem mT_b (n : Nat) : 0 ≤ sm n (fun q => if 0 ≤ go q then cWt hi q (go q) else 0) ∧ sm n (fun q => if 0 ≤ go q then cWt hi q (go q) else 0) ≤ n := by
  induction n with
  | zero => exact ⟨Int.le_refl 0, Int.le_refl 0⟩
  | succ n ih =>
    have := cWt_01 (hi := hi) n (go n)
    rw [sm]
    split <;> omega
set_option maxRecDepth 100000 in
set_option maxHeartbeats 4000000 in
theorem c_fw_40 (hz : stZ z) (hR : stR hr) (hM : cMP hi) (hJ : mJ (hi 10 5) (hi 10 6) (cSu hi) (cWt hi) rm (fun _ => True) go y K) (n : Nat) : ∀ q : Int, 0 ≤ q → q + n = hi 10 5 → a_wp G mX1_fewest (d + 5) 40 [some (vR 10), some (vI (sm q.toNat (fun q => if 0 ≤ go q then cWt hi q (go q) else 0))), some (vI q)] [] z hr (nH hi go rl co by_) hl (fun r z' hr' hi' hl' => z' = z ∧ hr' = hr ∧ hl' = hl ∧ ∃ v : Int, ∃ go rl co by_ : Int → Int, hi' = nH hi go rl co by_ ∧ r = some (vI v) ∧ mvAns (hi 10 5) (hi 10 6) (cSu hi) (cWt hi) rm (fun _ => True) v) := by
  induction n with
  | zero =>
    intro q h0 hn
    have hM1 := hM.1
    have hmb := mT_b (hi := hi) (go := go) q.toNat
    refine a_iload_n (n := 41) dX1_fewest_40 rfl rfl ?_
    refine a_aload_n (n := 42) dX1_fewest_41 rfl rfl ?_
    refine a_getI (n := 45) dX1_fewest_42 rfl fX1_27 (s10 hz) ?_
    try simp only [up2_eq, nH_eq, Nat.reduceEqDiff, Int.reduceEq, Int.reduceNeg, and_true, true_and, and_false, false_and, and_self, if_true, if_false, ite_true, ite_false, reduceIte, eq_self]
    refine a_icmp_ge (t := 68) (n := 48) dX1_fewest_45 rfl rfl (fun c45 => ?_) (fun c45 => ?_)
    · refine a_iload_n (n := 69) dX1_fewest_68 rfl rfl ?_
      refine a_ireturn dX1_fewest_69 rfl ?_
      obtain rfl : q = hi 10 5 := by omega
      exact ⟨rfl, rfl, rfl, _, go, rl, co, by_, rfl, rfl, hJ.ans hM.2.1.1⟩
    · have hgq0 : 0 ≤ go q := (hJ.2.2.2 q h0 (by omega)).1.mpr trivial
      have hgc := hJ.1.2 q h0 (by omega) hgq0
      have hgq : 0 ≤ go q ∧ go q < hi 10 6 := ⟨hgq0, hgc.1⟩
      have hsq := hgc.2.1
      have hw9 := cWt_01 (hi := hi) q (go q)
      omega
  | succ n ih =>
    intro q h0 hn
    have hM1 := hM.1
    have hmb := mT_b (hi := hi) (go := go) q.toNat
    refine a_iload_n (n := 41) dX1_fewest_40 rfl rfl ?_
    refine a_aload_n (n := 42) dX1_fewest_41 rfl rfl ?_
    refine a_getI (n := 45) dX1_fewest_42 rfl fX1_27 (s10 hz) ?_
    try simp only [up2_eq, nH_eq, Nat.reduceEqDiff, Int.reduceEq, Int.reduceNeg, and_true, true_and, and_false, false_and, and_self, if_true, if_false, ite_true, ite_false, reduceIte, eq_self]
    refine a_icmp_ge (t := 68) (n := 48) dX1_fewest_45 rfl rfl (fun c45 => ?_) (fun c45 => ?_)
    · omega
    · have hgq0 : 0 ≤ go q := (hJ.2.2.2 q h0 (by omega)).1.mpr trivial
      have hgc := hJ.1.2 q h0 (by omega) hgq0
      have hgq : 0 ≤ go q ∧ go q < hi 10 6 := ⟨hgq0, hgc.1⟩
      have hsq := hgc.2.1
      have hw9 := cWt_01 (hi := hi) q (go q)
      refine a_iload_n (n := 49) dX1_fewest_48 rfl rfl ?_
      refine a_aload_n (n := 50) dX1_fewest_49 rfl rfl ?_
      refine a_iload_n (n := 51) dX1_fewest_50 rfl rfl ?_
      refine a_aload_n (n := 52) dX1_fewest_51 rfl rfl ?_
      refine a_getR (n := 55) dX1_fewest_52 rfl fX1_15 (s10 hz) (r10_1 hR) ?_
      refine a_iload_n (n := 56) dX1_fewest_55 rfl rfl ?_
      refine a_iald (n := 57) dX1_fewest_56 rfl (s11 hz) (by omega) (by omega) ?_
      try simp only [up2_eq, nH_eq, Nat.reduceEqDiff, Int.reduceEq, Int.reduceNeg, and_true, true_and, and_false, false_and, and_self, if_true, if_false, ite_true, ite_false, reduceIte, eq_self]
      refine a_callV (M2 := mX1_price) (n := 60) dX1_fewest_57 rfl (c_price (d := d + 4) (b := go q) hz hR hM ⟨h0, by omega⟩ hgq) kX1_price lX1_47 iX1_price eX1_price (by decide) (by omega) (s10 hz) rfl (Nat.le_of_ble_eq_true rfl) (fun q57 z57 hr57 hi57 hl57 h57 => ?_)
      obtain ⟨e157, e257, e357, e457, rfl⟩ := h57
      obtain rfl := e157.symm
      obtain rfl := e257.symm
      obtain rfl := e357.symm
      obtain rfl := e457.symm
      show a_wp G _ _ _ _ (vI (hi 80 (q * 8 + go q)) :: _) _ _ _ _ _
      rw [hM.w h0 (by omega) hgq.1 hgq.2 hsq]
      refine a_iadd (n := 61) dX1_fewest_60 rfl ⟨by omega, by omega⟩ ?_
      refine b_istore_n (n := 62) dX1_fewest_61 rfl (by decide) rfl ?_
      refine b_iinc (n := 65) dX1_fewest_62 rfl (by decide) rfl rfl ⟨by omega, by omega⟩ ?_
      refine a_goto (t := 40) dX1_fewest_65 rfl ?_
      have e1 : sm (q.toNat + 1) (fun q => if 0 ≤ go q then cWt hi q (go q) else 0) = sm q.toNat (fun q => if 0 ≤ go q then cWt hi q (go q) else 0) + (if 0 ≤ go (q.toNat : Int) then cWt hi (q.toNat : Int) (go (q.toNat : Int)) else 0) := rfl
      rw [show (q.toNat : Int) = q by omega, if_pos hgq.1] at e1
      have e2 := ih (q + 1) (by omega) (by omega)
      rw [show (q + 1).toNat = q.toNat + 1 by omega, e1] at e2
      exact e2
set_option maxRecDepth 100000 in
set_option maxHeartbeats 4000000 in
theorem c_fw_36 (hz : stZ z) (hR : stR hr) (hM : cMP hi) {x : Int} {x2 : Option aV} (hJ : mJ (hi 10 5) (hi 10 6) (cSu hi) (cWt hi) rm (fun _ => True) go y K) : a_wp G mX1_fewest (d + 5) 36 [some (vR 10), some (vI x), x2] [] z hr (nH hi go rl co by_) hl (fun r z' hr' hi' hl' => z' = z ∧ hr' = hr ∧ hl' = hl ∧ ∃ v : Int, ∃ go rl co by_ : Int → Int, hi' = nH hi go rl co by_ ∧ r = some (vI v) ∧ mvAns (hi 10 5) (hi 10 6) (cSu hi) (cWt hi) rm (fun _ => True) v) := by
  have hM1 := hM.1
  refine a_iconst (n := 37) dX1_fewest_36 rfl ⟨by decide, by decide⟩ ?_
  refine b_istore_n (n := 38) dX1_fewest_37 rfl (by decide) rfl ?_
  refine a_iconst (n := 39) dX1_fewest_38 rfl ⟨by decide, by decide⟩ ?_
  refine b_istore_n (n := 40) dX1_fewest_39 rfl (by decide) rfl ?_
  exact c_fw_40 hz hR hM hJ (hi 10 5).toNat 0 (by decide) (by omega)
set_option maxRecDepth 100000 in
set_option maxHeartbeats 4000000 in
theorem c_fw_2 (hz : stZ z) (hR : stR hr) (hM : cMP hi) (hrm : ∀ x, 0 ≤ x → x < hi 10 6 → 0 ≤ rm x ∧ rm x ≤ 40) {g0 : Int → Int} (n : Nat) : ∀ (p : Int) (go rl co by_ y : Int → Int) (K : Int), 0 ≤ p → p + n = hi 10 5 → 0 ≤ K → K ≤ 8 * p → mJ (hi 10 5) (hi 10 6) (cSu hi) (cWt hi) rm (inP g0 p) go y K → (∀ x, 0 ≤ x → x < hi 10 6 → rl x = rm x - ld (hi 10 5).toNat go x) → a_wp G mX1_fewest (d + 5) 2 [some (vR 10), some (vI p), none] [] z hr (nH hi go rl co by_) hl (fun r z' hr' hi' hl' => z' = z ∧ hr' = hr ∧ hl' = hl ∧ ∃ v : Int, ∃ go rl co by_ : Int → Int, hi' = nH hi go rl co by_ ∧ r = some (vI v) ∧ mvAns (hi 10 5) (hi 10 6) (cSu hi) (cWt hi) rm (fun _ => True) v) := by
  induction n with
  | zero =>
    intro p go rl co by_ y K h0 hn hK0 hK hJ hrl
    have hM1 := hM.1
    have hM2 := hM.2.1
    refine a_iload_n (n := 3) dX1_fewest_2 rfl rfl ?_
    refine a_aload_n (n := 4) dX1_fewest_3 rfl rfl ?_
    refine a_getI (n := 7) dX1_fewest_4 rfl fX1_27 (s10 hz) ?_
    try simp only [up2_eq, nH_eq, Nat.reduceEqDiff, Int.reduceEq, Int.reduceNeg, and_true, true_and, and_false, false_and, and_self, if_true, if_false, ite_true, ite_false, reduceIte, eq_self]
    refine a_icmp_ge (t := 36) (n := 10) dX1_fewest_7 rfl rfl (fun c7 => ?_) (fun c7 => ?_)
    · exact c_fw_36 hz hR hM (hJ.congr (fun q q0 q1 => ⟨fun _ => trivial, fun _ => Or.inr (by omega)⟩))
    · omega
  | succ n ih =>
    intro p go rl co by_ y K h0 hn hK0 hK hJ hrl
    have hM1 := hM.1
    have hM2 := hM.2.1
    refine a_iload_n (n := 3) dX1_fewest_2 rfl rfl ?_
    refine a_aload_n (n := 4) dX1_fewest_3 rfl rfl ?_
    refine a_getI (n := 7) dX1_fewest_4 rfl fX1_27 (s10 hz) ?_
    try simp only [up2_eq, nH_eq, Nat.reduceEqDiff, Int.reduceEq, Int.reduceNeg, and_true, true_and, and_false, false_and, and_self, if_true, if_false, ite_true, ite_false, reduceIte, eq_self]
    refine a_icmp_ge (t := 36) (n := 10) dX1_fewest_7 rfl rfl (fun c7 => ?_) (fun c7 => ?_)
    · omega
    · refine a_aload_n (n := 11) dX1_fewest_10 rfl rfl ?_
      refine a_getR (n := 14) dX1_fewest_11 rfl fX1_15 (s10 hz) (r10_1 hR) ?_
      refine a_iload_n (n := 15) dX1_fewest_14 rfl rfl ?_
      refine a_iald (n := 16) dX1_fewest_15 rfl (s11 hz) (by omega) (by omega) ?_
      try simp only [up2_eq, nH_eq, Nat.reduceEqDiff, Int.reduceEq, Int.reduceNeg, and_true, true_and, and_false, false_and, and_self, if_true, if_false, ite_true, ite_false, reduceIte, eq_self]
      refine a_iconst (n := 17) dX1_fewest_16 rfl ⟨by decide, by decide⟩ ?_
      refine a_icmp_ne (t := 30) (n := 20) dX1_fewest_17 rfl rfl (fun c17 => ?_) (fun c17 => ?_)
      · have hgp2 := (hJ.2.2.2 p h0 (by omega)).2
        refine b_iinc (n := 33) dX1_fewest_30 rfl (by decide) rfl rfl ⟨by omega, by omega⟩ ?_
        refine a_goto (t := 2) dX1_fewest_33 rfl ?_
        refine ih (p + 1) go rl co by_ y K (by omega) (by omega) hK0 (by omega) (hJ.congr (fun q q0 q1 => ⟨fun k => k.imp id (fun j => by omega), fun k => ?_⟩)) hrl
        by_cases e : q = p
        · rw [e]; exact (hJ.2.2.2 p h0 (by omega)).1.mp (by omega)
        · exact k.imp id (fun j => by omega)
      · have hgp2 := (hJ.2.2.2 p h0 (by omega)).2
        have hnA : ¬ inP g0 p p := fun k => by have := (hJ.2.2.2 p h0 (by omega)).1.mpr k; omega
        refine a_aload_n (n := 21) dX1_fewest_20 rfl rfl ?_
        refine a_iload_n (n := 22) dX1_fewest_21 rfl rfl ?_
        refine a_callV (M2 := mX1_bringIn) (n := 25) dX1_fewest_22 rfl (c_bringIn (d := d) hz hR hM ⟨h0, by omega⟩ hJ ⟨hK0, by omega⟩ hnA hrl hrm) kX1_bringIn lX1_43 iX1_bringIn eX1_bringIn (by decide) (by omega) (s10 hz) rfl (Nat.le_of_ble_eq_true rfl) (fun q22 z22 hr22 hi22 hl22 h22 => ?_)
        obtain ⟨e122, e222, e322, g2, r2, c2, b2, rfl, h22⟩ := h22
        obtain rfl := e122.symm
        obtain rfl := e222.symm
        obtain rfl := e322.symm
        rcases h22 with ⟨rfl, hno⟩ | ⟨rfl, ⟨y2, hJ2⟩, hrl2⟩
        · show a_wp G _ _ _ _ (vI 0 :: _) _ _ _ _ _
          refine a_if_ne (t := 30) (n := 28) dX1_fewest_25 rfl rfl (fun c25 => ?_) (fun c25 => ?_)
          · omega
          · refine a_iconst (n := 29) dX1_fewest_28 rfl ⟨by decide, by decide⟩ ?_
            refine a_ireturn dX1_fewest_29 rfl ?_
            exact ⟨rfl, rfl, rfl, _, _, _, _, _, rfl, rfl, Or.inl ⟨rfl, hno⟩⟩
        · show a_wp G _ _ _ _ (vI 1 :: _) _ _ _ _ _
          refine a_if_ne (t := 30) (n := 28) dX1_fewest_25 rfl rfl (fun c25 => ?_) (fun c25 => ?_)
          · refine b_iinc (n := 33) dX1_fewest_30 rfl (by decide) rfl rfl ⟨by omega, by omega⟩ ?_
            refine a_goto (t := 2) dX1_fewest_33 rfl ?_
            refine ih (p + 1) _ _ _ _ _ _ (by omega) (by omega) (by omega) (by omega) (hJ2.congr (fun q q0 q1 => ⟨fun k => ?_, fun k => ?_⟩)) hrl2
            · rcases k with k | k
              · exact k.imp id (fun j => by omega)
              · rw [k]; exact Or.inr (by omega)
            · by_cases e : q = p
              · exact Or.inr e
              · exact Or.inl (k.imp id (fun j => by omega))
          · omega
set_option maxRecDepth 100000 in
set_option maxHeartbeats 4000000 in
theorem c_fewest (hz : stZ z) (hR : stR hr) (hM : cMP hi) (hrm : ∀ x, 0 ≤ x → x < hi 10 6 → 0 ≤ rm x ∧ rm x ≤ 40) {g0 : Int → Int} (hJ : mJ (hi 10 5) (hi 10 6) (cSu hi) (cWt hi) rm (inP g0 0) go y 0) (hrl : ∀ x, 0 ≤ x → x < hi 10 6 → rl x = rm x - ld (hi 10 5).toNat go x) : a_ct G mX1_fewest (d + 5) [vR 10] z hr (nH hi go rl co by_) hl (fun r z' hr' hi' hl' => z' = z ∧ hr' = hr ∧ hl' = hl ∧ ∃ v : Int, ∃ go rl co by_ : Int → Int, hi' = nH hi go rl co by_ ∧ r = some (vI v) ∧ mvAns (hi 10 5) (hi 10 6) (cSu hi) (cWt hi) rm (fun _ => True) v) := by
  have hM1 := hM.1
  refine a_ct_of rfl (Nat.le_of_ble_eq_true rfl) ?_
  refine a_iconst (n := 1) dX1_fewest_0 rfl ⟨by decide, by decide⟩ ?_
  refine b_istore_n (n := 2) dX1_fewest_1 rfl (by decide) rfl ?_
  exact c_fw_2 hz hR hM hrm (hi 10 5).toNat 0 go rl co by_ y 0 (by decide) (by omega) (by decide) (by decide) hJ hrl
end C15
