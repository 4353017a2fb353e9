section C16
variable {G : aG} {d : Nat} {z : aZ} {hr : aR} {hi hl : aI}
theorem c_leave0 (hz : stZ z) (hR : stR hr) (hN : gN G) (hM : cMP z hr hi) (hbed : ∀ q, 0 ≤ q → q < hi 10 6 → hi (pC hr q) 13 = -1 ∨ (0 ≤ hi (pC hr q) 13 ∧ hi (pC hr q) 13 < hi 10 7)) (hrm : ∀ x, 0 ≤ x → x < hi 10 7 → 0 ≤ crm hr hi x ∧ crm hr hi x ≤ 40) : a_ct G mX1_leaveWhatSuits (d + 2) [vR 10] z hr hi hl (fun r z' hr' hi' hl' => z' = z ∧ hr' = hr ∧ hl' = hl ∧ r = none ∧ ∃ go rl : Int → Int, hi' = nH hi go rl (hi 13) (hi 14) ∧ lvI hr hi (hi 10 6) go rl) := by
  have := c_leave (G := G) (d := d) (hl := hl) (go := hi 11) (rl := hi 12) (co := hi 13) (by_ := hi 14) hz hR hN hM hbed hrm
  rw [nH_0] at this
  exact this
set_option maxRecDepth 100000 in
set_option maxHeartbeats 4000000 in
theorem c_fewest (hz : stZ z) (hR : stR hr) (hN : gN G) {nP nB : Int} (hM : cMP z hr (up2 (up2 hi 10 6 nP) 10 7 nB)) (hbed : ∀ q, 0 ≤ q → q < (up2 (up2 hi 10 6 nP) 10 7 nB) 10 6 → (up2 (up2 hi 10 6 nP) 10 7 nB) (pC hr q) 13 = -1 ∨ (0 ≤ (up2 (up2 hi 10 6 nP) 10 7 nB) (pC hr q) 13 ∧ (up2 (up2 hi 10 6 nP) 10 7 nB) (pC hr q) 13 < (up2 (up2 hi 10 6 nP) 10 7 nB) 10 7)) (hrm : ∀ x, 0 ≤ x → x < (up2 (up2 hi 10 6 nP) 10 7 nB) 10 7 → 0 ≤ crm hr (up2 (up2 hi 10 6 nP) 10 7 nB) x ∧ crm hr (up2 (up2 hi 10 6 nP) 10 7 nB) x ≤ 40) (hroom : ∀ x, 0 ≤ x → x < (up2 (up2 hi 10 6 nP) 10 7 nB) 10 7 → sm ((up2 (up2 hi 10 6 nP) 10 7 nB) 10 6).toNat (fun q => if (up2 (up2 hi 10 6 nP) 10 7 nB) (pC hr q) 13 = x then 1 else 0) ≤ crm hr (up2 (up2 hi 10 6 nP) 10 7 nB) x) : a_ct G mX1_fewest (d + 5) [vR 10, vI nP, vI nB] z hr hi hl (fun r z' hr' hi' hl' => z' = z ∧ hr' = hr ∧ hl' = hl ∧ ∃ v : Int, ∃ go rl co by_ : Int → Int, hi' = nH (up2 (up2 hi 10 6 nP) 10 7 nB) go rl co by_ ∧ r = some (vI v) ∧ mvAns ((up2 (up2 hi 10 6 nP) 10 7 nB) 10 6) ((up2 (up2 hi 10 6 nP) 10 7 nB) 10 7) (cSu hr (up2 (up2 hi 10 6 nP) 10 7 nB)) (cWt hr (up2 (up2 hi 10 6 nP) 10 7 nB)) (crm hr (up2 (up2 hi 10 6 nP) 10 7 nB)) (cly hr (up2 (up2 hi 10 6 nP) 10 7 nB)) v) := by
  refine a_ct_of rfl (Nat.le_of_ble_eq_true rfl) ?_
  refine a_aload_n (n := 1) dX1_fewest_0 rfl rfl ?_
  refine a_iload_n (n := 2) dX1_fewest_1 rfl rfl ?_
  refine a_putI (n := 5) dX1_fewest_2 rfl fX1_32 rfl (s10 hz) (Or.inl rfl) ?_
  refine a_aload_n (n := 6) dX1_fewest_5 rfl rfl ?_
  refine a_iload_n (n := 7) dX1_fewest_6 rfl rfl ?_
  refine a_putI (n := 10) dX1_fewest_7 rfl fX1_36 rfl (s10 hz) (Or.inl rfl) ?_
  refine a_aload_n (n := 11) dX1_fewest_10 rfl rfl ?_
  refine a_callV (M2 := mX1_leaveWhatSuits) (n := 14) dX1_fewest_11 rfl (c_leave0 (d := d + 2) hz hR hN hM hbed hrm) kX1_leaveWhatSuits lX1_39 iX1_leaveWhatSuits eX1_leaveWhatSuits (by decide) (by omega) (s10 hz) rfl (Nat.le_of_ble_eq_true rfl) (fun q11 z11 hr11 hi11 hl11 h11 => ?_)
  obtain ⟨e111, e211, e311, rfl, go, rl, rfl, hL⟩ := h11
  obtain rfl := e111.symm
  obtain rfl := e211.symm
  obtain rfl := e311.symm
  show a_wp G _ _ _ _ [] _ _ _ _ _
  refine a_iconst (n := 15) dX1_fewest_14 rfl ⟨by decide, by decide⟩ ?_
  refine b_istore_n (n := 16) dX1_fewest_15 rfl (by decide) rfl ?_
  have K := c_fw_16 (G := G) (d := d) (hl := hl) (nB := nB) hz hR hN hM hbed hrm ((up2 (up2 hi 10 6 nP) 10 7 nB) 10 6).toNat 0 go rl ((up2 (up2 hi 10 6 nP) 10 7 nB) 13) ((up2 (up2 hi 10 6 nP) 10 7 nB) 14) (fun _ => 0) 0 (by decide) (by have := hM.1; omega) (by decide) (by decide) (mJ.start hbed hroom hL) hL.2
  rw [show (up2 (up2 hi 10 6 nP) 10 7 nB) 10 6 = nP from rfl] at K
  exact K
set_option maxRecDepth 100000 in
set_option maxHeartbeats 4000000 in
theorem c_moves (hz : stZ z) (hR : stR hr) (hN : gN G) (hM : cMP z hr (up2 (up2 hi 10 6 (hi 0 9)) 10 7 (hi 0 10))) (hbed : ∀ q, 0 ≤ q → q < (up2 (up2 hi 10 6 (hi 0 9)) 10 7 (hi 0 10)) 10 6 → (up2 (up2 hi 10 6 (hi 0 9)) 10 7 (hi 0 10)) (pC hr q) 13 = -1 ∨ (0 ≤ (up2 (up2 hi 10 6 (hi 0 9)) 10 7 (hi 0 10)) (pC hr q) 13 ∧ (up2 (up2 hi 10 6 (hi 0 9)) 10 7 (hi 0 10)) (pC hr q) 13 < (up2 (up2 hi 10 6 (hi 0 9)) 10 7 (hi 0 10)) 10 7)) (hrm : ∀ x, 0 ≤ x → x < (up2 (up2 hi 10 6 (hi 0 9)) 10 7 (hi 0 10)) 10 7 → 0 ≤ crm hr (up2 (up2 hi 10 6 (hi 0 9)) 10 7 (hi 0 10)) x ∧ crm hr (up2 (up2 hi 10 6 (hi 0 9)) 10 7 (hi 0 10)) x ≤ 40) (hroom : ∀ x, 0 ≤ x → x < (up2 (up2 hi 10 6 (hi 0 9)) 10 7 (hi 0 10)) 10 7 → sm ((up2 (up2 hi 10 6 (hi 0 9)) 10 7 (hi 0 10)) 10 6).toNat (fun q => if (up2 (up2 hi 10 6 (hi 0 9)) 10 7 (hi 0 10)) (pC hr q) 13 = x then 1 else 0) ≤ crm hr (up2 (up2 hi 10 6 (hi 0 9)) 10 7 (hi 0 10)) x) : a_ct G mX9_moves (d + 6) [vR 0] z hr hi hl (fun r z' hr' hi' hl' => z' = z ∧ hr' = hr ∧ hl' = hl ∧ ∃ v : Int, ∃ go rl co by_ : Int → Int, hi' = nH (up2 (up2 hi 10 6 (hi 0 9)) 10 7 (hi 0 10)) go rl co by_ ∧ r = some (vI v) ∧ mvAns ((up2 (up2 hi 10 6 (hi 0 9)) 10 7 (hi 0 10)) 10 6) ((up2 (up2 hi 10 6 (hi 0 9)) 10 7 (hi 0 10)) 10 7) (cSu hr (up2 (up2 hi 10 6 (hi 0 9)) 10 7 (hi 0 10))) (cWt hr (up2 (up2 hi 10 6 (hi 0 9)) 10 7 (hi 0 10))) (crm hr (up2 (up2 hi 10 6 (hi 0 9)) 10 7 (hi 0 10))) (cly hr (up2 (up2 hi 10 6 (hi 0 9)) 10 7 (hi 0 10))) v) := by
  refine a_ct_of rfl (Nat.le_of_ble_eq_true rfl) ?_
  refine a_aload_n (n := 1) dX9_moves_0 rfl rfl ?_
  refine a_getR (n := 4) dX9_moves_1 rfl fX9_33 (s0 hz) (r0_3 hR) ?_
  refine a_aload_n (n := 5) dX9_moves_4 rfl rfl ?_
  refine a_getI (n := 8) dX9_moves_5 rfl fX9_81 (s0 hz) ?_
  refine a_aload_n (n := 9) dX9_moves_8 rfl rfl ?_
  refine a_getI (n := 12) dX9_moves_9 rfl fX9_133 (s0 hz) ?_
  refine a_callV (M2 := mX1_fewest) (n := 15) dX9_moves_12 rfl (c_fewest (d := d) hz hR hN hM hbed hrm hroom) kX1_fewest lX9_173 iX1_fewest eX1_fewest (by decide) (by omega) (s10 hz) rfl (Nat.le_of_ble_eq_true rfl) (fun q12 z12 hr12 hi12 hl12 h12 => ?_)
  obtain ⟨e112, e212, e312, v, go, rl, co, by_, rfl, rfl, hA⟩ := h12
  obtain rfl := e112.symm
  obtain rfl := e212.symm
  obtain rfl := e312.symm
  show a_wp G _ _ _ _ (vI v :: _) _ _ _ _ _
  refine a_ireturn dX9_moves_15 rfl ?_
  exact ⟨rfl, rfl, rfl, v, go, rl, co, by_, rfl, rfl, hA⟩
end C16
