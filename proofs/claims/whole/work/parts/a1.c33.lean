section C33
variable {G : aG} {d : Nat} {z : aZ} {hr : aR} {hi hl : aI}
/-- what the reader begins a TEXT with -/
def rd0 (c : Nat) (h : aI) : aI := up2 (up2 (up2 (up2 (up2 h c 6 0) c 7 0) 17 4 0) 17 2 0) 17 3 (h 19 0)
/-- what scan leaves -/
def scQ (h₀ : aI) (H : aI) : Prop := ∃ (nt : Int) (h₂ : aI), 0 ≤ nt ∧ nt ≤ 600 ∧ Cs (h₀ 16) (h₀ 15 1) (up2 h₀ 18 3 0) nt h₂ ∧ tS (h₀ 16) (h₀ 15 1) nt.toNat = h₀ 15 1 ∧ (∀ i : Nat, i < nt.toNat → 0 ≤ tS (h₀ 16) (h₀ 15 1) i ∧ tS (h₀ 16) (h₀ 15 1) i < h₀ 15 1) ∧ H = cAT h₂ 19 (h₀ 15 1) 0
set_option maxRecDepth 100000 in
set_option maxHeartbeats 4000000 in
theorem c_readText22 (hz : stZ z) (hR : stR hr) (hN : gN G) (hG : gS G) (hdr : hr 17 1 = some 22) (h15 : 0 ≤ hi 15 1 ∧ hi 15 1 ≤ 600) {P : aI → Prop} (Hx : ∀ H, scQ hi H → ∃ k, pTl 22 16 (rd0 22 H) = some k ∧ P k) : a_ct G mX4_readText (d + 27) [vR 17, vR 15] z hr hi hl (fun r z' hr' hi' hl' => z' = z ∧ hr' = hr ∧ hl' = hl ∧ ∃ k, P k ∧ r = some (vI (k 17 4)) ∧ hi' = k) := by
  refine a_ct_of rfl (Nat.le_of_ble_eq_true rfl) ?_
  refine a_aload_n (n := 1) dX4_readText_0 rfl rfl ?_
  refine a_getR (n := 4) dX4_readText_1 rfl fX4_12 (s17 hz) (r17_0 hR) ?_
  refine a_aload_n (n := 5) dX4_readText_4 rfl rfl ?_
  refine a_callV (M2 := mX8_scan) (n := 8) dX4_readText_5 rfl (c_scan (d := d + 19) hz hR hN hG h15) kX8_scan lX4_25 iX8_scan eX8_scan (by decide) (by omega) (s18 hz) rfl (Nat.le_of_ble_eq_true rfl) (fun q5 z5 hr5 hi5 hl5 h5 => ?_)
  obtain ⟨e15, e25, e35, rfl, hs5⟩ := h5
  obtain rfl := e15.symm
  obtain rfl := e25.symm
  obtain rfl := e35.symm
  show a_wp G _ _ _ _ [] _ _ _ _ _
  obtain ⟨kf, hrun, hPk⟩ := Hx hi5 hs5
  refine a_aload_n (n := 9) dX4_readText_8 rfl rfl ?_
  refine a_getO (n := 12) dX4_readText_9 rfl fX4_21 (s17 hz) ?_
  rw [hdr]
  refine a_callV (M2 := mX5_makeEmpty) (n := 15) dX4_readText_12 rfl (c_empty22 (d := d + 26) hz hR) kX5_makeEmpty lX4_29 iX5_makeEmpty eX5_makeEmpty (by decide) (by omega) (s22 hz) rfl (Nat.le_of_ble_eq_true rfl) (fun q12 z12 hr12 hi12 hl12 h12 => ?_)
  obtain ⟨e112, e212, e312, rfl, rfl⟩ := h12
  obtain rfl := e112.symm
  obtain rfl := e212.symm
  obtain rfl := e312.symm
  show a_wp G _ _ _ _ [] _ _ _ _ _
  refine a_aload_n (n := 16) dX4_readText_15 rfl rfl ?_
  refine a_iconst (n := 17) dX4_readText_16 rfl ⟨by decide, by decide⟩ ?_
  refine a_putI (n := 20) dX4_readText_17 rfl fX4_32 rfl (s17 hz) (Or.inl rfl) ?_
  refine a_aload_n (n := 21) dX4_readText_20 rfl rfl ?_
  refine a_iconst (n := 22) dX4_readText_21 rfl ⟨by decide, by decide⟩ ?_
  refine a_putI (n := 25) dX4_readText_22 rfl fX4_36 rfl (s17 hz) (Or.inl rfl) ?_
  refine a_aload_n (n := 26) dX4_readText_25 rfl rfl ?_
  refine a_aload_n (n := 27) dX4_readText_26 rfl rfl ?_
  refine a_getR (n := 30) dX4_readText_27 rfl fX4_12 (s17 hz) (r17_0 hR) ?_
  refine a_getR (n := 33) dX4_readText_30 rfl fX4_39 (s18 hz) (r18_0 hR) ?_
  refine a_aload_n (n := 34) dX4_readText_33 rfl rfl ?_
  refine a_getI (n := 37) dX4_readText_34 rfl fX4_36 (s17 hz) ?_
  have e2₀ : (up2 (up2 (up2 (up2 hi5 22 6 0) 22 7 0) 17 4 0) 17 2 0) 17 2 = 0 := up2_s
  rw [show (0 : Int) = 0 from rfl] at e2₀
  refine a_iald (n := 38) dX4_readText_37 rfl (s19 hz) (by rw [e2₀]; decide) (by rw [e2₀]; decide) ?_
  refine a_putI (n := 41) dX4_readText_38 rfl fX4_43 rfl (s17 hz) (Or.inl rfl) ?_
  refine a_iconst (n := 42) dX4_readText_41 rfl ⟨by decide, by decide⟩ ?_
  refine b_istore_n (n := 43) dX4_readText_42 rfl (by decide) rfl ?_
  have e19 : (up2 (up2 (up2 (up2 hi5 22 6 0) 22 7 0) 17 4 0) 17 2 0) 19 ((up2 (up2 (up2 (up2 hi5 22 6 0) 22 7 0) 17 4 0) 17 2 0) 17 2) = hi5 19 0 := by
    rw [up2_s, up2_if (by omega), up2_if (by omega), up2_if (by omega), up2_if (by omega)]
  rw [e19]
  exact a_wp.mono (c_rt22_43 (d := d) hz hR hdr 16 0 _ (by decide) (by decide) hrun) (fun r z' hr' hi' hl' q => ⟨q.1, q.2.1, q.2.2.1, kf, hPk, q.2.2.2.1, q.2.2.2.2⟩)
set_option maxRecDepth 100000 in
set_option maxHeartbeats 4000000 in
theorem c_readText31 (hz : stZ z) (hR : stR hr) (hN : gN G) (hG : gS G) (hdr : hr 17 1 = some 31) (h15 : 0 ≤ hi 15 1 ∧ hi 15 1 ≤ 600) {P : aI → Prop} (Hx : ∀ H, scQ hi H → ∃ k, pTl 31 16 (rd0 31 H) = some k ∧ P k) : a_ct G mX4_readText (d + 27) [vR 17, vR 15] z hr hi hl (fun r z' hr' hi' hl' => z' = z ∧ hr' = hr ∧ hl' = hl ∧ ∃ k, P k ∧ r = some (vI (k 17 4)) ∧ hi' = k) := by
  refine a_ct_of rfl (Nat.le_of_ble_eq_true rfl) ?_
  refine a_aload_n (n := 1) dX4_readText_0 rfl rfl ?_
  refine a_getR (n := 4) dX4_readText_1 rfl fX4_12 (s17 hz) (r17_0 hR) ?_
  refine a_aload_n (n := 5) dX4_readText_4 rfl rfl ?_
  refine a_callV (M2 := mX8_scan) (n := 8) dX4_readText_5 rfl (c_scan (d := d + 19) hz hR hN hG h15) kX8_scan lX4_25 iX8_scan eX8_scan (by decide) (by omega) (s18 hz) rfl (Nat.le_of_ble_eq_true rfl) (fun q5 z5 hr5 hi5 hl5 h5 => ?_)
  obtain ⟨e15, e25, e35, rfl, hs5⟩ := h5
  obtain rfl := e15.symm
  obtain rfl := e25.symm
  obtain rfl := e35.symm
  show a_wp G _ _ _ _ [] _ _ _ _ _
  obtain ⟨kf, hrun, hPk⟩ := Hx hi5 hs5
  refine a_aload_n (n := 9) dX4_readText_8 rfl rfl ?_
  refine a_getO (n := 12) dX4_readText_9 rfl fX4_21 (s17 hz) ?_
  rw [hdr]
  refine a_callV (M2 := mX5_makeEmpty) (n := 15) dX4_readText_12 rfl (c_empty31 (d := d + 26) hz hR) kX5_makeEmpty lX4_29 iX5_makeEmpty eX5_makeEmpty (by decide) (by omega) (s31 hz) rfl (Nat.le_of_ble_eq_true rfl) (fun q12 z12 hr12 hi12 hl12 h12 => ?_)
  obtain ⟨e112, e212, e312, rfl, rfl⟩ := h12
  obtain rfl := e112.symm
  obtain rfl := e212.symm
  obtain rfl := e312.symm
  show a_wp G _ _ _ _ [] _ _ _ _ _
  refine a_aload_n (n := 16) dX4_readText_15 rfl rfl ?_
  refine a_iconst (n := 17) dX4_readText_16 rfl ⟨by decide, by decide⟩ ?_
  refine a_putI (n := 20) dX4_readText_17 rfl fX4_32 rfl (s17 hz) (Or.inl rfl) ?_
  refine a_aload_n (n := 21) dX4_readText_20 rfl rfl ?_
  refine a_iconst (n := 22) dX4_readText_21 rfl ⟨by decide, by decide⟩ ?_
  refine a_putI (n := 25) dX4_readText_22 rfl fX4_36 rfl (s17 hz) (Or.inl rfl) ?_
  refine a_aload_n (n := 26) dX4_readText_25 rfl rfl ?_
  refine a_aload_n (n := 27) dX4_readText_26 rfl rfl ?_
  refine a_getR (n := 30) dX4_readText_27 rfl fX4_12 (s17 hz) (r17_0 hR) ?_
  refine a_getR (n := 33) dX4_readText_30 rfl fX4_39 (s18 hz) (r18_0 hR) ?_
  refine a_aload_n (n := 34) dX4_readText_33 rfl rfl ?_
  refine a_getI (n := 37) dX4_readText_34 rfl fX4_36 (s17 hz) ?_
  have e2₀ : (up2 (up2 (up2 (up2 hi5 31 6 0) 31 7 0) 17 4 0) 17 2 0) 17 2 = 0 := up2_s
  rw [show (0 : Int) = 0 from rfl] at e2₀
  refine a_iald (n := 38) dX4_readText_37 rfl (s19 hz) (by rw [e2₀]; decide) (by rw [e2₀]; decide) ?_
  refine a_putI (n := 41) dX4_readText_38 rfl fX4_43 rfl (s17 hz) (Or.inl rfl) ?_
  refine a_iconst (n := 42) dX4_readText_41 rfl ⟨by decide, by decide⟩ ?_
  refine b_istore_n (n := 43) dX4_readText_42 rfl (by decide) rfl ?_
  have e19 : (up2 (up2 (up2 (up2 hi5 31 6 0) 31 7 0) 17 4 0) 17 2 0) 19 ((up2 (up2 (up2 (up2 hi5 31 6 0) 31 7 0) 17 4 0) 17 2 0) 17 2) = hi5 19 0 := by
    rw [up2_s, up2_if (by omega), up2_if (by omega), up2_if (by omega), up2_if (by omega)]
  rw [e19]
  exact a_wp.mono (c_rt31_43 (d := d) hz hR hdr 16 0 _ (by decide) (by decide) hrun) (fun r z' hr' hi' hl' q => ⟨q.1, q.2.1, q.2.2.1, kf, hPk, q.2.2.2.1, q.2.2.2.2⟩)
set_option maxRecDepth 100000 in
set_option maxHeartbeats 4000000 in
theorem c_text22 (hz : stZ z) (hR : stR hr) (hN : gN G) (hG : gS G) (hdr : hr 17 1 = some 22) (hru : hr 0 8 = some 31) (h15 : 0 ≤ hi 15 1 ∧ hi 15 1 ≤ 600) {P : aI → Prop} (Hx : ∀ H, scQ hi H → ∃ k, pTl 22 16 (rd0 22 H) = some k ∧ P k) : a_ct G mX9_text (d + 28) [vR 0] z hr hi hl (fun r z' hr' hi' hl' => z' = z ∧ hl' = hl ∧ ∃ k, P k ∧ r = some (vI (k 17 4)) ∧ ((k 17 4 = 0 ∧ hr' = up2 (up2 hr 17 1 (some 31)) 0 8 (some 22) ∧ hi' = up2 k 15 1 0) ∨ (¬ k 17 4 = 0 ∧ hr' = hr ∧ hi' = up2 k 15 1 0))) := by
  refine a_ct_of rfl (Nat.le_of_ble_eq_true rfl) ?_
  refine a_aload_n (n := 1) dX9_text_0 rfl rfl ?_
  refine a_getR (n := 4) dX9_text_1 rfl fX9_45 (s0 hz) (r0_5 hR) ?_
  refine a_aload_n (n := 5) dX9_text_4 rfl rfl ?_
  refine a_getR (n := 8) dX9_text_5 rfl fX9_38 (s0 hz) (r0_4 hR) ?_
  refine a_callV (M2 := mX4_readText) (n := 11) dX9_text_8 rfl (c_readText22 (d := d) hz hR hN hG hdr h15 Hx) kX4_readText lX9_196 iX4_readText eX4_readText (by decide) (by omega) (s17 hz) rfl (Nat.le_of_ble_eq_true rfl) (fun q8 z8 hr8 hi8 hl8 h8 => ?_)
  obtain ⟨e18, e28, e38, kf, hPk, rfl, rfl⟩ := h8
  obtain rfl := e18.symm
  obtain rfl := e28.symm
  obtain rfl := e38.symm
  show a_wp G _ _ _ _ (vI _ :: _) _ _ _ _ _
  refine b_istore_n (n := 12) dX9_text_11 rfl (by decide) rfl ?_
  refine a_aload_n (n := 13) dX9_text_12 rfl rfl ?_
  refine a_getR (n := 16) dX9_text_13 rfl fX9_38 (s0 hz) (r0_4 hR) ?_
  refine a_iconst (n := 17) dX9_text_16 rfl ⟨by decide, by decide⟩ ?_
  refine a_putI (n := 20) dX9_text_17 rfl fX9_193 rfl (s15 hz) (Or.inl rfl) ?_
  refine a_iload_n (n := 21) dX9_text_20 rfl rfl ?_
  refine a_if_ne (t := 39) (n := 24) dX9_text_21 rfl rfl (fun c21 => ?_) (fun c21 => ?_)
  · refine a_iload_n (n := 40) dX9_text_39 rfl rfl ?_
    refine a_ireturn dX9_text_40 rfl ?_
    refine ⟨rfl, rfl, _, hPk, rfl, ?_⟩
    exact Or.inr ⟨c21, rfl, rfl⟩
  · refine a_aload_n (n := 25) dX9_text_24 rfl rfl ?_
    refine a_aload_n (n := 26) dX9_text_25 rfl rfl ?_
    refine a_getR (n := 29) dX9_text_26 rfl fX9_45 (s0 hz) (r0_5 hR) ?_
    refine a_aload_n (n := 30) dX9_text_29 rfl rfl ?_
    refine a_getO (n := 33) dX9_text_30 rfl fX9_63 (s0 hz) ?_
    rw [hru]
    refine a_callV (M2 := mX4_exchangeDraft) (n := 36) dX9_text_33 rfl (c_exch22 (d := d + 27) hz hR hdr) kX4_exchangeDraft lX9_200 iX4_exchangeDraft eX4_exchangeDraft (by decide) (by omega) (s17 hz) rfl (Nat.le_of_ble_eq_true rfl) (fun q33 z33 hr33 hi33 hl33 h33 => ?_)
    obtain ⟨e133, e233, e333, rfl, rfl⟩ := h33
    obtain rfl := e133.symm
    obtain rfl := e233.symm
    obtain rfl := e333.symm
    show a_wp G _ _ _ _ (vR 22 :: _) _ _ _ _ _
    refine a_putO (n := 39) dX9_text_36 rfl fX9_63 (s0 hz) (Or.inl rfl) ?_
    refine a_iload_n (n := 40) dX9_text_39 rfl rfl ?_
    refine a_ireturn dX9_text_40 rfl ?_
    refine ⟨rfl, rfl, _, hPk, rfl, ?_⟩
    exact Or.inl ⟨by omega, rfl, rfl⟩
set_option maxRecDepth 100000 in
set_option maxHeartbeats 4000000 in
theorem c_text31 (hz : stZ z) (hR : stR hr) (hN : gN G) (hG : gS G) (hdr : hr 17 1 = some 31) (hru : hr 0 8 = some 22) (h15 : 0 ≤ hi 15 1 ∧ hi 15 1 ≤ 600) {P : aI → Prop} (Hx : ∀ H, scQ hi H → ∃ k, pTl 31 16 (rd0 31 H) = some k ∧ P k) : a_ct G mX9_text (d + 28) [vR 0] z hr hi hl (fun r z' hr' hi' hl' => z' = z ∧ hl' = hl ∧ ∃ k, P k ∧ r = some (vI (k 17 4)) ∧ ((k 17 4 = 0 ∧ hr' = up2 (up2 hr 17 1 (some 22)) 0 8 (some 31) ∧ hi' = up2 k 15 1 0) ∨ (¬ k 17 4 = 0 ∧ hr' = hr ∧ hi' = up2 k 15 1 0))) := by
  refine a_ct_of rfl (Nat.le_of_ble_eq_true rfl) ?_
  refine a_aload_n (n := 1) dX9_text_0 rfl rfl ?_
  refine a_getR (n := 4) dX9_text_1 rfl fX9_45 (s0 hz) (r0_5 hR) ?_
  refine a_aload_n (n := 5) dX9_text_4 rfl rfl ?_
  refine a_getR (n := 8) dX9_text_5 rfl fX9_38 (s0 hz) (r0_4 hR) ?_
  refine a_callV (M2 := mX4_readText) (n := 11) dX9_text_8 rfl (c_readText31 (d := d) hz hR hN hG hdr h15 Hx) kX4_readText lX9_196 iX4_readText eX4_readText (by decide) (by omega) (s17 hz) rfl (Nat.le_of_ble_eq_true rfl) (fun q8 z8 hr8 hi8 hl8 h8 => ?_)
  obtain ⟨e18, e28, e38, kf, hPk, rfl, rfl⟩ := h8
  obtain rfl := e18.symm
  obtain rfl := e28.symm
  obtain rfl := e38.symm
  show a_wp G _ _ _ _ (vI _ :: _) _ _ _ _ _
  refine b_istore_n (n := 12) dX9_text_11 rfl (by decide) rfl ?_
  refine a_aload_n (n := 13) dX9_text_12 rfl rfl ?_
  refine a_getR (n := 16) dX9_text_13 rfl fX9_38 (s0 hz) (r0_4 hR) ?_
  refine a_iconst (n := 17) dX9_text_16 rfl ⟨by decide, by decide⟩ ?_
  refine a_putI (n := 20) dX9_text_17 rfl fX9_193 rfl (s15 hz) (Or.inl rfl) ?_
  refine a_iload_n (n := 21) dX9_text_20 rfl rfl ?_
  refine a_if_ne (t := 39) (n := 24) dX9_text_21 rfl rfl (fun c21 => ?_) (fun c21 => ?_)
  · refine a_iload_n (n := 40) dX9_text_39 rfl rfl ?_
    refine a_ireturn dX9_text_40 rfl ?_
    refine ⟨rfl, rfl, _, hPk, rfl, ?_⟩
    exact Or.inr ⟨c21, rfl, rfl⟩
  · refine a_aload_n (n := 25) dX9_text_24 rfl rfl ?_
    refine a_aload_n (n := 26) dX9_text_25 rfl rfl ?_
    refine a_getR (n := 29) dX9_text_26 rfl fX9_45 (s0 hz) (r0_5 hR) ?_
    refine a_aload_n (n := 30) dX9_text_29 rfl rfl ?_
    refine a_getO (n := 33) dX9_text_30 rfl fX9_63 (s0 hz) ?_
    rw [hru]
    refine a_callV (M2 := mX4_exchangeDraft) (n := 36) dX9_text_33 rfl (c_exch31 (d := d + 27) hz hR hdr) kX4_exchangeDraft lX9_200 iX4_exchangeDraft eX4_exchangeDraft (by decide) (by omega) (s17 hz) rfl (Nat.le_of_ble_eq_true rfl) (fun q33 z33 hr33 hi33 hl33 h33 => ?_)
    obtain ⟨e133, e233, e333, rfl, rfl⟩ := h33
    obtain rfl := e133.symm
    obtain rfl := e233.symm
    obtain rfl := e333.symm
    show a_wp G _ _ _ _ (vR 31 :: _) _ _ _ _ _
    refine a_putO (n := 39) dX9_text_36 rfl fX9_63 (s0 hz) (Or.inl rfl) ?_
    refine a_iload_n (n := 40) dX9_text_39 rfl rfl ?_
    refine a_ireturn dX9_text_40 rfl ?_
    refine ⟨rfl, rfl, _, hPk, rfl, ?_⟩
    exact Or.inl ⟨by omega, rfl, rfl⟩
end C33
