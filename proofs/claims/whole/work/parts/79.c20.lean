section C20
variable {G : aG} {d : Nat} {z : aZ} {hr : aR} {hi hl : aI}
/-- a check of one PLANT, and whether it dies *) -/
def cChk (h : aI) (a : Nat) : aI := if 0 < h a 16 then up2 (up2 (up2 (up2 h a 14 0) a 8 (h a 16)) a 16 0) a 15 0 else up2 (up2 h a 14 (h a 14 + 1)) a 15 (if 2 ≤ h a 14 + 1 then 1 else 0)
def cDie (h : aI) (a : Nat) : Int := if 0 < h a 16 then 0 else if 2 ≤ h a 14 + 1 ∧ h a 15 = 0 then 1 else 0
def cClo (hr : aR) (b : Int) : Nat → aI → aI × Int
  | 0, hi => (hi, 0)
  | n + 1, hi => if (cClo hr b n hi).1 (pC hr n) 13 = b then (cChk (cClo hr b n hi).1 (pC hr n), (cClo hr b n hi).2 + cDie (cClo hr b n hi).1 (pC hr n)) else cClo hr b n hi
theorem cChk_n {h : aI} {a x : Nat} (hx : x ≠ a) : cChk h a x = h x := by
  unfold cChk
  split
  · rw [up2_f hx, up2_f hx, up2_f hx, up2_f hx]
  · rw [up2_f hx, up2_f hx]
theorem c_dies2 {a : Nat} (ha : a_is z a 3 17) (hm : 0 ≤ hi a 14 ∧ hi a 14 ≤ 1000000) (hd : hi a 15 = 0 ∨ hi a 15 = 1) : a_ct G mX3_diesByCheck (d + 0) [vR a] z hr hi hl (fun r z' hr' hi' hl' => z' = z ∧ hr' = hr ∧ hl' = hl ∧ r = some (vI (cDie hi a)) ∧ hi' = cChk hi a) := by
  refine (c_dies ha hm hd).mono fun r z' hr' hi' hl' ⟨q1, q2, q3, q4⟩ => ⟨q1, q2, q3, ?_⟩
  unfold cDie cChk
  rcases q4 with ⟨k, k1, k2⟩ | ⟨k, k1, k2⟩
  · rw [if_pos k, if_pos k]; exact ⟨k1, k2⟩
  · rw [if_neg k, if_neg k]; exact ⟨k1, k2⟩
theorem cDie_01 {h : aI} {a : Nat} : cDie h a = 0 ∨ cDie h a = 1 := by
  unfold cDie
  split
  · exact Or.inl rfl
  · split
    · exact Or.inr rfl
    · exact Or.inl rfl
set_option maxRecDepth 100000 in
set_option maxHeartbeats 4000000 in
theorem c_cl_14 (hz : stZ z) (hR : stR hr) (hn : 0 ≤ hi 0 9 ∧ hi 0 9 ≤ 40) (hW : cP z hr hi) (h80 : ∀ q, 0 ≤ q → q < hi 0 9 → 81 ≤ pC hr q) (hinj : ∀ p q, 0 ≤ p → p < hi 0 9 → 0 ≤ q → q < hi 0 9 → ¬ p = q → pC hr p ≠ pC hr q) (hms : ∀ q, 0 ≤ q → q < hi 0 9 → (0 ≤ hi (pC hr q) 14 ∧ hi (pC hr q) 14 ≤ 1000000) ∧ (hi (pC hr q) 15 = 0 ∨ hi (pC hr q) 15 = 1)) {b : Int} (n : Nat) : ∀ (k : Int) (h : aI) (dd : Int), 0 ≤ k → k + n = hi 0 9 → ((h 0 9 = hi 0 9) ∧ (∀ q, k ≤ q → q < hi 0 9 → h (pC hr q) = hi (pC hr q)) ∧ cClo hr b k.toNat hi = (h, dd) ∧ (0 ≤ dd ∧ dd ≤ k)) → a_wp G mX9_close (d + 1) 14 [some (vR 0), some (vI b), some (vI dd), some (vI k)] [] z hr h hl (fun r z' hr' hi' hl' => z' = z ∧ hr' = hr ∧ hl' = hl ∧ r = some (vI (cClo hr b (hi 0 9).toNat hi).2) ∧ hi' = (cClo hr b (hi 0 9).toNat hi).1) := by
  induction n with
  | zero =>
    intro k h dd h0 hk hI
    obtain ⟨i1, i2, i3, i4⟩ := hI
    refine a_iload_n (n := 15) dX9_close_14 rfl rfl ?_
    refine a_aload_n (n := 16) dX9_close_15 rfl rfl ?_
    refine a_getI (n := 19) dX9_close_16 rfl fX9_79 (s0 hz) ?_
    refine a_icmp_ge (t := 56) (n := 22) dX9_close_19 rfl rfl (fun c19 => ?_) (fun c19 => ?_)
    · refine a_iload_n (n := 57) dX9_close_56 rfl rfl ?_
      refine a_ireturn dX9_close_57 rfl ?_
      obtain rfl : k = hi 0 9 := by omega
      exact ⟨rfl, rfl, rfl, by rw [i3], by rw [i3]⟩
    · omega
  | succ n ih =>
    intro k h dd h0 hk hI
    obtain ⟨i1, i2, i3, i4⟩ := hI
    refine a_iload_n (n := 15) dX9_close_14 rfl rfl ?_
    refine a_aload_n (n := 16) dX9_close_15 rfl rfl ?_
    refine a_getI (n := 19) dX9_close_16 rfl fX9_79 (s0 hz) ?_
    refine a_icmp_ge (t := 56) (n := 22) dX9_close_19 rfl rfl (fun c19 => ?_) (fun c19 => ?_)
    · omega
    · refine a_aload_n (n := 23) dX9_close_22 rfl rfl ?_
      refine a_getR (n := 26) dX9_close_23 rfl fX9_11 (s0 hz) (r0_0 hR) ?_
      refine a_iload_n (n := 27) dX9_close_26 rfl rfl ?_
      refine a_aald (n := 28) dX9_close_27 rfl (s1 hz) (by decide) (by omega) (by omega) ?_
      obtain ⟨f1, f2, f3, f4⟩ := hW.at_ (p := k) (by omega) (by omega)
      rw [f1]
      have hmk := hms k (by omega) (by omega)
      have h80k := h80 k (by omega) (by omega)
      refine a_getI (n := 31) dX9_close_28 rfl fX9_165 f2 ?_
      refine a_iload_n (n := 32) dX9_close_31 rfl rfl ?_
      refine a_icmp_ne (t := 50) (n := 35) dX9_close_32 rfl rfl (fun c32 => ?_) (fun c32 => ?_)
      · refine b_iinc (n := 53) dX9_close_50 rfl (by decide) rfl rfl ⟨by omega, by omega⟩ ?_
        refine a_goto (t := 14) dX9_close_53 rfl ?_
        have e1 : cClo hr b (k.toNat + 1) hi = if (cClo hr b k.toNat hi).1 (pC hr (k.toNat : Int)) 13 = b then (cChk (cClo hr b k.toNat hi).1 (pC hr (k.toNat : Int)), (cClo hr b k.toNat hi).2 + cDie (cClo hr b k.toNat hi).1 (pC hr (k.toNat : Int))) else cClo hr b k.toNat hi := rfl
        rw [show (k.toNat : Int) = k by omega, i3] at e1
        rw [if_neg c32] at e1
        exact ih (k + 1) h dd (by omega) (by omega) ⟨i1, fun q q0 q1 => i2 q (by omega) q1, by rw [show (k + 1).toNat = k.toNat + 1 by omega]; exact e1, by omega⟩
      · refine a_aload_n (n := 36) dX9_close_35 rfl rfl ?_
        refine a_getR (n := 39) dX9_close_36 rfl fX9_11 (s0 hz) (r0_0 hR) ?_
        refine a_iload_n (n := 40) dX9_close_39 rfl rfl ?_
        refine a_aald (n := 41) dX9_close_40 rfl (s1 hz) (by decide) (by omega) (by omega) ?_
        obtain ⟨f1b, f2b, f3b, f4b⟩ := hW.at_ (p := k) (by omega) (by omega)
        rw [f1b]
        refine a_callV (M2 := mX3_diesByCheck) (n := 44) dX9_close_41 rfl (c_dies2 (d := d) f2b (by rw [i2 k (Int.le_refl k) (by omega)]; exact hmk.1) (by rw [i2 k (Int.le_refl k) (by omega)]; exact hmk.2)) kX3_diesByCheck lX9_225 iX3_diesByCheck eX3_diesByCheck (by decide) (by omega) f2b rfl (Nat.le_of_ble_eq_true rfl) (fun q41 z41 hr41 hi41 hl41 h41 => ?_)
        obtain ⟨e141, e241, e341, rfl, rfl⟩ := h41
        obtain rfl := e141.symm
        obtain rfl := e241.symm
        obtain rfl := e341.symm
        have hd01 := cDie_01 (h := h) (a := pC hr k)
        show a_wp G _ _ _ _ (vI (cDie h (pC hr k)) :: _) _ _ _ _ _
        refine a_if_eq (t := 50) (n := 47) dX9_close_44 rfl rfl (fun c44 => ?_) (fun c44 => ?_)
        · refine b_iinc (n := 53) dX9_close_50 rfl (by decide) rfl rfl ⟨by omega, by omega⟩ ?_
          refine a_goto (t := 14) dX9_close_53 rfl ?_
          have e1 : cClo hr b (k.toNat + 1) hi = if (cClo hr b k.toNat hi).1 (pC hr (k.toNat : Int)) 13 = b then (cChk (cClo hr b k.toNat hi).1 (pC hr (k.toNat : Int)), (cClo hr b k.toNat hi).2 + cDie (cClo hr b k.toNat hi).1 (pC hr (k.toNat : Int))) else cClo hr b k.toNat hi := rfl
          rw [show (k.toNat : Int) = k by omega, i3] at e1
          rw [if_pos c32] at e1
          exact ih (k + 1) _ dd (by omega) (by omega) ⟨by rw [cChk_n (by omega)]; exact i1, fun q q0 q1 => by rw [cChk_n (hinj q k (by omega) q1 h0 (by omega) (by omega))]; exact i2 q (by omega) q1, by rw [show (k + 1).toNat = k.toNat + 1 by omega, e1, show cDie h (pC hr k) = 0 by omega]; rw [Int.add_zero], by omega⟩
        · refine b_iinc (n := 50) dX9_close_47 rfl (by decide) rfl rfl ⟨by omega, by omega⟩ ?_
          refine b_iinc (n := 53) dX9_close_50 rfl (by decide) rfl rfl ⟨by omega, by omega⟩ ?_
          refine a_goto (t := 14) dX9_close_53 rfl ?_
          have e1 : cClo hr b (k.toNat + 1) hi = if (cClo hr b k.toNat hi).1 (pC hr (k.toNat : Int)) 13 = b then (cChk (cClo hr b k.toNat hi).1 (pC hr (k.toNat : Int)), (cClo hr b k.toNat hi).2 + cDie (cClo hr b k.toNat hi).1 (pC hr (k.toNat : Int))) else cClo hr b k.toNat hi := rfl
          rw [show (k.toNat : Int) = k by omega, i3] at e1
          rw [if_pos c32] at e1
          exact ih (k + 1) _ (dd + 1) (by omega) (by omega) ⟨by rw [cChk_n (by omega)]; exact i1, fun q q0 q1 => by rw [cChk_n (hinj q k (by omega) q1 h0 (by omega) (by omega))]; exact i2 q (by omega) q1, by rw [show (k + 1).toNat = k.toNat + 1 by omega, e1, show cDie h (pC hr k) = 1 by omega], by omega⟩
set_option maxRecDepth 100000 in
set_option maxHeartbeats 4000000 in
theorem c_close (hz : stZ z) (hR : stR hr) (hn : 0 ≤ hi 0 9 ∧ hi 0 9 ≤ 40) (hW : cP z hr hi) (h80 : ∀ q, 0 ≤ q → q < hi 0 9 → 81 ≤ pC hr q) (hinj : ∀ p q, 0 ≤ p → p < hi 0 9 → 0 ≤ q → q < hi 0 9 → ¬ p = q → pC hr p ≠ pC hr q) (hms : ∀ q, 0 ≤ q → q < hi 0 9 → (0 ≤ hi (pC hr q) 14 ∧ hi (pC hr q) 14 ≤ 1000000) ∧ (hi (pC hr q) 15 = 0 ∨ hi (pC hr q) 15 = 1)) {b : Int} (hnB : 0 ≤ hi 0 10 ∧ hi 0 10 ≤ 8) (hWB : cBd z hr hi) : a_ct G mX9_close (d + 2) [vR 0, vI b] z hr hi hl (fun r z' hr' hi' hl' => z' = z ∧ hr' = hr ∧ hl' = hl ∧ ((0 ≤ b ∧ b < hi 0 10) ∧ r = some (vI (cClo hr b (hi 0 9).toNat hi).2) ∧ hi' = (cClo hr b (hi 0 9).toNat hi).1 ∨ ¬ (0 ≤ b ∧ b < hi 0 10) ∧ r = some (vI (-1)) ∧ hi' = hi)) := by
  refine a_ct_of rfl (Nat.le_of_ble_eq_true rfl) ?_
  refine a_aload_n (n := 1) dX9_close_0 rfl rfl ?_
  refine a_iload_n (n := 2) dX9_close_1 rfl rfl ?_
  refine a_callV (M2 := mX9_bedAt) (n := 5) dX9_close_2 rfl (c_bedAt (d := d + 0) hz hR hnB) kX9_bedAt lX9_135 iX9_bedAt eX9_bedAt (by decide) (by omega) (s0 hz) rfl (Nat.le_of_ble_eq_true rfl) (fun q2 z2 hr2 hi2 hl2 h2 => ?_)
  obtain ⟨e12, e22, e32, e42, h2⟩ := h2
  obtain rfl := e12.symm
  obtain rfl := e22.symm
  obtain rfl := e32.symm
  obtain rfl := e42.symm
  rcases h2 with ⟨hp2, rfl⟩ | ⟨hp2, rfl⟩
  · obtain ⟨f12, f22⟩ := hWB.at_ hp2.1 hp2.2
    rw [f12]
    show a_wp G _ _ _ _ (vR (bC hr b) :: _) _ _ _ _ _
    refine a_ifnonnull (t := 10) (n := 8) dX9_close_5 rfl rfl (fun p5 c5 => ?_) (fun c5 => ?_)
    · refine a_iconst (n := 11) dX9_close_10 rfl ⟨by decide, by decide⟩ ?_
      refine b_istore_n (n := 12) dX9_close_11 rfl (by decide) rfl ?_
      refine a_iconst (n := 13) dX9_close_12 rfl ⟨by decide, by decide⟩ ?_
      refine b_istore_n (n := 14) dX9_close_13 rfl (by decide) rfl ?_
      refine (c_cl_14 (d := d + 1) hz hR hn hW h80 hinj hms (hi 0 9).toNat 0 hi 0 (by decide) (by omega) ⟨rfl, fun _ _ _ => rfl, rfl, by decide⟩).mono fun r z2 hr2 hi2 hl2 ⟨q1, q2, q3, q4, q5⟩ => ⟨q1, q2, q3, Or.inl ⟨hp2, q4, q5⟩⟩
    · cases c5
  · show a_wp G _ _ _ _ (vO none :: _) _ _ _ _ _
    refine a_ifnonnull (t := 10) (n := 8) dX9_close_5 rfl rfl (fun p5 c5 => ?_) (fun c5 => ?_)
    · cases c5
    · refine a_iconst (n := 9) dX9_close_8 rfl ⟨by decide, by decide⟩ ?_
      refine a_ireturn dX9_close_9 rfl ?_
      exact ⟨rfl, rfl, rfl, Or.inr ⟨hp2, rfl, rfl⟩⟩
end C20
