section C13
variable {G : aG} {d : Nat} {z : aZ} {hr : aR} {hi hl : aI} {go rl co by_ y rm : Int → Int} {p K : Int}
def nwI (hi : aI) (p n : Int) (co by_ : Int → Int) : Prop := ∀ x, 0 ≤ x → x < n → by_ x = p ∧ ((cSu hi p x ∧ co x = cWt hi p x) ∨ (¬ cSu hi p x ∧ co x = 1000))
theorem nwI.add {n v : Int} (h : nwI hi p n co by_) (hv : (cSu hi p n ∧ v = cWt hi p n) ∨ (¬ cSu hi p n ∧ v = 1000)) : nwI hi p (n + 1) (wU co n v) (wU by_ n p) := fun x x0 x1 => by
  by_cases e : x = n
  · subst e
    rw [wU_s, wU_s]
    exact ⟨rfl, hv⟩
  · rw [wU_n e, wU_n e]
    exact h x x0 (by omega)
set_option maxRecDepth 100000 in
set_option maxHeartbeats 4000000 in
theorem c_bi_2 (hz : stZ z) (hR : stR hr) (hM : cMP hi) (hp : 0 ≤ p ∧ p < hi 10 5) {Q : Option aV → aZ → aR → aI → aI → Prop} (n : Nat) : ∀ (b : Int) (co by_ : Int → Int), 0 ≤ b → b + n = hi 10 6 → nwI hi p b co by_ → (∀ (b : Int) (co by_ : Int → Int), nwI hi p (hi 10 6) co by_ → a_wp G mX1_bringIn (d + 4) 35 [some (vR 10), some (vI p), some (vI b)] [] z hr (nH hi go rl co by_) hl Q) → a_wp G mX1_bringIn (d + 4) 2 [some (vR 10), some (vI p), some (vI b)] [] z hr (nH hi go rl co by_) hl Q := by
  induction n with
  | zero =>
    intro b co by_ h0 hn hI W
    have hM1 := hM.1
    have hM2 := hM.2.1
    refine a_iload_n (n := 3) dX1_bringIn_2 rfl rfl ?_
    refine a_aload_n (n := 4) dX1_bringIn_3 rfl rfl ?_
    refine a_getI (n := 7) dX1_bringIn_4 rfl fX1_31 (s10 hz) ?_
    try simp only [up2_eq, nH_eq, Nat.reduceEqDiff, Int.reduceEq, Int.reduceNeg, and_true, true_and, and_false, false_and, and_self, if_true, if_false, ite_true, ite_false, reduceIte, eq_self]
    refine a_icmp_ge (t := 35) (n := 10) dX1_bringIn_7 rfl rfl (fun c7 => ?_) (fun c7 => ?_)
    · obtain rfl : b = hi 10 6 := by omega
      exact W _ _ _ hI
    · omega
  | succ n ih =>
    intro b co by_ h0 hn hI W
    have hM1 := hM.1
    have hM2 := hM.2.1
    refine a_iload_n (n := 3) dX1_bringIn_2 rfl rfl ?_
    refine a_aload_n (n := 4) dX1_bringIn_3 rfl rfl ?_
    refine a_getI (n := 7) dX1_bringIn_4 rfl fX1_31 (s10 hz) ?_
    try simp only [up2_eq, nH_eq, Nat.reduceEqDiff, Int.reduceEq, Int.reduceNeg, and_true, true_and, and_false, false_and, and_self, if_true, if_false, ite_true, ite_false, reduceIte, eq_self]
    refine a_icmp_ge (t := 35) (n := 10) dX1_bringIn_7 rfl rfl (fun c7 => ?_) (fun c7 => ?_)
    · omega
    · refine a_aload_n (n := 11) dX1_bringIn_10 rfl rfl ?_
      refine a_getR (n := 14) dX1_bringIn_11 rfl fX1_21 (s10 hz) (r10_3 hR) ?_
      refine a_iload_n (n := 15) dX1_bringIn_14 rfl rfl ?_
      refine a_aload_n (n := 16) dX1_bringIn_15 rfl rfl ?_
      refine a_iload_n (n := 17) dX1_bringIn_16 rfl rfl ?_
      refine a_iload_n (n := 18) dX1_bringIn_17 rfl rfl ?_
      refine a_callV (M2 := mX1_price) (n := 21) dX1_bringIn_18 rfl (c_price (d := d + 3) (b := b) hz hR hM hp ⟨h0, by omega⟩) kX1_price lX1_47 iX1_price eX1_price (by decide) (by omega) (s10 hz) rfl (Nat.le_of_ble_eq_true rfl) (fun q18 z18 hr18 hi18 hl18 h18 => ?_)
      obtain ⟨e118, e218, e318, e418, rfl⟩ := h18
      obtain rfl := e118.symm
      obtain rfl := e218.symm
      obtain rfl := e318.symm
      obtain rfl := e418.symm
      show a_wp G _ _ _ _ (vI _ :: _) _ _ _ _ _
      refine a_iast (n := 22) dX1_bringIn_21 rfl (s13 hz) (by omega) (by omega) ?_
      try simp only [nH_13, nH_14, nH_11, nH_12]
      refine a_aload_n (n := 23) dX1_bringIn_22 rfl rfl ?_
      refine a_getR (n := 26) dX1_bringIn_23 rfl fX1_24 (s10 hz) (r10_4 hR) ?_
      refine a_iload_n (n := 27) dX1_bringIn_26 rfl rfl ?_
      refine a_iload_n (n := 28) dX1_bringIn_27 rfl rfl ?_
      refine a_iast (n := 29) dX1_bringIn_28 rfl (s14 hz) (by omega) (by omega) ?_
      try simp only [nH_13, nH_14, nH_11, nH_12]
      refine b_iinc (n := 32) dX1_bringIn_29 rfl (by decide) rfl rfl ⟨by omega, by omega⟩ ?_
      refine a_goto (t := 2) dX1_bringIn_32 rfl ?_
      exact ih (b + 1) _ _ (by omega) (by omega) (hI.add (hM.or hp.1 hp.2 h0 (by omega))) W
/-- what bringIn comes to *) -/
def biQ (z : aZ) (hr : aR) (hi hl : aI) (rm : Int → Int) (A : Int → Prop) (p K : Int) : Option aV → aZ → aR → aI → aI → Prop := fun r z' hr' hi' hl' => z' = z ∧ hr' = hr ∧ hl' = hl ∧ ∃ go rl co by_ : Int → Int, hi' = nH hi go rl co by_ ∧ ((r = some (vI 0) ∧ ∀ k, ¬ mvP (hi 10 5) (hi 10 6) (cSu hi) rm (fun _ => True) k) ∨ (r = some (vI 1) ∧ (∃ y, mJ (hi 10 5) (hi 10 6) (cSu hi) (cWt hi) rm (fun q => A q ∨ q = p) go y (K + 8)) ∧ ∀ x, 0 ≤ x → x < hi 10 6 → rl x = rm x - ld (hi 10 5).toNat go x))
theorem mJ.pp {nP nB : Int} {S : Int → Int → Prop} {w : Int → Int → Int} {rm : Int → Int} {A : Int → Prop} (h : mJ nP nB S w rm A go y K) (hp : 0 ≤ p ∧ p < nP) (hA : ¬ A p) : go p = -1 := by
  obtain ⟨k1, k2⟩ := h.2.2.2 p hp.1 hp.2
  rcases k2 with k2 | k2
  · exact absurd (k1.mp k2) hA
  · exact k2
set_option maxRecDepth 100000 in
set_option maxHeartbeats 4000000 in
theorem c_bi_35 (hz : stZ z) (hR : stR hr) (hM : cMP hi) (hp : 0 ≤ p ∧ p < hi 10 5) {A : Int → Prop} (hJ : mJ (hi 10 5) (hi 10 6) (cSu hi) (cWt hi) rm A go y K) (hK : 0 ≤ K ∧ K ≤ 800) (hA : ¬ A p) (hrl : ∀ x, 0 ≤ x → x < hi 10 6 → rl x = rm x - ld (hi 10 5).toNat go x) (hrm : ∀ x, 0 ≤ x → x < hi 10 6 → 0 ≤ rm x ∧ rm x ≤ 40) {b : Int} (hI : nwI hi p (hi 10 6) co by_) : a_wp G mX1_bringIn (d + 4) 35 [some (vR 10), some (vI p), some (vI b)] [] z hr (nH hi go rl co by_) hl (biQ z hr hi hl rm A p K) := by
  have hgp := hJ.pp hp hA
  have h1k : ∀ x, 0 ≤ x → x < hi 10 6 → co x ≤ 1000 := fun x x0 x1 => by
    have hw := cWt_01 (hi := hi) p x
    rcases (hI x x0 x1).2 with k | k <;> omega
  have hB0 : mvB (hi 10 5) (hi 10 6) (cSu hi) (cWt hi) go y p (upC co) by_ := mvB_init cWt_01 (fun b b0 b1 => (hJ.1.1 b b0 b1).1) hp (fun b b0 b1 => by
    obtain ⟨q1, q2⟩ := hI b b0 b1
    have hw := cWt_01 (hi := hi) p b
    rcases q2 with q2 | q2
    · exact Or.inl ⟨q2.1, by rw [upC_eq (by omega)]; exact q2.2, q1⟩
    · exact Or.inr ⟨q2.1, by unfold upC; rw [if_pos q2.2]⟩)
  refine a_aload_n (n := 36) dX1_bringIn_35 rfl rfl ?_
  refine a_callV (M2 := mX1_spreadCosts) (n := 39) dX1_bringIn_36 rfl (c_spreadCosts (d := d) (co := co) (by_ := by_) hz hR hM hJ.1 hK hgp (fun q q0 q1 => (hJ.2.2.2 q q0 q1).2) hB0 h1k) kX1_spreadCosts lX1_51 iX1_spreadCosts eX1_spreadCosts (by decide) (by omega) (s10 hz) rfl (Nat.le_of_ble_eq_true rfl) (fun q36 z36 hr36 hi36 hl36 h36 => ?_)
  obtain ⟨e136, e236, e336, rfl, c2, b2, rfl, s1, s2, s3⟩ := h36
  obtain rfl := e136.symm
  obtain rfl := e236.symm
  obtain rfl := e336.symm
  show a_wp G _ _ _ _ [] _ _ _ _ _
  refine a_aload_n (n := 40) dX1_bringIn_39 rfl rfl ?_
  refine a_callV (M2 := mX1_cheapestWithRoom) (n := 43) dX1_bringIn_40 rfl (c_cheapest (d := d + 3) hz hR hM) kX1_cheapestWithRoom lX1_54 iX1_cheapestWithRoom eX1_cheapestWithRoom (by decide) (by omega) (s10 hz) rfl (Nat.le_of_ble_eq_true rfl) (fun q40 z40 hr40 hi40 hl40 h40 => ?_)
  obtain ⟨e140, e240, e340, e440, t, rfl, ht⟩ := h40
  obtain rfl := e140.symm
  obtain rfl := e240.symm
  obtain rfl := e340.symm
  obtain rfl := e440.symm
  show a_wp G _ _ _ _ (vI t :: _) _ _ _ _ _
  refine b_istore_n (n := 44) dX1_bringIn_43 rfl (by decide) rfl ?_
  refine a_iload_n (n := 45) dX1_bringIn_44 rfl rfl ?_
  refine a_iconst (n := 46) dX1_bringIn_45 rfl ⟨by decide, by decide⟩ ?_
  refine a_icmp_ne (t := 51) (n := 49) dX1_bringIn_46 rfl rfl (fun c46 => ?_) (fun c46 => ?_)
  · obtain ⟨t1, t2, t3, t4, t5⟩ : 0 ≤ t ∧ t < hi 10 6 ∧ 0 < rl t ∧ c2 t < 1000 ∧ ∀ x, 0 ≤ x → x < hi 10 6 → 0 < rl x → c2 x < 1000 → c2 t ≤ c2 x := by
      rcases ht with k | k
      · omega
      · exact k
    obtain ⟨rk, hrk⟩ := mvB_rank s1
    have hM2 := hM.2.1
    have hrt := hrl t t1 t2
    have hmt := hrm t t1 t2
    have hld := ld_0 (hi 10 5).toNat (g := go) (x := t)
    have hY := hJ.yes hp hgp hM.2.1 cWt_01 s1 s2 ⟨t1, t2⟩ ((upC_lt (s3 t t1 t2)).mpr t4) (by have := hrl t t1 t2; omega) (fun x x0 x1 j => by
      have hx := s3 x x0 x1
      rw [upC_eq t4]
      by_cases k : c2 x < 1000
      · rw [upC_eq k]; exact t5 x x0 x1 (by have := hrl x x0 x1; omega) k
      · have : c2 x = 1000 := by omega
        unfold upC; rw [if_pos this]; omega) (n := (hi 10 6).toNat) (by omega)
    have hZ : ∀ x, 0 ≤ x → x < hi 10 6 → wU rl t (rl t - 1) x = rm x - ld (hi 10 5).toNat (aug b2 go (hi 10 6).toNat t go) x := fun x x0 x1 => by
      rw [hY.2 x x0]
      have := hrl x x0 x1
      by_cases e : x = t
      · rw [e, wU_s, if_pos rfl]; omega
      · rw [wU_n e, if_neg e]; omega
    refine a_aload_n (n := 52) dX1_bringIn_51 rfl rfl ?_
    refine a_getR (n := 55) dX1_bringIn_52 rfl fX1_18 (s10 hz) (r10_2 hR) ?_
    refine a_iload_n (n := 56) dX1_bringIn_55 rfl rfl ?_
    refine a_dup2 (n := 57) dX1_bringIn_56 rfl rfl rfl ?_
    refine a_iald (n := 58) dX1_bringIn_57 rfl (s12 hz) (by omega) (by omega) ?_
    try simp only [up2_eq, nH_eq, Nat.reduceEqDiff, Int.reduceEq, Int.reduceNeg, and_true, true_and, and_false, false_and, and_self, if_true, if_false, ite_true, ite_false, reduceIte, eq_self]
    refine a_iconst (n := 59) dX1_bringIn_58 rfl ⟨by decide, by decide⟩ ?_
    refine a_isub (n := 60) dX1_bringIn_59 rfl ⟨by omega, by omega⟩ ?_
    refine a_iast (n := 61) dX1_bringIn_60 rfl (s12 hz) (by omega) (by omega) ?_
    try simp only [nH_13, nH_14, nH_11, nH_12]
    refine a_aload_n (n := 62) dX1_bringIn_61 rfl rfl ?_
    refine a_iload_n (n := 63) dX1_bringIn_62 rfl rfl ?_
    refine a_callV (M2 := mX1_shiftAlong) (n := 66) dX1_bringIn_63 rfl (c_shift (d := d + 3) (y := y) hz hR hM hgp s1 hrk ⟨t1, t2⟩ ((upC_lt (s3 t t1 t2)).mpr t4)) kX1_shiftAlong lX1_58 iX1_shiftAlong eX1_shiftAlong (by decide) (by omega) (s10 hz) rfl (Nat.le_of_ble_eq_true rfl) (fun q63 z63 hr63 hi63 hl63 h63 => ?_)
    obtain ⟨e163, e263, e363, rfl, rfl⟩ := h63
    obtain rfl := e163.symm
    obtain rfl := e263.symm
    obtain rfl := e363.symm
    show a_wp G _ _ _ _ [] _ _ _ _ _
    refine a_iconst (n := 67) dX1_bringIn_66 rfl ⟨by decide, by decide⟩ ?_
    refine a_zreturn dX1_bringIn_67 rfl (by omega) ?_
    exact ⟨rfl, rfl, rfl, _, _, c2, b2, rfl, Or.inr ⟨rfl, ⟨_, hY.1⟩, hZ⟩⟩
  · refine a_iconst (n := 50) dX1_bringIn_49 rfl ⟨by decide, by decide⟩ ?_
    refine a_zreturn dX1_bringIn_50 rfl (by omega) ?_
    rcases ht with ⟨k1, k2⟩ | ⟨k1, _⟩
    · exact ⟨rfl, rfl, rfl, go, rl, c2, b2, rfl, Or.inl ⟨rfl, hJ.no (ly := fun _ => True) hp hA (fun _ _ => trivial) trivial hM.2.1 cWt_01 s1 s2 (fun x x0 x1 j => by have := k2 x x0 x1; have := hrl x x0 x1; have := (upC_lt (s3 x x0 x1)).mp j; omega)⟩⟩
    · omega
set_option maxRecDepth 100000 in
set_option maxHeartbeats 4000000 in
theorem c_bringIn (hz : stZ z) (hR : stR hr) (hM : cMP hi) (hp : 0 ≤ p ∧ p < hi 10 5) {A : Int → Prop} (hJ : mJ (hi 10 5) (hi 10 6) (cSu hi) (cWt hi) rm A go y K) (hK : 0 ≤ K ∧ K ≤ 800) (hA : ¬ A p) (hrl : ∀ x, 0 ≤ x → x < hi 10 6 → rl x = rm x - ld (hi 10 5).toNat go x) (hrm : ∀ x, 0 ≤ x → x < hi 10 6 → 0 ≤ rm x ∧ rm x ≤ 40) : a_ct G mX1_bringIn (d + 4) [vR 10, vI p] z hr (nH hi go rl co by_) hl (biQ z hr hi hl rm A p K) := by
  have hM2 := hM.2.1
  refine a_ct_of rfl (Nat.le_of_ble_eq_true rfl) ?_
  refine a_iconst (n := 1) dX1_bringIn_0 rfl ⟨by decide, by decide⟩ ?_
  refine b_istore_n (n := 2) dX1_bringIn_1 rfl (by decide) rfl ?_
  exact c_bi_2 hz hR hM hp (hi 10 6).toNat 0 co by_ (by decide) (by omega) (fun x x0 x1 => by omega) (fun b co by_ hI => c_bi_35 hz hR hM hp hJ hK hA hrl hrm hI)
end C13
