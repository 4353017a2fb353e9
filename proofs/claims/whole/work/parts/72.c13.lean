section C13
variable {G : aG} {d : Nat} {z : aZ} {hr : aR} {hi hl : aI} {go rl co by_ y : Int → Int} {p K : Int}
def crm (hr : aR) (hi : aI) (x : Int) : Int := hi (bC hr x) 2
def cly (hr : aR) (hi : aI) (q : Int) : Prop := 0 ≤ hi (pC hr q) 13
def nwI (hr : aR) (hi : aI) (p n : Int) (co by_ : Int → Int) : Prop := ∀ x, 0 ≤ x → x < n → by_ x = p ∧ ((cSu hr hi p x ∧ co x = cWt hr hi p x) ∨ (¬ cSu hr hi p x ∧ co x = 1000))
theorem nwI.add {n v : Int} (h : nwI hr hi p n co by_) (hv : (cSu hr hi p n ∧ v = cWt hr hi p n) ∨ (¬ cSu hr hi p n ∧ v = 1000)) : nwI hr hi p (n + 1) (wU co n v) (wU by_ n p) := fun x x0 x1 => by
  by_cases e : x = n
  · subst e
    rw [wU_s, wU_s]
    exact ⟨rfl, hv⟩
  · rw [wU_n e, wU_n e]
    exact h x x0 (by omega)
set_option maxRecDepth 100000 in
set_option maxHeartbeats 4000000 in
theorem c_bi_2 (hz : stZ z) (hR : stR hr) (hN : gN G) (hM : cMP z hr hi) (hp : 0 ≤ p ∧ p < hi 10 6) {Q : Option aV → aZ → aR → aI → aI → Prop} (n : Nat) : ∀ (b : Int) (co by_ : Int → Int), 0 ≤ b → b + n = hi 10 7 → nwI hr hi p b co by_ → (∀ (b : Int) (co by_ : Int → Int), nwI hr hi p (hi 10 7) co by_ → a_wp G mX1_bringIn (d + 4) 59 [some (vR 10), some (vI p), some (vI b)] [] z hr (nH hi go rl co by_) hl Q) → a_wp G mX1_bringIn (d + 4) 2 [some (vR 10), some (vI p), some (vI b)] [] z hr (nH hi go rl co by_) hl Q := by
  induction n with
  | zero =>
    intro b co by_ h0 hn hI W
    have hM1 := hM.1
    have hM2 := hM.2.1
    refine a_iload_n (n := 3) dX1_bringIn_2 rfl rfl ?_
    refine a_aload_n (n := 4) dX1_bringIn_3 rfl rfl ?_
    refine a_getI (n := 7) dX1_bringIn_4 rfl fX1_36 (s10 hz) ?_
    try simp only [up2_eq, nH_eq, Nat.reduceEqDiff, Int.reduceEq, Int.reduceNeg, and_true, true_and, and_false, false_and, and_self, if_true, if_false, ite_true, ite_false, reduceIte, eq_self]
    refine a_icmp_ge (t := 59) (n := 10) dX1_bringIn_7 rfl rfl (fun c7 => ?_) (fun c7 => ?_)
    · obtain rfl : b = hi 10 7 := by omega
      exact W _ _ _ hI
    · omega
  | succ n ih =>
    intro b co by_ h0 hn hI W
    have hM1 := hM.1
    have hM2 := hM.2.1
    refine a_iload_n (n := 3) dX1_bringIn_2 rfl rfl ?_
    refine a_aload_n (n := 4) dX1_bringIn_3 rfl rfl ?_
    refine a_getI (n := 7) dX1_bringIn_4 rfl fX1_36 (s10 hz) ?_
    try simp only [up2_eq, nH_eq, Nat.reduceEqDiff, Int.reduceEq, Int.reduceNeg, and_true, true_and, and_false, false_and, and_self, if_true, if_false, ite_true, ite_false, reduceIte, eq_self]
    refine a_icmp_ge (t := 59) (n := 10) dX1_bringIn_7 rfl rfl (fun c7 => ?_) (fun c7 => ?_)
    · omega
    · refine a_aload_n (n := 11) dX1_bringIn_10 rfl rfl ?_
      refine a_getR (n := 14) dX1_bringIn_11 rfl fX1_18 (s10 hz) (r10_4 hR) ?_
      refine a_iload_n (n := 15) dX1_bringIn_14 rfl rfl ?_
      refine a_aload_n (n := 16) dX1_bringIn_15 rfl rfl ?_
      refine a_getR (n := 19) dX1_bringIn_16 rfl fX1_24 (s10 hz) (r10_0 hR) ?_
      refine a_iload_n (n := 20) dX1_bringIn_19 rfl rfl ?_
      refine a_aald (n := 21) dX1_bringIn_20 rfl (s1 hz) (by decide) (by omega) (by omega) ?_
      obtain ⟨f1, f2, f3⟩ := hM.2.2.1 p (by omega) (by omega)
      rw [f1]
      refine a_aload_n (n := 22) dX1_bringIn_21 rfl rfl ?_
      refine a_getR (n := 25) dX1_bringIn_22 rfl fX1_28 (s10 hz) (r10_1 hR) ?_
      refine a_iload_n (n := 26) dX1_bringIn_25 rfl rfl ?_
      refine a_aald (n := 27) dX1_bringIn_26 rfl (s2 hz) (by decide) (by omega) (by omega) ?_
      obtain ⟨g1, g2, g3⟩ := hM.2.2.2 b (by omega) (by omega)
      rw [g1]
      refine a_callV (M2 := mX3_suits) (n := 30) dX1_bringIn_27 rfl (c_suits (d := d + 2) hN f2 g2) kX3_suits lX1_56 iX3_suits eX3_suits (by decide) (by omega) f2 rfl (Nat.le_of_ble_eq_true rfl) (fun q27 z27 hr27 hi27 hl27 h27 => ?_)
      obtain ⟨e127, e227, e327, e427, b27, rfl, hb27⟩ := h27
      obtain rfl := e127.symm
      obtain rfl := e227.symm
      obtain rfl := e327.symm
      obtain rfl := e427.symm
      simp only [nH_p f3, nH_p g3] at hb27
      replace hb27 : (b27 = 1 ∧ cSu hr hi p b) ∨ (b27 = 0 ∧ ¬ cSu hr hi p b) := hb27
      show a_wp G _ _ _ _ (vI b27 :: _) _ _ _ _ _
      refine a_if_eq (t := 42) (n := 33) dX1_bringIn_30 rfl rfl (fun c30 => ?_) (fun c30 => ?_)
      · replace hb27 := isB_f hb27 (by omega)
        refine a_sipush (n := 45) dX1_bringIn_42 rfl ⟨by decide, by decide⟩ (by decide) ?_
        refine a_iast (n := 46) dX1_bringIn_45 rfl (s13 hz) (by omega) (by omega) ?_
        try simp only [nH_13, nH_14, nH_11, nH_12]
        refine a_aload_n (n := 47) dX1_bringIn_46 rfl rfl ?_
        refine a_getR (n := 50) dX1_bringIn_47 rfl fX1_21 (s10 hz) (r10_5 hR) ?_
        refine a_iload_n (n := 51) dX1_bringIn_50 rfl rfl ?_
        refine a_iload_n (n := 52) dX1_bringIn_51 rfl rfl ?_
        refine a_iast (n := 53) dX1_bringIn_52 rfl (s14 hz) (by omega) (by omega) ?_
        try simp only [nH_13, nH_14, nH_11, nH_12]
        refine b_iinc (n := 56) dX1_bringIn_53 rfl (by decide) rfl rfl ⟨by omega, by omega⟩ ?_
        refine a_goto (t := 2) dX1_bringIn_56 rfl ?_
        exact ih (b + 1) _ _ (by omega) (by omega) (hI.add (Or.inr ⟨hb27, rfl⟩)) W
      · replace hb27 := isB_t hb27 (by omega)
        refine a_aload_n (n := 34) dX1_bringIn_33 rfl rfl ?_
        refine a_iload_n (n := 35) dX1_bringIn_34 rfl rfl ?_
        refine a_iload_n (n := 36) dX1_bringIn_35 rfl rfl ?_
        refine a_callV (M2 := mX1_price) (n := 39) dX1_bringIn_36 rfl (c_price (d := d + 3) (b := b) hz hR hM hp) kX1_price lX1_60 iX1_price eX1_price (by decide) (by omega) (s10 hz) rfl (Nat.le_of_ble_eq_true rfl) (fun q36 z36 hr36 hi36 hl36 h36 => ?_)
        obtain ⟨e136, e236, e336, e436, rfl⟩ := h36
        obtain rfl := e136.symm
        obtain rfl := e236.symm
        obtain rfl := e336.symm
        obtain rfl := e436.symm
        show a_wp G _ _ _ _ (vI _ :: _) _ _ _ _ _
        refine a_goto (t := 45) dX1_bringIn_39 rfl ?_
        refine a_iast (n := 46) dX1_bringIn_45 rfl (s13 hz) (by omega) (by omega) ?_
        try simp only [nH_13, nH_14, nH_11, nH_12]
        refine a_aload_n (n := 47) dX1_bringIn_46 rfl rfl ?_
        refine a_getR (n := 50) dX1_bringIn_47 rfl fX1_21 (s10 hz) (r10_5 hR) ?_
        refine a_iload_n (n := 51) dX1_bringIn_50 rfl rfl ?_
        refine a_iload_n (n := 52) dX1_bringIn_51 rfl rfl ?_
        refine a_iast (n := 53) dX1_bringIn_52 rfl (s14 hz) (by omega) (by omega) ?_
        try simp only [nH_13, nH_14, nH_11, nH_12]
        refine b_iinc (n := 56) dX1_bringIn_53 rfl (by decide) rfl rfl ⟨by omega, by omega⟩ ?_
        refine a_goto (t := 2) dX1_bringIn_56 rfl ?_
        exact ih (b + 1) _ _ (by omega) (by omega) (hI.add (Or.inl ⟨hb27, rfl⟩)) W
/-- what bringIn comes to *) -/
def biQ (z : aZ) (hr : aR) (hi hl : aI) (A : Int → Prop) (p K : Int) : Option aV → aZ → aR → aI → aI → Prop := fun r z' hr' hi' hl' => z' = z ∧ hr' = hr ∧ hl' = hl ∧ ∃ go rl co by_ : Int → Int, hi' = nH hi go rl co by_ ∧ ((r = some (vI 0) ∧ ∀ k, ¬ mvP (hi 10 6) (hi 10 7) (cSu hr hi) (crm hr hi) (cly hr hi) k) ∨ (r = some (vI 1) ∧ (∃ y, mJ (hi 10 6) (hi 10 7) (cSu hr hi) (cWt hr hi) (crm hr hi) (fun q => A q ∨ q = p) go y (K + 8)) ∧ ∀ x, 0 ≤ x → x < hi 10 7 → rl x = crm hr hi x - ld (hi 10 6).toNat go x))
theorem mJ.pp {nP nB : Int} {S : Int → Int → Prop} {w : Int → Int → Int} {rm : Int → Int} {A : Int → Prop} (h : mJ nP nB S w rm A go y K) (hp : 0 ≤ p ∧ p < nP) (hA : ¬ A p) : go p = -1 := by
  obtain ⟨k1, k2⟩ := h.2.2.2 p hp.1 hp.2
  rcases k2 with k2 | k2
  · exact absurd (k1.mp k2) hA
  · exact k2
set_option maxRecDepth 100000 in
set_option maxHeartbeats 4000000 in
theorem c_bi_59 (hz : stZ z) (hR : stR hr) (hN : gN G) (hM : cMP z hr hi) (hp : 0 ≤ p ∧ p < hi 10 6) {A : Int → Prop} (hJ : mJ (hi 10 6) (hi 10 7) (cSu hr hi) (cWt hr hi) (crm hr hi) A go y K) (hK : 0 ≤ K ∧ K ≤ 800) (hA : ¬ A p) (hAl : ∀ q, A q → cly hr hi q) (hl1 : cly hr hi p) (hrl : ∀ x, 0 ≤ x → x < hi 10 7 → rl x = crm hr hi x - ld (hi 10 6).toNat go x) (hrm : ∀ x, 0 ≤ x → x < hi 10 7 → 0 ≤ crm hr hi x ∧ crm hr hi x ≤ 40) {b : Int} (hI : nwI hr hi p (hi 10 7) co by_) : a_wp G mX1_bringIn (d + 4) 59 [some (vR 10), some (vI p), some (vI b)] [] z hr (nH hi go rl co by_) hl (biQ z hr hi hl A p K) := by
  have hgp := hJ.pp hp hA
  have h1k : ∀ x, 0 ≤ x → x < hi 10 7 → co x ≤ 1000 := fun x x0 x1 => by
    have hw := cWt_01 (hr := hr) (hi := hi) p x
    rcases (hI x x0 x1).2 with k | k <;> omega
  have hB0 : mvB (hi 10 6) (hi 10 7) (cSu hr hi) (cWt hr hi) go y p (upC co) by_ := mvB_init cWt_01 (fun b b0 b1 => (hJ.1.1 b b0 b1).1) hp (fun b b0 b1 => by
    obtain ⟨q1, q2⟩ := hI b b0 b1
    have hw := cWt_01 (hr := hr) (hi := hi) p b
    rcases q2 with q2 | q2
    · exact Or.inl ⟨q2.1, by rw [upC_eq (by omega)]; exact q2.2, q1⟩
    · exact Or.inr ⟨q2.1, by unfold upC; rw [if_pos q2.2]⟩)
  refine a_aload_n (n := 60) dX1_bringIn_59 rfl rfl ?_
  refine a_callV (M2 := mX1_spreadCosts) (n := 63) dX1_bringIn_60 rfl (c_spreadCosts (d := d) (co := co) (by_ := by_) hz hR hN hM hJ.1 hK hgp (fun q q0 q1 => (hJ.2.2.2 q q0 q1).2) hB0 h1k) kX1_spreadCosts lX1_64 iX1_spreadCosts eX1_spreadCosts (by decide) (by omega) (s10 hz) rfl (Nat.le_of_ble_eq_true rfl) (fun q60 z60 hr60 hi60 hl60 h60 => ?_)
  obtain ⟨e160, e260, e360, rfl, c2, b2, rfl, s1, s2, s3⟩ := h60
  obtain rfl := e160.symm
  obtain rfl := e260.symm
  obtain rfl := e360.symm
  show a_wp G _ _ _ _ [] _ _ _ _ _
  refine a_aload_n (n := 64) dX1_bringIn_63 rfl rfl ?_
  refine a_callV (M2 := mX1_cheapestWithRoom) (n := 67) dX1_bringIn_64 rfl (c_cheapest (d := d + 3) hz hR hM) kX1_cheapestWithRoom lX1_67 iX1_cheapestWithRoom eX1_cheapestWithRoom (by decide) (by omega) (s10 hz) rfl (Nat.le_of_ble_eq_true rfl) (fun q64 z64 hr64 hi64 hl64 h64 => ?_)
  obtain ⟨e164, e264, e364, e464, t, rfl, ht⟩ := h64
  obtain rfl := e164.symm
  obtain rfl := e264.symm
  obtain rfl := e364.symm
  obtain rfl := e464.symm
  show a_wp G _ _ _ _ (vI t :: _) _ _ _ _ _
  refine b_istore_n (n := 68) dX1_bringIn_67 rfl (by decide) rfl ?_
  refine a_iload_n (n := 69) dX1_bringIn_68 rfl rfl ?_
  refine a_iconst (n := 70) dX1_bringIn_69 rfl ⟨by decide, by decide⟩ ?_
  refine a_icmp_ne (t := 75) (n := 73) dX1_bringIn_70 rfl rfl (fun c70 => ?_) (fun c70 => ?_)
  · obtain ⟨t1, t2, t3, t4, t5⟩ : 0 ≤ t ∧ t < hi 10 7 ∧ 0 < rl t ∧ c2 t < 1000 ∧ ∀ x, 0 ≤ x → x < hi 10 7 → 0 < rl x → c2 x < 1000 → c2 t ≤ c2 x := by
      rcases ht with k | k
      · omega
      · exact k
    obtain ⟨rk, hrk⟩ := mvB_rank s1
    have hM2 := hM.2.1
    have hrt := hrl t t1 t2
    have hmt := hrm t t1 t2
    have hld := ld_0 (hi 10 6).toNat (g := go) (x := t)
    have hY := hJ.yes hp hgp hM.2.1 cWt_01 s1 s2 ⟨t1, t2⟩ ((upC_lt (s3 t t1 t2)).mpr t4) (by have := hrl t t1 t2; omega) (fun x x0 x1 j => by
      have hx := s3 x x0 x1
      rw [upC_eq t4]
      by_cases k : c2 x < 1000
      · rw [upC_eq k]; exact t5 x x0 x1 (by have := hrl x x0 x1; omega) k
      · have : c2 x = 1000 := by omega
        unfold upC; rw [if_pos this]; omega) (n := (hi 10 7).toNat) (by omega)
    have hZ : ∀ x, 0 ≤ x → x < hi 10 7 → wU rl t (rl t - 1) x = crm hr hi x - ld (hi 10 6).toNat (aug b2 go (hi 10 7).toNat t go) x := fun x x0 x1 => by
      rw [hY.2 x x0]
      have := hrl x x0 x1
      by_cases e : x = t
      · rw [e, wU_s, if_pos rfl]; omega
      · rw [wU_n e, if_neg e]; omega
    refine a_aload_n (n := 76) dX1_bringIn_75 rfl rfl ?_
    refine a_getR (n := 79) dX1_bringIn_76 rfl fX1_15 (s10 hz) (r10_3 hR) ?_
    refine a_iload_n (n := 80) dX1_bringIn_79 rfl rfl ?_
    refine a_dup2 (n := 81) dX1_bringIn_80 rfl rfl rfl ?_
    refine a_iald (n := 82) dX1_bringIn_81 rfl (s12 hz) (by omega) (by omega) ?_
    try simp only [up2_eq, nH_eq, Nat.reduceEqDiff, Int.reduceEq, Int.reduceNeg, and_true, true_and, and_false, false_and, and_self, if_true, if_false, ite_true, ite_false, reduceIte, eq_self]
    refine a_iconst (n := 83) dX1_bringIn_82 rfl ⟨by decide, by decide⟩ ?_
    refine a_isub (n := 84) dX1_bringIn_83 rfl ⟨by omega, by omega⟩ ?_
    refine a_iast (n := 85) dX1_bringIn_84 rfl (s12 hz) (by omega) (by omega) ?_
    try simp only [nH_13, nH_14, nH_11, nH_12]
    refine a_aload_n (n := 86) dX1_bringIn_85 rfl rfl ?_
    refine a_iload_n (n := 87) dX1_bringIn_86 rfl rfl ?_
    refine a_callV (M2 := mX1_shiftAlong) (n := 90) dX1_bringIn_87 rfl (c_shift (d := d + 3) (y := y) hz hR hM hgp s1 hrk ⟨t1, t2⟩ ((upC_lt (s3 t t1 t2)).mpr t4)) kX1_shiftAlong lX1_71 iX1_shiftAlong eX1_shiftAlong (by decide) (by omega) (s10 hz) rfl (Nat.le_of_ble_eq_true rfl) (fun q87 z87 hr87 hi87 hl87 h87 => ?_)
    obtain ⟨e187, e287, e387, rfl, rfl⟩ := h87
    obtain rfl := e187.symm
    obtain rfl := e287.symm
    obtain rfl := e387.symm
    show a_wp G _ _ _ _ [] _ _ _ _ _
    refine a_iconst (n := 91) dX1_bringIn_90 rfl ⟨by decide, by decide⟩ ?_
    refine a_zreturn dX1_bringIn_91 rfl (by omega) ?_
    exact ⟨rfl, rfl, rfl, _, _, c2, b2, rfl, Or.inr ⟨rfl, ⟨_, hY.1⟩, hZ⟩⟩
  · refine a_iconst (n := 74) dX1_bringIn_73 rfl ⟨by decide, by decide⟩ ?_
    refine a_zreturn dX1_bringIn_74 rfl (by omega) ?_
    rcases ht with ⟨k1, k2⟩ | ⟨k1, _⟩
    · exact ⟨rfl, rfl, rfl, go, rl, c2, b2, rfl, Or.inl ⟨rfl, hJ.no hp hA hAl hl1 hM.2.1 cWt_01 s1 s2 (fun x x0 x1 j => by have := k2 x x0 x1; have := hrl x x0 x1; have := (upC_lt (s3 x x0 x1)).mp j; omega)⟩⟩
    · omega
set_option maxRecDepth 100000 in
set_option maxHeartbeats 4000000 in
theorem c_bringIn (hz : stZ z) (hR : stR hr) (hN : gN G) (hM : cMP z hr hi) (hp : 0 ≤ p ∧ p < hi 10 6) {A : Int → Prop} (hJ : mJ (hi 10 6) (hi 10 7) (cSu hr hi) (cWt hr hi) (crm hr hi) A go y K) (hK : 0 ≤ K ∧ K ≤ 800) (hA : ¬ A p) (hAl : ∀ q, A q → cly hr hi q) (hl1 : cly hr hi p) (hrl : ∀ x, 0 ≤ x → x < hi 10 7 → rl x = crm hr hi x - ld (hi 10 6).toNat go x) (hrm : ∀ x, 0 ≤ x → x < hi 10 7 → 0 ≤ crm hr hi x ∧ crm hr hi x ≤ 40) : a_ct G mX1_bringIn (d + 4) [vR 10, vI p] z hr (nH hi go rl co by_) hl (biQ z hr hi hl A p K) := by
  have hM2 := hM.2.1
  refine a_ct_of rfl (Nat.le_of_ble_eq_true rfl) ?_
  refine a_iconst (n := 1) dX1_bringIn_0 rfl ⟨by decide, by decide⟩ ?_
  refine b_istore_n (n := 2) dX1_bringIn_1 rfl (by decide) rfl ?_
  exact c_bi_2 hz hR hN hM hp (hi 10 7).toNat 0 co by_ (by decide) (by omega) (fun x x0 x1 => by omega) (fun b co by_ hI => c_bi_59 hz hR hN hM hp hJ hK hA hAl hl1 hrl hrm hI)
end C13
