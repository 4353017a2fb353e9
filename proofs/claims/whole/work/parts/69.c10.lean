/-- the class's heap, the rows of MovePlan said apart: planned, room left, cost, who comes -/
def nH (hi : aI) (go rl co by_ : Int → Int) : aI := fun b j => if b = 11 then go j else if b = 12 then rl j else if b = 13 then co j else if b = 14 then by_ j else hi b j
theorem nH_eq (hi : aI) (go rl co by_ : Int → Int) (b : Nat) (j : Int) : nH hi go rl co by_ b j = if b = 11 then go j else if b = 12 then rl j else if b = 13 then co j else if b = 14 then by_ j else hi b j := rfl
theorem nH_p {hi : aI} {go rl co by_ : Int → Int} {a : Nat} (h : 80 ≤ a) : nH hi go rl co by_ a = hi a := by
  funext j
  rw [nH_eq, if_neg (by omega), if_neg (by omega), if_neg (by omega), if_neg (by omega)]
theorem nH_0 {hi : aI} : nH hi (hi 11) (hi 12) (hi 13) (hi 14) = hi := by
  funext b j
  rw [nH_eq]
  by_cases h1 : b = 11
  · rw [if_pos h1, h1]
  · by_cases h2 : b = 12
    · rw [if_neg h1, if_pos h2, h2]
    · by_cases h3 : b = 13
      · rw [if_neg h1, if_neg h2, if_pos h3, h3]
      · by_cases h4 : b = 14
        · rw [if_neg h1, if_neg h2, if_neg h3, if_pos h4, h4]
        · rw [if_neg h1, if_neg h2, if_neg h3, if_neg h4]
theorem nH_11 {hi : aI} {go rl co by_ : Int → Int} {i v : Int} : up2 (nH hi go rl co by_) 11 i v = nH hi (wU go i v) rl co by_ := by
  funext b j
  rw [up2_eq, nH_eq, nH_eq]
  by_cases h : b = 11
  · subst h
    by_cases k : j = i
    · rw [if_pos ⟨rfl, k⟩, k]
      simp [wU]
    · rw [if_neg (fun q => k q.2)]
      simp [wU, k]
  · rw [if_neg (fun q => h q.1)]
    simp only [h, if_false]
theorem nH_12 {hi : aI} {go rl co by_ : Int → Int} {i v : Int} : up2 (nH hi go rl co by_) 12 i v = nH hi go (wU rl i v) co by_ := by
  funext b j
  rw [up2_eq, nH_eq, nH_eq]
  by_cases h : b = 12
  · subst h
    by_cases k : j = i
    · rw [if_pos ⟨rfl, k⟩, k]
      simp [wU]
    · rw [if_neg (fun q => k q.2)]
      simp [wU, k]
  · rw [if_neg (fun q => h q.1)]
    simp only [h, if_false]
theorem nH_13 {hi : aI} {go rl co by_ : Int → Int} {i v : Int} : up2 (nH hi go rl co by_) 13 i v = nH hi go rl (wU co i v) by_ := by
  funext b j
  rw [up2_eq, nH_eq, nH_eq]
  by_cases h : b = 13
  · subst h
    by_cases k : j = i
    · rw [if_pos ⟨rfl, k⟩, k]
      simp [wU]
    · rw [if_neg (fun q => k q.2)]
      simp [wU, k]
  · rw [if_neg (fun q => h q.1)]
    simp only [h, if_false]
theorem nH_14 {hi : aI} {go rl co by_ : Int → Int} {i v : Int} : up2 (nH hi go rl co by_) 14 i v = nH hi go rl co (wU by_ i v) := by
  funext b j
  rw [up2_eq, nH_eq, nH_eq]
  by_cases h : b = 14
  · subst h
    by_cases k : j = i
    · rw [if_pos ⟨rfl, k⟩, k]
      simp [wU]
    · rw [if_neg (fun q => k q.2)]
      simp [wU, k]
  · rw [if_neg (fun q => h q.1)]
    simp only [h, if_false]
def cSu (hr : aR) (hi : aI) (q b : Int) : Prop := (hi (pC hr q) 9 ≤ hi (bC hr b) 0 ∧ hi (bC hr b) 0 ≤ hi (pC hr q) 10) ∧ hi (pC hr q) 11 ≤ hi (bC hr b) 1 ∧ hi (bC hr b) 1 ≤ hi (pC hr q) 12
def cWt (hr : aR) (hi : aI) (q b : Int) : Int := if hi (pC hr q) 13 = b then 0 else 1
theorem cWt_01 {hr : aR} {hi : aI} : ∀ q b, 0 ≤ cWt hr hi q b ∧ cWt hr hi q b ≤ 1 := fun q b => by unfold cWt; split <;> decide
/-- what MovePlan may use of PLANTS and BEDS -/
def cMP (z : aZ) (hr : aR) (hi : aI) : Prop := (0 ≤ hi 10 6 ∧ hi 10 6 ≤ 40) ∧ (0 ≤ hi 10 7 ∧ hi 10 7 ≤ 8) ∧ (∀ q, 0 ≤ q → q < hi 10 6 → hr 1 q = some (pC hr q) ∧ a_is z (pC hr q) 3 17 ∧ 80 ≤ pC hr q) ∧ ∀ b, 0 ≤ b → b < hi 10 7 → hr 2 b = some (bC hr b) ∧ a_is z (bC hr b) 0 3 ∧ 80 ≤ bC hr b
/-- 1000 is as far as 1000000 -/
def upC (co : Int → Int) : Int → Int := fun x => if co x = 1000 then 1000000 else co x
theorem upC_set {co : Int → Int} {b v : Int} (h : v < 1000) : upC (wU co b v) = wU (upC co) b v := by
  funext x
  unfold upC wU
  by_cases e : x = b
  · rw [if_pos e, if_pos e, if_neg (by omega)]
  · rw [if_neg e, if_neg e]
theorem upC_lt {co : Int → Int} {x : Int} (h : co x ≤ 1000) : upC co x < 1000000 ↔ co x < 1000 := by
  unfold upC
  split <;> omega
theorem upC_eq {co : Int → Int} {x : Int} (h : co x < 1000) : upC co x = co x := if_neg (by omega)
section C10
variable {G : aG} {d : Nat} {z : aZ} {hr : aR} {hi hl : aI} {go rl co by_ y : Int → Int} {p K : Int}
set_option maxRecDepth 100000 in
set_option maxHeartbeats 4000000 in
theorem c_price (hz : stZ z) (hR : stR hr) (hM : cMP z hr hi) {q b : Int} (hq : 0 ≤ q ∧ q < hi 10 6) : a_ct G mX1_price (d + 0) [vR 10, vI q, vI b] z hr (nH hi go rl co by_) hl (Qs z hr (nH hi go rl co by_) hl (fun r => r = some (vI (cWt hr hi q b)))) := by
  have hM1 := hM.1
  refine a_ct_of rfl (Nat.le_of_ble_eq_true rfl) ?_
  refine a_aload_n (n := 1) dX1_price_0 rfl rfl ?_
  refine a_getR (n := 4) dX1_price_1 rfl fX1_24 (s10 hz) (r10_0 hR) ?_
  refine a_iload_n (n := 5) dX1_price_4 rfl rfl ?_
  refine a_aald (n := 6) dX1_price_5 rfl (s1 hz) (by decide) (by omega) (by omega) ?_
  obtain ⟨f1, f2, f3⟩ := hM.2.2.1 q (by omega) (by omega)
  rw [f1]
  refine a_getI (n := 9) dX1_price_6 rfl fX1_42 f2 ?_
  rw [nH_p f3]
  refine a_iload_n (n := 10) dX1_price_9 rfl rfl ?_
  refine a_icmp_ne (t := 17) (n := 13) dX1_price_10 rfl rfl (fun c10 => ?_) (fun c10 => ?_)
  · refine a_iconst (n := 18) dX1_price_17 rfl ⟨by decide, by decide⟩ ?_
    refine a_ireturn dX1_price_18 rfl ?_
    exact ⟨rfl, rfl, rfl, rfl, by unfold cWt; rw [if_neg c10]⟩
  · refine a_iconst (n := 14) dX1_price_13 rfl ⟨by decide, by decide⟩ ?_
    refine a_goto (t := 18) dX1_price_14 rfl ?_
    refine a_ireturn dX1_price_18 rfl ?_
    exact ⟨rfl, rfl, rfl, rfl, by unfold cWt; rw [if_pos c10]⟩
/-- from one PLANT: nothing is dearer, and all is as cheap as it makes it *) -/
def sF (hr : aR) (hi : aI) (go y : Int → Int) (p q b : Int) (co by_ c0 b0 : Int → Int) (e : Int) : Prop := mvB (hi 10 6) (hi 10 7) (cSu hr hi) (cWt hr hi) go y p (upC co) by_ ∧ (∀ x, 0 ≤ x → x < hi 10 7 → co x ≤ 1000) ∧ (∀ x, 0 ≤ x → x < hi 10 7 → upC co x ≤ upC c0 x) ∧ co (go q) = c0 (go q) ∧
  (∀ F : Int → Int, mvF (hi 10 6) (hi 10 7) (cSu hr hi) (cWt hr hi) go F → (∀ x, 0 ≤ x → x < hi 10 7 → F x ≤ upC c0 x) → ∀ x, 0 ≤ x → x < hi 10 7 → F x ≤ upC co x) ∧
  (∀ x, 0 ≤ x → x < b → cSu hr hi q x → co x ≤ co (go q) + cWt hr hi q x - cWt hr hi q (go q)) ∧ ((e = 0 ∧ co = c0 ∧ by_ = b0) ∨ e = 1)
theorem sF.lo (hC : mvC (hi 10 6) (hi 10 7) (cSu hr hi) (cWt hr hi) go y K) {q b e x : Int} {c0 b0 : Int → Int} (h : sF hr hi go y p q b co by_ c0 b0 e) (x0 : 0 ≤ x) (x1 : x < hi 10 7) (hK : 0 ≤ K) : - K ≤ co x := by
  obtain ⟨⟨T, u, h⟩, h2, _⟩ := h
  have hb := h2 x x0 x1
  by_cases k : co x < 1000
  · have h1 := ((h x x0 x1).2.2 ((upC_lt hb).mpr k)).2.1
    have h3 := hC.1 x x0 x1
    rw [upC_eq k] at h1
    omega
  · omega
theorem sF.no {q b e : Int} {c0 b0 : Int → Int} (h : sF hr hi go y p q b co by_ c0 b0 e) (hc : cSu hr hi q b → co b ≤ co (go q) + cWt hr hi q b - cWt hr hi q (go q)) : sF hr hi go y p q (b + 1) co by_ c0 b0 e := by
  obtain ⟨h1, h2, h3, h4, h5, h6, h7⟩ := h
  refine ⟨h1, h2, h3, h4, h5, fun x x0 x1 s => ?_, h7⟩
  by_cases k : x = b
  · subst k; exact hc s
  · exact h6 x x0 (by omega) s
theorem sF.yes (hC : mvC (hi 10 6) (hi 10 7) (cSu hr hi) (cWt hr hi) go y K) (hp : go p = -1) (hB8 : hi 10 7 ≤ 8) {q b e v : Int} {c0 b0 : Int → Int} (h : sF hr hi go y p q b co by_ c0 b0 e) (hq : 0 ≤ q ∧ q < hi 10 6) (hg : 0 ≤ go q ∧ go q < hi 10 7) (hf : co (go q) < 1000) (hb : 0 ≤ b ∧ b < hi 10 7) (hS : cSu hr hi q b) (hv : v = co (go q) - cWt hr hi q (go q) + cWt hr hi q b) (hlt : v < co b) : sF hr hi go y p q (b + 1) (wU co b v) (wU by_ b q) c0 b0 1 := by
  obtain ⟨h1, h2, h3, h4, h5, h6, h7⟩ := h
  have hbb := h2 b hb.1 hb.2
  have hga := h2 (go q) hg.1 hg.2
  have hfu := (upC_lt hga).mpr hf
  have eg : upC co (go q) = co (go q) := upC_eq hf
  have hbg : ¬ go q = b := fun e => by rw [e] at hv hf; omega
  have hvb : v < upC co b := by unfold upC; split <;> omega
  refine ⟨?_, fun x x0 x1 => ?_, fun x x0 x1 => ?_, by rw [wU_n hbg]; exact h4, fun F hF hl x x0 x1 => ?_, fun x x0 x1 s => ?_, Or.inr rfl⟩
  · rw [upC_set (by omega)]
    exact mvB_relax cWt_01 hC hp h1 hq hg.1 hfu hb hS (by rw [eg]; omega) hvb
  · by_cases e : x = b
    · rw [e, wU_s]; omega
    · rw [wU_n e]; exact h2 x x0 x1
  · rw [upC_set (by omega)]
    have := h3 x x0 x1
    by_cases e : x = b
    · rw [e, wU_s]; rw [e] at this; omega
    · rw [wU_n e]; exact this
  · rw [upC_set (by omega)]
    have h8 := h5 F hF hl
    by_cases e : x = b
    · rw [e, wU_s]
      have h9 := h8 (go q) hg.1 hg.2
      have h10 := hF q hq.1 hq.2 hg.1 (by omega) b hb.1 hb.2 hS
      omega
    · rw [wU_n e]; exact h8 x x0 x1
  · rw [wU_n hbg]
    by_cases e : x = b
    · rw [e, wU_s]; omega
    · rw [wU_n e]; exact h6 x x0 (by omega) s
set_option maxRecDepth 100000 in
set_option maxHeartbeats 4000000 in
theorem c_sf_41 (hz : stZ z) (hR : stR hr) (hN : gN G) (hM : cMP z hr hi) (hC : mvC (hi 10 6) (hi 10 7) (cSu hr hi) (cWt hr hi) go y K) (hK : 0 ≤ K ∧ K ≤ 800) (hgp : go p = -1) {q : Int} (hq : 0 ≤ q ∧ q < hi 10 6) (hg : 0 ≤ go q ∧ go q < hi 10 7) {c0 b0 : Int → Int} (hf0 : c0 (go q) < 1000) (n : Nat) : ∀ (b e : Int) (co by_ : Int → Int), 0 ≤ b → b + n = hi 10 7 → sF hr hi go y p q b co by_ c0 b0 e → a_wp G mX1_spreadFrom (d + 2) 41 [some (vR 10), some (vI q), some (vI (go q)), some (vI e), some (vI (c0 (go q) - cWt hr hi q (go q))), some (vI b)] [] z hr (nH hi go rl co by_) hl (fun r z' hr' hi' hl' => z' = z ∧ hr' = hr ∧ hl' = hl ∧ ∃ c2 b2 : Int → Int, ∃ e : Int, hi' = nH hi go rl c2 b2 ∧ r = some (vI e) ∧ sF hr hi go y p q (hi 10 7) c2 b2 c0 b0 e) := by
  induction n with
  | zero =>
    intro b e co by_ h0 hn hI
    have hM1 := hM.1
    have hM2 := hM.2.1
    have hlo := hI.lo hC hg.1 hg.2 hK.1
    have h40 := hI.2.2.2.1
    have h41 := hI.2.1 (go q) hg.1 hg.2
    have hw1 := cWt_01 (hr := hr) (hi := hi) q (go q)
    have hw2 := cWt_01 (hr := hr) (hi := hi) q b
    refine a_iload (n := 43) dX1_spreadFrom_41 rfl rfl ?_
    refine a_aload_n (n := 44) dX1_spreadFrom_43 rfl rfl ?_
    refine a_getI (n := 47) dX1_spreadFrom_44 rfl fX1_36 (s10 hz) ?_
    try simp only [up2_eq, nH_eq, Nat.reduceEqDiff, Int.reduceEq, Int.reduceNeg, and_true, true_and, and_false, false_and, and_self, if_true, if_false, ite_true, ite_false, reduceIte, eq_self]
    refine a_icmp_ge (t := 122) (n := 50) dX1_spreadFrom_47 rfl rfl (fun c47 => ?_) (fun c47 => ?_)
    · have he01 : e = 0 ∨ e = 1 := by rcases hI.2.2.2.2.2.2 with k | k; exact Or.inl k.1; exact Or.inr k
      refine a_iload_n (n := 123) dX1_spreadFrom_122 rfl rfl ?_
      refine a_zreturn dX1_spreadFrom_123 rfl (by omega) ?_
      obtain rfl : b = hi 10 7 := by omega
      exact ⟨rfl, rfl, rfl, co, by_, e, rfl, rfl, hI⟩
    · have hbb := hI.2.1 b h0 (by omega)
      have hlb := hI.lo hC h0 (by omega : b < hi 10 7) hK.1
      omega
  | succ n ih =>
    intro b e co by_ h0 hn hI
    have hM1 := hM.1
    have hM2 := hM.2.1
    have hlo := hI.lo hC hg.1 hg.2 hK.1
    have h40 := hI.2.2.2.1
    have h41 := hI.2.1 (go q) hg.1 hg.2
    have hw1 := cWt_01 (hr := hr) (hi := hi) q (go q)
    have hw2 := cWt_01 (hr := hr) (hi := hi) q b
    refine a_iload (n := 43) dX1_spreadFrom_41 rfl rfl ?_
    refine a_aload_n (n := 44) dX1_spreadFrom_43 rfl rfl ?_
    refine a_getI (n := 47) dX1_spreadFrom_44 rfl fX1_36 (s10 hz) ?_
    try simp only [up2_eq, nH_eq, Nat.reduceEqDiff, Int.reduceEq, Int.reduceNeg, and_true, true_and, and_false, false_and, and_self, if_true, if_false, ite_true, ite_false, reduceIte, eq_self]
    refine a_icmp_ge (t := 122) (n := 50) dX1_spreadFrom_47 rfl rfl (fun c47 => ?_) (fun c47 => ?_)
    · omega
    · have hbb := hI.2.1 b h0 (by omega)
      have hlb := hI.lo hC h0 (by omega : b < hi 10 7) hK.1
      refine a_iload (n := 52) dX1_spreadFrom_50 rfl rfl ?_
      refine a_aload_n (n := 53) dX1_spreadFrom_52 rfl rfl ?_
      refine a_iload_n (n := 54) dX1_spreadFrom_53 rfl rfl ?_
      refine a_iload (n := 56) dX1_spreadFrom_54 rfl rfl ?_
      refine a_callV (M2 := mX1_price) (n := 59) dX1_spreadFrom_56 rfl (c_price (d := d) (b := b) hz hR hM hq) kX1_price lX1_60 iX1_price eX1_price (by decide) (by omega) (s10 hz) rfl (Nat.le_of_ble_eq_true rfl) (fun q56 z56 hr56 hi56 hl56 h56 => ?_)
      obtain ⟨e156, e256, e356, e456, rfl⟩ := h56
      obtain rfl := e156.symm
      obtain rfl := e256.symm
      obtain rfl := e356.symm
      obtain rfl := e456.symm
      show a_wp G _ _ _ _ (vI _ :: _) _ _ _ _ _
      refine a_iadd (n := 60) dX1_spreadFrom_59 rfl ⟨by omega, by omega⟩ ?_
      refine a_aload_n (n := 61) dX1_spreadFrom_60 rfl rfl ?_
      refine a_getR (n := 64) dX1_spreadFrom_61 rfl fX1_18 (s10 hz) (r10_4 hR) ?_
      refine a_iload (n := 66) dX1_spreadFrom_64 rfl rfl ?_
      refine a_iald (n := 67) dX1_spreadFrom_66 rfl (s13 hz) (by omega) (by omega) ?_
      try simp only [up2_eq, nH_eq, Nat.reduceEqDiff, Int.reduceEq, Int.reduceNeg, and_true, true_and, and_false, false_and, and_self, if_true, if_false, ite_true, ite_false, reduceIte, eq_self]
      refine a_icmp_ge (t := 116) (n := 70) dX1_spreadFrom_67 rfl rfl (fun c67 => ?_) (fun c67 => ?_)
      · refine b_iinc (n := 119) dX1_spreadFrom_116 rfl (by decide) rfl rfl ⟨by omega, by omega⟩ ?_
        refine a_goto (t := 41) dX1_spreadFrom_119 rfl ?_
        exact ih (b + 1) _ _ _ (by omega) (by omega) (hI.no (fun s => by omega))
      · refine a_aload_n (n := 71) dX1_spreadFrom_70 rfl rfl ?_
        refine a_getR (n := 74) dX1_spreadFrom_71 rfl fX1_24 (s10 hz) (r10_0 hR) ?_
        refine a_iload_n (n := 75) dX1_spreadFrom_74 rfl rfl ?_
        refine a_aald (n := 76) dX1_spreadFrom_75 rfl (s1 hz) (by decide) (by omega) (by omega) ?_
        obtain ⟨f1, f2, f3⟩ := hM.2.2.1 q (by omega) (by omega)
        rw [f1]
        refine a_aload_n (n := 77) dX1_spreadFrom_76 rfl rfl ?_
        refine a_getR (n := 80) dX1_spreadFrom_77 rfl fX1_28 (s10 hz) (r10_1 hR) ?_
        refine a_iload (n := 82) dX1_spreadFrom_80 rfl rfl ?_
        refine a_aald (n := 83) dX1_spreadFrom_82 rfl (s2 hz) (by decide) (by omega) (by omega) ?_
        obtain ⟨g1, g2, g3⟩ := hM.2.2.2 b (by omega) (by omega)
        rw [g1]
        refine a_callV (M2 := mX3_suits) (n := 86) dX1_spreadFrom_83 rfl (c_suits (d := d) hN f2 g2) kX3_suits lX1_56 iX3_suits eX3_suits (by decide) (by omega) f2 rfl (Nat.le_of_ble_eq_true rfl) (fun q83 z83 hr83 hi83 hl83 h83 => ?_)
        obtain ⟨e183, e283, e383, e483, b83, rfl, hb83⟩ := h83
        obtain rfl := e183.symm
        obtain rfl := e283.symm
        obtain rfl := e383.symm
        obtain rfl := e483.symm
        simp only [nH_p f3, nH_p g3] at hb83
        replace hb83 : (b83 = 1 ∧ cSu hr hi q b) ∨ (b83 = 0 ∧ ¬ cSu hr hi q b) := hb83
        show a_wp G _ _ _ _ (vI b83 :: _) _ _ _ _ _
        refine a_if_eq (t := 116) (n := 89) dX1_spreadFrom_86 rfl rfl (fun c86 => ?_) (fun c86 => ?_)
        · replace hb83 := isB_f hb83 (by omega)
          refine b_iinc (n := 119) dX1_spreadFrom_116 rfl (by decide) rfl rfl ⟨by omega, by omega⟩ ?_
          refine a_goto (t := 41) dX1_spreadFrom_119 rfl ?_
          exact ih (b + 1) _ _ _ (by omega) (by omega) (hI.no (fun s => absurd s hb83))
        · replace hb83 := isB_t hb83 (by omega)
          refine a_aload_n (n := 90) dX1_spreadFrom_89 rfl rfl ?_
          refine a_getR (n := 93) dX1_spreadFrom_90 rfl fX1_18 (s10 hz) (r10_4 hR) ?_
          refine a_iload (n := 95) dX1_spreadFrom_93 rfl rfl ?_
          refine a_iload (n := 97) dX1_spreadFrom_95 rfl rfl ?_
          refine a_aload_n (n := 98) dX1_spreadFrom_97 rfl rfl ?_
          refine a_iload_n (n := 99) dX1_spreadFrom_98 rfl rfl ?_
          refine a_iload (n := 101) dX1_spreadFrom_99 rfl rfl ?_
          refine a_callV (M2 := mX1_price) (n := 104) dX1_spreadFrom_101 rfl (c_price (d := d) (b := b) hz hR hM hq) kX1_price lX1_60 iX1_price eX1_price (by decide) (by omega) (s10 hz) rfl (Nat.le_of_ble_eq_true rfl) (fun q101 z101 hr101 hi101 hl101 h101 => ?_)
          obtain ⟨e1101, e2101, e3101, e4101, rfl⟩ := h101
          obtain rfl := e1101.symm
          obtain rfl := e2101.symm
          obtain rfl := e3101.symm
          obtain rfl := e4101.symm
          show a_wp G _ _ _ _ (vI _ :: _) _ _ _ _ _
          refine a_iadd (n := 105) dX1_spreadFrom_104 rfl ⟨by omega, by omega⟩ ?_
          refine a_iast (n := 106) dX1_spreadFrom_105 rfl (s13 hz) (by omega) (by omega) ?_
          try simp only [nH_13, nH_14, nH_11, nH_12]
          refine a_aload_n (n := 107) dX1_spreadFrom_106 rfl rfl ?_
          refine a_getR (n := 110) dX1_spreadFrom_107 rfl fX1_21 (s10 hz) (r10_5 hR) ?_
          refine a_iload (n := 112) dX1_spreadFrom_110 rfl rfl ?_
          refine a_iload_n (n := 113) dX1_spreadFrom_112 rfl rfl ?_
          refine a_iast (n := 114) dX1_spreadFrom_113 rfl (s14 hz) (by omega) (by omega) ?_
          try simp only [nH_13, nH_14, nH_11, nH_12]
          refine a_iconst (n := 115) dX1_spreadFrom_114 rfl ⟨by decide, by decide⟩ ?_
          refine b_istore_n (n := 116) dX1_spreadFrom_115 rfl (by decide) rfl ?_
          refine b_iinc (n := 119) dX1_spreadFrom_116 rfl (by decide) rfl rfl ⟨by omega, by omega⟩ ?_
          refine a_goto (t := 41) dX1_spreadFrom_119 rfl ?_
          exact ih (b + 1) _ _ _ (by omega) (by omega) (hI.yes hC hgp hM2.2 hq hg (by omega) ⟨h0, by omega⟩ hb83 (by omega) (by omega))
end C10
