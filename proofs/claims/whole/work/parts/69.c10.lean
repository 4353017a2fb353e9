/-- the class's heap, the rows of MovePlan said apart: planned, room left, cost, who comes -/
def nH (hi : aI) (go rl co by_ : Int → Int) : aI := fun b j => if b = 11 then go j else if b = 12 then rl j else if b = 13 then co j else if b = 14 then by_ j else hi b j
theorem nH_eq (hi : aI) (go rl co by_ : Int → Int) (b : Nat) (j : Int) : nH hi go rl co by_ b j = if b = 11 then go j else if b = 12 then rl j else if b = 13 then co j else if b = 14 then by_ j else hi b j := rfl
theorem nH_p {hi : aI} {go rl co by_ : Int → Int} {a : Nat} (h : 81 ≤ a) : nH hi go rl co by_ a = hi a := by
  funext j
  rw [nH_eq, if_neg (by omega), if_neg (by omega), if_neg (by omega), if_neg (by omega)]
theorem nH_0 {hi : aI} : nH hi (hi 11) (hi 12) (hi 13) (hi 14) = hi := by
  funext b j
  rw [nH_eq]
  by_cases h1 : b = 11
  · rw [if_pos h1, h1]
  · by_cases h2 : b = 12
    · rw [if_neg h1, if_pos h2, h2]
    · by_cases h3 : b = 13
      · rw [if_neg h1, if_neg h2, if_pos h3, h3]
      · by_cases h4 : b = 14
        · rw [if_neg h1, if_neg h2, if_neg h3, if_pos h4, h4]
        · rw [if_neg h1, if_neg h2, if_neg h3, if_neg h4]
theorem nH_11 {hi : aI} {go rl co by_ : Int → Int} {i v : Int} : up2 (nH hi go rl co by_) 11 i v = nH hi (wU go i v) rl co by_ := by
  funext b j
  rw [up2_eq, nH_eq, nH_eq]
  by_cases h : b = 11
  · subst h
    by_cases k : j = i
    · rw [if_pos ⟨rfl, k⟩, k]
      simp [wU]
    · rw [if_neg (fun q => k q.2)]
      simp [wU, k]
  · rw [if_neg (fun q => h q.1)]
    simp only [h, if_false]
theorem nH_12 {hi : aI} {go rl co by_ : Int → Int} {i v : Int} : up2 (nH hi go rl co by_) 12 i v = nH hi go (wU rl i v) co by_ := by
  funext b j
  rw [up2_eq, nH_eq, nH_eq]
  by_cases h : b = 12
  · subst h
    by_cases k : j = i
    · rw [if_pos ⟨rfl, k⟩, k]
      simp [wU]
    · rw [if_neg (fun q => k q.2)]
      simp [wU, k]
  · rw [if_neg (fun q => h q.1)]
    simp only [h, if_false]
theorem nH_13 {hi : aI} {go rl co by_ : Int → Int} {i v : Int} : up2 (nH hi go rl co by_) 13 i v = nH hi go rl (wU co i v) by_ := by
  funext b j
  rw [up2_eq, nH_eq, nH_eq]
  by_cases h : b = 13
  · subst h
    by_cases k : j = i
    · rw [if_pos ⟨rfl, k⟩, k]
      simp [wU]
    · rw [if_neg (fun q => k q.2)]
      simp [wU, k]
  · rw [if_neg (fun q => h q.1)]
    simp only [h, if_false]
theorem nH_14 {hi : aI} {go rl co by_ : Int → Int} {i v : Int} : up2 (nH hi go rl co by_) 14 i v = nH hi go rl co (wU by_ i v) := by
  funext b j
  rw [up2_eq, nH_eq, nH_eq]
  by_cases h : b = 14
  · subst h
    by_cases k : j = i
    · rw [if_pos ⟨rfl, k⟩, k]
      simp [wU]
    · rw [if_neg (fun q => k q.2)]
      simp [wU, k]
  · rw [if_neg (fun q => h q.1)]
    simp only [h, if_false]
def cSu (hi : aI) (q b : Int) : Prop := hi 80 (q * 8 + b) < 1000
def cWt (hi : aI) (q b : Int) : Int := if hi 80 (q * 8 + b) = 0 then 0 else 1
theorem cWt_01 {hi : aI} : ∀ q b, 0 ≤ cWt hi q b ∧ cWt hi q b ≤ 1 := fun q b => by unfold cWt; split <;> decide
/-- what MovePlan's rows hold: how many, and the prices -/
def cMP (hi : aI) : Prop := (0 ≤ hi 10 5 ∧ hi 10 5 ≤ 40) ∧ (0 ≤ hi 10 6 ∧ hi 10 6 ≤ 8) ∧ ∀ q b, 0 ≤ q → q < hi 10 5 → 0 ≤ b → b < hi 10 6 → hi 80 (q * 8 + b) = 0 ∨ hi 80 (q * 8 + b) = 1 ∨ hi 80 (q * 8 + b) = 1000
theorem cMP.w {hi : aI} (hM : cMP hi) {q b : Int} (q0 : 0 ≤ q) (q1 : q < hi 10 5) (b0 : 0 ≤ b) (b1 : b < hi 10 6) (s : cSu hi q b) : hi 80 (q * 8 + b) = cWt hi q b := by
  unfold cSu at s
  have := hM.2.2 q b q0 q1 b0 b1
  unfold cWt
  split <;> omega
theorem cMP.or {hi : aI} (hM : cMP hi) {q b : Int} (q0 : 0 ≤ q) (q1 : q < hi 10 5) (b0 : 0 ≤ b) (b1 : b < hi 10 6) : (cSu hi q b ∧ hi 80 (q * 8 + b) = cWt hi q b) ∨ (¬ cSu hi q b ∧ hi 80 (q * 8 + b) = 1000) := by
  by_cases s : cSu hi q b
  · exact Or.inl ⟨s, hM.w q0 q1 b0 b1 s⟩
  · refine Or.inr ⟨s, ?_⟩
    have := hM.2.2 q b q0 q1 b0 b1
    unfold cSu at s
    omega
/-- 1000 is as far as 1000000 -/
def upC (co : Int → Int) : Int → Int := fun x => if co x = 1000 then 1000000 else co x
theorem upC_set {co : Int → Int} {b v : Int} (h : v < 1000) : upC (wU co b v) = wU (upC co) b v := by
  funext x
  unfold upC wU
  by_cases e : x = b
  · rw [if_pos e, if_pos e, if_neg (by omega)]
  · rw [if_neg e, if_neg e]
theorem upC_lt {co : Int → Int} {x : Int} (h : co x ≤ 1000) : upC co x < 1000000 ↔ co x < 1000 := by
  unfold upC
  split <;> omega
theorem upC_eq {co : Int → Int} {x : Int} (h : co x < 1000) : upC co x = co x := if_neg (by omega)
section C10
variable {G : aG} {d : Nat} {z : aZ} {hr : aR} {hi hl : aI} {go rl co by_ y : Int → Int} {p K : Int}
set_option maxRecDepth 100000 in
set_option maxHeartbeats 4000000 in
theorem c_price (hz : stZ z) (hR : stR hr) (hM : cMP hi) {q b : Int} (hq : 0 ≤ q ∧ q < hi 10 5) (hb : 0 ≤ b ∧ b < hi 10 6) : a_ct G mX1_price (d + 0) [vR 10, vI q, vI b] z hr (nH hi go rl co by_) hl (Qs z hr (nH hi go rl co by_) hl (fun r => r = some (vI (hi 80 (q * 8 + b))))) := by
  have hM1 := hM.1
  have hM2 := hM.2.1
  refine a_ct_of rfl (Nat.le_of_ble_eq_true rfl) ?_
  refine a_aload_n (n := 1) dX1_price_0 rfl rfl ?_
  refine a_getR (n := 4) dX1_price_1 rfl fX1_9 (s10 hz) (r10_0 hR) ?_
  refine a_iload_n (n := 5) dX1_price_4 rfl rfl ?_
  refine a_bipush (n := 7) dX1_price_5 rfl ⟨by decide, by decide⟩ (by decide) ?_
  refine a_imul (n := 8) dX1_price_7 rfl ⟨by omega, by omega⟩ ?_
  refine a_iload_n (n := 9) dX1_price_8 rfl rfl ?_
  refine a_iadd (n := 10) dX1_price_9 rfl ⟨by omega, by omega⟩ ?_
  refine a_iald (n := 11) dX1_price_10 rfl (s80 hz) (by omega) (by omega) ?_
  try simp only [up2_eq, nH_eq, Nat.reduceEqDiff, Int.reduceEq, Int.reduceNeg, and_true, true_and, and_false, false_and, and_self, if_true, if_false, ite_true, ite_false, reduceIte, eq_self]
  refine a_ireturn dX1_price_11 rfl ?_
  exact ⟨rfl, rfl, rfl, rfl, rfl⟩
/-- from one PLANT: nothing is dearer, and all is as cheap as it makes it *) -/
def sF (hi : aI) (go y : Int → Int) (p q b : Int) (co by_ c0 b0 : Int → Int) (e : Int) : Prop := mvB (hi 10 5) (hi 10 6) (cSu hi) (cWt hi) go y p (upC co) by_ ∧ (∀ x, 0 ≤ x → x < hi 10 6 → co x ≤ 1000) ∧ (∀ x, 0 ≤ x → x < hi 10 6 → upC co x ≤ upC c0 x) ∧ co (go q) = c0 (go q) ∧
  (∀ F : Int → Int, mvF (hi 10 5) (hi 10 6) (cSu hi) (cWt hi) go F → (∀ x, 0 ≤ x → x < hi 10 6 → F x ≤ upC c0 x) → ∀ x, 0 ≤ x → x < hi 10 6 → F x ≤ upC co x) ∧
  (∀ x, 0 ≤ x → x < b → cSu hi q x → co x ≤ co (go q) + cWt hi q x - cWt hi q (go q)) ∧ ((e = 0 ∧ co = c0 ∧ by_ = b0) ∨ e = 1)
theorem sF.lo (hC : mvC (hi 10 5) (hi 10 6) (cSu hi) (cWt hi) go y K) {q b e x : Int} {c0 b0 : Int → Int} (h : sF hi go y p q b co by_ c0 b0 e) (x0 : 0 ≤ x) (x1 : x < hi 10 6) (hK : 0 ≤ K) : - K ≤ co x := by
  obtain ⟨⟨T, u, h⟩, h2, _⟩ := h
  have hb := h2 x x0 x1
  by_cases k : co x < 1000
  · have h1 := ((h x x0 x1).2.2 ((upC_lt hb).mpr k)).2.1
    have h3 := hC.1 x x0 x1
    rw [upC_eq k] at h1
    omega
  · omega
theorem sF.no {q b e : Int} {c0 b0 : Int → Int} (h : sF hi go y p q b co by_ c0 b0 e) (hc : cSu hi q b → co b ≤ co (go q) + cWt hi q b - cWt hi q (go q)) : sF hi go y p q (b + 1) co by_ c0 b0 e := by
  obtain ⟨h1, h2, h3, h4, h5, h6, h7⟩ := h
  refine ⟨h1, h2, h3, h4, h5, fun x x0 x1 s => ?_, h7⟩
  by_cases k : x = b
  · subst k; exact hc s
  · exact h6 x x0 (by omega) s
theorem sF.yes (hC : mvC (hi 10 5) (hi 10 6) (cSu hi) (cWt hi) go y K) (hp : go p = -1) (hB8 : hi 10 6 ≤ 8) {q b e v : Int} {c0 b0 : Int → Int} (h : sF hi go y p q b co by_ c0 b0 e) (hq : 0 ≤ q ∧ q < hi 10 5) (hg : 0 ≤ go q ∧ go q < hi 10 6) (hf : co (go q) < 1000) (hb : 0 ≤ b ∧ b < hi 10 6) (hS : cSu hi q b) (hv : v = co (go q) - cWt hi q (go q) + cWt hi q b) (hlt : v < co b) : sF hi go y p q (b + 1) (wU co b v) (wU by_ b q) c0 b0 1 := by
  obtain ⟨h1, h2, h3, h4, h5, h6, h7⟩ := h
  have hbb := h2 b hb.1 hb.2
  have hga := h2 (go q) hg.1 hg.2
  have hfu := (upC_lt hga).mpr hf
  have eg : upC co (go q) = co (go q) := upC_eq hf
  have hbg : ¬ go q = b := fun e => by rw [e] at hv hf; omega
  have hvb : v < upC co b := by unfold upC; split <;> omega
  refine ⟨?_, fun x x0 x1 => ?_, fun x x0 x1 => ?_, by rw [wU_n hbg]; exact h4, fun F hF hl x x0 x1 => ?_, fun x x0 x1 s => ?_, Or.inr rfl⟩
  · rw [upC_set (by omega)]
    exact mvB_relax cWt_01 hC hp h1 hq hg.1 hfu hb hS (by rw [eg]; omega) hvb
  · by_cases e : x = b
    · rw [e, wU_s]; omega
    · rw [wU_n e]; exact h2 x x0 x1
  · rw [upC_set (by omega)]
    have := h3 x x0 x1
    by_cases e : x = b
    · rw [e, wU_s]; rw [e] at this; omega
    · rw [wU_n e]; exact this
  · rw [upC_set (by omega)]
    have h8 := h5 F hF hl
    by_cases e : x = b
    · rw [e, wU_s]
      have h9 := h8 (go q) hg.1 hg.2
      have h10 := hF q hq.1 hq.2 hg.1 (by omega) b hb.1 hb.2 hS
      omega
    · rw [wU_n e]; exact h8 x x0 x1
  · rw [wU_n hbg]
    by_cases e : x = b
    · rw [e, wU_s]; omega
    · rw [wU_n e]; exact h6 x x0 (by omega) s
set_option maxRecDepth 100000 in
set_option maxHeartbeats 4000000 in
theorem c_sf_41 (hz : stZ z) (hR : stR hr) (hM : cMP hi) (hC : mvC (hi 10 5) (hi 10 6) (cSu hi) (cWt hi) go y K) (hK : 0 ≤ K ∧ K ≤ 800) (hgp : go p = -1) {q : Int} (hq : 0 ≤ q ∧ q < hi 10 5) (hg : 0 ≤ go q ∧ go q < hi 10 6) {c0 b0 : Int → Int} (hf0 : c0 (go q) < 1000) (n : Nat) : ∀ (b e : Int) (x6 : Option aV) (co by_ : Int → Int), 0 ≤ b → b + n = hi 10 6 → sF hi go y p q b co by_ c0 b0 e → a_wp G mX1_spreadFrom (d + 2) 41 [some (vR 10), some (vI q), some (vI (go q)), some (vI e), some (vI (c0 (go q) - cWt hi q (go q))), some (vI b), x6] [] z hr (nH hi go rl co by_) hl (fun r z' hr' hi' hl' => z' = z ∧ hr' = hr ∧ hl' = hl ∧ ∃ c2 b2 : Int → Int, ∃ e : Int, hi' = nH hi go rl c2 b2 ∧ r = some (vI e) ∧ sF hi go y p q (hi 10 6) c2 b2 c0 b0 e) := by
  induction n with
  | zero =>
    intro b e x6 co by_ h0 hn hI
    have hM1 := hM.1
    have hM2 := hM.2.1
    have hlo := hI.lo hC hg.1 hg.2 hK.1
    have h40 := hI.2.2.2.1
    have h41 := hI.2.1 (go q) hg.1 hg.2
    have hw1 := cWt_01 (hi := hi) q (go q)
    have hw2 := cWt_01 (hi := hi) q b
    refine a_iload (n := 43) dX1_spreadFrom_41 rfl rfl ?_
    refine a_aload_n (n := 44) dX1_spreadFrom_43 rfl rfl ?_
    refine a_getI (n := 47) dX1_spreadFrom_44 rfl fX1_31 (s10 hz) ?_
    try simp only [up2_eq, nH_eq, Nat.reduceEqDiff, Int.reduceEq, Int.reduceNeg, and_true, true_and, and_false, false_and, and_self, if_true, if_false, ite_true, ite_false, reduceIte, eq_self]
    refine a_icmp_ge (t := 110) (n := 50) dX1_spreadFrom_47 rfl rfl (fun c47 => ?_) (fun c47 => ?_)
    · have he01 : e = 0 ∨ e = 1 := by rcases hI.2.2.2.2.2.2 with k | k; exact Or.inl k.1; exact Or.inr k
      refine a_iload_n (n := 111) dX1_spreadFrom_110 rfl rfl ?_
      refine a_zreturn dX1_spreadFrom_111 rfl (by omega) ?_
      obtain rfl : b = hi 10 6 := by omega
      exact ⟨rfl, rfl, rfl, co, by_, e, rfl, rfl, hI⟩
    · have hbb := hI.2.1 b h0 (by omega)
      have hlb := hI.lo hC h0 (by omega : b < hi 10 6) hK.1
      have hp3 := hM.2.2 q b hq.1 hq.2 h0 (by omega)
      omega
  | succ n ih =>
    intro b e x6 co by_ h0 hn hI
    have hM1 := hM.1
    have hM2 := hM.2.1
    have hlo := hI.lo hC hg.1 hg.2 hK.1
    have h40 := hI.2.2.2.1
    have h41 := hI.2.1 (go q) hg.1 hg.2
    have hw1 := cWt_01 (hi := hi) q (go q)
    have hw2 := cWt_01 (hi := hi) q b
    refine a_iload (n := 43) dX1_spreadFrom_41 rfl rfl ?_
    refine a_aload_n (n := 44) dX1_spreadFrom_43 rfl rfl ?_
    refine a_getI (n := 47) dX1_spreadFrom_44 rfl fX1_31 (s10 hz) ?_
    try simp only [up2_eq, nH_eq, Nat.reduceEqDiff, Int.reduceEq, Int.reduceNeg, and_true, true_and, and_false, false_and, and_self, if_true, if_false, ite_true, ite_false, reduceIte, eq_self]
    refine a_icmp_ge (t := 110) (n := 50) dX1_spreadFrom_47 rfl rfl (fun c47 => ?_) (fun c47 => ?_)
    · omega
    · have hbb := hI.2.1 b h0 (by omega)
      have hlb := hI.lo hC h0 (by omega : b < hi 10 6) hK.1
      have hp3 := hM.2.2 q b hq.1 hq.2 h0 (by omega)
      refine a_aload_n (n := 51) dX1_spreadFrom_50 rfl rfl ?_
      refine a_iload_n (n := 52) dX1_spreadFrom_51 rfl rfl ?_
      refine a_iload (n := 54) dX1_spreadFrom_52 rfl rfl ?_
      refine a_callV (M2 := mX1_price) (n := 57) dX1_spreadFrom_54 rfl (c_price (d := d) (b := b) hz hR hM hq ⟨h0, by omega⟩) kX1_price lX1_47 iX1_price eX1_price (by decide) (by omega) (s10 hz) rfl (Nat.le_of_ble_eq_true rfl) (fun q54 z54 hr54 hi54 hl54 h54 => ?_)
      obtain ⟨e154, e254, e354, e454, rfl⟩ := h54
      obtain rfl := e154.symm
      obtain rfl := e254.symm
      obtain rfl := e354.symm
      obtain rfl := e454.symm
      show a_wp G _ _ _ _ (vI _ :: _) _ _ _ _ _
      refine b_istore (n := 59) dX1_spreadFrom_57 rfl (by decide) rfl ?_
      refine a_iload (n := 61) dX1_spreadFrom_59 rfl rfl ?_
      refine a_sipush (n := 64) dX1_spreadFrom_61 rfl ⟨by decide, by decide⟩ (by decide) ?_
      refine a_icmp_ge (t := 104) (n := 67) dX1_spreadFrom_64 rfl rfl (fun c64 => ?_) (fun c64 => ?_)
      · refine b_iinc (n := 107) dX1_spreadFrom_104 rfl (by decide) rfl rfl ⟨by omega, by omega⟩ ?_
        refine a_goto (t := 41) dX1_spreadFrom_107 rfl ?_
        exact ih (b + 1) _ _ _ _ (by omega) (by omega) (hI.no (fun s => absurd s (by unfold cSu; omega)))
      · have hsb : cSu hi q b := by unfold cSu; omega
        have hpw := hM.w hq.1 hq.2 h0 (by omega) hsb
        refine a_iload (n := 69) dX1_spreadFrom_67 rfl rfl ?_
        refine a_iload (n := 71) dX1_spreadFrom_69 rfl rfl ?_
        refine a_iadd (n := 72) dX1_spreadFrom_71 rfl ⟨by omega, by omega⟩ ?_
        refine a_aload_n (n := 73) dX1_spreadFrom_72 rfl rfl ?_
        refine a_getR (n := 76) dX1_spreadFrom_73 rfl fX1_21 (s10 hz) (r10_3 hR) ?_
        refine a_iload (n := 78) dX1_spreadFrom_76 rfl rfl ?_
        refine a_iald (n := 79) dX1_spreadFrom_78 rfl (s13 hz) (by omega) (by omega) ?_
        try simp only [up2_eq, nH_eq, Nat.reduceEqDiff, Int.reduceEq, Int.reduceNeg, and_true, true_and, and_false, false_and, and_self, if_true, if_false, ite_true, ite_false, reduceIte, eq_self]
        refine a_icmp_ge (t := 104) (n := 82) dX1_spreadFrom_79 rfl rfl (fun c79 => ?_) (fun c79 => ?_)
        · refine b_iinc (n := 107) dX1_spreadFrom_104 rfl (by decide) rfl rfl ⟨by omega, by omega⟩ ?_
          refine a_goto (t := 41) dX1_spreadFrom_107 rfl ?_
          exact ih (b + 1) _ _ _ _ (by omega) (by omega) (hI.no (fun s => by omega))
        · refine a_aload_n (n := 83) dX1_spreadFrom_82 rfl rfl ?_
          refine a_getR (n := 86) dX1_spreadFrom_83 rfl fX1_21 (s10 hz) (r10_3 hR) ?_
          refine a_iload (n := 88) dX1_spreadFrom_86 rfl rfl ?_
          refine a_iload (n := 90) dX1_spreadFrom_88 rfl rfl ?_
          refine a_iload (n := 92) dX1_spreadFrom_90 rfl rfl ?_
          refine a_iadd (n := 93) dX1_spreadFrom_92 rfl ⟨by omega, by omega⟩ ?_
          refine a_iast (n := 94) dX1_spreadFrom_93 rfl (s13 hz) (by omega) (by omega) ?_
          try simp only [nH_13, nH_14, nH_11, nH_12]
          refine a_aload_n (n := 95) dX1_spreadFrom_94 rfl rfl ?_
          refine a_getR (n := 98) dX1_spreadFrom_95 rfl fX1_24 (s10 hz) (r10_4 hR) ?_
          refine a_iload (n := 100) dX1_spreadFrom_98 rfl rfl ?_
          refine a_iload_n (n := 101) dX1_spreadFrom_100 rfl rfl ?_
          refine a_iast (n := 102) dX1_spreadFrom_101 rfl (s14 hz) (by omega) (by omega) ?_
          try simp only [nH_13, nH_14, nH_11, nH_12]
          refine a_iconst (n := 103) dX1_spreadFrom_102 rfl ⟨by decide, by decide⟩ ?_
          refine b_istore_n (n := 104) dX1_spreadFrom_103 rfl (by decide) rfl ?_
          refine b_iinc (n := 107) dX1_spreadFrom_104 rfl (by decide) rfl rfl ⟨by omega, by omega⟩ ?_
          refine a_goto (t := 41) dX1_spreadFrom_107 rfl ?_
          exact ih (b + 1) _ _ _ _ (by omega) (by omega) (hI.yes hC hgp hM2.2 hq hg (by omega) ⟨h0, by omega⟩ hsb (by omega) (by omega))
end C10
