/-- the reference's heap, its rows of MOVES said apart: where each goes, how many, how dear, who, from where -/
def mvH (hi : aI) (go ma co by_ fr : Int → Int) : aI := fun b j => if b = 73 then go j else if b = 74 then ma j else if b = 75 then co j else if b = 76 then by_ j else if b = 77 then fr j else hi b j
theorem mvH_eq (hi : aI) (go ma co by_ fr : Int → Int) (b : Nat) (j : Int) : mvH hi go ma co by_ fr b j = if b = 73 then go j else if b = 74 then ma j else if b = 75 then co j else if b = 76 then by_ j else if b = 77 then fr j else hi b j := rfl
theorem mvH_0 {hi : aI} : mvH hi (hi 73) (hi 74) (hi 75) (hi 76) (hi 77) = hi := by
  funext b j
  rw [mvH_eq]
  by_cases h1 : b = 73
  · rw [if_pos h1, h1]
  · by_cases h2 : b = 74
    · rw [if_neg h1, if_pos h2, h2]
    · by_cases h3 : b = 75
      · rw [if_neg h1, if_neg h2, if_pos h3, h3]
      · by_cases h4 : b = 76
        · rw [if_neg h1, if_neg h2, if_neg h3, if_pos h4, h4]
        · by_cases h5 : b = 77
          · rw [if_neg h1, if_neg h2, if_neg h3, if_neg h4, if_pos h5, h5]
          · rw [if_neg h1, if_neg h2, if_neg h3, if_neg h4, if_neg h5]
theorem mvH_73 {hi : aI} {go ma co by_ fr : Int → Int} {i v : Int} : up2 (mvH hi go ma co by_ fr) 73 i v = mvH hi (wU go i v) ma co by_ fr := by
  funext b j
  rw [up2_eq, mvH_eq, mvH_eq]
  by_cases h : b = 73
  · subst h
    by_cases k : j = i
    · rw [if_pos ⟨rfl, k⟩, k]
      simp [wU]
    · rw [if_neg (fun q => k q.2)]
      simp [wU, k]
  · rw [if_neg (fun q => h q.1)]
    simp only [h, if_false]
theorem mvH_74 {hi : aI} {go ma co by_ fr : Int → Int} {i v : Int} : up2 (mvH hi go ma co by_ fr) 74 i v = mvH hi go (wU ma i v) co by_ fr := by
  funext b j
  rw [up2_eq, mvH_eq, mvH_eq]
  by_cases h : b = 74
  · subst h
    by_cases k : j = i
    · rw [if_pos ⟨rfl, k⟩, k]
      simp [wU]
    · rw [if_neg (fun q => k q.2)]
      simp [wU, k]
  · rw [if_neg (fun q => h q.1)]
    simp only [h, if_false]
theorem mvH_75 {hi : aI} {go ma co by_ fr : Int → Int} {i v : Int} : up2 (mvH hi go ma co by_ fr) 75 i v = mvH hi go ma (wU co i v) by_ fr := by
  funext b j
  rw [up2_eq, mvH_eq, mvH_eq]
  by_cases h : b = 75
  · subst h
    by_cases k : j = i
    · rw [if_pos ⟨rfl, k⟩, k]
      simp [wU]
    · rw [if_neg (fun q => k q.2)]
      simp [wU, k]
  · rw [if_neg (fun q => h q.1)]
    simp only [h, if_false]
theorem mvH_76 {hi : aI} {go ma co by_ fr : Int → Int} {i v : Int} : up2 (mvH hi go ma co by_ fr) 76 i v = mvH hi go ma co (wU by_ i v) fr := by
  funext b j
  rw [up2_eq, mvH_eq, mvH_eq]
  by_cases h : b = 76
  · subst h
    by_cases k : j = i
    · rw [if_pos ⟨rfl, k⟩, k]
      simp [wU]
    · rw [if_neg (fun q => k q.2)]
      simp [wU, k]
  · rw [if_neg (fun q => h q.1)]
    simp only [h, if_false]
theorem mvH_77 {hi : aI} {go ma co by_ fr : Int → Int} {i v : Int} : up2 (mvH hi go ma co by_ fr) 77 i v = mvH hi go ma co by_ (wU fr i v) := by
  funext b j
  rw [up2_eq, mvH_eq, mvH_eq]
  by_cases h : b = 77
  · subst h
    by_cases k : j = i
    · rw [if_pos ⟨rfl, k⟩, k]
      simp [wU]
    · rw [if_neg (fun q => k q.2)]
      simp [wU, k]
  · rw [if_neg (fun q => h q.1)]
    simp only [h, if_false]
def mS (hi : aI) (q b : Int) : Prop := hi 58 (4 * q) ≤ hi 70 b ∧ hi 70 b ≤ hi 58 (4 * q + 1) ∧ hi 58 (4 * q + 2) ≤ hi 71 b ∧ hi 71 b ≤ hi 58 (4 * q + 3)
def mW (hi : aI) (q b : Int) : Int := if hi 59 q = b then 0 else 1
theorem mW_01 {hi : aI} : ∀ q b, 0 ≤ mW hi q b ∧ mW hi q b ≤ 1 := fun q b => by unfold mW; split <;> decide
section M23
variable {G : aG} {d : Nat} {z : aZ} {hr : aR} {H hl : aI} {go ma co by_ fr y : Int → Int} {p K : Int}
theorem m_cost (hz : stZ z) (hR : stR hr) {q b : Int} (hq : 0 ≤ q ∧ q < 40) (hb : 0 ≤ b ∧ b < 8) : a_ct G mX10_costOf (d + 1) [vR 37, vI q, vI b] z hr (mvH H go ma co by_ fr) hl (Qs z hr (mvH H go ma co by_ fr) hl (fun r => ∃ c : Int, r = some (vI c) ∧ ((¬ mS H q b ∧ c = 1000000) ∨ (mS H q b ∧ c = mW H q b)))) := by
  refine (m_costOf hz hR hq hb).mono fun r z' hr' hi' hl' ⟨h1, h2, h3, h4, c, h5, h6⟩ => ⟨h1, h2, h3, h4, c, h5, ?_⟩
  rcases h6 with ⟨h6, h7⟩ | ⟨h6, h7⟩
  · exact Or.inl ⟨h6, h7⟩
  · refine Or.inr ⟨h6, ?_⟩
    unfold mW
    rcases h7 with ⟨h7, h8⟩ | ⟨h7, h8⟩
    · rw [h8, if_pos (show H 59 q = b from h7)]
    · rw [h8, if_neg (show ¬ H 59 q = b from h7)]
/-- the first rows of begins -/
def bI (H : aI) (p n : Int) (co by_ fr : Int → Int) : Prop := ∀ x, 0 ≤ x → x < n → by_ x = p ∧ fr x = -1 ∧ ((mS H p x ∧ co x = mW H p x) ∨ (¬ mS H p x ∧ co x = 1000000))
theorem bI.add {n v : Int} (h : bI H p n co by_ fr) (hv : (¬ mS H p n ∧ v = 1000000) ∨ (mS H p n ∧ v = mW H p n)) : bI H p (n + 1) (wU co n v) (wU by_ n p) (wU fr n (-1)) := fun x x0 x1 => by
  by_cases e : x = n
  · subst e
    rw [wU_s, wU_s, wU_s]
    exact ⟨rfl, rfl, hv.elim (fun q => Or.inr q) (fun q => Or.inl q)⟩
  · rw [wU_n e, wU_n e, wU_n e]
    exact h x x0 (by omega)
set_option maxRecDepth 100000 in
set_option maxHeartbeats 4000000 in
theorem be_2 (hz : stZ z) (hR : stR hr) (hP : 0 ≤ H 37 25 ∧ H 37 25 ≤ 40) (hB : 0 ≤ H 37 45 ∧ H 37 45 ≤ 8) (hp : 0 ≤ p ∧ p < H 37 25) {Q : Option aV → aZ → aR → aI → aI → Prop} (n : Nat) : ∀ (b : Int) (co by_ fr : Int → Int), 0 ≤ b → b + n = H 37 45 → bI H p b co by_ fr → (∀ (x : Int) (co by_ fr : Int → Int), bI H p (H 37 45) co by_ fr → a_wp G mX10_begins (d + 2) 42 [some (vR 37), some (vI p), some (vI x), none, none, none, none] [] z hr (mvH H go ma co by_ fr) hl Q) → a_wp G mX10_begins (d + 2) 2 [some (vR 37), some (vI p), some (vI b), none, none, none, none] [] z hr (mvH H go ma co by_ fr) hl Q := by
  induction n with
  | zero =>
    intro b co by_ fr h0 hn hI K
    refine a_iload_n (n := 3) dX10_begins_2 rfl rfl ?_
    refine a_aload_n (n := 4) dX10_begins_3 rfl rfl ?_
    refine a_getI (n := 7) dX10_begins_4 rfl fX10_308 (s37 hz) ?_
    try simp only [up2_eq, mvH_eq, Nat.reduceEqDiff, Int.reduceEq, Int.reduceNeg, and_true, true_and, and_false, false_and, and_self, if_true, if_false, ite_true, ite_false, reduceIte, eq_self]
    refine a_icmp_ge (t := 42) (n := 10) dX10_begins_7 rfl rfl (fun c7 => ?_) (fun c7 => ?_)
    · obtain rfl : b = H 37 45 := by omega
      exact K _ _ _ _ hI
    · omega
  | succ n ih =>
    intro b co by_ fr h0 hn hI K
    refine a_iload_n (n := 3) dX10_begins_2 rfl rfl ?_
    refine a_aload_n (n := 4) dX10_begins_3 rfl rfl ?_
    refine a_getI (n := 7) dX10_begins_4 rfl fX10_308 (s37 hz) ?_
    try simp only [up2_eq, mvH_eq, Nat.reduceEqDiff, Int.reduceEq, Int.reduceNeg, and_true, true_and, and_false, false_and, and_self, if_true, if_false, ite_true, ite_false, reduceIte, eq_self]
    refine a_icmp_ge (t := 42) (n := 10) dX10_begins_7 rfl rfl (fun c7 => ?_) (fun c7 => ?_)
    · omega
    · refine a_aload_n (n := 11) dX10_begins_10 rfl rfl ?_
      refine a_getR (n := 14) dX10_begins_11 rfl fX10_156 (s37 hz) (r37_51 hR) ?_
      refine a_iload_n (n := 15) dX10_begins_14 rfl rfl ?_
      refine a_aload_n (n := 16) dX10_begins_15 rfl rfl ?_
      refine a_iload_n (n := 17) dX10_begins_16 rfl rfl ?_
      refine a_iload_n (n := 18) dX10_begins_17 rfl rfl ?_
      refine a_callV (M2 := mX10_costOf) (n := 21) dX10_begins_18 rfl (m_cost (d := d) hz hR ⟨hp.1, by omega⟩ ⟨h0, by omega⟩) kX10_costOf lX10_318 iX10_costOf eX10_costOf (by decide) (by omega) (s37 hz) rfl (Nat.le_of_ble_eq_true rfl) (fun q18 z18 hr18 hi18 hl18 h18 => ?_)
      obtain ⟨e118, e218, e318, e418, c18, rfl, hc18⟩ := h18
      obtain rfl := e118.symm
      obtain rfl := e218.symm
      obtain rfl := e318.symm
      obtain rfl := e418.symm
      show a_wp G _ _ _ _ (vI c18 :: _) _ _ _ _ _
      refine a_iast (n := 22) dX10_begins_21 rfl (s75 hz) (by omega) (by omega) ?_
      try simp only [mvH_75, mvH_76, mvH_77, mvH_73, mvH_74]
      refine a_aload_n (n := 23) dX10_begins_22 rfl rfl ?_
      refine a_getR (n := 26) dX10_begins_23 rfl fX10_159 (s37 hz) (r37_52 hR) ?_
      refine a_iload_n (n := 27) dX10_begins_26 rfl rfl ?_
      refine a_iload_n (n := 28) dX10_begins_27 rfl rfl ?_
      refine a_iast (n := 29) dX10_begins_28 rfl (s76 hz) (by omega) (by omega) ?_
      try simp only [mvH_75, mvH_76, mvH_77, mvH_73, mvH_74]
      refine a_aload_n (n := 30) dX10_begins_29 rfl rfl ?_
      refine a_getR (n := 33) dX10_begins_30 rfl fX10_162 (s37 hz) (r37_53 hR) ?_
      refine a_iload_n (n := 34) dX10_begins_33 rfl rfl ?_
      refine a_iconst (n := 35) dX10_begins_34 rfl ⟨by decide, by decide⟩ ?_
      refine a_iast (n := 36) dX10_begins_35 rfl (s77 hz) (by omega) (by omega) ?_
      try simp only [mvH_75, mvH_76, mvH_77, mvH_73, mvH_74]
      refine b_iinc (n := 39) dX10_begins_36 rfl (by decide) rfl rfl ⟨by omega, by omega⟩ ?_
      refine a_goto (t := 2) dX10_begins_39 rfl ?_
      exact ih (b + 1) _ _ _ (by omega) (by omega) (hI.add hc18) K
/-- what holds while costs spread: at PLANT q, BED b; e: whether one got cheaper in this round; m: what all cost when it began -/
def sI (H : aI) (go y : Int → Int) (p : Int) (m q b e : Int) (co by_ fr : Int → Int) : Prop := mvB (H 37 25) (H 37 45) (mS H) (mW H) go y p co by_ ∧ (∀ x, 0 ≤ x → x < H 37 45 → co x < 1000000 → fr x = go (by_ x)) ∧
  ((e = 1 ∧ sm (H 37 45).toNat (fun x => co x + y x) < m) ∨ (e = 0 ∧ sm (H 37 45).toNat (fun x => co x + y x) ≤ m ∧ ∀ q' x, 0 ≤ q' → (q' < q ∨ (q' = q ∧ x < b)) → 0 ≤ go q' → co (go q') < 1000000 → 0 ≤ x → x < H 37 45 → mS H q' x → co x ≤ co (go q') + mW H q' x - mW H q' (go q')))
theorem sI.fix {m q b e : Int} (h : sI H go y p m q b e co by_ fr) (hc : 0 ≤ go q → co (go q) < 1000000 → 0 ≤ b → b < H 37 45 → mS H q b → co b ≤ co (go q) + mW H q b - mW H q (go q)) : sI H go y p m q (b + 1) e co by_ fr := by
  obtain ⟨h1, h2, h3⟩ := h
  refine ⟨h1, h2, h3.imp id fun ⟨h4, h5, h6⟩ => ⟨h4, h5, fun q' x q0 hq hg hf x0 x1 s => ?_⟩⟩
  by_cases k : q' = q ∧ x = b
  · obtain ⟨rfl, rfl⟩ := k
    exact hc hg hf x0 x1 s
  · exact h6 q' x q0 (by omega) hg hf x0 x1 s
theorem sI.next {m q b e : Int} (h : sI H go y p m q b e co by_ fr) (hb : go q < 0 ∨ H 37 45 ≤ b) : sI H go y p m (q + 1) 0 e co by_ fr := by
  obtain ⟨h1, h2, h3⟩ := h
  refine ⟨h1, h2, h3.imp id fun ⟨h4, h5, h6⟩ => ⟨h4, h5, fun q' x q0 hq hg hf x0 x1 s => ?_⟩⟩
  by_cases k : q' = q
  · subst k
    exact h6 q' x q0 (by omega) hg hf x0 x1 s
  · exact h6 q' x q0 (by omega) hg hf x0 x1 s
theorem sI.relax {m q b e v : Int} (hC : mvC (H 37 25) (H 37 45) (mS H) (mW H) go y K) (hp : go p = -1) (h : sI H go y p m q b e co by_ fr) (hq : 0 ≤ q ∧ q < H 37 25) (hg : 0 ≤ go q) (hf : co (go q) < 1000000) (hb : 0 ≤ b ∧ b < H 37 45) (hS : mS H q b) (hv : v = co (go q) + mW H q b - mW H q (go q)) (hlt : v < co b) : sI H go y p m q (b + 1) 1 (wU co b v) (wU by_ b q) (wU fr b (go q)) := by
  obtain ⟨h1, h2, h3⟩ := h
  refine ⟨mvB_relax mW_01 hC hp h1 hq hg hf hb hS hv hlt, fun x x0 x1 hx => ?_, Or.inl ⟨rfl, ?_⟩⟩
  · by_cases e : x = b
    · rw [e, wU_s, wU_s]
    · rw [wU_n e] at hx ⊢
      rw [wU_n e]
      exact h2 x x0 x1 hx
  · have hs := sm_lt (f := fun x => wU co b v x + y x) (h := fun x => co x + y x) (H 37 45).toNat (fun i _ _ => by
      by_cases e : i = b
      · rw [e, wU_s]; omega
      · rw [wU_n e]; exact Int.le_refl _) ⟨b, hb.1, by omega, by rw [wU_s]; omega⟩
    omega
theorem sI.bd {m q b e x : Int} (h : sI H go y p m q b e co by_ fr) (x0 : 0 ≤ x) (x1 : x < H 37 45) : co x ≤ 1000000 := by
  obtain ⟨⟨T, u, h⟩, _⟩ := h
  exact (h x x0 x1).1
theorem sI.lo {m q b e x : Int} (hC : mvC (H 37 25) (H 37 45) (mS H) (mW H) go y K) (h : sI H go y p m q b e co by_ fr) (x0 : 0 ≤ x) (x1 : x < H 37 45) : - K ≤ co x ∨ 1000000 ≤ co x := by
  obtain ⟨⟨T, u, h⟩, _⟩ := h
  by_cases k : co x < 1000000
  · have h1 := ((h x x0 x1).2.2 k).2.1
    have h2 := hC.1 x x0 x1
    omega
  · omega
set_option maxRecDepth 100000 in
set_option maxHeartbeats 4000000 in
theorem be_71 (hz : stZ z) (hR : stR hr) (hP : 0 ≤ H 37 25 ∧ H 37 25 ≤ 40) (hB : 0 ≤ H 37 45 ∧ H 37 45 ≤ 8) (hC : mvC (H 37 25) (H 37 45) (mS H) (mW H) go y K) (hK : K ≤ 1000) (hgp : go p = -1) {m : Int} {q : Int} (hq : 0 ≤ q ∧ q < H 37 25) {Q : Option aV → aZ → aR → aI → aI → Prop} (n : Nat) : ∀ (b e : Int) (x6 : Option aV) (co by_ fr : Int → Int), 0 ≤ b → b + n = H 37 45 → sI H go y p m q b e co by_ fr → (∀ (b e : Int) (x6 : Option aV) (co by_ fr : Int → Int), sI H go y p m (q + 1) 0 e co by_ fr → a_wp G mX10_begins (d + 2) 195 [some (vR 37), some (vI p), some (vI e), some (vI q), some (vI (go q)), some (vI b), x6] [] z hr (mvH H go ma co by_ fr) hl Q) → a_wp G mX10_begins (d + 2) 71 [some (vR 37), some (vI p), some (vI e), some (vI q), some (vI (go q)), some (vI b), x6] [] z hr (mvH H go ma co by_ fr) hl Q := by
  induction n with
  | zero =>
    intro b e x6 co by_ fr h0 hn hI K
    refine a_iload (n := 73) dX10_begins_71 rfl rfl ?_
    refine a_aload_n (n := 74) dX10_begins_73 rfl rfl ?_
    refine a_getI (n := 77) dX10_begins_74 rfl fX10_308 (s37 hz) ?_
    try simp only [up2_eq, mvH_eq, Nat.reduceEqDiff, Int.reduceEq, Int.reduceNeg, and_true, true_and, and_false, false_and, and_self, if_true, if_false, ite_true, ite_false, reduceIte, eq_self]
    refine a_icmp_ge (t := 195) (n := 80) dX10_begins_77 rfl rfl (fun c77 => ?_) (fun c77 => ?_)
    · exact K _ _ _ _ _ _ (hI.next (by omega))
    · have hbd := hI.bd (x := b) h0 (by omega)
      have hlb := hI.lo hC (x := b) h0 (by omega)
      omega
  | succ n ih =>
    intro b e x6 co by_ fr h0 hn hI K
    refine a_iload (n := 73) dX10_begins_71 rfl rfl ?_
    refine a_aload_n (n := 74) dX10_begins_73 rfl rfl ?_
    refine a_getI (n := 77) dX10_begins_74 rfl fX10_308 (s37 hz) ?_
    try simp only [up2_eq, mvH_eq, Nat.reduceEqDiff, Int.reduceEq, Int.reduceNeg, and_true, true_and, and_false, false_and, and_self, if_true, if_false, ite_true, ite_false, reduceIte, eq_self]
    refine a_icmp_ge (t := 195) (n := 80) dX10_begins_77 rfl rfl (fun c77 => ?_) (fun c77 => ?_)
    · omega
    · have hbd := hI.bd (x := b) h0 (by omega)
      have hlb := hI.lo hC (x := b) h0 (by omega)
      refine a_iload (n := 82) dX10_begins_80 rfl rfl ?_
      refine a_if_lt (t := 195) (n := 85) dX10_begins_82 rfl rfl (fun c82 => ?_) (fun c82 => ?_)
      · exact K _ _ _ _ _ _ (hI.next (by omega))
      · have hga := (hC.2 q hq.1 hq.2 (by omega)).1
        have hSa := (hC.2 q hq.1 hq.2 (by omega)).2.1
        have hba := hI.bd (x := go q) (by omega) hga
        have hla := hI.lo hC (x := go q) (by omega) hga
        refine a_aload_n (n := 86) dX10_begins_85 rfl rfl ?_
        refine a_iload_n (n := 87) dX10_begins_86 rfl rfl ?_
        refine a_iload (n := 89) dX10_begins_87 rfl rfl ?_
        refine a_callV (M2 := mX10_costOf) (n := 92) dX10_begins_89 rfl (m_cost (d := d) hz hR ⟨hq.1, by omega⟩ ⟨h0, by omega⟩) kX10_costOf lX10_318 iX10_costOf eX10_costOf (by decide) (by omega) (s37 hz) rfl (Nat.le_of_ble_eq_true rfl) (fun q89 z89 hr89 hi89 hl89 h89 => ?_)
        obtain ⟨e189, e289, e389, e489, c89, rfl, hc89⟩ := h89
        obtain rfl := e189.symm
        obtain rfl := e289.symm
        obtain rfl := e389.symm
        obtain rfl := e489.symm
        show a_wp G _ _ _ _ (vI c89 :: _) _ _ _ _ _
        refine a_ldcw (v := 1000000) (n := 95) dX10_begins_92 rfl ⟨by decide, by decide⟩ cM317 (by decide) ?_
        refine a_icmp_eq (t := 111) (n := 98) dX10_begins_95 rfl rfl (fun c95 => ?_) (fun c95 => ?_)
        · have hw89 := mW_01 (hi := H) q b
          have hS89 : ¬ mS H q b := by rcases hc89 with k | k; exact k.1; omega
          refine a_ldcw (v := 1000000) (n := 114) dX10_begins_111 rfl ⟨by decide, by decide⟩ cM317 (by decide) ?_
          refine a_goto (t := 140) dX10_begins_114 rfl ?_
          refine b_istore (n := 142) dX10_begins_140 rfl (by decide) rfl ?_
          refine a_iload (n := 144) dX10_begins_142 rfl rfl ?_
          refine a_iload (n := 146) dX10_begins_144 rfl rfl ?_
          refine a_icmp_eq (t := 189) (n := 149) dX10_begins_146 rfl rfl (fun c146 => ?_) (fun c146 => ?_)
          · refine b_iinc (n := 192) dX10_begins_189 rfl (by decide) rfl rfl ⟨by omega, by omega⟩ ?_
            refine a_goto (t := 71) dX10_begins_192 rfl ?_
            exact ih (b + 1) e _ _ _ _ (by omega) (by omega) (hI.fix (fun _ _ _ _ s => absurd s hS89)) K
          · refine a_iload (n := 151) dX10_begins_149 rfl rfl ?_
            refine a_aload_n (n := 152) dX10_begins_151 rfl rfl ?_
            refine a_getR (n := 155) dX10_begins_152 rfl fX10_156 (s37 hz) (r37_51 hR) ?_
            refine a_iload (n := 157) dX10_begins_155 rfl rfl ?_
            refine a_iald (n := 158) dX10_begins_157 rfl (s75 hz) (by omega) (by omega) ?_
            try simp only [up2_eq, mvH_eq, Nat.reduceEqDiff, Int.reduceEq, Int.reduceNeg, and_true, true_and, and_false, false_and, and_self, if_true, if_false, ite_true, ite_false, reduceIte, eq_self]
            refine a_icmp_ge (t := 189) (n := 161) dX10_begins_158 rfl rfl (fun c158 => ?_) (fun c158 => ?_)
            · refine b_iinc (n := 192) dX10_begins_189 rfl (by decide) rfl rfl ⟨by omega, by omega⟩ ?_
              refine a_goto (t := 71) dX10_begins_192 rfl ?_
              exact ih (b + 1) e _ _ _ _ (by omega) (by omega) (hI.fix (fun _ _ _ _ s => absurd s hS89)) K
            · omega
        · have hw89 := mW_01 (hi := H) q b
          have hS89 : mS H q b := by rcases hc89 with k | k; omega; exact k.1
          refine a_aload_n (n := 99) dX10_begins_98 rfl rfl ?_
          refine a_getR (n := 102) dX10_begins_99 rfl fX10_156 (s37 hz) (r37_51 hR) ?_
          refine a_iload (n := 104) dX10_begins_102 rfl rfl ?_
          refine a_iald (n := 105) dX10_begins_104 rfl (s75 hz) (by omega) (by omega) ?_
          try simp only [up2_eq, mvH_eq, Nat.reduceEqDiff, Int.reduceEq, Int.reduceNeg, and_true, true_and, and_false, false_and, and_self, if_true, if_false, ite_true, ite_false, reduceIte, eq_self]
          refine a_ldcw (v := 1000000) (n := 108) dX10_begins_105 rfl ⟨by decide, by decide⟩ cM317 (by decide) ?_
          refine a_icmp_lt (t := 117) (n := 111) dX10_begins_108 rfl rfl (fun c108 => ?_) (fun c108 => ?_)
          · refine a_aload_n (n := 118) dX10_begins_117 rfl rfl ?_
            refine a_getR (n := 121) dX10_begins_118 rfl fX10_156 (s37 hz) (r37_51 hR) ?_
            refine a_iload (n := 123) dX10_begins_121 rfl rfl ?_
            refine a_iald (n := 124) dX10_begins_123 rfl (s75 hz) (by omega) (by omega) ?_
            try simp only [up2_eq, mvH_eq, Nat.reduceEqDiff, Int.reduceEq, Int.reduceNeg, and_true, true_and, and_false, false_and, and_self, if_true, if_false, ite_true, ite_false, reduceIte, eq_self]
            refine a_aload_n (n := 125) dX10_begins_124 rfl rfl ?_
            refine a_iload_n (n := 126) dX10_begins_125 rfl rfl ?_
            refine a_iload (n := 128) dX10_begins_126 rfl rfl ?_
            refine a_callV (M2 := mX10_costOf) (n := 131) dX10_begins_128 rfl (m_cost (d := d) hz hR ⟨hq.1, by omega⟩ ⟨h0, by omega⟩) kX10_costOf lX10_318 iX10_costOf eX10_costOf (by decide) (by omega) (s37 hz) rfl (Nat.le_of_ble_eq_true rfl) (fun q128 z128 hr128 hi128 hl128 h128 => ?_)
            obtain ⟨e1128, e2128, e3128, e4128, c128, rfl, hc128⟩ := h128
            obtain rfl := e1128.symm
            obtain rfl := e2128.symm
            obtain rfl := e3128.symm
            obtain rfl := e4128.symm
            show a_wp G _ _ _ _ (vI c128 :: _) _ _ _ _ _
            have hw128 := mW_01 (hi := H) q b
            have hv128 : c128 = mW H q b := by rcases hc128 with k | k; exact absurd hS89 k.1; exact k.2
            refine a_iadd (n := 132) dX10_begins_131 rfl ⟨by omega, by omega⟩ ?_
            refine a_aload_n (n := 133) dX10_begins_132 rfl rfl ?_
            refine a_iload_n (n := 134) dX10_begins_133 rfl rfl ?_
            refine a_iload (n := 136) dX10_begins_134 rfl rfl ?_
            refine a_callV (M2 := mX10_costOf) (n := 139) dX10_begins_136 rfl (m_cost (d := d) hz hR ⟨hq.1, by omega⟩ ⟨by omega, by omega⟩) kX10_costOf lX10_318 iX10_costOf eX10_costOf (by decide) (by omega) (s37 hz) rfl (Nat.le_of_ble_eq_true rfl) (fun q136 z136 hr136 hi136 hl136 h136 => ?_)
            obtain ⟨e1136, e2136, e3136, e4136, c136, rfl, hc136⟩ := h136
            obtain rfl := e1136.symm
            obtain rfl := e2136.symm
            obtain rfl := e3136.symm
            obtain rfl := e4136.symm
            show a_wp G _ _ _ _ (vI c136 :: _) _ _ _ _ _
            have hw136 := mW_01 (hi := H) q (go q)
            have hv136 : c136 = mW H q (go q) := by rcases hc136 with k | k; exact absurd hSa k.1; exact k.2
            refine a_isub (n := 140) dX10_begins_139 rfl ⟨by omega, by omega⟩ ?_
            refine b_istore (n := 142) dX10_begins_140 rfl (by decide) rfl ?_
            refine a_iload (n := 144) dX10_begins_142 rfl rfl ?_
            refine a_iload (n := 146) dX10_begins_144 rfl rfl ?_
            refine a_icmp_eq (t := 189) (n := 149) dX10_begins_146 rfl rfl (fun c146 => ?_) (fun c146 => ?_)
            · refine b_iinc (n := 192) dX10_begins_189 rfl (by decide) rfl rfl ⟨by omega, by omega⟩ ?_
              refine a_goto (t := 71) dX10_begins_192 rfl ?_
              exact ih (b + 1) e _ _ _ _ (by omega) (by omega) (hI.fix (fun _ _ _ _ _ => (by rw [c146]; omega))) K
            · refine a_iload (n := 151) dX10_begins_149 rfl rfl ?_
              refine a_aload_n (n := 152) dX10_begins_151 rfl rfl ?_
              refine a_getR (n := 155) dX10_begins_152 rfl fX10_156 (s37 hz) (r37_51 hR) ?_
              refine a_iload (n := 157) dX10_begins_155 rfl rfl ?_
              refine a_iald (n := 158) dX10_begins_157 rfl (s75 hz) (by omega) (by omega) ?_
              try simp only [up2_eq, mvH_eq, Nat.reduceEqDiff, Int.reduceEq, Int.reduceNeg, and_true, true_and, and_false, false_and, and_self, if_true, if_false, ite_true, ite_false, reduceIte, eq_self]
              refine a_icmp_ge (t := 189) (n := 161) dX10_begins_158 rfl rfl (fun c158 => ?_) (fun c158 => ?_)
              · refine b_iinc (n := 192) dX10_begins_189 rfl (by decide) rfl rfl ⟨by omega, by omega⟩ ?_
                refine a_goto (t := 71) dX10_begins_192 rfl ?_
                exact ih (b + 1) e _ _ _ _ (by omega) (by omega) (hI.fix (fun _ _ _ _ _ => (by omega))) K
              · refine a_aload_n (n := 162) dX10_begins_161 rfl rfl ?_
                refine a_getR (n := 165) dX10_begins_162 rfl fX10_156 (s37 hz) (r37_51 hR) ?_
                refine a_iload (n := 167) dX10_begins_165 rfl rfl ?_
                refine a_iload (n := 169) dX10_begins_167 rfl rfl ?_
                refine a_iast (n := 170) dX10_begins_169 rfl (s75 hz) (by omega) (by omega) ?_
                try simp only [mvH_75, mvH_76, mvH_77, mvH_73, mvH_74]
                refine a_aload_n (n := 171) dX10_begins_170 rfl rfl ?_
                refine a_getR (n := 174) dX10_begins_171 rfl fX10_159 (s37 hz) (r37_52 hR) ?_
                refine a_iload (n := 176) dX10_begins_174 rfl rfl ?_
                refine a_iload_n (n := 177) dX10_begins_176 rfl rfl ?_
                refine a_iast (n := 178) dX10_begins_177 rfl (s76 hz) (by omega) (by omega) ?_
                try simp only [mvH_75, mvH_76, mvH_77, mvH_73, mvH_74]
                refine a_aload_n (n := 179) dX10_begins_178 rfl rfl ?_
                refine a_getR (n := 182) dX10_begins_179 rfl fX10_162 (s37 hz) (r37_53 hR) ?_
                refine a_iload (n := 184) dX10_begins_182 rfl rfl ?_
                refine a_iload (n := 186) dX10_begins_184 rfl rfl ?_
                refine a_iast (n := 187) dX10_begins_186 rfl (s77 hz) (by omega) (by omega) ?_
                try simp only [mvH_75, mvH_76, mvH_77, mvH_73, mvH_74]
                refine a_iconst (n := 188) dX10_begins_187 rfl ⟨by decide, by decide⟩ ?_
                refine b_istore_n (n := 189) dX10_begins_188 rfl (by decide) rfl ?_
                refine b_iinc (n := 192) dX10_begins_189 rfl (by decide) rfl rfl ⟨by omega, by omega⟩ ?_
                refine a_goto (t := 71) dX10_begins_192 rfl ?_
                exact ih (b + 1) 1 _ _ _ _ (by omega) (by omega) (hI.relax hC hgp hq (by omega) (by omega) ⟨h0, by omega⟩ hS89 (by omega) (by omega)) K
          · refine a_ldcw (v := 1000000) (n := 114) dX10_begins_111 rfl ⟨by decide, by decide⟩ cM317 (by decide) ?_
            refine a_goto (t := 140) dX10_begins_114 rfl ?_
            refine b_istore (n := 142) dX10_begins_140 rfl (by decide) rfl ?_
            refine a_iload (n := 144) dX10_begins_142 rfl rfl ?_
            refine a_iload (n := 146) dX10_begins_144 rfl rfl ?_
            refine a_icmp_eq (t := 189) (n := 149) dX10_begins_146 rfl rfl (fun c146 => ?_) (fun c146 => ?_)
            · refine b_iinc (n := 192) dX10_begins_189 rfl (by decide) rfl rfl ⟨by omega, by omega⟩ ?_
              refine a_goto (t := 71) dX10_begins_192 rfl ?_
              exact ih (b + 1) e _ _ _ _ (by omega) (by omega) (hI.fix (fun _ k _ _ _ => absurd k (by omega))) K
            · refine a_iload (n := 151) dX10_begins_149 rfl rfl ?_
              refine a_aload_n (n := 152) dX10_begins_151 rfl rfl ?_
              refine a_getR (n := 155) dX10_begins_152 rfl fX10_156 (s37 hz) (r37_51 hR) ?_
              refine a_iload (n := 157) dX10_begins_155 rfl rfl ?_
              refine a_iald (n := 158) dX10_begins_157 rfl (s75 hz) (by omega) (by omega) ?_
              try simp only [up2_eq, mvH_eq, Nat.reduceEqDiff, Int.reduceEq, Int.reduceNeg, and_true, true_and, and_false, false_and, and_self, if_true, if_false, ite_true, ite_false, reduceIte, eq_self]
              refine a_icmp_ge (t := 189) (n := 161) dX10_begins_158 rfl rfl (fun c158 => ?_) (fun c158 => ?_)
              · refine b_iinc (n := 192) dX10_begins_189 rfl (by decide) rfl rfl ⟨by omega, by omega⟩ ?_
                refine a_goto (t := 71) dX10_begins_192 rfl ?_
                exact ih (b + 1) e _ _ _ _ (by omega) (by omega) (hI.fix (fun _ k _ _ _ => absurd k (by omega))) K
              · omega
end M23
