theorem aug_or {by_ g0 : Int → Int} {q : Int} (n : Nat) : ∀ (b : Int) (h : Int → Int), 0 ≤ aug by_ g0 n b h q ∨ aug by_ g0 n b h q = h q := by
  induction n with
  | zero => intro b h; exact Or.inr rfl
  | succ n ih =>
    intro b h
    rw [aug]
    split
    · exact Or.inr rfl
    · rcases ih (g0 (by_ b)) (wU h (by_ b) b) with k | k
      · exact Or.inl k
      · rw [k]
        by_cases e : q = by_ b
        · rw [e, wU_s]; exact Or.inl (by omega)
        · rw [wU_n e]; exact Or.inr rfl
/-- a plan: each that lies goes into a BED that suits it, and all have room -/
def mvP (nP nB : Int) (S : Int → Int → Prop) (rm : Int → Int) (ly : Int → Prop) (h : Int → Int) : Prop := (∀ q, 0 ≤ q → q < nP → (0 ≤ h q ↔ ly q) ∧ h q < nB ∧ (0 ≤ h q → S q (h q))) ∧ ∀ x, 0 ≤ x → x < nB → ld nP.toNat h x ≤ rm x
def mvT (nP : Int) (w : Int → Int → Int) (h : Int → Int) : Int := sm nP.toNat (fun q => if 0 ≤ h q then w q (h q) else 0)
/-- what moves must answer -/
def mvAns (nP nB : Int) (S : Int → Int → Prop) (w : Int → Int → Int) (rm : Int → Int) (ly : Int → Prop) (v : Int) : Prop := (v = -1 ∧ ∀ h, ¬ mvP nP nB S rm ly h) ∨ ∃ g, mvP nP nB S rm ly g ∧ v = mvT nP w g ∧ ∀ h, mvP nP nB S rm ly h → mvT nP w g ≤ mvT nP w h
theorem mvAns_u {nP nB v1 v2 : Int} {S : Int → Int → Prop} {w : Int → Int → Int} {rm : Int → Int} {ly : Int → Prop} (h1 : mvAns nP nB S w rm ly v1) (h2 : mvAns nP nB S w rm ly v2) : v1 = v2 := by
  rcases h1 with ⟨a1, a2⟩ | ⟨g1, a1, a2, a3⟩
  · rcases h2 with ⟨b1, b2⟩ | ⟨g2, b1, b2, b3⟩
    · rw [a1, b1]
    · exact absurd b1 (a2 g2)
  · rcases h2 with ⟨b1, b2⟩ | ⟨g2, b1, b2, b3⟩
    · exact absurd a1 (b2 g1)
    · rw [a2, b2]
      exact Int.le_antisymm (a3 g2 b1) (b3 g1 a1)
/-- what holds of the plan when the first p are in it -/
def mI (nP nB : Int) (S : Int → Int → Prop) (w : Int → Int → Int) (rm : Int → Int) (ly : Int → Prop) (p : Int) (go y : Int → Int) (K : Int) : Prop := mvC nP nB S w go y K ∧ K ≤ 8 * p ∧ (∀ x, 0 ≤ x → x < nB → 0 < y x → rm x ≤ ld nP.toNat go x) ∧ (∀ x, 0 ≤ x → x < nB → ld nP.toNat go x ≤ rm x) ∧ ∀ q, 0 ≤ q → q < nP → (0 ≤ go q ↔ (q < p ∧ ly q)) ∧ (0 ≤ go q ∨ go q = -1)
section MI
variable {nP nB p K : Int} {S : Int → Int → Prop} {w : Int → Int → Int} {rm go y : Int → Int} {ly : Int → Prop}
theorem mI.skip (h : mI nP nB S w rm ly p go y K) (hl : ¬ ly p) : mI nP nB S w rm ly (p + 1) go y K := by
  obtain ⟨h1, h2, h3, h4, h5⟩ := h
  refine ⟨h1, by omega, h3, h4, fun q q0 q1 => ⟨(h5 q q0 q1).1.trans ⟨fun k => ⟨by omega, k.2⟩, fun k => ⟨?_, k.2⟩⟩, (h5 q q0 q1).2⟩⟩
  by_cases e : q = p
  · rw [e] at k; exact absurd k.2 hl
  · have := k.1; omega
theorem mI.pp (h : mI nP nB S w rm ly p go y K) (hp : 0 ≤ p ∧ p < nP) : go p = -1 := by
  obtain ⟨k1, k2⟩ := h.2.2.2.2 p hp.1 hp.2
  rcases k2 with k2 | k2
  · have := (k1.mp k2).1; omega
  · exact k2
theorem mI.no (h : mI nP nB S w rm ly p go y K) (hp : 0 ≤ p ∧ p < nP) (hl : ly p) (hnB : 0 ≤ nB ∧ nB ≤ 8) (hw : ∀ q b, 0 ≤ w q b ∧ w q b ≤ 1) {cost by_ : Int → Int} (hB : mvB nP nB S w go y p cost by_) (hF : mvF nP nB S w go cost) (hfull : ∀ x, 0 ≤ x → x < nB → cost x < 1000000 → rm x ≤ ld nP.toNat go x) : ∀ k, ¬ mvP nP nB S rm ly k := fun k hk => by
  refine mv_none hp (h.pp hp) h.1 hB hF hw hfull (fun q q0 q1 hq => ?_) (fun q q0 q1 => (hk.1 q q0 q1).2.1) hk.2 hnB (fun q q0 q1 => ?_)
  · have hlq : ly q := by
      rcases hq with hq | hq
      · exact ((h.2.2.2.2 q q0 q1).1.mp hq).2
      · rw [hq]; exact hl
    have k2 := (hk.1 q q0 q1).1.mpr hlq
    exact ⟨k2, (hk.1 q q0 q1).2.2 k2⟩
  · rcases (h.2.2.2.2 q q0 q1).2 with k2 | k2
    · exact (h.1.2 q q0 q1 k2).1
    · omega
theorem mI.yes (h : mI nP nB S w rm ly p go y K) (hp : 0 ≤ p ∧ p < nP) (hl : ly p) (hnB : 0 ≤ nB ∧ nB ≤ 8) (hw : ∀ q b, 0 ≤ w q b ∧ w q b ≤ 1) {cost by_ : Int → Int} (hB : mvB nP nB S w go y p cost by_) (hF : mvF nP nB S w go cost) {best : Int} (hb : 0 ≤ best ∧ best < nB) (hbf : cost best < 1000000) (hbr : ld nP.toNat go best < rm best) (hmin : ∀ x, 0 ≤ x → x < nB → ld nP.toNat go x < rm x → cost best ≤ cost x) {n : Nat} (hn : nB ≤ n) :
    mI nP nB S w rm ly (p + 1) (aug by_ go n best go) (yN y cost (cost best)) (K + 8) ∧ ∀ x, 0 ≤ x → ld nP.toNat (aug by_ go n best go) x = ld nP.toNat go x + (if x = best then 1 else 0) := by
  have hpp := h.pp hp
  obtain ⟨h1, h2, h3, h4, h5⟩ := h
  obtain ⟨a1, a2, a3, a4⟩ := mv_in hw hnB.2 h1 hp hpp hB hF h3 h4 hb hbf hbr hmin hn
  refine ⟨⟨a1, by omega, a3, a4, fun q q0 q1 => ⟨?_, ?_⟩⟩, a2.2.2.2⟩
  · by_cases e : q = p
    · rw [e]; exact ⟨fun _ => ⟨by omega, hl⟩, fun _ => a2.2.2.1⟩
    · refine (a2.2.1 q q0 q1 e).trans ((h5 q q0 q1).1.trans ⟨fun k => ⟨by omega, k.2⟩, fun k => ⟨by omega, k.2⟩⟩)
  · rcases aug_or n best go (by_ := by_) (g0 := go) (q := q) with k | k
    · exact Or.inl k
    · rw [k]; exact (h5 q q0 q1).2
theorem mI.ans (hB : 0 ≤ nB) (h : mI nP nB S w rm ly nP go y K) : mvAns nP nB S w rm ly (mvT nP w go) := by
  obtain ⟨h1, h2, h3, h4, h5⟩ := h
  have hn : ∀ q, 0 ≤ q → q < nP → ¬ 0 ≤ go q → go q = -1 := fun q q0 q1 k => (h5 q q0 q1).2.elim (fun j => absurd j k) id
  have hg : ∀ q, 0 ≤ q → q < nP → go q < nB := fun q q0 q1 => by
    by_cases k : 0 ≤ go q
    · exact (h1.2 q q0 q1 k).1
    · have := hn q q0 q1 k; omega
  refine Or.inr ⟨go, ⟨fun q q0 q1 => ⟨(h5 q q0 q1).1.trans ⟨fun k => k.2, fun k => ⟨q1, k⟩⟩, hg q q0 q1, fun k => (h1.2 q q0 q1 k).2.1⟩, h4⟩, rfl, fun k hk => ?_⟩
  exact mv_opt h1 h3 (fun q q0 q1 => ((h5 q q0 q1).1.trans ⟨fun k => k.2, fun k => ⟨q1, k⟩⟩).trans (hk.1 q q0 q1).1.symm) (fun q q0 q1 => ⟨hg q q0 q1, (hk.1 q q0 q1).2.1⟩) (fun q q0 q1 => (hk.1 q q0 q1).2.2) hk.2
end MI
section M25
variable {G : aG} {d : Nat} {z : aZ} {hr : aR} {H hl : aI} {go ma co by_ fr y : Int → Int} {p K : Int}
/-- what comes comes to -/
def cQ (z : aZ) (hr : aR) (H hl : aI) (p : Int) (K : Int) : Option aV → aZ → aR → aI → aI → Prop := fun r z' hr' hi' hl' => z' = z ∧ hr' = hr ∧ hl' = hl ∧ ∃ go ma co by_ fr : Int → Int, hi' = mvH H go ma co by_ fr ∧ ((r = some (vI 0) ∧ ∀ k, ¬ mvP (H 37 25) (H 37 45) (mS H) (H 72) (fun q => 0 ≤ H 59 q) k) ∨ (r = some (vI 1) ∧ (∃ y, mI (H 37 25) (H 37 45) (mS H) (mW H) (H 72) (fun q => 0 ≤ H 59 q) (p + 1) go y (K + 8)) ∧ ∀ x, 0 ≤ x → x < H 37 45 → ma x = ld (H 37 25).toNat go x))
set_option maxRecDepth 100000 in
set_option maxHeartbeats 4000000 in
theorem co_119 {hi : aI} {Q : Option aV → aZ → aR → aI → aI → Prop} {t b : Int} (hq : Q (some (vI 1)) z hr hi hl) : a_wp G mX10_comes (d + 3) 119 [some (vR 37), some (vI p), some (vI t), some (vI b)] [] z hr hi hl Q := by
  refine a_iconst (n := 120) dX10_comes_119 rfl ⟨by decide, by decide⟩ ?_
  refine a_zreturn dX10_comes_120 rfl (by omega) ?_
  exact hq
set_option maxRecDepth 100000 in
set_option maxHeartbeats 4000000 in
theorem co_75 (hz : stZ z) (hR : stR hr) (hP : 0 ≤ H 37 25 ∧ H 37 25 ≤ 40) (hB : 0 ≤ H 37 45 ∧ H 37 45 ≤ 8) (hp : 0 ≤ p ∧ p < H 37 25) (hly : 0 ≤ H 59 p) (hI : mI (H 37 25) (H 37 45) (mS H) (mW H) (H 72) (fun q => 0 ≤ H 59 q) p go y K) (hma : ∀ x, 0 ≤ x → x < H 37 45 → ma x = ld (H 37 25).toNat go x) (hrm : ∀ x, 0 ≤ x → x < H 37 45 → H 72 x ≤ 40) (hBB : mvB (H 37 25) (H 37 45) (mS H) (mW H) go y p co by_) (hFF : mvF (H 37 25) (H 37 45) (mS H) (mW H) go co) (hfr : ∀ x, 0 ≤ x → x < H 37 45 → co x < 1000000 → fr x = go (by_ x)) {t b : Int} (hcB : cB H ma co (H 37 45) t) : a_wp G mX10_comes (d + 3) 75 [some (vR 37), some (vI p), some (vI t), some (vI b)] [] z hr (mvH H go ma co by_ fr) hl (cQ z hr H hl p K) := by
  refine a_iload_n (n := 76) dX10_comes_75 rfl rfl ?_
  refine a_if_ge (t := 81) (n := 79) dX10_comes_76 rfl rfl (fun c76 => ?_) (fun c76 => ?_)
  · have ht : 0 ≤ t ∧ t < H 37 45 ∧ ma t < H 72 t ∧ 0 ≤ ma t := by
      rcases hcB with k | ⟨k1, k2, k3, _⟩
      · omega
      · exact ⟨k1, k2, k3, by rw [hma t k1 k2]; exact ld_0 _⟩
    have hrt := hrm t ht.1 ht.2.1
    refine a_aload_n (n := 82) dX10_comes_81 rfl rfl ?_
    refine a_getR (n := 85) dX10_comes_82 rfl fX10_153 (s37 hz) (r37_50 hR) ?_
    refine a_iload_n (n := 86) dX10_comes_85 rfl rfl ?_
    refine a_dup2 (n := 87) dX10_comes_86 rfl rfl rfl ?_
    refine a_iald (n := 88) dX10_comes_87 rfl (s74 hz) (by omega) (by omega) ?_
    try simp only [up2_eq, mvH_eq, Nat.reduceEqDiff, Int.reduceEq, Int.reduceNeg, and_true, true_and, and_false, false_and, and_self, if_true, if_false, ite_true, ite_false, reduceIte, eq_self]
    refine a_iconst (n := 89) dX10_comes_88 rfl ⟨by decide, by decide⟩ ?_
    refine a_iadd (n := 90) dX10_comes_89 rfl ⟨by omega, by omega⟩ ?_
    refine a_iast (n := 91) dX10_comes_90 rfl (s74 hz) (by omega) (by omega) ?_
    try simp only [mvH_75, mvH_76, mvH_77, mvH_73, mvH_74]
    refine a_iload_n (n := 92) dX10_comes_91 rfl rfl ?_
    refine b_istore_n (n := 93) dX10_comes_92 rfl (by decide) rfl ?_
    rcases hcB with k | ⟨k1, k2, k3, k4, k5⟩
    · omega
    obtain ⟨rk, hrk⟩ := mvB_rank hBB
    refine co_93 hz hR hP hB (hI.pp hp) hrk hBB hfr (H 37 45).toNat t _ ⟨k1, k2⟩ k4 (by have := (hrk t k1 k2 k4).1; omega) ?_
    refine co_119 ⟨rfl, rfl, rfl, _, _, _, _, _, rfl, Or.inr ⟨rfl, ?_, ?_⟩⟩
    · exact ⟨_, (hI.yes hp hly hB mW_01 hBB hFF ⟨k1, k2⟩ k4 (by rw [← hma t k1 k2]; exact k3) (fun x x0 x1 j => by
        by_cases e : co x < 1000000
        · exact k5 x x0 x1 (by rw [hma x x0 x1]; exact j) e
        · omega) (by omega)).1⟩
    · intro x x0 x1
      rw [(hI.yes hp hly hB mW_01 hBB hFF ⟨k1, k2⟩ k4 (by rw [← hma t k1 k2]; exact k3) (fun x x0 x1 j => by
        by_cases e : co x < 1000000
        · exact k5 x x0 x1 (by rw [hma x x0 x1]; exact j) e
        · omega) (by omega)).2 x x0]
      by_cases e : x = t
      · rw [e, wU_s, if_pos rfl, hma t k1 k2]
      · rw [wU_n e, if_neg e, hma x x0 x1]; omega
  · refine a_iconst (n := 80) dX10_comes_79 rfl ⟨by decide, by decide⟩ ?_
    refine a_zreturn dX10_comes_80 rfl (by omega) ?_
    rcases hcB with ⟨k1, k2⟩ | ⟨k1, k2, k3, k4, k5⟩
    · exact ⟨rfl, rfl, rfl, go, ma, co, by_, fr, rfl, Or.inl ⟨rfl, hI.no hp hly hB mW_01 hBB hFF (fun x x0 x1 j => by have := k2 x x0 x1; have := hma x x0 x1; omega)⟩⟩
    · omega
set_option maxRecDepth 100000 in
set_option maxHeartbeats 4000000 in
theorem m_comes (hz : stZ z) (hR : stR hr) (hP : 0 ≤ H 37 25 ∧ H 37 25 ≤ 40) (hB : 0 ≤ H 37 45 ∧ H 37 45 ≤ 8) (hp : 0 ≤ p ∧ p < H 37 25) (hly : 0 ≤ H 59 p) (hI : mI (H 37 25) (H 37 45) (mS H) (mW H) (H 72) (fun q => 0 ≤ H 59 q) p go y K) (hma : ∀ x, 0 ≤ x → x < H 37 45 → ma x = ld (H 37 25).toNat go x) (hrm : ∀ x, 0 ≤ x → x < H 37 45 → H 72 x ≤ 40) : a_ct G mX10_comes (d + 3) [vR 37, vI p] z hr (mvH H go ma co by_ fr) hl (cQ z hr H hl p K) := by
  refine a_ct_of rfl (Nat.le_of_ble_eq_true rfl) ?_
  refine a_aload_n (n := 1) dX10_comes_0 rfl rfl ?_
  refine a_iload_n (n := 2) dX10_comes_1 rfl rfl ?_
  refine a_callV (M2 := mX10_begins) (n := 5) dX10_comes_2 rfl (m_begins (d := d) hz hR hP hB hI.1 (by have := hI.2.1; omega) (hI.pp hp) hp) kX10_begins lX10_321 iX10_begins eX10_begins (by decide) (by omega) (s37 hz) rfl (Nat.le_of_ble_eq_true rfl) (fun q2 z2 hr2 hi2 hl2 h2 => ?_)
  obtain ⟨e12, e22, e32, rfl, co1, by1, fr1, rfl, b1, b2, b3⟩ := h2
  obtain rfl := e12.symm
  obtain rfl := e22.symm
  obtain rfl := e32.symm
  show a_wp G _ _ _ _ [] _ _ _ _ _
  refine a_iconst (n := 6) dX10_comes_5 rfl ⟨by decide, by decide⟩ ?_
  refine b_istore_n (n := 7) dX10_comes_6 rfl (by decide) rfl ?_
  refine a_iconst (n := 8) dX10_comes_7 rfl ⟨by decide, by decide⟩ ?_
  refine b_istore_n (n := 9) dX10_comes_8 rfl (by decide) rfl ?_
  exact co_9 hz hR hB (H 37 45).toNat 0 (-1) (by decide) (by omega) (Or.inl ⟨rfl, fun x x0 x1 => by omega⟩) (fun t ht => co_75 hz hR hP hB hp hly hI hma hrm b1 b2 b3 ht)
end M25
