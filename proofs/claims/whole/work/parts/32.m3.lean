section M3
variable {G : aG} {d : Nat} {z : aZ} {hr : aR} {hi hl : aI}
/-- the WILD one that mothers, and what it was cut or split from, lead to (f: kinds, g: of) -/
def mRoot (f g : Int → Int) : Nat → Int → Int
  | 0, q => q
  | n + 1, q => if f q = 0 then q else mRoot f g n (g q)
/-- every plant that isn't WILD comes of an earlier one -/
def mTree (hi : aI) : Prop := 0 ≤ hi 37 25 ∧ hi 37 25 ≤ 40 ∧ ∀ q, 0 ≤ q → q < hi 37 25 → ¬ hi 53 q = 0 → 0 ≤ hi 54 q ∧ hi 54 q < q
set_option maxRecDepth 100000 in
set_option maxHeartbeats 4000000 in
theorem m_rootOf_l (hz : stZ z) (hR : stR hr) (hT : mTree hi) {p0 : Int} : ∀ (n : Nat) (q : Int), 0 ≤ q → q < hi 37 25 → q < n → a_wp G mX10_rootOf d 2 [some (vR 37), some (vI p0), some (vI q)] [] z hr hi hl (Qs z hr hi hl (fun r => r = some (vI (mRoot (hi 53) (hi 54) n q)))) := by
  intro n
  have hT1 := hT.1
  have hT2 := hT.2.1
  induction n with
  | zero => intro q h1 h2 h3; exfalso; omega
  | succ n ih =>
    intro q h1 h2 h3
    refine a_aload_n (n := 3) dX10_rootOf_2 rfl rfl ?_
    refine a_getR (n := 6) dX10_rootOf_3 rfl fX10_90 (s37 hz) (r37_26 hR) ?_
    refine a_iload_n (n := 7) dX10_rootOf_6 rfl rfl ?_
    refine a_iald (n := 8) dX10_rootOf_7 rfl (s53 hz) (by omega) (by omega) ?_
    refine a_if_eq (t := 21) (n := 11) dX10_rootOf_8 rfl rfl (fun c8 => ?_) (fun c8 => ?_)
    · refine a_iload_n (n := 22) dX10_rootOf_21 rfl rfl ?_
      refine a_ireturn dX10_rootOf_22 rfl ?_
      exact ⟨rfl, rfl, rfl, rfl, by rw [mRoot, if_pos c8]⟩
    · have hT9 := hT.2.2 q (by omega) (by omega) c8
      rw [mRoot, if_neg c8]
      refine a_aload_n (n := 12) dX10_rootOf_11 rfl rfl ?_
      refine a_getR (n := 15) dX10_rootOf_12 rfl fX10_93 (s37 hz) (r37_27 hR) ?_
      refine a_iload_n (n := 16) dX10_rootOf_15 rfl rfl ?_
      refine a_iald (n := 17) dX10_rootOf_16 rfl (s54 hz) (by omega) (by omega) ?_
      refine a_istore_n (n := 18) dX10_rootOf_17 rfl (by decide) ?_
      refine a_goto (t := 2) dX10_rootOf_18 rfl ?_
      exact ih _ (by omega) (by omega) (by omega)
set_option maxRecDepth 100000 in
set_option maxHeartbeats 4000000 in
theorem m_rootOf (hz : stZ z) (hR : stR hr) (hT : mTree hi) {p : Int} (hp : 0 ≤ p ∧ p < hi 37 25) : a_ct G mX10_rootOf (d + 0) [vR 37, vI p] z hr hi hl (Qs z hr hi hl (fun r => r = some (vI (mRoot (hi 53) (hi 54) 40 p)))) := by
  refine a_ct_of rfl (Nat.le_of_ble_eq_true rfl) ?_
  refine a_iload_n (n := 1) dX10_rootOf_0 rfl rfl ?_
  refine a_istore_n (n := 2) dX10_rootOf_1 rfl (by decide) ?_
  exact m_rootOf_l hz hR hT 40 p (by omega) (by omega) (by have := hT.2.1; omega)
/-- the first one, by what it was split from, that isn't a SPLIT -/
def mStem (f g : Int → Int) : Nat → Int → Int
  | 0, q => q
  | n + 1, q => if f q = 3 then mStem f g n (g q) else q
set_option maxRecDepth 100000 in
set_option maxHeartbeats 4000000 in
theorem m_isCut_l (hz : stZ z) (hR : stR hr) (hT : mTree hi) {p0 : Int} : ∀ (n : Nat) (q : Int), 0 ≤ q → q < hi 37 25 → q < n → a_wp G mX10_isCut d 2 [some (vR 37), some (vI p0), some (vI q)] [] z hr hi hl (Qs z hr hi hl (isB (hi 53 (mStem (hi 53) (hi 54) n q) = 2))) := by
  intro n
  have hT1 := hT.1
  have hT2 := hT.2.1
  induction n with
  | zero => intro q h1 h2 h3; exfalso; omega
  | succ n ih =>
    intro q h1 h2 h3
    refine a_aload_n (n := 3) dX10_isCut_2 rfl rfl ?_
    refine a_getR (n := 6) dX10_isCut_3 rfl fX10_90 (s37 hz) (r37_26 hR) ?_
    refine a_iload_n (n := 7) dX10_isCut_6 rfl rfl ?_
    refine a_iald (n := 8) dX10_isCut_7 rfl (s53 hz) (by omega) (by omega) ?_
    refine a_iconst (n := 9) dX10_isCut_8 rfl ⟨by decide, by decide⟩ ?_
    refine a_icmp_ne (t := 22) (n := 12) dX10_isCut_9 rfl rfl (fun c9 => ?_) (fun c9 => ?_)
    · refine a_aload_n (n := 23) dX10_isCut_22 rfl rfl ?_
      refine a_getR (n := 26) dX10_isCut_23 rfl fX10_90 (s37 hz) (r37_26 hR) ?_
      refine a_iload_n (n := 27) dX10_isCut_26 rfl rfl ?_
      refine a_iald (n := 28) dX10_isCut_27 rfl (s53 hz) (by omega) (by omega) ?_
      refine a_iconst (n := 29) dX10_isCut_28 rfl ⟨by decide, by decide⟩ ?_
      refine a_icmp_ne (t := 36) (n := 32) dX10_isCut_29 rfl rfl (fun c29 => ?_) (fun c29 => ?_)
      · refine a_iconst (n := 37) dX10_isCut_36 rfl ⟨by decide, by decide⟩ ?_
        refine a_zreturn dX10_isCut_37 rfl (by omega) ?_
        exact ⟨rfl, rfl, rfl, rfl, _, rfl, by rw [mStem, if_neg c9]; omega⟩
      · refine a_iconst (n := 33) dX10_isCut_32 rfl ⟨by decide, by decide⟩ ?_
        refine a_goto (t := 37) dX10_isCut_33 rfl ?_
        refine a_zreturn dX10_isCut_37 rfl (by omega) ?_
        exact ⟨rfl, rfl, rfl, rfl, _, rfl, by rw [mStem, if_neg c9]; omega⟩
    · have hT9 := hT.2.2 q (by omega) (by omega) (by omega)
      rw [mStem, if_pos c9]
      refine a_aload_n (n := 13) dX10_isCut_12 rfl rfl ?_
      refine a_getR (n := 16) dX10_isCut_13 rfl fX10_93 (s37 hz) (r37_27 hR) ?_
      refine a_iload_n (n := 17) dX10_isCut_16 rfl rfl ?_
      refine a_iald (n := 18) dX10_isCut_17 rfl (s54 hz) (by omega) (by omega) ?_
      refine a_istore_n (n := 19) dX10_isCut_18 rfl (by decide) ?_
      refine a_goto (t := 2) dX10_isCut_19 rfl ?_
      exact ih _ (by omega) (by omega) (by omega)
set_option maxRecDepth 100000 in
set_option maxHeartbeats 4000000 in
theorem m_isCut (hz : stZ z) (hR : stR hr) (hT : mTree hi) {p : Int} (hp : 0 ≤ p ∧ p < hi 37 25) : a_ct G mX10_isCut (d + 0) [vR 37, vI p] z hr hi hl (Qs z hr hi hl (isB (hi 53 (mStem (hi 53) (hi 54) 40 p) = 2))) := by
  refine a_ct_of rfl (Nat.le_of_ble_eq_true rfl) ?_
  refine a_iload_n (n := 1) dX10_isCut_0 rfl rfl ?_
  refine a_istore_n (n := 2) dX10_isCut_1 rfl (by decide) ?_
  exact m_isCut_l hz hR hT 40 p (by omega) (by omega) (by have := hT.2.1; omega)
/-- of the first n that were told (a: of whom, b: on what day, c: what) the latest of x up to the day dy; 0 if none was -/
def mLast (a b c : Int → Int) (x dy : Int) : Nat → Int
  | 0 => 0
  | n + 1 => if a n = x ∧ b n ≤ dy then c n else mLast a b c x dy n
theorem mLast_s {a b c : Int → Int} {x dy k : Int} (h : 0 ≤ k) : mLast a b c x dy (k + 1).toNat = if a k = x ∧ b k ≤ dy then c k else mLast a b c x dy k.toNat := by
  rw [show (k + 1).toNat = k.toNat + 1 by omega, mLast, Int.toNat_of_nonneg h]
/-- what a NAME is joined to as of a day -/
abbrev mJoin (hi : aI) (x dy : Int) : Int := mLast (hi 67) (hi 69) (hi 68) x dy (hi 37 41).toNat
set_option maxRecDepth 100000 in
set_option maxHeartbeats 4000000 in
theorem m_joinedTo_l (hz : stZ z) (hR : stR hr) (hj : hi 37 41 ≤ 100) {x dy : Int} : ∀ (n : Nat) (to k : Int), to = mLast (hi 67) (hi 69) (hi 68) x dy k.toNat → 0 ≤ k → k + n = hi 37 41 → a_wp G mX10_joinedTo d 5 [some (vR 37), some (vI x), some (vI dy), some (vI to), some (vI k)] [] z hr hi hl (Qs z hr hi hl (fun r => r = some (vI (mJoin hi x dy)))) := by
  intro n
  induction n with
  | zero =>
    intro to k e1 h0 h1
    refine a_iload (n := 7) dX10_joinedTo_5 rfl rfl ?_
    refine a_aload_n (n := 8) dX10_joinedTo_7 rfl rfl ?_
    refine a_getI (n := 11) dX10_joinedTo_8 rfl fX10_293 (s37 hz) ?_
    refine a_icmp_ge (t := 54) (n := 14) dX10_joinedTo_11 rfl rfl (fun c11 => ?_) (fun c11 => ?_)
    · refine a_iload_n (n := 55) dX10_joinedTo_54 rfl rfl ?_
      refine a_ireturn dX10_joinedTo_55 rfl ?_
      exact ⟨rfl, rfl, rfl, rfl, by rw [e1, show k = hi 37 41 by omega]⟩
    · exfalso; omega
  | succ n ih =>
    intro to k e1 h0 h1
    refine a_iload (n := 7) dX10_joinedTo_5 rfl rfl ?_
    refine a_aload_n (n := 8) dX10_joinedTo_7 rfl rfl ?_
    refine a_getI (n := 11) dX10_joinedTo_8 rfl fX10_293 (s37 hz) ?_
    refine a_icmp_ge (t := 54) (n := 14) dX10_joinedTo_11 rfl rfl (fun c11 => ?_) (fun c11 => ?_)
    · refine a_iload_n (n := 55) dX10_joinedTo_54 rfl rfl ?_
      refine a_ireturn dX10_joinedTo_55 rfl ?_
      exact ⟨rfl, rfl, rfl, rfl, by rw [e1, show k = hi 37 41 by omega]⟩
    · refine a_aload_n (n := 15) dX10_joinedTo_14 rfl rfl ?_
      refine a_getR (n := 18) dX10_joinedTo_15 rfl fX10_132 (s37 hz) (r37_42 hR) ?_
      refine a_iload (n := 20) dX10_joinedTo_18 rfl rfl ?_
      refine a_iald (n := 21) dX10_joinedTo_20 rfl (s67 hz) (by omega) (by omega) ?_
      refine a_iload_n (n := 22) dX10_joinedTo_21 rfl rfl ?_
      refine a_icmp_ne (t := 46) (n := 25) dX10_joinedTo_22 rfl rfl (fun c22 => ?_) (fun c22 => ?_)
      · refine a_iload_n (n := 47) dX10_joinedTo_46 rfl rfl ?_
        refine a_istore_n (n := 48) dX10_joinedTo_47 rfl (by decide) ?_
        refine a_iinc (n := 51) dX10_joinedTo_48 rfl (by decide) rfl ⟨by omega, by omega⟩ ?_
        refine a_goto (t := 5) dX10_joinedTo_51 rfl ?_
        exact ih _ _ (by rw [mLast_s h0]; first | (rw [if_pos (by omega)]; done) | (rw [if_neg (by omega)]; exact e1)) (by omega) (by omega)
      · refine a_aload_n (n := 26) dX10_joinedTo_25 rfl rfl ?_
        refine a_getR (n := 29) dX10_joinedTo_26 rfl fX10_138 (s37 hz) (r37_44 hR) ?_
        refine a_iload (n := 31) dX10_joinedTo_29 rfl rfl ?_
        refine a_iald (n := 32) dX10_joinedTo_31 rfl (s69 hz) (by omega) (by omega) ?_
        refine a_iload_n (n := 33) dX10_joinedTo_32 rfl rfl ?_
        refine a_icmp_gt (t := 46) (n := 36) dX10_joinedTo_33 rfl rfl (fun c33 => ?_) (fun c33 => ?_)
        · refine a_iload_n (n := 47) dX10_joinedTo_46 rfl rfl ?_
          refine a_istore_n (n := 48) dX10_joinedTo_47 rfl (by decide) ?_
          refine a_iinc (n := 51) dX10_joinedTo_48 rfl (by decide) rfl ⟨by omega, by omega⟩ ?_
          refine a_goto (t := 5) dX10_joinedTo_51 rfl ?_
          exact ih _ _ (by rw [mLast_s h0]; first | (rw [if_pos (by omega)]; done) | (rw [if_neg (by omega)]; exact e1)) (by omega) (by omega)
        · refine a_aload_n (n := 37) dX10_joinedTo_36 rfl rfl ?_
          refine a_getR (n := 40) dX10_joinedTo_37 rfl fX10_135 (s37 hz) (r37_43 hR) ?_
          refine a_iload (n := 42) dX10_joinedTo_40 rfl rfl ?_
          refine a_iald (n := 43) dX10_joinedTo_42 rfl (s68 hz) (by omega) (by omega) ?_
          refine a_goto (t := 47) dX10_joinedTo_43 rfl ?_
          refine a_istore_n (n := 48) dX10_joinedTo_47 rfl (by decide) ?_
          refine a_iinc (n := 51) dX10_joinedTo_48 rfl (by decide) rfl ⟨by omega, by omega⟩ ?_
          refine a_goto (t := 5) dX10_joinedTo_51 rfl ?_
          exact ih _ _ (by rw [mLast_s h0]; first | (rw [if_pos (by omega)]; done) | (rw [if_neg (by omega)]; exact e1)) (by omega) (by omega)
set_option maxRecDepth 100000 in
set_option maxHeartbeats 4000000 in
theorem m_joinedTo (hz : stZ z) (hR : stR hr) (hj : 0 ≤ hi 37 41 ∧ hi 37 41 ≤ 100) {x dy : Int} : a_ct G mX10_joinedTo (d + 0) [vR 37, vI x, vI dy] z hr hi hl (Qs z hr hi hl (fun r => r = some (vI (mJoin hi x dy)))) := by
  refine a_ct_of rfl (Nat.le_of_ble_eq_true rfl) ?_
  refine a_iconst (n := 1) dX10_joinedTo_0 rfl ⟨by decide, by decide⟩ ?_
  refine a_istore_n (n := 2) dX10_joinedTo_1 rfl (by decide) ?_
  refine a_iconst (n := 3) dX10_joinedTo_2 rfl ⟨by decide, by decide⟩ ?_
  refine a_istore (n := 5) dX10_joinedTo_3 rfl (by decide) ?_
  exact m_joinedTo_l hz hR hj.2 (hi 37 41).toNat 0 0 rfl (by omega) (by omega)
/-- from x on, f comes to 0 within n steps -/
def mZ (f : Int → Int) : Nat → Int → Prop
  | 0, x => x ≤ 0
  | n + 1, x => x ≤ 0 ∨ mZ f n (f x)
/-- the last one that f leads to before it comes to 0 -/
def mEnd (f : Int → Int) : Nat → Int → Int
  | 0, x => x
  | n + 1, x => if 0 < f x then mEnd f n (f x) else x
/-- f leads from x to y -/
def mBack (f : Int → Int) (y : Int) : Nat → Int → Prop
  | 0, _ => False
  | n + 1, x => 0 < x ∧ (x = y ∨ mBack f y n (f x))
set_option maxRecDepth 100000 in
set_option maxHeartbeats 4000000 in
theorem m_leads_l (hz : stZ z) (hR : stR hr) (hj : 0 ≤ hi 37 41 ∧ hi 37 41 ≤ 100) {x0 dy : Int} : ∀ (n : Nat) (x : Int), mZ (fun y => mJoin hi y dy) n (mJoin hi x dy) → a_wp G mX10_leads (d + 1) 10 [some (vR 37), some (vI x0), some (vI dy), some (vI x), some (vI (mJoin hi x dy))] [] z hr hi hl (Qs z hr hi hl (fun r => r = some (vI (mEnd (fun y => mJoin hi y dy) n x)))) := by
  intro n
  induction n with
  | zero =>
    intro x h0
    have h1 : mJoin hi x dy ≤ 0 := h0
    refine a_iload (n := 12) dX10_leads_10 rfl rfl ?_
    refine a_if_le (t := 29) (n := 15) dX10_leads_12 rfl rfl (fun c12 => ?_) (fun c12 => ?_)
    · refine a_iload_n (n := 30) dX10_leads_29 rfl rfl ?_
      refine a_ireturn dX10_leads_30 rfl ?_
      exact ⟨rfl, rfl, rfl, rfl, rfl⟩
    · exfalso; omega
  | succ n ih =>
    intro x h0
    refine a_iload (n := 12) dX10_leads_10 rfl rfl ?_
    refine a_if_le (t := 29) (n := 15) dX10_leads_12 rfl rfl (fun c12 => ?_) (fun c12 => ?_)
    · refine a_iload_n (n := 30) dX10_leads_29 rfl rfl ?_
      refine a_ireturn dX10_leads_30 rfl ?_
      exact ⟨rfl, rfl, rfl, rfl, by rw [mEnd, if_neg (by omega)]⟩
    · refine a_iload (n := 17) dX10_leads_15 rfl rfl ?_
      refine a_istore_n (n := 18) dX10_leads_17 rfl (by decide) ?_
      refine a_aload_n (n := 19) dX10_leads_18 rfl rfl ?_
      refine a_iload_n (n := 20) dX10_leads_19 rfl rfl ?_
      refine a_iload_n (n := 21) dX10_leads_20 rfl rfl ?_
      refine a_callV (M2 := mX10_joinedTo) (n := 24) dX10_leads_21 rfl (m_joinedTo (d := d) hz hR hj) kX10_joinedTo lX10_289 iX10_joinedTo eX10_joinedTo (by decide) (by omega) (s37 hz) rfl (Nat.le_of_ble_eq_true rfl) (fun q21 z21 hr21 hi21 hl21 h21 => ?_)
      obtain ⟨rfl, rfl, rfl, rfl, rfl⟩ := h21
      show a_wp G _ _ _ _ (vI _ :: _) _ _ _ _ _
      refine a_istore (n := 26) dX10_leads_24 rfl (by decide) ?_
      refine a_goto (t := 10) dX10_leads_26 rfl ?_
      refine a_wp.mono (ih _ ?_) (fun r z1 hr1 hi1 hl1 hq => ?_)
      · rcases h0 with h | h
        · exact absurd h c12
        · exact h
      · obtain ⟨q1, q2, q3, q4, q5⟩ := hq
        refine ⟨q1, q2, q3, q4, ?_⟩
        rw [q5, mEnd, if_pos (by omega)]
set_option maxRecDepth 100000 in
set_option maxHeartbeats 4000000 in
theorem m_leads (hz : stZ z) (hR : stR hr) (hj : 0 ≤ hi 37 41 ∧ hi 37 41 ≤ 100) {x dy : Int} {N : Nat} (h0 : mZ (fun y => mJoin hi y dy) N (mJoin hi x dy)) : a_ct G mX10_leads (d + 1) [vR 37, vI x, vI dy] z hr hi hl (Qs z hr hi hl (fun r => r = some (vI (mEnd (fun y => mJoin hi y dy) N x)))) := by
  refine a_ct_of rfl (Nat.le_of_ble_eq_true rfl) ?_
  refine a_iload_n (n := 1) dX10_leads_0 rfl rfl ?_
  refine a_istore_n (n := 2) dX10_leads_1 rfl (by decide) ?_
  refine a_aload_n (n := 3) dX10_leads_2 rfl rfl ?_
  refine a_iload_n (n := 4) dX10_leads_3 rfl rfl ?_
  refine a_iload_n (n := 5) dX10_leads_4 rfl rfl ?_
  refine a_callV (M2 := mX10_joinedTo) (n := 8) dX10_leads_5 rfl (m_joinedTo (d := d) hz hR hj) kX10_joinedTo lX10_289 iX10_joinedTo eX10_joinedTo (by decide) (by omega) (s37 hz) rfl (Nat.le_of_ble_eq_true rfl) (fun q5 z5 hr5 hi5 hl5 h5 => ?_)
  obtain ⟨rfl, rfl, rfl, rfl, rfl⟩ := h5
  show a_wp G _ _ _ _ (vI _ :: _) _ _ _ _ _
  refine a_istore (n := 10) dX10_leads_8 rfl (by decide) ?_
  exact m_leads_l hz hR hj N x h0
set_option maxRecDepth 100000 in
set_option maxHeartbeats 4000000 in
theorem m_leadsBack_l (hz : stZ z) (hR : stR hr) (hj : 0 ≤ hi 37 41 ∧ hi 37 41 ≤ 100) {x0 y : Int} (hy : 0 < y) : ∀ (n : Nat) (x : Int), mZ (fun y => mJoin hi y (hi 37 24)) n x → a_wp G mX10_leadsBack (d + 1) 2 [some (vR 37), some (vI x0), some (vI y), some (vI x)] [] z hr hi hl (Qs z hr hi hl (isB (mBack (fun y => mJoin hi y (hi 37 24)) y (n + 1) x))) := by
  intro n
  induction n with
  | zero =>
    intro x h0
    have h1 : x ≤ 0 := h0
    refine a_iload_n (n := 3) dX10_leadsBack_2 rfl rfl ?_
    refine a_if_le (t := 24) (n := 6) dX10_leadsBack_3 rfl rfl (fun c3 => ?_) (fun c3 => ?_)
    · refine a_iload_n (n := 25) dX10_leadsBack_24 rfl rfl ?_
      refine a_iload_n (n := 26) dX10_leadsBack_25 rfl rfl ?_
      refine a_icmp_ne (t := 33) (n := 29) dX10_leadsBack_26 rfl rfl (fun c26 => ?_) (fun c26 => ?_)
      · refine a_iconst (n := 34) dX10_leadsBack_33 rfl ⟨by decide, by decide⟩ ?_
        refine a_zreturn dX10_leadsBack_34 rfl (by omega) ?_
        exact ⟨rfl, rfl, rfl, rfl, 0, rfl, Or.inr ⟨rfl, fun q => absurd q.1 (by omega)⟩⟩
      · exfalso; omega
    · exfalso; omega
  | succ n ih =>
    intro x h0
    refine a_iload_n (n := 3) dX10_leadsBack_2 rfl rfl ?_
    refine a_if_le (t := 24) (n := 6) dX10_leadsBack_3 rfl rfl (fun c3 => ?_) (fun c3 => ?_)
    · refine a_iload_n (n := 25) dX10_leadsBack_24 rfl rfl ?_
      refine a_iload_n (n := 26) dX10_leadsBack_25 rfl rfl ?_
      refine a_icmp_ne (t := 33) (n := 29) dX10_leadsBack_26 rfl rfl (fun c26 => ?_) (fun c26 => ?_)
      · refine a_iconst (n := 34) dX10_leadsBack_33 rfl ⟨by decide, by decide⟩ ?_
        refine a_zreturn dX10_leadsBack_34 rfl (by omega) ?_
        first | exact ⟨rfl, rfl, rfl, rfl, 0, rfl, Or.inr ⟨rfl, fun q => absurd q.1 (by omega)⟩⟩ | exact ⟨rfl, rfl, rfl, rfl, 1, rfl, Or.inl ⟨rfl, by omega, Or.inl (by omega)⟩⟩ | (exfalso; omega)
      · refine a_iconst (n := 30) dX10_leadsBack_29 rfl ⟨by decide, by decide⟩ ?_
        refine a_goto (t := 34) dX10_leadsBack_30 rfl ?_
        refine a_zreturn dX10_leadsBack_34 rfl (by omega) ?_
        first | exact ⟨rfl, rfl, rfl, rfl, 0, rfl, Or.inr ⟨rfl, fun q => absurd q.1 (by omega)⟩⟩ | exact ⟨rfl, rfl, rfl, rfl, 1, rfl, Or.inl ⟨rfl, by omega, Or.inl (by omega)⟩⟩ | (exfalso; omega)
    · refine a_iload_n (n := 7) dX10_leadsBack_6 rfl rfl ?_
      refine a_iload_n (n := 8) dX10_leadsBack_7 rfl rfl ?_
      refine a_icmp_eq (t := 24) (n := 11) dX10_leadsBack_8 rfl rfl (fun c8 => ?_) (fun c8 => ?_)
      · refine a_iload_n (n := 25) dX10_leadsBack_24 rfl rfl ?_
        refine a_iload_n (n := 26) dX10_leadsBack_25 rfl rfl ?_
        refine a_icmp_ne (t := 33) (n := 29) dX10_leadsBack_26 rfl rfl (fun c26 => ?_) (fun c26 => ?_)
        · refine a_iconst (n := 34) dX10_leadsBack_33 rfl ⟨by decide, by decide⟩ ?_
          refine a_zreturn dX10_leadsBack_34 rfl (by omega) ?_
          first | exact ⟨rfl, rfl, rfl, rfl, 0, rfl, Or.inr ⟨rfl, fun q => absurd q.1 (by omega)⟩⟩ | exact ⟨rfl, rfl, rfl, rfl, 1, rfl, Or.inl ⟨rfl, by omega, Or.inl (by omega)⟩⟩ | (exfalso; omega)
        · refine a_iconst (n := 30) dX10_leadsBack_29 rfl ⟨by decide, by decide⟩ ?_
          refine a_goto (t := 34) dX10_leadsBack_30 rfl ?_
          refine a_zreturn dX10_leadsBack_34 rfl (by omega) ?_
          first | exact ⟨rfl, rfl, rfl, rfl, 0, rfl, Or.inr ⟨rfl, fun q => absurd q.1 (by omega)⟩⟩ | exact ⟨rfl, rfl, rfl, rfl, 1, rfl, Or.inl ⟨rfl, by omega, Or.inl (by omega)⟩⟩ | (exfalso; omega)
      · refine a_aload_n (n := 12) dX10_leadsBack_11 rfl rfl ?_
        refine a_iload_n (n := 13) dX10_leadsBack_12 rfl rfl ?_
        refine a_aload_n (n := 14) dX10_leadsBack_13 rfl rfl ?_
        refine a_getI (n := 17) dX10_leadsBack_14 rfl fX10_255 (s37 hz) ?_
        refine a_callV (M2 := mX10_joinedTo) (n := 20) dX10_leadsBack_17 rfl (m_joinedTo (d := d) hz hR hj) kX10_joinedTo lX10_289 iX10_joinedTo eX10_joinedTo (by decide) (by omega) (s37 hz) rfl (Nat.le_of_ble_eq_true rfl) (fun q17 z17 hr17 hi17 hl17 h17 => ?_)
        obtain ⟨rfl, rfl, rfl, rfl, rfl⟩ := h17
        show a_wp G _ _ _ _ (vI _ :: _) _ _ _ _ _
        refine a_istore_n (n := 21) dX10_leadsBack_20 rfl (by decide) ?_
        refine a_goto (t := 2) dX10_leadsBack_21 rfl ?_
        refine a_wp.mono (ih _ ?_) (fun r z1 hr1 hi1 hl1 hq => ?_)
        · rcases h0 with h | h
          · exact absurd h c3
          · exact h
        · obtain ⟨q1, q2, q3, q4, b9, q5, q6⟩ := hq
          refine ⟨q1, q2, q3, q4, b9, q5, ?_⟩
          rcases q6 with ⟨q6, q7⟩ | ⟨q6, q7⟩
          · exact Or.inl ⟨q6, by omega, Or.inr q7⟩
          · exact Or.inr ⟨q6, fun q => q.2.elim c8 q7⟩
set_option maxRecDepth 100000 in
set_option maxHeartbeats 4000000 in
theorem m_leadsBack (hz : stZ z) (hR : stR hr) (hj : 0 ≤ hi 37 41 ∧ hi 37 41 ≤ 100) {x y : Int} (hy : 0 < y) {N : Nat} (h0 : mZ (fun y => mJoin hi y (hi 37 24)) N x) : a_ct G mX10_leadsBack (d + 1) [vR 37, vI x, vI y] z hr hi hl (Qs z hr hi hl (isB (mBack (fun y => mJoin hi y (hi 37 24)) y (N + 1) x))) := by
  refine a_ct_of rfl (Nat.le_of_ble_eq_true rfl) ?_
  refine a_iload_n (n := 1) dX10_leadsBack_0 rfl rfl ?_
  refine a_istore_n (n := 2) dX10_leadsBack_1 rfl (by decide) ?_
  exact m_leadsBack_l hz hR hj hy N x h0
end M3
