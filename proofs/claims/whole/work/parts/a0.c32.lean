section C32
variable {G : aG} {d : Nat} {z : aZ} {hr : aR} {hi hl : aI}
theorem rE_gt {p : Int → Bool} {s : Int → Int} {sz k : Int} (h : k < sz) : k < rE p s sz k ↔ p (s k) = true := by
  constructor
  · intro h₁
    by_cases q : p (s k) = true
    · exact q
    · rw [rE_f (fun w => q w.2)] at h₁
      omega
  · intro h₁
    rw [rE_t h h₁]
    have := rE_ge (p := p) (s := s) (sz := sz) (k := k + 1)
    omega
/-- a TOKEN is added -/
def cAT (hi : aI) (k s n : Int) : aI := up2 (up2 (up2 (up2 hi 19 (hi 18 3) k) 20 (hi 18 3) s) 21 (hi 18 3) n) 18 3 (hi 18 3 + 1)
/-- kind and number of the TOKEN at f, as the class finds them -/
def kTk (s : Int → Int) (sz f k nu : Int) : Prop :=
  (pL (s f) = true ∧ nu = 0 ∧ ((¬ rE pL s sz f - f ≤ 8 ∧ k = 20) ∨ (rE pL s sz f - f ≤ 8 ∧ kWd s f (rE pL s sz f) k))) ∨
  (¬ pL (s f) = true ∧ pD (s f) = true ∧ ((rE pD s sz f - f ≤ 4 ∧ k = 7 ∧ nu = vP 10 48 s f (rE pD s sz f - f).toNat) ∨ (¬ rE pD s sz f - f ≤ 4 ∧ k = 20 ∧ nu = 0))) ∨
  (¬ pL (s f) = true ∧ ¬ pD (s f) = true ∧ k = kSg (s f) ∧ nu = 0)
set_option maxRecDepth 100000 in
set_option maxHeartbeats 4000000 in
theorem c_scanOne (hz : stZ z) (hR : stR hr) (hN : gN G) (hG : gS G) (h15 : hi 15 1 ≤ 600) (h18 : 0 ≤ hi 18 3 ∧ hi 18 3 < 601) {f : Int} (hf : 0 ≤ f ∧ f < hi 15 1) : a_ct G mX8_scanOne (d + 6) [vR 18, vR 15, vI f] z hr hi hl (fun r z' hr' hi' hl' => z' = z ∧ hr' = hr ∧ hl' = hl ∧ r = some (vI (tE (hi 16) (hi 15 1) f)) ∧ ∃ k nu, kTk (hi 16) (hi 15 1) f k nu ∧ hi' = cAT hi k f nu) := by
  have g₁ := rE_ge (p := pL) (s := hi 16) (sz := hi 15 1) (k := f)
  have g₂ := rE_le (p := pL) (s := hi 16) (sz := hi 15 1) (k := f) (by omega)
  have g₃ := rE_ge (p := pD) (s := hi 16) (sz := hi 15 1) (k := f)
  have g₄ := rE_le (p := pD) (s := hi 16) (sz := hi 15 1) (k := f) (by omega)
  have g₅ := rE_gt (p := pL) (s := hi 16) (sz := hi 15 1) (k := f) hf.2
  have g₆ := rE_gt (p := pD) (s := hi 16) (sz := hi 15 1) (k := f) hf.2
  have g₇ : ∀ i, f ≤ i → i < rE pD (hi 16) (hi 15 1) f → 48 ≤ hi 16 i ∧ hi 16 i ≤ 57 := fun i i₁ i₂ => pD_t.mp (rE_all i₁ i₂)
  refine a_ct_of rfl (Nat.le_of_ble_eq_true rfl) ?_
  refine a_aload_n (n := 1) dX8_scanOne_0 rfl rfl ?_
  refine a_iload_n (n := 2) dX8_scanOne_1 rfl rfl ?_
  refine a_callV (M2 := mX7_endOfLetters) (n := 5) dX8_scanOne_2 rfl (c_letters (d := d + 4) hz hR hN h15 hf.1) kX7_endOfLetters lX8_40 iX7_endOfLetters eX7_endOfLetters (by decide) (by omega) (s15 hz) rfl (Nat.le_of_ble_eq_true rfl) (fun q2 z2 hr2 hi2 hl2 h2 => ?_)
  obtain ⟨e12, e22, e32, e42, rfl⟩ := h2
  obtain rfl := e12.symm
  obtain rfl := e22.symm
  obtain rfl := e32.symm
  obtain rfl := e42.symm
  show a_wp G _ _ _ _ (vI _ :: _) _ _ _ _ _
  refine b_istore_n (n := 6) dX8_scanOne_5 rfl (by decide) rfl ?_
  refine a_iload_n (n := 7) dX8_scanOne_6 rfl rfl ?_
  refine a_iload_n (n := 8) dX8_scanOne_7 rfl rfl ?_
  refine a_icmp_le (t := 38) (n := 11) dX8_scanOne_8 rfl rfl (fun c8 => ?_) (fun c8 => ?_)
  · refine a_aload_n (n := 39) dX8_scanOne_38 rfl rfl ?_
    refine a_iload_n (n := 40) dX8_scanOne_39 rfl rfl ?_
    refine a_callV (M2 := mX7_endOfDigits) (n := 43) dX8_scanOne_40 rfl (c_digits (d := d + 4) hz hR hN h15 hf.1) kX7_endOfDigits lX8_47 iX7_endOfDigits eX7_endOfDigits (by decide) (by omega) (s15 hz) rfl (Nat.le_of_ble_eq_true rfl) (fun q40 z40 hr40 hi40 hl40 h40 => ?_)
    obtain ⟨e140, e240, e340, e440, rfl⟩ := h40
    obtain rfl := e140.symm
    obtain rfl := e240.symm
    obtain rfl := e340.symm
    obtain rfl := e440.symm
    show a_wp G _ _ _ _ (vI _ :: _) _ _ _ _ _
    refine b_istore_n (n := 44) dX8_scanOne_43 rfl (by decide) rfl ?_
    refine a_iload_n (n := 45) dX8_scanOne_44 rfl rfl ?_
    refine a_iload_n (n := 46) dX8_scanOne_45 rfl rfl ?_
    refine a_icmp_le (t := 97) (n := 49) dX8_scanOne_46 rfl rfl (fun c46 => ?_) (fun c46 => ?_)
    · refine a_aload_n (n := 98) dX8_scanOne_97 rfl rfl ?_
      refine a_aload_n (n := 99) dX8_scanOne_98 rfl rfl ?_
      refine a_getR (n := 102) dX8_scanOne_99 rfl fX8_54 (s15 hz) (r15_0 hR) ?_
      refine a_iload_n (n := 103) dX8_scanOne_102 rfl rfl ?_
      refine a_iald (n := 104) dX8_scanOne_103 rfl (s16 hz) (by omega) (by omega) ?_
      refine a_callS (M2 := mX8_kindOfSign) (n := 107) dX8_scanOne_104 rfl (c_sign (d := d + 5)) kX8_kindOfSign lX8_57 sX8_kindOfSign (by omega) rfl (Nat.le_of_ble_eq_true rfl) (fun q104 z104 hr104 hi104 hl104 h104 => ?_)
      obtain ⟨e1104, e2104, e3104, e4104, rfl⟩ := h104
      obtain rfl := e1104.symm
      obtain rfl := e2104.symm
      obtain rfl := e3104.symm
      obtain rfl := e4104.symm
      show a_wp G _ _ _ _ (vI _ :: _) _ _ _ _ _
      refine a_iload_n (n := 108) dX8_scanOne_107 rfl rfl ?_
      refine a_iconst (n := 109) dX8_scanOne_108 rfl ⟨by decide, by decide⟩ ?_
      refine a_callV (M2 := mX8_add) (n := 112) dX8_scanOne_109 rfl (c_add (d := d + 5) hz hR h18) kX8_add lX8_36 iX8_add eX8_add (by decide) (by omega) (s18 hz) rfl (Nat.le_of_ble_eq_true rfl) (fun q109 z109 hr109 hi109 hl109 h109 => ?_)
      obtain ⟨e1109, e2109, e3109, rfl, rfl⟩ := h109
      obtain rfl := e1109.symm
      obtain rfl := e2109.symm
      obtain rfl := e3109.symm
      show a_wp G _ _ _ _ [] _ _ _ _ _
      refine a_iload_n (n := 113) dX8_scanOne_112 rfl rfl ?_
      refine a_iconst (n := 114) dX8_scanOne_113 rfl ⟨by decide, by decide⟩ ?_
      refine a_iadd (n := 115) dX8_scanOne_114 rfl ⟨by omega, by omega⟩ ?_
      refine a_ireturn dX8_scanOne_115 rfl ?_
      refine ⟨rfl, rfl, rfl, by unfold tE; rw [if_neg (fun q => absurd (g₅.mpr q) (by omega)), if_neg (fun q => absurd (g₆.mpr q) (by omega))], ?_⟩
      exact ⟨_, _, Or.inr (Or.inr ⟨fun q => absurd (g₅.mpr q) (by omega), fun q => absurd (g₆.mpr q) (by omega), rfl, rfl⟩), rfl⟩
    · refine a_iload_n (n := 50) dX8_scanOne_49 rfl rfl ?_
      refine a_iload_n (n := 51) dX8_scanOne_50 rfl rfl ?_
      refine a_isub (n := 52) dX8_scanOne_51 rfl ⟨by omega, by omega⟩ ?_
      refine a_iconst (n := 53) dX8_scanOne_52 rfl ⟨by decide, by decide⟩ ?_
      refine a_icmp_gt (t := 60) (n := 56) dX8_scanOne_53 rfl rfl (fun c53 => ?_) (fun c53 => ?_)
      · refine a_iconst (n := 61) dX8_scanOne_60 rfl ⟨by decide, by decide⟩ ?_
        refine b_istore (n := 63) dX8_scanOne_61 rfl (by decide) rfl ?_
        refine a_aload_n (n := 64) dX8_scanOne_63 rfl rfl ?_
        refine a_iload (n := 66) dX8_scanOne_64 rfl rfl ?_
        refine a_if_eq (t := 74) (n := 69) dX8_scanOne_66 rfl rfl (fun c66 => ?_) (fun c66 => ?_)
        · refine a_bipush (n := 76) dX8_scanOne_74 rfl ⟨by decide, by decide⟩ (by decide) ?_
          refine a_iload_n (n := 77) dX8_scanOne_76 rfl rfl ?_
          refine a_iload (n := 79) dX8_scanOne_77 rfl rfl ?_
          refine a_if_eq (t := 91) (n := 82) dX8_scanOne_79 rfl rfl (fun c79 => ?_) (fun c79 => ?_)
          · refine a_iconst (n := 92) dX8_scanOne_91 rfl ⟨by decide, by decide⟩ ?_
            refine a_callV (M2 := mX8_add) (n := 95) dX8_scanOne_92 rfl (c_add (d := d + 5) hz hR h18) kX8_add lX8_36 iX8_add eX8_add (by decide) (by omega) (s18 hz) rfl (Nat.le_of_ble_eq_true rfl) (fun q92 z92 hr92 hi92 hl92 h92 => ?_)
            obtain ⟨e192, e292, e392, rfl, rfl⟩ := h92
            obtain rfl := e192.symm
            obtain rfl := e292.symm
            obtain rfl := e392.symm
            show a_wp G _ _ _ _ [] _ _ _ _ _
            refine a_iload_n (n := 96) dX8_scanOne_95 rfl rfl ?_
            refine a_ireturn dX8_scanOne_96 rfl ?_
            refine ⟨rfl, rfl, rfl, by unfold tE; rw [if_neg (fun q => absurd (g₅.mpr q) (by omega)), if_pos (g₆.mp (by omega))], ?_⟩
            exact ⟨_, _, Or.inr (Or.inl ⟨fun q => absurd (g₅.mpr q) (by omega), g₆.mp (by omega), Or.inr ⟨by omega, rfl, rfl⟩⟩), rfl⟩
          · omega
        · omega
      · refine a_iconst (n := 57) dX8_scanOne_56 rfl ⟨by decide, by decide⟩ ?_
        refine a_goto (t := 61) dX8_scanOne_57 rfl ?_
        refine b_istore (n := 63) dX8_scanOne_61 rfl (by decide) rfl ?_
        refine a_aload_n (n := 64) dX8_scanOne_63 rfl rfl ?_
        refine a_iload (n := 66) dX8_scanOne_64 rfl rfl ?_
        refine a_if_eq (t := 74) (n := 69) dX8_scanOne_66 rfl rfl (fun c66 => ?_) (fun c66 => ?_)
        · omega
        · refine a_bipush (n := 71) dX8_scanOne_69 rfl ⟨by decide, by decide⟩ (by decide) ?_
          refine a_goto (t := 76) dX8_scanOne_71 rfl ?_
          refine a_iload_n (n := 77) dX8_scanOne_76 rfl rfl ?_
          refine a_iload (n := 79) dX8_scanOne_77 rfl rfl ?_
          refine a_if_eq (t := 91) (n := 82) dX8_scanOne_79 rfl rfl (fun c79 => ?_) (fun c79 => ?_)
          · omega
          · refine a_aload_n (n := 83) dX8_scanOne_82 rfl rfl ?_
            refine a_iload_n (n := 84) dX8_scanOne_83 rfl rfl ?_
            refine a_iload_n (n := 85) dX8_scanOne_84 rfl rfl ?_
            refine a_callV (M2 := mX7_numberIn) (n := 88) dX8_scanOne_85 rfl (c_number (d := d + 5) hz hR hf.1 g₃ (by omega) (by omega) g₇) kX7_numberIn lX8_50 iX7_numberIn eX7_numberIn (by decide) (by omega) (s15 hz) rfl (Nat.le_of_ble_eq_true rfl) (fun q85 z85 hr85 hi85 hl85 h85 => ?_)
            obtain ⟨e185, e285, e385, e485, rfl⟩ := h85
            obtain rfl := e185.symm
            obtain rfl := e285.symm
            obtain rfl := e385.symm
            obtain rfl := e485.symm
            show a_wp G _ _ _ _ (vI _ :: _) _ _ _ _ _
            refine a_goto (t := 92) dX8_scanOne_88 rfl ?_
            refine a_callV (M2 := mX8_add) (n := 95) dX8_scanOne_92 rfl (c_add (d := d + 5) hz hR h18) kX8_add lX8_36 iX8_add eX8_add (by decide) (by omega) (s18 hz) rfl (Nat.le_of_ble_eq_true rfl) (fun q92 z92 hr92 hi92 hl92 h92 => ?_)
            obtain ⟨e192, e292, e392, rfl, rfl⟩ := h92
            obtain rfl := e192.symm
            obtain rfl := e292.symm
            obtain rfl := e392.symm
            show a_wp G _ _ _ _ [] _ _ _ _ _
            refine a_iload_n (n := 96) dX8_scanOne_95 rfl rfl ?_
            refine a_ireturn dX8_scanOne_96 rfl ?_
            refine ⟨rfl, rfl, rfl, by unfold tE; rw [if_neg (fun q => absurd (g₅.mpr q) (by omega)), if_pos (g₆.mp (by omega))], ?_⟩
            exact ⟨_, _, Or.inr (Or.inl ⟨fun q => absurd (g₅.mpr q) (by omega), g₆.mp (by omega), Or.inl ⟨by omega, rfl, rfl⟩⟩), rfl⟩
  · refine a_aload_n (n := 12) dX8_scanOne_11 rfl rfl ?_
    refine a_iload_n (n := 13) dX8_scanOne_12 rfl rfl ?_
    refine a_iload_n (n := 14) dX8_scanOne_13 rfl rfl ?_
    refine a_isub (n := 15) dX8_scanOne_14 rfl ⟨by omega, by omega⟩ ?_
    refine a_bipush (n := 17) dX8_scanOne_15 rfl ⟨by decide, by decide⟩ (by decide) ?_
    refine a_icmp_le (t := 25) (n := 20) dX8_scanOne_17 rfl rfl (fun c17 => ?_) (fun c17 => ?_)
    · refine a_aload_n (n := 26) dX8_scanOne_25 rfl rfl ?_
      refine a_iload_n (n := 27) dX8_scanOne_26 rfl rfl ?_
      refine a_iload_n (n := 28) dX8_scanOne_27 rfl rfl ?_
      refine a_callS (M2 := mX8_kindOfWord) (n := 31) dX8_scanOne_28 rfl (c_kind (d := d) hz hR hG hf.1 g₁ (by omega)) kX8_kindOfWord lX8_43 sX8_kindOfWord (by omega) rfl (Nat.le_of_ble_eq_true rfl) (fun q28 z28 hr28 hi28 hl28 h28 => ?_)
      obtain ⟨e128, e228, e328, e428, b28, rfl, hb28⟩ := h28
      obtain rfl := e128.symm
      obtain rfl := e228.symm
      obtain rfl := e328.symm
      obtain rfl := e428.symm
      show a_wp G _ _ _ _ (vI b28 :: _) _ _ _ _ _
      refine a_iload_n (n := 32) dX8_scanOne_31 rfl rfl ?_
      refine a_iconst (n := 33) dX8_scanOne_32 rfl ⟨by decide, by decide⟩ ?_
      refine a_callV (M2 := mX8_add) (n := 36) dX8_scanOne_33 rfl (c_add (d := d + 5) hz hR h18) kX8_add lX8_36 iX8_add eX8_add (by decide) (by omega) (s18 hz) rfl (Nat.le_of_ble_eq_true rfl) (fun q33 z33 hr33 hi33 hl33 h33 => ?_)
      obtain ⟨e133, e233, e333, rfl, rfl⟩ := h33
      obtain rfl := e133.symm
      obtain rfl := e233.symm
      obtain rfl := e333.symm
      show a_wp G _ _ _ _ [] _ _ _ _ _
      refine a_iload_n (n := 37) dX8_scanOne_36 rfl rfl ?_
      refine a_ireturn dX8_scanOne_37 rfl ?_
      refine ⟨rfl, rfl, rfl, by unfold tE; rw [if_pos (g₅.mp (by omega))], ?_⟩
      exact ⟨_, _, Or.inl ⟨g₅.mp (by omega), rfl, Or.inr ⟨by omega, hb28⟩⟩, rfl⟩
    · refine a_bipush (n := 22) dX8_scanOne_20 rfl ⟨by decide, by decide⟩ (by decide) ?_
      refine a_goto (t := 31) dX8_scanOne_22 rfl ?_
      refine a_iload_n (n := 32) dX8_scanOne_31 rfl rfl ?_
      refine a_iconst (n := 33) dX8_scanOne_32 rfl ⟨by decide, by decide⟩ ?_
      refine a_callV (M2 := mX8_add) (n := 36) dX8_scanOne_33 rfl (c_add (d := d + 5) hz hR h18) kX8_add lX8_36 iX8_add eX8_add (by decide) (by omega) (s18 hz) rfl (Nat.le_of_ble_eq_true rfl) (fun q33 z33 hr33 hi33 hl33 h33 => ?_)
      obtain ⟨e133, e233, e333, rfl, rfl⟩ := h33
      obtain rfl := e133.symm
      obtain rfl := e233.symm
      obtain rfl := e333.symm
      show a_wp G _ _ _ _ [] _ _ _ _ _
      refine a_iload_n (n := 37) dX8_scanOne_36 rfl rfl ?_
      refine a_ireturn dX8_scanOne_37 rfl ?_
      refine ⟨rfl, rfl, rfl, by unfold tE; rw [if_pos (g₅.mp (by omega))], ?_⟩
      exact ⟨_, _, Or.inl ⟨g₅.mp (by omega), rfl, Or.inl ⟨by omega, rfl⟩⟩, rfl⟩
/-- the first n TOKENS are found -/
def Cs (s : Int → Int) (sz : Int) (h₀ : aI) (n : Int) (h : aI) : Prop := (∀ b j, b ≠ 19 → b ≠ 20 → b ≠ 21 → ¬ (b = 18 ∧ j = 3) → h b j = h₀ b j) ∧ h 18 3 = n ∧ ∀ j : Int, 0 ≤ j → j < n → h 20 j = tS s sz j.toNat ∧ kTk s sz (tS s sz j.toNat) (h 19 j) (h 21 j)
theorem Cs.add {s : Int → Int} {sz n k nu : Int} {h₀ h : aI} (p : Cs s sz h₀ n h) (hn : 0 ≤ n) (hk : kTk s sz (tS s sz n.toNat) k nu) : Cs s sz h₀ (n + 1) (cAT h k (tS s sz n.toNat) nu) := by
  obtain ⟨p₁, p₂, p₃⟩ := p
  unfold cAT
  rw [p₂]
  refine ⟨fun b j b₁ b₂ b₃ b₄ => ?_, up2_s, fun j j₁ j₂ => ?_⟩
  · rw [up2_if b₄, up2_if (by omega), up2_if (by omega), up2_if (by omega)]
    exact p₁ b j b₁ b₂ b₃ b₄
  · by_cases e : j = n
    · subst e
      rw [up2_if (by omega), up2_if (by omega), up2_s, up2_if (by omega), up2_if (by omega), up2_if (by omega), up2_s, up2_if (by omega), up2_s]
      exact ⟨rfl, hk⟩
    · rw [up2_if (by omega), up2_if (by omega), up2_if (by omega), up2_if (by omega), up2_if (by omega), up2_if (by omega), up2_if (by omega), up2_if (by omega), up2_if (by omega), up2_if (by omega), up2_if (by omega), up2_if (by omega)]
      exact p₃ j j₁ (by omega)
theorem tE_b {s : Int → Int} {sz k : Int} (h : k < sz) : k < tE s sz k ∧ tE s sz k ≤ sz := by
  unfold tE
  by_cases q : pL (s k) = true
  · rw [if_pos q]
    exact ⟨(rE_gt h).mpr q, rE_le (by omega)⟩
  · rw [if_neg q]
    by_cases q₂ : pD (s k) = true
    · rw [if_pos q₂]
      exact ⟨(rE_gt h).mpr q₂, rE_le (by omega)⟩
    · rw [if_neg q₂]
      omega
set_option maxRecDepth 100000 in
set_option maxHeartbeats 4000000 in
theorem c_scan_l (hz : stZ z) (hR : stR hr) (hN : gN G) (hG : gS G) {s : Int → Int} {sz : Int} {h₀ : aI} (hs16 : h₀ 16 = s) (hsz : h₀ 15 1 = sz) (h6 : sz ≤ 600) (m : Nat) : ∀ (n : Int) (hi : aI), 0 ≤ n → n + m = 600 → n ≤ tS s sz n.toNat → tS s sz n.toNat ≤ sz → (∀ i : Nat, i < n.toNat → 0 ≤ tS s sz i ∧ tS s sz i < sz) → Cs s sz h₀ n hi → a_wp G mX8_scan (d + 7) 13 [some (vR 18), some (vR 15), some (vI (tS s sz n.toNat)), some (vI n)] [] z hr hi hl (fun r z' hr' hi' hl' => z' = z ∧ hr' = hr ∧ hl' = hl ∧ r = none ∧ ∃ (nt : Int) (h₂ : aI), 0 ≤ nt ∧ nt ≤ 600 ∧ Cs s sz h₀ nt h₂ ∧ tS s sz nt.toNat = sz ∧ (∀ i : Nat, i < nt.toNat → 0 ≤ tS s sz i ∧ tS s sz i < sz) ∧ hi' = cAT h₂ 19 sz 0) := by
  induction m with
  | zero =>
    intro n hi hn hm hk hk2 hI hC
    have e15 : hi 15 1 = sz := (hC.1 15 1 (by decide) (by decide) (by decide) (by decide)).trans hsz
    have e16 : hi 16 = s := by
      funext j
      rw [← hs16]
      exact hC.1 16 j (by decide) (by decide) (by decide) (by omega)
    refine a_iload_n (n := 14) dX8_scan_13 rfl rfl ?_
    refine a_sipush (n := 17) dX8_scan_14 rfl ⟨by decide, by decide⟩ (by decide) ?_
    refine a_icmp_ge (t := 45) (n := 20) dX8_scan_17 rfl rfl (fun c17 => ?_) (fun c17 => ?_)
    · have hs : tS s sz n.toNat = sz := by omega
      refine a_aload_n (n := 46) dX8_scan_45 rfl rfl ?_
      refine a_bipush (n := 48) dX8_scan_46 rfl ⟨by decide, by decide⟩ (by decide) ?_
      refine a_iload_n (n := 49) dX8_scan_48 rfl rfl ?_
      refine a_iconst (n := 50) dX8_scan_49 rfl ⟨by decide, by decide⟩ ?_
      refine a_callV (M2 := mX8_add) (n := 53) dX8_scan_50 rfl (c_add (d := d + 6) hz hR (by rw [hC.2.1]; omega)) kX8_add lX8_36 iX8_add eX8_add (by decide) (by omega) (s18 hz) rfl (Nat.le_of_ble_eq_true rfl) (fun q50 z50 hr50 hi50 hl50 h50 => ?_)
      obtain ⟨e150, e250, e350, rfl, rfl⟩ := h50
      obtain rfl := e150.symm
      obtain rfl := e250.symm
      obtain rfl := e350.symm
      show a_wp G _ _ _ _ [] _ _ _ _ _
      refine a_return dX8_scan_53 rfl ?_
      refine ⟨rfl, rfl, rfl, rfl, n, hi, hn, by omega, hC, hs, hI, ?_⟩
      unfold cAT
      rw [hs]
    · omega
  | succ m ih =>
    intro n hi hn hm hk hk2 hI hC
    have e15 : hi 15 1 = sz := (hC.1 15 1 (by decide) (by decide) (by decide) (by decide)).trans hsz
    have e16 : hi 16 = s := by
      funext j
      rw [← hs16]
      exact hC.1 16 j (by decide) (by decide) (by decide) (by omega)
    refine a_iload_n (n := 14) dX8_scan_13 rfl rfl ?_
    refine a_sipush (n := 17) dX8_scan_14 rfl ⟨by decide, by decide⟩ (by decide) ?_
    refine a_icmp_ge (t := 45) (n := 20) dX8_scan_17 rfl rfl (fun c17 => ?_) (fun c17 => ?_)
    · omega
    · refine a_iload_n (n := 21) dX8_scan_20 rfl rfl ?_
      refine a_aload_n (n := 22) dX8_scan_21 rfl rfl ?_
      refine a_getI (n := 25) dX8_scan_22 rfl fX8_31 (s15 hz) ?_
      refine a_icmp_ge (t := 45) (n := 28) dX8_scan_25 rfl rfl (fun c25 => ?_) (fun c25 => ?_)
      · rw [e15] at c25
        have hs : tS s sz n.toNat = sz := by omega
        refine a_aload_n (n := 46) dX8_scan_45 rfl rfl ?_
        refine a_bipush (n := 48) dX8_scan_46 rfl ⟨by decide, by decide⟩ (by decide) ?_
        refine a_iload_n (n := 49) dX8_scan_48 rfl rfl ?_
        refine a_iconst (n := 50) dX8_scan_49 rfl ⟨by decide, by decide⟩ ?_
        refine a_callV (M2 := mX8_add) (n := 53) dX8_scan_50 rfl (c_add (d := d + 6) hz hR (by rw [hC.2.1]; omega)) kX8_add lX8_36 iX8_add eX8_add (by decide) (by omega) (s18 hz) rfl (Nat.le_of_ble_eq_true rfl) (fun q50 z50 hr50 hi50 hl50 h50 => ?_)
        obtain ⟨e150, e250, e350, rfl, rfl⟩ := h50
        obtain rfl := e150.symm
        obtain rfl := e250.symm
        obtain rfl := e350.symm
        show a_wp G _ _ _ _ [] _ _ _ _ _
        refine a_return dX8_scan_53 rfl ?_
        refine ⟨rfl, rfl, rfl, rfl, n, hi, hn, by omega, hC, hs, hI, ?_⟩
        unfold cAT
        rw [hs]
      · rw [e15] at c25
        have hlt : tS s sz n.toNat < sz := by omega
        have gE₀ := tE_b (s := s) hlt
        refine a_aload_n (n := 29) dX8_scan_28 rfl rfl ?_
        refine a_aload_n (n := 30) dX8_scan_29 rfl rfl ?_
        refine a_aload_n (n := 31) dX8_scan_30 rfl rfl ?_
        refine a_iload_n (n := 32) dX8_scan_31 rfl rfl ?_
        refine a_callV (M2 := mX8_scanOne) (n := 35) dX8_scan_32 rfl (c_scanOne (d := d) hz hR hN hG (by rw [e15]; exact h6) (by rw [hC.2.1]; omega) (f := tS s sz n.toNat) ⟨by omega, by rw [e15]; exact hlt⟩) kX8_scanOne lX8_32 iX8_scanOne eX8_scanOne (by decide) (by omega) (s18 hz) rfl (Nat.le_of_ble_eq_true rfl) (fun q32 z32 hr32 hi32 hl32 h32 => ?_)
        obtain ⟨e132, e232, e332, rfl, k32, nu32, hk32, rfl⟩ := h32
        obtain rfl := e132.symm
        obtain rfl := e232.symm
        obtain rfl := e332.symm
        rw [e15, e16] at hk32 ⊢
        show a_wp G _ _ _ _ (vI _ :: _) _ _ _ _ _
        refine a_callV (M2 := mX7_endOfBlanks) (n := 38) dX8_scan_35 rfl (c_blanks (d := d + 6) hz hR (by show (cAT hi k32 _ nu32) 15 1 ≤ 600; unfold cAT; rw [up2_if (by omega), up2_if (by omega), up2_if (by omega), up2_if (by omega), e15]; exact h6) (by omega)) kX7_endOfBlanks lX8_25 iX7_endOfBlanks eX7_endOfBlanks (by decide) (by omega) (s15 hz) rfl (Nat.le_of_ble_eq_true rfl) (fun q35 z35 hr35 hi35 hl35 h35 => ?_)
        obtain ⟨e135, e235, e335, e435, rfl⟩ := h35
        obtain rfl := e135.symm
        obtain rfl := e235.symm
        obtain rfl := e335.symm
        obtain rfl := e435.symm
        have b15 : (cAT hi k32 (tS s sz n.toNat) nu32) 15 1 = sz := by unfold cAT; rw [up2_if (by omega), up2_if (by omega), up2_if (by omega), up2_if (by omega)]; exact e15
        have b16 : (cAT hi k32 (tS s sz n.toNat) nu32) 16 = s := by unfold cAT; rw [up2_f (by decide), up2_f (by decide), up2_f (by decide), up2_f (by decide)]; exact e16
        rw [b15, b16]
        show a_wp G _ _ _ _ (vI _ :: _) _ _ _ _ _
        refine b_istore_n (n := 39) dX8_scan_38 rfl (by decide) rfl ?_
        refine b_iinc (n := 42) dX8_scan_39 rfl (by decide) rfl rfl ⟨by omega, by omega⟩ ?_
        refine a_goto (t := 13) dX8_scan_42 rfl ?_
        have et : (n + 1).toNat = n.toNat + 1 := by omega
        have eS : tS s sz (n + 1).toNat = rE pB s sz (tE s sz (tS s sz n.toNat)) := by rw [et]; rfl
        have g₈ := rE_ge (p := pB) (s := s) (sz := sz) (k := tE s sz (tS s sz n.toNat))
        have g₉ := rE_le (p := pB) (s := s) (sz := sz) (k := tE s sz (tS s sz n.toNat)) gE₀.2
        have fin := ih (n + 1) _ (by omega) (by omega) (by rw [eS]; omega) (by rw [eS]; exact g₉) (fun i h₁ => by
          rw [et] at h₁
          rcases Nat.lt_succ_iff_lt_or_eq.mp h₁ with q | q
          · exact hI i q
          · rw [q]; exact ⟨by omega, hlt⟩) (hC.add hn hk32)
        rw [eS] at fin
        exact fin
set_option maxRecDepth 100000 in
set_option maxHeartbeats 4000000 in
theorem c_scan (hz : stZ z) (hR : stR hr) (hN : gN G) (hG : gS G) (h15 : 0 ≤ hi 15 1 ∧ hi 15 1 ≤ 600) : a_ct G mX8_scan (d + 7) [vR 18, vR 15] z hr hi hl (fun r z' hr' hi' hl' => z' = z ∧ hr' = hr ∧ hl' = hl ∧ r = none ∧ ∃ (nt : Int) (h₂ : aI), 0 ≤ nt ∧ nt ≤ 600 ∧ Cs (hi 16) (hi 15 1) (up2 hi 18 3 0) nt h₂ ∧ tS (hi 16) (hi 15 1) nt.toNat = hi 15 1 ∧ (∀ i : Nat, i < nt.toNat → 0 ≤ tS (hi 16) (hi 15 1) i ∧ tS (hi 16) (hi 15 1) i < hi 15 1) ∧ hi' = cAT h₂ 19 (hi 15 1) 0) := by
  refine a_ct_of rfl (Nat.le_of_ble_eq_true rfl) ?_
  refine a_aload_n (n := 1) dX8_scan_0 rfl rfl ?_
  refine a_iconst (n := 2) dX8_scan_1 rfl ⟨by decide, by decide⟩ ?_
  refine a_putI (n := 5) dX8_scan_2 rfl fX8_21 rfl (s18 hz) (Or.inl rfl) ?_
  refine a_aload_n (n := 6) dX8_scan_5 rfl rfl ?_
  refine a_iconst (n := 7) dX8_scan_6 rfl ⟨by decide, by decide⟩ ?_
  refine a_callV (M2 := mX7_endOfBlanks) (n := 10) dX8_scan_7 rfl (c_blanks (d := d + 6) hz hR (by rw [up2_if (by omega)]; exact h15.2) (by decide)) kX7_endOfBlanks lX8_25 iX7_endOfBlanks eX7_endOfBlanks (by decide) (by omega) (s15 hz) rfl (Nat.le_of_ble_eq_true rfl) (fun q7 z7 hr7 hi7 hl7 h7 => ?_)
  obtain ⟨e17, e27, e37, e47, rfl⟩ := h7
  obtain rfl := e17.symm
  obtain rfl := e27.symm
  obtain rfl := e37.symm
  obtain rfl := e47.symm
  rw [show (up2 hi 18 3 0) 15 1 = hi 15 1 from up2_if (by omega), show (up2 hi 18 3 0) 16 = hi 16 from up2_f (by decide)]
  show a_wp G _ _ _ _ (vI (tS (hi 16) (hi 15 1) (0 : Int).toNat) :: _) _ _ _ _ _
  refine b_istore_n (n := 11) dX8_scan_10 rfl (by decide) rfl ?_
  refine a_iconst (n := 12) dX8_scan_11 rfl ⟨by decide, by decide⟩ ?_
  refine b_istore_n (n := 13) dX8_scan_12 rfl (by decide) rfl ?_
  have b15 : (up2 hi 18 3 0) 15 1 = hi 15 1 := up2_if (by omega)
  have b16 : (up2 hi 18 3 0) 16 = hi 16 := up2_f (by decide)
  exact c_scan_l (d := d) (s := hi 16) (sz := hi 15 1) (h₀ := up2 hi 18 3 0) hz hR hN hG b16 b15 h15.2 600 0 _ (by decide) (by decide) rE_ge (rE_le h15.1) (fun i h₁ => absurd h₁ (by omega)) ⟨fun _ _ _ _ _ _ => rfl, up2_s, fun j j₁ j₂ => absurd j₂ (by omega)⟩
end C32
