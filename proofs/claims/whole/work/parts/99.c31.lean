section C31
variable {G : aG} {d : Nat} {z : aZ} {hr : aR} {hi hl : aI}
/-- the signs from f to e spell the word -/
def spW (s : Int → Int) (f e : Int) (w : List Int) : Prop := e - f = w.length ∧ ∀ k : Nat, k < w.length → s (f + k) = w.getD k 0
set_option maxRecDepth 100000 in
theorem c_spells_l (hz : stZ z) (hR : stR hr) (hG : gS G) {i : Nat} (hi11 : i < 11) {f e : Int} (hf : 0 ≤ f) (he : e ≤ 600) (hlen : e - f = (jW i).length) (n : Nat) : ∀ k : Nat, k + n = (jW i).length → (∀ j : Nat, j < k → hi 16 (f + j) = (jW i).getD j 0) → a_wp G mX7_spells (d + 4) 15 [some (vR 15), some (vR (1000000000 + i)), some (vI f), some (vI e), some (vI (f + k))] [] z hr hi hl (Qs z hr hi hl (isB (∀ k : Nat, k < (jW i).length → hi 16 (f + k) = (jW i).getD k 0))) := by
  induction n with
  | zero =>
    intro k hk hm
    refine a_iload (n := 17) dX7_spells_15 rfl rfl ?_
    refine a_iload_n (n := 18) dX7_spells_17 rfl rfl ?_
    refine a_icmp_ge (t := 47) (n := 21) dX7_spells_18 rfl rfl (fun c₈ => ?_) (fun c₈ => absurd (show f + k ≥ e by omega) c₈)
    refine a_iconst (n := 48) dX7_spells_47 rfl ⟨by decide, by decide⟩ ?_
    refine a_zreturn dX7_spells_48 rfl (by omega) ?_
    exact ⟨rfl, rfl, rfl, rfl, _, rfl, Or.inl ⟨rfl, fun j hj => hm j (by omega)⟩⟩
  | succ n ih =>
    intro k hk hm
    refine a_iload (n := 17) dX7_spells_15 rfl rfl ?_
    refine a_iload_n (n := 18) dX7_spells_17 rfl rfl ?_
    refine a_icmp_ge (t := 47) (n := 21) dX7_spells_18 rfl rfl (fun c₈ => absurd c₈ (by omega)) (fun c₈ => ?_)
    refine a_aload_n (n := 22) dX7_spells_21 rfl rfl ?_
    refine a_getR (n := 25) dX7_spells_22 rfl fX7_9 (s15 hz) (r15_0 hR) ?_
    refine a_iload (n := 27) dX7_spells_25 rfl rfl ?_
    refine a_iald (n := 28) dX7_spells_27 rfl (s16 hz) (by omega) (by omega) ?_
    refine a_aload_n (n := 29) dX7_spells_28 rfl rfl ?_
    refine a_iload (n := 31) dX7_spells_29 rfl rfl ?_
    refine a_iload_n (n := 32) dX7_spells_31 rfl rfl ?_
    refine a_isub (n := 33) dX7_spells_32 rfl ⟨by omega, by omega⟩ ?_
    refine a_callVX (M2 := mJ_chr) (n := 36) hG hi11 dX7_spells_33 rfl (j_chr (d := d) hG hi11 (by omega) (by omega)) kJ_chr lX7_28 iJ_chr eJ_chr (by omega) rfl (Nat.le_of_ble_eq_true rfl) (fun q₃ z₃ hr₃ hi₃ hl₃ h₃ => ?_)
    obtain ⟨e₁, e₂, e₃, e₄, rfl⟩ := h₃
    obtain rfl := e₁.symm
    obtain rfl := e₂.symm
    obtain rfl := e₃.symm
    obtain rfl := e₄.symm
    have et : (f + (k : Int) - f).toNat = k := by omega
    rw [et]
    show a_wp G _ _ _ _ (vI _ :: _) _ _ _ _ _
    refine a_icmp_eq (t := 41) (n := 39) dX7_spells_36 rfl rfl (fun c₆ => ?_) (fun c₆ => ?_)
    · refine b_iinc (n := 44) dX7_spells_41 rfl (by decide) rfl rfl ⟨by omega, by omega⟩ ?_
      refine a_goto (t := 15) dX7_spells_44 rfl ?_
      have h₉ := ih (k + 1) (by omega) (fun j hj => by
        rcases Nat.lt_succ_iff_lt_or_eq.mp hj with q | q
        · exact hm j q
        · rw [q]; exact c₆)
      rw [show f + ((k + 1 : Nat) : Int) = f + k + 1 by omega] at h₉
      exact h₉
    · refine a_iconst (n := 40) dX7_spells_39 rfl ⟨by decide, by decide⟩ ?_
      refine a_zreturn dX7_spells_40 rfl (by omega) ?_
      exact ⟨rfl, rfl, rfl, rfl, _, rfl, Or.inr ⟨rfl, fun q => c₆ (q k (by omega))⟩⟩
set_option maxRecDepth 100000 in
theorem c_spells (hz : stZ z) (hR : stR hr) (hG : gS G) {i : Nat} (hi11 : i < 11) {f e : Int} (hf : 0 ≤ f) (hfe : f ≤ e) (he : e ≤ 600) : a_ct G mX7_spells (d + 4) [vR 15, vR (1000000000 + i), vI f, vI e] z hr hi hl (Qs z hr hi hl (isB (spW (hi 16) f e (jW i)))) := by
  refine a_ct_of rfl (Nat.le_of_ble_eq_true rfl) ?_
  refine a_iload_n (n := 1) dX7_spells_0 rfl rfl ?_
  refine a_iload_n (n := 2) dX7_spells_1 rfl rfl ?_
  refine a_isub (n := 3) dX7_spells_2 rfl ⟨by omega, by omega⟩ ?_
  refine a_aload_n (n := 4) dX7_spells_3 rfl rfl ?_
  refine a_callVX (M2 := mJ_len) (n := 7) hG hi11 dX7_spells_4 rfl (j_len (d := d) hG hi11) kJ_len lX7_23 iJ_len eJ_len (by omega) rfl (Nat.le_of_ble_eq_true rfl) (fun q₃ z₃ hr₃ hi₃ hl₃ h₃ => ?_)
  obtain ⟨e₁, e₂, e₃, e₄, rfl⟩ := h₃
  obtain rfl := e₁.symm
  obtain rfl := e₂.symm
  obtain rfl := e₃.symm
  obtain rfl := e₄.symm
  show a_wp G _ _ _ _ (vI _ :: _) _ _ _ _ _
  refine a_icmp_eq (t := 12) (n := 10) dX7_spells_7 rfl rfl (fun c₆ => ?_) (fun c₆ => ?_)
  · refine a_iload_n (n := 13) dX7_spells_12 rfl rfl ?_
    refine b_istore (n := 15) dX7_spells_13 rfl (by decide) rfl ?_
    have h₉ := c_spells_l (G := G) (d := d) (z := z) (hr := hr) (hi := hi) (hl := hl) hz hR hG hi11 hf he c₆ (jW i).length 0 (by omega) (fun j hj => absurd hj (by omega))
    rw [show f + ((0 : Nat) : Int) = f by omega] at h₉
    refine a_wp.mono h₉ (fun r z' hr' hi' hl' q => ?_)
    obtain ⟨g₁, g₂, g₃, g₄, b, rfl, hb⟩ := q
    refine ⟨g₁, g₂, g₃, g₄, b, rfl, ?_⟩
    rcases hb with ⟨b₁, b₂⟩ | ⟨b₁, b₂⟩
    · exact Or.inl ⟨b₁, c₆, b₂⟩
    · exact Or.inr ⟨b₁, fun w => b₂ w.2⟩
  · refine a_iconst (n := 11) dX7_spells_10 rfl ⟨by decide, by decide⟩ ?_
    refine a_zreturn dX7_spells_11 rfl (by omega) ?_
    exact ⟨rfl, rfl, rfl, rfl, _, rfl, Or.inr ⟨rfl, fun q => c₆ q.1⟩⟩
/-- the kind of a word -/
def kWd (s : Int → Int) (f e k : Int) : Prop := (spW s f e (jW 0) ∧ k = 0) ∨ (¬ spW s f e (jW 0) ∧ spW s f e (jW 1) ∧ k = 1) ∨ (¬ spW s f e (jW 0) ∧ ¬ spW s f e (jW 1) ∧ spW s f e (jW 2) ∧ k = 2) ∨ (¬ spW s f e (jW 0) ∧ ¬ spW s f e (jW 1) ∧ ¬ spW s f e (jW 2) ∧ spW s f e (jW 3) ∧ k = 3) ∨ (¬ spW s f e (jW 0) ∧ ¬ spW s f e (jW 1) ∧ ¬ spW s f e (jW 2) ∧ ¬ spW s f e (jW 3) ∧ spW s f e (jW 4) ∧ k = 4) ∨ (¬ spW s f e (jW 0) ∧ ¬ spW s f e (jW 1) ∧ ¬ spW s f e (jW 2) ∧ ¬ spW s f e (jW 3) ∧ ¬ spW s f e (jW 4) ∧ spW s f e (jW 5) ∧ k = 5) ∨ (¬ spW s f e (jW 0) ∧ ¬ spW s f e (jW 1) ∧ ¬ spW s f e (jW 2) ∧ ¬ spW s f e (jW 3) ∧ ¬ spW s f e (jW 4) ∧ ¬ spW s f e (jW 5) ∧ spW s f e (jW 6) ∧ k = 6) ∨ (¬ spW s f e (jW 0) ∧ ¬ spW s f e (jW 1) ∧ ¬ spW s f e (jW 2) ∧ ¬ spW s f e (jW 3) ∧ ¬ spW s f e (jW 4) ∧ ¬ spW s f e (jW 5) ∧ ¬ spW s f e (jW 6) ∧ spW s f e (jW 7) ∧ k = 14) ∨ (¬ spW s f e (jW 0) ∧ ¬ spW s f e (jW 1) ∧ ¬ spW s f e (jW 2) ∧ ¬ spW s f e (jW 3) ∧ ¬ spW s f e (jW 4) ∧ ¬ spW s f e (jW 5) ∧ ¬ spW s f e (jW 6) ∧ ¬ spW s f e (jW 7) ∧ spW s f e (jW 8) ∧ k = 16) ∨ (¬ spW s f e (jW 0) ∧ ¬ spW s f e (jW 1) ∧ ¬ spW s f e (jW 2) ∧ ¬ spW s f e (jW 3) ∧ ¬ spW s f e (jW 4) ∧ ¬ spW s f e (jW 5) ∧ ¬ spW s f e (jW 6) ∧ ¬ spW s f e (jW 7) ∧ ¬ spW s f e (jW 8) ∧ spW s f e (jW 9) ∧ k = 17) ∨ (¬ spW s f e (jW 0) ∧ ¬ spW s f e (jW 1) ∧ ¬ spW s f e (jW 2) ∧ ¬ spW s f e (jW 3) ∧ ¬ spW s f e (jW 4) ∧ ¬ spW s f e (jW 5) ∧ ¬ spW s f e (jW 6) ∧ ¬ spW s f e (jW 7) ∧ ¬ spW s f e (jW 8) ∧ ¬ spW s f e (jW 9) ∧ spW s f e (jW 10) ∧ k = 18) ∨ (¬ spW s f e (jW 0) ∧ ¬ spW s f e (jW 1) ∧ ¬ spW s f e (jW 2) ∧ ¬ spW s f e (jW 3) ∧ ¬ spW s f e (jW 4) ∧ ¬ spW s f e (jW 5) ∧ ¬ spW s f e (jW 6) ∧ ¬ spW s f e (jW 7) ∧ ¬ spW s f e (jW 8) ∧ ¬ spW s f e (jW 9) ∧ ¬ spW s f e (jW 10) ∧ k = 20)
set_option maxRecDepth 100000 in
set_option maxHeartbeats 4000000 in
theorem c_kind (hz : stZ z) (hR : stR hr) (hG : gS G) {f e : Int} (hf : 0 ≤ f) (hfe : f ≤ e) (he : e ≤ 600) : a_ct G mX8_kindOfWord (d + 5) [vR 15, vI f, vI e] z hr hi hl (Qs z hr hi hl (fun r => ∃ k, r = some (vI k) ∧ kWd (hi 16) f e k)) := by
  refine a_ct_of rfl (Nat.le_of_ble_eq_true rfl) ?_
  refine a_aload_n (n := 1) dX8_kindOfWord_0 rfl rfl ?_
  refine a_ldcS (i := 0) (n := 3) hG dX8_kindOfWord_1 rfl rfl rfl rfl ?_
  refine a_iload_n (n := 4) dX8_kindOfWord_3 rfl rfl ?_
  refine a_iload_n (n := 5) dX8_kindOfWord_4 rfl rfl ?_
  refine a_callV (M2 := mX7_spells) (n := 8) dX8_kindOfWord_5 rfl (c_spells (d := d) hz hR hG (show 0 < 11 by decide) hf hfe he) kX7_spells lX8_62 iX7_spells eX7_spells (by decide) (by omega) (s15 hz) rfl (Nat.le_of_ble_eq_true rfl) (fun q0₃ z0₃ hr0₃ hi0₃ hl0₃ h0₃ => ?_)
  obtain ⟨e₁, e₂, e₃, e₄, b0₀, rfl, hb0₀⟩ := h0₃
  obtain rfl := e₁.symm
  obtain rfl := e₂.symm
  obtain rfl := e₃.symm
  obtain rfl := e₄.symm
  show a_wp G _ _ _ _ (vI b0₀ :: _) _ _ _ _ _
  refine a_if_eq (t := 13) (n := 11) dX8_kindOfWord_8 rfl rfl (fun c0₀ => ?_) (fun c0₀ => ?_)
  rotate_left
  · refine a_iconst (n := 12) dX8_kindOfWord_11 rfl ⟨by decide, by decide⟩ ?_
    refine a_ireturn dX8_kindOfWord_12 rfl ?_
    exact ⟨rfl, rfl, rfl, rfl, _, rfl, Or.inl ⟨isB_t hb0₀ c0₀, rfl⟩⟩
  have n0₀ := isB_f hb0₀ c0₀
  refine a_aload_n (n := 14) dX8_kindOfWord_13 rfl rfl ?_
  refine a_ldcS (i := 1) (n := 16) hG dX8_kindOfWord_14 rfl rfl rfl rfl ?_
  refine a_iload_n (n := 17) dX8_kindOfWord_16 rfl rfl ?_
  refine a_iload_n (n := 18) dX8_kindOfWord_17 rfl rfl ?_
  refine a_callV (M2 := mX7_spells) (n := 21) dX8_kindOfWord_18 rfl (c_spells (d := d) hz hR hG (show 1 < 11 by decide) hf hfe he) kX7_spells lX8_62 iX7_spells eX7_spells (by decide) (by omega) (s15 hz) rfl (Nat.le_of_ble_eq_true rfl) (fun q1₃ z1₃ hr1₃ hi1₃ hl1₃ h1₃ => ?_)
  obtain ⟨e₁, e₂, e₃, e₄, b1₀, rfl, hb1₀⟩ := h1₃
  obtain rfl := e₁.symm
  obtain rfl := e₂.symm
  obtain rfl := e₃.symm
  obtain rfl := e₄.symm
  show a_wp G _ _ _ _ (vI b1₀ :: _) _ _ _ _ _
  refine a_if_eq (t := 26) (n := 24) dX8_kindOfWord_21 rfl rfl (fun c1₀ => ?_) (fun c1₀ => ?_)
  rotate_left
  · refine a_iconst (n := 25) dX8_kindOfWord_24 rfl ⟨by decide, by decide⟩ ?_
    refine a_ireturn dX8_kindOfWord_25 rfl ?_
    exact ⟨rfl, rfl, rfl, rfl, _, rfl, Or.inr (Or.inl ⟨n0₀, isB_t hb1₀ c1₀, rfl⟩)⟩
  have n1₀ := isB_f hb1₀ c1₀
  refine a_aload_n (n := 27) dX8_kindOfWord_26 rfl rfl ?_
  refine a_ldcS (i := 2) (n := 29) hG dX8_kindOfWord_27 rfl rfl rfl rfl ?_
  refine a_iload_n (n := 30) dX8_kindOfWord_29 rfl rfl ?_
  refine a_iload_n (n := 31) dX8_kindOfWord_30 rfl rfl ?_
  refine a_callV (M2 := mX7_spells) (n := 34) dX8_kindOfWord_31 rfl (c_spells (d := d) hz hR hG (show 2 < 11 by decide) hf hfe he) kX7_spells lX8_62 iX7_spells eX7_spells (by decide) (by omega) (s15 hz) rfl (Nat.le_of_ble_eq_true rfl) (fun q2₃ z2₃ hr2₃ hi2₃ hl2₃ h2₃ => ?_)
  obtain ⟨e₁, e₂, e₃, e₄, b2₀, rfl, hb2₀⟩ := h2₃
  obtain rfl := e₁.symm
  obtain rfl := e₂.symm
  obtain rfl := e₃.symm
  obtain rfl := e₄.symm
  show a_wp G _ _ _ _ (vI b2₀ :: _) _ _ _ _ _
  refine a_if_eq (t := 39) (n := 37) dX8_kindOfWord_34 rfl rfl (fun c2₀ => ?_) (fun c2₀ => ?_)
  rotate_left
  · refine a_iconst (n := 38) dX8_kindOfWord_37 rfl ⟨by decide, by decide⟩ ?_
    refine a_ireturn dX8_kindOfWord_38 rfl ?_
    exact ⟨rfl, rfl, rfl, rfl, _, rfl, Or.inr (Or.inr (Or.inl ⟨n0₀, n1₀, isB_t hb2₀ c2₀, rfl⟩))⟩
  have n2₀ := isB_f hb2₀ c2₀
  refine a_aload_n (n := 40) dX8_kindOfWord_39 rfl rfl ?_
  refine a_ldcS (i := 3) (n := 42) hG dX8_kindOfWord_40 rfl rfl rfl rfl ?_
  refine a_iload_n (n := 43) dX8_kindOfWord_42 rfl rfl ?_
  refine a_iload_n (n := 44) dX8_kindOfWord_43 rfl rfl ?_
  refine a_callV (M2 := mX7_spells) (n := 47) dX8_kindOfWord_44 rfl (c_spells (d := d) hz hR hG (show 3 < 11 by decide) hf hfe he) kX7_spells lX8_62 iX7_spells eX7_spells (by decide) (by omega) (s15 hz) rfl (Nat.le_of_ble_eq_true rfl) (fun q3₃ z3₃ hr3₃ hi3₃ hl3₃ h3₃ => ?_)
  obtain ⟨e₁, e₂, e₃, e₄, b3₀, rfl, hb3₀⟩ := h3₃
  obtain rfl := e₁.symm
  obtain rfl := e₂.symm
  obtain rfl := e₃.symm
  obtain rfl := e₄.symm
  show a_wp G _ _ _ _ (vI b3₀ :: _) _ _ _ _ _
  refine a_if_eq (t := 52) (n := 50) dX8_kindOfWord_47 rfl rfl (fun c3₀ => ?_) (fun c3₀ => ?_)
  rotate_left
  · refine a_iconst (n := 51) dX8_kindOfWord_50 rfl ⟨by decide, by decide⟩ ?_
    refine a_ireturn dX8_kindOfWord_51 rfl ?_
    exact ⟨rfl, rfl, rfl, rfl, _, rfl, Or.inr (Or.inr (Or.inr (Or.inl ⟨n0₀, n1₀, n2₀, isB_t hb3₀ c3₀, rfl⟩)))⟩
  have n3₀ := isB_f hb3₀ c3₀
  refine a_aload_n (n := 53) dX8_kindOfWord_52 rfl rfl ?_
  refine a_ldcS (i := 4) (n := 55) hG dX8_kindOfWord_53 rfl rfl rfl rfl ?_
  refine a_iload_n (n := 56) dX8_kindOfWord_55 rfl rfl ?_
  refine a_iload_n (n := 57) dX8_kindOfWord_56 rfl rfl ?_
  refine a_callV (M2 := mX7_spells) (n := 60) dX8_kindOfWord_57 rfl (c_spells (d := d) hz hR hG (show 4 < 11 by decide) hf hfe he) kX7_spells lX8_62 iX7_spells eX7_spells (by decide) (by omega) (s15 hz) rfl (Nat.le_of_ble_eq_true rfl) (fun q4₃ z4₃ hr4₃ hi4₃ hl4₃ h4₃ => ?_)
  obtain ⟨e₁, e₂, e₃, e₄, b4₀, rfl, hb4₀⟩ := h4₃
  obtain rfl := e₁.symm
  obtain rfl := e₂.symm
  obtain rfl := e₃.symm
  obtain rfl := e₄.symm
  show a_wp G _ _ _ _ (vI b4₀ :: _) _ _ _ _ _
  refine a_if_eq (t := 65) (n := 63) dX8_kindOfWord_60 rfl rfl (fun c4₀ => ?_) (fun c4₀ => ?_)
  rotate_left
  · refine a_iconst (n := 64) dX8_kindOfWord_63 rfl ⟨by decide, by decide⟩ ?_
    refine a_ireturn dX8_kindOfWord_64 rfl ?_
    exact ⟨rfl, rfl, rfl, rfl, _, rfl, Or.inr (Or.inr (Or.inr (Or.inr (Or.inl ⟨n0₀, n1₀, n2₀, n3₀, isB_t hb4₀ c4₀, rfl⟩))))⟩
  have n4₀ := isB_f hb4₀ c4₀
  refine a_aload_n (n := 66) dX8_kindOfWord_65 rfl rfl ?_
  refine a_ldcS (i := 5) (n := 68) hG dX8_kindOfWord_66 rfl rfl rfl rfl ?_
  refine a_iload_n (n := 69) dX8_kindOfWord_68 rfl rfl ?_
  refine a_iload_n (n := 70) dX8_kindOfWord_69 rfl rfl ?_
  refine a_callV (M2 := mX7_spells) (n := 73) dX8_kindOfWord_70 rfl (c_spells (d := d) hz hR hG (show 5 < 11 by decide) hf hfe he) kX7_spells lX8_62 iX7_spells eX7_spells (by decide) (by omega) (s15 hz) rfl (Nat.le_of_ble_eq_true rfl) (fun q5₃ z5₃ hr5₃ hi5₃ hl5₃ h5₃ => ?_)
  obtain ⟨e₁, e₂, e₃, e₄, b5₀, rfl, hb5₀⟩ := h5₃
  obtain rfl := e₁.symm
  obtain rfl := e₂.symm
  obtain rfl := e₃.symm
  obtain rfl := e₄.symm
  show a_wp G _ _ _ _ (vI b5₀ :: _) _ _ _ _ _
  refine a_if_eq (t := 78) (n := 76) dX8_kindOfWord_73 rfl rfl (fun c5₀ => ?_) (fun c5₀ => ?_)
  rotate_left
  · refine a_iconst (n := 77) dX8_kindOfWord_76 rfl ⟨by decide, by decide⟩ ?_
    refine a_ireturn dX8_kindOfWord_77 rfl ?_
    exact ⟨rfl, rfl, rfl, rfl, _, rfl, Or.inr (Or.inr (Or.inr (Or.inr (Or.inr (Or.inl ⟨n0₀, n1₀, n2₀, n3₀, n4₀, isB_t hb5₀ c5₀, rfl⟩)))))⟩
  have n5₀ := isB_f hb5₀ c5₀
  refine a_aload_n (n := 79) dX8_kindOfWord_78 rfl rfl ?_
  refine a_ldcS (i := 6) (n := 81) hG dX8_kindOfWord_79 rfl rfl rfl rfl ?_
  refine a_iload_n (n := 82) dX8_kindOfWord_81 rfl rfl ?_
  refine a_iload_n (n := 83) dX8_kindOfWord_82 rfl rfl ?_
  refine a_callV (M2 := mX7_spells) (n := 86) dX8_kindOfWord_83 rfl (c_spells (d := d) hz hR hG (show 6 < 11 by decide) hf hfe he) kX7_spells lX8_62 iX7_spells eX7_spells (by decide) (by omega) (s15 hz) rfl (Nat.le_of_ble_eq_true rfl) (fun q6₃ z6₃ hr6₃ hi6₃ hl6₃ h6₃ => ?_)
  obtain ⟨e₁, e₂, e₃, e₄, b6₀, rfl, hb6₀⟩ := h6₃
  obtain rfl := e₁.symm
  obtain rfl := e₂.symm
  obtain rfl := e₃.symm
  obtain rfl := e₄.symm
  show a_wp G _ _ _ _ (vI b6₀ :: _) _ _ _ _ _
  refine a_if_eq (t := 92) (n := 89) dX8_kindOfWord_86 rfl rfl (fun c6₀ => ?_) (fun c6₀ => ?_)
  rotate_left
  · refine a_bipush (n := 91) dX8_kindOfWord_89 rfl ⟨by decide, by decide⟩ (by decide) ?_
    refine a_ireturn dX8_kindOfWord_91 rfl ?_
    exact ⟨rfl, rfl, rfl, rfl, _, rfl, Or.inr (Or.inr (Or.inr (Or.inr (Or.inr (Or.inr (Or.inl ⟨n0₀, n1₀, n2₀, n3₀, n4₀, n5₀, isB_t hb6₀ c6₀, rfl⟩))))))⟩
  have n6₀ := isB_f hb6₀ c6₀
  refine a_aload_n (n := 93) dX8_kindOfWord_92 rfl rfl ?_
  refine a_ldcS (i := 7) (n := 95) hG dX8_kindOfWord_93 rfl rfl rfl rfl ?_
  refine a_iload_n (n := 96) dX8_kindOfWord_95 rfl rfl ?_
  refine a_iload_n (n := 97) dX8_kindOfWord_96 rfl rfl ?_
  refine a_callV (M2 := mX7_spells) (n := 100) dX8_kindOfWord_97 rfl (c_spells (d := d) hz hR hG (show 7 < 11 by decide) hf hfe he) kX7_spells lX8_62 iX7_spells eX7_spells (by decide) (by omega) (s15 hz) rfl (Nat.le_of_ble_eq_true rfl) (fun q7₃ z7₃ hr7₃ hi7₃ hl7₃ h7₃ => ?_)
  obtain ⟨e₁, e₂, e₃, e₄, b7₀, rfl, hb7₀⟩ := h7₃
  obtain rfl := e₁.symm
  obtain rfl := e₂.symm
  obtain rfl := e₃.symm
  obtain rfl := e₄.symm
  show a_wp G _ _ _ _ (vI b7₀ :: _) _ _ _ _ _
  refine a_if_eq (t := 106) (n := 103) dX8_kindOfWord_100 rfl rfl (fun c7₀ => ?_) (fun c7₀ => ?_)
  rotate_left
  · refine a_bipush (n := 105) dX8_kindOfWord_103 rfl ⟨by decide, by decide⟩ (by decide) ?_
    refine a_ireturn dX8_kindOfWord_105 rfl ?_
    exact ⟨rfl, rfl, rfl, rfl, _, rfl, Or.inr (Or.inr (Or.inr (Or.inr (Or.inr (Or.inr (Or.inr (Or.inl ⟨n0₀, n1₀, n2₀, n3₀, n4₀, n5₀, n6₀, isB_t hb7₀ c7₀, rfl⟩)))))))⟩
  have n7₀ := isB_f hb7₀ c7₀
  refine a_aload_n (n := 107) dX8_kindOfWord_106 rfl rfl ?_
  refine a_ldcS (i := 8) (n := 109) hG dX8_kindOfWord_107 rfl rfl rfl rfl ?_
  refine a_iload_n (n := 110) dX8_kindOfWord_109 rfl rfl ?_
  refine a_iload_n (n := 111) dX8_kindOfWord_110 rfl rfl ?_
  refine a_callV (M2 := mX7_spells) (n := 114) dX8_kindOfWord_111 rfl (c_spells (d := d) hz hR hG (show 8 < 11 by decide) hf hfe he) kX7_spells lX8_62 iX7_spells eX7_spells (by decide) (by omega) (s15 hz) rfl (Nat.le_of_ble_eq_true rfl) (fun q8₃ z8₃ hr8₃ hi8₃ hl8₃ h8₃ => ?_)
  obtain ⟨e₁, e₂, e₃, e₄, b8₀, rfl, hb8₀⟩ := h8₃
  obtain rfl := e₁.symm
  obtain rfl := e₂.symm
  obtain rfl := e₃.symm
  obtain rfl := e₄.symm
  show a_wp G _ _ _ _ (vI b8₀ :: _) _ _ _ _ _
  refine a_if_eq (t := 120) (n := 117) dX8_kindOfWord_114 rfl rfl (fun c8₀ => ?_) (fun c8₀ => ?_)
  rotate_left
  · refine a_bipush (n := 119) dX8_kindOfWord_117 rfl ⟨by decide, by decide⟩ (by decide) ?_
    refine a_ireturn dX8_kindOfWord_119 rfl ?_
    exact ⟨rfl, rfl, rfl, rfl, _, rfl, Or.inr (Or.inr (Or.inr (Or.inr (Or.inr (Or.inr (Or.inr (Or.inr (Or.inl ⟨n0₀, n1₀, n2₀, n3₀, n4₀, n5₀, n6₀, n7₀, isB_t hb8₀ c8₀, rfl⟩))))))))⟩
  have n8₀ := isB_f hb8₀ c8₀
  refine a_aload_n (n := 121) dX8_kindOfWord_120 rfl rfl ?_
  refine a_ldcS (i := 9) (n := 123) hG dX8_kindOfWord_121 rfl rfl rfl rfl ?_
  refine a_iload_n (n := 124) dX8_kindOfWord_123 rfl rfl ?_
  refine a_iload_n (n := 125) dX8_kindOfWord_124 rfl rfl ?_
  refine a_callV (M2 := mX7_spells) (n := 128) dX8_kindOfWord_125 rfl (c_spells (d := d) hz hR hG (show 9 < 11 by decide) hf hfe he) kX7_spells lX8_62 iX7_spells eX7_spells (by decide) (by omega) (s15 hz) rfl (Nat.le_of_ble_eq_true rfl) (fun q9₃ z9₃ hr9₃ hi9₃ hl9₃ h9₃ => ?_)
  obtain ⟨e₁, e₂, e₃, e₄, b9₀, rfl, hb9₀⟩ := h9₃
  obtain rfl := e₁.symm
  obtain rfl := e₂.symm
  obtain rfl := e₃.symm
  obtain rfl := e₄.symm
  show a_wp G _ _ _ _ (vI b9₀ :: _) _ _ _ _ _
  refine a_if_eq (t := 134) (n := 131) dX8_kindOfWord_128 rfl rfl (fun c9₀ => ?_) (fun c9₀ => ?_)
  rotate_left
  · refine a_bipush (n := 133) dX8_kindOfWord_131 rfl ⟨by decide, by decide⟩ (by decide) ?_
    refine a_ireturn dX8_kindOfWord_133 rfl ?_
    exact ⟨rfl, rfl, rfl, rfl, _, rfl, Or.inr (Or.inr (Or.inr (Or.inr (Or.inr (Or.inr (Or.inr (Or.inr (Or.inr (Or.inl ⟨n0₀, n1₀, n2₀, n3₀, n4₀, n5₀, n6₀, n7₀, n8₀, isB_t hb9₀ c9₀, rfl⟩)))))))))⟩
  have n9₀ := isB_f hb9₀ c9₀
  refine a_aload_n (n := 135) dX8_kindOfWord_134 rfl rfl ?_
  refine a_ldcS (i := 10) (n := 137) hG dX8_kindOfWord_135 rfl rfl rfl rfl ?_
  refine a_iload_n (n := 138) dX8_kindOfWord_137 rfl rfl ?_
  refine a_iload_n (n := 139) dX8_kindOfWord_138 rfl rfl ?_
  refine a_callV (M2 := mX7_spells) (n := 142) dX8_kindOfWord_139 rfl (c_spells (d := d) hz hR hG (show 10 < 11 by decide) hf hfe he) kX7_spells lX8_62 iX7_spells eX7_spells (by decide) (by omega) (s15 hz) rfl (Nat.le_of_ble_eq_true rfl) (fun q10₃ z10₃ hr10₃ hi10₃ hl10₃ h10₃ => ?_)
  obtain ⟨e₁, e₂, e₃, e₄, b10₀, rfl, hb10₀⟩ := h10₃
  obtain rfl := e₁.symm
  obtain rfl := e₂.symm
  obtain rfl := e₃.symm
  obtain rfl := e₄.symm
  show a_wp G _ _ _ _ (vI b10₀ :: _) _ _ _ _ _
  refine a_if_eq (t := 148) (n := 145) dX8_kindOfWord_142 rfl rfl (fun c10₀ => ?_) (fun c10₀ => ?_)
  rotate_left
  · refine a_bipush (n := 147) dX8_kindOfWord_145 rfl ⟨by decide, by decide⟩ (by decide) ?_
    refine a_ireturn dX8_kindOfWord_147 rfl ?_
    exact ⟨rfl, rfl, rfl, rfl, _, rfl, Or.inr (Or.inr (Or.inr (Or.inr (Or.inr (Or.inr (Or.inr (Or.inr (Or.inr (Or.inr (Or.inl ⟨n0₀, n1₀, n2₀, n3₀, n4₀, n5₀, n6₀, n7₀, n8₀, n9₀, isB_t hb10₀ c10₀, rfl⟩))))))))))⟩
  have n10₀ := isB_f hb10₀ c10₀
  refine a_bipush (n := 150) dX8_kindOfWord_148 rfl ⟨by decide, by decide⟩ (by decide) ?_
  refine a_ireturn dX8_kindOfWord_150 rfl ?_
  exact ⟨rfl, rfl, rfl, rfl, _, rfl, Or.inr (Or.inr (Or.inr (Or.inr (Or.inr (Or.inr (Or.inr (Or.inr (Or.inr (Or.inr (Or.inr (⟨n0₀, n1₀, n2₀, n3₀, n4₀, n5₀, n6₀, n7₀, n8₀, n9₀, n10₀, rfl⟩)))))))))))⟩
end C31
