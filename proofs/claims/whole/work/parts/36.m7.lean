section M7
variable {G : aG} {d : Nat} {z : aZ} {hr : aR} {hi hl : aI}
theorem isB_t {b : Int} {p : Prop} (h : (b = 1 ∧ p) ∨ (b = 0 ∧ ¬ p)) (hb : ¬ b = 0) : p := h.elim (fun q => q.2) (fun q => absurd q.1 hb)
theorem isB_f {b : Int} {p : Prop} (h : (b = 1 ∧ p) ∨ (b = 0 ∧ ¬ p)) (hb : b = 0) : ¬ p := h.elim (fun q => absurd (q.1.symm.trans hb) (by decide)) (fun q => q.2)
abbrev mHas (f : Int → Int) (q r n : Int) : Prop := f (8 * q + 2 * r + 0) = n ∨ f (8 * q + 2 * r + 1) = n
/-- in the row r the MARKS of p FIT what s is of -/
abbrev mFitR (hi : aI) (p s r : Int) : Prop :=
  (2 ≤ hi 53 s → hi 57 (8 * p + 2 * r + 0) = hi 57 (8 * hi 54 s + 2 * r + 0) ∧ hi 57 (8 * p + 2 * r + 1) = hi 57 (8 * hi 54 s + 2 * r + 1)) ∧
  (hi 53 s < 2 → hi 55 s < 0 → mHas (hi 57) (hi 54 s) r (hi 57 (8 * p + 2 * r + 0)) ∨ mHas (hi 57) (hi 54 s) r (hi 57 (8 * p + 2 * r + 1))) ∧
  (hi 53 s < 2 → 0 ≤ hi 55 s → (mHas (hi 57) (hi 54 s) r (hi 57 (8 * p + 2 * r + 0)) ∧ mHas (hi 57) (hi 55 s) r (hi 57 (8 * p + 2 * r + 1))) ∨ (mHas (hi 57) (hi 54 s) r (hi 57 (8 * p + 2 * r + 1)) ∧ mHas (hi 57) (hi 55 s) r (hi 57 (8 * p + 2 * r + 0))))
def mFitU (hi : aI) (p s g r : Int) : Prop := (g = 1 ∧ ∀ q, 0 ≤ q → q < r → mFitR hi p s q) ∨ (g = 0 ∧ ∃ q, 0 ≤ q ∧ q < r ∧ ¬ mFitR hi p s q)
theorem mFit1 {p s g r : Int} (h : mFitU hi p s g r) (hg : ¬ g = 0) (hF : mFitR hi p s r) : mFitU hi p s 1 (r + 1) := by
  rcases h with ⟨_, h⟩ | ⟨h, _⟩
  · refine Or.inl ⟨rfl, fun q h1 h2 => ?_⟩
    by_cases e : q = r
    · rw [e]; exact hF
    · exact h q h1 (by omega)
  · exact absurd h hg
theorem mFit0 {p s g r : Int} (h : mFitU hi p s g r) (hg : g = 0) : mFitU hi p s 0 (r + 1) := by
  rcases h with ⟨h, _⟩ | ⟨_, q, h1, h2, h3⟩
  · omega
  · exact Or.inr ⟨rfl, q, h1, by omega, h3⟩
theorem mFitN {p s g r : Int} (h0 : 0 ≤ r) (hF : ¬ mFitR hi p s r) : mFitU hi p s 0 (r + 1) := Or.inr ⟨rfl, r, h0, by omega, hF⟩
theorem mFitE {p s g r : Int} (h : mFitU hi p s g r) (hr : r = 4 ∨ hi 53 s = 0) (h0 : hi 53 s = 0 → g = 1) : (g = 1 ∧ (hi 53 s = 0 ∨ ∀ q, 0 ≤ q → q < 4 → mFitR hi p s q)) ∨ (g = 0 ∧ ¬ (hi 53 s = 0 ∨ ∀ q, 0 ≤ q → q < 4 → mFitR hi p s q)) := by
  by_cases e : hi 53 s = 0
  · exact Or.inl ⟨h0 e, Or.inl e⟩
  · have e4 : r = 4 := hr.elim id (fun q => absurd q e)
    subst e4
    rcases h with ⟨h, h1⟩ | ⟨h, q, h1, h2, h3⟩
    · exact Or.inl ⟨h, Or.inr h1⟩
    · exact Or.inr ⟨h, fun k => k.elim e (fun k => h3 (k q h1 h2))⟩
set_option maxRecDepth 100000 in
set_option maxHeartbeats 4000000 in
theorem m_fitsAs_l (hz : stZ z) (hR : stR hr) {p s : Int} (hp : 0 ≤ p ∧ p < 40) (hs : 0 ≤ s ∧ s < 40) (hb : ¬ hi 53 s = 0 → 0 ≤ hi 54 s ∧ hi 54 s < 40 ∧ hi 55 s < 40) : ∀ (n : Nat) (g r : Int) (o5 o6 o7 o8 : Option aV), mFitU hi p s g r → (hi 53 s = 0 → g = 1) → 0 ≤ r → r + n = 4 → a_wp G mX10_fitsAs (d + 2) 5 [some (vR 37), some (vI p), some (vI s), some (vI g), some (vI r), o5, o6, o7, o8] [] z hr hi hl (Qs z hr hi hl (isB (hi 53 s = 0 ∨ ∀ q, 0 ≤ q → q < 4 → mFitR hi p s q))) := by
  intro n
  induction n with
  | zero =>
    intro g r o5 o6 o7 o8 hg hk h0 h4
    have hg01 : g = 0 ∨ g = 1 := hg.elim (fun q => Or.inr q.1) (fun q => Or.inl q.1)
    refine a_iload (n := 7) dX10_fitsAs_5 rfl rfl ?_
    refine a_iconst (n := 8) dX10_fitsAs_7 rfl ⟨by decide, by decide⟩ ?_
    refine a_icmp_ge (t := 219) (n := 11) dX10_fitsAs_8 rfl rfl (fun c8 => ?_) (fun c8 => ?_)
    · refine a_iload_n (n := 220) dX10_fitsAs_219 rfl rfl ?_
      refine a_zreturn dX10_fitsAs_220 rfl (by omega) ?_
      refine ⟨rfl, rfl, rfl, rfl, g, rfl, mFitE hg (by omega) hk⟩
    · exfalso; omega
  | succ n ih =>
    intro g r o5 o6 o7 o8 hg hk h0 h4
    have hg01 : g = 0 ∨ g = 1 := hg.elim (fun q => Or.inr q.1) (fun q => Or.inl q.1)
    have hr1 : 0 ≤ r + 1 := by omega
    have hr2 : r + 1 + n = 4 := by omega
    have hrow : 0 ≤ r ∧ r < 4 := by omega
    have hrr : r32 (r + 1) := ⟨by omega, by omega⟩
    refine a_iload (n := 7) dX10_fitsAs_5 rfl rfl ?_
    refine a_iconst (n := 8) dX10_fitsAs_7 rfl ⟨by decide, by decide⟩ ?_
    refine a_icmp_ge (t := 219) (n := 11) dX10_fitsAs_8 rfl rfl (fun c8 => ?_) (fun c8 => ?_)
    · exfalso; omega
    · refine a_aload_n (n := 12) dX10_fitsAs_11 rfl rfl ?_
      refine a_getR (n := 15) dX10_fitsAs_12 rfl fX10_90 (s37 hz) (r37_26 hR) ?_
      refine a_iload_n (n := 16) dX10_fitsAs_15 rfl rfl ?_
      refine a_iald (n := 17) dX10_fitsAs_16 rfl (s53 hz) (by omega) (by omega) ?_
      refine a_if_eq (t := 219) (n := 20) dX10_fitsAs_17 rfl rfl (fun c17 => ?_) (fun c17 => ?_)
      · refine a_iload_n (n := 220) dX10_fitsAs_219 rfl rfl ?_
        refine a_zreturn dX10_fitsAs_220 rfl (by omega) ?_
        refine ⟨rfl, rfl, rfl, rfl, g, rfl, mFitE hg (by omega) hk⟩
      · have hb9 := hb c17
        refine a_aload_n (n := 21) dX10_fitsAs_20 rfl rfl ?_
        refine a_iload_n (n := 22) dX10_fitsAs_21 rfl rfl ?_
        refine a_iload (n := 24) dX10_fitsAs_22 rfl rfl ?_
        refine a_iconst (n := 25) dX10_fitsAs_24 rfl ⟨by decide, by decide⟩ ?_
        refine a_callV (M2 := mX10_markOf) (n := 28) dX10_fitsAs_25 rfl (m_markOf (d := d + 1) hz hR (by first | exact hp | exact ⟨hb9.1, hb9.2.1⟩) hrow (by first | exact ⟨Int.le_refl 0, by decide⟩ | exact ⟨by decide, by decide⟩)) kX10_markOf lX10_271 iX10_markOf eX10_markOf (by decide) (by omega) (s37 hz) rfl (Nat.le_of_ble_eq_true rfl) (fun q25 z25 hr25 hi25 hl25 h25 => ?_)
        obtain ⟨rfl, rfl, rfl, rfl, rfl⟩ := h25
        show a_wp G _ _ _ _ (vI _ :: _) _ _ _ _ _
        refine b_istore (n := 30) dX10_fitsAs_28 rfl (by decide) rfl ?_
        refine a_aload_n (n := 31) dX10_fitsAs_30 rfl rfl ?_
        refine a_iload_n (n := 32) dX10_fitsAs_31 rfl rfl ?_
        refine a_iload (n := 34) dX10_fitsAs_32 rfl rfl ?_
        refine a_iconst (n := 35) dX10_fitsAs_34 rfl ⟨by decide, by decide⟩ ?_
        refine a_callV (M2 := mX10_markOf) (n := 38) dX10_fitsAs_35 rfl (m_markOf (d := d + 1) hz hR (by first | exact hp | exact ⟨hb9.1, hb9.2.1⟩) hrow (by first | exact ⟨Int.le_refl 0, by decide⟩ | exact ⟨by decide, by decide⟩)) kX10_markOf lX10_271 iX10_markOf eX10_markOf (by decide) (by omega) (s37 hz) rfl (Nat.le_of_ble_eq_true rfl) (fun q35 z35 hr35 hi35 hl35 h35 => ?_)
        obtain ⟨rfl, rfl, rfl, rfl, rfl⟩ := h35
        show a_wp G _ _ _ _ (vI _ :: _) _ _ _ _ _
        refine b_istore (n := 40) dX10_fitsAs_38 rfl (by decide) rfl ?_
        refine a_aload_n (n := 41) dX10_fitsAs_40 rfl rfl ?_
        refine a_getR (n := 44) dX10_fitsAs_41 rfl fX10_93 (s37 hz) (r37_27 hR) ?_
        refine a_iload_n (n := 45) dX10_fitsAs_44 rfl rfl ?_
        refine a_iald (n := 46) dX10_fitsAs_45 rfl (s54 hz) (by omega) (by omega) ?_
        refine b_istore (n := 48) dX10_fitsAs_46 rfl (by decide) rfl ?_
        refine a_aload_n (n := 49) dX10_fitsAs_48 rfl rfl ?_
        refine a_getR (n := 52) dX10_fitsAs_49 rfl fX10_96 (s37 hz) (r37_28 hR) ?_
        refine a_iload_n (n := 53) dX10_fitsAs_52 rfl rfl ?_
        refine a_iald (n := 54) dX10_fitsAs_53 rfl (s55 hz) (by omega) (by omega) ?_
        refine b_istore (n := 56) dX10_fitsAs_54 rfl (by decide) rfl ?_
        refine a_aload_n (n := 57) dX10_fitsAs_56 rfl rfl ?_
        refine a_getR (n := 60) dX10_fitsAs_57 rfl fX10_90 (s37 hz) (r37_26 hR) ?_
        refine a_iload_n (n := 61) dX10_fitsAs_60 rfl rfl ?_
        refine a_iald (n := 62) dX10_fitsAs_61 rfl (s53 hz) (by omega) (by omega) ?_
        refine a_iconst (n := 63) dX10_fitsAs_62 rfl ⟨by decide, by decide⟩ ?_
        refine a_icmp_lt (t := 107) (n := 66) dX10_fitsAs_63 rfl rfl (fun c63 => ?_) (fun c63 => ?_)
        · refine a_iload (n := 109) dX10_fitsAs_107 rfl rfl ?_
          refine a_if_ge (t := 151) (n := 112) dX10_fitsAs_109 rfl rfl (fun c109 => ?_) (fun c109 => ?_)
          · refine a_iload_n (n := 152) dX10_fitsAs_151 rfl rfl ?_
            refine a_if_eq (t := 211) (n := 155) dX10_fitsAs_152 rfl rfl (fun c152 => ?_) (fun c152 => ?_)
            · refine a_iconst (n := 212) dX10_fitsAs_211 rfl ⟨by decide, by decide⟩ ?_
              refine b_istore_n (n := 213) dX10_fitsAs_212 rfl (by decide) rfl ?_
              refine b_iinc (n := 216) dX10_fitsAs_213 rfl (by decide) rfl rfl hrr ?_
              refine a_goto (t := 5) dX10_fitsAs_216 rfl ?_
              exact ih 0 (r + 1) _ _ _ _ (mFit0 hg c152) (fun q => absurd q c17) hr1 hr2
            · refine a_aload_n (n := 156) dX10_fitsAs_155 rfl rfl ?_
              refine a_iload (n := 158) dX10_fitsAs_156 rfl rfl ?_
              refine a_iload (n := 160) dX10_fitsAs_158 rfl rfl ?_
              refine a_iload (n := 162) dX10_fitsAs_160 rfl rfl ?_
              refine a_callV (M2 := mX10_hasMark) (n := 165) dX10_fitsAs_162 rfl (m_hasMark (d := d) hz hR (by first | exact ⟨hb9.1, hb9.2.1⟩ | exact ⟨c109, hb9.2.2⟩) hrow) kX10_hasMark lX10_275 iX10_hasMark eX10_hasMark (by decide) (by omega) (s37 hz) rfl (Nat.le_of_ble_eq_true rfl) (fun q162 z162 hr162 hi162 hl162 h162 => ?_)
              obtain ⟨rfl, rfl, rfl, rfl, b162, rfl, hb162⟩ := h162
              show a_wp G _ _ _ _ (vI b162 :: _) _ _ _ _ _
              refine a_if_eq (t := 181) (n := 168) dX10_fitsAs_165 rfl rfl (fun c165 => ?_) (fun c165 => ?_)
              · replace hb162 := isB_f hb162 c165
                refine a_aload_n (n := 182) dX10_fitsAs_181 rfl rfl ?_
                refine a_iload (n := 184) dX10_fitsAs_182 rfl rfl ?_
                refine a_iload (n := 186) dX10_fitsAs_184 rfl rfl ?_
                refine a_iload (n := 188) dX10_fitsAs_186 rfl rfl ?_
                refine a_callV (M2 := mX10_hasMark) (n := 191) dX10_fitsAs_188 rfl (m_hasMark (d := d) hz hR (by first | exact ⟨hb9.1, hb9.2.1⟩ | exact ⟨c109, hb9.2.2⟩) hrow) kX10_hasMark lX10_275 iX10_hasMark eX10_hasMark (by decide) (by omega) (s37 hz) rfl (Nat.le_of_ble_eq_true rfl) (fun q188 z188 hr188 hi188 hl188 h188 => ?_)
                obtain ⟨rfl, rfl, rfl, rfl, b188, rfl, hb188⟩ := h188
                show a_wp G _ _ _ _ (vI b188 :: _) _ _ _ _ _
                refine a_if_eq (t := 211) (n := 194) dX10_fitsAs_191 rfl rfl (fun c191 => ?_) (fun c191 => ?_)
                · replace hb188 := isB_f hb188 c191
                  refine a_iconst (n := 212) dX10_fitsAs_211 rfl ⟨by decide, by decide⟩ ?_
                  refine b_istore_n (n := 213) dX10_fitsAs_212 rfl (by decide) rfl ?_
                  refine b_iinc (n := 216) dX10_fitsAs_213 rfl (by decide) rfl rfl hrr ?_
                  refine a_goto (t := 5) dX10_fitsAs_216 rfl ?_
                  exact ih 0 (r + 1) _ _ _ _ (mFitN (g := g) h0 (fun F => (F.2.2 c63 c109).elim (fun q => hb162 q.1) (fun q => hb188 q.1))) (fun q => absurd q c17) hr1 hr2
                · replace hb188 := isB_t hb188 c191
                  refine a_aload_n (n := 195) dX10_fitsAs_194 rfl rfl ?_
                  refine a_iload (n := 197) dX10_fitsAs_195 rfl rfl ?_
                  refine a_iload (n := 199) dX10_fitsAs_197 rfl rfl ?_
                  refine a_iload (n := 201) dX10_fitsAs_199 rfl rfl ?_
                  refine a_callV (M2 := mX10_hasMark) (n := 204) dX10_fitsAs_201 rfl (m_hasMark (d := d) hz hR (by first | exact ⟨hb9.1, hb9.2.1⟩ | exact ⟨c109, hb9.2.2⟩) hrow) kX10_hasMark lX10_275 iX10_hasMark eX10_hasMark (by decide) (by omega) (s37 hz) rfl (Nat.le_of_ble_eq_true rfl) (fun q201 z201 hr201 hi201 hl201 h201 => ?_)
                  obtain ⟨rfl, rfl, rfl, rfl, b201, rfl, hb201⟩ := h201
                  show a_wp G _ _ _ _ (vI b201 :: _) _ _ _ _ _
                  refine a_if_eq (t := 211) (n := 207) dX10_fitsAs_204 rfl rfl (fun c204 => ?_) (fun c204 => ?_)
                  · replace hb201 := isB_f hb201 c204
                    refine a_iconst (n := 212) dX10_fitsAs_211 rfl ⟨by decide, by decide⟩ ?_
                    refine b_istore_n (n := 213) dX10_fitsAs_212 rfl (by decide) rfl ?_
                    refine b_iinc (n := 216) dX10_fitsAs_213 rfl (by decide) rfl rfl hrr ?_
                    refine a_goto (t := 5) dX10_fitsAs_216 rfl ?_
                    exact ih 0 (r + 1) _ _ _ _ (mFitN (g := g) h0 (fun F => (F.2.2 c63 c109).elim (fun q => hb162 q.1) (fun q => hb201 q.2))) (fun q => absurd q c17) hr1 hr2
                  · replace hb201 := isB_t hb201 c204
                    refine a_iconst (n := 208) dX10_fitsAs_207 rfl ⟨by decide, by decide⟩ ?_
                    refine a_goto (t := 212) dX10_fitsAs_208 rfl ?_
                    refine b_istore_n (n := 213) dX10_fitsAs_212 rfl (by decide) rfl ?_
                    refine b_iinc (n := 216) dX10_fitsAs_213 rfl (by decide) rfl rfl hrr ?_
                    refine a_goto (t := 5) dX10_fitsAs_216 rfl ?_
                    exact ih 1 (r + 1) _ _ _ _ (mFit1 hg c152 ⟨fun q => absurd q (Int.not_le.mpr c63), fun _ q => absurd c109 (Int.not_le.mpr q), fun _ _ => Or.inr ⟨hb188, hb201⟩⟩) (fun q => absurd q c17) hr1 hr2
              · replace hb162 := isB_t hb162 c165
                refine a_aload_n (n := 169) dX10_fitsAs_168 rfl rfl ?_
                refine a_iload (n := 171) dX10_fitsAs_169 rfl rfl ?_
                refine a_iload (n := 173) dX10_fitsAs_171 rfl rfl ?_
                refine a_iload (n := 175) dX10_fitsAs_173 rfl rfl ?_
                refine a_callV (M2 := mX10_hasMark) (n := 178) dX10_fitsAs_175 rfl (m_hasMark (d := d) hz hR (by first | exact ⟨hb9.1, hb9.2.1⟩ | exact ⟨c109, hb9.2.2⟩) hrow) kX10_hasMark lX10_275 iX10_hasMark eX10_hasMark (by decide) (by omega) (s37 hz) rfl (Nat.le_of_ble_eq_true rfl) (fun q175 z175 hr175 hi175 hl175 h175 => ?_)
                obtain ⟨rfl, rfl, rfl, rfl, b175, rfl, hb175⟩ := h175
                show a_wp G _ _ _ _ (vI b175 :: _) _ _ _ _ _
                refine a_if_ne (t := 207) (n := 181) dX10_fitsAs_178 rfl rfl (fun c178 => ?_) (fun c178 => ?_)
                · replace hb175 := isB_t hb175 c178
                  refine a_iconst (n := 208) dX10_fitsAs_207 rfl ⟨by decide, by decide⟩ ?_
                  refine a_goto (t := 212) dX10_fitsAs_208 rfl ?_
                  refine b_istore_n (n := 213) dX10_fitsAs_212 rfl (by decide) rfl ?_
                  refine b_iinc (n := 216) dX10_fitsAs_213 rfl (by decide) rfl rfl hrr ?_
                  refine a_goto (t := 5) dX10_fitsAs_216 rfl ?_
                  exact ih 1 (r + 1) _ _ _ _ (mFit1 hg c152 ⟨fun q => absurd q (Int.not_le.mpr c63), fun _ q => absurd c109 (Int.not_le.mpr q), fun _ _ => Or.inl ⟨hb162, hb175⟩⟩) (fun q => absurd q c17) hr1 hr2
                · replace hb175 := isB_f hb175 c178
                  refine a_aload_n (n := 182) dX10_fitsAs_181 rfl rfl ?_
                  refine a_iload (n := 184) dX10_fitsAs_182 rfl rfl ?_
                  refine a_iload (n := 186) dX10_fitsAs_184 rfl rfl ?_
                  refine a_iload (n := 188) dX10_fitsAs_186 rfl rfl ?_
                  refine a_callV (M2 := mX10_hasMark) (n := 191) dX10_fitsAs_188 rfl (m_hasMark (d := d) hz hR (by first | exact ⟨hb9.1, hb9.2.1⟩ | exact ⟨c109, hb9.2.2⟩) hrow) kX10_hasMark lX10_275 iX10_hasMark eX10_hasMark (by decide) (by omega) (s37 hz) rfl (Nat.le_of_ble_eq_true rfl) (fun q188 z188 hr188 hi188 hl188 h188 => ?_)
                  obtain ⟨rfl, rfl, rfl, rfl, b188, rfl, hb188⟩ := h188
                  show a_wp G _ _ _ _ (vI b188 :: _) _ _ _ _ _
                  refine a_if_eq (t := 211) (n := 194) dX10_fitsAs_191 rfl rfl (fun c191 => ?_) (fun c191 => ?_)
                  · replace hb188 := isB_f hb188 c191
                    refine a_iconst (n := 212) dX10_fitsAs_211 rfl ⟨by decide, by decide⟩ ?_
                    refine b_istore_n (n := 213) dX10_fitsAs_212 rfl (by decide) rfl ?_
                    refine b_iinc (n := 216) dX10_fitsAs_213 rfl (by decide) rfl rfl hrr ?_
                    refine a_goto (t := 5) dX10_fitsAs_216 rfl ?_
                    exact ih 0 (r + 1) _ _ _ _ (mFitN (g := g) h0 (fun F => (F.2.2 c63 c109).elim (fun q => hb175 q.2) (fun q => hb188 q.1))) (fun q => absurd q c17) hr1 hr2
                  · replace hb188 := isB_t hb188 c191
                    refine a_aload_n (n := 195) dX10_fitsAs_194 rfl rfl ?_
                    refine a_iload (n := 197) dX10_fitsAs_195 rfl rfl ?_
                    refine a_iload (n := 199) dX10_fitsAs_197 rfl rfl ?_
                    refine a_iload (n := 201) dX10_fitsAs_199 rfl rfl ?_
                    refine a_callV (M2 := mX10_hasMark) (n := 204) dX10_fitsAs_201 rfl (m_hasMark (d := d) hz hR (by first | exact ⟨hb9.1, hb9.2.1⟩ | exact ⟨c109, hb9.2.2⟩) hrow) kX10_hasMark lX10_275 iX10_hasMark eX10_hasMark (by decide) (by omega) (s37 hz) rfl (Nat.le_of_ble_eq_true rfl) (fun q201 z201 hr201 hi201 hl201 h201 => ?_)
                    obtain ⟨rfl, rfl, rfl, rfl, b201, rfl, hb201⟩ := h201
                    show a_wp G _ _ _ _ (vI b201 :: _) _ _ _ _ _
                    refine a_if_eq (t := 211) (n := 207) dX10_fitsAs_204 rfl rfl (fun c204 => ?_) (fun c204 => ?_)
                    · replace hb201 := isB_f hb201 c204
                      refine a_iconst (n := 212) dX10_fitsAs_211 rfl ⟨by decide, by decide⟩ ?_
                      refine b_istore_n (n := 213) dX10_fitsAs_212 rfl (by decide) rfl ?_
                      refine b_iinc (n := 216) dX10_fitsAs_213 rfl (by decide) rfl rfl hrr ?_
                      refine a_goto (t := 5) dX10_fitsAs_216 rfl ?_
                      exact ih 0 (r + 1) _ _ _ _ (mFitN (g := g) h0 (fun F => (F.2.2 c63 c109).elim (fun q => hb175 q.2) (fun q => hb201 q.2))) (fun q => absurd q c17) hr1 hr2
                    · replace hb201 := isB_t hb201 c204
                      refine a_iconst (n := 208) dX10_fitsAs_207 rfl ⟨by decide, by decide⟩ ?_
                      refine a_goto (t := 212) dX10_fitsAs_208 rfl ?_
                      refine b_istore_n (n := 213) dX10_fitsAs_212 rfl (by decide) rfl ?_
                      refine b_iinc (n := 216) dX10_fitsAs_213 rfl (by decide) rfl rfl hrr ?_
                      refine a_goto (t := 5) dX10_fitsAs_216 rfl ?_
                      exact ih 1 (r + 1) _ _ _ _ (mFit1 hg c152 ⟨fun q => absurd q (Int.not_le.mpr c63), fun _ q => absurd c109 (Int.not_le.mpr q), fun _ _ => Or.inr ⟨hb188, hb201⟩⟩) (fun q => absurd q c17) hr1 hr2
          · refine a_iload_n (n := 113) dX10_fitsAs_112 rfl rfl ?_
            refine a_if_eq (t := 146) (n := 116) dX10_fitsAs_113 rfl rfl (fun c113 => ?_) (fun c113 => ?_)
            · refine a_iconst (n := 147) dX10_fitsAs_146 rfl ⟨by decide, by decide⟩ ?_
              refine b_istore_n (n := 148) dX10_fitsAs_147 rfl (by decide) rfl ?_
              refine a_goto (t := 213) dX10_fitsAs_148 rfl ?_
              refine b_iinc (n := 216) dX10_fitsAs_213 rfl (by decide) rfl rfl hrr ?_
              refine a_goto (t := 5) dX10_fitsAs_216 rfl ?_
              exact ih 0 (r + 1) _ _ _ _ (mFit0 hg c113) (fun q => absurd q c17) hr1 hr2
            · refine a_aload_n (n := 117) dX10_fitsAs_116 rfl rfl ?_
              refine a_iload (n := 119) dX10_fitsAs_117 rfl rfl ?_
              refine a_iload (n := 121) dX10_fitsAs_119 rfl rfl ?_
              refine a_iload (n := 123) dX10_fitsAs_121 rfl rfl ?_
              refine a_callV (M2 := mX10_hasMark) (n := 126) dX10_fitsAs_123 rfl (m_hasMark (d := d) hz hR (by first | exact ⟨hb9.1, hb9.2.1⟩ | exact ⟨c109, hb9.2.2⟩) hrow) kX10_hasMark lX10_275 iX10_hasMark eX10_hasMark (by decide) (by omega) (s37 hz) rfl (Nat.le_of_ble_eq_true rfl) (fun q123 z123 hr123 hi123 hl123 h123 => ?_)
              obtain ⟨rfl, rfl, rfl, rfl, b123, rfl, hb123⟩ := h123
              show a_wp G _ _ _ _ (vI b123 :: _) _ _ _ _ _
              refine a_if_ne (t := 142) (n := 129) dX10_fitsAs_126 rfl rfl (fun c126 => ?_) (fun c126 => ?_)
              · replace hb123 := isB_t hb123 c126
                refine a_iconst (n := 143) dX10_fitsAs_142 rfl ⟨by decide, by decide⟩ ?_
                refine a_goto (t := 147) dX10_fitsAs_143 rfl ?_
                refine b_istore_n (n := 148) dX10_fitsAs_147 rfl (by decide) rfl ?_
                refine a_goto (t := 213) dX10_fitsAs_148 rfl ?_
                refine b_iinc (n := 216) dX10_fitsAs_213 rfl (by decide) rfl rfl hrr ?_
                refine a_goto (t := 5) dX10_fitsAs_216 rfl ?_
                exact ih 1 (r + 1) _ _ _ _ (mFit1 hg c113 ⟨fun q => absurd q (Int.not_le.mpr c63), fun _ _ => Or.inl hb123, fun _ q => absurd q c109⟩) (fun q => absurd q c17) hr1 hr2
              · replace hb123 := isB_f hb123 c126
                refine a_aload_n (n := 130) dX10_fitsAs_129 rfl rfl ?_
                refine a_iload (n := 132) dX10_fitsAs_130 rfl rfl ?_
                refine a_iload (n := 134) dX10_fitsAs_132 rfl rfl ?_
                refine a_iload (n := 136) dX10_fitsAs_134 rfl rfl ?_
                refine a_callV (M2 := mX10_hasMark) (n := 139) dX10_fitsAs_136 rfl (m_hasMark (d := d) hz hR (by first | exact ⟨hb9.1, hb9.2.1⟩ | exact ⟨c109, hb9.2.2⟩) hrow) kX10_hasMark lX10_275 iX10_hasMark eX10_hasMark (by decide) (by omega) (s37 hz) rfl (Nat.le_of_ble_eq_true rfl) (fun q136 z136 hr136 hi136 hl136 h136 => ?_)
                obtain ⟨rfl, rfl, rfl, rfl, b136, rfl, hb136⟩ := h136
                show a_wp G _ _ _ _ (vI b136 :: _) _ _ _ _ _
                refine a_if_eq (t := 146) (n := 142) dX10_fitsAs_139 rfl rfl (fun c139 => ?_) (fun c139 => ?_)
                · replace hb136 := isB_f hb136 c139
                  refine a_iconst (n := 147) dX10_fitsAs_146 rfl ⟨by decide, by decide⟩ ?_
                  refine b_istore_n (n := 148) dX10_fitsAs_147 rfl (by decide) rfl ?_
                  refine a_goto (t := 213) dX10_fitsAs_148 rfl ?_
                  refine b_iinc (n := 216) dX10_fitsAs_213 rfl (by decide) rfl rfl hrr ?_
                  refine a_goto (t := 5) dX10_fitsAs_216 rfl ?_
                  exact ih 0 (r + 1) _ _ _ _ (mFitN (g := g) h0 (fun F => (F.2.1 c63 (Int.not_le.mp c109)).elim hb123 hb136)) (fun q => absurd q c17) hr1 hr2
                · replace hb136 := isB_t hb136 c139
                  refine a_iconst (n := 143) dX10_fitsAs_142 rfl ⟨by decide, by decide⟩ ?_
                  refine a_goto (t := 147) dX10_fitsAs_143 rfl ?_
                  refine b_istore_n (n := 148) dX10_fitsAs_147 rfl (by decide) rfl ?_
                  refine a_goto (t := 213) dX10_fitsAs_148 rfl ?_
                  refine b_iinc (n := 216) dX10_fitsAs_213 rfl (by decide) rfl rfl hrr ?_
                  refine a_goto (t := 5) dX10_fitsAs_216 rfl ?_
                  exact ih 1 (r + 1) _ _ _ _ (mFit1 hg c113 ⟨fun q => absurd q (Int.not_le.mpr c63), fun _ _ => Or.inr hb136, fun _ q => absurd q c109⟩) (fun q => absurd q c17) hr1 hr2
        · refine a_iload_n (n := 67) dX10_fitsAs_66 rfl rfl ?_
          refine a_if_eq (t := 102) (n := 70) dX10_fitsAs_67 rfl rfl (fun c67 => ?_) (fun c67 => ?_)
          · refine a_iconst (n := 103) dX10_fitsAs_102 rfl ⟨by decide, by decide⟩ ?_
            refine b_istore_n (n := 104) dX10_fitsAs_103 rfl (by decide) rfl ?_
            refine a_goto (t := 213) dX10_fitsAs_104 rfl ?_
            refine b_iinc (n := 216) dX10_fitsAs_213 rfl (by decide) rfl rfl hrr ?_
            refine a_goto (t := 5) dX10_fitsAs_216 rfl ?_
            exact ih 0 (r + 1) _ _ _ _ (mFit0 hg c67) (fun q => absurd q c17) hr1 hr2
          · refine a_iload (n := 72) dX10_fitsAs_70 rfl rfl ?_
            refine a_aload_n (n := 73) dX10_fitsAs_72 rfl rfl ?_
            refine a_iload (n := 75) dX10_fitsAs_73 rfl rfl ?_
            refine a_iload (n := 77) dX10_fitsAs_75 rfl rfl ?_
            refine a_iconst (n := 78) dX10_fitsAs_77 rfl ⟨by decide, by decide⟩ ?_
            refine a_callV (M2 := mX10_markOf) (n := 81) dX10_fitsAs_78 rfl (m_markOf (d := d + 1) hz hR (by first | exact hp | exact ⟨hb9.1, hb9.2.1⟩) hrow (by first | exact ⟨Int.le_refl 0, by decide⟩ | exact ⟨by decide, by decide⟩)) kX10_markOf lX10_271 iX10_markOf eX10_markOf (by decide) (by omega) (s37 hz) rfl (Nat.le_of_ble_eq_true rfl) (fun q78 z78 hr78 hi78 hl78 h78 => ?_)
            obtain ⟨rfl, rfl, rfl, rfl, rfl⟩ := h78
            show a_wp G _ _ _ _ (vI _ :: _) _ _ _ _ _
            refine a_icmp_ne (t := 102) (n := 84) dX10_fitsAs_81 rfl rfl (fun c81 => ?_) (fun c81 => ?_)
            · refine a_iconst (n := 103) dX10_fitsAs_102 rfl ⟨by decide, by decide⟩ ?_
              refine b_istore_n (n := 104) dX10_fitsAs_103 rfl (by decide) rfl ?_
              refine a_goto (t := 213) dX10_fitsAs_104 rfl ?_
              refine b_iinc (n := 216) dX10_fitsAs_213 rfl (by decide) rfl rfl hrr ?_
              refine a_goto (t := 5) dX10_fitsAs_216 rfl ?_
              exact ih 0 (r + 1) _ _ _ _ (mFitN (g := g) h0 (fun F => c81 (F.1 (Int.not_lt.mp c63)).1)) (fun q => absurd q c17) hr1 hr2
            · refine a_iload (n := 86) dX10_fitsAs_84 rfl rfl ?_
              refine a_aload_n (n := 87) dX10_fitsAs_86 rfl rfl ?_
              refine a_iload (n := 89) dX10_fitsAs_87 rfl rfl ?_
              refine a_iload (n := 91) dX10_fitsAs_89 rfl rfl ?_
              refine a_iconst (n := 92) dX10_fitsAs_91 rfl ⟨by decide, by decide⟩ ?_
              refine a_callV (M2 := mX10_markOf) (n := 95) dX10_fitsAs_92 rfl (m_markOf (d := d + 1) hz hR (by first | exact hp | exact ⟨hb9.1, hb9.2.1⟩) hrow (by first | exact ⟨Int.le_refl 0, by decide⟩ | exact ⟨by decide, by decide⟩)) kX10_markOf lX10_271 iX10_markOf eX10_markOf (by decide) (by omega) (s37 hz) rfl (Nat.le_of_ble_eq_true rfl) (fun q92 z92 hr92 hi92 hl92 h92 => ?_)
              obtain ⟨rfl, rfl, rfl, rfl, rfl⟩ := h92
              show a_wp G _ _ _ _ (vI _ :: _) _ _ _ _ _
              refine a_icmp_ne (t := 102) (n := 98) dX10_fitsAs_95 rfl rfl (fun c95 => ?_) (fun c95 => ?_)
              · refine a_iconst (n := 103) dX10_fitsAs_102 rfl ⟨by decide, by decide⟩ ?_
                refine b_istore_n (n := 104) dX10_fitsAs_103 rfl (by decide) rfl ?_
                refine a_goto (t := 213) dX10_fitsAs_104 rfl ?_
                refine b_iinc (n := 216) dX10_fitsAs_213 rfl (by decide) rfl rfl hrr ?_
                refine a_goto (t := 5) dX10_fitsAs_216 rfl ?_
                exact ih 0 (r + 1) _ _ _ _ (mFitN (g := g) h0 (fun F => c95 (F.1 (Int.not_lt.mp c63)).2)) (fun q => absurd q c17) hr1 hr2
              · refine a_iconst (n := 99) dX10_fitsAs_98 rfl ⟨by decide, by decide⟩ ?_
                refine a_goto (t := 103) dX10_fitsAs_99 rfl ?_
                refine b_istore_n (n := 104) dX10_fitsAs_103 rfl (by decide) rfl ?_
                refine a_goto (t := 213) dX10_fitsAs_104 rfl ?_
                refine b_iinc (n := 216) dX10_fitsAs_213 rfl (by decide) rfl rfl hrr ?_
                refine a_goto (t := 5) dX10_fitsAs_216 rfl ?_
                exact ih 1 (r + 1) _ _ _ _ (mFit1 hg c67 ⟨fun _ => ⟨c81, c95⟩, fun q => absurd q c63, fun q => absurd q c63⟩) (fun q => absurd q c17) hr1 hr2
set_option maxRecDepth 100000 in
set_option maxHeartbeats 4000000 in
theorem m_fitsAs (hz : stZ z) (hR : stR hr) {p s : Int} (hp : 0 ≤ p ∧ p < 40) (hs : 0 ≤ s ∧ s < 40) (hb : ¬ hi 53 s = 0 → 0 ≤ hi 54 s ∧ hi 54 s < 40 ∧ hi 55 s < 40) : a_ct G mX10_fitsAs (d + 2) [vR 37, vI p, vI s] z hr hi hl (Qs z hr hi hl (isB (hi 53 s = 0 ∨ ∀ q, 0 ≤ q → q < 4 → mFitR hi p s q))) := by
  refine a_ct_of rfl (Nat.le_of_ble_eq_true rfl) ?_
  refine a_iconst (n := 1) dX10_fitsAs_0 rfl ⟨by decide, by decide⟩ ?_
  refine b_istore_n (n := 2) dX10_fitsAs_1 rfl (by decide) rfl ?_
  refine a_iconst (n := 3) dX10_fitsAs_2 rfl ⟨by decide, by decide⟩ ?_
  refine b_istore (n := 5) dX10_fitsAs_3 rfl (by decide) rfl ?_
  exact m_fitsAs_l hz hR hp hs hb 4 1 0 none none none none (Or.inl ⟨rfl, fun q h1 h2 => absurd h1 (by omega)⟩) (fun _ => rfl) (by omega) (by omega)
end M7
