section M17
variable {G : aG} {d : Nat} {z : aZ} {hr : aR}
set_option maxRecDepth 100000 in
set_option maxHeartbeats 4000000 in
theorem cut_w (hz : stZ z) (hR : stR hr) {hi hl : aI} {Q : Option aV → aZ → aR → aI → aI → Prop} {n c f : Int} (s : Int → Int) (sz : Int) (hs : hi 38 = s) (hsz : hi 37 3 = sz) (h6 : sz ≤ 600) (h0 : 0 ≤ f) (m : Nat) : ∀ k v : Int, (sz - k).toNat = m → f ≤ k → k ≤ sz → (∀ i, f ≤ i → i < k → 97 ≤ s i ∧ s i ≤ 122) → v = (vP 37 96 s f (min (k - f).toNat 8)) → a_wp G mX10_cutAll (d + 2) 129 [some (vR 37), some (vI n), some (vI (rE pL s sz k)), some (vI c), some (vI f), some (vJ (vP 37 96 s f (min (rE pL s sz k - f).toNat 8))), none] [] z hr hi hl Q → a_wp G mX10_cutAll (d + 2) 70 [some (vR 37), some (vI n), some (vI k), some (vI c), some (vI f), some (vJ v), none] [] z hr hi hl Q := by
  subst hs hsz
  induction m with
  | zero =>
    intro k v hm hk1 hk2 hlet hv K
    subst hv
    refine a_iload_n (n := 71) dX10_cutAll_70 rfl rfl ?_
    refine a_aload_n (n := 72) dX10_cutAll_71 rfl rfl ?_
    refine a_getI (n := 75) dX10_cutAll_72 rfl fX10_172 (s37 hz) ?_
    refine a_icmp_ge (t := 129) (n := 78) dX10_cutAll_75 rfl rfl (fun c75 => ?_) (fun c75 => ?_)
    · rw [rE_f (fun q => by omega)] at K
      exact K
    · omega
  | succ m ih =>
    intro k v hm hk1 hk2 hlet hv K
    subst hv
    refine a_iload_n (n := 71) dX10_cutAll_70 rfl rfl ?_
    refine a_aload_n (n := 72) dX10_cutAll_71 rfl rfl ?_
    refine a_getI (n := 75) dX10_cutAll_72 rfl fX10_172 (s37 hz) ?_
    refine a_icmp_ge (t := 129) (n := 78) dX10_cutAll_75 rfl rfl (fun c75 => ?_) (fun c75 => ?_)
    · rw [rE_f (fun q => by omega)] at K
      exact K
    · refine a_aload_n (n := 79) dX10_cutAll_78 rfl rfl ?_
      refine a_getR (n := 82) dX10_cutAll_79 rfl fX10_14 (s37 hz) (r37_1 hR) ?_
      refine a_iload_n (n := 83) dX10_cutAll_82 rfl rfl ?_
      refine a_iald (n := 84) dX10_cutAll_83 rfl (s38 hz) (by omega) (by omega) ?_
      refine a_callS (M2 := mX10_isLetter) (n := 87) dX10_cutAll_84 rfl (m_isLetter (d := d + 1)) kX10_isLetter lX10_168 sX10_isLetter (by omega) rfl (Nat.le_of_ble_eq_true rfl) (fun q84 z84 hr84 hi84 hl84 h84 => ?_)
      obtain ⟨e184, e284, e384, e484, b84, rfl, hb84⟩ := h84
      obtain rfl := e184.symm
      obtain rfl := e284.symm
      obtain rfl := e384.symm
      obtain rfl := e484.symm
      show a_wp G _ _ _ _ (vI b84 :: _) _ _ _ _ _
      refine a_if_eq (t := 129) (n := 90) dX10_cutAll_87 rfl rfl (fun c87 => ?_) (fun c87 => ?_)
      · replace hb84 := isB_f hb84 c87
        rw [rE_f (fun q => hb84 (pL_t.mp q.2))] at K
        exact K
      · replace hb84 := isB_t hb84 (by omega)
        refine a_iload_n (n := 91) dX10_cutAll_90 rfl rfl ?_
        refine a_iload (n := 93) dX10_cutAll_91 rfl rfl ?_
        refine a_isub (n := 94) dX10_cutAll_93 rfl ⟨by omega, by omega⟩ ?_
        refine a_bipush (n := 96) dX10_cutAll_94 rfl ⟨by decide, by decide⟩ (by decide) ?_
        refine a_icmp_ge (t := 119) (n := 99) dX10_cutAll_96 rfl rfl (fun c96 => ?_) (fun c96 => ?_)
        · refine a_lload (n := 121) dX10_cutAll_119 rfl rfl ?_
          refine b_lstore (n := 123) dX10_cutAll_121 rfl (by decide) rfl ?_
          refine b_iinc (n := 126) dX10_cutAll_123 rfl (by decide) rfl rfl ⟨by omega, by omega⟩ ?_
          refine a_goto (t := 70) dX10_cutAll_126 rfl ?_
          rw [rE_t (by omega) (pL_t.mpr hb84)] at K
          refine ih (k + 1) _ (by omega) (by omega) (by omega) (fun i i1 i2 => ?_) ?_ K
          · by_cases e : i = k
            · rw [e]; exact hb84
            · exact hlet i i1 (by omega)
          · have e1 : min (k + 1 - f).toNat 8 = 8 := by omega
            have e2 : min (k - f).toNat 8 = 8 := by omega
            rw [e1, e2]
        · have e8 : min (k - f).toNat 8 = (k - f).toNat := by omega
          have hv7 := vP_7 (s := hi 38) (f := f) (k - f).toNat (by omega) (fun i hi' => hlet (f + i) (by omega) (by omega))
          rw [e8]
          refine a_ldc2 (v := 37) (n := 102) dX10_cutAll_99 rfl ⟨by decide, by decide⟩ (by decide +kernel : Cond.constantLong RX10 175 37 ∈ lw_tbl) (by decide) ?_
          refine a_lload (n := 104) dX10_cutAll_102 rfl rfl ?_
          refine a_lmul (n := 105) dX10_cutAll_104 rfl ⟨by omega, by omega⟩ ?_
          refine a_aload_n (n := 106) dX10_cutAll_105 rfl rfl ?_
          refine a_getR (n := 109) dX10_cutAll_106 rfl fX10_14 (s37 hz) (r37_1 hR) ?_
          refine a_iload_n (n := 110) dX10_cutAll_109 rfl rfl ?_
          refine a_iald (n := 111) dX10_cutAll_110 rfl (s38 hz) (by omega) (by omega) ?_
          refine a_callS (M2 := mX10_rank) (n := 114) dX10_cutAll_111 rfl (m_rank (d := d) (by omega)) kX10_rank lX10_177 sX10_rank (by omega) rfl (Nat.le_of_ble_eq_true rfl) (fun q111 z111 hr111 hi111 hl111 h111 => ?_)
          obtain ⟨e1111, e2111, e3111, e4111, b111, rfl, hb111⟩ := h111
          obtain rfl := e1111.symm
          obtain rfl := e2111.symm
          obtain rfl := e3111.symm
          obtain rfl := e4111.symm
          show a_wp G _ _ _ _ (vI b111 :: _) _ _ _ _ _
          refine a_i2l (n := 115) dX10_cutAll_114 rfl ?_
          refine a_ladd (n := 116) dX10_cutAll_115 rfl ⟨by omega, by omega⟩ ?_
          refine a_goto (t := 121) dX10_cutAll_116 rfl ?_
          refine b_lstore (n := 123) dX10_cutAll_121 rfl (by decide) rfl ?_
          refine b_iinc (n := 126) dX10_cutAll_123 rfl (by decide) rfl rfl ⟨by omega, by omega⟩ ?_
          refine a_goto (t := 70) dX10_cutAll_126 rfl ?_
          rw [rE_t (by omega) (pL_t.mpr hb84)] at K
          refine ih (k + 1) _ (by omega) (by omega) (by omega) (fun i i1 i2 => ?_) ?_ K
          · by_cases e : i = k
            · rw [e]; exact hb84
            · exact hlet i i1 (by omega)
          · have e1 : min (k + 1 - f).toNat 8 = (k - f).toNat + 1 := by omega
            have e2 : min (k - f).toNat 8 = (k - f).toNat := by omega
            have e3 : f + ((k - f).toNat : Int) = k := by omega
            rw [e1, vP, e3]
            omega
set_option maxRecDepth 100000 in
set_option maxHeartbeats 4000000 in
theorem cut_d (hz : stZ z) (hR : stR hr) {hi hl : aI} {Q : Option aV → aZ → aR → aI → aI → Prop} {n c f : Int} (s : Int → Int) (sz : Int) (hs : hi 38 = s) (hsz : hi 37 3 = sz) (h6 : sz ≤ 600) (h0 : 0 ≤ f) (m : Nat) : ∀ k v : Int, (sz - k).toNat = m → f ≤ k → k ≤ sz → (∀ i, f ≤ i → i < k → 48 ≤ s i ∧ s i ≤ 57) → v = (vP 10 48 s f (min (k - f).toNat 4)) → a_wp G mX10_cutAll (d + 2) 218 [some (vR 37), some (vI n), some (vI (rE pD s sz k)), some (vI c), some (vI f), some (vJ (vP 10 48 s f (min (rE pD s sz k - f).toNat 4))), none] [] z hr hi hl Q → a_wp G mX10_cutAll (d + 2) 159 [some (vR 37), some (vI n), some (vI k), some (vI c), some (vI f), some (vJ v), none] [] z hr hi hl Q := by
  subst hs hsz
  induction m with
  | zero =>
    intro k v hm hk1 hk2 hlet hv K
    subst hv
    refine a_iload_n (n := 160) dX10_cutAll_159 rfl rfl ?_
    refine a_aload_n (n := 161) dX10_cutAll_160 rfl rfl ?_
    refine a_getI (n := 164) dX10_cutAll_161 rfl fX10_172 (s37 hz) ?_
    refine a_icmp_ge (t := 218) (n := 167) dX10_cutAll_164 rfl rfl (fun c164 => ?_) (fun c164 => ?_)
    · rw [rE_f (fun q => by omega)] at K
      exact K
    · omega
  | succ m ih =>
    intro k v hm hk1 hk2 hlet hv K
    subst hv
    refine a_iload_n (n := 160) dX10_cutAll_159 rfl rfl ?_
    refine a_aload_n (n := 161) dX10_cutAll_160 rfl rfl ?_
    refine a_getI (n := 164) dX10_cutAll_161 rfl fX10_172 (s37 hz) ?_
    refine a_icmp_ge (t := 218) (n := 167) dX10_cutAll_164 rfl rfl (fun c164 => ?_) (fun c164 => ?_)
    · rw [rE_f (fun q => by omega)] at K
      exact K
    · refine a_aload_n (n := 168) dX10_cutAll_167 rfl rfl ?_
      refine a_getR (n := 171) dX10_cutAll_168 rfl fX10_14 (s37 hz) (r37_1 hR) ?_
      refine a_iload_n (n := 172) dX10_cutAll_171 rfl rfl ?_
      refine a_iald (n := 173) dX10_cutAll_172 rfl (s38 hz) (by omega) (by omega) ?_
      refine a_callS (M2 := mX10_isDigit) (n := 176) dX10_cutAll_173 rfl (m_isDigit (d := d + 1)) kX10_isDigit lX10_181 sX10_isDigit (by omega) rfl (Nat.le_of_ble_eq_true rfl) (fun q173 z173 hr173 hi173 hl173 h173 => ?_)
      obtain ⟨e1173, e2173, e3173, e4173, b173, rfl, hb173⟩ := h173
      obtain rfl := e1173.symm
      obtain rfl := e2173.symm
      obtain rfl := e3173.symm
      obtain rfl := e4173.symm
      show a_wp G _ _ _ _ (vI b173 :: _) _ _ _ _ _
      refine a_if_eq (t := 218) (n := 179) dX10_cutAll_176 rfl rfl (fun c176 => ?_) (fun c176 => ?_)
      · replace hb173 := isB_f hb173 c176
        rw [rE_f (fun q => hb173 (pD_t.mp q.2))] at K
        exact K
      · replace hb173 := isB_t hb173 (by omega)
        refine a_iload_n (n := 180) dX10_cutAll_179 rfl rfl ?_
        refine a_iload (n := 182) dX10_cutAll_180 rfl rfl ?_
        refine a_isub (n := 183) dX10_cutAll_182 rfl ⟨by omega, by omega⟩ ?_
        refine a_iconst (n := 184) dX10_cutAll_183 rfl ⟨by decide, by decide⟩ ?_
        refine a_icmp_ge (t := 208) (n := 187) dX10_cutAll_184 rfl rfl (fun c184 => ?_) (fun c184 => ?_)
        · refine a_lload (n := 210) dX10_cutAll_208 rfl rfl ?_
          refine b_lstore (n := 212) dX10_cutAll_210 rfl (by decide) rfl ?_
          refine b_iinc (n := 215) dX10_cutAll_212 rfl (by decide) rfl rfl ⟨by omega, by omega⟩ ?_
          refine a_goto (t := 159) dX10_cutAll_215 rfl ?_
          rw [rE_t (by omega) (pD_t.mpr hb173)] at K
          refine ih (k + 1) _ (by omega) (by omega) (by omega) (fun i i1 i2 => ?_) ?_ K
          · by_cases e : i = k
            · rw [e]; exact hb173
            · exact hlet i i1 (by omega)
          · have e1 : min (k + 1 - f).toNat 4 = 4 := by omega
            have e2 : min (k - f).toNat 4 = 4 := by omega
            rw [e1, e2]
        · have e8 : min (k - f).toNat 4 = (k - f).toNat := by omega
          have hv7 := vP_3 (s := hi 38) (f := f) (k - f).toNat (by omega) (fun i hi' => hlet (f + i) (by omega) (by omega))
          rw [e8]
          refine a_ldc2 (v := 10) (n := 190) dX10_cutAll_187 rfl ⟨by decide, by decide⟩ (by decide +kernel : Cond.constantLong RX10 184 10 ∈ lw_tbl) (by decide) ?_
          refine a_lload (n := 192) dX10_cutAll_190 rfl rfl ?_
          refine a_lmul (n := 193) dX10_cutAll_192 rfl ⟨by omega, by omega⟩ ?_
          refine a_aload_n (n := 194) dX10_cutAll_193 rfl rfl ?_
          refine a_getR (n := 197) dX10_cutAll_194 rfl fX10_14 (s37 hz) (r37_1 hR) ?_
          refine a_iload_n (n := 198) dX10_cutAll_197 rfl rfl ?_
          refine a_iald (n := 199) dX10_cutAll_198 rfl (s38 hz) (by omega) (by omega) ?_
          refine a_i2l (n := 200) dX10_cutAll_199 rfl ?_
          refine a_ladd (n := 201) dX10_cutAll_200 rfl ⟨by omega, by omega⟩ ?_
          refine a_ldc2 (v := 48) (n := 204) dX10_cutAll_201 rfl ⟨by decide, by decide⟩ (by decide +kernel : Cond.constantLong RX10 186 48 ∈ lw_tbl) (by decide) ?_
          refine a_lsub (n := 205) dX10_cutAll_204 rfl ⟨by omega, by omega⟩ ?_
          refine a_goto (t := 210) dX10_cutAll_205 rfl ?_
          refine b_lstore (n := 212) dX10_cutAll_210 rfl (by decide) rfl ?_
          refine b_iinc (n := 215) dX10_cutAll_212 rfl (by decide) rfl rfl ⟨by omega, by omega⟩ ?_
          refine a_goto (t := 159) dX10_cutAll_215 rfl ?_
          rw [rE_t (by omega) (pD_t.mpr hb173)] at K
          refine ih (k + 1) _ (by omega) (by omega) (by omega) (fun i i1 i2 => ?_) ?_ K
          · by_cases e : i = k
            · rw [e]; exact hb173
            · exact hlet i i1 (by omega)
          · have e1 : min (k + 1 - f).toNat 4 = (k - f).toNat + 1 := by omega
            have e2 : min (k - f).toNat 4 = (k - f).toNat := by omega
            have e3 : f + ((k - f).toNat : Int) = k := by omega
            rw [e1, vP, e3]
            omega
/-- what cutAll comes to -/
def CQ (z : aZ) (hr : aR) (s : Int → Int) (sz : Int) (hi0 hl0 : aI) : Option aV → aZ → aR → aI → aI → Prop := fun r z' hr' hi' hl' => z' = z ∧ hr' = hr ∧ r = none ∧ ∃ nt : Int, ∃ hi2 : aI, 0 ≤ nt ∧ nt ≤ 600 ∧ Ct s sz hi0 hl0 nt hi2 hl' ∧ tS s sz nt.toNat = sz ∧ (∀ i : Nat, i < nt.toNat → 0 ≤ tS s sz i ∧ tS s sz i < sz) ∧ hi' = up2 (up2 (up2 (up2 hi2 39 nt 0) 40 nt sz) 37 7 0) 37 8 0
def cI (s : Int → Int) (sz : Int) (hi0 hl0 : aI) (n k : Int) (hi hl : aI) : Prop := 0 ≤ n ∧ n ≤ k ∧ k ≤ sz ∧ rE pB s sz k = tS s sz n.toNat ∧ (∀ i : Nat, i < n.toNat → 0 ≤ tS s sz i ∧ tS s sz i < sz) ∧ Ct s sz hi0 hl0 n hi hl
abbrev cW (G : aG) (d : Nat) (z : aZ) (hr : aR) (s : Int → Int) (sz : Int) (hi0 hl0 : aI) (m : Nat) : Prop := ∀ (n k : Int) (hi hl : aI) (x3 x4 x5 x6 : Option aV), (sz - k).toNat < m → cI s sz hi0 hl0 n k hi hl → a_wp G mX10_cutAll (d + 2) 17 [some (vR 37), some (vI n), some (vI k), x3, x4, x5, x6] [] z hr hi hl (CQ z hr s sz hi0 hl0)
set_option maxRecDepth 100000 in
set_option maxHeartbeats 4000000 in
theorem cut_265 (hz : stZ z) (hR : stR hr) {s : Int → Int} {sz : Int} {hi0 hl0 : aI} (h6 : sz ≤ 600) (hs : hi0 38 = s) (hsz : hi0 37 3 = sz) {hi hl : aI} {n k c f v : Int} (hC : cI s sz hi0 hl0 n f hi hl) {m : Nat} (hm : (sz - f).toNat < m + 1) (hlt : f < sz) (hf : f = tS s sz n.toNat) (hk : k = tE s sz f) (hkf : f < k ∧ k ≤ sz) {so : Int} (hso : so = tSo s sz f) (hv : v = tV s sz f) (ih : cW G d z hr s sz hi0 hl0 m) : a_wp G mX10_cutAll (d + 2) 265 [some (vR 37), some (vI n), some (vI k), some (vI c), some (vI f), some (vJ v), none] [] z hr (up2 (up2 hi 40 n f) 39 n so) hl (CQ z hr s sz hi0 hl0) := by
  obtain ⟨h1, h2, h3, h4, h5, h6c⟩ := hC
  have e1 : rE pB s sz k = tS s sz (n + 1).toNat → rE pB s sz k = tS s sz (n + 1).toNat := id
  have e1 : tS s sz (n + 1).toNat = rE pB s sz (tE s sz (tS s sz n.toNat)) := by
    have e : (n + 1).toNat = n.toNat + 1 := by omega
    rw [e]
    rfl
  refine a_aload_n (n := 266) dX10_cutAll_265 rfl rfl ?_
  refine a_getR (n := 269) dX10_cutAll_266 rfl fX10_30 (s37 hz) (r37_6 hR) ?_
  refine a_iload_n (n := 270) dX10_cutAll_269 rfl rfl ?_
  refine a_lload (n := 272) dX10_cutAll_270 rfl rfl ?_
  refine a_last (n := 273) dX10_cutAll_272 rfl (s41 hz) (by omega) (by omega) ?_
  refine b_iinc (n := 276) dX10_cutAll_273 rfl (by decide) rfl rfl ⟨by omega, by omega⟩ ?_
  refine a_goto (t := 17) dX10_cutAll_276 rfl ?_
  exact ih (n + 1) k _ _ _ _ _ _ (by omega) ⟨by omega, by omega, by omega, by rw [e1, ← hf, ← hk], fun i hi' => (by
    by_cases e : i = n.toNat
    · rw [e, ← hf]; exact ⟨by omega, hlt⟩
    · exact h5 i (by omega)), h6c.add h1 hf hso hv⟩
set_option maxRecDepth 100000 in
set_option maxHeartbeats 4000000 in
theorem cut_129 (hz : stZ z) (hR : stR hr) {s : Int → Int} {sz : Int} {hi0 hl0 : aI} (h6 : sz ≤ 600) (hs : hi0 38 = s) (hsz : hi0 37 3 = sz) {hi hl : aI} {n c f : Int} (hC : cI s sz hi0 hl0 n f hi hl) {m : Nat} (hm : (sz - f).toNat < m + 1) (hlt : f < sz) (hf : f = tS s sz n.toNat)  (hp : pL (s f) = true) (ih : cW G d z hr s sz hi0 hl0 m) : a_wp G mX10_cutAll (d + 2) 129 [some (vR 37), some (vI n), some (vI (rE pL s sz f)), some (vI c), some (vI f), some (vJ (vP 37 96 s f (min (rE pL s sz f - f).toNat 8))), none] [] z hr (up2 hi 40 n f) hl (CQ z hr s sz hi0 hl0) := by
  have hgt : f < rE pL s sz f := by rw [rE_t hlt hp]; have := rE_ge (p := pL) (s := s) (sz := sz) (k := f + 1); omega
  have hle := rE_le (p := pL) (s := s) (sz := sz) (k := f) (by omega)
  have hn := hC.1
  have hn2 := hC.2.1
  refine a_aload_n (n := 130) dX10_cutAll_129 rfl rfl ?_
  refine a_getR (n := 133) dX10_cutAll_130 rfl fX10_24 (s37 hz) (r37_4 hR) ?_
  refine a_iload_n (n := 134) dX10_cutAll_133 rfl rfl ?_
  refine a_iload_n (n := 135) dX10_cutAll_134 rfl rfl ?_
  refine a_iload (n := 137) dX10_cutAll_135 rfl rfl ?_
  refine a_isub (n := 138) dX10_cutAll_137 rfl ⟨by omega, by omega⟩ ?_
  refine a_bipush (n := 140) dX10_cutAll_138 rfl ⟨by decide, by decide⟩ (by decide) ?_
  refine a_icmp_le (t := 147) (n := 143) dX10_cutAll_140 rfl rfl (fun c140 => ?_) (fun c140 => ?_)
  · refine a_iconst (n := 148) dX10_cutAll_147 rfl ⟨by decide, by decide⟩ ?_
    refine a_iast (n := 149) dX10_cutAll_148 rfl (s39 hz) (by omega) (by omega) ?_
    refine a_goto (t := 265) dX10_cutAll_149 rfl ?_
    refine cut_265 hz hR h6 hs hsz hC hm hlt hf (by unfold tE; rw [if_pos hp]) ⟨hgt, rE_le (by omega)⟩ (by unfold tSo; rw [if_pos hp, if_neg (by omega)]) (by unfold tV; rw [if_pos hp]) ih
  · refine a_iconst (n := 144) dX10_cutAll_143 rfl ⟨by decide, by decide⟩ ?_
    refine a_goto (t := 148) dX10_cutAll_144 rfl ?_
    refine a_iast (n := 149) dX10_cutAll_148 rfl (s39 hz) (by omega) (by omega) ?_
    refine a_goto (t := 265) dX10_cutAll_149 rfl ?_
    refine cut_265 hz hR h6 hs hsz hC hm hlt hf (by unfold tE; rw [if_pos hp]) ⟨hgt, rE_le (by omega)⟩ (by unfold tSo; rw [if_pos hp, if_pos (by omega)]) (by unfold tV; rw [if_pos hp]) ih
set_option maxRecDepth 100000 in
set_option maxHeartbeats 4000000 in
theorem cut_218 (hz : stZ z) (hR : stR hr) {s : Int → Int} {sz : Int} {hi0 hl0 : aI} (h6 : sz ≤ 600) (hs : hi0 38 = s) (hsz : hi0 37 3 = sz) {hi hl : aI} {n c f : Int} (hC : cI s sz hi0 hl0 n f hi hl) {m : Nat} (hm : (sz - f).toNat < m + 1) (hlt : f < sz) (hf : f = tS s sz n.toNat) (hq : ¬ pL (s f) = true) (hp : pD (s f) = true) (ih : cW G d z hr s sz hi0 hl0 m) : a_wp G mX10_cutAll (d + 2) 218 [some (vR 37), some (vI n), some (vI (rE pD s sz f)), some (vI c), some (vI f), some (vJ (vP 10 48 s f (min (rE pD s sz f - f).toNat 4))), none] [] z hr (up2 hi 40 n f) hl (CQ z hr s sz hi0 hl0) := by
  have hgt : f < rE pD s sz f := by rw [rE_t hlt hp]; have := rE_ge (p := pD) (s := s) (sz := sz) (k := f + 1); omega
  have hle := rE_le (p := pD) (s := s) (sz := sz) (k := f) (by omega)
  have hn := hC.1
  have hn2 := hC.2.1
  refine a_aload_n (n := 219) dX10_cutAll_218 rfl rfl ?_
  refine a_getR (n := 222) dX10_cutAll_219 rfl fX10_24 (s37 hz) (r37_4 hR) ?_
  refine a_iload_n (n := 223) dX10_cutAll_222 rfl rfl ?_
  refine a_iload_n (n := 224) dX10_cutAll_223 rfl rfl ?_
  refine a_iload (n := 226) dX10_cutAll_224 rfl rfl ?_
  refine a_isub (n := 227) dX10_cutAll_226 rfl ⟨by omega, by omega⟩ ?_
  refine a_iconst (n := 228) dX10_cutAll_227 rfl ⟨by decide, by decide⟩ ?_
  refine a_icmp_le (t := 235) (n := 231) dX10_cutAll_228 rfl rfl (fun c228 => ?_) (fun c228 => ?_)
  · refine a_iconst (n := 236) dX10_cutAll_235 rfl ⟨by decide, by decide⟩ ?_
    refine a_iast (n := 237) dX10_cutAll_236 rfl (s39 hz) (by omega) (by omega) ?_
    refine a_goto (t := 265) dX10_cutAll_237 rfl ?_
    refine cut_265 hz hR h6 hs hsz hC hm hlt hf (by unfold tE; rw [if_neg hq, if_pos hp]) ⟨hgt, rE_le (by omega)⟩ (by unfold tSo; rw [if_neg hq, if_pos hp, if_neg (by omega)]) (by unfold tV; rw [if_neg hq, if_pos hp]) ih
  · refine a_iconst (n := 232) dX10_cutAll_231 rfl ⟨by decide, by decide⟩ ?_
    refine a_goto (t := 236) dX10_cutAll_232 rfl ?_
    refine a_iast (n := 237) dX10_cutAll_236 rfl (s39 hz) (by omega) (by omega) ?_
    refine a_goto (t := 265) dX10_cutAll_237 rfl ?_
    refine cut_265 hz hR h6 hs hsz hC hm hlt hf (by unfold tE; rw [if_neg hq, if_pos hp]) ⟨hgt, rE_le (by omega)⟩ (by unfold tSo; rw [if_neg hq, if_pos hp, if_pos (by omega)]) (by unfold tV; rw [if_neg hq, if_pos hp]) ih
set_option maxRecDepth 100000 in
set_option maxHeartbeats 4000000 in
theorem cut_all (hz : stZ z) (hR : stR hr) {s : Int → Int} {sz : Int} {hi0 hl0 : aI} (h6 : sz ≤ 600) (hs : hi0 38 = s) (hsz : hi0 37 3 = sz) (hc : ∀ i, 0 ≤ i → i < sz → 0 ≤ s i ∧ s i ≤ 255) (m : Nat) : cW G d z hr s sz hi0 hl0 m := by
  induction m with
  | zero => intro n k hi hl x3 x4 x5 x6 h; omega
  | succ m ih =>
    intro n k hi hl x3 x4 x5 x6 hm hC
    obtain ⟨h1, h2, h3, h4, h5, h6c⟩ := id hC
    have t1 : hi 38 = s := h6c.tape.1.trans hs
    have t3 : hi 37 3 = sz := (congrFun h6c.tape.2 3).trans hsz
    refine a_iload_n (n := 18) dX10_cutAll_17 rfl rfl ?_
    refine a_aload_n (n := 19) dX10_cutAll_18 rfl rfl ?_
    refine a_getI (n := 22) dX10_cutAll_19 rfl fX10_172 (s37 hz) ?_
    refine a_icmp_ge (t := 279) (n := 25) dX10_cutAll_22 rfl rfl (fun c22 => ?_) (fun c22 => ?_)
    · refine a_aload_n (n := 280) dX10_cutAll_279 rfl rfl ?_
      refine a_getR (n := 283) dX10_cutAll_280 rfl fX10_24 (s37 hz) (r37_4 hR) ?_
      refine a_iload_n (n := 284) dX10_cutAll_283 rfl rfl ?_
      refine a_iconst (n := 285) dX10_cutAll_284 rfl ⟨by decide, by decide⟩ ?_
      refine a_iast (n := 286) dX10_cutAll_285 rfl (s39 hz) (by omega) (by omega) ?_
      refine a_aload_n (n := 287) dX10_cutAll_286 rfl rfl ?_
      refine a_getR (n := 290) dX10_cutAll_287 rfl fX10_27 (s37 hz) (r37_5 hR) ?_
      refine a_iload_n (n := 291) dX10_cutAll_290 rfl rfl ?_
      refine a_aload_n (n := 292) dX10_cutAll_291 rfl rfl ?_
      refine a_getI (n := 295) dX10_cutAll_292 rfl fX10_172 (s37 hz) ?_
      try simp only [up2_eq, Nat.reduceEqDiff, Int.reduceEq, Int.reduceNeg, and_true, true_and, and_false, false_and, and_self, if_true, if_false, ite_true, ite_false, reduceIte, eq_self]
      refine a_iast (n := 296) dX10_cutAll_295 rfl (s40 hz) (by omega) (by omega) ?_
      refine a_aload_n (n := 297) dX10_cutAll_296 rfl rfl ?_
      refine a_iconst (n := 298) dX10_cutAll_297 rfl ⟨by decide, by decide⟩ ?_
      refine a_putI (n := 301) dX10_cutAll_298 rfl fX10_191 rfl (s37 hz) (Or.inl rfl) ?_
      refine a_aload_n (n := 302) dX10_cutAll_301 rfl rfl ?_
      refine a_iconst (n := 303) dX10_cutAll_302 rfl ⟨by decide, by decide⟩ ?_
      refine a_putI (n := 306) dX10_cutAll_303 rfl fX10_194 rfl (s37 hz) (Or.inl rfl) ?_
      refine a_return dX10_cutAll_306 rfl ?_
      exact ⟨rfl, rfl, rfl, n, hi, h1, by omega, h6c, by rw [← h4, rE_f (fun q => by omega)]; omega, h5, by rw [t3]⟩
    · refine a_aload_n (n := 26) dX10_cutAll_25 rfl rfl ?_
      refine a_getR (n := 29) dX10_cutAll_26 rfl fX10_14 (s37 hz) (r37_1 hR) ?_
      refine a_iload_n (n := 30) dX10_cutAll_29 rfl rfl ?_
      refine a_iald (n := 31) dX10_cutAll_30 rfl (s38 hz) (by omega) (by omega) ?_
      rw [show hi 38 k = s k from congrFun t1 k]
      refine b_istore_n (n := 32) dX10_cutAll_31 rfl (by decide) rfl ?_
      refine a_iload_n (n := 33) dX10_cutAll_32 rfl rfl ?_
      refine a_bipush (n := 35) dX10_cutAll_33 rfl ⟨by decide, by decide⟩ (by decide) ?_
      refine a_icmp_eq (t := 44) (n := 38) dX10_cutAll_35 rfl rfl (fun c35 => ?_) (fun c35 => ?_)
      · refine b_iinc (n := 47) dX10_cutAll_44 rfl (by decide) rfl rfl ⟨by omega, by omega⟩ ?_
        refine a_goto (t := 17) dX10_cutAll_47 rfl ?_
        exact ih n (k + 1) hi hl _ _ _ _ (by omega) ⟨h1, by omega, by omega, by rw [← h4]; exact (rE_t (by omega) (pB_t.mpr (by omega))).symm, h5, h6c⟩
      · refine a_iload_n (n := 39) dX10_cutAll_38 rfl rfl ?_
        refine a_bipush (n := 41) dX10_cutAll_39 rfl ⟨by decide, by decide⟩ (by decide) ?_
        refine a_icmp_ne (t := 50) (n := 44) dX10_cutAll_41 rfl rfl (fun c41 => ?_) (fun c41 => ?_)
        · have hfk : k = tS s sz n.toNat := by rw [← h4]; exact (rE_f (fun q => by have := pB_t.mp q.2; omega)).symm
          refine a_iload_n (n := 51) dX10_cutAll_50 rfl rfl ?_
          refine b_istore (n := 53) dX10_cutAll_51 rfl (by decide) rfl ?_
          refine a_lconst (v := 0) (n := 54) dX10_cutAll_53 rfl ⟨by decide, by decide⟩ (by decide) ?_
          refine b_lstore (n := 56) dX10_cutAll_54 rfl (by decide) rfl ?_
          refine a_aload_n (n := 57) dX10_cutAll_56 rfl rfl ?_
          refine a_getR (n := 60) dX10_cutAll_57 rfl fX10_27 (s37 hz) (r37_5 hR) ?_
          refine a_iload_n (n := 61) dX10_cutAll_60 rfl rfl ?_
          refine a_iload_n (n := 62) dX10_cutAll_61 rfl rfl ?_
          refine a_iast (n := 63) dX10_cutAll_62 rfl (s40 hz) (by omega) (by omega) ?_
          refine a_iload_n (n := 64) dX10_cutAll_63 rfl rfl ?_
          refine a_callS (M2 := mX10_isLetter) (n := 67) dX10_cutAll_64 rfl (m_isLetter (d := d + 1)) kX10_isLetter lX10_168 sX10_isLetter (by omega) rfl (Nat.le_of_ble_eq_true rfl) (fun q64 z64 hr64 hi64 hl64 h64 => ?_)
          obtain ⟨e164, e264, e364, e464, b64, rfl, hb64⟩ := h64
          obtain rfl := e164.symm
          obtain rfl := e264.symm
          obtain rfl := e364.symm
          obtain rfl := e464.symm
          show a_wp G _ _ _ _ (vI b64 :: _) _ _ _ _ _
          refine a_if_eq (t := 152) (n := 70) dX10_cutAll_67 rfl rfl (fun c67 => ?_) (fun c67 => ?_)
          · replace hb64 := isB_f hb64 c67
            refine a_iload_n (n := 153) dX10_cutAll_152 rfl rfl ?_
            refine a_callS (M2 := mX10_isDigit) (n := 156) dX10_cutAll_153 rfl (m_isDigit (d := d + 1)) kX10_isDigit lX10_181 sX10_isDigit (by omega) rfl (Nat.le_of_ble_eq_true rfl) (fun q153 z153 hr153 hi153 hl153 h153 => ?_)
            obtain ⟨e1153, e2153, e3153, e4153, b153, rfl, hb153⟩ := h153
            obtain rfl := e1153.symm
            obtain rfl := e2153.symm
            obtain rfl := e3153.symm
            obtain rfl := e4153.symm
            show a_wp G _ _ _ _ (vI b153 :: _) _ _ _ _ _
            refine a_if_eq (t := 240) (n := 159) dX10_cutAll_156 rfl rfl (fun c156 => ?_) (fun c156 => ?_)
            · replace hb153 := isB_f hb153 c156
              refine a_iload_n (n := 241) dX10_cutAll_240 rfl rfl ?_
              refine a_i2l (n := 242) dX10_cutAll_241 rfl ?_
              refine b_lstore (n := 244) dX10_cutAll_242 rfl (by decide) rfl ?_
              refine a_aload_n (n := 245) dX10_cutAll_244 rfl rfl ?_
              refine a_getR (n := 248) dX10_cutAll_245 rfl fX10_24 (s37 hz) (r37_4 hR) ?_
              refine a_iload_n (n := 249) dX10_cutAll_248 rfl rfl ?_
              refine a_iload_n (n := 250) dX10_cutAll_249 rfl rfl ?_
              refine a_callS (M2 := mX10_isSignOf) (n := 253) dX10_cutAll_250 rfl (m_isSignOf (d := d + 1)) kX10_isSignOf lX10_188 sX10_isSignOf (by omega) rfl (Nat.le_of_ble_eq_true rfl) (fun q250 z250 hr250 hi250 hl250 h250 => ?_)
              obtain ⟨e1250, e2250, e3250, e4250, b250, rfl, hb250⟩ := h250
              obtain rfl := e1250.symm
              obtain rfl := e2250.symm
              obtain rfl := e3250.symm
              obtain rfl := e4250.symm
              show a_wp G _ _ _ _ (vI b250 :: _) _ _ _ _ _
              refine a_if_eq (t := 260) (n := 256) dX10_cutAll_253 rfl rfl (fun c253 => ?_) (fun c253 => ?_)
              · replace hb250 := isB_f hb250 c253
                refine a_iconst (n := 261) dX10_cutAll_260 rfl ⟨by decide, by decide⟩ ?_
                refine a_iast (n := 262) dX10_cutAll_261 rfl (s39 hz) (by omega) (by omega) ?_
                refine b_iinc (n := 265) dX10_cutAll_262 rfl (by decide) rfl rfl ⟨by omega, by omega⟩ ?_
                exact cut_265 hz hR h6 hs hsz hC (by omega) (by omega) hfk (by unfold tE; rw [if_neg (fun q => hb64 (pL_t.mp q)), if_neg (fun q => hb153 (pD_t.mp q))]) ⟨by omega, by omega⟩ (by unfold tSo; rw [if_neg (fun q => hb64 (pL_t.mp q)), if_neg (fun q => hb153 (pD_t.mp q)), if_neg hb250]) (by unfold tV; rw [if_neg (fun q => hb64 (pL_t.mp q)), if_neg (fun q => hb153 (pD_t.mp q))]) ih
              · replace hb250 := isB_t hb250 (by omega)
                refine a_iconst (n := 257) dX10_cutAll_256 rfl ⟨by decide, by decide⟩ ?_
                refine a_goto (t := 261) dX10_cutAll_257 rfl ?_
                refine a_iast (n := 262) dX10_cutAll_261 rfl (s39 hz) (by omega) (by omega) ?_
                refine b_iinc (n := 265) dX10_cutAll_262 rfl (by decide) rfl rfl ⟨by omega, by omega⟩ ?_
                exact cut_265 hz hR h6 hs hsz hC (by omega) (by omega) hfk (by unfold tE; rw [if_neg (fun q => hb64 (pL_t.mp q)), if_neg (fun q => hb153 (pD_t.mp q))]) ⟨by omega, by omega⟩ (by unfold tSo; rw [if_neg (fun q => hb64 (pL_t.mp q)), if_neg (fun q => hb153 (pD_t.mp q)), if_pos hb250]) (by unfold tV; rw [if_neg (fun q => hb64 (pL_t.mp q)), if_neg (fun q => hb153 (pD_t.mp q))]) ih
            · replace hb153 := isB_t hb153 (by omega)
              refine cut_d hz hR s sz ((up2_f (by decide)).trans t1) ((up2_n (by decide)).trans t3) h6 (by omega) _ k 0 rfl (by omega) (by omega) (fun i i1 i2 => by omega) (by simp [vP]) ?_
              exact cut_218 hz hR h6 hs hsz hC (by omega) (by omega) hfk (fun q => hb64 (pL_t.mp q)) (pD_t.mpr hb153) ih
          · replace hb64 := isB_t hb64 (by omega)
            refine cut_w hz hR s sz ((up2_f (by decide)).trans t1) ((up2_n (by decide)).trans t3) h6 (by omega) _ k 0 rfl (by omega) (by omega) (fun i i1 i2 => by omega) (by simp [vP]) ?_
            exact cut_129 hz hR h6 hs hsz hC (by omega) (by omega) hfk (pL_t.mpr hb64) ih
        · refine b_iinc (n := 47) dX10_cutAll_44 rfl (by decide) rfl rfl ⟨by omega, by omega⟩ ?_
          refine a_goto (t := 17) dX10_cutAll_47 rfl ?_
          exact ih n (k + 1) hi hl _ _ _ _ (by omega) ⟨h1, by omega, by omega, by rw [← h4]; exact (rE_t (by omega) (pB_t.mpr (by omega))).symm, h5, h6c⟩
end M17
