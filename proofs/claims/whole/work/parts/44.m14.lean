section M14
variable {G : aG} {d : Nat} {z : aZ} {hr : aR} {hl : aI} {kd pl nu : Int → Int}
/-- what goesOnBehind comes to: it goes on with a PART (then less is left to do), or the E is at its end -/
abbrev gQ (kd pl nu : Int → Int) (z : aZ) (hr : aR) (hl : aI) (N : Nat) (hf : aI) : Option aV → aZ → aR → aI → aI → Prop := fun r z' hr' hi' hl' => z' = z ∧ hr' = hr ∧ hl' = hl ∧ ((r = some (vI 1) ∧ hi' 37 8 = 0 ∧ tkH kd pl nu hi' hl ∧ ∃ m, m < N ∧ pRun kd pl nu m 0 hi' = some hf) ∨ (r = some (vI 0) ∧ hi' = hf))
abbrev gW (G : aG) (d : Nat) (kd pl nu : Int → Int) (z : aZ) (hr : aR) (hl : aI) (N : Nat) (hf : aI) (c pc n : Nat) : Prop := ∀ hi : aI, hi 37 8 = 0 → tkH kd pl nu hi hl → pRun kd pl nu n c hi = some hf → a_wp G mX10_goesOnBehind (d + 2) pc [some (vR 37)] [] z hr hi hl (gQ kd pl nu z hr hl N hf)
set_option maxRecDepth 100000 in
set_option maxHeartbeats 4000000 in
theorem g_f (hz : stZ z) (hR : stR hr) {hi : aI} (hf0 : ¬ hi 37 8 = 0) : a_wp G mX10_goesOnBehind (d + 2) 0 [some (vR 37)] [] z hr hi hl (fun r z' hr' hi' hl' => z' = z ∧ hr' = hr ∧ hl' = hl ∧ r = some (vI 0) ∧ hi' = hi) := by
  refine a_aload_n (n := 1) dX10_goesOnBehind_0 rfl rfl ?_
  refine a_getI (n := 4) dX10_goesOnBehind_1 rfl fX10_194 (s37 hz) ?_
  refine a_if_ne (t := 277) (n := 7) dX10_goesOnBehind_4 rfl rfl (fun c4 => ?_) (fun c4 => ?_)
  · refine a_iconst (n := 278) dX10_goesOnBehind_277 rfl ⟨by decide, by decide⟩ ?_
    refine a_zreturn dX10_goesOnBehind_278 rfl (by omega) ?_
    exact ⟨rfl, rfl, rfl, rfl, rfl⟩
  · exact absurd c4 hf0
set_option maxRecDepth 100000 in
set_option maxHeartbeats 4000000 in
theorem g_6 (hz : stZ z) (hR : stR hr) {N n : Nat} {hf : aI} (ih : gW G d kd pl nu z hr hl N hf 1 0 n) : gW G d kd pl nu z hr hl N hf 6 249 (n + 1) := by
  intro hi hf0 hT hrun
  have hg := pRun_g hrun
  rw [pRun_6 hg] at hrun
  obtain ⟨⟨ha1, ha2⟩, ⟨hc1, hc2⟩, ⟨hd1, hd2⟩, hn1, hn2⟩ := hg
  have hA := hT (hi 37 7) ha1 ha2
  have hk0 := hA.k
  have hp0 := hA.pp
  refine a_aload_n (n := 250) dX10_goesOnBehind_249 rfl rfl ?_
  refine a_getI (n := 253) dX10_goesOnBehind_250 rfl fX10_228 (s37 hz) ?_
  refine a_if_ne (t := 258) (n := 256) dX10_goesOnBehind_253 rfl rfl (fun c253 => ?_) (fun c253 => ?_)
  · rw [if_neg (by omega)] at hrun
    refine a_aload_n (n := 259) dX10_goesOnBehind_258 rfl rfl ?_
    refine a_bipush (n := 261) dX10_goesOnBehind_259 rfl ⟨by decide, by decide⟩ (by decide) ?_
    refine a_callV (M2 := mX10_takeSign) (n := 264) dX10_goesOnBehind_261 rfl (m_tsk (d := d) (kd := kd) (k := 9) hz hR ⟨ha1, ha2⟩ hT hf0 hA.s9) kX10_takeSign lX10_245 iX10_takeSign eX10_takeSign (by decide) (by omega) (s37 hz) rfl (Nat.le_of_ble_eq_true rfl) (fun q261 z261 hr261 hi261 hl261 h261 => ?_)
    obtain ⟨e1261, e2261, e3261, rfl, h261⟩ := h261
    obtain rfl := e1261.symm
    obtain rfl := e2261.symm
    obtain rfl := e3261.symm
    rcases h261 with ⟨hk261, rfl⟩ | ⟨hk261, rfl⟩
    · show a_wp G _ _ _ _ [] _ _ _ _ _
      refine a_aload_n (n := 265) dX10_goesOnBehind_264 rfl rfl ?_
      refine a_dup (n := 266) dX10_goesOnBehind_265 rfl rfl ?_
      refine a_getI (n := 269) dX10_goesOnBehind_266 rfl fX10_228 (s37 hz) ?_
      try simp only [up2_eq, Nat.reduceEqDiff, Int.reduceEq, Int.reduceNeg, and_true, true_and, and_false, false_and, and_self, if_true, if_false, ite_true, ite_false, reduceIte, eq_self]
      refine a_iconst (n := 270) dX10_goesOnBehind_269 rfl ⟨by decide, by decide⟩ ?_
      refine a_isub (n := 271) dX10_goesOnBehind_270 rfl ⟨by omega, by omega⟩ ?_
      refine a_putI (n := 274) dX10_goesOnBehind_271 rfl fX10_228 rfl (s37 hz) (Or.inl rfl) ?_
      refine a_goto (t := 0) dX10_goesOnBehind_274 rfl ?_
      rw [if_pos hk261] at hrun
      exact ih _ (by simp only [up2_eq, mEm, Nat.reduceEqDiff, Int.reduceEq, and_true, true_and, and_false, false_and, and_self, if_true, if_false, reduceIte]; exact hf0) ((hT.up (by decide) (by decide)).up (by decide) (by decide)) hrun
    · show a_wp G _ _ _ _ [] _ _ _ _ _
      refine a_aload_n (n := 265) dX10_goesOnBehind_264 rfl rfl ?_
      refine a_dup (n := 266) dX10_goesOnBehind_265 rfl rfl ?_
      refine a_getI (n := 269) dX10_goesOnBehind_266 rfl fX10_228 (s37 hz) ?_
      try simp only [up2_eq, Nat.reduceEqDiff, Int.reduceEq, Int.reduceNeg, and_true, true_and, and_false, false_and, and_self, if_true, if_false, ite_true, ite_false, reduceIte, eq_self]
      refine a_iconst (n := 270) dX10_goesOnBehind_269 rfl ⟨by decide, by decide⟩ ?_
      refine a_isub (n := 271) dX10_goesOnBehind_270 rfl ⟨by omega, by omega⟩ ?_
      refine a_putI (n := 274) dX10_goesOnBehind_271 rfl fX10_228 rfl (s37 hz) (Or.inl rfl) ?_
      refine a_goto (t := 0) dX10_goesOnBehind_274 rfl ?_
      rw [if_neg hk261] at hrun
      refine (g_f hz hR ?_).mono fun r z' hr' hi' hl' ⟨q1, q2, q3, q4, q5⟩ => ⟨q1, q2, q3, Or.inr ⟨q4, q5.trans (Option.some.inj hrun)⟩⟩
      simp only [up2_eq, Nat.reduceEqDiff, Int.reduceEq, and_true, true_and, and_false, false_and, and_self, if_true, if_false, reduceIte]
      omega
  · refine a_iconst (n := 257) dX10_goesOnBehind_256 rfl ⟨by decide, by decide⟩ ?_
    refine a_zreturn dX10_goesOnBehind_257 rfl (by omega) ?_
    rw [if_pos (by omega)] at hrun
    exact ⟨rfl, rfl, rfl, Or.inr ⟨rfl, Option.some.inj hrun⟩⟩
set_option maxRecDepth 100000 in
set_option maxHeartbeats 4000000 in
theorem g_5 (hz : stZ z) (hR : stR hr) {N n : Nat} {hf : aI} (hN : n < N) (ih : gW G d kd pl nu z hr hl N hf 6 249 n) : gW G d kd pl nu z hr hl N hf 5 218 (n + 1) := by
  intro hi hf0 hT hrun
  have hg := pRun_g hrun
  rw [pRun_5 hg] at hrun
  obtain ⟨⟨ha1, ha2⟩, ⟨hc1, hc2⟩, ⟨hd1, hd2⟩, hn1, hn2⟩ := hg
  have hA := hT (hi 37 7) ha1 ha2
  have hk0 := hA.k
  have hp0 := hA.pp
  refine a_aload_n (n := 219) dX10_goesOnBehind_218 rfl rfl ?_
  refine a_iconst (n := 220) dX10_goesOnBehind_219 rfl ⟨by decide, by decide⟩ ?_
  refine a_callV (M2 := mX10_isWord) (n := 223) dX10_goesOnBehind_220 rfl (m_wdk (d := d) (kd := kd) (k := 14) hz hR (by decide) ⟨ha1, ha2⟩ hf0 hA.w14) kX10_isWord lX10_204 iX10_isWord eX10_isWord (by decide) (by omega) (s37 hz) rfl (Nat.le_of_ble_eq_true rfl) (fun q220 z220 hr220 hi220 hl220 h220 => ?_)
  obtain ⟨e1220, e2220, e3220, e4220, b220, rfl, hb220⟩ := h220
  obtain rfl := e1220.symm
  obtain rfl := e2220.symm
  obtain rfl := e3220.symm
  obtain rfl := e4220.symm
  show a_wp G _ _ _ _ (vI b220 :: _) _ _ _ _ _
  refine a_if_eq (t := 249) (n := 226) dX10_goesOnBehind_223 rfl rfl (fun c223 => ?_) (fun c223 => ?_)
  · replace hb220 := isB_f hb220 c223
    rw [if_neg hb220] at hrun
    exact ih _ hf0 hT hrun
  · replace hb220 := isB_t hb220 (by omega)
    refine a_aload_n (n := 227) dX10_goesOnBehind_226 rfl rfl ?_
    refine a_getR (n := 230) dX10_goesOnBehind_227 rfl fX10_81 (s37 hz) (r37_21 hR) ?_
    refine a_aload_n (n := 231) dX10_goesOnBehind_230 rfl rfl ?_
    refine a_getI (n := 234) dX10_goesOnBehind_231 rfl fX10_228 (s37 hz) ?_
    refine a_bipush (n := 236) dX10_goesOnBehind_234 rfl ⟨by decide, by decide⟩ (by decide) ?_
    refine a_iast (n := 237) dX10_goesOnBehind_236 rfl (s50 hz) (by omega) (by omega) ?_
    refine a_aload_n (n := 238) dX10_goesOnBehind_237 rfl rfl ?_
    refine a_dup (n := 239) dX10_goesOnBehind_238 rfl rfl ?_
    refine a_getI (n := 242) dX10_goesOnBehind_239 rfl fX10_191 (s37 hz) ?_
    try simp only [up2_eq, Nat.reduceEqDiff, Int.reduceEq, Int.reduceNeg, and_true, true_and, and_false, false_and, and_self, if_true, if_false, ite_true, ite_false, reduceIte, eq_self]
    refine a_iconst (n := 243) dX10_goesOnBehind_242 rfl ⟨by decide, by decide⟩ ?_
    refine a_iadd (n := 244) dX10_goesOnBehind_243 rfl ⟨by omega, by omega⟩ ?_
    refine a_putI (n := 247) dX10_goesOnBehind_244 rfl fX10_191 rfl (s37 hz) (Or.inl rfl) ?_
    refine a_iconst (n := 248) dX10_goesOnBehind_247 rfl ⟨by decide, by decide⟩ ?_
    refine a_zreturn dX10_goesOnBehind_248 rfl (by omega) ?_
    refine ⟨rfl, rfl, rfl, Or.inl ⟨rfl, (by simp only [up2_eq, mEm, Nat.reduceEqDiff, Int.reduceEq, and_true, true_and, and_false, false_and, and_self, if_true, if_false, reduceIte]; exact hf0), (hT.up (by decide) (by decide)).up (by decide) (by decide), _, hN, ?_⟩⟩
    rw [if_pos hb220] at hrun
    exact hrun
set_option maxRecDepth 100000 in
set_option maxHeartbeats 4000000 in
theorem g_4 (hz : stZ z) (hR : stR hr) {N n : Nat} {hf : aI} (ih : gW G d kd pl nu z hr hl N hf 5 218 n) : gW G d kd pl nu z hr hl N hf 4 189 (n + 1) := by
  intro hi hf0 hT hrun
  have hg := pRun_g hrun
  rw [pRun_4 hg] at hrun
  obtain ⟨⟨ha1, ha2⟩, ⟨hc1, hc2⟩, ⟨hd1, hd2⟩, hn1, hn2⟩ := hg
  have hA := hT (hi 37 7) ha1 ha2
  have hk0 := hA.k
  have hp0 := hA.pp
  refine a_aload_n (n := 190) dX10_goesOnBehind_189 rfl rfl ?_
  refine a_getR (n := 193) dX10_goesOnBehind_190 rfl fX10_81 (s37 hz) (r37_21 hR) ?_
  refine a_aload_n (n := 194) dX10_goesOnBehind_193 rfl rfl ?_
  refine a_getI (n := 197) dX10_goesOnBehind_194 rfl fX10_228 (s37 hz) ?_
  refine a_iald (n := 198) dX10_goesOnBehind_197 rfl (s50 hz) (by omega) (by omega) ?_
  refine a_if_eq (t := 218) (n := 201) dX10_goesOnBehind_198 rfl rfl (fun c198 => ?_) (fun c198 => ?_)
  · rw [if_neg (not_not_intro c198)] at hrun
    exact ih _ hf0 hT hrun
  · refine a_aload_n (n := 202) dX10_goesOnBehind_201 rfl rfl ?_
    refine a_bipush (n := 204) dX10_goesOnBehind_202 rfl ⟨by decide, by decide⟩ (by decide) ?_
    refine a_iconst (n := 205) dX10_goesOnBehind_204 rfl ⟨by decide, by decide⟩ ?_
    refine a_callV (M2 := mX10_emit) (n := 208) dX10_goesOnBehind_205 rfl (m_emit (d := d) hz hR ⟨hn1, hn2⟩ ⟨hc1, by omega⟩) kX10_emit lX10_241 iX10_emit eX10_emit (by decide) (by omega) (s37 hz) rfl (Nat.le_of_ble_eq_true rfl) (fun q205 z205 hr205 hi205 hl205 h205 => ?_)
    obtain ⟨e1205, e2205, e3205, rfl, rfl⟩ := h205
    obtain rfl := e1205.symm
    obtain rfl := e2205.symm
    obtain rfl := e3205.symm
    show a_wp G _ _ _ _ [] _ _ _ _ _
    refine a_aload_n (n := 209) dX10_goesOnBehind_208 rfl rfl ?_
    refine a_getR (n := 212) dX10_goesOnBehind_209 rfl fX10_81 (s37 hz) (r37_21 hR) ?_
    refine a_aload_n (n := 213) dX10_goesOnBehind_212 rfl rfl ?_
    refine a_getI (n := 216) dX10_goesOnBehind_213 rfl fX10_228 (s37 hz) ?_
    try simp only [up2_eq, Nat.reduceEqDiff, Int.reduceEq, Int.reduceNeg, and_true, true_and, and_false, false_and, and_self, if_true, if_false, ite_true, ite_false, reduceIte, eq_self]
    refine a_iconst (n := 217) dX10_goesOnBehind_216 rfl ⟨by decide, by decide⟩ ?_
    refine a_iast (n := 218) dX10_goesOnBehind_217 rfl (s50 hz) (by omega) (by omega) ?_
    rw [if_pos c198] at hrun
    exact ih _ (by simp only [up2_eq, mEm, Nat.reduceEqDiff, Int.reduceEq, and_true, true_and, and_false, false_and, and_self, if_true, if_false, reduceIte]; exact hf0) (hT.em.up (by decide) (by decide)) hrun
set_option maxRecDepth 100000 in
set_option maxHeartbeats 4000000 in
theorem g_3 (hz : stZ z) (hR : stR hr) {N n : Nat} {hf : aI} (hN : n < N) (ih : gW G d kd pl nu z hr hl N hf 4 189 n) : gW G d kd pl nu z hr hl N hf 3 96 (n + 1) := by
  intro hi hf0 hT hrun
  have hg := pRun_g hrun
  rw [pRun_3 hg] at hrun
  obtain ⟨⟨ha1, ha2⟩, ⟨hc1, hc2⟩, ⟨hd1, hd2⟩, hn1, hn2⟩ := hg
  have hA := hT (hi 37 7) ha1 ha2
  have hk0 := hA.k
  have hp0 := hA.pp
  refine a_aload_n (n := 97) dX10_goesOnBehind_96 rfl rfl ?_
  refine a_getR (n := 100) dX10_goesOnBehind_97 rfl fX10_78 (s37 hz) (r37_20 hR) ?_
  refine a_aload_n (n := 101) dX10_goesOnBehind_100 rfl rfl ?_
  refine a_getI (n := 104) dX10_goesOnBehind_101 rfl fX10_228 (s37 hz) ?_
  refine a_iald (n := 105) dX10_goesOnBehind_104 rfl (s49 hz) (by omega) (by omega) ?_
  refine a_if_eq (t := 135) (n := 108) dX10_goesOnBehind_105 rfl rfl (fun c105 => ?_) (fun c105 => ?_)
  · refine a_aload_n (n := 136) dX10_goesOnBehind_135 rfl rfl ?_
    refine a_bipush (n := 138) dX10_goesOnBehind_136 rfl ⟨by decide, by decide⟩ (by decide) ?_
    refine a_callV (M2 := mX10_isSign) (n := 141) dX10_goesOnBehind_138 rfl (m_sgk (d := d) (kd := kd) (k := 10) hz hR ⟨ha1, ha2⟩ hf0 hA.s10) kX10_isSign lX10_197 iX10_isSign eX10_isSign (by decide) (by omega) (s37 hz) rfl (Nat.le_of_ble_eq_true rfl) (fun q138 z138 hr138 hi138 hl138 h138 => ?_)
    obtain ⟨e1138, e2138, e3138, e4138, b138, rfl, hb138⟩ := h138
    obtain rfl := e1138.symm
    obtain rfl := e2138.symm
    obtain rfl := e3138.symm
    obtain rfl := e4138.symm
    show a_wp G _ _ _ _ (vI b138 :: _) _ _ _ _ _
    refine a_if_ne (t := 153) (n := 144) dX10_goesOnBehind_141 rfl rfl (fun c141 => ?_) (fun c141 => ?_)
    · replace hb138 := isB_t hb138 c141
      refine a_aload_n (n := 154) dX10_goesOnBehind_153 rfl rfl ?_
      refine a_getR (n := 157) dX10_goesOnBehind_154 rfl fX10_78 (s37 hz) (r37_20 hR) ?_
      refine a_aload_n (n := 158) dX10_goesOnBehind_157 rfl rfl ?_
      refine a_getI (n := 161) dX10_goesOnBehind_158 rfl fX10_228 (s37 hz) ?_
      refine a_aload_n (n := 162) dX10_goesOnBehind_161 rfl rfl ?_
      refine a_bipush (n := 164) dX10_goesOnBehind_162 rfl ⟨by decide, by decide⟩ (by decide) ?_
      refine a_callV (M2 := mX10_isSign) (n := 167) dX10_goesOnBehind_164 rfl (m_sgk (d := d) (kd := kd) (k := 10) hz hR ⟨ha1, ha2⟩ hf0 hA.s10) kX10_isSign lX10_197 iX10_isSign eX10_isSign (by decide) (by omega) (s37 hz) rfl (Nat.le_of_ble_eq_true rfl) (fun q164 z164 hr164 hi164 hl164 h164 => ?_)
      obtain ⟨e1164, e2164, e3164, e4164, b164, rfl, hb164⟩ := h164
      obtain rfl := e1164.symm
      obtain rfl := e2164.symm
      obtain rfl := e3164.symm
      obtain rfl := e4164.symm
      show a_wp G _ _ _ _ (vI b164 :: _) _ _ _ _ _
      refine a_if_eq (t := 174) (n := 170) dX10_goesOnBehind_167 rfl rfl (fun c167 => ?_) (fun c167 => ?_)
      · replace hb164 := isB_f hb164 c167
        refine a_bipush (n := 176) dX10_goesOnBehind_174 rfl ⟨by decide, by decide⟩ (by decide) ?_
        refine a_iast (n := 177) dX10_goesOnBehind_176 rfl (s49 hz) (by omega) (by omega) ?_
        refine a_aload_n (n := 178) dX10_goesOnBehind_177 rfl rfl ?_
        refine a_dup (n := 179) dX10_goesOnBehind_178 rfl rfl ?_
        refine a_getI (n := 182) dX10_goesOnBehind_179 rfl fX10_191 (s37 hz) ?_
        try simp only [up2_eq, Nat.reduceEqDiff, Int.reduceEq, Int.reduceNeg, and_true, true_and, and_false, false_and, and_self, if_true, if_false, ite_true, ite_false, reduceIte, eq_self]
        refine a_iconst (n := 183) dX10_goesOnBehind_182 rfl ⟨by decide, by decide⟩ ?_
        refine a_iadd (n := 184) dX10_goesOnBehind_183 rfl ⟨by omega, by omega⟩ ?_
        refine a_putI (n := 187) dX10_goesOnBehind_184 rfl fX10_191 rfl (s37 hz) (Or.inl rfl) ?_
        refine a_iconst (n := 188) dX10_goesOnBehind_187 rfl ⟨by decide, by decide⟩ ?_
        refine a_zreturn dX10_goesOnBehind_188 rfl (by omega) ?_
        refine ⟨rfl, rfl, rfl, Or.inl ⟨rfl, (by simp only [up2_eq, mEm, Nat.reduceEqDiff, Int.reduceEq, and_true, true_and, and_false, false_and, and_self, if_true, if_false, reduceIte]; exact hf0), (hT.up (by decide) (by decide)).up (by decide) (by decide), _, hN, ?_⟩⟩
        rw [if_neg (not_not_intro c105)] at hrun
        rw [if_neg hb164] at hrun
        rw [if_pos (by omega)] at hrun
        exact hrun
      · replace hb164 := isB_t hb164 (by omega)
        refine a_iconst (n := 171) dX10_goesOnBehind_170 rfl ⟨by decide, by decide⟩ ?_
        refine a_goto (t := 176) dX10_goesOnBehind_171 rfl ?_
        refine a_iast (n := 177) dX10_goesOnBehind_176 rfl (s49 hz) (by omega) (by omega) ?_
        refine a_aload_n (n := 178) dX10_goesOnBehind_177 rfl rfl ?_
        refine a_dup (n := 179) dX10_goesOnBehind_178 rfl rfl ?_
        refine a_getI (n := 182) dX10_goesOnBehind_179 rfl fX10_191 (s37 hz) ?_
        try simp only [up2_eq, Nat.reduceEqDiff, Int.reduceEq, Int.reduceNeg, and_true, true_and, and_false, false_and, and_self, if_true, if_false, ite_true, ite_false, reduceIte, eq_self]
        refine a_iconst (n := 183) dX10_goesOnBehind_182 rfl ⟨by decide, by decide⟩ ?_
        refine a_iadd (n := 184) dX10_goesOnBehind_183 rfl ⟨by omega, by omega⟩ ?_
        refine a_putI (n := 187) dX10_goesOnBehind_184 rfl fX10_191 rfl (s37 hz) (Or.inl rfl) ?_
        refine a_iconst (n := 188) dX10_goesOnBehind_187 rfl ⟨by decide, by decide⟩ ?_
        refine a_zreturn dX10_goesOnBehind_188 rfl (by omega) ?_
        refine ⟨rfl, rfl, rfl, Or.inl ⟨rfl, (by simp only [up2_eq, mEm, Nat.reduceEqDiff, Int.reduceEq, and_true, true_and, and_false, false_and, and_self, if_true, if_false, reduceIte]; exact hf0), (hT.up (by decide) (by decide)).up (by decide) (by decide), _, hN, ?_⟩⟩
        rw [if_neg (not_not_intro c105)] at hrun
        rw [if_pos hb164] at hrun
        exact hrun
    · replace hb138 := isB_f hb138 (by omega)
      refine a_aload_n (n := 145) dX10_goesOnBehind_144 rfl rfl ?_
      refine a_bipush (n := 147) dX10_goesOnBehind_145 rfl ⟨by decide, by decide⟩ (by decide) ?_
      refine a_callV (M2 := mX10_isSign) (n := 150) dX10_goesOnBehind_147 rfl (m_sgk (d := d) (kd := kd) (k := 11) hz hR ⟨ha1, ha2⟩ hf0 hA.s11) kX10_isSign lX10_197 iX10_isSign eX10_isSign (by decide) (by omega) (s37 hz) rfl (Nat.le_of_ble_eq_true rfl) (fun q147 z147 hr147 hi147 hl147 h147 => ?_)
      obtain ⟨e1147, e2147, e3147, e4147, b147, rfl, hb147⟩ := h147
      obtain rfl := e1147.symm
      obtain rfl := e2147.symm
      obtain rfl := e3147.symm
      obtain rfl := e4147.symm
      show a_wp G _ _ _ _ (vI b147 :: _) _ _ _ _ _
      refine a_if_eq (t := 189) (n := 153) dX10_goesOnBehind_150 rfl rfl (fun c150 => ?_) (fun c150 => ?_)
      · replace hb147 := isB_f hb147 c150
        rw [if_neg (not_not_intro c105), if_neg hb138, if_neg hb147] at hrun
        exact ih _ hf0 hT hrun
      · replace hb147 := isB_t hb147 (by omega)
        refine a_aload_n (n := 154) dX10_goesOnBehind_153 rfl rfl ?_
        refine a_getR (n := 157) dX10_goesOnBehind_154 rfl fX10_78 (s37 hz) (r37_20 hR) ?_
        refine a_aload_n (n := 158) dX10_goesOnBehind_157 rfl rfl ?_
        refine a_getI (n := 161) dX10_goesOnBehind_158 rfl fX10_228 (s37 hz) ?_
        refine a_aload_n (n := 162) dX10_goesOnBehind_161 rfl rfl ?_
        refine a_bipush (n := 164) dX10_goesOnBehind_162 rfl ⟨by decide, by decide⟩ (by decide) ?_
        refine a_callV (M2 := mX10_isSign) (n := 167) dX10_goesOnBehind_164 rfl (m_sgk (d := d) (kd := kd) (k := 10) hz hR ⟨ha1, ha2⟩ hf0 hA.s10) kX10_isSign lX10_197 iX10_isSign eX10_isSign (by decide) (by omega) (s37 hz) rfl (Nat.le_of_ble_eq_true rfl) (fun q164 z164 hr164 hi164 hl164 h164 => ?_)
        obtain ⟨e1164, e2164, e3164, e4164, b164, rfl, hb164⟩ := h164
        obtain rfl := e1164.symm
        obtain rfl := e2164.symm
        obtain rfl := e3164.symm
        obtain rfl := e4164.symm
        show a_wp G _ _ _ _ (vI b164 :: _) _ _ _ _ _
        refine a_if_eq (t := 174) (n := 170) dX10_goesOnBehind_167 rfl rfl (fun c167 => ?_) (fun c167 => ?_)
        · replace hb164 := isB_f hb164 c167
          refine a_bipush (n := 176) dX10_goesOnBehind_174 rfl ⟨by decide, by decide⟩ (by decide) ?_
          refine a_iast (n := 177) dX10_goesOnBehind_176 rfl (s49 hz) (by omega) (by omega) ?_
          refine a_aload_n (n := 178) dX10_goesOnBehind_177 rfl rfl ?_
          refine a_dup (n := 179) dX10_goesOnBehind_178 rfl rfl ?_
          refine a_getI (n := 182) dX10_goesOnBehind_179 rfl fX10_191 (s37 hz) ?_
          try simp only [up2_eq, Nat.reduceEqDiff, Int.reduceEq, Int.reduceNeg, and_true, true_and, and_false, false_and, and_self, if_true, if_false, ite_true, ite_false, reduceIte, eq_self]
          refine a_iconst (n := 183) dX10_goesOnBehind_182 rfl ⟨by decide, by decide⟩ ?_
          refine a_iadd (n := 184) dX10_goesOnBehind_183 rfl ⟨by omega, by omega⟩ ?_
          refine a_putI (n := 187) dX10_goesOnBehind_184 rfl fX10_191 rfl (s37 hz) (Or.inl rfl) ?_
          refine a_iconst (n := 188) dX10_goesOnBehind_187 rfl ⟨by decide, by decide⟩ ?_
          refine a_zreturn dX10_goesOnBehind_188 rfl (by omega) ?_
          refine ⟨rfl, rfl, rfl, Or.inl ⟨rfl, (by simp only [up2_eq, mEm, Nat.reduceEqDiff, Int.reduceEq, and_true, true_and, and_false, false_and, and_self, if_true, if_false, reduceIte]; exact hf0), (hT.up (by decide) (by decide)).up (by decide) (by decide), _, hN, ?_⟩⟩
          rw [if_neg (not_not_intro c105)] at hrun
          rw [if_neg hb164] at hrun
          rw [if_pos (by omega)] at hrun
          exact hrun
        · replace hb164 := isB_t hb164 (by omega)
          refine a_iconst (n := 171) dX10_goesOnBehind_170 rfl ⟨by decide, by decide⟩ ?_
          refine a_goto (t := 176) dX10_goesOnBehind_171 rfl ?_
          refine a_iast (n := 177) dX10_goesOnBehind_176 rfl (s49 hz) (by omega) (by omega) ?_
          refine a_aload_n (n := 178) dX10_goesOnBehind_177 rfl rfl ?_
          refine a_dup (n := 179) dX10_goesOnBehind_178 rfl rfl ?_
          refine a_getI (n := 182) dX10_goesOnBehind_179 rfl fX10_191 (s37 hz) ?_
          try simp only [up2_eq, Nat.reduceEqDiff, Int.reduceEq, Int.reduceNeg, and_true, true_and, and_false, false_and, and_self, if_true, if_false, ite_true, ite_false, reduceIte, eq_self]
          refine a_iconst (n := 183) dX10_goesOnBehind_182 rfl ⟨by decide, by decide⟩ ?_
          refine a_iadd (n := 184) dX10_goesOnBehind_183 rfl ⟨by omega, by omega⟩ ?_
          refine a_putI (n := 187) dX10_goesOnBehind_184 rfl fX10_191 rfl (s37 hz) (Or.inl rfl) ?_
          refine a_iconst (n := 188) dX10_goesOnBehind_187 rfl ⟨by decide, by decide⟩ ?_
          refine a_zreturn dX10_goesOnBehind_188 rfl (by omega) ?_
          refine ⟨rfl, rfl, rfl, Or.inl ⟨rfl, (by simp only [up2_eq, mEm, Nat.reduceEqDiff, Int.reduceEq, and_true, true_and, and_false, false_and, and_self, if_true, if_false, reduceIte]; exact hf0), (hT.up (by decide) (by decide)).up (by decide) (by decide), _, hN, ?_⟩⟩
          rw [if_neg (not_not_intro c105)] at hrun
          rw [if_pos hb164] at hrun
          exact hrun
  · refine a_aload_n (n := 109) dX10_goesOnBehind_108 rfl rfl ?_
    refine a_aload_n (n := 110) dX10_goesOnBehind_109 rfl rfl ?_
    refine a_getR (n := 113) dX10_goesOnBehind_110 rfl fX10_78 (s37 hz) (r37_20 hR) ?_
    refine a_aload_n (n := 114) dX10_goesOnBehind_113 rfl rfl ?_
    refine a_getI (n := 117) dX10_goesOnBehind_114 rfl fX10_228 (s37 hz) ?_
    refine a_iald (n := 118) dX10_goesOnBehind_117 rfl (s49 hz) (by omega) (by omega) ?_
    refine a_iconst (n := 119) dX10_goesOnBehind_118 rfl ⟨by decide, by decide⟩ ?_
    refine a_callV (M2 := mX10_emit) (n := 122) dX10_goesOnBehind_119 rfl (m_emit (d := d) hz hR ⟨hn1, hn2⟩ ⟨hc1, by omega⟩) kX10_emit lX10_241 iX10_emit eX10_emit (by decide) (by omega) (s37 hz) rfl (Nat.le_of_ble_eq_true rfl) (fun q119 z119 hr119 hi119 hl119 h119 => ?_)
    obtain ⟨e1119, e2119, e3119, rfl, rfl⟩ := h119
    obtain rfl := e1119.symm
    obtain rfl := e2119.symm
    obtain rfl := e3119.symm
    show a_wp G _ _ _ _ [] _ _ _ _ _
    refine a_aload_n (n := 123) dX10_goesOnBehind_122 rfl rfl ?_
    refine a_getR (n := 126) dX10_goesOnBehind_123 rfl fX10_78 (s37 hz) (r37_20 hR) ?_
    refine a_aload_n (n := 127) dX10_goesOnBehind_126 rfl rfl ?_
    refine a_getI (n := 130) dX10_goesOnBehind_127 rfl fX10_228 (s37 hz) ?_
    try simp only [up2_eq, Nat.reduceEqDiff, Int.reduceEq, Int.reduceNeg, and_true, true_and, and_false, false_and, and_self, if_true, if_false, ite_true, ite_false, reduceIte, eq_self]
    refine a_iconst (n := 131) dX10_goesOnBehind_130 rfl ⟨by decide, by decide⟩ ?_
    refine a_iast (n := 132) dX10_goesOnBehind_131 rfl (s49 hz) (by omega) (by omega) ?_
    refine a_goto (t := 189) dX10_goesOnBehind_132 rfl ?_
    rw [if_pos c105] at hrun
    exact ih _ (by simp only [up2_eq, mEm, Nat.reduceEqDiff, Int.reduceEq, and_true, true_and, and_false, false_and, and_self, if_true, if_false, reduceIte]; exact hf0) (hT.em.up (by decide) (by decide)) hrun
set_option maxRecDepth 100000 in
set_option maxHeartbeats 4000000 in
theorem g_2 (hz : stZ z) (hR : stR hr) {N n : Nat} {hf : aI} (hN : n < N) (ih : gW G d kd pl nu z hr hl N hf 3 96 n) : gW G d kd pl nu z hr hl N hf 2 43 (n + 1) := by
  intro hi hf0 hT hrun
  have hg := pRun_g hrun
  rw [pRun_2 hg] at hrun
  obtain ⟨⟨ha1, ha2⟩, ⟨hc1, hc2⟩, ⟨hd1, hd2⟩, hn1, hn2⟩ := hg
  have hA := hT (hi 37 7) ha1 ha2
  have hk0 := hA.k
  have hp0 := hA.pp
  refine a_aload_n (n := 44) dX10_goesOnBehind_43 rfl rfl ?_
  refine a_bipush (n := 46) dX10_goesOnBehind_44 rfl ⟨by decide, by decide⟩ (by decide) ?_
  refine a_callV (M2 := mX10_isSign) (n := 49) dX10_goesOnBehind_46 rfl (m_sgk (d := d) (kd := kd) (k := 12) hz hR ⟨ha1, ha2⟩ hf0 hA.s12) kX10_isSign lX10_197 iX10_isSign eX10_isSign (by decide) (by omega) (s37 hz) rfl (Nat.le_of_ble_eq_true rfl) (fun q46 z46 hr46 hi46 hl46 h46 => ?_)
  obtain ⟨e146, e246, e346, e446, b46, rfl, hb46⟩ := h46
  obtain rfl := e146.symm
  obtain rfl := e246.symm
  obtain rfl := e346.symm
  obtain rfl := e446.symm
  show a_wp G _ _ _ _ (vI b46 :: _) _ _ _ _ _
  refine a_if_ne (t := 61) (n := 52) dX10_goesOnBehind_49 rfl rfl (fun c49 => ?_) (fun c49 => ?_)
  · replace hb46 := isB_t hb46 c49
    refine a_aload_n (n := 62) dX10_goesOnBehind_61 rfl rfl ?_
    refine a_getR (n := 65) dX10_goesOnBehind_62 rfl fX10_75 (s37 hz) (r37_19 hR) ?_
    refine a_aload_n (n := 66) dX10_goesOnBehind_65 rfl rfl ?_
    refine a_getI (n := 69) dX10_goesOnBehind_66 rfl fX10_228 (s37 hz) ?_
    refine a_aload_n (n := 70) dX10_goesOnBehind_69 rfl rfl ?_
    refine a_bipush (n := 72) dX10_goesOnBehind_70 rfl ⟨by decide, by decide⟩ (by decide) ?_
    refine a_callV (M2 := mX10_isSign) (n := 75) dX10_goesOnBehind_72 rfl (m_sgk (d := d) (kd := kd) (k := 12) hz hR ⟨ha1, ha2⟩ hf0 hA.s12) kX10_isSign lX10_197 iX10_isSign eX10_isSign (by decide) (by omega) (s37 hz) rfl (Nat.le_of_ble_eq_true rfl) (fun q72 z72 hr72 hi72 hl72 h72 => ?_)
    obtain ⟨e172, e272, e372, e472, b72, rfl, hb72⟩ := h72
    obtain rfl := e172.symm
    obtain rfl := e272.symm
    obtain rfl := e372.symm
    obtain rfl := e472.symm
    show a_wp G _ _ _ _ (vI b72 :: _) _ _ _ _ _
    refine a_if_eq (t := 82) (n := 78) dX10_goesOnBehind_75 rfl rfl (fun c75 => ?_) (fun c75 => ?_)
    · replace hb72 := isB_f hb72 c75
      refine a_iconst (n := 83) dX10_goesOnBehind_82 rfl ⟨by decide, by decide⟩ ?_
      refine a_iast (n := 84) dX10_goesOnBehind_83 rfl (s48 hz) (by omega) (by omega) ?_
      refine a_aload_n (n := 85) dX10_goesOnBehind_84 rfl rfl ?_
      refine a_dup (n := 86) dX10_goesOnBehind_85 rfl rfl ?_
      refine a_getI (n := 89) dX10_goesOnBehind_86 rfl fX10_191 (s37 hz) ?_
      try simp only [up2_eq, Nat.reduceEqDiff, Int.reduceEq, Int.reduceNeg, and_true, true_and, and_false, false_and, and_self, if_true, if_false, ite_true, ite_false, reduceIte, eq_self]
      refine a_iconst (n := 90) dX10_goesOnBehind_89 rfl ⟨by decide, by decide⟩ ?_
      refine a_iadd (n := 91) dX10_goesOnBehind_90 rfl ⟨by omega, by omega⟩ ?_
      refine a_putI (n := 94) dX10_goesOnBehind_91 rfl fX10_191 rfl (s37 hz) (Or.inl rfl) ?_
      refine a_iconst (n := 95) dX10_goesOnBehind_94 rfl ⟨by decide, by decide⟩ ?_
      refine a_zreturn dX10_goesOnBehind_95 rfl (by omega) ?_
      refine ⟨rfl, rfl, rfl, Or.inl ⟨rfl, (by simp only [up2_eq, mEm, Nat.reduceEqDiff, Int.reduceEq, and_true, true_and, and_false, false_and, and_self, if_true, if_false, reduceIte]; exact hf0), (hT.up (by decide) (by decide)).up (by decide) (by decide), _, hN, ?_⟩⟩
      rw [if_neg hb72] at hrun
      rw [if_pos (by omega)] at hrun
      exact hrun
    · replace hb72 := isB_t hb72 (by omega)
      refine a_iconst (n := 79) dX10_goesOnBehind_78 rfl ⟨by decide, by decide⟩ ?_
      refine a_goto (t := 83) dX10_goesOnBehind_79 rfl ?_
      refine a_iast (n := 84) dX10_goesOnBehind_83 rfl (s48 hz) (by omega) (by omega) ?_
      refine a_aload_n (n := 85) dX10_goesOnBehind_84 rfl rfl ?_
      refine a_dup (n := 86) dX10_goesOnBehind_85 rfl rfl ?_
      refine a_getI (n := 89) dX10_goesOnBehind_86 rfl fX10_191 (s37 hz) ?_
      try simp only [up2_eq, Nat.reduceEqDiff, Int.reduceEq, Int.reduceNeg, and_true, true_and, and_false, false_and, and_self, if_true, if_false, ite_true, ite_false, reduceIte, eq_self]
      refine a_iconst (n := 90) dX10_goesOnBehind_89 rfl ⟨by decide, by decide⟩ ?_
      refine a_iadd (n := 91) dX10_goesOnBehind_90 rfl ⟨by omega, by omega⟩ ?_
      refine a_putI (n := 94) dX10_goesOnBehind_91 rfl fX10_191 rfl (s37 hz) (Or.inl rfl) ?_
      refine a_iconst (n := 95) dX10_goesOnBehind_94 rfl ⟨by decide, by decide⟩ ?_
      refine a_zreturn dX10_goesOnBehind_95 rfl (by omega) ?_
      refine ⟨rfl, rfl, rfl, Or.inl ⟨rfl, (by simp only [up2_eq, mEm, Nat.reduceEqDiff, Int.reduceEq, and_true, true_and, and_false, false_and, and_self, if_true, if_false, reduceIte]; exact hf0), (hT.up (by decide) (by decide)).up (by decide) (by decide), _, hN, ?_⟩⟩
      rw [if_pos hb72] at hrun
      exact hrun
  · replace hb46 := isB_f hb46 (by omega)
    refine a_aload_n (n := 53) dX10_goesOnBehind_52 rfl rfl ?_
    refine a_bipush (n := 55) dX10_goesOnBehind_53 rfl ⟨by decide, by decide⟩ (by decide) ?_
    refine a_callV (M2 := mX10_isSign) (n := 58) dX10_goesOnBehind_55 rfl (m_sgk (d := d) (kd := kd) (k := 13) hz hR ⟨ha1, ha2⟩ hf0 hA.s13) kX10_isSign lX10_197 iX10_isSign eX10_isSign (by decide) (by omega) (s37 hz) rfl (Nat.le_of_ble_eq_true rfl) (fun q55 z55 hr55 hi55 hl55 h55 => ?_)
    obtain ⟨e155, e255, e355, e455, b55, rfl, hb55⟩ := h55
    obtain rfl := e155.symm
    obtain rfl := e255.symm
    obtain rfl := e355.symm
    obtain rfl := e455.symm
    show a_wp G _ _ _ _ (vI b55 :: _) _ _ _ _ _
    refine a_if_eq (t := 96) (n := 61) dX10_goesOnBehind_58 rfl rfl (fun c58 => ?_) (fun c58 => ?_)
    · replace hb55 := isB_f hb55 c58
      rw [if_neg hb46, if_neg hb55] at hrun
      exact ih _ hf0 hT hrun
    · replace hb55 := isB_t hb55 (by omega)
      refine a_aload_n (n := 62) dX10_goesOnBehind_61 rfl rfl ?_
      refine a_getR (n := 65) dX10_goesOnBehind_62 rfl fX10_75 (s37 hz) (r37_19 hR) ?_
      refine a_aload_n (n := 66) dX10_goesOnBehind_65 rfl rfl ?_
      refine a_getI (n := 69) dX10_goesOnBehind_66 rfl fX10_228 (s37 hz) ?_
      refine a_aload_n (n := 70) dX10_goesOnBehind_69 rfl rfl ?_
      refine a_bipush (n := 72) dX10_goesOnBehind_70 rfl ⟨by decide, by decide⟩ (by decide) ?_
      refine a_callV (M2 := mX10_isSign) (n := 75) dX10_goesOnBehind_72 rfl (m_sgk (d := d) (kd := kd) (k := 12) hz hR ⟨ha1, ha2⟩ hf0 hA.s12) kX10_isSign lX10_197 iX10_isSign eX10_isSign (by decide) (by omega) (s37 hz) rfl (Nat.le_of_ble_eq_true rfl) (fun q72 z72 hr72 hi72 hl72 h72 => ?_)
      obtain ⟨e172, e272, e372, e472, b72, rfl, hb72⟩ := h72
      obtain rfl := e172.symm
      obtain rfl := e272.symm
      obtain rfl := e372.symm
      obtain rfl := e472.symm
      show a_wp G _ _ _ _ (vI b72 :: _) _ _ _ _ _
      refine a_if_eq (t := 82) (n := 78) dX10_goesOnBehind_75 rfl rfl (fun c75 => ?_) (fun c75 => ?_)
      · replace hb72 := isB_f hb72 c75
        refine a_iconst (n := 83) dX10_goesOnBehind_82 rfl ⟨by decide, by decide⟩ ?_
        refine a_iast (n := 84) dX10_goesOnBehind_83 rfl (s48 hz) (by omega) (by omega) ?_
        refine a_aload_n (n := 85) dX10_goesOnBehind_84 rfl rfl ?_
        refine a_dup (n := 86) dX10_goesOnBehind_85 rfl rfl ?_
        refine a_getI (n := 89) dX10_goesOnBehind_86 rfl fX10_191 (s37 hz) ?_
        try simp only [up2_eq, Nat.reduceEqDiff, Int.reduceEq, Int.reduceNeg, and_true, true_and, and_false, false_and, and_self, if_true, if_false, ite_true, ite_false, reduceIte, eq_self]
        refine a_iconst (n := 90) dX10_goesOnBehind_89 rfl ⟨by decide, by decide⟩ ?_
        refine a_iadd (n := 91) dX10_goesOnBehind_90 rfl ⟨by omega, by omega⟩ ?_
        refine a_putI (n := 94) dX10_goesOnBehind_91 rfl fX10_191 rfl (s37 hz) (Or.inl rfl) ?_
        refine a_iconst (n := 95) dX10_goesOnBehind_94 rfl ⟨by decide, by decide⟩ ?_
        refine a_zreturn dX10_goesOnBehind_95 rfl (by omega) ?_
        refine ⟨rfl, rfl, rfl, Or.inl ⟨rfl, (by simp only [up2_eq, mEm, Nat.reduceEqDiff, Int.reduceEq, and_true, true_and, and_false, false_and, and_self, if_true, if_false, reduceIte]; exact hf0), (hT.up (by decide) (by decide)).up (by decide) (by decide), _, hN, ?_⟩⟩
        rw [if_neg hb72] at hrun
        rw [if_pos (by omega)] at hrun
        exact hrun
      · replace hb72 := isB_t hb72 (by omega)
        refine a_iconst (n := 79) dX10_goesOnBehind_78 rfl ⟨by decide, by decide⟩ ?_
        refine a_goto (t := 83) dX10_goesOnBehind_79 rfl ?_
        refine a_iast (n := 84) dX10_goesOnBehind_83 rfl (s48 hz) (by omega) (by omega) ?_
        refine a_aload_n (n := 85) dX10_goesOnBehind_84 rfl rfl ?_
        refine a_dup (n := 86) dX10_goesOnBehind_85 rfl rfl ?_
        refine a_getI (n := 89) dX10_goesOnBehind_86 rfl fX10_191 (s37 hz) ?_
        try simp only [up2_eq, Nat.reduceEqDiff, Int.reduceEq, Int.reduceNeg, and_true, true_and, and_false, false_and, and_self, if_true, if_false, ite_true, ite_false, reduceIte, eq_self]
        refine a_iconst (n := 90) dX10_goesOnBehind_89 rfl ⟨by decide, by decide⟩ ?_
        refine a_iadd (n := 91) dX10_goesOnBehind_90 rfl ⟨by omega, by omega⟩ ?_
        refine a_putI (n := 94) dX10_goesOnBehind_91 rfl fX10_191 rfl (s37 hz) (Or.inl rfl) ?_
        refine a_iconst (n := 95) dX10_goesOnBehind_94 rfl ⟨by decide, by decide⟩ ?_
        refine a_zreturn dX10_goesOnBehind_95 rfl (by omega) ?_
        refine ⟨rfl, rfl, rfl, Or.inl ⟨rfl, (by simp only [up2_eq, mEm, Nat.reduceEqDiff, Int.reduceEq, and_true, true_and, and_false, false_and, and_self, if_true, if_false, reduceIte]; exact hf0), (hT.up (by decide) (by decide)).up (by decide) (by decide), _, hN, ?_⟩⟩
        rw [if_pos hb72] at hrun
        exact hrun
set_option maxRecDepth 100000 in
set_option maxHeartbeats 4000000 in
theorem g_1 (hz : stZ z) (hR : stR hr) {N n : Nat} {hf : aI} (ih : gW G d kd pl nu z hr hl N hf 2 43 n) : gW G d kd pl nu z hr hl N hf 1 0 (n + 1) := by
  intro hi hf0 hT hrun
  have hg := pRun_g hrun
  rw [pRun_1 hg] at hrun
  obtain ⟨⟨ha1, ha2⟩, ⟨hc1, hc2⟩, ⟨hd1, hd2⟩, hn1, hn2⟩ := hg
  have hA := hT (hi 37 7) ha1 ha2
  have hk0 := hA.k
  have hp0 := hA.pp
  refine a_aload_n (n := 1) dX10_goesOnBehind_0 rfl rfl ?_
  refine a_getI (n := 4) dX10_goesOnBehind_1 rfl fX10_194 (s37 hz) ?_
  refine a_if_ne (t := 277) (n := 7) dX10_goesOnBehind_4 rfl rfl (fun c4 => ?_) (fun c4 => ?_)
  · exact absurd hf0 c4
  · refine a_aload_n (n := 8) dX10_goesOnBehind_7 rfl rfl ?_
    refine a_getR (n := 11) dX10_goesOnBehind_8 rfl fX10_75 (s37 hz) (r37_19 hR) ?_
    refine a_aload_n (n := 12) dX10_goesOnBehind_11 rfl rfl ?_
    refine a_getI (n := 15) dX10_goesOnBehind_12 rfl fX10_228 (s37 hz) ?_
    refine a_iald (n := 16) dX10_goesOnBehind_15 rfl (s48 hz) (by omega) (by omega) ?_
    refine a_if_eq (t := 43) (n := 19) dX10_goesOnBehind_16 rfl rfl (fun c16 => ?_) (fun c16 => ?_)
    · rw [if_neg (not_not_intro c16)] at hrun
      exact ih _ hf0 hT hrun
    · refine a_aload_n (n := 20) dX10_goesOnBehind_19 rfl rfl ?_
      refine a_aload_n (n := 21) dX10_goesOnBehind_20 rfl rfl ?_
      refine a_getR (n := 24) dX10_goesOnBehind_21 rfl fX10_75 (s37 hz) (r37_19 hR) ?_
      refine a_aload_n (n := 25) dX10_goesOnBehind_24 rfl rfl ?_
      refine a_getI (n := 28) dX10_goesOnBehind_25 rfl fX10_228 (s37 hz) ?_
      refine a_iald (n := 29) dX10_goesOnBehind_28 rfl (s48 hz) (by omega) (by omega) ?_
      refine a_iconst (n := 30) dX10_goesOnBehind_29 rfl ⟨by decide, by decide⟩ ?_
      refine a_callV (M2 := mX10_emit) (n := 33) dX10_goesOnBehind_30 rfl (m_emit (d := d) hz hR ⟨hn1, hn2⟩ ⟨hc1, by omega⟩) kX10_emit lX10_241 iX10_emit eX10_emit (by decide) (by omega) (s37 hz) rfl (Nat.le_of_ble_eq_true rfl) (fun q30 z30 hr30 hi30 hl30 h30 => ?_)
      obtain ⟨e130, e230, e330, rfl, rfl⟩ := h30
      obtain rfl := e130.symm
      obtain rfl := e230.symm
      obtain rfl := e330.symm
      show a_wp G _ _ _ _ [] _ _ _ _ _
      refine a_aload_n (n := 34) dX10_goesOnBehind_33 rfl rfl ?_
      refine a_getR (n := 37) dX10_goesOnBehind_34 rfl fX10_75 (s37 hz) (r37_19 hR) ?_
      refine a_aload_n (n := 38) dX10_goesOnBehind_37 rfl rfl ?_
      refine a_getI (n := 41) dX10_goesOnBehind_38 rfl fX10_228 (s37 hz) ?_
      try simp only [up2_eq, Nat.reduceEqDiff, Int.reduceEq, Int.reduceNeg, and_true, true_and, and_false, false_and, and_self, if_true, if_false, ite_true, ite_false, reduceIte, eq_self]
      refine a_iconst (n := 42) dX10_goesOnBehind_41 rfl ⟨by decide, by decide⟩ ?_
      refine a_iast (n := 43) dX10_goesOnBehind_42 rfl (s48 hz) (by omega) (by omega) ?_
      rw [if_pos c16] at hrun
      exact ih _ (by simp only [up2_eq, mEm, Nat.reduceEqDiff, Int.reduceEq, and_true, true_and, and_false, false_and, and_self, if_true, if_false, reduceIte]; exact hf0) (hT.em.up (by decide) (by decide)) hrun
theorem g_all (hz : stZ z) (hR : stR hr) {N : Nat} {hf : aI} (n : Nat) : n ≤ N → gW G d kd pl nu z hr hl N hf 1 0 n ∧ gW G d kd pl nu z hr hl N hf 2 43 n ∧ gW G d kd pl nu z hr hl N hf 3 96 n ∧ gW G d kd pl nu z hr hl N hf 4 189 n ∧ gW G d kd pl nu z hr hl N hf 5 218 n ∧ gW G d kd pl nu z hr hl N hf 6 249 n := by
  induction n with
  | zero =>
    intro _
    have h0 : ∀ c hi, pRun kd pl nu 0 c hi = some hf → False := fun c hi h => by simp [pRun] at h
    exact ⟨fun _ _ _ h => (h0 _ _ h).elim, fun _ _ _ h => (h0 _ _ h).elim, fun _ _ _ h => (h0 _ _ h).elim, fun _ _ _ h => (h0 _ _ h).elim, fun _ _ _ h => (h0 _ _ h).elim, fun _ _ _ h => (h0 _ _ h).elim⟩
  | succ n ih =>
    intro hN
    obtain ⟨i1, i2, i3, i4, i5, i6⟩ := ih (by omega)
    exact ⟨g_1 hz hR i2, g_2 hz hR (by omega) i3, g_3 hz hR (by omega) i4, g_4 hz hR i5, g_5 hz hR (by omega) i6, g_6 hz hR i1⟩
theorem m_goesOn (hz : stZ z) (hR : stR hr) {hi hf : aI} {n : Nat} (hf0 : hi 37 8 = 0) (hT : tkH kd pl nu hi hl) (hrun : pRun kd pl nu n 1 hi = some hf) : a_ct G mX10_goesOnBehind (d + 2) [vR 37] z hr hi hl (gQ kd pl nu z hr hl n hf) :=
  a_ct_of rfl (Nat.le_of_ble_eq_true rfl) ((g_all hz hR n (Nat.le_refl n)).1 hi hf0 hT hrun)
theorem m_goesOnF (hz : stZ z) (hR : stR hr) {hi : aI} (hf0 : ¬ hi 37 8 = 0) : a_ct G mX10_goesOnBehind (d + 2) [vR 37] z hr hi hl (fun r z' hr' hi' hl' => z' = z ∧ hr' = hr ∧ hl' = hl ∧ r = some (vI 0) ∧ hi' = hi) :=
  a_ct_of rfl (Nat.le_of_ble_eq_true rfl) (g_f hz hR hf0)
end M14
