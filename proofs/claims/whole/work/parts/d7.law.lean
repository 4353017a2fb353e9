/-! the law's cases *) -/
section LAW
variable {G : aG} {d k N : Nat} {xs : Nat → Int32} {z : aZ} {hr : aR} {hi hl : aI} {i : Int} {x5 x6 : Option aV}
def mL_law : aM := (yL_law, cL_law, 7, some .boolean)
abbrev lawL (i : Int) (x5 x6 : Option aV) : List (Option aV) := [some (vR 1000000500), some (vR 0), some (vR 37), some (vR 79), some (vI i), x5, x6]
def lawQ (N : Nat) : Option aV → aZ → aR → aI → aI → Prop := (fun r z' hr' hi' hl' => r = some (vI 1) ∧ ∃ k' : Nat, 7 * (k' : Int) ≤ N + 7 ∧ RR k' z' hr' hi' hl')
set_option maxRecDepth 100000 in
set_option maxHeartbeats 4000000 in
theorem w_156 (hL : gL G N xs) (hN9 : N < 100000) (h : RR k z hr hi hl) (i₀ : 0 ≤ i) (i₁ : i + 7 ≤ N) (ik : i = 7 * (k : Int)) (tl : ∀ {z : aZ} {hr : aR} {hi hl : aI} (x5 x6 : Option aV), RR (k + 1) z hr hi hl → a_wp G mL_law (d + 31) 1289 (lawL i x5 x6) [] z hr hi hl (lawQ N)) : a_wp G mL_law (d + 31) 156 (lawL i x5 x6) [] z hr hi hl (lawQ N) := by
  obtain ⟨hN, hG, hTh, hA, -, hW⟩ := hL
  have hz := h.1.1
  refine a_aload_n (n := 157) dL_law_156 rfl rfl ?_
  refine a_aload_n (n := 158) dL_law_157 rfl rfl ?_
  refine a_iload (n := 160) dL_law_158 rfl rfl ?_
  refine a_iconst (n := 161) dL_law_160 rfl ⟨by decide, by decide⟩ ?_
  refine a_iadd (n := 162) dL_law_161 rfl ⟨by omega, by omega⟩ ?_
  refine a_ialdX (n := 163) dL_law_162 rfl hW (by omega) (by omega) ?_
  refine a_callV (M2 := mX9_days) (n := 166) dL_law_163 rfl (st_days (d := d) h) kX9_days lL_23 iX9_days eX9_days (by decide) (by omega) (s0 hz) rfl (Nat.le_of_ble_eq_true rfl) (fun r₁ z₁ hr₁ hi₁ hl₁ q₁ => ?_)
  obtain ⟨v, rfl, hz₁, C⟩ := q₁
  show a_wp G _ _ _ _ [vI v] _ _ _ _ _
  refine a_aload_n (n := 167) dL_law_166 rfl rfl ?_
  refine a_aload_n (n := 168) dL_law_167 rfl rfl ?_
  refine a_iload (n := 170) dL_law_168 rfl rfl ?_
  refine a_iconst (n := 171) dL_law_170 rfl ⟨by decide, by decide⟩ ?_
  refine a_iadd (n := 172) dL_law_171 rfl ⟨by omega, by omega⟩ ?_
  refine a_ialdX (n := 173) dL_law_172 rfl hW (by omega) (by omega) ?_
  refine a_callV (M2 := mX10_days) (n := 176) dL_law_173 rfl C kX10_days lL_27 iX10_days eX10_days (by decide) (by omega) (s37 hz₁) rfl (Nat.le_of_ble_eq_true rfl) (fun r₂ z₂ hr₂ hi₂ hl₂ q₂ => ?_)
  obtain ⟨rfl, h₂⟩ := q₂
  show a_wp G _ _ _ _ [vI v, vI v] _ _ _ _ _
  refine a_icmp_eq (t := 1289) (n := 179) dL_law_176 rfl rfl (fun _ => tl _ _ h₂) (fun c => absurd rfl c)
set_option maxRecDepth 100000 in
set_option maxHeartbeats 4000000 in
theorem w_181 (hL : gL G N xs) (hN9 : N < 100000) (h : RR k z hr hi hl) (i₀ : 0 ≤ i) (i₁ : i + 7 ≤ N) (ik : i = 7 * (k : Int)) (tl : ∀ {z : aZ} {hr : aR} {hi hl : aI} (x5 x6 : Option aV), RR (k + 1) z hr hi hl → a_wp G mL_law (d + 31) 1289 (lawL i x5 x6) [] z hr hi hl (lawQ N)) : a_wp G mL_law (d + 31) 181 (lawL i x5 x6) [] z hr hi hl (lawQ N) := by
  obtain ⟨hN, hG, hTh, hA, -, hW⟩ := hL
  have hz := h.1.1
  refine a_aload_n (n := 182) dL_law_181 rfl rfl ?_
  refine a_aload_n (n := 183) dL_law_182 rfl rfl ?_
  refine a_iload (n := 185) dL_law_183 rfl rfl ?_
  refine a_iconst (n := 186) dL_law_185 rfl ⟨by decide, by decide⟩ ?_
  refine a_iadd (n := 187) dL_law_186 rfl ⟨by omega, by omega⟩ ?_
  refine a_ialdX (n := 188) dL_law_187 rfl hW (by omega) (by omega) ?_
  refine a_aload_n (n := 189) dL_law_188 rfl rfl ?_
  refine a_iload (n := 191) dL_law_189 rfl rfl ?_
  refine a_iconst (n := 192) dL_law_191 rfl ⟨by decide, by decide⟩ ?_
  refine a_iadd (n := 193) dL_law_192 rfl ⟨by omega, by omega⟩ ?_
  refine a_ialdX (n := 194) dL_law_193 rfl hW (by omega) (by omega) ?_
  refine a_callV (M2 := mX9_wild) (n := 197) dL_law_194 rfl (st_wild (d := d) h (by omega)) kX9_wild lL_28 iX9_wild eX9_wild (by decide) (by omega) (s0 hz) rfl (Nat.le_of_ble_eq_true rfl) (fun r₁ z₁ hr₁ hi₁ hl₁ q₁ => ?_)
  obtain ⟨v, rfl, hz₁, C⟩ := q₁
  show a_wp G _ _ _ _ [vI v] _ _ _ _ _
  refine a_aload_n (n := 198) dL_law_197 rfl rfl ?_
  refine a_aload_n (n := 199) dL_law_198 rfl rfl ?_
  refine a_iload (n := 201) dL_law_199 rfl rfl ?_
  refine a_iconst (n := 202) dL_law_201 rfl ⟨by decide, by decide⟩ ?_
  refine a_iadd (n := 203) dL_law_202 rfl ⟨by omega, by omega⟩ ?_
  refine a_ialdX (n := 204) dL_law_203 rfl hW (by omega) (by omega) ?_
  refine a_aload_n (n := 205) dL_law_204 rfl rfl ?_
  refine a_iload (n := 207) dL_law_205 rfl rfl ?_
  refine a_iconst (n := 208) dL_law_207 rfl ⟨by decide, by decide⟩ ?_
  refine a_iadd (n := 209) dL_law_208 rfl ⟨by omega, by omega⟩ ?_
  refine a_ialdX (n := 210) dL_law_209 rfl hW (by omega) (by omega) ?_
  refine a_callV (M2 := mX10_wild) (n := 213) dL_law_210 rfl C kX10_wild lL_31 iX10_wild eX10_wild (by decide) (by omega) (s37 hz₁) rfl (Nat.le_of_ble_eq_true rfl) (fun r₂ z₂ hr₂ hi₂ hl₂ q₂ => ?_)
  obtain ⟨rfl, h₂⟩ := q₂
  show a_wp G _ _ _ _ [vI v, vI v] _ _ _ _ _
  refine a_icmp_eq (t := 1289) (n := 216) dL_law_213 rfl rfl (fun _ => tl _ _ h₂) (fun c => absurd rfl c)
set_option maxRecDepth 100000 in
set_option maxHeartbeats 4000000 in
theorem w_218 (hL : gL G N xs) (hN9 : N < 100000) (h : RR k z hr hi hl) (i₀ : 0 ≤ i) (i₁ : i + 7 ≤ N) (ik : i = 7 * (k : Int)) (tl : ∀ {z : aZ} {hr : aR} {hi hl : aI} (x5 x6 : Option aV), RR (k + 1) z hr hi hl → a_wp G mL_law (d + 31) 1289 (lawL i x5 x6) [] z hr hi hl (lawQ N)) : a_wp G mL_law (d + 31) 218 (lawL i x5 x6) [] z hr hi hl (lawQ N) := by
  obtain ⟨hN, hG, hTh, hA, -, hW⟩ := hL
  have hz := h.1.1
  refine a_aload_n (n := 219) dL_law_218 rfl rfl ?_
  refine a_aload_n (n := 220) dL_law_219 rfl rfl ?_
  refine a_iload (n := 222) dL_law_220 rfl rfl ?_
  refine a_iconst (n := 223) dL_law_222 rfl ⟨by decide, by decide⟩ ?_
  refine a_iadd (n := 224) dL_law_223 rfl ⟨by omega, by omega⟩ ?_
  refine a_ialdX (n := 225) dL_law_224 rfl hW (by omega) (by omega) ?_
  refine a_aload_n (n := 226) dL_law_225 rfl rfl ?_
  refine a_iload (n := 228) dL_law_226 rfl rfl ?_
  refine a_iconst (n := 229) dL_law_228 rfl ⟨by decide, by decide⟩ ?_
  refine a_iadd (n := 230) dL_law_229 rfl ⟨by omega, by omega⟩ ?_
  refine a_ialdX (n := 231) dL_law_230 rfl hW (by omega) (by omega) ?_
  refine a_aload_n (n := 232) dL_law_231 rfl rfl ?_
  refine a_iload (n := 234) dL_law_232 rfl rfl ?_
  refine a_iconst (n := 235) dL_law_234 rfl ⟨by decide, by decide⟩ ?_
  refine a_iadd (n := 236) dL_law_235 rfl ⟨by omega, by omega⟩ ?_
  refine a_ialdX (n := 237) dL_law_236 rfl hW (by omega) (by omega) ?_
  refine a_callV (M2 := mX9_seed) (n := 240) dL_law_237 rfl (st_seed (d := d) h (by omega)) kX9_seed lL_32 iX9_seed eX9_seed (by decide) (by omega) (s0 hz) rfl (Nat.le_of_ble_eq_true rfl) (fun r₁ z₁ hr₁ hi₁ hl₁ q₁ => ?_)
  obtain ⟨v, rfl, hz₁, C⟩ := q₁
  show a_wp G _ _ _ _ [vI v] _ _ _ _ _
  refine a_aload_n (n := 241) dL_law_240 rfl rfl ?_
  refine a_aload_n (n := 242) dL_law_241 rfl rfl ?_
  refine a_iload (n := 244) dL_law_242 rfl rfl ?_
  refine a_iconst (n := 245) dL_law_244 rfl ⟨by decide, by decide⟩ ?_
  refine a_iadd (n := 246) dL_law_245 rfl ⟨by omega, by omega⟩ ?_
  refine a_ialdX (n := 247) dL_law_246 rfl hW (by omega) (by omega) ?_
  refine a_aload_n (n := 248) dL_law_247 rfl rfl ?_
  refine a_iload (n := 250) dL_law_248 rfl rfl ?_
  refine a_iconst (n := 251) dL_law_250 rfl ⟨by decide, by decide⟩ ?_
  refine a_iadd (n := 252) dL_law_251 rfl ⟨by omega, by omega⟩ ?_
  refine a_ialdX (n := 253) dL_law_252 rfl hW (by omega) (by omega) ?_
  refine a_aload_n (n := 254) dL_law_253 rfl rfl ?_
  refine a_iload (n := 256) dL_law_254 rfl rfl ?_
  refine a_iconst (n := 257) dL_law_256 rfl ⟨by decide, by decide⟩ ?_
  refine a_iadd (n := 258) dL_law_257 rfl ⟨by omega, by omega⟩ ?_
  refine a_ialdX (n := 259) dL_law_258 rfl hW (by omega) (by omega) ?_
  refine a_callV (M2 := mX10_seed) (n := 262) dL_law_259 rfl C kX10_seed lL_35 iX10_seed eX10_seed (by decide) (by omega) (s37 hz₁) rfl (Nat.le_of_ble_eq_true rfl) (fun r₂ z₂ hr₂ hi₂ hl₂ q₂ => ?_)
  obtain ⟨rfl, h₂⟩ := q₂
  show a_wp G _ _ _ _ [vI v, vI v] _ _ _ _ _
  refine a_icmp_eq (t := 1289) (n := 265) dL_law_262 rfl rfl (fun _ => tl _ _ h₂) (fun c => absurd rfl c)
set_option maxRecDepth 100000 in
set_option maxHeartbeats 4000000 in
theorem w_267 (hL : gL G N xs) (hN9 : N < 100000) (h : RR k z hr hi hl) (i₀ : 0 ≤ i) (i₁ : i + 7 ≤ N) (ik : i = 7 * (k : Int)) (tl : ∀ {z : aZ} {hr : aR} {hi hl : aI} (x5 x6 : Option aV), RR (k + 1) z hr hi hl → a_wp G mL_law (d + 31) 1289 (lawL i x5 x6) [] z hr hi hl (lawQ N)) : a_wp G mL_law (d + 31) 267 (lawL i x5 x6) [] z hr hi hl (lawQ N) := by
  obtain ⟨hN, hG, hTh, hA, -, hW⟩ := hL
  have hz := h.1.1
  refine a_aload_n (n := 268) dL_law_267 rfl rfl ?_
  refine a_aload_n (n := 269) dL_law_268 rfl rfl ?_
  refine a_iload (n := 271) dL_law_269 rfl rfl ?_
  refine a_iconst (n := 272) dL_law_271 rfl ⟨by decide, by decide⟩ ?_
  refine a_iadd (n := 273) dL_law_272 rfl ⟨by omega, by omega⟩ ?_
  refine a_ialdX (n := 274) dL_law_273 rfl hW (by omega) (by omega) ?_
  refine a_aload_n (n := 275) dL_law_274 rfl rfl ?_
  refine a_iload (n := 277) dL_law_275 rfl rfl ?_
  refine a_iconst (n := 278) dL_law_277 rfl ⟨by decide, by decide⟩ ?_
  refine a_iadd (n := 279) dL_law_278 rfl ⟨by omega, by omega⟩ ?_
  refine a_ialdX (n := 280) dL_law_279 rfl hW (by omega) (by omega) ?_
  refine a_callV (M2 := mX9_cut) (n := 283) dL_law_280 rfl (st_cut (d := d) h (by omega)) kX9_cut lL_36 iX9_cut eX9_cut (by decide) (by omega) (s0 hz) rfl (Nat.le_of_ble_eq_true rfl) (fun r₁ z₁ hr₁ hi₁ hl₁ q₁ => ?_)
  obtain ⟨v, rfl, hz₁, C⟩ := q₁
  show a_wp G _ _ _ _ [vI v] _ _ _ _ _
  refine a_aload_n (n := 284) dL_law_283 rfl rfl ?_
  refine a_aload_n (n := 285) dL_law_284 rfl rfl ?_
  refine a_iload (n := 287) dL_law_285 rfl rfl ?_
  refine a_iconst (n := 288) dL_law_287 rfl ⟨by decide, by decide⟩ ?_
  refine a_iadd (n := 289) dL_law_288 rfl ⟨by omega, by omega⟩ ?_
  refine a_ialdX (n := 290) dL_law_289 rfl hW (by omega) (by omega) ?_
  refine a_aload_n (n := 291) dL_law_290 rfl rfl ?_
  refine a_iload (n := 293) dL_law_291 rfl rfl ?_
  refine a_iconst (n := 294) dL_law_293 rfl ⟨by decide, by decide⟩ ?_
  refine a_iadd (n := 295) dL_law_294 rfl ⟨by omega, by omega⟩ ?_
  refine a_ialdX (n := 296) dL_law_295 rfl hW (by omega) (by omega) ?_
  refine a_callV (M2 := mX10_cut) (n := 299) dL_law_296 rfl C kX10_cut lL_39 iX10_cut eX10_cut (by decide) (by omega) (s37 hz₁) rfl (Nat.le_of_ble_eq_true rfl) (fun r₂ z₂ hr₂ hi₂ hl₂ q₂ => ?_)
  obtain ⟨rfl, h₂⟩ := q₂
  show a_wp G _ _ _ _ [vI v, vI v] _ _ _ _ _
  refine a_icmp_eq (t := 1289) (n := 302) dL_law_299 rfl rfl (fun _ => tl _ _ h₂) (fun c => absurd rfl c)
set_option maxRecDepth 100000 in
set_option maxHeartbeats 4000000 in
theorem w_304 (hL : gL G N xs) (hN9 : N < 100000) (h : RR k z hr hi hl) (i₀ : 0 ≤ i) (i₁ : i + 7 ≤ N) (ik : i = 7 * (k : Int)) (tl : ∀ {z : aZ} {hr : aR} {hi hl : aI} (x5 x6 : Option aV), RR (k + 1) z hr hi hl → a_wp G mL_law (d + 31) 1289 (lawL i x5 x6) [] z hr hi hl (lawQ N)) : a_wp G mL_law (d + 31) 304 (lawL i x5 x6) [] z hr hi hl (lawQ N) := by
  obtain ⟨hN, hG, hTh, hA, -, hW⟩ := hL
  have hz := h.1.1
  refine a_aload_n (n := 305) dL_law_304 rfl rfl ?_
  refine a_aload_n (n := 306) dL_law_305 rfl rfl ?_
  refine a_iload (n := 308) dL_law_306 rfl rfl ?_
  refine a_iconst (n := 309) dL_law_308 rfl ⟨by decide, by decide⟩ ?_
  refine a_iadd (n := 310) dL_law_309 rfl ⟨by omega, by omega⟩ ?_
  refine a_ialdX (n := 311) dL_law_310 rfl hW (by omega) (by omega) ?_
  refine a_aload_n (n := 312) dL_law_311 rfl rfl ?_
  refine a_iload (n := 314) dL_law_312 rfl rfl ?_
  refine a_iconst (n := 315) dL_law_314 rfl ⟨by decide, by decide⟩ ?_
  refine a_iadd (n := 316) dL_law_315 rfl ⟨by omega, by omega⟩ ?_
  refine a_ialdX (n := 317) dL_law_316 rfl hW (by omega) (by omega) ?_
  refine a_callV (M2 := mX9_split) (n := 320) dL_law_317 rfl (st_split (d := d) h (by omega)) kX9_split lL_40 iX9_split eX9_split (by decide) (by omega) (s0 hz) rfl (Nat.le_of_ble_eq_true rfl) (fun r₁ z₁ hr₁ hi₁ hl₁ q₁ => ?_)
  obtain ⟨v, rfl, hz₁, C⟩ := q₁
  show a_wp G _ _ _ _ [vI v] _ _ _ _ _
  refine a_aload_n (n := 321) dL_law_320 rfl rfl ?_
  refine a_aload_n (n := 322) dL_law_321 rfl rfl ?_
  refine a_iload (n := 324) dL_law_322 rfl rfl ?_
  refine a_iconst (n := 325) dL_law_324 rfl ⟨by decide, by decide⟩ ?_
  refine a_iadd (n := 326) dL_law_325 rfl ⟨by omega, by omega⟩ ?_
  refine a_ialdX (n := 327) dL_law_326 rfl hW (by omega) (by omega) ?_
  refine a_aload_n (n := 328) dL_law_327 rfl rfl ?_
  refine a_iload (n := 330) dL_law_328 rfl rfl ?_
  refine a_iconst (n := 331) dL_law_330 rfl ⟨by decide, by decide⟩ ?_
  refine a_iadd (n := 332) dL_law_331 rfl ⟨by omega, by omega⟩ ?_
  refine a_ialdX (n := 333) dL_law_332 rfl hW (by omega) (by omega) ?_
  refine a_callV (M2 := mX10_split) (n := 336) dL_law_333 rfl C kX10_split lL_43 iX10_split eX10_split (by decide) (by omega) (s37 hz₁) rfl (Nat.le_of_ble_eq_true rfl) (fun r₂ z₂ hr₂ hi₂ hl₂ q₂ => ?_)
  obtain ⟨rfl, h₂⟩ := q₂
  show a_wp G _ _ _ _ [vI v, vI v] _ _ _ _ _
  refine a_icmp_eq (t := 1289) (n := 339) dL_law_336 rfl rfl (fun _ => tl _ _ h₂) (fun c => absurd rfl c)
set_option maxRecDepth 100000 in
set_option maxHeartbeats 4000000 in
theorem w_341 (hL : gL G N xs) (hN9 : N < 100000) (h : RR k z hr hi hl) (i₀ : 0 ≤ i) (i₁ : i + 7 ≤ N) (ik : i = 7 * (k : Int)) (tl : ∀ {z : aZ} {hr : aR} {hi hl : aI} (x5 x6 : Option aV), RR (k + 1) z hr hi hl → a_wp G mL_law (d + 31) 1289 (lawL i x5 x6) [] z hr hi hl (lawQ N)) : a_wp G mL_law (d + 31) 341 (lawL i x5 x6) [] z hr hi hl (lawQ N) := by
  obtain ⟨hN, hG, hTh, hA, -, hW⟩ := hL
  have hz := h.1.1
  refine a_aload_n (n := 342) dL_law_341 rfl rfl ?_
  refine a_aload_n (n := 343) dL_law_342 rfl rfl ?_
  refine a_iload (n := 345) dL_law_343 rfl rfl ?_
  refine a_iconst (n := 346) dL_law_345 rfl ⟨by decide, by decide⟩ ?_
  refine a_iadd (n := 347) dL_law_346 rfl ⟨by omega, by omega⟩ ?_
  refine a_ialdX (n := 348) dL_law_347 rfl hW (by omega) (by omega) ?_
  refine a_aload_n (n := 349) dL_law_348 rfl rfl ?_
  refine a_iload (n := 351) dL_law_349 rfl rfl ?_
  refine a_iconst (n := 352) dL_law_351 rfl ⟨by decide, by decide⟩ ?_
  refine a_iadd (n := 353) dL_law_352 rfl ⟨by omega, by omega⟩ ?_
  refine a_ialdX (n := 354) dL_law_353 rfl hW (by omega) (by omega) ?_
  refine a_aload_n (n := 355) dL_law_354 rfl rfl ?_
  refine a_iload (n := 357) dL_law_355 rfl rfl ?_
  refine a_iconst (n := 358) dL_law_357 rfl ⟨by decide, by decide⟩ ?_
  refine a_iadd (n := 359) dL_law_358 rfl ⟨by omega, by omega⟩ ?_
  refine a_ialdX (n := 360) dL_law_359 rfl hW (by omega) (by omega) ?_
  refine a_aload_n (n := 361) dL_law_360 rfl rfl ?_
  refine a_iload (n := 363) dL_law_361 rfl rfl ?_
  refine a_iconst (n := 364) dL_law_363 rfl ⟨by decide, by decide⟩ ?_
  refine a_iadd (n := 365) dL_law_364 rfl ⟨by omega, by omega⟩ ?_
  refine a_ialdX (n := 366) dL_law_365 rfl hW (by omega) (by omega) ?_
  refine a_callV (M2 := mX9_mark) (n := 369) dL_law_366 rfl (st_mark (d := d) h) kX9_mark lL_44 iX9_mark eX9_mark (by decide) (by omega) (s0 hz) rfl (Nat.le_of_ble_eq_true rfl) (fun r₁ z₁ hr₁ hi₁ hl₁ q₁ => ?_)
  obtain ⟨v, rfl, hz₁, C⟩ := q₁
  show a_wp G _ _ _ _ [vI v] _ _ _ _ _
  refine a_aload_n (n := 370) dL_law_369 rfl rfl ?_
  refine a_aload_n (n := 371) dL_law_370 rfl rfl ?_
  refine a_iload (n := 373) dL_law_371 rfl rfl ?_
  refine a_iconst (n := 374) dL_law_373 rfl ⟨by decide, by decide⟩ ?_
  refine a_iadd (n := 375) dL_law_374 rfl ⟨by omega, by omega⟩ ?_
  refine a_ialdX (n := 376) dL_law_375 rfl hW (by omega) (by omega) ?_
  refine a_aload_n (n := 377) dL_law_376 rfl rfl ?_
  refine a_iload (n := 379) dL_law_377 rfl rfl ?_
  refine a_iconst (n := 380) dL_law_379 rfl ⟨by decide, by decide⟩ ?_
  refine a_iadd (n := 381) dL_law_380 rfl ⟨by omega, by omega⟩ ?_
  refine a_ialdX (n := 382) dL_law_381 rfl hW (by omega) (by omega) ?_
  refine a_aload_n (n := 383) dL_law_382 rfl rfl ?_
  refine a_iload (n := 385) dL_law_383 rfl rfl ?_
  refine a_iconst (n := 386) dL_law_385 rfl ⟨by decide, by decide⟩ ?_
  refine a_iadd (n := 387) dL_law_386 rfl ⟨by omega, by omega⟩ ?_
  refine a_ialdX (n := 388) dL_law_387 rfl hW (by omega) (by omega) ?_
  refine a_aload_n (n := 389) dL_law_388 rfl rfl ?_
  refine a_iload (n := 391) dL_law_389 rfl rfl ?_
  refine a_iconst (n := 392) dL_law_391 rfl ⟨by decide, by decide⟩ ?_
  refine a_iadd (n := 393) dL_law_392 rfl ⟨by omega, by omega⟩ ?_
  refine a_ialdX (n := 394) dL_law_393 rfl hW (by omega) (by omega) ?_
  refine a_callV (M2 := mX10_mark) (n := 397) dL_law_394 rfl C kX10_mark lL_48 iX10_mark eX10_mark (by decide) (by omega) (s37 hz₁) rfl (Nat.le_of_ble_eq_true rfl) (fun r₂ z₂ hr₂ hi₂ hl₂ q₂ => ?_)
  obtain ⟨rfl, h₂⟩ := q₂
  show a_wp G _ _ _ _ [vI v, vI v] _ _ _ _ _
  refine a_icmp_eq (t := 1289) (n := 400) dL_law_397 rfl rfl (fun _ => tl _ _ h₂) (fun c => absurd rfl c)
set_option maxRecDepth 100000 in
set_option maxHeartbeats 4000000 in
theorem w_402 (hL : gL G N xs) (hN9 : N < 100000) (h : RR k z hr hi hl) (i₀ : 0 ≤ i) (i₁ : i + 7 ≤ N) (ik : i = 7 * (k : Int)) (tl : ∀ {z : aZ} {hr : aR} {hi hl : aI} (x5 x6 : Option aV), RR (k + 1) z hr hi hl → a_wp G mL_law (d + 31) 1289 (lawL i x5 x6) [] z hr hi hl (lawQ N)) : a_wp G mL_law (d + 31) 402 (lawL i x5 x6) [] z hr hi hl (lawQ N) := by
  obtain ⟨hN, hG, hTh, hA, -, hW⟩ := hL
  have hz := h.1.1
  refine a_aload_n (n := 403) dL_law_402 rfl rfl ?_
  refine a_aload_n (n := 404) dL_law_403 rfl rfl ?_
  refine a_iload (n := 406) dL_law_404 rfl rfl ?_
  refine a_iconst (n := 407) dL_law_406 rfl ⟨by decide, by decide⟩ ?_
  refine a_iadd (n := 408) dL_law_407 rfl ⟨by omega, by omega⟩ ?_
  refine a_ialdX (n := 409) dL_law_408 rfl hW (by omega) (by omega) ?_
  refine a_aload_n (n := 410) dL_law_409 rfl rfl ?_
  refine a_iload (n := 412) dL_law_410 rfl rfl ?_
  refine a_iconst (n := 413) dL_law_412 rfl ⟨by decide, by decide⟩ ?_
  refine a_iadd (n := 414) dL_law_413 rfl ⟨by omega, by omega⟩ ?_
  refine a_ialdX (n := 415) dL_law_414 rfl hW (by omega) (by omega) ?_
  refine a_callV (M2 := mX9_name) (n := 418) dL_law_415 rfl (st_name (d := d) h) kX9_name lL_49 iX9_name eX9_name (by decide) (by omega) (s0 hz) rfl (Nat.le_of_ble_eq_true rfl) (fun r₁ z₁ hr₁ hi₁ hl₁ q₁ => ?_)
  obtain ⟨v, rfl, hz₁, C⟩ := q₁
  show a_wp G _ _ _ _ [vI v] _ _ _ _ _
  refine a_aload_n (n := 419) dL_law_418 rfl rfl ?_
  refine a_aload_n (n := 420) dL_law_419 rfl rfl ?_
  refine a_iload (n := 422) dL_law_420 rfl rfl ?_
  refine a_iconst (n := 423) dL_law_422 rfl ⟨by decide, by decide⟩ ?_
  refine a_iadd (n := 424) dL_law_423 rfl ⟨by omega, by omega⟩ ?_
  refine a_ialdX (n := 425) dL_law_424 rfl hW (by omega) (by omega) ?_
  refine a_aload_n (n := 426) dL_law_425 rfl rfl ?_
  refine a_iload (n := 428) dL_law_426 rfl rfl ?_
  refine a_iconst (n := 429) dL_law_428 rfl ⟨by decide, by decide⟩ ?_
  refine a_iadd (n := 430) dL_law_429 rfl ⟨by omega, by omega⟩ ?_
  refine a_ialdX (n := 431) dL_law_430 rfl hW (by omega) (by omega) ?_
  refine a_callV (M2 := mX10_name) (n := 434) dL_law_431 rfl C kX10_name lL_53 iX10_name eX10_name (by decide) (by omega) (s37 hz₁) rfl (Nat.le_of_ble_eq_true rfl) (fun r₂ z₂ hr₂ hi₂ hl₂ q₂ => ?_)
  obtain ⟨rfl, h₂⟩ := q₂
  show a_wp G _ _ _ _ [vI v, vI v] _ _ _ _ _
  refine a_icmp_eq (t := 1289) (n := 437) dL_law_434 rfl rfl (fun _ => tl _ _ h₂) (fun c => absurd rfl c)
set_option maxRecDepth 100000 in
set_option maxHeartbeats 4000000 in
theorem w_439 (hL : gL G N xs) (hN9 : N < 100000) (h : RR k z hr hi hl) (i₀ : 0 ≤ i) (i₁ : i + 7 ≤ N) (ik : i = 7 * (k : Int)) (tl : ∀ {z : aZ} {hr : aR} {hi hl : aI} (x5 x6 : Option aV), RR (k + 1) z hr hi hl → a_wp G mL_law (d + 31) 1289 (lawL i x5 x6) [] z hr hi hl (lawQ N)) : a_wp G mL_law (d + 31) 439 (lawL i x5 x6) [] z hr hi hl (lawQ N) := by
  obtain ⟨hN, hG, hTh, hA, -, hW⟩ := hL
  have hz := h.1.1
  refine a_aload_n (n := 440) dL_law_439 rfl rfl ?_
  refine a_aload_n (n := 441) dL_law_440 rfl rfl ?_
  refine a_iload (n := 443) dL_law_441 rfl rfl ?_
  refine a_iconst (n := 444) dL_law_443 rfl ⟨by decide, by decide⟩ ?_
  refine a_iadd (n := 445) dL_law_444 rfl ⟨by omega, by omega⟩ ?_
  refine a_ialdX (n := 446) dL_law_445 rfl hW (by omega) (by omega) ?_
  refine a_aload_n (n := 447) dL_law_446 rfl rfl ?_
  refine a_iload (n := 449) dL_law_447 rfl rfl ?_
  refine a_iconst (n := 450) dL_law_449 rfl ⟨by decide, by decide⟩ ?_
  refine a_iadd (n := 451) dL_law_450 rfl ⟨by omega, by omega⟩ ?_
  refine a_ialdX (n := 452) dL_law_451 rfl hW (by omega) (by omega) ?_
  refine a_callV (M2 := mX9_join) (n := 455) dL_law_452 rfl (st_join (d := d) h) kX9_join lL_54 iX9_join eX9_join (by decide) (by omega) (s0 hz) rfl (Nat.le_of_ble_eq_true rfl) (fun r₁ z₁ hr₁ hi₁ hl₁ q₁ => ?_)
  obtain ⟨v, rfl, hz₁, C⟩ := q₁
  show a_wp G _ _ _ _ [vI v] _ _ _ _ _
  refine a_aload_n (n := 456) dL_law_455 rfl rfl ?_
  refine a_aload_n (n := 457) dL_law_456 rfl rfl ?_
  refine a_iload (n := 459) dL_law_457 rfl rfl ?_
  refine a_iconst (n := 460) dL_law_459 rfl ⟨by decide, by decide⟩ ?_
  refine a_iadd (n := 461) dL_law_460 rfl ⟨by omega, by omega⟩ ?_
  refine a_ialdX (n := 462) dL_law_461 rfl hW (by omega) (by omega) ?_
  refine a_aload_n (n := 463) dL_law_462 rfl rfl ?_
  refine a_iload (n := 465) dL_law_463 rfl rfl ?_
  refine a_iconst (n := 466) dL_law_465 rfl ⟨by decide, by decide⟩ ?_
  refine a_iadd (n := 467) dL_law_466 rfl ⟨by omega, by omega⟩ ?_
  refine a_ialdX (n := 468) dL_law_467 rfl hW (by omega) (by omega) ?_
  refine a_callV (M2 := mX10_join) (n := 471) dL_law_468 rfl C kX10_join lL_57 iX10_join eX10_join (by decide) (by omega) (s37 hz₁) rfl (Nat.le_of_ble_eq_true rfl) (fun r₂ z₂ hr₂ hi₂ hl₂ q₂ => ?_)
  obtain ⟨rfl, h₂⟩ := q₂
  show a_wp G _ _ _ _ [vI v, vI v] _ _ _ _ _
  refine a_icmp_eq (t := 1289) (n := 474) dL_law_471 rfl rfl (fun _ => tl _ _ h₂) (fun c => absurd rfl c)
set_option maxRecDepth 100000 in
set_option maxHeartbeats 4000000 in
theorem w_556 (hL : gL G N xs) (hN9 : N < 100000) (h : RR k z hr hi hl) (i₀ : 0 ≤ i) (i₁ : i + 7 ≤ N) (ik : i = 7 * (k : Int)) (tl : ∀ {z : aZ} {hr : aR} {hi hl : aI} (x5 x6 : Option aV), RR (k + 1) z hr hi hl → a_wp G mL_law (d + 31) 1289 (lawL i x5 x6) [] z hr hi hl (lawQ N)) : a_wp G mL_law (d + 31) 556 (lawL i x5 x6) [] z hr hi hl (lawQ N) := by
  obtain ⟨hN, hG, hTh, hA, -, hW⟩ := hL
  have hz := h.1.1
  refine a_aload_n (n := 557) dL_law_556 rfl rfl ?_
  refine a_aload_n (n := 558) dL_law_557 rfl rfl ?_
  refine a_iload (n := 560) dL_law_558 rfl rfl ?_
  refine a_iconst (n := 561) dL_law_560 rfl ⟨by decide, by decide⟩ ?_
  refine a_iadd (n := 562) dL_law_561 rfl ⟨by omega, by omega⟩ ?_
  refine a_ialdX (n := 563) dL_law_562 rfl hW (by omega) (by omega) ?_
  refine a_aload_n (n := 564) dL_law_563 rfl rfl ?_
  refine a_iload (n := 566) dL_law_564 rfl rfl ?_
  refine a_iconst (n := 567) dL_law_566 rfl ⟨by decide, by decide⟩ ?_
  refine a_iadd (n := 568) dL_law_567 rfl ⟨by omega, by omega⟩ ?_
  refine a_ialdX (n := 569) dL_law_568 rfl hW (by omega) (by omega) ?_
  refine a_aload_n (n := 570) dL_law_569 rfl rfl ?_
  refine a_iload (n := 572) dL_law_570 rfl rfl ?_
  refine a_iconst (n := 573) dL_law_572 rfl ⟨by decide, by decide⟩ ?_
  refine a_iadd (n := 574) dL_law_573 rfl ⟨by omega, by omega⟩ ?_
  refine a_ialdX (n := 575) dL_law_574 rfl hW (by omega) (by omega) ?_
  refine a_callV (M2 := mX9_bed) (n := 578) dL_law_575 rfl (st_bed (d := d) h (by omega)) kX9_bed lL_68 iX9_bed eX9_bed (by decide) (by omega) (s0 hz) rfl (Nat.le_of_ble_eq_true rfl) (fun r₁ z₁ hr₁ hi₁ hl₁ q₁ => ?_)
  obtain ⟨v, rfl, hz₁, C⟩ := q₁
  show a_wp G _ _ _ _ [vI v] _ _ _ _ _
  refine a_aload_n (n := 579) dL_law_578 rfl rfl ?_
  refine a_aload_n (n := 580) dL_law_579 rfl rfl ?_
  refine a_iload (n := 582) dL_law_580 rfl rfl ?_
  refine a_iconst (n := 583) dL_law_582 rfl ⟨by decide, by decide⟩ ?_
  refine a_iadd (n := 584) dL_law_583 rfl ⟨by omega, by omega⟩ ?_
  refine a_ialdX (n := 585) dL_law_584 rfl hW (by omega) (by omega) ?_
  refine a_aload_n (n := 586) dL_law_585 rfl rfl ?_
  refine a_iload (n := 588) dL_law_586 rfl rfl ?_
  refine a_iconst (n := 589) dL_law_588 rfl ⟨by decide, by decide⟩ ?_
  refine a_iadd (n := 590) dL_law_589 rfl ⟨by omega, by omega⟩ ?_
  refine a_ialdX (n := 591) dL_law_590 rfl hW (by omega) (by omega) ?_
  refine a_aload_n (n := 592) dL_law_591 rfl rfl ?_
  refine a_iload (n := 594) dL_law_592 rfl rfl ?_
  refine a_iconst (n := 595) dL_law_594 rfl ⟨by decide, by decide⟩ ?_
  refine a_iadd (n := 596) dL_law_595 rfl ⟨by omega, by omega⟩ ?_
  refine a_ialdX (n := 597) dL_law_596 rfl hW (by omega) (by omega) ?_
  refine a_callV (M2 := mX10_bed) (n := 600) dL_law_597 rfl C kX10_bed lL_71 iX10_bed eX10_bed (by decide) (by omega) (s37 hz₁) rfl (Nat.le_of_ble_eq_true rfl) (fun r₂ z₂ hr₂ hi₂ hl₂ q₂ => ?_)
  obtain ⟨rfl, h₂⟩ := q₂
  show a_wp G _ _ _ _ [vI v, vI v] _ _ _ _ _
  refine a_icmp_eq (t := 1289) (n := 603) dL_law_600 rfl rfl (fun _ => tl _ _ h₂) (fun c => absurd rfl c)
set_option maxRecDepth 100000 in
set_option maxHeartbeats 4000000 in
theorem w_605 (hL : gL G N xs) (hN9 : N < 100000) (h : RR k z hr hi hl) (i₀ : 0 ≤ i) (i₁ : i + 7 ≤ N) (ik : i = 7 * (k : Int)) (tl : ∀ {z : aZ} {hr : aR} {hi hl : aI} (x5 x6 : Option aV), RR (k + 1) z hr hi hl → a_wp G mL_law (d + 31) 1289 (lawL i x5 x6) [] z hr hi hl (lawQ N)) : a_wp G mL_law (d + 31) 605 (lawL i x5 x6) [] z hr hi hl (lawQ N) := by
  obtain ⟨hN, hG, hTh, hA, -, hW⟩ := hL
  have hz := h.1.1
  refine a_aload_n (n := 606) dL_law_605 rfl rfl ?_
  refine a_aload_n (n := 607) dL_law_606 rfl rfl ?_
  refine a_iload (n := 609) dL_law_607 rfl rfl ?_
  refine a_iconst (n := 610) dL_law_609 rfl ⟨by decide, by decide⟩ ?_
  refine a_iadd (n := 611) dL_law_610 rfl ⟨by omega, by omega⟩ ?_
  refine a_ialdX (n := 612) dL_law_611 rfl hW (by omega) (by omega) ?_
  refine a_aload_n (n := 613) dL_law_612 rfl rfl ?_
  refine a_iload (n := 615) dL_law_613 rfl rfl ?_
  refine a_iconst (n := 616) dL_law_615 rfl ⟨by decide, by decide⟩ ?_
  refine a_iadd (n := 617) dL_law_616 rfl ⟨by omega, by omega⟩ ?_
  refine a_ialdX (n := 618) dL_law_617 rfl hW (by omega) (by omega) ?_
  refine a_aload_n (n := 619) dL_law_618 rfl rfl ?_
  refine a_iload (n := 621) dL_law_619 rfl rfl ?_
  refine a_iconst (n := 622) dL_law_621 rfl ⟨by decide, by decide⟩ ?_
  refine a_iadd (n := 623) dL_law_622 rfl ⟨by omega, by omega⟩ ?_
  refine a_ialdX (n := 624) dL_law_623 rfl hW (by omega) (by omega) ?_
  refine a_callV (M2 := mX9_change) (n := 627) dL_law_624 rfl (st_change (d := d) h) kX9_change lL_72 iX9_change eX9_change (by decide) (by omega) (s0 hz) rfl (Nat.le_of_ble_eq_true rfl) (fun r₁ z₁ hr₁ hi₁ hl₁ q₁ => ?_)
  obtain ⟨v, rfl, hz₁, C⟩ := q₁
  show a_wp G _ _ _ _ [vI v] _ _ _ _ _
  refine a_aload_n (n := 628) dL_law_627 rfl rfl ?_
  refine a_aload_n (n := 629) dL_law_628 rfl rfl ?_
  refine a_iload (n := 631) dL_law_629 rfl rfl ?_
  refine a_iconst (n := 632) dL_law_631 rfl ⟨by decide, by decide⟩ ?_
  refine a_iadd (n := 633) dL_law_632 rfl ⟨by omega, by omega⟩ ?_
  refine a_ialdX (n := 634) dL_law_633 rfl hW (by omega) (by omega) ?_
  refine a_aload_n (n := 635) dL_law_634 rfl rfl ?_
  refine a_iload (n := 637) dL_law_635 rfl rfl ?_
  refine a_iconst (n := 638) dL_law_637 rfl ⟨by decide, by decide⟩ ?_
  refine a_iadd (n := 639) dL_law_638 rfl ⟨by omega, by omega⟩ ?_
  refine a_ialdX (n := 640) dL_law_639 rfl hW (by omega) (by omega) ?_
  refine a_aload_n (n := 641) dL_law_640 rfl rfl ?_
  refine a_iload (n := 643) dL_law_641 rfl rfl ?_
  refine a_iconst (n := 644) dL_law_643 rfl ⟨by decide, by decide⟩ ?_
  refine a_iadd (n := 645) dL_law_644 rfl ⟨by omega, by omega⟩ ?_
  refine a_ialdX (n := 646) dL_law_645 rfl hW (by omega) (by omega) ?_
  refine a_callV (M2 := mX10_change) (n := 649) dL_law_646 rfl C kX10_change lL_76 iX10_change eX10_change (by decide) (by omega) (s37 hz₁) rfl (Nat.le_of_ble_eq_true rfl) (fun r₂ z₂ hr₂ hi₂ hl₂ q₂ => ?_)
  obtain ⟨rfl, h₂⟩ := q₂
  show a_wp G _ _ _ _ [vI v, vI v] _ _ _ _ _
  refine a_icmp_eq (t := 1289) (n := 652) dL_law_649 rfl rfl (fun _ => tl _ _ h₂) (fun c => absurd rfl c)
set_option maxRecDepth 100000 in
set_option maxHeartbeats 4000000 in
theorem w_654 (hL : gL G N xs) (hN9 : N < 100000) (h : RR k z hr hi hl) (i₀ : 0 ≤ i) (i₁ : i + 7 ≤ N) (ik : i = 7 * (k : Int)) (tl : ∀ {z : aZ} {hr : aR} {hi hl : aI} (x5 x6 : Option aV), RR (k + 1) z hr hi hl → a_wp G mL_law (d + 31) 1289 (lawL i x5 x6) [] z hr hi hl (lawQ N)) : a_wp G mL_law (d + 31) 654 (lawL i x5 x6) [] z hr hi hl (lawQ N) := by
  obtain ⟨hN, hG, hTh, hA, -, hW⟩ := hL
  have hz := h.1.1
  refine a_aload_n (n := 655) dL_law_654 rfl rfl ?_
  refine a_aload_n (n := 656) dL_law_655 rfl rfl ?_
  refine a_iload (n := 658) dL_law_656 rfl rfl ?_
  refine a_iconst (n := 659) dL_law_658 rfl ⟨by decide, by decide⟩ ?_
  refine a_iadd (n := 660) dL_law_659 rfl ⟨by omega, by omega⟩ ?_
  refine a_ialdX (n := 661) dL_law_660 rfl hW (by omega) (by omega) ?_
  refine a_aload_n (n := 662) dL_law_661 rfl rfl ?_
  refine a_iload (n := 664) dL_law_662 rfl rfl ?_
  refine a_iconst (n := 665) dL_law_664 rfl ⟨by decide, by decide⟩ ?_
  refine a_iadd (n := 666) dL_law_665 rfl ⟨by omega, by omega⟩ ?_
  refine a_ialdX (n := 667) dL_law_666 rfl hW (by omega) (by omega) ?_
  refine a_aload_n (n := 668) dL_law_667 rfl rfl ?_
  refine a_iload (n := 670) dL_law_668 rfl rfl ?_
  refine a_iconst (n := 671) dL_law_670 rfl ⟨by decide, by decide⟩ ?_
  refine a_iadd (n := 672) dL_law_671 rfl ⟨by omega, by omega⟩ ?_
  refine a_ialdX (n := 673) dL_law_672 rfl hW (by omega) (by omega) ?_
  refine a_aload_n (n := 674) dL_law_673 rfl rfl ?_
  refine a_iload (n := 676) dL_law_674 rfl rfl ?_
  refine a_iconst (n := 677) dL_law_676 rfl ⟨by decide, by decide⟩ ?_
  refine a_iadd (n := 678) dL_law_677 rfl ⟨by omega, by omega⟩ ?_
  refine a_ialdX (n := 679) dL_law_678 rfl hW (by omega) (by omega) ?_
  refine a_aload_n (n := 680) dL_law_679 rfl rfl ?_
  refine a_iload (n := 682) dL_law_680 rfl rfl ?_
  refine a_iconst (n := 683) dL_law_682 rfl ⟨by decide, by decide⟩ ?_
  refine a_iadd (n := 684) dL_law_683 rfl ⟨by omega, by omega⟩ ?_
  refine a_ialdX (n := 685) dL_law_684 rfl hW (by omega) (by omega) ?_
  refine a_callV (M2 := mX9_needs) (n := 688) dL_law_685 rfl (st_needs (d := d) h) kX9_needs lL_77 iX9_needs eX9_needs (by decide) (by omega) (s0 hz) rfl (Nat.le_of_ble_eq_true rfl) (fun r₁ z₁ hr₁ hi₁ hl₁ q₁ => ?_)
  obtain ⟨v, rfl, hz₁, C⟩ := q₁
  show a_wp G _ _ _ _ [vI v] _ _ _ _ _
  refine a_aload_n (n := 689) dL_law_688 rfl rfl ?_
  refine a_aload_n (n := 690) dL_law_689 rfl rfl ?_
  refine a_iload (n := 692) dL_law_690 rfl rfl ?_
  refine a_iconst (n := 693) dL_law_692 rfl ⟨by decide, by decide⟩ ?_
  refine a_iadd (n := 694) dL_law_693 rfl ⟨by omega, by omega⟩ ?_
  refine a_ialdX (n := 695) dL_law_694 rfl hW (by omega) (by omega) ?_
  refine a_aload_n (n := 696) dL_law_695 rfl rfl ?_
  refine a_iload (n := 698) dL_law_696 rfl rfl ?_
  refine a_iconst (n := 699) dL_law_698 rfl ⟨by decide, by decide⟩ ?_
  refine a_iadd (n := 700) dL_law_699 rfl ⟨by omega, by omega⟩ ?_
  refine a_ialdX (n := 701) dL_law_700 rfl hW (by omega) (by omega) ?_
  refine a_aload_n (n := 702) dL_law_701 rfl rfl ?_
  refine a_iload (n := 704) dL_law_702 rfl rfl ?_
  refine a_iconst (n := 705) dL_law_704 rfl ⟨by decide, by decide⟩ ?_
  refine a_iadd (n := 706) dL_law_705 rfl ⟨by omega, by omega⟩ ?_
  refine a_ialdX (n := 707) dL_law_706 rfl hW (by omega) (by omega) ?_
  refine a_aload_n (n := 708) dL_law_707 rfl rfl ?_
  refine a_iload (n := 710) dL_law_708 rfl rfl ?_
  refine a_iconst (n := 711) dL_law_710 rfl ⟨by decide, by decide⟩ ?_
  refine a_iadd (n := 712) dL_law_711 rfl ⟨by omega, by omega⟩ ?_
  refine a_ialdX (n := 713) dL_law_712 rfl hW (by omega) (by omega) ?_
  refine a_aload_n (n := 714) dL_law_713 rfl rfl ?_
  refine a_iload (n := 716) dL_law_714 rfl rfl ?_
  refine a_iconst (n := 717) dL_law_716 rfl ⟨by decide, by decide⟩ ?_
  refine a_iadd (n := 718) dL_law_717 rfl ⟨by omega, by omega⟩ ?_
  refine a_ialdX (n := 719) dL_law_718 rfl hW (by omega) (by omega) ?_
  refine a_callV (M2 := mX10_needs) (n := 722) dL_law_719 rfl C kX10_needs lL_81 iX10_needs eX10_needs (by decide) (by omega) (s37 hz₁) rfl (Nat.le_of_ble_eq_true rfl) (fun r₂ z₂ hr₂ hi₂ hl₂ q₂ => ?_)
  obtain ⟨rfl, h₂⟩ := q₂
  show a_wp G _ _ _ _ [vI v, vI v] _ _ _ _ _
  refine a_icmp_eq (t := 1289) (n := 725) dL_law_722 rfl rfl (fun _ => tl _ _ h₂) (fun c => absurd rfl c)
set_option maxRecDepth 100000 in
set_option maxHeartbeats 4000000 in
theorem w_727 (hL : gL G N xs) (hN9 : N < 100000) (h : RR k z hr hi hl) (i₀ : 0 ≤ i) (i₁ : i + 7 ≤ N) (ik : i = 7 * (k : Int)) (tl : ∀ {z : aZ} {hr : aR} {hi hl : aI} (x5 x6 : Option aV), RR (k + 1) z hr hi hl → a_wp G mL_law (d + 31) 1289 (lawL i x5 x6) [] z hr hi hl (lawQ N)) : a_wp G mL_law (d + 31) 727 (lawL i x5 x6) [] z hr hi hl (lawQ N) := by
  obtain ⟨hN, hG, hTh, hA, -, hW⟩ := hL
  have hz := h.1.1
  refine a_aload_n (n := 728) dL_law_727 rfl rfl ?_
  refine a_aload_n (n := 729) dL_law_728 rfl rfl ?_
  refine a_iload (n := 731) dL_law_729 rfl rfl ?_
  refine a_iconst (n := 732) dL_law_731 rfl ⟨by decide, by decide⟩ ?_
  refine a_iadd (n := 733) dL_law_732 rfl ⟨by omega, by omega⟩ ?_
  refine a_ialdX (n := 734) dL_law_733 rfl hW (by omega) (by omega) ?_
  refine a_aload_n (n := 735) dL_law_734 rfl rfl ?_
  refine a_iload (n := 737) dL_law_735 rfl rfl ?_
  refine a_iconst (n := 738) dL_law_737 rfl ⟨by decide, by decide⟩ ?_
  refine a_iadd (n := 739) dL_law_738 rfl ⟨by omega, by omega⟩ ?_
  refine a_ialdX (n := 740) dL_law_739 rfl hW (by omega) (by omega) ?_
  refine a_callV (M2 := mX9_lay) (n := 743) dL_law_740 rfl (st_lay (d := d) hN h) kX9_lay lL_82 iX9_lay eX9_lay (by decide) (by omega) (s0 hz) rfl (Nat.le_of_ble_eq_true rfl) (fun r₁ z₁ hr₁ hi₁ hl₁ q₁ => ?_)
  obtain ⟨v, rfl, hz₁, C⟩ := q₁
  show a_wp G _ _ _ _ [vI v] _ _ _ _ _
  refine a_aload_n (n := 744) dL_law_743 rfl rfl ?_
  refine a_aload_n (n := 745) dL_law_744 rfl rfl ?_
  refine a_iload (n := 747) dL_law_745 rfl rfl ?_
  refine a_iconst (n := 748) dL_law_747 rfl ⟨by decide, by decide⟩ ?_
  refine a_iadd (n := 749) dL_law_748 rfl ⟨by omega, by omega⟩ ?_
  refine a_ialdX (n := 750) dL_law_749 rfl hW (by omega) (by omega) ?_
  refine a_aload_n (n := 751) dL_law_750 rfl rfl ?_
  refine a_iload (n := 753) dL_law_751 rfl rfl ?_
  refine a_iconst (n := 754) dL_law_753 rfl ⟨by decide, by decide⟩ ?_
  refine a_iadd (n := 755) dL_law_754 rfl ⟨by omega, by omega⟩ ?_
  refine a_ialdX (n := 756) dL_law_755 rfl hW (by omega) (by omega) ?_
  refine a_callV (M2 := mX10_lay_) (n := 759) dL_law_756 rfl C kX10_lay_ lL_85 iX10_lay_ eX10_lay_ (by decide) (by omega) (s37 hz₁) rfl (Nat.le_of_ble_eq_true rfl) (fun r₂ z₂ hr₂ hi₂ hl₂ q₂ => ?_)
  obtain ⟨rfl, h₂⟩ := q₂
  show a_wp G _ _ _ _ [vI v, vI v] _ _ _ _ _
  refine a_icmp_eq (t := 1289) (n := 762) dL_law_759 rfl rfl (fun _ => tl _ _ h₂) (fun c => absurd rfl c)
set_option maxRecDepth 100000 in
set_option maxHeartbeats 4000000 in
theorem w_764 (hL : gL G N xs) (hN9 : N < 100000) (h : RR k z hr hi hl) (i₀ : 0 ≤ i) (i₁ : i + 7 ≤ N) (ik : i = 7 * (k : Int)) (tl : ∀ {z : aZ} {hr : aR} {hi hl : aI} (x5 x6 : Option aV), RR (k + 1) z hr hi hl → a_wp G mL_law (d + 31) 1289 (lawL i x5 x6) [] z hr hi hl (lawQ N)) : a_wp G mL_law (d + 31) 764 (lawL i x5 x6) [] z hr hi hl (lawQ N) := by
  obtain ⟨hN, hG, hTh, hA, -, hW⟩ := hL
  have hz := h.1.1
  refine a_aload_n (n := 765) dL_law_764 rfl rfl ?_
  refine a_callV (M2 := mX9_moves) (n := 768) dL_law_765 rfl (st_moves (d := d) hN h) kX9_moves lL_86 iX9_moves eX9_moves (by decide) (by omega) (s0 hz) rfl (Nat.le_of_ble_eq_true rfl) (fun r₁ z₁ hr₁ hi₁ hl₁ q₁ => ?_)
  obtain ⟨v, rfl, hz₁, C⟩ := q₁
  show a_wp G _ _ _ _ [vI v] _ _ _ _ _
  refine a_aload_n (n := 769) dL_law_768 rfl rfl ?_
  refine a_callV (M2 := mX10_moves) (n := 772) dL_law_769 rfl C kX10_moves lL_89 iX10_moves eX10_moves (by decide) (by omega) (s37 hz₁) rfl (Nat.le_of_ble_eq_true rfl) (fun r₂ z₂ hr₂ hi₂ hl₂ q₂ => ?_)
  obtain ⟨rfl, h₂⟩ := q₂
  show a_wp G _ _ _ _ [vI v, vI v] _ _ _ _ _
  refine a_icmp_eq (t := 1289) (n := 775) dL_law_772 rfl rfl (fun _ => tl _ _ h₂) (fun c => absurd rfl c)
set_option maxRecDepth 100000 in
set_option maxHeartbeats 4000000 in
theorem w_777 (hL : gL G N xs) (hN9 : N < 100000) (h : RR k z hr hi hl) (i₀ : 0 ≤ i) (i₁ : i + 7 ≤ N) (ik : i = 7 * (k : Int)) (tl : ∀ {z : aZ} {hr : aR} {hi hl : aI} (x5 x6 : Option aV), RR (k + 1) z hr hi hl → a_wp G mL_law (d + 31) 1289 (lawL i x5 x6) [] z hr hi hl (lawQ N)) : a_wp G mL_law (d + 31) 777 (lawL i x5 x6) [] z hr hi hl (lawQ N) := by
  obtain ⟨hN, hG, hTh, hA, -, hW⟩ := hL
  have hz := h.1.1
  refine a_aload_n (n := 778) dL_law_777 rfl rfl ?_
  refine a_aload_n (n := 779) dL_law_778 rfl rfl ?_
  refine a_iload (n := 781) dL_law_779 rfl rfl ?_
  refine a_iconst (n := 782) dL_law_781 rfl ⟨by decide, by decide⟩ ?_
  refine a_iadd (n := 783) dL_law_782 rfl ⟨by omega, by omega⟩ ?_
  refine a_ialdX (n := 784) dL_law_783 rfl hW (by omega) (by omega) ?_
  refine a_i2l (n := 785) dL_law_784 rfl ?_
  refine a_bipush (n := 787) dL_law_785 rfl ⟨by decide, by decide⟩ (by decide) ?_
  refine a_lshl (n := 788) dL_law_787 rfl ?_
  refine a_aload_n (n := 789) dL_law_788 rfl rfl ?_
  refine a_iload (n := 791) dL_law_789 rfl rfl ?_
  refine a_iconst (n := 792) dL_law_791 rfl ⟨by decide, by decide⟩ ?_
  refine a_iadd (n := 793) dL_law_792 rfl ⟨by omega, by omega⟩ ?_
  refine a_ialdX (n := 794) dL_law_793 rfl hW (by omega) (by omega) ?_
  refine a_i2l (n := 795) dL_law_794 rfl ?_
  refine a_ldc2 (v := 4294967295) (n := 798) dL_law_795 rfl ⟨by decide, by decide⟩ (by decide +kernel : Cond.constantLong RL 90 4294967295 ∈ lw_tbl) (by decide) ?_
  refine a_land (n := 799) dL_law_798 rfl ?_
  refine a_lor (n := 800) dL_law_799 rfl ?_
  refine a_aload_n (n := 801) dL_law_800 rfl rfl ?_
  refine a_iload (n := 803) dL_law_801 rfl rfl ?_
  refine a_iconst (n := 804) dL_law_803 rfl ⟨by decide, by decide⟩ ?_
  refine a_iadd (n := 805) dL_law_804 rfl ⟨by omega, by omega⟩ ?_
  refine a_ialdX (n := 806) dL_law_805 rfl hW (by omega) (by omega) ?_
  refine a_i2l (n := 807) dL_law_806 rfl ?_
  refine a_bipush (n := 809) dL_law_807 rfl ⟨by decide, by decide⟩ (by decide) ?_
  refine a_lshl (n := 810) dL_law_809 rfl ?_
  refine a_aload_n (n := 811) dL_law_810 rfl rfl ?_
  refine a_iload (n := 813) dL_law_811 rfl rfl ?_
  refine a_iconst (n := 814) dL_law_813 rfl ⟨by decide, by decide⟩ ?_
  refine a_iadd (n := 815) dL_law_814 rfl ⟨by omega, by omega⟩ ?_
  refine a_ialdX (n := 816) dL_law_815 rfl hW (by omega) (by omega) ?_
  refine a_i2l (n := 817) dL_law_816 rfl ?_
  refine a_ldc2 (v := 4294967295) (n := 820) dL_law_817 rfl ⟨by decide, by decide⟩ (by decide +kernel : Cond.constantLong RL 90 4294967295 ∈ lw_tbl) (by decide) ?_
  refine a_land (n := 821) dL_law_820 rfl ?_
  refine a_lor (n := 822) dL_law_821 rfl ?_
  refine a_aload_n (n := 823) dL_law_822 rfl rfl ?_
  refine a_iload (n := 825) dL_law_823 rfl rfl ?_
  refine a_iconst (n := 826) dL_law_825 rfl ⟨by decide, by decide⟩ ?_
  refine a_iadd (n := 827) dL_law_826 rfl ⟨by omega, by omega⟩ ?_
  refine a_ialdX (n := 828) dL_law_827 rfl hW (by omega) (by omega) ?_
  refine a_i2l (n := 829) dL_law_828 rfl ?_
  refine a_bipush (n := 831) dL_law_829 rfl ⟨by decide, by decide⟩ (by decide) ?_
  refine a_lshl (n := 832) dL_law_831 rfl ?_
  refine a_aload_n (n := 833) dL_law_832 rfl rfl ?_
  refine a_iload (n := 835) dL_law_833 rfl rfl ?_
  refine a_bipush (n := 837) dL_law_835 rfl ⟨by decide, by decide⟩ (by decide) ?_
  refine a_iadd (n := 838) dL_law_837 rfl ⟨by omega, by omega⟩ ?_
  refine a_ialdX (n := 839) dL_law_838 rfl hW (by omega) (by omega) ?_
  refine a_i2l (n := 840) dL_law_839 rfl ?_
  refine a_ldc2 (v := 4294967295) (n := 843) dL_law_840 rfl ⟨by decide, by decide⟩ (by decide +kernel : Cond.constantLong RL 90 4294967295 ∈ lw_tbl) (by decide) ?_
  refine a_land (n := 844) dL_law_843 rfl ?_
  refine a_lor (n := 845) dL_law_844 rfl ?_
  refine a_callV (M2 := mX9_feed) (n := 848) dL_law_845 rfl (st_feed (d := d) hN h) kX9_feed lL_92 iX9_feed eX9_feed (by decide) (by omega) (s0 hz) rfl (Nat.le_of_ble_eq_true rfl) (fun r₁ z₁ hr₁ hi₁ hl₁ q₁ => ?_)
  obtain ⟨v, rfl, hz₁, C⟩ := q₁
  show a_wp G _ _ _ _ [vI v] _ _ _ _ _
  refine a_aload_n (n := 849) dL_law_848 rfl rfl ?_
  refine a_aload_n (n := 850) dL_law_849 rfl rfl ?_
  refine a_iload (n := 852) dL_law_850 rfl rfl ?_
  refine a_iconst (n := 853) dL_law_852 rfl ⟨by decide, by decide⟩ ?_
  refine a_iadd (n := 854) dL_law_853 rfl ⟨by omega, by omega⟩ ?_
  refine a_ialdX (n := 855) dL_law_854 rfl hW (by omega) (by omega) ?_
  refine a_i2l (n := 856) dL_law_855 rfl ?_
  refine a_bipush (n := 858) dL_law_856 rfl ⟨by decide, by decide⟩ (by decide) ?_
  refine a_lshl (n := 859) dL_law_858 rfl ?_
  refine a_aload_n (n := 860) dL_law_859 rfl rfl ?_
  refine a_iload (n := 862) dL_law_860 rfl rfl ?_
  refine a_iconst (n := 863) dL_law_862 rfl ⟨by decide, by decide⟩ ?_
  refine a_iadd (n := 864) dL_law_863 rfl ⟨by omega, by omega⟩ ?_
  refine a_ialdX (n := 865) dL_law_864 rfl hW (by omega) (by omega) ?_
  refine a_i2l (n := 866) dL_law_865 rfl ?_
  refine a_ldc2 (v := 4294967295) (n := 869) dL_law_866 rfl ⟨by decide, by decide⟩ (by decide +kernel : Cond.constantLong RL 90 4294967295 ∈ lw_tbl) (by decide) ?_
  refine a_land (n := 870) dL_law_869 rfl ?_
  refine a_lor (n := 871) dL_law_870 rfl ?_
  refine a_aload_n (n := 872) dL_law_871 rfl rfl ?_
  refine a_iload (n := 874) dL_law_872 rfl rfl ?_
  refine a_iconst (n := 875) dL_law_874 rfl ⟨by decide, by decide⟩ ?_
  refine a_iadd (n := 876) dL_law_875 rfl ⟨by omega, by omega⟩ ?_
  refine a_ialdX (n := 877) dL_law_876 rfl hW (by omega) (by omega) ?_
  refine a_i2l (n := 878) dL_law_877 rfl ?_
  refine a_bipush (n := 880) dL_law_878 rfl ⟨by decide, by decide⟩ (by decide) ?_
  refine a_lshl (n := 881) dL_law_880 rfl ?_
  refine a_aload_n (n := 882) dL_law_881 rfl rfl ?_
  refine a_iload (n := 884) dL_law_882 rfl rfl ?_
  refine a_iconst (n := 885) dL_law_884 rfl ⟨by decide, by decide⟩ ?_
  refine a_iadd (n := 886) dL_law_885 rfl ⟨by omega, by omega⟩ ?_
  refine a_ialdX (n := 887) dL_law_886 rfl hW (by omega) (by omega) ?_
  refine a_i2l (n := 888) dL_law_887 rfl ?_
  refine a_ldc2 (v := 4294967295) (n := 891) dL_law_888 rfl ⟨by decide, by decide⟩ (by decide +kernel : Cond.constantLong RL 90 4294967295 ∈ lw_tbl) (by decide) ?_
  refine a_land (n := 892) dL_law_891 rfl ?_
  refine a_lor (n := 893) dL_law_892 rfl ?_
  refine a_aload_n (n := 894) dL_law_893 rfl rfl ?_
  refine a_iload (n := 896) dL_law_894 rfl rfl ?_
  refine a_iconst (n := 897) dL_law_896 rfl ⟨by decide, by decide⟩ ?_
  refine a_iadd (n := 898) dL_law_897 rfl ⟨by omega, by omega⟩ ?_
  refine a_ialdX (n := 899) dL_law_898 rfl hW (by omega) (by omega) ?_
  refine a_i2l (n := 900) dL_law_899 rfl ?_
  refine a_bipush (n := 902) dL_law_900 rfl ⟨by decide, by decide⟩ (by decide) ?_
  refine a_lshl (n := 903) dL_law_902 rfl ?_
  refine a_aload_n (n := 904) dL_law_903 rfl rfl ?_
  refine a_iload (n := 906) dL_law_904 rfl rfl ?_
  refine a_bipush (n := 908) dL_law_906 rfl ⟨by decide, by decide⟩ (by decide) ?_
  refine a_iadd (n := 909) dL_law_908 rfl ⟨by omega, by omega⟩ ?_
  refine a_ialdX (n := 910) dL_law_909 rfl hW (by omega) (by omega) ?_
  refine a_i2l (n := 911) dL_law_910 rfl ?_
  refine a_ldc2 (v := 4294967295) (n := 914) dL_law_911 rfl ⟨by decide, by decide⟩ (by decide +kernel : Cond.constantLong RL 90 4294967295 ∈ lw_tbl) (by decide) ?_
  refine a_land (n := 915) dL_law_914 rfl ?_
  refine a_lor (n := 916) dL_law_915 rfl ?_
  refine a_callV (M2 := mX10_feed) (n := 919) dL_law_916 rfl C kX10_feed lL_96 iX10_feed eX10_feed (by decide) (by omega) (s37 hz₁) rfl (Nat.le_of_ble_eq_true rfl) (fun r₂ z₂ hr₂ hi₂ hl₂ q₂ => ?_)
  obtain ⟨rfl, h₂⟩ := q₂
  show a_wp G _ _ _ _ [vI v, vI v] _ _ _ _ _
  refine a_icmp_eq (t := 1289) (n := 922) dL_law_919 rfl rfl (fun _ => tl _ _ h₂) (fun c => absurd rfl c)
set_option maxRecDepth 100000 in
set_option maxHeartbeats 4000000 in
theorem w_924 (hL : gL G N xs) (hN9 : N < 100000) (h : RR k z hr hi hl) (i₀ : 0 ≤ i) (i₁ : i + 7 ≤ N) (ik : i = 7 * (k : Int)) (tl : ∀ {z : aZ} {hr : aR} {hi hl : aI} (x5 x6 : Option aV), RR (k + 1) z hr hi hl → a_wp G mL_law (d + 31) 1289 (lawL i x5 x6) [] z hr hi hl (lawQ N)) : a_wp G mL_law (d + 31) 924 (lawL i x5 x6) [] z hr hi hl (lawQ N) := by
  obtain ⟨hN, hG, hTh, hA, -, hW⟩ := hL
  have hz := h.1.1
  refine a_aload_n (n := 925) dL_law_924 rfl rfl ?_
  refine a_callV (M2 := mX9_text) (n := 928) dL_law_925 rfl (st_text (d := d) hN hG h) kX9_text lL_97 iX9_text eX9_text (by decide) (by omega) (s0 hz) rfl (Nat.le_of_ble_eq_true rfl) (fun r₁ z₁ hr₁ hi₁ hl₁ q₁ => ?_)
  obtain ⟨v, rfl, hz₁, C⟩ := q₁
  show a_wp G _ _ _ _ [vI v] _ _ _ _ _
  refine a_aload_n (n := 929) dL_law_928 rfl rfl ?_
  refine a_callV (M2 := mX10_text) (n := 932) dL_law_929 rfl C kX10_text lL_100 iX10_text eX10_text (by decide) (by omega) (s37 hz₁) rfl (Nat.le_of_ble_eq_true rfl) (fun r₂ z₂ hr₂ hi₂ hl₂ q₂ => ?_)
  obtain ⟨rfl, h₂⟩ := q₂
  show a_wp G _ _ _ _ [vI v, vI v] _ _ _ _ _
  refine a_icmp_eq (t := 1289) (n := 935) dL_law_932 rfl rfl (fun _ => tl _ _ h₂) (fun c => absurd rfl c)
set_option maxRecDepth 100000 in
set_option maxHeartbeats 4000000 in
theorem w_937 (hL : gL G N xs) (hN9 : N < 100000) (h : RR k z hr hi hl) (i₀ : 0 ≤ i) (i₁ : i + 7 ≤ N) (ik : i = 7 * (k : Int)) (tl : ∀ {z : aZ} {hr : aR} {hi hl : aI} (x5 x6 : Option aV), RR (k + 1) z hr hi hl → a_wp G mL_law (d + 31) 1289 (lawL i x5 x6) [] z hr hi hl (lawQ N)) : a_wp G mL_law (d + 31) 937 (lawL i x5 x6) [] z hr hi hl (lawQ N) := by
  obtain ⟨hN, hG, hTh, hA, -, hW⟩ := hL
  have hz := h.1.1
  refine a_aload_n (n := 938) dL_law_937 rfl rfl ?_
  refine a_aload_n (n := 939) dL_law_938 rfl rfl ?_
  refine a_iload (n := 941) dL_law_939 rfl rfl ?_
  refine a_iconst (n := 942) dL_law_941 rfl ⟨by decide, by decide⟩ ?_
  refine a_iadd (n := 943) dL_law_942 rfl ⟨by omega, by omega⟩ ?_
  refine a_ialdX (n := 944) dL_law_943 rfl hW (by omega) (by omega) ?_
  refine a_aload_n (n := 945) dL_law_944 rfl rfl ?_
  refine a_iload (n := 947) dL_law_945 rfl rfl ?_
  refine a_iconst (n := 948) dL_law_947 rfl ⟨by decide, by decide⟩ ?_
  refine a_iadd (n := 949) dL_law_948 rfl ⟨by omega, by omega⟩ ?_
  refine a_ialdX (n := 950) dL_law_949 rfl hW (by omega) (by omega) ?_
  refine a_aload_n (n := 951) dL_law_950 rfl rfl ?_
  refine a_iload (n := 953) dL_law_951 rfl rfl ?_
  refine a_iconst (n := 954) dL_law_953 rfl ⟨by decide, by decide⟩ ?_
  refine a_iadd (n := 955) dL_law_954 rfl ⟨by omega, by omega⟩ ?_
  refine a_ialdX (n := 956) dL_law_955 rfl hW (by omega) (by omega) ?_
  refine a_callV (M2 := mX9_may) (n := 959) dL_law_956 rfl (st_may (d := d) h) kX9_may lL_101 iX9_may eX9_may (by decide) (by omega) (s0 hz) rfl (Nat.le_of_ble_eq_true rfl) (fun r₁ z₁ hr₁ hi₁ hl₁ q₁ => ?_)
  obtain ⟨v, rfl, hz₁, C⟩ := q₁
  show a_wp G _ _ _ _ [vI v] _ _ _ _ _
  refine a_aload_n (n := 960) dL_law_959 rfl rfl ?_
  refine a_aload_n (n := 961) dL_law_960 rfl rfl ?_
  refine a_iload (n := 963) dL_law_961 rfl rfl ?_
  refine a_iconst (n := 964) dL_law_963 rfl ⟨by decide, by decide⟩ ?_
  refine a_iadd (n := 965) dL_law_964 rfl ⟨by omega, by omega⟩ ?_
  refine a_ialdX (n := 966) dL_law_965 rfl hW (by omega) (by omega) ?_
  refine a_aload_n (n := 967) dL_law_966 rfl rfl ?_
  refine a_iload (n := 969) dL_law_967 rfl rfl ?_
  refine a_iconst (n := 970) dL_law_969 rfl ⟨by decide, by decide⟩ ?_
  refine a_iadd (n := 971) dL_law_970 rfl ⟨by omega, by omega⟩ ?_
  refine a_ialdX (n := 972) dL_law_971 rfl hW (by omega) (by omega) ?_
  refine a_aload_n (n := 973) dL_law_972 rfl rfl ?_
  refine a_iload (n := 975) dL_law_973 rfl rfl ?_
  refine a_iconst (n := 976) dL_law_975 rfl ⟨by decide, by decide⟩ ?_
  refine a_iadd (n := 977) dL_law_976 rfl ⟨by omega, by omega⟩ ?_
  refine a_ialdX (n := 978) dL_law_977 rfl hW (by omega) (by omega) ?_
  refine a_callV (M2 := mX10_may) (n := 981) dL_law_978 rfl C kX10_may lL_104 iX10_may eX10_may (by decide) (by omega) (s37 hz₁) rfl (Nat.le_of_ble_eq_true rfl) (fun r₂ z₂ hr₂ hi₂ hl₂ q₂ => ?_)
  obtain ⟨rfl, h₂⟩ := q₂
  show a_wp G _ _ _ _ [vI v, vI v] _ _ _ _ _
  refine a_icmp_eq (t := 1289) (n := 984) dL_law_981 rfl rfl (fun _ => tl _ _ h₂) (fun c => absurd rfl c)
set_option maxRecDepth 100000 in
set_option maxHeartbeats 4000000 in
theorem w_986 (hL : gL G N xs) (hN9 : N < 100000) (h : RR k z hr hi hl) (i₀ : 0 ≤ i) (i₁ : i + 7 ≤ N) (ik : i = 7 * (k : Int)) (tl : ∀ {z : aZ} {hr : aR} {hi hl : aI} (x5 x6 : Option aV), RR (k + 1) z hr hi hl → a_wp G mL_law (d + 31) 1289 (lawL i x5 x6) [] z hr hi hl (lawQ N)) : a_wp G mL_law (d + 31) 986 (lawL i x5 x6) [] z hr hi hl (lawQ N) := by
  obtain ⟨hN, hG, hTh, hA, -, hW⟩ := hL
  have hz := h.1.1
  refine a_aload_n (n := 987) dL_law_986 rfl rfl ?_
  refine a_aload_n (n := 988) dL_law_987 rfl rfl ?_
  refine a_iload (n := 990) dL_law_988 rfl rfl ?_
  refine a_iconst (n := 991) dL_law_990 rfl ⟨by decide, by decide⟩ ?_
  refine a_iadd (n := 992) dL_law_991 rfl ⟨by omega, by omega⟩ ?_
  refine a_ialdX (n := 993) dL_law_992 rfl hW (by omega) (by omega) ?_
  refine a_aload_n (n := 994) dL_law_993 rfl rfl ?_
  refine a_iload (n := 996) dL_law_994 rfl rfl ?_
  refine a_iconst (n := 997) dL_law_996 rfl ⟨by decide, by decide⟩ ?_
  refine a_iadd (n := 998) dL_law_997 rfl ⟨by omega, by omega⟩ ?_
  refine a_ialdX (n := 999) dL_law_998 rfl hW (by omega) (by omega) ?_
  refine a_aload_n (n := 1000) dL_law_999 rfl rfl ?_
  refine a_iload (n := 1002) dL_law_1000 rfl rfl ?_
  refine a_iconst (n := 1003) dL_law_1002 rfl ⟨by decide, by decide⟩ ?_
  refine a_iadd (n := 1004) dL_law_1003 rfl ⟨by omega, by omega⟩ ?_
  refine a_ialdX (n := 1005) dL_law_1004 rfl hW (by omega) (by omega) ?_
  refine a_callV (M2 := mX9_send) (n := 1008) dL_law_1005 rfl (st_send (d := d) h) kX9_send lL_105 iX9_send eX9_send (by decide) (by omega) (s0 hz) rfl (Nat.le_of_ble_eq_true rfl) (fun r₁ z₁ hr₁ hi₁ hl₁ q₁ => ?_)
  obtain ⟨v, rfl, hz₁, C⟩ := q₁
  show a_wp G _ _ _ _ [vI v] _ _ _ _ _
  refine a_aload_n (n := 1009) dL_law_1008 rfl rfl ?_
  refine a_aload_n (n := 1010) dL_law_1009 rfl rfl ?_
  refine a_iload (n := 1012) dL_law_1010 rfl rfl ?_
  refine a_iconst (n := 1013) dL_law_1012 rfl ⟨by decide, by decide⟩ ?_
  refine a_iadd (n := 1014) dL_law_1013 rfl ⟨by omega, by omega⟩ ?_
  refine a_ialdX (n := 1015) dL_law_1014 rfl hW (by omega) (by omega) ?_
  refine a_aload_n (n := 1016) dL_law_1015 rfl rfl ?_
  refine a_iload (n := 1018) dL_law_1016 rfl rfl ?_
  refine a_iconst (n := 1019) dL_law_1018 rfl ⟨by decide, by decide⟩ ?_
  refine a_iadd (n := 1020) dL_law_1019 rfl ⟨by omega, by omega⟩ ?_
  refine a_ialdX (n := 1021) dL_law_1020 rfl hW (by omega) (by omega) ?_
  refine a_aload_n (n := 1022) dL_law_1021 rfl rfl ?_
  refine a_iload (n := 1024) dL_law_1022 rfl rfl ?_
  refine a_iconst (n := 1025) dL_law_1024 rfl ⟨by decide, by decide⟩ ?_
  refine a_iadd (n := 1026) dL_law_1025 rfl ⟨by omega, by omega⟩ ?_
  refine a_ialdX (n := 1027) dL_law_1026 rfl hW (by omega) (by omega) ?_
  refine a_callV (M2 := mX10_send) (n := 1030) dL_law_1027 rfl C kX10_send lL_108 iX10_send eX10_send (by decide) (by omega) (s37 hz₁) rfl (Nat.le_of_ble_eq_true rfl) (fun r₂ z₂ hr₂ hi₂ hl₂ q₂ => ?_)
  obtain ⟨rfl, h₂⟩ := q₂
  show a_wp G _ _ _ _ [vI v, vI v] _ _ _ _ _
  refine a_icmp_eq (t := 1289) (n := 1033) dL_law_1030 rfl rfl (fun _ => tl _ _ h₂) (fun c => absurd rfl c)
set_option maxRecDepth 100000 in
set_option maxHeartbeats 4000000 in
theorem w_1035 (hL : gL G N xs) (hN9 : N < 100000) (h : RR k z hr hi hl) (i₀ : 0 ≤ i) (i₁ : i + 7 ≤ N) (ik : i = 7 * (k : Int)) (tl : ∀ {z : aZ} {hr : aR} {hi hl : aI} (x5 x6 : Option aV), RR (k + 1) z hr hi hl → a_wp G mL_law (d + 31) 1289 (lawL i x5 x6) [] z hr hi hl (lawQ N)) : a_wp G mL_law (d + 31) 1035 (lawL i x5 x6) [] z hr hi hl (lawQ N) := by
  obtain ⟨hN, hG, hTh, hA, -, hW⟩ := hL
  have hz := h.1.1
  refine a_aload_n (n := 1036) dL_law_1035 rfl rfl ?_
  refine a_aload_n (n := 1037) dL_law_1036 rfl rfl ?_
  refine a_iload (n := 1039) dL_law_1037 rfl rfl ?_
  refine a_iconst (n := 1040) dL_law_1039 rfl ⟨by decide, by decide⟩ ?_
  refine a_iadd (n := 1041) dL_law_1040 rfl ⟨by omega, by omega⟩ ?_
  refine a_ialdX (n := 1042) dL_law_1041 rfl hW (by omega) (by omega) ?_
  refine a_aload_n (n := 1043) dL_law_1042 rfl rfl ?_
  refine a_iload (n := 1045) dL_law_1043 rfl rfl ?_
  refine a_iconst (n := 1046) dL_law_1045 rfl ⟨by decide, by decide⟩ ?_
  refine a_iadd (n := 1047) dL_law_1046 rfl ⟨by omega, by omega⟩ ?_
  refine a_ialdX (n := 1048) dL_law_1047 rfl hW (by omega) (by omega) ?_
  refine a_callV (M2 := mX9_sent) (n := 1051) dL_law_1048 rfl (st_sent (d := d) hN h) kX9_sent lL_109 iX9_sent eX9_sent (by decide) (by omega) (s0 hz) rfl (Nat.le_of_ble_eq_true rfl) (fun r₁ z₁ hr₁ hi₁ hl₁ q₁ => ?_)
  obtain ⟨v, rfl, hz₁, C⟩ := q₁
  show a_wp G _ _ _ _ [vI v] _ _ _ _ _
  refine a_aload_n (n := 1052) dL_law_1051 rfl rfl ?_
  refine a_aload_n (n := 1053) dL_law_1052 rfl rfl ?_
  refine a_iload (n := 1055) dL_law_1053 rfl rfl ?_
  refine a_iconst (n := 1056) dL_law_1055 rfl ⟨by decide, by decide⟩ ?_
  refine a_iadd (n := 1057) dL_law_1056 rfl ⟨by omega, by omega⟩ ?_
  refine a_ialdX (n := 1058) dL_law_1057 rfl hW (by omega) (by omega) ?_
  refine a_aload_n (n := 1059) dL_law_1058 rfl rfl ?_
  refine a_iload (n := 1061) dL_law_1059 rfl rfl ?_
  refine a_iconst (n := 1062) dL_law_1061 rfl ⟨by decide, by decide⟩ ?_
  refine a_iadd (n := 1063) dL_law_1062 rfl ⟨by omega, by omega⟩ ?_
  refine a_ialdX (n := 1064) dL_law_1063 rfl hW (by omega) (by omega) ?_
  refine a_callV (M2 := mX10_sent) (n := 1067) dL_law_1064 rfl C kX10_sent lL_112 iX10_sent eX10_sent (by decide) (by omega) (s37 hz₁) rfl (Nat.le_of_ble_eq_true rfl) (fun r₂ z₂ hr₂ hi₂ hl₂ q₂ => ?_)
  obtain ⟨rfl, h₂⟩ := q₂
  show a_wp G _ _ _ _ [vI v, vI v] _ _ _ _ _
  refine a_icmp_eq (t := 1289) (n := 1070) dL_law_1067 rfl rfl (fun _ => tl _ _ h₂) (fun c => absurd rfl c)
set_option maxRecDepth 100000 in
set_option maxHeartbeats 4000000 in
theorem w_1072 (hL : gL G N xs) (hN9 : N < 100000) (h : RR k z hr hi hl) (i₀ : 0 ≤ i) (i₁ : i + 7 ≤ N) (ik : i = 7 * (k : Int)) (tl : ∀ {z : aZ} {hr : aR} {hi hl : aI} (x5 x6 : Option aV), RR (k + 1) z hr hi hl → a_wp G mL_law (d + 31) 1289 (lawL i x5 x6) [] z hr hi hl (lawQ N)) : a_wp G mL_law (d + 31) 1072 (lawL i x5 x6) [] z hr hi hl (lawQ N) := by
  obtain ⟨hN, hG, hTh, hA, -, hW⟩ := hL
  have hz := h.1.1
  refine a_aload_n (n := 1073) dL_law_1072 rfl rfl ?_
  refine a_aload_n (n := 1074) dL_law_1073 rfl rfl ?_
  refine a_iload (n := 1076) dL_law_1074 rfl rfl ?_
  refine a_iconst (n := 1077) dL_law_1076 rfl ⟨by decide, by decide⟩ ?_
  refine a_iadd (n := 1078) dL_law_1077 rfl ⟨by omega, by omega⟩ ?_
  refine a_ialdX (n := 1079) dL_law_1078 rfl hW (by omega) (by omega) ?_
  refine a_aload_n (n := 1080) dL_law_1079 rfl rfl ?_
  refine a_iload (n := 1082) dL_law_1080 rfl rfl ?_
  refine a_iconst (n := 1083) dL_law_1082 rfl ⟨by decide, by decide⟩ ?_
  refine a_iadd (n := 1084) dL_law_1083 rfl ⟨by omega, by omega⟩ ?_
  refine a_ialdX (n := 1085) dL_law_1084 rfl hW (by omega) (by omega) ?_
  refine a_callV (M2 := mX9_seen) (n := 1088) dL_law_1085 rfl (st_seen (d := d) h) kX9_seen lL_113 iX9_seen eX9_seen (by decide) (by omega) (s0 hz) rfl (Nat.le_of_ble_eq_true rfl) (fun r₁ z₁ hr₁ hi₁ hl₁ q₁ => ?_)
  obtain ⟨v, rfl, hz₁, C⟩ := q₁
  show a_wp G _ _ _ _ [vI v] _ _ _ _ _
  refine a_aload_n (n := 1089) dL_law_1088 rfl rfl ?_
  refine a_aload_n (n := 1090) dL_law_1089 rfl rfl ?_
  refine a_iload (n := 1092) dL_law_1090 rfl rfl ?_
  refine a_iconst (n := 1093) dL_law_1092 rfl ⟨by decide, by decide⟩ ?_
  refine a_iadd (n := 1094) dL_law_1093 rfl ⟨by omega, by omega⟩ ?_
  refine a_ialdX (n := 1095) dL_law_1094 rfl hW (by omega) (by omega) ?_
  refine a_aload_n (n := 1096) dL_law_1095 rfl rfl ?_
  refine a_iload (n := 1098) dL_law_1096 rfl rfl ?_
  refine a_iconst (n := 1099) dL_law_1098 rfl ⟨by decide, by decide⟩ ?_
  refine a_iadd (n := 1100) dL_law_1099 rfl ⟨by omega, by omega⟩ ?_
  refine a_ialdX (n := 1101) dL_law_1100 rfl hW (by omega) (by omega) ?_
  refine a_callV (M2 := mX10_seen) (n := 1104) dL_law_1101 rfl C kX10_seen lL_116 iX10_seen eX10_seen (by decide) (by omega) (s37 hz₁) rfl (Nat.le_of_ble_eq_true rfl) (fun r₂ z₂ hr₂ hi₂ hl₂ q₂ => ?_)
  obtain ⟨rfl, h₂⟩ := q₂
  show a_wp G _ _ _ _ [vI v, vI v] _ _ _ _ _
  refine a_icmp_eq (t := 1289) (n := 1107) dL_law_1104 rfl rfl (fun _ => tl _ _ h₂) (fun c => absurd rfl c)
set_option maxRecDepth 100000 in
set_option maxHeartbeats 4000000 in
theorem w_1109 (hL : gL G N xs) (hN9 : N < 100000) (h : RR k z hr hi hl) (i₀ : 0 ≤ i) (i₁ : i + 7 ≤ N) (ik : i = 7 * (k : Int)) (tl : ∀ {z : aZ} {hr : aR} {hi hl : aI} (x5 x6 : Option aV), RR (k + 1) z hr hi hl → a_wp G mL_law (d + 31) 1289 (lawL i x5 x6) [] z hr hi hl (lawQ N)) : a_wp G mL_law (d + 31) 1109 (lawL i x5 x6) [] z hr hi hl (lawQ N) := by
  obtain ⟨hN, hG, hTh, hA, -, hW⟩ := hL
  have hz := h.1.1
  refine a_aload_n (n := 1110) dL_law_1109 rfl rfl ?_
  refine a_aload_n (n := 1111) dL_law_1110 rfl rfl ?_
  refine a_iload (n := 1113) dL_law_1111 rfl rfl ?_
  refine a_iconst (n := 1114) dL_law_1113 rfl ⟨by decide, by decide⟩ ?_
  refine a_iadd (n := 1115) dL_law_1114 rfl ⟨by omega, by omega⟩ ?_
  refine a_ialdX (n := 1116) dL_law_1115 rfl hW (by omega) (by omega) ?_
  refine a_callV (M2 := mX9_close) (n := 1119) dL_law_1116 rfl (st_close (d := d) h (by omega)) kX9_close lL_117 iX9_close eX9_close (by decide) (by omega) (s0 hz) rfl (Nat.le_of_ble_eq_true rfl) (fun r₁ z₁ hr₁ hi₁ hl₁ q₁ => ?_)
  obtain ⟨v, rfl, hz₁, C⟩ := q₁
  show a_wp G _ _ _ _ [vI v] _ _ _ _ _
  refine a_aload_n (n := 1120) dL_law_1119 rfl rfl ?_
  refine a_aload_n (n := 1121) dL_law_1120 rfl rfl ?_
  refine a_iload (n := 1123) dL_law_1121 rfl rfl ?_
  refine a_iconst (n := 1124) dL_law_1123 rfl ⟨by decide, by decide⟩ ?_
  refine a_iadd (n := 1125) dL_law_1124 rfl ⟨by omega, by omega⟩ ?_
  refine a_ialdX (n := 1126) dL_law_1125 rfl hW (by omega) (by omega) ?_
  refine a_callV (M2 := mX10_close) (n := 1129) dL_law_1126 rfl C kX10_close lL_120 iX10_close eX10_close (by decide) (by omega) (s37 hz₁) rfl (Nat.le_of_ble_eq_true rfl) (fun r₂ z₂ hr₂ hi₂ hl₂ q₂ => ?_)
  obtain ⟨rfl, h₂⟩ := q₂
  show a_wp G _ _ _ _ [vI v, vI v] _ _ _ _ _
  refine a_icmp_eq (t := 1289) (n := 1132) dL_law_1129 rfl rfl (fun _ => tl _ _ h₂) (fun c => absurd rfl c)
set_option maxRecDepth 100000 in
set_option maxHeartbeats 4000000 in
theorem w_1134 (hL : gL G N xs) (hN9 : N < 100000) (h : RR k z hr hi hl) (i₀ : 0 ≤ i) (i₁ : i + 7 ≤ N) (ik : i = 7 * (k : Int)) (tl : ∀ {z : aZ} {hr : aR} {hi hl : aI} (x5 x6 : Option aV), RR (k + 1) z hr hi hl → a_wp G mL_law (d + 31) 1289 (lawL i x5 x6) [] z hr hi hl (lawQ N)) : a_wp G mL_law (d + 31) 1134 (lawL i x5 x6) [] z hr hi hl (lawQ N) := by
  obtain ⟨hN, hG, hTh, hA, -, hW⟩ := hL
  have hz := h.1.1
  refine a_aload_n (n := 1135) dL_law_1134 rfl rfl ?_
  refine a_aload_n (n := 1136) dL_law_1135 rfl rfl ?_
  refine a_iload (n := 1138) dL_law_1136 rfl rfl ?_
  refine a_iconst (n := 1139) dL_law_1138 rfl ⟨by decide, by decide⟩ ?_
  refine a_iadd (n := 1140) dL_law_1139 rfl ⟨by omega, by omega⟩ ?_
  refine a_ialdX (n := 1141) dL_law_1140 rfl hW (by omega) (by omega) ?_
  refine a_callV (M2 := mX9_fits) (n := 1144) dL_law_1141 rfl (st_fits (d := d) h) kX9_fits lL_121 iX9_fits eX9_fits (by decide) (by omega) (s0 hz) rfl (Nat.le_of_ble_eq_true rfl) (fun r₁ z₁ hr₁ hi₁ hl₁ q₁ => ?_)
  obtain ⟨v, rfl, hz₁, C⟩ := q₁
  show a_wp G _ _ _ _ [vI v] _ _ _ _ _
  refine a_aload_n (n := 1145) dL_law_1144 rfl rfl ?_
  refine a_aload_n (n := 1146) dL_law_1145 rfl rfl ?_
  refine a_iload (n := 1148) dL_law_1146 rfl rfl ?_
  refine a_iconst (n := 1149) dL_law_1148 rfl ⟨by decide, by decide⟩ ?_
  refine a_iadd (n := 1150) dL_law_1149 rfl ⟨by omega, by omega⟩ ?_
  refine a_ialdX (n := 1151) dL_law_1150 rfl hW (by omega) (by omega) ?_
  refine a_callV (M2 := mX10_fits) (n := 1154) dL_law_1151 rfl C kX10_fits lL_124 iX10_fits eX10_fits (by decide) (by omega) (s37 hz₁) rfl (Nat.le_of_ble_eq_true rfl) (fun r₂ z₂ hr₂ hi₂ hl₂ q₂ => ?_)
  obtain ⟨rfl, h₂⟩ := q₂
  show a_wp G _ _ _ _ [vI v, vI v] _ _ _ _ _
  refine a_icmp_eq (t := 1289) (n := 1157) dL_law_1154 rfl rfl (fun _ => tl _ _ h₂) (fun c => absurd rfl c)
set_option maxRecDepth 100000 in
set_option maxHeartbeats 4000000 in
theorem w_1159 (hL : gL G N xs) (hN9 : N < 100000) (h : RR k z hr hi hl) (i₀ : 0 ≤ i) (i₁ : i + 7 ≤ N) (ik : i = 7 * (k : Int)) (tl : ∀ {z : aZ} {hr : aR} {hi hl : aI} (x5 x6 : Option aV), RR (k + 1) z hr hi hl → a_wp G mL_law (d + 31) 1289 (lawL i x5 x6) [] z hr hi hl (lawQ N)) : a_wp G mL_law (d + 31) 1159 (lawL i x5 x6) [] z hr hi hl (lawQ N) := by
  obtain ⟨hN, hG, hTh, hA, -, hW⟩ := hL
  have hz := h.1.1
  refine a_aload_n (n := 1160) dL_law_1159 rfl rfl ?_
  refine a_aload_n (n := 1161) dL_law_1160 rfl rfl ?_
  refine a_iload (n := 1163) dL_law_1161 rfl rfl ?_
  refine a_iconst (n := 1164) dL_law_1163 rfl ⟨by decide, by decide⟩ ?_
  refine a_iadd (n := 1165) dL_law_1164 rfl ⟨by omega, by omega⟩ ?_
  refine a_ialdX (n := 1166) dL_law_1165 rfl hW (by omega) (by omega) ?_
  refine a_aload_n (n := 1167) dL_law_1166 rfl rfl ?_
  refine a_iload (n := 1169) dL_law_1167 rfl rfl ?_
  refine a_iconst (n := 1170) dL_law_1169 rfl ⟨by decide, by decide⟩ ?_
  refine a_iadd (n := 1171) dL_law_1170 rfl ⟨by omega, by omega⟩ ?_
  refine a_ialdX (n := 1172) dL_law_1171 rfl hW (by omega) (by omega) ?_
  refine a_callV (M2 := mX9_changed) (n := 1175) dL_law_1172 rfl (st_changed (d := d) h) kX9_changed lL_125 iX9_changed eX9_changed (by decide) (by omega) (s0 hz) rfl (Nat.le_of_ble_eq_true rfl) (fun r₁ z₁ hr₁ hi₁ hl₁ q₁ => ?_)
  obtain ⟨v, rfl, hz₁, C⟩ := q₁
  show a_wp G _ _ _ _ [vI v] _ _ _ _ _
  refine a_aload_n (n := 1176) dL_law_1175 rfl rfl ?_
  refine a_aload_n (n := 1177) dL_law_1176 rfl rfl ?_
  refine a_iload (n := 1179) dL_law_1177 rfl rfl ?_
  refine a_iconst (n := 1180) dL_law_1179 rfl ⟨by decide, by decide⟩ ?_
  refine a_iadd (n := 1181) dL_law_1180 rfl ⟨by omega, by omega⟩ ?_
  refine a_ialdX (n := 1182) dL_law_1181 rfl hW (by omega) (by omega) ?_
  refine a_aload_n (n := 1183) dL_law_1182 rfl rfl ?_
  refine a_iload (n := 1185) dL_law_1183 rfl rfl ?_
  refine a_iconst (n := 1186) dL_law_1185 rfl ⟨by decide, by decide⟩ ?_
  refine a_iadd (n := 1187) dL_law_1186 rfl ⟨by omega, by omega⟩ ?_
  refine a_ialdX (n := 1188) dL_law_1187 rfl hW (by omega) (by omega) ?_
  refine a_callV (M2 := mX10_changed) (n := 1191) dL_law_1188 rfl C kX10_changed lL_128 iX10_changed eX10_changed (by decide) (by omega) (s37 hz₁) rfl (Nat.le_of_ble_eq_true rfl) (fun r₂ z₂ hr₂ hi₂ hl₂ q₂ => ?_)
  obtain ⟨rfl, h₂⟩ := q₂
  show a_wp G _ _ _ _ [vI v, vI v] _ _ _ _ _
  refine a_icmp_eq (t := 1289) (n := 1194) dL_law_1191 rfl rfl (fun _ => tl _ _ h₂) (fun c => absurd rfl c)
set_option maxRecDepth 100000 in
set_option maxHeartbeats 4000000 in
theorem w_1264 (hL : gL G N xs) (hN9 : N < 100000) (h : RR k z hr hi hl) (i₀ : 0 ≤ i) (i₁ : i + 7 ≤ N) (ik : i = 7 * (k : Int)) (tl : ∀ {z : aZ} {hr : aR} {hi hl : aI} (x5 x6 : Option aV), RR (k + 1) z hr hi hl → a_wp G mL_law (d + 31) 1289 (lawL i x5 x6) [] z hr hi hl (lawQ N)) : a_wp G mL_law (d + 31) 1264 (lawL i x5 x6) [] z hr hi hl (lawQ N) := by
  obtain ⟨hN, hG, hTh, hA, -, hW⟩ := hL
  have hz := h.1.1
  refine a_aload_n (n := 1265) dL_law_1264 rfl rfl ?_
  refine a_aload_n (n := 1266) dL_law_1265 rfl rfl ?_
  refine a_iload (n := 1268) dL_law_1266 rfl rfl ?_
  refine a_iconst (n := 1269) dL_law_1268 rfl ⟨by decide, by decide⟩ ?_
  refine a_iadd (n := 1270) dL_law_1269 rfl ⟨by omega, by omega⟩ ?_
  refine a_ialdX (n := 1271) dL_law_1270 rfl hW (by omega) (by omega) ?_
  refine a_callV (M2 := mX9_count) (n := 1274) dL_law_1271 rfl (st_count (d := d) h) kX9_count lL_133 iX9_count eX9_count (by decide) (by omega) (s0 hz) rfl (Nat.le_of_ble_eq_true rfl) (fun r₁ z₁ hr₁ hi₁ hl₁ q₁ => ?_)
  obtain ⟨v, rfl, hz₁, C⟩ := q₁
  show a_wp G _ _ _ _ [vI v] _ _ _ _ _
  refine a_aload_n (n := 1275) dL_law_1274 rfl rfl ?_
  refine a_aload_n (n := 1276) dL_law_1275 rfl rfl ?_
  refine a_iload (n := 1278) dL_law_1276 rfl rfl ?_
  refine a_iconst (n := 1279) dL_law_1278 rfl ⟨by decide, by decide⟩ ?_
  refine a_iadd (n := 1280) dL_law_1279 rfl ⟨by omega, by omega⟩ ?_
  refine a_ialdX (n := 1281) dL_law_1280 rfl hW (by omega) (by omega) ?_
  refine a_callV (M2 := mX10_count) (n := 1284) dL_law_1281 rfl C kX10_count lL_136 iX10_count eX10_count (by decide) (by omega) (s37 hz₁) rfl (Nat.le_of_ble_eq_true rfl) (fun r₂ z₂ hr₂ hi₂ hl₂ q₂ => ?_)
  obtain ⟨rfl, h₂⟩ := q₂
  show a_wp G _ _ _ _ [vI v, vI v] _ _ _ _ _
  refine a_icmp_eq (t := 1289) (n := 1287) dL_law_1284 rfl rfl (fun _ => tl _ _ h₂) (fun c => absurd rfl c)
end LAW
