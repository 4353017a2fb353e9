/-! the law's cases look and named *) -/
section LAW2
variable {G : aG} {d k N : Nat} {xs : Nat → Int32} {z : aZ} {hr : aR} {hi hl : aI} {i : Int} {x5 x6 : Option aV}
set_option maxRecDepth 100000 in
set_option maxHeartbeats 4000000 in
theorem w_476 (hL : gL G N xs) (hN9 : N < 100000) (h : RR k z hr hi hl) (i₀ : 0 ≤ i) (i₁ : i + 7 ≤ N) (ik : i = 7 * (k : Int)) (tl : ∀ {z : aZ} {hr : aR} {hi hl : aI} (x5 x6 : Option aV), RR (k + 1) z hr hi hl → a_wp G mL_law (d + 31) 1289 (lawL i x5 x6) [] z hr hi hl (lawQ N)) : a_wp G mL_law (d + 31) 476 (lawL i x5 x6) [] z hr hi hl (lawQ N) := by
  obtain ⟨hN, hG, hTh, hA, -, hW⟩ := hL
  have hz := h.1.1
  refine a_aload_n (n := 477) dL_law_476 rfl rfl ?_
  refine a_aload_n (n := 478) dL_law_477 rfl rfl ?_
  refine a_iload (n := 480) dL_law_478 rfl rfl ?_
  refine a_iconst (n := 481) dL_law_480 rfl ⟨by decide, by decide⟩ ?_
  refine a_iadd (n := 482) dL_law_481 rfl ⟨by omega, by omega⟩ ?_
  refine a_ialdX (n := 483) dL_law_482 rfl hW (by omega) (by omega) ?_
  refine a_aload_n (n := 484) dL_law_483 rfl rfl ?_
  refine a_iload (n := 486) dL_law_484 rfl rfl ?_
  refine a_iconst (n := 487) dL_law_486 rfl ⟨by decide, by decide⟩ ?_
  refine a_iadd (n := 488) dL_law_487 rfl ⟨by omega, by omega⟩ ?_
  refine a_ialdX (n := 489) dL_law_488 rfl hW (by omega) (by omega) ?_
  refine a_aload_n (n := 490) dL_law_489 rfl rfl ?_
  refine a_iload (n := 492) dL_law_490 rfl rfl ?_
  refine a_iconst (n := 493) dL_law_492 rfl ⟨by decide, by decide⟩ ?_
  refine a_iadd (n := 494) dL_law_493 rfl ⟨by omega, by omega⟩ ?_
  refine a_ialdX (n := 495) dL_law_494 rfl hW (by omega) (by omega) ?_
  refine a_aload_n (n := 496) dL_law_495 rfl rfl ?_
  refine a_callSH (M2 := mL_named) (n := 499) dL_law_496 rfl (st_named (d := d) hTh hG h (by omega)) (by decide +kernel) (by decide +kernel) (by decide +kernel) (show Option.map (fun d => d.parameters.length) (parseMethodDescriptor mL_named.1.desc) = some 5 by decide +kernel) (by decide) lL_58 sL_named (by omega) rfl (Nat.le_of_ble_eq_true rfl) (fun r₁ z₁ hr₁ hi₁ hl₁ q₁ => ?_)
  obtain ⟨u, rfl, hz₁, C⟩ := q₁
  show a_wp G _ _ _ _ [vI u] _ _ _ _ _
  refine b_istore (n := 501) dL_law_499 rfl (by decide) rfl ?_
  refine a_aload_n (n := 502) dL_law_501 rfl rfl ?_
  refine a_aload_n (n := 503) dL_law_502 rfl rfl ?_
  refine a_iload (n := 505) dL_law_503 rfl rfl ?_
  refine a_iconst (n := 506) dL_law_505 rfl ⟨by decide, by decide⟩ ?_
  refine a_iadd (n := 507) dL_law_506 rfl ⟨by omega, by omega⟩ ?_
  refine a_ialdX (n := 508) dL_law_507 rfl hW (by omega) (by omega) ?_
  refine a_aload_n (n := 509) dL_law_508 rfl rfl ?_
  refine a_iload (n := 511) dL_law_509 rfl rfl ?_
  refine a_iconst (n := 512) dL_law_511 rfl ⟨by decide, by decide⟩ ?_
  refine a_iadd (n := 513) dL_law_512 rfl ⟨by omega, by omega⟩ ?_
  refine a_ialdX (n := 514) dL_law_513 rfl hW (by omega) (by omega) ?_
  refine a_aload_n (n := 515) dL_law_514 rfl rfl ?_
  refine a_iload (n := 517) dL_law_515 rfl rfl ?_
  refine a_iconst (n := 518) dL_law_517 rfl ⟨by decide, by decide⟩ ?_
  refine a_iadd (n := 519) dL_law_518 rfl ⟨by omega, by omega⟩ ?_
  refine a_ialdX (n := 520) dL_law_519 rfl hW (by omega) (by omega) ?_
  refine a_callV (M2 := mX10_named) (n := 523) dL_law_520 rfl C kX10_named lL_63 iX10_named eX10_named (by decide) (by omega) (s37 hz₁) rfl (Nat.le_of_ble_eq_true rfl) (fun r₂ z₂ hr₂ hi₂ hl₂ q₂ => ?_)
  obtain ⟨v, rfl, u₀, uv, h₂⟩ := q₂
  have hz₂ := h₂.1.1
  show a_wp G _ _ _ _ [vI v] _ _ _ _ _
  refine b_istore (n := 525) dL_law_523 rfl (by decide) rfl ?_
  refine a_aload_n (n := 526) dL_law_525 rfl rfl ?_
  refine a_callV (M2 := mX10_thrown) (n := 529) dL_law_526 rfl (m_thrown (d := d + 30) hz₂) kX10_thrown lL_64 iX10_thrown eX10_thrown (by decide) (by omega) (s37 hz₂) rfl (Nat.le_of_ble_eq_true rfl) (fun r₃ z₃ hr₃ hi₃ hl₃ q₃ => ?_)
  obtain ⟨e₁, e₂, e₃, e₄, rfl⟩ := q₃
  obtain rfl := e₁.symm
  obtain rfl := e₂.symm
  obtain rfl := e₃.symm
  obtain rfl := e₄.symm
  show a_wp G _ _ _ _ [vI (hi₂ 37 0)] _ _ _ _ _
  refine a_iload (n := 531) dL_law_529 rfl rfl ?_
  refine a_icmp_eq (t := 536) (n := 534) dL_law_531 rfl rfl (fun _ => ?_) (fun c => absurd u₀ c)
  refine a_iload (n := 538) dL_law_536 rfl rfl ?_
  refine a_if_ne (t := 553) (n := 541) dL_law_538 rfl rfl (fun _ => a_goto (t := 1289) dL_law_553 rfl (tl _ _ h₂)) (fun c => ?_)
  have u1 : hl₂ 79 0 = v := by
    rcases uv with w | w
    · exact w.2
    · omega
  refine a_aload_n (n := 542) dL_law_541 rfl rfl ?_
  refine a_iconst (n := 543) dL_law_542 rfl ⟨by decide, by decide⟩ ?_
  refine a_lald (n := 544) dL_law_543 rfl (s79 hz₂) (by decide) (by decide) ?_
  refine a_iload (n := 546) dL_law_544 rfl rfl ?_
  refine a_i2l (n := 547) dL_law_546 rfl ?_
  refine a_lcmp (n := 548) dL_law_547 rfl ?_
  rw [u1, show b_cmp v v = 0 by unfold b_cmp; simp]
  exact a_if_eq (t := 553) (n := 551) dL_law_548 rfl rfl (fun _ => a_goto (t := 1289) dL_law_553 rfl (tl _ _ h₂)) (fun c => absurd rfl c)
set_option maxRecDepth 100000 in
set_option maxHeartbeats 4000000 in
theorem w_1196 (hL : gL G N xs) (hN9 : N < 100000) (h : RR k z hr hi hl) (i₀ : 0 ≤ i) (i₁ : i + 7 ≤ N) (ik : i = 7 * (k : Int)) (tl : ∀ {z : aZ} {hr : aR} {hi hl : aI} (x5 x6 : Option aV), RR (k + 1) z hr hi hl → a_wp G mL_law (d + 31) 1289 (lawL i x5 x6) [] z hr hi hl (lawQ N)) : a_wp G mL_law (d + 31) 1196 (lawL i x5 x6) [] z hr hi hl (lawQ N) := by
  obtain ⟨hN, hG, hTh, hA, -, hW⟩ := hL
  have hz := h.1.1
  refine a_aload_n (n := 1197) dL_law_1196 rfl rfl ?_
  refine a_aload_n (n := 1198) dL_law_1197 rfl rfl ?_
  refine a_iload (n := 1200) dL_law_1198 rfl rfl ?_
  refine a_iconst (n := 1201) dL_law_1200 rfl ⟨by decide, by decide⟩ ?_
  refine a_iadd (n := 1202) dL_law_1201 rfl ⟨by omega, by omega⟩ ?_
  refine a_ialdX (n := 1203) dL_law_1202 rfl hW (by omega) (by omega) ?_
  refine a_aload_n (n := 1204) dL_law_1203 rfl rfl ?_
  refine a_iload (n := 1206) dL_law_1204 rfl rfl ?_
  refine a_iconst (n := 1207) dL_law_1206 rfl ⟨by decide, by decide⟩ ?_
  refine a_iadd (n := 1208) dL_law_1207 rfl ⟨by omega, by omega⟩ ?_
  refine a_ialdX (n := 1209) dL_law_1208 rfl hW (by omega) (by omega) ?_
  refine a_aload_n (n := 1210) dL_law_1209 rfl rfl ?_
  refine a_callSH (M2 := mL_look) (n := 1213) dL_law_1210 rfl (st_look (d := d) hTh hG h (by omega)) (by decide +kernel) (by decide +kernel) (by decide +kernel) (show Option.map (fun d => d.parameters.length) (parseMethodDescriptor mL_look.1.desc) = some 4 by decide +kernel) (by decide) lL_129 sL_look (by omega) rfl (Nat.le_of_ble_eq_true rfl) (fun r₁ z₁ hr₁ hi₁ hl₁ q₁ => ?_)
  obtain ⟨u, rfl, hz₁, C⟩ := q₁
  show a_wp G _ _ _ _ [vI u] _ _ _ _ _
  refine b_istore (n := 1215) dL_law_1213 rfl (by decide) rfl ?_
  refine a_aload_n (n := 1216) dL_law_1215 rfl rfl ?_
  refine a_aload_n (n := 1217) dL_law_1216 rfl rfl ?_
  refine a_iload (n := 1219) dL_law_1217 rfl rfl ?_
  refine a_iconst (n := 1220) dL_law_1219 rfl ⟨by decide, by decide⟩ ?_
  refine a_iadd (n := 1221) dL_law_1220 rfl ⟨by omega, by omega⟩ ?_
  refine a_ialdX (n := 1222) dL_law_1221 rfl hW (by omega) (by omega) ?_
  refine a_aload_n (n := 1223) dL_law_1222 rfl rfl ?_
  refine a_iload (n := 1225) dL_law_1223 rfl rfl ?_
  refine a_iconst (n := 1226) dL_law_1225 rfl ⟨by decide, by decide⟩ ?_
  refine a_iadd (n := 1227) dL_law_1226 rfl ⟨by omega, by omega⟩ ?_
  refine a_ialdX (n := 1228) dL_law_1227 rfl hW (by omega) (by omega) ?_
  refine a_callV (M2 := mX10_look) (n := 1231) dL_law_1228 rfl C kX10_look lL_132 iX10_look eX10_look (by decide) (by omega) (s37 hz₁) rfl (Nat.le_of_ble_eq_true rfl) (fun r₂ z₂ hr₂ hi₂ hl₂ q₂ => ?_)
  obtain ⟨v, rfl, u₀, uv, h₂⟩ := q₂
  have hz₂ := h₂.1.1
  show a_wp G _ _ _ _ [vI v] _ _ _ _ _
  refine b_istore (n := 1233) dL_law_1231 rfl (by decide) rfl ?_
  refine a_aload_n (n := 1234) dL_law_1233 rfl rfl ?_
  refine a_callV (M2 := mX10_thrown) (n := 1237) dL_law_1234 rfl (m_thrown (d := d + 30) hz₂) kX10_thrown lL_64 iX10_thrown eX10_thrown (by decide) (by omega) (s37 hz₂) rfl (Nat.le_of_ble_eq_true rfl) (fun r₃ z₃ hr₃ hi₃ hl₃ q₃ => ?_)
  obtain ⟨e₁, e₂, e₃, e₄, rfl⟩ := q₃
  obtain rfl := e₁.symm
  obtain rfl := e₂.symm
  obtain rfl := e₃.symm
  obtain rfl := e₄.symm
  show a_wp G _ _ _ _ [vI (hi₂ 37 0)] _ _ _ _ _
  refine a_iload (n := 1239) dL_law_1237 rfl rfl ?_
  refine a_icmp_eq (t := 1244) (n := 1242) dL_law_1239 rfl rfl (fun _ => ?_) (fun c => absurd u₀ c)
  refine a_iload (n := 1246) dL_law_1244 rfl rfl ?_
  refine a_if_ne (t := 1261) (n := 1249) dL_law_1246 rfl rfl (fun _ => a_goto (t := 1289) dL_law_1261 rfl (tl _ _ h₂)) (fun c => ?_)
  have u1 : hl₂ 79 0 = v := by
    rcases uv with w | w
    · exact w.2
    · omega
  refine a_aload_n (n := 1250) dL_law_1249 rfl rfl ?_
  refine a_iconst (n := 1251) dL_law_1250 rfl ⟨by decide, by decide⟩ ?_
  refine a_lald (n := 1252) dL_law_1251 rfl (s79 hz₂) (by decide) (by decide) ?_
  refine a_iload (n := 1254) dL_law_1252 rfl rfl ?_
  refine a_i2l (n := 1255) dL_law_1254 rfl ?_
  refine a_lcmp (n := 1256) dL_law_1255 rfl ?_
  rw [u1, show b_cmp v v = 0 by unfold b_cmp; simp]
  exact a_if_eq (t := 1261) (n := 1259) dL_law_1256 rfl rfl (fun _ => a_goto (t := 1289) dL_law_1261 rfl (tl _ _ h₂)) (fun c => absurd rfl c)
end LAW2
