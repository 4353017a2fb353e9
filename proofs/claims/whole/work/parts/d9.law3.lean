/-! the law's loop *) -/
section LAW3
variable {G : aG} {d N : Nat} {xs : Nat → Int32}
set_option maxRecDepth 100000 in
set_option maxHeartbeats 4000000 in
theorem w_lp (hL : gL G N xs) (hN9 : N < 100000) (m : Nat) : ∀ {z : aZ} {hr : aR} {hi hl : aI} (i : Int) (k : Nat) (x5 x6 : Option aV), (N : Int) - i ≤ m → 0 ≤ i → i ≤ N → i = 7 * (k : Int) → RR k z hr hi hl → a_wp G mL_law (d + 31) 23 (lawL i x5 x6) [] z hr hi hl (lawQ N) := by
  induction m with
  | zero =>
    intro z hr hi hl i k x5 x6 hm i₀ i₁ ik h
    have hW := hL.2.2.2.2.2
    refine a_iload (n := 25) dL_law_23 rfl rfl ?_
    refine a_aload_n (n := 26) dL_law_25 rfl rfl ?_
    refine a_alenT (n := 27) dL_law_26 rfl hW hL.2.2.2.2.1 ?_
    refine a_bipush (n := 29) dL_law_27 rfl ⟨by decide, by decide⟩ (by decide) ?_
    refine a_isub (n := 30) dL_law_29 rfl ⟨by omega, by omega⟩ ?_
    refine a_icmp_gt (t := 1295) (n := 33) dL_law_30 rfl rfl (fun c => ?_) (fun c => ?_)
    · refine a_iconst (n := 1296) dL_law_1295 rfl ⟨by decide, by decide⟩ ?_
      refine a_zreturn dL_law_1296 rfl (Or.inr rfl) ?_
      exact ⟨rfl, k, by omega, h⟩
    · exfalso; omega
  | succ m ih =>
    intro z hr hi hl i k x5 x6 hm i₀ i₁ ik h
    have hW := hL.2.2.2.2.2
    refine a_iload (n := 25) dL_law_23 rfl rfl ?_
    refine a_aload_n (n := 26) dL_law_25 rfl rfl ?_
    refine a_alenT (n := 27) dL_law_26 rfl hW hL.2.2.2.2.1 ?_
    refine a_bipush (n := 29) dL_law_27 rfl ⟨by decide, by decide⟩ (by decide) ?_
    refine a_isub (n := 30) dL_law_29 rfl ⟨by omega, by omega⟩ ?_
    refine a_icmp_gt (t := 1295) (n := 33) dL_law_30 rfl rfl (fun c => ?_) (fun c => ?_)
    · refine a_iconst (n := 1296) dL_law_1295 rfl ⟨by decide, by decide⟩ ?_
      refine a_zreturn dL_law_1296 rfl (Or.inr rfl) ?_
      exact ⟨rfl, k, by omega, h⟩
    · have tl : ∀ {z : aZ} {hr : aR} {hi hl : aI} (x5 x6 : Option aV), RR (k + 1) z hr hi hl → a_wp G mL_law (d + 31) 1289 (lawL i x5 x6) [] z hr hi hl (lawQ N) := fun x5 x6 h' => by
        refine b_iinc (n := 1292) dL_law_1289 rfl (by decide) rfl rfl ⟨by omega, by omega⟩ ?_
        refine a_goto (t := 23) dL_law_1292 rfl ?_
        exact ih (i + 7) (k + 1) x5 x6 (by omega) (by omega) (by omega) (by omega) h'
      refine a_aload_n (n := 34) dL_law_33 rfl rfl ?_
      refine a_iload (n := 36) dL_law_34 rfl rfl ?_
      refine a_ialdX (n := 37) dL_law_36 rfl hW (by omega) (by omega) ?_
      refine a_bipush (n := 39) dL_law_37 rfl ⟨by decide, by decide⟩ (by decide) ?_
      refine a_iand (n := 40) dL_law_39 rfl ?_
      generalize b_and (xs i.toNat).toInt 31 = w
      by_cases hw : w < 0 ∨ 24 < w
      · exact a_tableOut (t := 1289) dL_law_40 hw rfl (tl _ _ h.k1)
      · have hx : w = 0 ∨ w = 1 ∨ w = 2 ∨ w = 3 ∨ w = 4 ∨ w = 5 ∨ w = 6 ∨ w = 7 ∨ w = 8 ∨ w = 9 ∨ w = 10 ∨ w = 11 ∨ w = 12 ∨ w = 13 ∨ w = 14 ∨ w = 15 ∨ w = 16 ∨ w = 17 ∨ w = 18 ∨ w = 19 ∨ w = 20 ∨ w = 21 ∨ w = 22 ∨ w = 23 ∨ w = 24 := by omega
        rcases hx with rfl | rfl | rfl | rfl | rfl | rfl | rfl | rfl | rfl | rfl | rfl | rfl | rfl | rfl | rfl | rfl | rfl | rfl | rfl | rfl | rfl | rfl | rfl | rfl | rfl
        · exact a_tableIn (off := 116) (t := 156) dL_law_40 (by decide) (by decide) rfl rfl (w_156 hL hN9 h i₀ (by omega) ik tl)
        · exact a_tableIn (off := 141) (t := 181) dL_law_40 (by decide) (by decide) rfl rfl (w_181 hL hN9 h i₀ (by omega) ik tl)
        · exact a_tableIn (off := 178) (t := 218) dL_law_40 (by decide) (by decide) rfl rfl (w_218 hL hN9 h i₀ (by omega) ik tl)
        · exact a_tableIn (off := 227) (t := 267) dL_law_40 (by decide) (by decide) rfl rfl (w_267 hL hN9 h i₀ (by omega) ik tl)
        · exact a_tableIn (off := 264) (t := 304) dL_law_40 (by decide) (by decide) rfl rfl (w_304 hL hN9 h i₀ (by omega) ik tl)
        · exact a_tableIn (off := 301) (t := 341) dL_law_40 (by decide) (by decide) rfl rfl (w_341 hL hN9 h i₀ (by omega) ik tl)
        · exact a_tableIn (off := 362) (t := 402) dL_law_40 (by decide) (by decide) rfl rfl (w_402 hL hN9 h i₀ (by omega) ik tl)
        · exact a_tableIn (off := 399) (t := 439) dL_law_40 (by decide) (by decide) rfl rfl (w_439 hL hN9 h i₀ (by omega) ik tl)
        · exact a_tableIn (off := 436) (t := 476) dL_law_40 (by decide) (by decide) rfl rfl (w_476 hL hN9 h i₀ (by omega) ik tl)
        · exact a_tableIn (off := 516) (t := 556) dL_law_40 (by decide) (by decide) rfl rfl (w_556 hL hN9 h i₀ (by omega) ik tl)
        · exact a_tableIn (off := 565) (t := 605) dL_law_40 (by decide) (by decide) rfl rfl (w_605 hL hN9 h i₀ (by omega) ik tl)
        · exact a_tableIn (off := 614) (t := 654) dL_law_40 (by decide) (by decide) rfl rfl (w_654 hL hN9 h i₀ (by omega) ik tl)
        · exact a_tableIn (off := 687) (t := 727) dL_law_40 (by decide) (by decide) rfl rfl (w_727 hL hN9 h i₀ (by omega) ik tl)
        · exact a_tableIn (off := 724) (t := 764) dL_law_40 (by decide) (by decide) rfl rfl (w_764 hL hN9 h i₀ (by omega) ik tl)
        · exact a_tableIn (off := 737) (t := 777) dL_law_40 (by decide) (by decide) rfl rfl (w_777 hL hN9 h i₀ (by omega) ik tl)
        · exact a_tableIn (off := 884) (t := 924) dL_law_40 (by decide) (by decide) rfl rfl (w_924 hL hN9 h i₀ (by omega) ik tl)
        · exact a_tableIn (off := 897) (t := 937) dL_law_40 (by decide) (by decide) rfl rfl (w_937 hL hN9 h i₀ (by omega) ik tl)
        · exact a_tableIn (off := 946) (t := 986) dL_law_40 (by decide) (by decide) rfl rfl (w_986 hL hN9 h i₀ (by omega) ik tl)
        · exact a_tableIn (off := 995) (t := 1035) dL_law_40 (by decide) (by decide) rfl rfl (w_1035 hL hN9 h i₀ (by omega) ik tl)
        · exact a_tableIn (off := 1032) (t := 1072) dL_law_40 (by decide) (by decide) rfl rfl (w_1072 hL hN9 h i₀ (by omega) ik tl)
        · exact a_tableIn (off := 1069) (t := 1109) dL_law_40 (by decide) (by decide) rfl rfl (w_1109 hL hN9 h i₀ (by omega) ik tl)
        · exact a_tableIn (off := 1094) (t := 1134) dL_law_40 (by decide) (by decide) rfl rfl (w_1134 hL hN9 h i₀ (by omega) ik tl)
        · exact a_tableIn (off := 1119) (t := 1159) dL_law_40 (by decide) (by decide) rfl rfl (w_1159 hL hN9 h i₀ (by omega) ik tl)
        · exact a_tableIn (off := 1156) (t := 1196) dL_law_40 (by decide) (by decide) rfl rfl (w_1196 hL hN9 h i₀ (by omega) ik tl)
        · exact a_tableIn (off := 1224) (t := 1264) dL_law_40 (by decide) (by decide) rfl rfl (w_1264 hL hN9 h i₀ (by omega) ik tl)
end LAW3
