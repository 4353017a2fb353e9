/-- the worth of codes: f is the pile -/
def wU (f : Int → Int) (i v : Int) : Int → Int := fun j => if j = i then v else f j
def jn (c a b : Int) : Int := if c = 3 then a + b else if c = 4 then a - b else if c = 5 then (if a < b then 1 else 0) else if c = 6 then (if a = b then 1 else 0) else (if ¬ a = 0 ∧ ¬ b = 0 then 1 else 0)
def wR (op one kn : Int → Int) : Nat → Int → Int → (Int → Int) → Option (Int × (Int → Int))
  | 0, _, _, _ => none
  | n + 1, i, t, f => if ¬ (0 ≤ i ∧ i < 1320) then none else if op i = 0 then some (f 0, f)
    else if op i = 1 ∨ op i = 2 then (if ¬ (0 ≤ t ∧ t < 660 ∧ (op i = 2 → 0 ≤ one i ∧ one i < 7)) then none else wR op one kn n (i + 1) (t + 1) (wU f t (if op i = 1 then one i else kn (one i))))
    else if ¬ (2 ≤ t ∧ t ≤ 660 ∧ (-2000000000 ≤ f (t - 2) + f (t - 1) ∧ f (t - 2) + f (t - 1) ≤ 2000000000) ∧ (-2000000000 ≤ f (t - 2) - f (t - 1) ∧ f (t - 2) - f (t - 1) ≤ 2000000000)) then none
    else wR op one kn n (i + 1) (t - 1) (wU f (t - 2) (jn (op i) (f (t - 2)) (f (t - 1))))
def pil (hi : aI) (f : Int → Int) : aI := fun b j => if b = 52 then f j else hi b j
theorem pil_eq (hi : aI) (f : Int → Int) (b : Nat) (j : Int) : pil hi f b j = if b = 52 then f j else hi b j := rfl
theorem pil_0 {hi : aI} : pil hi (hi 52) = hi := by
  funext b j
  rw [pil_eq]
  split
  · rename_i h; rw [h]
  · rfl
theorem pil_u {hi : aI} {f : Int → Int} {i v : Int} : up2 (pil hi f) 52 i v = pil hi (wU f i v) := by
  funext b j
  rw [up2_eq, pil_eq, pil_eq, wU]
  by_cases h : b = 52
  · by_cases k : j = i
    · rw [if_pos ⟨h, k⟩, if_pos h, if_pos k]
    · rw [if_neg (fun q => k q.2), if_pos h, if_pos h, if_neg k]
  · rw [if_neg (fun q => h q.1), if_neg h, if_neg h]
theorem pil_n {hi : aI} {f : Int → Int} {b : Nat} (h : b ≠ 52) : pil hi f b = hi b := by
  funext j
  rw [pil_eq, if_neg h]
theorem pil_p {hi : aI} {f g : Int → Int} : pil (pil hi f) g = pil hi g := by
  funext b j
  rw [pil_eq, pil_eq, pil_eq]
  split <;> rfl
section M21
variable {G : aG} {d : Nat} {z : aZ} {hr : aR} {hi hl : aI}
set_option maxRecDepth 100000 in
set_option maxHeartbeats 4000000 in
theorem wo_4 (hz : stZ z) (hR : stR hr) {fr v : Int} {g : Int → Int} (n : Nat) : ∀ (i t : Int) (f : Int → Int) (x4 x5 x6 : Option aV), wR (hi 46) (hi 47) (hi 51) n i t f = some (v, g) → a_wp G mX10_worth d 4 [some (vR 37), some (vI fr), some (vI i), some (vI t), x4, x5, x6] [] z hr (pil hi f) hl (fun r z' hr' hi' hl' => z' = z ∧ hr' = hr ∧ hl' = hl ∧ r = some (vI v) ∧ hi' = pil hi g) := by
  induction n with
  | zero => intro i t f x4 x5 x6 h; cases h
  | succ n ih =>
    intro i t f x4 x5 x6 hrun
    rw [wR] at hrun
    by_cases hI : 0 ≤ i ∧ i < 1320
    case neg => rw [if_pos hI] at hrun; cases hrun
    rw [if_neg (not_not_intro hI)] at hrun
    refine a_aload_n (n := 5) dX10_worth_4 rfl rfl ?_
    refine a_getR (n := 8) dX10_worth_5 rfl fX10_69 (s37 hz) (r37_13 hR) ?_
    refine a_iload_n (n := 9) dX10_worth_8 rfl rfl ?_
    refine a_iald (n := 10) dX10_worth_9 rfl (s46 hz) (by omega) (by omega) ?_
    try simp only [up2_eq, pil_eq, Nat.reduceEqDiff, Int.reduceEq, Int.reduceNeg, and_true, true_and, and_false, false_and, and_self, if_true, if_false, ite_true, ite_false, reduceIte, eq_self]
    refine a_if_eq (t := 192) (n := 13) dX10_worth_10 rfl rfl (fun c10 => ?_) (fun c10 => ?_)
    · refine a_aload_n (n := 193) dX10_worth_192 rfl rfl ?_
      refine a_getR (n := 196) dX10_worth_193 rfl fX10_87 (s37 hz) (r37_23 hR) ?_
      refine a_iconst (n := 197) dX10_worth_196 rfl ⟨by decide, by decide⟩ ?_
      refine a_iald (n := 198) dX10_worth_197 rfl (s52 hz) (by omega) (by omega) ?_
      try simp only [up2_eq, pil_eq, Nat.reduceEqDiff, Int.reduceEq, Int.reduceNeg, and_true, true_and, and_false, false_and, and_self, if_true, if_false, ite_true, ite_false, reduceIte, eq_self]
      refine a_ireturn dX10_worth_198 rfl ?_
      rw [if_pos c10] at hrun
      obtain ⟨rfl, rfl⟩ := Prod.mk.inj (Option.some.inj hrun)
      exact ⟨rfl, rfl, rfl, rfl, rfl⟩
    · rw [if_neg c10] at hrun
      refine a_aload_n (n := 14) dX10_worth_13 rfl rfl ?_
      refine a_getR (n := 17) dX10_worth_14 rfl fX10_69 (s37 hz) (r37_13 hR) ?_
      refine a_iload_n (n := 18) dX10_worth_17 rfl rfl ?_
      refine a_iald (n := 19) dX10_worth_18 rfl (s46 hz) (by omega) (by omega) ?_
      try simp only [up2_eq, pil_eq, Nat.reduceEqDiff, Int.reduceEq, Int.reduceNeg, and_true, true_and, and_false, false_and, and_self, if_true, if_false, ite_true, ite_false, reduceIte, eq_self]
      refine b_istore (n := 21) dX10_worth_19 rfl (by decide) rfl ?_
      refine a_iload (n := 23) dX10_worth_21 rfl rfl ?_
      refine a_iconst (n := 24) dX10_worth_23 rfl ⟨by decide, by decide⟩ ?_
      refine a_icmp_eq (t := 33) (n := 27) dX10_worth_24 rfl rfl (fun c24 => ?_) (fun c24 => ?_)
      · rw [if_pos (Or.inl c24)] at hrun
        by_cases hG : 0 ≤ t ∧ t < 660 ∧ (hi 46 i = 2 → 0 ≤ hi 47 i ∧ hi 47 i < 7)
        case neg => rw [if_pos hG] at hrun; cases hrun
        rw [if_neg (not_not_intro hG)] at hrun
        refine a_aload_n (n := 34) dX10_worth_33 rfl rfl ?_
        refine a_getR (n := 37) dX10_worth_34 rfl fX10_87 (s37 hz) (r37_23 hR) ?_
        refine a_iload_n (n := 38) dX10_worth_37 rfl rfl ?_
        refine a_iload (n := 40) dX10_worth_38 rfl rfl ?_
        refine a_iconst (n := 41) dX10_worth_40 rfl ⟨by decide, by decide⟩ ?_
        refine a_icmp_ne (t := 53) (n := 44) dX10_worth_41 rfl rfl (fun c41 => ?_) (fun c41 => ?_)
        · omega
        · refine a_aload_n (n := 45) dX10_worth_44 rfl rfl ?_
          refine a_getR (n := 48) dX10_worth_45 rfl fX10_72 (s37 hz) (r37_14 hR) ?_
          refine a_iload_n (n := 49) dX10_worth_48 rfl rfl ?_
          refine a_iald (n := 50) dX10_worth_49 rfl (s47 hz) (by omega) (by omega) ?_
          try simp only [up2_eq, pil_eq, Nat.reduceEqDiff, Int.reduceEq, Int.reduceNeg, and_true, true_and, and_false, false_and, and_self, if_true, if_false, ite_true, ite_false, reduceIte, eq_self]
          refine a_goto (t := 64) dX10_worth_50 rfl ?_
          refine a_iast (n := 65) dX10_worth_64 rfl (s52 hz) (by omega) (by omega) ?_
          refine b_iinc (n := 68) dX10_worth_65 rfl (by decide) rfl rfl ⟨by omega, by omega⟩ ?_
          refine a_goto (t := 186) dX10_worth_68 rfl ?_
          refine b_iinc (n := 189) dX10_worth_186 rfl (by decide) rfl rfl ⟨by omega, by omega⟩ ?_
          refine a_goto (t := 4) dX10_worth_189 rfl ?_
          rw [if_pos (by omega)] at hrun
          rw [pil_u]
          exact ih _ _ _ _ _ _ hrun
      · refine a_iload (n := 29) dX10_worth_27 rfl rfl ?_
        refine a_iconst (n := 30) dX10_worth_29 rfl ⟨by decide, by decide⟩ ?_
        refine a_icmp_ne (t := 71) (n := 33) dX10_worth_30 rfl rfl (fun c30 => ?_) (fun c30 => ?_)
        · rw [if_neg (by omega)] at hrun
          by_cases hG : 2 ≤ t ∧ t ≤ 660 ∧ (-2000000000 ≤ f (t - 2) + f (t - 1) ∧ f (t - 2) + f (t - 1) ≤ 2000000000) ∧ (-2000000000 ≤ f (t - 2) - f (t - 1) ∧ f (t - 2) - f (t - 1) ≤ 2000000000)
          case neg => rw [if_pos hG] at hrun; cases hrun
          rw [if_neg (not_not_intro hG)] at hrun
          refine b_iinc (n := 74) dX10_worth_71 rfl (by decide) rfl rfl ⟨by omega, by omega⟩ ?_
          rw [show t + -1 = t - 1 by omega]
          refine a_aload_n (n := 75) dX10_worth_74 rfl rfl ?_
          refine a_getR (n := 78) dX10_worth_75 rfl fX10_87 (s37 hz) (r37_23 hR) ?_
          refine a_iload_n (n := 79) dX10_worth_78 rfl rfl ?_
          refine a_iald (n := 80) dX10_worth_79 rfl (s52 hz) (by omega) (by omega) ?_
          try simp only [up2_eq, pil_eq, Nat.reduceEqDiff, Int.reduceEq, Int.reduceNeg, and_true, true_and, and_false, false_and, and_self, if_true, if_false, ite_true, ite_false, reduceIte, eq_self]
          refine b_istore (n := 82) dX10_worth_80 rfl (by decide) rfl ?_
          refine a_aload_n (n := 83) dX10_worth_82 rfl rfl ?_
          refine a_getR (n := 86) dX10_worth_83 rfl fX10_87 (s37 hz) (r37_23 hR) ?_
          refine a_iload_n (n := 87) dX10_worth_86 rfl rfl ?_
          refine a_iconst (n := 88) dX10_worth_87 rfl ⟨by decide, by decide⟩ ?_
          refine a_isub (n := 89) dX10_worth_88 rfl ⟨by omega, by omega⟩ ?_
          refine a_iald (n := 90) dX10_worth_89 rfl (s52 hz) (by omega) (by omega) ?_
          try simp only [up2_eq, pil_eq, Nat.reduceEqDiff, Int.reduceEq, Int.reduceNeg, and_true, true_and, and_false, false_and, and_self, if_true, if_false, ite_true, ite_false, reduceIte, eq_self]
          refine b_istore (n := 92) dX10_worth_90 rfl (by decide) rfl ?_
          simp only [show t - 1 - 1 = t - 2 by omega]
          refine a_aload_n (n := 93) dX10_worth_92 rfl rfl ?_
          refine a_getR (n := 96) dX10_worth_93 rfl fX10_87 (s37 hz) (r37_23 hR) ?_
          refine a_iload_n (n := 97) dX10_worth_96 rfl rfl ?_
          refine a_iconst (n := 98) dX10_worth_97 rfl ⟨by decide, by decide⟩ ?_
          refine a_isub (n := 99) dX10_worth_98 rfl ⟨by omega, by omega⟩ ?_
          simp only [show t - 1 - 1 = t - 2 by omega]
          refine a_iload (n := 101) dX10_worth_99 rfl rfl ?_
          refine a_iconst (n := 102) dX10_worth_101 rfl ⟨by decide, by decide⟩ ?_
          refine a_icmp_ne (t := 113) (n := 105) dX10_worth_102 rfl rfl (fun c102 => ?_) (fun c102 => ?_)
          · refine a_iload (n := 115) dX10_worth_113 rfl rfl ?_
            refine a_iconst (n := 116) dX10_worth_115 rfl ⟨by decide, by decide⟩ ?_
            refine a_icmp_ne (t := 127) (n := 119) dX10_worth_116 rfl rfl (fun c116 => ?_) (fun c116 => ?_)
            · refine a_iload (n := 129) dX10_worth_127 rfl rfl ?_
              refine a_iconst (n := 130) dX10_worth_129 rfl ⟨by decide, by decide⟩ ?_
              refine a_icmp_ne (t := 148) (n := 133) dX10_worth_130 rfl rfl (fun c130 => ?_) (fun c130 => ?_)
              · refine a_iload (n := 150) dX10_worth_148 rfl rfl ?_
                refine a_bipush (n := 152) dX10_worth_150 rfl ⟨by decide, by decide⟩ (by decide) ?_
                refine a_icmp_ne (t := 170) (n := 155) dX10_worth_152 rfl rfl (fun c152 => ?_) (fun c152 => ?_)
                · refine a_iload (n := 172) dX10_worth_170 rfl rfl ?_
                  refine a_if_eq (t := 184) (n := 175) dX10_worth_172 rfl rfl (fun c172 => ?_) (fun c172 => ?_)
                  · refine a_iconst (n := 185) dX10_worth_184 rfl ⟨by decide, by decide⟩ ?_
                    refine a_iast (n := 186) dX10_worth_185 rfl (s52 hz) (by omega) (by omega) ?_
                    refine b_iinc (n := 189) dX10_worth_186 rfl (by decide) rfl rfl ⟨by omega, by omega⟩ ?_
                    refine a_goto (t := 4) dX10_worth_189 rfl ?_
                    rw [jn, if_neg (by omega), if_neg (by omega), if_neg (by omega), if_neg (by omega), if_neg (by omega)] at hrun
                    rw [pil_u]
                    exact ih _ _ _ _ _ _ hrun
                  · refine a_iload (n := 177) dX10_worth_175 rfl rfl ?_
                    refine a_if_eq (t := 184) (n := 180) dX10_worth_177 rfl rfl (fun c177 => ?_) (fun c177 => ?_)
                    · refine a_iconst (n := 185) dX10_worth_184 rfl ⟨by decide, by decide⟩ ?_
                      refine a_iast (n := 186) dX10_worth_185 rfl (s52 hz) (by omega) (by omega) ?_
                      refine b_iinc (n := 189) dX10_worth_186 rfl (by decide) rfl rfl ⟨by omega, by omega⟩ ?_
                      refine a_goto (t := 4) dX10_worth_189 rfl ?_
                      rw [jn, if_neg (by omega), if_neg (by omega), if_neg (by omega), if_neg (by omega), if_neg (by omega)] at hrun
                      rw [pil_u]
                      exact ih _ _ _ _ _ _ hrun
                    · refine a_iconst (n := 181) dX10_worth_180 rfl ⟨by decide, by decide⟩ ?_
                      refine a_goto (t := 185) dX10_worth_181 rfl ?_
                      refine a_iast (n := 186) dX10_worth_185 rfl (s52 hz) (by omega) (by omega) ?_
                      refine b_iinc (n := 189) dX10_worth_186 rfl (by decide) rfl rfl ⟨by omega, by omega⟩ ?_
                      refine a_goto (t := 4) dX10_worth_189 rfl ?_
                      rw [jn, if_neg (by omega), if_neg (by omega), if_neg (by omega), if_neg (by omega), if_pos ⟨by omega, by omega⟩] at hrun
                      rw [pil_u]
                      exact ih _ _ _ _ _ _ hrun
                · refine a_iload (n := 157) dX10_worth_155 rfl rfl ?_
                  refine a_iload (n := 159) dX10_worth_157 rfl rfl ?_
                  refine a_icmp_ne (t := 166) (n := 162) dX10_worth_159 rfl rfl (fun c159 => ?_) (fun c159 => ?_)
                  · refine a_iconst (n := 167) dX10_worth_166 rfl ⟨by decide, by decide⟩ ?_
                    refine a_goto (t := 185) dX10_worth_167 rfl ?_
                    refine a_iast (n := 186) dX10_worth_185 rfl (s52 hz) (by omega) (by omega) ?_
                    refine b_iinc (n := 189) dX10_worth_186 rfl (by decide) rfl rfl ⟨by omega, by omega⟩ ?_
                    refine a_goto (t := 4) dX10_worth_189 rfl ?_
                    rw [jn, if_neg (by omega), if_neg (by omega), if_neg (by omega), if_pos (by omega), if_neg (by omega)] at hrun
                    rw [pil_u]
                    exact ih _ _ _ _ _ _ hrun
                  · refine a_iconst (n := 163) dX10_worth_162 rfl ⟨by decide, by decide⟩ ?_
                    refine a_goto (t := 185) dX10_worth_163 rfl ?_
                    refine a_iast (n := 186) dX10_worth_185 rfl (s52 hz) (by omega) (by omega) ?_
                    refine b_iinc (n := 189) dX10_worth_186 rfl (by decide) rfl rfl ⟨by omega, by omega⟩ ?_
                    refine a_goto (t := 4) dX10_worth_189 rfl ?_
                    rw [jn, if_neg (by omega), if_neg (by omega), if_neg (by omega), if_pos (by omega), if_pos (by omega)] at hrun
                    rw [pil_u]
                    exact ih _ _ _ _ _ _ hrun
              · refine a_iload (n := 135) dX10_worth_133 rfl rfl ?_
                refine a_iload (n := 137) dX10_worth_135 rfl rfl ?_
                refine a_icmp_ge (t := 144) (n := 140) dX10_worth_137 rfl rfl (fun c137 => ?_) (fun c137 => ?_)
                · refine a_iconst (n := 145) dX10_worth_144 rfl ⟨by decide, by decide⟩ ?_
                  refine a_goto (t := 185) dX10_worth_145 rfl ?_
                  refine a_iast (n := 186) dX10_worth_185 rfl (s52 hz) (by omega) (by omega) ?_
                  refine b_iinc (n := 189) dX10_worth_186 rfl (by decide) rfl rfl ⟨by omega, by omega⟩ ?_
                  refine a_goto (t := 4) dX10_worth_189 rfl ?_
                  rw [jn, if_neg (by omega), if_neg (by omega), if_pos (by omega), if_neg (by omega)] at hrun
                  rw [pil_u]
                  exact ih _ _ _ _ _ _ hrun
                · refine a_iconst (n := 141) dX10_worth_140 rfl ⟨by decide, by decide⟩ ?_
                  refine a_goto (t := 185) dX10_worth_141 rfl ?_
                  refine a_iast (n := 186) dX10_worth_185 rfl (s52 hz) (by omega) (by omega) ?_
                  refine b_iinc (n := 189) dX10_worth_186 rfl (by decide) rfl rfl ⟨by omega, by omega⟩ ?_
                  refine a_goto (t := 4) dX10_worth_189 rfl ?_
                  rw [jn, if_neg (by omega), if_neg (by omega), if_pos (by omega), if_pos (by omega)] at hrun
                  rw [pil_u]
                  exact ih _ _ _ _ _ _ hrun
            · refine a_iload (n := 121) dX10_worth_119 rfl rfl ?_
              refine a_iload (n := 123) dX10_worth_121 rfl rfl ?_
              refine a_isub (n := 124) dX10_worth_123 rfl ⟨by omega, by omega⟩ ?_
              refine a_goto (t := 185) dX10_worth_124 rfl ?_
              refine a_iast (n := 186) dX10_worth_185 rfl (s52 hz) (by omega) (by omega) ?_
              refine b_iinc (n := 189) dX10_worth_186 rfl (by decide) rfl rfl ⟨by omega, by omega⟩ ?_
              refine a_goto (t := 4) dX10_worth_189 rfl ?_
              rw [jn, if_neg (by omega), if_pos (by omega)] at hrun
              rw [pil_u]
              exact ih _ _ _ _ _ _ hrun
          · refine a_iload (n := 107) dX10_worth_105 rfl rfl ?_
            refine a_iload (n := 109) dX10_worth_107 rfl rfl ?_
            refine a_iadd (n := 110) dX10_worth_109 rfl ⟨by omega, by omega⟩ ?_
            refine a_goto (t := 185) dX10_worth_110 rfl ?_
            refine a_iast (n := 186) dX10_worth_185 rfl (s52 hz) (by omega) (by omega) ?_
            refine b_iinc (n := 189) dX10_worth_186 rfl (by decide) rfl rfl ⟨by omega, by omega⟩ ?_
            refine a_goto (t := 4) dX10_worth_189 rfl ?_
            rw [jn, if_pos (by omega)] at hrun
            rw [pil_u]
            exact ih _ _ _ _ _ _ hrun
        · rw [if_pos (Or.inr (by omega))] at hrun
          by_cases hG : 0 ≤ t ∧ t < 660 ∧ (hi 46 i = 2 → 0 ≤ hi 47 i ∧ hi 47 i < 7)
          case neg => rw [if_pos hG] at hrun; cases hrun
          rw [if_neg (not_not_intro hG)] at hrun
          refine a_aload_n (n := 34) dX10_worth_33 rfl rfl ?_
          refine a_getR (n := 37) dX10_worth_34 rfl fX10_87 (s37 hz) (r37_23 hR) ?_
          refine a_iload_n (n := 38) dX10_worth_37 rfl rfl ?_
          refine a_iload (n := 40) dX10_worth_38 rfl rfl ?_
          refine a_iconst (n := 41) dX10_worth_40 rfl ⟨by decide, by decide⟩ ?_
          refine a_icmp_ne (t := 53) (n := 44) dX10_worth_41 rfl rfl (fun c41 => ?_) (fun c41 => ?_)
          · refine a_aload_n (n := 54) dX10_worth_53 rfl rfl ?_
            refine a_getR (n := 57) dX10_worth_54 rfl fX10_84 (s37 hz) (r37_22 hR) ?_
            refine a_aload_n (n := 58) dX10_worth_57 rfl rfl ?_
            refine a_getR (n := 61) dX10_worth_58 rfl fX10_72 (s37 hz) (r37_14 hR) ?_
            refine a_iload_n (n := 62) dX10_worth_61 rfl rfl ?_
            refine a_iald (n := 63) dX10_worth_62 rfl (s47 hz) (by omega) (by omega) ?_
            try simp only [up2_eq, pil_eq, Nat.reduceEqDiff, Int.reduceEq, Int.reduceNeg, and_true, true_and, and_false, false_and, and_self, if_true, if_false, ite_true, ite_false, reduceIte, eq_self]
            refine a_iald (n := 64) dX10_worth_63 rfl (s51 hz) (by omega) (by omega) ?_
            try simp only [up2_eq, pil_eq, Nat.reduceEqDiff, Int.reduceEq, Int.reduceNeg, and_true, true_and, and_false, false_and, and_self, if_true, if_false, ite_true, ite_false, reduceIte, eq_self]
            refine a_iast (n := 65) dX10_worth_64 rfl (s52 hz) (by omega) (by omega) ?_
            refine b_iinc (n := 68) dX10_worth_65 rfl (by decide) rfl rfl ⟨by omega, by omega⟩ ?_
            refine a_goto (t := 186) dX10_worth_68 rfl ?_
            refine b_iinc (n := 189) dX10_worth_186 rfl (by decide) rfl rfl ⟨by omega, by omega⟩ ?_
            refine a_goto (t := 4) dX10_worth_189 rfl ?_
            rw [if_neg (by omega)] at hrun
            rw [pil_u]
            exact ih _ _ _ _ _ _ hrun
          · omega
set_option maxRecDepth 100000 in
set_option maxHeartbeats 4000000 in
theorem m_worth (hz : stZ z) (hR : stR hr) {fr v : Int} {g : Int → Int} {n : Nat} (hrun : wR (hi 46) (hi 47) (hi 51) n fr 0 (hi 52) = some (v, g)) : a_ct G mX10_worth (d + 0) [vR 37, vI fr] z hr hi hl (fun r z' hr' hi' hl' => z' = z ∧ hr' = hr ∧ hl' = hl ∧ r = some (vI v) ∧ hi' = pil hi g) := by
  refine a_ct_of rfl (Nat.le_of_ble_eq_true rfl) ?_
  refine a_iload_n (n := 1) dX10_worth_0 rfl rfl ?_
  refine b_istore_n (n := 2) dX10_worth_1 rfl (by decide) rfl ?_
  refine a_iconst (n := 3) dX10_worth_2 rfl ⟨by decide, by decide⟩ ?_
  refine b_istore_n (n := 4) dX10_worth_3 rfl (by decide) rfl ?_
  have K := wo_4 (G := G) (d := d) (z := z) (hr := hr) (hi := hi) (hl := hl) (fr := fr) (v := v) (g := g) hz hR n fr 0 (hi 52) none none none hrun
  rw [pil_0] at K
  exact K
end M21
