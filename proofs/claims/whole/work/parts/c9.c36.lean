section C36
variable {G : aG} {d : Nat} {z : aZ} {hr : aR} {hi hl : aI}
set_option maxRecDepth 100000 in
set_option maxHeartbeats 4000000 in
theorem c_mayC22 (hz : stZ z) (hR : stR hr) (hn : 0 ≤ hi 0 9 ∧ hi 0 9 ≤ 40) (hW : cP z hr hi) (h80 : ∀ q, 0 ≤ q → q < hi 0 9 → 81 ≤ pC hr q) (hru : hr 0 8 = some 22) {p h a v t2 : Int} {g : Int → Int} (hc : 0 ≤ hi 3 7 ∧ hi 3 7 ≤ 100) (hg : 0 ≤ hi 3 6 ∧ hi 3 6 ≤ 300) (hf : ∀ x, 0 ≤ cJoin hi x (hi 0 11)) (hL : 0 ≤ hi 22 7 ∧ hi 22 7 ≤ 16) (hlt : ∀ l, 0 ≤ l → l < 16 → hi 26 l = 0 ∨ hi 26 l = 1) (hrun0 : (0 ≤ p ∧ p < hi 0 9) ∧ (0 ≤ h ∧ h ≤ 99) ∧ (0 ≤ a ∧ a ≤ 9) → (v = 0 ∨ v = 1) ∧ cLe (hi 23) (hi 24) (cKn hr hi p h a 30) (hi 25) (hi 26) (hi 22 7).toNat 0 0 (hi 22 5) (hi 27) = some (v, g, t2)) : a_ct G mX9_may (d + 4) [vR 0, vI p, vI h, vI a] z hr hi hl (fun r z' hr' hi' hl' => z' = z ∧ hr' = hr ∧ hl' = hl ∧ (((0 ≤ p ∧ p < hi 0 9) ∧ (0 ≤ h ∧ h ≤ 99) ∧ (0 ≤ a ∧ a ≤ 9)) ∧ r = some (vI v) ∧ hi' = vH22 (cKn hr hi p h a) g t2 ∨ ¬ ((0 ≤ p ∧ p < hi 0 9) ∧ (0 ≤ h ∧ h ≤ 99) ∧ (0 ≤ a ∧ a ≤ 9)) ∧ r = some (vI (-1)) ∧ hi' = hi)) := by
  refine a_ct_of rfl (Nat.le_of_ble_eq_true rfl) ?_
  refine a_aload_n (n := 1) dX9_may_0 rfl rfl ?_
  refine a_iload_n (n := 2) dX9_may_1 rfl rfl ?_
  refine a_callV (M2 := mX9_plantAt) (n := 5) dX9_may_2 rfl (c_plantAt (d := d + 2) hz hR hn) kX9_plantAt lX9_89 iX9_plantAt eX9_plantAt (by decide) (by omega) (s0 hz) rfl (Nat.le_of_ble_eq_true rfl) (fun q2 z2 hr2 hi2 hl2 h2 => ?_)
  obtain ⟨e12, e22, e32, e42, h2⟩ := h2
  obtain rfl := e12.symm
  obtain rfl := e22.symm
  obtain rfl := e32.symm
  obtain rfl := e42.symm
  rcases h2 with ⟨hp2, rfl⟩ | ⟨hp2, rfl⟩
  · obtain ⟨f12, f22, f32, f42⟩ := hW.at_ hp2.1 hp2.2
    rw [f12]
    show a_wp G _ _ _ _ (vR (pC hr p) :: _) _ _ _ _ _
    have f80 := h80 p hp2.1 hp2.2
    refine b_astore (n := 7) dX9_may_5 rfl (by decide) rfl ?_
    refine a_aload (n := 9) dX9_may_7 rfl rfl ?_
    refine a_ifnull (t := 32) (n := 12) dX9_may_9 rfl rfl (fun c9 => ?_) (fun p9 c9 => ?_)
    · cases c9
    · refine a_iload_n (n := 13) dX9_may_12 rfl rfl ?_
      refine a_iconst (n := 14) dX9_may_13 rfl ⟨by decide, by decide⟩ ?_
      refine a_bipush (n := 16) dX9_may_14 rfl ⟨by decide, by decide⟩ (by decide) ?_
      refine a_callS (M2 := mX9_within) (n := 19) dX9_may_16 rfl (c_within (d := d + 2)) kX9_within lX9_67 sX9_within (by omega) rfl (Nat.le_of_ble_eq_true rfl) (fun q16 z16 hr16 hi16 hl16 h16 => ?_)
      obtain ⟨e116, e216, e316, e416, b16, rfl, hb16⟩ := h16
      obtain rfl := e116.symm
      obtain rfl := e216.symm
      obtain rfl := e316.symm
      obtain rfl := e416.symm
      show a_wp G _ _ _ _ (vI b16 :: _) _ _ _ _ _
      refine a_if_eq (t := 32) (n := 22) dX9_may_19 rfl rfl (fun c19 => ?_) (fun c19 => ?_)
      · replace hb16 := isB_f hb16 (by omega)
        refine a_iconst (n := 33) dX9_may_32 rfl ⟨by decide, by decide⟩ ?_
        refine a_ireturn dX9_may_33 rfl ?_
        exact ⟨rfl, rfl, rfl, Or.inr ⟨fun w => hb16 w.2.1, rfl, rfl⟩⟩
      · replace hb16 := isB_t hb16 (by omega)
        refine a_iload_n (n := 23) dX9_may_22 rfl rfl ?_
        refine a_iconst (n := 24) dX9_may_23 rfl ⟨by decide, by decide⟩ ?_
        refine a_bipush (n := 26) dX9_may_24 rfl ⟨by decide, by decide⟩ (by decide) ?_
        refine a_callS (M2 := mX9_within) (n := 29) dX9_may_26 rfl (c_within (d := d + 2)) kX9_within lX9_67 sX9_within (by omega) rfl (Nat.le_of_ble_eq_true rfl) (fun q26 z26 hr26 hi26 hl26 h26 => ?_)
        obtain ⟨e126, e226, e326, e426, b26, rfl, hb26⟩ := h26
        obtain rfl := e126.symm
        obtain rfl := e226.symm
        obtain rfl := e326.symm
        obtain rfl := e426.symm
        show a_wp G _ _ _ _ (vI b26 :: _) _ _ _ _ _
        refine a_if_ne (t := 34) (n := 32) dX9_may_29 rfl rfl (fun c29 => ?_) (fun c29 => ?_)
        · replace hb26 := isB_t hb26 (by omega)
          refine a_aload_n (n := 35) dX9_may_34 rfl rfl ?_
          refine a_getR (n := 38) dX9_may_35 rfl fX9_56 (s0 hz) (r0_7 hR) ?_
          refine a_iconst (n := 39) dX9_may_38 rfl ⟨by decide, by decide⟩ ?_
          refine a_aload (n := 41) dX9_may_39 rfl rfl ?_
          refine a_getI (n := 44) dX9_may_41 rfl fX9_204 f22 ?_
          try simp only [up2_30 f80]
          refine a_iast (n := 45) dX9_may_44 rfl (s30 hz) (by omega) (by omega) ?_
          refine a_aload_n (n := 46) dX9_may_45 rfl rfl ?_
          refine a_getR (n := 49) dX9_may_46 rfl fX9_56 (s0 hz) (r0_7 hR) ?_
          refine a_iconst (n := 50) dX9_may_49 rfl ⟨by decide, by decide⟩ ?_
          refine a_aload_n (n := 51) dX9_may_50 rfl rfl ?_
          refine a_getR (n := 54) dX9_may_51 rfl fX9_24 (s0 hz) (r0_2 hR) ?_
          refine a_iload_n (n := 55) dX9_may_54 rfl rfl ?_
          refine a_aload_n (n := 56) dX9_may_55 rfl rfl ?_
          refine a_getI (n := 59) dX9_may_56 rfl fX9_71 (s0 hz) ?_
          try simp only [up2_eq, Nat.reduceEqDiff, Int.reduceEq, Int.reduceNeg, and_true, true_and, and_false, false_and, and_self, if_true, if_false, ite_true, ite_false, reduceIte, eq_self]
          refine a_aload_n (n := 60) dX9_may_59 rfl rfl ?_
          refine a_getI (n := 63) dX9_may_60 rfl fX9_71 (s0 hz) ?_
          try simp only [up2_eq, Nat.reduceEqDiff, Int.reduceEq, Int.reduceNeg, and_true, true_and, and_false, false_and, and_self, if_true, if_false, ite_true, ite_false, reduceIte, eq_self]
          refine a_callV (M2 := mX2_nameOf) (n := 66) dX9_may_63 rfl (c_nameOf (d := d + 1) hz hR hc hg hf) kX2_nameOf lX9_127 iX2_nameOf eX2_nameOf (by decide) (by omega) (s3 hz) rfl (Nat.le_of_ble_eq_true rfl) (fun q63 z63 hr63 hi63 hl63 h63 => ?_)
          obtain ⟨e163, e263, e363, e463, rfl⟩ := h63
          obtain rfl := e163.symm
          obtain rfl := e263.symm
          obtain rfl := e363.symm
          obtain rfl := e463.symm
          show a_wp G _ _ _ _ (vI (mEnd (fun y => cJoin hi y (hi 0 11)) 50 (cGiven hi p (hi 0 11))) :: _) _ _ _ _ _
          refine a_iast (n := 67) dX9_may_66 rfl (s30 hz) (by omega) (by omega) ?_
          refine a_aload_n (n := 68) dX9_may_67 rfl rfl ?_
          refine a_getR (n := 71) dX9_may_68 rfl fX9_56 (s0 hz) (r0_7 hR) ?_
          refine a_iconst (n := 72) dX9_may_71 rfl ⟨by decide, by decide⟩ ?_
          refine a_iload_n (n := 73) dX9_may_72 rfl rfl ?_
          refine a_iast (n := 74) dX9_may_73 rfl (s30 hz) (by omega) (by omega) ?_
          refine a_aload_n (n := 75) dX9_may_74 rfl rfl ?_
          refine a_getR (n := 78) dX9_may_75 rfl fX9_56 (s0 hz) (r0_7 hR) ?_
          refine a_iconst (n := 79) dX9_may_78 rfl ⟨by decide, by decide⟩ ?_
          refine a_iload_n (n := 80) dX9_may_79 rfl rfl ?_
          refine a_iast (n := 81) dX9_may_80 rfl (s30 hz) (by omega) (by omega) ?_
          refine a_aload_n (n := 82) dX9_may_81 rfl rfl ?_
          refine a_getR (n := 85) dX9_may_82 rfl fX9_56 (s0 hz) (r0_7 hR) ?_
          refine a_iconst (n := 86) dX9_may_85 rfl ⟨by decide, by decide⟩ ?_
          refine a_aload (n := 88) dX9_may_86 rfl rfl ?_
          refine a_getI (n := 91) dX9_may_88 rfl fX9_207 f22 ?_
          try simp only [up2_30 f80]
          refine a_if_eq (t := 98) (n := 94) dX9_may_91 rfl rfl (fun c91 => ?_) (fun c91 => ?_)
          · refine a_iconst (n := 99) dX9_may_98 rfl ⟨by decide, by decide⟩ ?_
            refine a_iast (n := 100) dX9_may_99 rfl (s30 hz) (by omega) (by omega) ?_
            refine a_aload_n (n := 101) dX9_may_100 rfl rfl ?_
            refine a_getR (n := 104) dX9_may_101 rfl fX9_56 (s0 hz) (r0_7 hR) ?_
            refine a_iconst (n := 105) dX9_may_104 rfl ⟨by decide, by decide⟩ ?_
            refine a_aload (n := 107) dX9_may_105 rfl rfl ?_
            refine a_getI (n := 110) dX9_may_107 rfl fX9_96 f22 ?_
            try simp only [up2_30 f80]
            refine a_iast (n := 111) dX9_may_110 rfl (s30 hz) (by omega) (by omega) ?_
            refine a_aload_n (n := 112) dX9_may_111 rfl rfl ?_
            refine a_getR (n := 115) dX9_may_112 rfl fX9_56 (s0 hz) (r0_7 hR) ?_
            refine a_bipush (n := 117) dX9_may_115 rfl ⟨by decide, by decide⟩ (by decide) ?_
            refine a_aload_n (n := 118) dX9_may_117 rfl rfl ?_
            refine a_getI (n := 121) dX9_may_118 rfl fX9_71 (s0 hz) ?_
            try simp only [up2_eq, Nat.reduceEqDiff, Int.reduceEq, Int.reduceNeg, and_true, true_and, and_false, false_and, and_self, if_true, if_false, ite_true, ite_false, reduceIte, eq_self]
            refine a_iast (n := 122) dX9_may_121 rfl (s30 hz) (by omega) (by omega) ?_
            obtain ⟨hv01, hrun⟩ := hrun0 ⟨hp2, hb16, hb26⟩
            have hkn : cKn hr hi p h a = up2 (up2 (up2 (up2 (up2 (up2 (up2 hi 30 0 (hi (pC hr p) 5)) 30 1 (mEnd (fun y => cJoin hi y (hi 0 11)) 50 (cGiven hi p (hi 0 11)))) 30 2 h) 30 3 a) 30 4 0) 30 5 (hi (pC hr p) 8)) 30 6 (hi 0 11) := by unfold cKn; rw [if_pos c91]
            rw [← hkn]
            have hper := c_per22 (G := G) (d := d + 1) (z := z) (hr := hr) (hi := cKn hr hi p h a) (hl := hl) (v := v) (t2 := t2) (g := g) hz hR (by rw [cKn_f (by decide)]; exact hL) (by rw [cKn_f (by decide)]; exact hlt) (by rw [cKn_f (b := 22) (by decide), cKn_f (b := 23) (by decide), cKn_f (b := 24) (by decide), cKn_f (b := 25) (by decide), cKn_f (b := 26) (by decide), cKn_f (b := 27) (by decide)]; exact hrun)
            refine a_aload_n (n := 123) dX9_may_122 rfl rfl ?_
            refine a_getO (n := 126) dX9_may_123 rfl fX9_63 (s0 hz) ?_
            rw [hru]
            refine a_aload_n (n := 127) dX9_may_126 rfl rfl ?_
            refine a_getR (n := 130) dX9_may_127 rfl fX9_56 (s0 hz) (r0_7 hR) ?_
            refine a_callV (M2 := mX5_permit) (n := 133) dX9_may_130 rfl (hper) kX5_permit lX9_211 iX5_permit eX5_permit (by decide) (by omega) (s22 hz) rfl (Nat.le_of_ble_eq_true rfl) (fun q130 z130 hr130 hi130 hl130 h130 => ?_)
            obtain ⟨e1130, e2130, e3130, rfl, rfl⟩ := h130
            obtain rfl := e1130.symm
            obtain rfl := e2130.symm
            obtain rfl := e3130.symm
            show a_wp G _ _ _ _ (vI v :: _) _ _ _ _ _
            refine a_if_eq (t := 140) (n := 136) dX9_may_133 rfl rfl (fun c133 => ?_) (fun c133 => ?_)
            · refine a_iconst (n := 141) dX9_may_140 rfl ⟨by decide, by decide⟩ ?_
              refine a_ireturn dX9_may_141 rfl ?_
              exact ⟨rfl, rfl, rfl, Or.inl ⟨⟨hp2, hb16, hb26⟩, by rw [show v = 0 by omega], rfl⟩⟩
            · refine a_iconst (n := 137) dX9_may_136 rfl ⟨by decide, by decide⟩ ?_
              refine a_goto (t := 141) dX9_may_137 rfl ?_
              refine a_ireturn dX9_may_141 rfl ?_
              exact ⟨rfl, rfl, rfl, Or.inl ⟨⟨hp2, hb16, hb26⟩, by rw [show v = 1 by omega], rfl⟩⟩
          · refine a_iconst (n := 95) dX9_may_94 rfl ⟨by decide, by decide⟩ ?_
            refine a_goto (t := 99) dX9_may_95 rfl ?_
            refine a_iast (n := 100) dX9_may_99 rfl (s30 hz) (by omega) (by omega) ?_
            refine a_aload_n (n := 101) dX9_may_100 rfl rfl ?_
            refine a_getR (n := 104) dX9_may_101 rfl fX9_56 (s0 hz) (r0_7 hR) ?_
            refine a_iconst (n := 105) dX9_may_104 rfl ⟨by decide, by decide⟩ ?_
            refine a_aload (n := 107) dX9_may_105 rfl rfl ?_
            refine a_getI (n := 110) dX9_may_107 rfl fX9_96 f22 ?_
            try simp only [up2_30 f80]
            refine a_iast (n := 111) dX9_may_110 rfl (s30 hz) (by omega) (by omega) ?_
            refine a_aload_n (n := 112) dX9_may_111 rfl rfl ?_
            refine a_getR (n := 115) dX9_may_112 rfl fX9_56 (s0 hz) (r0_7 hR) ?_
            refine a_bipush (n := 117) dX9_may_115 rfl ⟨by decide, by decide⟩ (by decide) ?_
            refine a_aload_n (n := 118) dX9_may_117 rfl rfl ?_
            refine a_getI (n := 121) dX9_may_118 rfl fX9_71 (s0 hz) ?_
            try simp only [up2_eq, Nat.reduceEqDiff, Int.reduceEq, Int.reduceNeg, and_true, true_and, and_false, false_and, and_self, if_true, if_false, ite_true, ite_false, reduceIte, eq_self]
            refine a_iast (n := 122) dX9_may_121 rfl (s30 hz) (by omega) (by omega) ?_
            obtain ⟨hv01, hrun⟩ := hrun0 ⟨hp2, hb16, hb26⟩
            have hkn : cKn hr hi p h a = up2 (up2 (up2 (up2 (up2 (up2 (up2 hi 30 0 (hi (pC hr p) 5)) 30 1 (mEnd (fun y => cJoin hi y (hi 0 11)) 50 (cGiven hi p (hi 0 11)))) 30 2 h) 30 3 a) 30 4 1) 30 5 (hi (pC hr p) 8)) 30 6 (hi 0 11) := by unfold cKn; rw [if_neg c91]
            rw [← hkn]
            have hper := c_per22 (G := G) (d := d + 1) (z := z) (hr := hr) (hi := cKn hr hi p h a) (hl := hl) (v := v) (t2 := t2) (g := g) hz hR (by rw [cKn_f (by decide)]; exact hL) (by rw [cKn_f (by decide)]; exact hlt) (by rw [cKn_f (b := 22) (by decide), cKn_f (b := 23) (by decide), cKn_f (b := 24) (by decide), cKn_f (b := 25) (by decide), cKn_f (b := 26) (by decide), cKn_f (b := 27) (by decide)]; exact hrun)
            refine a_aload_n (n := 123) dX9_may_122 rfl rfl ?_
            refine a_getO (n := 126) dX9_may_123 rfl fX9_63 (s0 hz) ?_
            rw [hru]
            refine a_aload_n (n := 127) dX9_may_126 rfl rfl ?_
            refine a_getR (n := 130) dX9_may_127 rfl fX9_56 (s0 hz) (r0_7 hR) ?_
            refine a_callV (M2 := mX5_permit) (n := 133) dX9_may_130 rfl (hper) kX5_permit lX9_211 iX5_permit eX5_permit (by decide) (by omega) (s22 hz) rfl (Nat.le_of_ble_eq_true rfl) (fun q130 z130 hr130 hi130 hl130 h130 => ?_)
            obtain ⟨e1130, e2130, e3130, rfl, rfl⟩ := h130
            obtain rfl := e1130.symm
            obtain rfl := e2130.symm
            obtain rfl := e3130.symm
            show a_wp G _ _ _ _ (vI v :: _) _ _ _ _ _
            refine a_if_eq (t := 140) (n := 136) dX9_may_133 rfl rfl (fun c133 => ?_) (fun c133 => ?_)
            · refine a_iconst (n := 141) dX9_may_140 rfl ⟨by decide, by decide⟩ ?_
              refine a_ireturn dX9_may_141 rfl ?_
              exact ⟨rfl, rfl, rfl, Or.inl ⟨⟨hp2, hb16, hb26⟩, by rw [show v = 0 by omega], rfl⟩⟩
            · refine a_iconst (n := 137) dX9_may_136 rfl ⟨by decide, by decide⟩ ?_
              refine a_goto (t := 141) dX9_may_137 rfl ?_
              refine a_ireturn dX9_may_141 rfl ?_
              exact ⟨rfl, rfl, rfl, Or.inl ⟨⟨hp2, hb16, hb26⟩, by rw [show v = 1 by omega], rfl⟩⟩
        · replace hb26 := isB_f hb26 (by omega)
          refine a_iconst (n := 33) dX9_may_32 rfl ⟨by decide, by decide⟩ ?_
          refine a_ireturn dX9_may_33 rfl ?_
          exact ⟨rfl, rfl, rfl, Or.inr ⟨fun w => hb26 w.2.2, rfl, rfl⟩⟩
  · show a_wp G _ _ _ _ (vO none :: _) _ _ _ _ _
    refine b_astore (n := 7) dX9_may_5 rfl (by decide) rfl ?_
    refine a_aload (n := 9) dX9_may_7 rfl rfl ?_
    refine a_ifnull (t := 32) (n := 12) dX9_may_9 rfl rfl (fun c9 => ?_) (fun p9 c9 => ?_)
    · refine a_iconst (n := 33) dX9_may_32 rfl ⟨by decide, by decide⟩ ?_
      refine a_ireturn dX9_may_33 rfl ?_
      exact ⟨rfl, rfl, rfl, Or.inr ⟨fun w => hp2 w.1, rfl, rfl⟩⟩
    · cases c9
set_option maxRecDepth 100000 in
set_option maxHeartbeats 4000000 in
theorem c_mayC31 (hz : stZ z) (hR : stR hr) (hn : 0 ≤ hi 0 9 ∧ hi 0 9 ≤ 40) (hW : cP z hr hi) (h80 : ∀ q, 0 ≤ q → q < hi 0 9 → 81 ≤ pC hr q) (hru : hr 0 8 = some 31) {p h a v t2 : Int} {g : Int → Int} (hc : 0 ≤ hi 3 7 ∧ hi 3 7 ≤ 100) (hg : 0 ≤ hi 3 6 ∧ hi 3 6 ≤ 300) (hf : ∀ x, 0 ≤ cJoin hi x (hi 0 11)) (hL : 0 ≤ hi 31 7 ∧ hi 31 7 ≤ 16) (hlt : ∀ l, 0 ≤ l → l < 16 → hi 35 l = 0 ∨ hi 35 l = 1) (hrun0 : (0 ≤ p ∧ p < hi 0 9) ∧ (0 ≤ h ∧ h ≤ 99) ∧ (0 ≤ a ∧ a ≤ 9) → (v = 0 ∨ v = 1) ∧ cLe (hi 32) (hi 33) (cKn hr hi p h a 30) (hi 34) (hi 35) (hi 31 7).toNat 0 0 (hi 31 5) (hi 36) = some (v, g, t2)) : a_ct G mX9_may (d + 4) [vR 0, vI p, vI h, vI a] z hr hi hl (fun r z' hr' hi' hl' => z' = z ∧ hr' = hr ∧ hl' = hl ∧ (((0 ≤ p ∧ p < hi 0 9) ∧ (0 ≤ h ∧ h ≤ 99) ∧ (0 ≤ a ∧ a ≤ 9)) ∧ r = some (vI v) ∧ hi' = vH31 (cKn hr hi p h a) g t2 ∨ ¬ ((0 ≤ p ∧ p < hi 0 9) ∧ (0 ≤ h ∧ h ≤ 99) ∧ (0 ≤ a ∧ a ≤ 9)) ∧ r = some (vI (-1)) ∧ hi' = hi)) := by
  refine a_ct_of rfl (Nat.le_of_ble_eq_true rfl) ?_
  refine a_aload_n (n := 1) dX9_may_0 rfl rfl ?_
  refine a_iload_n (n := 2) dX9_may_1 rfl rfl ?_
  refine a_callV (M2 := mX9_plantAt) (n := 5) dX9_may_2 rfl (c_plantAt (d := d + 2) hz hR hn) kX9_plantAt lX9_89 iX9_plantAt eX9_plantAt (by decide) (by omega) (s0 hz) rfl (Nat.le_of_ble_eq_true rfl) (fun q2 z2 hr2 hi2 hl2 h2 => ?_)
  obtain ⟨e12, e22, e32, e42, h2⟩ := h2
  obtain rfl := e12.symm
  obtain rfl := e22.symm
  obtain rfl := e32.symm
  obtain rfl := e42.symm
  rcases h2 with ⟨hp2, rfl⟩ | ⟨hp2, rfl⟩
  · obtain ⟨f12, f22, f32, f42⟩ := hW.at_ hp2.1 hp2.2
    rw [f12]
    show a_wp G _ _ _ _ (vR (pC hr p) :: _) _ _ _ _ _
    have f80 := h80 p hp2.1 hp2.2
    refine b_astore (n := 7) dX9_may_5 rfl (by decide) rfl ?_
    refine a_aload (n := 9) dX9_may_7 rfl rfl ?_
    refine a_ifnull (t := 32) (n := 12) dX9_may_9 rfl rfl (fun c9 => ?_) (fun p9 c9 => ?_)
    · cases c9
    · refine a_iload_n (n := 13) dX9_may_12 rfl rfl ?_
      refine a_iconst (n := 14) dX9_may_13 rfl ⟨by decide, by decide⟩ ?_
      refine a_bipush (n := 16) dX9_may_14 rfl ⟨by decide, by decide⟩ (by decide) ?_
      refine a_callS (M2 := mX9_within) (n := 19) dX9_may_16 rfl (c_within (d := d + 2)) kX9_within lX9_67 sX9_within (by omega) rfl (Nat.le_of_ble_eq_true rfl) (fun q16 z16 hr16 hi16 hl16 h16 => ?_)
      obtain ⟨e116, e216, e316, e416, b16, rfl, hb16⟩ := h16
      obtain rfl := e116.symm
      obtain rfl := e216.symm
      obtain rfl := e316.symm
      obtain rfl := e416.symm
      show a_wp G _ _ _ _ (vI b16 :: _) _ _ _ _ _
      refine a_if_eq (t := 32) (n := 22) dX9_may_19 rfl rfl (fun c19 => ?_) (fun c19 => ?_)
      · replace hb16 := isB_f hb16 (by omega)
        refine a_iconst (n := 33) dX9_may_32 rfl ⟨by decide, by decide⟩ ?_
        refine a_ireturn dX9_may_33 rfl ?_
        exact ⟨rfl, rfl, rfl, Or.inr ⟨fun w => hb16 w.2.1, rfl, rfl⟩⟩
      · replace hb16 := isB_t hb16 (by omega)
        refine a_iload_n (n := 23) dX9_may_22 rfl rfl ?_
        refine a_iconst (n := 24) dX9_may_23 rfl ⟨by decide, by decide⟩ ?_
        refine a_bipush (n := 26) dX9_may_24 rfl ⟨by decide, by decide⟩ (by decide) ?_
        refine a_callS (M2 := mX9_within) (n := 29) dX9_may_26 rfl (c_within (d := d + 2)) kX9_within lX9_67 sX9_within (by omega) rfl (Nat.le_of_ble_eq_true rfl) (fun q26 z26 hr26 hi26 hl26 h26 => ?_)
        obtain ⟨e126, e226, e326, e426, b26, rfl, hb26⟩ := h26
        obtain rfl := e126.symm
        obtain rfl := e226.symm
        obtain rfl := e326.symm
        obtain rfl := e426.symm
        show a_wp G _ _ _ _ (vI b26 :: _) _ _ _ _ _
        refine a_if_ne (t := 34) (n := 32) dX9_may_29 rfl rfl (fun c29 => ?_) (fun c29 => ?_)
        · replace hb26 := isB_t hb26 (by omega)
          refine a_aload_n (n := 35) dX9_may_34 rfl rfl ?_
          refine a_getR (n := 38) dX9_may_35 rfl fX9_56 (s0 hz) (r0_7 hR) ?_
          refine a_iconst (n := 39) dX9_may_38 rfl ⟨by decide, by decide⟩ ?_
          refine a_aload (n := 41) dX9_may_39 rfl rfl ?_
          refine a_getI (n := 44) dX9_may_41 rfl fX9_204 f22 ?_
          try simp only [up2_30 f80]
          refine a_iast (n := 45) dX9_may_44 rfl (s30 hz) (by omega) (by omega) ?_
          refine a_aload_n (n := 46) dX9_may_45 rfl rfl ?_
          refine a_getR (n := 49) dX9_may_46 rfl fX9_56 (s0 hz) (r0_7 hR) ?_
          refine a_iconst (n := 50) dX9_may_49 rfl ⟨by decide, by decide⟩ ?_
          refine a_aload_n (n := 51) dX9_may_50 rfl rfl ?_
          refine a_getR (n := 54) dX9_may_51 rfl fX9_24 (s0 hz) (r0_2 hR) ?_
          refine a_iload_n (n := 55) dX9_may_54 rfl rfl ?_
          refine a_aload_n (n := 56) dX9_may_55 rfl rfl ?_
          refine a_getI (n := 59) dX9_may_56 rfl fX9_71 (s0 hz) ?_
          try simp only [up2_eq, Nat.reduceEqDiff, Int.reduceEq, Int.reduceNeg, and_true, true_and, and_false, false_and, and_self, if_true, if_false, ite_true, ite_false, reduceIte, eq_self]
          refine a_aload_n (n := 60) dX9_may_59 rfl rfl ?_
          refine a_getI (n := 63) dX9_may_60 rfl fX9_71 (s0 hz) ?_
          try simp only [up2_eq, Nat.reduceEqDiff, Int.reduceEq, Int.reduceNeg, and_true, true_and, and_false, false_and, and_self, if_true, if_false, ite_true, ite_false, reduceIte, eq_self]
          refine a_callV (M2 := mX2_nameOf) (n := 66) dX9_may_63 rfl (c_nameOf (d := d + 1) hz hR hc hg hf) kX2_nameOf lX9_127 iX2_nameOf eX2_nameOf (by decide) (by omega) (s3 hz) rfl (Nat.le_of_ble_eq_true rfl) (fun q63 z63 hr63 hi63 hl63 h63 => ?_)
          obtain ⟨e163, e263, e363, e463, rfl⟩ := h63
          obtain rfl := e163.symm
          obtain rfl := e263.symm
          obtain rfl := e363.symm
          obtain rfl := e463.symm
          show a_wp G _ _ _ _ (vI (mEnd (fun y => cJoin hi y (hi 0 11)) 50 (cGiven hi p (hi 0 11))) :: _) _ _ _ _ _
          refine a_iast (n := 67) dX9_may_66 rfl (s30 hz) (by omega) (by omega) ?_
          refine a_aload_n (n := 68) dX9_may_67 rfl rfl ?_
          refine a_getR (n := 71) dX9_may_68 rfl fX9_56 (s0 hz) (r0_7 hR) ?_
          refine a_iconst (n := 72) dX9_may_71 rfl ⟨by decide, by decide⟩ ?_
          refine a_iload_n (n := 73) dX9_may_72 rfl rfl ?_
          refine a_iast (n := 74) dX9_may_73 rfl (s30 hz) (by omega) (by omega) ?_
          refine a_aload_n (n := 75) dX9_may_74 rfl rfl ?_
          refine a_getR (n := 78) dX9_may_75 rfl fX9_56 (s0 hz) (r0_7 hR) ?_
          refine a_iconst (n := 79) dX9_may_78 rfl ⟨by decide, by decide⟩ ?_
          refine a_iload_n (n := 80) dX9_may_79 rfl rfl ?_
          refine a_iast (n := 81) dX9_may_80 rfl (s30 hz) (by omega) (by omega) ?_
          refine a_aload_n (n := 82) dX9_may_81 rfl rfl ?_
          refine a_getR (n := 85) dX9_may_82 rfl fX9_56 (s0 hz) (r0_7 hR) ?_
          refine a_iconst (n := 86) dX9_may_85 rfl ⟨by decide, by decide⟩ ?_
          refine a_aload (n := 88) dX9_may_86 rfl rfl ?_
          refine a_getI (n := 91) dX9_may_88 rfl fX9_207 f22 ?_
          try simp only [up2_30 f80]
          refine a_if_eq (t := 98) (n := 94) dX9_may_91 rfl rfl (fun c91 => ?_) (fun c91 => ?_)
          · refine a_iconst (n := 99) dX9_may_98 rfl ⟨by decide, by decide⟩ ?_
            refine a_iast (n := 100) dX9_may_99 rfl (s30 hz) (by omega) (by omega) ?_
            refine a_aload_n (n := 101) dX9_may_100 rfl rfl ?_
            refine a_getR (n := 104) dX9_may_101 rfl fX9_56 (s0 hz) (r0_7 hR) ?_
            refine a_iconst (n := 105) dX9_may_104 rfl ⟨by decide, by decide⟩ ?_
            refine a_aload (n := 107) dX9_may_105 rfl rfl ?_
            refine a_getI (n := 110) dX9_may_107 rfl fX9_96 f22 ?_
            try simp only [up2_30 f80]
            refine a_iast (n := 111) dX9_may_110 rfl (s30 hz) (by omega) (by omega) ?_
            refine a_aload_n (n := 112) dX9_may_111 rfl rfl ?_
            refine a_getR (n := 115) dX9_may_112 rfl fX9_56 (s0 hz) (r0_7 hR) ?_
            refine a_bipush (n := 117) dX9_may_115 rfl ⟨by decide, by decide⟩ (by decide) ?_
            refine a_aload_n (n := 118) dX9_may_117 rfl rfl ?_
            refine a_getI (n := 121) dX9_may_118 rfl fX9_71 (s0 hz) ?_
            try simp only [up2_eq, Nat.reduceEqDiff, Int.reduceEq, Int.reduceNeg, and_true, true_and, and_false, false_and, and_self, if_true, if_false, ite_true, ite_false, reduceIte, eq_self]
            refine a_iast (n := 122) dX9_may_121 rfl (s30 hz) (by omega) (by omega) ?_
            obtain ⟨hv01, hrun⟩ := hrun0 ⟨hp2, hb16, hb26⟩
            have hkn : cKn hr hi p h a = up2 (up2 (up2 (up2 (up2 (up2 (up2 hi 30 0 (hi (pC hr p) 5)) 30 1 (mEnd (fun y => cJoin hi y (hi 0 11)) 50 (cGiven hi p (hi 0 11)))) 30 2 h) 30 3 a) 30 4 0) 30 5 (hi (pC hr p) 8)) 30 6 (hi 0 11) := by unfold cKn; rw [if_pos c91]
            rw [← hkn]
            have hper := c_per31 (G := G) (d := d + 1) (z := z) (hr := hr) (hi := cKn hr hi p h a) (hl := hl) (v := v) (t2 := t2) (g := g) hz hR (by rw [cKn_f (by decide)]; exact hL) (by rw [cKn_f (by decide)]; exact hlt) (by rw [cKn_f (b := 31) (by decide), cKn_f (b := 32) (by decide), cKn_f (b := 33) (by decide), cKn_f (b := 34) (by decide), cKn_f (b := 35) (by decide), cKn_f (b := 36) (by decide)]; exact hrun)
            refine a_aload_n (n := 123) dX9_may_122 rfl rfl ?_
            refine a_getO (n := 126) dX9_may_123 rfl fX9_63 (s0 hz) ?_
            rw [hru]
            refine a_aload_n (n := 127) dX9_may_126 rfl rfl ?_
            refine a_getR (n := 130) dX9_may_127 rfl fX9_56 (s0 hz) (r0_7 hR) ?_
            refine a_callV (M2 := mX5_permit) (n := 133) dX9_may_130 rfl (hper) kX5_permit lX9_211 iX5_permit eX5_permit (by decide) (by omega) (s31 hz) rfl (Nat.le_of_ble_eq_true rfl) (fun q130 z130 hr130 hi130 hl130 h130 => ?_)
            obtain ⟨e1130, e2130, e3130, rfl, rfl⟩ := h130
            obtain rfl := e1130.symm
            obtain rfl := e2130.symm
            obtain rfl := e3130.symm
            show a_wp G _ _ _ _ (vI v :: _) _ _ _ _ _
            refine a_if_eq (t := 140) (n := 136) dX9_may_133 rfl rfl (fun c133 => ?_) (fun c133 => ?_)
            · refine a_iconst (n := 141) dX9_may_140 rfl ⟨by decide, by decide⟩ ?_
              refine a_ireturn dX9_may_141 rfl ?_
              exact ⟨rfl, rfl, rfl, Or.inl ⟨⟨hp2, hb16, hb26⟩, by rw [show v = 0 by omega], rfl⟩⟩
            · refine a_iconst (n := 137) dX9_may_136 rfl ⟨by decide, by decide⟩ ?_
              refine a_goto (t := 141) dX9_may_137 rfl ?_
              refine a_ireturn dX9_may_141 rfl ?_
              exact ⟨rfl, rfl, rfl, Or.inl ⟨⟨hp2, hb16, hb26⟩, by rw [show v = 1 by omega], rfl⟩⟩
          · refine a_iconst (n := 95) dX9_may_94 rfl ⟨by decide, by decide⟩ ?_
            refine a_goto (t := 99) dX9_may_95 rfl ?_
            refine a_iast (n := 100) dX9_may_99 rfl (s30 hz) (by omega) (by omega) ?_
            refine a_aload_n (n := 101) dX9_may_100 rfl rfl ?_
            refine a_getR (n := 104) dX9_may_101 rfl fX9_56 (s0 hz) (r0_7 hR) ?_
            refine a_iconst (n := 105) dX9_may_104 rfl ⟨by decide, by decide⟩ ?_
            refine a_aload (n := 107) dX9_may_105 rfl rfl ?_
            refine a_getI (n := 110) dX9_may_107 rfl fX9_96 f22 ?_
            try simp only [up2_30 f80]
            refine a_iast (n := 111) dX9_may_110 rfl (s30 hz) (by omega) (by omega) ?_
            refine a_aload_n (n := 112) dX9_may_111 rfl rfl ?_
            refine a_getR (n := 115) dX9_may_112 rfl fX9_56 (s0 hz) (r0_7 hR) ?_
            refine a_bipush (n := 117) dX9_may_115 rfl ⟨by decide, by decide⟩ (by decide) ?_
            refine a_aload_n (n := 118) dX9_may_117 rfl rfl ?_
            refine a_getI (n := 121) dX9_may_118 rfl fX9_71 (s0 hz) ?_
            try simp only [up2_eq, Nat.reduceEqDiff, Int.reduceEq, Int.reduceNeg, and_true, true_and, and_false, false_and, and_self, if_true, if_false, ite_true, ite_false, reduceIte, eq_self]
            refine a_iast (n := 122) dX9_may_121 rfl (s30 hz) (by omega) (by omega) ?_
            obtain ⟨hv01, hrun⟩ := hrun0 ⟨hp2, hb16, hb26⟩
            have hkn : cKn hr hi p h a = up2 (up2 (up2 (up2 (up2 (up2 (up2 hi 30 0 (hi (pC hr p) 5)) 30 1 (mEnd (fun y => cJoin hi y (hi 0 11)) 50 (cGiven hi p (hi 0 11)))) 30 2 h) 30 3 a) 30 4 1) 30 5 (hi (pC hr p) 8)) 30 6 (hi 0 11) := by unfold cKn; rw [if_neg c91]
            rw [← hkn]
            have hper := c_per31 (G := G) (d := d + 1) (z := z) (hr := hr) (hi := cKn hr hi p h a) (hl := hl) (v := v) (t2 := t2) (g := g) hz hR (by rw [cKn_f (by decide)]; exact hL) (by rw [cKn_f (by decide)]; exact hlt) (by rw [cKn_f (b := 31) (by decide), cKn_f (b := 32) (by decide), cKn_f (b := 33) (by decide), cKn_f (b := 34) (by decide), cKn_f (b := 35) (by decide), cKn_f (b := 36) (by decide)]; exact hrun)
            refine a_aload_n (n := 123) dX9_may_122 rfl rfl ?_
            refine a_getO (n := 126) dX9_may_123 rfl fX9_63 (s0 hz) ?_
            rw [hru]
            refine a_aload_n (n := 127) dX9_may_126 rfl rfl ?_
            refine a_getR (n := 130) dX9_may_127 rfl fX9_56 (s0 hz) (r0_7 hR) ?_
            refine a_callV (M2 := mX5_permit) (n := 133) dX9_may_130 rfl (hper) kX5_permit lX9_211 iX5_permit eX5_permit (by decide) (by omega) (s31 hz) rfl (Nat.le_of_ble_eq_true rfl) (fun q130 z130 hr130 hi130 hl130 h130 => ?_)
            obtain ⟨e1130, e2130, e3130, rfl, rfl⟩ := h130
            obtain rfl := e1130.symm
            obtain rfl := e2130.symm
            obtain rfl := e3130.symm
            show a_wp G _ _ _ _ (vI v :: _) _ _ _ _ _
            refine a_if_eq (t := 140) (n := 136) dX9_may_133 rfl rfl (fun c133 => ?_) (fun c133 => ?_)
            · refine a_iconst (n := 141) dX9_may_140 rfl ⟨by decide, by decide⟩ ?_
              refine a_ireturn dX9_may_141 rfl ?_
              exact ⟨rfl, rfl, rfl, Or.inl ⟨⟨hp2, hb16, hb26⟩, by rw [show v = 0 by omega], rfl⟩⟩
            · refine a_iconst (n := 137) dX9_may_136 rfl ⟨by decide, by decide⟩ ?_
              refine a_goto (t := 141) dX9_may_137 rfl ?_
              refine a_ireturn dX9_may_141 rfl ?_
              exact ⟨rfl, rfl, rfl, Or.inl ⟨⟨hp2, hb16, hb26⟩, by rw [show v = 1 by omega], rfl⟩⟩
        · replace hb26 := isB_f hb26 (by omega)
          refine a_iconst (n := 33) dX9_may_32 rfl ⟨by decide, by decide⟩ ?_
          refine a_ireturn dX9_may_33 rfl ?_
          exact ⟨rfl, rfl, rfl, Or.inr ⟨fun w => hb26 w.2.2, rfl, rfl⟩⟩
  · show a_wp G _ _ _ _ (vO none :: _) _ _ _ _ _
    refine b_astore (n := 7) dX9_may_5 rfl (by decide) rfl ?_
    refine a_aload (n := 9) dX9_may_7 rfl rfl ?_
    refine a_ifnull (t := 32) (n := 12) dX9_may_9 rfl rfl (fun c9 => ?_) (fun p9 c9 => ?_)
    · refine a_iconst (n := 33) dX9_may_32 rfl ⟨by decide, by decide⟩ ?_
      refine a_ireturn dX9_may_33 rfl ?_
      exact ⟨rfl, rfl, rfl, Or.inr ⟨fun w => hp2 w.1, rfl, rfl⟩⟩
    · cases c9
set_option maxRecDepth 100000 in
set_option maxHeartbeats 4000000 in
theorem c_sendC22 (hz : stZ z) (hR : stR hr) (hn : 0 ≤ hi 0 9 ∧ hi 0 9 ≤ 40) (hW : cP z hr hi) (h80 : ∀ q, 0 ≤ q → q < hi 0 9 → 81 ≤ pC hr q) (hpc : ∀ q, 0 ≤ q → q < hi 0 9 → 0 ≤ hi (pC hr q) 8 ∧ hi (pC hr q) 8 ≤ 100) (hs : 0 ≤ hi 28 1 ∧ hi 28 1 ≤ 100) (hru : hr 0 8 = some 22) {p h a v t2 : Int} {g : Int → Int} (hc : 0 ≤ hi 3 7 ∧ hi 3 7 ≤ 100) (hg : 0 ≤ hi 3 6 ∧ hi 3 6 ≤ 300) (hf : ∀ x, 0 ≤ cJoin hi x (hi 0 11)) (hL : 0 ≤ hi 22 7 ∧ hi 22 7 ≤ 16) (hlt : ∀ l, 0 ≤ l → l < 16 → hi 26 l = 0 ∨ hi 26 l = 1) (hrun0 : (0 ≤ p ∧ p < hi 0 9) ∧ (0 ≤ h ∧ h ≤ 99) ∧ (0 ≤ a ∧ a ≤ 9) → (v = 0 ∨ v = 1) ∧ cLe (hi 23) (hi 24) (cKn hr hi p h a 30) (hi 25) (hi 26) (hi 22 7).toNat 0 0 (hi 22 5) (hi 27) = some (v, g, t2)) : a_ct G mX9_send (d + 5) [vR 0, vI p, vI h, vI a] z hr hi hl (fun r z' hr' hi' hl' => z' = z ∧ hr' = hr ∧ hl' = hl ∧ ((((0 ≤ p ∧ p < hi 0 9) ∧ (0 ≤ h ∧ h ≤ 99) ∧ (0 ≤ a ∧ a ≤ 9)) ∧ 1 ≤ hi (pC hr p) 8) ∧ (v = 1 ∧ ¬ hi 28 1 = 100) ∧ r = some (vI 1) ∧ hi' = cSnd hr (vH22 (cKn hr hi p h a) g t2) p h a ∨ (((0 ≤ p ∧ p < hi 0 9) ∧ (0 ≤ h ∧ h ≤ 99) ∧ (0 ≤ a ∧ a ≤ 9)) ∧ 1 ≤ hi (pC hr p) 8) ∧ ¬ (v = 1 ∧ ¬ hi 28 1 = 100) ∧ r = some (vI 0) ∧ hi' = (vH22 (cKn hr hi p h a) g t2) ∨ ¬ (((0 ≤ p ∧ p < hi 0 9) ∧ (0 ≤ h ∧ h ≤ 99) ∧ (0 ≤ a ∧ a ≤ 9)) ∧ 1 ≤ hi (pC hr p) 8) ∧ r = some (vI 0) ∧ hi' = hi)) := by
  refine a_ct_of rfl (Nat.le_of_ble_eq_true rfl) ?_
  refine a_aload_n (n := 1) dX9_send_0 rfl rfl ?_
  refine a_iload_n (n := 2) dX9_send_1 rfl rfl ?_
  refine a_callV (M2 := mX9_plantAt) (n := 5) dX9_send_2 rfl (c_plantAt (d := d + 3) hz hR hn) kX9_plantAt lX9_89 iX9_plantAt eX9_plantAt (by decide) (by omega) (s0 hz) rfl (Nat.le_of_ble_eq_true rfl) (fun q2 z2 hr2 hi2 hl2 h2 => ?_)
  obtain ⟨e12, e22, e32, e42, h2⟩ := h2
  obtain rfl := e12.symm
  obtain rfl := e22.symm
  obtain rfl := e32.symm
  obtain rfl := e42.symm
  rcases h2 with ⟨hp2, rfl⟩ | ⟨hp2, rfl⟩
  · obtain ⟨f12, f22, f32, f42⟩ := hW.at_ hp2.1 hp2.2
    rw [f12]
    show a_wp G _ _ _ _ (vR (pC hr p) :: _) _ _ _ _ _
    have f80 := h80 p hp2.1 hp2.2
    have hpp := hpc p hp2.1 hp2.2
    refine b_astore (n := 7) dX9_send_5 rfl (by decide) rfl ?_
    refine a_aload (n := 9) dX9_send_7 rfl rfl ?_
    refine a_ifnull (t := 32) (n := 12) dX9_send_9 rfl rfl (fun c9 => ?_) (fun p9 c9 => ?_)
    · cases c9
    · refine a_aload (n := 14) dX9_send_12 rfl rfl ?_
      refine a_getI (n := 17) dX9_send_14 rfl fX9_96 f22 ?_
      try simp only [up2_29 f80, up2_28 f80]
      refine a_iconst (n := 18) dX9_send_17 rfl ⟨by decide, by decide⟩ ?_
      refine a_icmp_lt (t := 32) (n := 21) dX9_send_18 rfl rfl (fun c18 => ?_) (fun c18 => ?_)
      · refine a_iconst (n := 33) dX9_send_32 rfl ⟨by decide, by decide⟩ ?_
        refine a_zreturn dX9_send_33 rfl (by omega) ?_
        exact ⟨rfl, rfl, rfl, Or.inr (Or.inr ⟨fun w => by have := w.2; omega, rfl, rfl⟩)⟩
      · refine a_aload_n (n := 22) dX9_send_21 rfl rfl ?_
        refine a_iload_n (n := 23) dX9_send_22 rfl rfl ?_
        refine a_iload_n (n := 24) dX9_send_23 rfl rfl ?_
        refine a_iload_n (n := 25) dX9_send_24 rfl rfl ?_
        refine a_callV (M2 := mX9_may) (n := 28) dX9_send_25 rfl (c_mayC22 (d := d) hz hR hn hW h80 hru hc hg hf hL hlt hrun0) kX9_may lX9_215 iX9_may eX9_may (by decide) (by omega) (s0 hz) rfl (Nat.le_of_ble_eq_true rfl) (fun q25 z25 hr25 hi25 hl25 h25 => ?_)
        obtain ⟨e125, e225, e325, h25⟩ := h25
        obtain rfl := e125.symm
        obtain rfl := e225.symm
        obtain rfl := e325.symm
        rcases h25 with ⟨hcd, rfl, rfl⟩ | ⟨hcd, rfl, e425⟩
        · have hv01 := (hrun0 hcd).1
          have m1 : (vH22 (cKn hr hi p h a) g t2) 28 1 = hi 28 1 := congrFun (show (vH22 (cKn hr hi p h a) g t2) 28 = hi 28 from (funext fun j => rfl)) 1
          have m2 : (vH22 (cKn hr hi p h a) g t2) (pC hr p) 8 = hi (pC hr p) 8 := (congrFun (vH22_p f80) 8).trans (congrFun (cKn_f (by omega)) 8)
          generalize (vH22 (cKn hr hi p h a) g t2) = M at m1 m2 ⊢
          show a_wp G _ _ _ _ (vI v :: _) _ _ _ _ _
          refine a_iconst (n := 29) dX9_send_28 rfl ⟨by decide, by decide⟩ ?_
          refine a_icmp_eq (t := 34) (n := 32) dX9_send_29 rfl rfl (fun c29 => ?_) (fun c29 => ?_)
          · refine a_aload_n (n := 35) dX9_send_34 rfl rfl ?_
            refine a_getR (n := 38) dX9_send_35 rfl fX9_52 (s0 hz) (r0_6 hR) ?_
            refine a_iload_n (n := 39) dX9_send_38 rfl rfl ?_
            refine a_iload_n (n := 40) dX9_send_39 rfl rfl ?_
            refine a_iload_n (n := 41) dX9_send_40 rfl rfl ?_
            refine a_aload_n (n := 42) dX9_send_41 rfl rfl ?_
            refine a_getI (n := 45) dX9_send_42 rfl fX9_71 (s0 hz) ?_
            try simp only [up2_eq, Nat.reduceEqDiff, Int.reduceEq, Int.reduceNeg, and_true, true_and, and_false, false_and, and_self, if_true, if_false, ite_true, ite_false, reduceIte, eq_self]
            refine a_callV (M2 := mX6_write) (n := 48) dX9_send_45 rfl (c_write (d := d + 3) hz hR (by omega)) kX6_write lX9_218 iX6_write eX6_write (by decide) (by omega) (s28 hz) rfl (Nat.le_of_ble_eq_true rfl) (fun q45 z45 hr45 hi45 hl45 h45 => ?_)
            obtain ⟨e145, e245, e345, h45⟩ := h45
            obtain rfl := e145.symm
            obtain rfl := e245.symm
            obtain rfl := e345.symm
            rcases h45 with ⟨k45, rfl, rfl⟩ | ⟨k45, rfl, e445⟩
            · show a_wp G _ _ _ _ (vI 1 :: _) _ _ _ _ _
              refine a_if_ne (t := 53) (n := 51) dX9_send_48 rfl rfl (fun c48 => ?_) (fun c48 => ?_)
              · refine a_aload (n := 55) dX9_send_53 rfl rfl ?_
                refine a_dup (n := 56) dX9_send_55 rfl rfl ?_
                refine a_getI (n := 59) dX9_send_56 rfl fX9_96 f22 ?_
                try simp only [up2_29 f80, up2_28 f80]
                refine a_iconst (n := 60) dX9_send_59 rfl ⟨by decide, by decide⟩ ?_
                refine a_isub (n := 61) dX9_send_60 rfl ⟨by omega, by omega⟩ ?_
                refine a_putI (n := 64) dX9_send_61 rfl fX9_96 rfl f22 (Or.inl rfl) ?_
                refine a_iconst (n := 65) dX9_send_64 rfl ⟨by decide, by decide⟩ ?_
                refine a_zreturn dX9_send_65 rfl (by omega) ?_
                exact ⟨rfl, rfl, rfl, Or.inl ⟨⟨hcd, by omega⟩, ⟨by omega, by omega⟩, rfl, rfl⟩⟩
              · omega
            · obtain rfl := e445.symm
              show a_wp G _ _ _ _ (vI 0 :: _) _ _ _ _ _
              refine a_if_ne (t := 53) (n := 51) dX9_send_48 rfl rfl (fun c48 => ?_) (fun c48 => ?_)
              · omega
              · refine a_iconst (n := 52) dX9_send_51 rfl ⟨by decide, by decide⟩ ?_
                refine a_zreturn dX9_send_52 rfl (by omega) ?_
                exact ⟨rfl, rfl, rfl, Or.inr (Or.inl ⟨⟨hcd, by omega⟩, fun w => w.2 (by omega), rfl, rfl⟩)⟩
          · refine a_iconst (n := 33) dX9_send_32 rfl ⟨by decide, by decide⟩ ?_
            refine a_zreturn dX9_send_33 rfl (by omega) ?_
            exact ⟨rfl, rfl, rfl, Or.inr (Or.inl ⟨⟨hcd, by omega⟩, fun w => c29 w.1, rfl, rfl⟩)⟩
        · obtain rfl := e425.symm
          show a_wp G _ _ _ _ (vI (-1) :: _) _ _ _ _ _
          refine a_iconst (n := 29) dX9_send_28 rfl ⟨by decide, by decide⟩ ?_
          refine a_icmp_eq (t := 34) (n := 32) dX9_send_29 rfl rfl (fun c29 => ?_) (fun c29 => ?_)
          · omega
          · refine a_iconst (n := 33) dX9_send_32 rfl ⟨by decide, by decide⟩ ?_
            refine a_zreturn dX9_send_33 rfl (by omega) ?_
            exact ⟨rfl, rfl, rfl, Or.inr (Or.inr ⟨fun w => hcd w.1, rfl, rfl⟩)⟩
  · show a_wp G _ _ _ _ (vO none :: _) _ _ _ _ _
    refine b_astore (n := 7) dX9_send_5 rfl (by decide) rfl ?_
    refine a_aload (n := 9) dX9_send_7 rfl rfl ?_
    refine a_ifnull (t := 32) (n := 12) dX9_send_9 rfl rfl (fun c9 => ?_) (fun p9 c9 => ?_)
    · refine a_iconst (n := 33) dX9_send_32 rfl ⟨by decide, by decide⟩ ?_
      refine a_zreturn dX9_send_33 rfl (by omega) ?_
      exact ⟨rfl, rfl, rfl, Or.inr (Or.inr ⟨fun w => hp2 w.1.1, rfl, rfl⟩)⟩
    · cases c9
set_option maxRecDepth 100000 in
set_option maxHeartbeats 4000000 in
theorem c_sendC31 (hz : stZ z) (hR : stR hr) (hn : 0 ≤ hi 0 9 ∧ hi 0 9 ≤ 40) (hW : cP z hr hi) (h80 : ∀ q, 0 ≤ q → q < hi 0 9 → 81 ≤ pC hr q) (hpc : ∀ q, 0 ≤ q → q < hi 0 9 → 0 ≤ hi (pC hr q) 8 ∧ hi (pC hr q) 8 ≤ 100) (hs : 0 ≤ hi 28 1 ∧ hi 28 1 ≤ 100) (hru : hr 0 8 = some 31) {p h a v t2 : Int} {g : Int → Int} (hc : 0 ≤ hi 3 7 ∧ hi 3 7 ≤ 100) (hg : 0 ≤ hi 3 6 ∧ hi 3 6 ≤ 300) (hf : ∀ x, 0 ≤ cJoin hi x (hi 0 11)) (hL : 0 ≤ hi 31 7 ∧ hi 31 7 ≤ 16) (hlt : ∀ l, 0 ≤ l → l < 16 → hi 35 l = 0 ∨ hi 35 l = 1) (hrun0 : (0 ≤ p ∧ p < hi 0 9) ∧ (0 ≤ h ∧ h ≤ 99) ∧ (0 ≤ a ∧ a ≤ 9) → (v = 0 ∨ v = 1) ∧ cLe (hi 32) (hi 33) (cKn hr hi p h a 30) (hi 34) (hi 35) (hi 31 7).toNat 0 0 (hi 31 5) (hi 36) = some (v, g, t2)) : a_ct G mX9_send (d + 5) [vR 0, vI p, vI h, vI a] z hr hi hl (fun r z' hr' hi' hl' => z' = z ∧ hr' = hr ∧ hl' = hl ∧ ((((0 ≤ p ∧ p < hi 0 9) ∧ (0 ≤ h ∧ h ≤ 99) ∧ (0 ≤ a ∧ a ≤ 9)) ∧ 1 ≤ hi (pC hr p) 8) ∧ (v = 1 ∧ ¬ hi 28 1 = 100) ∧ r = some (vI 1) ∧ hi' = cSnd hr (vH31 (cKn hr hi p h a) g t2) p h a ∨ (((0 ≤ p ∧ p < hi 0 9) ∧ (0 ≤ h ∧ h ≤ 99) ∧ (0 ≤ a ∧ a ≤ 9)) ∧ 1 ≤ hi (pC hr p) 8) ∧ ¬ (v = 1 ∧ ¬ hi 28 1 = 100) ∧ r = some (vI 0) ∧ hi' = (vH31 (cKn hr hi p h a) g t2) ∨ ¬ (((0 ≤ p ∧ p < hi 0 9) ∧ (0 ≤ h ∧ h ≤ 99) ∧ (0 ≤ a ∧ a ≤ 9)) ∧ 1 ≤ hi (pC hr p) 8) ∧ r = some (vI 0) ∧ hi' = hi)) := by
  refine a_ct_of rfl (Nat.le_of_ble_eq_true rfl) ?_
  refine a_aload_n (n := 1) dX9_send_0 rfl rfl ?_
  refine a_iload_n (n := 2) dX9_send_1 rfl rfl ?_
  refine a_callV (M2 := mX9_plantAt) (n := 5) dX9_send_2 rfl (c_plantAt (d := d + 3) hz hR hn) kX9_plantAt lX9_89 iX9_plantAt eX9_plantAt (by decide) (by omega) (s0 hz) rfl (Nat.le_of_ble_eq_true rfl) (fun q2 z2 hr2 hi2 hl2 h2 => ?_)
  obtain ⟨e12, e22, e32, e42, h2⟩ := h2
  obtain rfl := e12.symm
  obtain rfl := e22.symm
  obtain rfl := e32.symm
  obtain rfl := e42.symm
  rcases h2 with ⟨hp2, rfl⟩ | ⟨hp2, rfl⟩
  · obtain ⟨f12, f22, f32, f42⟩ := hW.at_ hp2.1 hp2.2
    rw [f12]
    show a_wp G _ _ _ _ (vR (pC hr p) :: _) _ _ _ _ _
    have f80 := h80 p hp2.1 hp2.2
    have hpp := hpc p hp2.1 hp2.2
    refine b_astore (n := 7) dX9_send_5 rfl (by decide) rfl ?_
    refine a_aload (n := 9) dX9_send_7 rfl rfl ?_
    refine a_ifnull (t := 32) (n := 12) dX9_send_9 rfl rfl (fun c9 => ?_) (fun p9 c9 => ?_)
    · cases c9
    · refine a_aload (n := 14) dX9_send_12 rfl rfl ?_
      refine a_getI (n := 17) dX9_send_14 rfl fX9_96 f22 ?_
      try simp only [up2_29 f80, up2_28 f80]
      refine a_iconst (n := 18) dX9_send_17 rfl ⟨by decide, by decide⟩ ?_
      refine a_icmp_lt (t := 32) (n := 21) dX9_send_18 rfl rfl (fun c18 => ?_) (fun c18 => ?_)
      · refine a_iconst (n := 33) dX9_send_32 rfl ⟨by decide, by decide⟩ ?_
        refine a_zreturn dX9_send_33 rfl (by omega) ?_
        exact ⟨rfl, rfl, rfl, Or.inr (Or.inr ⟨fun w => by have := w.2; omega, rfl, rfl⟩)⟩
      · refine a_aload_n (n := 22) dX9_send_21 rfl rfl ?_
        refine a_iload_n (n := 23) dX9_send_22 rfl rfl ?_
        refine a_iload_n (n := 24) dX9_send_23 rfl rfl ?_
        refine a_iload_n (n := 25) dX9_send_24 rfl rfl ?_
        refine a_callV (M2 := mX9_may) (n := 28) dX9_send_25 rfl (c_mayC31 (d := d) hz hR hn hW h80 hru hc hg hf hL hlt hrun0) kX9_may lX9_215 iX9_may eX9_may (by decide) (by omega) (s0 hz) rfl (Nat.le_of_ble_eq_true rfl) (fun q25 z25 hr25 hi25 hl25 h25 => ?_)
        obtain ⟨e125, e225, e325, h25⟩ := h25
        obtain rfl := e125.symm
        obtain rfl := e225.symm
        obtain rfl := e325.symm
        rcases h25 with ⟨hcd, rfl, rfl⟩ | ⟨hcd, rfl, e425⟩
        · have hv01 := (hrun0 hcd).1
          have m1 : (vH31 (cKn hr hi p h a) g t2) 28 1 = hi 28 1 := congrFun (show (vH31 (cKn hr hi p h a) g t2) 28 = hi 28 from (funext fun j => rfl)) 1
          have m2 : (vH31 (cKn hr hi p h a) g t2) (pC hr p) 8 = hi (pC hr p) 8 := (congrFun (vH31_p f80) 8).trans (congrFun (cKn_f (by omega)) 8)
          generalize (vH31 (cKn hr hi p h a) g t2) = M at m1 m2 ⊢
          show a_wp G _ _ _ _ (vI v :: _) _ _ _ _ _
          refine a_iconst (n := 29) dX9_send_28 rfl ⟨by decide, by decide⟩ ?_
          refine a_icmp_eq (t := 34) (n := 32) dX9_send_29 rfl rfl (fun c29 => ?_) (fun c29 => ?_)
          · refine a_aload_n (n := 35) dX9_send_34 rfl rfl ?_
            refine a_getR (n := 38) dX9_send_35 rfl fX9_52 (s0 hz) (r0_6 hR) ?_
            refine a_iload_n (n := 39) dX9_send_38 rfl rfl ?_
            refine a_iload_n (n := 40) dX9_send_39 rfl rfl ?_
            refine a_iload_n (n := 41) dX9_send_40 rfl rfl ?_
            refine a_aload_n (n := 42) dX9_send_41 rfl rfl ?_
            refine a_getI (n := 45) dX9_send_42 rfl fX9_71 (s0 hz) ?_
            try simp only [up2_eq, Nat.reduceEqDiff, Int.reduceEq, Int.reduceNeg, and_true, true_and, and_false, false_and, and_self, if_true, if_false, ite_true, ite_false, reduceIte, eq_self]
            refine a_callV (M2 := mX6_write) (n := 48) dX9_send_45 rfl (c_write (d := d + 3) hz hR (by omega)) kX6_write lX9_218 iX6_write eX6_write (by decide) (by omega) (s28 hz) rfl (Nat.le_of_ble_eq_true rfl) (fun q45 z45 hr45 hi45 hl45 h45 => ?_)
            obtain ⟨e145, e245, e345, h45⟩ := h45
            obtain rfl := e145.symm
            obtain rfl := e245.symm
            obtain rfl := e345.symm
            rcases h45 with ⟨k45, rfl, rfl⟩ | ⟨k45, rfl, e445⟩
            · show a_wp G _ _ _ _ (vI 1 :: _) _ _ _ _ _
              refine a_if_ne (t := 53) (n := 51) dX9_send_48 rfl rfl (fun c48 => ?_) (fun c48 => ?_)
              · refine a_aload (n := 55) dX9_send_53 rfl rfl ?_
                refine a_dup (n := 56) dX9_send_55 rfl rfl ?_
                refine a_getI (n := 59) dX9_send_56 rfl fX9_96 f22 ?_
                try simp only [up2_29 f80, up2_28 f80]
                refine a_iconst (n := 60) dX9_send_59 rfl ⟨by decide, by decide⟩ ?_
                refine a_isub (n := 61) dX9_send_60 rfl ⟨by omega, by omega⟩ ?_
                refine a_putI (n := 64) dX9_send_61 rfl fX9_96 rfl f22 (Or.inl rfl) ?_
                refine a_iconst (n := 65) dX9_send_64 rfl ⟨by decide, by decide⟩ ?_
                refine a_zreturn dX9_send_65 rfl (by omega) ?_
                exact ⟨rfl, rfl, rfl, Or.inl ⟨⟨hcd, by omega⟩, ⟨by omega, by omega⟩, rfl, rfl⟩⟩
              · omega
            · obtain rfl := e445.symm
              show a_wp G _ _ _ _ (vI 0 :: _) _ _ _ _ _
              refine a_if_ne (t := 53) (n := 51) dX9_send_48 rfl rfl (fun c48 => ?_) (fun c48 => ?_)
              · omega
              · refine a_iconst (n := 52) dX9_send_51 rfl ⟨by decide, by decide⟩ ?_
                refine a_zreturn dX9_send_52 rfl (by omega) ?_
                exact ⟨rfl, rfl, rfl, Or.inr (Or.inl ⟨⟨hcd, by omega⟩, fun w => w.2 (by omega), rfl, rfl⟩)⟩
          · refine a_iconst (n := 33) dX9_send_32 rfl ⟨by decide, by decide⟩ ?_
            refine a_zreturn dX9_send_33 rfl (by omega) ?_
            exact ⟨rfl, rfl, rfl, Or.inr (Or.inl ⟨⟨hcd, by omega⟩, fun w => c29 w.1, rfl, rfl⟩)⟩
        · obtain rfl := e425.symm
          show a_wp G _ _ _ _ (vI (-1) :: _) _ _ _ _ _
          refine a_iconst (n := 29) dX9_send_28 rfl ⟨by decide, by decide⟩ ?_
          refine a_icmp_eq (t := 34) (n := 32) dX9_send_29 rfl rfl (fun c29 => ?_) (fun c29 => ?_)
          · omega
          · refine a_iconst (n := 33) dX9_send_32 rfl ⟨by decide, by decide⟩ ?_
            refine a_zreturn dX9_send_33 rfl (by omega) ?_
            exact ⟨rfl, rfl, rfl, Or.inr (Or.inr ⟨fun w => hcd w.1, rfl, rfl⟩)⟩
  · show a_wp G _ _ _ _ (vO none :: _) _ _ _ _ _
    refine b_astore (n := 7) dX9_send_5 rfl (by decide) rfl ?_
    refine a_aload (n := 9) dX9_send_7 rfl rfl ?_
    refine a_ifnull (t := 32) (n := 12) dX9_send_9 rfl rfl (fun c9 => ?_) (fun p9 c9 => ?_)
    · refine a_iconst (n := 33) dX9_send_32 rfl ⟨by decide, by decide⟩ ?_
      refine a_zreturn dX9_send_33 rfl (by omega) ?_
      exact ⟨rfl, rfl, rfl, Or.inr (Or.inr ⟨fun w => hp2 w.1.1, rfl, rfl⟩)⟩
    · cases c9
end C36
