section A7
variable {G : aG} {d : Nat} {z : aZ} {hr : aR} {hi hl : aI}
theorem c_plantY (hz : stZ z) (hR : stR hr) {p : Int} (hn : 0 ≤ hi 0 9 ∧ hi 0 9 ≤ 40) (hW : cP z hr hi) (hp : 0 ≤ p ∧ p < hi 0 9) : a_ct G mX9_plantAt (d + 1) [vR 0, vI p] z hr hi hl (Qs z hr hi hl (fun r => r = some (vR (pC hr p)))) :=
  a_ct.mono (c_plantAt hz hR hn) (fun r z' hr' hi' hl' q => by
    obtain ⟨q₁, q₂, q₃, q₄, q₅⟩ := q
    refine ⟨q₁, q₂, q₃, q₄, ?_⟩
    rcases q₅ with ⟨_, q₅⟩ | ⟨q₅, _⟩
    · rw [q₅, (hW.at_ hp.1 hp.2).1]
    · exact absurd hp q₅)
theorem c_plantN (hz : stZ z) (hR : stR hr) {p : Int} (hn : 0 ≤ hi 0 9 ∧ hi 0 9 ≤ 40) (hp : ¬ (0 ≤ p ∧ p < hi 0 9)) : a_ct G mX9_plantAt (d + 1) [vR 0, vI p] z hr hi hl (Qs z hr hi hl (fun r => r = some (vO none))) :=
  a_ct.mono (c_plantAt hz hR hn) (fun r z' hr' hi' hl' q => by
    obtain ⟨q₁, q₂, q₃, q₄, q₅⟩ := q
    refine ⟨q₁, q₂, q₃, q₄, ?_⟩
    rcases q₅ with ⟨q₅, _⟩ | ⟨_, q₅⟩
    · exact absurd q₅ hp
    · exact q₅)
theorem c_withinY {x a b : Int} (h : a ≤ x ∧ x ≤ b) : a_ct G mX9_within (d + 0) [vI x, vI a, vI b] z hr hi hl (Qs z hr hi hl (fun r => r = some (vI 1))) :=
  a_ct.mono c_within (fun r z' hr' hi' hl' q => by
    obtain ⟨q₁, q₂, q₃, q₄, b, q₅, q₆⟩ := q
    refine ⟨q₁, q₂, q₃, q₄, ?_⟩
    rcases q₆ with ⟨q₆, _⟩ | ⟨_, q₆⟩
    · rw [q₅, q₆]
    · exact absurd h q₆)
theorem c_withinN {x a b : Int} (h : ¬ (a ≤ x ∧ x ≤ b)) : a_ct G mX9_within (d + 0) [vI x, vI a, vI b] z hr hi hl (Qs z hr hi hl (fun r => r = some (vI 0))) :=
  a_ct.mono c_within (fun r z' hr' hi' hl' q => by
    obtain ⟨q₁, q₂, q₃, q₄, b, q₅, q₆⟩ := q
    refine ⟨q₁, q₂, q₃, q₄, ?_⟩
    rcases q₆ with ⟨_, q₆⟩ | ⟨q₆, _⟩
    · exact absurd q₆ h
    · rw [q₅, q₆])
set_option maxRecDepth 100000 in
set_option maxHeartbeats 4000000 in
theorem c_look (hz : stZ z) (hR : stR hr) (hn : 0 ≤ hi 0 9 ∧ hi 0 9 ≤ 40) (hW : cP z hr hi) (h2 : ∀ q, 0 ≤ q → q < hi 0 9 → ∀ b, hr (pC hr q) 2 = some b → a_is z b 3 17) (h3 : ∀ q, 0 ≤ q → q < hi 0 9 → ∀ b, hr (pC hr q) 3 = some b → a_is z b 3 17) {p w : Int} (hv : (0 ≤ p ∧ p < hi 0 9) ∧ 0 ≤ w ∧ w ≤ 17) : a_ct G mX9_look (d + 3) [vR 0, vI p, vI w] z hr hi hl (Qs z hr hi hl (fun r => r = some (vI ((if 10 ≤ w then hi (mC hr p) (w - 10) else if w ≤ 4 then cL1 hr hi (pC hr p) w else cL2 hi (pC hr p) w))))) := by
  refine a_ct_of rfl (Nat.le_of_ble_eq_true rfl) ?_
  refine a_aload_n (n := 1) dX9_look_0 rfl rfl ?_
  refine a_iload_n (n := 2) dX9_look_1 rfl rfl ?_
  refine a_callV (M2 := mX9_plantAt) (n := 5) dX9_look_2 rfl (c_plantY (d := d + 1) hz hR hn hW hv.1) kX9_plantAt lX9_89 iX9_plantAt eX9_plantAt (by decide) (by omega) (s0 hz) rfl (Nat.le_of_ble_eq_true rfl) (fun q2 z2 hr2 hi2 hl2 h2 => ?_)
  obtain ⟨e12, e22, e32, e42, rfl⟩ := h2
  obtain rfl := e12.symm
  obtain rfl := e22.symm
  obtain rfl := e32.symm
  obtain rfl := e42.symm
  show a_wp G _ _ _ _ (vR (pC hr p) :: _) _ _ _ _ _
  obtain ⟨f12, f22, f32, f42⟩ := hW.at_ hv.1.1 hv.1.2
  refine b_astore_n (n := 6) dX9_look_5 rfl (by decide) rfl ?_
  refine a_aload_n (n := 7) dX9_look_6 rfl rfl ?_
  refine a_ifnull (t := 20) (n := 10) dX9_look_7 rfl rfl (fun c7 => ?_) (fun p7 c7 => ?_)
  · cases c7
  · refine a_iload_n (n := 11) dX9_look_10 rfl rfl ?_
    refine a_iconst (n := 12) dX9_look_11 rfl ⟨by decide, by decide⟩ ?_
    refine a_bipush (n := 14) dX9_look_12 rfl ⟨by decide, by decide⟩ (by decide) ?_
    refine a_callS (M2 := mX9_within) (n := 17) dX9_look_14 rfl (c_withinY (d := d + 2) (hv.2)) kX9_within lX9_67 sX9_within (by omega) rfl (Nat.le_of_ble_eq_true rfl) (fun q14 z14 hr14 hi14 hl14 h14 => ?_)
    obtain ⟨e114, e214, e314, e414, rfl⟩ := h14
    obtain rfl := e114.symm
    obtain rfl := e214.symm
    obtain rfl := e314.symm
    obtain rfl := e414.symm
    show a_wp G _ _ _ _ (vI _ :: _) _ _ _ _ _
    refine a_if_ne (t := 30) (n := 20) dX9_look_17 rfl rfl (fun c17 => ?_) (fun c17 => ?_)
    · refine a_iload_n (n := 31) dX9_look_30 rfl rfl ?_
      refine a_bipush (n := 33) dX9_look_31 rfl ⟨by decide, by decide⟩ (by decide) ?_
      refine a_icmp_lt (t := 46) (n := 36) dX9_look_33 rfl rfl (fun c33 => ?_) (fun c33 => ?_)
      · refine a_iload_n (n := 47) dX9_look_46 rfl rfl ?_
        refine a_iconst (n := 48) dX9_look_47 rfl ⟨by decide, by decide⟩ ?_
        refine a_icmp_gt (t := 59) (n := 51) dX9_look_48 rfl rfl (fun c48 => ?_) (fun c48 => ?_)
        · refine a_aload_n (n := 60) dX9_look_59 rfl rfl ?_
          refine a_iload_n (n := 61) dX9_look_60 rfl rfl ?_
          refine a_callS (M2 := mX9_lookAtState) (n := 64) dX9_look_61 rfl (c_look2 (d := d + 2) f22) kX9_lookAtState lX9_242 sX9_lookAtState (by omega) rfl (Nat.le_of_ble_eq_true rfl) (fun q61 z61 hr61 hi61 hl61 h61 => ?_)
          obtain ⟨e161, e261, e361, e461, rfl⟩ := h61
          obtain rfl := e161.symm
          obtain rfl := e261.symm
          obtain rfl := e361.symm
          obtain rfl := e461.symm
          show a_wp G _ _ _ _ (vI _ :: _) _ _ _ _ _
          refine a_ireturn dX9_look_64 rfl ?_
          exact ⟨rfl, rfl, rfl, rfl, by rw [if_neg (by omega), if_neg (by omega)]⟩
        · refine a_aload_n (n := 52) dX9_look_51 rfl rfl ?_
          refine a_iload_n (n := 53) dX9_look_52 rfl rfl ?_
          refine a_callS (M2 := mX9_lookAtOrigin) (n := 56) dX9_look_53 rfl (c_look1 (d := d + 1) f22 (h2 _ hv.1.1 hv.1.2) (h3 _ hv.1.1 hv.1.2)) kX9_lookAtOrigin lX9_238 sX9_lookAtOrigin (by omega) rfl (Nat.le_of_ble_eq_true rfl) (fun q53 z53 hr53 hi53 hl53 h53 => ?_)
          obtain ⟨e153, e253, e353, e453, rfl⟩ := h53
          obtain rfl := e153.symm
          obtain rfl := e253.symm
          obtain rfl := e353.symm
          obtain rfl := e453.symm
          show a_wp G _ _ _ _ (vI _ :: _) _ _ _ _ _
          refine a_goto (t := 64) dX9_look_56 rfl ?_
          refine a_ireturn dX9_look_64 rfl ?_
          exact ⟨rfl, rfl, rfl, rfl, by rw [if_neg (by omega), if_pos (by omega)]⟩
      · refine a_aload_n (n := 37) dX9_look_36 rfl rfl ?_
        refine a_getO (n := 40) dX9_look_37 rfl fX9_235 f22 ?_
        rw [f32]
        refine a_iload_n (n := 41) dX9_look_40 rfl rfl ?_
        refine a_bipush (n := 43) dX9_look_41 rfl ⟨by decide, by decide⟩ (by decide) ?_
        refine a_isub (n := 44) dX9_look_43 rfl ⟨by omega, by omega⟩ ?_
        refine a_iald (n := 45) dX9_look_44 rfl f42 (by omega) (by omega) ?_
        refine a_ireturn dX9_look_45 rfl ?_
        exact ⟨rfl, rfl, rfl, rfl, by rw [if_pos (by omega)]⟩
    · exact absurd c17 (by decide)
set_option maxRecDepth 100000 in
set_option maxHeartbeats 4000000 in
theorem c_named (hz : stZ z) (hR : stR hr) (hn : 0 ≤ hi 0 9 ∧ hi 0 9 ≤ 40) (hW : cP z hr hi) (hc : 0 ≤ hi 3 7 ∧ hi 3 7 ≤ 100) (hg : 0 ≤ hi 3 6 ∧ hi 3 6 ≤ 300) (hf : ∀ dy x, 0 ≤ cJoin hi x dy) {p dy w : Int} (hv : (0 ≤ p ∧ p < hi 0 9) ∧ (0 ≤ dy ∧ dy ≤ hi 0 11) ∧ 0 ≤ w ∧ w ≤ 1) : a_ct G mX9_named (d + 3) [vR 0, vI p, vI dy, vI w] z hr hi hl (Qs z hr hi hl (fun r => r = some (vI ((mEnd (fun y => cJoin hi y (if w = 0 then dy else hi 0 11)) 50 (cGiven hi p dy)))))) := by
  refine a_ct_of rfl (Nat.le_of_ble_eq_true rfl) ?_
  refine a_aload_n (n := 1) dX9_named_0 rfl rfl ?_
  refine a_iload_n (n := 2) dX9_named_1 rfl rfl ?_
  refine a_callV (M2 := mX9_plantAt) (n := 5) dX9_named_2 rfl (c_plantY (d := d + 1) hz hR hn hW hv.1) kX9_plantAt lX9_89 iX9_plantAt eX9_plantAt (by decide) (by omega) (s0 hz) rfl (Nat.le_of_ble_eq_true rfl) (fun q2 z2 hr2 hi2 hl2 h2 => ?_)
  obtain ⟨e12, e22, e32, e42, rfl⟩ := h2
  obtain rfl := e12.symm
  obtain rfl := e22.symm
  obtain rfl := e32.symm
  obtain rfl := e42.symm
  show a_wp G _ _ _ _ (vR (pC hr p) :: _) _ _ _ _ _
  obtain ⟨f12, f22, f32, f42⟩ := hW.at_ hv.1.1 hv.1.2
  refine a_ifnull (t := 29) (n := 8) dX9_named_5 rfl rfl (fun c5 => ?_) (fun p5 c5 => ?_)
  · cases c5
  · refine a_iload_n (n := 9) dX9_named_8 rfl rfl ?_
    refine a_iconst (n := 10) dX9_named_9 rfl ⟨by decide, by decide⟩ ?_
    refine a_aload_n (n := 11) dX9_named_10 rfl rfl ?_
    refine a_getI (n := 14) dX9_named_11 rfl fX9_71 (s0 hz) ?_
    refine a_callS (M2 := mX9_within) (n := 17) dX9_named_14 rfl (c_withinY (d := d + 2) (hv.2.1)) kX9_within lX9_67 sX9_within (by omega) rfl (Nat.le_of_ble_eq_true rfl) (fun q14 z14 hr14 hi14 hl14 h14 => ?_)
    obtain ⟨e114, e214, e314, e414, rfl⟩ := h14
    obtain rfl := e114.symm
    obtain rfl := e214.symm
    obtain rfl := e314.symm
    obtain rfl := e414.symm
    show a_wp G _ _ _ _ (vI _ :: _) _ _ _ _ _
    refine a_if_eq (t := 29) (n := 20) dX9_named_17 rfl rfl (fun c17 => ?_) (fun c17 => ?_)
    · exact absurd c17 (by decide)
    · refine a_iload_n (n := 21) dX9_named_20 rfl rfl ?_
      refine a_iconst (n := 22) dX9_named_21 rfl ⟨by decide, by decide⟩ ?_
      refine a_iconst (n := 23) dX9_named_22 rfl ⟨by decide, by decide⟩ ?_
      refine a_callS (M2 := mX9_within) (n := 26) dX9_named_23 rfl (c_withinY (d := d + 2) (hv.2.2)) kX9_within lX9_67 sX9_within (by omega) rfl (Nat.le_of_ble_eq_true rfl) (fun q23 z23 hr23 hi23 hl23 h23 => ?_)
      obtain ⟨e123, e223, e323, e423, rfl⟩ := h23
      obtain rfl := e123.symm
      obtain rfl := e223.symm
      obtain rfl := e323.symm
      obtain rfl := e423.symm
      show a_wp G _ _ _ _ (vI _ :: _) _ _ _ _ _
      refine a_if_ne (t := 39) (n := 29) dX9_named_26 rfl rfl (fun c26 => ?_) (fun c26 => ?_)
      · refine a_aload_n (n := 40) dX9_named_39 rfl rfl ?_
        refine a_getR (n := 43) dX9_named_40 rfl fX9_24 (s0 hz) (r0_2 hR) ?_
        refine a_iload_n (n := 44) dX9_named_43 rfl rfl ?_
        refine a_iload_n (n := 45) dX9_named_44 rfl rfl ?_
        refine a_iload_n (n := 46) dX9_named_45 rfl rfl ?_
        refine a_if_ne (t := 53) (n := 49) dX9_named_46 rfl rfl (fun c46 => ?_) (fun c46 => ?_)
        · refine a_aload_n (n := 54) dX9_named_53 rfl rfl ?_
          refine a_getI (n := 57) dX9_named_54 rfl fX9_71 (s0 hz) ?_
          refine a_callV (M2 := mX2_nameOf) (n := 60) dX9_named_57 rfl (c_nameOf (d := d + 1) hz hR hc hg (hf _)) kX2_nameOf lX9_127 iX2_nameOf eX2_nameOf (by decide) (by omega) (s3 hz) rfl (Nat.le_of_ble_eq_true rfl) (fun q57 z57 hr57 hi57 hl57 h57 => ?_)
          obtain ⟨e157, e257, e357, e457, rfl⟩ := h57
          obtain rfl := e157.symm
          obtain rfl := e257.symm
          obtain rfl := e357.symm
          obtain rfl := e457.symm
          show a_wp G _ _ _ _ (vI _ :: _) _ _ _ _ _
          refine a_ireturn dX9_named_60 rfl ?_
          exact ⟨rfl, rfl, rfl, rfl, by rw [if_neg c46]⟩
        · refine a_iload_n (n := 50) dX9_named_49 rfl rfl ?_
          refine a_goto (t := 57) dX9_named_50 rfl ?_
          refine a_callV (M2 := mX2_nameOf) (n := 60) dX9_named_57 rfl (c_nameOf (d := d + 1) hz hR hc hg (hf _)) kX2_nameOf lX9_127 iX2_nameOf eX2_nameOf (by decide) (by omega) (s3 hz) rfl (Nat.le_of_ble_eq_true rfl) (fun q57 z57 hr57 hi57 hl57 h57 => ?_)
          obtain ⟨e157, e257, e357, e457, rfl⟩ := h57
          obtain rfl := e157.symm
          obtain rfl := e257.symm
          obtain rfl := e357.symm
          obtain rfl := e457.symm
          show a_wp G _ _ _ _ (vI _ :: _) _ _ _ _ _
          refine a_ireturn dX9_named_60 rfl ?_
          exact ⟨rfl, rfl, rfl, rfl, by rw [if_pos (by omega)]⟩
      · exact absurd c26 (by decide)
set_option maxRecDepth 100000 in
set_option maxHeartbeats 4000000 in
theorem c_lookT (hz : stZ z) (hR : stR hr) (hTh : gT G) (hG : gS G) (hz1 : z.1 + 1 < 1000000000) (hn : 0 ≤ hi 0 9 ∧ hi 0 9 ≤ 40) {p w : Int} (hv : ¬ ((0 ≤ p ∧ p < hi 0 9) ∧ 0 ≤ w ∧ w ≤ 17)) : x_ct G mX9_look (d + 7) [vR 0, vI p, vI w] z hr hi hl (a_al z 31 6) (cl0 hr z.1 none) (cl0 hi z.1 0) (cl0 hl z.1 0) := by
  refine x_ct_of rfl (Nat.le_of_ble_eq_true rfl) ?_
  refine x_aload_n (n := 1) dX9_look_0 rfl rfl ?_
  refine x_iload_n (n := 2) dX9_look_1 rfl rfl ?_
  refine x_callV (M2 := mX9_plantAt) (n := 5) dX9_look_2 rfl (c_plantAt (d := d + 5) hz hR hn) kX9_plantAt lX9_89 iX9_plantAt eX9_plantAt (by decide) (by omega) (s0 hz) rfl (Nat.le_of_ble_eq_true rfl) (fun q2 z2 hr2 hi2 hl2 h2 => ?_)
  obtain ⟨e12, e22, e32, e42, h2⟩ := h2
  obtain rfl := e12.symm
  obtain rfl := e22.symm
  obtain rfl := e32.symm
  obtain rfl := e42.symm
  rcases h2 with ⟨hp2, rfl⟩ | ⟨hp2, rfl⟩
  · show x_wp _ _ G _ _ _ _ (vO (hr 1 p) :: _) _ _ _ _ _
    refine x_astore_n (n := 6) dX9_look_5 rfl (by decide) ?_
    refine x_aload_n (n := 7) dX9_look_6 rfl rfl ?_
    refine x_ifnull (t := 20) (n := 10) dX9_look_7 rfl rfl (fun c7 => ?_) (fun p7 c7 => ?_)
    · refine x_throw (is := 233) (i := 12) hTh hG rfl rfl rfl rfl dX9_look_20 dX9_look_23 dX9_look_24 dX9_look_26 dX9_look_29 (by omega) hz1 ⟨rfl, rfl, rfl, rfl⟩
    · refine x_iload_n (n := 11) dX9_look_10 rfl rfl ?_
      refine x_iconst (n := 12) dX9_look_11 rfl ⟨by decide, by decide⟩ ?_
      refine x_bipush (n := 14) dX9_look_12 rfl ⟨by decide, by decide⟩ (by decide) ?_
      refine x_callS (M2 := mX9_within) (n := 17) dX9_look_14 rfl (c_within (d := d + 6)) kX9_within lX9_67 sX9_within (by omega) rfl (Nat.le_of_ble_eq_true rfl) (fun q14 z14 hr14 hi14 hl14 h14 => ?_)
      obtain ⟨e114, e214, e314, e414, b14, rfl, hb14⟩ := h14
      obtain rfl := e114.symm
      obtain rfl := e214.symm
      obtain rfl := e314.symm
      obtain rfl := e414.symm
      show x_wp _ _ G _ _ _ _ (vI b14 :: _) _ _ _ _ _
      refine x_if_ne (t := 30) (n := 20) dX9_look_17 rfl rfl (fun c17 => ?_) (fun c17 => ?_)
      · exact absurd ⟨hp2, isB_t hb14 c17⟩ hv
      · refine x_throw (is := 233) (i := 12) hTh hG rfl rfl rfl rfl dX9_look_20 dX9_look_23 dX9_look_24 dX9_look_26 dX9_look_29 (by omega) hz1 ⟨rfl, rfl, rfl, rfl⟩
  · show x_wp _ _ G _ _ _ _ (vO none :: _) _ _ _ _ _
    refine x_astore_n (n := 6) dX9_look_5 rfl (by decide) ?_
    refine x_aload_n (n := 7) dX9_look_6 rfl rfl ?_
    refine x_ifnull (t := 20) (n := 10) dX9_look_7 rfl rfl (fun c7 => ?_) (fun p7 c7 => ?_)
    · refine x_throw (is := 233) (i := 12) hTh hG rfl rfl rfl rfl dX9_look_20 dX9_look_23 dX9_look_24 dX9_look_26 dX9_look_29 (by omega) hz1 ⟨rfl, rfl, rfl, rfl⟩
    · cases c7
set_option maxRecDepth 100000 in
set_option maxHeartbeats 4000000 in
theorem c_namedT (hz : stZ z) (hR : stR hr) (hTh : gT G) (hG : gS G) (hz1 : z.1 + 1 < 1000000000) (hn : 0 ≤ hi 0 9 ∧ hi 0 9 ≤ 40) {p dy w : Int} (hv : ¬ ((0 ≤ p ∧ p < hi 0 9) ∧ (0 ≤ dy ∧ dy ≤ hi 0 11) ∧ 0 ≤ w ∧ w ≤ 1)) : x_ct G mX9_named (d + 7) [vR 0, vI p, vI dy, vI w] z hr hi hl (a_al z 31 6) (cl0 hr z.1 none) (cl0 hi z.1 0) (cl0 hl z.1 0) := by
  refine x_ct_of rfl (Nat.le_of_ble_eq_true rfl) ?_
  refine x_aload_n (n := 1) dX9_named_0 rfl rfl ?_
  refine x_iload_n (n := 2) dX9_named_1 rfl rfl ?_
  refine x_callV (M2 := mX9_plantAt) (n := 5) dX9_named_2 rfl (c_plantAt (d := d + 5) hz hR hn) kX9_plantAt lX9_89 iX9_plantAt eX9_plantAt (by decide) (by omega) (s0 hz) rfl (Nat.le_of_ble_eq_true rfl) (fun q2 z2 hr2 hi2 hl2 h2 => ?_)
  obtain ⟨e12, e22, e32, e42, h2⟩ := h2
  obtain rfl := e12.symm
  obtain rfl := e22.symm
  obtain rfl := e32.symm
  obtain rfl := e42.symm
  rcases h2 with ⟨hp2, rfl⟩ | ⟨hp2, rfl⟩
  · show x_wp _ _ G _ _ _ _ (vO (hr 1 p) :: _) _ _ _ _ _
    refine x_ifnull (t := 29) (n := 8) dX9_named_5 rfl rfl (fun c5 => ?_) (fun p5 c5 => ?_)
    · refine x_throw (is := 122) (i := 11) hTh hG rfl rfl rfl rfl dX9_named_29 dX9_named_32 dX9_named_33 dX9_named_35 dX9_named_38 (by omega) hz1 ⟨rfl, rfl, rfl, rfl⟩
    · refine x_iload_n (n := 9) dX9_named_8 rfl rfl ?_
      refine x_iconst (n := 10) dX9_named_9 rfl ⟨by decide, by decide⟩ ?_
      refine x_aload_n (n := 11) dX9_named_10 rfl rfl ?_
      refine x_getI (n := 14) dX9_named_11 rfl fX9_71 (s0 hz) ?_
      refine x_callS (M2 := mX9_within) (n := 17) dX9_named_14 rfl (c_within (d := d + 6)) kX9_within lX9_67 sX9_within (by omega) rfl (Nat.le_of_ble_eq_true rfl) (fun q14 z14 hr14 hi14 hl14 h14 => ?_)
      obtain ⟨e114, e214, e314, e414, b14, rfl, hb14⟩ := h14
      obtain rfl := e114.symm
      obtain rfl := e214.symm
      obtain rfl := e314.symm
      obtain rfl := e414.symm
      show x_wp _ _ G _ _ _ _ (vI b14 :: _) _ _ _ _ _
      refine x_if_eq (t := 29) (n := 20) dX9_named_17 rfl rfl (fun c17 => ?_) (fun c17 => ?_)
      · refine x_throw (is := 122) (i := 11) hTh hG rfl rfl rfl rfl dX9_named_29 dX9_named_32 dX9_named_33 dX9_named_35 dX9_named_38 (by omega) hz1 ⟨rfl, rfl, rfl, rfl⟩
      · refine x_iload_n (n := 21) dX9_named_20 rfl rfl ?_
        refine x_iconst (n := 22) dX9_named_21 rfl ⟨by decide, by decide⟩ ?_
        refine x_iconst (n := 23) dX9_named_22 rfl ⟨by decide, by decide⟩ ?_
        refine x_callS (M2 := mX9_within) (n := 26) dX9_named_23 rfl (c_within (d := d + 6)) kX9_within lX9_67 sX9_within (by omega) rfl (Nat.le_of_ble_eq_true rfl) (fun q23 z23 hr23 hi23 hl23 h23 => ?_)
        obtain ⟨e123, e223, e323, e423, b23, rfl, hb23⟩ := h23
        obtain rfl := e123.symm
        obtain rfl := e223.symm
        obtain rfl := e323.symm
        obtain rfl := e423.symm
        show x_wp _ _ G _ _ _ _ (vI b23 :: _) _ _ _ _ _
        refine x_if_ne (t := 39) (n := 29) dX9_named_26 rfl rfl (fun c26 => ?_) (fun c26 => ?_)
        · exact absurd ⟨hp2, isB_t hb14 c17, isB_t hb23 c26⟩ hv
        · refine x_throw (is := 122) (i := 11) hTh hG rfl rfl rfl rfl dX9_named_29 dX9_named_32 dX9_named_33 dX9_named_35 dX9_named_38 (by omega) hz1 ⟨rfl, rfl, rfl, rfl⟩
  · show x_wp _ _ G _ _ _ _ (vO none :: _) _ _ _ _ _
    refine x_ifnull (t := 29) (n := 8) dX9_named_5 rfl rfl (fun c5 => ?_) (fun p5 c5 => ?_)
    · refine x_throw (is := 122) (i := 11) hTh hG rfl rfl rfl rfl dX9_named_29 dX9_named_32 dX9_named_33 dX9_named_35 dX9_named_38 (by omega) hz1 ⟨rfl, rfl, rfl, rfl⟩
    · cases c5
def mL_look : aM := (yL_look, cL_look, 5, (some .int))
def mL_named : aM := (yL_named, cL_named, 6, (some .int))
set_option maxRecDepth 100000 in
set_option maxHeartbeats 4000000 in
theorem l_look (hz : stZ z) (hR : stR hr) (hn : 0 ≤ hi 0 9 ∧ hi 0 9 ≤ 40) (hW : cP z hr hi) (h2 : ∀ q, 0 ≤ q → q < hi 0 9 → ∀ b, hr (pC hr q) 2 = some b → a_is z b 3 17) (h3 : ∀ q, 0 ≤ q → q < hi 0 9 → ∀ b, hr (pC hr q) 3 = some b → a_is z b 3 17) {p w : Int} (hv : ((0 ≤ p ∧ p < hi 0 9) ∧ 0 ≤ w ∧ w ≤ 17)) : a_ctH G mL_look [(0, 10, 13, 13)] (d + 4) [vR 0, vI p, vI w, vR 79] z hr hi hl (fun r z' hr' hi' hl' => z' = z ∧ hr' = hr ∧ hi' = hi ∧ r = some (vI 0) ∧ hl' = up2 hl 79 0 (if 10 ≤ w then hi (mC hr p) (w - 10) else if w ≤ 4 then cL1 hr hi (pC hr p) w else cL2 hi (pC hr p) w)) := by
  refine a_ctH_of rfl (Nat.le_of_ble_eq_true rfl) ?_
  refine x_aload_n (n := 1) dL_look_0 rfl rfl ?_
  refine x_iconst (n := 2) dL_look_1 rfl ⟨by decide, by decide⟩ ?_
  refine x_aload_n (n := 3) dL_look_2 rfl rfl ?_
  refine x_iload_n (n := 4) dL_look_3 rfl rfl ?_
  refine x_iload_n (n := 5) dL_look_4 rfl rfl ?_
  refine x_callV (M2 := mX9_look) (n := 8) dL_look_5 rfl (c_look (d := d) hz hR hn hW h2 h3 hv) kX9_look lL_15 iX9_look eX9_look (by decide) (by omega) (s0 hz) rfl (Nat.le_of_ble_eq_true rfl) (fun q₂ z₂ hr₂ hi₂ hl₂ h₂ => ?_)
  obtain ⟨e₁, e₂, e₃, e₄, rfl⟩ := h₂
  obtain rfl := e₁.symm
  obtain rfl := e₂.symm
  obtain rfl := e₃.symm
  obtain rfl := e₄.symm
  refine a_wp.x ?_
  show a_wp G _ _ _ _ (vI _ :: vI 0 :: vR 79 :: _) _ _ _ _ _
  refine a_i2l (n := 9) dL_look_8 rfl ?_
  refine a_last (n := 10) dL_look_9 rfl (s79 hz) (by decide) (by decide) ?_
  refine a_goto (t := 17) dL_look_10 rfl ?_
  refine a_iconst (n := 18) dL_look_17 rfl ⟨by decide, by decide⟩ ?_
  refine a_ireturn dL_look_18 rfl ?_
  exact ⟨rfl, rfl, rfl, rfl, rfl⟩
set_option maxRecDepth 100000 in
set_option maxHeartbeats 4000000 in
theorem l_lookT (hz : stZ z) (hR : stR hr) (hTh : gT G) (hG : gS G) (hz1 : z.1 + 1 < 1000000000) (hn : 0 ≤ hi 0 9 ∧ hi 0 9 ≤ 40) {p w : Int} (hv : ¬ ((0 ≤ p ∧ p < hi 0 9) ∧ 0 ≤ w ∧ w ≤ 17)) : a_ctH G mL_look [(0, 10, 13, 13)] (d + 8) [vR 0, vI p, vI w, vR 79] z hr hi hl (fun r z' hr' hi' hl' => z' = a_al z 31 6 ∧ hr' = cl0 hr z.1 none ∧ hi' = cl0 hi z.1 0 ∧ r = some (vI 1) ∧ hl' = cl0 hl z.1 0) := by
  refine a_ctH_of rfl (Nat.le_of_ble_eq_true rfl) ?_
  refine x_aload_n (n := 1) dL_look_0 rfl rfl ?_
  refine x_iconst (n := 2) dL_look_1 rfl ⟨by decide, by decide⟩ ?_
  refine x_aload_n (n := 3) dL_look_2 rfl rfl ?_
  refine x_iload_n (n := 4) dL_look_3 rfl rfl ?_
  refine x_iload_n (n := 5) dL_look_4 rfl rfl ?_
  refine x_callT hTh (M2 := mX9_look) (row := ⟨0, 10, 13, 13⟩) (i := 4) dL_look_5 (c_lookT (d := d) hz hR hTh hG hz1 hn hv) kX9_look lL_15 iX9_look eX9_look (by decide) (by omega) (s0 hz) rfl (Nat.le_of_ble_eq_true rfl) (by decide) (by decide) vz_l dL_look_13 (by decide) ?_
  refine a_wp.x ?_
  show a_wp G _ _ 15 _ _ _ _ _ _ _
  refine a_iconst (n := 16) dL_look_15 rfl ⟨by decide, by decide⟩ ?_
  refine a_ireturn dL_look_16 rfl ?_
  exact ⟨rfl, rfl, rfl, rfl, rfl⟩
set_option maxRecDepth 100000 in
set_option maxHeartbeats 4000000 in
theorem l_named (hz : stZ z) (hR : stR hr) (hn : 0 ≤ hi 0 9 ∧ hi 0 9 ≤ 40) (hW : cP z hr hi) (hc : 0 ≤ hi 3 7 ∧ hi 3 7 ≤ 100) (hg : 0 ≤ hi 3 6 ∧ hi 3 6 ≤ 300) (hf : ∀ dy x, 0 ≤ cJoin hi x dy) {p dy w : Int} (hv : ((0 ≤ p ∧ p < hi 0 9) ∧ (0 ≤ dy ∧ dy ≤ hi 0 11) ∧ 0 ≤ w ∧ w ≤ 1)) : a_ctH G mL_named [(0, 12, 15, 13)] (d + 4) [vR 0, vI p, vI dy, vI w, vR 79] z hr hi hl (fun r z' hr' hi' hl' => z' = z ∧ hr' = hr ∧ hi' = hi ∧ r = some (vI 0) ∧ hl' = up2 hl 79 0 (mEnd (fun y => cJoin hi y (if w = 0 then dy else hi 0 11)) 50 (cGiven hi p dy))) := by
  refine a_ctH_of rfl (Nat.le_of_ble_eq_true rfl) ?_
  refine x_aload (n := 2) dL_named_0 rfl rfl ?_
  refine x_iconst (n := 3) dL_named_2 rfl ⟨by decide, by decide⟩ ?_
  refine x_aload_n (n := 4) dL_named_3 rfl rfl ?_
  refine x_iload_n (n := 5) dL_named_4 rfl rfl ?_
  refine x_iload_n (n := 6) dL_named_5 rfl rfl ?_
  refine x_iload_n (n := 7) dL_named_6 rfl rfl ?_
  refine x_callV (M2 := mX9_named) (n := 10) dL_named_7 rfl (c_named (d := d) hz hR hn hW hc hg hf hv) kX9_named lL_7 iX9_named eX9_named (by decide) (by omega) (s0 hz) rfl (Nat.le_of_ble_eq_true rfl) (fun q₂ z₂ hr₂ hi₂ hl₂ h₂ => ?_)
  obtain ⟨e₁, e₂, e₃, e₄, rfl⟩ := h₂
  obtain rfl := e₁.symm
  obtain rfl := e₂.symm
  obtain rfl := e₃.symm
  obtain rfl := e₄.symm
  refine a_wp.x ?_
  show a_wp G _ _ _ _ (vI _ :: vI 0 :: vR 79 :: _) _ _ _ _ _
  refine a_i2l (n := 11) dL_named_10 rfl ?_
  refine a_last (n := 12) dL_named_11 rfl (s79 hz) (by decide) (by decide) ?_
  refine a_goto (t := 19) dL_named_12 rfl ?_
  refine a_iconst (n := 20) dL_named_19 rfl ⟨by decide, by decide⟩ ?_
  refine a_ireturn dL_named_20 rfl ?_
  exact ⟨rfl, rfl, rfl, rfl, rfl⟩
set_option maxRecDepth 100000 in
set_option maxHeartbeats 4000000 in
theorem l_namedT (hz : stZ z) (hR : stR hr) (hTh : gT G) (hG : gS G) (hz1 : z.1 + 1 < 1000000000) (hn : 0 ≤ hi 0 9 ∧ hi 0 9 ≤ 40) {p dy w : Int} (hv : ¬ ((0 ≤ p ∧ p < hi 0 9) ∧ (0 ≤ dy ∧ dy ≤ hi 0 11) ∧ 0 ≤ w ∧ w ≤ 1)) : a_ctH G mL_named [(0, 12, 15, 13)] (d + 8) [vR 0, vI p, vI dy, vI w, vR 79] z hr hi hl (fun r z' hr' hi' hl' => z' = a_al z 31 6 ∧ hr' = cl0 hr z.1 none ∧ hi' = cl0 hi z.1 0 ∧ r = some (vI 1) ∧ hl' = cl0 hl z.1 0) := by
  refine a_ctH_of rfl (Nat.le_of_ble_eq_true rfl) ?_
  refine x_aload (n := 2) dL_named_0 rfl rfl ?_
  refine x_iconst (n := 3) dL_named_2 rfl ⟨by decide, by decide⟩ ?_
  refine x_aload_n (n := 4) dL_named_3 rfl rfl ?_
  refine x_iload_n (n := 5) dL_named_4 rfl rfl ?_
  refine x_iload_n (n := 6) dL_named_5 rfl rfl ?_
  refine x_iload_n (n := 7) dL_named_6 rfl rfl ?_
  refine x_callT hTh (M2 := mX9_named) (row := ⟨0, 12, 15, 13⟩) (i := 5) dL_named_7 (c_namedT (d := d) hz hR hTh hG hz1 hn hv) kX9_named lL_7 iX9_named eX9_named (by decide) (by omega) (s0 hz) rfl (Nat.le_of_ble_eq_true rfl) (by decide) (by decide) vz_l dL_named_15 (by decide) ?_
  refine a_wp.x ?_
  show a_wp G _ _ 17 _ _ _ _ _ _ _
  refine a_iconst (n := 18) dL_named_17 rfl ⟨by decide, by decide⟩ ?_
  refine a_ireturn dL_named_18 rfl ?_
  exact ⟨rfl, rfl, rfl, rfl, rfl⟩
end A7
section A7b
variable {G : aG} {M : aM} {d pc n : Nat} {L : List (Option aV)} {st : List aV} {z : aZ} {hr : aR} {hi hl : aI} {Q : Option aV → aZ → aR → aI → aI → Prop}
/-- a call, once its run is known -/
theorem a_callWH {hh : List (Nat × Nat × Nat × Nat)} {M2 : aM} {d2 : Nat} {As : List aV} {st0 : List aV} {Q1 : Option aV → aZ → aR → aI → aI → Prop} (hn : pc + 3 = n) (hst0 : st0 = As.reverse ++ st) (C : a_ctH G M2 hh d2 As z hr hi hl Q1)
    (hw : ∀ (r : Option aV) (z' : aZ) (hr' : aR) (hi' hl' : aI), a_stab G → z.1 ≤ z'.1 → z.2.1 ≤ z'.2.1 → Met (gl G) M2.1 (a_wsH M2 hh) (a_rm d2 z z') (a_Pc G As z hr hi hl) (a_Qc G r z' hr' hi' hl') (z'.1 - z.1) (z'.2.1 - z.2.1) (fun q => gb G ≤ q) →
      ∀ (p : Program) (e : Env) (R : Room) (s : State) (m : MethodId) (args : Array Value) (below : List Frame) (meth : Method) (c : Code) (H : Heap) (locs : List Loc) (cells slots : Nat) (ls : Array Slot), a_B G M d 0 0 L z hr hi hl p R s m args meth c H locs cells slots ls → cells + (z'.1 - z.1) ≤ R.cells → slots + (z'.2.1 - z.2.1) ≤ R.slots →
      va_Run p (gl G) e R s m args below meth c H locs cells slots (z'.1 - z.1) (z'.2.1 - z.2.1) (F0 m pc ls (st0.map (a_cv G))) (st.map (a_cv G)) (a_Qc G r z' hr' hi' hl' (As.map (a_cv G)).toArray) (fun q => gb G ≤ q))
    (k : ∀ r z' hr' hi' hl', Q1 r z' hr' hi' hl' → a_wp G M d n L (r.toList ++ st) z' hr' hi' hl' Q) : a_wp G M d pc L st0 z hr hi hl Q := by
  subst hn; subst hst0
  obtain ⟨r1, z1, hr1, hi1, hl1, ⟨c1, c2, c3⟩, hq1⟩ := C
  obtain ⟨r, z', hr', hi', hl', ⟨k1, k2, k3⟩, hq⟩ := k r1 z1 hr1 hi1 hl1 hq1
  refine ⟨r, z', hr', hi', hl', ⟨Nat.le_trans c1 k1, Nat.le_trans c2 k2, fun hst hL hS p e R s m args below meth c H locs cells slots ls mc ms B e1 e2 e3 e4 => ?_⟩, hq⟩
  have hAs : okS As := fun v hv => hS v (List.mem_append_left _ (List.mem_reverse.mpr hv))
  have hst2 : okS st := fun v hv => hS v (List.mem_append_right _ hv)
  have hrun := hw r1 z1 hr1 hi1 hl1 hst c1 c2 (c3 hst hAs) p e R s m args below meth c H locs cells slots ls B (by omega) (by omega)
  refine a_cont hrun B c1 (fun H2 locs2 g1 g2 g3 => ?_)
  have hB := B
  obtain ⟨b1, b2, b3, b4, b5, b6, b7, b8, b9, b10, b11⟩ := hB
  have h9 := k3 hst hL (fun v hv => by
    rcases List.mem_append.mp hv with q | q
    · cases r1 with
      | none => cases q
      | some v1 => rw [List.mem_singleton.mp q]; exact g3 v1 rfl
    · exact hst2 v q) p e R s m args below meth c H2 locs2 (cells + (z1.1 - z.1)) (slots + (z1.2.1 - z.2.1)) ls mc ms ⟨b1, b2, b3, by omega, by omega, g1, b7, g2, b9, b10, b11⟩ (by omega) (by omega) e3 e4
  rw [List.map_append] at h9
  cases r1 with
  | none => exact h9
  | some v1 => exact h9
theorem a_callSH {M2 : aM} {hh : List (Nat × Nat × Nat × Nat)} {d2 idx : Nat} {As st0 : List aV} {Q1 : Option aV → aZ → aR → aI → aI → Prop} (hd : decode M.2.1 pc = .ok (.invokestatic idx, 3)) (hn : pc + 3 = n) (C : a_ctH G M2 hh d2 As z hr hi hl Q1) (K1 : Cond.codeWith M2.1 M2.2.1 M2.2.2.1 M2.2.2.2 hh ∈ lw_tbl) (K2 : Cond.initialized M2.1.cls ∈ lw_tbl) (K3 : M2.1.cls ≠ "java/lang/invoke/MethodHandle" ∧ M2.1.cls ≠ "java/lang/invoke/VarHandle") (K4 : (parseMethodDescriptor M2.1.desc).map (fun d => d.parameters.length) = some As.length) (K5 : M2.2.2.1 ≤ 21) (hlink : Cond.methodLink M.1.cls idx M2.1 ∈ lw_tbl) (hsta : Cond.static M2.1 ∈ lw_tbl) (hdd : d2 + 1 ≤ d) (hst0 : st0 = As.reverse ++ st) (hw : (st.map a_cat).sum ≤ 8)
    (k : ∀ r z' hr' hi' hl', Q1 r z' hr' hi' hl' → a_wp G M d n L (r.toList ++ st) z' hr' hi' hl' Q) : a_wp G M d pc L st0 z hr hi hl Q := by
  refine a_callWH hn hst0 C (fun r z' hr' hi' hl' hst g1 g2 hM p e R s m args below meth c H locs cells slots ls B h1 h2 => ?_) k
  subst hst0
  have b2 := B.2.1
  have b3 := B.2.2.1
  exact vx_runSW (hh := hh) (bytes := M2.2.1) (maxL := M2.2.2.1) (ret := M2.2.2.2) (As := As.map (a_cv G)) (rest := st.map (a_cv G)) (n := As.length) ⟨B.1.1, B.1.2.1, B.1.2.2.1, B.1.2.2.2.1, B.1.ts⟩ hM
    ⟨⟨rfl, rfl, by show d2 + 1 ≤ R.frames; omega, by show 8 + (M2.2.2.1 + 11) + 40 * d2 ≤ R.locals; omega, fun w hw a' U hW => by
      rcases List.mem_cons.mp hw with rfl | hw
      · exact a_word B.1 K1 rfl a' U hW
      · exact a_word B.1 (List.mem_filter.mp hw).1 (List.mem_filter.mp hw).2 a' U hW, List.mem_cons_self⟩, B.1.2.2.2.2.1 _ K1 rfl, B.1.2.2.2.2.1 _ K2 rfl, K3, fun sig hsig => by
      rw [hsig] at K4
      exact (Option.some.inj K4).symm, B.1.2.2.2.2.1 _ hlink rfl, B.1.2.2.2.2.1 _ hsta rfl⟩
    ⟨a_blind hst, fun U hU hW => a_pcU hst B U hU hW⟩ rfl (by simp) B.2.2.2.2.2.2.2.2.2.2.1 (by rw [List.map_append, List.map_reverse]) (lv_room (by rw [a_cats]; exact hw)) hd ⟨h1, h2⟩
end A7b
section A7
end A7
