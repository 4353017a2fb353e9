section C6
variable {G : aG} {d : Nat} {z : aZ} {hr : aR} {hi hl : aI}
set_option maxRecDepth 100000 in
set_option maxHeartbeats 4000000 in
theorem c_fits (hz : stZ z) (hR : stR hr) (hn : 0 ≤ hi 0 9 ∧ hi 0 9 ≤ 40) (hW : cP z hr hi) {F : Int → Int → Prop} (hF : ∀ p q, 0 ≤ p → p < hi 0 9 → 0 ≤ q → q < hi 0 9 → a_ct G mX3_fitsOriginOf (d + 2) [vR (pC hr p), vR (pC hr q)] z hr hi hl (Qs z hr hi hl (isB (F p q)))) {p : Int} : a_ct G mX9_fits (d + 3) [vR 0, vI p] z hr hi hl (Qs z hr hi hl (fun r => ((0 ≤ p ∧ p < hi 0 9) ∧ isB (F p p) r) ∨ (¬ (0 ≤ p ∧ p < hi 0 9) ∧ r = some (vI (-1))))) := by
  refine a_ct_of rfl (Nat.le_of_ble_eq_true rfl) ?_
  refine a_aload_n (n := 1) dX9_fits_0 rfl rfl ?_
  refine a_iload_n (n := 2) dX9_fits_1 rfl rfl ?_
  refine a_callV (M2 := mX9_plantAt) (n := 5) dX9_fits_2 rfl (c_plantAt (d := d + 1) hz hR hn) kX9_plantAt lX9_89 iX9_plantAt eX9_plantAt (by decide) (by omega) (s0 hz) rfl (Nat.le_of_ble_eq_true rfl) (fun q2 z2 hr2 hi2 hl2 h2 => ?_)
  obtain ⟨e12, e22, e32, e42, h2⟩ := h2
  obtain rfl := e12.symm
  obtain rfl := e22.symm
  obtain rfl := e32.symm
  obtain rfl := e42.symm
  rcases h2 with ⟨hp2, rfl⟩ | ⟨hp2, rfl⟩
  · obtain ⟨f12, f22, f32, f42⟩ := hW.at_ hp2.1 hp2.2
    rw [f12]
    show a_wp G _ _ _ _ (vR (pC hr p) :: _) _ _ _ _ _
    refine b_astore_n (n := 6) dX9_fits_5 rfl (by decide) rfl ?_
    refine a_aload_n (n := 7) dX9_fits_6 rfl rfl ?_
    refine a_ifnonnull (t := 12) (n := 10) dX9_fits_7 rfl rfl (fun p7 c7 => ?_) (fun c7 => ?_)
    · refine a_aload_n (n := 13) dX9_fits_12 rfl rfl ?_
      refine a_aload_n (n := 14) dX9_fits_13 rfl rfl ?_
      refine a_callV (M2 := mX3_fitsOriginOf) (n := 17) dX9_fits_14 rfl (hF p p hp2.1 hp2.2 hp2.1 hp2.2) kX3_fitsOriginOf lX9_229 iX3_fitsOriginOf eX3_fitsOriginOf (by decide) (by omega) f22 rfl (Nat.le_of_ble_eq_true rfl) (fun q14 z14 hr14 hi14 hl14 h14 => ?_)
      obtain ⟨e114, e214, e314, e414, b14, rfl, hb14⟩ := h14
      obtain rfl := e114.symm
      obtain rfl := e214.symm
      obtain rfl := e314.symm
      obtain rfl := e414.symm
      show a_wp G _ _ _ _ (vI b14 :: _) _ _ _ _ _
      refine a_if_eq (t := 24) (n := 20) dX9_fits_17 rfl rfl (fun c17 => ?_) (fun c17 => ?_)
      · replace hb14 := isB_f hb14 (by omega)
        refine a_iconst (n := 25) dX9_fits_24 rfl ⟨by decide, by decide⟩ ?_
        refine a_ireturn dX9_fits_25 rfl ?_
        exact ⟨rfl, rfl, rfl, rfl, Or.inl ⟨hp2, _, rfl, Or.inr ⟨rfl, hb14⟩⟩⟩
      · replace hb14 := isB_t hb14 (by omega)
        refine a_iconst (n := 21) dX9_fits_20 rfl ⟨by decide, by decide⟩ ?_
        refine a_goto (t := 25) dX9_fits_21 rfl ?_
        refine a_ireturn dX9_fits_25 rfl ?_
        exact ⟨rfl, rfl, rfl, rfl, Or.inl ⟨hp2, _, rfl, Or.inl ⟨rfl, hb14⟩⟩⟩
    · cases c7
  · show a_wp G _ _ _ _ (vO none :: _) _ _ _ _ _
    refine b_astore_n (n := 6) dX9_fits_5 rfl (by decide) rfl ?_
    refine a_aload_n (n := 7) dX9_fits_6 rfl rfl ?_
    refine a_ifnonnull (t := 12) (n := 10) dX9_fits_7 rfl rfl (fun p7 c7 => ?_) (fun c7 => ?_)
    · cases c7
    · refine a_iconst (n := 11) dX9_fits_10 rfl ⟨by decide, by decide⟩ ?_
      refine a_ireturn dX9_fits_11 rfl ?_
      exact ⟨rfl, rfl, rfl, rfl, Or.inr ⟨hp2, rfl⟩⟩
set_option maxRecDepth 100000 in
set_option maxHeartbeats 4000000 in
theorem c_changed (hz : stZ z) (hR : stR hr) (hn : 0 ≤ hi 0 9 ∧ hi 0 9 ≤ 40) (hW : cP z hr hi) {F : Int → Int → Prop} (hF : ∀ p q, 0 ≤ p → p < hi 0 9 → 0 ≤ q → q < hi 0 9 → a_ct G mX3_fitsOriginOf (d + 2) [vR (pC hr p), vR (pC hr q)] z hr hi hl (Qs z hr hi hl (isB (F p q)))) {p q : Int} : a_ct G mX9_changed (d + 3) [vR 0, vI p, vI q] z hr hi hl (Qs z hr hi hl (fun r => (((0 ≤ p ∧ p < hi 0 9) ∧ (0 ≤ q ∧ q < hi 0 9) ∧ ¬ p = q) ∧ isB ((¬ F p p ∧ ¬ F q q) ∧ F p q ∧ F q p) r) ∨ (¬ ((0 ≤ p ∧ p < hi 0 9) ∧ (0 ≤ q ∧ q < hi 0 9) ∧ ¬ p = q) ∧ r = some (vI (-1))))) := by
  refine a_ct_of rfl (Nat.le_of_ble_eq_true rfl) ?_
  refine a_aload_n (n := 1) dX9_changed_0 rfl rfl ?_
  refine a_iload_n (n := 2) dX9_changed_1 rfl rfl ?_
  refine a_callV (M2 := mX9_plantAt) (n := 5) dX9_changed_2 rfl (c_plantAt (d := d + 1) hz hR hn) kX9_plantAt lX9_89 iX9_plantAt eX9_plantAt (by decide) (by omega) (s0 hz) rfl (Nat.le_of_ble_eq_true rfl) (fun q2 z2 hr2 hi2 hl2 h2 => ?_)
  obtain ⟨e12, e22, e32, e42, h2⟩ := h2
  obtain rfl := e12.symm
  obtain rfl := e22.symm
  obtain rfl := e32.symm
  obtain rfl := e42.symm
  rcases h2 with ⟨hp2, rfl⟩ | ⟨hp2, rfl⟩
  · obtain ⟨f12, f22, f32, f42⟩ := hW.at_ hp2.1 hp2.2
    rw [f12]
    show a_wp G _ _ _ _ (vR (pC hr p) :: _) _ _ _ _ _
    refine b_astore_n (n := 6) dX9_changed_5 rfl (by decide) rfl ?_
    refine a_aload_n (n := 7) dX9_changed_6 rfl rfl ?_
    refine a_iload_n (n := 8) dX9_changed_7 rfl rfl ?_
    refine a_callV (M2 := mX9_plantAt) (n := 11) dX9_changed_8 rfl (c_plantAt (d := d + 1) hz hR hn) kX9_plantAt lX9_89 iX9_plantAt eX9_plantAt (by decide) (by omega) (s0 hz) rfl (Nat.le_of_ble_eq_true rfl) (fun q8 z8 hr8 hi8 hl8 h8 => ?_)
    obtain ⟨e18, e28, e38, e48, h8⟩ := h8
    obtain rfl := e18.symm
    obtain rfl := e28.symm
    obtain rfl := e38.symm
    obtain rfl := e48.symm
    rcases h8 with ⟨hp8, rfl⟩ | ⟨hp8, rfl⟩
    · obtain ⟨f18, f28, f38, f48⟩ := hW.at_ hp8.1 hp8.2
      rw [f18]
      show a_wp G _ _ _ _ (vR (pC hr q) :: _) _ _ _ _ _
      refine b_astore (n := 13) dX9_changed_11 rfl (by decide) rfl ?_
      refine a_aload_n (n := 14) dX9_changed_13 rfl rfl ?_
      refine a_ifnull (t := 27) (n := 17) dX9_changed_14 rfl rfl (fun c14 => ?_) (fun p14 c14 => ?_)
      · cases c14
      · refine a_aload (n := 19) dX9_changed_17 rfl rfl ?_
        refine a_ifnull (t := 27) (n := 22) dX9_changed_19 rfl rfl (fun c19 => ?_) (fun p19 c19 => ?_)
        · cases c19
        · refine a_iload_n (n := 23) dX9_changed_22 rfl rfl ?_
          refine a_iload_n (n := 24) dX9_changed_23 rfl rfl ?_
          refine a_icmp_ne (t := 29) (n := 27) dX9_changed_24 rfl rfl (fun c24 => ?_) (fun c24 => ?_)
          · refine a_aload_n (n := 30) dX9_changed_29 rfl rfl ?_
            refine a_aload_n (n := 31) dX9_changed_30 rfl rfl ?_
            refine a_callV (M2 := mX3_fitsOriginOf) (n := 34) dX9_changed_31 rfl (hF p p hp2.1 hp2.2 hp2.1 hp2.2) kX3_fitsOriginOf lX9_229 iX3_fitsOriginOf eX3_fitsOriginOf (by decide) (by omega) f22 rfl (Nat.le_of_ble_eq_true rfl) (fun q31 z31 hr31 hi31 hl31 h31 => ?_)
            obtain ⟨e131, e231, e331, e431, b31, rfl, hb31⟩ := h31
            obtain rfl := e131.symm
            obtain rfl := e231.symm
            obtain rfl := e331.symm
            obtain rfl := e431.symm
            show a_wp G _ _ _ _ (vI b31 :: _) _ _ _ _ _
            refine a_if_ne (t := 51) (n := 37) dX9_changed_34 rfl rfl (fun c34 => ?_) (fun c34 => ?_)
            · replace hb31 := isB_t hb31 (by omega)
              refine a_iconst (n := 52) dX9_changed_51 rfl ⟨by decide, by decide⟩ ?_
              refine b_istore (n := 54) dX9_changed_52 rfl (by decide) rfl ?_
              refine a_iload (n := 56) dX9_changed_54 rfl rfl ?_
              refine a_if_eq (t := 81) (n := 59) dX9_changed_56 rfl rfl (fun c56 => ?_) (fun c56 => ?_)
              · refine a_iconst (n := 82) dX9_changed_81 rfl ⟨by decide, by decide⟩ ?_
                refine a_ireturn dX9_changed_82 rfl ?_
                exact ⟨rfl, rfl, rfl, rfl, Or.inl ⟨⟨hp2, hp8, c24⟩, _, rfl, Or.inr ⟨rfl, fun w => w.1.1 hb31⟩⟩⟩
              · omega
            · replace hb31 := isB_f hb31 (by omega)
              refine a_aload (n := 39) dX9_changed_37 rfl rfl ?_
              refine a_aload (n := 41) dX9_changed_39 rfl rfl ?_
              refine a_callV (M2 := mX3_fitsOriginOf) (n := 44) dX9_changed_41 rfl (hF q q hp8.1 hp8.2 hp8.1 hp8.2) kX3_fitsOriginOf lX9_229 iX3_fitsOriginOf eX3_fitsOriginOf (by decide) (by omega) f28 rfl (Nat.le_of_ble_eq_true rfl) (fun q41 z41 hr41 hi41 hl41 h41 => ?_)
              obtain ⟨e141, e241, e341, e441, b41, rfl, hb41⟩ := h41
              obtain rfl := e141.symm
              obtain rfl := e241.symm
              obtain rfl := e341.symm
              obtain rfl := e441.symm
              show a_wp G _ _ _ _ (vI b41 :: _) _ _ _ _ _
              refine a_if_ne (t := 51) (n := 47) dX9_changed_44 rfl rfl (fun c44 => ?_) (fun c44 => ?_)
              · replace hb41 := isB_t hb41 (by omega)
                refine a_iconst (n := 52) dX9_changed_51 rfl ⟨by decide, by decide⟩ ?_
                refine b_istore (n := 54) dX9_changed_52 rfl (by decide) rfl ?_
                refine a_iload (n := 56) dX9_changed_54 rfl rfl ?_
                refine a_if_eq (t := 81) (n := 59) dX9_changed_56 rfl rfl (fun c56 => ?_) (fun c56 => ?_)
                · refine a_iconst (n := 82) dX9_changed_81 rfl ⟨by decide, by decide⟩ ?_
                  refine a_ireturn dX9_changed_82 rfl ?_
                  exact ⟨rfl, rfl, rfl, rfl, Or.inl ⟨⟨hp2, hp8, c24⟩, _, rfl, Or.inr ⟨rfl, fun w => w.1.2 hb41⟩⟩⟩
                · omega
              · replace hb41 := isB_f hb41 (by omega)
                refine a_iconst (n := 48) dX9_changed_47 rfl ⟨by decide, by decide⟩ ?_
                refine a_goto (t := 52) dX9_changed_48 rfl ?_
                refine b_istore (n := 54) dX9_changed_52 rfl (by decide) rfl ?_
                refine a_iload (n := 56) dX9_changed_54 rfl rfl ?_
                refine a_if_eq (t := 81) (n := 59) dX9_changed_56 rfl rfl (fun c56 => ?_) (fun c56 => ?_)
                · omega
                · refine a_aload_n (n := 60) dX9_changed_59 rfl rfl ?_
                  refine a_aload (n := 62) dX9_changed_60 rfl rfl ?_
                  refine a_callV (M2 := mX3_fitsOriginOf) (n := 65) dX9_changed_62 rfl (hF p q hp2.1 hp2.2 hp8.1 hp8.2) kX3_fitsOriginOf lX9_229 iX3_fitsOriginOf eX3_fitsOriginOf (by decide) (by omega) f22 rfl (Nat.le_of_ble_eq_true rfl) (fun q62 z62 hr62 hi62 hl62 h62 => ?_)
                  obtain ⟨e162, e262, e362, e462, b62, rfl, hb62⟩ := h62
                  obtain rfl := e162.symm
                  obtain rfl := e262.symm
                  obtain rfl := e362.symm
                  obtain rfl := e462.symm
                  show a_wp G _ _ _ _ (vI b62 :: _) _ _ _ _ _
                  refine a_if_eq (t := 81) (n := 68) dX9_changed_65 rfl rfl (fun c65 => ?_) (fun c65 => ?_)
                  · replace hb62 := isB_f hb62 (by omega)
                    refine a_iconst (n := 82) dX9_changed_81 rfl ⟨by decide, by decide⟩ ?_
                    refine a_ireturn dX9_changed_82 rfl ?_
                    exact ⟨rfl, rfl, rfl, rfl, Or.inl ⟨⟨hp2, hp8, c24⟩, _, rfl, Or.inr ⟨rfl, fun w => hb62 w.2.1⟩⟩⟩
                  · replace hb62 := isB_t hb62 (by omega)
                    refine a_aload (n := 70) dX9_changed_68 rfl rfl ?_
                    refine a_aload_n (n := 71) dX9_changed_70 rfl rfl ?_
                    refine a_callV (M2 := mX3_fitsOriginOf) (n := 74) dX9_changed_71 rfl (hF q p hp8.1 hp8.2 hp2.1 hp2.2) kX3_fitsOriginOf lX9_229 iX3_fitsOriginOf eX3_fitsOriginOf (by decide) (by omega) f28 rfl (Nat.le_of_ble_eq_true rfl) (fun q71 z71 hr71 hi71 hl71 h71 => ?_)
                    obtain ⟨e171, e271, e371, e471, b71, rfl, hb71⟩ := h71
                    obtain rfl := e171.symm
                    obtain rfl := e271.symm
                    obtain rfl := e371.symm
                    obtain rfl := e471.symm
                    show a_wp G _ _ _ _ (vI b71 :: _) _ _ _ _ _
                    refine a_if_eq (t := 81) (n := 77) dX9_changed_74 rfl rfl (fun c74 => ?_) (fun c74 => ?_)
                    · replace hb71 := isB_f hb71 (by omega)
                      refine a_iconst (n := 82) dX9_changed_81 rfl ⟨by decide, by decide⟩ ?_
                      refine a_ireturn dX9_changed_82 rfl ?_
                      exact ⟨rfl, rfl, rfl, rfl, Or.inl ⟨⟨hp2, hp8, c24⟩, _, rfl, Or.inr ⟨rfl, fun w => hb71 w.2.2⟩⟩⟩
                    · replace hb71 := isB_t hb71 (by omega)
                      refine a_iconst (n := 78) dX9_changed_77 rfl ⟨by decide, by decide⟩ ?_
                      refine a_goto (t := 82) dX9_changed_78 rfl ?_
                      refine a_ireturn dX9_changed_82 rfl ?_
                      exact ⟨rfl, rfl, rfl, rfl, Or.inl ⟨⟨hp2, hp8, c24⟩, _, rfl, Or.inl ⟨rfl, ⟨hb31, hb41⟩, hb62, hb71⟩⟩⟩
          · refine a_iconst (n := 28) dX9_changed_27 rfl ⟨by decide, by decide⟩ ?_
            refine a_ireturn dX9_changed_28 rfl ?_
            exact ⟨rfl, rfl, rfl, rfl, Or.inr ⟨fun q => q.2.2 c24, rfl⟩⟩
    · show a_wp G _ _ _ _ (vO none :: _) _ _ _ _ _
      refine b_astore (n := 13) dX9_changed_11 rfl (by decide) rfl ?_
      refine a_aload_n (n := 14) dX9_changed_13 rfl rfl ?_
      refine a_ifnull (t := 27) (n := 17) dX9_changed_14 rfl rfl (fun c14 => ?_) (fun p14 c14 => ?_)
      · cases c14
      · refine a_aload (n := 19) dX9_changed_17 rfl rfl ?_
        refine a_ifnull (t := 27) (n := 22) dX9_changed_19 rfl rfl (fun c19 => ?_) (fun p19 c19 => ?_)
        · refine a_iconst (n := 28) dX9_changed_27 rfl ⟨by decide, by decide⟩ ?_
          refine a_ireturn dX9_changed_28 rfl ?_
          exact ⟨rfl, rfl, rfl, rfl, Or.inr ⟨fun q => hp8 q.2.1, rfl⟩⟩
        · cases c19
  · show a_wp G _ _ _ _ (vO none :: _) _ _ _ _ _
    refine b_astore_n (n := 6) dX9_changed_5 rfl (by decide) rfl ?_
    refine a_aload_n (n := 7) dX9_changed_6 rfl rfl ?_
    refine a_iload_n (n := 8) dX9_changed_7 rfl rfl ?_
    refine a_callV (M2 := mX9_plantAt) (n := 11) dX9_changed_8 rfl (c_plantAt (d := d + 1) hz hR hn) kX9_plantAt lX9_89 iX9_plantAt eX9_plantAt (by decide) (by omega) (s0 hz) rfl (Nat.le_of_ble_eq_true rfl) (fun q8 z8 hr8 hi8 hl8 h8 => ?_)
    obtain ⟨e18, e28, e38, e48, h8⟩ := h8
    obtain rfl := e18.symm
    obtain rfl := e28.symm
    obtain rfl := e38.symm
    obtain rfl := e48.symm
    rcases h8 with ⟨hp8, rfl⟩ | ⟨hp8, rfl⟩
    · obtain ⟨f18, f28, f38, f48⟩ := hW.at_ hp8.1 hp8.2
      rw [f18]
      show a_wp G _ _ _ _ (vR (pC hr q) :: _) _ _ _ _ _
      refine b_astore (n := 13) dX9_changed_11 rfl (by decide) rfl ?_
      refine a_aload_n (n := 14) dX9_changed_13 rfl rfl ?_
      refine a_ifnull (t := 27) (n := 17) dX9_changed_14 rfl rfl (fun c14 => ?_) (fun p14 c14 => ?_)
      · refine a_iconst (n := 28) dX9_changed_27 rfl ⟨by decide, by decide⟩ ?_
        refine a_ireturn dX9_changed_28 rfl ?_
        exact ⟨rfl, rfl, rfl, rfl, Or.inr ⟨fun q => hp2 q.1, rfl⟩⟩
      · cases c14
    · show a_wp G _ _ _ _ (vO none :: _) _ _ _ _ _
      refine b_astore (n := 13) dX9_changed_11 rfl (by decide) rfl ?_
      refine a_aload_n (n := 14) dX9_changed_13 rfl rfl ?_
      refine a_ifnull (t := 27) (n := 17) dX9_changed_14 rfl rfl (fun c14 => ?_) (fun p14 c14 => ?_)
      · refine a_iconst (n := 28) dX9_changed_27 rfl ⟨by decide, by decide⟩ ?_
        refine a_ireturn dX9_changed_28 rfl ?_
        exact ⟨rfl, rfl, rfl, rfl, Or.inr ⟨fun q => hp2 q.1, rfl⟩⟩
      · cases c14
set_option maxRecDepth 100000 in
set_option maxHeartbeats 4000000 in
theorem c_hp_26 (hz : stZ z) (hR : stR hr) (hn : 0 ≤ hi 0 9 ∧ hi 0 9 ≤ 40) (hW : cP z hr hi) {a c : Nat} {b : Int} (ha : a_is z a 3 17) {Q : Option aV → aZ → aR → aI → aI → Prop} (n : Nat) : ∀ k : Int, 0 ≤ k → k + n = hi 0 9 → a_wp G mX9_hasPlaceFor (d + 2) 67 [some (vR 0), some (vR a), some (vI b), some (vR c), some (vI (sm (hi 0 9).toNat (fun i => if hi (pC hr i) 13 = b ∧ ¬ i = hi a 0 then 1 else 0))), some (vI (hi 0 9))] [] z hr hi hl Q → a_wp G mX9_hasPlaceFor (d + 2) 26 [some (vR 0), some (vR a), some (vI b), some (vR c), some (vI (sm k.toNat (fun i => if hi (pC hr i) 13 = b ∧ ¬ i = hi a 0 then 1 else 0))), some (vI k)] [] z hr hi hl Q := by
  induction n with
  | zero =>
    intro k h0 hk K
    have hsb := sm_b (fun i => hi (pC hr i) 13 = b ∧ ¬ i = hi a 0) k.toNat
    refine a_iload (n := 28) dX9_hasPlaceFor_26 rfl rfl ?_
    refine a_aload_n (n := 29) dX9_hasPlaceFor_28 rfl rfl ?_
    refine a_getI (n := 32) dX9_hasPlaceFor_29 rfl fX9_79 (s0 hz) ?_
    refine a_icmp_ge (t := 67) (n := 35) dX9_hasPlaceFor_32 rfl rfl (fun c32 => ?_) (fun c32 => ?_)
    · obtain rfl : k = hi 0 9 := by omega
      exact K
    · omega
  | succ n ih =>
    intro k h0 hk K
    have hsb := sm_b (fun i => hi (pC hr i) 13 = b ∧ ¬ i = hi a 0) k.toNat
    refine a_iload (n := 28) dX9_hasPlaceFor_26 rfl rfl ?_
    refine a_aload_n (n := 29) dX9_hasPlaceFor_28 rfl rfl ?_
    refine a_getI (n := 32) dX9_hasPlaceFor_29 rfl fX9_79 (s0 hz) ?_
    refine a_icmp_ge (t := 67) (n := 35) dX9_hasPlaceFor_32 rfl rfl (fun c32 => ?_) (fun c32 => ?_)
    · omega
    · refine a_aload_n (n := 36) dX9_hasPlaceFor_35 rfl rfl ?_
      refine a_getR (n := 39) dX9_hasPlaceFor_36 rfl fX9_11 (s0 hz) (r0_0 hR) ?_
      refine a_iload (n := 41) dX9_hasPlaceFor_39 rfl rfl ?_
      refine a_aald (n := 42) dX9_hasPlaceFor_41 rfl (s1 hz) (by decide) (by omega) (by omega) ?_
      obtain ⟨f1, f2, f3, f4⟩ := hW.at_ (p := k) (by omega) (by omega)
      rw [f1]
      refine a_getI (n := 45) dX9_hasPlaceFor_42 rfl fX9_165 f2 ?_
      refine a_iload_n (n := 46) dX9_hasPlaceFor_45 rfl rfl ?_
      refine a_icmp_ne (t := 61) (n := 49) dX9_hasPlaceFor_46 rfl rfl (fun c46 => ?_) (fun c46 => ?_)
      · refine b_iinc (n := 64) dX9_hasPlaceFor_61 rfl (by decide) rfl rfl ⟨by omega, by omega⟩ ?_
        refine a_goto (t := 26) dX9_hasPlaceFor_64 rfl ?_
        have e1 : sm (k.toNat + 1) (fun i => if hi (pC hr i) 13 = b ∧ ¬ i = hi a 0 then 1 else 0) = sm k.toNat (fun i => if hi (pC hr i) 13 = b ∧ ¬ i = hi a 0 then 1 else 0) + (if hi (pC hr (k.toNat : Int)) 13 = b ∧ ¬ (k.toNat : Int) = hi a 0 then 1 else 0) := rfl
        rw [show (k.toNat : Int) = k by omega, if_neg (by omega)] at e1
        have e2 := ih (k + 1) (by omega) (by omega) K
        rw [show (k + 1).toNat = k.toNat + 1 by omega, e1] at e2
        rw [Int.add_zero] at e2
        exact e2
      · refine a_iload (n := 51) dX9_hasPlaceFor_49 rfl rfl ?_
        refine a_aload_n (n := 52) dX9_hasPlaceFor_51 rfl rfl ?_
        refine a_getI (n := 55) dX9_hasPlaceFor_52 rfl fX9_283 ha ?_
        refine a_icmp_eq (t := 61) (n := 58) dX9_hasPlaceFor_55 rfl rfl (fun c55 => ?_) (fun c55 => ?_)
        · refine b_iinc (n := 64) dX9_hasPlaceFor_61 rfl (by decide) rfl rfl ⟨by omega, by omega⟩ ?_
          refine a_goto (t := 26) dX9_hasPlaceFor_64 rfl ?_
          have e1 : sm (k.toNat + 1) (fun i => if hi (pC hr i) 13 = b ∧ ¬ i = hi a 0 then 1 else 0) = sm k.toNat (fun i => if hi (pC hr i) 13 = b ∧ ¬ i = hi a 0 then 1 else 0) + (if hi (pC hr (k.toNat : Int)) 13 = b ∧ ¬ (k.toNat : Int) = hi a 0 then 1 else 0) := rfl
          rw [show (k.toNat : Int) = k by omega, if_neg (by omega)] at e1
          have e2 := ih (k + 1) (by omega) (by omega) K
          rw [show (k + 1).toNat = k.toNat + 1 by omega, e1] at e2
          rw [Int.add_zero] at e2
          exact e2
        · refine b_iinc (n := 61) dX9_hasPlaceFor_58 rfl (by decide) rfl rfl ⟨by omega, by omega⟩ ?_
          refine b_iinc (n := 64) dX9_hasPlaceFor_61 rfl (by decide) rfl rfl ⟨by omega, by omega⟩ ?_
          refine a_goto (t := 26) dX9_hasPlaceFor_64 rfl ?_
          have e1 : sm (k.toNat + 1) (fun i => if hi (pC hr i) 13 = b ∧ ¬ i = hi a 0 then 1 else 0) = sm k.toNat (fun i => if hi (pC hr i) 13 = b ∧ ¬ i = hi a 0 then 1 else 0) + (if hi (pC hr (k.toNat : Int)) 13 = b ∧ ¬ (k.toNat : Int) = hi a 0 then 1 else 0) := rfl
          rw [show (k.toNat : Int) = k by omega, if_pos ⟨by omega, by omega⟩] at e1
          have e2 := ih (k + 1) (by omega) (by omega) K
          rw [show (k + 1).toNat = k.toNat + 1 by omega, e1] at e2
          exact e2
set_option maxRecDepth 100000 in
set_option maxHeartbeats 4000000 in
theorem c_hp_67 {a c : Nat} {b x k : Int} (hb : a_is z c 0 3) : a_wp G mX9_hasPlaceFor (d + 2) 67 [some (vR 0), some (vR a), some (vI b), some (vR c), some (vI x), some (vI k)] [] z hr hi hl (Qs z hr hi hl (isB (x < hi c 2))) := by
  refine a_iload (n := 69) dX9_hasPlaceFor_67 rfl rfl ?_
  refine a_aload_n (n := 70) dX9_hasPlaceFor_69 rfl rfl ?_
  refine a_getI (n := 73) dX9_hasPlaceFor_70 rfl fX9_174 hb ?_
  refine a_icmp_ge (t := 80) (n := 76) dX9_hasPlaceFor_73 rfl rfl (fun c73 => ?_) (fun c73 => ?_)
  · refine a_iconst (n := 81) dX9_hasPlaceFor_80 rfl ⟨by decide, by decide⟩ ?_
    refine a_zreturn dX9_hasPlaceFor_81 rfl (by omega) ?_
    exact ⟨rfl, rfl, rfl, rfl, _, rfl, by omega⟩
  · refine a_iconst (n := 77) dX9_hasPlaceFor_76 rfl ⟨by decide, by decide⟩ ?_
    refine a_goto (t := 81) dX9_hasPlaceFor_77 rfl ?_
    refine a_zreturn dX9_hasPlaceFor_81 rfl (by omega) ?_
    exact ⟨rfl, rfl, rfl, rfl, _, rfl, by omega⟩
set_option maxRecDepth 100000 in
set_option maxHeartbeats 4000000 in
theorem c_hasPlaceFor (hz : stZ z) (hR : stR hr) (hN : gN G) (hn : 0 ≤ hi 0 9 ∧ hi 0 9 ≤ 40) (hW : cP z hr hi) (hnB : 0 ≤ hi 0 10 ∧ hi 0 10 ≤ 8) (hWB : cBd z hr hi) {a : Nat} {b : Int} (ha : a_is z a 3 17) : a_ct G mX9_hasPlaceFor (d + 2) [vR 0, vR a, vI b] z hr hi hl (Qs z hr hi hl (isB ((0 ≤ b ∧ b < hi 0 10) ∧ ((hi a 9 ≤ hi (bC hr b) 0 ∧ hi (bC hr b) 0 ≤ hi a 10) ∧ hi a 11 ≤ hi (bC hr b) 1 ∧ hi (bC hr b) 1 ≤ hi a 12) ∧ sm (hi 0 9).toNat (fun i => if hi (pC hr i) 13 = b ∧ ¬ i = hi a 0 then 1 else 0) < hi (bC hr b) 2))) := by
  refine a_ct_of rfl (Nat.le_of_ble_eq_true rfl) ?_
  refine a_aload_n (n := 1) dX9_hasPlaceFor_0 rfl rfl ?_
  refine a_iload_n (n := 2) dX9_hasPlaceFor_1 rfl rfl ?_
  refine a_callV (M2 := mX9_bedAt) (n := 5) dX9_hasPlaceFor_2 rfl (c_bedAt (d := d + 0) hz hR hnB) kX9_bedAt lX9_135 iX9_bedAt eX9_bedAt (by decide) (by omega) (s0 hz) rfl (Nat.le_of_ble_eq_true rfl) (fun q2 z2 hr2 hi2 hl2 h2 => ?_)
  obtain ⟨e12, e22, e32, e42, h2⟩ := h2
  obtain rfl := e12.symm
  obtain rfl := e22.symm
  obtain rfl := e32.symm
  obtain rfl := e42.symm
  rcases h2 with ⟨hp2, rfl⟩ | ⟨hp2, rfl⟩
  · obtain ⟨f12, f22⟩ := hWB.at_ hp2.1 hp2.2
    rw [f12]
    show a_wp G _ _ _ _ (vR (bC hr b) :: _) _ _ _ _ _
    refine b_astore_n (n := 6) dX9_hasPlaceFor_5 rfl (by decide) rfl ?_
    refine a_aload_n (n := 7) dX9_hasPlaceFor_6 rfl rfl ?_
    refine a_ifnull (t := 18) (n := 10) dX9_hasPlaceFor_7 rfl rfl (fun c7 => ?_) (fun p7 c7 => ?_)
    · cases c7
    · refine a_aload_n (n := 11) dX9_hasPlaceFor_10 rfl rfl ?_
      refine a_aload_n (n := 12) dX9_hasPlaceFor_11 rfl rfl ?_
      refine a_callV (M2 := mX3_suits) (n := 15) dX9_hasPlaceFor_12 rfl (c_suits (d := d) hN ha f22) kX3_suits lX9_286 iX3_suits eX3_suits (by decide) (by omega) ha rfl (Nat.le_of_ble_eq_true rfl) (fun q12 z12 hr12 hi12 hl12 h12 => ?_)
      obtain ⟨e112, e212, e312, e412, b12, rfl, hb12⟩ := h12
      obtain rfl := e112.symm
      obtain rfl := e212.symm
      obtain rfl := e312.symm
      obtain rfl := e412.symm
      show a_wp G _ _ _ _ (vI b12 :: _) _ _ _ _ _
      refine a_if_ne (t := 20) (n := 18) dX9_hasPlaceFor_15 rfl rfl (fun c15 => ?_) (fun c15 => ?_)
      · replace hb12 := isB_t hb12 (by omega)
        refine a_iconst (n := 21) dX9_hasPlaceFor_20 rfl ⟨by decide, by decide⟩ ?_
        refine b_istore (n := 23) dX9_hasPlaceFor_21 rfl (by decide) rfl ?_
        refine a_iconst (n := 24) dX9_hasPlaceFor_23 rfl ⟨by decide, by decide⟩ ?_
        refine b_istore (n := 26) dX9_hasPlaceFor_24 rfl (by decide) rfl ?_
        refine (c_hp_26 hz hR hn hW ha (hi 0 9).toNat 0 (by decide) (by omega) (c_hp_67 f22)).mono fun r z2 hr2 hi2 hl2 ⟨q1, q2, q3, q4, b2, q5, q6⟩ => ⟨q1, q2, q3, q4, b2, q5, ?_⟩
        rcases q6 with ⟨q6, q7⟩ | ⟨q6, q7⟩
        · exact Or.inl ⟨q6, hp2, hb12, q7⟩
        · exact Or.inr ⟨q6, fun w => q7 w.2.2⟩
      · replace hb12 := isB_f hb12 (by omega)
        refine a_iconst (n := 19) dX9_hasPlaceFor_18 rfl ⟨by decide, by decide⟩ ?_
        refine a_zreturn dX9_hasPlaceFor_19 rfl (by omega) ?_
        exact ⟨rfl, rfl, rfl, rfl, _, rfl, Or.inr ⟨rfl, fun w => hb12 w.2.1⟩⟩
  · show a_wp G _ _ _ _ (vO none :: _) _ _ _ _ _
    refine b_astore_n (n := 6) dX9_hasPlaceFor_5 rfl (by decide) rfl ?_
    refine a_aload_n (n := 7) dX9_hasPlaceFor_6 rfl rfl ?_
    refine a_ifnull (t := 18) (n := 10) dX9_hasPlaceFor_7 rfl rfl (fun c7 => ?_) (fun p7 c7 => ?_)
    · refine a_iconst (n := 19) dX9_hasPlaceFor_18 rfl ⟨by decide, by decide⟩ ?_
      refine a_zreturn dX9_hasPlaceFor_19 rfl (by omega) ?_
      exact ⟨rfl, rfl, rfl, rfl, _, rfl, Or.inr ⟨rfl, fun w => hp2 w.1⟩⟩
    · cases c7
set_option maxRecDepth 100000 in
set_option maxHeartbeats 4000000 in
theorem c_lay (hz : stZ z) (hR : stR hr) (hN : gN G) (hn : 0 ≤ hi 0 9 ∧ hi 0 9 ≤ 40) (hW : cP z hr hi) (hnB : 0 ≤ hi 0 10 ∧ hi 0 10 ≤ 8) (hWB : cBd z hr hi) {p b : Int} : a_ct G mX9_lay (d + 3) [vR 0, vI p, vI b] z hr hi hl (fun r z' hr' hi' hl' => z' = z ∧ hr' = hr ∧ hl' = hl ∧ (((0 ≤ p ∧ p < hi 0 9) ∧ (b = -1 ∨ ((0 ≤ b ∧ b < hi 0 10) ∧ ((hi (pC hr p) 9 ≤ hi (bC hr b) 0 ∧ hi (bC hr b) 0 ≤ hi (pC hr p) 10) ∧ hi (pC hr p) 11 ≤ hi (bC hr b) 1 ∧ hi (bC hr b) 1 ≤ hi (pC hr p) 12) ∧ sm (hi 0 9).toNat (fun i => if hi (pC hr i) 13 = b ∧ ¬ i = hi (pC hr p) 0 then 1 else 0) < hi (bC hr b) 2))) ∧ r = some (vI 1) ∧ hi' = up2 (up2 hi (pC hr p) 13 b) (pC hr p) 16 0 ∨ ¬ ((0 ≤ p ∧ p < hi 0 9) ∧ (b = -1 ∨ ((0 ≤ b ∧ b < hi 0 10) ∧ ((hi (pC hr p) 9 ≤ hi (bC hr b) 0 ∧ hi (bC hr b) 0 ≤ hi (pC hr p) 10) ∧ hi (pC hr p) 11 ≤ hi (bC hr b) 1 ∧ hi (bC hr b) 1 ≤ hi (pC hr p) 12) ∧ sm (hi 0 9).toNat (fun i => if hi (pC hr i) 13 = b ∧ ¬ i = hi (pC hr p) 0 then 1 else 0) < hi (bC hr b) 2))) ∧ r = some (vI 0) ∧ hi' = hi)) := by
  refine a_ct_of rfl (Nat.le_of_ble_eq_true rfl) ?_
  refine a_aload_n (n := 1) dX9_lay_0 rfl rfl ?_
  refine a_iload_n (n := 2) dX9_lay_1 rfl rfl ?_
  refine a_callV (M2 := mX9_plantAt) (n := 5) dX9_lay_2 rfl (c_plantAt (d := d + 1) hz hR hn) kX9_plantAt lX9_89 iX9_plantAt eX9_plantAt (by decide) (by omega) (s0 hz) rfl (Nat.le_of_ble_eq_true rfl) (fun q2 z2 hr2 hi2 hl2 h2 => ?_)
  obtain ⟨e12, e22, e32, e42, h2⟩ := h2
  obtain rfl := e12.symm
  obtain rfl := e22.symm
  obtain rfl := e32.symm
  obtain rfl := e42.symm
  rcases h2 with ⟨hp2, rfl⟩ | ⟨hp2, rfl⟩
  · obtain ⟨f12, f22, f32, f42⟩ := hW.at_ hp2.1 hp2.2
    rw [f12]
    show a_wp G _ _ _ _ (vR (pC hr p) :: _) _ _ _ _ _
    refine b_astore_n (n := 6) dX9_lay_5 rfl (by decide) rfl ?_
    refine a_aload_n (n := 7) dX9_lay_6 rfl rfl ?_
    refine a_ifnull (t := 24) (n := 10) dX9_lay_7 rfl rfl (fun c7 => ?_) (fun p7 c7 => ?_)
    · cases c7
    · refine a_iload_n (n := 11) dX9_lay_10 rfl rfl ?_
      refine a_iconst (n := 12) dX9_lay_11 rfl ⟨by decide, by decide⟩ ?_
      refine a_icmp_eq (t := 26) (n := 15) dX9_lay_12 rfl rfl (fun c12 => ?_) (fun c12 => ?_)
      · refine a_aload_n (n := 27) dX9_lay_26 rfl rfl ?_
        refine a_iload_n (n := 28) dX9_lay_27 rfl rfl ?_
        refine a_putI (n := 31) dX9_lay_28 rfl fX9_165 rfl f22 (Or.inl rfl) ?_
        refine a_aload_n (n := 32) dX9_lay_31 rfl rfl ?_
        refine a_iconst (n := 33) dX9_lay_32 rfl ⟨by decide, by decide⟩ ?_
        refine a_putI (n := 36) dX9_lay_33 rfl fX9_168 rfl f22 (Or.inl rfl) ?_
        refine a_iconst (n := 37) dX9_lay_36 rfl ⟨by decide, by decide⟩ ?_
        refine a_zreturn dX9_lay_37 rfl (by omega) ?_
        exact ⟨rfl, rfl, rfl, Or.inl ⟨⟨hp2, Or.inl c12⟩, rfl, rfl⟩⟩
      · refine a_aload_n (n := 16) dX9_lay_15 rfl rfl ?_
        refine a_aload_n (n := 17) dX9_lay_16 rfl rfl ?_
        refine a_iload_n (n := 18) dX9_lay_17 rfl rfl ?_
        refine a_callV (M2 := mX9_hasPlaceFor) (n := 21) dX9_lay_18 rfl (c_hasPlaceFor (d := d) hz hR hN hn hW hnB hWB f22) kX9_hasPlaceFor lX9_161 iX9_hasPlaceFor eX9_hasPlaceFor (by decide) (by omega) (s0 hz) rfl (Nat.le_of_ble_eq_true rfl) (fun q18 z18 hr18 hi18 hl18 h18 => ?_)
        obtain ⟨e118, e218, e318, e418, b18, rfl, hb18⟩ := h18
        obtain rfl := e118.symm
        obtain rfl := e218.symm
        obtain rfl := e318.symm
        obtain rfl := e418.symm
        show a_wp G _ _ _ _ (vI b18 :: _) _ _ _ _ _
        refine a_if_ne (t := 26) (n := 24) dX9_lay_21 rfl rfl (fun c21 => ?_) (fun c21 => ?_)
        · replace hb18 := isB_t hb18 (by omega)
          refine a_aload_n (n := 27) dX9_lay_26 rfl rfl ?_
          refine a_iload_n (n := 28) dX9_lay_27 rfl rfl ?_
          refine a_putI (n := 31) dX9_lay_28 rfl fX9_165 rfl f22 (Or.inl rfl) ?_
          refine a_aload_n (n := 32) dX9_lay_31 rfl rfl ?_
          refine a_iconst (n := 33) dX9_lay_32 rfl ⟨by decide, by decide⟩ ?_
          refine a_putI (n := 36) dX9_lay_33 rfl fX9_168 rfl f22 (Or.inl rfl) ?_
          refine a_iconst (n := 37) dX9_lay_36 rfl ⟨by decide, by decide⟩ ?_
          refine a_zreturn dX9_lay_37 rfl (by omega) ?_
          exact ⟨rfl, rfl, rfl, Or.inl ⟨⟨hp2, Or.inr hb18⟩, rfl, rfl⟩⟩
        · replace hb18 := isB_f hb18 (by omega)
          refine a_iconst (n := 25) dX9_lay_24 rfl ⟨by decide, by decide⟩ ?_
          refine a_zreturn dX9_lay_25 rfl (by omega) ?_
          exact ⟨rfl, rfl, rfl, Or.inr ⟨fun w => w.2.elim c12 hb18, rfl, rfl⟩⟩
  · show a_wp G _ _ _ _ (vO none :: _) _ _ _ _ _
    refine b_astore_n (n := 6) dX9_lay_5 rfl (by decide) rfl ?_
    refine a_aload_n (n := 7) dX9_lay_6 rfl rfl ?_
    refine a_ifnull (t := 24) (n := 10) dX9_lay_7 rfl rfl (fun c7 => ?_) (fun p7 c7 => ?_)
    · refine a_iconst (n := 25) dX9_lay_24 rfl ⟨by decide, by decide⟩ ?_
      refine a_zreturn dX9_lay_25 rfl (by omega) ?_
      exact ⟨rfl, rfl, rfl, Or.inr ⟨fun w => hp2 w.1, rfl, rfl⟩⟩
    · cases c7
end C6
