section C3
variable {G : aG} {d : Nat} {z : aZ} {hr : aR} {hi hl : aI}
/-- the cell of a PLANT, of its MARKS, of a BED -/
def pC (hr : aR) (p : Int) : Nat := (hr 1 p).getD 0
def mC (hr : aR) (p : Int) : Nat := (hr (pC hr p) 7).getD 0
def bC (hr : aR) (b : Int) : Nat := (hr 2 b).getD 0
theorem cP.at_ {p : Int} (h : cP z hr hi) (h0 : 0 ≤ p) (h1 : p < hi 0 9) : hr 1 p = some (pC hr p) ∧ a_is z (pC hr p) 3 17 ∧ hr (pC hr p) 7 = some (mC hr p) ∧ a_is z (mC hr p) 20 8 := by
  obtain ⟨a, m, e1, e2, e3, e4⟩ := h p h0 h1
  have ea : pC hr p = a := by unfold pC; rw [e1]; rfl
  have em : mC hr p = m := by unfold mC; rw [ea, e3]; rfl
  rw [em, ea]
  exact ⟨e1, e2, e3, e4⟩
theorem cBd.at_ {b : Int} (h : cBd z hr hi) (h0 : 0 ≤ b) (h1 : b < hi 0 10) : hr 2 b = some (bC hr b) ∧ a_is z (bC hr b) 0 3 := by
  obtain ⟨a, e1, e2⟩ := h b h0 h1
  have ea : bC hr b = a := by unfold bC; rw [e1]; rfl
  rw [ea]
  exact ⟨e1, e2⟩
set_option maxRecDepth 100000 in
set_option maxHeartbeats 4000000 in
theorem c_suits (hN : gN G) {a b : Nat} (ha : a_is z a 3 17) (hb : a_is z b 0 3) : a_ct G mX3_suits (d + 1) [vR a, vR b] z hr hi hl (Qs z hr hi hl (isB ((hi a 9 ≤ hi b 0 ∧ hi b 0 ≤ hi a 10) ∧ hi a 11 ≤ hi b 1 ∧ hi b 1 ≤ hi a 12))) := by
  refine a_ct_of rfl (Nat.le_of_ble_eq_true rfl) ?_
  refine a_aload_n (n := 1) dX3_suits_0 rfl rfl ?_
  refine a_getI (n := 4) dX3_suits_1 rfl fX3_57 hb ?_
  refine a_aload_n (n := 5) dX3_suits_4 rfl rfl ?_
  refine a_getI (n := 8) dX3_suits_5 rfl fX3_62 ha ?_
  refine a_aload_n (n := 9) dX3_suits_8 rfl rfl ?_
  refine a_getI (n := 12) dX3_suits_9 rfl fX3_15 ha ?_
  refine a_callSN (M2 := mX9_within) (n := 15) dX3_suits_12 rfl (c_within (d := d)) kX9_within (nX3_65 hN) sX9_within (by omega) rfl (Nat.le_of_ble_eq_true rfl) (fun q12 z12 hr12 hi12 hl12 h12 => ?_)
  obtain ⟨e112, e212, e312, e412, b12, rfl, hb12⟩ := h12
  obtain rfl := e112.symm
  obtain rfl := e212.symm
  obtain rfl := e312.symm
  obtain rfl := e412.symm
  show a_wp G _ _ _ _ (vI b12 :: _) _ _ _ _ _
  refine a_if_eq (t := 40) (n := 18) dX3_suits_15 rfl rfl (fun c15 => ?_) (fun c15 => ?_)
  · replace hb12 := isB_f hb12 (by omega)
    refine a_iconst (n := 41) dX3_suits_40 rfl ⟨by decide, by decide⟩ ?_
    refine a_zreturn dX3_suits_41 rfl (by omega) ?_
    exact ⟨rfl, rfl, rfl, rfl, _, rfl, by omega⟩
  · replace hb12 := isB_t hb12 (by omega)
    refine a_aload_n (n := 19) dX3_suits_18 rfl rfl ?_
    refine a_getI (n := 22) dX3_suits_19 rfl fX3_69 hb ?_
    refine a_aload_n (n := 23) dX3_suits_22 rfl rfl ?_
    refine a_getI (n := 26) dX3_suits_23 rfl fX3_72 ha ?_
    refine a_aload_n (n := 27) dX3_suits_26 rfl rfl ?_
    refine a_getI (n := 30) dX3_suits_27 rfl fX3_19 ha ?_
    refine a_callSN (M2 := mX9_within) (n := 33) dX3_suits_30 rfl (c_within (d := d)) kX9_within (nX3_65 hN) sX9_within (by omega) rfl (Nat.le_of_ble_eq_true rfl) (fun q30 z30 hr30 hi30 hl30 h30 => ?_)
    obtain ⟨e130, e230, e330, e430, b30, rfl, hb30⟩ := h30
    obtain rfl := e130.symm
    obtain rfl := e230.symm
    obtain rfl := e330.symm
    obtain rfl := e430.symm
    show a_wp G _ _ _ _ (vI b30 :: _) _ _ _ _ _
    refine a_if_eq (t := 40) (n := 36) dX3_suits_33 rfl rfl (fun c33 => ?_) (fun c33 => ?_)
    · replace hb30 := isB_f hb30 (by omega)
      refine a_iconst (n := 41) dX3_suits_40 rfl ⟨by decide, by decide⟩ ?_
      refine a_zreturn dX3_suits_41 rfl (by omega) ?_
      exact ⟨rfl, rfl, rfl, rfl, _, rfl, by omega⟩
    · replace hb30 := isB_t hb30 (by omega)
      refine a_iconst (n := 37) dX3_suits_36 rfl ⟨by decide, by decide⟩ ?_
      refine a_goto (t := 41) dX3_suits_37 rfl ?_
      refine a_zreturn dX3_suits_41 rfl (by omega) ?_
      exact ⟨rfl, rfl, rfl, rfl, _, rfl, by omega⟩
set_option maxRecDepth 100000 in
set_option maxHeartbeats 4000000 in
theorem c_needs (hz : stZ z) (hR : stR hr) (hn : 0 ≤ hi 0 9 ∧ hi 0 9 ≤ 40) (hW : cP z hr hi) {p a b c e : Int} : a_ct G mX9_needs (d + 3) [vR 0, vI p, vI a, vI b, vI c, vI e] z hr hi hl (fun r z' hr' hi' hl' => z' = z ∧ hr' = hr ∧ hl' = hl ∧ (((0 ≤ p ∧ p < hi 0 9) ∧ ((0 ≤ a ∧ a ≤ 9) ∧ (0 ≤ b ∧ b ≤ 9) ∧ a ≤ b) ∧ ((0 ≤ c ∧ c ≤ 9) ∧ (0 ≤ e ∧ e ≤ 9) ∧ c ≤ e)) ∧ r = some (vI 1) ∧ hi' = up2 (up2 (up2 (up2 hi (pC hr p) 9 a) (pC hr p) 10 b) (pC hr p) 11 c) (pC hr p) 12 e ∨ ¬ ((0 ≤ p ∧ p < hi 0 9) ∧ ((0 ≤ a ∧ a ≤ 9) ∧ (0 ≤ b ∧ b ≤ 9) ∧ a ≤ b) ∧ ((0 ≤ c ∧ c ≤ 9) ∧ (0 ≤ e ∧ e ≤ 9) ∧ c ≤ e)) ∧ r = some (vI 0) ∧ hi' = hi)) := by
  refine a_ct_of rfl (Nat.le_of_ble_eq_true rfl) ?_
  refine a_aload_n (n := 1) dX9_needs_0 rfl rfl ?_
  refine a_iload_n (n := 2) dX9_needs_1 rfl rfl ?_
  refine a_callV (M2 := mX9_plantAt) (n := 5) dX9_needs_2 rfl (c_plantAt (d := d + 1) hz hR hn) kX9_plantAt lX9_89 iX9_plantAt eX9_plantAt (by decide) (by omega) (s0 hz) rfl (Nat.le_of_ble_eq_true rfl) (fun q2 z2 hr2 hi2 hl2 h2 => ?_)
  obtain ⟨e12, e22, e32, e42, h2⟩ := h2
  obtain rfl := e12.symm
  obtain rfl := e22.symm
  obtain rfl := e32.symm
  obtain rfl := e42.symm
  rcases h2 with ⟨hp2, rfl⟩ | ⟨hp2, rfl⟩
  · obtain ⟨f12, f22, f32, f42⟩ := hW.at_ hp2.1 hp2.2
    rw [f12]
    show a_wp G _ _ _ _ (vR (pC hr p) :: _) _ _ _ _ _
    refine b_astore (n := 7) dX9_needs_5 rfl (by decide) rfl ?_
    refine a_aload (n := 9) dX9_needs_7 rfl rfl ?_
    refine a_ifnull (t := 30) (n := 12) dX9_needs_9 rfl rfl (fun c9 => ?_) (fun p9 c9 => ?_)
    · cases c9
    · refine a_iload_n (n := 13) dX9_needs_12 rfl rfl ?_
      refine a_iload_n (n := 14) dX9_needs_13 rfl rfl ?_
      refine a_callS (M2 := mX9_isSpan) (n := 17) dX9_needs_14 rfl (c_isSpan (d := d)) kX9_isSpan lX9_145 sX9_isSpan (by omega) rfl (Nat.le_of_ble_eq_true rfl) (fun q14 z14 hr14 hi14 hl14 h14 => ?_)
      obtain ⟨e114, e214, e314, e414, b14, rfl, hb14⟩ := h14
      obtain rfl := e114.symm
      obtain rfl := e214.symm
      obtain rfl := e314.symm
      obtain rfl := e414.symm
      show a_wp G _ _ _ _ (vI b14 :: _) _ _ _ _ _
      refine a_if_eq (t := 30) (n := 20) dX9_needs_17 rfl rfl (fun c17 => ?_) (fun c17 => ?_)
      · replace hb14 := isB_f hb14 (by omega)
        refine a_iconst (n := 31) dX9_needs_30 rfl ⟨by decide, by decide⟩ ?_
        refine a_zreturn dX9_needs_31 rfl (by omega) ?_
        exact ⟨rfl, rfl, rfl, Or.inr ⟨fun q => hb14 q.2.1, rfl, rfl⟩⟩
      · replace hb14 := isB_t hb14 (by omega)
        refine a_iload (n := 22) dX9_needs_20 rfl rfl ?_
        refine a_iload (n := 24) dX9_needs_22 rfl rfl ?_
        refine a_callS (M2 := mX9_isSpan) (n := 27) dX9_needs_24 rfl (c_isSpan (d := d)) kX9_isSpan lX9_145 sX9_isSpan (by omega) rfl (Nat.le_of_ble_eq_true rfl) (fun q24 z24 hr24 hi24 hl24 h24 => ?_)
        obtain ⟨e124, e224, e324, e424, b24, rfl, hb24⟩ := h24
        obtain rfl := e124.symm
        obtain rfl := e224.symm
        obtain rfl := e324.symm
        obtain rfl := e424.symm
        show a_wp G _ _ _ _ (vI b24 :: _) _ _ _ _ _
        refine a_if_ne (t := 32) (n := 30) dX9_needs_27 rfl rfl (fun c27 => ?_) (fun c27 => ?_)
        · replace hb24 := isB_t hb24 (by omega)
          refine a_aload (n := 34) dX9_needs_32 rfl rfl ?_
          refine a_iload_n (n := 35) dX9_needs_34 rfl rfl ?_
          refine a_putI (n := 38) dX9_needs_35 rfl fX9_149 rfl f22 (Or.inl rfl) ?_
          refine a_aload (n := 40) dX9_needs_38 rfl rfl ?_
          refine a_iload_n (n := 41) dX9_needs_40 rfl rfl ?_
          refine a_putI (n := 44) dX9_needs_41 rfl fX9_152 rfl f22 (Or.inl rfl) ?_
          refine a_aload (n := 46) dX9_needs_44 rfl rfl ?_
          refine a_iload (n := 48) dX9_needs_46 rfl rfl ?_
          refine a_putI (n := 51) dX9_needs_48 rfl fX9_155 rfl f22 (Or.inl rfl) ?_
          refine a_aload (n := 53) dX9_needs_51 rfl rfl ?_
          refine a_iload (n := 55) dX9_needs_53 rfl rfl ?_
          refine a_putI (n := 58) dX9_needs_55 rfl fX9_158 rfl f22 (Or.inl rfl) ?_
          refine a_iconst (n := 59) dX9_needs_58 rfl ⟨by decide, by decide⟩ ?_
          refine a_zreturn dX9_needs_59 rfl (by omega) ?_
          exact ⟨rfl, rfl, rfl, Or.inl ⟨⟨hp2, hb14, hb24⟩, rfl, rfl⟩⟩
        · replace hb24 := isB_f hb24 (by omega)
          refine a_iconst (n := 31) dX9_needs_30 rfl ⟨by decide, by decide⟩ ?_
          refine a_zreturn dX9_needs_31 rfl (by omega) ?_
          exact ⟨rfl, rfl, rfl, Or.inr ⟨fun q => hb24 q.2.2, rfl, rfl⟩⟩
  · show a_wp G _ _ _ _ (vO none :: _) _ _ _ _ _
    refine b_astore (n := 7) dX9_needs_5 rfl (by decide) rfl ?_
    refine a_aload (n := 9) dX9_needs_7 rfl rfl ?_
    refine a_ifnull (t := 30) (n := 12) dX9_needs_9 rfl rfl (fun c9 => ?_) (fun p9 c9 => ?_)
    · refine a_iconst (n := 31) dX9_needs_30 rfl ⟨by decide, by decide⟩ ?_
      refine a_zreturn dX9_needs_31 rfl (by omega) ?_
      exact ⟨rfl, rfl, rfl, Or.inr ⟨fun q => hp2 q.1, rfl, rfl⟩⟩
    · cases c9
set_option maxRecDepth 100000 in
set_option maxHeartbeats 4000000 in
theorem c_seen (hz : stZ z) (hR : stR hr) (hn : 0 ≤ hi 0 9 ∧ hi 0 9 ≤ 40) (hW : cP z hr hi) {p m : Int} : a_ct G mX9_seen (d + 2) [vR 0, vI p, vI m] z hr hi hl (fun r z' hr' hi' hl' => z' = z ∧ hr' = hr ∧ hl' = hl ∧ (((0 ≤ p ∧ p < hi 0 9) ∧ ¬ hi (pC hr p) 13 = -1 ∧ (1 ≤ m ∧ m ≤ 100)) ∧ r = some (vI 1) ∧ hi' = up2 hi (pC hr p) 16 m ∨ ¬ ((0 ≤ p ∧ p < hi 0 9) ∧ ¬ hi (pC hr p) 13 = -1 ∧ (1 ≤ m ∧ m ≤ 100)) ∧ r = some (vI 0) ∧ hi' = hi)) := by
  refine a_ct_of rfl (Nat.le_of_ble_eq_true rfl) ?_
  refine a_aload_n (n := 1) dX9_seen_0 rfl rfl ?_
  refine a_iload_n (n := 2) dX9_seen_1 rfl rfl ?_
  refine a_callV (M2 := mX9_plantAt) (n := 5) dX9_seen_2 rfl (c_plantAt (d := d + 0) hz hR hn) kX9_plantAt lX9_89 iX9_plantAt eX9_plantAt (by decide) (by omega) (s0 hz) rfl (Nat.le_of_ble_eq_true rfl) (fun q2 z2 hr2 hi2 hl2 h2 => ?_)
  obtain ⟨e12, e22, e32, e42, h2⟩ := h2
  obtain rfl := e12.symm
  obtain rfl := e22.symm
  obtain rfl := e32.symm
  obtain rfl := e42.symm
  rcases h2 with ⟨hp2, rfl⟩ | ⟨hp2, rfl⟩
  · obtain ⟨f12, f22, f32, f42⟩ := hW.at_ hp2.1 hp2.2
    rw [f12]
    show a_wp G _ _ _ _ (vR (pC hr p) :: _) _ _ _ _ _
    refine b_astore_n (n := 6) dX9_seen_5 rfl (by decide) rfl ?_
    refine a_aload_n (n := 7) dX9_seen_6 rfl rfl ?_
    refine a_ifnull (t := 28) (n := 10) dX9_seen_7 rfl rfl (fun c7 => ?_) (fun p7 c7 => ?_)
    · cases c7
    · refine a_aload_n (n := 11) dX9_seen_10 rfl rfl ?_
      refine a_getI (n := 14) dX9_seen_11 rfl fX9_165 f22 ?_
      refine a_iconst (n := 15) dX9_seen_14 rfl ⟨by decide, by decide⟩ ?_
      refine a_icmp_eq (t := 28) (n := 18) dX9_seen_15 rfl rfl (fun c15 => ?_) (fun c15 => ?_)
      · refine a_iconst (n := 29) dX9_seen_28 rfl ⟨by decide, by decide⟩ ?_
        refine a_zreturn dX9_seen_29 rfl (by omega) ?_
        exact ⟨rfl, rfl, rfl, Or.inr ⟨fun q => q.2.1 c15, rfl, rfl⟩⟩
      · refine a_iload_n (n := 19) dX9_seen_18 rfl rfl ?_
        refine a_iconst (n := 20) dX9_seen_19 rfl ⟨by decide, by decide⟩ ?_
        refine a_bipush (n := 22) dX9_seen_20 rfl ⟨by decide, by decide⟩ (by decide) ?_
        refine a_callS (M2 := mX9_within) (n := 25) dX9_seen_22 rfl (c_within (d := d)) kX9_within lX9_67 sX9_within (by omega) rfl (Nat.le_of_ble_eq_true rfl) (fun q22 z22 hr22 hi22 hl22 h22 => ?_)
        obtain ⟨e122, e222, e322, e422, b22, rfl, hb22⟩ := h22
        obtain rfl := e122.symm
        obtain rfl := e222.symm
        obtain rfl := e322.symm
        obtain rfl := e422.symm
        show a_wp G _ _ _ _ (vI b22 :: _) _ _ _ _ _
        refine a_if_ne (t := 30) (n := 28) dX9_seen_25 rfl rfl (fun c25 => ?_) (fun c25 => ?_)
        · replace hb22 := isB_t hb22 (by omega)
          refine a_aload_n (n := 31) dX9_seen_30 rfl rfl ?_
          refine a_iload_n (n := 32) dX9_seen_31 rfl rfl ?_
          refine a_putI (n := 35) dX9_seen_32 rfl fX9_168 rfl f22 (Or.inl rfl) ?_
          refine a_iconst (n := 36) dX9_seen_35 rfl ⟨by decide, by decide⟩ ?_
          refine a_zreturn dX9_seen_36 rfl (by omega) ?_
          exact ⟨rfl, rfl, rfl, Or.inl ⟨⟨hp2, c15, hb22⟩, rfl, rfl⟩⟩
        · replace hb22 := isB_f hb22 (by omega)
          refine a_iconst (n := 29) dX9_seen_28 rfl ⟨by decide, by decide⟩ ?_
          refine a_zreturn dX9_seen_29 rfl (by omega) ?_
          exact ⟨rfl, rfl, rfl, Or.inr ⟨fun q => hb22 q.2.2, rfl, rfl⟩⟩
  · show a_wp G _ _ _ _ (vO none :: _) _ _ _ _ _
    refine b_astore_n (n := 6) dX9_seen_5 rfl (by decide) rfl ?_
    refine a_aload_n (n := 7) dX9_seen_6 rfl rfl ?_
    refine a_ifnull (t := 28) (n := 10) dX9_seen_7 rfl rfl (fun c7 => ?_) (fun p7 c7 => ?_)
    · refine a_iconst (n := 29) dX9_seen_28 rfl ⟨by decide, by decide⟩ ?_
      refine a_zreturn dX9_seen_29 rfl (by omega) ?_
      exact ⟨rfl, rfl, rfl, Or.inr ⟨fun q => hp2 q.1, rfl, rfl⟩⟩
    · cases c7
set_option maxRecDepth 100000 in
set_option maxHeartbeats 4000000 in
theorem c_change (hz : stZ z) (hR : stR hr) (hnB : 0 ≤ hi 0 10 ∧ hi 0 10 ≤ 8) (hWB : cBd z hr hi) {b l w : Int} : a_ct G mX9_change (d + 2) [vR 0, vI b, vI l, vI w] z hr hi hl (fun r z' hr' hi' hl' => z' = z ∧ hr' = hr ∧ hl' = hl ∧ (((0 ≤ b ∧ b < hi 0 10) ∧ (0 ≤ l ∧ l ≤ 9) ∧ (0 ≤ w ∧ w ≤ 9)) ∧ r = some (vI 1) ∧ hi' = up2 (up2 hi (bC hr b) 0 l) (bC hr b) 1 w ∨ ¬ ((0 ≤ b ∧ b < hi 0 10) ∧ (0 ≤ l ∧ l ≤ 9) ∧ (0 ≤ w ∧ w ≤ 9)) ∧ r = some (vI 0) ∧ hi' = hi)) := by
  refine a_ct_of rfl (Nat.le_of_ble_eq_true rfl) ?_
  refine a_aload_n (n := 1) dX9_change_0 rfl rfl ?_
  refine a_iload_n (n := 2) dX9_change_1 rfl rfl ?_
  refine a_callV (M2 := mX9_bedAt) (n := 5) dX9_change_2 rfl (c_bedAt (d := d + 0) hz hR hnB) kX9_bedAt lX9_135 iX9_bedAt eX9_bedAt (by decide) (by omega) (s0 hz) rfl (Nat.le_of_ble_eq_true rfl) (fun q2 z2 hr2 hi2 hl2 h2 => ?_)
  obtain ⟨e12, e22, e32, e42, h2⟩ := h2
  obtain rfl := e12.symm
  obtain rfl := e22.symm
  obtain rfl := e32.symm
  obtain rfl := e42.symm
  rcases h2 with ⟨hp2, rfl⟩ | ⟨hp2, rfl⟩
  · obtain ⟨f12, f22⟩ := hWB.at_ hp2.1 hp2.2
    rw [f12]
    show a_wp G _ _ _ _ (vR (bC hr b) :: _) _ _ _ _ _
    refine b_astore (n := 7) dX9_change_5 rfl (by decide) rfl ?_
    refine a_aload (n := 9) dX9_change_7 rfl rfl ?_
    refine a_ifnull (t := 26) (n := 12) dX9_change_9 rfl rfl (fun c9 => ?_) (fun p9 c9 => ?_)
    · cases c9
    · refine a_iload_n (n := 13) dX9_change_12 rfl rfl ?_
      refine a_callS (M2 := mX9_isDigit) (n := 16) dX9_change_13 rfl (c_isDigit (d := d)) kX9_isDigit lX9_99 sX9_isDigit (by omega) rfl (Nat.le_of_ble_eq_true rfl) (fun q13 z13 hr13 hi13 hl13 h13 => ?_)
      obtain ⟨e113, e213, e313, e413, b13, rfl, hb13⟩ := h13
      obtain rfl := e113.symm
      obtain rfl := e213.symm
      obtain rfl := e313.symm
      obtain rfl := e413.symm
      show a_wp G _ _ _ _ (vI b13 :: _) _ _ _ _ _
      refine a_if_eq (t := 26) (n := 19) dX9_change_16 rfl rfl (fun c16 => ?_) (fun c16 => ?_)
      · replace hb13 := isB_f hb13 (by omega)
        refine a_iconst (n := 27) dX9_change_26 rfl ⟨by decide, by decide⟩ ?_
        refine a_zreturn dX9_change_27 rfl (by omega) ?_
        exact ⟨rfl, rfl, rfl, Or.inr ⟨fun q => hb13 q.2.1, rfl, rfl⟩⟩
      · replace hb13 := isB_t hb13 (by omega)
        refine a_iload_n (n := 20) dX9_change_19 rfl rfl ?_
        refine a_callS (M2 := mX9_isDigit) (n := 23) dX9_change_20 rfl (c_isDigit (d := d)) kX9_isDigit lX9_99 sX9_isDigit (by omega) rfl (Nat.le_of_ble_eq_true rfl) (fun q20 z20 hr20 hi20 hl20 h20 => ?_)
        obtain ⟨e120, e220, e320, e420, b20, rfl, hb20⟩ := h20
        obtain rfl := e120.symm
        obtain rfl := e220.symm
        obtain rfl := e320.symm
        obtain rfl := e420.symm
        show a_wp G _ _ _ _ (vI b20 :: _) _ _ _ _ _
        refine a_if_ne (t := 28) (n := 26) dX9_change_23 rfl rfl (fun c23 => ?_) (fun c23 => ?_)
        · replace hb20 := isB_t hb20 (by omega)
          refine a_aload (n := 30) dX9_change_28 rfl rfl ?_
          refine a_iload_n (n := 31) dX9_change_30 rfl rfl ?_
          refine a_putI (n := 34) dX9_change_31 rfl fX9_139 rfl f22 (Or.inl rfl) ?_
          refine a_aload (n := 36) dX9_change_34 rfl rfl ?_
          refine a_iload_n (n := 37) dX9_change_36 rfl rfl ?_
          refine a_putI (n := 40) dX9_change_37 rfl fX9_142 rfl f22 (Or.inl rfl) ?_
          refine a_iconst (n := 41) dX9_change_40 rfl ⟨by decide, by decide⟩ ?_
          refine a_zreturn dX9_change_41 rfl (by omega) ?_
          exact ⟨rfl, rfl, rfl, Or.inl ⟨⟨hp2, hb13, hb20⟩, rfl, rfl⟩⟩
        · replace hb20 := isB_f hb20 (by omega)
          refine a_iconst (n := 27) dX9_change_26 rfl ⟨by decide, by decide⟩ ?_
          refine a_zreturn dX9_change_27 rfl (by omega) ?_
          exact ⟨rfl, rfl, rfl, Or.inr ⟨fun q => hb20 q.2.2, rfl, rfl⟩⟩
  · show a_wp G _ _ _ _ (vO none :: _) _ _ _ _ _
    refine b_astore (n := 7) dX9_change_5 rfl (by decide) rfl ?_
    refine a_aload (n := 9) dX9_change_7 rfl rfl ?_
    refine a_ifnull (t := 26) (n := 12) dX9_change_9 rfl rfl (fun c9 => ?_) (fun p9 c9 => ?_)
    · refine a_iconst (n := 27) dX9_change_26 rfl ⟨by decide, by decide⟩ ?_
      refine a_zreturn dX9_change_27 rfl (by omega) ?_
      exact ⟨rfl, rfl, rfl, Or.inr ⟨fun q => hp2 q.1, rfl, rfl⟩⟩
    · cases c9
set_option maxRecDepth 100000 in
set_option maxHeartbeats 4000000 in
theorem c_bears {a m : Nat} {k n : Int} (ha : a_is z a 3 17) (hm : hr a 7 = some m) (hM : a_is z m 20 8) (hk : 0 ≤ k ∧ k < 4) : a_ct G mX3_bears (d + 0) [vR a, vI k, vI n] z hr hi hl (Qs z hr hi hl (isB (hi m (2 * k) = n ∨ hi m (2 * k + 1) = n))) := by
  refine a_ct_of rfl (Nat.le_of_ble_eq_true rfl) ?_
  refine a_aload_n (n := 1) dX3_bears_0 rfl rfl ?_
  refine a_getO (n := 4) dX3_bears_1 rfl fX3_9 ha ?_
  rw [hm]
  refine a_iconst (n := 5) dX3_bears_4 rfl ⟨by decide, by decide⟩ ?_
  refine a_iload_n (n := 6) dX3_bears_5 rfl rfl ?_
  refine a_imul (n := 7) dX3_bears_6 rfl ⟨by omega, by omega⟩ ?_
  refine a_iald (n := 8) dX3_bears_7 rfl hM (by omega) (by omega) ?_
  refine a_iload_n (n := 9) dX3_bears_8 rfl rfl ?_
  refine a_icmp_eq (t := 26) (n := 12) dX3_bears_9 rfl rfl (fun c9 => ?_) (fun c9 => ?_)
  · refine a_iconst (n := 27) dX3_bears_26 rfl ⟨by decide, by decide⟩ ?_
    refine a_goto (t := 31) dX3_bears_27 rfl ?_
    refine a_zreturn dX3_bears_31 rfl (by omega) ?_
    exact ⟨rfl, rfl, rfl, rfl, _, rfl, by omega⟩
  · refine a_aload_n (n := 13) dX3_bears_12 rfl rfl ?_
    refine a_getO (n := 16) dX3_bears_13 rfl fX3_9 ha ?_
    rw [hm]
    refine a_iconst (n := 17) dX3_bears_16 rfl ⟨by decide, by decide⟩ ?_
    refine a_iload_n (n := 18) dX3_bears_17 rfl rfl ?_
    refine a_imul (n := 19) dX3_bears_18 rfl ⟨by omega, by omega⟩ ?_
    refine a_iconst (n := 20) dX3_bears_19 rfl ⟨by decide, by decide⟩ ?_
    refine a_iadd (n := 21) dX3_bears_20 rfl ⟨by omega, by omega⟩ ?_
    refine a_iald (n := 22) dX3_bears_21 rfl hM (by omega) (by omega) ?_
    refine a_iload_n (n := 23) dX3_bears_22 rfl rfl ?_
    refine a_icmp_ne (t := 30) (n := 26) dX3_bears_23 rfl rfl (fun c23 => ?_) (fun c23 => ?_)
    · refine a_iconst (n := 31) dX3_bears_30 rfl ⟨by decide, by decide⟩ ?_
      refine a_zreturn dX3_bears_31 rfl (by omega) ?_
      exact ⟨rfl, rfl, rfl, rfl, _, rfl, by omega⟩
    · refine a_iconst (n := 27) dX3_bears_26 rfl ⟨by decide, by decide⟩ ?_
      refine a_goto (t := 31) dX3_bears_27 rfl ?_
      refine a_zreturn dX3_bears_31 rfl (by omega) ?_
      exact ⟨rfl, rfl, rfl, rfl, _, rfl, by omega⟩
set_option maxRecDepth 100000 in
set_option maxHeartbeats 4000000 in
theorem c_same {a m b n : Nat} {k : Int} (ha : a_is z a 3 17) (hm : hr a 7 = some m) (hM : a_is z m 20 8) (hb : a_is z b 3 17) (hm2 : hr b 7 = some n) (hM2 : a_is z n 20 8) (hk : 0 ≤ k ∧ k < 4) : a_ct G mX3_sameMarks (d + 0) [vR a, vI k, vR b] z hr hi hl (Qs z hr hi hl (isB (hi m (2 * k) = hi n (2 * k) ∧ hi m (2 * k + 1) = hi n (2 * k + 1)))) := by
  refine a_ct_of rfl (Nat.le_of_ble_eq_true rfl) ?_
  refine a_aload_n (n := 1) dX3_sameMarks_0 rfl rfl ?_
  refine a_getO (n := 4) dX3_sameMarks_1 rfl fX3_9 ha ?_
  rw [hm]
  refine a_iconst (n := 5) dX3_sameMarks_4 rfl ⟨by decide, by decide⟩ ?_
  refine a_iload_n (n := 6) dX3_sameMarks_5 rfl rfl ?_
  refine a_imul (n := 7) dX3_sameMarks_6 rfl ⟨by omega, by omega⟩ ?_
  refine a_iald (n := 8) dX3_sameMarks_7 rfl hM (by omega) (by omega) ?_
  refine a_aload_n (n := 9) dX3_sameMarks_8 rfl rfl ?_
  refine a_getO (n := 12) dX3_sameMarks_9 rfl fX3_9 hb ?_
  rw [hm2]
  refine a_iconst (n := 13) dX3_sameMarks_12 rfl ⟨by decide, by decide⟩ ?_
  refine a_iload_n (n := 14) dX3_sameMarks_13 rfl rfl ?_
  refine a_imul (n := 15) dX3_sameMarks_14 rfl ⟨by omega, by omega⟩ ?_
  refine a_iald (n := 16) dX3_sameMarks_15 rfl hM2 (by omega) (by omega) ?_
  refine a_icmp_ne (t := 46) (n := 19) dX3_sameMarks_16 rfl rfl (fun c16 => ?_) (fun c16 => ?_)
  · refine a_iconst (n := 47) dX3_sameMarks_46 rfl ⟨by decide, by decide⟩ ?_
    refine a_zreturn dX3_sameMarks_47 rfl (by omega) ?_
    exact ⟨rfl, rfl, rfl, rfl, _, rfl, by omega⟩
  · refine a_aload_n (n := 20) dX3_sameMarks_19 rfl rfl ?_
    refine a_getO (n := 23) dX3_sameMarks_20 rfl fX3_9 ha ?_
    rw [hm]
    refine a_iconst (n := 24) dX3_sameMarks_23 rfl ⟨by decide, by decide⟩ ?_
    refine a_iload_n (n := 25) dX3_sameMarks_24 rfl rfl ?_
    refine a_imul (n := 26) dX3_sameMarks_25 rfl ⟨by omega, by omega⟩ ?_
    refine a_iconst (n := 27) dX3_sameMarks_26 rfl ⟨by decide, by decide⟩ ?_
    refine a_iadd (n := 28) dX3_sameMarks_27 rfl ⟨by omega, by omega⟩ ?_
    refine a_iald (n := 29) dX3_sameMarks_28 rfl hM (by omega) (by omega) ?_
    refine a_aload_n (n := 30) dX3_sameMarks_29 rfl rfl ?_
    refine a_getO (n := 33) dX3_sameMarks_30 rfl fX3_9 hb ?_
    rw [hm2]
    refine a_iconst (n := 34) dX3_sameMarks_33 rfl ⟨by decide, by decide⟩ ?_
    refine a_iload_n (n := 35) dX3_sameMarks_34 rfl rfl ?_
    refine a_imul (n := 36) dX3_sameMarks_35 rfl ⟨by omega, by omega⟩ ?_
    refine a_iconst (n := 37) dX3_sameMarks_36 rfl ⟨by decide, by decide⟩ ?_
    refine a_iadd (n := 38) dX3_sameMarks_37 rfl ⟨by omega, by omega⟩ ?_
    refine a_iald (n := 39) dX3_sameMarks_38 rfl hM2 (by omega) (by omega) ?_
    refine a_icmp_ne (t := 46) (n := 42) dX3_sameMarks_39 rfl rfl (fun c39 => ?_) (fun c39 => ?_)
    · refine a_iconst (n := 47) dX3_sameMarks_46 rfl ⟨by decide, by decide⟩ ?_
      refine a_zreturn dX3_sameMarks_47 rfl (by omega) ?_
      exact ⟨rfl, rfl, rfl, rfl, _, rfl, by omega⟩
    · refine a_iconst (n := 43) dX3_sameMarks_42 rfl ⟨by decide, by decide⟩ ?_
      refine a_goto (t := 47) dX3_sameMarks_43 rfl ?_
      refine a_zreturn dX3_sameMarks_47 rfl (by omega) ?_
      exact ⟨rfl, rfl, rfl, rfl, _, rfl, by omega⟩
theorem sm_b (P : Int → Prop) [DecidablePred P] (n : Nat) : 0 ≤ sm n (fun i => if P i then 1 else 0) ∧ sm n (fun i => if P i then 1 else 0) ≤ n := by
  induction n with
  | zero => exact ⟨Int.le_refl 0, Int.le_refl 0⟩
  | succ n ih =>
    rw [sm]
    split <;> omega
set_option maxRecDepth 100000 in
set_option maxHeartbeats 4000000 in
theorem c_countDead_l (hz : stZ z) (hR : stR hr) (hn : 0 ≤ hi 0 9 ∧ hi 0 9 ≤ 40) (hW : cP z hr hi) (n : Nat) : ∀ k : Int, 0 ≤ k → k + n = hi 0 9 → a_wp G mX9_countDead d 4 [some (vR 0), some (vI (sm k.toNat (fun i => if ¬ hi (pC hr i) 15 = 0 then 1 else 0))), some (vI k)] [] z hr hi hl (Qs z hr hi hl (fun r => r = some (vI ((sm (hi 0 9).toNat (fun i => if ¬ hi (pC hr i) 15 = 0 then 1 else 0)))))) := by
  induction n with
  | zero =>
    intro k h0 hk
    have hsb := sm_b (fun i => ¬ hi (pC hr i) 15 = 0) k.toNat
    refine a_iload_n (n := 5) dX9_countDead_4 rfl rfl ?_
    refine a_aload_n (n := 6) dX9_countDead_5 rfl rfl ?_
    refine a_getI (n := 9) dX9_countDead_6 rfl fX9_79 (s0 hz) ?_
    refine a_icmp_ge (t := 33) (n := 12) dX9_countDead_9 rfl rfl (fun c9 => ?_) (fun c9 => ?_)
    · refine a_iload_n (n := 34) dX9_countDead_33 rfl rfl ?_
      refine a_ireturn dX9_countDead_34 rfl ?_
      exact ⟨rfl, rfl, rfl, rfl, by rw [show k = hi 0 9 by omega]⟩
    · omega
  | succ n ih =>
    intro k h0 hk
    have hsb := sm_b (fun i => ¬ hi (pC hr i) 15 = 0) k.toNat
    refine a_iload_n (n := 5) dX9_countDead_4 rfl rfl ?_
    refine a_aload_n (n := 6) dX9_countDead_5 rfl rfl ?_
    refine a_getI (n := 9) dX9_countDead_6 rfl fX9_79 (s0 hz) ?_
    refine a_icmp_ge (t := 33) (n := 12) dX9_countDead_9 rfl rfl (fun c9 => ?_) (fun c9 => ?_)
    · omega
    · refine a_aload_n (n := 13) dX9_countDead_12 rfl rfl ?_
      refine a_getR (n := 16) dX9_countDead_13 rfl fX9_11 (s0 hz) (r0_0 hR) ?_
      refine a_iload_n (n := 17) dX9_countDead_16 rfl rfl ?_
      refine a_aald (n := 18) dX9_countDead_17 rfl (s1 hz) (by decide) (by omega) (by omega) ?_
      obtain ⟨f1, f2, f3, f4⟩ := hW.at_ (p := k) (by omega) (by omega)
      rw [f1]
      refine a_getI (n := 21) dX9_countDead_18 rfl fX9_280 f2 ?_
      refine a_if_eq (t := 27) (n := 24) dX9_countDead_21 rfl rfl (fun c21 => ?_) (fun c21 => ?_)
      · refine b_iinc (n := 30) dX9_countDead_27 rfl (by decide) rfl rfl ⟨by omega, by omega⟩ ?_
        refine a_goto (t := 4) dX9_countDead_30 rfl ?_
        have e1 : sm (k.toNat + 1) (fun i => if ¬ hi (pC hr i) 15 = 0 then 1 else 0) = sm k.toNat (fun i => if ¬ hi (pC hr i) 15 = 0 then 1 else 0) + (if ¬ hi (pC hr (k.toNat : Int)) 15 = 0 then 1 else 0) := rfl
        rw [show (k.toNat : Int) = k by omega, if_neg (by omega)] at e1
        have e2 := ih (k + 1) (by omega) (by omega)
        rw [show (k + 1).toNat = k.toNat + 1 by omega, e1] at e2
        rw [Int.add_zero] at e2
        exact e2
      · refine b_iinc (n := 27) dX9_countDead_24 rfl (by decide) rfl rfl ⟨by omega, by omega⟩ ?_
        refine b_iinc (n := 30) dX9_countDead_27 rfl (by decide) rfl rfl ⟨by omega, by omega⟩ ?_
        refine a_goto (t := 4) dX9_countDead_30 rfl ?_
        have e1 : sm (k.toNat + 1) (fun i => if ¬ hi (pC hr i) 15 = 0 then 1 else 0) = sm k.toNat (fun i => if ¬ hi (pC hr i) 15 = 0 then 1 else 0) + (if ¬ hi (pC hr (k.toNat : Int)) 15 = 0 then 1 else 0) := rfl
        rw [show (k.toNat : Int) = k by omega, if_pos (by omega)] at e1
        have e2 := ih (k + 1) (by omega) (by omega)
        rw [show (k + 1).toNat = k.toNat + 1 by omega, e1] at e2
        exact e2
set_option maxRecDepth 100000 in
set_option maxHeartbeats 4000000 in
theorem c_countDead (hz : stZ z) (hR : stR hr) (hn : 0 ≤ hi 0 9 ∧ hi 0 9 ≤ 40) (hW : cP z hr hi) : a_ct G mX9_countDead (d + 0) [vR 0] z hr hi hl (Qs z hr hi hl (fun r => r = some (vI ((sm (hi 0 9).toNat (fun i => if ¬ hi (pC hr i) 15 = 0 then 1 else 0)))))) := by
  refine a_ct_of rfl (Nat.le_of_ble_eq_true rfl) ?_
  refine a_iconst (n := 1) dX9_countDead_0 rfl ⟨by decide, by decide⟩ ?_
  refine b_istore_n (n := 2) dX9_countDead_1 rfl (by decide) rfl ?_
  refine a_iconst (n := 3) dX9_countDead_2 rfl ⟨by decide, by decide⟩ ?_
  refine b_istore_n (n := 4) dX9_countDead_3 rfl (by decide) rfl ?_
  exact c_countDead_l hz hR hn hW (hi 0 9).toNat 0 (by decide) (by omega)
set_option maxRecDepth 100000 in
set_option maxHeartbeats 4000000 in
theorem c_countLying_l (hz : stZ z) (hR : stR hr) (hn : 0 ≤ hi 0 9 ∧ hi 0 9 ≤ 40) (hW : cP z hr hi) (n : Nat) : ∀ k : Int, 0 ≤ k → k + n = hi 0 9 → a_wp G mX9_countLying d 4 [some (vR 0), some (vI (sm k.toNat (fun i => if ¬ hi (pC hr i) 13 = -1 then 1 else 0))), some (vI k)] [] z hr hi hl (Qs z hr hi hl (fun r => r = some (vI ((sm (hi 0 9).toNat (fun i => if ¬ hi (pC hr i) 13 = -1 then 1 else 0)))))) := by
  induction n with
  | zero =>
    intro k h0 hk
    have hsb := sm_b (fun i => ¬ hi (pC hr i) 13 = -1) k.toNat
    refine a_iload_n (n := 5) dX9_countLying_4 rfl rfl ?_
    refine a_aload_n (n := 6) dX9_countLying_5 rfl rfl ?_
    refine a_getI (n := 9) dX9_countLying_6 rfl fX9_79 (s0 hz) ?_
    refine a_icmp_ge (t := 34) (n := 12) dX9_countLying_9 rfl rfl (fun c9 => ?_) (fun c9 => ?_)
    · refine a_iload_n (n := 35) dX9_countLying_34 rfl rfl ?_
      refine a_ireturn dX9_countLying_35 rfl ?_
      exact ⟨rfl, rfl, rfl, rfl, by rw [show k = hi 0 9 by omega]⟩
    · omega
  | succ n ih =>
    intro k h0 hk
    have hsb := sm_b (fun i => ¬ hi (pC hr i) 13 = -1) k.toNat
    refine a_iload_n (n := 5) dX9_countLying_4 rfl rfl ?_
    refine a_aload_n (n := 6) dX9_countLying_5 rfl rfl ?_
    refine a_getI (n := 9) dX9_countLying_6 rfl fX9_79 (s0 hz) ?_
    refine a_icmp_ge (t := 34) (n := 12) dX9_countLying_9 rfl rfl (fun c9 => ?_) (fun c9 => ?_)
    · omega
    · refine a_aload_n (n := 13) dX9_countLying_12 rfl rfl ?_
      refine a_getR (n := 16) dX9_countLying_13 rfl fX9_11 (s0 hz) (r0_0 hR) ?_
      refine a_iload_n (n := 17) dX9_countLying_16 rfl rfl ?_
      refine a_aald (n := 18) dX9_countLying_17 rfl (s1 hz) (by decide) (by omega) (by omega) ?_
      obtain ⟨f1, f2, f3, f4⟩ := hW.at_ (p := k) (by omega) (by omega)
      rw [f1]
      refine a_getI (n := 21) dX9_countLying_18 rfl fX9_165 f2 ?_
      refine a_iconst (n := 22) dX9_countLying_21 rfl ⟨by decide, by decide⟩ ?_
      refine a_icmp_eq (t := 28) (n := 25) dX9_countLying_22 rfl rfl (fun c22 => ?_) (fun c22 => ?_)
      · refine b_iinc (n := 31) dX9_countLying_28 rfl (by decide) rfl rfl ⟨by omega, by omega⟩ ?_
        refine a_goto (t := 4) dX9_countLying_31 rfl ?_
        have e1 : sm (k.toNat + 1) (fun i => if ¬ hi (pC hr i) 13 = -1 then 1 else 0) = sm k.toNat (fun i => if ¬ hi (pC hr i) 13 = -1 then 1 else 0) + (if ¬ hi (pC hr (k.toNat : Int)) 13 = -1 then 1 else 0) := rfl
        rw [show (k.toNat : Int) = k by omega, if_neg (by omega)] at e1
        have e2 := ih (k + 1) (by omega) (by omega)
        rw [show (k + 1).toNat = k.toNat + 1 by omega, e1] at e2
        rw [Int.add_zero] at e2
        exact e2
      · refine b_iinc (n := 28) dX9_countLying_25 rfl (by decide) rfl rfl ⟨by omega, by omega⟩ ?_
        refine b_iinc (n := 31) dX9_countLying_28 rfl (by decide) rfl rfl ⟨by omega, by omega⟩ ?_
        refine a_goto (t := 4) dX9_countLying_31 rfl ?_
        have e1 : sm (k.toNat + 1) (fun i => if ¬ hi (pC hr i) 13 = -1 then 1 else 0) = sm k.toNat (fun i => if ¬ hi (pC hr i) 13 = -1 then 1 else 0) + (if ¬ hi (pC hr (k.toNat : Int)) 13 = -1 then 1 else 0) := rfl
        rw [show (k.toNat : Int) = k by omega, if_pos (by omega)] at e1
        have e2 := ih (k + 1) (by omega) (by omega)
        rw [show (k + 1).toNat = k.toNat + 1 by omega, e1] at e2
        exact e2
set_option maxRecDepth 100000 in
set_option maxHeartbeats 4000000 in
theorem c_countLying (hz : stZ z) (hR : stR hr) (hn : 0 ≤ hi 0 9 ∧ hi 0 9 ≤ 40) (hW : cP z hr hi) : a_ct G mX9_countLying (d + 0) [vR 0] z hr hi hl (Qs z hr hi hl (fun r => r = some (vI ((sm (hi 0 9).toNat (fun i => if ¬ hi (pC hr i) 13 = -1 then 1 else 0)))))) := by
  refine a_ct_of rfl (Nat.le_of_ble_eq_true rfl) ?_
  refine a_iconst (n := 1) dX9_countLying_0 rfl ⟨by decide, by decide⟩ ?_
  refine b_istore_n (n := 2) dX9_countLying_1 rfl (by decide) rfl ?_
  refine a_iconst (n := 3) dX9_countLying_2 rfl ⟨by decide, by decide⟩ ?_
  refine b_istore_n (n := 4) dX9_countLying_3 rfl (by decide) rfl ?_
  exact c_countLying_l hz hR hn hW (hi 0 9).toNat 0 (by decide) (by omega)
end C3
