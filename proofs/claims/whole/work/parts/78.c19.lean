section C19
variable {G : aG} {d : Nat} {z : aZ} {hr : aR} {hi hl : aI}
theorem up2_29 {a : Nat} (h : 81 ≤ a) (f : aI) (i v j : Int) : up2 f 29 i v a j = f a j := up2_n (by omega)
theorem up2_28 {a : Nat} (h : 81 ≤ a) (f : aI) (i v j : Int) : up2 f 28 i v a j = f a j := up2_n (by omega)
/-- what send writes *) -/
def cSnd (hr : aR) (M : aI) (p h a : Int) : aI := up2 (up2 (up2 (up2 (up2 (up2 M 29 (4 * M 28 1) p) 29 (4 * M 28 1 + 1) h) 29 (4 * M 28 1 + 2) a) 29 (4 * M 28 1 + 3) (M 0 11)) 28 1 (M 28 1 + 1)) (pC hr p) 8 (M (pC hr p) 8 - 1)
theorem vH22_p {f : Int → Int} {t : Int} {a : Nat} (h : 81 ≤ a) : vH22 hi f t a = hi a := by
  funext j
  rw [vH22_eq, if_neg (by omega), if_neg (by omega)]
set_option maxRecDepth 100000 in
set_option maxHeartbeats 4000000 in
theorem c_send22 (hz : stZ z) (hR : stR hr) (hn : 0 ≤ hi 0 9 ∧ hi 0 9 ≤ 40) (hW : cP z hr hi) (h80 : ∀ q, 0 ≤ q → q < hi 0 9 → 81 ≤ pC hr q) (hpc : ∀ q, 0 ≤ q → q < hi 0 9 → 0 ≤ hi (pC hr q) 8 ∧ hi (pC hr q) 8 ≤ 100) (hs : 0 ≤ hi 28 1 ∧ hi 28 1 ≤ 100) (hru : hr 0 8 = some 22) {p h a v t2 : Int} {g : Int → Int} (hc : 0 ≤ hi 3 7 ∧ hi 3 7 ≤ 100) (hg : 0 ≤ hi 3 6 ∧ hi 3 6 ≤ 300) (hf : ∀ x, 0 ≤ cJoin hi x (hi 0 11)) (hL : 0 ≤ hi 22 7 ∧ hi 22 7 ≤ 16) (hlt : ∀ l, 0 ≤ l → l < 16 → hi 26 l = 0 ∨ hi 26 l = 1) (hrun0 : (v = 0 ∨ v = 1) ∧ cLe (hi 23) (hi 24) (cKn hr hi p h a 30) (hi 25) (hi 26) (hi 22 7).toNat 0 0 (hi 22 5) (hi 27) = some (v, g, t2)) : a_ct G mX9_send (d + 5) [vR 0, vI p, vI h, vI a] z hr hi hl (fun r z' hr' hi' hl' => z' = z ∧ hr' = hr ∧ hl' = hl ∧ ((((0 ≤ p ∧ p < hi 0 9) ∧ (0 ≤ h ∧ h ≤ 99) ∧ (0 ≤ a ∧ a ≤ 9)) ∧ 1 ≤ hi (pC hr p) 8) ∧ (v = 1 ∧ ¬ hi 28 1 = 100) ∧ r = some (vI 1) ∧ hi' = cSnd hr (vH22 (cKn hr hi p h a) g t2) p h a ∨ (((0 ≤ p ∧ p < hi 0 9) ∧ (0 ≤ h ∧ h ≤ 99) ∧ (0 ≤ a ∧ a ≤ 9)) ∧ 1 ≤ hi (pC hr p) 8) ∧ ¬ (v = 1 ∧ ¬ hi 28 1 = 100) ∧ r = some (vI 0) ∧ hi' = (vH22 (cKn hr hi p h a) g t2) ∨ ¬ (((0 ≤ p ∧ p < hi 0 9) ∧ (0 ≤ h ∧ h ≤ 99) ∧ (0 ≤ a ∧ a ≤ 9)) ∧ 1 ≤ hi (pC hr p) 8) ∧ r = some (vI 0) ∧ hi' = hi)) := by
  refine a_ct_of rfl (Nat.le_of_ble_eq_true rfl) ?_
  refine a_aload_n (n := 1) dX9_send_0 rfl rfl ?_
  refine a_iload_n (n := 2) dX9_send_1 rfl rfl ?_
  refine a_callV (M2 := mX9_plantAt) (n := 5) dX9_send_2 rfl (c_plantAt (d := d + 3) hz hR hn) kX9_plantAt lX9_89 iX9_plantAt eX9_plantAt (by decide) (by omega) (s0 hz) rfl (Nat.le_of_ble_eq_true rfl) (fun q2 z2 hr2 hi2 hl2 h2 => ?_)
  obtain ⟨e12, e22, e32, e42, h2⟩ := h2
  obtain rfl := e12.symm
  obtain rfl := e22.symm
  obtain rfl := e32.symm
  obtain rfl := e42.symm
  rcases h2 with ⟨hp2, rfl⟩ | ⟨hp2, rfl⟩
  · obtain ⟨f12, f22, f32, f42⟩ := hW.at_ hp2.1 hp2.2
    rw [f12]
    show a_wp G _ _ _ _ (vR (pC hr p) :: _) _ _ _ _ _
    have f80 := h80 p hp2.1 hp2.2
    have hpp := hpc p hp2.1 hp2.2
    refine b_astore (n := 7) dX9_send_5 rfl (by decide) rfl ?_
    refine a_aload (n := 9) dX9_send_7 rfl rfl ?_
    refine a_ifnull (t := 32) (n := 12) dX9_send_9 rfl rfl (fun c9 => ?_) (fun p9 c9 => ?_)
    · cases c9
    · refine a_aload (n := 14) dX9_send_12 rfl rfl ?_
      refine a_getI (n := 17) dX9_send_14 rfl fX9_96 f22 ?_
      try simp only [up2_29 f80, up2_28 f80]
      refine a_iconst (n := 18) dX9_send_17 rfl ⟨by decide, by decide⟩ ?_
      refine a_icmp_lt (t := 32) (n := 21) dX9_send_18 rfl rfl (fun c18 => ?_) (fun c18 => ?_)
      · refine a_iconst (n := 33) dX9_send_32 rfl ⟨by decide, by decide⟩ ?_
        refine a_zreturn dX9_send_33 rfl (by omega) ?_
        exact ⟨rfl, rfl, rfl, Or.inr (Or.inr ⟨fun w => by have := w.2; omega, rfl, rfl⟩)⟩
      · refine a_aload_n (n := 22) dX9_send_21 rfl rfl ?_
        refine a_iload_n (n := 23) dX9_send_22 rfl rfl ?_
        refine a_iload_n (n := 24) dX9_send_23 rfl rfl ?_
        refine a_iload_n (n := 25) dX9_send_24 rfl rfl ?_
        refine a_callV (M2 := mX9_may) (n := 28) dX9_send_25 rfl (c_may22 (d := d) hz hR hn hW h80 hru hc hg hf hL hlt hrun0) kX9_may lX9_215 iX9_may eX9_may (by decide) (by omega) (s0 hz) rfl (Nat.le_of_ble_eq_true rfl) (fun q25 z25 hr25 hi25 hl25 h25 => ?_)
        obtain ⟨e125, e225, e325, h25⟩ := h25
        obtain rfl := e125.symm
        obtain rfl := e225.symm
        obtain rfl := e325.symm
        rcases h25 with ⟨hcd, rfl, rfl⟩ | ⟨hcd, rfl, e425⟩
        · have m1 : (vH22 (cKn hr hi p h a) g t2) 28 1 = hi 28 1 := congrFun (show (vH22 (cKn hr hi p h a) g t2) 28 = hi 28 from (funext fun j => rfl)) 1
          have m2 : (vH22 (cKn hr hi p h a) g t2) (pC hr p) 8 = hi (pC hr p) 8 := (congrFun (vH22_p f80) 8).trans (congrFun (cKn_f (by omega)) 8)
          generalize (vH22 (cKn hr hi p h a) g t2) = M at m1 m2 ⊢
          show a_wp G _ _ _ _ (vI v :: _) _ _ _ _ _
          refine a_iconst (n := 29) dX9_send_28 rfl ⟨by decide, by decide⟩ ?_
          refine a_icmp_eq (t := 34) (n := 32) dX9_send_29 rfl rfl (fun c29 => ?_) (fun c29 => ?_)
          · refine a_aload_n (n := 35) dX9_send_34 rfl rfl ?_
            refine a_getR (n := 38) dX9_send_35 rfl fX9_52 (s0 hz) (r0_6 hR) ?_
            refine a_iload_n (n := 39) dX9_send_38 rfl rfl ?_
            refine a_iload_n (n := 40) dX9_send_39 rfl rfl ?_
            refine a_iload_n (n := 41) dX9_send_40 rfl rfl ?_
            refine a_aload_n (n := 42) dX9_send_41 rfl rfl ?_
            refine a_getI (n := 45) dX9_send_42 rfl fX9_71 (s0 hz) ?_
            try simp only [up2_eq, Nat.reduceEqDiff, Int.reduceEq, Int.reduceNeg, and_true, true_and, and_false, false_and, and_self, if_true, if_false, ite_true, ite_false, reduceIte, eq_self]
            refine a_callV (M2 := mX6_write) (n := 48) dX9_send_45 rfl (c_write (d := d + 3) hz hR (by omega)) kX6_write lX9_218 iX6_write eX6_write (by decide) (by omega) (s28 hz) rfl (Nat.le_of_ble_eq_true rfl) (fun q45 z45 hr45 hi45 hl45 h45 => ?_)
            obtain ⟨e145, e245, e345, h45⟩ := h45
            obtain rfl := e145.symm
            obtain rfl := e245.symm
            obtain rfl := e345.symm
            rcases h45 with ⟨k45, rfl, rfl⟩ | ⟨k45, rfl, e445⟩
            · show a_wp G _ _ _ _ (vI 1 :: _) _ _ _ _ _
              refine a_if_ne (t := 53) (n := 51) dX9_send_48 rfl rfl (fun c48 => ?_) (fun c48 => ?_)
              · refine a_aload (n := 55) dX9_send_53 rfl rfl ?_
                refine a_dup (n := 56) dX9_send_55 rfl rfl ?_
                refine a_getI (n := 59) dX9_send_56 rfl fX9_96 f22 ?_
                try simp only [up2_29 f80, up2_28 f80]
                refine a_iconst (n := 60) dX9_send_59 rfl ⟨by decide, by decide⟩ ?_
                refine a_isub (n := 61) dX9_send_60 rfl ⟨by omega, by omega⟩ ?_
                refine a_putI (n := 64) dX9_send_61 rfl fX9_96 rfl f22 (Or.inl rfl) ?_
                refine a_iconst (n := 65) dX9_send_64 rfl ⟨by decide, by decide⟩ ?_
                refine a_zreturn dX9_send_65 rfl (by omega) ?_
                exact ⟨rfl, rfl, rfl, Or.inl ⟨⟨hcd, by omega⟩, ⟨by omega, by omega⟩, rfl, rfl⟩⟩
              · omega
            · obtain rfl := e445.symm
              show a_wp G _ _ _ _ (vI 0 :: _) _ _ _ _ _
              refine a_if_ne (t := 53) (n := 51) dX9_send_48 rfl rfl (fun c48 => ?_) (fun c48 => ?_)
              · omega
              · refine a_iconst (n := 52) dX9_send_51 rfl ⟨by decide, by decide⟩ ?_
                refine a_zreturn dX9_send_52 rfl (by omega) ?_
                exact ⟨rfl, rfl, rfl, Or.inr (Or.inl ⟨⟨hcd, by omega⟩, fun w => w.2 (by omega), rfl, rfl⟩)⟩
          · refine a_iconst (n := 33) dX9_send_32 rfl ⟨by decide, by decide⟩ ?_
            refine a_zreturn dX9_send_33 rfl (by omega) ?_
            exact ⟨rfl, rfl, rfl, Or.inr (Or.inl ⟨⟨hcd, by omega⟩, fun w => c29 w.1, rfl, rfl⟩)⟩
        · obtain rfl := e425.symm
          show a_wp G _ _ _ _ (vI (-1) :: _) _ _ _ _ _
          refine a_iconst (n := 29) dX9_send_28 rfl ⟨by decide, by decide⟩ ?_
          refine a_icmp_eq (t := 34) (n := 32) dX9_send_29 rfl rfl (fun c29 => ?_) (fun c29 => ?_)
          · omega
          · refine a_iconst (n := 33) dX9_send_32 rfl ⟨by decide, by decide⟩ ?_
            refine a_zreturn dX9_send_33 rfl (by omega) ?_
            exact ⟨rfl, rfl, rfl, Or.inr (Or.inr ⟨fun w => hcd w.1, rfl, rfl⟩)⟩
  · show a_wp G _ _ _ _ (vO none :: _) _ _ _ _ _
    refine b_astore (n := 7) dX9_send_5 rfl (by decide) rfl ?_
    refine a_aload (n := 9) dX9_send_7 rfl rfl ?_
    refine a_ifnull (t := 32) (n := 12) dX9_send_9 rfl rfl (fun c9 => ?_) (fun p9 c9 => ?_)
    · refine a_iconst (n := 33) dX9_send_32 rfl ⟨by decide, by decide⟩ ?_
      refine a_zreturn dX9_send_33 rfl (by omega) ?_
      exact ⟨rfl, rfl, rfl, Or.inr (Or.inr ⟨fun w => hp2 w.1.1, rfl, rfl⟩)⟩
    · cases c9
theorem vH31_p {f : Int → Int} {t : Int} {a : Nat} (h : 81 ≤ a) : vH31 hi f t a = hi a := by
  funext j
  rw [vH31_eq, if_neg (by omega), if_neg (by omega)]
set_option maxRecDepth 100000 in
set_option maxHeartbeats 4000000 in
theorem c_send31 (hz : stZ z) (hR : stR hr) (hn : 0 ≤ hi 0 9 ∧ hi 0 9 ≤ 40) (hW : cP z hr hi) (h80 : ∀ q, 0 ≤ q → q < hi 0 9 → 81 ≤ pC hr q) (hpc : ∀ q, 0 ≤ q → q < hi 0 9 → 0 ≤ hi (pC hr q) 8 ∧ hi (pC hr q) 8 ≤ 100) (hs : 0 ≤ hi 28 1 ∧ hi 28 1 ≤ 100) (hru : hr 0 8 = some 31) {p h a v t2 : Int} {g : Int → Int} (hc : 0 ≤ hi 3 7 ∧ hi 3 7 ≤ 100) (hg : 0 ≤ hi 3 6 ∧ hi 3 6 ≤ 300) (hf : ∀ x, 0 ≤ cJoin hi x (hi 0 11)) (hL : 0 ≤ hi 31 7 ∧ hi 31 7 ≤ 16) (hlt : ∀ l, 0 ≤ l → l < 16 → hi 35 l = 0 ∨ hi 35 l = 1) (hrun0 : (v = 0 ∨ v = 1) ∧ cLe (hi 32) (hi 33) (cKn hr hi p h a 30) (hi 34) (hi 35) (hi 31 7).toNat 0 0 (hi 31 5) (hi 36) = some (v, g, t2)) : a_ct G mX9_send (d + 5) [vR 0, vI p, vI h, vI a] z hr hi hl (fun r z' hr' hi' hl' => z' = z ∧ hr' = hr ∧ hl' = hl ∧ ((((0 ≤ p ∧ p < hi 0 9) ∧ (0 ≤ h ∧ h ≤ 99) ∧ (0 ≤ a ∧ a ≤ 9)) ∧ 1 ≤ hi (pC hr p) 8) ∧ (v = 1 ∧ ¬ hi 28 1 = 100) ∧ r = some (vI 1) ∧ hi' = cSnd hr (vH31 (cKn hr hi p h a) g t2) p h a ∨ (((0 ≤ p ∧ p < hi 0 9) ∧ (0 ≤ h ∧ h ≤ 99) ∧ (0 ≤ a ∧ a ≤ 9)) ∧ 1 ≤ hi (pC hr p) 8) ∧ ¬ (v = 1 ∧ ¬ hi 28 1 = 100) ∧ r = some (vI 0) ∧ hi' = (vH31 (cKn hr hi p h a) g t2) ∨ ¬ (((0 ≤ p ∧ p < hi 0 9) ∧ (0 ≤ h ∧ h ≤ 99) ∧ (0 ≤ a ∧ a ≤ 9)) ∧ 1 ≤ hi (pC hr p) 8) ∧ r = some (vI 0) ∧ hi' = hi)) := by
  refine a_ct_of rfl (Nat.le_of_ble_eq_true rfl) ?_
  refine a_aload_n (n := 1) dX9_send_0 rfl rfl ?_
  refine a_iload_n (n := 2) dX9_send_1 rfl rfl ?_
  refine a_callV (M2 := mX9_plantAt) (n := 5) dX9_send_2 rfl (c_plantAt (d := d + 3) hz hR hn) kX9_plantAt lX9_89 iX9_plantAt eX9_plantAt (by decide) (by omega) (s0 hz) rfl (Nat.le_of_ble_eq_true rfl) (fun q2 z2 hr2 hi2 hl2 h2 => ?_)
  obtain ⟨e12, e22, e32, e42, h2⟩ := h2
  obtain rfl := e12.symm
  obtain rfl := e22.symm
  obtain rfl := e32.symm
  obtain rfl := e42.symm
  rcases h2 with ⟨hp2, rfl⟩ | ⟨hp2, rfl⟩
  · obtain ⟨f12, f22, f32, f42⟩ := hW.at_ hp2.1 hp2.2
    rw [f12]
    show a_wp G _ _ _ _ (vR (pC hr p) :: _) _ _ _ _ _
    have f80 := h80 p hp2.1 hp2.2
    have hpp := hpc p hp2.1 hp2.2
    refine b_astore (n := 7) dX9_send_5 rfl (by decide) rfl ?_
    refine a_aload (n := 9) dX9_send_7 rfl rfl ?_
    refine a_ifnull (t := 32) (n := 12) dX9_send_9 rfl rfl (fun c9 => ?_) (fun p9 c9 => ?_)
    · cases c9
    · refine a_aload (n := 14) dX9_send_12 rfl rfl ?_
      refine a_getI (n := 17) dX9_send_14 rfl fX9_96 f22 ?_
      try simp only [up2_29 f80, up2_28 f80]
      refine a_iconst (n := 18) dX9_send_17 rfl ⟨by decide, by decide⟩ ?_
      refine a_icmp_lt (t := 32) (n := 21) dX9_send_18 rfl rfl (fun c18 => ?_) (fun c18 => ?_)
      · refine a_iconst (n := 33) dX9_send_32 rfl ⟨by decide, by decide⟩ ?_
        refine a_zreturn dX9_send_33 rfl (by omega) ?_
        exact ⟨rfl, rfl, rfl, Or.inr (Or.inr ⟨fun w => by have := w.2; omega, rfl, rfl⟩)⟩
      · refine a_aload_n (n := 22) dX9_send_21 rfl rfl ?_
        refine a_iload_n (n := 23) dX9_send_22 rfl rfl ?_
        refine a_iload_n (n := 24) dX9_send_23 rfl rfl ?_
        refine a_iload_n (n := 25) dX9_send_24 rfl rfl ?_
        refine a_callV (M2 := mX9_may) (n := 28) dX9_send_25 rfl (c_may31 (d := d) hz hR hn hW h80 hru hc hg hf hL hlt hrun0) kX9_may lX9_215 iX9_may eX9_may (by decide) (by omega) (s0 hz) rfl (Nat.le_of_ble_eq_true rfl) (fun q25 z25 hr25 hi25 hl25 h25 => ?_)
        obtain ⟨e125, e225, e325, h25⟩ := h25
        obtain rfl := e125.symm
        obtain rfl := e225.symm
        obtain rfl := e325.symm
        rcases h25 with ⟨hcd, rfl, rfl⟩ | ⟨hcd, rfl, e425⟩
        · have m1 : (vH31 (cKn hr hi p h a) g t2) 28 1 = hi 28 1 := congrFun (show (vH31 (cKn hr hi p h a) g t2) 28 = hi 28 from (funext fun j => rfl)) 1
          have m2 : (vH31 (cKn hr hi p h a) g t2) (pC hr p) 8 = hi (pC hr p) 8 := (congrFun (vH31_p f80) 8).trans (congrFun (cKn_f (by omega)) 8)
          generalize (vH31 (cKn hr hi p h a) g t2) = M at m1 m2 ⊢
          show a_wp G _ _ _ _ (vI v :: _) _ _ _ _ _
          refine a_iconst (n := 29) dX9_send_28 rfl ⟨by decide, by decide⟩ ?_
          refine a_icmp_eq (t := 34) (n := 32) dX9_send_29 rfl rfl (fun c29 => ?_) (fun c29 => ?_)
          · refine a_aload_n (n := 35) dX9_send_34 rfl rfl ?_
            refine a_getR (n := 38) dX9_send_35 rfl fX9_52 (s0 hz) (r0_6 hR) ?_
            refine a_iload_n (n := 39) dX9_send_38 rfl rfl ?_
            refine a_iload_n (n := 40) dX9_send_39 rfl rfl ?_
            refine a_iload_n (n := 41) dX9_send_40 rfl rfl ?_
            refine a_aload_n (n := 42) dX9_send_41 rfl rfl ?_
            refine a_getI (n := 45) dX9_send_42 rfl fX9_71 (s0 hz) ?_
            try simp only [up2_eq, Nat.reduceEqDiff, Int.reduceEq, Int.reduceNeg, and_true, true_and, and_false, false_and, and_self, if_true, if_false, ite_true, ite_false, reduceIte, eq_self]
            refine a_callV (M2 := mX6_write) (n := 48) dX9_send_45 rfl (c_write (d := d + 3) hz hR (by omega)) kX6_write lX9_218 iX6_write eX6_write (by decide) (by omega) (s28 hz) rfl (Nat.le_of_ble_eq_true rfl) (fun q45 z45 hr45 hi45 hl45 h45 => ?_)
            obtain ⟨e145, e245, e345, h45⟩ := h45
            obtain rfl := e145.symm
            obtain rfl := e245.symm
            obtain rfl := e345.symm
            rcases h45 with ⟨k45, rfl, rfl⟩ | ⟨k45, rfl, e445⟩
            · show a_wp G _ _ _ _ (vI 1 :: _) _ _ _ _ _
              refine a_if_ne (t := 53) (n := 51) dX9_send_48 rfl rfl (fun c48 => ?_) (fun c48 => ?_)
              · refine a_aload (n := 55) dX9_send_53 rfl rfl ?_
                refine a_dup (n := 56) dX9_send_55 rfl rfl ?_
                refine a_getI (n := 59) dX9_send_56 rfl fX9_96 f22 ?_
                try simp only [up2_29 f80, up2_28 f80]
                refine a_iconst (n := 60) dX9_send_59 rfl ⟨by decide, by decide⟩ ?_
                refine a_isub (n := 61) dX9_send_60 rfl ⟨by omega, by omega⟩ ?_
                refine a_putI (n := 64) dX9_send_61 rfl fX9_96 rfl f22 (Or.inl rfl) ?_
                refine a_iconst (n := 65) dX9_send_64 rfl ⟨by decide, by decide⟩ ?_
                refine a_zreturn dX9_send_65 rfl (by omega) ?_
                exact ⟨rfl, rfl, rfl, Or.inl ⟨⟨hcd, by omega⟩, ⟨by omega, by omega⟩, rfl, rfl⟩⟩
              · omega
            · obtain rfl := e445.symm
              show a_wp G _ _ _ _ (vI 0 :: _) _ _ _ _ _
              refine a_if_ne (t := 53) (n := 51) dX9_send_48 rfl rfl (fun c48 => ?_) (fun c48 => ?_)
              · omega
              · refine a_iconst (n := 52) dX9_send_51 rfl ⟨by decide, by decide⟩ ?_
                refine a_zreturn dX9_send_52 rfl (by omega) ?_
                exact ⟨rfl, rfl, rfl, Or.inr (Or.inl ⟨⟨hcd, by omega⟩, fun w => w.2 (by omega), rfl, rfl⟩)⟩
          · refine a_iconst (n := 33) dX9_send_32 rfl ⟨by decide, by decide⟩ ?_
            refine a_zreturn dX9_send_33 rfl (by omega) ?_
            exact ⟨rfl, rfl, rfl, Or.inr (Or.inl ⟨⟨hcd, by omega⟩, fun w => c29 w.1, rfl, rfl⟩)⟩
        · obtain rfl := e425.symm
          show a_wp G _ _ _ _ (vI (-1) :: _) _ _ _ _ _
          refine a_iconst (n := 29) dX9_send_28 rfl ⟨by decide, by decide⟩ ?_
          refine a_icmp_eq (t := 34) (n := 32) dX9_send_29 rfl rfl (fun c29 => ?_) (fun c29 => ?_)
          · omega
          · refine a_iconst (n := 33) dX9_send_32 rfl ⟨by decide, by decide⟩ ?_
            refine a_zreturn dX9_send_33 rfl (by omega) ?_
            exact ⟨rfl, rfl, rfl, Or.inr (Or.inr ⟨fun w => hcd w.1, rfl, rfl⟩)⟩
  · show a_wp G _ _ _ _ (vO none :: _) _ _ _ _ _
    refine b_astore (n := 7) dX9_send_5 rfl (by decide) rfl ?_
    refine a_aload (n := 9) dX9_send_7 rfl rfl ?_
    refine a_ifnull (t := 32) (n := 12) dX9_send_9 rfl rfl (fun c9 => ?_) (fun p9 c9 => ?_)
    · refine a_iconst (n := 33) dX9_send_32 rfl ⟨by decide, by decide⟩ ?_
      refine a_zreturn dX9_send_33 rfl (by omega) ?_
      exact ⟨rfl, rfl, rfl, Or.inr (Or.inr ⟨fun w => hp2 w.1.1, rfl, rfl⟩)⟩
    · cases c9
end C19
