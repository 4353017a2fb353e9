section C25
variable {G : aG} {d : Nat} {z : aZ} {hr : aR} {hi hl : aI}
theorem upc {a c : Nat} (h : c ≠ a) (f : aI) (i v j : Int) : up2 f a i v c j = f c j := up2_n h
theorem clc {a c : Nat} (h : c ≠ a) (f : aI) (v j : Int) : cl0 f a v c j = f c j := cl0_n h
/-- the fields of a new PLANT that comes of another one, in cell a, and its links *) -/
def ofI (h : aI) (a : Nat) (n k ro pl cu m : Int) : aI := up2 (up2 (up2 (up2 (up2 (up2 (up2 (up2 (up2 h a 10 9) a 12 9) a 13 (-1)) a 0 n) a 1 k) a 4 ro) a 5 pl) a 6 cu) a 8 m
def ofR (h : aR) (a b c : Nat) (o : Option Nat) : aR := up2 (up2 (up2 h a 7 (some b)) a 2 (some c)) a 3 o
set_option maxRecDepth 100000 in
set_option maxHeartbeats 4000000 in
theorem c_seedInit1 {a c : Nat} {n m : Int} (ha : a_is z a 3 17) (hc : a_is z c 3 17) (hca : c ≠ a) (hz1 : z.1 < 900000000) : a_ct G mX3_init_ (d + 1) [vR a, vI n, vI 1, vR c, vO none, vI m] z hr hi hl (fun r z' hr' hi' hl' => z' = a_al z 20 8 ∧ hr' = ofR (cl0 hr z.1 none) a z.1 c none ∧ hl' = cl0 hl z.1 0 ∧ r = none ∧ hi' = ofI (cl0 hi z.1 0) a n 1 (hi c 4) (hi c 5) 0 m) := by
  refine a_ct_of rfl (Nat.le_of_ble_eq_true rfl) ?_
  refine a_aload_n (n := 1) dX3_init__0 rfl rfl ?_
  refine a_objInit (n := 4) dX3_init__1 rfl oX3_3 (by omega) ha.1 (Nat.le_of_ble_eq_true rfl) ?_
  refine a_aload_n (n := 5) dX3_init__4 rfl rfl ?_
  refine a_bipush (n := 7) dX3_init__5 rfl ⟨by decide, by decide⟩ (by decide) ?_
  refine a_newaI (n := 9) dX3_init__7 rfl (by decide) (by decide) (by omega) ?_
  have hcz : c ≠ z.1 := by have := hc.1; omega
  replace ha := ha.al (t2 := 20) (l2 := 8)
  replace hc := hc.al (t2 := 20) (l2 := 8)
  refine a_putO (n := 12) dX3_init__9 rfl fX3_9 ha (Or.inr ⟨rfl, rfl, rfl⟩) ?_
  refine a_aload_n (n := 13) dX3_init__12 rfl rfl ?_
  refine a_bipush (n := 15) dX3_init__13 rfl ⟨by decide, by decide⟩ (by decide) ?_
  refine a_putI (n := 18) dX3_init__15 rfl fX3_15 rfl ha (Or.inl rfl) ?_
  refine a_aload_n (n := 19) dX3_init__18 rfl rfl ?_
  refine a_bipush (n := 21) dX3_init__19 rfl ⟨by decide, by decide⟩ (by decide) ?_
  refine a_putI (n := 24) dX3_init__21 rfl fX3_19 rfl ha (Or.inl rfl) ?_
  refine a_aload_n (n := 25) dX3_init__24 rfl rfl ?_
  refine a_iconst (n := 26) dX3_init__25 rfl ⟨by decide, by decide⟩ ?_
  refine a_putI (n := 29) dX3_init__26 rfl fX3_22 rfl ha (Or.inl rfl) ?_
  refine a_aload_n (n := 30) dX3_init__29 rfl rfl ?_
  refine a_iload_n (n := 31) dX3_init__30 rfl rfl ?_
  refine a_putI (n := 34) dX3_init__31 rfl fX3_25 rfl ha (Or.inr ⟨rfl, rfl, rfl⟩) ?_
  refine a_aload_n (n := 35) dX3_init__34 rfl rfl ?_
  refine a_iload_n (n := 36) dX3_init__35 rfl rfl ?_
  refine a_putI (n := 39) dX3_init__36 rfl fX3_28 rfl ha (Or.inr ⟨rfl, rfl, rfl⟩) ?_
  refine a_aload_n (n := 40) dX3_init__39 rfl rfl ?_
  refine a_aload_n (n := 41) dX3_init__40 rfl rfl ?_
  refine a_putO (n := 44) dX3_init__41 rfl fX3_31 ha (Or.inr ⟨rfl, rfl, rfl⟩) ?_
  refine a_aload_n (n := 45) dX3_init__44 rfl rfl ?_
  refine a_aload (n := 47) dX3_init__45 rfl rfl ?_
  refine a_putO (n := 50) dX3_init__47 rfl fX3_35 ha (Or.inr ⟨rfl, rfl, rfl⟩) ?_
  refine a_aload_n (n := 51) dX3_init__50 rfl rfl ?_
  refine a_aload_n (n := 52) dX3_init__51 rfl rfl ?_
  refine a_getI (n := 55) dX3_init__52 rfl fX3_38 hc ?_
  simp only [upc hca, clc hcz]
  refine a_putI (n := 58) dX3_init__55 rfl fX3_38 rfl ha (Or.inr ⟨rfl, rfl, rfl⟩) ?_
  refine a_aload_n (n := 59) dX3_init__58 rfl rfl ?_
  refine a_aload_n (n := 60) dX3_init__59 rfl rfl ?_
  refine a_getI (n := 63) dX3_init__60 rfl fX3_41 hc ?_
  simp only [upc hca, clc hcz]
  refine a_putI (n := 66) dX3_init__63 rfl fX3_41 rfl ha (Or.inr ⟨rfl, rfl, rfl⟩) ?_
  refine a_aload_n (n := 67) dX3_init__66 rfl rfl ?_
  refine a_iload_n (n := 68) dX3_init__67 rfl rfl ?_
  refine a_iconst (n := 69) dX3_init__68 rfl ⟨by decide, by decide⟩ ?_
  refine a_icmp_eq (t := 84) (n := 72) dX3_init__69 rfl rfl (fun c69 => ?_) (fun c69 => ?_)
  · omega
  · refine a_iload_n (n := 73) dX3_init__72 rfl rfl ?_
    refine a_iconst (n := 74) dX3_init__73 rfl ⟨by decide, by decide⟩ ?_
    refine a_icmp_ne (t := 88) (n := 77) dX3_init__74 rfl rfl (fun c74 => ?_) (fun c74 => ?_)
    · refine a_iconst (n := 89) dX3_init__88 rfl ⟨by decide, by decide⟩ ?_
      refine a_putZ (n := 92) dX3_init__89 rfl fX3_44 rfl ha (Or.inr ⟨rfl, rfl, rfl⟩) (by omega) ?_
      refine a_aload_n (n := 93) dX3_init__92 rfl rfl ?_
      refine a_iload (n := 95) dX3_init__93 rfl rfl ?_
      refine a_putI (n := 98) dX3_init__95 rfl fX3_48 rfl ha (Or.inl rfl) ?_
      refine a_iload_n (n := 99) dX3_init__98 rfl rfl ?_
      refine a_iconst (n := 100) dX3_init__99 rfl ⟨by decide, by decide⟩ ?_
      refine a_icmp_eq (t := 121) (n := 103) dX3_init__100 rfl rfl (fun c100 => ?_) (fun c100 => ?_)
      · refine a_return dX3_init__121 rfl ?_
        exact ⟨rfl, rfl, rfl, rfl, rfl⟩
      · omega
    · omega
set_option maxRecDepth 100000 in
set_option maxHeartbeats 4000000 in
theorem c_seedInit2 {a c e : Nat} {n m : Int} (ha : a_is z a 3 17) (hc : a_is z c 3 17) (hca : c ≠ a) (hz1 : z.1 < 900000000) : a_ct G mX3_init_ (d + 1) [vR a, vI n, vI 1, vR c, vR e, vI m] z hr hi hl (fun r z' hr' hi' hl' => z' = a_al z 20 8 ∧ hr' = ofR (cl0 hr z.1 none) a z.1 c (some e) ∧ hl' = cl0 hl z.1 0 ∧ r = none ∧ hi' = ofI (cl0 hi z.1 0) a n 1 (hi c 4) (hi c 5) 0 m) := by
  refine a_ct_of rfl (Nat.le_of_ble_eq_true rfl) ?_
  refine a_aload_n (n := 1) dX3_init__0 rfl rfl ?_
  refine a_objInit (n := 4) dX3_init__1 rfl oX3_3 (by omega) ha.1 (Nat.le_of_ble_eq_true rfl) ?_
  refine a_aload_n (n := 5) dX3_init__4 rfl rfl ?_
  refine a_bipush (n := 7) dX3_init__5 rfl ⟨by decide, by decide⟩ (by decide) ?_
  refine a_newaI (n := 9) dX3_init__7 rfl (by decide) (by decide) (by omega) ?_
  have hcz : c ≠ z.1 := by have := hc.1; omega
  replace ha := ha.al (t2 := 20) (l2 := 8)
  replace hc := hc.al (t2 := 20) (l2 := 8)
  refine a_putO (n := 12) dX3_init__9 rfl fX3_9 ha (Or.inr ⟨rfl, rfl, rfl⟩) ?_
  refine a_aload_n (n := 13) dX3_init__12 rfl rfl ?_
  refine a_bipush (n := 15) dX3_init__13 rfl ⟨by decide, by decide⟩ (by decide) ?_
  refine a_putI (n := 18) dX3_init__15 rfl fX3_15 rfl ha (Or.inl rfl) ?_
  refine a_aload_n (n := 19) dX3_init__18 rfl rfl ?_
  refine a_bipush (n := 21) dX3_init__19 rfl ⟨by decide, by decide⟩ (by decide) ?_
  refine a_putI (n := 24) dX3_init__21 rfl fX3_19 rfl ha (Or.inl rfl) ?_
  refine a_aload_n (n := 25) dX3_init__24 rfl rfl ?_
  refine a_iconst (n := 26) dX3_init__25 rfl ⟨by decide, by decide⟩ ?_
  refine a_putI (n := 29) dX3_init__26 rfl fX3_22 rfl ha (Or.inl rfl) ?_
  refine a_aload_n (n := 30) dX3_init__29 rfl rfl ?_
  refine a_iload_n (n := 31) dX3_init__30 rfl rfl ?_
  refine a_putI (n := 34) dX3_init__31 rfl fX3_25 rfl ha (Or.inr ⟨rfl, rfl, rfl⟩) ?_
  refine a_aload_n (n := 35) dX3_init__34 rfl rfl ?_
  refine a_iload_n (n := 36) dX3_init__35 rfl rfl ?_
  refine a_putI (n := 39) dX3_init__36 rfl fX3_28 rfl ha (Or.inr ⟨rfl, rfl, rfl⟩) ?_
  refine a_aload_n (n := 40) dX3_init__39 rfl rfl ?_
  refine a_aload_n (n := 41) dX3_init__40 rfl rfl ?_
  refine a_putO (n := 44) dX3_init__41 rfl fX3_31 ha (Or.inr ⟨rfl, rfl, rfl⟩) ?_
  refine a_aload_n (n := 45) dX3_init__44 rfl rfl ?_
  refine a_aload (n := 47) dX3_init__45 rfl rfl ?_
  refine a_putO (n := 50) dX3_init__47 rfl fX3_35 ha (Or.inr ⟨rfl, rfl, rfl⟩) ?_
  refine a_aload_n (n := 51) dX3_init__50 rfl rfl ?_
  refine a_aload_n (n := 52) dX3_init__51 rfl rfl ?_
  refine a_getI (n := 55) dX3_init__52 rfl fX3_38 hc ?_
  simp only [upc hca, clc hcz]
  refine a_putI (n := 58) dX3_init__55 rfl fX3_38 rfl ha (Or.inr ⟨rfl, rfl, rfl⟩) ?_
  refine a_aload_n (n := 59) dX3_init__58 rfl rfl ?_
  refine a_aload_n (n := 60) dX3_init__59 rfl rfl ?_
  refine a_getI (n := 63) dX3_init__60 rfl fX3_41 hc ?_
  simp only [upc hca, clc hcz]
  refine a_putI (n := 66) dX3_init__63 rfl fX3_41 rfl ha (Or.inr ⟨rfl, rfl, rfl⟩) ?_
  refine a_aload_n (n := 67) dX3_init__66 rfl rfl ?_
  refine a_iload_n (n := 68) dX3_init__67 rfl rfl ?_
  refine a_iconst (n := 69) dX3_init__68 rfl ⟨by decide, by decide⟩ ?_
  refine a_icmp_eq (t := 84) (n := 72) dX3_init__69 rfl rfl (fun c69 => ?_) (fun c69 => ?_)
  · omega
  · refine a_iload_n (n := 73) dX3_init__72 rfl rfl ?_
    refine a_iconst (n := 74) dX3_init__73 rfl ⟨by decide, by decide⟩ ?_
    refine a_icmp_ne (t := 88) (n := 77) dX3_init__74 rfl rfl (fun c74 => ?_) (fun c74 => ?_)
    · refine a_iconst (n := 89) dX3_init__88 rfl ⟨by decide, by decide⟩ ?_
      refine a_putZ (n := 92) dX3_init__89 rfl fX3_44 rfl ha (Or.inr ⟨rfl, rfl, rfl⟩) (by omega) ?_
      refine a_aload_n (n := 93) dX3_init__92 rfl rfl ?_
      refine a_iload (n := 95) dX3_init__93 rfl rfl ?_
      refine a_putI (n := 98) dX3_init__95 rfl fX3_48 rfl ha (Or.inl rfl) ?_
      refine a_iload_n (n := 99) dX3_init__98 rfl rfl ?_
      refine a_iconst (n := 100) dX3_init__99 rfl ⟨by decide, by decide⟩ ?_
      refine a_icmp_eq (t := 121) (n := 103) dX3_init__100 rfl rfl (fun c100 => ?_) (fun c100 => ?_)
      · refine a_return dX3_init__121 rfl ?_
        exact ⟨rfl, rfl, rfl, rfl, rfl⟩
      · omega
    · omega
end C25
