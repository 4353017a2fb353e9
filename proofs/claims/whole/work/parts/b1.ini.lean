section Bini
variable {G : aG} {M : aM} {d pc p2 : Nat} {L : List (Option aV)} {st : List aV} {z : aZ} {hr : aR} {hi hl : aI} {Q : Option aV → aZ → aR → aI → aI → Prop} {n m : Nat} {l : List (Nat × Int × Nat)}
def slT : Nat → Nat
  | 0 => 0
  | n + 1 => slT n + (shU n).2.toNat
def lkR : List (Nat × Int × Nat) → Nat → Int → Option Nat
  | [], _, _ => none
  | q :: l, a, i => if a = q.1 ∧ i = q.2.1 then some q.2.2 else lkR l a i
def iwT (i : Int) : Int := if i = 0 then 16633 else if i = 1 then 2793 else if i = 2 then 1176170 else if i = 3 then 1891 else if i = 4 then 30595897 else if i = 5 then 710997 else if i = 6 then 15782540 else if i = 7 then 1715 else if i = 8 then 4904 else if i = 9 then 1126628337 else if i = 10 then 5538 else 0
def iwU (m : Nat) (a : Nat) (i : Int) : Int := if a = 43 ∧ 0 ≤ i ∧ i < m then iwT i else 0
/-- n cells are made, the links l are set, m words are written, all else is 0 -/
def bS (n : Nat) (l : List (Nat × Int × Nat)) (m : Nat) (z : aZ) (hr : aR) (hi hl : aI) : Prop :=
  z.1 = n ∧ z.2.1 = slT n ∧ (∀ a, a < n → z.2.2 a = shU a) ∧ (∀ a, a < n → ∀ i, hr a i = lkR l a i) ∧ (∀ a, a < n → ∀ i, hi a i = 0) ∧ ∀ a, a < n → ∀ i, hl a i = iwU m a i
theorem lkR_n : ∀ {l : List (Nat × Int × Nat)} {a : Nat} {i : Int}, (∀ q ∈ l, q.1 ≠ a) → lkR l a i = none
  | [], _, _, _ => rfl
  | q :: l, a, i, h => by
    unfold lkR
    rw [if_neg (fun e => h q List.mem_cons_self e.1.symm)]
    exact lkR_n (fun q hq => h q (List.mem_cons_of_mem _ hq))
theorem bS.is (h : bS n l m z hr hi hl) {a t : Nat} {len : Int} (ha : a < n) (hs : shU a = (t, len)) : a_is z a t len := ⟨by rw [h.1]; exact ha, (h.2.2.1 a ha).trans hs⟩
theorem bS.nw (h : bS n l m z hr hi hl) {t : Nat} {len : Int} (hT : shU n = (t, len)) (hq : ∀ q ∈ l, q.1 ≠ n) (h42 : n = 43 → m = 0) : bS (n + 1) l m (a_al z t len) (cl0 hr z.1 none) (cl0 hi z.1 0) (cl0 hl z.1 0) := by
  obtain ⟨h1, h2, h3, h4, h5, h6⟩ := h
  refine ⟨by show z.1 + 1 = _; rw [h1], by show z.2.1 + _ = slT n + (shU n).2.toNat; rw [h2, hT], fun a ha => ?_, fun a ha i => ?_, fun a ha i => ?_, fun a ha i => ?_⟩
  · show (if a = z.1 then (t, len) else z.2.2 a) = _
    split
    · rename_i e; rw [e, h1, hT]
    · exact h3 a (by omega)
  · rw [h1]
    by_cases e : a = n
    · subst e; rw [cl0_s, lkR_n hq]
    · rw [cl0_n e]; exact h4 a (by omega) i
  · rw [h1]
    by_cases e : a = n
    · subst e; rw [cl0_s]
    · rw [cl0_n e]; exact h5 a (by omega) i
  · rw [h1]
    by_cases e : a = n
    · subst e
      rw [cl0_s]
      unfold iwU
      split
      · rename_i e1
        have e2 := h42 e1.1
        have := e1.2
        omega
      · rfl
    · rw [cl0_n e]; exact h6 a (by omega) i
theorem bS.pt (h : bS n l m z hr hi hl) {a b : Nat} {i : Int} : bS n ((a, i, b) :: l) m z (up2 hr a i (some b)) hi hl :=
  ⟨h.1, h.2.1, h.2.2.1, fun c hc j => by rw [up2_eq, h.2.2.2.1 c hc j]; rfl, h.2.2.2.2⟩
theorem bS.wd (h : bS n l m z hr hi hl) {v : Int} {i : Int} (e : i = m) (hv : iwT i = v) : bS n l (m + 1) z hr hi (up2 hl 43 i v) :=
  ⟨h.1, h.2.1, h.2.2.1, h.2.2.2.1, h.2.2.2.2.1, fun c hc j => by
    rw [up2_eq, h.2.2.2.2.2 c hc j]
    unfold iwU
    by_cases e1 : c = 43 ∧ j = i
    · rw [if_pos e1, if_pos ⟨e1.1, by omega, by omega⟩, e1.2, hv]
    · rw [if_neg e1]
      by_cases e2 : c = 43 ∧ 0 ≤ j ∧ j < (m : Int)
      · rw [if_pos e2, if_pos ⟨e2.1, e2.2.1, by omega⟩]
      · rw [if_neg e2, if_neg (fun e3 => by
          by_cases e4 : j = i
          · exact e1 ⟨e3.1, e4⟩
          · exact e2 ⟨e3.1, e3.2.1, by omega⟩)]⟩
theorem e_new {idx t : Nat} {len : Int} (hB : bS n l m z hr hi hl) (hd : decode M.2.1 pc = .ok (.new idx, 3)) (hn : pc + 3 = p2) (ht : t < 11) (hlen : len.toNat = a_nf t) (hcl : Cond.classLink M.1.cls idx (a_Rn t) ∈ lw_tbl) (hins : Cond.instantiable (a_Rn t) (a_nf t) ∈ lw_tbl) (hini : Cond.initialized (a_Rn t) ∈ lw_tbl) (hz : n < 1000) (hT : shU n = (t, len)) (hq : ∀ q ∈ l, q.1 ≠ n) (h42 : n = 43 → m = 0) {n9 : Nat} (h9 : n + 1 = n9)
    (k : ∀ z' hr' hi' hl', bS n9 l m z' hr' hi' hl' → a_wp G M d p2 L (vR n :: st) z' hr' hi' hl' Q) : a_wp G M d pc L st z hr hi hl Q :=
  a_new hd hn ht hlen hcl hins hini (by rw [hB.1]; omega) (by subst h9; have := k _ _ _ _ (hB.nw hT hq h42); rwa [← hB.1] at this)
theorem e_newI {x : Int} (hB : bS n l m z hr hi hl) (hd : decode M.2.1 pc = .ok (.newarray .int, 2)) (hn : pc + 2 = p2) (hx : 0 ≤ x) (hx2 : x ≤ 1000000) (hz : n < 1000) (hT : shU n = (20, x)) (hq : ∀ q ∈ l, q.1 ≠ n) (h42 : n = 43 → m = 0) {n9 : Nat} (h9 : n + 1 = n9)
    (k : ∀ z' hr' hi' hl', bS n9 l m z' hr' hi' hl' → a_wp G M d p2 L (vR n :: st) z' hr' hi' hl' Q) : a_wp G M d pc L (vI x :: st) z hr hi hl Q :=
  a_newaI hd hn hx hx2 (by rw [hB.1]; omega) (by subst h9; have := k _ _ _ _ (hB.nw hT hq h42); rwa [← hB.1] at this)
theorem e_newJ {x : Int} (hB : bS n l m z hr hi hl) (hd : decode M.2.1 pc = .ok (.newarray .long, 2)) (hn : pc + 2 = p2) (hx : 0 ≤ x) (hx2 : x ≤ 1000000) (hz : n < 1000) (hT : shU n = (21, x)) (hq : ∀ q ∈ l, q.1 ≠ n) (h42 : n = 43 → m = 0) {n9 : Nat} (h9 : n + 1 = n9)
    (k : ∀ z' hr' hi' hl', bS n9 l m z' hr' hi' hl' → a_wp G M d p2 L (vR n :: st) z' hr' hi' hl' Q) : a_wp G M d pc L (vI x :: st) z hr hi hl Q :=
  a_newaJ hd hn hx hx2 (by rw [hB.1]; omega) (by subst h9; have := k _ _ _ _ (hB.nw hT hq h42); rwa [← hB.1] at this)
theorem e_newZ {x : Int} (hB : bS n l m z hr hi hl) (hd : decode M.2.1 pc = .ok (.newarray .boolean, 2)) (hn : pc + 2 = p2) (hx : 0 ≤ x) (hx2 : x ≤ 1000000) (hz : n < 1000) (hT : shU n = (22, x)) (hq : ∀ q ∈ l, q.1 ≠ n) (h42 : n = 43 → m = 0) {n9 : Nat} (h9 : n + 1 = n9)
    (k : ∀ z' hr' hi' hl', bS n9 l m z' hr' hi' hl' → a_wp G M d p2 L (vR n :: st) z' hr' hi' hl' Q) : a_wp G M d pc L (vI x :: st) z hr hi hl Q :=
  a_newaZ hd hn hx hx2 (by rw [hB.1]; omega) (by subst h9; have := k _ _ _ _ (hB.nw hT hq h42); rwa [← hB.1] at this)
theorem e_anew {x : Int} {idx t tb : Nat} (hB : bS n l m z hr hi hl) (hd : decode M.2.1 pc = .ok (.anewarray idx, 3)) (hn : pc + 3 = p2) (ht : (t = 23 ∧ tb = 3) ∨ (t = 24 ∧ tb = 0)) (hcl : Cond.classLink M.1.cls idx (a_Rn tb) ∈ lw_tbl) (hov : ∀ U, gX G U → va_AO (a_Rn tb) U) (hx : 0 ≤ x) (hx2 : x ≤ 1000000) (hz : n < 1000) (hT : shU n = (t, x)) (hq : ∀ q ∈ l, q.1 ≠ n) (h42 : n = 43 → m = 0) {n9 : Nat} (h9 : n + 1 = n9)
    (k : ∀ z' hr' hi' hl', bS n9 l m z' hr' hi' hl' → a_wp G M d p2 L (vR n :: st) z' hr' hi' hl' Q) : a_wp G M d pc L (vI x :: st) z hr hi hl Q :=
  a_anew hd hn ht hcl hov hx hx2 (by rw [hB.1]; omega) (by subst h9; have := k _ _ _ _ (hB.nw hT hq h42); rwa [← hB.1] at this)
theorem e_put {idx t k a b : Nat} {ki len : Int} (hB : bS n l m z hr hi hl) (hd : decode M.2.1 pc = .ok (.putfield idx, 3)) (hn : pc + 3 = p2) (F : a_Fl M.1.cls idx t k ki true) (ha : a < n) (hs : shU a = (t, len)) (hf : a_wf M t k)
    (kw : ∀ hr', bS n ((a, ki, b) :: l) m z hr' hi hl → a_wp G M d p2 L st z hr' hi hl Q) : a_wp G M d pc L (vR b :: vR a :: st) z hr hi hl Q :=
  a_putO hd hn F (hB.is ha hs) hf (kw _ hB.pt)
theorem e_get {idx t k a b : Nat} {ki len : Int} (hB : bS n l m z hr hi hl) (hd : decode M.2.1 pc = .ok (.getfield idx, 3)) (hn : pc + 3 = p2) (F : a_Fl M.1.cls idx t k ki true) (ha : a < n) (hs : shU a = (t, len)) (hb : lkR l a ki = some b)
    (kw : a_wp G M d p2 L (vR b :: st) z hr hi hl Q) : a_wp G M d pc L (vR a :: st) z hr hi hl Q :=
  a_getR hd hn F (hB.is ha hs) ((hB.2.2.2.1 a ha ki).trans hb) kw
theorem e_last {i x : Int} (hB : bS n l m z hr hi hl) (hd : decode M.2.1 pc = .ok (.lastore, 1)) (hn : pc + 1 = p2) (h42 : 43 < n) (e : i = m) (h1 : i < 11) (hv : iwT i = x)
    {m9 : Nat} (h9 : m + 1 = m9) (k : ∀ hl', bS n l m9 z hr hi hl' → a_wp G M d p2 L st z hr hi hl' Q) : a_wp G M d pc L (vJ x :: vI i :: vR 43 :: st) z hr hi hl Q :=
  a_last hd hn (hB.is h42 rfl) (by omega) h1 (by subst h9; exact k _ (hB.wd e hv))
/-- Plant[] and Bed[] may be made -/
def gA2 (G : aG) : Prop := (∀ U, gX G U → va_AO (a_Rn 3) U) ∧ ∀ U, gX G U → va_AO (a_Rn 0) U
abbrev li_X2_init_3 (l : List (Nat × Int × Nat)) : List (Nat × Int × Nat) := (3, 5, 9) :: (3, 4, 8) :: (3, 3, 7) :: (3, 2, 6) :: (3, 1, 5) :: (3, 0, 4) :: l
set_option maxRecDepth 100000 in
set_option maxHeartbeats 4000000 in
theorem i_X2_init_3 (hB : bS 4 ([(0, 1, 2), (0, 0, 1)]) 0 z hr hi hl) : a_ct G mX2_init (d + 1) [vR 3] z hr hi hl (fun r z' hr' hi' hl' => r = none ∧ bS 10 (li_X2_init_3 ([(0, 1, 2), (0, 0, 1)])) 0 z' hr' hi' hl') := by
  refine a_ct_of rfl (Nat.le_of_ble_eq_true rfl) ?_
  refine a_aload_n (n := 1) dX2_init_0 rfl rfl ?_
  refine a_objInit (n := 4) dX2_init_1 rfl oX2_3 (by omega) (by rw [hB.1]; decide) (Nat.le_of_ble_eq_true rfl) ?_
  refine a_aload_n (n := 5) dX2_init_4 rfl rfl ?_
  refine a_sipush (n := 8) dX2_init_5 rfl ⟨by decide, by decide⟩ (by decide) ?_
  refine e_newI (p2 := 10) hB dX2_init_8 rfl (by decide) (by decide) (by decide) rfl (by decide) (by decide) (n9 := 5) rfl (fun z hr hi hl hB => ?_)
  refine e_put (p2 := 13) hB dX2_init_10 rfl fX2_11 (by decide) rfl (Or.inr ⟨rfl, rfl, rfl⟩) (fun hr hB => ?_)
  refine a_aload_n (n := 14) dX2_init_13 rfl rfl ?_
  refine a_sipush (n := 17) dX2_init_14 rfl ⟨by decide, by decide⟩ (by decide) ?_
  refine e_newI (p2 := 19) hB dX2_init_17 rfl (by decide) (by decide) (by decide) rfl (by decide) (by decide) (n9 := 6) rfl (fun z hr hi hl hB => ?_)
  refine e_put (p2 := 22) hB dX2_init_19 rfl fX2_15 (by decide) rfl (Or.inr ⟨rfl, rfl, rfl⟩) (fun hr hB => ?_)
  refine a_aload_n (n := 23) dX2_init_22 rfl rfl ?_
  refine a_sipush (n := 26) dX2_init_23 rfl ⟨by decide, by decide⟩ (by decide) ?_
  refine e_newI (p2 := 28) hB dX2_init_26 rfl (by decide) (by decide) (by decide) rfl (by decide) (by decide) (n9 := 7) rfl (fun z hr hi hl hB => ?_)
  refine e_put (p2 := 31) hB dX2_init_28 rfl fX2_18 (by decide) rfl (Or.inr ⟨rfl, rfl, rfl⟩) (fun hr hB => ?_)
  refine a_aload_n (n := 32) dX2_init_31 rfl rfl ?_
  refine a_bipush (n := 34) dX2_init_32 rfl ⟨by decide, by decide⟩ (by decide) ?_
  refine e_newI (p2 := 36) hB dX2_init_34 rfl (by decide) (by decide) (by decide) rfl (by decide) (by decide) (n9 := 8) rfl (fun z hr hi hl hB => ?_)
  refine e_put (p2 := 39) hB dX2_init_36 rfl fX2_21 (by decide) rfl (Or.inr ⟨rfl, rfl, rfl⟩) (fun hr hB => ?_)
  refine a_aload_n (n := 40) dX2_init_39 rfl rfl ?_
  refine a_bipush (n := 42) dX2_init_40 rfl ⟨by decide, by decide⟩ (by decide) ?_
  refine e_newI (p2 := 44) hB dX2_init_42 rfl (by decide) (by decide) (by decide) rfl (by decide) (by decide) (n9 := 9) rfl (fun z hr hi hl hB => ?_)
  refine e_put (p2 := 47) hB dX2_init_44 rfl fX2_24 (by decide) rfl (Or.inr ⟨rfl, rfl, rfl⟩) (fun hr hB => ?_)
  refine a_aload_n (n := 48) dX2_init_47 rfl rfl ?_
  refine a_bipush (n := 50) dX2_init_48 rfl ⟨by decide, by decide⟩ (by decide) ?_
  refine e_newI (p2 := 52) hB dX2_init_50 rfl (by decide) (by decide) (by decide) rfl (by decide) (by decide) (n9 := 10) rfl (fun z hr hi hl hB => ?_)
  refine e_put (p2 := 55) hB dX2_init_52 rfl fX2_27 (by decide) rfl (Or.inr ⟨rfl, rfl, rfl⟩) (fun hr hB => ?_)
  refine a_return dX2_init_55 rfl ?_
  exact ⟨rfl, hB⟩
abbrev li_X1_init_10 (l : List (Nat × Int × Nat)) : List (Nat × Int × Nat) := (10, 4, 15) :: (10, 3, 14) :: (10, 2, 13) :: (10, 1, 12) :: (10, 0, 11) :: l
set_option maxRecDepth 100000 in
set_option maxHeartbeats 4000000 in
theorem i_X1_init_10 (hB : bS 11 ([(0, 2, 3), (3, 5, 9), (3, 4, 8), (3, 3, 7), (3, 2, 6), (3, 1, 5), (3, 0, 4), (0, 1, 2), (0, 0, 1)]) 0 z hr hi hl) : a_ct G mX1_init (d + 1) [vR 10] z hr hi hl (fun r z' hr' hi' hl' => r = none ∧ bS 16 (li_X1_init_10 ([(0, 2, 3), (3, 5, 9), (3, 4, 8), (3, 3, 7), (3, 2, 6), (3, 1, 5), (3, 0, 4), (0, 1, 2), (0, 0, 1)])) 0 z' hr' hi' hl') := by
  refine a_ct_of rfl (Nat.le_of_ble_eq_true rfl) ?_
  refine a_aload_n (n := 1) dX1_init_0 rfl rfl ?_
  refine a_objInit (n := 4) dX1_init_1 rfl oX1_3 (by omega) (by rw [hB.1]; decide) (Nat.le_of_ble_eq_true rfl) ?_
  refine a_aload_n (n := 5) dX1_init_4 rfl rfl ?_
  refine a_sipush (n := 8) dX1_init_5 rfl ⟨by decide, by decide⟩ (by decide) ?_
  refine e_newI (p2 := 10) hB dX1_init_8 rfl (by decide) (by decide) (by decide) rfl (by decide) (by decide) (n9 := 12) rfl (fun z hr hi hl hB => ?_)
  refine e_put (p2 := 13) hB dX1_init_10 rfl fX1_9 (by decide) rfl (Or.inr ⟨rfl, rfl, rfl⟩) (fun hr hB => ?_)
  refine a_aload_n (n := 14) dX1_init_13 rfl rfl ?_
  refine a_bipush (n := 16) dX1_init_14 rfl ⟨by decide, by decide⟩ (by decide) ?_
  refine e_newI (p2 := 18) hB dX1_init_16 rfl (by decide) (by decide) (by decide) rfl (by decide) (by decide) (n9 := 13) rfl (fun z hr hi hl hB => ?_)
  refine e_put (p2 := 21) hB dX1_init_18 rfl fX1_15 (by decide) rfl (Or.inr ⟨rfl, rfl, rfl⟩) (fun hr hB => ?_)
  refine a_aload_n (n := 22) dX1_init_21 rfl rfl ?_
  refine a_bipush (n := 24) dX1_init_22 rfl ⟨by decide, by decide⟩ (by decide) ?_
  refine e_newI (p2 := 26) hB dX1_init_24 rfl (by decide) (by decide) (by decide) rfl (by decide) (by decide) (n9 := 14) rfl (fun z hr hi hl hB => ?_)
  refine e_put (p2 := 29) hB dX1_init_26 rfl fX1_18 (by decide) rfl (Or.inr ⟨rfl, rfl, rfl⟩) (fun hr hB => ?_)
  refine a_aload_n (n := 30) dX1_init_29 rfl rfl ?_
  refine a_bipush (n := 32) dX1_init_30 rfl ⟨by decide, by decide⟩ (by decide) ?_
  refine e_newI (p2 := 34) hB dX1_init_32 rfl (by decide) (by decide) (by decide) rfl (by decide) (by decide) (n9 := 15) rfl (fun z hr hi hl hB => ?_)
  refine e_put (p2 := 37) hB dX1_init_34 rfl fX1_21 (by decide) rfl (Or.inr ⟨rfl, rfl, rfl⟩) (fun hr hB => ?_)
  refine a_aload_n (n := 38) dX1_init_37 rfl rfl ?_
  refine a_bipush (n := 40) dX1_init_38 rfl ⟨by decide, by decide⟩ (by decide) ?_
  refine e_newI (p2 := 42) hB dX1_init_40 rfl (by decide) (by decide) (by decide) rfl (by decide) (by decide) (n9 := 16) rfl (fun z hr hi hl hB => ?_)
  refine e_put (p2 := 45) hB dX1_init_42 rfl fX1_24 (by decide) rfl (Or.inr ⟨rfl, rfl, rfl⟩) (fun hr hB => ?_)
  refine a_return dX1_init_45 rfl ?_
  exact ⟨rfl, hB⟩
abbrev li_X7_init_16 (l : List (Nat × Int × Nat)) : List (Nat × Int × Nat) := (16, 0, 17) :: l
set_option maxRecDepth 100000 in
set_option maxHeartbeats 4000000 in
theorem i_X7_init_16 (hB : bS 17 ([(0, 3, 10), (10, 4, 15), (10, 3, 14), (10, 2, 13), (10, 1, 12), (10, 0, 11), (0, 2, 3), (3, 5, 9), (3, 4, 8), (3, 3, 7), (3, 2, 6), (3, 1, 5), (3, 0, 4), (0, 1, 2), (0, 0, 1)]) 0 z hr hi hl) : a_ct G mX7_init (d + 1) [vR 16] z hr hi hl (fun r z' hr' hi' hl' => r = none ∧ bS 18 (li_X7_init_16 ([(0, 3, 10), (10, 4, 15), (10, 3, 14), (10, 2, 13), (10, 1, 12), (10, 0, 11), (0, 2, 3), (3, 5, 9), (3, 4, 8), (3, 3, 7), (3, 2, 6), (3, 1, 5), (3, 0, 4), (0, 1, 2), (0, 0, 1)])) 0 z' hr' hi' hl') := by
  refine a_ct_of rfl (Nat.le_of_ble_eq_true rfl) ?_
  refine a_aload_n (n := 1) dX7_init_0 rfl rfl ?_
  refine a_objInit (n := 4) dX7_init_1 rfl oX7_3 (by omega) (by rw [hB.1]; decide) (Nat.le_of_ble_eq_true rfl) ?_
  refine a_aload_n (n := 5) dX7_init_4 rfl rfl ?_
  refine a_sipush (n := 8) dX7_init_5 rfl ⟨by decide, by decide⟩ (by decide) ?_
  refine e_newI (p2 := 10) hB dX7_init_8 rfl (by decide) (by decide) (by decide) rfl (by decide) (by decide) (n9 := 18) rfl (fun z hr hi hl hB => ?_)
  refine e_put (p2 := 13) hB dX7_init_10 rfl fX7_9 (by decide) rfl (Or.inr ⟨rfl, rfl, rfl⟩) (fun hr hB => ?_)
  refine a_return dX7_init_13 rfl ?_
  exact ⟨rfl, hB⟩
abbrev li_X8_init_19 (l : List (Nat × Int × Nat)) : List (Nat × Int × Nat) := (19, 2, 22) :: (19, 1, 21) :: (19, 0, 20) :: l
set_option maxRecDepth 100000 in
set_option maxHeartbeats 4000000 in
theorem i_X8_init_19 (hB : bS 20 ([(0, 4, 16), (16, 0, 17), (0, 3, 10), (10, 4, 15), (10, 3, 14), (10, 2, 13), (10, 1, 12), (10, 0, 11), (0, 2, 3), (3, 5, 9), (3, 4, 8), (3, 3, 7), (3, 2, 6), (3, 1, 5), (3, 0, 4), (0, 1, 2), (0, 0, 1)]) 0 z hr hi hl) : a_ct G mX8_init (d + 1) [vR 19] z hr hi hl (fun r z' hr' hi' hl' => r = none ∧ bS 23 (li_X8_init_19 ([(0, 4, 16), (16, 0, 17), (0, 3, 10), (10, 4, 15), (10, 3, 14), (10, 2, 13), (10, 1, 12), (10, 0, 11), (0, 2, 3), (3, 5, 9), (3, 4, 8), (3, 3, 7), (3, 2, 6), (3, 1, 5), (3, 0, 4), (0, 1, 2), (0, 0, 1)])) 0 z' hr' hi' hl') := by
  refine a_ct_of rfl (Nat.le_of_ble_eq_true rfl) ?_
  refine a_aload_n (n := 1) dX8_init_0 rfl rfl ?_
  refine a_objInit (n := 4) dX8_init_1 rfl oX8_3 (by omega) (by rw [hB.1]; decide) (Nat.le_of_ble_eq_true rfl) ?_
  refine a_aload_n (n := 5) dX8_init_4 rfl rfl ?_
  refine a_sipush (n := 8) dX8_init_5 rfl ⟨by decide, by decide⟩ (by decide) ?_
  refine e_newI (p2 := 10) hB dX8_init_8 rfl (by decide) (by decide) (by decide) rfl (by decide) (by decide) (n9 := 21) rfl (fun z hr hi hl hB => ?_)
  refine e_put (p2 := 13) hB dX8_init_10 rfl fX8_11 (by decide) rfl (Or.inr ⟨rfl, rfl, rfl⟩) (fun hr hB => ?_)
  refine a_aload_n (n := 14) dX8_init_13 rfl rfl ?_
  refine a_sipush (n := 17) dX8_init_14 rfl ⟨by decide, by decide⟩ (by decide) ?_
  refine e_newI (p2 := 19) hB dX8_init_17 rfl (by decide) (by decide) (by decide) rfl (by decide) (by decide) (n9 := 22) rfl (fun z hr hi hl hB => ?_)
  refine e_put (p2 := 22) hB dX8_init_19 rfl fX8_15 (by decide) rfl (Or.inr ⟨rfl, rfl, rfl⟩) (fun hr hB => ?_)
  refine a_aload_n (n := 23) dX8_init_22 rfl rfl ?_
  refine a_sipush (n := 26) dX8_init_23 rfl ⟨by decide, by decide⟩ (by decide) ?_
  refine e_newI (p2 := 28) hB dX8_init_26 rfl (by decide) (by decide) (by decide) rfl (by decide) (by decide) (n9 := 23) rfl (fun z hr hi hl hB => ?_)
  refine e_put (p2 := 31) hB dX8_init_28 rfl fX8_18 (by decide) rfl (Or.inr ⟨rfl, rfl, rfl⟩) (fun hr hB => ?_)
  refine a_return dX8_init_31 rfl ?_
  exact ⟨rfl, hB⟩
abbrev li_X5_init_23 (l : List (Nat × Int × Nat)) : List (Nat × Int × Nat) := (23, 4, 28) :: (23, 3, 27) :: (23, 2, 26) :: (23, 1, 25) :: (23, 0, 24) :: l
set_option maxRecDepth 100000 in
set_option maxHeartbeats 4000000 in
theorem i_X5_init_23 (hB : bS 24 ([(18, 0, 19), (19, 2, 22), (19, 1, 21), (19, 0, 20), (0, 4, 16), (16, 0, 17), (0, 3, 10), (10, 4, 15), (10, 3, 14), (10, 2, 13), (10, 1, 12), (10, 0, 11), (0, 2, 3), (3, 5, 9), (3, 4, 8), (3, 3, 7), (3, 2, 6), (3, 1, 5), (3, 0, 4), (0, 1, 2), (0, 0, 1)]) 0 z hr hi hl) : a_ct G mX5_init (d + 1) [vR 23] z hr hi hl (fun r z' hr' hi' hl' => r = none ∧ bS 29 (li_X5_init_23 ([(18, 0, 19), (19, 2, 22), (19, 1, 21), (19, 0, 20), (0, 4, 16), (16, 0, 17), (0, 3, 10), (10, 4, 15), (10, 3, 14), (10, 2, 13), (10, 1, 12), (10, 0, 11), (0, 2, 3), (3, 5, 9), (3, 4, 8), (3, 3, 7), (3, 2, 6), (3, 1, 5), (3, 0, 4), (0, 1, 2), (0, 0, 1)])) 0 z' hr' hi' hl') := by
  refine a_ct_of rfl (Nat.le_of_ble_eq_true rfl) ?_
  refine a_aload_n (n := 1) dX5_init_0 rfl rfl ?_
  refine a_objInit (n := 4) dX5_init_1 rfl oX5_3 (by omega) (by rw [hB.1]; decide) (Nat.le_of_ble_eq_true rfl) ?_
  refine a_aload_n (n := 5) dX5_init_4 rfl rfl ?_
  refine a_sipush (n := 8) dX5_init_5 rfl ⟨by decide, by decide⟩ (by decide) ?_
  refine e_newI (p2 := 10) hB dX5_init_8 rfl (by decide) (by decide) (by decide) rfl (by decide) (by decide) (n9 := 25) rfl (fun z hr hi hl hB => ?_)
  refine e_put (p2 := 13) hB dX5_init_10 rfl fX5_9 (by decide) rfl (Or.inr ⟨rfl, rfl, rfl⟩) (fun hr hB => ?_)
  refine a_aload_n (n := 14) dX5_init_13 rfl rfl ?_
  refine a_sipush (n := 17) dX5_init_14 rfl ⟨by decide, by decide⟩ (by decide) ?_
  refine e_newI (p2 := 19) hB dX5_init_17 rfl (by decide) (by decide) (by decide) rfl (by decide) (by decide) (n9 := 26) rfl (fun z hr hi hl hB => ?_)
  refine e_put (p2 := 22) hB dX5_init_19 rfl fX5_15 (by decide) rfl (Or.inr ⟨rfl, rfl, rfl⟩) (fun hr hB => ?_)
  refine a_aload_n (n := 23) dX5_init_22 rfl rfl ?_
  refine a_bipush (n := 25) dX5_init_23 rfl ⟨by decide, by decide⟩ (by decide) ?_
  refine e_newI (p2 := 27) hB dX5_init_25 rfl (by decide) (by decide) (by decide) rfl (by decide) (by decide) (n9 := 27) rfl (fun z hr hi hl hB => ?_)
  refine e_put (p2 := 30) hB dX5_init_27 rfl fX5_18 (by decide) rfl (Or.inr ⟨rfl, rfl, rfl⟩) (fun hr hB => ?_)
  refine a_aload_n (n := 31) dX5_init_30 rfl rfl ?_
  refine a_bipush (n := 33) dX5_init_31 rfl ⟨by decide, by decide⟩ (by decide) ?_
  refine e_newZ (p2 := 35) hB dX5_init_33 rfl (by decide) (by decide) (by decide) rfl (by decide) (by decide) (n9 := 28) rfl (fun z hr hi hl hB => ?_)
  refine e_put (p2 := 38) hB dX5_init_35 rfl fX5_21 (by decide) rfl (Or.inr ⟨rfl, rfl, rfl⟩) (fun hr hB => ?_)
  refine a_aload_n (n := 39) dX5_init_38 rfl rfl ?_
  refine a_bipush (n := 41) dX5_init_39 rfl ⟨by decide, by decide⟩ (by decide) ?_
  refine e_newI (p2 := 43) hB dX5_init_41 rfl (by decide) (by decide) (by decide) rfl (by decide) (by decide) (n9 := 29) rfl (fun z hr hi hl hB => ?_)
  refine e_put (p2 := 46) hB dX5_init_43 rfl fX5_25 (by decide) rfl (Or.inr ⟨rfl, rfl, rfl⟩) (fun hr hB => ?_)
  refine a_return dX5_init_46 rfl ?_
  exact ⟨rfl, hB⟩
abbrev li_X4_init_18 (l : List (Nat × Int × Nat)) : List (Nat × Int × Nat) := (18, 1, 23) :: (23, 4, 28) :: (23, 3, 27) :: (23, 2, 26) :: (23, 1, 25) :: (23, 0, 24) :: (18, 0, 19) :: (19, 2, 22) :: (19, 1, 21) :: (19, 0, 20) :: l
set_option maxRecDepth 100000 in
set_option maxHeartbeats 4000000 in
theorem i_X4_init_18 (hN : gN G) (hB : bS 19 ([(0, 4, 16), (16, 0, 17), (0, 3, 10), (10, 4, 15), (10, 3, 14), (10, 2, 13), (10, 1, 12), (10, 0, 11), (0, 2, 3), (3, 5, 9), (3, 4, 8), (3, 3, 7), (3, 2, 6), (3, 1, 5), (3, 0, 4), (0, 1, 2), (0, 0, 1)]) 0 z hr hi hl) : a_ct G mX4_init (d + 2) [vR 18] z hr hi hl (fun r z' hr' hi' hl' => r = none ∧ bS 29 (li_X4_init_18 ([(0, 4, 16), (16, 0, 17), (0, 3, 10), (10, 4, 15), (10, 3, 14), (10, 2, 13), (10, 1, 12), (10, 0, 11), (0, 2, 3), (3, 5, 9), (3, 4, 8), (3, 3, 7), (3, 2, 6), (3, 1, 5), (3, 0, 4), (0, 1, 2), (0, 0, 1)])) 0 z' hr' hi' hl') := by
  refine a_ct_of rfl (Nat.le_of_ble_eq_true rfl) ?_
  refine a_aload_n (n := 1) dX4_init_0 rfl rfl ?_
  refine a_objInit (n := 4) dX4_init_1 rfl oX4_3 (by omega) (by rw [hB.1]; decide) (Nat.le_of_ble_eq_true rfl) ?_
  refine a_aload_n (n := 5) dX4_init_4 rfl rfl ?_
  refine e_new (t := 8) (len := 4) (p2 := 8) hB dX4_init_5 rfl (by decide) rfl nX4_9 q8 qi8 (by decide) rfl (by decide) (by decide) (n9 := 20) rfl (fun z hr hi hl hB => ?_)
  refine a_dup (n := 9) dX4_init_8 rfl rfl ?_
  refine a_callIN (M2 := mX8_init) (n := 12) dX4_init_9 rfl (i_X8_init_19 (d := d + 0) hB) kX8_init (nX4_11 hN) iX8_init rfl rfl (by omega) (by rw [hB.1]; decide) rfl (Nat.le_of_ble_eq_true rfl) (fun r z hr hi hl hB => ?_)
  obtain ⟨rfl, hB⟩ := hB
  show a_wp G _ _ _ _ [vR 19, vR 18] _ _ _ _ _
  refine e_put (p2 := 15) hB dX4_init_12 rfl fX4_12 (by decide) rfl (Or.inr ⟨rfl, rfl, rfl⟩) (fun hr hB => ?_)
  refine a_aload_n (n := 16) dX4_init_15 rfl rfl ?_
  refine e_new (t := 5) (len := 8) (p2 := 19) hB dX4_init_16 rfl (by decide) rfl nX4_18 q5 qi5 (by decide) rfl (by decide) (by decide) (n9 := 24) rfl (fun z hr hi hl hB => ?_)
  refine a_dup (n := 20) dX4_init_19 rfl rfl ?_
  refine a_callIN (M2 := mX5_init) (n := 23) dX4_init_20 rfl (i_X5_init_23 (d := d + 0) hB) kX5_init (nX4_20 hN) iX5_init rfl rfl (by omega) (by rw [hB.1]; decide) rfl (Nat.le_of_ble_eq_true rfl) (fun r z hr hi hl hB => ?_)
  obtain ⟨rfl, hB⟩ := hB
  show a_wp G _ _ _ _ [vR 23, vR 18] _ _ _ _ _
  refine e_put (p2 := 26) hB dX4_init_23 rfl fX4_21 (by decide) rfl (Or.inl rfl) (fun hr hB => ?_)
  refine a_return dX4_init_26 rfl ?_
  exact ⟨rfl, hB⟩
abbrev li_X6_init_29 (l : List (Nat × Int × Nat)) : List (Nat × Int × Nat) := (29, 0, 30) :: l
set_option maxRecDepth 100000 in
set_option maxHeartbeats 4000000 in
theorem i_X6_init_29 (hB : bS 30 ([(0, 5, 18), (18, 1, 23), (23, 4, 28), (23, 3, 27), (23, 2, 26), (23, 1, 25), (23, 0, 24), (18, 0, 19), (19, 2, 22), (19, 1, 21), (19, 0, 20), (0, 4, 16), (16, 0, 17), (0, 3, 10), (10, 4, 15), (10, 3, 14), (10, 2, 13), (10, 1, 12), (10, 0, 11), (0, 2, 3), (3, 5, 9), (3, 4, 8), (3, 3, 7), (3, 2, 6), (3, 1, 5), (3, 0, 4), (0, 1, 2), (0, 0, 1)]) 0 z hr hi hl) : a_ct G mX6_init (d + 1) [vR 29] z hr hi hl (fun r z' hr' hi' hl' => r = none ∧ bS 31 (li_X6_init_29 ([(0, 5, 18), (18, 1, 23), (23, 4, 28), (23, 3, 27), (23, 2, 26), (23, 1, 25), (23, 0, 24), (18, 0, 19), (19, 2, 22), (19, 1, 21), (19, 0, 20), (0, 4, 16), (16, 0, 17), (0, 3, 10), (10, 4, 15), (10, 3, 14), (10, 2, 13), (10, 1, 12), (10, 0, 11), (0, 2, 3), (3, 5, 9), (3, 4, 8), (3, 3, 7), (3, 2, 6), (3, 1, 5), (3, 0, 4), (0, 1, 2), (0, 0, 1)])) 0 z' hr' hi' hl') := by
  refine a_ct_of rfl (Nat.le_of_ble_eq_true rfl) ?_
  refine a_aload_n (n := 1) dX6_init_0 rfl rfl ?_
  refine a_objInit (n := 4) dX6_init_1 rfl oX6_3 (by omega) (by rw [hB.1]; decide) (Nat.le_of_ble_eq_true rfl) ?_
  refine a_aload_n (n := 5) dX6_init_4 rfl rfl ?_
  refine a_sipush (n := 8) dX6_init_5 rfl ⟨by decide, by decide⟩ (by decide) ?_
  refine e_newI (p2 := 10) hB dX6_init_8 rfl (by decide) (by decide) (by decide) rfl (by decide) (by decide) (n9 := 31) rfl (fun z hr hi hl hB => ?_)
  refine e_put (p2 := 13) hB dX6_init_10 rfl fX6_11 (by decide) rfl (Or.inr ⟨rfl, rfl, rfl⟩) (fun hr hB => ?_)
  refine a_return dX6_init_13 rfl ?_
  exact ⟨rfl, hB⟩
abbrev li_X5_init_32 (l : List (Nat × Int × Nat)) : List (Nat × Int × Nat) := (32, 4, 37) :: (32, 3, 36) :: (32, 2, 35) :: (32, 1, 34) :: (32, 0, 33) :: l
set_option maxRecDepth 100000 in
set_option maxHeartbeats 4000000 in
theorem i_X5_init_32 (hB : bS 33 ([(0, 7, 31), (0, 6, 29), (29, 0, 30), (0, 5, 18), (18, 1, 23), (23, 4, 28), (23, 3, 27), (23, 2, 26), (23, 1, 25), (23, 0, 24), (18, 0, 19), (19, 2, 22), (19, 1, 21), (19, 0, 20), (0, 4, 16), (16, 0, 17), (0, 3, 10), (10, 4, 15), (10, 3, 14), (10, 2, 13), (10, 1, 12), (10, 0, 11), (0, 2, 3), (3, 5, 9), (3, 4, 8), (3, 3, 7), (3, 2, 6), (3, 1, 5), (3, 0, 4), (0, 1, 2), (0, 0, 1)]) 0 z hr hi hl) : a_ct G mX5_init (d + 1) [vR 32] z hr hi hl (fun r z' hr' hi' hl' => r = none ∧ bS 38 (li_X5_init_32 ([(0, 7, 31), (0, 6, 29), (29, 0, 30), (0, 5, 18), (18, 1, 23), (23, 4, 28), (23, 3, 27), (23, 2, 26), (23, 1, 25), (23, 0, 24), (18, 0, 19), (19, 2, 22), (19, 1, 21), (19, 0, 20), (0, 4, 16), (16, 0, 17), (0, 3, 10), (10, 4, 15), (10, 3, 14), (10, 2, 13), (10, 1, 12), (10, 0, 11), (0, 2, 3), (3, 5, 9), (3, 4, 8), (3, 3, 7), (3, 2, 6), (3, 1, 5), (3, 0, 4), (0, 1, 2), (0, 0, 1)])) 0 z' hr' hi' hl') := by
  refine a_ct_of rfl (Nat.le_of_ble_eq_true rfl) ?_
  refine a_aload_n (n := 1) dX5_init_0 rfl rfl ?_
  refine a_objInit (n := 4) dX5_init_1 rfl oX5_3 (by omega) (by rw [hB.1]; decide) (Nat.le_of_ble_eq_true rfl) ?_
  refine a_aload_n (n := 5) dX5_init_4 rfl rfl ?_
  refine a_sipush (n := 8) dX5_init_5 rfl ⟨by decide, by decide⟩ (by decide) ?_
  refine e_newI (p2 := 10) hB dX5_init_8 rfl (by decide) (by decide) (by decide) rfl (by decide) (by decide) (n9 := 34) rfl (fun z hr hi hl hB => ?_)
  refine e_put (p2 := 13) hB dX5_init_10 rfl fX5_9 (by decide) rfl (Or.inr ⟨rfl, rfl, rfl⟩) (fun hr hB => ?_)
  refine a_aload_n (n := 14) dX5_init_13 rfl rfl ?_
  refine a_sipush (n := 17) dX5_init_14 rfl ⟨by decide, by decide⟩ (by decide) ?_
  refine e_newI (p2 := 19) hB dX5_init_17 rfl (by decide) (by decide) (by decide) rfl (by decide) (by decide) (n9 := 35) rfl (fun z hr hi hl hB => ?_)
  refine e_put (p2 := 22) hB dX5_init_19 rfl fX5_15 (by decide) rfl (Or.inr ⟨rfl, rfl, rfl⟩) (fun hr hB => ?_)
  refine a_aload_n (n := 23) dX5_init_22 rfl rfl ?_
  refine a_bipush (n := 25) dX5_init_23 rfl ⟨by decide, by decide⟩ (by decide) ?_
  refine e_newI (p2 := 27) hB dX5_init_25 rfl (by decide) (by decide) (by decide) rfl (by decide) (by decide) (n9 := 36) rfl (fun z hr hi hl hB => ?_)
  refine e_put (p2 := 30) hB dX5_init_27 rfl fX5_18 (by decide) rfl (Or.inr ⟨rfl, rfl, rfl⟩) (fun hr hB => ?_)
  refine a_aload_n (n := 31) dX5_init_30 rfl rfl ?_
  refine a_bipush (n := 33) dX5_init_31 rfl ⟨by decide, by decide⟩ (by decide) ?_
  refine e_newZ (p2 := 35) hB dX5_init_33 rfl (by decide) (by decide) (by decide) rfl (by decide) (by decide) (n9 := 37) rfl (fun z hr hi hl hB => ?_)
  refine e_put (p2 := 38) hB dX5_init_35 rfl fX5_21 (by decide) rfl (Or.inr ⟨rfl, rfl, rfl⟩) (fun hr hB => ?_)
  refine a_aload_n (n := 39) dX5_init_38 rfl rfl ?_
  refine a_bipush (n := 41) dX5_init_39 rfl ⟨by decide, by decide⟩ (by decide) ?_
  refine e_newI (p2 := 43) hB dX5_init_41 rfl (by decide) (by decide) (by decide) rfl (by decide) (by decide) (n9 := 38) rfl (fun z hr hi hl hB => ?_)
  refine e_put (p2 := 46) hB dX5_init_43 rfl fX5_25 (by decide) rfl (Or.inr ⟨rfl, rfl, rfl⟩) (fun hr hB => ?_)
  refine a_return dX5_init_46 rfl ?_
  exact ⟨rfl, hB⟩
abbrev li_X9_init_0 (l : List (Nat × Int × Nat)) : List (Nat × Int × Nat) := (0, 8, 32) :: (32, 4, 37) :: (32, 3, 36) :: (32, 2, 35) :: (32, 1, 34) :: (32, 0, 33) :: (0, 7, 31) :: (0, 6, 29) :: (29, 0, 30) :: (0, 5, 18) :: (18, 1, 23) :: (23, 4, 28) :: (23, 3, 27) :: (23, 2, 26) :: (23, 1, 25) :: (23, 0, 24) :: (18, 0, 19) :: (19, 2, 22) :: (19, 1, 21) :: (19, 0, 20) :: (0, 4, 16) :: (16, 0, 17) :: (0, 3, 10) :: (10, 4, 15) :: (10, 3, 14) :: (10, 2, 13) :: (10, 1, 12) :: (10, 0, 11) :: (0, 2, 3) :: (3, 5, 9) :: (3, 4, 8) :: (3, 3, 7) :: (3, 2, 6) :: (3, 1, 5) :: (3, 0, 4) :: (0, 1, 2) :: (0, 0, 1) :: l
set_option maxRecDepth 100000 in
set_option maxHeartbeats 4000000 in
theorem i_X9_init_0 (hN : gN G) (hA : gA2 G) (hB : bS 1 ([]) 0 z hr hi hl) : a_ct G mX9_init (d + 3) [vR 0] z hr hi hl (fun r z' hr' hi' hl' => r = none ∧ bS 38 (li_X9_init_0 ([])) 0 z' hr' hi' hl') := by
  refine a_ct_of rfl (Nat.le_of_ble_eq_true rfl) ?_
  refine a_aload_n (n := 1) dX9_init_0 rfl rfl ?_
  refine a_objInit (n := 4) dX9_init_1 rfl oX9_1 (by omega) (by rw [hB.1]; decide) (Nat.le_of_ble_eq_true rfl) ?_
  refine a_aload_n (n := 5) dX9_init_4 rfl rfl ?_
  refine a_bipush (n := 7) dX9_init_5 rfl ⟨by decide, by decide⟩ (by decide) ?_
  refine e_anew (t := 23) (tb := 3) (p2 := 10) hB dX9_init_7 rfl (by decide) nX9_9 hA.1 (by decide) (by decide) (by decide) rfl (by decide) (by decide) (n9 := 2) rfl (fun z hr hi hl hB => ?_)
  refine e_put (p2 := 13) hB dX9_init_10 rfl fX9_11 (by decide) rfl (Or.inr ⟨rfl, rfl, rfl⟩) (fun hr hB => ?_)
  refine a_aload_n (n := 14) dX9_init_13 rfl rfl ?_
  refine a_bipush (n := 16) dX9_init_14 rfl ⟨by decide, by decide⟩ (by decide) ?_
  refine e_anew (t := 24) (tb := 0) (p2 := 19) hB dX9_init_16 rfl (by decide) nX9_15 hA.2 (by decide) (by decide) (by decide) rfl (by decide) (by decide) (n9 := 3) rfl (fun z hr hi hl hB => ?_)
  refine e_put (p2 := 22) hB dX9_init_19 rfl fX9_17 (by decide) rfl (Or.inr ⟨rfl, rfl, rfl⟩) (fun hr hB => ?_)
  refine a_aload_n (n := 23) dX9_init_22 rfl rfl ?_
  refine e_new (t := 2) (len := 8) (p2 := 26) hB dX9_init_23 rfl (by decide) rfl nX9_21 q2 qi2 (by decide) rfl (by decide) (by decide) (n9 := 4) rfl (fun z hr hi hl hB => ?_)
  refine a_dup (n := 27) dX9_init_26 rfl rfl ?_
  refine a_callIN (M2 := mX2_init) (n := 30) dX9_init_27 rfl (i_X2_init_3 (d := d + 1) hB) kX2_init (nX9_23 hN) iX2_init rfl rfl (by omega) (by rw [hB.1]; decide) rfl (Nat.le_of_ble_eq_true rfl) (fun r z hr hi hl hB => ?_)
  obtain ⟨rfl, hB⟩ := hB
  show a_wp G _ _ _ _ [vR 3, vR 0] _ _ _ _ _
  refine e_put (p2 := 33) hB dX9_init_30 rfl fX9_24 (by decide) rfl (Or.inr ⟨rfl, rfl, rfl⟩) (fun hr hB => ?_)
  refine a_aload_n (n := 34) dX9_init_33 rfl rfl ?_
  refine e_new (t := 1) (len := 7) (p2 := 37) hB dX9_init_34 rfl (by decide) rfl nX9_28 q1 qi1 (by decide) rfl (by decide) (by decide) (n9 := 11) rfl (fun z hr hi hl hB => ?_)
  refine a_dup (n := 38) dX9_init_37 rfl rfl ?_
  refine a_callIN (M2 := mX1_init) (n := 41) dX9_init_38 rfl (i_X1_init_10 (d := d + 1) hB) kX1_init (nX9_30 hN) iX1_init rfl rfl (by omega) (by rw [hB.1]; decide) rfl (Nat.le_of_ble_eq_true rfl) (fun r z hr hi hl hB => ?_)
  obtain ⟨rfl, hB⟩ := hB
  show a_wp G _ _ _ _ [vR 10, vR 0] _ _ _ _ _
  refine e_put (p2 := 44) hB dX9_init_41 rfl fX9_31 (by decide) rfl (Or.inr ⟨rfl, rfl, rfl⟩) (fun hr hB => ?_)
  refine a_aload_n (n := 45) dX9_init_44 rfl rfl ?_
  refine e_new (t := 7) (len := 2) (p2 := 48) hB dX9_init_45 rfl (by decide) rfl nX9_35 q7 qi7 (by decide) rfl (by decide) (by decide) (n9 := 17) rfl (fun z hr hi hl hB => ?_)
  refine a_dup (n := 49) dX9_init_48 rfl rfl ?_
  refine a_callIN (M2 := mX7_init) (n := 52) dX9_init_49 rfl (i_X7_init_16 (d := d + 1) hB) kX7_init (nX9_37 hN) iX7_init rfl rfl (by omega) (by rw [hB.1]; decide) rfl (Nat.le_of_ble_eq_true rfl) (fun r z hr hi hl hB => ?_)
  obtain ⟨rfl, hB⟩ := hB
  show a_wp G _ _ _ _ [vR 16, vR 0] _ _ _ _ _
  refine e_put (p2 := 55) hB dX9_init_52 rfl fX9_38 (by decide) rfl (Or.inr ⟨rfl, rfl, rfl⟩) (fun hr hB => ?_)
  refine a_aload_n (n := 56) dX9_init_55 rfl rfl ?_
  refine e_new (t := 4) (len := 5) (p2 := 59) hB dX9_init_56 rfl (by decide) rfl nX9_42 q4 qi4 (by decide) rfl (by decide) (by decide) (n9 := 19) rfl (fun z hr hi hl hB => ?_)
  refine a_dup (n := 60) dX9_init_59 rfl rfl ?_
  refine a_callIN (M2 := mX4_init) (n := 63) dX9_init_60 rfl (i_X4_init_18 (d := d + 0) hN hB) kX4_init (nX9_44 hN) iX4_init rfl rfl (by omega) (by rw [hB.1]; decide) rfl (Nat.le_of_ble_eq_true rfl) (fun r z hr hi hl hB => ?_)
  obtain ⟨rfl, hB⟩ := hB
  show a_wp G _ _ _ _ [vR 18, vR 0] _ _ _ _ _
  refine e_put (p2 := 66) hB dX9_init_63 rfl fX9_45 (by decide) rfl (Or.inr ⟨rfl, rfl, rfl⟩) (fun hr hB => ?_)
  refine a_aload_n (n := 67) dX9_init_66 rfl rfl ?_
  refine e_new (t := 6) (len := 2) (p2 := 70) hB dX9_init_67 rfl (by decide) rfl nX9_49 q6 qi6 (by decide) rfl (by decide) (by decide) (n9 := 30) rfl (fun z hr hi hl hB => ?_)
  refine a_dup (n := 71) dX9_init_70 rfl rfl ?_
  refine a_callIN (M2 := mX6_init) (n := 74) dX9_init_71 rfl (i_X6_init_29 (d := d + 1) hB) kX6_init (nX9_51 hN) iX6_init rfl rfl (by omega) (by rw [hB.1]; decide) rfl (Nat.le_of_ble_eq_true rfl) (fun r z hr hi hl hB => ?_)
  obtain ⟨rfl, hB⟩ := hB
  show a_wp G _ _ _ _ [vR 29, vR 0] _ _ _ _ _
  refine e_put (p2 := 77) hB dX9_init_74 rfl fX9_52 (by decide) rfl (Or.inr ⟨rfl, rfl, rfl⟩) (fun hr hB => ?_)
  refine a_aload_n (n := 78) dX9_init_77 rfl rfl ?_
  refine a_bipush (n := 80) dX9_init_78 rfl ⟨by decide, by decide⟩ (by decide) ?_
  refine e_newI (p2 := 82) hB dX9_init_80 rfl (by decide) (by decide) (by decide) rfl (by decide) (by decide) (n9 := 32) rfl (fun z hr hi hl hB => ?_)
  refine e_put (p2 := 85) hB dX9_init_82 rfl fX9_56 (by decide) rfl (Or.inr ⟨rfl, rfl, rfl⟩) (fun hr hB => ?_)
  refine a_aload_n (n := 86) dX9_init_85 rfl rfl ?_
  refine e_new (t := 5) (len := 8) (p2 := 89) hB dX9_init_86 rfl (by decide) rfl nX9_60 q5 qi5 (by decide) rfl (by decide) (by decide) (n9 := 33) rfl (fun z hr hi hl hB => ?_)
  refine a_dup (n := 90) dX9_init_89 rfl rfl ?_
  refine a_callIN (M2 := mX5_init) (n := 93) dX9_init_90 rfl (i_X5_init_32 (d := d + 1) hB) kX5_init (nX9_62 hN) iX5_init rfl rfl (by omega) (by rw [hB.1]; decide) rfl (Nat.le_of_ble_eq_true rfl) (fun r z hr hi hl hB => ?_)
  obtain ⟨rfl, hB⟩ := hB
  show a_wp G _ _ _ _ [vR 32, vR 0] _ _ _ _ _
  refine e_put (p2 := 96) hB dX9_init_93 rfl fX9_63 (by decide) rfl (Or.inl rfl) (fun hr hB => ?_)
  refine a_return dX9_init_96 rfl ?_
  exact ⟨rfl, hB⟩
abbrev li_X10 (l : List (Nat × Int × Nat)) : List (Nat × Int × Nat) := (38, 55, 79) :: (38, 53, 78) :: (38, 52, 77) :: (38, 51, 76) :: (38, 50, 75) :: (38, 49, 74) :: (38, 48, 73) :: (38, 47, 72) :: (38, 46, 71) :: (38, 44, 70) :: (38, 43, 69) :: (38, 42, 68) :: (38, 40, 67) :: (38, 39, 66) :: (38, 38, 65) :: (38, 36, 64) :: (38, 35, 63) :: (38, 34, 62) :: (38, 33, 61) :: (38, 32, 60) :: (38, 31, 59) :: (38, 30, 58) :: (38, 29, 57) :: (38, 28, 56) :: (38, 27, 55) :: (38, 26, 54) :: (38, 23, 53) :: (38, 22, 52) :: (38, 21, 51) :: (38, 20, 50) :: (38, 19, 49) :: (38, 14, 48) :: (38, 13, 47) :: (38, 12, 46) :: (38, 11, 45) :: (38, 10, 44) :: (38, 9, 43) :: (38, 6, 42) :: (38, 5, 41) :: (38, 4, 40) :: (38, 1, 39) :: l
abbrev li_X9 : List (Nat × Int × Nat) := li_X9_init_0 []
/-- behind the loop of the reference's constructor -/
def bT (n : Nat) (l : List (Nat × Int × Nat)) (j : Int) (z : aZ) (hr : aR) (hi hl : aI) : Prop :=
  z.1 = n ∧ z.2.1 = slT n ∧ (∀ a, a < n → z.2.2 a = shU a) ∧ (∀ a, a < n → ∀ i, hr a i = lkR l a i) ∧ (∀ a, a < n → ∀ i, hi a i = if (a = 60 ∨ a = 61) ∧ 0 ≤ i ∧ i < j then -1 else 0) ∧ ∀ a, a < n → ∀ i, hl a i = iwU 11 a i
theorem bT.is {j : Int} (h : bT n l j z hr hi hl) {a t : Nat} {len : Int} (ha : a < n) (hs : shU a = (t, len)) : a_is z a t len := ⟨by rw [h.1]; exact ha, (h.2.2.1 a ha).trans hs⟩
theorem bT.stp {j : Int} (h : bT n l j z hr hi hl) (hj : 0 ≤ j) : bT n l (j + 1) z hr (up2 (up2 hi 60 j (-1)) 61 j (-1)) hl :=
  ⟨h.1, h.2.1, h.2.2.1, h.2.2.2.1, fun a ha i => by
    rw [up2_eq, up2_eq, h.2.2.2.2.1 a ha i]
    by_cases e : a = 61 ∧ i = j
    · rw [if_pos e, if_pos ⟨Or.inr e.1, by omega, by omega⟩]
    · rw [if_neg e]
      by_cases e2 : a = 60 ∧ i = j
      · rw [if_pos e2, if_pos ⟨Or.inl e2.1, by omega, by omega⟩]
      · rw [if_neg e2]
        by_cases e3 : (a = 60 ∨ a = 61) ∧ 0 ≤ i ∧ i < j
        · rw [if_pos e3, if_pos ⟨e3.1, e3.2.1, by omega⟩]
        · rw [if_neg e3, if_neg (fun e4 => by
            by_cases e5 : i = j
            · rcases e4.1 with e6 | e6
              · exact e2 ⟨e6, e5⟩
              · exact e ⟨e6, e5⟩
            · exact e3 ⟨e4.1, e4.2.1, by omega⟩)], h.2.2.2.2.2⟩
theorem bT.nw {j : Int} (h : bT n l j z hr hi hl) {t : Nat} {len : Int} (hT : shU n = (t, len)) (hq : ∀ q ∈ l, q.1 ≠ n) (h42 : 61 < n) : bT (n + 1) l j (a_al z t len) (cl0 hr z.1 none) (cl0 hi z.1 0) (cl0 hl z.1 0) := by
  obtain ⟨h1, h2, h3, h4, h5, h6⟩ := h
  refine ⟨by show z.1 + 1 = _; rw [h1], by show z.2.1 + _ = slT n + (shU n).2.toNat; rw [h2, hT], fun a ha => ?_, fun a ha i => ?_, fun a ha i => ?_, fun a ha i => ?_⟩
  · show (if a = z.1 then (t, len) else z.2.2 a) = _
    split
    · rename_i e; rw [e, h1, hT]
    · exact h3 a (by omega)
  · rw [h1]
    by_cases e : a = n
    · subst e; rw [cl0_s, lkR_n hq]
    · rw [cl0_n e]; exact h4 a (by omega) i
  · rw [h1]
    by_cases e : a = n
    · subst e; rw [cl0_s, if_neg (by omega)]
    · rw [cl0_n e]; exact h5 a (by omega) i
  · rw [h1]
    by_cases e : a = n
    · subst e
      rw [cl0_s]
      unfold iwU
      rw [if_neg (by omega)]
    · rw [cl0_n e]; exact h6 a (by omega) i
set_option maxRecDepth 100000 in
set_option maxHeartbeats 4000000 in
theorem i_lp (k : Nat) : ∀ {z : aZ} {hr : aR} {hi hl : aI} {l : List (Nat × Int × Nat)} (j : Int), j + k = 40 → 0 ≤ j → bT 80 l j z hr hi hl → hr 38 32 = some 60 → hr 38 33 = some 61 → a_wp G mX10_init d 417 [some (vR 38), some (vI j)] [] z hr hi hl (fun r z' hr' hi' hl' => r = none ∧ bT 80 l 40 z' hr' hi' hl') := by
  induction k with
  | zero =>
    intro z hr hi hl l j hk hj hB h59 h60
    refine a_iload_n (n := 418) dX10_init_417 rfl rfl ?_
    refine a_bipush (n := 420) dX10_init_418 rfl ⟨by decide, by decide⟩ (by decide) ?_
    refine a_icmp_ge (t := 443) (n := 423) dX10_init_420 rfl rfl (fun c₄ => ?_) (fun c₄ => ?_)
    · refine a_return dX10_init_443 rfl ?_
      obtain rfl : j = 40 := by omega
      exact ⟨rfl, hB⟩
    · exact absurd c₄ (by omega)
  | succ k ih =>
    intro z hr hi hl l j hk hj hB h59 h60
    refine a_iload_n (n := 418) dX10_init_417 rfl rfl ?_
    refine a_bipush (n := 420) dX10_init_418 rfl ⟨by decide, by decide⟩ (by decide) ?_
    refine a_icmp_ge (t := 443) (n := 423) dX10_init_420 rfl rfl (fun c₄ => ?_) (fun c₄ => ?_)
    · exact absurd c₄ (by omega)
    · refine a_aload_n (n := 424) dX10_init_423 rfl rfl ?_
      refine a_getR (n := 427) dX10_init_424 rfl fX10_108 (hB.is (a := 38) (by decide) rfl) h59 ?_
      refine a_iload_n (n := 428) dX10_init_427 rfl rfl ?_
      refine a_iconst (n := 429) dX10_init_428 rfl ⟨by decide, by decide⟩ ?_
      refine a_iast (n := 430) dX10_init_429 rfl (hB.is (a := 60) (by decide) rfl) (by omega) (by omega) ?_
      refine a_aload_n (n := 431) dX10_init_430 rfl rfl ?_
      refine a_getR (n := 434) dX10_init_431 rfl fX10_111 (hB.is (a := 38) (by decide) rfl) h60 ?_
      refine a_iload_n (n := 435) dX10_init_434 rfl rfl ?_
      refine a_iconst (n := 436) dX10_init_435 rfl ⟨by decide, by decide⟩ ?_
      refine a_iast (n := 437) dX10_init_436 rfl (hB.is (a := 61) (by decide) rfl) (by omega) (by omega) ?_
      refine b_iinc (n := 440) dX10_init_437 rfl (by decide) rfl rfl ⟨by omega, by omega⟩ ?_
      refine a_goto (t := 417) dX10_init_440 rfl ?_
      exact ih (j + 1) (by omega) (by omega) (hB.stp hj) h59 h60
set_option maxRecDepth 100000 in
set_option maxHeartbeats 4000000 in
theorem i_X10_init_38 (hB : bS 39 li_X9 0 z hr hi hl) : a_ct G mX10_init (d + 1) [vR 38] z hr hi hl (fun r z' hr' hi' hl' => r = none ∧ bT 80 (li_X10 li_X9) 40 z' hr' hi' hl') := by
  refine a_ct_of rfl (Nat.le_of_ble_eq_true rfl) ?_
  refine a_aload_n (n := 1) dX10_init_0 rfl rfl ?_
  refine a_objInit (n := 4) dX10_init_1 rfl oX10_18 (by omega) (by rw [hB.1]; decide) (Nat.le_of_ble_eq_true rfl) ?_
  refine a_aload_n (n := 5) dX10_init_4 rfl rfl ?_
  refine a_sipush (n := 8) dX10_init_5 rfl ⟨by decide, by decide⟩ (by decide) ?_
  refine e_newI (p2 := 10) hB dX10_init_8 rfl (by decide) (by decide) (by decide) rfl (by decide) (by decide) (n9 := 40) rfl (fun z hr hi hl hB => ?_)
  refine e_put (p2 := 13) hB dX10_init_10 rfl fX10_14 (by decide) rfl (Or.inr ⟨rfl, rfl, rfl⟩) (fun hr hB => ?_)
  refine a_aload_n (n := 14) dX10_init_13 rfl rfl ?_
  refine a_sipush (n := 17) dX10_init_14 rfl ⟨by decide, by decide⟩ (by decide) ?_
  refine e_newI (p2 := 19) hB dX10_init_17 rfl (by decide) (by decide) (by decide) rfl (by decide) (by decide) (n9 := 41) rfl (fun z hr hi hl hB => ?_)
  refine e_put (p2 := 22) hB dX10_init_19 rfl fX10_24 (by decide) rfl (Or.inr ⟨rfl, rfl, rfl⟩) (fun hr hB => ?_)
  refine a_aload_n (n := 23) dX10_init_22 rfl rfl ?_
  refine a_sipush (n := 26) dX10_init_23 rfl ⟨by decide, by decide⟩ (by decide) ?_
  refine e_newI (p2 := 28) hB dX10_init_26 rfl (by decide) (by decide) (by decide) rfl (by decide) (by decide) (n9 := 42) rfl (fun z hr hi hl hB => ?_)
  refine e_put (p2 := 31) hB dX10_init_28 rfl fX10_27 (by decide) rfl (Or.inr ⟨rfl, rfl, rfl⟩) (fun hr hB => ?_)
  refine a_aload_n (n := 32) dX10_init_31 rfl rfl ?_
  refine a_sipush (n := 35) dX10_init_32 rfl ⟨by decide, by decide⟩ (by decide) ?_
  refine e_newJ (p2 := 37) hB dX10_init_35 rfl (by decide) (by decide) (by decide) rfl (by decide) (by decide) (n9 := 43) rfl (fun z hr hi hl hB => ?_)
  refine e_put (p2 := 40) hB dX10_init_37 rfl fX10_30 (by decide) rfl (Or.inr ⟨rfl, rfl, rfl⟩) (fun hr hB => ?_)
  refine a_aload_n (n := 41) dX10_init_40 rfl rfl ?_
  refine a_bipush (n := 43) dX10_init_41 rfl ⟨by decide, by decide⟩ (by decide) ?_
  refine e_newJ (p2 := 45) hB dX10_init_43 rfl (by decide) (by decide) (by decide) rfl (by decide) (by decide) (n9 := 44) rfl (fun z hr hi hl hB => ?_)
  refine a_dup (n := 46) dX10_init_45 rfl rfl ?_
  refine a_iconst (n := 47) dX10_init_46 rfl ⟨by decide, by decide⟩ ?_
  refine a_ldc2 (v := 16633) (n := 50) dX10_init_47 rfl ⟨by decide, by decide⟩ (by decide +kernel : Cond.constantLong RX10 34 16633 ∈ lw_tbl) (by decide) ?_
  refine e_last (p2 := 51) hB dX10_init_50 rfl (by decide) (by decide) (by decide) (by decide) (m9 := 1) rfl (fun hl hB => ?_)
  refine a_dup (n := 52) dX10_init_51 rfl rfl ?_
  refine a_iconst (n := 53) dX10_init_52 rfl ⟨by decide, by decide⟩ ?_
  refine a_ldc2 (v := 2793) (n := 56) dX10_init_53 rfl ⟨by decide, by decide⟩ (by decide +kernel : Cond.constantLong RX10 36 2793 ∈ lw_tbl) (by decide) ?_
  refine e_last (p2 := 57) hB dX10_init_56 rfl (by decide) (by decide) (by decide) (by decide) (m9 := 2) rfl (fun hl hB => ?_)
  refine a_dup (n := 58) dX10_init_57 rfl rfl ?_
  refine a_iconst (n := 59) dX10_init_58 rfl ⟨by decide, by decide⟩ ?_
  refine a_ldc2 (v := 1176170) (n := 62) dX10_init_59 rfl ⟨by decide, by decide⟩ (by decide +kernel : Cond.constantLong RX10 38 1176170 ∈ lw_tbl) (by decide) ?_
  refine e_last (p2 := 63) hB dX10_init_62 rfl (by decide) (by decide) (by decide) (by decide) (m9 := 3) rfl (fun hl hB => ?_)
  refine a_dup (n := 64) dX10_init_63 rfl rfl ?_
  refine a_iconst (n := 65) dX10_init_64 rfl ⟨by decide, by decide⟩ ?_
  refine a_ldc2 (v := 1891) (n := 68) dX10_init_65 rfl ⟨by decide, by decide⟩ (by decide +kernel : Cond.constantLong RX10 40 1891 ∈ lw_tbl) (by decide) ?_
  refine e_last (p2 := 69) hB dX10_init_68 rfl (by decide) (by decide) (by decide) (by decide) (m9 := 4) rfl (fun hl hB => ?_)
  refine a_dup (n := 70) dX10_init_69 rfl rfl ?_
  refine a_iconst (n := 71) dX10_init_70 rfl ⟨by decide, by decide⟩ ?_
  refine a_ldc2 (v := 30595897) (n := 74) dX10_init_71 rfl ⟨by decide, by decide⟩ (by decide +kernel : Cond.constantLong RX10 42 30595897 ∈ lw_tbl) (by decide) ?_
  refine e_last (p2 := 75) hB dX10_init_74 rfl (by decide) (by decide) (by decide) (by decide) (m9 := 5) rfl (fun hl hB => ?_)
  refine a_dup (n := 76) dX10_init_75 rfl rfl ?_
  refine a_iconst (n := 77) dX10_init_76 rfl ⟨by decide, by decide⟩ ?_
  refine a_ldc2 (v := 710997) (n := 80) dX10_init_77 rfl ⟨by decide, by decide⟩ (by decide +kernel : Cond.constantLong RX10 44 710997 ∈ lw_tbl) (by decide) ?_
  refine e_last (p2 := 81) hB dX10_init_80 rfl (by decide) (by decide) (by decide) (by decide) (m9 := 6) rfl (fun hl hB => ?_)
  refine a_dup (n := 82) dX10_init_81 rfl rfl ?_
  refine a_bipush (n := 84) dX10_init_82 rfl ⟨by decide, by decide⟩ (by decide) ?_
  refine a_ldc2 (v := 15782540) (n := 87) dX10_init_84 rfl ⟨by decide, by decide⟩ (by decide +kernel : Cond.constantLong RX10 46 15782540 ∈ lw_tbl) (by decide) ?_
  refine e_last (p2 := 88) hB dX10_init_87 rfl (by decide) (by decide) (by decide) (by decide) (m9 := 7) rfl (fun hl hB => ?_)
  refine a_dup (n := 89) dX10_init_88 rfl rfl ?_
  refine a_bipush (n := 91) dX10_init_89 rfl ⟨by decide, by decide⟩ (by decide) ?_
  refine a_ldc2 (v := 1715) (n := 94) dX10_init_91 rfl ⟨by decide, by decide⟩ (by decide +kernel : Cond.constantLong RX10 48 1715 ∈ lw_tbl) (by decide) ?_
  refine e_last (p2 := 95) hB dX10_init_94 rfl (by decide) (by decide) (by decide) (by decide) (m9 := 8) rfl (fun hl hB => ?_)
  refine a_dup (n := 96) dX10_init_95 rfl rfl ?_
  refine a_bipush (n := 98) dX10_init_96 rfl ⟨by decide, by decide⟩ (by decide) ?_
  refine a_ldc2 (v := 4904) (n := 101) dX10_init_98 rfl ⟨by decide, by decide⟩ (by decide +kernel : Cond.constantLong RX10 50 4904 ∈ lw_tbl) (by decide) ?_
  refine e_last (p2 := 102) hB dX10_init_101 rfl (by decide) (by decide) (by decide) (by decide) (m9 := 9) rfl (fun hl hB => ?_)
  refine a_dup (n := 103) dX10_init_102 rfl rfl ?_
  refine a_bipush (n := 105) dX10_init_103 rfl ⟨by decide, by decide⟩ (by decide) ?_
  refine a_ldc2 (v := 1126628337) (n := 108) dX10_init_105 rfl ⟨by decide, by decide⟩ (by decide +kernel : Cond.constantLong RX10 52 1126628337 ∈ lw_tbl) (by decide) ?_
  refine e_last (p2 := 109) hB dX10_init_108 rfl (by decide) (by decide) (by decide) (by decide) (m9 := 10) rfl (fun hl hB => ?_)
  refine a_dup (n := 110) dX10_init_109 rfl rfl ?_
  refine a_bipush (n := 112) dX10_init_110 rfl ⟨by decide, by decide⟩ (by decide) ?_
  refine a_ldc2 (v := 5538) (n := 115) dX10_init_112 rfl ⟨by decide, by decide⟩ (by decide +kernel : Cond.constantLong RX10 54 5538 ∈ lw_tbl) (by decide) ?_
  refine e_last (p2 := 116) hB dX10_init_115 rfl (by decide) (by decide) (by decide) (by decide) (m9 := 11) rfl (fun hl hB => ?_)
  refine e_put (p2 := 119) hB dX10_init_116 rfl fX10_56 (by decide) rfl (Or.inr ⟨rfl, rfl, rfl⟩) (fun hr hB => ?_)
  refine a_aload_n (n := 120) dX10_init_119 rfl rfl ?_
  refine a_iconst (n := 121) dX10_init_120 rfl ⟨by decide, by decide⟩ ?_
  refine e_newI (p2 := 123) hB dX10_init_121 rfl (by decide) (by decide) (by decide) rfl (by decide) (by decide) (n9 := 45) rfl (fun z hr hi hl hB => ?_)
  refine e_put (p2 := 126) hB dX10_init_123 rfl fX10_59 (by decide) rfl (Or.inr ⟨rfl, rfl, rfl⟩) (fun hr hB => ?_)
  refine a_aload_n (n := 127) dX10_init_126 rfl rfl ?_
  refine a_bipush (n := 129) dX10_init_127 rfl ⟨by decide, by decide⟩ (by decide) ?_
  refine e_newZ (p2 := 131) hB dX10_init_129 rfl (by decide) (by decide) (by decide) rfl (by decide) (by decide) (n9 := 46) rfl (fun z hr hi hl hB => ?_)
  refine e_put (p2 := 134) hB dX10_init_131 rfl fX10_62 (by decide) rfl (Or.inr ⟨rfl, rfl, rfl⟩) (fun hr hB => ?_)
  refine a_aload_n (n := 135) dX10_init_134 rfl rfl ?_
  refine a_bipush (n := 137) dX10_init_135 rfl ⟨by decide, by decide⟩ (by decide) ?_
  refine e_newI (p2 := 139) hB dX10_init_137 rfl (by decide) (by decide) (by decide) rfl (by decide) (by decide) (n9 := 47) rfl (fun z hr hi hl hB => ?_)
  refine e_put (p2 := 142) hB dX10_init_139 rfl fX10_66 (by decide) rfl (Or.inr ⟨rfl, rfl, rfl⟩) (fun hr hB => ?_)
  refine a_aload_n (n := 143) dX10_init_142 rfl rfl ?_
  refine a_sipush (n := 146) dX10_init_143 rfl ⟨by decide, by decide⟩ (by decide) ?_
  refine e_newI (p2 := 148) hB dX10_init_146 rfl (by decide) (by decide) (by decide) rfl (by decide) (by decide) (n9 := 48) rfl (fun z hr hi hl hB => ?_)
  refine e_put (p2 := 151) hB dX10_init_148 rfl fX10_69 (by decide) rfl (Or.inr ⟨rfl, rfl, rfl⟩) (fun hr hB => ?_)
  refine a_aload_n (n := 152) dX10_init_151 rfl rfl ?_
  refine a_sipush (n := 155) dX10_init_152 rfl ⟨by decide, by decide⟩ (by decide) ?_
  refine e_newI (p2 := 157) hB dX10_init_155 rfl (by decide) (by decide) (by decide) rfl (by decide) (by decide) (n9 := 49) rfl (fun z hr hi hl hB => ?_)
  refine e_put (p2 := 160) hB dX10_init_157 rfl fX10_72 (by decide) rfl (Or.inr ⟨rfl, rfl, rfl⟩) (fun hr hB => ?_)
  refine a_aload_n (n := 161) dX10_init_160 rfl rfl ?_
  refine a_bipush (n := 163) dX10_init_161 rfl ⟨by decide, by decide⟩ (by decide) ?_
  refine e_newI (p2 := 165) hB dX10_init_163 rfl (by decide) (by decide) (by decide) rfl (by decide) (by decide) (n9 := 50) rfl (fun z hr hi hl hB => ?_)
  refine e_put (p2 := 168) hB dX10_init_165 rfl fX10_75 (by decide) rfl (Or.inr ⟨rfl, rfl, rfl⟩) (fun hr hB => ?_)
  refine a_aload_n (n := 169) dX10_init_168 rfl rfl ?_
  refine a_bipush (n := 171) dX10_init_169 rfl ⟨by decide, by decide⟩ (by decide) ?_
  refine e_newI (p2 := 173) hB dX10_init_171 rfl (by decide) (by decide) (by decide) rfl (by decide) (by decide) (n9 := 51) rfl (fun z hr hi hl hB => ?_)
  refine e_put (p2 := 176) hB dX10_init_173 rfl fX10_78 (by decide) rfl (Or.inr ⟨rfl, rfl, rfl⟩) (fun hr hB => ?_)
  refine a_aload_n (n := 177) dX10_init_176 rfl rfl ?_
  refine a_bipush (n := 179) dX10_init_177 rfl ⟨by decide, by decide⟩ (by decide) ?_
  refine e_newI (p2 := 181) hB dX10_init_179 rfl (by decide) (by decide) (by decide) rfl (by decide) (by decide) (n9 := 52) rfl (fun z hr hi hl hB => ?_)
  refine e_put (p2 := 184) hB dX10_init_181 rfl fX10_81 (by decide) rfl (Or.inr ⟨rfl, rfl, rfl⟩) (fun hr hB => ?_)
  refine a_aload_n (n := 185) dX10_init_184 rfl rfl ?_
  refine a_bipush (n := 187) dX10_init_185 rfl ⟨by decide, by decide⟩ (by decide) ?_
  refine e_newI (p2 := 189) hB dX10_init_187 rfl (by decide) (by decide) (by decide) rfl (by decide) (by decide) (n9 := 53) rfl (fun z hr hi hl hB => ?_)
  refine e_put (p2 := 192) hB dX10_init_189 rfl fX10_84 (by decide) rfl (Or.inr ⟨rfl, rfl, rfl⟩) (fun hr hB => ?_)
  refine a_aload_n (n := 193) dX10_init_192 rfl rfl ?_
  refine a_sipush (n := 196) dX10_init_193 rfl ⟨by decide, by decide⟩ (by decide) ?_
  refine e_newI (p2 := 198) hB dX10_init_196 rfl (by decide) (by decide) (by decide) rfl (by decide) (by decide) (n9 := 54) rfl (fun z hr hi hl hB => ?_)
  refine e_put (p2 := 201) hB dX10_init_198 rfl fX10_87 (by decide) rfl (Or.inr ⟨rfl, rfl, rfl⟩) (fun hr hB => ?_)
  refine a_aload_n (n := 202) dX10_init_201 rfl rfl ?_
  refine a_bipush (n := 204) dX10_init_202 rfl ⟨by decide, by decide⟩ (by decide) ?_
  refine e_newI (p2 := 206) hB dX10_init_204 rfl (by decide) (by decide) (by decide) rfl (by decide) (by decide) (n9 := 55) rfl (fun z hr hi hl hB => ?_)
  refine e_put (p2 := 209) hB dX10_init_206 rfl fX10_90 (by decide) rfl (Or.inr ⟨rfl, rfl, rfl⟩) (fun hr hB => ?_)
  refine a_aload_n (n := 210) dX10_init_209 rfl rfl ?_
  refine a_bipush (n := 212) dX10_init_210 rfl ⟨by decide, by decide⟩ (by decide) ?_
  refine e_newI (p2 := 214) hB dX10_init_212 rfl (by decide) (by decide) (by decide) rfl (by decide) (by decide) (n9 := 56) rfl (fun z hr hi hl hB => ?_)
  refine e_put (p2 := 217) hB dX10_init_214 rfl fX10_93 (by decide) rfl (Or.inr ⟨rfl, rfl, rfl⟩) (fun hr hB => ?_)
  refine a_aload_n (n := 218) dX10_init_217 rfl rfl ?_
  refine a_bipush (n := 220) dX10_init_218 rfl ⟨by decide, by decide⟩ (by decide) ?_
  refine e_newI (p2 := 222) hB dX10_init_220 rfl (by decide) (by decide) (by decide) rfl (by decide) (by decide) (n9 := 57) rfl (fun z hr hi hl hB => ?_)
  refine e_put (p2 := 225) hB dX10_init_222 rfl fX10_96 (by decide) rfl (Or.inr ⟨rfl, rfl, rfl⟩) (fun hr hB => ?_)
  refine a_aload_n (n := 226) dX10_init_225 rfl rfl ?_
  refine a_bipush (n := 228) dX10_init_226 rfl ⟨by decide, by decide⟩ (by decide) ?_
  refine e_newI (p2 := 230) hB dX10_init_228 rfl (by decide) (by decide) (by decide) rfl (by decide) (by decide) (n9 := 58) rfl (fun z hr hi hl hB => ?_)
  refine e_put (p2 := 233) hB dX10_init_230 rfl fX10_99 (by decide) rfl (Or.inr ⟨rfl, rfl, rfl⟩) (fun hr hB => ?_)
  refine a_aload_n (n := 234) dX10_init_233 rfl rfl ?_
  refine a_sipush (n := 237) dX10_init_234 rfl ⟨by decide, by decide⟩ (by decide) ?_
  refine e_newI (p2 := 239) hB dX10_init_237 rfl (by decide) (by decide) (by decide) rfl (by decide) (by decide) (n9 := 59) rfl (fun z hr hi hl hB => ?_)
  refine e_put (p2 := 242) hB dX10_init_239 rfl fX10_102 (by decide) rfl (Or.inr ⟨rfl, rfl, rfl⟩) (fun hr hB => ?_)
  refine a_aload_n (n := 243) dX10_init_242 rfl rfl ?_
  refine a_sipush (n := 246) dX10_init_243 rfl ⟨by decide, by decide⟩ (by decide) ?_
  refine e_newI (p2 := 248) hB dX10_init_246 rfl (by decide) (by decide) (by decide) rfl (by decide) (by decide) (n9 := 60) rfl (fun z hr hi hl hB => ?_)
  refine e_put (p2 := 251) hB dX10_init_248 rfl fX10_105 (by decide) rfl (Or.inr ⟨rfl, rfl, rfl⟩) (fun hr hB => ?_)
  refine a_aload_n (n := 252) dX10_init_251 rfl rfl ?_
  refine a_bipush (n := 254) dX10_init_252 rfl ⟨by decide, by decide⟩ (by decide) ?_
  refine e_newI (p2 := 256) hB dX10_init_254 rfl (by decide) (by decide) (by decide) rfl (by decide) (by decide) (n9 := 61) rfl (fun z hr hi hl hB => ?_)
  refine e_put (p2 := 259) hB dX10_init_256 rfl fX10_108 (by decide) rfl (Or.inr ⟨rfl, rfl, rfl⟩) (fun hr hB => ?_)
  refine a_aload_n (n := 260) dX10_init_259 rfl rfl ?_
  refine a_bipush (n := 262) dX10_init_260 rfl ⟨by decide, by decide⟩ (by decide) ?_
  refine e_newI (p2 := 264) hB dX10_init_262 rfl (by decide) (by decide) (by decide) rfl (by decide) (by decide) (n9 := 62) rfl (fun z hr hi hl hB => ?_)
  refine e_put (p2 := 267) hB dX10_init_264 rfl fX10_111 (by decide) rfl (Or.inr ⟨rfl, rfl, rfl⟩) (fun hr hB => ?_)
  refine a_aload_n (n := 268) dX10_init_267 rfl rfl ?_
  refine a_bipush (n := 270) dX10_init_268 rfl ⟨by decide, by decide⟩ (by decide) ?_
  refine e_newI (p2 := 272) hB dX10_init_270 rfl (by decide) (by decide) (by decide) rfl (by decide) (by decide) (n9 := 63) rfl (fun z hr hi hl hB => ?_)
  refine e_put (p2 := 275) hB dX10_init_272 rfl fX10_114 (by decide) rfl (Or.inr ⟨rfl, rfl, rfl⟩) (fun hr hB => ?_)
  refine a_aload_n (n := 276) dX10_init_275 rfl rfl ?_
  refine a_bipush (n := 278) dX10_init_276 rfl ⟨by decide, by decide⟩ (by decide) ?_
  refine e_newZ (p2 := 280) hB dX10_init_278 rfl (by decide) (by decide) (by decide) rfl (by decide) (by decide) (n9 := 64) rfl (fun z hr hi hl hB => ?_)
  refine e_put (p2 := 283) hB dX10_init_280 rfl fX10_117 (by decide) rfl (Or.inr ⟨rfl, rfl, rfl⟩) (fun hr hB => ?_)
  refine a_aload_n (n := 284) dX10_init_283 rfl rfl ?_
  refine a_bipush (n := 286) dX10_init_284 rfl ⟨by decide, by decide⟩ (by decide) ?_
  refine e_newI (p2 := 288) hB dX10_init_286 rfl (by decide) (by decide) (by decide) rfl (by decide) (by decide) (n9 := 65) rfl (fun z hr hi hl hB => ?_)
  refine e_put (p2 := 291) hB dX10_init_288 rfl fX10_120 (by decide) rfl (Or.inr ⟨rfl, rfl, rfl⟩) (fun hr hB => ?_)
  refine a_aload_n (n := 292) dX10_init_291 rfl rfl ?_
  refine a_sipush (n := 295) dX10_init_292 rfl ⟨by decide, by decide⟩ (by decide) ?_
  refine e_newI (p2 := 297) hB dX10_init_295 rfl (by decide) (by decide) (by decide) rfl (by decide) (by decide) (n9 := 66) rfl (fun z hr hi hl hB => ?_)
  refine e_put (p2 := 300) hB dX10_init_297 rfl fX10_123 (by decide) rfl (Or.inr ⟨rfl, rfl, rfl⟩) (fun hr hB => ?_)
  refine a_aload_n (n := 301) dX10_init_300 rfl rfl ?_
  refine a_sipush (n := 304) dX10_init_301 rfl ⟨by decide, by decide⟩ (by decide) ?_
  refine e_newI (p2 := 306) hB dX10_init_304 rfl (by decide) (by decide) (by decide) rfl (by decide) (by decide) (n9 := 67) rfl (fun z hr hi hl hB => ?_)
  refine e_put (p2 := 309) hB dX10_init_306 rfl fX10_126 (by decide) rfl (Or.inr ⟨rfl, rfl, rfl⟩) (fun hr hB => ?_)
  refine a_aload_n (n := 310) dX10_init_309 rfl rfl ?_
  refine a_sipush (n := 313) dX10_init_310 rfl ⟨by decide, by decide⟩ (by decide) ?_
  refine e_newI (p2 := 315) hB dX10_init_313 rfl (by decide) (by decide) (by decide) rfl (by decide) (by decide) (n9 := 68) rfl (fun z hr hi hl hB => ?_)
  refine e_put (p2 := 318) hB dX10_init_315 rfl fX10_129 (by decide) rfl (Or.inr ⟨rfl, rfl, rfl⟩) (fun hr hB => ?_)
  refine a_aload_n (n := 319) dX10_init_318 rfl rfl ?_
  refine a_bipush (n := 321) dX10_init_319 rfl ⟨by decide, by decide⟩ (by decide) ?_
  refine e_newI (p2 := 323) hB dX10_init_321 rfl (by decide) (by decide) (by decide) rfl (by decide) (by decide) (n9 := 69) rfl (fun z hr hi hl hB => ?_)
  refine e_put (p2 := 326) hB dX10_init_323 rfl fX10_132 (by decide) rfl (Or.inr ⟨rfl, rfl, rfl⟩) (fun hr hB => ?_)
  refine a_aload_n (n := 327) dX10_init_326 rfl rfl ?_
  refine a_bipush (n := 329) dX10_init_327 rfl ⟨by decide, by decide⟩ (by decide) ?_
  refine e_newI (p2 := 331) hB dX10_init_329 rfl (by decide) (by decide) (by decide) rfl (by decide) (by decide) (n9 := 70) rfl (fun z hr hi hl hB => ?_)
  refine e_put (p2 := 334) hB dX10_init_331 rfl fX10_135 (by decide) rfl (Or.inr ⟨rfl, rfl, rfl⟩) (fun hr hB => ?_)
  refine a_aload_n (n := 335) dX10_init_334 rfl rfl ?_
  refine a_bipush (n := 337) dX10_init_335 rfl ⟨by decide, by decide⟩ (by decide) ?_
  refine e_newI (p2 := 339) hB dX10_init_337 rfl (by decide) (by decide) (by decide) rfl (by decide) (by decide) (n9 := 71) rfl (fun z hr hi hl hB => ?_)
  refine e_put (p2 := 342) hB dX10_init_339 rfl fX10_138 (by decide) rfl (Or.inr ⟨rfl, rfl, rfl⟩) (fun hr hB => ?_)
  refine a_aload_n (n := 343) dX10_init_342 rfl rfl ?_
  refine a_bipush (n := 345) dX10_init_343 rfl ⟨by decide, by decide⟩ (by decide) ?_
  refine e_newI (p2 := 347) hB dX10_init_345 rfl (by decide) (by decide) (by decide) rfl (by decide) (by decide) (n9 := 72) rfl (fun z hr hi hl hB => ?_)
  refine e_put (p2 := 350) hB dX10_init_347 rfl fX10_141 (by decide) rfl (Or.inr ⟨rfl, rfl, rfl⟩) (fun hr hB => ?_)
  refine a_aload_n (n := 351) dX10_init_350 rfl rfl ?_
  refine a_bipush (n := 353) dX10_init_351 rfl ⟨by decide, by decide⟩ (by decide) ?_
  refine e_newI (p2 := 355) hB dX10_init_353 rfl (by decide) (by decide) (by decide) rfl (by decide) (by decide) (n9 := 73) rfl (fun z hr hi hl hB => ?_)
  refine e_put (p2 := 358) hB dX10_init_355 rfl fX10_144 (by decide) rfl (Or.inr ⟨rfl, rfl, rfl⟩) (fun hr hB => ?_)
  refine a_aload_n (n := 359) dX10_init_358 rfl rfl ?_
  refine a_bipush (n := 361) dX10_init_359 rfl ⟨by decide, by decide⟩ (by decide) ?_
  refine e_newI (p2 := 363) hB dX10_init_361 rfl (by decide) (by decide) (by decide) rfl (by decide) (by decide) (n9 := 74) rfl (fun z hr hi hl hB => ?_)
  refine e_put (p2 := 366) hB dX10_init_363 rfl fX10_147 (by decide) rfl (Or.inr ⟨rfl, rfl, rfl⟩) (fun hr hB => ?_)
  refine a_aload_n (n := 367) dX10_init_366 rfl rfl ?_
  refine a_bipush (n := 369) dX10_init_367 rfl ⟨by decide, by decide⟩ (by decide) ?_
  refine e_newI (p2 := 371) hB dX10_init_369 rfl (by decide) (by decide) (by decide) rfl (by decide) (by decide) (n9 := 75) rfl (fun z hr hi hl hB => ?_)
  refine e_put (p2 := 374) hB dX10_init_371 rfl fX10_150 (by decide) rfl (Or.inr ⟨rfl, rfl, rfl⟩) (fun hr hB => ?_)
  refine a_aload_n (n := 375) dX10_init_374 rfl rfl ?_
  refine a_bipush (n := 377) dX10_init_375 rfl ⟨by decide, by decide⟩ (by decide) ?_
  refine e_newI (p2 := 379) hB dX10_init_377 rfl (by decide) (by decide) (by decide) rfl (by decide) (by decide) (n9 := 76) rfl (fun z hr hi hl hB => ?_)
  refine e_put (p2 := 382) hB dX10_init_379 rfl fX10_153 (by decide) rfl (Or.inr ⟨rfl, rfl, rfl⟩) (fun hr hB => ?_)
  refine a_aload_n (n := 383) dX10_init_382 rfl rfl ?_
  refine a_bipush (n := 385) dX10_init_383 rfl ⟨by decide, by decide⟩ (by decide) ?_
  refine e_newI (p2 := 387) hB dX10_init_385 rfl (by decide) (by decide) (by decide) rfl (by decide) (by decide) (n9 := 77) rfl (fun z hr hi hl hB => ?_)
  refine e_put (p2 := 390) hB dX10_init_387 rfl fX10_156 (by decide) rfl (Or.inr ⟨rfl, rfl, rfl⟩) (fun hr hB => ?_)
  refine a_aload_n (n := 391) dX10_init_390 rfl rfl ?_
  refine a_bipush (n := 393) dX10_init_391 rfl ⟨by decide, by decide⟩ (by decide) ?_
  refine e_newI (p2 := 395) hB dX10_init_393 rfl (by decide) (by decide) (by decide) rfl (by decide) (by decide) (n9 := 78) rfl (fun z hr hi hl hB => ?_)
  refine e_put (p2 := 398) hB dX10_init_395 rfl fX10_159 (by decide) rfl (Or.inr ⟨rfl, rfl, rfl⟩) (fun hr hB => ?_)
  refine a_aload_n (n := 399) dX10_init_398 rfl rfl ?_
  refine a_bipush (n := 401) dX10_init_399 rfl ⟨by decide, by decide⟩ (by decide) ?_
  refine e_newI (p2 := 403) hB dX10_init_401 rfl (by decide) (by decide) (by decide) rfl (by decide) (by decide) (n9 := 79) rfl (fun z hr hi hl hB => ?_)
  refine e_put (p2 := 406) hB dX10_init_403 rfl fX10_162 (by decide) rfl (Or.inr ⟨rfl, rfl, rfl⟩) (fun hr hB => ?_)
  refine a_aload_n (n := 407) dX10_init_406 rfl rfl ?_
  refine a_sipush (n := 410) dX10_init_407 rfl ⟨by decide, by decide⟩ (by decide) ?_
  refine e_newI (p2 := 412) hB dX10_init_410 rfl (by decide) (by decide) (by decide) rfl (by decide) (by decide) (n9 := 80) rfl (fun z hr hi hl hB => ?_)
  refine e_put (p2 := 415) hB dX10_init_412 rfl fX10_165 (by decide) rfl (Or.inr ⟨rfl, rfl, rfl⟩) (fun hr hB => ?_)
  refine a_iconst (n := 416) dX10_init_415 rfl ⟨by decide, by decide⟩ ?_
  refine b_istore_n (n := 417) dX10_init_416 rfl (by decide) rfl ?_
  have hT : bT 80 (li_X10 li_X9) 0 z hr hi hl := ⟨hB.1, hB.2.1, hB.2.2.1, hB.2.2.2.1, fun a ha i => by rw [if_neg (by omega)]; exact hB.2.2.2.2.1 a ha i, hB.2.2.2.2.2⟩
  exact i_lp 40 0 (by decide) (by decide) hT ((hB.2.2.2.1 38 (by decide) 32).trans (by decide)) ((hB.2.2.2.1 38 (by decide) 33).trans (by decide))
end Bini
