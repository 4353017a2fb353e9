/-! the start: the walk's own data *) -/
section ST
variable {s : State} {b L : Nat} {xs : Nat → Int32}
theorem s_cls (hts : ∀ w ∈ lw_tbl, w.before #[Value.ref b] s = true) : ∃ (dC : Nat → ClassId) (dI : Nat → Nat → Nat), ∀ (k : Nat) (q : vw_C), vwCl[k]? = some q → u_Kn s q.1 q.2.1 q.2.2 (dC k) (dI k) := by
  have h0 : ∀ t : Nat, ∃ q : ClassId × (Nat → Nat), t < 11 → u_Kn s (a_Rn t) (a_T t) (a_nf t) q.1 q.2 := by
    intro t
    by_cases ht : t < 11
    · obtain ⟨c, iS, h⟩ := u_known (n := a_nf t) (ws := lw_tbl.filter goodWord) (args := #[Value.ref b]) (fun w hw => hts w (List.mem_filter.mp hw).1) (a_in t ht) (hts _ (j_in t ht))
      exact ⟨(c, iS), fun _ => h⟩
    · exact ⟨(0, fun _ => 0), fun h => absurd h ht⟩
  obtain ⟨D, hD⟩ := Classical.axiomOfChoice h0
  refine ⟨fun t => (D t).1, fun t => (D t).2, fun k q hq => ?_⟩
  have hk : k < 11 := (List.getElem?_eq_some_iff.mp hq).1
  cases (a_vw k hk).symm.trans hq
  exact hD k hk
theorem s_ac {ty : FieldType} (h : (Cond.arrayClass ty).before #[Value.ref b] s = true) : ∃ cA, ArrOfT s cA ty ∧ s.vm.findClass ("[" ++ ty.toString) = some cA := by
  obtain ⟨c, k, comp, h1, h2, h3⟩ := Cond.arrayClass_spec h
  exact ⟨c, fun N z => ⟨(fun k h => by cases h), k, h2, comp, h3⟩, h1⟩
theorem s_ao {C : String} (h : (Cond.arrayOver (.object C)).before #[Value.ref b] s = true) : ∃ cA, ArrOfT s cA (.object C) ∧ va_RA s cA (.object C) := by
  obtain ⟨comp, c, k, h1, h2, h3, h4, h5⟩ := Cond.arrayOver_spec h
  exact ⟨c, fun N z => ⟨(fun k h => by cases h), k, h3, comp, h4⟩, k, comp, h3, h4, h1, h5⟩
set_option maxRecDepth 100000 in
set_option maxHeartbeats 4000000 in
theorem s_start (l : Launch) (hfl : l.stackTraces = false) (hL : L ≤ 3584) (hts : ∀ w ∈ lw_tbl, w.before #[Value.ref b] s = true) (hX : va_X b L xs s s.heap) (hbl : b < s.heap.size) (hs : ∀ w ∈ jF, w.before #[Value.ref b] s = true) :
    ∃ G : aG, gl G = l ∧ gq G = false ∧ gb G = s.heap.size ∧ gH G = s.heap ∧ a_ca G 1000000500 = b ∧ a_stab G ∧ a_wK G s ∧ gL G L xs := by
  obtain ⟨adK, adV, hS, hev⟩ := s_str hs
  obtain ⟨a11, h11⟩ := s_m11 hs
  obtain ⟨a12, h12⟩ := s_m12 hs
  obtain ⟨vq, hvq⟩ := s_sio hts hs
  obtain ⟨dC, dI, hC⟩ := s_cls hts
  obtain ⟨cI, i1, i2⟩ := s_ac (ty := .int) (hts _ arrI)
  obtain ⟨cJ, j1, j2⟩ := s_ac (ty := .long) (hts _ arrJ)
  obtain ⟨cZ, z1, z2⟩ := s_ac (ty := .boolean) (hts _ arrZ)
  obtain ⟨cP, p1, p2⟩ := s_ao (C := RX3) (hts (.arrayOver (.object RX3)) (by decide +kernel))
  obtain ⟨cB, b1, b2⟩ := s_ao (C := RX0) (hts (.arrayOver (.object RX0)) (by decide +kernel))
  obtain ⟨E, hE1, hE2, e11, e12, e500, e600⟩ : ∃ E : Nat → Nat, (∀ i, i < 11 → E i = adK i) ∧ (∀ i, i < 11 → E (100 + i) = adV i) ∧ E 11 = a11 ∧ E 12 = a12 ∧ E 500 = b ∧ E 600 = vq.getD 0 := by
    refine ⟨fun i => if i = 500 then b else if i = 600 then vq.getD 0 else if i = 11 then a11 else if i = 12 then a12 else if i < 11 then adK i else adV (i - 100), fun i hi => ?_, fun i hi => ?_, rfl, rfl, rfl, rfl⟩
    · show (if i = 500 then b else if i = 600 then vq.getD 0 else if i = 11 then a11 else if i = 12 then a12 else if i < 11 then adK i else adV (i - 100)) = _
      rw [if_neg (by omega), if_neg (by omega), if_neg (by omega), if_neg (by omega), if_pos hi]
    · show (if 100 + i = 500 then b else if 100 + i = 600 then vq.getD 0 else if 100 + i = 11 then a11 else if 100 + i = 12 then a12 else if 100 + i < 11 then adK (100 + i) else adV (100 + i - 100)) = _
      rw [if_neg (by omega), if_neg (by omega), if_neg (by omega), if_neg (by omega), if_neg (by omega), Nat.add_sub_cancel_left]
  obtain ⟨gA', g20, g21, g22, g23, g24⟩ : ∃ f : Nat → ClassId, f 20 = cI ∧ f 21 = cJ ∧ f 22 = cZ ∧ f 23 = cP ∧ f 24 = cB := ⟨fun t => if t = 20 then cI else if t = 21 then cJ else if t = 22 then cZ else if t = 23 then cP else cB, rfl, rfl, rfl, rfl, rfl⟩
  subst g20; subst g21; subst g22; subst g23; subst g24; subst e11; subst e12; subst e500
  have hS' : vk_S 11 jLen jByt (fun i => E i) (fun i => E (100 + i)) (fun q => s.heap.size ≤ q) s s.heap := by
    refine ⟨fun i hi => ?_, fun i j hi hj e => hS.2 i j hi hj ?_⟩
    · have h := hS.1 i hi
      rw [← hE1 i hi, ← hE2 i hi] at h
      exact h
    · rw [← hE1 i hi, ← hE1 j hj]
      exact e
  have hR := s_ref (E := E) hts (fun i hi => by rw [hE1 i hi]; exact hev i hi) h11 h12
  have hT : X_L E s.heap.size L xs s := by
    obtain ⟨scr, x1, x2, x3, x4, x5⟩ := hX
    exact ⟨scr, x1, x2, x3, by rw [x4]; exact Nat.le_refl _, by rw [x4], fun j hj => x5 j hj, Nat.not_le.mpr hbl⟩
  have hN : X_N s := ⟨va_Nw.of rfl (hts (.methodLinkNest RX3 65 yX9_within "BedBook") (by decide +kernel)), va_Nw.of rfl (hts (.methodLinkNest RX7 15 yX9_within "BedBook") (by decide +kernel)), va_Nw.of rfl (hts (.methodLinkNest RX6 19 yX9_within "BedBook") (by decide +kernel)), va_Nw.of rfl (hts (.methodLinkNest RX9 23 yX2_init "BedBook") (by decide +kernel)), va_Nw.of rfl (hts (.methodLinkNest RX9 37 yX7_init "BedBook") (by decide +kernel)), va_Nw.of rfl (hts (.methodLinkNest RX9 44 yX4_init "BedBook") (by decide +kernel)), va_Nw.of rfl (hts (.methodLinkNest RX4 11 yX8_init "BedBook") (by decide +kernel)), va_Nw.of rfl (hts (.methodLinkNest RX4 20 yX5_init "BedBook") (by decide +kernel)), va_Nw.of rfl (hts (.methodLinkNest RX9 51 yX6_init "BedBook") (by decide +kernel)), va_Nw.of rfl (hts (.methodLinkNest RX9 62 yX5_init "BedBook") (by decide +kernel)), va_Nw.of rfl (hts (.methodLinkNest RX9 30 yX1_init "BedBook") (by decide +kernel))⟩
  have hG : X_G E s.heap.size vq L xs s := ⟨hN, ⟨hS', s_cmp hts hs, hvq, hR⟩, ⟨s_th1 hts hs, s_th2 hts hs, fun w hw hf a => va_tabs (face_tab hf) rfl (hts w hw)⟩, ⟨hts (.arrayOver (.object RX3)) (by decide +kernel), hts (.arrayOver (.object RX0)) (by decide +kernel)⟩, hT⟩
  have hK : va_K (dC, dI) vwCl [(gA' 20, .int), (gA' 21, .long), (gA' 22, .boolean), (gA' 23, .object RX3), (gA' 24, .object RX0)] s := by
    refine ⟨hC, fun k q hq => ?_⟩
    match k, hq with
    | 0, hq => cases hq; exact ⟨i1, i2⟩
    | 1, hq => cases hq; exact ⟨j1, j2⟩
    | 2, hq => cases hq; exact ⟨z1, z2⟩
    | 3, hq => cases hq; exact ⟨p1, p2⟩
    | 4, hq => cases hq; exact ⟨b1, b2⟩
    | k + 5, hq => simp at hq
  refine ⟨(l, (s.heap.size, false), s.heap, dC, dI, gA', E, X_G E s.heap.size vq L xs), rfl, rfl, rfl, rfl, a_ca_x (k := 500) rfl, fun u U hW _ _ hq h => X_G_st hW hq h, ⟨hK, hG⟩, ⟨?_, ⟨fun U h => h.2.1.1, fun U h => h.2.1.2.1, ⟨vq.map (fun _ => 1000000600), fun U h => ?_⟩, fun U h => h.2.1.2.2.2⟩, ⟨hfl, fun U h => h.2.2.1⟩, ⟨fun U h => h.2.2.2.1.1, fun U h => h.2.2.2.1.2⟩, by omega, fun U h => ?_⟩⟩
  · exact ⟨fun U h => h.1.1, fun U h => h.1.2.1, fun U h => h.1.2.2.1, fun U h => h.1.2.2.2.1, fun U h => h.1.2.2.2.2.1, fun U h => h.1.2.2.2.2.2.1, fun U h => h.1.2.2.2.2.2.2.1, fun U h => h.1.2.2.2.2.2.2.2.1, fun U h => h.1.2.2.2.2.2.2.2.2.1, fun U h => h.1.2.2.2.2.2.2.2.2.2.1, fun U h => h.1.2.2.2.2.2.2.2.2.2.2⟩
  · have h9 := h.2.1.2.2.1
    have e9 : (vq.map (fun _ => 1000000600)).map (a_ca (l, (s.heap.size, false), s.heap, dC, dI, gA', E, X_G E s.heap.size vq L xs)) = vq := by
      cases vq with
      | none => rfl
      | some t => exact congrArg some ((a_ca_x (k := 600) rfl).trans e600)
    rw [e9]
    exact h9
  · rw [a_ca_x (k := 500) rfl]
    exact h.2.2.2.2
end ST
