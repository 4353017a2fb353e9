/-! the cells as they were made, and by my numbers: the one into the other *) -/
section SW
abbrev sg (G : aG) (f : Bool) : aG := (G.1, (G.2.1.1, f), G.2.2)
def pv (a : Nat) : Nat := if a < 11 then a else if a = 11 then 80 else if a < 81 then a - 1 else a
theorem ad_pv (a : Nat) : ad true (pv a) = a := by
  unfold ad pv
  rw [if_pos rfl]
  repeat' split
  all_goals omega
theorem ad_ff (a : Nat) : ad false a = a := if_neg (by decide)
theorem pv_lt {n a : Nat} (h : 81 ≤ n) (ha : a < n) : pv a < n := by
  unfold pv
  repeat' split
  all_goals omega
theorem pv_hi {a : Nat} (h : 81 ≤ a) : pv a = a := by
  unfold pv
  rw [if_neg (by omega), if_neg (by omega), if_neg (by omega)]
theorem ad_h2 {a : Nat} (h : 81 ≤ a) : ad true a = a := ad_new (fun _ => h)
theorem a_ca_x {G : aG} {a k : Nat} (h : a = 1000000000 + k) : a_ca G a = gE G k := by
  subst h
  unfold a_ca
  rw [if_neg (by omega), Nat.add_sub_cancel_left]
theorem ca_f {G : aG} (a : Nat) : a_ca (sg G true) (pv a) = a_ca (sg G false) a := by
  unfold a_ca
  by_cases h : a < 1000000000
  · rw [if_pos h, if_pos (pv_lt (by omega) h)]
    show G.2.1.1 + ad true (pv a) = G.2.1.1 + ad false a
    rw [ad_pv, ad_ff]
  · rw [pv_hi (by omega), if_neg h, if_neg h]
theorem ca_b {G : aG} (a : Nat) : a_ca (sg G false) (ad true a) = a_ca (sg G true) a := by
  unfold a_ca
  by_cases h : a < 1000000000
  · rw [if_pos h, if_pos (ad_hi (fun _ => by omega) h)]
    show G.2.1.1 + ad false (ad true a) = G.2.1.1 + ad true a
    rw [ad_ff]
  · rw [ad_h2 (by omega), if_neg h, if_neg h]
def rz (t : Nat → Nat) (z : aZ) : aZ := (z.1, z.2.1, fun b => z.2.2 (t b))
def rr (t u : Nat → Nat) (hr : aR) : aR := fun b j => (hr (t b) j).map u
def ri (t : Nat → Nat) (hi : aI) : aI := fun b j => hi (t b) j
variable {G : aG} {M : aM} {d pc : Nat} {z : aZ} {hr : aR} {hi hl : aI}
theorem a_rp_rn {f1 f2 : Bool} {u t : Nat → Nat} {H : Heap} (hu : ∀ a, a_ca (sg G f2) (u a) = a_ca (sg G f1) a) (ht : ∀ b, ad f1 (t b) = ad f2 b) (hz : f2 = true → 81 ≤ z.1) (hb : ∀ b, b < z.1 → t b < z.1) (h : a_rp (sg G f1) z hr hi hl H) : a_rp (sg G f2) (rz t z) (rr t u hr) (ri t hi) (ri t hl) H := by
  obtain ⟨h1, h2, h3, h4, h5, h6⟩ := h
  have em : ∀ r : Option Nat, (r.map u).map (a_ca (sg G f2)) = r.map (a_ca (sg G f1)) := fun r => by
    cases r with
    | none => rfl
    | some a => show some _ = some _; rw [hu]
  refine ⟨h1, ⟨h2.1, hz⟩, fun b hb1 => ?_, h4, fun a i => h5 _ _, fun a i => h6 _ _⟩
  have h9 := h3 (t b) (hb b hb1)
  have ea : gc (sg G f2) b = gc (sg G f1) (t b) := by
    show G.2.1.1 + ad f2 b = G.2.1.1 + ad f1 (t b)
    rw [ht]
  have ez : (rz t z).2.2 b = z.2.2 (t b) := rfl
  unfold a_cell at h9 ⊢
  rw [ez, ea]
  split
  · rename_i g
    rw [if_pos g] at h9
    refine h9.to (fun k _ => ?_)
    have e9 : a_fv (sg G f2) (z.2.2 (t b)).1 k (ri t hi b k) (rr t u hr b k) = a_fv (sg G f1) (z.2.2 (t b)).1 k (hi (t b) k) (hr (t b) k) := by
      unfold a_fv
      show (if _ then va_rf (((hr (t b) k).map u).map (a_ca (sg G f2))) else _) = _
      rw [em]
      rfl
    first | exact e9 | exact e9.symm
  · rename_i g
    rw [if_neg g] at h9
    split
    · rename_i g2
      rw [if_pos g2] at h9
      rw [h9]
      congr 2
      funext j
      have e9 : a_av (sg G f2) (z.2.2 (t b)).1 (ri t hi b j) (ri t hl b j) (rr t u hr b j) = a_av (sg G f1) (z.2.2 (t b)).1 (hi (t b) j) (hl (t b) j) (hr (t b) j) := by
        unfold a_av
        show (if _ then _ else if _ then va_rf (((hr (t b) j).map u).map (a_ca (sg G f2))) else _) = _
        rw [em]
        rfl
      first | exact e9 | exact e9.symm
    · trivial
def cvP : aV → aV
  | .inl i => .inl i
  | .inr (.inl j) => .inr (.inl j)
  | .inr (.inr o) => .inr (.inr (o.map pv))
theorem cvP_cv (v : aV) : a_cv (sg G true) (cvP v) = a_cv (sg G false) v := by
  match v with
  | .inl i => rfl
  | .inr (.inl j) => rfl
  | .inr (.inr none) => rfl
  | .inr (.inr (some a)) =>
    show va_rf (some _) = va_rf (some _)
    rw [ca_f]
theorem a_L_rn {L : List (Option aV)} {ls : Array Slot} {nL : Nat} (h : a_L (sg G false) L ls nL) : a_L (sg G true) (L.map (Option.map cvP)) ls nL := by
  refine ⟨h.1, h.2.1, fun i v hv => ?_⟩
  rw [List.getElem?_map] at hv
  match hL : L[i]?, hv with
  | some (some w), hv =>
    obtain rfl : cvP w = v := Option.some.inj (Option.some.inj hv)
    rw [cvP_cv]
    exact h.2.2 i w hL
  | some none, hv => cases hv
  | none, hv => cases hv
theorem okL_rn {L : List (Option aV)} (h : okL L) : okL (L.map (Option.map cvP)) := by
  intro v hv
  obtain ⟨o, h1, h2⟩ := List.mem_map.mp hv
  cases o with
  | none => cases h2
  | some w =>
    obtain rfl := Option.some.inj h2
    have h3 := h w h1
    match w, h3 with
    | .inl i, h3 => exact h3
    | .inr (.inl j), h3 => exact h3
    | .inr (.inr o), _ => trivial
/-- from here on the cells are counted by my numbers *) -/
theorem a_sw {L : List (Option aV)} {Q : Option aV → aZ → aR → aI → aI → Prop} (hz : 81 ≤ z.1) (hQ : ∀ r z' hr' hi' hl', Q r z' hr' hi' hl' → ∃ x : Int, r = some (vI x)) (k : a_wp (sg G true) M d pc (L.map (Option.map cvP)) [] (rz (ad true) z) (rr (ad true) pv hr) (ri (ad true) hi) (ri (ad true) hl) Q) :
    a_wp (sg G false) M d pc L [] z hr hi hl (fun r z' _ _ _ => ∃ z2 hr2 hi2 hl2, Q r z2 hr2 hi2 hl2 ∧ z'.1 = z2.1 ∧ z'.2.1 = z2.2.1) := by
  obtain ⟨r, z', hr', hi', hl', ⟨k1, k2, k3⟩, hq⟩ := k
  obtain ⟨x, rfl⟩ := hQ _ _ _ _ _ hq
  refine ⟨some (vI x), rz pv z', rr pv (ad true) hr', ri pv hi', ri pv hl', ⟨k1, k2, fun hst hL hS p e R s m args below meth c H locs cells slots ls mc ms B e1 e2 e3 e4 => ?_⟩, z', hr', hi', hl', hq, rfl, rfl⟩
  obtain ⟨b1, b2, b3, b4, b5, b6, b7, b8, b9, b10, b11⟩ := B
  have r1 : a_rp (sg G true) (rz (ad true) z) (rr (ad true) pv hr) (ri (ad true) hi) (ri (ad true) hl) H := a_rp_rn ca_f (fun b => ad_ff _) (fun _ => hz) (fun b hb => ad_hi (fun _ => hz) hb) b6
  have W2 := k3 hst (okL_rn hL) (fun v hv => absurd hv List.not_mem_nil) p e R s m args below meth c H locs cells slots ls mc ms ⟨b1, b2, b3, b4, b5, r1, b7, b8, b9, b10, a_L_rn b11⟩ e1 e2 e3 e4
  intro T hT X
  obtain ⟨t, a1, o, c1, c2, ⟨c3, c4, c5⟩, c6⟩ := W2 T hT X
  have r2 : a_rp (sg G false) (rz pv z') (rr pv (ad true) hr') (ri pv hi') (ri pv hl') t.heap := a_rp_rn ca_b (fun b => by rw [ad_pv, ad_ff]) (fun h => by cases h) (fun b hb => pv_lt (c4.2.1.2 rfl) hb) c4
  exact ⟨t, a1, o, c1, c2, ⟨c3, r2, c5⟩, c6⟩
theorem sg_f (h : gq G = false) : sg G false = G := by
  obtain ⟨a, ⟨b, c⟩, e⟩ := G
  obtain rfl : c = false := h
  rfl
end SW
