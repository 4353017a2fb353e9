/-! getfield, putfield, arrays, what is made new -/
theorem a_cellq {G : aG} {z : aZ} {hr hr2 : aR} {hi hi2 hl hl2 : aI} {H H2 : Heap} {b : Nat} (h : a_cell G z hr hi hl b H) (h1 : ∀ j, hr2 b j = hr b j) (h2 : ∀ j, hi2 b j = hi b j) (h3 : ∀ j, hl2 b j = hl b j) (hq : H2[gc G b]? = H[gc G b]?) : a_cell G z hr2 hi2 hl2 b H2 := by
  unfold a_cell at h ⊢
  split
  · rename_i g
    rw [if_pos g] at h
    exact (h.kept hq).to (fun k _ => by rw [h1, h2])
  · rename_i g
    rw [if_neg g] at h
    split
    · rename_i g2
      rw [if_pos g2] at h
      rw [hq, h]
      congr 2
      funext j
      rw [h1, h2, h3]
    · trivial
/-- one cell is written -/
theorem a_rp.set {G : aG} {z : aZ} {hr hr2 : aR} {hi hi2 hl hl2 : aI} {H H2 : Heap} {a : Nat} (h : a_rp G z hr hi hl H) (hz : H2.size = H.size) (hq : ∀ q : Nat, q ≠ gc G a → H2[q]? = H[q]?) (h1 : ∀ b j, b ≠ a → hr2 b j = hr b j) (h2 : ∀ b j, b ≠ a → hi2 b j = hi b j) (h3 : ∀ b j, b ≠ a → hl2 b j = hl b j) (hc : a_cell G z hr2 hi2 hl2 a H2) (g1 : ∀ a i, r32 (hi2 a i)) (g2 : ∀ a i, r64 (hl2 a i)) : a_rp G z hr2 hi2 hl2 H2 := by
  refine ⟨by rw [hz]; exact h.1, h.2.1, fun b hb => ?_, fun q hq1 => by rw [hq q (by have := gc_lo (G := G) (a := a); omega)]; exact h.2.2.2.1 q hq1, g1, g2⟩
  by_cases e : b = a
  · subst e; exact hc
  · exact a_cellq (h.2.2.1 b hb) (fun j => h1 b j e) (fun j => h2 b j e) (fun j => h3 b j e) (hq _ (gc_n e))
theorem up2_s {α : Type} {f : Nat → Int → α} {a : Nat} {i : Int} {v : α} : up2 f a i v a i = v := by simp [up2]
theorem up2_n {α : Type} {f : Nat → Int → α} {a b : Nat} {i j : Int} {v : α} (h : b ≠ a) : up2 f a i v b j = f b j := by simp [up2, h]
theorem up2_m {α : Type} {f : Nat → Int → α} {a b : Nat} {i j : Int} {v : α} (h : j ≠ i) : up2 f a i v b j = f b j := by simp [up2, h]
theorem up2_r {f : aI} {a : Nat} {i v : Int} {P : Int → Prop} (h : ∀ a i, P (f a i)) (hv : P v) : ∀ b j, P (up2 f a i v b j) := fun b j => by
  unfold up2; split
  · exact hv
  · exact h b j
theorem a_P1 {G : aG} {A t : Nat} {H : Heap} {V : Nat → Value} (ht : t < 11) (h : t_OB A (gC G t) (a_nf t) (gI G t) H V) : va_P (gC G, gI G) vwCl [(A, .inr (t, (List.range (a_nf t)).map V))] H := by
  intro k q hk
  have h1 : k = 0 := by
    have := (List.getElem?_eq_some_iff.mp hk).1
    simp at this; omega
  subst h1
  cases hk
  refine ⟨_, a_vw t ht, h.to (fun k hk => ?_)⟩
  simp [vp_V, hk]
section C
variable {G : aG} {M : aM} {d pc n : Nat} {L : List (Option aV)} {st : List aV} {z : aZ} {hr : aR} {hi hl : aI} {Q : Option aV → aZ → aR → aI → aI → Prop}
variable {p : Program} {e : Env} {R : Room} {s : State} {m : MethodId} {args : Array Value} {below : List Frame} {meth : Method} {c : Code} {H : Heap} {locs : List Loc} {cells slots : Nat} {ls : Array Slot} {Q0 : State → Prop} {dc ds : Nat} {rest : List Value}
theorem a_getW {idx t k a : Nat} {ki len : Int} {isR : Bool} (B : a_B G M d dc ds L z hr hi hl p R s m args meth c H locs cells slots ls) (F : a_Fl M.1.cls idx t k ki isR) (hs : a_is z a t len) (hd : decode M.2.1 pc = .ok (.getfield idx, 3))
    (kk : W p (gl G) e R s m args below meth c H locs cells slots Q0 (F0 m (pc + 3) ls (a_fv G t k (hi a ki) (hr a ki) :: rest))) : W p (gl G) e R s m args below meth c H locs cells slots Q0 (F0 m pc ls (.ref (gc G a) :: rest)) := by
  have ho := a_obj B.2.2.2.2.2.1 hs F.1
  refine va_get (D := (gC G, gI G)) (cl := vwCl) (tys := a_tys G) (ci := t) (C := a_Rn t) (T := a_T t) (N := a_nf t) B.1.1 B.1.2.1 B.1.ts (a_in t F.1) B.1.2.2.2.1 B.2.2.2.2.2.2.1.1 (a_P1 F.1 ho) 0 rfl (a_vw t F.1) k F.2.1 (B.1.2.2.2.2.1 _ F.2.2.2.1 rfl) (fun _ h => h) ?_ hd kk
  simp [F.2.1, F.2.2.1]
theorem a_lt9 (B : a_B G M d dc ds L z hr hi hl p R s m args meth c H locs cells slots ls) {a t : Nat} {len : Int} (hs : a_is z a t len) : a < 1000000000 := Nat.lt_trans hs.1 B.2.2.2.2.2.1.2.1.1
theorem a_getI {idx t k a : Nat} {ki len : Int} (hd : decode M.2.1 pc = .ok (.getfield idx, 3)) (hn : pc + 3 = n) (F : a_Fl M.1.cls idx t k ki false) (hs : a_is z a t len) (kw : a_wp G M d n L (vI (hi a ki) :: st) z hr hi hl Q) : a_wp G M d pc L (vR a :: st) z hr hi hl Q := by
  subst hn
  refine a_go kw (fun hL hs h1 h2 => okS_c (show r32 _ from h1 _ _) (okS_t hs)) (fun hL hS p e R s m args below meth c H locs cells slots ls Q0 B kk => ?_)
  have := a_getW (rest := st.map (a_cv G)) (Q0 := Q0) (e := e) (below := below) B F hs hd (by unfold a_fv; rw [if_neg (by rw [F.2.2.2.2]; decide)]; exact kk)
  rwa [← a_cvR (a_lt9 B hs)] at this
theorem a_getO {idx t k a : Nat} {ki len : Int} (hd : decode M.2.1 pc = .ok (.getfield idx, 3)) (hn : pc + 3 = n) (F : a_Fl M.1.cls idx t k ki true) (hs : a_is z a t len) (kw : a_wp G M d n L (vO (hr a ki) :: st) z hr hi hl Q) : a_wp G M d pc L (vR a :: st) z hr hi hl Q := by
  subst hn
  refine a_go kw (fun hL hs h1 h2 => okS_c trivial (okS_t hs)) (fun hL hS p e R s m args below meth c H locs cells slots ls Q0 B kk => ?_)
  have := a_getW (rest := st.map (a_cv G)) (Q0 := Q0) (e := e) (below := below) B F hs hd (by unfold a_fv; rw [if_pos F.2.2.2.2]; exact kk)
  rwa [← a_cvR (a_lt9 B hs)] at this
theorem a_getR {idx t k a b : Nat} {ki len : Int} (hd : decode M.2.1 pc = .ok (.getfield idx, 3)) (hn : pc + 3 = n) (F : a_Fl M.1.cls idx t k ki true) (hs : a_is z a t len) (hb : hr a ki = some b) (kw : a_wp G M d n L (vR b :: st) z hr hi hl Q) : a_wp G M d pc L (vR a :: st) z hr hi hl Q :=
  a_getO hd hn F hs (by rw [hb]; exact kw)
/-- a field may be written: it isn't final, or this is its class's constructor -/
def a_wf (M : aM) (t k : Nat) : Prop := (a_T t k).2.2.2 = false ∨ ((a_T t k).2.2.2 = true ∧ M.1.name = "<init>" ∧ (a_T t k).1 = M.1.cls)
theorem a_putW {idx t k a : Nat} {ki len : Int} {isR : Bool} {w : Value} (B : a_B G M d dc ds L z hr hi hl p R s m args meth c H locs cells slots ls) (F : a_Fl M.1.cls idx t k ki isR) (hs : a_is z a t len) (hf : a_wf M t k) (hn : narrow (a_ty t k) w = w) (hfit : fits (a_ty t k) w = true) (hd : decode M.2.1 pc = .ok (.putfield idx, 3))
    (kk : ∀ (H2 : Heap) (locs2 : List Loc), H2.size = H.size → (∀ q : Nat, q ≠ gc G a → H2[q]? = H[q]?) → t_OB (gc G a) (gC G t) (a_nf t) (gI G t) H2 (updV (fun k => a_fv G t k (hi a k) (hr a k)) k w) → va_S (fun q => gb G ≤ q) s.heap H2 locs2 → W p (gl G) e R s m args below meth c H2 locs2 cells slots Q0 (F0 m (pc + 3) ls rest)) : W p (gl G) e R s m args below meth c H locs cells slots Q0 (F0 m pc ls (w :: .ref (gc G a) :: rest)) := by
  have hK := B.2.2.2.2.2.2.1.1
  have hts := B.1.ts
  have hown := B.1.2.2.2.1
  have hlink := B.1.2.2.2.2.1 _ F.2.2.2.1 rfl
  have hin := a_in t F.1
  have hc := a_vw t F.1
  have hk := F.2.1
  have hap := va_apart (D := (gC G, gI G)) (own := M.1.cls) hts hin (a_ty t) (a_tyok t F.1) (a_nm t F.1) hK hc
  obtain ⟨cell, q1, q2, q3, q4⟩ := a_obj B.2.2.2.2.2.1 hs F.1
  obtain ⟨hS, hfc, kC, hkC, hkind⟩ := hK.1 t _ hc
  obtain ⟨cf, kf, fi, f, hi9, hsl⟩ := hS k hk
  have hlay := hts _ (hin _ (u_in_lay hk))
  have hst := (u_facts hfc hkC (u_lays hts hin hk) hi9).1
  have hS8 := B.2.2.2.2.2.2.2.1
  rcases hf with hf | ⟨hf, hi2, hdecl⟩
  · unfold u_lay at hlay
    rw [if_neg (by rw [hf]; decide)] at hlay
    have h6 := u_store hfc hkC hkind hlay hi9 (a_tyok t F.1 k hk) hn hfit
    refine W.putK B.1.1 B.1.2.1 (f := f) ⟨hown, hlink, ⟨_, _, _, hi9⟩, hst⟩ (by rw [q2]; exact h6) q1 q3 (by rw [hsl]; exact k2_hasslot (q4 k hk)) rfl rfl hd fun H' e1 e2 e3 => ?_
    rw [hsl] at e1 ⊢
    exact kk H' _ e2 e3 ⟨_, e1, q2, q3, t_set q4 hap hk w⟩ (hS8.put e2 e3 (Nat.le_add_right _ _))
  · unfold u_lay at hlay
    rw [if_pos hf] at hlay
    have hcf : m.cls = cf := by
      obtain ⟨_, _, c', _, _, _, -, -, hf', -, -, -, hown2, -⟩ := Cond.laysFinal_spec hlay
      have e1 : c' = cf := by have := hi9.symm.trans hf'; simp at this; exact this.1.symm
      rw [hdecl] at hown2
      rw [← e1]; exact Option.some.inj (hown.symm.trans hown2)
    have h6 := u_fits hfc hkC hkind (Or.inr hlay) hi9 (a_tyok t F.1 k hk) hn hfit
    refine W.putFinK B.1.1 B.1.2.1 hown hlink hi9 hst hcf (B.1.2.2.2.2.2.2.2.trans hi2) (by rw [q2]; exact h6) q1 q3 (by rw [hsl]; exact k2_hasslot (q4 k hk)) rfl rfl hd fun H' e1 e2 e3 => ?_
    rw [hsl] at e1 ⊢
    exact kk H' _ e2 e3 ⟨_, e1, q2, q3, t_set q4 hap hk w⟩ (hS8.put e2 e3 (Nat.le_add_right _ _))
/-- a number (int, boolean) is put into a field -/
theorem a_putN {idx t k a : Nat} {ki len x : Int} (hd : decode M.2.1 pc = .ok (.putfield idx, 3)) (hn : pc + 3 = n) (F : a_Fl M.1.cls idx t k ki false) (hs : a_is z a t len) (hf : a_wf M t k) (h1 : narrow (a_ty t k) (.int (Int32.ofInt x)) = .int (Int32.ofInt x)) (h2 : fits (a_ty t k) (.int (Int32.ofInt x)) = true) (kw : a_wp G M d n L st z hr (up2 hi a ki x) hl Q) : a_wp G M d pc L (vI x :: vR a :: st) z hr hi hl Q := by
  subst hn
  refine a_step kw 0 0 rfl rfl (fun hL hs => ⟨hL, okS_t (okS_t hs)⟩) (fun _ hL hS p e R s m args below meth c H locs cells slots ls Q0 B kk => ?_)
  have hx := okI' (okS_h hS)
  have hrp := B.2.2.2.2.2.1
  have := a_putW (w := .int (Int32.ofInt x)) (rest := st.map (a_cv G)) (Q0 := Q0) (e := e) (below := below) B F hs hf h1 h2 hd (fun H2 locs2 g1 g2 g3 g4 => kk H2 locs2 ls (hrp.set (a := a) g1 g2 (fun _ _ _ => rfl) (fun b j hb => up2_n hb) (fun _ _ _ => rfl) (by
    unfold a_cell
    rw [hs.2]
    rw [if_pos F.1]
    refine g3.to (fun j hj => ?_)
    unfold updV
    by_cases e9 : j = k
    · subst e9
      rw [if_pos rfl, F.2.2.1, up2_s]
      unfold a_fv
      rw [if_neg (by rw [F.2.2.2.2]; decide)]
    · rw [if_neg e9, up2_m (by have := F.2.2.1; omega)]) (up2_r hrp.2.2.2.2.1 hx) hrp.2.2.2.2.2) g4 B.2.2.2.2.2.2.2.2.2.2)
  rwa [← a_cvR (a_lt9 B hs)] at this
theorem a_putI {idx t k a : Nat} {ki len x : Int} (hd : decode M.2.1 pc = .ok (.putfield idx, 3)) (hn : pc + 3 = n) (F : a_Fl M.1.cls idx t k ki false) (hty : a_ty t k = .int) (hs : a_is z a t len) (hf : a_wf M t k) (kw : a_wp G M d n L st z hr (up2 hi a ki x) hl Q) : a_wp G M d pc L (vI x :: vR a :: st) z hr hi hl Q :=
  a_putN hd hn F hs hf (by rw [hty]; rfl) (by rw [hty]; rfl) kw
theorem a_putZ {idx t k a : Nat} {ki len x : Int} (hd : decode M.2.1 pc = .ok (.putfield idx, 3)) (hn : pc + 3 = n) (F : a_Fl M.1.cls idx t k ki false) (hty : a_ty t k = .boolean) (hs : a_is z a t len) (hf : a_wf M t k) (hx : x = 0 ∨ x = 1) (kw : a_wp G M d n L st z hr (up2 hi a ki x) hl Q) : a_wp G M d pc L (vI x :: vR a :: st) z hr hi hl Q :=
  a_putN hd hn F hs hf (by rw [hty]; rcases hx with rfl | rfl <;> rfl) (by rw [hty]; rcases hx with rfl | rfl <;> rfl) kw
theorem a_putO {idx t k a : Nat} {ki len : Int} {o : Option Nat} (hd : decode M.2.1 pc = .ok (.putfield idx, 3)) (hn : pc + 3 = n) (F : a_Fl M.1.cls idx t k ki true) (hs : a_is z a t len) (hf : a_wf M t k) (kw : a_wp G M d n L st z (up2 hr a ki o) hi hl Q) : a_wp G M d pc L (vO o :: vR a :: st) z hr hi hl Q := by
  subst hn
  refine a_step kw 0 0 rfl rfl (fun hL hs => ⟨hL, okS_t (okS_t hs)⟩) (fun _ hL hS p e R s m args below meth c H locs cells slots ls Q0 B kk => ?_)
  have hrp := B.2.2.2.2.2.1
  have h12 : narrow (a_ty t k) (va_rf (o.map (a_ca G))) = va_rf (o.map (a_ca G)) ∧ fits (a_ty t k) (va_rf (o.map (a_ca G))) = true := by
    have hR := F.2.2.2.2
    cases hty : a_ty t k with
    | object C => cases o <;> exact ⟨rfl, rfl⟩
    | array C => cases o <;> exact ⟨rfl, rfl⟩
    | _ => rw [hty] at hR; cases hR
  have := a_putW (w := va_rf (o.map (a_ca G))) (rest := st.map (a_cv G)) (Q0 := Q0) (e := e) (below := below) B F hs hf h12.1 h12.2 hd (fun H2 locs2 g1 g2 g3 g4 => kk H2 locs2 ls (hrp.set (a := a) g1 g2 (fun b j hb => up2_n hb) (fun _ _ _ => rfl) (fun _ _ _ => rfl) (by
    unfold a_cell
    rw [hs.2]
    rw [if_pos F.1]
    refine g3.to (fun j hj => ?_)
    unfold updV
    by_cases e9 : j = k
    · subst e9
      rw [if_pos rfl, F.2.2.1, up2_s]
      unfold a_fv
      rw [if_pos F.2.2.2.2]
    · rw [if_neg e9, up2_m (by have := F.2.2.1; omega)]) hrp.2.2.2.2.1 hrp.2.2.2.2.2) g4 B.2.2.2.2.2.2.2.2.2.2)
  rwa [← a_cvR (a_lt9 B hs)] at this
theorem a_inI {i len : Int} (hi0 : r32 i) (h0 : 0 ≤ i) (h1 : i < len) (cA : ClassId) (f : Nat → Value) : ¬ (Int32.ofInt i < 0 ∨ (arrV cA len.toNat f).slots.size ≤ (Int32.ofInt i).toNatClampNeg) := by
  rw [arrV_size, a_cl hi0, a_lt0 hi0]
  omega
theorem a_rd {G : aG} {i len : Int} {t a : Nat} {hr : aR} {hi hl : aI} (hi0 : r32 i) (h0 : 0 ≤ i) (h1 : i < len) (cA : ClassId) : (arrV cA len.toNat (fun j => a_av G t (hi a j) (hl a j) (hr a j))).slots[(Int32.ofInt i).toNatClampNeg]? = some (a_av G t (hi a i) (hl a i) (hr a i)) := by
  rw [a_cl hi0, arrV_read _ _ (by omega), Int.toNat_of_nonneg h0]
theorem a_av_i {G : aG} {x l : Int} {r : Option Nat} {t : Nat} (h : t = 20 ∨ t = 22) : a_av G t x l r = .int (Int32.ofInt x) := by rcases h with rfl | rfl <;> rfl
theorem a_iald {a : Nat} {i len : Int} (hd : decode M.2.1 pc = .ok (.iaload, 1)) (hn : pc + 1 = n) (hs : a_is z a 20 len) (h0 : 0 ≤ i) (h1 : i < len) (k : a_wp G M d n L (vI (hi a i) :: st) z hr hi hl Q) : a_wp G M d pc L (vI i :: vR a :: st) z hr hi hl Q := by
  subst hn
  refine a_go k (fun hL hs h1 h2 => okS_c (show r32 _ from h1 _ _) (okS_t (okS_t hs))) (fun hL hS p e R s m args below meth c H locs cells slots ls Q0 B kk => ?_)
  have hi0 := okI' (okS_h hS)
  have ha := a_arr B.2.2.2.2.2.1 hs (by decide) (by decide)
  have := W.iald (Q := Q0) (g := F0 m pc ls (.int (Int32.ofInt i) :: .ref (gc G a) :: st.map (a_cv G))) B.1.1 B.1.2.1 ha ((B.2.2.2.2.2.2.1.1.2 0 _ rfl).1 _ _) (fun q => by cases q) (a_inI hi0 h0 h1 _ _) (a_rd hi0 h0 h1 _) rfl rfl hd (e := e) (below := below) (by rw [a_av_i (Or.inl rfl)]; exact kk)
  rwa [← a_cvR (a_lt9 B hs)] at this
theorem a_zald {a : Nat} {i len : Int} (hd : decode M.2.1 pc = .ok (.baload, 1)) (hn : pc + 1 = n) (hs : a_is z a 22 len) (h0 : 0 ≤ i) (h1 : i < len) (k : a_wp G M d n L (vI (hi a i) :: st) z hr hi hl Q) : a_wp G M d pc L (vI i :: vR a :: st) z hr hi hl Q := by
  subst hn
  refine a_go k (fun hL hs h1 h2 => okS_c (show r32 _ from h1 _ _) (okS_t (okS_t hs))) (fun hL hS p e R s m args below meth c H locs cells slots ls Q0 B kk => ?_)
  have hi0 := okI' (okS_h hS)
  have ha := a_arr B.2.2.2.2.2.1 hs (by decide) (by decide)
  have := W.zald (Q := Q0) (g := F0 m pc ls (.int (Int32.ofInt i) :: .ref (gc G a) :: st.map (a_cv G))) B.1.1 B.1.2.1 ha ((B.2.2.2.2.2.2.1.1.2 2 _ rfl).1 _ _) (fun q => by cases q) (a_inI hi0 h0 h1 _ _) (a_rd hi0 h0 h1 _) rfl rfl hd (e := e) (below := below) (by rw [a_av_i (Or.inr rfl)]; exact kk)
  rwa [← a_cvR (a_lt9 B hs)] at this
theorem a_lald {a : Nat} {i len : Int} (hd : decode M.2.1 pc = .ok (.laload, 1)) (hn : pc + 1 = n) (hs : a_is z a 21 len) (h0 : 0 ≤ i) (h1 : i < len) (k : a_wp G M d n L (vJ (hl a i) :: st) z hr hi hl Q) : a_wp G M d pc L (vI i :: vR a :: st) z hr hi hl Q := by
  subst hn
  refine a_go k (fun hL hs h1 h2 => okS_c (show r64 _ from h2 _ _) (okS_t (okS_t hs))) (fun hL hS p e R s m args below meth c H locs cells slots ls Q0 B kk => ?_)
  have hi0 := okI' (okS_h hS)
  have ha := a_arr B.2.2.2.2.2.1 hs (by decide) (by decide)
  have := W.lald (Q := Q0) (g := F0 m pc ls (.int (Int32.ofInt i) :: .ref (gc G a) :: st.map (a_cv G))) B.1.1 B.1.2.1 ha ((B.2.2.2.2.2.2.1.1.2 1 _ rfl).1 _ _) (fun q => by cases q) (a_inI hi0 h0 h1 _ _) (a_rd hi0 h0 h1 _) rfl rfl hd (e := e) (below := below) kk
  rwa [← a_cvR (a_lt9 B hs)] at this
theorem a_aald {a t : Nat} {i len : Int} (hd : decode M.2.1 pc = .ok (.aaload, 1)) (hn : pc + 1 = n) (hs : a_is z a t len) (ht : t = 23 ∨ t = 24) (h0 : 0 ≤ i) (h1 : i < len) (k : a_wp G M d n L (vO (hr a i) :: st) z hr hi hl Q) : a_wp G M d pc L (vI i :: vR a :: st) z hr hi hl Q := by
  subst hn
  refine a_go k (fun hL hs h1 h2 => okS_c trivial (okS_t (okS_t hs))) (fun hL hS p e R s m args below meth c H locs cells slots ls Q0 B kk => ?_)
  have hi0 := okI' (okS_h hS)
  have ha := a_arr B.2.2.2.2.2.1 hs (by rcases ht with rfl | rfl <;> decide) (by rcases ht with rfl | rfl <;> decide)
  rcases ht with rfl | rfl
  · have := W.aald (Q := Q0) (g := F0 m pc ls (.int (Int32.ofInt i) :: .ref (gc G a) :: st.map (a_cv G))) B.1.1 B.1.2.1 ha ((B.2.2.2.2.2.2.1.1.2 3 _ rfl).1 _ _) rfl (fun q => by cases q) (a_inI hi0 h0 h1 _ _) (a_rd hi0 h0 h1 _) rfl rfl hd (e := e) (below := below) kk
    rwa [← a_cvR (a_lt9 B hs)] at this
  · have := W.aald (Q := Q0) (g := F0 m pc ls (.int (Int32.ofInt i) :: .ref (gc G a) :: st.map (a_cv G))) B.1.1 B.1.2.1 ha ((B.2.2.2.2.2.2.1.1.2 4 _ rfl).1 _ _) rfl (fun q => by cases q) (a_inI hi0 h0 h1 _ _) (a_rd hi0 h0 h1 _) rfl rfl hd (e := e) (below := below) kk
    rwa [← a_cvR (a_lt9 B hs)] at this
theorem a_alen {a t : Nat} {len : Int} (hd : decode M.2.1 pc = .ok (.arraylength, 1)) (hn : pc + 1 = n) (hs : a_is z a t len) (ht : t = 20) (h0 : 0 ≤ len) (h1 : len < 2147483648) (k : a_wp G M d n L (vI len :: st) z hr hi hl Q) : a_wp G M d pc L (vR a :: st) z hr hi hl Q := by
  subst hn; subst ht
  refine a_go k (fun hL hs _ _ => okS_c (show r32 len from ⟨by omega, h1⟩) (okS_t hs)) (fun hL hS p e R s m args below meth c H locs cells slots ls Q0 B kk => ?_)
  have ha := a_arr B.2.2.2.2.2.1 hs (by decide) (by decide)
  have := W.alen (Q := Q0) (n := Int32.ofInt len) (g := F0 m pc ls (.ref (gc G a) :: st.map (a_cv G))) B.1.1 B.1.2.1 ha ((B.2.2.2.2.2.2.1.1.2 0 _ rfl).1 _ _) (by
    rw [arrV_size]
    show Int32.ofNat len.toNat = _
    rw [← Int32.ofInt_eq_ofNat, Int.toNat_of_nonneg h0]) rfl rfl hd (e := e) (below := below) kk
  rwa [← a_cvR (a_lt9 B hs)] at this
/-- the cell of an array behind a store -/
theorem a_arset {G : aG} {z : aZ} {hr hr2 : aR} {hi hi2 hl hl2 : aI} {H2 : Heap} {a t : Nat} {i len : Int} {w : Value} (hs : a_is z a t len) (ht : 11 ≤ t) (ht2 : t < 30) (h0 : 0 ≤ i) (hi0 : r32 i) (he : H2[gc G a]? = some ((arrV (gA G t) len.toNat (fun j => a_av G t (hi a j) (hl a j) (hr a j))).setSlot (Int32.ofInt i).toNatClampNeg w)) (hw : a_av G t (hi2 a i) (hl2 a i) (hr2 a i) = w) (ho : ∀ j : Int, j ≠ i → hi2 a j = hi a j ∧ hl2 a j = hl a j ∧ hr2 a j = hr a j) : a_cell G z hr2 hi2 hl2 a H2 := by
  unfold a_cell
  rw [hs.2, if_neg (Nat.not_lt.mpr ht), if_pos ht2, he, arrV_store, a_cl hi0]
  congr 2
  funext j
  unfold updV
  by_cases e : j = i.toNat
  · subst e
    rw [if_pos rfl, Int.toNat_of_nonneg h0]
    exact hw.symm
  · rw [if_neg e]
    obtain ⟨q1, q2, q3⟩ := ho j (by omega)
    show _ = a_av G t _ _ _
    rw [q1, q2, q3]
theorem a_iast {a : Nat} {i len x : Int} (hd : decode M.2.1 pc = .ok (.iastore, 1)) (hn : pc + 1 = n) (hs : a_is z a 20 len) (h0 : 0 ≤ i) (h1 : i < len) (k : a_wp G M d n L st z hr (up2 hi a i x) hl Q) : a_wp G M d pc L (vI x :: vI i :: vR a :: st) z hr hi hl Q := by
  subst hn
  refine a_step k 0 0 rfl rfl (fun hL hs => ⟨hL, okS_t (okS_t (okS_t hs))⟩) (fun _ hL hS p e R s m args below meth c H locs cells slots ls Q0 B kk => ?_)
  have hx := okI' (okS_h hS)
  have hi0 := okI' (okS_h (okS_t hS))
  have hrp := B.2.2.2.2.2.1
  have ha := a_arr hrp hs (by decide) (by decide)
  have := W.iast (Q := Q0) (g := F0 m pc ls (.int (Int32.ofInt x) :: .int (Int32.ofInt i) :: .ref (gc G a) :: st.map (a_cv G))) B.1.1 B.1.2.1 ha ((B.2.2.2.2.2.2.1.1.2 0 _ rfl).1 _ _) (fun q => by cases q) (a_inI hi0 h0 h1 _ _) rfl rfl hd (e := e) (below := below)
    (fun H2 g3 g1 g2 => kk H2 _ ls (hrp.set (a := a) g1 g2 (fun _ _ _ => rfl) (fun b j hb => up2_n hb) (fun _ _ _ => rfl) (a_arset hs (by decide) (by decide) h0 hi0 g3 (by rw [a_av_i (Or.inl rfl), up2_s]) (fun j hj => ⟨up2_m hj, rfl, rfl⟩)) (up2_r hrp.2.2.2.2.1 hx) hrp.2.2.2.2.2) (B.2.2.2.2.2.2.2.1.put g1 g2 (Nat.le_add_right _ _)) B.2.2.2.2.2.2.2.2.2.2)
  rwa [← a_cvR (a_lt9 B hs)] at this
theorem a_zast {a : Nat} {i len x : Int} (hd : decode M.2.1 pc = .ok (.bastore, 1)) (hn : pc + 1 = n) (hs : a_is z a 22 len) (h0 : 0 ≤ i) (h1 : i < len) (hx1 : x = 0 ∨ x = 1) (k : a_wp G M d n L st z hr (up2 hi a i x) hl Q) : a_wp G M d pc L (vI x :: vI i :: vR a :: st) z hr hi hl Q := by
  subst hn
  refine a_step k 0 0 rfl rfl (fun hL hs => ⟨hL, okS_t (okS_t (okS_t hs))⟩) (fun _ hL hS p e R s m args below meth c H locs cells slots ls Q0 B kk => ?_)
  have hx := okI' (okS_h hS)
  have hi0 := okI' (okS_h (okS_t hS))
  have hrp := B.2.2.2.2.2.1
  have ha := a_arr hrp hs (by decide) (by decide)
  have := W.zast (Q := Q0) (g := F0 m pc ls (.int (Int32.ofInt x) :: .int (Int32.ofInt i) :: .ref (gc G a) :: st.map (a_cv G))) B.1.1 B.1.2.1 ha ((B.2.2.2.2.2.2.1.1.2 2 _ rfl).1 _ _) (fun q => by cases q) (a_inI hi0 h0 h1 _ _) rfl rfl hd (e := e) (below := below)
    (fun H2 g3 g1 g2 => kk H2 _ ls (hrp.set (a := a) g1 g2 (fun _ _ _ => rfl) (fun b j hb => up2_n hb) (fun _ _ _ => rfl) (a_arset hs (by decide) (by decide) h0 hi0 g3 (by rw [a_av_i (Or.inr rfl), up2_s]; rcases hx1 with rfl | rfl <;> rfl) (fun j hj => ⟨up2_m hj, rfl, rfl⟩)) (up2_r hrp.2.2.2.2.1 hx) hrp.2.2.2.2.2) (B.2.2.2.2.2.2.2.1.put g1 g2 (Nat.le_add_right _ _)) B.2.2.2.2.2.2.2.2.2.2)
  rwa [← a_cvR (a_lt9 B hs)] at this
theorem a_last {a : Nat} {i len x : Int} (hd : decode M.2.1 pc = .ok (.lastore, 1)) (hn : pc + 1 = n) (hs : a_is z a 21 len) (h0 : 0 ≤ i) (h1 : i < len) (k : a_wp G M d n L st z hr hi (up2 hl a i x) Q) : a_wp G M d pc L (vJ x :: vI i :: vR a :: st) z hr hi hl Q := by
  subst hn
  refine a_step k 0 0 rfl rfl (fun hL hs => ⟨hL, okS_t (okS_t (okS_t hs))⟩) (fun _ hL hS p e R s m args below meth c H locs cells slots ls Q0 B kk => ?_)
  have hx : r64 x := okS_h hS
  have hi0 := okI' (okS_h (okS_t hS))
  have hrp := B.2.2.2.2.2.1
  have ha := a_arr hrp hs (by decide) (by decide)
  have := W.last (Q := Q0) (g := F0 m pc ls (.long (Int64.ofInt x) :: .int (Int32.ofInt i) :: .ref (gc G a) :: st.map (a_cv G))) B.1.1 B.1.2.1 ha ((B.2.2.2.2.2.2.1.1.2 1 _ rfl).1 _ _) (fun q => by cases q) (a_inI hi0 h0 h1 _ _) rfl rfl hd (e := e) (below := below)
    (fun H2 g3 g1 g2 => kk H2 _ ls (hrp.set (a := a) g1 g2 (fun _ _ _ => rfl) (fun _ _ _ => rfl) (fun b j hb => up2_n hb) (a_arset hs (by decide) (by decide) h0 hi0 g3 (by rw [up2_s]; rfl) (fun j hj => ⟨rfl, up2_m hj, rfl⟩)) hrp.2.2.2.2.1 (up2_r hrp.2.2.2.2.2 hx)) (B.2.2.2.2.2.2.2.1.put g1 g2 (Nat.le_add_right _ _)) B.2.2.2.2.2.2.2.2.2.2)
  rwa [← a_cvR (a_lt9 B hs)] at this
theorem a_aast {a t b tb : Nat} {i len lb : Int} (hd : decode M.2.1 pc = .ok (.aastore, 1)) (hn : pc + 1 = n) (hs : a_is z a t len) (hb : a_is z b tb lb) (ht : (t = 23 ∧ tb = 3) ∨ (t = 24 ∧ tb = 0)) (h0 : 0 ≤ i) (h1 : i < len) (k : a_wp G M d n L st z (up2 hr a i (some b)) hi hl Q) : a_wp G M d pc L (vR b :: vI i :: vR a :: st) z hr hi hl Q := by
  subst hn
  refine a_step k 0 0 rfl rfl (fun hL hs => ⟨hL, okS_t (okS_t (okS_t hs))⟩) (fun _ hL hS p e R s m args below meth c H locs cells slots ls Q0 B kk => ?_)
  have hi0 := okI' (okS_h (okS_t hS))
  have hrp := B.2.2.2.2.2.1
  have hK := B.2.2.2.2.2.2.1.1
  have ha := a_arr hrp hs (by omega) (by omega)
  have htb : tb < 11 := by omega
  obtain ⟨cellV, g1, g2, g3, -⟩ := a_obj hrp hb htb
  have hcls := (hK.1 tb _ (a_vw tb htb)).2
  have hkk : ∃ (kA : Class) (comp : ClassId), s.vm.classes[gA G t]? = some kA ∧ kA.kind = .array comp (.object (a_Rn tb)) ∧ s.vm.findClass (a_Rn tb) = some comp := by
    rcases ht with ⟨rfl, rfl⟩ | ⟨rfl, rfl⟩
    · obtain ⟨kA, comp, k1, k2, k3, -⟩ := (hK.2 3 _ rfl).2
      exact ⟨kA, comp, k1, k2, k3⟩
    · obtain ⟨kA, comp, k1, k2, k3, -⟩ := (hK.2 4 _ rfl).2
      exact ⟨kA, comp, k1, k2, k3⟩
  obtain ⟨kA, comp, k1, k2, k3⟩ := hkk
  have hcomp : comp = gC G tb := Option.some.inj (k3.symm.trans hcls.1)
  subst hcomp
  obtain ⟨kC, hkC, -⟩ := hcls.2
  have := W.aast (Q := Q0) (g := F0 m pc ls (.ref (gc G b) :: .int (Int32.ofInt i) :: .ref (gc G a) :: st.map (a_cv G))) B.1.1 B.1.2.1 ha (fun q h => by cases h) (fun h => by cases h) k1 k2 rfl hkC ⟨fun q => a_inI hi0 h0 h1 0 (fun _ => .null) (Or.inl q), by rw [arrV_size, a_cl hi0]; omega⟩ g1 (fun q h => by rw [g3] at h; cases h) (by rw [g2]; exact hkC) (by rw [g2]; exact va_assign hcls) rfl rfl hd (e := e) (below := below)
    (fun H2 g5 g6 g7 => kk H2 _ ls (hrp.set (a := a) g6 g7 (fun b j hb => up2_n hb) (fun _ _ _ => rfl) (fun _ _ _ => rfl) (a_arset hs (by omega) (by omega) h0 hi0 g5 (by
      rw [up2_s, ← a_cvR (a_lt9 B hb)]
      rcases ht with ⟨rfl, -⟩ | ⟨rfl, -⟩ <;> rfl) (fun j hj => ⟨rfl, rfl, up2_m hj⟩)) hrp.2.2.2.2.1 hrp.2.2.2.2.2) (B.2.2.2.2.2.2.2.1.put g6 g7 (Nat.le_add_right _ _)) B.2.2.2.2.2.2.2.2.2.2)
  rwa [← a_cvR (a_lt9 B hs), ← a_cvR (a_lt9 B hb)] at this
end C
