/-! locals that are written; cells that are read and written -/
def a_clr (L : List (Option aV)) (i : Nat) : List (Option aV) := match i with
  | 0 => L
  | j + 1 => match L[j]? with
    | some (some (.inr (.inl _))) => L.set j none
    | _ => L
def a_st (L : List (Option aV)) (i : Nat) (v : aV) : List (Option aV) := (a_clr L i).set i (some v)
def a_st2 (L : List (Option aV)) (i : Nat) (v : aV) : List (Option aV) := ((a_clr L i).set i (some v)).set (i + 1) none
def a_as (G : aG) (L : List (Option aV)) : List (Nat × Value) := L.zipIdx.filterMap (fun q => q.1.map (fun v => (q.2, a_cv G v)))
theorem a_as_mem {G : aG} {L : List (Option aV)} {i : Nat} {v : aV} (h : L[i]? = some (some v)) : (i, a_cv G v) ∈ a_as G L := by
  unfold a_as
  rw [List.mem_filterMap]
  refine ⟨(some v, i), ?_, rfl⟩
  exact List.mk_mem_zipIdx_iff_getElem?.mpr h
theorem a_L.has {G : aG} {L : List (Option aV)} {ls : Array Slot} {nL : Nat} (h : a_L G L ls nL) : lv_has ls nL (a_as G L) := by
  refine ⟨h.1, h.2.1, fun q hq => ?_⟩
  unfold a_as at hq
  obtain ⟨x, hx, he⟩ := List.mem_filterMap.mp hq
  obtain ⟨o, i⟩ := x
  cases o with
  | none => cases he
  | some v =>
    cases he
    exact h.2.2 i v (List.mk_mem_zipIdx_iff_getElem?.mp hx)
theorem a_cat2 {G : aG} {v : aV} (h : (a_cv G v).category = 2) : ∃ j, v = vJ j := by
  match v with
  | .inl i => cases h
  | .inr (.inl j) => exact ⟨j, rfl⟩
  | .inr (.inr none) => cases h
  | .inr (.inr (some a)) => cases h
theorem a_clr_len (L : List (Option aV)) (i : Nat) : (a_clr L i).length = L.length := by
  unfold a_clr
  split
  · rfl
  · split
    · simp
    · rfl
theorem a_clr_at {G : aG} {L : List (Option aV)} {i k : Nat} {w : aV} (h : (a_clr L i)[k]? = some (some w)) : L[k]? = some (some w) ∧ ¬ (k + 1 = i ∧ (a_cv G w).category = 2) := by
  unfold a_clr at h
  split at h
  · exact ⟨h, fun q => by omega⟩
  · rename_i j
    split at h
    · rename_i x hx
      by_cases hk : j = k
      · subst hk
        rw [List.getElem?_set_self (by exact (List.getElem?_eq_some_iff.mp hx).1)] at h
        cases h
      · rw [List.getElem?_set_ne hk] at h
        exact ⟨h, fun q => hk (by omega)⟩
    · rename_i hx
      refine ⟨h, fun q => ?_⟩
      obtain ⟨q1, q2⟩ := q
      have : k = j := by omega
      subst this
      obtain ⟨y, rfl⟩ := a_cat2 q2
      exact hx y h
theorem a_L.st1 {G : aG} {L : List (Option aV)} {ls' : Array Slot} {nL i : Nat} {v : aV} (h : lv_has ls' nL ((i, a_cv G v) :: (a_as G L).filter (fun q => !(q.1 == i) && !(q.1 + 1 == i && q.2.category == 2)))) : a_L G (a_st L i v) ls' nL := by
  refine ⟨h.1, h.2.1, fun k w hk => ?_⟩
  unfold a_st at hk
  by_cases e : i = k
  · subst e
    rw [List.getElem?_set] at hk
    simp only [if_true] at hk
    split at hk
    · cases hk
      exact h.2.2 _ List.mem_cons_self
    · cases hk
  · rw [List.getElem?_set_ne e] at hk
    obtain ⟨h1, h2⟩ := a_clr_at (G := G) hk
    refine h.2.2 (k, a_cv G w) (List.mem_cons_of_mem _ (List.mem_filter.mpr ⟨a_as_mem h1, ?_⟩))
    simp only [Bool.and_eq_true, Bool.not_eq_true', beq_eq_false_iff_ne, ne_eq, Bool.and_eq_false_iff]
    refine ⟨fun q => e q.symm, ?_⟩
    by_cases g : k + 1 = i
    · exact Or.inr (fun q => h2 ⟨g, q⟩)
    · exact Or.inl g
theorem a_L.st2 {G : aG} {L : List (Option aV)} {ls' : Array Slot} {nL i : Nat} {v : aV} (h : lv_has ls' nL ((i, a_cv G v) :: (a_as G L).filter (fun q => !(q.1 == i) && (!(q.1 == i + 1) && !(q.1 + 1 == i && q.2.category == 2))))) : a_L G (a_st2 L i v) ls' nL := by
  refine ⟨h.1, h.2.1, fun k w hk => ?_⟩
  unfold a_st2 at hk
  by_cases e2 : i + 1 = k
  · subst e2
    rw [List.getElem?_set] at hk
    simp only [if_true] at hk
    split at hk
    · cases hk
    · cases hk
  rw [List.getElem?_set_ne e2] at hk
  by_cases e : i = k
  · subst e
    rw [List.getElem?_set] at hk
    simp only [if_true] at hk
    split at hk
    · cases hk
      exact h.2.2 _ List.mem_cons_self
    · cases hk
  · rw [List.getElem?_set_ne e] at hk
    obtain ⟨h1, h2⟩ := a_clr_at (G := G) hk
    refine h.2.2 (k, a_cv G w) (List.mem_cons_of_mem _ (List.mem_filter.mpr ⟨a_as_mem h1, ?_⟩))
    simp only [Bool.and_eq_true, Bool.not_eq_true', beq_eq_false_iff_ne, ne_eq, Bool.and_eq_false_iff]
    refine ⟨fun q => e q.symm, fun q => e2 q.symm, ?_⟩
    by_cases g : k + 1 = i
    · exact Or.inr (fun q => h2 ⟨g, q⟩)
    · exact Or.inl g
theorem okL_clr {L : List (Option aV)} {i : Nat} (h : okL L) : okL (a_clr L i) := by
  unfold a_clr
  split
  · exact h
  · split
    · intro v hv
      rcases List.mem_or_eq_of_mem_set hv with q | q
      · exact h v q
      · cases q
    · exact h
theorem okL_st {L : List (Option aV)} {i : Nat} {v : aV} (h : okL L) (hv : a_ok v) : okL (a_st L i v) := by
  intro w hw
  rcases List.mem_or_eq_of_mem_set hw with q | q
  · exact okL_clr h w q
  · cases q; exact hv
theorem okL_st2 {L : List (Option aV)} {i : Nat} {v : aV} (h : okL L) (hv : a_ok v) : okL (a_st2 L i v) := by
  intro w hw
  rcases List.mem_or_eq_of_mem_set hw with q | q
  · rcases List.mem_or_eq_of_mem_set q with q | q
    · exact okL_clr h w q
    · cases q; exact hv
  · cases q
section B
variable {G : aG} {M : aM} {d pc n : Nat} {L : List (Option aV)} {st : List aV} {z : aZ} {hr : aR} {hi hl : aI} {Q : Option aV → aZ → aR → aI → aI → Prop}
/-- a step that writes a local alone -/
theorem a_goL {pc2 : Nat} {L2 : List (Option aV)} {st2 : List aV} (k : a_wp G M d pc2 L2 st2 z hr hi hl Q) (hok : okL L → okS st → okL L2 ∧ okS st2)
    (hs : okL L → okS st → ∀ (p : Program) (e : Env) (R : Room) (s : State) (m : MethodId) (args : Array Value) (below : List Frame) (meth : Method) (c : Code) (H : Heap) (locs : List Loc) (cells slots : Nat) (ls : Array Slot) (Q0 : State → Prop),
      a_B G M d 0 0 L z hr hi hl p R s m args meth c H locs cells slots ls →
      (∀ ls2 : Array Slot, a_L G L2 ls2 M.2.2.1 → W p (gl G) e R s m args below meth c H locs cells slots Q0 (F0 m pc2 ls2 (st2.map (a_cv G)))) →
      W p (gl G) e R s m args below meth c H locs cells slots Q0 (F0 m pc ls (st.map (a_cv G)))) : a_wp G M d pc L st z hr hi hl Q :=
  a_step k 0 0 rfl rfl hok (fun _ hL hS p e R s m args below meth c H locs cells slots ls Q0 B kk => hs hL hS p e R s m args below meth c H locs cells slots ls Q0 B (fun ls2 h2 => kk H locs ls2 B.2.2.2.2.2.1 B.2.2.2.2.2.2.2.1 h2))
theorem a_istore_n {q : Fin 4} {x : Int} (hd : decode M.2.1 pc = .ok (.istore_n q, 1)) (hn : pc + 1 = n) (hL : (q : Nat) < M.2.2.1) (k : a_wp G M d n (a_st L (q : Nat) (vI x)) st z hr hi hl Q) : a_wp G M d pc L (vI x :: st) z hr hi hl Q := by
  subst hn
  refine a_goL k (fun hL hs => ⟨okL_st hL (okS_h hs), okS_t hs⟩) (fun _ hs p e R s m args below meth c H locs cells slots ls Q0 B kk => ?_)
  exact lv_istore_n B.1.1 B.1.2.1 hd rfl (B.2.2.2.2.2.2.2.2.2.2).has hL rfl (fun ls' h' => kk ls' (a_L.st1 h'))
theorem a_istore {i : Nat} {x : Int} (hd : decode M.2.1 pc = .ok (.istore i, 2)) (hn : pc + 2 = n) (hL : i < M.2.2.1) (k : a_wp G M d n (a_st L i (vI x)) st z hr hi hl Q) : a_wp G M d pc L (vI x :: st) z hr hi hl Q := by
  subst hn
  refine a_goL k (fun hL hs => ⟨okL_st hL (okS_h hs), okS_t hs⟩) (fun _ hs p e R s m args below meth c H locs cells slots ls Q0 B kk => ?_)
  exact lv_istore B.1.1 B.1.2.1 hd (B.2.2.2.2.2.2.2.2.2.2).has hL rfl (fun ls' h' => kk ls' (a_L.st1 h'))
theorem a_astore_n {q : Fin 4} {o : Option Nat} (hd : decode M.2.1 pc = .ok (.astore_n q, 1)) (hn : pc + 1 = n) (hL : (q : Nat) < M.2.2.1) (k : a_wp G M d n (a_st L (q : Nat) (vO o)) st z hr hi hl Q) : a_wp G M d pc L (vO o :: st) z hr hi hl Q := by
  subst hn
  refine a_goL k (fun hL hs => ⟨okL_st hL (okS_h hs), okS_t hs⟩) (fun _ hs p e R s m args below meth c H locs cells slots ls Q0 B kk => ?_)
  cases o with
  | none => exact lv_astore_nN B.1.1 B.1.2.1 hd rfl (B.2.2.2.2.2.2.2.2.2.2).has hL rfl (fun ls' h' => kk ls' (a_L.st1 (v := vO none) h'))
  | some a => exact lv_astore_n B.1.1 B.1.2.1 hd rfl (B.2.2.2.2.2.2.2.2.2.2).has hL rfl (fun ls' h' => kk ls' (a_L.st1 (v := vR a) h'))
theorem a_astore {i : Nat} {o : Option Nat} (hd : decode M.2.1 pc = .ok (.astore i, 2)) (hn : pc + 2 = n) (hL : i < M.2.2.1) (k : a_wp G M d n (a_st L i (vO o)) st z hr hi hl Q) : a_wp G M d pc L (vO o :: st) z hr hi hl Q := by
  subst hn
  refine a_goL k (fun hL hs => ⟨okL_st hL (okS_h hs), okS_t hs⟩) (fun _ hs p e R s m args below meth c H locs cells slots ls Q0 B kk => ?_)
  cases o with
  | none => exact lv_astoreN B.1.1 B.1.2.1 hd (B.2.2.2.2.2.2.2.2.2.2).has hL rfl (fun ls' h' => kk ls' (a_L.st1 (v := vO none) h'))
  | some a => exact lv_astore B.1.1 B.1.2.1 hd (B.2.2.2.2.2.2.2.2.2.2).has hL rfl (fun ls' h' => kk ls' (a_L.st1 (v := vR a) h'))
theorem a_lstore {i : Nat} {x : Int} (hd : decode M.2.1 pc = .ok (.lstore i, 2)) (hn : pc + 2 = n) (hL : i + 1 < M.2.2.1) (k : a_wp G M d n (a_st2 L i (vJ x)) st z hr hi hl Q) : a_wp G M d pc L (vJ x :: st) z hr hi hl Q := by
  subst hn
  refine a_goL k (fun hL hs => ⟨okL_st2 hL (okS_h hs), okS_t hs⟩) (fun _ hs p e R s m args below meth c H locs cells slots ls Q0 B kk => ?_)
  exact lv_lstore B.1.1 B.1.2.1 hd (B.2.2.2.2.2.2.2.2.2.2).has hL rfl (fun ls' h' => kk ls' (a_L.st2 h'))
theorem a_iinc {i : Nat} {x c0 : Int} (hd : decode M.2.1 pc = .ok (.iinc i c0, 3)) (hn : pc + 3 = n) (hL : i < M.2.2.1) (hx : L[i]? = some (some (vI x))) (h1 : r32 (x + c0)) (k : a_wp G M d n (a_st L i (vI (x + c0))) st z hr hi hl Q) : a_wp G M d pc L st z hr hi hl Q := by
  subst hn
  refine a_goL k (fun hL hs => ⟨okL_st hL h1, hs⟩) (fun _ hs p e R s m args below meth c H locs cells slots ls Q0 B kk => ?_)
  obtain ⟨q, hq⟩ := List.getElem?_of_mem (a_as_mem (G := G) hx)
  refine lv_iinc (v := Int32.ofInt (x + c0)) B.1.1 B.1.2.1 hd (B.2.2.2.2.2.2.2.2.2.2).has hq ?_ hL rfl (fun ls' h' => kk ls' (a_L.st1 (v := vI (x + c0)) h'))
  rw [Int32.ofInt_add]
end B
/-! the classes' tables -/
def a_T (t : Nat) : u_T := match t with
  | 0 => TX0
  | 1 => TX1
  | 2 => TX2
  | 3 => TX3
  | 4 => TX4
  | 5 => TX5
  | 6 => TX6
  | 7 => TX7
  | 8 => TX8
  | 9 => TX9
  | _ => TX10
def a_Rn (t : Nat) : String := match t with
  | 0 => RX0
  | 1 => RX1
  | 2 => RX2
  | 3 => RX3
  | 4 => RX4
  | 5 => RX5
  | 6 => RX6
  | 7 => RX7
  | 8 => RX8
  | 9 => RX9
  | _ => RX10
theorem a_11 {P : Nat → Prop} (h0 : P 0) (h1 : P 1) (h2 : P 2) (h3 : P 3) (h4 : P 4) (h5 : P 5) (h6 : P 6) (h7 : P 7) (h8 : P 8) (h9 : P 9) (h10 : P 10) (t : Nat) (ht : t < 11) : P t := by
  match t, ht with
  | 0, _ => exact h0
  | 1, _ => exact h1
  | 2, _ => exact h2
  | 3, _ => exact h3
  | 4, _ => exact h4
  | 5, _ => exact h5
  | 6, _ => exact h6
  | 7, _ => exact h7
  | 8, _ => exact h8
  | 9, _ => exact h9
  | 10, _ => exact h10
  | q + 11, hq => exact absurd hq (by omega)
theorem a_vw (t : Nat) (h : t < 11) : vwCl[t]? = some (a_Rn t, a_T t, a_nf t) := a_11 (P := fun t => vwCl[t]? = some (a_Rn t, a_T t, a_nf t)) rfl rfl rfl rfl rfl rfl rfl rfl rfl rfl rfl t h
theorem a_tyok (t : Nat) (h : t < 11) : ∀ k, k < a_nf t → parseFieldDescriptor (a_T t k).2.2.1 = some (a_ty t k) := a_11 (P := fun t => ∀ k, k < a_nf t → parseFieldDescriptor (a_T t k).2.2.1 = some (a_ty t k)) tyX0_ok tyX1_ok tyX2_ok tyX3_ok tyX4_ok tyX5_ok tyX6_ok tyX7_ok tyX8_ok tyX9_ok tyX10_ok t h
theorem a_nm (t : Nat) (h : t < 11) : ∀ a, a < a_nf t → ∀ b, b < a_nf t → a ≠ b → (a_T t a).2.1 ≠ (a_T t b).2.1 := a_11 (P := fun t => ∀ a, a < a_nf t → ∀ b, b < a_nf t → a ≠ b → (a_T t a).2.1 ≠ (a_T t b).2.1) nmX0 nmX1 nmX2 nmX3 nmX4 nmX5 nmX6 nmX7 nmX8 nmX9 nmX10 t h
theorem a_gw (C : String) (T : u_T) (N : Nat) : ∀ w ∈ u_ws C T N, goodWord w = true := by
  intro w hw
  obtain ⟨k, -, rfl⟩ := List.mem_map.mp hw
  unfold u_lay
  split <;> rfl
theorem a_in (t : Nat) (h : t < 11) : ∀ w ∈ u_ws (a_Rn t) (a_T t) (a_nf t), w ∈ lw_tbl.filter goodWord := by
  intro w hw
  refine List.mem_filter.mpr ⟨?_, a_gw _ _ _ w hw⟩
  exact a_11 (P := fun t => ∀ w ∈ u_ws (a_Rn t) (a_T t) (a_nf t), w ∈ lw_tbl) inX0 inX1 inX2 inX3 inX4 inX5 inX6 inX7 inX8 inX9 inX10 t h w hw
theorem a_Cx.ts {M : aM} {p : Program} {s : State} {m : MethodId} {args : Array Value} {meth : Method} {c : Code} (C : a_Cx M p s m args meth c) : ∀ w ∈ lw_tbl.filter goodWord, w.before args s = true := fun w hw => C.2.2.2.2.1 w (List.mem_filter.mp hw).1 (List.mem_filter.mp hw).2
/-- a cell of a kind and a length -/
def a_is (z : aZ) (a t : Nat) (len : Int) : Prop := a < z.1 ∧ z.2.2 a = (t, len)
/-- a link to a field: of the class t the k-th (ki: the same as an Int), a reference or not -/
def a_Fl (own : String) (idx t k : Nat) (ki : Int) (isR : Bool) : Prop := t < 11 ∧ k < a_nf t ∧ (k : Int) = ki ∧ Cond.fieldLink own idx (a_T t k).1 (a_T t k).2.1 (a_T t k).2.2.1 ∈ lw_tbl ∧ a_isR (a_ty t k) = isR
def up2 {α : Type} (f : Nat → Int → α) (a : Nat) (i : Int) (v : α) : Nat → Int → α := fun b j => if b = a ∧ j = i then v else f b j
theorem a_obj {G : aG} {z : aZ} {hr : aR} {hi hl : aI} {H : Heap} {a t : Nat} {len : Int} (h : a_rp G z hr hi hl H) (hs : a_is z a t len) (ht : t < 11) : t_OB (gc G a) (gC G t) (a_nf t) (gI G t) H (fun k => a_fv G t k (hi a k) (hr a k)) := by
  have h1 := h.2.2.1 a hs.1
  unfold a_cell at h1
  rw [hs.2] at h1
  simpa [ht] using h1
theorem a_arr {G : aG} {z : aZ} {hr : aR} {hi hl : aI} {H : Heap} {a t : Nat} {len : Int} (h : a_rp G z hr hi hl H) (hs : a_is z a t len) (ht : 11 ≤ t) (ht2 : t < 30) : H[gc G a]? = some (arrV (gA G t) len.toNat (fun j => a_av G t (hi a j) (hl a j) (hr a j))) := by
  have h1 := h.2.2.1 a hs.1
  unfold a_cell at h1
  rw [hs.2] at h1
  simpa [Nat.not_lt.mpr ht, ht2] using h1
theorem a_cvR {G : aG} {a : Nat} (h : a < 1000000000) : a_cv G (vR a) = .ref (gc G a) := by
  show va_rf (some (a_ca G a)) = _
  unfold a_ca
  rw [if_pos h]
  rfl
