/-! contracts of methods, and calls by contract -/
def a_ws (M : aM) : List Cond := .code M.1 M.2.1 M.2.2.1 M.2.2.2 :: lw_tbl.filter goodWord
def a_rm (d : Nat) (z z' : aZ) : Room := { frames := d, cells := z'.1 - z.1, slots := z'.2.1 - z.2.1, locals := 40 * d }
def a_Pc (G : aG) (As : List aV) (z : aZ) (hr : aR) (hi hl : aI) : Array Value → State → Prop := va_Pc (As.map (a_cv G)) (fun U => a_rp G z hr hi hl U.heap ∧ a_wK G U)
def a_Met (G : aG) (M : aM) (d : Nat) (As : List aV) (z : aZ) (hr : aR) (hi hl : aI) (r : Option aV) (z' : aZ) (hr' : aR) (hi' hl' : aI) : Prop :=
  z.1 ≤ z'.1 ∧ z.2.1 ≤ z'.2.1 ∧ (a_stab G → okS As → Met (gl G) M.1 (a_ws M) (a_rm d z z') (a_Pc G As z hr hi hl) (a_Qc G r z' hr' hi' hl') (z'.1 - z.1) (z'.2.1 - z.2.1) (fun q => gb G ≤ q))
/-- the method M, called with As where the heap is z hr hi hl, returns, and Q holds of its answer and the heap behind it -/
def a_ct (G : aG) (M : aM) (d : Nat) (As : List aV) (z : aZ) (hr : aR) (hi hl : aI) (Q : Option aV → aZ → aR → aI → aI → Prop) : Prop :=
  ∃ r z' hr' hi' hl', a_Met G M d As z hr hi hl r z' hr' hi' hl' ∧ Q r z' hr' hi' hl'
def a_fl : List aV → List (Option aV)
  | [] => []
  | .inr (.inl j) :: vs => some (vJ j) :: none :: a_fl vs
  | v :: vs => some v :: a_fl vs
def a_L0 (As : List aV) (nL : Nat) : List (Option aV) := a_fl As ++ List.replicate (nL - (a_fl As).length) none
theorem a_fl_at {G : aG} : ∀ (As : List aV) (i k : Nat) (v : aV), (a_fl As)[i]? = some (some v) → (k + i, a_cv G v) ∈ lv_args k (As.map (a_cv G))
  | [], i, k, v, h => by simp [a_fl] at h
  | .inr (.inl j) :: vs, i, k, v, h => by
    match i, h with
    | 0, h =>
      cases h
      exact List.mem_cons_self
    | 1, h => cases h
    | i + 2, h =>
      have h1 : (a_fl vs)[i]? = some (some v) := h
      have h2 := a_fl_at (G := G) vs i (k + 2) v h1
      refine List.mem_cons_of_mem _ ?_
      show (k + (i + 2), a_cv G v) ∈ lv_args (k + 2) (vs.map (a_cv G))
      rwa [show k + (i + 2) = k + 2 + i by omega]
  | .inl x :: vs, i, k, v, h => by
    match i, h with
    | 0, h =>
      cases h
      exact List.mem_cons_self
    | i + 1, h =>
      have h1 : (a_fl vs)[i]? = some (some v) := h
      have h2 := a_fl_at (G := G) vs i (k + 1) v h1
      refine List.mem_cons_of_mem _ ?_
      show (k + (i + 1), a_cv G v) ∈ lv_args (k + 1) (vs.map (a_cv G))
      rwa [show k + (i + 1) = k + 1 + i by omega]
  | .inr (.inr o) :: vs, i, k, v, h => by
    match i, h with
    | 0, h =>
      cases h
      exact List.mem_cons_self
    | i + 1, h =>
      have h1 : (a_fl vs)[i]? = some (some v) := h
      have h2 := a_fl_at (G := G) vs i (k + 1) v h1
      refine List.mem_cons_of_mem _ ?_
      have hc : ¬ (a_cv G (vO o)).category = 2 := fun q => by obtain ⟨j, hj⟩ := a_cat2 q; cases hj
      show (k + (i + 1), a_cv G v) ∈ lv_args (if (a_cv G (vO o)).category = 2 then k + 2 else k + 1) (vs.map (a_cv G))
      rw [if_neg hc]
      rwa [show k + (i + 1) = k + 1 + i by omega]
theorem a_fl_ok : ∀ (As : List aV), okS As → ∀ v, some v ∈ a_fl As → a_ok v
  | [], _, v, h => by simp [a_fl] at h
  | .inr (.inl j) :: vs, hs, v, h => by
    rcases List.mem_cons.mp h with q | q
    · cases q; exact hs _ List.mem_cons_self
    · rcases List.mem_cons.mp q with q | q
      · cases q
      · exact a_fl_ok vs (okS_t hs) v q
  | .inl x :: vs, hs, v, h => by
    rcases List.mem_cons.mp h with q | q
    · cases q; exact hs _ List.mem_cons_self
    · exact a_fl_ok vs (okS_t hs) v q
  | .inr (.inr o) :: vs, hs, v, h => by
    rcases List.mem_cons.mp h with q | q
    · cases q; exact hs _ List.mem_cons_self
    · exact a_fl_ok vs (okS_t hs) v q
section E
variable {G : aG} {M : aM} {d pc n : Nat} {L : List (Option aV)} {st : List aV} {z : aZ} {hr : aR} {hi hl : aI} {Q : Option aV → aZ → aR → aI → aI → Prop}
/-- a contract out of the walk of the body -/
theorem a_ct_of {As : List aV} (hy : plainName M.1.cls = true) (hlen : (lg_sl (As.map (a_cv G))).length ≤ M.2.2.1) (h : a_wp G M d 0 (a_L0 As M.2.2.1) [] z hr hi hl Q) : a_ct G M d As z hr hi hl Q := by
  obtain ⟨r, z', hr', hi', hl', ⟨k1, k2, k3⟩, hq⟩ := h
  refine ⟨r, z', hr', hi', hl', ⟨k1, k2, fun hst hok => ?_⟩, hq⟩
  refine Met.ofW (cc := M.2.1) (maxL := M.2.2.1) (ret := M.2.2.2) hy rfl ?_
  intro p e s m args below meth c s₁ B hml hv
  obtain ⟨rfl, hrp, hwK⟩ := hv
  have hts := atoms_spec (ws := a_ws M) B.pre
  have C : a_Cx M p s m _ meth c := ⟨B.exec, B.bytes, hml, findClass_of_methodNamed B.named, fun w h1 h2 => hts w (List.mem_cons_of_mem _ (List.mem_filter.mpr ⟨h1, h2⟩)), B.returns, B.notSynchronized, (name_of_methodNamed B.named B.method).1⟩
  have hl0 := lv_entry (As.map (a_cv G)) (n := M.2.2.1) hlen
  rw [lg_entry_eq]
  refine k3 hst (fun v hv => ?_) (fun v hv => by cases hv) p e _ s m _ below meth c s.heap [] 0 0 _ (z'.1 - z.1) (z'.2.1 - z.2.1) ⟨C, Nat.le_refl _, Nat.le_refl _, Nat.zero_le _, Nat.zero_le _, hrp, hwK, va_S.rf, by rw [hrp.1]; exact Nat.le_add_right _ _, hrp.2.2.2.1, hl0.1, hl0.2.1, fun i v hv => ?_⟩ (by omega) (by omega) (Nat.le_refl _) (Nat.le_refl _)
  · rcases List.mem_append.mp hv with q | q
    · exact a_fl_ok As hok v q
    · have := List.eq_of_mem_replicate q; cases this
  · have h1 : (a_fl As)[i]? = some (some v) := by
      unfold a_L0 at hv
      by_cases hi9 : i < (a_fl As).length
      · rwa [List.getElem?_append_left hi9] at hv
      · rw [List.getElem?_append_right (by omega)] at hv
        have := List.eq_of_mem_replicate (List.mem_of_getElem? hv)
        cases this
    have h2 := a_fl_at (G := G) As i 0 v h1
    rw [Nat.zero_add] at h2
    exact hl0.2.2 _ h2
theorem a_ct.mono {As : List aV} {Q2 : Option aV → aZ → aR → aI → aI → Prop} (h : a_ct G M d As z hr hi hl Q) (hq : ∀ r z' hr' hi' hl', Q r z' hr' hi' hl' → Q2 r z' hr' hi' hl') : a_ct G M d As z hr hi hl Q2 := by
  obtain ⟨r, z', hr', hi', hl', h1, h2⟩ := h
  exact ⟨r, z', hr', hi', hl', h1, hq _ _ _ _ _ h2⟩
def a_cat : aV → Nat
  | .inr (.inl _) => 2
  | _ => 1
theorem a_cat_eq (v : aV) : (a_cv G v).category = a_cat v := by
  match v with
  | .inl i => rfl
  | .inr (.inl j) => rfl
  | .inr (.inr none) => rfl
  | .inr (.inr (some a)) => rfl
theorem a_cats (st : List aV) : ((st.map (a_cv G)).map fun v => v.category).sum = (st.map a_cat).sum := by
  induction st with
  | nil => rfl
  | cons v vs ih => simp only [List.map_cons, List.sum_cons, ih, a_cat_eq]
theorem a_wK.moved {s U : State} (hst : a_stab G) (hW : s.WarmedH U.vm) (h1 : gb G ≤ s.heap.size) (h2 : gb G ≤ U.heap.size) (hq : ∀ q, q < gb G → U.heap[q]? = s.heap[q]?) (h : a_wK G s) : a_wK G U := ⟨va_K.moved hW.alike h.1, hst s U hW h1 h2 hq h.2⟩
theorem a_blind (hst : a_stab G) {As : List aV} : FrameBlind (a_Pc G As z hr hi hl) := by
  intro a U g mk q
  obtain ⟨q0, q1, q2⟩ := q
  have hb : gb G ≤ U.heap.size := by rw [q1.1]; exact Nat.le_add_right _ _
  exact ⟨q0, q1, a_wK.moved (U := U.calling g mk a) hst (State.WarmedH.refl U) hb hb (fun _ _ => rfl) q2⟩
/-- what a row of the tables says, at any later tables -/
theorem a_word {M : aM} {p : Program} {s : State} {m : MethodId} {args : Array Value} {meth : Method} {c : Code} (C : a_Cx M p s m args meth c) {w : Cond} (h1 : w ∈ lw_tbl) (h2 : goodWord w = true) (a' : Array Value) (U : State) (hW : s.WarmedH U.vm) : w.before a' U = true := word_at hW (good_of_word h2) (C.2.2.2.2.1 w h1 h2)
theorem a_cont {p : Program} {e : Env} {R : Room} {s : State} {m : MethodId} {args : Array Value} {below : List Frame} {meth : Method} {c : Code} {H : Heap} {locs : List Loc} {cells slots mc ms : Nat} {ls : Array Slot} {Q0 : State → Prop} {st0 rest : List Value} {r : Option aV} {z' : aZ} {hr' : aR} {hi' hl' : aI} {a : Array Value} {dc ds : Nat}
    (hrun : va_Run p (gl G) e R s m args below meth c H locs cells slots mc ms (F0 m pc ls st0) rest (a_Qc G r z' hr' hi' hl' a) (fun q => gb G ≤ q)) (B : a_B G M d dc ds L z hr hi hl p R s m args meth c H locs cells slots ls) (hz : z.1 ≤ z'.1)
    (kk : ∀ (H2 : Heap) (locs2 : List Loc), a_rp G z' hr' hi' hl' H2 → va_S (fun q => gb G ≤ q) s.heap H2 locs2 → (∀ v, r = some v → a_ok v) → W p (gl G) e R s m args below meth c H2 locs2 (cells + mc) (slots + ms) Q0 (F0 m (pc + 3) ls ((r.map (a_cv G)).toList ++ rest))) : W p (gl G) e R s m args below meth c H locs cells slots Q0 (F0 m pc ls st0) := by
  intro T hT X
  obtain ⟨v, st₀, t, T', L9, h0, X', hL, e1, e2, ⟨hv, hb, ho⟩, hg⟩ := hrun T hT X
  cases hv
  have hrp := B.2.2.2.2.2.1
  have hS := B.2.2.2.2.2.2.2.1
  obtain ⟨t2, a1, b1⟩ := kk T'.heap (locs ++ L9) (by rw [e1]; exact hb) ⟨by rw [e1, hb.1]; have := hS.1; rw [hrp.1] at this; omega, fun q g1 g2 => by
      have g3 : q < gb G := Nat.not_le.mp g2
      rw [e1, hb.2.2.2.1 q g3]; exact (B.2.2.2.2.2.2.2.2.2.1 q g3).symm, fun q hq => by
      rcases List.mem_append.mp hq with h | h
      · exact hS.2.2 q h
      · exact hL q h⟩ ho T' rfl X'
  exact ⟨t2, hg t2 a1, b1⟩
/-- a call, once its run is known -/
theorem a_callW {M2 : aM} {d2 : Nat} {As : List aV} {st0 : List aV} {Q1 : Option aV → aZ → aR → aI → aI → Prop} (hn : pc + 3 = n) (hst0 : st0 = As.reverse ++ st) (C : a_ct G M2 d2 As z hr hi hl Q1)
    (hw : ∀ (r : Option aV) (z' : aZ) (hr' : aR) (hi' hl' : aI), a_stab G → z.1 ≤ z'.1 → z.2.1 ≤ z'.2.1 → Met (gl G) M2.1 (a_ws M2) (a_rm d2 z z') (a_Pc G As z hr hi hl) (a_Qc G r z' hr' hi' hl') (z'.1 - z.1) (z'.2.1 - z.2.1) (fun q => gb G ≤ q) →
      ∀ (p : Program) (e : Env) (R : Room) (s : State) (m : MethodId) (args : Array Value) (below : List Frame) (meth : Method) (c : Code) (H : Heap) (locs : List Loc) (cells slots : Nat) (ls : Array Slot), a_B G M d 0 0 L z hr hi hl p R s m args meth c H locs cells slots ls → cells + (z'.1 - z.1) ≤ R.cells → slots + (z'.2.1 - z.2.1) ≤ R.slots →
      va_Run p (gl G) e R s m args below meth c H locs cells slots (z'.1 - z.1) (z'.2.1 - z.2.1) (F0 m pc ls (st0.map (a_cv G))) (st.map (a_cv G)) (a_Qc G r z' hr' hi' hl' (As.map (a_cv G)).toArray) (fun q => gb G ≤ q))
    (k : ∀ r z' hr' hi' hl', Q1 r z' hr' hi' hl' → a_wp G M d n L (r.toList ++ st) z' hr' hi' hl' Q) : a_wp G M d pc L st0 z hr hi hl Q := by
  subst hn; subst hst0
  obtain ⟨r1, z1, hr1, hi1, hl1, ⟨c1, c2, c3⟩, hq1⟩ := C
  obtain ⟨r, z', hr', hi', hl', ⟨k1, k2, k3⟩, hq⟩ := k r1 z1 hr1 hi1 hl1 hq1
  refine ⟨r, z', hr', hi', hl', ⟨Nat.le_trans c1 k1, Nat.le_trans c2 k2, fun hst hL hS p e R s m args below meth c H locs cells slots ls mc ms B e1 e2 e3 e4 => ?_⟩, hq⟩
  have hAs : okS As := fun v hv => hS v (List.mem_append_left _ (List.mem_reverse.mpr hv))
  have hst2 : okS st := fun v hv => hS v (List.mem_append_right _ hv)
  have hrun := hw r1 z1 hr1 hi1 hl1 hst c1 c2 (c3 hst hAs) p e R s m args below meth c H locs cells slots ls B (by omega) (by omega)
  refine a_cont hrun B c1 (fun H2 locs2 g1 g2 g3 => ?_)
  have hB := B
  obtain ⟨b1, b2, b3, b4, b5, b6, b7, b8, b9, b10, b11⟩ := hB
  have h9 := k3 hst hL (fun v hv => by
    rcases List.mem_append.mp hv with q | q
    · cases r1 with
      | none => cases q
      | some v1 => rw [List.mem_singleton.mp q]; exact g3 v1 rfl
    · exact hst2 v q) p e R s m args below meth c H2 locs2 (cells + (z1.1 - z.1)) (slots + (z1.2.1 - z.2.1)) ls mc ms ⟨b1, b2, b3, by omega, by omega, g1, b7, g2, b9, b10, b11⟩ (by omega) (by omega) e3 e4
  rw [List.map_append] at h9
  cases r1 with
  | none => exact h9
  | some v1 => exact h9
/-- what a method brings to a call: its code's row, that its class is ready, how many arguments it takes, its room -/
def a_Ok (M2 : aM) (na : Nat) : Prop := Cond.code M2.1 M2.2.1 M2.2.2.1 M2.2.2.2 ∈ lw_tbl ∧ Cond.initialized M2.1.cls ∈ lw_tbl ∧ (M2.1.cls ≠ "java/lang/invoke/MethodHandle" ∧ M2.1.cls ≠ "java/lang/invoke/VarHandle") ∧ (parseMethodDescriptor M2.1.desc).map (fun d => d.parameters.length) = some na ∧ M2.2.2.1 ≤ 21
theorem a_CB {M2 : aM} {d2 idx na : Nat} {z' : aZ} {p : Program} {R : Room} {s : State} {m : MethodId} {args : Array Value} {meth : Method} {c : Code} {H : Heap} {locs : List Loc} {cells slots : Nat} {ls : Array Slot} (B : a_B G M d 0 0 L z hr hi hl p R s m args meth c H locs cells slots ls) (K : a_Ok M2 na) (hlink : Cond.methodLink M.1.cls idx M2.1 ∈ lw_tbl) (hdd : d2 + 1 ≤ d) :
    CallB R s args M.1.cls idx M2.1 M2.2.1 M2.2.2.1 M2.2.2.2 (a_ws M2) (a_rm d2 z z') (z'.1 - z.1) (z'.2.1 - z.2.1) na := by
  obtain ⟨K1, K2, K3, K4, K5⟩ := K
  have b2 := B.2.1
  have b3 := B.2.2.1
  refine ⟨rfl, rfl, by show d2 + 1 ≤ R.frames; omega, by show 8 + (M2.2.2.1 + 11) + 40 * d2 ≤ R.locals; omega, fun w hw a' U hW => ?_, List.mem_cons_self, B.1.2.2.2.2.1 _ K1 rfl, B.1.2.2.2.2.1 _ K2 rfl, K3, fun sig hsig => ?_, B.1.2.2.2.2.1 _ hlink rfl⟩
  · rcases List.mem_cons.mp hw with rfl | hw
    · exact a_word B.1 K1 rfl a' U hW
    · exact a_word B.1 (List.mem_filter.mp hw).1 (List.mem_filter.mp hw).2 a' U hW
  · rw [hsig] at K4
    exact (Option.some.inj K4).symm
theorem a_pcU {As : List aV} {p : Program} {R : Room} {s : State} {m : MethodId} {args : Array Value} {meth : Method} {c : Code} {H : Heap} {locs : List Loc} {cells slots : Nat} {ls : Array Slot} (hst : a_stab G) (B : a_B G M d 0 0 L z hr hi hl p R s m args meth c H locs cells slots ls) (U : State) (hU : U.heap = H) (hW : s.WarmedH U.vm) : a_Pc G As z hr hi hl (As.map (a_cv G)).toArray U := by
  have hrp := B.2.2.2.2.2.1
  refine ⟨rfl, by rw [hU]; exact hrp, a_wK.moved hst hW B.2.2.2.2.2.2.2.2.1 (by rw [hU, hrp.1]; exact Nat.le_add_right _ _) (fun q hq => ?_) B.2.2.2.2.2.2.1⟩
  rw [hU, hrp.2.2.2.1 q hq]
  exact (B.2.2.2.2.2.2.2.2.2.1 q hq).symm
theorem a_callS {M2 : aM} {d2 idx : Nat} {As st0 : List aV} {Q1 : Option aV → aZ → aR → aI → aI → Prop} (hd : decode M.2.1 pc = .ok (.invokestatic idx, 3)) (hn : pc + 3 = n) (C : a_ct G M2 d2 As z hr hi hl Q1) (K : a_Ok M2 As.length) (hlink : Cond.methodLink M.1.cls idx M2.1 ∈ lw_tbl) (hsta : Cond.static M2.1 ∈ lw_tbl) (hdd : d2 + 1 ≤ d) (hst0 : st0 = As.reverse ++ st) (hw : (st.map a_cat).sum ≤ 8)
    (k : ∀ r z' hr' hi' hl', Q1 r z' hr' hi' hl' → a_wp G M d n L (r.toList ++ st) z' hr' hi' hl' Q) : a_wp G M d pc L st0 z hr hi hl Q := by
  refine a_callW hn hst0 C (fun r z' hr' hi' hl' hst g1 g2 hM p e R s m args below meth c H locs cells slots ls B h1 h2 => ?_) k
  subst hst0
  exact va_runS (As := As.map (a_cv G)) (rest := st.map (a_cv G)) (n := As.length) ⟨B.1.1, B.1.2.1, B.1.2.2.1, B.1.2.2.2.1, B.1.ts⟩ hM ⟨a_CB B K hlink hdd, B.1.2.2.2.2.1 _ hsta rfl⟩ ⟨a_blind hst, fun U hU hW => a_pcU hst B U hU hW⟩ rfl (by simp) B.2.2.2.2.2.2.2.2.2.2.1 (by rw [List.map_append, List.map_reverse]) (lv_room (by rw [a_cats]; exact hw)) hd ⟨h1, h2⟩
theorem a_callV {M2 : aM} {d2 idx b t : Nat} {len : Int} {As st0 : List aV} {Q1 : Option aV → aZ → aR → aI → aI → Prop} (hd : decode M.2.1 pc = .ok (.invokevirtual idx, 3)) (hn : pc + 3 = n) (C : a_ct G M2 d2 (vR b :: As) z hr hi hl Q1) (K : a_Ok M2 As.length) (hlink : Cond.methodLink M.1.cls idx M2.1 ∈ lw_tbl) (hin : Cond.instanceMethod M2.1 ∈ lw_tbl) (hsel : Cond.selects (a_Rn t) M2.1 M2.1 ∈ lw_tbl) (ht : t < 11) (hdd : d2 + 1 ≤ d) (hb : a_is z b t len) (hst0 : st0 = As.reverse ++ vR b :: st) (hw : (st.map a_cat).sum ≤ 8)
    (k : ∀ r z' hr' hi' hl', Q1 r z' hr' hi' hl' → a_wp G M d n L (r.toList ++ st) z' hr' hi' hl' Q) : a_wp G M d pc L st0 z hr hi hl Q := by
  refine a_callW hn (by rw [hst0]; simp) C (fun r z' hr' hi' hl' hst g1 g2 hM p e R s m args below meth c H locs cells slots ls B h1 h2 => ?_) k
  subst hst0
  have hrp := B.2.2.2.2.2.1
  have hbr : a_cv G (vR b) = .ref (gc G b) := a_cvR (a_lt9 B hb)
  obtain ⟨cellB, q1, q2, q3, -⟩ := a_obj hrp hb ht
  have hU : ∀ U : State, U.heap = H → s.WarmedH U.vm → a_Pc G (vR b :: As) z hr hi hl (Value.ref (gc G b) :: As.map (a_cv G)).toArray U := fun U hU hW => by
    have := a_pcU (As := vR b :: As) hst B U hU hW
    rwa [List.map_cons, hbr] at this
  have hrun := va_runV (C := a_Rn t) (b := gc G b) (As := As.map (a_cv G)) (rest := st.map (a_cv G)) (n := As.length) (g := F0 m pc ls ((As.map (a_cv G)).reverse ++ Value.ref (gc G b) :: st.map (a_cv G))) (cells := cells) (slots := slots) (locs := locs) (e := e) (below := below) (meth := meth) ⟨B.1.1, B.1.2.1, B.1.2.2.1, B.1.2.2.2.1, B.1.ts⟩ hM ⟨a_CB B K hlink hdd, B.1.2.2.2.2.1 _ hin rfl, B.1.2.2.2.2.1 _ hsel rfl⟩ ⟨a_blind hst, ⟨cellB, q1, by rw [q3]; rfl, by rw [q2]; exact (B.2.2.2.2.2.2.1.1.1 t _ (a_vw t ht)).2.1⟩, hU⟩ rfl (by simp) B.2.2.2.2.2.2.2.2.2.2.1 rfl (lv_room (by rw [a_cats]; exact hw)) hd ⟨h1, h2⟩
  rw [List.map_append, List.map_cons, List.map_reverse, List.map_cons, hbr]
  exact hrun
theorem a_callI {M2 : aM} {d2 idx b : Nat} {As st0 : List aV} {Q1 : Option aV → aZ → aR → aI → aI → Prop} (hd : decode M.2.1 pc = .ok (.invokespecial idx, 3)) (hn : pc + 3 = n) (C : a_ct G M2 d2 (vR b :: As) z hr hi hl Q1) (K : a_Ok M2 As.length) (hlink : Cond.methodLink M.1.cls idx M2.1 ∈ lw_tbl) (hin : Cond.instanceMethod M2.1 ∈ lw_tbl) (hnm : M2.1.name = "<init>") (hret : M2.2.2.2 = none) (hdd : d2 + 1 ≤ d) (hb : b < z.1) (hst0 : st0 = As.reverse ++ vR b :: st) (hw : (st.map a_cat).sum ≤ 8)
    (k : ∀ r z' hr' hi' hl', Q1 r z' hr' hi' hl' → a_wp G M d n L (r.toList ++ st) z' hr' hi' hl' Q) : a_wp G M d pc L st0 z hr hi hl Q := by
  refine a_callW hn (by rw [hst0]; simp) C (fun r z' hr' hi' hl' hst g1 g2 hM p e R s m args below meth c H locs cells slots ls B h1 h2 => ?_) k
  subst hst0
  have hrp := B.2.2.2.2.2.1
  have hbr : a_cv G (vR b) = .ref (gc G b) := a_cvR (Nat.lt_trans hb hrp.2.1.1)
  have hU : ∀ U : State, U.heap = H → s.WarmedH U.vm → a_Pc G (vR b :: As) z hr hi hl (Value.ref (gc G b) :: As.map (a_cv G)).toArray U := fun U hU hW => by
    have := a_pcU (As := vR b :: As) hst B U hU hW
    rwa [List.map_cons, hbr] at this
  have hcb := a_CB (z' := z') B K hlink hdd
  rw [hret] at hcb
  have hrun := va_runI (b := gc G b) (As := As.map (a_cv G)) (rest := st.map (a_cv G)) (n := As.length) (g := F0 m pc ls ((As.map (a_cv G)).reverse ++ Value.ref (gc G b) :: st.map (a_cv G))) (cells := cells) (slots := slots) (locs := locs) (e := e) (below := below) (meth := meth) ⟨B.1.1, B.1.2.1, B.1.2.2.1, B.1.2.2.2.1, B.1.ts⟩ hM ⟨hcb, hnm, B.1.2.2.2.2.1 _ hin rfl⟩ ⟨a_blind hst, hU⟩ rfl (by simp) B.2.2.2.2.2.2.2.2.2.2.1 rfl (lv_room (by rw [a_cats]; exact hw)) hd ⟨h1, h2⟩
  rw [List.map_append, List.map_cons, List.map_reverse, List.map_cons, hbr]
  exact hrun
end E
