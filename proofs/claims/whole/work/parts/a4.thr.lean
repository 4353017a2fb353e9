/-! The rules of a_wp once more for a body of which the exception table is told (T) and which ends as EP says: for bodies that throw, and for bodies that catch. -/
abbrev eP : Type := aG → List Frame → Array Value → State → Nat → Nat → Option aV → aZ → aR → aI → aI → State → Prop
def x_W (T : Code → Prop) (EP : eP) (G : aG) (M : aM) (d pc : Nat) (L : List (Option aV)) (st : List aV) (z : aZ) (hr : aR) (hi hl : aI) (r : Option aV) (z' : aZ) (hr' : aR) (hi' hl' : aI) : Prop :=
  z.1 ≤ z'.1 ∧ z.2.1 ≤ z'.2.1 ∧ (a_stab G → okL L → okS st →
  ∀ (p : Program) (e : Env) (R : Room) (s : State) (m : MethodId) (args : Array Value) (below : List Frame) (meth : Method) (c : Code) (H : Heap) (locs : List Loc) (cells slots : Nat) (ls : Array Slot) (mc ms : Nat),
    a_B G M d 0 0 L z hr hi hl p R s m args meth c H locs cells slots ls → cells + z'.1 = mc + z.1 → slots + z'.2.1 = ms + z.2.1 → mc ≤ R.cells → ms ≤ R.slots → T c →
    W p (gl G) e R s m args below meth c H locs cells slots (EP G below args s mc ms r z' hr' hi' hl') (F0 m pc ls (st.map (a_cv G))))
def x_wp (T : Code → Prop) (EP : eP) (G : aG) (M : aM) (d pc : Nat) (L : List (Option aV)) (st : List aV) (z : aZ) (hr : aR) (hi hl : aI) (Q : Option aV → aZ → aR → aI → aI → Prop) : Prop :=
  ∃ r z' hr' hi' hl', x_W T EP G M d pc L st z hr hi hl r z' hr' hi' hl' ∧ Q r z' hr' hi' hl'
section X1
variable {T : Code → Prop} {EP : eP} {G : aG} {M : aM} {d pc n : Nat} {L : List (Option aV)} {st : List aV} {z : aZ} {hr : aR} {hi hl : aI} {Q : Option aV → aZ → aR → aI → aI → Prop}
/-- one step: whatever it changes -/
theorem x_step {pc2 : Nat} {L2 : List (Option aV)} {st2 : List aV} {z2 : aZ} {hr2 : aR} {hi2 hl2 : aI} (k : x_wp T EP G M d pc2 L2 st2 z2 hr2 hi2 hl2 Q) (dc ds : Nat) (hz1 : z2.1 = z.1 + dc) (hz2 : z2.2.1 = z.2.1 + ds)
    (hok : okL L → okS st → okL L2 ∧ okS st2)
    (hs : a_stab G → okL L → okS st → ∀ (p : Program) (e : Env) (R : Room) (s : State) (m : MethodId) (args : Array Value) (below : List Frame) (meth : Method) (c : Code) (H : Heap) (locs : List Loc) (cells slots : Nat) (ls : Array Slot) (Q0 : State → Prop),
      a_B G M d dc ds L z hr hi hl p R s m args meth c H locs cells slots ls →
      (∀ (H2 : Heap) (locs2 : List Loc) (ls2 : Array Slot), a_rp G z2 hr2 hi2 hl2 H2 → va_S (fun q => gb G ≤ q) s.heap H2 locs2 → a_L G L2 ls2 M.2.2.1 → W p (gl G) e R s m args below meth c H2 locs2 (cells + dc) (slots + ds) Q0 (F0 m pc2 ls2 (st2.map (a_cv G)))) →
      W p (gl G) e R s m args below meth c H locs cells slots Q0 (F0 m pc ls (st.map (a_cv G)))) : x_wp T EP G M d pc L st z hr hi hl Q := by
  obtain ⟨r, z', hr', hi', hl', ⟨k1, k2, k3⟩, hq⟩ := k
  refine ⟨r, z', hr', hi', hl', ⟨by omega, by omega, fun hst hL hS p e R s m args below meth c H locs cells slots ls mc ms B e1 e2 e3 e4 e5 => ?_⟩, hq⟩
  obtain ⟨b1, b2, b3, b4, b5, b6, b7, b8, b9, b10, b11⟩ := B
  obtain ⟨o1, o2⟩ := hok hL hS
  refine hs hst hL hS p e R s m args below meth c H locs cells slots ls _ ⟨b1, b2, b3, by omega, by omega, b6, b7, b8, b9, b10, b11⟩ (fun H2 locs2 ls2 g1 g2 g3 => ?_)
  exact k3 hst o1 o2 p e R s m args below meth c H2 locs2 (cells + dc) (slots + ds) ls2 mc ms ⟨b1, b2, b3, by omega, by omega, g1, b7, g2, b9, b10, g3⟩ (by omega) (by omega) e3 e4 e5
/-- a step that leaves the heap and the locals -/
theorem x_go {pc2 : Nat} {st2 : List aV} (k : x_wp T EP G M d pc2 L st2 z hr hi hl Q) (hok : okL L → okS st → (∀ a i, r32 (hi a i)) → (∀ a i, r64 (hl a i)) → okS st2)
    (hs : okL L → okS st → ∀ (p : Program) (e : Env) (R : Room) (s : State) (m : MethodId) (args : Array Value) (below : List Frame) (meth : Method) (c : Code) (H : Heap) (locs : List Loc) (cells slots : Nat) (ls : Array Slot) (Q0 : State → Prop),
      a_B G M d 0 0 L z hr hi hl p R s m args meth c H locs cells slots ls →
      W p (gl G) e R s m args below meth c H locs cells slots Q0 (F0 m pc2 ls (st2.map (a_cv G))) →
      W p (gl G) e R s m args below meth c H locs cells slots Q0 (F0 m pc ls (st.map (a_cv G)))) : x_wp T EP G M d pc L st z hr hi hl Q := by
  obtain ⟨r, z', hr', hi', hl', ⟨k1, k2, k3⟩, hq⟩ := k
  refine ⟨r, z', hr', hi', hl', ⟨k1, k2, fun hst hL hS p e R s m args below meth c H locs cells slots ls mc ms B e1 e2 e3 e4 e5 => ?_⟩, hq⟩
  have hrp := B.2.2.2.2.2.1
  exact hs hL hS p e R s m args below meth c H locs cells slots ls _ B (k3 hst hL (hok hL hS hrp.2.2.2.2.1 hrp.2.2.2.2.2) p e R s m args below meth c H locs cells slots ls mc ms B e1 e2 e3 e4 e5)
/-- a step that writes a local alone -/
theorem x_goL {pc2 : Nat} {L2 : List (Option aV)} {st2 : List aV} (k : x_wp T EP G M d pc2 L2 st2 z hr hi hl Q) (hok : okL L → okS st → okL L2 ∧ okS st2)
    (hs : okL L → okS st → ∀ (p : Program) (e : Env) (R : Room) (s : State) (m : MethodId) (args : Array Value) (below : List Frame) (meth : Method) (c : Code) (H : Heap) (locs : List Loc) (cells slots : Nat) (ls : Array Slot) (Q0 : State → Prop),
      a_B G M d 0 0 L z hr hi hl p R s m args meth c H locs cells slots ls →
      (∀ ls2 : Array Slot, a_L G L2 ls2 M.2.2.1 → W p (gl G) e R s m args below meth c H locs cells slots Q0 (F0 m pc2 ls2 (st2.map (a_cv G)))) →
      W p (gl G) e R s m args below meth c H locs cells slots Q0 (F0 m pc ls (st.map (a_cv G)))) : x_wp T EP G M d pc L st z hr hi hl Q :=
  x_step k 0 0 rfl rfl hok (fun _ hL hS p e R s m args below meth c H locs cells slots ls Q0 B kk => hs hL hS p e R s m args below meth c H locs cells slots ls Q0 B (fun ls2 h2 => kk H locs ls2 B.2.2.2.2.2.1 B.2.2.2.2.2.2.2.1 h2))
theorem x_iconst {v : Int} (hd : decode M.2.1 pc = .ok (.iconst v, 1)) (hn : pc + 1 = n) (hv : r32 v) (k : x_wp T EP G M d n L (vI v :: st) z hr hi hl Q) : x_wp T EP G M d pc L st z hr hi hl Q := by
  subst hn
  refine x_go k (fun hL hs _ _ => okS_c hv hs) (fun hL hs p e R s m args below meth c H locs cells slots ls Q0 B kk => ?_)
  exact lv_iconst B.1.1 B.1.2.1 hd rfl kk
theorem x_bipush {v : Int} (hd : decode M.2.1 pc = .ok (.bipush v, 2)) (hn : pc + 2 = n) (hv : r32 v) (he : (Int8.ofInt v).toInt32 = Int32.ofInt v) (k : x_wp T EP G M d n L (vI v :: st) z hr hi hl Q) : x_wp T EP G M d pc L st z hr hi hl Q := by
  subst hn
  refine x_go k (fun hL hs _ _ => okS_c hv hs) (fun hL hs p e R s m args below meth c H locs cells slots ls Q0 B kk => ?_)
  exact lv_bipush B.1.1 B.1.2.1 hd he kk
theorem x_iload_n {q : Fin 4} {x : Int} (hd : decode M.2.1 pc = .ok (.iload_n q, 1)) (hn : pc + 1 = n) (hx : L[(q : Nat)]? = some (some (vI x))) (k : x_wp T EP G M d n L (vI x :: st) z hr hi hl Q) : x_wp T EP G M d pc L st z hr hi hl Q := by
  subst hn
  refine x_go k (fun hL hs _ _ => okS_c (okL_at hL hx) hs) (fun hL hs p e R s m args below meth c H locs cells slots ls Q0 B kk => ?_)
  exact lv_iload_n B.1.1 B.1.2.1 hd rfl (B.2.2.2.2.2.2.2.2.2.2.2.2 _ _ hx) kk
theorem x_aload_n {q : Fin 4} {o : Option Nat} (hd : decode M.2.1 pc = .ok (.aload_n q, 1)) (hn : pc + 1 = n) (hx : L[(q : Nat)]? = some (some (vO o))) (k : x_wp T EP G M d n L (vO o :: st) z hr hi hl Q) : x_wp T EP G M d pc L st z hr hi hl Q := by
  subst hn
  refine x_go k (fun hL hs _ _ => okS_c (okL_at hL hx) hs) (fun hL hs p e R s m args below meth c H locs cells slots ls Q0 B kk => ?_)
  cases o with
  | none => exact lv_aload_nN B.1.1 B.1.2.1 hd rfl (B.2.2.2.2.2.2.2.2.2.2.2.2 _ _ hx) kk
  | some a => exact lv_aload_n B.1.1 B.1.2.1 hd rfl (B.2.2.2.2.2.2.2.2.2.2.2.2 _ _ hx) kk
theorem x_aload {i : Nat} {o : Option Nat} (hd : decode M.2.1 pc = .ok (.aload i, 2)) (hn : pc + 2 = n) (hx : L[i]? = some (some (vO o))) (k : x_wp T EP G M d n L (vO o :: st) z hr hi hl Q) : x_wp T EP G M d pc L st z hr hi hl Q := by
  subst hn
  refine x_go k (fun hL hs _ _ => okS_c (okL_at hL hx) hs) (fun hL hs p e R s m args below meth c H locs cells slots ls Q0 B kk => ?_)
  cases o with
  | none => exact lv_aloadN B.1.1 B.1.2.1 hd (B.2.2.2.2.2.2.2.2.2.2.2.2 _ _ hx) kk
  | some a => exact lv_aload B.1.1 B.1.2.1 hd (B.2.2.2.2.2.2.2.2.2.2.2.2 _ _ hx) kk
theorem x_if_eq {x : Int} {t : Nat} {off : Int} (hd : decode M.2.1 pc = .ok (.ifCond .eq off, 3)) (ht : (pc : Int) + off = (t : Int)) (hn : pc + 3 = n) (kt : x = 0 → x_wp T EP G M d t L st z hr hi hl Q) (kf : ¬ (x = 0) → x_wp T EP G M d n L st z hr hi hl Q) : x_wp T EP G M d pc L (vI x :: st) z hr hi hl Q := by
  subst hn
  by_cases hc : x = 0
  · refine x_go (kt hc) (fun hL hs _ _ => okS_t hs) (fun hL hs p e R s m args below meth c H locs cells slots ls Q0 B kk => ?_)
    have h1 := okI' (okS_h hs)
    exact lv_if_eq B.1.1 B.1.2.1 hd ht (fun _ => kk) (fun g => absurd ((a_eq0 h1).mpr hc) g)
  · refine x_go (kf hc) (fun hL hs _ _ => okS_t hs) (fun hL hs p e R s m args below meth c H locs cells slots ls Q0 B kk => ?_)
    have h1 := okI' (okS_h hs)
    exact lv_if_eq B.1.1 B.1.2.1 hd ht (fun g => absurd ((a_eq0 h1).mp g) hc) (fun _ => kk)
theorem x_if_ne {x : Int} {t : Nat} {off : Int} (hd : decode M.2.1 pc = .ok (.ifCond .ne off, 3)) (ht : (pc : Int) + off = (t : Int)) (hn : pc + 3 = n) (kt : ¬ x = 0 → x_wp T EP G M d t L st z hr hi hl Q) (kf : x = 0 → x_wp T EP G M d n L st z hr hi hl Q) : x_wp T EP G M d pc L (vI x :: st) z hr hi hl Q := by
  subst hn
  by_cases hc : x = 0
  · refine x_go (kf hc) (fun hL hs _ _ => okS_t hs) (fun hL hs p e R s m args below meth c H locs cells slots ls Q0 B kk => ?_)
    have h1 := okI' (okS_h hs)
    exact lv_if_ne B.1.1 B.1.2.1 hd ht (fun g => absurd ((a_eq0 h1).mpr hc) g) (fun _ => kk)
  · refine x_go (kt hc) (fun hL hs _ _ => okS_t hs) (fun hL hs p e R s m args below meth c H locs cells slots ls Q0 B kk => ?_)
    have h1 := okI' (okS_h hs)
    exact lv_if_ne B.1.1 B.1.2.1 hd ht (fun _ => kk) (fun g => absurd ((a_eq0 h1).mp g) hc)
theorem x_ifnull {o : Option Nat} {t : Nat} {off : Int} (hd : decode M.2.1 pc = .ok (.ifnull off, 3)) (ht : (pc : Int) + off = (t : Int)) (hn : pc + 3 = n) (kt : o = none → x_wp T EP G M d t L st z hr hi hl Q) (kf : ∀ a, o = some a → x_wp T EP G M d n L st z hr hi hl Q) : x_wp T EP G M d pc L (vO o :: st) z hr hi hl Q := by
  subst hn
  cases o with
  | none => exact x_go (kt rfl) (fun hL hs _ _ => okS_t hs) (fun hL hs p e R s m args below meth c H locs cells slots ls Q0 B kk => lv_ifnullN B.1.1 B.1.2.1 hd ht kk)
  | some a => exact x_go (kf a rfl) (fun hL hs _ _ => okS_t hs) (fun hL hs p e R s m args below meth c H locs cells slots ls Q0 B kk => lv_ifnull B.1.1 B.1.2.1 hd kk)
theorem x_astore_n {q : Fin 4} {o : Option Nat} (hd : decode M.2.1 pc = .ok (.astore_n q, 1)) (hn : pc + 1 = n) (hL : (q : Nat) < M.2.2.1) (k : x_wp T EP G M d n (a_st L (q : Nat) (vO o)) st z hr hi hl Q) : x_wp T EP G M d pc L (vO o :: st) z hr hi hl Q := by
  subst hn
  refine x_goL k (fun hL hs => ⟨okL_st hL (okS_h hs), okS_t hs⟩) (fun _ hs p e R s m args below meth c H locs cells slots ls Q0 B kk => ?_)
  cases o with
  | none => exact lv_astore_nN B.1.1 B.1.2.1 hd rfl (B.2.2.2.2.2.2.2.2.2.2).has hL rfl (fun ls' h' => kk ls' (a_L.st1 (v := vO none) h'))
  | some a => exact lv_astore_n B.1.1 B.1.2.1 hd rfl (B.2.2.2.2.2.2.2.2.2.2).has hL rfl (fun ls' h' => kk ls' (a_L.st1 (v := vR a) h'))
theorem x_getI {idx t k a : Nat} {ki len : Int} (hd : decode M.2.1 pc = .ok (.getfield idx, 3)) (hn : pc + 3 = n) (F : a_Fl M.1.cls idx t k ki false) (hs : a_is z a t len) (kw : x_wp T EP G M d n L (vI (hi a ki) :: st) z hr hi hl Q) : x_wp T EP G M d pc L (vR a :: st) z hr hi hl Q := by
  subst hn
  refine x_go kw (fun hL hs h1 h2 => okS_c (show r32 _ from h1 _ _) (okS_t hs)) (fun hL hS p e R s m args below meth c H locs cells slots ls Q0 B kk => ?_)
  have := a_getW (rest := st.map (a_cv G)) (Q0 := Q0) (e := e) (below := below) B F hs hd (by unfold a_fv; rw [if_neg (by rw [F.2.2.2.2]; decide)]; exact kk)
  rwa [← a_cvR (a_lt9 B hs)] at this
/-- a call, once its run is known -/
theorem x_callW {M2 : aM} {d2 : Nat} {As : List aV} {st0 : List aV} {Q1 : Option aV → aZ → aR → aI → aI → Prop} (hn : pc + 3 = n) (hst0 : st0 = As.reverse ++ st) (C : a_ct G M2 d2 As z hr hi hl Q1)
    (hw : ∀ (r : Option aV) (z' : aZ) (hr' : aR) (hi' hl' : aI), a_stab G → z.1 ≤ z'.1 → z.2.1 ≤ z'.2.1 → Met (gl G) M2.1 (a_ws M2) (a_rm d2 z z') (a_Pc G As z hr hi hl) (a_Qc G r z' hr' hi' hl') (z'.1 - z.1) (z'.2.1 - z.2.1) (fun q => gb G ≤ q) →
      ∀ (p : Program) (e : Env) (R : Room) (s : State) (m : MethodId) (args : Array Value) (below : List Frame) (meth : Method) (c : Code) (H : Heap) (locs : List Loc) (cells slots : Nat) (ls : Array Slot), a_B G M d 0 0 L z hr hi hl p R s m args meth c H locs cells slots ls → cells + (z'.1 - z.1) ≤ R.cells → slots + (z'.2.1 - z.2.1) ≤ R.slots →
      va_Run p (gl G) e R s m args below meth c H locs cells slots (z'.1 - z.1) (z'.2.1 - z.2.1) (F0 m pc ls (st0.map (a_cv G))) (st.map (a_cv G)) (a_Qc G r z' hr' hi' hl' (As.map (a_cv G)).toArray) (fun q => gb G ≤ q))
    (k : ∀ r z' hr' hi' hl', Q1 r z' hr' hi' hl' → x_wp T EP G M d n L (r.toList ++ st) z' hr' hi' hl' Q) : x_wp T EP G M d pc L st0 z hr hi hl Q := by
  subst hn; subst hst0
  obtain ⟨r1, z1, hr1, hi1, hl1, ⟨c1, c2, c3⟩, hq1⟩ := C
  obtain ⟨r, z', hr', hi', hl', ⟨k1, k2, k3⟩, hq⟩ := k r1 z1 hr1 hi1 hl1 hq1
  refine ⟨r, z', hr', hi', hl', ⟨Nat.le_trans c1 k1, Nat.le_trans c2 k2, fun hst hL hS p e R s m args below meth c H locs cells slots ls mc ms B e1 e2 e3 e4 e5 => ?_⟩, hq⟩
  have hAs : okS As := fun v hv => hS v (List.mem_append_left _ (List.mem_reverse.mpr hv))
  have hst2 : okS st := fun v hv => hS v (List.mem_append_right _ hv)
  have hrun := hw r1 z1 hr1 hi1 hl1 hst c1 c2 (c3 hst hAs) p e R s m args below meth c H locs cells slots ls B (by omega) (by omega)
  refine a_cont hrun B c1 (fun H2 locs2 g1 g2 g3 => ?_)
  have hB := B
  obtain ⟨b1, b2, b3, b4, b5, b6, b7, b8, b9, b10, b11⟩ := hB
  have h9 := k3 hst hL (fun v hv => by
    rcases List.mem_append.mp hv with q | q
    · cases r1 with
      | none => cases q
      | some v1 => rw [List.mem_singleton.mp q]; exact g3 v1 rfl
    · exact hst2 v q) p e R s m args below meth c H2 locs2 (cells + (z1.1 - z.1)) (slots + (z1.2.1 - z.2.1)) ls mc ms ⟨b1, b2, b3, by omega, by omega, g1, b7, g2, b9, b10, b11⟩ (by omega) (by omega) e3 e4 e5
  rw [List.map_append] at h9
  cases r1 with
  | none => exact h9
  | some v1 => exact h9
theorem x_callV {M2 : aM} {d2 idx b t : Nat} {len : Int} {As st0 : List aV} {Q1 : Option aV → aZ → aR → aI → aI → Prop} (hd : decode M.2.1 pc = .ok (.invokevirtual idx, 3)) (hn : pc + 3 = n) (C : a_ct G M2 d2 (vR b :: As) z hr hi hl Q1) (K : a_Ok M2 As.length) (hlink : Cond.methodLink M.1.cls idx M2.1 ∈ lw_tbl) (hin : Cond.instanceMethod M2.1 ∈ lw_tbl) (hsel : Cond.selects (a_Rn t) M2.1 M2.1 ∈ lw_tbl) (ht : t < 11) (hdd : d2 + 1 ≤ d) (hb : a_is z b t len) (hst0 : st0 = As.reverse ++ vR b :: st) (hw : (st.map a_cat).sum ≤ 8)
    (k : ∀ r z' hr' hi' hl', Q1 r z' hr' hi' hl' → x_wp T EP G M d n L (r.toList ++ st) z' hr' hi' hl' Q) : x_wp T EP G M d pc L st0 z hr hi hl Q := by
  refine x_callW hn (by rw [hst0]; simp) C (fun r z' hr' hi' hl' hst g1 g2 hM p e R s m args below meth c H locs cells slots ls B h1 h2 => ?_) k
  subst hst0
  have hrp := B.2.2.2.2.2.1
  have hbr : a_cv G (vR b) = .ref (gc G b) := a_cvR (a_lt9 B hb)
  obtain ⟨cellB, q1, q2, q3, -⟩ := a_obj hrp hb ht
  have hU : ∀ U : State, U.heap = H → s.WarmedH U.vm → a_Pc G (vR b :: As) z hr hi hl (Value.ref (gc G b) :: As.map (a_cv G)).toArray U := fun U hU hW => by
    have := a_pcU (As := vR b :: As) hst B U hU hW
    rwa [List.map_cons, hbr] at this
  have hrun := va_runV (C := a_Rn t) (b := gc G b) (As := As.map (a_cv G)) (rest := st.map (a_cv G)) (n := As.length) (g := F0 m pc ls ((As.map (a_cv G)).reverse ++ Value.ref (gc G b) :: st.map (a_cv G))) (cells := cells) (slots := slots) (locs := locs) (e := e) (below := below) (meth := meth) ⟨B.1.1, B.1.2.1, B.1.2.2.1, B.1.2.2.2.1, B.1.ts⟩ hM ⟨a_CB B K hlink hdd, B.1.2.2.2.2.1 _ hin rfl, B.1.2.2.2.2.1 _ hsel rfl⟩ ⟨a_blind hst, ⟨cellB, q1, by rw [q3]; rfl, by rw [q2]; exact (B.2.2.2.2.2.2.1.1.1 t _ (a_vw t ht)).2.1⟩, hU⟩ rfl (by simp) B.2.2.2.2.2.2.2.2.2.2.1 rfl (lv_room (by rw [a_cats]; exact hw)) hd ⟨h1, h2⟩
  rw [List.map_append, List.map_cons, List.map_reverse, List.map_cons, hbr]
  exact hrun
theorem x_callS {M2 : aM} {d2 idx : Nat} {As st0 : List aV} {Q1 : Option aV → aZ → aR → aI → aI → Prop} (hd : decode M.2.1 pc = .ok (.invokestatic idx, 3)) (hn : pc + 3 = n) (C : a_ct G M2 d2 As z hr hi hl Q1) (K : a_Ok M2 As.length) (hlink : Cond.methodLink M.1.cls idx M2.1 ∈ lw_tbl) (hsta : Cond.static M2.1 ∈ lw_tbl) (hdd : d2 + 1 ≤ d) (hst0 : st0 = As.reverse ++ st) (hw : (st.map a_cat).sum ≤ 8)
    (k : ∀ r z' hr' hi' hl', Q1 r z' hr' hi' hl' → x_wp T EP G M d n L (r.toList ++ st) z' hr' hi' hl' Q) : x_wp T EP G M d pc L st0 z hr hi hl Q := by
  refine x_callW hn hst0 C (fun r z' hr' hi' hl' hst g1 g2 hM p e R s m args below meth c H locs cells slots ls B h1 h2 => ?_) k
  subst hst0
  exact va_runS (As := As.map (a_cv G)) (rest := st.map (a_cv G)) (n := As.length) ⟨B.1.1, B.1.2.1, B.1.2.2.1, B.1.2.2.2.1, B.1.ts⟩ hM ⟨a_CB B K hlink hdd, B.1.2.2.2.2.1 _ hsta rfl⟩ ⟨a_blind hst, fun U hU hW => a_pcU hst B U hU hW⟩ rfl (by simp) B.2.2.2.2.2.2.2.2.2.2.1 (by rw [List.map_append, List.map_reverse]) (lv_room (by rw [a_cats]; exact hw)) hd ⟨h1, h2⟩
end X1
/-- a body that returns -/
def eR : eP := fun G below args s mc ms r z' hr' hi' hl' => MQ below (a_Qc G r z' hr' hi' hl') args s mc ms (fun q => gb G ≤ q)
/-- what a thrown NoSuchElementException leaves -/
def xC (G : aG) (z' : aZ) (hr' : aR) (hi' hl' : aI) : String → State → State → Prop := fun E _ t => E = "java/util/NoSuchElementException" ∧ a_rp G z' hr' hi' hl' t.heap
/-- a body that throws it -/
def eT : eP := fun G below args s mc ms _ z' hr' hi' hl' => vx_MQ below (fun _ _ _ _ => False) (xC G z' hr' hi' hl') args s mc ms (fun q => gb G ≤ q)
def noT : Code → Prop := fun c => ∀ x ∈ c.exceptionTable.toList, False
section X2
variable {T : Code → Prop} {G : aG} {M : aM} {d pc n : Nat} {L : List (Option aV)} {st : List aV} {z : aZ} {hr : aR} {hi hl : aI} {Q : Option aV → aZ → aR → aI → aI → Prop}
theorem a_wp.x (h : a_wp G M d pc L st z hr hi hl Q) : x_wp T eR G M d pc L st z hr hi hl Q := by
  obtain ⟨r, z', hr', hi', hl', ⟨k1, k2, k3⟩, hq⟩ := h
  exact ⟨r, z', hr', hi', hl', ⟨k1, k2, fun hst hL hS p e R s m args below meth c H locs cells slots ls mc ms B e1 e2 e3 e4 _ => k3 hst hL hS p e R s m args below meth c H locs cells slots ls mc ms B e1 e2 e3 e4⟩, hq⟩
end X2
