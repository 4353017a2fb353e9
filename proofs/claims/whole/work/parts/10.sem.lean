/-! A small machine of my own over the kit's: whole numbers are Int, references are numbers counted from the law's first new cell, the heap is four functions. a_wp is a judgement over the machine itself (no interpreter): each row here turns it at an instruction into itself at the next. -/
abbrev aV : Type := Int ⊕ (Int ⊕ Option Nat)
abbrev vI (i : Int) : aV := Sum.inl i
abbrev vJ (i : Int) : aV := Sum.inr (Sum.inl i)
abbrev vO (o : Option Nat) : aV := Sum.inr (Sum.inr o)
abbrev vR (a : Nat) : aV := Sum.inr (Sum.inr (some a))
/-- how many cells there are, how many slots they have, and of each its kind (a class's number, or 20 int[], 21 long[], 22 boolean[], 23 Plant[], 24 Bed[]; beyond 30: nothing is said) and its length -/
abbrev aZ : Type := Nat × Nat × (Nat → Nat × Int)
abbrev aR : Type := Nat → Int → Option Nat
abbrev aI : Type := Nat → Int → Int
abbrev aG : Type := Launch × (Nat × Bool) × Heap × (Nat → ClassId) × (Nat → Nat → Nat) × (Nat → ClassId) × (Nat → Nat) × (State → Prop)
abbrev gl (G : aG) : Launch := G.1
abbrev gb (G : aG) : Nat := G.2.1.1
/-- are the cells counted by my numbers, or as they were made? -/
abbrev gq (G : aG) : Bool := G.2.1.2
abbrev gH (G : aG) : Heap := G.2.2.1
abbrev gC (G : aG) : Nat → ClassId := G.2.2.2.1
abbrev gI (G : aG) : Nat → Nat → Nat := G.2.2.2.2.1
abbrev gA (G : aG) : Nat → ClassId := G.2.2.2.2.2.1
abbrev gE (G : aG) : Nat → Nat := G.2.2.2.2.2.2.1
abbrev gX (G : aG) : State → Prop := G.2.2.2.2.2.2.2
/-- my numbers: MovePlan's prices, made as the 12th, is 80 -/
def ad (f : Bool) (a : Nat) : Nat := if f = true then (if a < 11 then a else if a < 80 then a + 1 else if a = 80 then 11 else a) else a
def gc (G : aG) (a : Nat) : Nat := gb G + ad (gq G) a
def gZ (G : aG) (n : Nat) : Prop := n < 1000000000 ∧ (gq G = true → 81 ≤ n)
theorem ad_i {f : Bool} {a b : Nat} (h : b ≠ a) : ad f b ≠ ad f a := by
  unfold ad
  split
  · repeat' split
    all_goals omega
  · exact h
theorem gc_n {G : aG} {a b : Nat} (h : b ≠ a) : gc G b ≠ gc G a := fun e => ad_i (f := gq G) h (Nat.add_left_cancel e)
theorem gc_lo {G : aG} {a : Nat} : gb G ≤ gc G a := Nat.le_add_right _ _
theorem ad_hi {f : Bool} {n a : Nat} (h : f = true → 81 ≤ n) (ha : a < n) : ad f a < n := by
  unfold ad
  split
  · rename_i e
    have := h e
    repeat' split
    all_goals omega
  · exact ha
theorem ad_new {f : Bool} {n : Nat} (h : f = true → 81 ≤ n) : ad f n = n := by
  unfold ad
  split
  · rename_i e
    have := h e
    repeat' split
    all_goals omega
  · rfl
theorem gc_hi {G : aG} {n a : Nat} (h : gZ G n) (ha : a < n) : gc G a < gb G + n := Nat.add_lt_add_left (ad_hi h.2 ha) _
theorem gc_new {G : aG} {n : Nat} (h : gZ G n) : gc G n = gb G + n := by unfold gc; rw [ad_new h.2]
def r32 (x : Int) : Prop := -2147483648 ≤ x ∧ x < 2147483648
def r64 (x : Int) : Prop := -9223372036854775808 ≤ x ∧ x < 9223372036854775808
def a_ok : aV → Prop
  | .inl i => r32 i
  | .inr (.inl j) => r64 j
  | .inr (.inr _) => True
def a_ca (G : aG) (a : Nat) : Nat := if a < 1000000000 then gc G a else gE G (a - 1000000000)
def a_cv (G : aG) : aV → Value
  | .inl i => .int (Int32.ofInt i)
  | .inr (.inl j) => .long (Int64.ofInt j)
  | .inr (.inr o) => va_rf (o.map (a_ca G))
def a_ty (t : Nat) : Nat → FieldType := match t with
  | 0 => tyX0
  | 1 => tyX1
  | 2 => tyX2
  | 3 => tyX3
  | 4 => tyX4
  | 5 => tyX5
  | 6 => tyX6
  | 7 => tyX7
  | 8 => tyX8
  | 9 => tyX9
  | _ => tyX10
def a_nf (t : Nat) : Nat := match t with
  | 0 => 3
  | 1 => 7
  | 2 => 8
  | 3 => 17
  | 4 => 5
  | 5 => 8
  | 6 => 2
  | 7 => 2
  | 8 => 4
  | 9 => 12
  | _ => 56
def a_isR (ty : FieldType) : Bool := match ty with
  | .object _ => true
  | .array _ => true
  | _ => false
def a_fv (G : aG) (t k : Nat) (x : Int) (r : Option Nat) : Value := if a_isR (a_ty t k) = true then va_rf (r.map (a_ca G)) else .int (Int32.ofInt x)
def a_av (G : aG) (t : Nat) (x l : Int) (r : Option Nat) : Value := if t = 21 then .long (Int64.ofInt l) else if t = 23 ∨ t = 24 then va_rf (r.map (a_ca G)) else .int (Int32.ofInt x)
def a_cell (G : aG) (z : aZ) (hr : aR) (hi hl : aI) (a : Nat) (H : Heap) : Prop :=
  if (z.2.2 a).1 < 11 then t_OB (gc G a) (gC G (z.2.2 a).1) (a_nf (z.2.2 a).1) (gI G (z.2.2 a).1) H (fun k => a_fv G (z.2.2 a).1 k (hi a k) (hr a k))
  else if (z.2.2 a).1 < 30 then H[gc G a]? = some (arrV (gA G (z.2.2 a).1) (z.2.2 a).2.toNat (fun j => a_av G (z.2.2 a).1 (hi a j) (hl a j) (hr a j)))
  else True
/-- the heap is as the four functions say -/
def a_rp (G : aG) (z : aZ) (hr : aR) (hi hl : aI) (H : Heap) : Prop :=
  H.size = gb G + z.1 ∧ gZ G z.1 ∧ (∀ a, a < z.1 → a_cell G z hr hi hl a H) ∧ (∀ q, q < gb G → H[q]? = (gH G)[q]?) ∧ (∀ a i, r32 (hi a i)) ∧ ∀ a i, r64 (hl a i)
abbrev a_tys (G : aG) : List (ClassId × FieldType) := [(gA G 20, .int), (gA G 21, .long), (gA G 22, .boolean), (gA G 23, .object RX3), (gA G 24, .object RX0)]
def a_wK (G : aG) (U : State) : Prop := va_K (gC G, gI G) vwCl (a_tys G) U ∧ gX G U
def a_stab (G : aG) : Prop := ∀ s U : State, s.WarmedH U.vm → gb G ≤ s.heap.size → gb G ≤ U.heap.size → (∀ q, q < gb G → U.heap[q]? = s.heap[q]?) → gX G s → gX G U
/-- the locals: what is listed is held -/
def a_L (G : aG) (L : List (Option aV)) (ls : Array Slot) (nL : Nat) : Prop := ls.size = nL ∧ lv_wf ls ∧ ∀ (i : Nat) (v : aV), L[i]? = some (some v) → ls[i]? = some (.val (a_cv G v))
def a_Cx (M : aM) (p : Program) (s : State) (m : MethodId) (args : Array Value) (meth : Method) (c : Code) : Prop :=
  p.tables.exec = Jvm.exec ∧ c.code = M.2.1 ∧ c.maxLocals = M.2.2.1 ∧ s.vm.findClass M.1.cls = some m.cls ∧ (∀ w ∈ lw_tbl, goodWord w = true → w.before args s = true) ∧ meth.sig.returnType = M.2.2.2 ∧ meth.locks = false ∧ meth.name = M.1.name
def a_Qc (G : aG) (r : Option aV) (z : aZ) (hr : aR) (hi hl : aI) : Array Value → State → Outcome → State → Prop := fun _ _ o t =>
  o = .returned (r.map (a_cv G)) ∧ a_rp G z hr hi hl t.heap ∧ ∀ v, r = some v → a_ok v
def okL (L : List (Option aV)) : Prop := ∀ v, some v ∈ L → a_ok v
def okS (st : List aV) : Prop := ∀ v ∈ st, a_ok v
/-- what a row may use of the machine where it stands -/
def a_B (G : aG) (M : aM) (d dc ds : Nat) (L : List (Option aV)) (z : aZ) (hr : aR) (hi hl : aI) (p : Program) (R : Room) (s : State) (m : MethodId) (args : Array Value) (meth : Method) (c : Code) (H : Heap) (locs : List Loc) (cells slots : Nat) (ls : Array Slot) : Prop :=
  a_Cx M p s m args meth c ∧ d ≤ R.frames ∧ 40 * d ≤ R.locals ∧ cells + dc ≤ R.cells ∧ slots + ds ≤ R.slots ∧ a_rp G z hr hi hl H ∧ a_wK G s ∧ va_S (fun q => gb G ≤ q) s.heap H locs ∧ gb G ≤ s.heap.size ∧ (∀ q, q < gb G → s.heap[q]? = (gH G)[q]?) ∧ a_L G L ls M.2.2.1
def a_W (G : aG) (M : aM) (d pc : Nat) (L : List (Option aV)) (st : List aV) (z : aZ) (hr : aR) (hi hl : aI) (r : Option aV) (z' : aZ) (hr' : aR) (hi' hl' : aI) : Prop :=
  z.1 ≤ z'.1 ∧ z.2.1 ≤ z'.2.1 ∧ (a_stab G → okL L → okS st →
  ∀ (p : Program) (e : Env) (R : Room) (s : State) (m : MethodId) (args : Array Value) (below : List Frame) (meth : Method) (c : Code) (H : Heap) (locs : List Loc) (cells slots : Nat) (ls : Array Slot) (mc ms : Nat),
    a_B G M d 0 0 L z hr hi hl p R s m args meth c H locs cells slots ls → cells + z'.1 = mc + z.1 → slots + z'.2.1 = ms + z.2.1 → mc ≤ R.cells → ms ≤ R.slots →
    W p (gl G) e R s m args below meth c H locs cells slots (MQ below (a_Qc G r z' hr' hi' hl') args s mc ms (fun q => gb G ≤ q)) (F0 m pc ls (st.map (a_cv G))))
def a_wp (G : aG) (M : aM) (d pc : Nat) (L : List (Option aV)) (st : List aV) (z : aZ) (hr : aR) (hi hl : aI) (Q : Option aV → aZ → aR → aI → aI → Prop) : Prop :=
  ∃ r z' hr' hi' hl', a_W G M d pc L st z hr hi hl r z' hr' hi' hl' ∧ Q r z' hr' hi' hl'
section A
variable {G : aG} {M : aM} {d pc : Nat} {L : List (Option aV)} {st : List aV} {z : aZ} {hr : aR} {hi hl : aI} {Q : Option aV → aZ → aR → aI → aI → Prop}
theorem a_wp.mono {Q2 : Option aV → aZ → aR → aI → aI → Prop} (h : a_wp G M d pc L st z hr hi hl Q) (hq : ∀ r z' hr' hi' hl', Q r z' hr' hi' hl' → Q2 r z' hr' hi' hl') : a_wp G M d pc L st z hr hi hl Q2 := by
  obtain ⟨r, z', hr', hi', hl', h1, h2⟩ := h
  exact ⟨r, z', hr', hi', hl', h1, hq _ _ _ _ _ h2⟩
/-- one step: whatever it changes -/
theorem a_step {pc2 : Nat} {L2 : List (Option aV)} {st2 : List aV} {z2 : aZ} {hr2 : aR} {hi2 hl2 : aI} (k : a_wp G M d pc2 L2 st2 z2 hr2 hi2 hl2 Q) (dc ds : Nat) (hz1 : z2.1 = z.1 + dc) (hz2 : z2.2.1 = z.2.1 + ds)
    (hok : okL L → okS st → okL L2 ∧ okS st2)
    (hs : a_stab G → okL L → okS st → ∀ (p : Program) (e : Env) (R : Room) (s : State) (m : MethodId) (args : Array Value) (below : List Frame) (meth : Method) (c : Code) (H : Heap) (locs : List Loc) (cells slots : Nat) (ls : Array Slot) (Q0 : State → Prop),
      a_B G M d dc ds L z hr hi hl p R s m args meth c H locs cells slots ls →
      (∀ (H2 : Heap) (locs2 : List Loc) (ls2 : Array Slot), a_rp G z2 hr2 hi2 hl2 H2 → va_S (fun q => gb G ≤ q) s.heap H2 locs2 → a_L G L2 ls2 M.2.2.1 → W p (gl G) e R s m args below meth c H2 locs2 (cells + dc) (slots + ds) Q0 (F0 m pc2 ls2 (st2.map (a_cv G)))) →
      W p (gl G) e R s m args below meth c H locs cells slots Q0 (F0 m pc ls (st.map (a_cv G)))) : a_wp G M d pc L st z hr hi hl Q := by
  obtain ⟨r, z', hr', hi', hl', ⟨k1, k2, k3⟩, hq⟩ := k
  refine ⟨r, z', hr', hi', hl', ⟨by omega, by omega, fun hst hL hS p e R s m args below meth c H locs cells slots ls mc ms B e1 e2 e3 e4 => ?_⟩, hq⟩
  obtain ⟨b1, b2, b3, b4, b5, b6, b7, b8, b9, b10, b11⟩ := B
  obtain ⟨o1, o2⟩ := hok hL hS
  refine hs hst hL hS p e R s m args below meth c H locs cells slots ls _ ⟨b1, b2, b3, by omega, by omega, b6, b7, b8, b9, b10, b11⟩ (fun H2 locs2 ls2 g1 g2 g3 => ?_)
  exact k3 hst o1 o2 p e R s m args below meth c H2 locs2 (cells + dc) (slots + ds) ls2 mc ms ⟨b1, b2, b3, by omega, by omega, g1, b7, g2, b9, b10, g3⟩ (by omega) (by omega) e3 e4
/-- a step that leaves the heap and the locals -/
theorem a_go {pc2 : Nat} {st2 : List aV} (k : a_wp G M d pc2 L st2 z hr hi hl Q) (hok : okL L → okS st → (∀ a i, r32 (hi a i)) → (∀ a i, r64 (hl a i)) → okS st2)
    (hs : okL L → okS st → ∀ (p : Program) (e : Env) (R : Room) (s : State) (m : MethodId) (args : Array Value) (below : List Frame) (meth : Method) (c : Code) (H : Heap) (locs : List Loc) (cells slots : Nat) (ls : Array Slot) (Q0 : State → Prop),
      a_B G M d 0 0 L z hr hi hl p R s m args meth c H locs cells slots ls →
      W p (gl G) e R s m args below meth c H locs cells slots Q0 (F0 m pc2 ls (st2.map (a_cv G))) →
      W p (gl G) e R s m args below meth c H locs cells slots Q0 (F0 m pc ls (st.map (a_cv G)))) : a_wp G M d pc L st z hr hi hl Q := by
  obtain ⟨r, z', hr', hi', hl', ⟨k1, k2, k3⟩, hq⟩ := k
  refine ⟨r, z', hr', hi', hl', ⟨k1, k2, fun hst hL hS p e R s m args below meth c H locs cells slots ls mc ms B e1 e2 e3 e4 => ?_⟩, hq⟩
  have hrp := B.2.2.2.2.2.1
  exact hs hL hS p e R s m args below meth c H locs cells slots ls _ B (k3 hst hL (hok hL hS hrp.2.2.2.2.1 hrp.2.2.2.2.2) p e R s m args below meth c H locs cells slots ls mc ms B e1 e2 e3 e4)
end A
theorem a_toI {x : Int} (h : r32 x) : (Int32.ofInt x).toInt = x := Int32.toInt_ofInt_of_le (by have := h.1; omega) (by have := h.2; omega)
theorem a_lt {x y : Int} (hx : r32 x) (hy : r32 y) : Int32.ofInt x < Int32.ofInt y ↔ x < y := by rw [Int32.lt_iff_toInt_lt, a_toI hx, a_toI hy]
theorem a_le {x y : Int} (hx : r32 x) (hy : r32 y) : Int32.ofInt x ≤ Int32.ofInt y ↔ x ≤ y := by rw [Int32.le_iff_toInt_le, a_toI hx, a_toI hy]
theorem a_eq {x y : Int} (hx : r32 x) (hy : r32 y) : Int32.ofInt x = Int32.ofInt y ↔ x = y := by rw [← Int32.toInt_inj, a_toI hx, a_toI hy]
theorem r32_0 : r32 0 := ⟨by decide, by decide⟩
theorem a_lt0 {x : Int} (hx : r32 x) : Int32.ofInt x < 0 ↔ x < 0 := a_lt hx r32_0
theorem a_le0 {x : Int} (hx : r32 x) : Int32.ofInt x ≤ 0 ↔ x ≤ 0 := a_le hx r32_0
theorem a_eq0 {x : Int} (hx : r32 x) : Int32.ofInt x = 0 ↔ x = 0 := a_eq hx r32_0
theorem a_0le {x : Int} (hx : r32 x) : 0 ≤ Int32.ofInt x ↔ 0 ≤ x := a_le r32_0 hx
theorem a_0lt {x : Int} (hx : r32 x) : 0 < Int32.ofInt x ↔ 0 < x := a_lt r32_0 hx
theorem a_cl {x : Int} (hx : r32 x) : (Int32.ofInt x).toNatClampNeg = x.toNat := Int32.toNatClampNeg_ofInt_of_le (by have := hx.1; omega) (by have := hx.2; omega)
theorem r32_of (x : Int32) : r32 x.toInt := ⟨by have := x.le_toInt; omega, by have := x.toInt_lt; omega⟩
theorem a_ofI (x : Int32) : Int32.ofInt x.toInt = x := Int32.ofInt_toInt x
theorem a_toJ {x : Int} (h : r64 x) : (Int64.ofInt x).toInt = x := Int64.toInt_ofInt_of_le (by have := h.1; omega) (by have := h.2; omega)
theorem okS_c {v : aV} {st : List aV} (h : a_ok v) (hs : okS st) : okS (v :: st) := fun w hw => (List.mem_cons.mp hw).elim (fun e => e ▸ h) (hs w)
theorem okS_t {v : aV} {st : List aV} (hs : okS (v :: st)) : okS st := fun w hw => hs w (List.mem_cons_of_mem _ hw)
theorem okS_h {v : aV} {st : List aV} (hs : okS (v :: st)) : a_ok v := hs v List.mem_cons_self
theorem okI {i : Int} (h : r32 i) : a_ok (vI i) := h
theorem okI' {i : Int} (h : a_ok (vI i)) : r32 i := h
theorem okO (o : Option Nat) : a_ok (vO o) := trivial
