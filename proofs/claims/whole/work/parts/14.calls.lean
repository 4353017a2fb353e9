/-! what is made new; calls; ends; contracts -/
def a_al (z : aZ) (t : Nat) (len : Int) : aZ := (z.1 + 1, z.2.1 + len.toNat, fun b => if b = z.1 then (t, len) else z.2.2 b)
def cl0 {α : Type} (f : Nat → Int → α) (a : Nat) (v : α) : Nat → Int → α := fun b j => if b = a then v else f b j
theorem cl0_s {α : Type} {f : Nat → Int → α} {a : Nat} {v : α} {j : Int} : cl0 f a v a j = v := by simp [cl0]
theorem cl0_n {α : Type} {f : Nat → Int → α} {a b : Nat} {v : α} {j : Int} (h : b ≠ a) : cl0 f a v b j = f b j := by simp [cl0, h]
theorem cl0_r {f : aI} {a : Nat} {v : Int} {P : Int → Prop} (h : ∀ a i, P (f a i)) (hv : P v) : ∀ b j, P (cl0 f a v b j) := fun b j => by
  unfold cl0; split
  · exact hv
  · exact h b j
theorem r64_0 : r64 0 := ⟨by decide, by decide⟩
theorem a_al_new {z : aZ} {t : Nat} {len : Int} : a_is (a_al z t len) z.1 t len := ⟨Nat.lt_succ_self _, by simp [a_al]⟩
theorem a_is.al {z : aZ} {a t t2 : Nat} {len l2 : Int} (h : a_is z a t len) : a_is (a_al z t2 l2) a t len := ⟨Nat.lt_succ_of_lt h.1, by have := h.1; simp [a_al, Nat.ne_of_lt this, h.2]⟩
theorem a_rp.new {G : aG} {z : aZ} {hr : aR} {hi hl : aI} {H H2 : Heap} {t : Nat} {len : Int} (h : a_rp G z hr hi hl H) (hz : z.1 + 1 < 1000000000) (h1 : H2.size = H.size + 1) (h2 : ∀ q : Nat, q < H.size → H2[q]? = H[q]?) (hc : a_cell G (a_al z t len) (cl0 hr z.1 none) (cl0 hi z.1 0) (cl0 hl z.1 0) z.1 H2) : a_rp G (a_al z t len) (cl0 hr z.1 none) (cl0 hi z.1 0) (cl0 hl z.1 0) H2 := by
  have hsz := h.1
  refine ⟨by rw [h1, hsz]; rfl, ⟨hz, fun q => Nat.le_succ_of_le (h.2.1.2 q)⟩, fun b hb => ?_, fun q hq => by rw [h2 q (by omega)]; exact h.2.2.2.1 q hq, cl0_r h.2.2.2.2.1 r32_0, cl0_r h.2.2.2.2.2 r64_0⟩
  by_cases e : b = z.1
  · subst e; exact hc
  · have hb2 : b < z.1 := by have : b < z.1 + 1 := hb; omega
    have h9 := a_cellq (hr2 := cl0 hr z.1 none) (hi2 := cl0 hi z.1 0) (hl2 := cl0 hl z.1 0) (h.2.2.1 b hb2) (fun j => cl0_n e) (fun j => cl0_n e) (fun j => cl0_n e) (h2 _ (by rw [hsz]; exact gc_hi h.2.1 hb2))
    unfold a_cell at h9 ⊢
    have ez : (a_al z t len).2.2 b = z.2.2 b := by simp [a_al, e]
    rw [ez]
    exact h9
theorem a_dv {G : aG} (t : Nat) (h : t < 11) : ∀ k, k < a_nf t → defaultValue (a_ty t k) = a_fv G t k 0 none := by
  have key : ∀ k, k < a_nf t → defaultValue (a_ty t k) = if a_isR (a_ty t k) = true then Value.null else Value.int 0 :=
    a_11 (P := fun t => ∀ k, k < a_nf t → defaultValue (a_ty t k) = if a_isR (a_ty t k) = true then Value.null else Value.int 0) (by decide +kernel) (by decide +kernel) (by decide +kernel) (by decide +kernel) (by decide +kernel) (by decide +kernel) (by decide +kernel) (by decide +kernel) (by decide +kernel) (by decide +kernel) (by decide +kernel) t h
  intro k hk
  rw [key k hk]
  rfl
section D
variable {G : aG} {M : aM} {d pc n : Nat} {L : List (Option aV)} {st : List aV} {z : aZ} {hr : aR} {hi hl : aI} {Q : Option aV → aZ → aR → aI → aI → Prop}
theorem a_S1 {s : State} {H H2 : Heap} {locs : List Loc} (hS : va_S (fun q => gb G ≤ q) s.heap H locs) (h1 : H2.size = H.size + 1) (h2 : ∀ q : Nat, q < H.size → H2[q]? = H[q]?) : va_S (fun q => gb G ≤ q) s.heap H2 locs :=
  ⟨by have := hS.1; omega, fun q g1 g2 => (h2 q (Nat.lt_of_lt_of_le g1 hS.1)).trans (hS.2.1 q g1 g2), hS.2.2⟩
theorem a_new {idx t : Nat} {len : Int} (hd : decode M.2.1 pc = .ok (.new idx, 3)) (hn : pc + 3 = n) (ht : t < 11) (hlen : len.toNat = a_nf t) (hcl : Cond.classLink M.1.cls idx (a_Rn t) ∈ lw_tbl) (hins : Cond.instantiable (a_Rn t) (a_nf t) ∈ lw_tbl) (hini : Cond.initialized (a_Rn t) ∈ lw_tbl) (hz : z.1 + 1 < 1000000000)
    (k : a_wp G M d n L (vR z.1 :: st) (a_al z t len) (cl0 hr z.1 none) (cl0 hi z.1 0) (cl0 hl z.1 0) Q) : a_wp G M d pc L st z hr hi hl Q := by
  subst hn
  refine a_step k 1 len.toNat rfl rfl (fun hL hs => ⟨hL, okS_c trivial hs⟩) (fun _ hL hS p e R s m args below meth c H locs cells slots ls Q0 B kk => ?_)
  have hrp := B.2.2.2.2.2.1
  have hts := B.1.2.2.2.2.1
  have hKn := B.2.2.2.2.2.2.1.1.1 t _ (a_vw t ht)
  refine W.newcK (n := len.toNat) B.1.1 B.1.2.1 B.1.2.2.2.1 (hts _ hcl rfl) (by rw [hlen]; exact hts _ hins rfl) (hts _ hini rfl) rfl hd B.2.2.2.1 B.2.2.2.2.1 hKn.2.1 rfl fun H1 kC hkC e1 z1 o1 => ?_
  have hb := u_born (a_ty t) B.1.ts (a_in t ht) hKn hkC e1 (a_tyok t ht)
  have hw := kk H1 locs ls (hrp.new hz z1 o1 (by
    unfold a_cell
    rw [show (a_al z t len).2.2 z.1 = (t, len) from a_al_new.2, if_pos ht]
    rw [hrp.1, ← gc_new hrp.2.1] at hb
    refine hb.to (fun j hj => ?_)
    rw [cl0_s, cl0_s]
    exact a_dv t ht j hj)) (a_S1 B.2.2.2.2.2.2.2.1 z1 o1) B.2.2.2.2.2.2.2.2.2.2
  have he : a_cv G (vR z.1) = .ref H.size := by rw [a_cvR hrp.2.1.1, gc_new hrp.2.1, hrp.1]
  rw [List.map_cons, he] at hw
  exact hw
theorem a_newaW {at_ : ArrayType} {t : Nat} {x : Int} (hd : decode M.2.1 pc = .ok (.newarray at_, 2)) (hn : pc + 2 = n) (ht : 11 ≤ t ∧ t < 30) (harr : Cond.arrayClass (newarray.typeOf at_) ∈ lw_tbl) (hR : ∀ s, a_wK G s → s.vm.findClass ("[" ++ (newarray.typeOf at_).toString) = some (gA G t)) (hdv : defaultValue (newarray.typeOf at_) = a_av G t 0 0 none) (hx : 0 ≤ x) (hx2 : x ≤ 1000000) (hcb : componentBytes (newarray.typeOf at_) ≤ 8) (hz : z.1 + 1 < 1000000000)
    (k : a_wp G M d n L (vR z.1 :: st) (a_al z t x) (cl0 hr z.1 none) (cl0 hi z.1 0) (cl0 hl z.1 0) Q) : a_wp G M d pc L (vI x :: st) z hr hi hl Q := by
  subst hn
  refine a_step k 1 x.toNat rfl rfl (fun hL hs => ⟨hL, okS_c trivial (okS_t hs)⟩) (fun _ hL hS p e R s m args below meth c H locs cells slots ls Q0 B kk => ?_)
  have hrp := B.2.2.2.2.2.1
  have hx0 := okI' (okS_h hS)
  refine va_newaK (g := F0 m pc ls (.int (Int32.ofInt x) :: st.map (a_cv G))) B.1.1 B.1.2.1 (B.1.2.2.2.2.1 _ harr rfl) rfl hd rfl (fun q => by rw [a_lt0 hx0] at q; omega) (a_cl hx0) (Nat.le_trans (Nat.mul_le_mul (show x.toNat ≤ 1000000 by omega) hcb) (by decide)) B.2.2.2.1 B.2.2.2.2.1 rfl fun H1 cA e1 z1 o1 _ hNm => ?_
  have hcA : cA = gA G t := Option.some.inj (hNm.symm.trans (hR s B.2.2.2.2.2.2.1))
  subst hcA
  have hw := kk H1 locs ls (hrp.new hz z1 o1 (by
    unfold a_cell
    rw [show (a_al z t x).2.2 z.1 = (t, x) from a_al_new.2, if_neg (Nat.not_lt.mpr ht.1), if_pos ht.2, gc_new hrp.2.1, ← hrp.1, e1]
    congr 2
    funext j
    rw [cl0_s, cl0_s, cl0_s]
    exact hdv)) (a_S1 B.2.2.2.2.2.2.2.1 z1 o1) B.2.2.2.2.2.2.2.2.2.2
  have he : a_cv G (vR z.1) = .ref H.size := by rw [a_cvR hrp.2.1.1, gc_new hrp.2.1, hrp.1]
  rw [List.map_cons, he] at hw
  exact hw
theorem arrI : Cond.arrayClass .int ∈ lw_tbl := by decide +kernel
theorem arrJ : Cond.arrayClass .long ∈ lw_tbl := by decide +kernel
theorem arrZ : Cond.arrayClass .boolean ∈ lw_tbl := by decide +kernel
theorem a_newaI {x : Int} (hd : decode M.2.1 pc = .ok (.newarray .int, 2)) (hn : pc + 2 = n) (hx : 0 ≤ x) (hx2 : x ≤ 1000000) (hz : z.1 + 1 < 1000000000) (k : a_wp G M d n L (vR z.1 :: st) (a_al z 20 x) (cl0 hr z.1 none) (cl0 hi z.1 0) (cl0 hl z.1 0) Q) : a_wp G M d pc L (vI x :: st) z hr hi hl Q :=
  a_newaW hd hn ⟨by decide, by decide⟩ arrI (fun s h => (h.1.2 0 _ rfl).2) rfl hx hx2 (by decide) hz k
theorem a_newaJ {x : Int} (hd : decode M.2.1 pc = .ok (.newarray .long, 2)) (hn : pc + 2 = n) (hx : 0 ≤ x) (hx2 : x ≤ 1000000) (hz : z.1 + 1 < 1000000000) (k : a_wp G M d n L (vR z.1 :: st) (a_al z 21 x) (cl0 hr z.1 none) (cl0 hi z.1 0) (cl0 hl z.1 0) Q) : a_wp G M d pc L (vI x :: st) z hr hi hl Q :=
  a_newaW hd hn ⟨by decide, by decide⟩ arrJ (fun s h => (h.1.2 1 _ rfl).2) rfl hx hx2 (by decide) hz k
theorem a_newaZ {x : Int} (hd : decode M.2.1 pc = .ok (.newarray .boolean, 2)) (hn : pc + 2 = n) (hx : 0 ≤ x) (hx2 : x ≤ 1000000) (hz : z.1 + 1 < 1000000000) (k : a_wp G M d n L (vR z.1 :: st) (a_al z 22 x) (cl0 hr z.1 none) (cl0 hi z.1 0) (cl0 hl z.1 0) Q) : a_wp G M d pc L (vI x :: st) z hr hi hl Q :=
  a_newaW hd hn ⟨by decide, by decide⟩ arrZ (fun s h => (h.1.2 2 _ rfl).2) rfl hx hx2 (by decide) hz k
theorem a_anew {x : Int} {idx t tb : Nat} (hd : decode M.2.1 pc = .ok (.anewarray idx, 3)) (hn : pc + 3 = n) (ht : (t = 23 ∧ tb = 3) ∨ (t = 24 ∧ tb = 0)) (hcl : Cond.classLink M.1.cls idx (a_Rn tb) ∈ lw_tbl) (hov : ∀ U, gX G U → va_AO (a_Rn tb) U) (hx : 0 ≤ x) (hx2 : x ≤ 1000000) (hz : z.1 + 1 < 1000000000) (k : a_wp G M d n L (vR z.1 :: st) (a_al z t x) (cl0 hr z.1 none) (cl0 hi z.1 0) (cl0 hl z.1 0) Q) : a_wp G M d pc L (vI x :: st) z hr hi hl Q := by
  subst hn
  refine a_step k 1 x.toNat rfl rfl (fun hL hs => ⟨hL, okS_c trivial (okS_t hs)⟩) (fun _ hL hS p e R s m args below meth c H locs cells slots ls Q0 B kk => ?_)
  have hrp := B.2.2.2.2.2.1
  have hx0 := okI' (okS_h hS)
  have hcl2 := a_cl hx0
  refine W.anew (g := F0 m pc ls (.int (Int32.ofInt x) :: st.map (a_cv G))) B.1.1 B.1.2.1 B.1.2.2.2.1 (B.1.2.2.2.2.1 _ hcl rfl) (va_AO.use (hov s B.2.2.2.2.2.2.1.2)) rfl hd rfl (fun q => by rw [a_lt0 hx0] at q; omega) (by rw [hcl2]; omega) B.2.2.2.1 (by rw [hcl2]; exact B.2.2.2.2.1) fun cA kA comp f1 f2 f3 f4 => ?_
  rw [hcl2]
  generalize hH1 : H.push ({ cls := cA, slots := Array.replicate x.toNat .null, vm := .none } : Cell) = H1
  have z1 : H1.size = H.size + 1 := by rw [← hH1, Array.size_push]
  have e1 : H1[H.size]? = some (arrV cA x.toNat (fun _ => .null)) := by rw [← hH1, Array.getElem?_push_size, ← arrV_new]
  have o1 : ∀ q : Nat, q < H.size → H1[q]? = H[q]? := fun q hq => by rw [← hH1, Array.getElem?_push, if_neg (Nat.ne_of_lt hq)]
  have hcA : cA = gA G t := by
    rcases ht with ⟨rfl, rfl⟩ | ⟨rfl, rfl⟩
    · obtain ⟨_, _, -, -, -, k4⟩ := (B.2.2.2.2.2.2.1.1.2 3 _ rfl).2
      exact Option.some.inj (f1.symm.trans k4)
    · obtain ⟨_, _, -, -, -, k4⟩ := (B.2.2.2.2.2.2.1.1.2 4 _ rfl).2
      exact Option.some.inj (f1.symm.trans k4)
  subst hcA
  have hw := kk H1 locs ls (hrp.new hz z1 o1 (by
    unfold a_cell
    rw [show (a_al z t x).2.2 z.1 = (t, x) from a_al_new.2, if_neg (by omega), if_pos (by omega), gc_new hrp.2.1, ← hrp.1, e1]
    congr 2
    funext j
    rw [cl0_s, cl0_s, cl0_s]
    rcases ht with ⟨rfl, -⟩ | ⟨rfl, -⟩ <;> rfl)) (a_S1 B.2.2.2.2.2.2.2.1 z1 o1) B.2.2.2.2.2.2.2.2.2.2
  have he : a_cv G (vR z.1) = .ref H.size := by rw [a_cvR hrp.2.1.1, gc_new hrp.2.1, hrp.1]
  rw [List.map_cons, he] at hw
  exact hw
/-! ends -/
theorem a_end {r : Option aV} (hq : Q r z hr hi hl) (hs : okS st → ∀ v, r = some v → a_ok v) (h : okS st → ∀ (p : Program) (e : Env) (R : Room) (s : State) (m : MethodId) (args : Array Value) (below : List Frame) (meth : Method) (c : Code) (H : Heap) (locs : List Loc) (cells slots : Nat) (ls : Array Slot),
      a_B G M d 0 0 L z hr hi hl p R s m args meth c H locs cells slots ls → (∀ t : State, t.heap = H → s.WarmedH t.vm → a_Qc G r z hr hi hl args s (.returned (r.map (a_cv G))) t) → (∀ q ∈ locs, gb G ≤ q.base) →
      W p (gl G) e R s m args below meth c H locs cells slots (MQ below (a_Qc G r z hr hi hl) args s cells slots (fun q => gb G ≤ q)) (F0 m pc ls (st.map (a_cv G)))) : a_wp G M d pc L st z hr hi hl Q := by
  refine ⟨r, z, hr, hi, hl, ⟨Nat.le_refl _, Nat.le_refl _, fun hst hL hS p e R s m args below meth c H locs cells slots ls mc ms B e1 e2 e3 e4 => ?_⟩, hq⟩
  have f1 : cells = mc := by omega
  have f2 : slots = ms := by omega
  subst f1; subst f2
  exact h hS p e R s m args below meth c H locs cells slots ls B (fun t ht _ => ⟨rfl, by rw [ht]; exact B.2.2.2.2.2.1, hs hS⟩) B.2.2.2.2.2.2.2.1.2.2
theorem a_ireturn {x : Int} (hd : decode M.2.1 pc = .ok (.ireturn, 1)) (hr0 : M.2.2.2 = some .int) (hq : Q (some (vI x)) z hr hi hl) : a_wp G M d pc L [vI x] z hr hi hl Q := by
  refine a_end hq (fun hS v hv => by cases hv; exact okS_h hS) (fun hS p e R s m args below meth c H locs cells slots ls B hQ hf => ?_)
  have hlocks := B.1.2.2.2.2.2.2.1
  exact W.iret B.1.1 B.1.2.1 (B.1.2.2.2.2.2.1.trans hr0) hQ hf hd
theorem a_zreturn {x : Int} (hd : decode M.2.1 pc = .ok (.ireturn, 1)) (hr0 : M.2.2.2 = some .boolean) (hx : x = 0 ∨ x = 1) (hq : Q (some (vI x)) z hr hi hl) : a_wp G M d pc L [vI x] z hr hi hl Q := by
  refine a_end hq (fun hS v hv => by cases hv; exact okS_h hS) (fun hS p e R s m args below meth c H locs cells slots ls B hQ hf => ?_)
  have hlocks := B.1.2.2.2.2.2.2.1
  exact W.zret B.1.1 B.1.2.1 (B.1.2.2.2.2.2.1.trans hr0) (by rcases hx with rfl | rfl <;> rfl) hQ hf hd
theorem a_return (hd : decode M.2.1 pc = .ok (.return_, 1)) (hr0 : M.2.2.2 = none) (hq : Q none z hr hi hl) : a_wp G M d pc L [] z hr hi hl Q := by
  refine a_end hq (fun hS v hv => by cases hv) (fun hS p e R s m args below meth c H locs cells slots ls B hQ hf => ?_)
  have hlocks := B.1.2.2.2.2.2.2.1
  exact W.vret B.1.1 B.1.2.1 (B.1.2.2.2.2.2.1.trans hr0) hQ hf hd
theorem a_areturn {o : Option Nat} {C : String} (hd : decode M.2.1 pc = .ok (.areturn, 1)) (hr0 : M.2.2.2 = some (.object C)) (hq : Q (some (vO o)) z hr hi hl) : a_wp G M d pc L [vO o] z hr hi hl Q := by
  refine a_end hq (fun hS v hv => by cases hv; exact okS_h hS) (fun hS p e R s m args below meth c H locs cells slots ls B hQ hf => ?_)
  have hlocks := B.1.2.2.2.2.2.2.1
  exact W.aret B.1.1 B.1.2.1 (B.1.2.2.2.2.2.1.trans hr0) (Or.inl ⟨_, rfl⟩) (va_rf_or _) hQ hf hd
end D
