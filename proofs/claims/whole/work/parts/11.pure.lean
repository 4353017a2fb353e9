section B
variable {G : aG} {M : aM} {d pc n : Nat} {L : List (Option aV)} {st : List aV} {z : aZ} {hr : aR} {hi hl : aI} {Q : Option aV → aZ → aR → aI → aI → Prop}
theorem a_iconst {v : Int} (hd : decode M.2.1 pc = .ok (.iconst v, 1)) (hn : pc + 1 = n) (hv : r32 v) (k : a_wp G M d n L (vI v :: st) z hr hi hl Q) : a_wp G M d pc L st z hr hi hl Q := by
  subst hn
  refine a_go k (fun hL hs _ _ => okS_c hv hs) (fun hL hs p e R s m args below meth c H locs cells slots ls Q0 B kk => ?_)
  exact lv_iconst B.1.1 B.1.2.1 hd rfl kk
theorem a_bipush {v : Int} (hd : decode M.2.1 pc = .ok (.bipush v, 2)) (hn : pc + 2 = n) (hv : r32 v) (he : (Int8.ofInt v).toInt32 = Int32.ofInt v) (k : a_wp G M d n L (vI v :: st) z hr hi hl Q) : a_wp G M d pc L st z hr hi hl Q := by
  subst hn
  refine a_go k (fun hL hs _ _ => okS_c hv hs) (fun hL hs p e R s m args below meth c H locs cells slots ls Q0 B kk => ?_)
  exact lv_bipush B.1.1 B.1.2.1 hd he kk
theorem a_sipush {v : Int} (hd : decode M.2.1 pc = .ok (.sipush v, 3)) (hn : pc + 3 = n) (hv : r32 v) (he : (Int16.ofInt v).toInt32 = Int32.ofInt v) (k : a_wp G M d n L (vI v :: st) z hr hi hl Q) : a_wp G M d pc L st z hr hi hl Q := by
  subst hn
  refine a_go k (fun hL hs _ _ => okS_c hv hs) (fun hL hs p e R s m args below meth c H locs cells slots ls Q0 B kk => ?_)
  exact lv_sipush B.1.1 B.1.2.1 hd he kk
theorem a_lconst {q : Fin 2} {v : Int} (hd : decode M.2.1 pc = .ok (.lconst q, 1)) (hn : pc + 1 = n) (hv : r64 v) (he : Int64.ofNat (q : Nat) = Int64.ofInt v) (k : a_wp G M d n L (vJ v :: st) z hr hi hl Q) : a_wp G M d pc L st z hr hi hl Q := by
  subst hn
  refine a_go k (fun hL hs _ _ => okS_c hv hs) (fun hL hs p e R s m args below meth c H locs cells slots ls Q0 B kk => ?_)
  exact lv_lconst B.1.1 B.1.2.1 hd he kk
theorem a_ldc {v : Int} {w : Int32} {idx : Nat} (hd : decode M.2.1 pc = .ok (.ldc idx, 2)) (hn : pc + 2 = n) (hv : r32 v) (hc : Cond.constant M.1.cls idx w ∈ lw_tbl) (he : w = Int32.ofInt v) (k : a_wp G M d n L (vI v :: st) z hr hi hl Q) : a_wp G M d pc L st z hr hi hl Q := by
  subst hn; subst he
  refine a_go k (fun hL hs _ _ => okS_c hv hs) (fun hL hs p e R s m args below meth c H locs cells slots ls Q0 B kk => ?_)
  exact lv_ldc B.1.1 B.1.2.1 B.1.2.2.2.1 (B.1.2.2.2.2.1 _ hc rfl) hd kk
theorem a_ldc2 {v : Int} {w : Int64} {idx : Nat} (hd : decode M.2.1 pc = .ok (.ldc2_w idx, 3)) (hn : pc + 3 = n) (hv : r64 v) (hc : Cond.constantLong M.1.cls idx w ∈ lw_tbl) (he : w = Int64.ofInt v) (k : a_wp G M d n L (vJ v :: st) z hr hi hl Q) : a_wp G M d pc L st z hr hi hl Q := by
  subst hn; subst he
  refine a_go k (fun hL hs _ _ => okS_c hv hs) (fun hL hs p e R s m args below meth c H locs cells slots ls Q0 B kk => ?_)
  exact lv_ldc2 B.1.1 B.1.2.1 B.1.2.2.2.1 (B.1.2.2.2.2.1 _ hc rfl) hd kk
theorem okL_at {i : Nat} {v : aV} (h : okL L) (hl : L[i]? = some (some v)) : a_ok v := h v (List.mem_of_getElem? hl)
theorem a_iload_n {q : Fin 4} {x : Int} (hd : decode M.2.1 pc = .ok (.iload_n q, 1)) (hn : pc + 1 = n) (hx : L[(q : Nat)]? = some (some (vI x))) (k : a_wp G M d n L (vI x :: st) z hr hi hl Q) : a_wp G M d pc L st z hr hi hl Q := by
  subst hn
  refine a_go k (fun hL hs _ _ => okS_c (okL_at hL hx) hs) (fun hL hs p e R s m args below meth c H locs cells slots ls Q0 B kk => ?_)
  exact lv_iload_n B.1.1 B.1.2.1 hd rfl (B.2.2.2.2.2.2.2.2.2.2.2.2 _ _ hx) kk
theorem a_iload {i : Nat} {x : Int} (hd : decode M.2.1 pc = .ok (.iload i, 2)) (hn : pc + 2 = n) (hx : L[i]? = some (some (vI x))) (k : a_wp G M d n L (vI x :: st) z hr hi hl Q) : a_wp G M d pc L st z hr hi hl Q := by
  subst hn
  refine a_go k (fun hL hs _ _ => okS_c (okL_at hL hx) hs) (fun hL hs p e R s m args below meth c H locs cells slots ls Q0 B kk => ?_)
  exact lv_iload B.1.1 B.1.2.1 hd (B.2.2.2.2.2.2.2.2.2.2.2.2 _ _ hx) kk
theorem a_lload_n {q : Fin 4} {x : Int} (hd : decode M.2.1 pc = .ok (.lload_n q, 1)) (hn : pc + 1 = n) (hx : L[(q : Nat)]? = some (some (vJ x))) (k : a_wp G M d n L (vJ x :: st) z hr hi hl Q) : a_wp G M d pc L st z hr hi hl Q := by
  subst hn
  refine a_go k (fun hL hs _ _ => okS_c (okL_at hL hx) hs) (fun hL hs p e R s m args below meth c H locs cells slots ls Q0 B kk => ?_)
  exact lv_lload_n B.1.1 B.1.2.1 hd rfl (B.2.2.2.2.2.2.2.2.2.2.2.2 _ _ hx) kk
theorem a_lload {i : Nat} {x : Int} (hd : decode M.2.1 pc = .ok (.lload i, 2)) (hn : pc + 2 = n) (hx : L[i]? = some (some (vJ x))) (k : a_wp G M d n L (vJ x :: st) z hr hi hl Q) : a_wp G M d pc L st z hr hi hl Q := by
  subst hn
  refine a_go k (fun hL hs _ _ => okS_c (okL_at hL hx) hs) (fun hL hs p e R s m args below meth c H locs cells slots ls Q0 B kk => ?_)
  exact lv_lload B.1.1 B.1.2.1 hd (B.2.2.2.2.2.2.2.2.2.2.2.2 _ _ hx) kk
theorem a_aload_n {q : Fin 4} {o : Option Nat} (hd : decode M.2.1 pc = .ok (.aload_n q, 1)) (hn : pc + 1 = n) (hx : L[(q : Nat)]? = some (some (vO o))) (k : a_wp G M d n L (vO o :: st) z hr hi hl Q) : a_wp G M d pc L st z hr hi hl Q := by
  subst hn
  refine a_go k (fun hL hs _ _ => okS_c (okL_at hL hx) hs) (fun hL hs p e R s m args below meth c H locs cells slots ls Q0 B kk => ?_)
  cases o with
  | none => exact lv_aload_nN B.1.1 B.1.2.1 hd rfl (B.2.2.2.2.2.2.2.2.2.2.2.2 _ _ hx) kk
  | some a => exact lv_aload_n B.1.1 B.1.2.1 hd rfl (B.2.2.2.2.2.2.2.2.2.2.2.2 _ _ hx) kk
theorem a_aload {i : Nat} {o : Option Nat} (hd : decode M.2.1 pc = .ok (.aload i, 2)) (hn : pc + 2 = n) (hx : L[i]? = some (some (vO o))) (k : a_wp G M d n L (vO o :: st) z hr hi hl Q) : a_wp G M d pc L st z hr hi hl Q := by
  subst hn
  refine a_go k (fun hL hs _ _ => okS_c (okL_at hL hx) hs) (fun hL hs p e R s m args below meth c H locs cells slots ls Q0 B kk => ?_)
  cases o with
  | none => exact lv_aloadN B.1.1 B.1.2.1 hd (B.2.2.2.2.2.2.2.2.2.2.2.2 _ _ hx) kk
  | some a => exact lv_aload B.1.1 B.1.2.1 hd (B.2.2.2.2.2.2.2.2.2.2.2.2 _ _ hx) kk
theorem a_null (hd : decode M.2.1 pc = .ok (.aconst_null, 1)) (hn : pc + 1 = n) (k : a_wp G M d n L (vO none :: st) z hr hi hl Q) : a_wp G M d pc L st z hr hi hl Q := by
  subst hn
  refine a_go k (fun hL hs _ _ => okS_c trivial hs) (fun hL hs p e R s m args below meth c H locs cells slots ls Q0 B kk => ?_)
  exact lv_null B.1.1 B.1.2.1 hd kk
theorem a_dup {v : aV} (hd : decode M.2.1 pc = .ok (.dup, 1)) (hn : pc + 1 = n) (hv : (a_cv G v).category = 1) (k : a_wp G M d n L (v :: v :: st) z hr hi hl Q) : a_wp G M d pc L (v :: st) z hr hi hl Q := by
  subst hn
  refine a_go k (fun hL hs _ _ => okS_c (okS_h hs) hs) (fun hL hs p e R s m args below meth c H locs cells slots ls Q0 B kk => ?_)
  exact lv_dup B.1.1 B.1.2.1 hd hv kk
theorem a_pop {v : aV} (hd : decode M.2.1 pc = .ok (.pop, 1)) (hn : pc + 1 = n) (hv : (a_cv G v).category = 1) (k : a_wp G M d n L st z hr hi hl Q) : a_wp G M d pc L (v :: st) z hr hi hl Q := by
  subst hn
  refine a_go k (fun hL hs _ _ => okS_t hs) (fun hL hs p e R s m args below meth c H locs cells slots ls Q0 B kk => ?_)
  exact lv_pop B.1.1 B.1.2.1 hd hv kk
theorem a_dup2 {v w : aV} (hd : decode M.2.1 pc = .ok (.dup2, 1)) (hn : pc + 1 = n) (hv : (a_cv G v).category = 1) (hw : (a_cv G w).category = 1) (k : a_wp G M d n L (v :: w :: v :: w :: st) z hr hi hl Q) : a_wp G M d pc L (v :: w :: st) z hr hi hl Q := by
  subst hn
  refine a_go k (fun hL hs _ _ => okS_c (okS_h hs) (okS_c (okS_h (okS_t hs)) hs)) (fun hL hs p e R s m args below meth c H locs cells slots ls Q0 B kk => ?_)
  exact lv_dup2_11 B.1.1 B.1.2.1 hd hv hw kk
theorem a_iadd {x y : Int} (hd : decode M.2.1 pc = .ok (.iadd, 1)) (hn : pc + 1 = n) (h1 : r32 (x + y)) (k : a_wp G M d n L (vI (x + y) :: st) z hr hi hl Q) : a_wp G M d pc L (vI y :: vI x :: st) z hr hi hl Q := by
  subst hn
  refine a_go k (fun hL hs _ _ => okS_c h1 (okS_t (okS_t hs))) (fun hL hs p e R s m args below meth c H locs cells slots ls Q0 B kk => ?_)
  refine lv_iadd B.1.1 B.1.2.1 hd ?_
  rw [← Int32.ofInt_add]
  exact kk
theorem a_ladd {x y : Int} (hd : decode M.2.1 pc = .ok (.ladd, 1)) (hn : pc + 1 = n) (h1 : r64 (x + y)) (k : a_wp G M d n L (vJ (x + y) :: st) z hr hi hl Q) : a_wp G M d pc L (vJ y :: vJ x :: st) z hr hi hl Q := by
  subst hn
  refine a_go k (fun hL hs _ _ => okS_c h1 (okS_t (okS_t hs))) (fun hL hs p e R s m args below meth c H locs cells slots ls Q0 B kk => ?_)
  refine lv_ladd B.1.1 B.1.2.1 hd ?_
  rw [← Int64.ofInt_add]
  exact kk
theorem a_isub {x y : Int} (hd : decode M.2.1 pc = .ok (.isub, 1)) (hn : pc + 1 = n) (h1 : r32 (x - y)) (k : a_wp G M d n L (vI (x - y) :: st) z hr hi hl Q) : a_wp G M d pc L (vI y :: vI x :: st) z hr hi hl Q := by
  subst hn
  refine a_go k (fun hL hs _ _ => okS_c h1 (okS_t (okS_t hs))) (fun hL hs p e R s m args below meth c H locs cells slots ls Q0 B kk => ?_)
  refine lv_isub B.1.1 B.1.2.1 hd ?_
  rw [← Int32.ofInt_sub]
  exact kk
theorem a_lsub {x y : Int} (hd : decode M.2.1 pc = .ok (.lsub, 1)) (hn : pc + 1 = n) (h1 : r64 (x - y)) (k : a_wp G M d n L (vJ (x - y) :: st) z hr hi hl Q) : a_wp G M d pc L (vJ y :: vJ x :: st) z hr hi hl Q := by
  subst hn
  refine a_go k (fun hL hs _ _ => okS_c h1 (okS_t (okS_t hs))) (fun hL hs p e R s m args below meth c H locs cells slots ls Q0 B kk => ?_)
  refine lv_lsub B.1.1 B.1.2.1 hd ?_
  rw [← Int64.ofInt_sub]
  exact kk
theorem a_imul {x y : Int} (hd : decode M.2.1 pc = .ok (.imul, 1)) (hn : pc + 1 = n) (h1 : r32 (x * y)) (k : a_wp G M d n L (vI (x * y) :: st) z hr hi hl Q) : a_wp G M d pc L (vI y :: vI x :: st) z hr hi hl Q := by
  subst hn
  refine a_go k (fun hL hs _ _ => okS_c h1 (okS_t (okS_t hs))) (fun hL hs p e R s m args below meth c H locs cells slots ls Q0 B kk => ?_)
  refine lv_imul B.1.1 B.1.2.1 hd ?_
  rw [← Int32.ofInt_mul]
  exact kk
theorem a_lmul {x y : Int} (hd : decode M.2.1 pc = .ok (.lmul, 1)) (hn : pc + 1 = n) (h1 : r64 (x * y)) (k : a_wp G M d n L (vJ (x * y) :: st) z hr hi hl Q) : a_wp G M d pc L (vJ y :: vJ x :: st) z hr hi hl Q := by
  subst hn
  refine a_go k (fun hL hs _ _ => okS_c h1 (okS_t (okS_t hs))) (fun hL hs p e R s m args below meth c H locs cells slots ls Q0 B kk => ?_)
  refine lv_lmul B.1.1 B.1.2.1 hd ?_
  rw [← Int64.ofInt_mul]
  exact kk
/-- sums and differences that may wrap -/
def w32 (x : Int) : Int := (Int32.ofInt x).toInt
theorem w32_r (x : Int) : r32 (w32 x) := r32_of _
theorem w32_o (x : Int) : Int32.ofInt (w32 x) = Int32.ofInt x := Int32.ofInt_toInt _
theorem w32_e {x : Int} (h : r32 x) : w32 x = x := a_toI h
theorem a_iaddw {x y : Int} (hd : decode M.2.1 pc = .ok (.iadd, 1)) (hn : pc + 1 = n) (k : a_wp G M d n L (vI (w32 (x + y)) :: st) z hr hi hl Q) : a_wp G M d pc L (vI y :: vI x :: st) z hr hi hl Q := by
  subst hn
  refine a_go k (fun hL hs _ _ => okS_c (w32_r _) (okS_t (okS_t hs))) (fun hL hs p e R s m args below meth c H locs cells slots ls Q0 B kk => ?_)
  refine lv_iadd B.1.1 B.1.2.1 hd ?_
  rw [← Int32.ofInt_add, ← w32_o]
  exact kk
theorem a_isubw {x y : Int} (hd : decode M.2.1 pc = .ok (.isub, 1)) (hn : pc + 1 = n) (k : a_wp G M d n L (vI (w32 (x - y)) :: st) z hr hi hl Q) : a_wp G M d pc L (vI y :: vI x :: st) z hr hi hl Q := by
  subst hn
  refine a_go k (fun hL hs _ _ => okS_c (w32_r _) (okS_t (okS_t hs))) (fun hL hs p e R s m args below meth c H locs cells slots ls Q0 B kk => ?_)
  refine lv_isub B.1.1 B.1.2.1 hd ?_
  rw [← Int32.ofInt_sub, ← w32_o]
  exact kk
theorem a_irem {x y : Int} (hd : decode M.2.1 pc = .ok (.irem, 1)) (hn : pc + 1 = n) (hx : 0 ≤ x) (hy : 0 < y) (k : a_wp G M d n L (vI (x % y) :: st) z hr hi hl Q) : a_wp G M d pc L (vI y :: vI x :: st) z hr hi hl Q := by
  subst hn
  have hb : 0 ≤ x % y ∧ x % y ≤ x := ⟨Int.emod_nonneg _ (by omega), by
    have h3 := Int.emod_def x y
    have h4 := Int.mul_nonneg (show (0 : Int) ≤ y by omega) (Int.ediv_nonneg hx (show (0 : Int) ≤ y by omega))
    omega⟩
  refine a_go k (fun hL hs _ _ => okS_c (show r32 (x % y) from ⟨by omega, by have h8 := okI' (okS_h (okS_t hs)); have := h8.2; omega⟩) (okS_t (okS_t hs))) (fun hL hs p e R s m args below meth c H locs cells slots ls Q0 B kk => ?_)
  have h1 := okI' (okS_h hs)
  have h2 := okI' (okS_h (okS_t hs))
  refine lv_irem B.1.1 B.1.2.1 hd (fun h => by rw [a_eq0 h1] at h; omega) ?_
  have he : Int32.ofInt x - Int32.ofInt x / Int32.ofInt y * Int32.ofInt y = Int32.ofInt (x % y) := by
    rw [← Int32.toInt_inj, rem_toInt, a_toI h1, a_toI h2, a_toI ⟨by omega, by have := h2.2; omega⟩, Int.tmod_eq_emod_of_nonneg hx]
  rw [he]
  exact kk
theorem a_idiv {x y : Int} (hd : decode M.2.1 pc = .ok (.idiv, 1)) (hn : pc + 1 = n) (hx : 0 ≤ x) (hy : 0 < y) (k : a_wp G M d n L (vI (x / y) :: st) z hr hi hl Q) : a_wp G M d pc L (vI y :: vI x :: st) z hr hi hl Q := by
  subst hn
  have hb : 0 ≤ x / y ∧ x / y ≤ x := ⟨Int.ediv_nonneg hx (by omega), Int.ediv_le_self y hx⟩
  refine a_go k (fun hL hs _ _ => okS_c (show r32 (x / y) from ⟨by omega, by have h8 := okI' (okS_h (okS_t hs)); have := h8.2; omega⟩) (okS_t (okS_t hs))) (fun hL hs p e R s m args below meth c H locs cells slots ls Q0 B kk => ?_)
  have h1 := okI' (okS_h hs)
  have h2 := okI' (okS_h (okS_t hs))
  have hr2 : r32 (x / y) := ⟨by omega, by have := h2.2; omega⟩
  refine lv_idiv B.1.1 B.1.2.1 hd (fun h => by rw [a_eq0 h1] at h; omega) ?_
  have he : Int32.ofInt x / Int32.ofInt y = Int32.ofInt (x / y) := by
    have h9 : (Int32.ofInt x / Int32.ofInt y).toInt = (Int32.ofInt (x / y)).toInt := by
      rw [Int32.toInt_div, a_toI h1, a_toI h2, Int.tdiv_eq_ediv_of_nonneg hx, Int32.toInt_ofInt]
    exact Int32.toInt_inj.mp h9
  rw [he]
  exact kk
/-- bits: as the machine has them -/
def b_and (x y : Int) : Int := (Int32.ofInt x &&& Int32.ofInt y).toInt
theorem a_iand {x y : Int} (hd : decode M.2.1 pc = .ok (.iand, 1)) (hn : pc + 1 = n) (k : a_wp G M d n L (vI (b_and x y) :: st) z hr hi hl Q) : a_wp G M d pc L (vI y :: vI x :: st) z hr hi hl Q := by
  subst hn
  refine a_go k (fun hL hs _ _ => okS_c (show r32 (b_and x y) from r32_of _) (okS_t (okS_t hs))) (fun hL hs p e R s m args below meth c H locs cells slots ls Q0 B kk => ?_)
  refine lv_iand B.1.1 B.1.2.1 hd ?_
  rw [← Int32.ofInt_toInt (Int32.ofInt x &&& Int32.ofInt y)]
  exact kk
theorem r64_of (x : Int64) : r64 x.toInt := ⟨by have := x.le_toInt; omega, by have := x.toInt_lt; omega⟩
theorem a_i2l {x : Int} (hd : decode M.2.1 pc = .ok (.i2l, 1)) (hn : pc + 1 = n) (k : a_wp G M d n L (vJ x :: st) z hr hi hl Q) : a_wp G M d pc L (vI x :: st) z hr hi hl Q := by
  subst hn
  refine a_go k (fun hL hs _ _ => okS_c (show r64 x from by have h := okI' (okS_h hs); exact ⟨by have := h.1; omega, by have := h.2; omega⟩) (okS_t hs)) (fun hL hs p e R s m args below meth c H locs cells slots ls Q0 B kk => ?_)
  have h := okI' (okS_h hs)
  refine lv_i2l (v := Int64.ofInt x) B.1.1 B.1.2.1 hd ?_ kk
  rw [← Int64.toInt_inj, Int32.toInt_toInt64, a_toI h, a_toJ ⟨by have := h.1; omega, by have := h.2; omega⟩]
def b_l2i (x : Int) : Int := (Int64.ofInt x).toInt32.toInt
theorem a_l2i {x : Int} (hd : decode M.2.1 pc = .ok (.l2i, 1)) (hn : pc + 1 = n) (k : a_wp G M d n L (vI (b_l2i x) :: st) z hr hi hl Q) : a_wp G M d pc L (vJ x :: st) z hr hi hl Q := by
  subst hn
  refine a_go k (fun hL hs _ _ => okS_c (show r32 (b_l2i x) from r32_of _) (okS_t hs)) (fun hL hs p e R s m args below meth c H locs cells slots ls Q0 B kk => ?_)
  exact lv_l2i B.1.1 B.1.2.1 hd (Int32.ofInt_toInt _).symm kk
def b_land (x y : Int) : Int := (Int64.ofInt x &&& Int64.ofInt y).toInt
theorem a_land {x y : Int} (hd : decode M.2.1 pc = .ok (.land, 1)) (hn : pc + 1 = n) (k : a_wp G M d n L (vJ (b_land x y) :: st) z hr hi hl Q) : a_wp G M d pc L (vJ y :: vJ x :: st) z hr hi hl Q := by
  subst hn
  refine a_go k (fun hL hs _ _ => okS_c (show r64 (b_land x y) from r64_of _) (okS_t (okS_t hs))) (fun hL hs p e R s m args below meth c H locs cells slots ls Q0 B kk => ?_)
  refine lv_land B.1.1 B.1.2.1 hd ?_
  rw [← Int64.ofInt_toInt (Int64.ofInt x &&& Int64.ofInt y)]
  exact kk
def b_lor (x y : Int) : Int := (Int64.ofInt x ||| Int64.ofInt y).toInt
theorem a_lor {x y : Int} (hd : decode M.2.1 pc = .ok (.lor, 1)) (hn : pc + 1 = n) (k : a_wp G M d n L (vJ (b_lor x y) :: st) z hr hi hl Q) : a_wp G M d pc L (vJ y :: vJ x :: st) z hr hi hl Q := by
  subst hn
  refine a_go k (fun hL hs _ _ => okS_c (show r64 (b_lor x y) from r64_of _) (okS_t (okS_t hs))) (fun hL hs p e R s m args below meth c H locs cells slots ls Q0 B kk => ?_)
  refine lv_lor B.1.1 B.1.2.1 hd ?_
  rw [← Int64.ofInt_toInt (Int64.ofInt x ||| Int64.ofInt y)]
  exact kk
def b_lshl (x y : Int) : Int := (Int64.ofInt x <<< ((Int32.ofInt y).toInt64 &&& 63)).toInt
theorem a_lshl {x y : Int} (hd : decode M.2.1 pc = .ok (.lshl, 1)) (hn : pc + 1 = n) (k : a_wp G M d n L (vJ (b_lshl x y) :: st) z hr hi hl Q) : a_wp G M d pc L (vI y :: vJ x :: st) z hr hi hl Q := by
  subst hn
  refine a_go k (fun hL hs _ _ => okS_c (show r64 (b_lshl x y) from r64_of _) (okS_t (okS_t hs))) (fun hL hs p e R s m args below meth c H locs cells slots ls Q0 B kk => ?_)
  exact lv_lshl B.1.1 B.1.2.1 hd (Int64.ofInt_toInt _).symm kk
def b_lshr (x y : Int) : Int := (Int64.ofInt x >>> ((Int32.ofInt y).toInt64 &&& 63)).toInt
theorem a_lshr {x y : Int} (hd : decode M.2.1 pc = .ok (.lshr, 1)) (hn : pc + 1 = n) (k : a_wp G M d n L (vJ (b_lshr x y) :: st) z hr hi hl Q) : a_wp G M d pc L (vI y :: vJ x :: st) z hr hi hl Q := by
  subst hn
  refine a_go k (fun hL hs _ _ => okS_c (show r64 (b_lshr x y) from r64_of _) (okS_t (okS_t hs))) (fun hL hs p e R s m args below meth c H locs cells slots ls Q0 B kk => ?_)
  exact lv_lshr B.1.1 B.1.2.1 hd (Int64.ofInt_toInt _).symm kk
def b_lushr (x y : Int) : Int := (((Int64.ofInt x).toUInt64 >>> ((Int32.ofInt y).toInt64.toUInt64 &&& Int64.toUInt64 63)).toInt64).toInt
theorem a_lushr {x y : Int} (hd : decode M.2.1 pc = .ok (.lushr, 1)) (hn : pc + 1 = n) (k : a_wp G M d n L (vJ (b_lushr x y) :: st) z hr hi hl Q) : a_wp G M d pc L (vI y :: vJ x :: st) z hr hi hl Q := by
  subst hn
  refine a_go k (fun hL hs _ _ => okS_c (show r64 (b_lushr x y) from r64_of _) (okS_t (okS_t hs))) (fun hL hs p e R s m args below meth c H locs cells slots ls Q0 B kk => ?_)
  exact lv_lushr B.1.1 B.1.2.1 hd (Int64.ofInt_toInt _).symm kk
def b_cmp (x y : Int) : Int := if y < x then 1 else if x = y then 0 else -1
theorem b_cmp_r (x y : Int) : r32 (b_cmp x y) := by
  unfold b_cmp
  split
  · exact ⟨by decide, by decide⟩
  · split
    · exact ⟨by decide, by decide⟩
    · exact ⟨by decide, by decide⟩
theorem a_lcmp {x y : Int} (hd : decode M.2.1 pc = .ok (.lcmp, 1)) (hn : pc + 1 = n) (k : a_wp G M d n L (vI (b_cmp x y) :: st) z hr hi hl Q) : a_wp G M d pc L (vJ y :: vJ x :: st) z hr hi hl Q := by
  subst hn
  refine a_go k (fun hL hs _ _ => okS_c (show r32 (b_cmp x y) from b_cmp_r x y) (okS_t (okS_t hs))) (fun hL hs p e R s m args below meth c H locs cells slots ls Q0 B kk => ?_)
  have h1 : r64 y := okS_h hs
  have h2 : r64 x := okS_h (okS_t hs)
  refine W.lcmp B.1.1 B.1.2.1 hd ?_
  have he : lg_cmp (Int64.ofInt x) (Int64.ofInt y) = Int32.ofInt (b_cmp x y) := by
    unfold lg_cmp b_cmp
    simp only [gt_iff_lt, Int64.lt_iff_toInt_lt, ← Int64.toInt_inj, a_toJ h1, a_toJ h2]
    split
    · rfl
    · split
      · rfl
      · rfl
  rw [he]
  exact kk
theorem a_icmp_eq {x y : Int} {t : Nat} {off : Int} (hd : decode M.2.1 pc = .ok (.if_icmp .eq off, 3)) (ht : (pc : Int) + off = (t : Int)) (hn : pc + 3 = n) (kt : x = y → a_wp G M d t L st z hr hi hl Q) (kf : ¬ (x = y) → a_wp G M d n L st z hr hi hl Q) : a_wp G M d pc L (vI y :: vI x :: st) z hr hi hl Q := by
  subst hn
  by_cases hc : x = y
  · refine a_go (kt hc) (fun hL hs _ _ => okS_t (okS_t hs)) (fun hL hs p e R s m args below meth c H locs cells slots ls Q0 B kk => ?_)
    have h1 := okI' (okS_h hs)
    have h2 := okI' (okS_h (okS_t hs))
    exact lv_icmp_eq B.1.1 B.1.2.1 hd ht (fun _ => kk) (fun g => absurd ((a_eq h2 h1).mpr hc) g)
  · refine a_go (kf hc) (fun hL hs _ _ => okS_t (okS_t hs)) (fun hL hs p e R s m args below meth c H locs cells slots ls Q0 B kk => ?_)
    have h1 := okI' (okS_h hs)
    have h2 := okI' (okS_h (okS_t hs))
    exact lv_icmp_eq B.1.1 B.1.2.1 hd ht (fun g => absurd ((a_eq h2 h1).mp g) hc) (fun _ => kk)
theorem a_if_eq {x : Int} {t : Nat} {off : Int} (hd : decode M.2.1 pc = .ok (.ifCond .eq off, 3)) (ht : (pc : Int) + off = (t : Int)) (hn : pc + 3 = n) (kt : x = 0 → a_wp G M d t L st z hr hi hl Q) (kf : ¬ (x = 0) → a_wp G M d n L st z hr hi hl Q) : a_wp G M d pc L (vI x :: st) z hr hi hl Q := by
  subst hn
  by_cases hc : x = 0
  · refine a_go (kt hc) (fun hL hs _ _ => okS_t hs) (fun hL hs p e R s m args below meth c H locs cells slots ls Q0 B kk => ?_)
    have h1 := okI' (okS_h hs)
    exact lv_if_eq B.1.1 B.1.2.1 hd ht (fun _ => kk) (fun g => absurd ((a_eq0 h1).mpr hc) g)
  · refine a_go (kf hc) (fun hL hs _ _ => okS_t hs) (fun hL hs p e R s m args below meth c H locs cells slots ls Q0 B kk => ?_)
    have h1 := okI' (okS_h hs)
    exact lv_if_eq B.1.1 B.1.2.1 hd ht (fun g => absurd ((a_eq0 h1).mp g) hc) (fun _ => kk)
theorem a_icmp_ne {x y : Int} {t : Nat} {off : Int} (hd : decode M.2.1 pc = .ok (.if_icmp .ne off, 3)) (ht : (pc : Int) + off = (t : Int)) (hn : pc + 3 = n) (kt : ¬ x = y → a_wp G M d t L st z hr hi hl Q) (kf : x = y → a_wp G M d n L st z hr hi hl Q) : a_wp G M d pc L (vI y :: vI x :: st) z hr hi hl Q := by
  subst hn
  by_cases hc : x = y
  · refine a_go (kf hc) (fun hL hs _ _ => okS_t (okS_t hs)) (fun hL hs p e R s m args below meth c H locs cells slots ls Q0 B kk => ?_)
    have h1 := okI' (okS_h hs)
    have h2 := okI' (okS_h (okS_t hs))
    exact lv_icmp_ne B.1.1 B.1.2.1 hd ht (fun g => absurd ((a_eq h2 h1).mpr hc) g) (fun _ => kk)
  · refine a_go (kt hc) (fun hL hs _ _ => okS_t (okS_t hs)) (fun hL hs p e R s m args below meth c H locs cells slots ls Q0 B kk => ?_)
    have h1 := okI' (okS_h hs)
    have h2 := okI' (okS_h (okS_t hs))
    exact lv_icmp_ne B.1.1 B.1.2.1 hd ht (fun _ => kk) (fun g => absurd ((a_eq h2 h1).mp g) hc)
theorem a_if_ne {x : Int} {t : Nat} {off : Int} (hd : decode M.2.1 pc = .ok (.ifCond .ne off, 3)) (ht : (pc : Int) + off = (t : Int)) (hn : pc + 3 = n) (kt : ¬ x = 0 → a_wp G M d t L st z hr hi hl Q) (kf : x = 0 → a_wp G M d n L st z hr hi hl Q) : a_wp G M d pc L (vI x :: st) z hr hi hl Q := by
  subst hn
  by_cases hc : x = 0
  · refine a_go (kf hc) (fun hL hs _ _ => okS_t hs) (fun hL hs p e R s m args below meth c H locs cells slots ls Q0 B kk => ?_)
    have h1 := okI' (okS_h hs)
    exact lv_if_ne B.1.1 B.1.2.1 hd ht (fun g => absurd ((a_eq0 h1).mpr hc) g) (fun _ => kk)
  · refine a_go (kt hc) (fun hL hs _ _ => okS_t hs) (fun hL hs p e R s m args below meth c H locs cells slots ls Q0 B kk => ?_)
    have h1 := okI' (okS_h hs)
    exact lv_if_ne B.1.1 B.1.2.1 hd ht (fun _ => kk) (fun g => absurd ((a_eq0 h1).mp g) hc)
theorem a_icmp_lt {x y : Int} {t : Nat} {off : Int} (hd : decode M.2.1 pc = .ok (.if_icmp .lt off, 3)) (ht : (pc : Int) + off = (t : Int)) (hn : pc + 3 = n) (kt : x < y → a_wp G M d t L st z hr hi hl Q) (kf : ¬ (x < y) → a_wp G M d n L st z hr hi hl Q) : a_wp G M d pc L (vI y :: vI x :: st) z hr hi hl Q := by
  subst hn
  by_cases hc : x < y
  · refine a_go (kt hc) (fun hL hs _ _ => okS_t (okS_t hs)) (fun hL hs p e R s m args below meth c H locs cells slots ls Q0 B kk => ?_)
    have h1 := okI' (okS_h hs)
    have h2 := okI' (okS_h (okS_t hs))
    exact lv_icmp_lt B.1.1 B.1.2.1 hd ht (fun _ => kk) (fun g => absurd ((a_lt h2 h1).mpr hc) g)
  · refine a_go (kf hc) (fun hL hs _ _ => okS_t (okS_t hs)) (fun hL hs p e R s m args below meth c H locs cells slots ls Q0 B kk => ?_)
    have h1 := okI' (okS_h hs)
    have h2 := okI' (okS_h (okS_t hs))
    exact lv_icmp_lt B.1.1 B.1.2.1 hd ht (fun g => absurd ((a_lt h2 h1).mp g) hc) (fun _ => kk)
theorem a_if_lt {x : Int} {t : Nat} {off : Int} (hd : decode M.2.1 pc = .ok (.ifCond .lt off, 3)) (ht : (pc : Int) + off = (t : Int)) (hn : pc + 3 = n) (kt : x < 0 → a_wp G M d t L st z hr hi hl Q) (kf : ¬ (x < 0) → a_wp G M d n L st z hr hi hl Q) : a_wp G M d pc L (vI x :: st) z hr hi hl Q := by
  subst hn
  by_cases hc : x < 0
  · refine a_go (kt hc) (fun hL hs _ _ => okS_t hs) (fun hL hs p e R s m args below meth c H locs cells slots ls Q0 B kk => ?_)
    have h1 := okI' (okS_h hs)
    exact lv_if_lt B.1.1 B.1.2.1 hd ht (fun _ => kk) (fun g => absurd ((a_lt0 h1).mpr hc) g)
  · refine a_go (kf hc) (fun hL hs _ _ => okS_t hs) (fun hL hs p e R s m args below meth c H locs cells slots ls Q0 B kk => ?_)
    have h1 := okI' (okS_h hs)
    exact lv_if_lt B.1.1 B.1.2.1 hd ht (fun g => absurd ((a_lt0 h1).mp g) hc) (fun _ => kk)
theorem a_icmp_ge {x y : Int} {t : Nat} {off : Int} (hd : decode M.2.1 pc = .ok (.if_icmp .ge off, 3)) (ht : (pc : Int) + off = (t : Int)) (hn : pc + 3 = n) (kt : y ≤ x → a_wp G M d t L st z hr hi hl Q) (kf : ¬ (y ≤ x) → a_wp G M d n L st z hr hi hl Q) : a_wp G M d pc L (vI y :: vI x :: st) z hr hi hl Q := by
  subst hn
  by_cases hc : y ≤ x
  · refine a_go (kt hc) (fun hL hs _ _ => okS_t (okS_t hs)) (fun hL hs p e R s m args below meth c H locs cells slots ls Q0 B kk => ?_)
    have h1 := okI' (okS_h hs)
    have h2 := okI' (okS_h (okS_t hs))
    exact lv_icmp_ge B.1.1 B.1.2.1 hd ht (fun _ => kk) (fun g => absurd ((a_le h1 h2).mpr hc) g)
  · refine a_go (kf hc) (fun hL hs _ _ => okS_t (okS_t hs)) (fun hL hs p e R s m args below meth c H locs cells slots ls Q0 B kk => ?_)
    have h1 := okI' (okS_h hs)
    have h2 := okI' (okS_h (okS_t hs))
    exact lv_icmp_ge B.1.1 B.1.2.1 hd ht (fun g => absurd ((a_le h1 h2).mp g) hc) (fun _ => kk)
theorem a_if_ge {x : Int} {t : Nat} {off : Int} (hd : decode M.2.1 pc = .ok (.ifCond .ge off, 3)) (ht : (pc : Int) + off = (t : Int)) (hn : pc + 3 = n) (kt : 0 ≤ x → a_wp G M d t L st z hr hi hl Q) (kf : ¬ (0 ≤ x) → a_wp G M d n L st z hr hi hl Q) : a_wp G M d pc L (vI x :: st) z hr hi hl Q := by
  subst hn
  by_cases hc : 0 ≤ x
  · refine a_go (kt hc) (fun hL hs _ _ => okS_t hs) (fun hL hs p e R s m args below meth c H locs cells slots ls Q0 B kk => ?_)
    have h1 := okI' (okS_h hs)
    exact lv_if_ge B.1.1 B.1.2.1 hd ht (fun _ => kk) (fun g => absurd ((a_0le h1).mpr hc) g)
  · refine a_go (kf hc) (fun hL hs _ _ => okS_t hs) (fun hL hs p e R s m args below meth c H locs cells slots ls Q0 B kk => ?_)
    have h1 := okI' (okS_h hs)
    exact lv_if_ge B.1.1 B.1.2.1 hd ht (fun g => absurd ((a_0le h1).mp g) hc) (fun _ => kk)
theorem a_icmp_gt {x y : Int} {t : Nat} {off : Int} (hd : decode M.2.1 pc = .ok (.if_icmp .gt off, 3)) (ht : (pc : Int) + off = (t : Int)) (hn : pc + 3 = n) (kt : y < x → a_wp G M d t L st z hr hi hl Q) (kf : ¬ (y < x) → a_wp G M d n L st z hr hi hl Q) : a_wp G M d pc L (vI y :: vI x :: st) z hr hi hl Q := by
  subst hn
  by_cases hc : y < x
  · refine a_go (kt hc) (fun hL hs _ _ => okS_t (okS_t hs)) (fun hL hs p e R s m args below meth c H locs cells slots ls Q0 B kk => ?_)
    have h1 := okI' (okS_h hs)
    have h2 := okI' (okS_h (okS_t hs))
    exact lv_icmp_gt B.1.1 B.1.2.1 hd ht (fun _ => kk) (fun g => absurd ((a_lt h1 h2).mpr hc) g)
  · refine a_go (kf hc) (fun hL hs _ _ => okS_t (okS_t hs)) (fun hL hs p e R s m args below meth c H locs cells slots ls Q0 B kk => ?_)
    have h1 := okI' (okS_h hs)
    have h2 := okI' (okS_h (okS_t hs))
    exact lv_icmp_gt B.1.1 B.1.2.1 hd ht (fun g => absurd ((a_lt h1 h2).mp g) hc) (fun _ => kk)
theorem a_if_gt {x : Int} {t : Nat} {off : Int} (hd : decode M.2.1 pc = .ok (.ifCond .gt off, 3)) (ht : (pc : Int) + off = (t : Int)) (hn : pc + 3 = n) (kt : 0 < x → a_wp G M d t L st z hr hi hl Q) (kf : ¬ (0 < x) → a_wp G M d n L st z hr hi hl Q) : a_wp G M d pc L (vI x :: st) z hr hi hl Q := by
  subst hn
  by_cases hc : 0 < x
  · refine a_go (kt hc) (fun hL hs _ _ => okS_t hs) (fun hL hs p e R s m args below meth c H locs cells slots ls Q0 B kk => ?_)
    have h1 := okI' (okS_h hs)
    exact lv_if_gt B.1.1 B.1.2.1 hd ht (fun _ => kk) (fun g => absurd ((a_0lt h1).mpr hc) g)
  · refine a_go (kf hc) (fun hL hs _ _ => okS_t hs) (fun hL hs p e R s m args below meth c H locs cells slots ls Q0 B kk => ?_)
    have h1 := okI' (okS_h hs)
    exact lv_if_gt B.1.1 B.1.2.1 hd ht (fun g => absurd ((a_0lt h1).mp g) hc) (fun _ => kk)
theorem a_icmp_le {x y : Int} {t : Nat} {off : Int} (hd : decode M.2.1 pc = .ok (.if_icmp .le off, 3)) (ht : (pc : Int) + off = (t : Int)) (hn : pc + 3 = n) (kt : x ≤ y → a_wp G M d t L st z hr hi hl Q) (kf : ¬ (x ≤ y) → a_wp G M d n L st z hr hi hl Q) : a_wp G M d pc L (vI y :: vI x :: st) z hr hi hl Q := by
  subst hn
  by_cases hc : x ≤ y
  · refine a_go (kt hc) (fun hL hs _ _ => okS_t (okS_t hs)) (fun hL hs p e R s m args below meth c H locs cells slots ls Q0 B kk => ?_)
    have h1 := okI' (okS_h hs)
    have h2 := okI' (okS_h (okS_t hs))
    exact lv_icmp_le B.1.1 B.1.2.1 hd ht (fun _ => kk) (fun g => absurd ((a_le h2 h1).mpr hc) g)
  · refine a_go (kf hc) (fun hL hs _ _ => okS_t (okS_t hs)) (fun hL hs p e R s m args below meth c H locs cells slots ls Q0 B kk => ?_)
    have h1 := okI' (okS_h hs)
    have h2 := okI' (okS_h (okS_t hs))
    exact lv_icmp_le B.1.1 B.1.2.1 hd ht (fun g => absurd ((a_le h2 h1).mp g) hc) (fun _ => kk)
theorem a_if_le {x : Int} {t : Nat} {off : Int} (hd : decode M.2.1 pc = .ok (.ifCond .le off, 3)) (ht : (pc : Int) + off = (t : Int)) (hn : pc + 3 = n) (kt : x ≤ 0 → a_wp G M d t L st z hr hi hl Q) (kf : ¬ (x ≤ 0) → a_wp G M d n L st z hr hi hl Q) : a_wp G M d pc L (vI x :: st) z hr hi hl Q := by
  subst hn
  by_cases hc : x ≤ 0
  · refine a_go (kt hc) (fun hL hs _ _ => okS_t hs) (fun hL hs p e R s m args below meth c H locs cells slots ls Q0 B kk => ?_)
    have h1 := okI' (okS_h hs)
    exact lv_if_le B.1.1 B.1.2.1 hd ht (fun _ => kk) (fun g => absurd ((a_le0 h1).mpr hc) g)
  · refine a_go (kf hc) (fun hL hs _ _ => okS_t hs) (fun hL hs p e R s m args below meth c H locs cells slots ls Q0 B kk => ?_)
    have h1 := okI' (okS_h hs)
    exact lv_if_le B.1.1 B.1.2.1 hd ht (fun g => absurd ((a_le0 h1).mp g) hc) (fun _ => kk)
theorem a_goto {t : Nat} {off : Int} (hd : decode M.2.1 pc = .ok (.goto off, 3)) (ht : (pc : Int) + off = (t : Int)) (k : a_wp G M d t L st z hr hi hl Q) : a_wp G M d pc L st z hr hi hl Q :=
  a_go k (fun hL hs _ _ => hs) (fun hL hs p e R s m args below meth c H locs cells slots ls Q0 B kk => lv_goto B.1.1 B.1.2.1 hd ht kk)
theorem a_ifnull {o : Option Nat} {t : Nat} {off : Int} (hd : decode M.2.1 pc = .ok (.ifnull off, 3)) (ht : (pc : Int) + off = (t : Int)) (hn : pc + 3 = n) (kt : o = none → a_wp G M d t L st z hr hi hl Q) (kf : ∀ a, o = some a → a_wp G M d n L st z hr hi hl Q) : a_wp G M d pc L (vO o :: st) z hr hi hl Q := by
  subst hn
  cases o with
  | none => exact a_go (kt rfl) (fun hL hs _ _ => okS_t hs) (fun hL hs p e R s m args below meth c H locs cells slots ls Q0 B kk => lv_ifnullN B.1.1 B.1.2.1 hd ht kk)
  | some a => exact a_go (kf a rfl) (fun hL hs _ _ => okS_t hs) (fun hL hs p e R s m args below meth c H locs cells slots ls Q0 B kk => lv_ifnull B.1.1 B.1.2.1 hd kk)
theorem a_ifnonnull {o : Option Nat} {t : Nat} {off : Int} (hd : decode M.2.1 pc = .ok (.ifnonnull off, 3)) (ht : (pc : Int) + off = (t : Int)) (hn : pc + 3 = n) (kt : ∀ a, o = some a → a_wp G M d t L st z hr hi hl Q) (kf : o = none → a_wp G M d n L st z hr hi hl Q) : a_wp G M d pc L (vO o :: st) z hr hi hl Q := by
  subst hn
  cases o with
  | none => exact a_go (kf rfl) (fun hL hs _ _ => okS_t hs) (fun hL hs p e R s m args below meth c H locs cells slots ls Q0 B kk => lv_ifnonnullN B.1.1 B.1.2.1 hd kk)
  | some a => exact a_go (kt a rfl) (fun hL hs _ _ => okS_t hs) (fun hL hs p e R s m args below meth c H locs cells slots ls Q0 B kk => lv_ifnonnull B.1.1 B.1.2.1 hd ht kk)
theorem a_tableOut {x dflt lo hi' : Int} {offs : Array Int} {len t : Nat} (hd : decode M.2.1 pc = .ok (.tableswitch dflt lo hi' offs, len)) (h : x < lo ∨ hi' < x) (ht : (pc : Int) + dflt = (t : Int)) (k : a_wp G M d t L st z hr hi hl Q) : a_wp G M d pc L (vI x :: st) z hr hi hl Q := by
  refine a_go k (fun hL hs _ _ => okS_t hs) (fun hL hs p e R s m args below meth c H locs cells slots ls Q0 B kk => ?_)
  have h1 := okI' (okS_h hs)
  exact lv_tableOut B.1.1 B.1.2.1 hd (by rw [a_toI h1]; exact h) ht kk
theorem a_tableIn {x dflt lo hi' off : Int} {offs : Array Int} {len t : Nat} (hd : decode M.2.1 pc = .ok (.tableswitch dflt lo hi' offs, len)) (h : lo ≤ x) (h2 : x ≤ hi') (ho : offs[(x - lo).toNat]? = some off) (ht : (pc : Int) + off = (t : Int)) (k : a_wp G M d t L st z hr hi hl Q) : a_wp G M d pc L (vI x :: st) z hr hi hl Q := by
  refine a_go k (fun hL hs _ _ => okS_t hs) (fun hL hs p e R s m args below meth c H locs cells slots ls Q0 B kk => ?_)
  have h1 := okI' (okS_h hs)
  exact lv_tableIn B.1.1 B.1.2.1 hd (by rw [a_toI h1]; omega) (by rw [a_toI h1]; omega) (by rw [a_toI h1]; exact ho) ht kk
end B
