/-- what the start knows for throws -/
def gT (G : aG) : Prop := (gl G).stackTraces = false ∧ ∀ U, gX G U → vx_Zq Bundle.tN "UNASSIGNED_STACK" Bundle.steD (fun q => gb G ≤ q) U U.heap ∧ vx_Zq Bundle.tN "SUPPRESSED_SENTINEL" Bundle.listD (fun q => gb G ≤ q) U U.heap ∧ ∀ w ∈ lw_tbl, w.faceAtom = true → ∀ a : Array Value, w.before a U = true
theorem vz_fo {w : Cond} (h : w.faceAtom = true) : w.onTables = true := by
  cases w <;> first | rfl | (simp [Cond.faceAtom] at h)
theorem vz_all : ((vz_at "BedBook" 124).filter vx_no).all (fun w => decide (w ∈ lw_tbl) && (w.faceAtom || goodWord w)) = true := by decide +kernel
theorem vz_in : ∀ w ∈ (vz_at "BedBook" 124).filter vx_no, w ∈ lw_tbl ∧ (w.faceAtom = true ∨ goodWord w = true) := fun w hw => by
  have h₁ := List.all_eq_true.mp vz_all w hw
  rw [Bool.and_eq_true, Bool.or_eq_true] at h₁
  exact ⟨of_decide_eq_true h₁.1, h₁.2⟩
theorem vz_k : Cond.classLink "BedBook" 120 nse ∈ lw_tbl := by decide +kernel
theorem vz_i : Cond.initialized nse ∈ lw_tbl := by decide +kernel
theorem vz_c : Cond.castable nse nse ∈ lw_tbl := by decide +kernel
theorem vz_l : Cond.classLink "BedBookLaw" 13 nse ∈ lw_tbl := by decide +kernel
section X3
variable {G : aG} {M : aM} {d pc n : Nat} {L : List (Option aV)} {st : List aV} {z : aZ} {hr : aR} {hi hl : aI} {Q : Option aV → aZ → aR → aI → aI → Prop}
theorem x_throw {is i : Nat} {x : String × Nat × String} (hTh : gT G) (hG : gS G) (hM : M.1.cls = "BedBook") (hx : jK[i]? = some x) (h1 : x.1 = "BedBook") (h2 : x.2.1 = is)
    (d0 : decode M.2.1 pc = .ok (.new 120, 3)) (d3 : decode M.2.1 (pc + 3) = .ok (.dup, 1)) (d4 : decode M.2.1 (pc + 4) = .ok (.ldc is, 2)) (d6 : decode M.2.1 (pc + 6) = .ok (.invokespecial 124, 3)) (d9 : decode M.2.1 (pc + 9) = .ok (.athrow, 1))
    (hd6 : 6 ≤ d) (hz : z.1 + 1 < 1000000000) (hq : Q none (a_al z 31 6) (cl0 hr z.1 none) (cl0 hi z.1 0) (cl0 hl z.1 0)) : x_wp noT eT G M d pc L [] z hr hi hl Q := by
  refine ⟨none, _, _, _, _, ⟨Nat.le_succ _, Nat.le_add_right _ _, fun hst hL hS p e R s m args below meth c H locs cells slots ls mc ms B e1 e2 e3 e4 e5 => ?_⟩, hq⟩
  have b2 := B.2.1
  have b3 := B.2.2.1
  have hrp := B.2.2.2.2.2.1
  have e1 : cells + (z.1 + 1) = mc + z.1 := e1
  have e2 : slots + (z.2.1 + 6) = ms + z.2.1 := e2
  have hstr := hG.2.2.2 s B.2.2.2.2.2.2.1.2 i x hx
  rw [h1, h2] at hstr
  have hTs := hTh.2 s B.2.2.2.2.2.2.1.2
  refine vz_throw (own := "BedBook") (ik := 120) (is := is) (ic := 124) (text := x.2.2) (sa := gE G i) (A := fun q => gb G ≤ q) B.1.1 B.1.2.1 hTh.1 (by rw [← hM]; exact B.1.2.2.2.1) (B.1.2.2.2.2.1 _ vz_k rfl) (B.1.2.2.2.2.1 _ vz_i rfl) hstr (fun w hw => (vz_in w hw).2.elim (fun h => hTs.2.2 w (vz_in w hw).1 h _) (fun h => B.1.2.2.2.2.1 w (vz_in w hw).1 h)) (fun w hw => ?_) hTs.1 hTs.2.1 B.2.2.2.2.2.2.2.1 (B.2.2.2.2.2.2.2.2.2.2.1.trans B.1.2.2.1.symm) d0 d3 d4 d6 d9 (fun y hy => (e5 y hy).elim) (by omega) (by show 0 + 82 ≤ R.locals; omega) (by omega) (by omega) B.1.2.2.2.2.2.2.1 (fun t hal hsz hsm => ⟨rfl, ?_⟩) B.2.2.2.2.2.2.2.1.2.2 (by omega) (by omega)
  · rcases List.mem_cons.mp hw with rfl | hw
    · rfl
    · rcases List.mem_cons.mp hw with rfl | hw
      · rfl
      · unfold vx_ot
        rcases (vz_in w hw).2 with h₉ | h₉
        · rw [vz_fo h₉, Bool.true_or]
        · rw [h₉, Bool.or_true]
  · refine hrp.new hz hsz hsm ?_
    unfold a_cell
    rw [show (a_al z 31 6).2.2 z.1 = (31, 6) from a_al_new.2, if_neg (show ¬ (31 : Nat) < 11 by decide), if_neg (show ¬ (31 : Nat) < 30 by decide)]
    trivial
/-- the method M, called with As, throws NoSuchElementException and leaves the heap z' hr' hi' hl' -/
def x_ct (G : aG) (M : aM) (d : Nat) (As : List aV) (z : aZ) (hr : aR) (hi hl : aI) (z' : aZ) (hr' : aR) (hi' hl' : aI) : Prop :=
  z.1 ≤ z'.1 ∧ z.2.1 ≤ z'.2.1 ∧ (a_stab G → okS As → vx_Met (gl G) M.1 (a_ws M) (a_rm d z z') (a_Pc G As z hr hi hl) (fun _ _ _ _ => False) (xC G z' hr' hi' hl') (z'.1 - z.1) (z'.2.1 - z.2.1) (fun q => gb G ≤ q))
theorem x_ct_of {As : List aV} {z9 : aZ} {hr9 : aR} {hi9 hl9 : aI} (hy : plainName M.1.cls = true) (hlen : (lg_sl (As.map (a_cv G))).length ≤ M.2.2.1) (h : x_wp noT eT G M d 0 (a_L0 As M.2.2.1) [] z hr hi hl (fun _ z' hr' hi' hl' => z' = z9 ∧ hr' = hr9 ∧ hi' = hi9 ∧ hl' = hl9)) : x_ct G M d As z hr hi hl z9 hr9 hi9 hl9 := by
  obtain ⟨r, z', hr', hi', hl', ⟨k1, k2, k3⟩, rfl, rfl, rfl, rfl⟩ := h
  refine ⟨k1, k2, fun hst hok => ?_⟩
  refine vx_ofW (cc := M.2.1) (maxL := M.2.2.1) (ret := M.2.2.2) hy rfl ?_
  intro p e s m args below meth c s₁ B hml htab hv
  obtain ⟨rfl, hrp, hwK⟩ := hv
  have hts := atoms_spec (ws := a_ws M) B.pre
  have C : a_Cx M p s m _ meth c := ⟨B.exec, B.bytes, hml, findClass_of_methodNamed B.named, fun w h1 h2 => hts w (List.mem_cons_of_mem _ (List.mem_filter.mpr ⟨h1, h2⟩)), B.returns, B.notSynchronized, (name_of_methodNamed B.named B.method).1⟩
  have hl0 := lv_entry (As.map (a_cv G)) (n := M.2.2.1) hlen
  rw [lg_entry_eq]
  refine k3 hst (fun v hv => ?_) (fun v hv => by cases hv) p e _ s m _ below meth c s.heap [] 0 0 _ (z'.1 - z.1) (z'.2.1 - z.2.1) ⟨C, Nat.le_refl _, Nat.le_refl _, Nat.zero_le _, Nat.zero_le _, hrp, hwK, va_S.rf, by rw [hrp.1]; exact Nat.le_add_right _ _, hrp.2.2.2.1, hl0.1, hl0.2.1, fun i v hv => ?_⟩ (by omega) (by omega) (Nat.le_refl _) (Nat.le_refl _) htab
  · rcases List.mem_append.mp hv with q | q
    · exact a_fl_ok As hok v q
    · have := List.eq_of_mem_replicate q
      cases this
  · have h1 : (a_fl As)[i]? = some (some v) := by
      unfold a_L0 at hv
      by_cases hi9 : i < (a_fl As).length
      · rwa [List.getElem?_append_left hi9] at hv
      · rw [List.getElem?_append_right (by omega)] at hv
        have := List.eq_of_mem_replicate (List.mem_of_getElem? hv)
        cases this
    have h2 := a_fl_at (G := G) As i 0 v h1
    rw [Nat.zero_add] at h2
    exact hl0.2.2 _ h2
def a_wsH (M : aM) (hh : List (Nat × Nat × Nat × Nat)) : List Cond := .codeWith M.1 M.2.1 M.2.2.1 M.2.2.2 hh :: lw_tbl.filter goodWord
/-- the same as a_ct, of a method with an exception table -/
def a_ctH (G : aG) (M : aM) (hh : List (Nat × Nat × Nat × Nat)) (d : Nat) (As : List aV) (z : aZ) (hr : aR) (hi hl : aI) (Q : Option aV → aZ → aR → aI → aI → Prop) : Prop :=
  ∃ r z' hr' hi' hl', (z.1 ≤ z'.1 ∧ z.2.1 ≤ z'.2.1 ∧ (a_stab G → okS As → Met (gl G) M.1 (a_wsH M hh) (a_rm d z z') (a_Pc G As z hr hi hl) (a_Qc G r z' hr' hi' hl') (z'.1 - z.1) (z'.2.1 - z.2.1) (fun q => gb G ≤ q))) ∧ Q r z' hr' hi' hl'
theorem a_ctH_of {As : List aV} {hh : List (Nat × Nat × Nat × Nat)} (hy : plainName M.1.cls = true) (hlen : (lg_sl (As.map (a_cv G))).length ≤ M.2.2.1) (h : x_wp (fun c => c.exceptionTable.toList = tableOf hh) eR G M d 0 (a_L0 As M.2.2.1) [] z hr hi hl Q) : a_ctH G M hh d As z hr hi hl Q := by
  obtain ⟨r, z', hr', hi', hl', ⟨k1, k2, k3⟩, hq⟩ := h
  refine ⟨r, z', hr', hi', hl', ⟨k1, k2, fun hst hok => ?_⟩, hq⟩
  refine MetFree.of_bodyS (code := M.2.1) (maxLocals := M.2.2.1) (ret := M.2.2.2) hy ?_ ?_
  · intro args s m h hn
    obtain ⟨m9, meth, c, hn9, h1, h2, h3, h4, -, h5, h6, -⟩ := Cond.codeWith_spec (atoms_spec (ws := a_wsH M hh) h _ List.mem_cons_self)
    cases hn.symm.trans hn9
    exact ⟨meth, c, h1, h2, h3, h4, h5, h6⟩
  · intro p e s m args below meth c s₁ B hml hP _
    have hh0 : s₁.heap = s.heap := by rw [B.state]; rfl
    have htab := vx_table (x := M.1) B (atoms_spec (ws := a_wsH M hh) B.pre _ List.mem_cons_self)
    have key : W p (gl G) e (headSpec (a_wsH M hh) (a_rm d z z')).room s m args below meth c s.heap [] 0 0 (MQ below (a_Qc G r z' hr' hi' hl') args s (z'.1 - z.1) (z'.2.1 - z.2.1) (fun q => gb G ≤ q)) (entryFrame m args M.2.2.1) := by
      obtain ⟨rfl, hrp, hwK⟩ := hP
      have hts := atoms_spec (ws := a_wsH M hh) B.pre
      have C : a_Cx M p s m _ meth c := ⟨B.exec, B.bytes, hml, findClass_of_methodNamed B.named, fun w h1 h2 => hts w (List.mem_cons_of_mem _ (List.mem_filter.mpr ⟨h1, h2⟩)), B.returns, B.notSynchronized, (name_of_methodNamed B.named B.method).1⟩
      have hl0 := lv_entry (As.map (a_cv G)) (n := M.2.2.1) hlen
      rw [lg_entry_eq]
      refine k3 hst (fun v hv => ?_) (fun v hv => by cases hv) p e _ s m _ below meth c s.heap [] 0 0 _ (z'.1 - z.1) (z'.2.1 - z.2.1) ⟨C, Nat.le_refl _, Nat.le_refl _, Nat.zero_le _, Nat.zero_le _, hrp, hwK, va_S.rf, by rw [hrp.1]; exact Nat.le_add_right _ _, hrp.2.2.2.1, hl0.1, hl0.2.1, fun i v hv => ?_⟩ (by omega) (by omega) (Nat.le_refl _) (Nat.le_refl _) htab
      · rcases List.mem_append.mp hv with q | q
        · exact a_fl_ok As hok v q
        · have := List.eq_of_mem_replicate q
          cases this
      · have h1 : (a_fl As)[i]? = some (some v) := by
          unfold a_L0 at hv
          by_cases hi9 : i < (a_fl As).length
          · rwa [List.getElem?_append_left hi9] at hv
          · rw [List.getElem?_append_right (by omega)] at hv
            have := List.eq_of_mem_replicate (List.mem_of_getElem? hv)
            cases this
        have h2 := a_fl_at (G := G) As i 0 v h1
        rw [Nat.zero_add] at h2
        exact hl0.2.2 _ h2
    obtain ⟨t, a1, o, b1, b2, b3⟩ := key s₁ hh0 (Stand.of_body B)
    exact ⟨t, o, a1, b1, b2, ⟨b3.1, b3.2⟩⟩
/-- a call that throws, caught by the one row of the caller's table; the exception is stored away -/
theorem x_callT (hTh : gT G) {M2 : aM} {d2 idx b t i : Nat} {len : Int} {As st0 : List aV} {row : ExceptionTableEntry} {z9 : aZ} {hr9 : aR} {hi9 hl9 : aI} (hd : decode M.2.1 pc = .ok (.invokevirtual idx, 3)) (C : x_ct G M2 d2 (vR b :: As) z hr hi hl z9 hr9 hi9 hl9) (K : a_Ok M2 As.length) (hlink : Cond.methodLink M.1.cls idx M2.1 ∈ lw_tbl) (hin : Cond.instanceMethod M2.1 ∈ lw_tbl) (hsel : Cond.selects (a_Rn t) M2.1 M2.1 ∈ lw_tbl) (ht : t < 11) (hdd : d2 + 1 ≤ d) (hb : a_is z b t len) (hst0 : st0 = As.reverse ++ vR b :: st) (hw : (st.map a_cat).sum ≤ 8)
    (hcov : covers row pc = true) (h0 : row.catchType ≠ 0) (hcl : Cond.classLink M.1.cls row.catchType nse ∈ lw_tbl) (hd2 : decode M.2.1 row.handlerPc = .ok (.astore i, 2)) (hi2 : i < M.2.2.1)
    (k : x_wp (fun c => c.exceptionTable.toList = [row]) eR G M d (row.handlerPc + 2) [] [] z9 hr9 hi9 hl9 Q) : x_wp (fun c => c.exceptionTable.toList = [row]) eR G M d pc L st0 z hr hi hl Q := by
  subst hst0
  obtain ⟨c1, c2, c3⟩ := C
  obtain ⟨r, z', hr', hi', hl', ⟨k1, k2, k3⟩, hq⟩ := k
  refine ⟨r, z', hr', hi', hl', ⟨Nat.le_trans c1 k1, Nat.le_trans c2 k2, fun hst hL hS p e R s m args below meth c H locs cells slots ls mc ms B e1 e2 e3 e4 e5 => ?_⟩, hq⟩
  have hAs : okS (vR b :: As) := fun v hv => by
    rcases List.mem_cons.mp hv with rfl | hv
    · trivial
    · exact hS v (List.mem_append_left _ (List.mem_reverse.mpr hv))
  have hrp := B.2.2.2.2.2.1
  have hS8 := B.2.2.2.2.2.2.2.1
  have hbr : a_cv G (vR b) = .ref (gc G b) := a_cvR (a_lt9 B hb)
  obtain ⟨cellB, q1, q2, q3, -⟩ := a_obj hrp hb ht
  have hU : ∀ U : State, U.heap = H → s.WarmedH U.vm → a_Pc G (vR b :: As) z hr hi hl (Value.ref (gc G b) :: As.map (a_cv G)).toArray U := fun U hU hW => by
    have := a_pcU (As := vR b :: As) hst B U hU hW
    rwa [List.map_cons, hbr] at this
  have hrun := vx_runV (C := a_Rn t) (b := gc G b) (As := As.map (a_cv G)) (rest := st.map (a_cv G)) (n := As.length) (g := F0 m pc ls ((As.map (a_cv G)).reverse ++ Value.ref (gc G b) :: st.map (a_cv G))) (cells := cells) (slots := slots) (locs := locs) (e := e) (below := below) (meth := meth) ⟨B.1.1, B.1.2.1, B.1.2.2.1, B.1.2.2.2.1, B.1.ts⟩ (c3 hst hAs) ⟨a_CB B K hlink hdd, B.1.2.2.2.2.1 _ hin rfl, B.1.2.2.2.2.1 _ hsel rfl⟩ ⟨a_blind hst, ⟨cellB, q1, by rw [q3]; rfl, by rw [q2]; exact (B.2.2.2.2.2.2.1.1.1 t _ (a_vw t ht)).2.1⟩, hU⟩ rfl (by simp) B.2.2.2.2.2.2.2.2.2.2.1 rfl (lv_room (by rw [a_cats]; exact hw)) hd ⟨by omega, by omega⟩
  rw [List.map_append, List.map_cons, List.map_reverse, hbr]
  intro T hT X
  rcases hrun T hT X with ⟨v, st₀, t₁, T', L9, g0, X', hL9, f1, f2, hF, -⟩ | ⟨q, st₀, t₁, T', L9, E, ce, g0, X', hL9, f1, f2, hXC, hce, hcv, hcl9, hsteps⟩
  · exact hF.elim
  · obtain ⟨rfl, hrp2⟩ := hXC
    have hS9 : va_S (fun q => gb G ≤ q) s.heap T'.heap (locs ++ L9) := ⟨by rw [f1, hrp2.1]; have := hS8.1; rw [hrp.1] at this; omega, fun y g1 g2 => by
      have g3 : y < gb G := Nat.not_le.mp g2
      rw [f1, hrp2.2.2.2.1 y g3]; exact (B.2.2.2.2.2.2.2.2.2.1 y g3).symm, fun y hy => by
      rcases List.mem_append.mp hy with h | h
      · exact hS8.2.2 y h
      · exact hL9 y h⟩
    have hW := vz_catch (p := p) (l := gl G) (e := e) (R := R) (s := s) (m := m) (args := args) (below := below) (meth := meth) (c := c) (H := T'.heap) (locs := locs ++ L9) (cells := cells + (z9.1 - z.1)) (slots := slots + (z9.2.1 - z.2.1)) (Q := eR G below args s mc ms r z' hr' hi' hl') (pc := pc) (ls := ls) (rest := st.map (a_cv G)) (own := M.1.cls) (name := nse) (E := nse) (ce := ce) (q := q) (x := row) B.1.2.2.2.1 e5 hcov h0 (B.1.2.2.2.2.1 _ hcl rfl) ((hTh.2 s B.2.2.2.2.2.2.1.2).2.2 _ vz_c rfl _) (by rw [f1]; exact hce) hcv hcl9 (by
      refine lv_astore B.1.1 B.1.2.1 hd2 (B.2.2.2.2.2.2.2.2.2.2).has hi2 rfl (fun ls' h' => ?_)
      obtain ⟨b1, b2, b3, b4, b5, b6, b7, b8, b9, b10, b11⟩ := B
      exact k3 hst (fun v hv => by cases hv) (fun v hv => by cases hv) p e R s m args below meth c T'.heap (locs ++ L9) (cells + (z9.1 - z.1)) (slots + (z9.2.1 - z.2.1)) ls' mc ms ⟨b1, b2, b3, by omega, by omega, by rw [f1]; exact hrp2, b7, hS9, b9, b10, h'.1, h'.2.1, fun i v hv => by cases hv⟩ (by omega) (by omega) e3 e4 e5)
    obtain ⟨t2, a1, b1⟩ := hW T' rfl X'
    exact ⟨t2, hsteps.trans a1, b1⟩
end X3
