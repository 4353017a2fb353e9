/-! calls of nest mates; Object's constructor; Math.min and max -/
section F
variable {G : aG} {M : aM} {d pc n : Nat} {L : List (Option aV)} {st : List aV} {z : aZ} {hr : aR} {hi hl : aI} {Q : Option aV → aZ → aR → aI → aI → Prop}
theorem a_CNk {M2 : aM} {d2 idx na : Nat} {host : String} {z' : aZ} {p : Program} {R : Room} {s : State} {m : MethodId} {args : Array Value} {meth : Method} {c : Code} {H : Heap} {locs : List Loc} {cells slots : Nat} {ls : Array Slot} (B : a_B G M d 0 0 L z hr hi hl p R s m args meth c H locs cells slots ls) (K : a_Ok M2 na) (hlink : ∀ U, gX G U → va_Nw (.methodLinkNest M.1.cls idx M2.1 host) U) (hdd : d2 + 1 ≤ d) :
    va_CN R s args M.1.cls idx M2.1 host M2.2.1 M2.2.2.1 M2.2.2.2 (a_ws M2) (a_rm d2 z z') (z'.1 - z.1) (z'.2.1 - z.2.1) na := by
  obtain ⟨K1, K2, K3, K4, K5⟩ := K
  have b2 := B.2.1
  have b3 := B.2.2.1
  refine va_cnB (Ts := a_ws M2) na (fun w hw => ?_) (fun w hw => ⟨hw, ?_⟩) rfl rfl rfl (hlink s B.2.2.2.2.2.2.1.2) (B.1.2.2.2.2.1 _ K2 rfl) ⟨K3.1, K3.2, K4⟩ ⟨by show d2 + 1 ≤ R.frames; omega, by show 8 + (M2.2.2.1 + 11) + 40 * d2 ≤ R.locals; omega⟩
  · rcases List.mem_cons.mp hw with rfl | hw
    · exact B.1.2.2.2.2.1 _ K1 rfl
    · exact B.1.ts w hw
  · rcases List.mem_cons.mp hw with rfl | hw
    · exact good_of_word rfl
    · exact good_of_word (List.mem_filter.mp hw).2
theorem a_callSN {M2 : aM} {d2 idx : Nat} {host : String} {As st0 : List aV} {Q1 : Option aV → aZ → aR → aI → aI → Prop} (hd : decode M.2.1 pc = .ok (.invokestatic idx, 3)) (hn : pc + 3 = n) (C : a_ct G M2 d2 As z hr hi hl Q1) (K : a_Ok M2 As.length) (hlink : ∀ U, gX G U → va_Nw (.methodLinkNest M.1.cls idx M2.1 host) U) (hsta : Cond.static M2.1 ∈ lw_tbl) (hdd : d2 + 1 ≤ d) (hst0 : st0 = As.reverse ++ st) (hw : (st.map a_cat).sum ≤ 8)
    (k : ∀ r z' hr' hi' hl', Q1 r z' hr' hi' hl' → a_wp G M d n L (r.toList ++ st) z' hr' hi' hl' Q) : a_wp G M d pc L st0 z hr hi hl Q := by
  refine a_callW hn hst0 C (fun r z' hr' hi' hl' hst g1 g2 hM p e R s m args below meth c H locs cells slots ls B h1 h2 => ?_) k
  subst hst0
  exact va_runSN (As := As.map (a_cv G)) (rest := st.map (a_cv G)) (n := As.length) ⟨B.1.1, B.1.2.1, B.1.2.2.1, B.1.2.2.2.1, B.1.ts⟩ hM ⟨a_CNk B K hlink hdd, B.1.2.2.2.2.1 _ hsta rfl, trivial⟩ ⟨a_blind hst, fun U hU hW => a_pcU hst B U hU hW⟩ rfl (by simp) B.2.2.2.2.2.2.2.2.2.2.1 (by rw [List.map_append, List.map_reverse]) (lv_room (by rw [a_cats]; exact hw)) hd ⟨h1, h2⟩
theorem a_callIN {M2 : aM} {d2 idx b : Nat} {host : String} {As st0 : List aV} {Q1 : Option aV → aZ → aR → aI → aI → Prop} (hd : decode M.2.1 pc = .ok (.invokespecial idx, 3)) (hn : pc + 3 = n) (C : a_ct G M2 d2 (vR b :: As) z hr hi hl Q1) (K : a_Ok M2 As.length) (hlink : ∀ U, gX G U → va_Nw (.methodLinkNest M.1.cls idx M2.1 host) U) (hin : Cond.instanceMethod M2.1 ∈ lw_tbl) (hnm : M2.1.name = "<init>") (hret : M2.2.2.2 = none) (hdd : d2 + 1 ≤ d) (hb : b < z.1) (hst0 : st0 = As.reverse ++ vR b :: st) (hw : (st.map a_cat).sum ≤ 8)
    (k : ∀ r z' hr' hi' hl', Q1 r z' hr' hi' hl' → a_wp G M d n L (r.toList ++ st) z' hr' hi' hl' Q) : a_wp G M d pc L st0 z hr hi hl Q := by
  refine a_callW hn (by rw [hst0]; simp) C (fun r z' hr' hi' hl' hst g1 g2 hM p e R s m args below meth c H locs cells slots ls B h1 h2 => ?_) k
  subst hst0
  have hrp := B.2.2.2.2.2.1
  have hbr : a_cv G (vR b) = .ref (gc G b) := a_cvR (Nat.lt_trans hb hrp.2.1.1)
  have hU : ∀ U : State, U.heap = H → s.WarmedH U.vm → a_Pc G (vR b :: As) z hr hi hl (Value.ref (gc G b) :: As.map (a_cv G)).toArray U := fun U hU hW => by
    have := a_pcU (As := vR b :: As) hst B U hU hW
    rwa [List.map_cons, hbr] at this
  have hcb := a_CNk (z' := z') B K hlink hdd
  rw [hret] at hcb
  have hrun := va_runIN (b := gc G b) (As := As.map (a_cv G)) (rest := st.map (a_cv G)) (n := As.length) (g := F0 m pc ls ((As.map (a_cv G)).reverse ++ Value.ref (gc G b) :: st.map (a_cv G))) (cells := cells) (slots := slots) (locs := locs) (e := e) (below := below) (meth := meth) ⟨B.1.1, B.1.2.1, B.1.2.2.1, B.1.2.2.2.1, B.1.ts⟩ hM ⟨hcb, hnm, B.1.2.2.2.2.1 _ hin rfl⟩ ⟨a_blind hst, hU⟩ rfl (by simp) B.2.2.2.2.2.2.2.2.2.2.1 rfl (lv_room (by rw [a_cats]; exact hw)) hd ⟨h1, h2⟩
  rw [List.map_append, List.map_cons, List.map_reverse, List.map_cons, hbr]
  exact hrun
theorem obj_in : Cond.instanceMethod objectInit ∈ lw_tbl := by decide +kernel
theorem obj_code : Cond.code objectInit ⟨#[0xb1]⟩ 1 none ∈ lw_tbl := by decide +kernel
theorem a_objInit {b idx : Nat} (hd : decode M.2.1 pc = .ok (.invokespecial idx, 3)) (hn : pc + 3 = n) (hlink : Cond.methodLink M.1.cls idx objectInit ∈ lw_tbl) (hdd : 1 ≤ d) (hb : b < z.1) (hw : (st.map a_cat).sum ≤ 8) (k : a_wp G M d n L st z hr hi hl Q) : a_wp G M d pc L (vR b :: st) z hr hi hl Q := by
  subst hn
  refine a_go k (fun hL hs _ _ => okS_t hs) (fun hL hS p e R s m args below meth c H locs cells slots ls Q0 B kk => ?_)
  have hbr : a_cv G (vR b) = .ref (gc G b) := a_cvR (Nat.lt_trans hb B.2.2.2.2.2.1.2.1.1)
  have b2 := B.2.1
  have b3 := B.2.2.1
  rw [List.map_cons, hbr]
  refine W.objInit B.1.1 B.1.2.1 B.1.2.2.2.1 (B.1.2.2.2.2.1 _ hlink rfl) (B.1.2.2.2.2.1 _ obj_in rfl) (B.1.2.2.2.2.1 _ obj_code rfl) rfl (B.2.2.2.2.2.2.2.2.2.2.1.trans B.1.2.2.1.symm) rfl hd (by omega) ?_ kk
  have := lv_room (m := m) (pc := pc) (ls := ls) (rest := Value.ref (gc G b) :: st.map (a_cv G)) (st := st.map (a_cv G)) (by rw [a_cats]; exact hw)
  omega
end F
