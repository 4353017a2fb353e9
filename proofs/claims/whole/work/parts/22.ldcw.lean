section B2
variable {G : aG} {M : aM} {d pc n : Nat} {L : List (Option aV)} {st : List aV} {z : aZ} {hr : aR} {hi hl : aI} {Q : Option aV → aZ → aR → aI → aI → Prop}
theorem a_ldcw {v : Int} {w : Int32} {idx : Nat} (hd : decode M.2.1 pc = .ok (.ldc_w idx, 3)) (hn : pc + 3 = n) (hv : r32 v) (hc : Cond.constant M.1.cls idx w ∈ lw_tbl) (he : w = Int32.ofInt v) (k : a_wp G M d n L (vI v :: st) z hr hi hl Q) : a_wp G M d pc L st z hr hi hl Q := by
  subst hn; subst he
  refine a_go k (fun hL hs _ _ => okS_c hv hs) (fun hL hs p e R s m args below meth c H locs cells slots ls Q0 B kk => ?_)
  exact lv_ldcw B.1.1 B.1.2.1 B.1.2.2.2.1 (B.1.2.2.2.2.1 _ hc rfl) hd kk
theorem cM317 : Cond.constant RX10 317 1000000 ∈ lw_tbl := by decide +kernel
end B2
