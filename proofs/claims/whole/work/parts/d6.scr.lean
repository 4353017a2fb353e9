/-! the law's script: an int array that lies below *) -/
section SCR
variable {G : aG} {M : aM} {d pc n : Nat} {L : List (Option aV)} {st : List aV} {z : aZ} {hr : aR} {hi hl : aI} {Q : Option aV → aZ → aR → aI → aI → Prop}
theorem a_alenT {a N : Nat} {f : Nat → Value} (hd : decode M.2.1 pc = .ok (.arraylength, 1)) (hn : pc + 1 = n) (hT : ∀ U, gX G U → va_T .int (a_ca G a) N f (fun q => gb G ≤ q) U U.heap) (hN : N < 1000000) (k : a_wp G M d n L (vI N :: st) z hr hi hl Q) : a_wp G M d pc L (vR a :: st) z hr hi hl Q := by
  subst hn
  refine a_go k (fun hL hs _ _ => okS_c (show r32 (N : Int) from ⟨by omega, by omega⟩) (okS_t hs)) (fun hL hS p e R s m args below meth c H locs cells slots ls Q0 B kk => ?_)
  exact va_tlen (v := Int32.ofInt N) B.1.1 B.1.2.1 (hT s B.2.2.2.2.2.2.1.2) B.2.2.2.2.2.2.2.1 (Int32.ofInt_eq_ofNat).symm hd kk
theorem a_ialdX {a N : Nat} {f : Nat → Int32} {i : Int} (hd : decode M.2.1 pc = .ok (.iaload, 1)) (hn : pc + 1 = n) (hT : ∀ U, gX G U → va_T .int (a_ca G a) N (fun j => .int (f j)) (fun q => gb G ≤ q) U U.heap) (h0 : 0 ≤ i) (h1 : i < N) (k : a_wp G M d n L (vI (f i.toNat).toInt :: st) z hr hi hl Q) : a_wp G M d pc L (vI i :: vR a :: st) z hr hi hl Q := by
  subst hn
  refine a_go k (fun hL hs _ _ => okS_c (show r32 _ from r32_of _) (okS_t (okS_t hs))) (fun hL hS p e R s m args below meth c H locs cells slots ls Q0 B kk => ?_)
  have hi0 := okI' (okS_h hS)
  refine va_ti (v := .int (f i.toNat)) B.1.1 B.1.2.1 (hT s B.2.2.2.2.2.2.1.2) B.2.2.2.2.2.2.2.1 (i := Int32.ofInt i) (fun q => ?_) (by show Value.int (f (Int32.ofInt i).toNatClampNeg) = _; rw [a_cl hi0]) hd ?_
  · rcases q with q | q
    · rw [a_lt0 hi0] at q; omega
    · rw [a_cl hi0] at q; omega
  · have h9 := kk
    rw [List.map_cons, show a_cv G (vI (f i.toNat).toInt) = .int (f i.toNat) from by show Value.int (Int32.ofInt (f i.toNat).toInt) = _; rw [a_ofI]] at h9
    exact h9
/-- what the law's walk may use *) -/
def gL (G : aG) (N : Nat) (xs : Nat → Int32) : Prop := gN G ∧ gS G ∧ gT G ∧ gA2 G ∧ N < 1000000 ∧ ∀ U, gX G U → va_T .int (a_ca G 1000000500) N (fun j => .int (xs j)) (fun q => gb G ≤ q) U U.heap
end SCR
