/-! the same stores, with the new list of locals said plainly (a_st evaluates what is below it twice: a chain of six costs 64 times) -/
def a_pj (L : List (Option aV)) (i : Nat) : Bool := match i with
  | 0 => false
  | j + 1 => match L[j]? with
    | some (some (.inr (.inl _))) => true
    | _ => false
theorem a_st_set {L : List (Option aV)} {i : Nat} {v : aV} (h : a_pj L i = false) : a_st L i v = L.set i (some v) := by
  unfold a_st a_clr
  unfold a_pj at h
  split
  · rfl
  · split
    · rename_i hx
      simp only [hx] at h
      cases h
    · rfl
section B3
variable {G : aG} {M : aM} {d pc n : Nat} {L : List (Option aV)} {st : List aV} {z : aZ} {hr : aR} {hi hl : aI} {Q : Option aV → aZ → aR → aI → aI → Prop}
theorem b_istore_n {q : Fin 4} {x : Int} (hd : decode M.2.1 pc = .ok (.istore_n q, 1)) (hn : pc + 1 = n) (hL : (q : Nat) < M.2.2.1) (hj : a_pj L (q : Nat) = false) (k : a_wp G M d n (L.set (q : Nat) (some (vI x))) st z hr hi hl Q) : a_wp G M d pc L (vI x :: st) z hr hi hl Q := a_istore_n hd hn hL (by rw [a_st_set hj]; exact k)
theorem b_istore {i : Nat} {x : Int} (hd : decode M.2.1 pc = .ok (.istore i, 2)) (hn : pc + 2 = n) (hL : i < M.2.2.1) (hj : a_pj L i = false) (k : a_wp G M d n (L.set i (some (vI x))) st z hr hi hl Q) : a_wp G M d pc L (vI x :: st) z hr hi hl Q := a_istore hd hn hL (by rw [a_st_set hj]; exact k)
theorem b_astore_n {q : Fin 4} {o : Option Nat} (hd : decode M.2.1 pc = .ok (.astore_n q, 1)) (hn : pc + 1 = n) (hL : (q : Nat) < M.2.2.1) (hj : a_pj L (q : Nat) = false) (k : a_wp G M d n (L.set (q : Nat) (some (vO o))) st z hr hi hl Q) : a_wp G M d pc L (vO o :: st) z hr hi hl Q := a_astore_n hd hn hL (by rw [a_st_set hj]; exact k)
theorem b_astore {i : Nat} {o : Option Nat} (hd : decode M.2.1 pc = .ok (.astore i, 2)) (hn : pc + 2 = n) (hL : i < M.2.2.1) (hj : a_pj L i = false) (k : a_wp G M d n (L.set i (some (vO o))) st z hr hi hl Q) : a_wp G M d pc L (vO o :: st) z hr hi hl Q := a_astore hd hn hL (by rw [a_st_set hj]; exact k)
theorem b_iinc {i : Nat} {x c0 : Int} (hd : decode M.2.1 pc = .ok (.iinc i c0, 3)) (hn : pc + 3 = n) (hL : i < M.2.2.1) (hj : a_pj L i = false) (hx : L[i]? = some (some (vI x))) (h1 : r32 (x + c0)) (k : a_wp G M d n (L.set i (some (vI (x + c0)))) st z hr hi hl Q) : a_wp G M d pc L st z hr hi hl Q := a_iinc hd hn hL hx h1 (by rw [a_st_set hj]; exact k)
end B3
