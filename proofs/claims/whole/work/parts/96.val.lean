/-! what codes are worth: the class and the reference find the same -/
def ab (x : Int) : Int := if x < 0 then -x else x
theorem ab_le (x : Int) : -(ab x) ≤ x ∧ x ≤ ab x ∧ 0 ≤ ab x := by
  unfold ab
  split <;> omega
def sAb (f : Int → Int) : Nat → Int
  | 0 => 0
  | n + 1 => sAb f n + ab (f n)
theorem sAb_0 {f : Int → Int} (n : Nat) : 0 ≤ sAb f n := by
  induction n with
  | zero => exact Int.le_refl _
  | succ n ih =>
    have := (ab_le (f n)).2.2
    show 0 ≤ sAb f n + ab (f n)
    omega
theorem sAb_u {f : Int → Int} {i : Nat} {v : Int} (n : Nat) : n ≤ i → sAb (wU f i v) n = sAb f n := by
  induction n with
  | zero => exact fun _ => rfl
  | succ n ih =>
    intro h
    show sAb (wU f i v) n + ab (wU f i v n) = sAb f n + ab (f n)
    rw [ih (by omega)]
    unfold wU
    rw [if_neg (by omega)]
theorem sAb_s {f : Int → Int} {i : Nat} {v : Int} : sAb (wU f i v) (i + 1) = sAb f i + ab v := by
  show sAb (wU f i v) i + ab (wU f i v i) = sAb f i + ab v
  rw [sAb_u i (Nat.le_refl _)]
  unfold wU
  rw [if_pos rfl]
theorem cj_ab {k a b : Int} : ab (cj k a b) ≤ ab a + ab b + 1 := by
  have h₁ := ab_le a
  have h₂ := ab_le b
  have key : ∀ x : Int, -(ab a + ab b + 1) ≤ x → x ≤ ab a + ab b + 1 → ab x ≤ ab a + ab b + 1 := fun x x₁ x₂ => by
    unfold ab at x₁ x₂ ⊢
    split <;> omega
  unfold cj
  split
  · exact key _ (by omega) (by omega)
  · split
    · exact key _ (by omega) (by omega)
    · split
      · split <;> exact key _ (by omega) (by omega)
      · split
        · split <;> exact key _ (by omega) (by omega)
        · split <;> exact key _ (by omega) (by omega)
theorem jn_cj {k a b : Int} (h : 10 ≤ k ∧ k ≤ 14) : jn (oC k) a b = cj k a b ∧ ¬ oC k = 0 ∧ ¬ (oC k = 1 ∨ oC k = 2) := by
  have e : k = 10 ∨ k = 11 ∨ k = 12 ∨ k = 13 ∨ k = 14 := by omega
  rcases e with rfl | rfl | rfl | rfl | rfl <;> exact ⟨rfl, by decide, by decide⟩
theorem wV_s {f : Int → Int} {i v : Int} : wU f i v i = v := if_pos rfl
theorem wV_n {f : Int → Int} {i v j : Int} (h : ¬ j = i) : wU f i v j = f j := if_neg h
section VAL
variable {co nu op one fa kn : Int → Int}
theorem ev_both (hkn : ∀ k, 0 ≤ k → k < 7 → fa k = kn k ∧ 0 ≤ fa k ∧ fa k ≤ 9999) (cs : List (Int × Int)) : ∀ (i p : Int) (t : Nat) (f g : Int → Int), rows co nu i cs → rows op one p (oM cs) → op (p + cs.length) = 0 → (∀ e ∈ cs, cOk e) → dC cs t = some 1 → (∀ j : Int, 0 ≤ j → j < t → g j = f j) → t ≤ 24 → 0 ≤ i → i + cs.length ≤ 600 → 0 ≤ p → p + cs.length < 1320 → sAb f t + 10000 * cs.length ≤ 100000000 →
    ∃ (v : Int) (u w : Int → Int), cV co nu fa cs.length i t f = some (v, u, 0) ∧ ∀ F : Nat, wR op one kn (F + cs.length + 1) p t g = some (v, w) := by
  induction cs with
  | nil =>
    intro i p t f g _ _ h₀ _ hd hg ht hi₁ hi₂ hp₁ hp₂ hs
    have e : (t : Int) = 1 := Option.some.inj hd
    have h₀ : op p = 0 := by
      have h₁ : op (p + ((0 : Nat) : Int)) = 0 := h₀
      rw [show p + ((0 : Nat) : Int) = p by omega] at h₁
      exact h₁
    refine ⟨f 0, f, g, ?_, fun F => ?_⟩
    · show cV co nu fa 0 i t f = _
      rw [cV, e, if_pos (by decide)]
      rfl
    · show wR op one kn (F + 0 + 1) p t g = _
      have hp₂ : p + ((0 : Nat) : Int) < 1320 := hp₂
      rw [wR, if_neg (not_not_intro ⟨hp₁, by omega⟩), if_pos h₀, hg 0 (Int.le_refl _) (by omega)]
  | cons e cs ih =>
    intro i p t f g hc hr h₀ hok hd hg ht hi₁ hi₂ hp₁ hp₂ hs
    obtain ⟨c₁, c₂, c₃⟩ := hc
    obtain ⟨r₁, r₂, r₃⟩ := hr
    have r₁ : op p = oC e.1 := r₁
    have r₂ : one p = oV e := r₂
    have hok₀ := hok e List.mem_cons_self
    have hokr : ∀ x ∈ cs, cOk x := fun x hx => hok x (List.mem_cons_of_mem _ hx)
    rw [List.length_cons] at h₀ hi₂ hp₂ hs
    rw [show p + ((cs.length + 1 : Nat) : Int) = p + 1 + (cs.length : Int) by omega] at h₀
    rw [dC_c] at hd
    rw [List.length_cons]
    by_cases q : e.1 ≤ 7
    · rw [if_pos q] at hd
      by_cases q₂ : (t : Int) < 24
      · rw [if_pos q₂] at hd
        obtain ⟨x, x₁, x₂, x₃⟩ : ∃ x : Int, (if e.1 < 7 then x = fa e.1 else x = e.2) ∧ 0 ≤ x ∧ x ≤ 9999 := by
          by_cases q₃ : e.1 < 7
          · have := hkn e.1 (by have := hok₀.1; omega) q₃
            exact ⟨fa e.1, by rw [if_pos q₃], this.2⟩
          · exact ⟨e.2, by rw [if_neg q₃], hok₀.2⟩
        have hd₂ : dC cs ((t + 1 : Nat) : Int) = some 1 := hd
        obtain ⟨v, u, w, y₁, y₂⟩ := ih (i + 1) (p + 1) (t + 1) (wU f t x) (wU g t x) c₃ r₃ h₀ hokr hd₂ (fun j j₁ j₂ => by
          by_cases j₃ : j = t
          · rw [j₃, wV_s, wV_s]
          · rw [wV_n j₃, wV_n j₃]; exact hg j j₁ (by omega)) (by omega) (by omega) (by omega) (by omega) (by omega) (by
          rw [sAb_s]
          have : ab x ≤ 9999 := by unfold ab; split <;> omega
          omega)
        refine ⟨v, u, w, ?_, fun F => ?_⟩
        · rw [cV, if_neg (not_not_intro ⟨hi₁, by omega⟩), c₁]
          have hq := hok₀.1
          by_cases q₃ : e.1 < 7
          · rw [if_pos q₃] at x₁
            rw [if_pos q₃, if_neg (not_not_intro ⟨by omega, by omega, q₂⟩), ← x₁]
            exact y₁
          · rw [if_neg q₃] at x₁
            rw [if_neg q₃, if_pos (by omega), if_neg (not_not_intro ⟨by omega, q₂⟩), c₂, ← x₁]
            exact y₁
        · have hq := hok₀.1
          rw [show F + (cs.length + 1) + 1 = F + cs.length + 1 + 1 by omega, wR, if_neg (not_not_intro ⟨hp₁, by omega⟩), r₁, r₂]
          by_cases q₃ : e.1 < 7
          · rw [if_pos q₃] at x₁
            have o₁ : oC e.1 = 2 := by unfold oC; rw [if_neg (by omega), if_pos q₃]
            have o₂ : oV e = e.1 := by unfold oV; rw [if_neg (by omega), if_pos q₃]
            rw [o₁, o₂, if_neg (by decide), if_pos (Or.inr rfl), if_neg (not_not_intro ⟨by omega, by omega, fun _ => ⟨by omega, q₃⟩⟩), if_neg (by decide), ← (hkn e.1 (by omega) q₃).1, ← x₁]
            exact y₂ F
          · rw [if_neg q₃] at x₁
            have o₁ : oC e.1 = 1 := by unfold oC; rw [if_pos (by omega)]
            have o₂ : oV e = e.2 := by unfold oV; rw [if_pos (by omega)]
            rw [o₁, o₂, if_neg (by decide), if_pos (Or.inl rfl), if_neg (not_not_intro ⟨by omega, by omega, fun h => absurd h (by decide)⟩), if_pos rfl, ← x₁]
            exact y₂ F
      · rw [if_neg q₂] at hd; cases hd
    · rw [if_neg q] at hd
      by_cases q₂ : 2 ≤ (t : Int)
      · rw [if_pos q₂] at hd
        obtain ⟨s, rfl⟩ : ∃ s : Nat, t = s + 2 := ⟨t - 2, by omega⟩
        have hk : 10 ≤ e.1 ∧ e.1 ≤ 14 := by have := hok₀.1; omega
        have ta : ((s + 2 : Nat) : Int) - 2 = s := by omega
        have tb : ((s + 2 : Nat) : Int) - 1 = ((s + 1 : Nat) : Int) := by omega
        rw [tb] at hd
        have hsum : sAb f (s + 2) = sAb f s + ab (f s) + ab (f ((s + 1 : Nat) : Int)) := rfl
        have h₁ := ab_le (f s)
        have h₂ := ab_le (f ((s + 1 : Nat) : Int))
        have h₃ := sAb_0 (f := f) s
        have ga : g s = f s := hg s (by omega) (by omega)
        have gb₁ : g ((s + 1 : Nat) : Int) = f ((s + 1 : Nat) : Int) := hg _ (by omega) (by omega)
        obtain ⟨v, u, w, y₁, y₂⟩ := ih (i + 1) (p + 1) (s + 1) (wU f s (cj e.1 (f s) (f ((s + 1 : Nat) : Int)))) (wU g s (cj e.1 (f s) (f ((s + 1 : Nat) : Int)))) c₃ r₃ h₀ hokr hd (fun j j₁ j₂ => by
          by_cases j₃ : j = s
          · rw [j₃, wV_s, wV_s]
          · rw [wV_n j₃, wV_n j₃]; exact hg j j₁ (by omega)) (by omega) (by omega) (by omega) (by omega) (by omega) (by
          rw [sAb_s]
          have := cj_ab (k := e.1) (a := f s) (b := f ((s + 1 : Nat) : Int))
          omega)
        refine ⟨v, u, w, ?_, fun F => ?_⟩
        · rw [cV, if_neg (not_not_intro ⟨hi₁, by omega⟩), c₁, if_neg (by omega), if_neg (by omega), ta, tb, if_neg (not_not_intro ⟨q₂, by omega, ⟨by omega, by omega⟩, by omega, by omega⟩)]
          exact y₁
        · obtain ⟨j₁, j₂, j₃⟩ := jn_cj (a := f s) (b := f ((s + 1 : Nat) : Int)) hk
          rw [show F + (cs.length + 1) + 1 = F + cs.length + 1 + 1 by omega, wR, if_neg (not_not_intro ⟨hp₁, by omega⟩), r₁, if_neg j₂, if_neg j₃, ta, tb, ga, gb₁, if_neg (not_not_intro ⟨q₂, by omega, ⟨by omega, by omega⟩, by omega, by omega⟩), j₁]
          exact y₂ F
      · rw [if_neg q₂] at hd; cases hd
end VAL
def lSum (ls : List (Int × List (Int × Int))) : Int := (ls.map (fun x => (x.2.length : Int))).sum
theorem lSum_c {x : Int × List (Int × Int)} {ls : List (Int × List (Int × Int))} : lSum (x :: ls) = x.2.length + lSum ls := by
  unfold lSum
  rw [List.map_cons, List.sum_cons]
theorem lSum_0 (ls : List (Int × List (Int × Int))) : 0 ≤ lSum ls := by
  induction ls with
  | nil => exact Int.le_refl _
  | cons y ys ih => rw [lSum_c]; omega
/-- a TEXT in force: at most 16 lines, at most 600 codes, all right -/
def tOk (ls : List (Int × List (Int × Int))) : Prop := (∀ l ∈ ls, lOk l) ∧ ls.length ≤ 16 ∧ lSum ls ≤ 600
theorem le_both {c : Nat} {nx : Int} {h : aI} {fa kn : Int → Int} (hnx : 0 ≤ nx ∧ nx ≤ 1) (hkn : ∀ k, 0 ≤ k → k < 7 → fa k = kn k ∧ 0 ≤ fa k ∧ fa k ≤ 9999) (ls : List (Int × List (Int × Int))) : ∀ (l fc fr t : Int) (f g : Int → Int), lC c h l fc ls → lR nx h l fr ls → (∀ x ∈ ls, lOk x) → 0 ≤ l → l + ls.length ≤ 16 → 0 ≤ fc → fc + lSum ls ≤ 600 → fr = fc + l →
    ∃ (v : Int) (u : Int → Int) (t₂ : Int) (w : Int → Int), (v = 0 ∨ v = 1) ∧ cLe (h (c + 1)) (h (c + 2)) fa (h (c + 3)) (h (c + 4)) ls.length l fc t f = some (v, u, t₂) ∧ leR (h 46) (h 47) kn (h 45) (h 44) 700 ls.length (16 * nx + l) g = some (v, w) := by
  induction ls with
  | nil => exact fun l fc fr t f g _ _ _ _ _ _ _ _ => ⟨0, f, t, g, Or.inl rfl, rfl, rfl⟩
  | cons x ls ih =>
    intro l fc fr t f g hc hr hok hl hl₂ hf hf₂ hfr
    obtain ⟨c₁, c₂, c₃, c₄⟩ := hc
    obtain ⟨r₁, r₂, r₃, r₄, r₅⟩ := hr
    obtain ⟨o₁, o₂, o₃, o₄⟩ := hok x List.mem_cons_self
    have h₀ := lSum_0 ls
    rw [lSum_c] at hf₂
    rw [List.length_cons] at hl₂
    obtain ⟨v, u, w, y₁, y₂⟩ := ev_both hkn x.2 fc (660 * nx + fr) 0 f g c₃ r₃ r₄ o₂ o₃ (fun j j₁ j₂ => absurd j₂ (by omega)) (by omega) hf (by omega) (by omega) (by omega) (by show (0 : Int) + 10000 * x.2.length ≤ 100000000; omega)
    have e₁ : (h (c + 3) l - fc).toNat = x.2.length := by rw [c₁]; omega
    have y₃ := y₂ (699 - x.2.length)
    rw [show 699 - x.2.length + x.2.length + 1 = 700 by omega] at y₃
    rw [List.length_cons]
    by_cases hv : v = 0
    · obtain ⟨v₂, u₂, t₂, w₂, z₁, z₂, z₃⟩ := ih (l + 1) (fc + x.2.length) (fr + x.2.length + 1) 0 u w c₄ r₅ (fun y hy => hok y (List.mem_cons_of_mem _ hy)) (by omega) (by omega) (by omega) (by omega) (by omega)
      refine ⟨v₂, u₂, t₂, w₂, z₁, ?_, ?_⟩
      · rw [cLe, if_neg (not_not_intro (by rw [c₁]; omega)), e₁]
        rw [show cV (h (c + 1)) (h (c + 2)) fa x.2.length fc 0 f = some (v, u, 0) from y₁]
        dsimp only
        rw [if_pos hv, c₁]
        exact z₂
      · rw [leR, r₂]
        rw [show wR (h 46) (h 47) kn 700 (660 * nx + fr) 0 g = some (v, w) from y₃]
        dsimp only
        rw [if_pos hv, show 16 * nx + l + 1 = 16 * nx + (l + 1) by omega]
        exact z₃
    · refine ⟨x.1, u, 0, w, o₁, ?_, ?_⟩
      · rw [cLe, if_neg (not_not_intro (by rw [c₁]; omega)), e₁]
        rw [show cV (h (c + 1)) (h (c + 2)) fa x.2.length fc 0 f = some (v, u, 0) from y₁]
        dsimp only
        rw [if_neg hv, c₂]
      · rw [leR, r₂]
        rw [show wR (h 46) (h 47) kn 700 (660 * nx + fr) 0 g = some (v, w) from y₃]
        dsimp only
        rw [if_neg hv, r₁]
        rcases o₁ with q | q
        · rw [q]; rfl
        · rw [q]; rfl
theorem sTx_sum {kd nu : Int → Int} {nt : Int} (hk : ∀ a, 0 ≤ a → a ≤ nt → 0 ≤ kd a ∧ 0 ≤ nu a ∧ nu a ≤ 9999) (hnt : kd nt = 19) (hT : nt ≤ 600) (n : Nat) : ∀ a, 0 ≤ a → a ≤ nt → (sTx kd nu n a).1 = 0 → lSum (sTx kd nu n a).2.2 ≤ nt - a := by
  have hen : ∀ a, 0 ≤ a → a ≤ nt → (sEn kd a).1 = 0 → lSum (sEn kd a).2.2 ≤ nt - a := fun a h₀ h₁ q => by
    have e : (sEn kd a).2.2 = [] := by
      unfold sEn
      split
      · rfl
      · split <;> rfl
    rw [e]
    show (0 : Int) ≤ nt - a
    omega
  induction n with
  | zero => exact hen
  | succ n ih =>
    intro a h₀ h₁ q
    unfold sTx at q ⊢
    by_cases c₁ : kd a = 16 ∨ kd a = 17
    · rw [if_pos c₁] at q ⊢
      have hlt : a < nt := by
        rcases Int.lt_or_eq_of_le h₁ with e | e
        · exact e
        · rw [e, hnt] at c₁; omega
      rcases sLn_good hk hnt h₀ hlt hT with ⟨y₁, y₂, y₃, y₄, y₅, y₆⟩ | hno
      · rw [if_pos y₁] at q ⊢
        have := ih (sLn kd nu a).2.1 (by omega) y₃ q
        show lSum ((_, (sLn kd nu a).2.2) :: _) ≤ nt - a
        rw [lSum_c]
        show ((sLn kd nu a).2.2.length : Int) + _ ≤ _
        omega
      · rw [if_neg hno.ne] at q
        exact absurd q hno.ne
    · rw [if_neg c₁] at q ⊢
      exact hen a h₀ h₁ q
