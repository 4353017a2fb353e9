/-! lines and TEXTS: what both read; the class's side -/
def sLn (kd nu : Int → Int) (a : Int) : sR :=
  if kd (a + 1) = 18 then (if (sA kd nu 6 (a + 2)).1 = 0 then (if kd (sA kd nu 6 (a + 2)).2.1 = 15 then (0, (sA kd nu 6 (a + 2)).2.1 + 1, (sA kd nu 6 (a + 2)).2.2) else (1, (sA kd nu 6 (a + 2)).2.1, [])) else sA kd nu 6 (a + 2)) else (1, a + 1, [])
abbrev tR : Type := Int × Int × List (Int × List (Int × Int))
def sEn (kd : Int → Int) (a : Int) : tR := if kd a = 16 ∨ kd a = 17 then (5, a, []) else if kd a = 19 then (0, a, []) else (1, a, [])
def sTx (kd nu : Int → Int) : Nat → Int → tR
  | 0, a => sEn kd a
  | n + 1, a => if kd a = 16 ∨ kd a = 17 then (if (sLn kd nu a).1 = 0 then ((sTx kd nu n (sLn kd nu a).2.1).1, (sTx kd nu n (sLn kd nu a).2.1).2.1, (if kd a = 16 then 1 else 0, (sLn kd nu a).2.2) :: (sTx kd nu n (sLn kd nu a).2.1).2.2) else ((sLn kd nu a).1, (sLn kd nu a).2.1, [])) else sEn kd a
/-- a line's codes are right: one value is left -/
def lOk (l : Int × List (Int × Int)) : Prop := (l.1 = 0 ∨ l.1 = 1) ∧ (∀ e ∈ l.2, cOk e) ∧ dC l.2 0 = some 1 ∧ l.2.length ≤ 600
section STX
variable {kd nu : Int → Int} {nt : Int}
theorem sLn_good (hk : ∀ a, 0 ≤ a → a ≤ nt → 0 ≤ kd a ∧ 0 ≤ nu a ∧ nu a ≤ 9999) (hnt : kd nt = 19) {a : Int} (h₀ : 0 ≤ a) (h₁ : a < nt) (hT : nt ≤ 600) : ((sLn kd nu a).1 = 0 ∧ a < (sLn kd nu a).2.1 ∧ (sLn kd nu a).2.1 ≤ nt ∧ ((sLn kd nu a).2.2.length : Int) + 3 ≤ (sLn kd nu a).2.1 - a ∧ (∀ e ∈ (sLn kd nu a).2.2, cOk e) ∧ dC (sLn kd nu a).2.2 0 = some 1) ∨ sNo nt (sLn kd nu a) := by
  unfold sLn
  by_cases c₁ : kd (a + 1) = 18
  · rw [if_pos c₁]
    have hlt : a + 1 < nt := by
      rcases Int.lt_or_eq_of_le (show a + 1 ≤ nt by omega) with q | q
      · exact q
      · rw [q, hnt] at c₁; omega
    rcases (sGood_Pj hk hnt 5).2 (a + 2) (by omega) (by omega) with ⟨⟨y₁, y₂, y₃, y₄, y₅, y₆⟩, y₇⟩ | hno
    · have y₁ : (sA kd nu 6 (a + 2)).1 = 0 := y₁
      rw [if_pos y₁]
      by_cases c₂ : kd (sA kd nu 6 (a + 2)).2.1 = 15
      · rw [if_pos c₂]
        have y₃ : (sA kd nu 6 (a + 2)).2.1 ≤ nt := y₃
        have y₄ : ((sA kd nu 6 (a + 2)).2.2.length : Int) ≤ (sA kd nu 6 (a + 2)).2.1 - (a + 2) := y₄
        have hl₂ : (sA kd nu 6 (a + 2)).2.1 < nt := by
          rcases Int.lt_or_eq_of_le y₃ with q | q
          · exact q
          · rw [q, hnt] at c₂; omega
        exact Or.inl ⟨rfl, by show a < (sA kd nu 6 (a + 2)).2.1 + 1; omega, by show (sA kd nu 6 (a + 2)).2.1 + 1 ≤ nt; omega, by show ((sA kd nu 6 (a + 2)).2.2.length : Int) + 3 ≤ (sA kd nu 6 (a + 2)).2.1 + 1 - a; omega, y₅, y₆ 0 (by decide) (by decide)⟩
      · rw [if_neg c₂]
        have y₂ : a + 2 ≤ (sA kd nu 6 (a + 2)).2.1 := y₂
        exact Or.inr ⟨Or.inl rfl, by show 0 ≤ (sA kd nu 6 (a + 2)).2.1; omega, y₃⟩
    · rw [if_neg (show ¬ (sA kd nu 6 (a + 2)).1 = 0 from hno.ne)]
      exact Or.inr hno
  · rw [if_neg c₁]
    exact Or.inr ⟨Or.inl rfl, by show 0 ≤ a + 1; omega, by show a + 1 ≤ nt; omega⟩
/-- at most n lines, all right; a FAULT is 1 or 5 -/
theorem sTx_good (hk : ∀ a, 0 ≤ a → a ≤ nt → 0 ≤ kd a ∧ 0 ≤ nu a ∧ nu a ≤ 9999) (hnt : kd nt = 19) (hT : nt ≤ 600) (n : Nat) : ∀ a, 0 ≤ a → a ≤ nt → (sTx kd nu n a).2.2.length ≤ n ∧ ((sTx kd nu n a).1 = 0 → ∀ l ∈ (sTx kd nu n a).2.2, lOk l) ∧ ((sTx kd nu n a).1 = 0 ∨ (((sTx kd nu n a).1 = 1 ∨ (sTx kd nu n a).1 = 5) ∧ 0 ≤ (sTx kd nu n a).2.1 ∧ (sTx kd nu n a).2.1 ≤ nt)) := by
  have hen : ∀ m a, 0 ≤ a → a ≤ nt → (sEn kd a).2.2.length ≤ m ∧ ((sEn kd a).1 = 0 → ∀ l ∈ (sEn kd a).2.2, lOk l) ∧ ((sEn kd a).1 = 0 ∨ (((sEn kd a).1 = 1 ∨ (sEn kd a).1 = 5) ∧ 0 ≤ (sEn kd a).2.1 ∧ (sEn kd a).2.1 ≤ nt)) := fun m a h₀ h₁ => by
    unfold sEn
    by_cases c₁ : kd a = 16 ∨ kd a = 17
    · rw [if_pos c₁]
      exact ⟨Nat.zero_le _, fun _ l hl => absurd hl List.not_mem_nil, Or.inr ⟨Or.inr rfl, h₀, h₁⟩⟩
    · rw [if_neg c₁]
      by_cases c₂ : kd a = 19
      · rw [if_pos c₂]
        exact ⟨Nat.zero_le _, fun _ l hl => absurd hl List.not_mem_nil, Or.inl rfl⟩
      · rw [if_neg c₂]
        exact ⟨Nat.zero_le _, fun _ l hl => absurd hl List.not_mem_nil, Or.inr ⟨Or.inl rfl, h₀, h₁⟩⟩
  induction n with
  | zero => exact fun a h₀ h₁ => hen 0 a h₀ h₁
  | succ n ih =>
    intro a h₀ h₁
    unfold sTx
    by_cases c₁ : kd a = 16 ∨ kd a = 17
    · rw [if_pos c₁]
      have hlt : a < nt := by
        rcases Int.lt_or_eq_of_le h₁ with q | q
        · exact q
        · rw [q, hnt] at c₁; omega
      rcases sLn_good hk hnt h₀ hlt hT with ⟨y₁, y₂, y₃, y₄, y₅, y₆⟩ | hno
      · rw [if_pos y₁]
        obtain ⟨x₁, x₂, x₃⟩ := ih (sLn kd nu a).2.1 (by omega) y₃
        refine ⟨by show _ + 1 ≤ n + 1; omega, fun q l hl => ?_, x₃⟩
        rcases List.mem_cons.mp hl with e | hl
        · rw [e]
          refine ⟨?_, y₅, y₆, by show (sLn kd nu a).2.2.length ≤ 600; omega⟩
          show (if kd a = 16 then (1 : Int) else 0) = 0 ∨ (if kd a = 16 then (1 : Int) else 0) = 1
          by_cases q : kd a = 16
          · rw [if_pos q]; exact Or.inr rfl
          · rw [if_neg q]; exact Or.inl rfl
        · exact x₂ q l hl
      · rw [if_neg hno.ne]
        exact ⟨Nat.zero_le _, fun q => absurd q hno.ne, Or.inr hno⟩
    · rw [if_neg c₁]
      exact hen (n + 1) a h₀ h₁
end STX
/-- the lines ls stand in the cells of c from line l on, their codes from f on -/
def lC (c : Nat) (h : aI) : Int → Int → List (Int × List (Int × Int)) → Prop
  | _, _, [] => True
  | l, f, x :: ls => h (c + 3) l = f + x.2.length ∧ h (c + 4) l = x.1 ∧ rows (h (c + 1)) (h (c + 2)) f x.2 ∧ lC c h (l + 1) (f + x.2.length) ls
/-- from h on nothing was changed but the reader's numbers and the draft beyond what it held -/
def tFr (c : Nat) (h k : aI) : Prop := h c 6 ≤ k c 6 ∧ h c 7 ≤ k c 7 ∧ ∀ b j, ¬ cOut c (h c 6) b j → ¬ (b = c ∧ j = 7) → ¬ ((b = c + 3 ∨ b = c + 4) ∧ h c 7 ≤ j) → k b j = h b j
def cSl (c : Nat) (kd pl nu : Int → Int) (nt : Int) (h : aI) (a : Int) : Prop := (∀ b, 0 ≤ b → b ≤ nt → h 19 b = kd b ∧ h 20 b = pl b ∧ h 21 b = nu b) ∧ h 17 2 = a ∧ h 17 3 = kd a ∧ (0 ≤ a ∧ a ≤ nt) ∧ (0 ≤ h c 6 ∧ h c 6 ≤ a) ∧ h 17 4 = 0
section STC
variable {c : Nat} {kd pl nu : Int → Int} {nt : Int}
theorem tFr.refl (h : aI) : tFr c h h := ⟨Int.le_refl _, Int.le_refl _, fun _ _ _ _ _ => rfl⟩
theorem cFr.t {h k : aI} (p : cFr c h k) (hc : c = 22 ∨ c = 31) : tFr c h k := ⟨p.1, by rw [p.2 c 7 (by unfold cOut; omega)]; exact Int.le_refl _, fun b j h₁ _ _ => p.2 b j h₁⟩
theorem tFr.trans {h k l : aI} (p : tFr c h k) (q : tFr c k l) : tFr c h l := ⟨Int.le_trans p.1 q.1, Int.le_trans p.2.1 q.2.1, fun b j h₁ h₂ h₃ => (q.2.2 b j (fun hc => h₁ (by
  have := p.1
  unfold cOut at hc ⊢
  omega)) h₂ (fun hc => h₃ (by
  have := p.2.1
  omega))).trans (p.2.2 b j h₁ h₂ h₃)⟩
theorem tFr.lC {h k : aI} (p : tFr c h k) (hc : c = 22 ∨ c = 31) (ls : List (Int × List (Int × Int))) : ∀ l f : Int, l + ls.length ≤ h c 7 → f + ((ls.map (fun x => (x.2.length : Int))).sum) ≤ h c 6 → lC c h l f ls → lC c k l f ls := by
  induction ls with
  | nil => exact fun _ _ _ _ _ => trivial
  | cons x ls ih =>
    intro l f h₁ h₂ hl
    rw [List.map_cons, List.sum_cons] at h₂
    rw [List.length_cons] at h₁
    have hn : ∀ ys : List (Int × List (Int × Int)), 0 ≤ ((ys.map (fun x => (x.2.length : Int))).sum) := fun ys => by
      induction ys with
      | nil => exact Int.le_refl _
      | cons y ys ih => rw [List.map_cons, List.sum_cons]; omega
    have hn := hn ls
    obtain ⟨q₁, q₂, q₃, q₄⟩ := hl
    refine ⟨?_, ?_, rows_cg _ _ (fun j j₁ j₂ => ⟨p.2.2 _ _ ?_ ?_ ?_, p.2.2 _ _ ?_ ?_ ?_⟩) q₃, ih (l + 1) (f + x.2.length) (by omega) (by omega) q₄⟩
    · rw [p.2.2 (c + 3) l (by unfold cOut; omega) (by omega) (by omega)]; exact q₁
    · rw [p.2.2 (c + 4) l (by unfold cOut; omega) (by omega) (by omega)]; exact q₂
    · unfold cOut; omega
    · omega
    · omega
    · unfold cOut; omega
    · omega
    · omega
/-- a line -/
theorem cLn (hc : c = 22 ∨ c = 31) (hT : nt ≤ 600) (hnt : kd nt = 19) (hpl : ∀ b, 0 ≤ b → b ≤ nt → 0 ≤ pl b ∧ pl b ≤ 600) (hk : ∀ a, 0 ≤ a → a ≤ nt → 0 ≤ kd a ∧ 0 ≤ nu a ∧ nu a ≤ 9999) {h : aI} {a : Int} (s : cSl c kd pl nu nt h a) (hlt : a < nt) (hka : ¬ kd a = 19) (h₇ : 0 ≤ h c 7 ∧ h c 7 < 16) :
    ((sLn kd nu a).1 = 0 ∧ ∃ k, pLn c h = some (1, k) ∧ tFr c h k ∧ cSl c kd pl nu nt k (sLn kd nu a).2.1 ∧ k c 6 = h c 6 + (sLn kd nu a).2.2.length ∧ k c 7 = h c 7 + 1 ∧ k (c + 3) (h c 7) = h c 6 + (sLn kd nu a).2.2.length ∧ k (c + 4) (h c 7) = (if kd a = 16 then 1 else 0) ∧ rows (k (c + 1)) (k (c + 2)) (h c 6) (sLn kd nu a).2.2) ∨
    (¬ (sLn kd nu a).1 = 0 ∧ ∃ k, pLn c h = some (0, k) ∧ tFr c h k ∧ k 17 4 = (sLn kd nu a).1 + 16 * pl (sLn kd nu a).2.1) := by
  obtain ⟨s₁, s₂, s₃, s₄, s₅, s₆⟩ := s
  have g₁ : gd c h := ⟨by omega, by omega, by rw [s₂, (s₁ a s₄.1 s₄.2).2.1]; exact hpl a s₄.1 s₄.2, by omega⟩
  have af₁ : cAf c kd h (cAd h) (a + 1) [] := (cAf.refl s₂ s₃).ad hc hka (s₁ (a + 1) (by omega) (by omega)).1
  have e₁ : (cAd h) 17 2 = a + 1 := af₁.2.1
  have e₂ : (cAd h) 17 3 = kd (a + 1) := af₁.2.2.1
  have e₃ : ∀ x, (cAd h) 20 x = h 20 x := fun x => af₁.1.2 20 x (by unfold cOut; omega)
  have e₄ : (cAd h) c 6 = h c 6 := by have := af₁.2.2.2.2.1; rw [List.length_nil] at this; omega
  have g₂ : gd c (cAd h) := ⟨by omega, fun q => by rw [e₂, show a + 1 = nt by omega]; exact hnt, by rw [e₁, e₃, (s₁ (a + 1) (by omega) (by omega)).2.1]; exact hpl _ (by omega) (by omega), by rw [e₄]; omega⟩
  unfold pLn
  rw [if_neg (not_not_intro g₁), if_neg (not_not_intro g₂)]
  unfold sLn
  by_cases c₁ : kd (a + 1) = 18
  · rw [if_pos c₁, if_neg (not_not_intro (show (cAd h) 17 3 = 18 by rw [e₂]; exact c₁))]
    have hl₂ : a + 1 < nt := by
      rcases Int.lt_or_eq_of_le (show a + 1 ≤ nt by omega) with q | q
      · exact q
      · rw [q, hnt] at c₁; omega
    have af₂ : cAf c kd h (cAd (cAd h)) (a + 2) [] := by
      have := af₁.ad hc (by omega) (s₁ (a + 1 + 1) (by omega) (by omega)).1
      rw [show a + 1 + 1 = a + 2 by omega] at this
      exact this
    have st : cSt c kd pl nu nt (cAd (cAd h)) (a + 2) := by
      obtain ⟨p₁, p₂, p₃, p₄, p₅, p₆⟩ := af₂
      rw [List.length_nil] at p₅
      refine ⟨fun x x₁ x₂ => ?_, p₂, p₃, by omega, by omega, by omega⟩
      rw [p₁.2 19 x (by unfold cOut; omega), p₁.2 20 x (by unfold cOut; omega), p₁.2 21 x (by unfold cOut; omega)]
      exact s₁ x x₁ x₂
    have hq := cGo_E hc hT hnt hpl hk 5 _ _ st
    rcases (sGood_Pj hk hnt 5).2 (a + 2) (by omega) (by omega) with ⟨⟨y₁, y₂, y₃, y₄, y₅, y₆⟩, y₇⟩ | hno
    · rcases hq with ⟨q₁, k, q₂, q₃⟩ | ⟨q₁, q₂⟩
      · have st₂ := st.af q₃ hc y₄ y₃
        have af₃ := af₂.trans q₃ hc
        rw [List.nil_append] at af₃
        rw [show rdA c 6 (cAd (cAd h)) = some (1, k) from q₂]
        dsimp only
        rw [if_neg (show ¬ (1 : Int) = 0 by decide), if_neg (not_not_intro (st₂.gd hT hnt hpl)), if_pos (show (sA kd nu 6 (a + 2)).1 = 0 from y₁)]
        by_cases c₂ : kd (sA kd nu 6 (a + 2)).2.1 = 15
        · rw [if_neg (not_not_intro (show k 17 3 = 15 from st₂.2.2.1.trans c₂)), if_pos c₂]
          have y₃ : (sA kd nu 6 (a + 2)).2.1 ≤ nt := y₃
          have y₄ : ((sA kd nu 6 (a + 2)).2.2.length : Int) ≤ (sA kd nu 6 (a + 2)).2.1 - (a + 2) := y₄
          have y₇ : a + 2 < (sA kd nu 6 (a + 2)).2.1 := y₇
          have hl₃ : (sA kd nu 6 (a + 2)).2.1 < nt := by
            rcases Int.lt_or_eq_of_le y₃ with q | q
            · exact q
            · rw [q, hnt] at c₂; omega
          have af₄ : cAf c kd h (cAd k) ((sA kd nu 6 (a + 2)).2.1 + 1) (sA kd nu 6 (a + 2)).2.2 := af₃.ad hc (by show ¬ kd (sA kd nu 6 (a + 2)).2.1 = 19; omega) (s₁ ((sA kd nu 6 (a + 2)).2.1 + 1) (by omega) (by omega)).1
          have e₇ : (cAd k) c 7 = h c 7 := af₄.1.2 c 7 (by unfold cOut; omega)
          obtain ⟨p₁, p₂, p₃, p₄, p₅, p₆⟩ := af₄
          rw [if_neg (not_not_intro (by rw [e₇]; exact h₇))]
          refine Or.inl ⟨rfl, _, rfl, ?_, ?_, ?_, ?_, ?_, ?_, ?_⟩
          · unfold cEnd
            rw [e₇]
            refine ⟨?_, ?_, fun b j h₁ h₂ h₃ => ?_⟩
            · rw [up2_if (by omega), up2_if (by omega), up2_if (by omega)]; exact p₁.1
            · rw [up2_s]; omega
            · rw [up2_if (by omega), up2_if (by omega), up2_if (by omega)]; exact p₁.2 b j h₁
          · unfold cEnd
            refine ⟨fun x x₁ x₂ => ?_, ?_, ?_, by show 0 ≤ (sA kd nu 6 (a + 2)).2.1 + 1 ∧ (sA kd nu 6 (a + 2)).2.1 + 1 ≤ nt; omega, ?_, ?_⟩
            · rw [up2_if (by omega), up2_if (by omega), up2_if (by omega), up2_if (by omega), up2_if (by omega), up2_if (by omega), up2_if (by omega), up2_if (by omega), up2_if (by omega), p₁.2 19 x (by unfold cOut; omega), p₁.2 20 x (by unfold cOut; omega), p₁.2 21 x (by unfold cOut; omega)]
              exact s₁ x x₁ x₂
            · rw [up2_if (by omega), up2_if (by omega), up2_if (by omega)]; exact p₂
            · rw [up2_if (by omega), up2_if (by omega), up2_if (by omega)]; exact p₃
            · rw [up2_if (by omega), up2_if (by omega), up2_if (by omega), p₅]
              show 0 ≤ h c 6 + (sA kd nu 6 (a + 2)).2.2.length ∧ h c 6 + (sA kd nu 6 (a + 2)).2.2.length ≤ (sA kd nu 6 (a + 2)).2.1 + 1
              omega
            · rw [up2_if (by omega), up2_if (by omega), up2_if (by omega), p₄]; exact s₆
          · unfold cEnd
            rw [up2_if (by omega), up2_if (by omega), up2_if (by omega), p₅]
          · unfold cEnd
            rw [e₇, up2_s]
          · unfold cEnd
            rw [e₇, up2_if (by omega), up2_if (by omega), up2_s, p₅]
          · unfold cEnd
            rw [e₇, s₃, up2_if (by omega), up2_s]
          · unfold cEnd
            refine rows_cg _ _ (fun j j₁ j₂ => ⟨?_, ?_⟩) p₆
            · rw [up2_if (by omega), up2_if (by omega), up2_if (by omega)]
            · rw [up2_if (by omega), up2_if (by omega), up2_if (by omega)]
        · rw [if_pos (show ¬ k 17 3 = 15 from fun q => c₂ (st₂.2.2.1.symm.trans q)), if_neg c₂]
          rcases st₂.rs (h := h) af₃.1 hc (show ¬ (1 : Int) = 0 by decide) [] with ⟨q, _⟩ | ⟨r₁, l, r₂, r₃, r₄⟩
          · exact absurd q (show ¬ (1 : Int) = 0 by decide)
          · exact Or.inr ⟨r₁, l, r₂, r₃.t hc, r₄⟩
      · exact absurd y₁ q₁
    · rw [if_neg (show ¬ (sA kd nu 6 (a + 2)).1 = 0 from hno.ne)]
      rcases hq with ⟨q₁, q₂⟩ | ⟨q₁, k, q₂, q₃, q₄⟩
      · exact absurd q₁ hno.ne
      · rw [show rdA c 6 (cAd (cAd h)) = some (0, k) from q₂]
        dsimp only
        rw [if_pos rfl]
        exact Or.inr ⟨q₁, k, rfl, (af₂.1.trans q₃).t hc, q₄⟩
  · rw [if_neg c₁, if_pos (show ¬ (cAd h) 17 3 = 18 by rw [e₂]; exact c₁)]
    refine Or.inr ⟨by show ¬ (1 : Int) = 0; decide, _, rfl, (af₁.1.trans (cFr.rf hc)).t hc, ?_⟩
    unfold cRf
    rw [up2_s, e₁, e₃, (s₁ (a + 1) (by omega) (by omega)).2.1]
theorem cTx (hc : c = 22 ∨ c = 31) (hT : nt ≤ 600) (hnt : kd nt = 19) (hpl : ∀ b, 0 ≤ b → b ≤ nt → 0 ≤ pl b ∧ pl b ≤ 600) (hk : ∀ a, 0 ≤ a → a ≤ nt → 0 ≤ kd a ∧ 0 ≤ nu a ∧ nu a ≤ 9999) (n : Nat) : ∀ (h : aI) (a : Int), cSl c kd pl nu nt h a → 0 ≤ h c 7 → h c 7 + n = 16 →
    ∃ k, pTl c n h = some k ∧ tFr c h k ∧ ((sTx kd nu n a).1 = 0 → k 17 4 = 0 ∧ k c 7 = h c 7 + (sTx kd nu n a).2.2.length ∧ lC c k (h c 7) (h c 6) (sTx kd nu n a).2.2) ∧ (¬ (sTx kd nu n a).1 = 0 → k 17 4 = (sTx kd nu n a).1 + 16 * pl (sTx kd nu n a).2.1) := by
  have hen : ∀ (h : aI) (a : Int), cSl c kd pl nu nt h a → ∃ k, pTe c h = some k ∧ tFr c h k ∧ ((sEn kd a).1 = 0 → k 17 4 = 0 ∧ k c 7 = h c 7 + (sEn kd a).2.2.length ∧ lC c k (h c 7) (h c 6) (sEn kd a).2.2) ∧ (¬ (sEn kd a).1 = 0 → k 17 4 = (sEn kd a).1 + 16 * pl (sEn kd a).2.1) := fun h a s => by
    obtain ⟨s₁, s₂, s₃, s₄, s₅, s₆⟩ := s
    have g₁ : ¬ kd a = 19 → gd c h := fun q => by
      have hlt : a < nt := by
        rcases Int.lt_or_eq_of_le s₄.2 with e | e
        · exact e
        · rw [e] at q; exact absurd hnt q
      exact ⟨by omega, by omega, by rw [s₂, (s₁ a s₄.1 s₄.2).2.1]; exact hpl a s₄.1 s₄.2, by omega⟩
    have hrf : ∀ x : Int, (cRf h x) 17 4 = x + 16 * pl a := fun x => by
      unfold cRf
      rw [up2_s, s₂, (s₁ a s₄.1 s₄.2).2.1]
    unfold pTe sEn
    by_cases c₁ : kd a = 16 ∨ kd a = 17
    · rw [if_pos (show h 17 3 = 16 ∨ h 17 3 = 17 by rw [s₃]; exact c₁), if_neg (not_not_intro (g₁ (by omega))), if_pos c₁]
      exact ⟨_, rfl, (cFr.rf hc).t hc, fun q => absurd q (by show ¬ (5 : Int) = 0; decide), fun _ => hrf 5⟩
    · rw [if_neg (show ¬ (h 17 3 = 16 ∨ h 17 3 = 17) by rw [s₃]; exact c₁), if_neg c₁]
      by_cases c₂ : kd a = 19
      · rw [if_pos (s₃.trans c₂), if_pos c₂]
        exact ⟨h, rfl, tFr.refl h, fun _ => ⟨s₆, by show h c 7 = h c 7 + ((0 : Nat) : Int); omega, trivial⟩, fun q => absurd rfl q⟩
      · rw [if_neg (show ¬ h 17 3 = 19 by rw [s₃]; exact c₂), if_neg (not_not_intro (g₁ c₂)), if_neg c₂]
        exact ⟨_, rfl, (cFr.rf hc).t hc, fun q => absurd q (by show ¬ (1 : Int) = 0; decide), fun _ => hrf 1⟩
  induction n with
  | zero => exact fun h a s _ _ => hen h a s
  | succ n ih =>
    intro h a s h₇ h₈
    unfold pTl sTx
    have s₃ := s.2.2.1
    have s₄ := s.2.2.2.1
    by_cases c₁ : kd a = 16 ∨ kd a = 17
    · rw [if_neg (not_not_intro (show h 17 3 = 16 ∨ h 17 3 = 17 by rw [s₃]; exact c₁)), if_pos c₁]
      have hlt : a < nt := by
        rcases Int.lt_or_eq_of_le s₄.2 with q | q
        · exact q
        · rw [q, hnt] at c₁; omega
      rcases cLn hc hT hnt hpl hk s hlt (by omega) (by omega) with ⟨y₁, k, q₁, q₂, q₃, q₄, q₅, q₆, q₇, q₈⟩ | ⟨y₁, k, q₁, q₂, q₃⟩
      · rw [if_pos y₁, q₁]
        dsimp only
        rw [if_neg (show ¬ (1 : Int) = 0 by decide)]
        obtain ⟨k₂, r₁, r₂, r₃, r₄⟩ := ih k _ q₃ (by omega) (by omega)
        refine ⟨k₂, r₁, q₂.trans r₂, fun q => ?_, r₄⟩
        obtain ⟨x₁, x₂, x₃⟩ := r₃ q
        refine ⟨x₁, by rw [x₂, q₅, List.length_cons]; omega, ?_, ?_, ?_, ?_⟩
        · show k₂ (c + 3) (h c 7) = h c 6 + (sLn kd nu a).2.2.length
          rw [r₂.2.2 (c + 3) (h c 7) (by unfold cOut; omega) (by omega) (by omega)]; exact q₆
        · show k₂ (c + 4) (h c 7) = (if kd a = 16 then 1 else 0)
          rw [r₂.2.2 (c + 4) (h c 7) (by unfold cOut; omega) (by omega) (by omega)]; exact q₇
        · refine rows_cg _ _ (fun j j₁ j₂ => ⟨r₂.2.2 _ _ ?_ ?_ ?_, r₂.2.2 _ _ ?_ ?_ ?_⟩) q₈
          · have j₂ : j < h c 6 + (sLn kd nu a).2.2.length := j₂
            unfold cOut; omega
          · omega
          · omega
          · have j₂ : j < h c 6 + (sLn kd nu a).2.2.length := j₂
            unfold cOut; omega
          · omega
          · omega
        · show lC c k₂ (h c 7 + 1) (h c 6 + (sLn kd nu a).2.2.length) _
          rw [← q₅, ← q₄]
          exact x₃
      · rw [if_neg y₁, q₁]
        dsimp only
        rw [if_pos rfl]
        exact ⟨k, rfl, q₂, fun q => absurd q y₁, fun _ => q₃⟩
    · rw [if_pos (show ¬ (h 17 3 = 16 ∨ h 17 3 = 17) by rw [s₃]; exact c₁), if_neg c₁]
      exact hen h a s
end STC
