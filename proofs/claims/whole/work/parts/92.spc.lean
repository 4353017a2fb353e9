/-! The class's reader does what sPt .. sAn say: c is the draft's cell -/
def rows (f g : Int → Int) : Int → List (Int × Int) → Prop
  | _, [] => True
  | i, e :: cs => f i = e.1 ∧ g i = e.2 ∧ rows f g (i + 1) cs
theorem rows_app {f g : Int → Int} (cs : List (Int × Int)) : ∀ (i : Int) (ds : List (Int × Int)), rows f g i cs → rows f g (i + cs.length) ds → rows f g i (cs ++ ds) := by
  induction cs with
  | nil =>
    intro i ds _ h₂
    rw [List.length_nil, show i + ((0 : Nat) : Int) = i by omega] at h₂
    exact h₂
  | cons e cs ih =>
    intro i ds h₁ h₂
    rw [List.length_cons, show i + ((cs.length + 1 : Nat) : Int) = i + 1 + (cs.length : Int) by omega] at h₂
    exact ⟨h₁.1, h₁.2.1, ih (i + 1) ds h₁.2.2 h₂⟩
theorem rows_cg {f g u v : Int → Int} (cs : List (Int × Int)) : ∀ i : Int, (∀ j, i ≤ j → j < i + cs.length → u j = f j ∧ v j = g j) → rows f g i cs → rows u v i cs := by
  induction cs with
  | nil => exact fun i _ _ => trivial
  | cons e cs ih =>
    intro i h₁ h₂
    have h₃ : ∀ j, i ≤ j → j < i + (cs.length : Int) + 1 → u j = f j ∧ v j = g j := fun j j₁ j₂ => h₁ j j₁ (by rw [List.length_cons]; omega)
    exact ⟨(h₃ i (Int.le_refl _) (by omega)).1.trans h₂.1, (h₃ i (Int.le_refl _) (by omega)).2.trans h₂.2.1, ih (i + 1) (fun j j₁ j₂ => h₃ j (by omega) (by omega)) h₂.2.2⟩
def cOut (c : Nat) (l : Int) (b : Nat) (j : Int) : Prop := (b = 17 ∧ (j = 2 ∨ j = 3 ∨ j = 4)) ∨ (b = c ∧ j = 6) ∨ ((b = c + 1 ∨ b = c + 2) ∧ l ≤ j)
/-- from h on nothing was changed but the reader's own numbers and the draft's codes beyond its length -/
def cFr (c : Nat) (h k : aI) : Prop := h c 6 ≤ k c 6 ∧ ∀ b j, ¬ cOut c (h c 6) b j → k b j = h b j
/-- .. and it stands at a, with the codes cs added -/
def cAf (c : Nat) (kd : Int → Int) (h k : aI) (a : Int) (cs : List (Int × Int)) : Prop := cFr c h k ∧ k 17 2 = a ∧ k 17 3 = kd a ∧ k 17 4 = h 17 4 ∧ k c 6 = h c 6 + cs.length ∧ rows (k (c + 1)) (k (c + 2)) (h c 6) cs
def cSt (c : Nat) (kd pl nu : Int → Int) (nt : Int) (h : aI) (a : Int) : Prop := (∀ b, 0 ≤ b → b ≤ nt → h 19 b = kd b ∧ h 20 b = pl b ∧ h 21 b = nu b) ∧ h 17 2 = a ∧ h 17 3 = kd a ∧ (0 ≤ a ∧ a ≤ nt) ∧ 0 ≤ h c 6 ∧ h c 6 + 2 ≤ a
def cRs (c : Nat) (kd pl : Int → Int) (h : aI) (r : sR) (o : Option (Int × aI)) : Prop := (r.1 = 0 ∧ ∃ k, o = some (1, k) ∧ cAf c kd h k r.2.1 r.2.2) ∨ (¬ r.1 = 0 ∧ ∃ k, o = some (0, k) ∧ cFr c h k ∧ k 17 4 = r.1 + 16 * pl r.2.1)
def cGo (c : Nat) (kd pl nu : Int → Int) (nt : Int) (f : aI → Option (Int × aI)) (g : Int → sR) : Prop := ∀ h a, cSt c kd pl nu nt h a → cRs c kd pl h (g a) (f h)
theorem up2_if {f : aI} {b₁ : Nat} {i₁ v₁ : Int} {b₂ : Nat} {j₂ : Int} (h₁ : ¬ (b₂ = b₁ ∧ j₂ = i₁)) : up2 f b₁ i₁ v₁ b₂ j₂ = f b₂ j₂ := if_neg h₁
section SPC
variable {c : Nat} {kd pl nu : Int → Int} {nt : Int}
theorem cFr.refl (h : aI) : cFr c h h := ⟨Int.le_refl _, fun _ _ _ => rfl⟩
theorem cFr.trans {h k l : aI} (p : cFr c h k) (q : cFr c k l) : cFr c h l := ⟨Int.le_trans p.1 q.1, fun b j hb => (q.2 b j (fun hc => hb (by
  have := p.1
  unfold cOut at hc ⊢
  omega))).trans (p.2 b j hb)⟩
theorem cFr.rf {h : aI} {v : Int} (hc : c = 22 ∨ c = 31) : cFr c h (up2 h 17 4 v) := ⟨by rw [up2_if (by omega)]; exact Int.le_refl _, fun b j hb => up2_if (by unfold cOut at hb; omega)⟩
theorem cAf.refl {h : aI} {a : Int} (h₁ : h 17 2 = a) (h₂ : h 17 3 = kd a) : cAf c kd h h a [] := ⟨cFr.refl h, h₁, h₂, rfl, by rw [List.length_nil]; omega, trivial⟩
theorem cAf.trans {h k l : aI} {a b : Int} {cs ds : List (Int × Int)} (p : cAf c kd h k a cs) (q : cAf c kd k l b ds) (hc : c = 22 ∨ c = 31) : cAf c kd h l b (cs ++ ds) := by
  obtain ⟨p₁, p₂, p₃, p₄, p₅, p₆⟩ := p
  obtain ⟨q₁, q₂, q₃, q₄, q₅, q₆⟩ := q
  refine ⟨p₁.trans q₁, q₂, q₃, q₄.trans p₄, by rw [q₅, p₅, List.length_append]; omega, rows_app _ _ _ (rows_cg _ _ (fun j j₁ j₂ => ⟨q₁.2 _ _ ?_, q₁.2 _ _ ?_⟩) p₆) (by rw [← p₅]; exact q₆)⟩
  · unfold cOut; omega
  · unfold cOut; omega
theorem cAf.add {h k : aI} {a x y : Int} {cs : List (Int × Int)} (p : cAf c kd h k a cs) (hc : c = 22 ∨ c = 31) : cAf c kd h (cAdd c k x y) a (cs ++ [(x, y)]) := by
  refine p.trans ?_ hc
  unfold cAdd
  refine ⟨⟨?_, fun b j hb => ?_⟩, ?_, ?_, ?_, ?_, ?_, ?_, trivial⟩
  · rw [up2_s]; omega
  · unfold cOut at hb
    rw [up2_if (by omega), up2_if (by omega), up2_if (by omega)]
  · rw [up2_if (by omega), up2_if (by omega), up2_if (by omega)]; exact p.2.1
  · rw [up2_if (by omega), up2_if (by omega), up2_if (by omega)]; exact p.2.2.1
  · rw [up2_if (by omega), up2_if (by omega), up2_if (by omega)]
  · rw [up2_s, List.length_singleton]; rfl
  · show up2 _ _ _ _ (c + 1) (k c 6) = x
    rw [up2_if (by omega), up2_if (by omega), up2_s]
  · show up2 _ _ _ _ (c + 2) (k c 6) = y
    rw [up2_if (by omega), up2_s]
theorem cAf.ad {h k : aI} {a : Int} {cs : List (Int × Int)} (p : cAf c kd h k a cs) (hc : c = 22 ∨ c = 31) (hk : ¬ kd a = 19) (hn : h 19 (a + 1) = kd (a + 1)) : cAf c kd h (cAd k) (a + 1) cs := by
  obtain ⟨p₁, p₂, p₃, p₄, p₅, p₆⟩ := p
  have e₁ : k 19 (a + 1) = kd (a + 1) := (p₁.2 19 (a + 1) (by unfold cOut; omega)).trans hn
  unfold cAd
  rw [p₃, if_neg hk, p₂, e₁]
  refine ⟨⟨?_, fun b j hb => ?_⟩, ?_, ?_, ?_, ?_, rows_cg _ _ (fun j j₁ j₂ => ⟨?_, ?_⟩) p₆⟩
  · rw [up2_if (by omega), up2_if (by omega)]; exact p₁.1
  · rw [up2_if (by unfold cOut at hb; omega), up2_if (by unfold cOut at hb; omega)]; exact p₁.2 b j hb
  · rw [up2_if (by omega), up2_s]
  · rw [up2_s]
  · rw [up2_if (by omega), up2_if (by omega)]; exact p₄
  · rw [up2_if (by omega), up2_if (by omega)]; exact p₅
  · rw [up2_if (by omega), up2_if (by omega)]
  · rw [up2_if (by omega), up2_if (by omega)]
theorem cSt.gd {h : aI} {a : Int} (s : cSt c kd pl nu nt h a) (hT : nt ≤ 600) (hnt : kd nt = 19) (hpl : ∀ b, 0 ≤ b → b ≤ nt → 0 ≤ pl b ∧ pl b ≤ 600) : gd c h := by
  obtain ⟨s₁, s₂, s₃, s₄, s₅, s₆⟩ := s
  refine ⟨by omega, fun q => ?_, ?_, by omega⟩
  · rw [s₃, show a = nt by omega]; exact hnt
  · rw [s₂, (s₁ a s₄.1 s₄.2).2.1]; exact hpl a s₄.1 s₄.2
theorem cSt.af {h k : aI} {a b : Int} {cs : List (Int × Int)} (s : cSt c kd pl nu nt h a) (p : cAf c kd h k b cs) (hc : c = 22 ∨ c = 31) (h₁ : (cs.length : Int) ≤ b - a) (h₂ : b ≤ nt) : cSt c kd pl nu nt k b := by
  obtain ⟨s₁, s₂, s₃, s₄, s₅, s₆⟩ := s
  obtain ⟨p₁, p₂, p₃, p₄, p₅, p₆⟩ := p
  refine ⟨fun x x₁ x₂ => ?_, p₂, p₃, by omega, by omega, by omega⟩
  rw [p₁.2 19 x (by unfold cOut; omega), p₁.2 20 x (by unfold cOut; omega), p₁.2 21 x (by unfold cOut; omega)]
  exact s₁ x x₁ x₂
theorem cSt.rs {h k : aI} {b x : Int} (s : cSt c kd pl nu nt k b) (p : cFr c h k) (hc : c = 22 ∨ c = 31) (hx : ¬ x = 0) (cs : List (Int × Int)) : cRs c kd pl h (x, b, cs) (some (0, cRf k x)) := by
  refine Or.inr ⟨hx, _, rfl, p.trans (cFr.rf hc), ?_⟩
  unfold cRf
  rw [up2_s, s.2.1, (s.1 b s.2.2.2.1.1 s.2.2.2.1.2).2.1]
theorem cRs.pre {h k : aI} {a : Int} {cs : List (Int × Int)} {r : sR} {o : Option (Int × aI)} (p : cAf c kd h k a cs) (q : cRs c kd pl k r o) (hc : c = 22 ∨ c = 31) : cRs c kd pl h (r.1, r.2.1, cs ++ r.2.2) o := by
  rcases q with ⟨q₁, l, q₂, q₃⟩ | ⟨q₁, l, q₂, q₃, q₄⟩
  · exact Or.inl ⟨q₁, l, q₂, p.trans q₃ hc⟩
  · exact Or.inr ⟨q₁, l, q₂, p.1.trans q₃, q₄⟩
theorem cRs.no {h k : aI} {a : Int} {cs : List (Int × Int)} {r : sR} {o : Option (Int × aI)} (p : cAf c kd h k a cs) (q : cRs c kd pl k r o) (hr : ¬ r.1 = 0) : cRs c kd pl h r o := by
  rcases q with ⟨q₁, l, q₂, q₃⟩ | ⟨q₁, l, q₂, q₃, q₄⟩
  · exact absurd q₁ hr
  · exact Or.inr ⟨q₁, l, q₂, p.1.trans q₃, q₄⟩
theorem cGo_P (hc : c = 22 ∨ c = 31) (hT : nt ≤ 600) (hnt : kd nt = 19) (hpl : ∀ b, 0 ≤ b → b ≤ nt → 0 ≤ pl b ∧ pl b ≤ 600) {rec : aI → Option (Int × aI)} {grec : Int → sR} {d m : Int} (hrec : ¬ 5 ≤ d → cGo c kd pl nu nt rec grec ∧ sGood nt m grec) : cGo c kd pl nu nt (pPt c rec d) (sPt kd nu grec d) := by
  intro h a s
  have hg := s.gd hT hnt hpl
  obtain ⟨s₁, s₂, s₃, s₄, s₅, s₆⟩ := id s
  unfold pPt sPt
  rw [if_neg (not_not_intro hg), s₃]
  by_cases c₁ : 8 < kd a
  · rw [if_pos c₁, if_pos c₁]
    exact s.rs (cFr.refl h) hc (by decide) _
  · rw [if_neg c₁, if_neg c₁]
    have hlt : a < nt := by
      rcases Int.lt_or_eq_of_le s₄.2 with q | q
      · exact q
      · rw [q, hnt] at c₁; omega
    have af₀ : cAf c kd h (cAd h) (a + 1) [] := (cAf.refl s₂ s₃).ad hc (by omega) (s₁ (a + 1) (by omega) (by omega)).1
    by_cases c₂ : 5 ≤ d
    · rw [if_pos c₂, if_pos c₂]
      exact s.rs (cFr.refl h) hc (by decide) _
    · rw [if_neg c₂, if_neg c₂]
      obtain ⟨hr₁, hr₂⟩ := hrec c₂
      by_cases c₃ : kd a = 8
      · rw [if_pos c₃, if_pos c₃]
        have st₁ : cSt c kd pl nu nt (cAd h) (a + 1) := s.af af₀ hc (by rw [List.length_nil]; omega) (by omega)
        have hq := hr₁ (cAd h) (a + 1) st₁
        rcases hr₂ (a + 1) (by omega) (by omega) with ⟨⟨y₁, y₂, y₃, y₄, y₅, y₆⟩, y₇⟩ | hno
        · rcases hq with ⟨q₁, k, q₂, q₃⟩ | ⟨q₁, q₂⟩
          · rw [if_pos y₁, q₂]
            dsimp only
            have st₂ : cSt c kd pl nu nt k (grec (a + 1)).2.1 := st₁.af q₃ hc y₄ y₃
            rw [if_neg (show ¬ (1 : Int) = 0 by decide), if_neg (not_not_intro (st₂.gd hT hnt hpl)), st₂.2.2.1]
            have af₂ := af₀.trans q₃ hc
            rw [List.nil_append] at af₂
            by_cases c₄ : kd (grec (a + 1)).2.1 = 9
            · rw [if_pos c₄, if_pos c₄]
              have hl₂ : (grec (a + 1)).2.1 < nt := by
                rcases Int.lt_or_eq_of_le y₃ with q | q
                · exact q
                · rw [q, hnt] at c₄; omega
              exact Or.inl ⟨rfl, _, rfl, af₂.ad hc (by omega) (s₁ _ (by omega) (by omega)).1⟩
            · rw [if_neg c₄, if_neg c₄]
              exact st₂.rs af₂.1 hc (by decide) _
          · exact absurd y₁ q₁
        · rcases hq with ⟨q₁, k, q₂, q₃⟩ | ⟨q₁, k, q₂, q₃, q₄⟩
          · exact absurd q₁ hno.ne
          · rw [if_neg q₁, q₂]
            dsimp only
            rw [if_pos rfl]
            exact Or.inr ⟨q₁, k, rfl, af₀.1.trans q₃, q₄⟩
      · rw [if_neg c₃, if_neg c₃, s₂, (s₁ a s₄.1 s₄.2).2.2]
        have af₁ := (cAf.refl (c := c) s₂ s₃).add (x := kd a) (y := nu a) hc
        exact Or.inl ⟨rfl, _, rfl, af₁.ad hc (by omega) (s₁ (a + 1) (by omega) (by omega)).1⟩
theorem cGo_Sl (hc : c = 22 ∨ c = 31) (hT : nt ≤ 600) (hnt : kd nt = 19) (hpl : ∀ b, 0 ≤ b → b ≤ nt → 0 ≤ pl b ∧ pl b ≤ 600) {part : aI → Option (Int × aI)} {gp : Int → sR} {m : Int} (hp : cGo c kd pl nu nt part gp) (hs : sGood nt m gp) (n : Nat) : cGo c kd pl nu nt (pSl c part n) (sSl kd gp n) := by
  induction n with
  | zero => exact fun h a s => Or.inl ⟨rfl, h, rfl, cAf.refl s.2.1 s.2.2.1⟩
  | succ n ih =>
    intro h a s
    have hg := s.gd hT hnt hpl
    obtain ⟨s₁, s₂, s₃, s₄, s₅, s₆⟩ := id s
    unfold pSl sSl
    by_cases c₁ : kd a = 12 ∨ kd a = 13
    · rw [if_neg (not_not_intro (show h 17 3 = 12 ∨ h 17 3 = 13 by rw [s₃]; exact c₁)), if_neg (not_not_intro hg), if_pos c₁, s₃]
      have hlt : a < nt := by
        rcases Int.lt_or_eq_of_le s₄.2 with q | q
        · exact q
        · rw [q, hnt] at c₁; omega
      have af₀ : cAf c kd h (cAd h) (a + 1) [] := (cAf.refl s₂ s₃).ad hc (by omega) (s₁ (a + 1) (by omega) (by omega)).1
      have st₁ : cSt c kd pl nu nt (cAd h) (a + 1) := s.af af₀ hc (by rw [List.length_nil]; omega) (by omega)
      have hq := hp (cAd h) (a + 1) st₁
      rcases hs (a + 1) (by omega) (by omega) with ⟨⟨y₁, y₂, y₃, y₄, y₅, y₆⟩, y₇⟩ | hno
      · rcases hq with ⟨q₁, k, q₂, q₃⟩ | ⟨q₁, q₂⟩
        · rw [if_pos y₁, q₂]
          dsimp only
          have af₂ := (af₀.trans q₃ hc)
          rw [List.nil_append] at af₂
          have l₂ := af₂.2.2.2.2.1
          rw [if_neg (show ¬ (1 : Int) = 0 by decide), if_neg (not_not_intro (by omega))]
          have af₃ := af₂.add (x := kd a) (y := 0) hc
          have st₃ : cSt c kd pl nu nt (cAdd c k (kd a) 0) (gp (a + 1)).2.1 := s.af af₃ hc (by rw [List.length_append, List.length_singleton]; omega) y₃
          have fin := (ih _ _ st₃).pre af₃ hc
          rw [List.append_assoc, List.singleton_append] at fin
          exact fin
        · exact absurd y₁ q₁
      · rw [if_neg hno.ne]
        rcases hq with ⟨q₁, k, q₂, q₃⟩ | ⟨q₁, k, q₂, q₃, q₄⟩
        · exact absurd q₁ hno.ne
        · rw [q₂]
          dsimp only
          rw [if_pos rfl]
          exact Or.inr ⟨q₁, k, rfl, af₀.1.trans q₃, q₄⟩
    · rw [if_neg c₁, if_pos (show ¬ (h 17 3 = 12 ∨ h 17 3 = 13) by rw [s₃]; exact c₁)]
      exact Or.inl ⟨rfl, h, rfl, cAf.refl s₂ s₃⟩
theorem cGo_Al (hc : c = 22 ∨ c = 31) (hT : nt ≤ 600) (hnt : kd nt = 19) (hpl : ∀ b, 0 ≤ b → b ≤ nt → 0 ≤ pl b ∧ pl b ≤ 600) {part : aI → Option (Int × aI)} {gp : Int → sR} {m : Int} (hp : cGo c kd pl nu nt part gp) (hs : sGood nt m gp) (n : Nat) : cGo c kd pl nu nt (pAl c part n) (sAl kd gp n) := by
  induction n with
  | zero => exact fun h a s => Or.inl ⟨rfl, h, rfl, cAf.refl s.2.1 s.2.2.1⟩
  | succ n ih =>
    intro h a s
    have hg := s.gd hT hnt hpl
    obtain ⟨s₁, s₂, s₃, s₄, s₅, s₆⟩ := id s
    unfold pAl sAl
    by_cases c₁ : kd a = 14
    · rw [if_neg (not_not_intro (show h 17 3 = 14 by rw [s₃]; exact c₁)), if_neg (not_not_intro hg), if_pos c₁]
      have hlt : a < nt := by
        rcases Int.lt_or_eq_of_le s₄.2 with q | q
        · exact q
        · rw [q, hnt] at c₁; omega
      have af₀ : cAf c kd h (cAd h) (a + 1) [] := (cAf.refl s₂ s₃).ad hc (by omega) (s₁ (a + 1) (by omega) (by omega)).1
      have st₁ : cSt c kd pl nu nt (cAd h) (a + 1) := s.af af₀ hc (by rw [List.length_nil]; omega) (by omega)
      have hq := hp (cAd h) (a + 1) st₁
      rcases hs (a + 1) (by omega) (by omega) with ⟨⟨y₁, y₂, y₃, y₄, y₅, y₆⟩, y₇⟩ | hno
      · rcases hq with ⟨q₁, k, q₂, q₃⟩ | ⟨q₁, q₂⟩
        · rw [if_pos y₁, q₂]
          dsimp only
          have af₂ := (af₀.trans q₃ hc)
          rw [List.nil_append] at af₂
          have l₂ := af₂.2.2.2.2.1
          rw [if_neg (show ¬ (1 : Int) = 0 by decide), if_neg (not_not_intro (by omega))]
          have af₃ := af₂.add (x := 14) (y := 0) hc
          have st₃ : cSt c kd pl nu nt (cAdd c k 14 0) (gp (a + 1)).2.1 := s.af af₃ hc (by rw [List.length_append, List.length_singleton]; omega) y₃
          have fin := (ih _ _ st₃).pre af₃ hc
          rw [List.append_assoc, List.singleton_append] at fin
          exact fin
        · exact absurd y₁ q₁
      · rw [if_neg hno.ne]
        rcases hq with ⟨q₁, k, q₂, q₃⟩ | ⟨q₁, k, q₂, q₃, q₄⟩
        · exact absurd q₁ hno.ne
        · rw [q₂]
          dsimp only
          rw [if_pos rfl]
          exact Or.inr ⟨q₁, k, rfl, af₀.1.trans q₃, q₄⟩
    · rw [if_neg c₁, if_pos (show ¬ h 17 3 = 14 by rw [s₃]; exact c₁)]
      exact Or.inl ⟨rfl, h, rfl, cAf.refl s₂ s₃⟩
theorem cGo_S (hc : c = 22 ∨ c = 31) (hT : nt ≤ 600) (hnt : kd nt = 19) (hpl : ∀ b, 0 ≤ b → b ≤ nt → 0 ≤ pl b ∧ pl b ≤ 600) {part : aI → Option (Int × aI)} {gp : Int → sR} {m : Int} (hp : cGo c kd pl nu nt part gp) (hs : sGood nt m gp) : cGo c kd pl nu nt (pSm c part) (sSm kd gp) := by
  intro h a s
  unfold pSm sSm
  have hq := hp h a s
  have s₄ := s.2.2.2.1
  rcases hs a s₄.1 s₄.2 with ⟨⟨y₁, y₂, y₃, y₄, y₅, y₆⟩, y₇⟩ | hno
  · rcases hq with ⟨q₁, k, q₂, q₃⟩ | ⟨q₁, q₂⟩
    · rw [if_pos y₁, q₂]
      dsimp only
      rw [if_neg (show ¬ (1 : Int) = 0 by decide)]
      exact (cGo_Sl hc hT hnt hpl hp hs 600 k _ (s.af q₃ hc y₄ y₃)).pre q₃ hc
    · exact absurd y₁ q₁
  · rw [if_neg hno.ne]
    rcases hq with ⟨q₁, k, q₂, q₃⟩ | ⟨q₁, k, q₂, q₃, q₄⟩
    · exact absurd q₁ hno.ne
    · rw [q₂]
      dsimp only
      rw [if_pos rfl]
      exact Or.inr ⟨q₁, k, rfl, q₃, q₄⟩
theorem cGo_A (hc : c = 22 ∨ c = 31) (hT : nt ≤ 600) (hnt : kd nt = 19) (hpl : ∀ b, 0 ≤ b → b ≤ nt → 0 ≤ pl b ∧ pl b ≤ 600) {part : aI → Option (Int × aI)} {gp : Int → sR} {m : Int} (hp : cGo c kd pl nu nt part gp) (hs : sGood nt m gp) : cGo c kd pl nu nt (pAn c part) (sAn kd gp) := by
  intro h a s
  unfold pAn sAn
  have hq := hp h a s
  have s₄ := s.2.2.2.1
  rcases hs a s₄.1 s₄.2 with ⟨⟨y₁, y₂, y₃, y₄, y₅, y₆⟩, y₇⟩ | hno
  · rcases hq with ⟨q₁, k, q₂, q₃⟩ | ⟨q₁, q₂⟩
    · rw [if_pos y₁, q₂]
      dsimp only
      rw [if_neg (show ¬ (1 : Int) = 0 by decide)]
      exact (cGo_Al hc hT hnt hpl hp hs 600 k _ (s.af q₃ hc y₄ y₃)).pre q₃ hc
    · exact absurd y₁ q₁
  · rw [if_neg hno.ne]
    rcases hq with ⟨q₁, k, q₂, q₃⟩ | ⟨q₁, k, q₂, q₃, q₄⟩
    · exact absurd q₁ hno.ne
    · rw [q₂]
      dsimp only
      rw [if_pos rfl]
      exact Or.inr ⟨q₁, k, rfl, q₃, q₄⟩
theorem cGo_T (hc : c = 22 ∨ c = 31) (hT : nt ≤ 600) (hnt : kd nt = 19) (hpl : ∀ b, 0 ≤ b → b ≤ nt → 0 ≤ pl b ∧ pl b ≤ 600) {sum : aI → Option (Int × aI)} {gs : Int → sR} {m : Int} (hp : cGo c kd pl nu nt sum gs) (hs : sGood nt m gs) : cGo c kd pl nu nt (pTs c sum) (sTs kd gs) := by
  intro h a s
  obtain ⟨s₁, s₂, s₃, s₄, s₅, s₆⟩ := id s
  unfold pTs sTs
  have hq := hp h a s
  rcases hs a s₄.1 s₄.2 with ⟨⟨y₁, y₂, y₃, y₄, y₅, y₆⟩, y₇⟩ | hno
  · rcases hq with ⟨q₁, k, q₂, q₃⟩ | ⟨q₁, q₂⟩
    · have st₂ : cSt c kd pl nu nt k (gs a).2.1 := s.af q₃ hc y₄ y₃
      rw [if_pos y₁, q₂]
      dsimp only
      rw [if_neg (show ¬ (1 : Int) = 0 by decide)]
      by_cases c₁ : kd (gs a).2.1 = 10 ∨ kd (gs a).2.1 = 11
      · rw [if_neg (not_not_intro (show k 17 3 = 10 ∨ k 17 3 = 11 by rw [st₂.2.2.1]; exact c₁)), if_neg (not_not_intro (st₂.gd hT hnt hpl)), if_pos c₁, st₂.2.2.1]
        have hlt : (gs a).2.1 < nt := by
          rcases Int.lt_or_eq_of_le y₃ with q | q
          · exact q
          · rw [q, hnt] at c₁; omega
        have af₁ : cAf c kd h (cAd k) ((gs a).2.1 + 1) (gs a).2.2 := q₃.ad hc (by omega) (s₁ _ (by omega) (by omega)).1
        have st₃ : cSt c kd pl nu nt (cAd k) ((gs a).2.1 + 1) := s.af af₁ hc (by omega) (by omega)
        have hq₂ := hp (cAd k) ((gs a).2.1 + 1) st₃
        rcases hs ((gs a).2.1 + 1) (by omega) (by omega) with ⟨⟨x₁, x₂, x₃, x₄, x₅, x₆⟩, x₇⟩ | hno
        · rcases hq₂ with ⟨v₁, k₂, v₂, v₃⟩ | ⟨v₁, v₂⟩
          · rw [if_pos x₁, v₂]
            dsimp only
            have af₂ := af₁.trans v₃ hc
            have l₂ := af₂.2.2.2.2.1
            rw [List.length_append] at l₂
            rw [if_neg (show ¬ (1 : Int) = 0 by decide), if_neg (not_not_intro (by omega))]
            have af₃ := af₂.add (x := kd (gs a).2.1) (y := 0) hc
            rw [List.append_assoc] at af₃
            exact Or.inl ⟨rfl, _, rfl, af₃⟩
          · exact absurd x₁ v₁
        · rw [if_neg hno.ne]
          rcases hq₂ with ⟨v₁, k₂, v₂, v₃⟩ | ⟨v₁, k₂, v₂, v₃, v₄⟩
          · exact absurd v₁ hno.ne
          · rw [v₂]
            dsimp only
            rw [if_pos rfl]
            exact Or.inr ⟨v₁, k₂, rfl, af₁.1.trans v₃, v₄⟩
      · rw [if_neg c₁, if_pos (show ¬ (k 17 3 = 10 ∨ k 17 3 = 11) by rw [st₂.2.2.1]; exact c₁)]
        exact Or.inl ⟨q₁, k, rfl, q₃⟩
    · exact absurd y₁ q₁
  · rw [if_neg hno.ne]
    rcases hq with ⟨q₁, k, q₂, q₃⟩ | ⟨q₁, k, q₂, q₃, q₄⟩
    · exact absurd q₁ hno.ne
    · rw [q₂]
      dsimp only
      rw [if_pos rfl]
      exact Or.inr ⟨q₁, k, rfl, q₃, q₄⟩
theorem cGo_E (hc : c = 22 ∨ c = 31) (hT : nt ≤ 600) (hnt : kd nt = 19) (hpl : ∀ b, 0 ≤ b → b ≤ nt → 0 ≤ pl b ∧ pl b ≤ 600) (hk : ∀ a, 0 ≤ a → a ≤ nt → 0 ≤ kd a ∧ 0 ≤ nu a ∧ nu a ≤ 9999) (j : Nat) : cGo c kd pl nu nt (rdA c (j + 1)) (sA kd nu (j + 1)) := by
  induction j with
  | zero =>
    have g₀ := (sGood_Pj hk hnt 0).1
    have hp : cGo c kd pl nu nt (pPt c (rdA c 0) (5 - ((0 : Nat) : Int))) (sPt kd nu (sA kd nu 0) (5 - ((0 : Nat) : Int))) := cGo_P (m := 0) hc hT hnt hpl (fun q => absurd q (by decide))
    exact cGo_A hc hT hnt hpl (cGo_T hc hT hnt hpl (cGo_S hc hT hnt hpl hp g₀) (sGood_S hnt g₀ (by decide))) (sGood_T hnt (sGood_S hnt g₀ (by decide)))
  | succ j ih =>
    have g₀ := (sGood_Pj hk hnt (j + 1)).1
    have hp : cGo c kd pl nu nt (pPt c (rdA c (j + 1)) (5 - ((j + 1 : Nat) : Int))) (sPt kd nu (sA kd nu (j + 1)) (5 - ((j + 1 : Nat) : Int))) := cGo_P (m := 3 * j + 4) hc hT hnt hpl (fun _ => ⟨ih, (sGood_Pj hk hnt j).2⟩)
    exact cGo_A hc hT hnt hpl (cGo_T hc hT hnt hpl (cGo_S hc hT hnt hpl hp g₀) (sGood_S hnt g₀ (by omega))) (sGood_T hnt (sGood_S hnt g₀ (by omega)))
end SPC
