/-! The reference's reading (pRun) does what sPt .. sAn say -/
def oC (k : Int) : Int := if k = 7 then 1 else if k < 7 then 2 else if k = 12 then 3 else if k = 13 then 4 else if k = 10 then 5 else if k = 11 then 6 else 7
def oV (e : Int × Int) : Int := if e.1 = 7 then e.2 else if e.1 < 7 then e.1 else 0
def oM (cs : List (Int × Int)) : List (Int × Int) := cs.map (fun e => (oC e.1, oV e))
theorem oM_app {cs ds : List (Int × Int)} : oM (cs ++ ds) = oM cs ++ oM ds := List.map_append
theorem oM_len {cs : List (Int × Int)} : (oM cs).length = cs.length := List.length_map _
def rOut (nx l d : Int) (b : Nat) (j : Int) : Prop := (b = 37 ∧ (j = 7 ∨ j = 17)) ∨ ((b = 46 ∨ b = 47) ∧ 660 * nx + l ≤ j) ∨ ((b = 48 ∨ b = 49 ∨ b = 50) ∧ d < j)
def rFr (d : Int) (h k : aI) : Prop := h 37 17 ≤ k 37 17 ∧ ∀ b j, ¬ rOut (h 37 16) (h 37 17) d b j → k b j = h b j
def rAf (d : Int) (h k : aI) (a : Int) (cs : List (Int × Int)) : Prop := rFr d h k ∧ k 37 7 = a ∧ k 37 17 = h 37 17 + cs.length ∧ rows (k 46) (k 47) (660 * h 37 16 + h 37 17) (oM cs)
def rSt (nt d : Int) (h : aI) (a : Int) : Prop := h 37 7 = a ∧ h 37 18 = d ∧ (0 ≤ a ∧ a ≤ nt) ∧ 0 ≤ h 37 17 ∧ h 37 17 + 2 ≤ a ∧ (0 ≤ d ∧ d ≤ 5) ∧ (0 ≤ h 37 16 ∧ h 37 16 ≤ 1)
def rTo (kd pl nu : Int → Int) (c : Nat) (h : aI) (e : Nat) (k : aI) : Prop := ∃ m : Nat, ∀ n : Nat, pRun kd pl nu (n + m) c h = pRun kd pl nu n e k
def rFl (kd pl nu : Int → Int) (c : Nat) (h k : aI) : Prop := ∃ m : Nat, ∀ n : Nat, pRun kd pl nu (n + m) c h = some k
def rRs (kd pl nu : Int → Int) (d : Int) (c : Nat) (h : aI) (e : Nat) (r : sR) : Prop := (r.1 = 0 ∧ ∃ k, rAf d h k r.2.1 r.2.2 ∧ rTo kd pl nu c h e k) ∨ (¬ r.1 = 0 ∧ ∃ k, k 37 8 = r.1 + 16 * pl r.2.1 ∧ rFl kd pl nu c h k)
def rGo (kd pl nu : Int → Int) (nt d : Int) (e : Nat) (P : aI → Prop) (g : Int → sR) : Prop := ∀ h a, rSt nt d h a → P h → rRs kd pl nu d 0 h e (g a)
section SPR
variable {kd pl nu : Int → Int} {nt d : Int}
theorem rTo.refl {c : Nat} {h : aI} : rTo kd pl nu c h c h := ⟨0, fun _ => rfl⟩
theorem rTo.trans {c e f : Nat} {h k l : aI} (p : rTo kd pl nu c h e k) (q : rTo kd pl nu e k f l) : rTo kd pl nu c h f l := by
  obtain ⟨m₁, p⟩ := p
  obtain ⟨m₂, q⟩ := q
  exact ⟨m₂ + m₁, fun n => by rw [← Nat.add_assoc, p, q]⟩
theorem rTo.fl {c e : Nat} {h k l : aI} (p : rTo kd pl nu c h e k) (q : rFl kd pl nu e k l) : rFl kd pl nu c h l := by
  obtain ⟨m₁, p⟩ := p
  obtain ⟨m₂, q⟩ := q
  exact ⟨m₂ + m₁, fun n => by rw [← Nat.add_assoc, p, q]⟩
theorem rTo.one {c e : Nat} {h k : aI} (p : ∀ n, pRun kd pl nu (n + 1) c h = pRun kd pl nu n e k) : rTo kd pl nu c h e k := ⟨1, p⟩
theorem rFl.one {c : Nat} {h k : aI} (p : ∀ n, pRun kd pl nu (n + 1) c h = some k) : rFl kd pl nu c h k := ⟨1, p⟩
theorem rFr.refl (h : aI) : rFr d h h := ⟨Int.le_refl _, fun _ _ _ => rfl⟩
theorem rFr.nx {h k : aI} (p : rFr d h k) : k 37 16 = h 37 16 := p.2 37 16 (by unfold rOut; omega)
theorem rFr.dp {h k : aI} (p : rFr d h k) : k 37 18 = h 37 18 := p.2 37 18 (by unfold rOut; omega)
theorem rFr.wt {h k : aI} {b : Nat} (p : rFr d h k) (hb : b = 48 ∨ b = 49 ∨ b = 50) : k b d = h b d := p.2 b d (by unfold rOut; omega)
theorem rFr.trans {h k l : aI} (p : rFr d h k) (q : rFr d k l) : rFr d h l := ⟨Int.le_trans p.1 q.1, fun b j hb => (q.2 b j (fun hc => hb (by
  have h₁ := p.1
  have h₂ := p.nx
  unfold rOut at hc ⊢
  rw [h₂] at hc
  omega))).trans (p.2 b j hb)⟩
theorem rAf.refl {h : aI} {a : Int} (h₁ : h 37 7 = a) : rAf d h h a [] := ⟨rFr.refl h, h₁, by rw [List.length_nil]; omega, trivial⟩
theorem rAf.trans {h k l : aI} {a b : Int} {cs ds : List (Int × Int)} (p : rAf d h k a cs) (q : rAf d k l b ds) : rAf d h l b (cs ++ ds) := by
  obtain ⟨p₁, p₂, p₃, p₄⟩ := p
  obtain ⟨q₁, q₂, q₃, q₄⟩ := q
  refine ⟨p₁.trans q₁, q₂, by rw [q₃, p₃, List.length_append]; omega, ?_⟩
  rw [oM_app]
  have h₂ := p₁.nx
  refine rows_app _ _ _ (rows_cg _ _ (fun j j₁ j₂ => ⟨q₁.2 _ _ ?_, q₁.2 _ _ ?_⟩) p₄) ?_
  · rw [oM_len] at j₂; unfold rOut; rw [h₂, p₃]; omega
  · rw [oM_len] at j₂; unfold rOut; rw [h₂, p₃]; omega
  · rw [oM_len, Int.add_assoc, ← p₃, ← h₂]; exact q₄
theorem rAf.at {h k : aI} {a b : Int} {cs : List (Int × Int)} (p : rAf d h k a cs) : rAf d h (up2 k 37 7 b) b cs := by
  obtain ⟨p₁, p₂, p₃, p₄⟩ := p
  refine ⟨⟨by rw [up2_if (by omega)]; exact p₁.1, fun b j hb => by rw [up2_if (by unfold rOut at hb; omega)]; exact p₁.2 b j hb⟩, up2_s, by rw [up2_if (by omega)]; exact p₃, ?_⟩
  rw [up2_f (by decide), up2_f (by decide)]
  exact p₄
theorem rAf.em {h k : aI} {a x y : Int} {cs : List (Int × Int)} {e : Int × Int} (p : rAf d h k a cs) (hx : x = oC e.1) (hy : y = oV e) : rAf d h (mEm k x y) a (cs ++ [e]) := by
  refine p.trans ?_
  unfold mEm
  refine ⟨⟨?_, fun b j hb => ?_⟩, ?_, ?_, ?_, ?_, trivial⟩
  · rw [up2_s]; omega
  · unfold rOut at hb
    rw [up2_if (by omega), up2_if (by omega), up2_if (by omega)]
  · rw [up2_if (by omega), up2_if (by omega), up2_if (by omega)]; exact p.2.1
  · rw [up2_s, List.length_singleton]; rfl
  · show up2 _ _ _ _ 46 (660 * k 37 16 + k 37 17) = oC e.1
    rw [up2_if (by omega), up2_if (by omega), up2_s, hx]
  · show up2 _ _ _ _ 47 (660 * k 37 16 + k 37 17) = oV e
    rw [up2_if (by omega), up2_s, hy]
/-- a wait at this level that was set before and is taken away behind -/
theorem rAf.un {h k : aI} {a v : Int} {b : Nat} {cs : List (Int × Int)} (hb : b = 48 ∨ b = 49 ∨ b = 50) (h₀ : h b d = 0) (p : rAf d (up2 h b d v) k a cs) : rAf d h (up2 k b d 0) a cs := by
  obtain ⟨⟨p₀, p₁⟩, p₂, p₃, p₄⟩ := p
  rw [up2_if (by omega)] at p₀ p₃ p₄
  rw [up2_if (by omega)] at p₄
  refine ⟨⟨by rw [up2_if (by omega)]; exact p₀, fun x j hx => ?_⟩, by rw [up2_if (by omega)]; exact p₂, by rw [up2_if (by omega)]; exact p₃, ?_⟩
  · by_cases e : x = b ∧ j = d
    · obtain ⟨rfl, rfl⟩ := e
      rw [up2_s, h₀]
    · rw [up2_if e, p₁ x j (by rw [up2_if (by omega), up2_if (by omega)]; exact hx), up2_if e]
  · rw [up2_f (by omega), up2_f (by omega)]
    exact p₄
theorem rSt.g {h : aI} {a : Int} (s : rSt nt d h a) (hT : nt ≤ 600) : pG h := by
  obtain ⟨s₁, s₂, s₃, s₄, s₅, s₆, s₇⟩ := s
  exact ⟨by omega, by omega, by omega, s₇⟩
theorem rSt.af {h k : aI} {a b : Int} {cs : List (Int × Int)} (s : rSt nt d h a) (p : rAf d h k b cs) (h₁ : (cs.length : Int) ≤ b - a) (h₂ : b ≤ nt) : rSt nt d k b := by
  obtain ⟨s₁, s₂, s₃, s₄, s₅, s₆, s₇⟩ := s
  obtain ⟨p₁, p₂, p₃, p₄⟩ := p
  exact ⟨p₂, p₁.dp.trans s₂, by omega, by omega, by omega, s₆, by rw [p₁.nx]; exact s₇⟩
theorem rSt.wa {h : aI} {a v : Int} {b : Nat} (hb : b = 48 ∨ b = 49 ∨ b = 50) (s : rSt nt d h a) (h₂ : a + 1 ≤ nt) : rSt nt d (up2 (up2 h b d v) 37 7 (a + 1)) (a + 1) := by
  obtain ⟨s₁, s₂, s₃, s₄, s₅, s₆, s₇⟩ := s
  refine ⟨up2_s, ?_, by omega, ?_, ?_, s₆, ?_⟩
  · rw [up2_if (by omega), up2_if (by omega)]; exact s₂
  · rw [up2_if (by omega), up2_if (by omega)]; exact s₄
  · rw [up2_if (by omega), up2_if (by omega)]; omega
  · rw [up2_if (by omega), up2_if (by omega)]; exact s₇
/-- a wait is set, a TOKEN is passed; what is read then ends with the wait's code -/
theorem rAf.wait {h k : aI} {a v x b₁ : Int} {b : Nat} {cs : List (Int × Int)} {e : Int × Int} (hb : b = 48 ∨ b = 49 ∨ b = 50) (h₀ : h b d = 0) (p : rAf d (up2 (up2 h b d v) 37 7 x) k a cs) (hx : b₁ = oC e.1) (hy : oV e = 0) : rAf d h (up2 (mEm k b₁ 0) b d 0) a (cs ++ [e]) := by
  refine rAf.un (v := v) hb h₀ ?_
  have q₀ : rAf d (up2 h b d v) (up2 (up2 h b d v) 37 7 x) x [] := (rAf.refl rfl).at
  have q₁ := q₀.trans p
  rw [List.nil_append] at q₁
  exact q₁.em hx hy.symm
theorem rRs.pre {h k : aI} {a : Int} {c f e : Nat} {cs : List (Int × Int)} {r : sR} (p : rAf d h k a cs) (t : rTo kd pl nu c h f k) (q : rRs kd pl nu d f k e r) : rRs kd pl nu d c h e (r.1, r.2.1, cs ++ r.2.2) := by
  rcases q with ⟨q₁, l, q₂, q₃⟩ | ⟨q₁, l, q₂, q₃⟩
  · exact Or.inl ⟨q₁, l, p.trans q₂, t.trans q₃⟩
  · exact Or.inr ⟨q₁, l, q₂, t.fl q₃⟩
theorem rRs.no {h k : aI} {c f e x : Nat} {r : sR} (t : rTo kd pl nu c h f k) (q : rRs kd pl nu d f k e r) (hr : ¬ r.1 = 0) : rRs kd pl nu d c h x r := by
  rcases q with ⟨q₁, l, q₂, q₃⟩ | ⟨q₁, l, q₂, q₃⟩
  · exact absurd q₁ hr
  · exact Or.inr ⟨q₁, l, q₂, t.fl q₃⟩
theorem rGo_P (hT : nt ≤ 600) (hnt : kd nt = 19) (hk : ∀ a, 0 ≤ a → a ≤ nt → 0 ≤ kd a ∧ 0 ≤ nu a ∧ nu a ≤ 9999) {grec : Int → sR} {m : Int} (hrec : ¬ 5 ≤ d → rGo kd pl nu nt (d + 1) 6 (fun h => h 48 (d + 1) = 0 ∧ h 49 (d + 1) = 0 ∧ h 50 (d + 1) = 0) grec ∧ sGood nt m grec) : rGo kd pl nu nt d 1 (fun _ => True) (sPt kd nu grec d) := by
  intro h a s _
  have hg := s.g hT
  obtain ⟨s₁, s₂, s₃, s₄, s₅, s₆, s₇⟩ := id s
  have hs : ∀ n, pRun kd pl nu (n + 1) 0 h = _ := fun n => pRun_0 hg
  rw [s₁, s₂] at hs
  unfold sPt
  by_cases c₁ : 8 < kd a
  · rw [if_pos c₁]
    exact Or.inr ⟨by show ¬ (1 : Int) = 0; decide, _, up2_s, rFl.one (fun n => by rw [hs n, if_pos c₁])⟩
  · rw [if_neg c₁]
    have hlt : a < nt := by
      rcases Int.lt_or_eq_of_le s₃.2 with q | q
      · exact q
      · rw [q, hnt] at c₁; omega
    by_cases c₂ : 5 ≤ d
    · rw [if_pos c₂]
      exact Or.inr ⟨by show ¬ (5 : Int) = 0; decide, _, up2_s, rFl.one (fun n => by rw [hs n, if_neg c₁, if_pos (show d = 5 by omega)])⟩
    · rw [if_neg c₂]
      obtain ⟨hr₁, hr₂⟩ := hrec c₂
      by_cases c₃ : kd a = 8
      · rw [if_pos c₃]
        have t₀ : rTo kd pl nu 0 h 0 (mOp (up2 (up2 h 37 7 (a + 1)) 37 18 (d + 1))) := rTo.one (fun n => by rw [hs n, if_neg c₁, if_neg (by omega), if_pos c₃])
        generalize hh : mOp (up2 (up2 h 37 7 (a + 1)) 37 18 (d + 1)) = h₁ at t₀
        have e₁ : ∀ b j, ¬ (b = 37 ∧ (j = 7 ∨ j = 18)) → ¬ ((b = 48 ∨ b = 49 ∨ b = 50) ∧ j = d + 1) → h₁ b j = h b j := fun b j j₁ j₂ => by
          rw [← hh]
          unfold mOp
          rw [up2_s (f := up2 h 37 7 (a + 1)), up2_if (by omega), up2_if (by omega), up2_if (by omega), up2_if (by omega), up2_if (by omega)]
        have e₂ : h₁ 37 7 = a + 1 := by
          rw [← hh]
          unfold mOp
          rw [up2_if (by omega), up2_if (by omega), up2_if (by omega), up2_if (by omega), up2_s]
        have e₃ : h₁ 37 18 = d + 1 := by
          rw [← hh]
          unfold mOp
          rw [up2_if (by omega), up2_if (by omega), up2_if (by omega), up2_s]
        have e₄ : h₁ 48 (d + 1) = 0 ∧ h₁ 49 (d + 1) = 0 ∧ h₁ 50 (d + 1) = 0 := by
          rw [← hh]
          unfold mOp
          rw [up2_s (f := up2 h 37 7 (a + 1))]
          refine ⟨?_, ?_, up2_s⟩
          · rw [up2_if (by omega), up2_if (by omega), up2_s]
          · rw [up2_if (by omega), up2_s]
        have st₁ : rSt nt (d + 1) h₁ (a + 1) := ⟨e₂, e₃, by omega, by rw [e₁ 37 17 (by omega) (by omega)]; omega, by rw [e₁ 37 17 (by omega) (by omega)]; omega, by omega, by rw [e₁ 37 16 (by omega) (by omega)]; exact s₇⟩
        have hq := hr₁ h₁ (a + 1) st₁ e₄
        rcases hr₂ (a + 1) (by omega) (by omega) with ⟨⟨y₁, y₂, y₃, y₄, y₅, y₆⟩, y₇⟩ | hno
        · rcases hq with ⟨q₁, k, q₂, q₃⟩ | ⟨q₁, q₂⟩
          · rw [if_pos y₁]
            have st₂ : rSt nt (d + 1) k (grec (a + 1)).2.1 := st₁.af q₂ y₄ y₃
            have hs₂ : ∀ n, pRun kd pl nu (n + 1) 6 k = _ := fun n => pRun_6 (st₂.g hT)
            rw [st₂.1, st₂.2.1] at hs₂
            by_cases c₄ : kd (grec (a + 1)).2.1 = 9
            · rw [if_pos c₄]
              have hl₂ : (grec (a + 1)).2.1 < nt := by
                rcases Int.lt_or_eq_of_le y₃ with q | q
                · exact q
                · rw [q, hnt] at c₄; omega
              refine Or.inl ⟨rfl, up2 (up2 k 37 7 ((grec (a + 1)).2.1 + 1)) 37 18 (d + 1 - 1), ?_, (t₀.trans q₃).trans (rTo.one (fun n => by rw [hs₂ n, if_neg (by omega), if_pos c₄]))⟩
              obtain ⟨⟨f₀, f₁⟩, f₂, f₃, f₄⟩ := q₂
              have g₁ : h₁ 37 17 = h 37 17 := e₁ 37 17 (by omega) (by omega)
              have g₂ : h₁ 37 16 = h 37 16 := e₁ 37 16 (by omega) (by omega)
              rw [g₁] at f₀ f₁ f₃ f₄
              rw [g₂] at f₁ f₄
              refine ⟨⟨?_, fun b j hb => ?_⟩, ?_, ?_, ?_⟩
              · rw [up2_if (by omega), up2_if (by omega)]; exact f₀
              · by_cases e : b = 37 ∧ j = 18
                · obtain ⟨rfl, rfl⟩ := e
                  rw [up2_s, s₂]; omega
                · unfold rOut at hb
                  rw [up2_if e, up2_if (by omega), f₁ b j (by unfold rOut; omega), e₁ b j (by omega) (by omega)]
              · show up2 _ _ _ _ 37 7 = (grec (a + 1)).2.1 + 1
                rw [up2_if (by omega), up2_s]
              · rw [up2_if (by omega), up2_if (by omega)]; exact f₃
              · rw [up2_f (by decide), up2_f (by decide), up2_f (by decide), up2_f (by decide)]
                exact f₄
            · rw [if_neg c₄]
              exact Or.inr ⟨by show ¬ (1 : Int) = 0; decide, up2 (up2 k 37 8 (1 + 16 * pl (grec (a + 1)).2.1)) 37 18 (d + 1 - 1), by rw [up2_if (by omega), up2_s], (t₀.trans q₃).fl (rFl.one (fun n => by rw [hs₂ n, if_neg (by omega), if_neg c₄]))⟩
          · exact absurd y₁ q₁
        · rw [if_neg hno.ne]
          rcases rRs.no (d := d + 1) (x := 1) t₀ hq hno.ne with ⟨q₁, q₂⟩ | q
          · exact absurd q₁ hno.ne
          · exact Or.inr q
      · rw [if_neg c₃]
        have k₀ := hk a s₃.1 s₃.2
        have af₁ := ((rAf.refl (d := d) s₁).em (e := (kd a, nu a)) (x := if kd a = 7 then 1 else 2) (y := if kd a = 7 then nu a else kd a) (by
          show _ = oC (kd a)
          unfold oC
          by_cases q : kd a = 7
          · rw [if_pos q, if_pos q]
          · rw [if_neg q, if_neg q, if_pos (by omega)]) (by
          show _ = (if kd a = 7 then nu a else if kd a < 7 then kd a else 0)
          by_cases q : kd a = 7
          · rw [if_pos q, if_pos q]
          · rw [if_neg q, if_neg q, if_pos (by omega)])).at (b := a + 1)
        exact Or.inl ⟨rfl, _, af₁, rTo.one (fun n => by rw [hs n, if_neg c₁, if_neg (by omega), if_neg c₃])⟩
theorem rGo_Sl (hT : nt ≤ 600) (hnt : kd nt = 19) {gp : Int → sR} {m : Int} (hp : rGo kd pl nu nt d 1 (fun _ => True) gp) (hs : sGood nt m gp) (n : Nat) : ∀ h a, rSt nt d h a → h 48 d = 0 → nt - a ≤ n → rRs kd pl nu d 2 h 3 (sSl kd gp n a) := by
  induction n with
  | zero =>
    intro h a s h₀ h₁
    have e : a = nt := by have := s.2.2.1; omega
    refine Or.inl ⟨rfl, h, rAf.refl s.1, rTo.one (fun n => ?_)⟩
    rw [pRun_2 (s.g hT), s.1, e, hnt, if_neg (by decide), if_neg (by decide)]
  | succ n ih =>
    intro h a s h₀ h₁
    obtain ⟨s₁, s₂, s₃, s₄, s₅, s₆, s₇⟩ := id s
    have hs₂ : ∀ n, pRun kd pl nu (n + 1) 2 h = _ := fun n => pRun_2 (s.g hT)
    rw [s₁, s₂] at hs₂
    unfold sSl
    by_cases c₁ : kd a = 12 ∨ kd a = 13
    · rw [if_pos c₁]
      have hlt : a < nt := by
        rcases Int.lt_or_eq_of_le s₃.2 with q | q
        · exact q
        · rw [q, hnt] at c₁; omega
      have hv : ∃ v : Int, v = oC (kd a) ∧ ¬ v = 0 ∧ rTo kd pl nu 2 h 0 (up2 (up2 h 48 d v) 37 7 (a + 1)) := by
        rcases c₁ with q | q
        · exact ⟨3, by rw [q]; rfl, by decide, rTo.one (fun n => by rw [hs₂ n, if_pos q])⟩
        · exact ⟨4, by rw [q]; rfl, by decide, rTo.one (fun n => by rw [hs₂ n, if_neg (by omega), if_pos q])⟩
      obtain ⟨v, v₁, v₂, t₀⟩ := hv
      have st₁ := s.wa (v := v) (Or.inl rfl) (show a + 1 ≤ nt by omega)
      have hq := hp _ _ st₁ trivial
      rcases hs (a + 1) (by omega) (by omega) with ⟨⟨y₁, y₂, y₃, y₄, y₅, y₆⟩, y₇⟩ | hno
      · rcases hq with ⟨q₁, k, q₂, q₃⟩ | ⟨q₁, q₂⟩
        · rw [if_pos y₁]
          have st₂ : rSt nt d k (gp (a + 1)).2.1 := st₁.af q₂ y₄ y₃
          have w₁ : k 48 d = v := by rw [q₂.1.wt (Or.inl rfl), up2_if (by omega), up2_s]
          have t₂ : rTo kd pl nu 1 k 2 (up2 (mEm k v 0) 48 d 0) := rTo.one (fun n => by rw [pRun_1 (st₂.g hT), st₂.2.1, w₁, if_pos v₂])
          have af₃ := rAf.wait (e := (kd a, 0)) (Or.inl rfl) h₀ q₂ v₁ (by unfold oV; rw [if_neg (show ¬ kd a = 7 by omega), if_neg (show ¬ kd a < 7 by omega)])
          have st₃ : rSt nt d (up2 (mEm k v 0) 48 d 0) (gp (a + 1)).2.1 := s.af af₃ (by rw [List.length_append, List.length_singleton]; omega) y₃
          have fin := (ih _ _ st₃ up2_s (by omega)).pre af₃ ((t₀.trans q₃).trans t₂)
          rw [List.append_assoc, List.singleton_append] at fin
          exact fin
        · exact absurd y₁ q₁
      · rw [if_neg hno.ne]
        exact rRs.no t₀ hq hno.ne
    · rw [if_neg c₁]
      exact Or.inl ⟨rfl, h, rAf.refl s₁, rTo.one (fun n => by rw [hs₂ n, if_neg (by omega), if_neg (by omega)])⟩
theorem rGo_S (hT : nt ≤ 600) (hnt : kd nt = 19) {gp : Int → sR} {m : Int} (hp : rGo kd pl nu nt d 1 (fun _ => True) gp) (hs : sGood nt m gp) : rGo kd pl nu nt d 3 (fun h => h 48 d = 0) (sSm kd gp) := by
  intro h a s h₀
  have hq := hp h a s trivial
  have s₃ := s.2.2.1
  unfold sSm
  rcases hs a s₃.1 s₃.2 with ⟨⟨y₁, y₂, y₃, y₄, y₅, y₆⟩, y₇⟩ | hno
  · rcases hq with ⟨q₁, k, q₂, q₃⟩ | ⟨q₁, q₂⟩
    · rw [if_pos y₁]
      have st₂ : rSt nt d k (gp a).2.1 := s.af q₂ y₄ y₃
      have w₁ : k 48 d = 0 := (q₂.1.wt (Or.inl rfl)).trans h₀
      have t₂ : rTo kd pl nu 1 k 2 k := rTo.one (fun n => by rw [pRun_1 (st₂.g hT), st₂.2.1, w₁, if_neg (by decide)])
      exact (rGo_Sl hT hnt hp hs 600 k _ st₂ w₁ (by omega)).pre q₂ (q₃.trans t₂)
    · exact absurd y₁ q₁
  · rw [if_neg hno.ne]
    exact rRs.no rTo.refl hq hno.ne
theorem rGo_T (hT : nt ≤ 600) (hnt : kd nt = 19) {gs : Int → sR} {m : Int} (hp : rGo kd pl nu nt d 3 (fun h => h 48 d = 0) gs) (hs : sGood nt m gs) : rGo kd pl nu nt d 4 (fun h => h 48 d = 0 ∧ h 49 d = 0) (sTs kd gs) := by
  intro h a s h₀
  have hq := hp h a s h₀.1
  have s₃ := s.2.2.1
  unfold sTs
  rcases hs a s₃.1 s₃.2 with ⟨⟨y₁, y₂, y₃, y₄, y₅, y₆⟩, y₇⟩ | hno
  · rcases hq with ⟨q₁, k, q₂, q₃⟩ | ⟨q₁, q₂⟩
    · rw [if_pos y₁]
      have st₂ : rSt nt d k (gs a).2.1 := s.af q₂ y₄ y₃
      have w₁ : k 49 d = 0 := (q₂.1.wt (Or.inr (Or.inl rfl))).trans h₀.2
      have w₀ : k 48 d = 0 := (q₂.1.wt (Or.inl rfl)).trans h₀.1
      have hs₂ : ∀ n, pRun kd pl nu (n + 1) 3 k = _ := fun n => pRun_3 (st₂.g hT)
      rw [st₂.1, st₂.2.1, w₁] at hs₂
      by_cases c₁ : kd (gs a).2.1 = 10 ∨ kd (gs a).2.1 = 11
      · rw [if_pos c₁]
        have hlt : (gs a).2.1 < nt := by
          rcases Int.lt_or_eq_of_le y₃ with q | q
          · exact q
          · rw [q, hnt] at c₁; omega
        have hv : ∃ v : Int, v = oC (kd (gs a).2.1) ∧ ¬ v = 0 ∧ rTo kd pl nu 3 k 0 (up2 (up2 k 49 d v) 37 7 ((gs a).2.1 + 1)) := by
          rcases c₁ with q | q
          · exact ⟨5, by rw [q]; rfl, by decide, rTo.one (fun n => by rw [hs₂ n, if_neg (by decide), if_pos q])⟩
          · exact ⟨6, by rw [q]; rfl, by decide, rTo.one (fun n => by rw [hs₂ n, if_neg (by decide), if_neg (by omega), if_pos q])⟩
        obtain ⟨v, v₁, v₂, t₀⟩ := hv
        have st₁ := st₂.wa (v := v) (Or.inr (Or.inl rfl)) (show (gs a).2.1 + 1 ≤ nt by omega)
        have hq₂ := hp _ _ st₁ (by show up2 _ _ _ _ 48 d = 0; rw [up2_if (by omega), up2_if (by omega)]; exact w₀)
        rcases hs ((gs a).2.1 + 1) (by omega) (by omega) with ⟨⟨x₁, x₂, x₃, x₄, x₅, x₆⟩, x₇⟩ | hno
        · rcases hq₂ with ⟨r₁, l, r₂, r₃⟩ | ⟨r₁, r₂⟩
          · rw [if_pos x₁]
            have st₃ : rSt nt d l (gs ((gs a).2.1 + 1)).2.1 := st₁.af r₂ x₄ x₃
            have w₂ : l 49 d = v := by rw [r₂.1.wt (Or.inr (Or.inl rfl)), up2_if (by omega), up2_s]
            have t₂ : rTo kd pl nu 3 l 4 (up2 (mEm l v 0) 49 d 0) := rTo.one (fun n => by rw [pRun_3 (st₃.g hT), st₃.2.1, w₂, if_pos v₂])
            have af₃ := rAf.wait (e := (kd (gs a).2.1, 0)) (Or.inr (Or.inl rfl)) w₁ r₂ v₁ (by unfold oV; rw [if_neg (show ¬ kd (gs a).2.1 = 7 by omega), if_neg (show ¬ kd (gs a).2.1 < 7 by omega)])
            exact Or.inl ⟨rfl, _, q₂.trans af₃, ((q₃.trans t₀).trans r₃).trans t₂⟩
          · exact absurd x₁ r₁
        · rw [if_neg hno.ne]
          exact rRs.no (q₃.trans t₀) hq₂ hno.ne
      · rw [if_neg c₁]
        exact Or.inl ⟨q₁, k, q₂, q₃.trans (rTo.one (fun n => by rw [hs₂ n, if_neg (by decide), if_neg (by omega), if_neg (by omega)]))⟩
    · exact absurd y₁ q₁
  · rw [if_neg hno.ne]
    exact rRs.no rTo.refl hq hno.ne
theorem rGo_Al (hT : nt ≤ 600) (hnt : kd nt = 19) {gp : Int → sR} {m : Int} (hp : rGo kd pl nu nt d 4 (fun h => h 48 d = 0 ∧ h 49 d = 0) gp) (hs : sGood nt m gp) (n : Nat) : ∀ h a, rSt nt d h a → (h 48 d = 0 ∧ h 49 d = 0 ∧ h 50 d = 0) → nt - a ≤ n → rRs kd pl nu d 5 h 6 (sAl kd gp n a) := by
  induction n with
  | zero =>
    intro h a s h₀ h₁
    have e : a = nt := by have := s.2.2.1; omega
    refine Or.inl ⟨rfl, h, rAf.refl s.1, rTo.one (fun n => ?_)⟩
    rw [pRun_5 (s.g hT), s.1, e, hnt, if_neg (by decide)]
  | succ n ih =>
    intro h a s h₀ h₁
    obtain ⟨s₁, s₂, s₃, s₄, s₅, s₆, s₇⟩ := id s
    have hs₂ : ∀ n, pRun kd pl nu (n + 1) 5 h = _ := fun n => pRun_5 (s.g hT)
    rw [s₁, s₂] at hs₂
    unfold sAl
    by_cases c₁ : kd a = 14
    · rw [if_pos c₁]
      have hlt : a < nt := by
        rcases Int.lt_or_eq_of_le s₃.2 with q | q
        · exact q
        · rw [q, hnt] at c₁; omega
      have t₀ : rTo kd pl nu 5 h 0 (up2 (up2 h 50 d 7) 37 7 (a + 1)) := rTo.one (fun n => by rw [hs₂ n, if_pos c₁])
      have st₁ := s.wa (v := 7) (Or.inr (Or.inr rfl)) (show a + 1 ≤ nt by omega)
      have hq := hp _ _ st₁ ⟨by show up2 _ _ _ _ 48 d = 0; rw [up2_if (by omega), up2_if (by omega)]; exact h₀.1, by show up2 _ _ _ _ 49 d = 0; rw [up2_if (by omega), up2_if (by omega)]; exact h₀.2.1⟩
      rcases hs (a + 1) (by omega) (by omega) with ⟨⟨y₁, y₂, y₃, y₄, y₅, y₆⟩, y₇⟩ | hno
      · rcases hq with ⟨q₁, k, q₂, q₃⟩ | ⟨q₁, q₂⟩
        · rw [if_pos y₁]
          have st₂ : rSt nt d k (gp (a + 1)).2.1 := st₁.af q₂ y₄ y₃
          have w₁ : k 50 d = 7 := by rw [q₂.1.wt (Or.inr (Or.inr rfl)), up2_if (by omega), up2_s]
          have t₂ : rTo kd pl nu 4 k 5 (up2 (mEm k 7 0) 50 d 0) := rTo.one (fun n => by rw [pRun_4 (st₂.g hT), st₂.2.1, w₁, if_pos (by decide)])
          have af₃ := rAf.wait (e := (14, 0)) (b₁ := 7) (Or.inr (Or.inr rfl)) h₀.2.2 q₂ rfl rfl
          have st₃ : rSt nt d (up2 (mEm k 7 0) 50 d 0) (gp (a + 1)).2.1 := s.af af₃ (by rw [List.length_append, List.length_singleton]; omega) y₃
          have fin := (ih _ _ st₃ ⟨(af₃.1.wt (Or.inl rfl)).trans h₀.1, (af₃.1.wt (Or.inr (Or.inl rfl))).trans h₀.2.1, up2_s⟩ (by omega)).pre af₃ ((t₀.trans q₃).trans t₂)
          rw [List.append_assoc, List.singleton_append] at fin
          exact fin
        · exact absurd y₁ q₁
      · rw [if_neg hno.ne]
        exact rRs.no t₀ hq hno.ne
    · rw [if_neg c₁]
      exact Or.inl ⟨rfl, h, rAf.refl s₁, rTo.one (fun n => by rw [hs₂ n, if_neg c₁])⟩
theorem rGo_A (hT : nt ≤ 600) (hnt : kd nt = 19) {gp : Int → sR} {m : Int} (hp : rGo kd pl nu nt d 4 (fun h => h 48 d = 0 ∧ h 49 d = 0) gp) (hs : sGood nt m gp) : rGo kd pl nu nt d 6 (fun h => h 48 d = 0 ∧ h 49 d = 0 ∧ h 50 d = 0) (sAn kd gp) := by
  intro h a s h₀
  have hq := hp h a s ⟨h₀.1, h₀.2.1⟩
  have s₃ := s.2.2.1
  unfold sAn
  rcases hs a s₃.1 s₃.2 with ⟨⟨y₁, y₂, y₃, y₄, y₅, y₆⟩, y₇⟩ | hno
  · rcases hq with ⟨q₁, k, q₂, q₃⟩ | ⟨q₁, q₂⟩
    · rw [if_pos y₁]
      have st₂ : rSt nt d k (gp a).2.1 := s.af q₂ y₄ y₃
      have w₁ : k 50 d = 0 := (q₂.1.wt (Or.inr (Or.inr rfl))).trans h₀.2.2
      have t₂ : rTo kd pl nu 4 k 5 k := rTo.one (fun n => by rw [pRun_4 (st₂.g hT), st₂.2.1, w₁, if_neg (by decide)])
      exact (rGo_Al hT hnt hp hs 600 k _ st₂ ⟨(q₂.1.wt (Or.inl rfl)).trans h₀.1, (q₂.1.wt (Or.inr (Or.inl rfl))).trans h₀.2.1, w₁⟩ (by omega)).pre q₂ (q₃.trans t₂)
    · exact absurd y₁ q₁
  · rw [if_neg hno.ne]
    exact rRs.no rTo.refl hq hno.ne
end SPR
section SPR2
variable {kd pl nu : Int → Int} {nt : Int}
theorem rGo_E (hT : nt ≤ 600) (hnt : kd nt = 19) (hk : ∀ a, 0 ≤ a → a ≤ nt → 0 ≤ kd a ∧ 0 ≤ nu a ∧ nu a ≤ 9999) (j : Nat) : rGo kd pl nu nt (5 - (j : Int)) 6 (fun h => h 48 (5 - (j : Int)) = 0 ∧ h 49 (5 - (j : Int)) = 0 ∧ h 50 (5 - (j : Int)) = 0) (sA kd nu (j + 1)) := by
  induction j with
  | zero =>
    have g₀ := (sGood_Pj hk hnt 0).1
    have hp : rGo kd pl nu nt (5 - ((0 : Nat) : Int)) 1 (fun _ => True) (sPt kd nu (sA kd nu 0) (5 - ((0 : Nat) : Int))) := rGo_P (m := 0) hT hnt hk (fun q => absurd q (by decide))
    exact rGo_A hT hnt (rGo_T hT hnt (rGo_S hT hnt hp g₀) (sGood_S hnt g₀ (by decide))) (sGood_T hnt (sGood_S hnt g₀ (by decide)))
  | succ j ih =>
    have g₀ := (sGood_Pj hk hnt (j + 1)).1
    have e : (5 : Int) - (j : Int) = 5 - ((j + 1 : Nat) : Int) + 1 := by omega
    rw [e] at ih
    have hp : rGo kd pl nu nt (5 - ((j + 1 : Nat) : Int)) 1 (fun _ => True) (sPt kd nu (sA kd nu (j + 1)) (5 - ((j + 1 : Nat) : Int))) := rGo_P (m := 3 * j + 4) hT hnt hk (fun _ => ⟨ih, (sGood_Pj hk hnt j).2⟩)
    exact rGo_A hT hnt (rGo_T hT hnt (rGo_S hT hnt hp g₀) (sGood_S hnt g₀ (by omega))) (sGood_T hnt (sGood_S hnt g₀ (by omega)))
end SPR2
