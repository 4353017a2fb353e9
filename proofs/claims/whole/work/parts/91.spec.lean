/-! A TEXT, read as the document says, over the kinds of its TOKENS alone: (fault or 0, where it ends or the wrong TOKEN, the codes). Both programs are held against this. -/
abbrev sR : Type := Int × Int × List (Int × Int)
def sPt (kd nu : Int → Int) (rec : Int → sR) (d a : Int) : sR :=
  if 8 < kd a then (1, a, []) else if 5 ≤ d then (5, a, [])
  else if kd a = 8 then (if (rec (a + 1)).1 = 0 then (if kd (rec (a + 1)).2.1 = 9 then (0, (rec (a + 1)).2.1 + 1, (rec (a + 1)).2.2) else (1, (rec (a + 1)).2.1, [])) else rec (a + 1))
  else (0, a + 1, [(kd a, nu a)])
def sSl (kd : Int → Int) (part : Int → sR) : Nat → Int → sR
  | 0, a => (0, a, [])
  | n + 1, a => if kd a = 12 ∨ kd a = 13 then (if (part (a + 1)).1 = 0 then ((sSl kd part n (part (a + 1)).2.1).1, (sSl kd part n (part (a + 1)).2.1).2.1, (part (a + 1)).2.2 ++ (kd a, 0) :: (sSl kd part n (part (a + 1)).2.1).2.2) else part (a + 1)) else (0, a, [])
def sSm (kd : Int → Int) (part : Int → sR) (a : Int) : sR :=
  if (part a).1 = 0 then ((sSl kd part 600 (part a).2.1).1, (sSl kd part 600 (part a).2.1).2.1, (part a).2.2 ++ (sSl kd part 600 (part a).2.1).2.2) else part a
def sTs (kd : Int → Int) (sum : Int → sR) (a : Int) : sR :=
  if (sum a).1 = 0 then (if kd (sum a).2.1 = 10 ∨ kd (sum a).2.1 = 11 then (if (sum ((sum a).2.1 + 1)).1 = 0 then (0, (sum ((sum a).2.1 + 1)).2.1, (sum a).2.2 ++ ((sum ((sum a).2.1 + 1)).2.2 ++ [(kd (sum a).2.1, 0)])) else sum ((sum a).2.1 + 1)) else sum a) else sum a
def sAl (kd : Int → Int) (test : Int → sR) : Nat → Int → sR
  | 0, a => (0, a, [])
  | n + 1, a => if kd a = 14 then (if (test (a + 1)).1 = 0 then ((sAl kd test n (test (a + 1)).2.1).1, (sAl kd test n (test (a + 1)).2.1).2.1, (test (a + 1)).2.2 ++ (14, 0) :: (sAl kd test n (test (a + 1)).2.1).2.2) else test (a + 1)) else (0, a, [])
def sAn (kd : Int → Int) (test : Int → sR) (a : Int) : sR :=
  if (test a).1 = 0 then ((sAl kd test 600 (test a).2.1).1, (sAl kd test 600 (test a).2.1).2.1, (test a).2.2 ++ (sAl kd test 600 (test a).2.1).2.2) else test a
/-- an E with j levels left -/
def sA (kd nu : Int → Int) : Nat → Int → sR
  | 0, a => (5, a, [])
  | j + 1, a => sAn kd (sTs kd (sSm kd (sPt kd nu (sA kd nu j) (5 - (j : Int))))) a
/-- how many values wait behind the codes, if never more than 24 wait and two are there at each joining -/
def dC : List (Int × Int) → Int → Option Int
  | [], t => some t
  | e :: cs, t => if e.1 ≤ 7 then (if t < 24 then dC cs (t + 1) else none) else (if 2 ≤ t then dC cs (t - 1) else none)
def cOk (e : Int × Int) : Prop := ((0 ≤ e.1 ∧ e.1 ≤ 7) ∨ (10 ≤ e.1 ∧ e.1 ≤ 14)) ∧ 0 ≤ e.2 ∧ e.2 ≤ 9999
theorem dC_c {e : Int × Int} {cs : List (Int × Int)} {t : Int} : dC (e :: cs) t = if e.1 ≤ 7 then (if t < 24 then dC cs (t + 1) else none) else (if 2 ≤ t then dC cs (t - 1) else none) := rfl
theorem dC_app (cs ds : List (Int × Int)) : ∀ t u : Int, dC cs t = some u → dC (cs ++ ds) t = dC ds u := by
  induction cs with
  | nil => intro t u hq; cases hq; rfl
  | cons e cs ih =>
    intro t u hq
    rw [List.cons_append, dC_c]
    rw [dC_c] at hq
    split at hq
    · split at hq
      · rename_i g1 g2
        rw [if_pos g1, if_pos g2]
        exact ih _ _ hq
      · cases hq
    · split at hq
      · rename_i g1 g2
        rw [if_neg g1, if_pos g2]
        exact ih _ _ hq
      · cases hq
/-- what is read ends behind where it began, within the TOKENS; its codes are right and leave one value more -/
def sYes (nt m d : Int) (a : Int) (r : sR) : Prop := r.1 = 0 ∧ a ≤ r.2.1 ∧ r.2.1 ≤ nt ∧ (r.2.2.length : Int) ≤ r.2.1 - a ∧ (∀ e ∈ r.2.2, cOk e) ∧ ∀ t, 1 - d ≤ t → t + m ≤ 24 → dC r.2.2 t = some (t + d)
def sNo (nt : Int) (r : sR) : Prop := (r.1 = 1 ∨ r.1 = 5) ∧ 0 ≤ r.2.1 ∧ r.2.1 ≤ nt
def sGood (nt m : Int) (g : Int → sR) : Prop := ∀ a, 0 ≤ a → a ≤ nt → (sYes nt m 1 a (g a) ∧ a < (g a).2.1) ∨ sNo nt (g a)
section SPEC
variable {kd nu : Int → Int} {nt : Int}
theorem sNo.ne {r : sR} (h : sNo nt r) : ¬ r.1 = 0 := by
  have := h.1
  omega
theorem sGood_P {rec : Int → sR} {d mE mP : Int} (hk : ∀ a, 0 ≤ a → a ≤ nt → 0 ≤ kd a ∧ 0 ≤ nu a ∧ nu a ≤ 9999) (hnt : kd nt = 19) (hrec : ¬ 5 ≤ d → sGood nt mE rec) (h1 : 1 ≤ mP) (h2 : mE ≤ mP) : sGood nt mP (sPt kd nu rec d) := by
  intro a ha hb
  obtain ⟨k1, k2, k3⟩ := hk a ha hb
  unfold sPt
  by_cases c1 : 8 < kd a
  · rw [if_pos c1]
    exact Or.inr ⟨Or.inl rfl, ha, hb⟩
  · rw [if_neg c1]
    have hlt : a < nt := by
      rcases Int.lt_or_eq_of_le hb with q | q
      · exact q
      · rw [q, hnt] at c1; omega
    by_cases c2 : 5 ≤ d
    · rw [if_pos c2]
      exact Or.inr ⟨Or.inr rfl, ha, hb⟩
    · rw [if_neg c2]
      by_cases c3 : kd a = 8
      · rw [if_pos c3]
        have g := hrec c2 (a + 1) (by omega) (by omega)
        rcases g with ⟨⟨y1, y2, y3, y4, y5, y6⟩, y7⟩ | g
        · rw [if_pos y1]
          by_cases c4 : kd (rec (a + 1)).2.1 = 9
          · rw [if_pos c4]
            have hl2 : (rec (a + 1)).2.1 < nt := by
              rcases Int.lt_or_eq_of_le y3 with q | q
              · exact q
              · rw [q, hnt] at c4; omega
            exact Or.inl ⟨⟨rfl, by show a ≤ _ + 1; omega, by show _ + 1 ≤ nt; omega, by show ((rec (a + 1)).2.2.length : Int) ≤ (rec (a + 1)).2.1 + 1 - a; omega, y5, fun t t1 t2 => y6 t t1 (by omega)⟩, by show a < _ + 1; omega⟩
          · rw [if_neg c4]
            exact Or.inr ⟨Or.inl rfl, by show 0 ≤ (rec (a + 1)).2.1; omega, y3⟩
        · rw [if_neg g.ne]
          exact Or.inr g
      · rw [if_neg c3]
        refine Or.inl ⟨⟨rfl, by show a ≤ a + 1; omega, by show a + 1 ≤ nt; omega, by show (1 : Int) ≤ a + 1 - a; omega, fun e he => ?_, fun t t1 t2 => ?_⟩, by show a < a + 1; omega⟩
        · rw [List.mem_singleton.mp he]
          exact ⟨Or.inl ⟨k1, by show kd a ≤ 7; omega⟩, k2, k3⟩
        · unfold dC
          rw [if_pos (show kd a ≤ 7 by omega), if_pos (by omega)]
          rfl
theorem sGood_Sl {part : Int → sR} {mP : Int} (hnt : kd nt = 19) (hp : sGood nt mP part) (n : Nat) : ∀ a, 0 ≤ a → a ≤ nt → sYes nt mP 0 a (sSl kd part n a) ∨ sNo nt (sSl kd part n a) := by
  induction n with
  | zero => exact fun a ha hb => Or.inl ⟨rfl, Int.le_refl _, hb, by show (0 : Int) ≤ a - a; omega, fun e he => absurd he List.not_mem_nil, fun t t1 t2 => by show some t = some (t + 0); rw [Int.add_zero]⟩
  | succ n ih =>
    intro a ha hb
    unfold sSl
    by_cases c1 : kd a = 12 ∨ kd a = 13
    · rw [if_pos c1]
      have hlt : a < nt := by
        rcases Int.lt_or_eq_of_le hb with q | q
        · exact q
        · rw [q, hnt] at c1; omega
      rcases hp (a + 1) (by omega) (by omega) with ⟨⟨y1, y2, y3, y4, y5, y6⟩, y7⟩ | g
      · rw [if_pos y1]
        rcases ih (part (a + 1)).2.1 (by omega) y3 with ⟨x1, x2, x3, x4, x5, x6⟩ | g
        · refine Or.inl ⟨x1, by show a ≤ (sSl kd part n (part (a + 1)).2.1).2.1; omega, x3, ?_, fun e he => ?_, fun t t1 t2 => ?_⟩
          · show ((((part (a + 1)).2.2 ++ (kd a, 0) :: (sSl kd part n (part (a + 1)).2.1).2.2).length : Nat) : Int) ≤ (sSl kd part n (part (a + 1)).2.1).2.1 - a
            rw [List.length_append, List.length_cons]
            omega
          · rcases List.mem_append.mp he with q | q
            · exact y5 e q
            · rcases List.mem_cons.mp q with q | q
              · rw [q]
                exact ⟨Or.inr ⟨by show 10 ≤ kd a; omega, by show kd a ≤ 14; omega⟩, by show (0 : Int) ≤ 0; omega, by show (0 : Int) ≤ 9999; omega⟩
              · exact x5 e q
          · show dC ((part (a + 1)).2.2 ++ (kd a, 0) :: (sSl kd part n (part (a + 1)).2.1).2.2) t = some (t + 0)
            rw [dC_app _ _ _ _ (y6 t (by omega) t2)]
            unfold dC
            rw [if_neg (show ¬ kd a ≤ 7 by omega), if_pos (by omega), show t + 1 - 1 = t by omega]
            exact x6 t t1 t2
        · exact Or.inr g
      · rw [if_neg g.ne]
        exact Or.inr g
    · rw [if_neg c1]
      exact Or.inl ⟨rfl, Int.le_refl _, hb, by show (0 : Int) ≤ a - a; omega, fun e he => absurd he List.not_mem_nil, fun t t1 t2 => by show some t = some (t + 0); rw [Int.add_zero]⟩
theorem sGood_S {part : Int → sR} {mP : Int} (hnt : kd nt = 19) (hp : sGood nt mP part) (hm : 0 ≤ mP) : sGood nt (mP + 1) (sSm kd part) := by
  intro a ha hb
  unfold sSm
  rcases hp a ha hb with ⟨⟨y1, y2, y3, y4, y5, y6⟩, y7⟩ | g
  · rw [if_pos y1]
    rcases sGood_Sl hnt hp 600 (part a).2.1 (by omega) y3 with ⟨x1, x2, x3, x4, x5, x6⟩ | g
    · refine Or.inl ⟨⟨x1, by show a ≤ (sSl kd part 600 (part a).2.1).2.1; omega, x3, ?_, fun e he => ?_, fun t t1 t2 => ?_⟩, by show a < (sSl kd part 600 (part a).2.1).2.1; omega⟩
      · show ((((part a).2.2 ++ (sSl kd part 600 (part a).2.1).2.2).length : Nat) : Int) ≤ (sSl kd part 600 (part a).2.1).2.1 - a
        rw [List.length_append]
        omega
      · rcases List.mem_append.mp he with q | q
        · exact y5 e q
        · exact x5 e q
      · show dC ((part a).2.2 ++ (sSl kd part 600 (part a).2.1).2.2) t = some (t + 1)
        rw [dC_app _ _ _ _ (y6 t t1 (by omega)), x6 (t + 1) (by omega) (by omega), Int.add_zero]
    · exact Or.inr g
  · rw [if_neg g.ne]
    exact Or.inr g
theorem sGood_T {sum : Int → sR} {mS : Int} (hnt : kd nt = 19) (hp : sGood nt mS sum) : sGood nt (mS + 1) (sTs kd sum) := by
  intro a ha hb
  unfold sTs
  rcases hp a ha hb with ⟨⟨y1, y2, y3, y4, y5, y6⟩, y7⟩ | g
  · rw [if_pos y1]
    by_cases c1 : kd (sum a).2.1 = 10 ∨ kd (sum a).2.1 = 11
    · rw [if_pos c1]
      have hlt : (sum a).2.1 < nt := by
        rcases Int.lt_or_eq_of_le y3 with q | q
        · exact q
        · rw [q, hnt] at c1; omega
      rcases hp ((sum a).2.1 + 1) (by omega) (by omega) with ⟨⟨x1, x2, x3, x4, x5, x6⟩, x7⟩ | g
      · rw [if_pos x1]
        refine Or.inl ⟨⟨rfl, by show a ≤ (sum ((sum a).2.1 + 1)).2.1; omega, x3, ?_, fun e he => ?_, fun t t1 t2 => ?_⟩, by show a < (sum ((sum a).2.1 + 1)).2.1; omega⟩
        · show ((((sum a).2.2 ++ ((sum ((sum a).2.1 + 1)).2.2 ++ [(kd (sum a).2.1, 0)])).length : Nat) : Int) ≤ (sum ((sum a).2.1 + 1)).2.1 - a
          rw [List.length_append, List.length_append, List.length_singleton]
          omega
        · rcases List.mem_append.mp he with q | q
          · exact y5 e q
          · rcases List.mem_append.mp q with q | q
            · exact x5 e q
            · rw [List.mem_singleton.mp q]
              exact ⟨Or.inr ⟨by show 10 ≤ kd (sum a).2.1; omega, by show kd (sum a).2.1 ≤ 14; omega⟩, by show (0 : Int) ≤ 0; omega, by show (0 : Int) ≤ 9999; omega⟩
        · show dC ((sum a).2.2 ++ ((sum ((sum a).2.1 + 1)).2.2 ++ [(kd (sum a).2.1, 0)])) t = some (t + 1)
          rw [dC_app _ _ _ _ (y6 t t1 (by omega)), dC_app _ _ _ _ (x6 (t + 1) (by omega) (by omega))]
          unfold dC
          rw [if_neg (show ¬ kd (sum a).2.1 ≤ 7 by omega), if_pos (by omega), show t + 1 + 1 - 1 = t + 1 by omega]
          rfl
      · rw [if_neg g.ne]
        exact Or.inr g
    · rw [if_neg c1]
      exact Or.inl ⟨⟨y1, y2, y3, y4, y5, fun t t1 t2 => y6 t t1 (by omega)⟩, y7⟩
  · rw [if_neg g.ne]
    exact Or.inr g
theorem sGood_Al {test : Int → sR} {mP : Int} (hnt : kd nt = 19) (hp : sGood nt mP test) (n : Nat) : ∀ a, 0 ≤ a → a ≤ nt → sYes nt mP 0 a (sAl kd test n a) ∨ sNo nt (sAl kd test n a) := by
  induction n with
  | zero => exact fun a ha hb => Or.inl ⟨rfl, Int.le_refl _, hb, by show (0 : Int) ≤ a - a; omega, fun e he => absurd he List.not_mem_nil, fun t t1 t2 => by show some t = some (t + 0); rw [Int.add_zero]⟩
  | succ n ih =>
    intro a ha hb
    unfold sAl
    by_cases c1 : kd a = 14
    · rw [if_pos c1]
      have hlt : a < nt := by
        rcases Int.lt_or_eq_of_le hb with q | q
        · exact q
        · rw [q, hnt] at c1; omega
      rcases hp (a + 1) (by omega) (by omega) with ⟨⟨y1, y2, y3, y4, y5, y6⟩, y7⟩ | g
      · rw [if_pos y1]
        rcases ih (test (a + 1)).2.1 (by omega) y3 with ⟨x1, x2, x3, x4, x5, x6⟩ | g
        · refine Or.inl ⟨x1, by show a ≤ (sAl kd test n (test (a + 1)).2.1).2.1; omega, x3, ?_, fun e he => ?_, fun t t1 t2 => ?_⟩
          · show ((((test (a + 1)).2.2 ++ ((14 : Int), (0 : Int)) :: (sAl kd test n (test (a + 1)).2.1).2.2).length : Nat) : Int) ≤ (sAl kd test n (test (a + 1)).2.1).2.1 - a
            rw [List.length_append, List.length_cons]
            omega
          · rcases List.mem_append.mp he with q | q
            · exact y5 e q
            · rcases List.mem_cons.mp q with q | q
              · rw [q]
                exact ⟨Or.inr ⟨by show (10 : Int) ≤ 14; omega, by show (14 : Int) ≤ 14; omega⟩, by show (0 : Int) ≤ 0; omega, by show (0 : Int) ≤ 9999; omega⟩
              · exact x5 e q
          · show dC ((test (a + 1)).2.2 ++ ((14 : Int), (0 : Int)) :: (sAl kd test n (test (a + 1)).2.1).2.2) t = some (t + 0)
            rw [dC_app _ _ _ _ (y6 t (by omega) t2)]
            unfold dC
            rw [if_neg (show ¬ (14 : Int) ≤ 7 by omega), if_pos (by omega), show t + 1 - 1 = t by omega]
            exact x6 t t1 t2
        · exact Or.inr g
      · rw [if_neg g.ne]
        exact Or.inr g
    · rw [if_neg c1]
      exact Or.inl ⟨rfl, Int.le_refl _, hb, by show (0 : Int) ≤ a - a; omega, fun e he => absurd he List.not_mem_nil, fun t t1 t2 => by show some t = some (t + 0); rw [Int.add_zero]⟩
theorem sGood_A {test : Int → sR} {mP : Int} (hnt : kd nt = 19) (hp : sGood nt mP test) (hm : 0 ≤ mP) : sGood nt (mP + 1) (sAn kd test) := by
  intro a ha hb
  unfold sAn
  rcases hp a ha hb with ⟨⟨y1, y2, y3, y4, y5, y6⟩, y7⟩ | g
  · rw [if_pos y1]
    rcases sGood_Al hnt hp 600 (test a).2.1 (by omega) y3 with ⟨x1, x2, x3, x4, x5, x6⟩ | g
    · refine Or.inl ⟨⟨x1, by show a ≤ (sAl kd test 600 (test a).2.1).2.1; omega, x3, ?_, fun e he => ?_, fun t t1 t2 => ?_⟩, by show a < (sAl kd test 600 (test a).2.1).2.1; omega⟩
      · show ((((test a).2.2 ++ (sAl kd test 600 (test a).2.1).2.2).length : Nat) : Int) ≤ (sAl kd test 600 (test a).2.1).2.1 - a
        rw [List.length_append]
        omega
      · rcases List.mem_append.mp he with q | q
        · exact y5 e q
        · exact x5 e q
      · show dC ((test a).2.2 ++ (sAl kd test 600 (test a).2.1).2.2) t = some (t + 1)
        rw [dC_app _ _ _ _ (y6 t t1 (by omega)), x6 (t + 1) (by omega) (by omega), Int.add_zero]
    · exact Or.inr g
  · rw [if_neg g.ne]
    exact Or.inr g
theorem sGood_Pj (hk : ∀ a, 0 ≤ a → a ≤ nt → 0 ≤ kd a ∧ 0 ≤ nu a ∧ nu a ≤ 9999) (hnt : kd nt = 19) (j : Nat) : sGood nt (3 * j + 1) (sPt kd nu (sA kd nu j) (5 - (j : Int))) ∧ sGood nt (3 * j + 4) (sA kd nu (j + 1)) := by
  induction j with
  | zero =>
    have hp : sGood nt (3 * ((0 : Nat) : Int) + 1) (sPt kd nu (sA kd nu 0) (5 - ((0 : Nat) : Int))) := sGood_P (mE := 0) hk hnt (fun q => absurd q (by decide)) (by decide) (by decide)
    exact ⟨hp, sGood_A hnt (sGood_T hnt (sGood_S hnt hp (by decide))) (by decide)⟩
  | succ j ih =>
    have hp : sGood nt (3 * ((j + 1 : Nat) : Int) + 1) (sPt kd nu (sA kd nu (j + 1)) (5 - ((j + 1 : Nat) : Int))) := sGood_P (mE := 3 * j + 4) hk hnt (fun _ => ih.2) (by omega) (by omega)
    refine ⟨hp, ?_⟩
    have hq := sGood_A hnt (sGood_T hnt (sGood_S hnt hp (by omega))) (by omega)
    rw [show 3 * ((j + 1 : Nat) : Int) + 4 = 3 * ((j + 1 : Nat) : Int) + 1 + 1 + 1 + 1 by omega]
    exact hq
end SPEC
