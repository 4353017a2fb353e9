/-- what lies where behind the two constructors and the law's own row, by my numbers: X is 0, the reference is 37, the law's row is 79, the prices are 80 -/
def shT : Nat → Nat × Int := fun a => match a with
  | 0 => (9, 12)
  | 1 => (23, 40)
  | 2 => (24, 8)
  | 3 => (2, 8)
  | 4 => (20, 300)
  | 5 => (20, 300)
  | 6 => (20, 300)
  | 7 => (20, 100)
  | 8 => (20, 100)
  | 9 => (20, 100)
  | 10 => (1, 7)
  | 11 => (20, 40)
  | 12 => (20, 8)
  | 13 => (20, 8)
  | 14 => (20, 8)
  | 15 => (7, 2)
  | 16 => (20, 600)
  | 17 => (4, 5)
  | 18 => (8, 4)
  | 19 => (20, 601)
  | 20 => (20, 601)
  | 21 => (20, 601)
  | 22 => (5, 8)
  | 23 => (20, 600)
  | 24 => (20, 600)
  | 25 => (20, 16)
  | 26 => (22, 16)
  | 27 => (20, 24)
  | 28 => (6, 2)
  | 29 => (20, 400)
  | 30 => (20, 7)
  | 31 => (5, 8)
  | 32 => (20, 600)
  | 33 => (20, 600)
  | 34 => (20, 16)
  | 35 => (22, 16)
  | 36 => (20, 24)
  | 37 => (10, 56)
  | 38 => (20, 600)
  | 39 => (20, 602)
  | 40 => (20, 602)
  | 41 => (21, 602)
  | 42 => (21, 11)
  | 43 => (20, 2)
  | 44 => (22, 32)
  | 45 => (20, 32)
  | 46 => (20, 1320)
  | 47 => (20, 1320)
  | 48 => (20, 7)
  | 49 => (20, 7)
  | 50 => (20, 7)
  | 51 => (20, 7)
  | 52 => (20, 660)
  | 53 => (20, 40)
  | 54 => (20, 40)
  | 55 => (20, 40)
  | 56 => (20, 40)
  | 57 => (20, 320)
  | 58 => (20, 160)
  | 59 => (20, 40)
  | 60 => (20, 40)
  | 61 => (20, 40)
  | 62 => (22, 40)
  | 63 => (20, 40)
  | 64 => (20, 300)
  | 65 => (20, 300)
  | 66 => (20, 300)
  | 67 => (20, 100)
  | 68 => (20, 100)
  | 69 => (20, 100)
  | 70 => (20, 8)
  | 71 => (20, 8)
  | 72 => (20, 8)
  | 73 => (20, 40)
  | 74 => (20, 8)
  | 75 => (20, 8)
  | 76 => (20, 8)
  | 77 => (20, 8)
  | 78 => (20, 400)
  | 79 => (21, 1)
  | 80 => (20, 320)
  | _ => (99, 0)
/-- the same in the order in which they are made: the reference is 38, the law's row is 80 -/
def shU : Nat → Nat × Int := fun a => match a with
  | 0 => (9, 12)
  | 1 => (23, 40)
  | 2 => (24, 8)
  | 3 => (2, 8)
  | 4 => (20, 300)
  | 5 => (20, 300)
  | 6 => (20, 300)
  | 7 => (20, 100)
  | 8 => (20, 100)
  | 9 => (20, 100)
  | 10 => (1, 7)
  | 11 => (20, 320)
  | 12 => (20, 40)
  | 13 => (20, 8)
  | 14 => (20, 8)
  | 15 => (20, 8)
  | 16 => (7, 2)
  | 17 => (20, 600)
  | 18 => (4, 5)
  | 19 => (8, 4)
  | 20 => (20, 601)
  | 21 => (20, 601)
  | 22 => (20, 601)
  | 23 => (5, 8)
  | 24 => (20, 600)
  | 25 => (20, 600)
  | 26 => (20, 16)
  | 27 => (22, 16)
  | 28 => (20, 24)
  | 29 => (6, 2)
  | 30 => (20, 400)
  | 31 => (20, 7)
  | 32 => (5, 8)
  | 33 => (20, 600)
  | 34 => (20, 600)
  | 35 => (20, 16)
  | 36 => (22, 16)
  | 37 => (20, 24)
  | 38 => (10, 56)
  | 39 => (20, 600)
  | 40 => (20, 602)
  | 41 => (20, 602)
  | 42 => (21, 602)
  | 43 => (21, 11)
  | 44 => (20, 2)
  | 45 => (22, 32)
  | 46 => (20, 32)
  | 47 => (20, 1320)
  | 48 => (20, 1320)
  | 49 => (20, 7)
  | 50 => (20, 7)
  | 51 => (20, 7)
  | 52 => (20, 7)
  | 53 => (20, 660)
  | 54 => (20, 40)
  | 55 => (20, 40)
  | 56 => (20, 40)
  | 57 => (20, 40)
  | 58 => (20, 320)
  | 59 => (20, 160)
  | 60 => (20, 40)
  | 61 => (20, 40)
  | 62 => (20, 40)
  | 63 => (22, 40)
  | 64 => (20, 40)
  | 65 => (20, 300)
  | 66 => (20, 300)
  | 67 => (20, 300)
  | 68 => (20, 100)
  | 69 => (20, 100)
  | 70 => (20, 100)
  | 71 => (20, 8)
  | 72 => (20, 8)
  | 73 => (20, 8)
  | 74 => (20, 40)
  | 75 => (20, 8)
  | 76 => (20, 8)
  | 77 => (20, 8)
  | 78 => (20, 8)
  | 79 => (20, 400)
  | 80 => (21, 1)
  | _ => (99, 0)
def stZ (z : aZ) : Prop := 81 ≤ z.1 ∧ ∀ a, a < 81 → z.2.2 a = shT a
def rT : List (Nat × Int × Nat) := [(0, 0, 1), (0, 1, 2), (3, 0, 4), (3, 1, 5), (3, 2, 6), (3, 3, 7), (3, 4, 8), (3, 5, 9), (0, 2, 3), (10, 0, 80), (10, 1, 11), (10, 2, 12), (10, 3, 13), (10, 4, 14), (0, 3, 10), (15, 0, 16), (0, 4, 15), (18, 0, 19), (18, 1, 20), (18, 2, 21), (17, 0, 18), (22, 0, 23), (22, 1, 24), (22, 2, 25), (22, 3, 26), (22, 4, 27), (0, 5, 17), (28, 0, 29), (0, 6, 28), (0, 7, 30), (31, 0, 32), (31, 1, 33), (31, 2, 34), (31, 3, 35), (31, 4, 36), (37, 1, 38), (37, 4, 39), (37, 5, 40), (37, 6, 41), (37, 9, 42), (37, 10, 43), (37, 11, 44), (37, 12, 45), (37, 13, 46), (37, 14, 47), (37, 19, 48), (37, 20, 49), (37, 21, 50), (37, 22, 51), (37, 23, 52), (37, 26, 53), (37, 27, 54), (37, 28, 55), (37, 29, 56), (37, 30, 57), (37, 31, 58), (37, 32, 59), (37, 33, 60), (37, 34, 61), (37, 35, 62), (37, 36, 63), (37, 38, 64), (37, 39, 65), (37, 40, 66), (37, 42, 67), (37, 43, 68), (37, 44, 69), (37, 46, 70), (37, 47, 71), (37, 48, 72), (37, 49, 73), (37, 50, 74), (37, 51, 75), (37, 52, 76), (37, 53, 77), (37, 55, 78)]
def stR (hr : aR) : Prop := ∀ q ∈ rT, hr q.1 q.2.1 = some q.2.2
theorem s0 {z : aZ} (h : stZ z) : a_is z 0 9 12 := ⟨Nat.lt_of_lt_of_le (by decide) h.1, h.2 0 (by decide)⟩
theorem s1 {z : aZ} (h : stZ z) : a_is z 1 23 40 := ⟨Nat.lt_of_lt_of_le (by decide) h.1, h.2 1 (by decide)⟩
theorem s2 {z : aZ} (h : stZ z) : a_is z 2 24 8 := ⟨Nat.lt_of_lt_of_le (by decide) h.1, h.2 2 (by decide)⟩
theorem s3 {z : aZ} (h : stZ z) : a_is z 3 2 8 := ⟨Nat.lt_of_lt_of_le (by decide) h.1, h.2 3 (by decide)⟩
theorem s4 {z : aZ} (h : stZ z) : a_is z 4 20 300 := ⟨Nat.lt_of_lt_of_le (by decide) h.1, h.2 4 (by decide)⟩
theorem s5 {z : aZ} (h : stZ z) : a_is z 5 20 300 := ⟨Nat.lt_of_lt_of_le (by decide) h.1, h.2 5 (by decide)⟩
theorem s6 {z : aZ} (h : stZ z) : a_is z 6 20 300 := ⟨Nat.lt_of_lt_of_le (by decide) h.1, h.2 6 (by decide)⟩
theorem s7 {z : aZ} (h : stZ z) : a_is z 7 20 100 := ⟨Nat.lt_of_lt_of_le (by decide) h.1, h.2 7 (by decide)⟩
theorem s8 {z : aZ} (h : stZ z) : a_is z 8 20 100 := ⟨Nat.lt_of_lt_of_le (by decide) h.1, h.2 8 (by decide)⟩
theorem s9 {z : aZ} (h : stZ z) : a_is z 9 20 100 := ⟨Nat.lt_of_lt_of_le (by decide) h.1, h.2 9 (by decide)⟩
theorem s10 {z : aZ} (h : stZ z) : a_is z 10 1 7 := ⟨Nat.lt_of_lt_of_le (by decide) h.1, h.2 10 (by decide)⟩
theorem s11 {z : aZ} (h : stZ z) : a_is z 11 20 40 := ⟨Nat.lt_of_lt_of_le (by decide) h.1, h.2 11 (by decide)⟩
theorem s12 {z : aZ} (h : stZ z) : a_is z 12 20 8 := ⟨Nat.lt_of_lt_of_le (by decide) h.1, h.2 12 (by decide)⟩
theorem s13 {z : aZ} (h : stZ z) : a_is z 13 20 8 := ⟨Nat.lt_of_lt_of_le (by decide) h.1, h.2 13 (by decide)⟩
theorem s14 {z : aZ} (h : stZ z) : a_is z 14 20 8 := ⟨Nat.lt_of_lt_of_le (by decide) h.1, h.2 14 (by decide)⟩
theorem s15 {z : aZ} (h : stZ z) : a_is z 15 7 2 := ⟨Nat.lt_of_lt_of_le (by decide) h.1, h.2 15 (by decide)⟩
theorem s16 {z : aZ} (h : stZ z) : a_is z 16 20 600 := ⟨Nat.lt_of_lt_of_le (by decide) h.1, h.2 16 (by decide)⟩
theorem s17 {z : aZ} (h : stZ z) : a_is z 17 4 5 := ⟨Nat.lt_of_lt_of_le (by decide) h.1, h.2 17 (by decide)⟩
theorem s18 {z : aZ} (h : stZ z) : a_is z 18 8 4 := ⟨Nat.lt_of_lt_of_le (by decide) h.1, h.2 18 (by decide)⟩
theorem s19 {z : aZ} (h : stZ z) : a_is z 19 20 601 := ⟨Nat.lt_of_lt_of_le (by decide) h.1, h.2 19 (by decide)⟩
theorem s20 {z : aZ} (h : stZ z) : a_is z 20 20 601 := ⟨Nat.lt_of_lt_of_le (by decide) h.1, h.2 20 (by decide)⟩
theorem s21 {z : aZ} (h : stZ z) : a_is z 21 20 601 := ⟨Nat.lt_of_lt_of_le (by decide) h.1, h.2 21 (by decide)⟩
theorem s22 {z : aZ} (h : stZ z) : a_is z 22 5 8 := ⟨Nat.lt_of_lt_of_le (by decide) h.1, h.2 22 (by decide)⟩
theorem s23 {z : aZ} (h : stZ z) : a_is z 23 20 600 := ⟨Nat.lt_of_lt_of_le (by decide) h.1, h.2 23 (by decide)⟩
theorem s24 {z : aZ} (h : stZ z) : a_is z 24 20 600 := ⟨Nat.lt_of_lt_of_le (by decide) h.1, h.2 24 (by decide)⟩
theorem s25 {z : aZ} (h : stZ z) : a_is z 25 20 16 := ⟨Nat.lt_of_lt_of_le (by decide) h.1, h.2 25 (by decide)⟩
theorem s26 {z : aZ} (h : stZ z) : a_is z 26 22 16 := ⟨Nat.lt_of_lt_of_le (by decide) h.1, h.2 26 (by decide)⟩
theorem s27 {z : aZ} (h : stZ z) : a_is z 27 20 24 := ⟨Nat.lt_of_lt_of_le (by decide) h.1, h.2 27 (by decide)⟩
theorem s28 {z : aZ} (h : stZ z) : a_is z 28 6 2 := ⟨Nat.lt_of_lt_of_le (by decide) h.1, h.2 28 (by decide)⟩
theorem s29 {z : aZ} (h : stZ z) : a_is z 29 20 400 := ⟨Nat.lt_of_lt_of_le (by decide) h.1, h.2 29 (by decide)⟩
theorem s30 {z : aZ} (h : stZ z) : a_is z 30 20 7 := ⟨Nat.lt_of_lt_of_le (by decide) h.1, h.2 30 (by decide)⟩
theorem s31 {z : aZ} (h : stZ z) : a_is z 31 5 8 := ⟨Nat.lt_of_lt_of_le (by decide) h.1, h.2 31 (by decide)⟩
theorem s32 {z : aZ} (h : stZ z) : a_is z 32 20 600 := ⟨Nat.lt_of_lt_of_le (by decide) h.1, h.2 32 (by decide)⟩
theorem s33 {z : aZ} (h : stZ z) : a_is z 33 20 600 := ⟨Nat.lt_of_lt_of_le (by decide) h.1, h.2 33 (by decide)⟩
theorem s34 {z : aZ} (h : stZ z) : a_is z 34 20 16 := ⟨Nat.lt_of_lt_of_le (by decide) h.1, h.2 34 (by decide)⟩
theorem s35 {z : aZ} (h : stZ z) : a_is z 35 22 16 := ⟨Nat.lt_of_lt_of_le (by decide) h.1, h.2 35 (by decide)⟩
theorem s36 {z : aZ} (h : stZ z) : a_is z 36 20 24 := ⟨Nat.lt_of_lt_of_le (by decide) h.1, h.2 36 (by decide)⟩
theorem s37 {z : aZ} (h : stZ z) : a_is z 37 10 56 := ⟨Nat.lt_of_lt_of_le (by decide) h.1, h.2 37 (by decide)⟩
theorem s38 {z : aZ} (h : stZ z) : a_is z 38 20 600 := ⟨Nat.lt_of_lt_of_le (by decide) h.1, h.2 38 (by decide)⟩
theorem s39 {z : aZ} (h : stZ z) : a_is z 39 20 602 := ⟨Nat.lt_of_lt_of_le (by decide) h.1, h.2 39 (by decide)⟩
theorem s40 {z : aZ} (h : stZ z) : a_is z 40 20 602 := ⟨Nat.lt_of_lt_of_le (by decide) h.1, h.2 40 (by decide)⟩
theorem s41 {z : aZ} (h : stZ z) : a_is z 41 21 602 := ⟨Nat.lt_of_lt_of_le (by decide) h.1, h.2 41 (by decide)⟩
theorem s42 {z : aZ} (h : stZ z) : a_is z 42 21 11 := ⟨Nat.lt_of_lt_of_le (by decide) h.1, h.2 42 (by decide)⟩
theorem s43 {z : aZ} (h : stZ z) : a_is z 43 20 2 := ⟨Nat.lt_of_lt_of_le (by decide) h.1, h.2 43 (by decide)⟩
theorem s44 {z : aZ} (h : stZ z) : a_is z 44 22 32 := ⟨Nat.lt_of_lt_of_le (by decide) h.1, h.2 44 (by decide)⟩
theorem s45 {z : aZ} (h : stZ z) : a_is z 45 20 32 := ⟨Nat.lt_of_lt_of_le (by decide) h.1, h.2 45 (by decide)⟩
theorem s46 {z : aZ} (h : stZ z) : a_is z 46 20 1320 := ⟨Nat.lt_of_lt_of_le (by decide) h.1, h.2 46 (by decide)⟩
theorem s47 {z : aZ} (h : stZ z) : a_is z 47 20 1320 := ⟨Nat.lt_of_lt_of_le (by decide) h.1, h.2 47 (by decide)⟩
theorem s48 {z : aZ} (h : stZ z) : a_is z 48 20 7 := ⟨Nat.lt_of_lt_of_le (by decide) h.1, h.2 48 (by decide)⟩
theorem s49 {z : aZ} (h : stZ z) : a_is z 49 20 7 := ⟨Nat.lt_of_lt_of_le (by decide) h.1, h.2 49 (by decide)⟩
theorem s50 {z : aZ} (h : stZ z) : a_is z 50 20 7 := ⟨Nat.lt_of_lt_of_le (by decide) h.1, h.2 50 (by decide)⟩
theorem s51 {z : aZ} (h : stZ z) : a_is z 51 20 7 := ⟨Nat.lt_of_lt_of_le (by decide) h.1, h.2 51 (by decide)⟩
theorem s52 {z : aZ} (h : stZ z) : a_is z 52 20 660 := ⟨Nat.lt_of_lt_of_le (by decide) h.1, h.2 52 (by decide)⟩
theorem s53 {z : aZ} (h : stZ z) : a_is z 53 20 40 := ⟨Nat.lt_of_lt_of_le (by decide) h.1, h.2 53 (by decide)⟩
theorem s54 {z : aZ} (h : stZ z) : a_is z 54 20 40 := ⟨Nat.lt_of_lt_of_le (by decide) h.1, h.2 54 (by decide)⟩
theorem s55 {z : aZ} (h : stZ z) : a_is z 55 20 40 := ⟨Nat.lt_of_lt_of_le (by decide) h.1, h.2 55 (by decide)⟩
theorem s56 {z : aZ} (h : stZ z) : a_is z 56 20 40 := ⟨Nat.lt_of_lt_of_le (by decide) h.1, h.2 56 (by decide)⟩
theorem s57 {z : aZ} (h : stZ z) : a_is z 57 20 320 := ⟨Nat.lt_of_lt_of_le (by decide) h.1, h.2 57 (by decide)⟩
theorem s58 {z : aZ} (h : stZ z) : a_is z 58 20 160 := ⟨Nat.lt_of_lt_of_le (by decide) h.1, h.2 58 (by decide)⟩
theorem s59 {z : aZ} (h : stZ z) : a_is z 59 20 40 := ⟨Nat.lt_of_lt_of_le (by decide) h.1, h.2 59 (by decide)⟩
theorem s60 {z : aZ} (h : stZ z) : a_is z 60 20 40 := ⟨Nat.lt_of_lt_of_le (by decide) h.1, h.2 60 (by decide)⟩
theorem s61 {z : aZ} (h : stZ z) : a_is z 61 20 40 := ⟨Nat.lt_of_lt_of_le (by decide) h.1, h.2 61 (by decide)⟩
theorem s62 {z : aZ} (h : stZ z) : a_is z 62 22 40 := ⟨Nat.lt_of_lt_of_le (by decide) h.1, h.2 62 (by decide)⟩
theorem s63 {z : aZ} (h : stZ z) : a_is z 63 20 40 := ⟨Nat.lt_of_lt_of_le (by decide) h.1, h.2 63 (by decide)⟩
theorem s64 {z : aZ} (h : stZ z) : a_is z 64 20 300 := ⟨Nat.lt_of_lt_of_le (by decide) h.1, h.2 64 (by decide)⟩
theorem s65 {z : aZ} (h : stZ z) : a_is z 65 20 300 := ⟨Nat.lt_of_lt_of_le (by decide) h.1, h.2 65 (by decide)⟩
theorem s66 {z : aZ} (h : stZ z) : a_is z 66 20 300 := ⟨Nat.lt_of_lt_of_le (by decide) h.1, h.2 66 (by decide)⟩
theorem s67 {z : aZ} (h : stZ z) : a_is z 67 20 100 := ⟨Nat.lt_of_lt_of_le (by decide) h.1, h.2 67 (by decide)⟩
theorem s68 {z : aZ} (h : stZ z) : a_is z 68 20 100 := ⟨Nat.lt_of_lt_of_le (by decide) h.1, h.2 68 (by decide)⟩
theorem s69 {z : aZ} (h : stZ z) : a_is z 69 20 100 := ⟨Nat.lt_of_lt_of_le (by decide) h.1, h.2 69 (by decide)⟩
theorem s70 {z : aZ} (h : stZ z) : a_is z 70 20 8 := ⟨Nat.lt_of_lt_of_le (by decide) h.1, h.2 70 (by decide)⟩
theorem s71 {z : aZ} (h : stZ z) : a_is z 71 20 8 := ⟨Nat.lt_of_lt_of_le (by decide) h.1, h.2 71 (by decide)⟩
theorem s72 {z : aZ} (h : stZ z) : a_is z 72 20 8 := ⟨Nat.lt_of_lt_of_le (by decide) h.1, h.2 72 (by decide)⟩
theorem s73 {z : aZ} (h : stZ z) : a_is z 73 20 40 := ⟨Nat.lt_of_lt_of_le (by decide) h.1, h.2 73 (by decide)⟩
theorem s74 {z : aZ} (h : stZ z) : a_is z 74 20 8 := ⟨Nat.lt_of_lt_of_le (by decide) h.1, h.2 74 (by decide)⟩
theorem s75 {z : aZ} (h : stZ z) : a_is z 75 20 8 := ⟨Nat.lt_of_lt_of_le (by decide) h.1, h.2 75 (by decide)⟩
theorem s76 {z : aZ} (h : stZ z) : a_is z 76 20 8 := ⟨Nat.lt_of_lt_of_le (by decide) h.1, h.2 76 (by decide)⟩
theorem s77 {z : aZ} (h : stZ z) : a_is z 77 20 8 := ⟨Nat.lt_of_lt_of_le (by decide) h.1, h.2 77 (by decide)⟩
theorem s78 {z : aZ} (h : stZ z) : a_is z 78 20 400 := ⟨Nat.lt_of_lt_of_le (by decide) h.1, h.2 78 (by decide)⟩
theorem s79 {z : aZ} (h : stZ z) : a_is z 79 21 1 := ⟨Nat.lt_of_lt_of_le (by decide) h.1, h.2 79 (by decide)⟩
theorem s80 {z : aZ} (h : stZ z) : a_is z 80 20 320 := ⟨Nat.lt_of_lt_of_le (by decide) h.1, h.2 80 (by decide)⟩
theorem r0_0 {hr : aR} (h : stR hr) : hr 0 0 = some 1 := h (0, 0, 1) (by decide)
theorem r0_1 {hr : aR} (h : stR hr) : hr 0 1 = some 2 := h (0, 1, 2) (by decide)
theorem r3_0 {hr : aR} (h : stR hr) : hr 3 0 = some 4 := h (3, 0, 4) (by decide)
theorem r3_1 {hr : aR} (h : stR hr) : hr 3 1 = some 5 := h (3, 1, 5) (by decide)
theorem r3_2 {hr : aR} (h : stR hr) : hr 3 2 = some 6 := h (3, 2, 6) (by decide)
theorem r3_3 {hr : aR} (h : stR hr) : hr 3 3 = some 7 := h (3, 3, 7) (by decide)
theorem r3_4 {hr : aR} (h : stR hr) : hr 3 4 = some 8 := h (3, 4, 8) (by decide)
theorem r3_5 {hr : aR} (h : stR hr) : hr 3 5 = some 9 := h (3, 5, 9) (by decide)
theorem r0_2 {hr : aR} (h : stR hr) : hr 0 2 = some 3 := h (0, 2, 3) (by decide)
theorem r10_0 {hr : aR} (h : stR hr) : hr 10 0 = some 80 := h (10, 0, 80) (by decide)
theorem r10_1 {hr : aR} (h : stR hr) : hr 10 1 = some 11 := h (10, 1, 11) (by decide)
theorem r10_2 {hr : aR} (h : stR hr) : hr 10 2 = some 12 := h (10, 2, 12) (by decide)
theorem r10_3 {hr : aR} (h : stR hr) : hr 10 3 = some 13 := h (10, 3, 13) (by decide)
theorem r10_4 {hr : aR} (h : stR hr) : hr 10 4 = some 14 := h (10, 4, 14) (by decide)
theorem r0_3 {hr : aR} (h : stR hr) : hr 0 3 = some 10 := h (0, 3, 10) (by decide)
theorem r15_0 {hr : aR} (h : stR hr) : hr 15 0 = some 16 := h (15, 0, 16) (by decide)
theorem r0_4 {hr : aR} (h : stR hr) : hr 0 4 = some 15 := h (0, 4, 15) (by decide)
theorem r18_0 {hr : aR} (h : stR hr) : hr 18 0 = some 19 := h (18, 0, 19) (by decide)
theorem r18_1 {hr : aR} (h : stR hr) : hr 18 1 = some 20 := h (18, 1, 20) (by decide)
theorem r18_2 {hr : aR} (h : stR hr) : hr 18 2 = some 21 := h (18, 2, 21) (by decide)
theorem r17_0 {hr : aR} (h : stR hr) : hr 17 0 = some 18 := h (17, 0, 18) (by decide)
theorem r22_0 {hr : aR} (h : stR hr) : hr 22 0 = some 23 := h (22, 0, 23) (by decide)
theorem r22_1 {hr : aR} (h : stR hr) : hr 22 1 = some 24 := h (22, 1, 24) (by decide)
theorem r22_2 {hr : aR} (h : stR hr) : hr 22 2 = some 25 := h (22, 2, 25) (by decide)
theorem r22_3 {hr : aR} (h : stR hr) : hr 22 3 = some 26 := h (22, 3, 26) (by decide)
theorem r22_4 {hr : aR} (h : stR hr) : hr 22 4 = some 27 := h (22, 4, 27) (by decide)
theorem r0_5 {hr : aR} (h : stR hr) : hr 0 5 = some 17 := h (0, 5, 17) (by decide)
theorem r28_0 {hr : aR} (h : stR hr) : hr 28 0 = some 29 := h (28, 0, 29) (by decide)
theorem r0_6 {hr : aR} (h : stR hr) : hr 0 6 = some 28 := h (0, 6, 28) (by decide)
theorem r0_7 {hr : aR} (h : stR hr) : hr 0 7 = some 30 := h (0, 7, 30) (by decide)
theorem r31_0 {hr : aR} (h : stR hr) : hr 31 0 = some 32 := h (31, 0, 32) (by decide)
theorem r31_1 {hr : aR} (h : stR hr) : hr 31 1 = some 33 := h (31, 1, 33) (by decide)
theorem r31_2 {hr : aR} (h : stR hr) : hr 31 2 = some 34 := h (31, 2, 34) (by decide)
theorem r31_3 {hr : aR} (h : stR hr) : hr 31 3 = some 35 := h (31, 3, 35) (by decide)
theorem r31_4 {hr : aR} (h : stR hr) : hr 31 4 = some 36 := h (31, 4, 36) (by decide)
theorem r37_1 {hr : aR} (h : stR hr) : hr 37 1 = some 38 := h (37, 1, 38) (by decide)
theorem r37_4 {hr : aR} (h : stR hr) : hr 37 4 = some 39 := h (37, 4, 39) (by decide)
theorem r37_5 {hr : aR} (h : stR hr) : hr 37 5 = some 40 := h (37, 5, 40) (by decide)
theorem r37_6 {hr : aR} (h : stR hr) : hr 37 6 = some 41 := h (37, 6, 41) (by decide)
theorem r37_9 {hr : aR} (h : stR hr) : hr 37 9 = some 42 := h (37, 9, 42) (by decide)
theorem r37_10 {hr : aR} (h : stR hr) : hr 37 10 = some 43 := h (37, 10, 43) (by decide)
theorem r37_11 {hr : aR} (h : stR hr) : hr 37 11 = some 44 := h (37, 11, 44) (by decide)
theorem r37_12 {hr : aR} (h : stR hr) : hr 37 12 = some 45 := h (37, 12, 45) (by decide)
theorem r37_13 {hr : aR} (h : stR hr) : hr 37 13 = some 46 := h (37, 13, 46) (by decide)
theorem r37_14 {hr : aR} (h : stR hr) : hr 37 14 = some 47 := h (37, 14, 47) (by decide)
theorem r37_19 {hr : aR} (h : stR hr) : hr 37 19 = some 48 := h (37, 19, 48) (by decide)
theorem r37_20 {hr : aR} (h : stR hr) : hr 37 20 = some 49 := h (37, 20, 49) (by decide)
theorem r37_21 {hr : aR} (h : stR hr) : hr 37 21 = some 50 := h (37, 21, 50) (by decide)
theorem r37_22 {hr : aR} (h : stR hr) : hr 37 22 = some 51 := h (37, 22, 51) (by decide)
theorem r37_23 {hr : aR} (h : stR hr) : hr 37 23 = some 52 := h (37, 23, 52) (by decide)
theorem r37_26 {hr : aR} (h : stR hr) : hr 37 26 = some 53 := h (37, 26, 53) (by decide)
theorem r37_27 {hr : aR} (h : stR hr) : hr 37 27 = some 54 := h (37, 27, 54) (by decide)
theorem r37_28 {hr : aR} (h : stR hr) : hr 37 28 = some 55 := h (37, 28, 55) (by decide)
theorem r37_29 {hr : aR} (h : stR hr) : hr 37 29 = some 56 := h (37, 29, 56) (by decide)
theorem r37_30 {hr : aR} (h : stR hr) : hr 37 30 = some 57 := h (37, 30, 57) (by decide)
theorem r37_31 {hr : aR} (h : stR hr) : hr 37 31 = some 58 := h (37, 31, 58) (by decide)
theorem r37_32 {hr : aR} (h : stR hr) : hr 37 32 = some 59 := h (37, 32, 59) (by decide)
theorem r37_33 {hr : aR} (h : stR hr) : hr 37 33 = some 60 := h (37, 33, 60) (by decide)
theorem r37_34 {hr : aR} (h : stR hr) : hr 37 34 = some 61 := h (37, 34, 61) (by decide)
theorem r37_35 {hr : aR} (h : stR hr) : hr 37 35 = some 62 := h (37, 35, 62) (by decide)
theorem r37_36 {hr : aR} (h : stR hr) : hr 37 36 = some 63 := h (37, 36, 63) (by decide)
theorem r37_38 {hr : aR} (h : stR hr) : hr 37 38 = some 64 := h (37, 38, 64) (by decide)
theorem r37_39 {hr : aR} (h : stR hr) : hr 37 39 = some 65 := h (37, 39, 65) (by decide)
theorem r37_40 {hr : aR} (h : stR hr) : hr 37 40 = some 66 := h (37, 40, 66) (by decide)
theorem r37_42 {hr : aR} (h : stR hr) : hr 37 42 = some 67 := h (37, 42, 67) (by decide)
theorem r37_43 {hr : aR} (h : stR hr) : hr 37 43 = some 68 := h (37, 43, 68) (by decide)
theorem r37_44 {hr : aR} (h : stR hr) : hr 37 44 = some 69 := h (37, 44, 69) (by decide)
theorem r37_46 {hr : aR} (h : stR hr) : hr 37 46 = some 70 := h (37, 46, 70) (by decide)
theorem r37_47 {hr : aR} (h : stR hr) : hr 37 47 = some 71 := h (37, 47, 71) (by decide)
theorem r37_48 {hr : aR} (h : stR hr) : hr 37 48 = some 72 := h (37, 48, 72) (by decide)
theorem r37_49 {hr : aR} (h : stR hr) : hr 37 49 = some 73 := h (37, 49, 73) (by decide)
theorem r37_50 {hr : aR} (h : stR hr) : hr 37 50 = some 74 := h (37, 50, 74) (by decide)
theorem r37_51 {hr : aR} (h : stR hr) : hr 37 51 = some 75 := h (37, 51, 75) (by decide)
theorem r37_52 {hr : aR} (h : stR hr) : hr 37 52 = some 76 := h (37, 52, 76) (by decide)
theorem r37_53 {hr : aR} (h : stR hr) : hr 37 53 = some 77 := h (37, 53, 77) (by decide)
theorem r37_55 {hr : aR} (h : stR hr) : hr 37 55 = some 78 := h (37, 55, 78) (by decide)
theorem up2_eq {α : Type} (f : Nat → Int → α) (a b : Nat) (i j : Int) (v : α) : up2 f a i v b j = if b = a ∧ j = i then v else f b j := rfl
