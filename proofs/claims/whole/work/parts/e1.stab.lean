/-! what the start gives: the predicate gX of the walk, and that it stands while the walk goes on *) -/
def X_N (U : State) : Prop := va_Nw (.methodLinkNest RX3 65 yX9_within "BedBook") U ∧ va_Nw (.methodLinkNest RX7 15 yX9_within "BedBook") U ∧ va_Nw (.methodLinkNest RX6 19 yX9_within "BedBook") U ∧ va_Nw (.methodLinkNest RX9 23 yX2_init "BedBook") U ∧ va_Nw (.methodLinkNest RX9 37 yX7_init "BedBook") U ∧ va_Nw (.methodLinkNest RX9 44 yX4_init "BedBook") U ∧ va_Nw (.methodLinkNest RX4 11 yX8_init "BedBook") U ∧ va_Nw (.methodLinkNest RX4 20 yX5_init "BedBook") U ∧ va_Nw (.methodLinkNest RX9 51 yX6_init "BedBook") U ∧ va_Nw (.methodLinkNest RX9 62 yX5_init "BedBook") U ∧ va_Nw (.methodLinkNest RX9 30 yX1_init "BedBook") U
def X_S (E : Nat → Nat) (B : Nat) (vq : Option Nat) (U : State) : Prop := vk_S 11 jLen jByt (fun i => E i) (fun i => E (100 + i)) (fun q => B ≤ q) U U.heap ∧ va_Z "java/lang/String" "COMPACT_STRINGS" "Z" (.int 1) (fun q => B ≤ q) U U.heap ∧ va_Z "jdk/internal/util/Preconditions" "SIOOBE_FORMATTER" "Ljava/util/function/BiFunction;" (va_rf vq) (fun q => B ≤ q) U U.heap ∧ ∀ i : Nat, ∀ x : String × Nat × String, jK[i]? = some x → vk_R x.1 x.2.1 x.2.2 (E i) U
def X_T (B : Nat) (U : State) : Prop := vx_Zq Bundle.tN "UNASSIGNED_STACK" Bundle.steD (fun q => B ≤ q) U U.heap ∧ vx_Zq Bundle.tN "SUPPRESSED_SENTINEL" Bundle.listD (fun q => B ≤ q) U U.heap ∧ ∀ w ∈ lw_tbl, w.faceAtom = true → ∀ a : Array Value, w.before a U = true
def X_A (U : State) : Prop := va_AO (a_Rn 3) U ∧ va_AO (a_Rn 0) U
def X_L (E : Nat → Nat) (B N : Nat) (xs : Nat → Int32) (U : State) : Prop := va_T .int (E 500) N (fun j => .int (xs j)) (fun q => B ≤ q) U U.heap
def X_G (E : Nat → Nat) (B : Nat) (vq : Option Nat) (N : Nat) (xs : Nat → Int32) (U : State) : Prop := X_N U ∧ X_S E B vq U ∧ X_T B U ∧ X_A U ∧ X_L E B N xs U
theorem face_tab {w : Cond} (h : w.faceAtom = true) : w.onTables = true := by
  cases w <;> first | rfl | (simp [Cond.faceAtom] at h)
theorem X_G_st {E : Nat → Nat} {B : Nat} {vq : Option Nat} {N : Nat} {xs : Nat → Int32} {s U : State} (hW : s.WarmedH U.vm) (hq : ∀ q, q < B → U.heap[q]? = s.heap[q]?) (h : X_G E B vq N xs s) : X_G E B vq N xs U := by
  obtain ⟨⟨n0, n1, n2, n3, n4, n5, n6, n7, n8, n9, n10⟩, ⟨s1, s2, s3, s4⟩, ⟨t1, t2, t3⟩, ⟨a1, a2⟩, l1⟩ := h
  have hk : ∀ a : Nat, a < s.heap.size → ¬ (fun q => B ≤ q) a → U.heap[a]? = s.heap[a]? := fun a _ hb => hq a (Nat.lt_of_not_le hb)
  have al := hW.alike
  refine ⟨⟨va_Nw.warmM hW n0, va_Nw.warmM hW n1, va_Nw.warmM hW n2, va_Nw.warmM hW n3, va_Nw.warmM hW n4, va_Nw.warmM hW n5, va_Nw.warmM hW n6, va_Nw.warmM hW n7, va_Nw.warmM hW n8, va_Nw.warmM hW n9, va_Nw.warmM hW n10⟩, ⟨vk_S.moved al (s1.kept hk), va_Z.moved al (s2.kept hk), va_Z.moved al (s3.kept hk), fun i x hx => vk_R.warm hW (s4 i x hx)⟩, ⟨vx_Zq.moved al (t1.kept hk), vx_Zq.moved al (t2.kept hk), fun w hw hf a => ?_⟩, ⟨va_AO.moved al a1, va_AO.moved al a2⟩, va_T.moved al (va_T.kept l1 hk)⟩
  exact va_tabs (face_tab hf) (rfl : (s.setVm U.vm).vm = U.vm) (Cond.faceAtom_setVm al w hf (t3 w hw hf #[]))
def jTm (i : Nat) : Term := .string "BedBook$Tokens" ([60, 66, 68, 70, 72, 74, 76, 78, 80, 82, 84].getD i 0)
abbrev jF : List Cond := flatC (Jvm.Cond.and given_1 narrow_1)
set_option maxRecDepth 100000 in
theorem j_ex : ∀ i, i < 11 → Cond.exactly (jTm i) "java/lang/String" ∈ jF := by decide +kernel
set_option maxRecDepth 100000 in
theorem j_co : ∀ i, i < 11 → Cond.eq (.field (jTm i) "java/lang/String" "coder" "B") (.int 0) ∈ jF := by decide +kernel
set_option maxRecDepth 100000 in
theorem j_ar : ∀ i, i < 11 → Cond.arrayOf (.field (jTm i) "java/lang/String" "value" "[B") .byte ∈ jF := by decide +kernel
set_option maxRecDepth 100000 in
theorem j_le : ∀ i, i < 11 → Cond.eq (.length (.field (jTm i) "java/lang/String" "value" "[B")) (.int (Int32.ofNat (jLen.getD i 0))) ∈ jF := by decide +kernel
set_option maxRecDepth 100000 in
theorem j_el : ∀ i, i < 11 → ∀ j, j < jLen.getD i 0 → Cond.eq (.elem (.field (jTm i) "java/lang/String" "value" "[B") (.int (Int32.ofNat j))) (.int ((jByt.getD i []).getD j 0)) ∈ jF := by decide +kernel
set_option maxRecDepth 100000 in
theorem j_ne : ∀ i, i < 11 → ∀ j, j < 11 → i ≠ j → Cond.not (Cond.eq (jTm i) (jTm j)) ∈ jF ∨ Cond.not (Cond.eq (jTm j) (jTm i)) ∈ jF := by decide +kernel
set_option maxRecDepth 100000 in
theorem j_ll : ∀ i, i < 11 → jLen.getD i 0 < 2 ^ 31 := by decide +kernel
set_option maxRecDepth 100000 in
theorem j_in : ∀ t, t < 11 → Cond.instantiable (a_Rn t) (a_nf t) ∈ lw_tbl := by decide +kernel
