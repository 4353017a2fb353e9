/-! the JDK's own methods that the class calls: names, rows of the tables, decode rows (begun from the claim's printed names) -/
def yJ_len : MethodName := ⟨"java/lang/String", "length", "()I"⟩
def mJ_len : aM := (yJ_len, prog_16_method_54_code, 1, (some .int))
def yJ_chr : MethodName := ⟨"java/lang/String", "charAt", "(I)C"⟩
def mJ_chr : aM := (yJ_chr, prog_16_method_56_code, 2, (some .char))
def yJ_cod : MethodName := ⟨"java/lang/String", "coder", "()B"⟩
def mJ_cod : aM := (yJ_cod, prog_16_method_152_code, 1, (some .byte))
def yJ_lat : MethodName := ⟨"java/lang/String", "isLatin1", "()Z"⟩
def mJ_lat : aM := (yJ_lat, prog_16_method_154_code, 1, (some .boolean))
def yJ_chk : MethodName := ⟨"java/lang/String", "checkIndex", "(II)V"⟩
def mJ_chk : aM := (yJ_chk, prog_16_method_155_code, 2, none)
def yJ_lch : MethodName := ⟨"java/lang/StringLatin1", "charAt", "([BI)C"⟩
def mJ_lch : aM := (yJ_lch, prog_17_method_2_code, 2, (some .char))
def yJ_pre : MethodName := ⟨"jdk/internal/util/Preconditions", "checkIndex", "(IILjava/util/function/BiFunction;)I"⟩
def mJ_pre : aM := (yJ_pre, prog_22_method_11_code, 3, (some .int))
def yJ_max : MethodName := ⟨"java/lang/Math", "max", "(II)I"⟩
def mJ_max : aM := (yJ_max, prog_14_method_65_code, 2, (some .int))
def yJ_min : MethodName := ⟨"java/lang/Math", "min", "(II)I"⟩
def mJ_min : aM := (yJ_min, prog_14_method_69_code, 2, (some .int))
set_option maxRecDepth 100000 in
theorem kJ_len : a_Ok mJ_len 0 := ⟨List.mem_append_right _ (List.mem_of_getElem? (i := 540) rfl), List.mem_append_right _ (List.mem_of_getElem? (i := 18) (by decide +kernel)), ⟨by decide, by decide⟩, by decide +kernel, by decide⟩
theorem iJ_len : Cond.instanceMethod yJ_len ∈ lw_tbl := List.mem_append_right _ (List.mem_of_getElem? (i := 538) (by decide +kernel))
theorem eJ_len : Cond.selects "java/lang/String" yJ_len yJ_len ∈ lw_tbl := List.mem_append_right _ (List.mem_of_getElem? (i := 539) (by decide +kernel))
set_option maxRecDepth 100000 in
theorem kJ_chr : a_Ok mJ_chr 1 := ⟨List.mem_append_right _ (List.mem_of_getElem? (i := 550) rfl), List.mem_append_right _ (List.mem_of_getElem? (i := 18) (by decide +kernel)), ⟨by decide, by decide⟩, by decide +kernel, by decide⟩
theorem iJ_chr : Cond.instanceMethod yJ_chr ∈ lw_tbl := List.mem_append_right _ (List.mem_of_getElem? (i := 548) (by decide +kernel))
theorem eJ_chr : Cond.selects "java/lang/String" yJ_chr yJ_chr ∈ lw_tbl := List.mem_append_right _ (List.mem_of_getElem? (i := 549) (by decide +kernel))
set_option maxRecDepth 100000 in
theorem kJ_cod : a_Ok mJ_cod 0 := ⟨List.mem_append_right _ (List.mem_of_getElem? (i := 544) rfl), List.mem_append_right _ (List.mem_of_getElem? (i := 18) (by decide +kernel)), ⟨by decide, by decide⟩, by decide +kernel, by decide⟩
theorem iJ_cod : Cond.instanceMethod yJ_cod ∈ lw_tbl := List.mem_append_right _ (List.mem_of_getElem? (i := 542) (by decide +kernel))
theorem eJ_cod : Cond.selects "java/lang/String" yJ_cod yJ_cod ∈ lw_tbl := List.mem_append_right _ (List.mem_of_getElem? (i := 543) (by decide +kernel))
set_option maxRecDepth 100000 in
theorem kJ_lat : a_Ok mJ_lat 0 := ⟨List.mem_append_right _ (List.mem_of_getElem? (i := 554) rfl), List.mem_append_right _ (List.mem_of_getElem? (i := 18) (by decide +kernel)), ⟨by decide, by decide⟩, by decide +kernel, by decide⟩
theorem iJ_lat : Cond.instanceMethod yJ_lat ∈ lw_tbl := List.mem_append_right _ (List.mem_of_getElem? (i := 552) (by decide +kernel))
theorem eJ_lat : Cond.selects "java/lang/String" yJ_lat yJ_lat ∈ lw_tbl := List.mem_append_right _ (List.mem_of_getElem? (i := 553) (by decide +kernel))
set_option maxRecDepth 100000 in
theorem kJ_chk : a_Ok mJ_chk 2 := ⟨List.mem_append_right _ (List.mem_of_getElem? (i := 560) rfl), List.mem_append_right _ (List.mem_of_getElem? (i := 18) (by decide +kernel)), ⟨by decide, by decide⟩, by decide +kernel, by decide⟩
theorem sJ_chk : Cond.static yJ_chk ∈ lw_tbl := List.mem_append_right _ (List.mem_of_getElem? (i := 559) (by decide +kernel))
set_option maxRecDepth 100000 in
theorem kJ_lch : a_Ok mJ_lch 2 := ⟨List.mem_append_right _ (List.mem_of_getElem? (i := 557) rfl), List.mem_append_right _ (List.mem_of_getElem? (i := 19) (by decide +kernel)), ⟨by decide, by decide⟩, by decide +kernel, by decide⟩
theorem sJ_lch : Cond.static yJ_lch ∈ lw_tbl := List.mem_append_right _ (List.mem_of_getElem? (i := 556) (by decide +kernel))
set_option maxRecDepth 100000 in
theorem kJ_pre : a_Ok mJ_pre 3 := ⟨List.mem_append_right _ (List.mem_of_getElem? (i := 565) rfl), List.mem_append_right _ (List.mem_of_getElem? (i := 20) (by decide +kernel)), ⟨by decide, by decide⟩, by decide +kernel, by decide⟩
theorem sJ_pre : Cond.static yJ_pre ∈ lw_tbl := List.mem_append_right _ (List.mem_of_getElem? (i := 564) (by decide +kernel))
set_option maxRecDepth 100000 in
theorem kJ_max : a_Ok mJ_max 2 := ⟨List.mem_append_right _ (List.mem_of_getElem? (i := 370) rfl), List.mem_append_right _ (List.mem_of_getElem? (i := 12) (by decide +kernel)), ⟨by decide, by decide⟩, by decide +kernel, by decide⟩
theorem sJ_max : Cond.static yJ_max ∈ lw_tbl := List.mem_append_right _ (List.mem_of_getElem? (i := 369) (by decide +kernel))
set_option maxRecDepth 100000 in
theorem kJ_min : a_Ok mJ_min 2 := ⟨List.mem_append_right _ (List.mem_of_getElem? (i := 367) rfl), List.mem_append_right _ (List.mem_of_getElem? (i := 12) (by decide +kernel)), ⟨by decide, by decide⟩, by decide +kernel, by decide⟩
theorem sJ_min : Cond.static yJ_min ∈ lw_tbl := List.mem_append_right _ (List.mem_of_getElem? (i := 366) (by decide +kernel))
theorem lX7_23 : Cond.methodLink RX7 23 yJ_len ∈ lw_tbl := List.mem_append_right _ (List.mem_of_getElem? (i := 537) (by decide +kernel))
theorem lX7_28 : Cond.methodLink RX7 28 yJ_chr ∈ lw_tbl := List.mem_append_right _ (List.mem_of_getElem? (i := 547) (by decide +kernel))
theorem lJ_335 : Cond.methodLink "java/lang/String" 335 yJ_cod ∈ lw_tbl := List.mem_append_right _ (List.mem_of_getElem? (i := 541) (by decide +kernel))
theorem lJ_492 : Cond.methodLink "java/lang/String" 492 yJ_lat ∈ lw_tbl := List.mem_append_right _ (List.mem_of_getElem? (i := 551) (by decide +kernel))
theorem lJ_495 : Cond.methodLink "java/lang/String" 495 yJ_lch ∈ lw_tbl := List.mem_append_right _ (List.mem_of_getElem? (i := 555) (by decide +kernel))
theorem lJ_9 : Cond.methodLink "java/lang/StringLatin1" 9 yJ_chk ∈ lw_tbl := List.mem_append_right _ (List.mem_of_getElem? (i := 558) (by decide +kernel))
theorem lJ_1059 : Cond.methodLink "java/lang/String" 1059 yJ_pre ∈ lw_tbl := List.mem_append_right _ (List.mem_of_getElem? (i := 563) (by decide +kernel))
theorem lX9_102 : Cond.methodLink RX9 102 yJ_min ∈ lw_tbl := List.mem_append_right _ (List.mem_of_getElem? (i := 365) (by decide +kernel))
theorem lX9_108 : Cond.methodLink RX9 108 yJ_max ∈ lw_tbl := List.mem_append_right _ (List.mem_of_getElem? (i := 368) (by decide +kernel))
theorem fJ_38 : Cond.fieldLink "java/lang/String" 38 "java/lang/String" "COMPACT_STRINGS" "Z" ∈ lw_tbl := List.mem_append_right _ (List.mem_of_getElem? (i := 545) (by decide +kernel))
theorem fJ_9 : Cond.fieldLink "java/lang/String" 9 "java/lang/String" "value" "[B" ∈ lw_tbl := List.mem_append_right _ (List.mem_of_getElem? (i := 1322) (by decide +kernel))
theorem fJ_15 : Cond.fieldLink "java/lang/String" 15 "java/lang/String" "coder" "B" ∈ lw_tbl := List.mem_append_right _ (List.mem_of_getElem? (i := 1323) (by decide +kernel))
theorem fJ_1053 : Cond.fieldLink "java/lang/String" 1053 "jdk/internal/util/Preconditions" "SIOOBE_FORMATTER" "Ljava/util/function/BiFunction;" ∈ lw_tbl := List.mem_append_right _ (List.mem_of_getElem? (i := 561) (by decide +kernel))
theorem dJ_max_0 : decode prog_14_method_65_code 0 = .ok (.iload_n 0, 1) := by decide +kernel
theorem dJ_max_1 : decode prog_14_method_65_code 1 = .ok (.iload_n 1, 1) := by decide +kernel
theorem dJ_max_2 : decode prog_14_method_65_code 2 = .ok (.if_icmp .lt 7, 3) := by decide +kernel
theorem dJ_max_5 : decode prog_14_method_65_code 5 = .ok (.iload_n 0, 1) := by decide +kernel
theorem dJ_max_6 : decode prog_14_method_65_code 6 = .ok (.goto 4, 3) := by decide +kernel
theorem dJ_max_9 : decode prog_14_method_65_code 9 = .ok (.iload_n 1, 1) := by decide +kernel
theorem dJ_max_10 : decode prog_14_method_65_code 10 = .ok (.ireturn, 1) := by decide +kernel
theorem dJ_min_0 : decode prog_14_method_69_code 0 = .ok (.iload_n 0, 1) := by decide +kernel
theorem dJ_min_1 : decode prog_14_method_69_code 1 = .ok (.iload_n 1, 1) := by decide +kernel
theorem dJ_min_2 : decode prog_14_method_69_code 2 = .ok (.if_icmp .gt 7, 3) := by decide +kernel
theorem dJ_min_5 : decode prog_14_method_69_code 5 = .ok (.iload_n 0, 1) := by decide +kernel
theorem dJ_min_6 : decode prog_14_method_69_code 6 = .ok (.goto 4, 3) := by decide +kernel
theorem dJ_min_9 : decode prog_14_method_69_code 9 = .ok (.iload_n 1, 1) := by decide +kernel
theorem dJ_min_10 : decode prog_14_method_69_code 10 = .ok (.ireturn, 1) := by decide +kernel
theorem dJ_len_0 : decode prog_16_method_54_code 0 = .ok (.aload_n 0, 1) := by decide +kernel
theorem dJ_len_1 : decode prog_16_method_54_code 1 = .ok (.getfield 9, 3) := by decide +kernel
theorem dJ_len_4 : decode prog_16_method_54_code 4 = .ok (.arraylength, 1) := by decide +kernel
theorem dJ_len_5 : decode prog_16_method_54_code 5 = .ok (.aload_n 0, 1) := by decide +kernel
theorem dJ_len_6 : decode prog_16_method_54_code 6 = .ok (.invokevirtual 335, 3) := by decide +kernel
theorem dJ_len_9 : decode prog_16_method_54_code 9 = .ok (.ishr, 1) := by decide +kernel
theorem dJ_len_10 : decode prog_16_method_54_code 10 = .ok (.ireturn, 1) := by decide +kernel
theorem dJ_chr_0 : decode prog_16_method_56_code 0 = .ok (.aload_n 0, 1) := by decide +kernel
theorem dJ_chr_1 : decode prog_16_method_56_code 1 = .ok (.invokevirtual 492, 3) := by decide +kernel
theorem dJ_chr_4 : decode prog_16_method_56_code 4 = .ok (.ifCond .eq 12, 3) := by decide +kernel
theorem dJ_chr_7 : decode prog_16_method_56_code 7 = .ok (.aload_n 0, 1) := by decide +kernel
theorem dJ_chr_8 : decode prog_16_method_56_code 8 = .ok (.getfield 9, 3) := by decide +kernel
theorem dJ_chr_11 : decode prog_16_method_56_code 11 = .ok (.iload_n 1, 1) := by decide +kernel
theorem dJ_chr_12 : decode prog_16_method_56_code 12 = .ok (.invokestatic 495, 3) := by decide +kernel
theorem dJ_chr_15 : decode prog_16_method_56_code 15 = .ok (.ireturn, 1) := by decide +kernel
theorem dJ_chr_16 : decode prog_16_method_56_code 16 = .ok (.aload_n 0, 1) := by decide +kernel
theorem dJ_chr_17 : decode prog_16_method_56_code 17 = .ok (.getfield 9, 3) := by decide +kernel
theorem dJ_chr_20 : decode prog_16_method_56_code 20 = .ok (.iload_n 1, 1) := by decide +kernel
theorem dJ_chr_21 : decode prog_16_method_56_code 21 = .ok (.invokestatic 498, 3) := by decide +kernel
theorem dJ_chr_24 : decode prog_16_method_56_code 24 = .ok (.ireturn, 1) := by decide +kernel
theorem dJ_cod_0 : decode prog_16_method_152_code 0 = .ok (.getstatic 38, 3) := by decide +kernel
theorem dJ_cod_3 : decode prog_16_method_152_code 3 = .ok (.ifCond .eq 10, 3) := by decide +kernel
theorem dJ_cod_6 : decode prog_16_method_152_code 6 = .ok (.aload_n 0, 1) := by decide +kernel
theorem dJ_cod_7 : decode prog_16_method_152_code 7 = .ok (.getfield 15, 3) := by decide +kernel
theorem dJ_cod_10 : decode prog_16_method_152_code 10 = .ok (.goto 4, 3) := by decide +kernel
theorem dJ_cod_13 : decode prog_16_method_152_code 13 = .ok (.iconst 1, 1) := by decide +kernel
theorem dJ_cod_14 : decode prog_16_method_152_code 14 = .ok (.ireturn, 1) := by decide +kernel
theorem dJ_lat_0 : decode prog_16_method_154_code 0 = .ok (.getstatic 38, 3) := by decide +kernel
theorem dJ_lat_3 : decode prog_16_method_154_code 3 = .ok (.ifCond .eq 14, 3) := by decide +kernel
theorem dJ_lat_6 : decode prog_16_method_154_code 6 = .ok (.aload_n 0, 1) := by decide +kernel
theorem dJ_lat_7 : decode prog_16_method_154_code 7 = .ok (.getfield 15, 3) := by decide +kernel
theorem dJ_lat_10 : decode prog_16_method_154_code 10 = .ok (.ifCond .ne 7, 3) := by decide +kernel
theorem dJ_lat_13 : decode prog_16_method_154_code 13 = .ok (.iconst 1, 1) := by decide +kernel
theorem dJ_lat_14 : decode prog_16_method_154_code 14 = .ok (.goto 4, 3) := by decide +kernel
theorem dJ_lat_17 : decode prog_16_method_154_code 17 = .ok (.iconst 0, 1) := by decide +kernel
theorem dJ_lat_18 : decode prog_16_method_154_code 18 = .ok (.ireturn, 1) := by decide +kernel
theorem dJ_chk_0 : decode prog_16_method_155_code 0 = .ok (.iload_n 0, 1) := by decide +kernel
theorem dJ_chk_1 : decode prog_16_method_155_code 1 = .ok (.iload_n 1, 1) := by decide +kernel
theorem dJ_chk_2 : decode prog_16_method_155_code 2 = .ok (.getstatic 1053, 3) := by decide +kernel
theorem dJ_chk_5 : decode prog_16_method_155_code 5 = .ok (.invokestatic 1059, 3) := by decide +kernel
theorem dJ_chk_8 : decode prog_16_method_155_code 8 = .ok (.pop, 1) := by decide +kernel
theorem dJ_chk_9 : decode prog_16_method_155_code 9 = .ok (.return_, 1) := by decide +kernel
theorem dJ_lch_0 : decode prog_17_method_2_code 0 = .ok (.iload_n 1, 1) := by decide +kernel
theorem dJ_lch_1 : decode prog_17_method_2_code 1 = .ok (.aload_n 0, 1) := by decide +kernel
theorem dJ_lch_2 : decode prog_17_method_2_code 2 = .ok (.arraylength, 1) := by decide +kernel
theorem dJ_lch_3 : decode prog_17_method_2_code 3 = .ok (.invokestatic 9, 3) := by decide +kernel
theorem dJ_lch_6 : decode prog_17_method_2_code 6 = .ok (.aload_n 0, 1) := by decide +kernel
theorem dJ_lch_7 : decode prog_17_method_2_code 7 = .ok (.iload_n 1, 1) := by decide +kernel
theorem dJ_lch_8 : decode prog_17_method_2_code 8 = .ok (.baload, 1) := by decide +kernel
theorem dJ_lch_9 : decode prog_17_method_2_code 9 = .ok (.sipush 255, 3) := by decide +kernel
theorem dJ_lch_12 : decode prog_17_method_2_code 12 = .ok (.iand, 1) := by decide +kernel
theorem dJ_lch_13 : decode prog_17_method_2_code 13 = .ok (.i2c, 1) := by decide +kernel
theorem dJ_lch_14 : decode prog_17_method_2_code 14 = .ok (.ireturn, 1) := by decide +kernel
theorem dJ_pre_0 : decode prog_22_method_11_code 0 = .ok (.iload_n 0, 1) := by decide +kernel
theorem dJ_pre_1 : decode prog_22_method_11_code 1 = .ok (.ifCond .lt 8, 3) := by decide +kernel
theorem dJ_pre_4 : decode prog_22_method_11_code 4 = .ok (.iload_n 0, 1) := by decide +kernel
theorem dJ_pre_5 : decode prog_22_method_11_code 5 = .ok (.iload_n 1, 1) := by decide +kernel
theorem dJ_pre_6 : decode prog_22_method_11_code 6 = .ok (.if_icmp .lt 10, 3) := by decide +kernel
theorem dJ_pre_9 : decode prog_22_method_11_code 9 = .ok (.aload_n 2, 1) := by decide +kernel
theorem dJ_pre_10 : decode prog_22_method_11_code 10 = .ok (.iload_n 0, 1) := by decide +kernel
theorem dJ_pre_11 : decode prog_22_method_11_code 11 = .ok (.iload_n 1, 1) := by decide +kernel
theorem dJ_pre_12 : decode prog_22_method_11_code 12 = .ok (.invokestatic 95, 3) := by decide +kernel
theorem dJ_pre_15 : decode prog_22_method_11_code 15 = .ok (.athrow, 1) := by decide +kernel
theorem dJ_pre_16 : decode prog_22_method_11_code 16 = .ok (.iload_n 0, 1) := by decide +kernel
theorem dJ_pre_17 : decode prog_22_method_11_code 17 = .ok (.ireturn, 1) := by decide +kernel
def jByt : List (List Int32) := [[112, 108, 97, 99, 101], [110, 97, 109, 101], [104, 111, 117, 115, 101], [97, 105, 109], [99, 117, 116], [112, 105, 101, 99, 101, 115], [100, 97, 121], [97, 110, 100], [108, 101, 116], [98, 97, 114], [119, 104, 101, 110]]
def jLen : List Nat := [5, 4, 5, 3, 3, 6, 3, 3, 3, 3, 4]
/-- the word i, as whole numbers -/
def jW (i : Nat) : List Int := ([[112, 108, 97, 99, 101], [110, 97, 109, 101], [104, 111, 117, 115, 101], [97, 105, 109], [99, 117, 116], [112, 105, 101, 99, 101, 115], [100, 97, 121], [97, 110, 100], [108, 101, 116], [98, 97, 114], [119, 104, 101, 110]] : List (List Int)).getD i []
def jK : List (String × Nat × String) := [("BedBook$Tokens", 60, "place"), ("BedBook$Tokens", 66, "name"), ("BedBook$Tokens", 68, "house"), ("BedBook$Tokens", 70, "aim"), ("BedBook$Tokens", 72, "cut"), ("BedBook$Tokens", 74, "pieces"), ("BedBook$Tokens", 76, "day"), ("BedBook$Tokens", 78, "and"), ("BedBook$Tokens", 80, "let"), ("BedBook$Tokens", 82, "bar"), ("BedBook$Tokens", 84, "when"), ("BedBook", 122, "no such plant, day or kind of name"), ("BedBook", 233, "no such plant or thing to look at")]
/-- what the start knows of Strings: the cells 1000000000 + i are the class's constants, 1000000100 + i their bytes -/
def gS (G : aG) : Prop := (∀ U, gX G U → vk_S 11 jLen jByt (fun i => gE G i) (fun i => gE G (100 + i)) (fun q => gb G ≤ q) U U.heap) ∧ (∀ U, gX G U → va_Z "java/lang/String" "COMPACT_STRINGS" "Z" (.int 1) (fun q => gb G ≤ q) U U.heap) ∧ (∃ v₀ : Option Nat, ∀ U, gX G U → va_Z "jdk/internal/util/Preconditions" "SIOOBE_FORMATTER" "Ljava/util/function/BiFunction;" (va_rf (v₀.map (a_ca G))) (fun q => gb G ≤ q) U U.heap) ∧ ∀ U, gX G U → ∀ i : Nat, ∀ x : String × Nat × String, jK[i]? = some x → vk_R x.1 x.2.1 x.2.2 (gE G i) U
section J
variable {G : aG} {M : aM} {d pc n : Nat} {L : List (Option aV)} {st : List aV} {z : aZ} {hr : aR} {hi hl : aI} {Q : Option aV → aZ → aR → aI → aI → Prop}
theorem a_gets {idx : Nat} {C fn fd : String} {v : aV} (hd : decode M.2.1 pc = .ok (.getstatic idx, 3)) (hn : pc + 3 = n) (hlink : Cond.fieldLink M.1.cls idx C fn fd ∈ lw_tbl) (hZ : ∀ U, gX G U → va_Z C fn fd (a_cv G v) (fun q => gb G ≤ q) U U.heap) (hok : a_ok v) (k : a_wp G M d n L (v :: st) z hr hi hl Q) : a_wp G M d pc L st z hr hi hl Q := by
  subst hn
  refine a_go k (fun hL hs _ _ => okS_c hok hs) (fun hL hS p e R s m args below meth c H locs cells slots ls Q0 B kk => ?_)
  exact va_gets B.1.1 B.1.2.1 (hZ s B.2.2.2.2.2.2.1.2) B.2.2.2.2.2.2.2.1 B.1.2.2.2.1 (B.1.2.2.2.2.1 _ hlink rfl) (fun _ h => h) hd kk
theorem a_getX {idx a : Nat} {C fn fd : String} {v : aV} (hd : decode M.2.1 pc = .ok (.getfield idx, 3)) (hn : pc + 3 = n) (hlink : Cond.fieldLink M.1.cls idx C fn fd ∈ lw_tbl) (hZ : ∀ U, gX G U → va_OF C fn fd (a_cv G v) (a_ca G a) (fun q => gb G ≤ q) U U.heap) (hok : a_ok v) (k : a_wp G M d n L (v :: st) z hr hi hl Q) : a_wp G M d pc L (vR a :: st) z hr hi hl Q := by
  subst hn
  refine a_go k (fun hL hs _ _ => okS_c hok (okS_t hs)) (fun hL hS p e R s m args below meth c H locs cells slots ls Q0 B kk => ?_)
  exact vk_getf B.1.1 B.1.2.1 (hZ s B.2.2.2.2.2.2.1.2) B.2.2.2.2.2.2.2.1 B.1.2.2.2.1 (B.1.2.2.2.2.1 _ hlink rfl) (fun _ h => h) hd kk
theorem a_alenX {a N : Nat} {f : Nat → Value} (hd : decode M.2.1 pc = .ok (.arraylength, 1)) (hn : pc + 1 = n) (hT : ∀ U, gX G U → va_T .byte (a_ca G a) N f (fun q => gb G ≤ q) U U.heap) (hN : N < 1000) (k : a_wp G M d n L (vI N :: st) z hr hi hl Q) : a_wp G M d pc L (vR a :: st) z hr hi hl Q := by
  subst hn
  refine a_go k (fun hL hs _ _ => okS_c (show r32 (N : Int) from ⟨by omega, by omega⟩) (okS_t hs)) (fun hL hS p e R s m args below meth c H locs cells slots ls Q0 B kk => ?_)
  exact va_tlen (v := Int32.ofInt N) B.1.1 B.1.2.1 (hT s B.2.2.2.2.2.2.1.2) B.2.2.2.2.2.2.2.1 (Int32.ofInt_eq_ofNat).symm hd kk
theorem a_baldX {a N : Nat} {f : Nat → Int32} {i : Int} (hd : decode M.2.1 pc = .ok (.baload, 1)) (hn : pc + 1 = n) (hT : ∀ U, gX G U → va_T .byte (a_ca G a) N (fun j => .int (f j)) (fun q => gb G ≤ q) U U.heap) (h0 : 0 ≤ i) (h1 : i < N) (k : a_wp G M d n L (vI (f i.toNat).toInt :: st) z hr hi hl Q) : a_wp G M d pc L (vI i :: vR a :: st) z hr hi hl Q := by
  subst hn
  refine a_go k (fun hL hs _ _ => okS_c (show r32 _ from r32_of _) (okS_t (okS_t hs))) (fun hL hS p e R s m args below meth c H locs cells slots ls Q0 B kk => ?_)
  have hi0 := okI' (okS_h hS)
  refine va_tb (v := .int (f i.toNat)) B.1.1 B.1.2.1 (hT s B.2.2.2.2.2.2.1.2) B.2.2.2.2.2.2.2.1 (i := Int32.ofInt i) (fun q => ?_) (by show Value.int (f (Int32.ofInt i).toNatClampNeg) = _; rw [a_cl hi0]) hd ?_
  · rcases q with q | q
    · rw [a_lt0 hi0] at q; omega
    · rw [a_cl hi0] at q; omega
  · have h9 := kk
    rw [List.map_cons, show a_cv G (vI (f i.toNat).toInt) = .int (f i.toNat) from by show Value.int (Int32.ofInt (f i.toNat).toInt) = _; rw [a_ofI]] at h9
    exact h9
theorem a_ishr0 {x : Int} (hd : decode M.2.1 pc = .ok (.ishr, 1)) (hn : pc + 1 = n) (k : a_wp G M d n L (vI x :: st) z hr hi hl Q) : a_wp G M d pc L (vI 0 :: vI x :: st) z hr hi hl Q := by
  subst hn
  refine a_go k (fun hL hs _ _ => okS_t hs) (fun hL hS p e R s m args below meth c H locs cells slots ls Q0 B kk => ?_)
  refine lv_ishr (x := Int32.ofInt x) (y := 0) B.1.1 B.1.2.1 hd ?_
  rw [show (0 : Int32) &&& 31 = 0 from by decide, Int32.shiftRight_zero]
  exact kk
theorem a_i2c {x : Int} (hd : decode M.2.1 pc = .ok (.i2c, 1)) (hn : pc + 1 = n) (h0 : ((Int32.ofInt x).toUInt32 % 65536).toInt32 = Int32.ofInt x) (k : a_wp G M d n L (vI x :: st) z hr hi hl Q) : a_wp G M d pc L (vI x :: st) z hr hi hl Q := by
  subst hn
  refine a_go k (fun hL hs _ _ => hs) (fun hL hS p e R s m args below meth c H locs cells slots ls Q0 B kk => ?_)
  exact lv_i2c (v := Int32.ofInt x) B.1.1 B.1.2.1 hd h0 kk
theorem a_treturn {x : Int} {ty : FieldType} (hd : decode M.2.1 pc = .ok (.ireturn, 1)) (hr0 : M.2.2.2 = some ty) (hx : narrow ty (.int (Int32.ofInt x)) = .int (Int32.ofInt x)) (hq : Q (some (vI x)) z hr hi hl) : a_wp G M d pc L [vI x] z hr hi hl Q := by
  refine a_end hq (fun hS v hv => by cases hv; exact okS_h hS) (fun hS p e R s m args below meth c H locs cells slots ls B hQ hf => ?_)
  have hlocks := B.1.2.2.2.2.2.2.1
  exact W.zret B.1.1 B.1.2.1 (B.1.2.2.2.2.2.1.trans hr0) hx hQ hf hd
theorem a_ldcS {idx i : Nat} {x : String × Nat × String} (hG : gS G) (hd : decode M.2.1 pc = .ok (.ldc idx, 2)) (hn : pc + 2 = n) (hx : jK[i]? = some x) (h1 : x.1 = M.1.cls) (h2 : x.2.1 = idx) (k : a_wp G M d n L (vR (1000000000 + i) :: st) z hr hi hl Q) : a_wp G M d pc L st z hr hi hl Q := by
  subst hn
  refine a_go k (fun hL hs _ _ => okS_c trivial hs) (fun hL hS p e R s m args below meth c H locs cells slots ls Q0 B kk => ?_)
  have h9 := hG.2.2.2 s B.2.2.2.2.2.2.1.2 i x hx
  rw [h1, h2] at h9
  have he : a_cv G (vR (1000000000 + i)) = .ref (gE G i) := by
    show Value.ref (a_ca G (1000000000 + i)) = _
    unfold a_ca
    rw [if_neg (by omega), Nat.add_sub_cancel_left]
  rw [List.map_cons, he] at kk
  exact va_ldcS B.1.1 B.1.2.1 B.1.2.2.2.1 h9 hd kk
theorem gE_a {i : Nat} : a_ca G (1000000000 + i) = gE G i := by
  unfold a_ca
  rw [if_neg (by omega), Nat.add_sub_cancel_left]
/-- a call of a method of a String constant -/
theorem a_callVX {M2 : aM} {d2 idx i : Nat} {As st0 : List aV} {Q1 : Option aV → aZ → aR → aI → aI → Prop} (hG : gS G) (hi11 : i < 11) (hd : decode M.2.1 pc = .ok (.invokevirtual idx, 3)) (hn : pc + 3 = n) (C : a_ct G M2 d2 (vR (1000000000 + i) :: As) z hr hi hl Q1) (K : a_Ok M2 As.length) (hlink : Cond.methodLink M.1.cls idx M2.1 ∈ lw_tbl) (hin : Cond.instanceMethod M2.1 ∈ lw_tbl) (hsel : Cond.selects "java/lang/String" M2.1 M2.1 ∈ lw_tbl) (hdd : d2 + 1 ≤ d) (hst0 : st0 = As.reverse ++ vR (1000000000 + i) :: st) (hw : (st.map a_cat).sum ≤ 8)
    (k : ∀ r z' hr' hi' hl', Q1 r z' hr' hi' hl' → a_wp G M d n L (r.toList ++ st) z' hr' hi' hl' Q) : a_wp G M d pc L st0 z hr hi hl Q := by
  refine a_callW hn (by rw [hst0]; simp) C (fun r z' hr' hi' hl' hst g1 g2 hM p e R s m args below meth c H locs cells slots ls B h1 h2 => ?_) k
  subst hst0
  have hbr : a_cv G (vR (1000000000 + i)) = .ref (gE G i) := by
    show Value.ref (a_ca G (1000000000 + i)) = _
    rw [gE_a]
  have hU : ∀ U : State, U.heap = H → s.WarmedH U.vm → a_Pc G (vR (1000000000 + i) :: As) z hr hi hl (Value.ref (gE G i) :: As.map (a_cv G)).toArray U := fun U hU hW => by
    have := a_pcU (As := vR (1000000000 + i) :: As) hst B U hU hW
    rwa [List.map_cons, hbr] at this
  have hrun := va_runV (C := "java/lang/String") (b := gE G i) (As := As.map (a_cv G)) (rest := st.map (a_cv G)) (n := As.length) (g := F0 m pc ls ((As.map (a_cv G)).reverse ++ Value.ref (gE G i) :: st.map (a_cv G))) (cells := cells) (slots := slots) (locs := locs) (e := e) (below := below) (meth := meth) ⟨B.1.1, B.1.2.1, B.1.2.2.1, B.1.2.2.2.1, B.1.ts⟩ hM ⟨a_CB B K hlink hdd, B.1.2.2.2.2.1 _ hin rfl, B.1.2.2.2.2.1 _ hsel rfl⟩ ⟨a_blind hst, vk_recv (hG.1 s B.2.2.2.2.2.2.1.2) hi11 B.2.2.2.2.2.2.2.1, hU⟩ rfl (by simp) B.2.2.2.2.2.2.2.2.2.2.1 rfl (lv_room (by rw [a_cats]; exact hw)) hd ⟨h1, h2⟩
  rw [List.map_append, List.map_cons, List.map_reverse, List.map_cons, hbr]
  exact hrun
theorem jd_v (hG : gS G) {i : Nat} (h : i < 11) : ∀ U, gX G U → va_OF "java/lang/String" "value" "[B" (a_cv G (vR (1000000100 + i))) (a_ca G (1000000000 + i)) (fun q => gb G ≤ q) U U.heap := fun U hU => by
  rw [gE_a, show a_cv G (vR (1000000100 + i)) = .ref (gE G (100 + i)) from by
    show Value.ref (a_ca G (1000000100 + i)) = _
    rw [show 1000000100 + i = 1000000000 + (100 + i) by omega, gE_a]]
  exact ((hG.1 U hU).1 i h).2.2.1
theorem jd_c (hG : gS G) {i : Nat} (h : i < 11) : ∀ U, gX G U → va_OF "java/lang/String" "coder" "B" (a_cv G (vI 0)) (a_ca G (1000000000 + i)) (fun q => gb G ≤ q) U U.heap := fun U hU => by
  rw [gE_a]
  exact ((hG.1 U hU).1 i h).2.1
theorem jd_b (hG : gS G) {i : Nat} (h : i < 11) : ∀ U, gX G U → va_T .byte (a_ca G (1000000100 + i)) (jLen.getD i 0) (fun j => .int ((jByt.getD i []).getD j 0)) (fun q => gb G ≤ q) U U.heap := fun U hU => by
  rw [show 1000000100 + i = 1000000000 + (100 + i) by omega, gE_a]
  exact ((hG.1 U hU).1 i h).2.2.2
theorem jd_l : ∀ i, i < 11 → jLen.getD i 0 < 1000 ∧ (jW i).length = jLen.getD i 0 := by decide +kernel
theorem jd_ch : ∀ i, i < 11 → ∀ j, j < jLen.getD i 0 → b_and ((jByt.getD i []).getD j 0).toInt 255 = (jW i).getD j 0 ∧ 0 ≤ (jW i).getD j 0 ∧ (jW i).getD j 0 < 128 := by decide +kernel
theorem jd_nc : ∀ x : Nat, x < 128 → narrow .char (.int (Int32.ofInt x)) = .int (Int32.ofInt x) ∧ ((Int32.ofInt x).toUInt32 % 65536).toInt32 = Int32.ofInt x := by decide +kernel
theorem jd_nc' {x : Int} (h0 : 0 ≤ x) (h1 : x < 128) : narrow .char (.int (Int32.ofInt x)) = .int (Int32.ofInt x) ∧ ((Int32.ofInt x).toUInt32 % 65536).toInt32 = Int32.ofInt x := by
  obtain ⟨m, rfl⟩ := Int.eq_ofNat_of_zero_le h0
  exact jd_nc m (by omega)
end J
section J2
variable {G : aG} {d : Nat} {z : aZ} {hr : aR} {hi hl : aI}
theorem j_cod (hG : gS G) {i : Nat} (h : i < 11) : a_ct G mJ_cod (d + 0) [vR (1000000000 + i)] z hr hi hl (Qs z hr hi hl (fun r => r = some (vI 0))) := by
  refine a_ct_of rfl (Nat.le_of_ble_eq_true rfl) ?_
  refine a_gets (n := 3) (v := vI 1) dJ_cod_0 rfl fJ_38 hG.2.1 ⟨by decide, by decide⟩ ?_
  refine a_if_eq (t := 13) (n := 6) dJ_cod_3 rfl rfl (fun c₃ => absurd c₃ (by decide)) (fun c₃ => ?_)
  refine a_aload_n (n := 7) dJ_cod_6 rfl rfl ?_
  refine a_getX (n := 10) (v := vI 0) dJ_cod_7 rfl fJ_15 (jd_c hG h) ⟨by decide, by decide⟩ ?_
  refine a_goto (t := 14) dJ_cod_10 rfl ?_
  refine a_treturn dJ_cod_14 rfl rfl ?_
  exact ⟨rfl, rfl, rfl, rfl, rfl⟩
theorem j_lat (hG : gS G) {i : Nat} (h : i < 11) : a_ct G mJ_lat (d + 0) [vR (1000000000 + i)] z hr hi hl (Qs z hr hi hl (fun r => r = some (vI 1))) := by
  refine a_ct_of rfl (Nat.le_of_ble_eq_true rfl) ?_
  refine a_gets (n := 3) (v := vI 1) dJ_lat_0 rfl fJ_38 hG.2.1 ⟨by decide, by decide⟩ ?_
  refine a_if_eq (t := 17) (n := 6) dJ_lat_3 rfl rfl (fun c₃ => absurd c₃ (by decide)) (fun c₃ => ?_)
  refine a_aload_n (n := 7) dJ_lat_6 rfl rfl ?_
  refine a_getX (n := 10) (v := vI 0) dJ_lat_7 rfl fJ_15 (jd_c hG h) ⟨by decide, by decide⟩ ?_
  refine a_if_ne (t := 17) (n := 13) dJ_lat_10 rfl rfl (fun c₃ => absurd rfl c₃) (fun c₃ => ?_)
  refine a_iconst (n := 14) dJ_lat_13 rfl ⟨by decide, by decide⟩ ?_
  refine a_goto (t := 18) dJ_lat_14 rfl ?_
  refine a_zreturn dJ_lat_18 rfl (Or.inr rfl) ?_
  exact ⟨rfl, rfl, rfl, rfl, rfl⟩
theorem j_len (hG : gS G) {i : Nat} (h : i < 11) : a_ct G mJ_len (d + 1) [vR (1000000000 + i)] z hr hi hl (Qs z hr hi hl (fun r => r = some (vI ((jW i).length)))) := by
  refine a_ct_of rfl (Nat.le_of_ble_eq_true rfl) ?_
  refine a_aload_n (n := 1) dJ_len_0 rfl rfl ?_
  refine a_getX (n := 4) (v := vR (1000000100 + i)) dJ_len_1 rfl fJ_9 (jd_v hG h) trivial ?_
  refine a_alenX (n := 5) dJ_len_4 rfl (jd_b hG h) (jd_l i h).1 ?_
  refine a_aload_n (n := 6) dJ_len_5 rfl rfl ?_
  refine a_callVX (M2 := mJ_cod) (n := 9) hG h dJ_len_6 rfl (j_cod (d := d) hG h) kJ_cod lJ_335 iJ_cod eJ_cod (by omega) rfl (Nat.le_of_ble_eq_true rfl) (fun q₆ z₆ hr₆ hi₆ hl₆ h₆ => ?_)
  obtain ⟨e₁, e₂, e₃, e₄, rfl⟩ := h₆
  obtain rfl := e₁.symm
  obtain rfl := e₂.symm
  obtain rfl := e₃.symm
  obtain rfl := e₄.symm
  show a_wp G _ _ _ _ (vI 0 :: _) _ _ _ _ _
  refine a_ishr0 (n := 10) dJ_len_9 rfl ?_
  refine a_ireturn dJ_len_10 rfl ?_
  exact ⟨rfl, rfl, rfl, rfl, by rw [(jd_l i h).2]⟩
theorem j_pre {i k : Int} {v₀ : Option Nat} (h0 : 0 ≤ i) (h1 : i < k) : a_ct G mJ_pre (d + 0) [vI i, vI k, vO v₀] z hr hi hl (Qs z hr hi hl (fun r => r = some (vI i))) := by
  refine a_ct_of rfl (by cases v₀ <;> exact Nat.le_of_ble_eq_true rfl) ?_
  refine a_iload_n (n := 1) dJ_pre_0 rfl rfl ?_
  refine a_if_lt (t := 9) (n := 4) dJ_pre_1 rfl rfl (fun c₃ => absurd c₃ (by omega)) (fun c₃ => ?_)
  refine a_iload_n (n := 5) dJ_pre_4 rfl rfl ?_
  refine a_iload_n (n := 6) dJ_pre_5 rfl rfl ?_
  refine a_icmp_lt (t := 16) (n := 9) dJ_pre_6 rfl rfl (fun c₃ => ?_) (fun c₃ => absurd h1 c₃)
  refine a_iload_n (n := 17) dJ_pre_16 rfl rfl ?_
  refine a_ireturn dJ_pre_17 rfl ?_
  exact ⟨rfl, rfl, rfl, rfl, rfl⟩
theorem j_chk (hG : gS G) {i k : Int} (h0 : 0 ≤ i) (h1 : i < k) : a_ct G mJ_chk (d + 1) [vI i, vI k] z hr hi hl (Qs z hr hi hl (fun r => r = none)) := by
  obtain ⟨v₀, hv⟩ := hG.2.2.1
  refine a_ct_of rfl (Nat.le_of_ble_eq_true rfl) ?_
  refine a_iload_n (n := 1) dJ_chk_0 rfl rfl ?_
  refine a_iload_n (n := 2) dJ_chk_1 rfl rfl ?_
  refine a_gets (n := 5) (v := vO v₀) dJ_chk_2 rfl fJ_1053 hv trivial ?_
  refine a_callS (M2 := mJ_pre) (n := 8) dJ_chk_5 rfl (j_pre (d := d) (v₀ := v₀) h0 h1) kJ_pre lJ_1059 sJ_pre (by omega) rfl (Nat.le_of_ble_eq_true rfl) (fun q₆ z₆ hr₆ hi₆ hl₆ h₆ => ?_)
  obtain ⟨e₁, e₂, e₃, e₄, rfl⟩ := h₆
  obtain rfl := e₁.symm
  obtain rfl := e₂.symm
  obtain rfl := e₃.symm
  obtain rfl := e₄.symm
  show a_wp G _ _ _ _ (vI i :: _) _ _ _ _ _
  refine a_pop (n := 9) dJ_chk_8 rfl rfl ?_
  refine a_return dJ_chk_9 rfl ?_
  exact ⟨rfl, rfl, rfl, rfl, rfl⟩
theorem j_lch (hG : gS G) {i : Nat} (h : i < 11) {k : Int} (h0 : 0 ≤ k) (h1 : k < (jW i).length) : a_ct G mJ_lch (d + 2) [vR (1000000100 + i), vI k] z hr hi hl (Qs z hr hi hl (fun r => r = some (vI ((jW i).getD k.toNat 0)))) := by
  have hlen := jd_l i h
  have hch := jd_ch i h k.toNat (by omega)
  have hnc := jd_nc' hch.2.1 hch.2.2
  refine a_ct_of rfl (Nat.le_of_ble_eq_true rfl) ?_
  refine a_iload_n (n := 1) dJ_lch_0 rfl rfl ?_
  refine a_aload_n (n := 2) dJ_lch_1 rfl rfl ?_
  refine a_alenX (n := 3) dJ_lch_2 rfl (jd_b hG h) hlen.1 ?_
  refine a_callS (M2 := mJ_chk) (n := 6) dJ_lch_3 rfl (j_chk (d := d) hG h0 (by omega)) kJ_chk lJ_9 sJ_chk (by omega) rfl (Nat.le_of_ble_eq_true rfl) (fun q₆ z₆ hr₆ hi₆ hl₆ h₆ => ?_)
  obtain ⟨e₁, e₂, e₃, e₄, rfl⟩ := h₆
  obtain rfl := e₁.symm
  obtain rfl := e₂.symm
  obtain rfl := e₃.symm
  obtain rfl := e₄.symm
  show a_wp G _ _ _ _ [] _ _ _ _ _
  refine a_aload_n (n := 7) dJ_lch_6 rfl rfl ?_
  refine a_iload_n (n := 8) dJ_lch_7 rfl rfl ?_
  refine a_baldX (n := 9) dJ_lch_8 rfl (jd_b hG h) h0 (by omega) ?_
  refine a_sipush (n := 12) dJ_lch_9 rfl ⟨by decide, by decide⟩ (by decide) ?_
  refine a_iand (n := 13) dJ_lch_12 rfl ?_
  rw [hch.1]
  refine a_i2c (n := 14) dJ_lch_13 rfl hnc.2 ?_
  refine a_treturn dJ_lch_14 rfl hnc.1 ?_
  exact ⟨rfl, rfl, rfl, rfl, rfl⟩
theorem j_chr (hG : gS G) {i : Nat} (h : i < 11) {k : Int} (h0 : 0 ≤ k) (h1 : k < (jW i).length) : a_ct G mJ_chr (d + 3) [vR (1000000000 + i), vI k] z hr hi hl (Qs z hr hi hl (fun r => r = some (vI ((jW i).getD k.toNat 0)))) := by
  have hlen := jd_l i h
  have hch := jd_ch i h k.toNat (by omega)
  have hnc := jd_nc' hch.2.1 hch.2.2
  refine a_ct_of rfl (Nat.le_of_ble_eq_true rfl) ?_
  refine a_aload_n (n := 1) dJ_chr_0 rfl rfl ?_
  refine a_callVX (M2 := mJ_lat) (n := 4) hG h dJ_chr_1 rfl (j_lat (d := d) hG h) kJ_lat lJ_492 iJ_lat eJ_lat (by omega) rfl (Nat.le_of_ble_eq_true rfl) (fun q₆ z₆ hr₆ hi₆ hl₆ h₆ => ?_)
  obtain ⟨e₁, e₂, e₃, e₄, rfl⟩ := h₆
  obtain rfl := e₁.symm
  obtain rfl := e₂.symm
  obtain rfl := e₃.symm
  obtain rfl := e₄.symm
  show a_wp G _ _ _ _ (vI 1 :: _) _ _ _ _ _
  refine a_if_eq (t := 16) (n := 7) dJ_chr_4 rfl rfl (fun c₃ => absurd c₃ (by decide)) (fun c₃ => ?_)
  refine a_aload_n (n := 8) dJ_chr_7 rfl rfl ?_
  refine a_getX (n := 11) (v := vR (1000000100 + i)) dJ_chr_8 rfl fJ_9 (jd_v hG h) trivial ?_
  refine a_iload_n (n := 12) dJ_chr_11 rfl rfl ?_
  refine a_callS (M2 := mJ_lch) (n := 15) dJ_chr_12 rfl (j_lch (d := d) hG h h0 h1) kJ_lch lJ_495 sJ_lch (by omega) rfl (Nat.le_of_ble_eq_true rfl) (fun q₆ z₆ hr₆ hi₆ hl₆ h₆ => ?_)
  obtain ⟨e₁, e₂, e₃, e₄, rfl⟩ := h₆
  obtain rfl := e₁.symm
  obtain rfl := e₂.symm
  obtain rfl := e₃.symm
  obtain rfl := e₄.symm
  show a_wp G _ _ _ _ (vI _ :: _) _ _ _ _ _
  refine a_treturn dJ_chr_15 rfl hnc.1 ?_
  exact ⟨rfl, rfl, rfl, rfl, rfl⟩
end J2
section J3
variable {G : aG} {M : aM} {d pc n : Nat} {L : List (Option aV)} {st : List aV} {z : aZ} {hr : aR} {hi hl : aI} {Q : Option aV → aZ → aR → aI → aI → Prop}
theorem a_mmax {x y : Int} {idx : Nat} (hd : decode M.2.1 pc = .ok (.invokestatic idx, 3)) (hn : pc + 3 = n) (hlink : Cond.methodLink M.1.cls idx yJ_max ∈ lw_tbl) (hdd : 1 ≤ d) (hw : (st.map a_cat).sum ≤ 8) (k : a_wp G M d n L (vI (if x < y then y else x) :: st) z hr hi hl Q) : a_wp G M d pc L (vI y :: vI x :: st) z hr hi hl Q := by
  subst hn
  refine a_go k (fun hL hs _ _ => okS_c (by
    show r32 (if x < y then y else x)
    split
    · exact okS_h hs
    · exact okS_h (okS_t hs)) (okS_t (okS_t hs))) (fun hL hS p e R s m args below meth c H locs cells slots ls Q0 B kk => ?_)
  have hy := okI' (okS_h hS)
  have hx := okI' (okS_h (okS_t hS))
  have b2 := B.2.1
  have b3 := B.2.2.1
  have hsum := a_cats (G := G) (st := st)
  refine va_mmax (x := Int32.ofInt x) (y := Int32.ofInt y) (rest := st.map (a_cv G)) B.1.1 B.1.2.1 (B.1.2.2.1.trans B.2.2.2.2.2.2.2.2.2.2.1.symm) B.1.2.2.2.1 (B.1.2.2.2.2.1 _ hlink rfl) (B.1.2.2.2.2.1 _ sJ_max rfl) (B.1.2.2.2.2.1 _ kJ_max.2.1 rfl) (B.1.2.2.2.2.1 _ kJ_max.1 rfl) (by omega) (by rw [hsum]; omega) B.2.2.2.1 B.2.2.2.2.1 hd ?_
  rw [show (if Int32.ofInt x < Int32.ofInt y then Int32.ofInt y else Int32.ofInt x) = Int32.ofInt (if x < y then y else x) from by
    by_cases q : x < y
    · rw [if_pos q, if_pos ((a_lt hx hy).mpr q)]
    · rw [if_neg q, if_neg (fun w => q ((a_lt hx hy).mp w))]]
  exact kk
theorem a_mmin {x y : Int} {idx : Nat} (hd : decode M.2.1 pc = .ok (.invokestatic idx, 3)) (hn : pc + 3 = n) (hlink : Cond.methodLink M.1.cls idx yJ_min ∈ lw_tbl) (hdd : 1 ≤ d) (hw : (st.map a_cat).sum ≤ 8) (k : a_wp G M d n L (vI (if y < x then y else x) :: st) z hr hi hl Q) : a_wp G M d pc L (vI y :: vI x :: st) z hr hi hl Q := by
  subst hn
  refine a_go k (fun hL hs _ _ => okS_c (by
    show r32 (if y < x then y else x)
    split
    · exact okS_h hs
    · exact okS_h (okS_t hs)) (okS_t (okS_t hs))) (fun hL hS p e R s m args below meth c H locs cells slots ls Q0 B kk => ?_)
  have hy := okI' (okS_h hS)
  have hx := okI' (okS_h (okS_t hS))
  have b2 := B.2.1
  have b3 := B.2.2.1
  have hsum := a_cats (G := G) (st := st)
  refine va_mmin (x := Int32.ofInt x) (y := Int32.ofInt y) (rest := st.map (a_cv G)) B.1.1 B.1.2.1 (B.1.2.2.1.trans B.2.2.2.2.2.2.2.2.2.2.1.symm) B.1.2.2.2.1 (B.1.2.2.2.2.1 _ hlink rfl) (B.1.2.2.2.2.1 _ sJ_min rfl) (B.1.2.2.2.2.1 _ kJ_min.2.1 rfl) (B.1.2.2.2.2.1 _ kJ_min.1 rfl) (by omega) (by rw [hsum]; omega) B.2.2.2.1 B.2.2.2.2.1 hd ?_
  rw [show (if Int32.ofInt y < Int32.ofInt x then Int32.ofInt y else Int32.ofInt x) = Int32.ofInt (if y < x then y else x) from by
    by_cases q : y < x
    · rw [if_pos q, if_pos ((a_lt hy hx).mpr q)]
    · rw [if_neg q, if_neg (fun w => q ((a_lt hy hx).mp w))]]
  exact kk
/-- a whole row is copied onto another -/
def cpy (hi : aI) (b a : Nat) (len : Int) : aI := fun x j => if x = a ∧ 0 ≤ j ∧ j < len then hi b j else hi x j
theorem jd_nf : nativeFrameWords "java/lang/System" "arraycopy" 5 + 11 ≤ 30 := by decide +kernel
theorem a_copy {a0 a idx : Nat} {len : Int} (hd : decode M.2.1 pc = .ok (.invokestatic idx, 3)) (hn : pc + 3 = n) (hlink : Cond.methodLink M.1.cls idx arraycopyName ∈ lw_tbl) (hnat : Cond.native arraycopyName ∈ lw_tbl) (hsta : Cond.static arraycopyName ∈ lw_tbl) (hini : Cond.initialized "java/lang/System" ∈ lw_tbl) (hs0 : a_is z a0 20 len) (hs1 : a_is z a 20 len) (hl0 : 0 ≤ len) (hl1 : len < 1000000) (hdd : 1 ≤ d) (hw : (st.map a_cat).sum ≤ 8) (k : a_wp G M d n L st z hr (cpy hi a0 a len) hl Q) : a_wp G M d pc L (vI len :: vI 0 :: vR a :: vI 0 :: vR a0 :: st) z hr hi hl Q := by
  subst hn
  refine a_step k 0 0 rfl rfl (fun hL hs => ⟨hL, okS_t (okS_t (okS_t (okS_t (okS_t hs))))⟩) (fun _ hL hS p e R s m args below meth c H locs cells slots ls Q0 B kk => ?_)
  have hrp := B.2.2.2.2.2.1
  have hl2 : r32 len := ⟨by omega, by omega⟩
  have hcl := a_cl hl2
  have b2 := B.2.1
  have b3 := B.2.2.1
  have hsum := a_cats (G := G) (st := st)
  have hc0 := a_arr hrp hs0 (by decide) (by decide)
  have hc1 := a_arr hrp hs1 (by decide) (by decide)
  have hK := B.2.2.2.2.2.2.1.1
  obtain ⟨-, k0, hk0, cm0, hkk0⟩ := (hK.2 0 _ rfl).1 len.toNat (fun j => a_av G 20 (hi a0 j) (hl a0 j) (hr a0 j))
  obtain ⟨-, k1, hk1, cm1, hkk1⟩ := (hK.2 0 _ rfl).1 len.toNat (fun j => a_av G 20 (hi a j) (hl a j) (hr a j))
  have hbr0 : a_cv G (vR a0) = .ref (gc G a0) := a_cvR (a_lt9 B hs0)
  have hbr1 : a_cv G (vR a) = .ref (gc G a) := a_cvR (a_lt9 B hs1)
  rw [List.map_cons, List.map_cons, List.map_cons, List.map_cons, List.map_cons, hbr0, hbr1]
  intro T hT X
  have hz0 : ¬ (Int32.ofInt 0) < 0 := by decide
  have hzn : ¬ (Int32.ofInt len) < 0 := by rw [a_lt0 hl2]; omega
  obtain ⟨vm', X', step⟩ := X.arraycopy B.1.1 B.1.2.2.2.1 (B.1.2.2.2.2.1 _ hlink rfl) (B.1.2.2.2.2.1 _ hnat rfl) (B.1.2.2.2.2.1 _ hsta rfl) (B.1.2.2.2.2.1 _ hini rfl) (src := gc G a0) (dst := gc G a) (cs := arrV (gA G 20) len.toNat (fun j => a_av G 20 (hi a0 j) (hl a0 j) (hr a0 j))) (cd := arrV (gA G 20) len.toNat (fun j => a_av G 20 (hi a j) (hl a j) (hr a j))) (srcPos := Int32.ofInt 0) (destPos := Int32.ofInt 0) (n := Int32.ofInt len) (by rw [hT]; exact hc0) (by rw [hT]; exact hc1)
    (fun _ h => by cases h) (fun _ h => by cases h) (fun h => by cases h) (fun h => by cases h) hk0 hk1 hkk0 hkk1 (by simp [show refKind .int = false from rfl]) hz0 hz0 hzn
    (by rw [a_toI r32_0, a_toI hl2, arrV_size]; omega)
    (by rw [a_toI r32_0, a_toI hl2, arrV_size]; omega)
    (fun vm₁ _ i hlt => by
      rw [hcl] at hlt
      have e9 : (arrV (gA G 20) len.toNat (fun j => a_av G 20 (hi a0 j) (hl a0 j) (hr a0 j))).slots.getD ((Int32.ofInt 0).toNatClampNeg + i) .null = .int (Int32.ofInt (hi a0 i)) := by
        rw [Array.getD_eq_getD_getElem?, a_cl r32_0, arrV_read _ _ (by omega)]
        show a_av G 20 _ _ _ = _
        rw [a_av_i (Or.inl rfl)]
        simp
      refine ⟨?_, ?_⟩
      · rw [e9]; rfl
      · rw [e9]; exact trivial)
    (g := F0 m pc ls (.int (Int32.ofInt len) :: .int (Int32.ofInt 0) :: .ref (gc G a) :: .int (Int32.ofInt 0) :: .ref (gc G a0) :: st.map (a_cv G))) rfl (by rw [B.1.2.2.1]; exact B.2.2.2.2.2.2.2.2.2.2.1) (rest := st.map (a_cv G)) rfl (by rw [B.1.2.1]; exact hd) (by omega) (by show 2 * 0 + _ + _ ≤ _; have := jd_nf; rw [hsum]; omega)
  have e1 : copied (arrV (gA G 20) len.toNat (fun j => a_av G 20 (hi a0 j) (hl a0 j) (hr a0 j))) (arrV (gA G 20) len.toNat (fun j => a_av G 20 (hi a j) (hl a j) (hr a j))) (Int32.ofInt 0) (Int32.ofInt 0) (Int32.ofInt len) = arrV (gA G 20) len.toNat (fun j => a_av G 20 (cpy hi a0 a len a j) (hl a j) (hr a j)) := by
    have e2 := va_copied (fun v : Value => v) (gA G 20) (gA G 20) (n0 := len.toNat) (n1 := len.toNat) (sp := (Int32.ofInt 0).toNatClampNeg) (dp := (Int32.ofInt 0).toNatClampNeg) (n := (Int32.ofInt len).toNatClampNeg) (fun j => a_av G 20 (hi a0 j) (hl a0 j) (hr a0 j)) (fun j => a_av G 20 (hi a j) (hl a j) (hr a j)) (by rw [hcl, a_cl r32_0]; omega)
    refine Eq.trans e2 ?_
    congr 1
    funext j
    show va_cpy _ _ _ _ _ j = _
    unfold va_cpy cpy
    rw [hcl, a_cl r32_0]
    dsimp only
    rw [a_av_i (Or.inl rfl), a_av_i (Or.inl rfl), a_av_i (Or.inl rfl)]
    by_cases q : (0 : Int).toNat ≤ j ∧ j < (0 : Int).toNat + len.toNat
    · rw [if_pos q, if_pos ⟨rfl, by omega, by omega⟩]
      have e3 : (0 : Int).toNat + (j - (0 : Int).toNat) = j := by omega
      rw [e3]
    · rw [if_neg q, if_neg (by omega)]
  rw [e1] at X' step
  have hlt : gc G a < H.size := (Array.getElem?_eq_some_iff.mp hc1).1
  have oq : ∀ q : Nat, q ≠ gc G a → (H.setIfInBounds (gc G a) (arrV (gA G 20) len.toNat (fun j => a_av G 20 (cpy hi a0 a len a j) (hl a j) (hr a j))))[q]? = H[q]? := fun q hq => by simp [Array.getElem?_setIfInBounds, Ne.symm hq]
  have hrp2 : a_rp G z hr (cpy hi a0 a len) hl (H.setIfInBounds (gc G a) (arrV (gA G 20) len.toNat (fun j => a_av G 20 (cpy hi a0 a len a j) (hl a j) (hr a j)))) := by
    refine hrp.set (a := a) (by simp) oq (fun _ _ _ => rfl) (fun b j hb => ?_) (fun _ _ _ => rfl) ?_ (fun b j => ?_) hrp.2.2.2.2.2
    · unfold cpy
      rw [if_neg (by omega)]
    · unfold a_cell
      rw [hs1.2, if_neg (show ¬ (20 : Nat) < 11 by decide), if_pos (show (20 : Nat) < 30 by decide)]
      simp [Array.getElem?_setIfInBounds, hlt]
    · unfold cpy
      split
      · exact hrp.2.2.2.2.1 _ _
      · exact hrp.2.2.2.2.1 _ _
  have hheap : ((T.setVm vm').setCell (gc G a) (arrV (gA G 20) len.toNat (fun j => a_av G 20 (cpy hi a0 a len a j) (hl a j) (hr a j)))).heap = H.setIfInBounds (gc G a) (arrV (gA G 20) len.toNat (fun j => a_av G 20 (cpy hi a0 a len a j) (hl a j) (hr a j))) := by rw [← hT]; rfl
  have hS8 := B.2.2.2.2.2.2.2.1
  obtain ⟨t, a1, b1⟩ := kk _ _ ls hrp2 ⟨by simp; exact hS8.1, fun q g1 g2 => by
      rw [oq q (fun e => g2 (by rw [e]; exact Nat.le_add_right _ _))]
      exact hS8.2.1 q g1 g2, fun q hq => by
      rcases List.mem_append.mp hq with h | h
      · exact hS8.2.2 q h
      · obtain ⟨w, -, hw⟩ := List.mem_map.mp h
        rw [← hw]
        exact Nat.le_add_right _ _⟩ B.2.2.2.2.2.2.2.2.2.2 _ hheap X'
  exact ⟨t, step t a1, b1⟩
end J3

