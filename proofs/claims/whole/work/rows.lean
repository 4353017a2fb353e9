section
/-- a private method of a class that the tables say can be made, by its rows of tables_1 -/
def lw_okq (q : MethodName × Nat) : Prop := (q.1.cls ≠ "java/lang/invoke/MethodHandle" ∧ q.1.cls ≠ "java/lang/invoke/VarHandle") ∧ Cond.instantiable q.1.cls q.2 ∈ tables_1 ∧ Cond.privateMethod q.1 ∈ tables_1 ∧ Cond.instanceMethod q.1 ∈ tables_1
theorem lw_p0 : lw_okq (⟨"BedBook", "canEnter", "(I)Z"⟩, 12) := ⟨⟨by decide +kernel, by decide +kernel⟩, List.mem_of_getElem? (i := 23) (by decide +kernel), List.mem_of_getElem? (i := 257) (by decide +kernel), List.mem_of_getElem? (i := 258) (by decide +kernel)⟩
theorem lw_p1 : lw_okq (⟨"BedBook", "enter", "(LBedBook$Plant;)I"⟩, 12) := ⟨⟨by decide +kernel, by decide +kernel⟩, List.mem_of_getElem? (i := 23) (by decide +kernel), List.mem_of_getElem? (i := 336) (by decide +kernel), List.mem_of_getElem? (i := 337) (by decide +kernel)⟩
theorem lw_p2 : lw_okq (⟨"BedBook", "plantAt", "(I)LBedBook$Plant;"⟩, 12) := ⟨⟨by decide +kernel, by decide +kernel⟩, List.mem_of_getElem? (i := 23) (by decide +kernel), List.mem_of_getElem? (i := 344) (by decide +kernel), List.mem_of_getElem? (i := 345) (by decide +kernel)⟩
theorem lw_p3 : lw_okq (⟨"BedBook$NameBook", "leadsTo", "(III)Z"⟩, 8) := ⟨⟨by decide +kernel, by decide +kernel⟩, List.mem_of_getElem? (i := 35) (by decide +kernel), List.mem_of_getElem? (i := 395) (by decide +kernel), List.mem_of_getElem? (i := 396) (by decide +kernel)⟩
theorem lw_p4 : lw_okq (⟨"BedBook$NameBook", "tiedAsOf", "(II)I"⟩, 8) := ⟨⟨by decide +kernel, by decide +kernel⟩, List.mem_of_getElem? (i := 35) (by decide +kernel), List.mem_of_getElem? (i := 399) (by decide +kernel), List.mem_of_getElem? (i := 400) (by decide +kernel)⟩
theorem lw_p5 : lw_okq (⟨"BedBook", "bedAt", "(I)LBedBook$Bed;"⟩, 12) := ⟨⟨by decide +kernel, by decide +kernel⟩, List.mem_of_getElem? (i := 23) (by decide +kernel), List.mem_of_getElem? (i := 432) (by decide +kernel), List.mem_of_getElem? (i := 433) (by decide +kernel)⟩
theorem lw_p6 : lw_okq (⟨"BedBook", "hasPlaceFor", "(LBedBook$Plant;I)Z"⟩, 12) := ⟨⟨by decide +kernel, by decide +kernel⟩, List.mem_of_getElem? (i := 23) (by decide +kernel), List.mem_of_getElem? (i := 447) (by decide +kernel), List.mem_of_getElem? (i := 448) (by decide +kernel)⟩
theorem lw_p7 : lw_okq (⟨"BedBook$MovePlan", "leaveWhatSuits", "()V"⟩, 8) := ⟨⟨by decide +kernel, by decide +kernel⟩, List.mem_of_getElem? (i := 69) (by decide +kernel), List.mem_of_getElem? (i := 464) (by decide +kernel), List.mem_of_getElem? (i := 465) (by decide +kernel)⟩
theorem lw_p8 : lw_okq (⟨"BedBook$MovePlan", "bringIn", "(I)Z"⟩, 8) := ⟨⟨by decide +kernel, by decide +kernel⟩, List.mem_of_getElem? (i := 69) (by decide +kernel), List.mem_of_getElem? (i := 469) (by decide +kernel), List.mem_of_getElem? (i := 470) (by decide +kernel)⟩
theorem lw_p9 : lw_okq (⟨"BedBook$MovePlan", "price", "(II)I"⟩, 8) := ⟨⟨by decide +kernel, by decide +kernel⟩, List.mem_of_getElem? (i := 69) (by decide +kernel), List.mem_of_getElem? (i := 473) (by decide +kernel), List.mem_of_getElem? (i := 474) (by decide +kernel)⟩
theorem lw_p10 : lw_okq (⟨"BedBook$MovePlan", "spreadCosts", "()V"⟩, 8) := ⟨⟨by decide +kernel, by decide +kernel⟩, List.mem_of_getElem? (i := 69) (by decide +kernel), List.mem_of_getElem? (i := 477) (by decide +kernel), List.mem_of_getElem? (i := 478) (by decide +kernel)⟩
theorem lw_p11 : lw_okq (⟨"BedBook$MovePlan", "spreadFrom", "(I)Z"⟩, 8) := ⟨⟨by decide +kernel, by decide +kernel⟩, List.mem_of_getElem? (i := 69) (by decide +kernel), List.mem_of_getElem? (i := 481) (by decide +kernel), List.mem_of_getElem? (i := 482) (by decide +kernel)⟩
theorem lw_p12 : lw_okq (⟨"BedBook$MovePlan", "cheapestWithRoom", "()I"⟩, 8) := ⟨⟨by decide +kernel, by decide +kernel⟩, List.mem_of_getElem? (i := 69) (by decide +kernel), List.mem_of_getElem? (i := 485) (by decide +kernel), List.mem_of_getElem? (i := 486) (by decide +kernel)⟩
theorem lw_p13 : lw_okq (⟨"BedBook$MovePlan", "shiftAlong", "(I)V"⟩, 8) := ⟨⟨by decide +kernel, by decide +kernel⟩, List.mem_of_getElem? (i := 69) (by decide +kernel), List.mem_of_getElem? (i := 489) (by decide +kernel), List.mem_of_getElem? (i := 490) (by decide +kernel)⟩
theorem lw_p14 : lw_okq (⟨"BedBook$Tokens", "scanOne", "(LBedBook$Tape;I)I"⟩, 4) := ⟨⟨by decide +kernel, by decide +kernel⟩, List.mem_of_getElem? (i := 122) (by decide +kernel), List.mem_of_getElem? (i := 518) (by decide +kernel), List.mem_of_getElem? (i := 519) (by decide +kernel)⟩
theorem lw_p15 : lw_okq (⟨"BedBook$Tokens", "add", "(III)V"⟩, 4) := ⟨⟨by decide +kernel, by decide +kernel⟩, List.mem_of_getElem? (i := 122) (by decide +kernel), List.mem_of_getElem? (i := 592) (by decide +kernel), List.mem_of_getElem? (i := 593) (by decide +kernel)⟩
def lw_privs_1 : List (MethodName × Nat) := [(⟨"BedBook", "canEnter", "(I)Z"⟩, 12), (⟨"BedBook", "enter", "(LBedBook$Plant;)I"⟩, 12), (⟨"BedBook", "plantAt", "(I)LBedBook$Plant;"⟩, 12), (⟨"BedBook$NameBook", "leadsTo", "(III)Z"⟩, 8), (⟨"BedBook$NameBook", "tiedAsOf", "(II)I"⟩, 8), (⟨"BedBook", "bedAt", "(I)LBedBook$Bed;"⟩, 12), (⟨"BedBook", "hasPlaceFor", "(LBedBook$Plant;I)Z"⟩, 12), (⟨"BedBook$MovePlan", "leaveWhatSuits", "()V"⟩, 8), (⟨"BedBook$MovePlan", "bringIn", "(I)Z"⟩, 8), (⟨"BedBook$MovePlan", "price", "(II)I"⟩, 8), (⟨"BedBook$MovePlan", "spreadCosts", "()V"⟩, 8), (⟨"BedBook$MovePlan", "spreadFrom", "(I)Z"⟩, 8), (⟨"BedBook$MovePlan", "cheapestWithRoom", "()I"⟩, 8), (⟨"BedBook$MovePlan", "shiftAlong", "(I)V"⟩, 8), (⟨"BedBook$Tokens", "scanOne", "(LBedBook$Tape;I)I"⟩, 4), (⟨"BedBook$Tokens", "add", "(III)V"⟩, 4)]
theorem lw_r1 : ∀ q ∈ lw_privs_1, lw_okq q := List.forall_mem_cons.mpr ⟨lw_p0, List.forall_mem_cons.mpr ⟨lw_p1, List.forall_mem_cons.mpr ⟨lw_p2, List.forall_mem_cons.mpr ⟨lw_p3, List.forall_mem_cons.mpr ⟨lw_p4, List.forall_mem_cons.mpr ⟨lw_p5, List.forall_mem_cons.mpr ⟨lw_p6, List.forall_mem_cons.mpr ⟨lw_p7, List.forall_mem_cons.mpr ⟨lw_p8, List.forall_mem_cons.mpr ⟨lw_p9, List.forall_mem_cons.mpr ⟨lw_p10, List.forall_mem_cons.mpr ⟨lw_p11, List.forall_mem_cons.mpr ⟨lw_p12, List.forall_mem_cons.mpr ⟨lw_p13, List.forall_mem_cons.mpr ⟨lw_p14, List.forall_mem_cons.mpr ⟨lw_p15, fun _ h => absurd h List.not_mem_nil⟩⟩⟩⟩⟩⟩⟩⟩⟩⟩⟩⟩⟩⟩⟩⟩
theorem lw_p16 : lw_okq (⟨"BedBook$Reader", "beginsLine", "()Z"⟩, 5) := ⟨⟨by decide +kernel, by decide +kernel⟩, List.mem_of_getElem? (i := 116) (by decide +kernel), List.mem_of_getElem? (i := 611) (by decide +kernel), List.mem_of_getElem? (i := 612) (by decide +kernel)⟩
theorem lw_p17 : lw_okq (⟨"BedBook$Reader", "readLine", "()Z"⟩, 5) := ⟨⟨by decide +kernel, by decide +kernel⟩, List.mem_of_getElem? (i := 116) (by decide +kernel), List.mem_of_getElem? (i := 615) (by decide +kernel), List.mem_of_getElem? (i := 616) (by decide +kernel)⟩
theorem lw_p18 : lw_okq (⟨"BedBook$Reader", "advance", "()V"⟩, 5) := ⟨⟨by decide +kernel, by decide +kernel⟩, List.mem_of_getElem? (i := 116) (by decide +kernel), List.mem_of_getElem? (i := 619) (by decide +kernel), List.mem_of_getElem? (i := 620) (by decide +kernel)⟩
theorem lw_p19 : lw_okq (⟨"BedBook$Reader", "expect", "(I)Z"⟩, 5) := ⟨⟨by decide +kernel, by decide +kernel⟩, List.mem_of_getElem? (i := 116) (by decide +kernel), List.mem_of_getElem? (i := 623) (by decide +kernel), List.mem_of_getElem? (i := 624) (by decide +kernel)⟩
theorem lw_p20 : lw_okq (⟨"BedBook$Reader", "refuse", "(I)Z"⟩, 5) := ⟨⟨by decide +kernel, by decide +kernel⟩, List.mem_of_getElem? (i := 116) (by decide +kernel), List.mem_of_getElem? (i := 627) (by decide +kernel), List.mem_of_getElem? (i := 628) (by decide +kernel)⟩
theorem lw_p21 : lw_okq (⟨"BedBook$Reader", "readAnds", "(I)Z"⟩, 5) := ⟨⟨by decide +kernel, by decide +kernel⟩, List.mem_of_getElem? (i := 116) (by decide +kernel), List.mem_of_getElem? (i := 631) (by decide +kernel), List.mem_of_getElem? (i := 632) (by decide +kernel)⟩
theorem lw_p22 : lw_okq (⟨"BedBook$Reader", "readTest", "(I)Z"⟩, 5) := ⟨⟨by decide +kernel, by decide +kernel⟩, List.mem_of_getElem? (i := 116) (by decide +kernel), List.mem_of_getElem? (i := 635) (by decide +kernel), List.mem_of_getElem? (i := 636) (by decide +kernel)⟩
theorem lw_p23 : lw_okq (⟨"BedBook$Reader", "readSum", "(I)Z"⟩, 5) := ⟨⟨by decide +kernel, by decide +kernel⟩, List.mem_of_getElem? (i := 116) (by decide +kernel), List.mem_of_getElem? (i := 639) (by decide +kernel), List.mem_of_getElem? (i := 640) (by decide +kernel)⟩
theorem lw_p24 : lw_okq (⟨"BedBook$Reader", "readPart", "(I)Z"⟩, 5) := ⟨⟨by decide +kernel, by decide +kernel⟩, List.mem_of_getElem? (i := 116) (by decide +kernel), List.mem_of_getElem? (i := 643) (by decide +kernel), List.mem_of_getElem? (i := 644) (by decide +kernel)⟩
theorem lw_p25 : lw_okq (⟨"BedBook$NameBook", "givenAsOf", "(II)I"⟩, 8) := ⟨⟨by decide +kernel, by decide +kernel⟩, List.mem_of_getElem? (i := 35) (by decide +kernel), List.mem_of_getElem? (i := 668) (by decide +kernel), List.mem_of_getElem? (i := 669) (by decide +kernel)⟩
theorem lw_p26 : lw_okq (⟨"BedBook$Rules", "valueOf", "(II[I)I"⟩, 8) := ⟨⟨by decide +kernel, by decide +kernel⟩, List.mem_of_getElem? (i := 144) (by decide +kernel), List.mem_of_getElem? (i := 676) (by decide +kernel), List.mem_of_getElem? (i := 677) (by decide +kernel)⟩
theorem lw_p27 : lw_okq (⟨"BedBook$Rules", "push", "(I)V"⟩, 8) := ⟨⟨by decide +kernel, by decide +kernel⟩, List.mem_of_getElem? (i := 144) (by decide +kernel), List.mem_of_getElem? (i := 680) (by decide +kernel), List.mem_of_getElem? (i := 681) (by decide +kernel)⟩
theorem lw_p28 : lw_okq (⟨"BedBook$Rules", "pop", "()I"⟩, 8) := ⟨⟨by decide +kernel, by decide +kernel⟩, List.mem_of_getElem? (i := 144) (by decide +kernel), List.mem_of_getElem? (i := 684) (by decide +kernel), List.mem_of_getElem? (i := 685) (by decide +kernel)⟩
theorem lw_p29 : lw_okq (⟨"BedBook$Plant", "fitsParents", "(ILBedBook$Plant;LBedBook$Plant;)Z"⟩, 17) := ⟨⟨by decide +kernel, by decide +kernel⟩, List.mem_of_getElem? (i := 260) (by decide +kernel), List.mem_of_getElem? (i := 729) (by decide +kernel), List.mem_of_getElem? (i := 730) (by decide +kernel)⟩
theorem lw_p30 : lw_okq (⟨"BedBook$Plant", "bears", "(II)Z"⟩, 17) := ⟨⟨by decide +kernel, by decide +kernel⟩, List.mem_of_getElem? (i := 260) (by decide +kernel), List.mem_of_getElem? (i := 733) (by decide +kernel), List.mem_of_getElem? (i := 734) (by decide +kernel)⟩
theorem lw_p31 : lw_okq (⟨"BedBook$Plant", "sameMarks", "(ILBedBook$Plant;)Z"⟩, 17) := ⟨⟨by decide +kernel, by decide +kernel⟩, List.mem_of_getElem? (i := 260) (by decide +kernel), List.mem_of_getElem? (i := 737) (by decide +kernel), List.mem_of_getElem? (i := 738) (by decide +kernel)⟩
def lw_privs_2 : List (MethodName × Nat) := [(⟨"BedBook$Reader", "beginsLine", "()Z"⟩, 5), (⟨"BedBook$Reader", "readLine", "()Z"⟩, 5), (⟨"BedBook$Reader", "advance", "()V"⟩, 5), (⟨"BedBook$Reader", "expect", "(I)Z"⟩, 5), (⟨"BedBook$Reader", "refuse", "(I)Z"⟩, 5), (⟨"BedBook$Reader", "readAnds", "(I)Z"⟩, 5), (⟨"BedBook$Reader", "readTest", "(I)Z"⟩, 5), (⟨"BedBook$Reader", "readSum", "(I)Z"⟩, 5), (⟨"BedBook$Reader", "readPart", "(I)Z"⟩, 5), (⟨"BedBook$NameBook", "givenAsOf", "(II)I"⟩, 8), (⟨"BedBook$Rules", "valueOf", "(II[I)I"⟩, 8), (⟨"BedBook$Rules", "push", "(I)V"⟩, 8), (⟨"BedBook$Rules", "pop", "()I"⟩, 8), (⟨"BedBook$Plant", "fitsParents", "(ILBedBook$Plant;LBedBook$Plant;)Z"⟩, 17), (⟨"BedBook$Plant", "bears", "(II)Z"⟩, 17), (⟨"BedBook$Plant", "sameMarks", "(ILBedBook$Plant;)Z"⟩, 17)]
theorem lw_r2 : ∀ q ∈ lw_privs_2, lw_okq q := List.forall_mem_cons.mpr ⟨lw_p16, List.forall_mem_cons.mpr ⟨lw_p17, List.forall_mem_cons.mpr ⟨lw_p18, List.forall_mem_cons.mpr ⟨lw_p19, List.forall_mem_cons.mpr ⟨lw_p20, List.forall_mem_cons.mpr ⟨lw_p21, List.forall_mem_cons.mpr ⟨lw_p22, List.forall_mem_cons.mpr ⟨lw_p23, List.forall_mem_cons.mpr ⟨lw_p24, List.forall_mem_cons.mpr ⟨lw_p25, List.forall_mem_cons.mpr ⟨lw_p26, List.forall_mem_cons.mpr ⟨lw_p27, List.forall_mem_cons.mpr ⟨lw_p28, List.forall_mem_cons.mpr ⟨lw_p29, List.forall_mem_cons.mpr ⟨lw_p30, List.forall_mem_cons.mpr ⟨lw_p31, fun _ h => absurd h List.not_mem_nil⟩⟩⟩⟩⟩⟩⟩⟩⟩⟩⟩⟩⟩⟩⟩⟩
theorem lw_p32 : lw_okq (⟨"BedBook", "countDead", "()I"⟩, 12) := ⟨⟨by decide +kernel, by decide +kernel⟩, List.mem_of_getElem? (i := 23) (by decide +kernel), List.mem_of_getElem? (i := 749) (by decide +kernel), List.mem_of_getElem? (i := 750) (by decide +kernel)⟩
theorem lw_p33 : lw_okq (⟨"BedBook", "countLying", "()I"⟩, 12) := ⟨⟨by decide +kernel, by decide +kernel⟩, List.mem_of_getElem? (i := 23) (by decide +kernel), List.mem_of_getElem? (i := 753) (by decide +kernel), List.mem_of_getElem? (i := 754) (by decide +kernel)⟩
theorem lw_p34 : lw_okq (⟨"java/lang/Throwable", "fillInStackTrace", "(I)Ljava/lang/Throwable;"⟩, 6) := ⟨⟨by decide +kernel, by decide +kernel⟩, List.mem_of_getElem? (i := 801) (by decide +kernel), List.mem_of_getElem? (i := 799) (by decide +kernel), List.mem_of_getElem? (i := 800) (by decide +kernel)⟩
theorem lw_p35 : lw_okq (⟨"BedBookModel", "lay", "(J)V"⟩, 56) := ⟨⟨by decide +kernel, by decide +kernel⟩, List.mem_of_getElem? (i := 857) (by decide +kernel), List.mem_of_getElem? (i := 855) (by decide +kernel), List.mem_of_getElem? (i := 856) (by decide +kernel)⟩
theorem lw_p36 : lw_okq (⟨"BedBookModel", "cutAll", "()V"⟩, 56) := ⟨⟨by decide +kernel, by decide +kernel⟩, List.mem_of_getElem? (i := 857) (by decide +kernel), List.mem_of_getElem? (i := 1050) (by decide +kernel), List.mem_of_getElem? (i := 1051) (by decide +kernel)⟩
theorem lw_p37 : lw_okq (⟨"BedBookModel", "line", "()V"⟩, 56) := ⟨⟨by decide +kernel, by decide +kernel⟩, List.mem_of_getElem? (i := 857) (by decide +kernel), List.mem_of_getElem? (i := 1069) (by decide +kernel), List.mem_of_getElem? (i := 1070) (by decide +kernel)⟩
theorem lw_p38 : lw_okq (⟨"BedBookModel", "isWord", "(I)Z"⟩, 56) := ⟨⟨by decide +kernel, by decide +kernel⟩, List.mem_of_getElem? (i := 857) (by decide +kernel), List.mem_of_getElem? (i := 1073) (by decide +kernel), List.mem_of_getElem? (i := 1074) (by decide +kernel)⟩
theorem lw_p39 : lw_okq (⟨"BedBookModel", "wrong", "(I)V"⟩, 56) := ⟨⟨by decide +kernel, by decide +kernel⟩, List.mem_of_getElem? (i := 857) (by decide +kernel), List.mem_of_getElem? (i := 1077) (by decide +kernel), List.mem_of_getElem? (i := 1078) (by decide +kernel)⟩
theorem lw_p40 : lw_okq (⟨"BedBookModel", "takeWord", "(I)V"⟩, 56) := ⟨⟨by decide +kernel, by decide +kernel⟩, List.mem_of_getElem? (i := 857) (by decide +kernel), List.mem_of_getElem? (i := 1081) (by decide +kernel), List.mem_of_getElem? (i := 1082) (by decide +kernel)⟩
theorem lw_p41 : lw_okq (⟨"BedBookModel", "hasWord", "(I)Z"⟩, 56) := ⟨⟨by decide +kernel, by decide +kernel⟩, List.mem_of_getElem? (i := 857) (by decide +kernel), List.mem_of_getElem? (i := 1085) (by decide +kernel), List.mem_of_getElem? (i := 1086) (by decide +kernel)⟩
theorem lw_p42 : lw_okq (⟨"BedBookModel", "opens", "()V"⟩, 56) := ⟨⟨by decide +kernel, by decide +kernel⟩, List.mem_of_getElem? (i := 857) (by decide +kernel), List.mem_of_getElem? (i := 1089) (by decide +kernel), List.mem_of_getElem? (i := 1090) (by decide +kernel)⟩
theorem lw_p43 : lw_okq (⟨"BedBookModel", "part", "()Z"⟩, 56) := ⟨⟨by decide +kernel, by decide +kernel⟩, List.mem_of_getElem? (i := 857) (by decide +kernel), List.mem_of_getElem? (i := 1093) (by decide +kernel), List.mem_of_getElem? (i := 1094) (by decide +kernel)⟩
theorem lw_p44 : lw_okq (⟨"BedBookModel", "partWord", "()I"⟩, 56) := ⟨⟨by decide +kernel, by decide +kernel⟩, List.mem_of_getElem? (i := 857) (by decide +kernel), List.mem_of_getElem? (i := 1097) (by decide +kernel), List.mem_of_getElem? (i := 1098) (by decide +kernel)⟩
theorem lw_p45 : lw_okq (⟨"BedBookModel", "isSign", "(I)Z"⟩, 56) := ⟨⟨by decide +kernel, by decide +kernel⟩, List.mem_of_getElem? (i := 857) (by decide +kernel), List.mem_of_getElem? (i := 1101) (by decide +kernel), List.mem_of_getElem? (i := 1102) (by decide +kernel)⟩
theorem lw_p46 : lw_okq (⟨"BedBookModel", "hasSign", "(I)Z"⟩, 56) := ⟨⟨by decide +kernel, by decide +kernel⟩, List.mem_of_getElem? (i := 857) (by decide +kernel), List.mem_of_getElem? (i := 1105) (by decide +kernel), List.mem_of_getElem? (i := 1106) (by decide +kernel)⟩
theorem lw_p47 : lw_okq (⟨"BedBookModel", "emit", "(II)V"⟩, 56) := ⟨⟨by decide +kernel, by decide +kernel⟩, List.mem_of_getElem? (i := 857) (by decide +kernel), List.mem_of_getElem? (i := 1109) (by decide +kernel), List.mem_of_getElem? (i := 1110) (by decide +kernel)⟩
def lw_privs_3 : List (MethodName × Nat) := [(⟨"BedBook", "countDead", "()I"⟩, 12), (⟨"BedBook", "countLying", "()I"⟩, 12), (⟨"java/lang/Throwable", "fillInStackTrace", "(I)Ljava/lang/Throwable;"⟩, 6), (⟨"BedBookModel", "lay", "(J)V"⟩, 56), (⟨"BedBookModel", "cutAll", "()V"⟩, 56), (⟨"BedBookModel", "line", "()V"⟩, 56), (⟨"BedBookModel", "isWord", "(I)Z"⟩, 56), (⟨"BedBookModel", "wrong", "(I)V"⟩, 56), (⟨"BedBookModel", "takeWord", "(I)V"⟩, 56), (⟨"BedBookModel", "hasWord", "(I)Z"⟩, 56), (⟨"BedBookModel", "opens", "()V"⟩, 56), (⟨"BedBookModel", "part", "()Z"⟩, 56), (⟨"BedBookModel", "partWord", "()I"⟩, 56), (⟨"BedBookModel", "isSign", "(I)Z"⟩, 56), (⟨"BedBookModel", "hasSign", "(I)Z"⟩, 56), (⟨"BedBookModel", "emit", "(II)V"⟩, 56)]
theorem lw_r3 : ∀ q ∈ lw_privs_3, lw_okq q := List.forall_mem_cons.mpr ⟨lw_p32, List.forall_mem_cons.mpr ⟨lw_p33, List.forall_mem_cons.mpr ⟨lw_p34, List.forall_mem_cons.mpr ⟨lw_p35, List.forall_mem_cons.mpr ⟨lw_p36, List.forall_mem_cons.mpr ⟨lw_p37, List.forall_mem_cons.mpr ⟨lw_p38, List.forall_mem_cons.mpr ⟨lw_p39, List.forall_mem_cons.mpr ⟨lw_p40, List.forall_mem_cons.mpr ⟨lw_p41, List.forall_mem_cons.mpr ⟨lw_p42, List.forall_mem_cons.mpr ⟨lw_p43, List.forall_mem_cons.mpr ⟨lw_p44, List.forall_mem_cons.mpr ⟨lw_p45, List.forall_mem_cons.mpr ⟨lw_p46, List.forall_mem_cons.mpr ⟨lw_p47, fun _ h => absurd h List.not_mem_nil⟩⟩⟩⟩⟩⟩⟩⟩⟩⟩⟩⟩⟩⟩⟩⟩
theorem lw_p48 : lw_okq (⟨"BedBookModel", "goesOnBehind", "()Z"⟩, 56) := ⟨⟨by decide +kernel, by decide +kernel⟩, List.mem_of_getElem? (i := 857) (by decide +kernel), List.mem_of_getElem? (i := 1113) (by decide +kernel), List.mem_of_getElem? (i := 1114) (by decide +kernel)⟩
theorem lw_p49 : lw_okq (⟨"BedBookModel", "takeSign", "(I)V"⟩, 56) := ⟨⟨by decide +kernel, by decide +kernel⟩, List.mem_of_getElem? (i := 857) (by decide +kernel), List.mem_of_getElem? (i := 1117) (by decide +kernel), List.mem_of_getElem? (i := 1118) (by decide +kernel)⟩
theorem lw_p50 : lw_okq (⟨"BedBookModel", "grows", "(IIII)I"⟩, 56) := ⟨⟨by decide +kernel, by decide +kernel⟩, List.mem_of_getElem? (i := 857) (by decide +kernel), List.mem_of_getElem? (i := 1132) (by decide +kernel), List.mem_of_getElem? (i := 1133) (by decide +kernel)⟩
theorem lw_p51 : lw_okq (⟨"BedBookModel", "isPlant", "(I)Z"⟩, 56) := ⟨⟨by decide +kernel, by decide +kernel⟩, List.mem_of_getElem? (i := 857) (by decide +kernel), List.mem_of_getElem? (i := 1140) (by decide +kernel), List.mem_of_getElem? (i := 1141) (by decide +kernel)⟩
theorem lw_p52 : lw_okq (⟨"BedBookModel", "fitsAs", "(II)Z"⟩, 56) := ⟨⟨by decide +kernel, by decide +kernel⟩, List.mem_of_getElem? (i := 857) (by decide +kernel), List.mem_of_getElem? (i := 1160) (by decide +kernel), List.mem_of_getElem? (i := 1161) (by decide +kernel)⟩
theorem lw_p53 : lw_okq (⟨"BedBookModel", "markOf", "(III)I"⟩, 56) := ⟨⟨by decide +kernel, by decide +kernel⟩, List.mem_of_getElem? (i := 857) (by decide +kernel), List.mem_of_getElem? (i := 1164) (by decide +kernel), List.mem_of_getElem? (i := 1165) (by decide +kernel)⟩
theorem lw_p54 : lw_okq (⟨"BedBookModel", "hasMark", "(III)Z"⟩, 56) := ⟨⟨by decide +kernel, by decide +kernel⟩, List.mem_of_getElem? (i := 857) (by decide +kernel), List.mem_of_getElem? (i := 1168) (by decide +kernel), List.mem_of_getElem? (i := 1169) (by decide +kernel)⟩
theorem lw_p55 : lw_okq (⟨"BedBookModel", "leadsBack", "(II)Z"⟩, 56) := ⟨⟨by decide +kernel, by decide +kernel⟩, List.mem_of_getElem? (i := 857) (by decide +kernel), List.mem_of_getElem? (i := 1187) (by decide +kernel), List.mem_of_getElem? (i := 1188) (by decide +kernel)⟩
theorem lw_p56 : lw_okq (⟨"BedBookModel", "joinedTo", "(II)I"⟩, 56) := ⟨⟨by decide +kernel, by decide +kernel⟩, List.mem_of_getElem? (i := 857) (by decide +kernel), List.mem_of_getElem? (i := 1191) (by decide +kernel), List.mem_of_getElem? (i := 1192) (by decide +kernel)⟩
theorem lw_p57 : lw_okq (⟨"BedBookModel", "nameOf", "(III)I"⟩, 56) := ⟨⟨by decide +kernel, by decide +kernel⟩, List.mem_of_getElem? (i := 857) (by decide +kernel), List.mem_of_getElem? (i := 1199) (by decide +kernel), List.mem_of_getElem? (i := 1200) (by decide +kernel)⟩
theorem lw_p58 : lw_okq (⟨"BedBookModel", "leads", "(II)I"⟩, 56) := ⟨⟨by decide +kernel, by decide +kernel⟩, List.mem_of_getElem? (i := 857) (by decide +kernel), List.mem_of_getElem? (i := 1203) (by decide +kernel), List.mem_of_getElem? (i := 1204) (by decide +kernel)⟩
theorem lw_p59 : lw_okq (⟨"BedBookModel", "isBed", "(I)Z"⟩, 56) := ⟨⟨by decide +kernel, by decide +kernel⟩, List.mem_of_getElem? (i := 857) (by decide +kernel), List.mem_of_getElem? (i := 1218) (by decide +kernel), List.mem_of_getElem? (i := 1219) (by decide +kernel)⟩
theorem lw_p60 : lw_okq (⟨"BedBookModel", "suits", "(II)Z"⟩, 56) := ⟨⟨by decide +kernel, by decide +kernel⟩, List.mem_of_getElem? (i := 857) (by decide +kernel), List.mem_of_getElem? (i := 1230) (by decide +kernel), List.mem_of_getElem? (i := 1231) (by decide +kernel)⟩
theorem lw_p61 : lw_okq (⟨"BedBookModel", "comes", "(I)Z"⟩, 56) := ⟨⟨by decide +kernel, by decide +kernel⟩, List.mem_of_getElem? (i := 857) (by decide +kernel), List.mem_of_getElem? (i := 1238) (by decide +kernel), List.mem_of_getElem? (i := 1239) (by decide +kernel)⟩
theorem lw_p62 : lw_okq (⟨"BedBookModel", "begins", "(I)V"⟩, 56) := ⟨⟨by decide +kernel, by decide +kernel⟩, List.mem_of_getElem? (i := 857) (by decide +kernel), List.mem_of_getElem? (i := 1242) (by decide +kernel), List.mem_of_getElem? (i := 1243) (by decide +kernel)⟩
theorem lw_p63 : lw_okq (⟨"BedBookModel", "costOf", "(II)I"⟩, 56) := ⟨⟨by decide +kernel, by decide +kernel⟩, List.mem_of_getElem? (i := 857) (by decide +kernel), List.mem_of_getElem? (i := 1246) (by decide +kernel), List.mem_of_getElem? (i := 1247) (by decide +kernel)⟩
def lw_privs_4 : List (MethodName × Nat) := [(⟨"BedBookModel", "goesOnBehind", "()Z"⟩, 56), (⟨"BedBookModel", "takeSign", "(I)V"⟩, 56), (⟨"BedBookModel", "grows", "(IIII)I"⟩, 56), (⟨"BedBookModel", "isPlant", "(I)Z"⟩, 56), (⟨"BedBookModel", "fitsAs", "(II)Z"⟩, 56), (⟨"BedBookModel", "markOf", "(III)I"⟩, 56), (⟨"BedBookModel", "hasMark", "(III)Z"⟩, 56), (⟨"BedBookModel", "leadsBack", "(II)Z"⟩, 56), (⟨"BedBookModel", "joinedTo", "(II)I"⟩, 56), (⟨"BedBookModel", "nameOf", "(III)I"⟩, 56), (⟨"BedBookModel", "leads", "(II)I"⟩, 56), (⟨"BedBookModel", "isBed", "(I)Z"⟩, 56), (⟨"BedBookModel", "suits", "(II)Z"⟩, 56), (⟨"BedBookModel", "comes", "(I)Z"⟩, 56), (⟨"BedBookModel", "begins", "(I)V"⟩, 56), (⟨"BedBookModel", "costOf", "(II)I"⟩, 56)]
theorem lw_r4 : ∀ q ∈ lw_privs_4, lw_okq q := List.forall_mem_cons.mpr ⟨lw_p48, List.forall_mem_cons.mpr ⟨lw_p49, List.forall_mem_cons.mpr ⟨lw_p50, List.forall_mem_cons.mpr ⟨lw_p51, List.forall_mem_cons.mpr ⟨lw_p52, List.forall_mem_cons.mpr ⟨lw_p53, List.forall_mem_cons.mpr ⟨lw_p54, List.forall_mem_cons.mpr ⟨lw_p55, List.forall_mem_cons.mpr ⟨lw_p56, List.forall_mem_cons.mpr ⟨lw_p57, List.forall_mem_cons.mpr ⟨lw_p58, List.forall_mem_cons.mpr ⟨lw_p59, List.forall_mem_cons.mpr ⟨lw_p60, List.forall_mem_cons.mpr ⟨lw_p61, List.forall_mem_cons.mpr ⟨lw_p62, List.forall_mem_cons.mpr ⟨lw_p63, fun _ h => absurd h List.not_mem_nil⟩⟩⟩⟩⟩⟩⟩⟩⟩⟩⟩⟩⟩⟩⟩⟩
theorem lw_p64 : lw_okq (⟨"BedBookModel", "isSending", "(III)Z"⟩, 56) := ⟨⟨by decide +kernel, by decide +kernel⟩, List.mem_of_getElem? (i := 857) (by decide +kernel), List.mem_of_getElem? (i := 1255) (by decide +kernel), List.mem_of_getElem? (i := 1256) (by decide +kernel)⟩
theorem lw_p65 : lw_okq (⟨"BedBookModel", "lets", "(III)Z"⟩, 56) := ⟨⟨by decide +kernel, by decide +kernel⟩, List.mem_of_getElem? (i := 857) (by decide +kernel), List.mem_of_getElem? (i := 1259) (by decide +kernel), List.mem_of_getElem? (i := 1260) (by decide +kernel)⟩
theorem lw_p66 : lw_okq (⟨"BedBookModel", "rootOf", "(I)I"⟩, 56) := ⟨⟨by decide +kernel, by decide +kernel⟩, List.mem_of_getElem? (i := 857) (by decide +kernel), List.mem_of_getElem? (i := 1263) (by decide +kernel), List.mem_of_getElem? (i := 1264) (by decide +kernel)⟩
theorem lw_p67 : lw_okq (⟨"BedBookModel", "isCut", "(I)Z"⟩, 56) := ⟨⟨by decide +kernel, by decide +kernel⟩, List.mem_of_getElem? (i := 857) (by decide +kernel), List.mem_of_getElem? (i := 1267) (by decide +kernel), List.mem_of_getElem? (i := 1268) (by decide +kernel)⟩
theorem lw_p68 : lw_okq (⟨"BedBookModel", "worth", "(I)I"⟩, 56) := ⟨⟨by decide +kernel, by decide +kernel⟩, List.mem_of_getElem? (i := 857) (by decide +kernel), List.mem_of_getElem? (i := 1271) (by decide +kernel), List.mem_of_getElem? (i := 1272) (by decide +kernel)⟩
theorem lw_p69 : lw_okq (⟨"BedBookModel", "checks", "(I)Z"⟩, 56) := ⟨⟨by decide +kernel, by decide +kernel⟩, List.mem_of_getElem? (i := 857) (by decide +kernel), List.mem_of_getElem? (i := 1291) (by decide +kernel), List.mem_of_getElem? (i := 1292) (by decide +kernel)⟩
def lw_privs_5 : List (MethodName × Nat) := [(⟨"BedBookModel", "isSending", "(III)Z"⟩, 56), (⟨"BedBookModel", "lets", "(III)Z"⟩, 56), (⟨"BedBookModel", "rootOf", "(I)I"⟩, 56), (⟨"BedBookModel", "isCut", "(I)Z"⟩, 56), (⟨"BedBookModel", "worth", "(I)I"⟩, 56), (⟨"BedBookModel", "checks", "(I)Z"⟩, 56)]
theorem lw_r5 : ∀ q ∈ lw_privs_5, lw_okq q := List.forall_mem_cons.mpr ⟨lw_p64, List.forall_mem_cons.mpr ⟨lw_p65, List.forall_mem_cons.mpr ⟨lw_p66, List.forall_mem_cons.mpr ⟨lw_p67, List.forall_mem_cons.mpr ⟨lw_p68, List.forall_mem_cons.mpr ⟨lw_p69, fun _ h => absurd h List.not_mem_nil⟩⟩⟩⟩⟩⟩
def lw_privs : List (MethodName × Nat) := lw_privs_1 ++ (lw_privs_2 ++ (lw_privs_3 ++ (lw_privs_4 ++ (lw_privs_5))))
def lw_tbl : List Cond := k2_sels lw_privs ++ tables_1
theorem lw_privs_ok : ∀ q ∈ lw_privs, lw_okq q := by
  show ∀ q ∈ lw_privs_1 ++ (lw_privs_2 ++ (lw_privs_3 ++ (lw_privs_4 ++ (lw_privs_5)))), lw_okq q
  exact List.forall_mem_append.mpr ⟨lw_r1, List.forall_mem_append.mpr ⟨lw_r2, List.forall_mem_append.mpr ⟨lw_r3, List.forall_mem_append.mpr ⟨lw_r4, lw_r5⟩⟩⟩⟩
end
section
abbrev aM : Type := MethodName × ByteArray × Nat × Option FieldType
def RX0 : String := "BedBook$Bed"
def TX0 : u_T := fun k => match k with
  | 0 => ("BedBook$Bed", "light", "I", false)
  | 1 => ("BedBook$Bed", "wet", "I", false)
  | _ => ("BedBook$Bed", "room", "I", true)
def tyX0 : Nat → FieldType := fun k => match k with
  | 0 => .int
  | 1 => .int
  | _ => .int
theorem nmX0 : ∀ a, a < 3 → ∀ b, b < 3 → a ≠ b → (TX0 a).2.1 ≠ (TX0 b).2.1 := by decide +kernel
theorem tyX0_ok : ∀ k, k < 3 → parseFieldDescriptor (TX0 k).2.2.1 = some (tyX0 k) := by decide +kernel
abbrev cX0_init : ByteArray := prog_2_method_1_code
def yX0_init : MethodName := ⟨RX0, "<init>", "(III)V"⟩
def RX1 : String := "BedBook$MovePlan"
def TX1 : u_T := fun k => match k with
  | 0 => ("BedBook$MovePlan", "plants", "[LBedBook$Plant;", true)
  | 1 => ("BedBook$MovePlan", "beds", "[LBedBook$Bed;", true)
  | 2 => ("BedBook$MovePlan", "planned", "[I", true)
  | 3 => ("BedBook$MovePlan", "roomLeft", "[I", true)
  | 4 => ("BedBook$MovePlan", "cost", "[I", true)
  | 5 => ("BedBook$MovePlan", "comer", "[I", true)
  | 6 => ("BedBook$MovePlan", "plantCount", "I", false)
  | _ => ("BedBook$MovePlan", "bedCount", "I", false)
def tyX1 : Nat → FieldType := fun k => match k with
  | 0 => .array (.object "BedBook$Plant")
  | 1 => .array (.object "BedBook$Bed")
  | 2 => .array .int
  | 3 => .array .int
  | 4 => .array .int
  | 5 => .array .int
  | 6 => .int
  | _ => .int
theorem nmX1 : ∀ a, a < 8 → ∀ b, b < 8 → a ≠ b → (TX1 a).2.1 ≠ (TX1 b).2.1 := by decide +kernel
theorem tyX1_ok : ∀ k, k < 8 → parseFieldDescriptor (TX1 k).2.2.1 = some (tyX1 k) := by decide +kernel
abbrev cX1_init : ByteArray := prog_3_method_1_code
def yX1_init : MethodName := ⟨RX1, "<init>", "([LBedBook$Plant;[LBedBook$Bed;)V"⟩
abbrev cX1_fewest : ByteArray := prog_3_method_2_code
def yX1_fewest : MethodName := ⟨RX1, "fewest", "(II)I"⟩
abbrev cX1_leaveWhatSuits : ByteArray := prog_3_method_3_code
def yX1_leaveWhatSuits : MethodName := ⟨RX1, "leaveWhatSuits", "()V"⟩
abbrev cX1_bringIn : ByteArray := prog_3_method_4_code
def yX1_bringIn : MethodName := ⟨RX1, "bringIn", "(I)Z"⟩
abbrev cX1_spreadCosts : ByteArray := prog_3_method_5_code
def yX1_spreadCosts : MethodName := ⟨RX1, "spreadCosts", "()V"⟩
abbrev cX1_spreadFrom : ByteArray := prog_3_method_6_code
def yX1_spreadFrom : MethodName := ⟨RX1, "spreadFrom", "(I)Z"⟩
abbrev cX1_cheapestWithRoom : ByteArray := prog_3_method_7_code
def yX1_cheapestWithRoom : MethodName := ⟨RX1, "cheapestWithRoom", "()I"⟩
abbrev cX1_shiftAlong : ByteArray := prog_3_method_8_code
def yX1_shiftAlong : MethodName := ⟨RX1, "shiftAlong", "(I)V"⟩
abbrev cX1_price : ByteArray := prog_3_method_9_code
def yX1_price : MethodName := ⟨RX1, "price", "(II)I"⟩
def RX2 : String := "BedBook$NameBook"
def TX2 : u_T := fun k => match k with
  | 0 => ("BedBook$NameBook", "givenPlant", "[I", true)
  | 1 => ("BedBook$NameBook", "givenName", "[I", true)
  | 2 => ("BedBook$NameBook", "givenDay", "[I", true)
  | 3 => ("BedBook$NameBook", "tieName", "[I", true)
  | 4 => ("BedBook$NameBook", "tieTo", "[I", true)
  | 5 => ("BedBook$NameBook", "tieDay", "[I", true)
  | 6 => ("BedBook$NameBook", "givenCount", "I", false)
  | _ => ("BedBook$NameBook", "tieCount", "I", false)
def tyX2 : Nat → FieldType := fun k => match k with
  | 0 => .array .int
  | 1 => .array .int
  | 2 => .array .int
  | 3 => .array .int
  | 4 => .array .int
  | 5 => .array .int
  | 6 => .int
  | _ => .int
theorem nmX2 : ∀ a, a < 8 → ∀ b, b < 8 → a ≠ b → (TX2 a).2.1 ≠ (TX2 b).2.1 := by decide +kernel
theorem tyX2_ok : ∀ k, k < 8 → parseFieldDescriptor (TX2 k).2.2.1 = some (tyX2 k) := by decide +kernel
abbrev cX2_init : ByteArray := prog_4_method_1_code
def yX2_init : MethodName := ⟨RX2, "<init>", "()V"⟩
abbrev cX2_give : ByteArray := prog_4_method_2_code
def yX2_give : MethodName := ⟨RX2, "give", "(III)Z"⟩
abbrev cX2_tie : ByteArray := prog_4_method_3_code
def yX2_tie : MethodName := ⟨RX2, "tie", "(III)Z"⟩
abbrev cX2_nameOf : ByteArray := prog_4_method_4_code
def yX2_nameOf : MethodName := ⟨RX2, "nameOf", "(III)I"⟩
abbrev cX2_leadsTo : ByteArray := prog_4_method_5_code
def yX2_leadsTo : MethodName := ⟨RX2, "leadsTo", "(III)Z"⟩
abbrev cX2_givenAsOf : ByteArray := prog_4_method_6_code
def yX2_givenAsOf : MethodName := ⟨RX2, "givenAsOf", "(II)I"⟩
abbrev cX2_tiedAsOf : ByteArray := prog_4_method_7_code
def yX2_tiedAsOf : MethodName := ⟨RX2, "tiedAsOf", "(II)I"⟩
def RX3 : String := "BedBook$Plant"
def TX3 : u_T := fun k => match k with
  | 0 => ("BedBook$Plant", "number", "I", true)
  | 1 => ("BedBook$Plant", "kind", "I", true)
  | 2 => ("BedBook$Plant", "parent", "LBedBook$Plant;", true)
  | 3 => ("BedBook$Plant", "father", "LBedBook$Plant;", true)
  | 4 => ("BedBook$Plant", "root", "I", true)
  | 5 => ("BedBook$Plant", "place", "I", true)
  | 6 => ("BedBook$Plant", "isCut", "Z", true)
  | 7 => ("BedBook$Plant", "marks", "[I", true)
  | 8 => ("BedBook$Plant", "pieces", "I", false)
  | 9 => ("BedBook$Plant", "lightFrom", "I", false)
  | 10 => ("BedBook$Plant", "lightTo", "I", false)
  | 11 => ("BedBook$Plant", "wetFrom", "I", false)
  | 12 => ("BedBook$Plant", "wetTo", "I", false)
  | 13 => ("BedBook$Plant", "bed", "I", false)
  | 14 => ("BedBook$Plant", "missed", "I", false)
  | 15 => ("BedBook$Plant", "isDead", "Z", false)
  | _ => ("BedBook$Plant", "toldPieces", "I", false)
def tyX3 : Nat → FieldType := fun k => match k with
  | 0 => .int
  | 1 => .int
  | 2 => .object "BedBook$Plant"
  | 3 => .object "BedBook$Plant"
  | 4 => .int
  | 5 => .int
  | 6 => .boolean
  | 7 => .array .int
  | 8 => .int
  | 9 => .int
  | 10 => .int
  | 11 => .int
  | 12 => .int
  | 13 => .int
  | 14 => .int
  | 15 => .boolean
  | _ => .int
theorem nmX3 : ∀ a, a < 17 → ∀ b, b < 17 → a ≠ b → (TX3 a).2.1 ≠ (TX3 b).2.1 := by decide +kernel
theorem tyX3_ok : ∀ k, k < 17 → parseFieldDescriptor (TX3 k).2.2.1 = some (tyX3 k) := by decide +kernel
abbrev cX3_init : ByteArray := prog_5_method_1_code
def yX3_init : MethodName := ⟨RX3, "<init>", "(III)V"⟩
abbrev cX3_init_ : ByteArray := prog_5_method_2_code
def yX3_init_ : MethodName := ⟨RX3, "<init>", "(IILBedBook$Plant;LBedBook$Plant;I)V"⟩
abbrev cX3_setMarks : ByteArray := prog_5_method_3_code
def yX3_setMarks : MethodName := ⟨RX3, "setMarks", "(III)V"⟩
abbrev cX3_suits : ByteArray := prog_5_method_4_code
def yX3_suits : MethodName := ⟨RX3, "suits", "(LBedBook$Bed;)Z"⟩
abbrev cX3_diesByCheck : ByteArray := prog_5_method_5_code
def yX3_diesByCheck : MethodName := ⟨RX3, "diesByCheck", "()Z"⟩
abbrev cX3_fitsOriginOf : ByteArray := prog_5_method_6_code
def yX3_fitsOriginOf : MethodName := ⟨RX3, "fitsOriginOf", "(LBedBook$Plant;)Z"⟩
abbrev cX3_sameMarks : ByteArray := prog_5_method_7_code
def yX3_sameMarks : MethodName := ⟨RX3, "sameMarks", "(ILBedBook$Plant;)Z"⟩
abbrev cX3_fitsParents : ByteArray := prog_5_method_8_code
def yX3_fitsParents : MethodName := ⟨RX3, "fitsParents", "(ILBedBook$Plant;LBedBook$Plant;)Z"⟩
abbrev cX3_bears : ByteArray := prog_5_method_9_code
def yX3_bears : MethodName := ⟨RX3, "bears", "(II)Z"⟩
def RX4 : String := "BedBook$Reader"
def TX4 : u_T := fun k => match k with
  | 0 => ("BedBook$Reader", "tokens", "LBedBook$Tokens;", true)
  | 1 => ("BedBook$Reader", "draft", "LBedBook$Rules;", false)
  | 2 => ("BedBook$Reader", "at", "I", false)
  | 3 => ("BedBook$Reader", "kind", "I", false)
  | _ => ("BedBook$Reader", "fault", "I", false)
def tyX4 : Nat → FieldType := fun k => match k with
  | 0 => .object "BedBook$Tokens"
  | 1 => .object "BedBook$Rules"
  | 2 => .int
  | 3 => .int
  | _ => .int
theorem nmX4 : ∀ a, a < 5 → ∀ b, b < 5 → a ≠ b → (TX4 a).2.1 ≠ (TX4 b).2.1 := by decide +kernel
theorem tyX4_ok : ∀ k, k < 5 → parseFieldDescriptor (TX4 k).2.2.1 = some (tyX4 k) := by decide +kernel
abbrev cX4_init : ByteArray := prog_6_method_1_code
def yX4_init : MethodName := ⟨RX4, "<init>", "()V"⟩
abbrev cX4_readText : ByteArray := prog_6_method_2_code
def yX4_readText : MethodName := ⟨RX4, "readText", "(LBedBook$Tape;)I"⟩
abbrev cX4_exchangeDraft : ByteArray := prog_6_method_3_code
def yX4_exchangeDraft : MethodName := ⟨RX4, "exchangeDraft", "(LBedBook$Rules;)LBedBook$Rules;"⟩
abbrev cX4_beginsLine : ByteArray := prog_6_method_4_code
def yX4_beginsLine : MethodName := ⟨RX4, "beginsLine", "()Z"⟩
abbrev cX4_readLine : ByteArray := prog_6_method_5_code
def yX4_readLine : MethodName := ⟨RX4, "readLine", "()Z"⟩
abbrev cX4_readAnds : ByteArray := prog_6_method_6_code
def yX4_readAnds : MethodName := ⟨RX4, "readAnds", "(I)Z"⟩
abbrev cX4_readTest : ByteArray := prog_6_method_7_code
def yX4_readTest : MethodName := ⟨RX4, "readTest", "(I)Z"⟩
abbrev cX4_readSum : ByteArray := prog_6_method_8_code
def yX4_readSum : MethodName := ⟨RX4, "readSum", "(I)Z"⟩
abbrev cX4_readPart : ByteArray := prog_6_method_9_code
def yX4_readPart : MethodName := ⟨RX4, "readPart", "(I)Z"⟩
abbrev cX4_expect : ByteArray := prog_6_method_10_code
def yX4_expect : MethodName := ⟨RX4, "expect", "(I)Z"⟩
abbrev cX4_refuse : ByteArray := prog_6_method_11_code
def yX4_refuse : MethodName := ⟨RX4, "refuse", "(I)Z"⟩
abbrev cX4_advance : ByteArray := prog_6_method_12_code
def yX4_advance : MethodName := ⟨RX4, "advance", "()V"⟩
def RX5 : String := "BedBook$Rules"
def TX5 : u_T := fun k => match k with
  | 0 => ("BedBook$Rules", "codes", "[I", true)
  | 1 => ("BedBook$Rules", "numbers", "[I", true)
  | 2 => ("BedBook$Rules", "ends", "[I", true)
  | 3 => ("BedBook$Rules", "lets", "[Z", true)
  | 4 => ("BedBook$Rules", "waiting", "[I", true)
  | 5 => ("BedBook$Rules", "waitingCount", "I", false)
  | 6 => ("BedBook$Rules", "length", "I", false)
  | _ => ("BedBook$Rules", "lines", "I", false)
def tyX5 : Nat → FieldType := fun k => match k with
  | 0 => .array .int
  | 1 => .array .int
  | 2 => .array .int
  | 3 => .array .boolean
  | 4 => .array .int
  | 5 => .int
  | 6 => .int
  | _ => .int
theorem nmX5 : ∀ a, a < 8 → ∀ b, b < 8 → a ≠ b → (TX5 a).2.1 ≠ (TX5 b).2.1 := by decide +kernel
theorem tyX5_ok : ∀ k, k < 8 → parseFieldDescriptor (TX5 k).2.2.1 = some (tyX5 k) := by decide +kernel
abbrev cX5_init : ByteArray := prog_7_method_1_code
def yX5_init : MethodName := ⟨RX5, "<init>", "()V"⟩
abbrev cX5_makeEmpty : ByteArray := prog_7_method_2_code
def yX5_makeEmpty : MethodName := ⟨RX5, "makeEmpty", "()V"⟩
abbrev cX5_addCode : ByteArray := prog_7_method_3_code
def yX5_addCode : MethodName := ⟨RX5, "addCode", "(II)V"⟩
abbrev cX5_endLine : ByteArray := prog_7_method_4_code
def yX5_endLine : MethodName := ⟨RX5, "endLine", "(Z)V"⟩
abbrev cX5_permit : ByteArray := prog_7_method_5_code
def yX5_permit : MethodName := ⟨RX5, "permit", "([I)Z"⟩
abbrev cX5_valueOf : ByteArray := prog_7_method_6_code
def yX5_valueOf : MethodName := ⟨RX5, "valueOf", "(II[I)I"⟩
abbrev cX5_push : ByteArray := prog_7_method_7_code
def yX5_push : MethodName := ⟨RX5, "push", "(I)V"⟩
abbrev cX5_pop : ByteArray := prog_7_method_8_code
def yX5_pop : MethodName := ⟨RX5, "pop", "()I"⟩
abbrev cX5_joined : ByteArray := prog_7_method_9_code
def yX5_joined : MethodName := ⟨RX5, "joined", "(III)I"⟩
def RX6 : String := "BedBook$SendLog"
def TX6 : u_T := fun k => match k with
  | 0 => ("BedBook$SendLog", "entries", "[I", true)
  | _ => ("BedBook$SendLog", "length", "I", false)
def tyX6 : Nat → FieldType := fun k => match k with
  | 0 => .array .int
  | _ => .int
theorem nmX6 : ∀ a, a < 2 → ∀ b, b < 2 → a ≠ b → (TX6 a).2.1 ≠ (TX6 b).2.1 := by decide +kernel
theorem tyX6_ok : ∀ k, k < 2 → parseFieldDescriptor (TX6 k).2.2.1 = some (tyX6 k) := by decide +kernel
abbrev cX6_init : ByteArray := prog_8_method_1_code
def yX6_init : MethodName := ⟨RX6, "<init>", "()V"⟩
abbrev cX6_write : ByteArray := prog_8_method_2_code
def yX6_write : MethodName := ⟨RX6, "write", "(IIII)Z"⟩
abbrev cX6_entry : ByteArray := prog_8_method_3_code
def yX6_entry : MethodName := ⟨RX6, "entry", "(II)I"⟩
def RX7 : String := "BedBook$Tape"
def TX7 : u_T := fun k => match k with
  | 0 => ("BedBook$Tape", "signs", "[I", true)
  | _ => ("BedBook$Tape", "length", "I", false)
def tyX7 : Nat → FieldType := fun k => match k with
  | 0 => .array .int
  | _ => .int
theorem nmX7 : ∀ a, a < 2 → ∀ b, b < 2 → a ≠ b → (TX7 a).2.1 ≠ (TX7 b).2.1 := by decide +kernel
theorem tyX7_ok : ∀ k, k < 2 → parseFieldDescriptor (TX7 k).2.2.1 = some (tyX7 k) := by decide +kernel
abbrev cX7_init : ByteArray := prog_9_method_1_code
def yX7_init : MethodName := ⟨RX7, "<init>", "()V"⟩
abbrev cX7_takeBytes : ByteArray := prog_9_method_2_code
def yX7_takeBytes : MethodName := ⟨RX7, "takeBytes", "(J)V"⟩
abbrev cX7_endOfBlanks : ByteArray := prog_9_method_3_code
def yX7_endOfBlanks : MethodName := ⟨RX7, "endOfBlanks", "(I)I"⟩
abbrev cX7_endOfLetters : ByteArray := prog_9_method_4_code
def yX7_endOfLetters : MethodName := ⟨RX7, "endOfLetters", "(I)I"⟩
abbrev cX7_endOfDigits : ByteArray := prog_9_method_5_code
def yX7_endOfDigits : MethodName := ⟨RX7, "endOfDigits", "(I)I"⟩
abbrev cX7_numberIn : ByteArray := prog_9_method_6_code
def yX7_numberIn : MethodName := ⟨RX7, "numberIn", "(II)I"⟩
abbrev cX7_spells : ByteArray := prog_9_method_7_code
def yX7_spells : MethodName := ⟨RX7, "spells", "(Ljava/lang/String;II)Z"⟩
def RX8 : String := "BedBook$Tokens"
def TX8 : u_T := fun k => match k with
  | 0 => ("BedBook$Tokens", "kinds", "[I", true)
  | 1 => ("BedBook$Tokens", "starts", "[I", true)
  | 2 => ("BedBook$Tokens", "numbers", "[I", true)
  | _ => ("BedBook$Tokens", "length", "I", false)
def tyX8 : Nat → FieldType := fun k => match k with
  | 0 => .array .int
  | 1 => .array .int
  | 2 => .array .int
  | _ => .int
theorem nmX8 : ∀ a, a < 4 → ∀ b, b < 4 → a ≠ b → (TX8 a).2.1 ≠ (TX8 b).2.1 := by decide +kernel
theorem tyX8_ok : ∀ k, k < 4 → parseFieldDescriptor (TX8 k).2.2.1 = some (tyX8 k) := by decide +kernel
abbrev cX8_init : ByteArray := prog_10_method_1_code
def yX8_init : MethodName := ⟨RX8, "<init>", "()V"⟩
abbrev cX8_scan : ByteArray := prog_10_method_2_code
def yX8_scan : MethodName := ⟨RX8, "scan", "(LBedBook$Tape;)V"⟩
abbrev cX8_scanOne : ByteArray := prog_10_method_3_code
def yX8_scanOne : MethodName := ⟨RX8, "scanOne", "(LBedBook$Tape;I)I"⟩
abbrev cX8_add : ByteArray := prog_10_method_4_code
def yX8_add : MethodName := ⟨RX8, "add", "(III)V"⟩
abbrev cX8_kindOfWord : ByteArray := prog_10_method_5_code
def yX8_kindOfWord : MethodName := ⟨RX8, "kindOfWord", "(LBedBook$Tape;II)I"⟩
abbrev cX8_kindOfSign : ByteArray := prog_10_method_6_code
def yX8_kindOfSign : MethodName := ⟨RX8, "kindOfSign", "(I)I"⟩
def RX9 : String := "BedBook"
def TX9 : u_T := fun k => match k with
  | 0 => ("BedBook", "plants", "[LBedBook$Plant;", true)
  | 1 => ("BedBook", "beds", "[LBedBook$Bed;", true)
  | 2 => ("BedBook", "nameBook", "LBedBook$NameBook;", true)
  | 3 => ("BedBook", "movePlan", "LBedBook$MovePlan;", true)
  | 4 => ("BedBook", "tape", "LBedBook$Tape;", true)
  | 5 => ("BedBook", "reader", "LBedBook$Reader;", true)
  | 6 => ("BedBook", "sendLog", "LBedBook$SendLog;", true)
  | 7 => ("BedBook", "facts", "[I", true)
  | 8 => ("BedBook", "rules", "LBedBook$Rules;", false)
  | 9 => ("BedBook", "plantCount", "I", false)
  | 10 => ("BedBook", "bedCount", "I", false)
  | _ => ("BedBook", "now", "I", false)
def tyX9 : Nat → FieldType := fun k => match k with
  | 0 => .array (.object "BedBook$Plant")
  | 1 => .array (.object "BedBook$Bed")
  | 2 => .object "BedBook$NameBook"
  | 3 => .object "BedBook$MovePlan"
  | 4 => .object "BedBook$Tape"
  | 5 => .object "BedBook$Reader"
  | 6 => .object "BedBook$SendLog"
  | 7 => .array .int
  | 8 => .object "BedBook$Rules"
  | 9 => .int
  | 10 => .int
  | _ => .int
theorem nmX9 : ∀ a, a < 12 → ∀ b, b < 12 → a ≠ b → (TX9 a).2.1 ≠ (TX9 b).2.1 := by decide +kernel
theorem tyX9_ok : ∀ k, k < 12 → parseFieldDescriptor (TX9 k).2.2.1 = some (tyX9 k) := by decide +kernel
abbrev cX9_init : ByteArray := prog_1_method_1_code
def yX9_init : MethodName := ⟨RX9, "<init>", "()V"⟩
abbrev cX9_days : ByteArray := prog_1_method_2_code
def yX9_days : MethodName := ⟨RX9, "days", "(I)I"⟩
abbrev cX9_wild : ByteArray := prog_1_method_3_code
def yX9_wild : MethodName := ⟨RX9, "wild", "(II)I"⟩
abbrev cX9_seed : ByteArray := prog_1_method_4_code
def yX9_seed : MethodName := ⟨RX9, "seed", "(III)I"⟩
abbrev cX9_cut : ByteArray := prog_1_method_5_code
def yX9_cut : MethodName := ⟨RX9, "cut", "(II)I"⟩
abbrev cX9_split : ByteArray := prog_1_method_6_code
def yX9_split : MethodName := ⟨RX9, "split", "(II)I"⟩
abbrev cX9_mark : ByteArray := prog_1_method_7_code
def yX9_mark : MethodName := ⟨RX9, "mark", "(IIII)Z"⟩
abbrev cX9_name : ByteArray := prog_1_method_8_code
def yX9_name : MethodName := ⟨RX9, "name", "(II)Z"⟩
abbrev cX9_join : ByteArray := prog_1_method_9_code
def yX9_join : MethodName := ⟨RX9, "join", "(II)Z"⟩
abbrev cX9_named : ByteArray := prog_1_method_10_code
def yX9_named : MethodName := ⟨RX9, "named", "(III)I"⟩
abbrev cX9_bed : ByteArray := prog_1_method_11_code
def yX9_bed : MethodName := ⟨RX9, "bed", "(III)I"⟩
abbrev cX9_change : ByteArray := prog_1_method_12_code
def yX9_change : MethodName := ⟨RX9, "change", "(III)Z"⟩
abbrev cX9_needs : ByteArray := prog_1_method_13_code
def yX9_needs : MethodName := ⟨RX9, "needs", "(IIIII)Z"⟩
abbrev cX9_lay : ByteArray := prog_1_method_14_code
def yX9_lay : MethodName := ⟨RX9, "lay", "(II)Z"⟩
abbrev cX9_moves : ByteArray := prog_1_method_15_code
def yX9_moves : MethodName := ⟨RX9, "moves", "()I"⟩
abbrev cX9_feed : ByteArray := prog_1_method_16_code
def yX9_feed : MethodName := ⟨RX9, "feed", "(JJJ)I"⟩
abbrev cX9_text : ByteArray := prog_1_method_17_code
def yX9_text : MethodName := ⟨RX9, "text", "()I"⟩
abbrev cX9_may : ByteArray := prog_1_method_18_code
def yX9_may : MethodName := ⟨RX9, "may", "(III)I"⟩
abbrev cX9_send : ByteArray := prog_1_method_19_code
def yX9_send : MethodName := ⟨RX9, "send", "(III)Z"⟩
abbrev cX9_sent : ByteArray := prog_1_method_20_code
def yX9_sent : MethodName := ⟨RX9, "sent", "(II)I"⟩
abbrev cX9_seen : ByteArray := prog_1_method_21_code
def yX9_seen : MethodName := ⟨RX9, "seen", "(II)Z"⟩
abbrev cX9_close : ByteArray := prog_1_method_22_code
def yX9_close : MethodName := ⟨RX9, "close", "(I)I"⟩
abbrev cX9_fits : ByteArray := prog_1_method_23_code
def yX9_fits : MethodName := ⟨RX9, "fits", "(I)I"⟩
abbrev cX9_changed : ByteArray := prog_1_method_24_code
def yX9_changed : MethodName := ⟨RX9, "changed", "(II)I"⟩
abbrev cX9_look : ByteArray := prog_1_method_25_code
def yX9_look : MethodName := ⟨RX9, "look", "(II)I"⟩
abbrev cX9_count : ByteArray := prog_1_method_26_code
def yX9_count : MethodName := ⟨RX9, "count", "(I)I"⟩
abbrev cX9_lookAtOrigin : ByteArray := prog_1_method_27_code
def yX9_lookAtOrigin : MethodName := ⟨RX9, "lookAtOrigin", "(LBedBook$Plant;I)I"⟩
abbrev cX9_lookAtState : ByteArray := prog_1_method_28_code
def yX9_lookAtState : MethodName := ⟨RX9, "lookAtState", "(LBedBook$Plant;I)I"⟩
abbrev cX9_numberOf : ByteArray := prog_1_method_29_code
def yX9_numberOf : MethodName := ⟨RX9, "numberOf", "(LBedBook$Plant;)I"⟩
abbrev cX9_countDead : ByteArray := prog_1_method_30_code
def yX9_countDead : MethodName := ⟨RX9, "countDead", "()I"⟩
abbrev cX9_countLying : ByteArray := prog_1_method_31_code
def yX9_countLying : MethodName := ⟨RX9, "countLying", "()I"⟩
abbrev cX9_within : ByteArray := prog_1_method_32_code
def yX9_within : MethodName := ⟨RX9, "within", "(III)Z"⟩
abbrev cX9_isDigit : ByteArray := prog_1_method_33_code
def yX9_isDigit : MethodName := ⟨RX9, "isDigit", "(I)Z"⟩
abbrev cX9_isSpan : ByteArray := prog_1_method_34_code
def yX9_isSpan : MethodName := ⟨RX9, "isSpan", "(II)Z"⟩
abbrev cX9_plantAt : ByteArray := prog_1_method_35_code
def yX9_plantAt : MethodName := ⟨RX9, "plantAt", "(I)LBedBook$Plant;"⟩
abbrev cX9_bedAt : ByteArray := prog_1_method_36_code
def yX9_bedAt : MethodName := ⟨RX9, "bedAt", "(I)LBedBook$Bed;"⟩
abbrev cX9_canEnter : ByteArray := prog_1_method_37_code
def yX9_canEnter : MethodName := ⟨RX9, "canEnter", "(I)Z"⟩
abbrev cX9_enter : ByteArray := prog_1_method_38_code
def yX9_enter : MethodName := ⟨RX9, "enter", "(LBedBook$Plant;)I"⟩
abbrev cX9_hasPlaceFor : ByteArray := prog_1_method_39_code
def yX9_hasPlaceFor : MethodName := ⟨RX9, "hasPlaceFor", "(LBedBook$Plant;I)Z"⟩
def RX10 : String := "BedBookModel"
def TX10 : u_T := fun k => match k with
  | 0 => ("BedBookModel", "thrown", "I", false)
  | 1 => ("BedBookModel", "tape", "[I", true)
  | 2 => ("BedBookModel", "taped", "I", false)
  | 3 => ("BedBookModel", "size", "I", false)
  | 4 => ("BedBookModel", "sort", "[I", true)
  | 5 => ("BedBookModel", "place", "[I", true)
  | 6 => ("BedBookModel", "value", "[J", true)
  | 7 => ("BedBookModel", "at", "I", false)
  | 8 => ("BedBookModel", "fault", "I", false)
  | 9 => ("BedBookModel", "words", "[J", true)
  | 10 => ("BedBookModel", "lines", "[I", true)
  | 11 => ("BedBookModel", "isBar", "[Z", true)
  | 12 => ("BedBookModel", "lineAt", "[I", true)
  | 13 => ("BedBookModel", "op", "[I", true)
  | 14 => ("BedBookModel", "one", "[I", true)
  | 15 => ("BedBookModel", "holds", "I", false)
  | 16 => ("BedBookModel", "next", "I", false)
  | 17 => ("BedBookModel", "codes", "I", false)
  | 18 => ("BedBookModel", "deep", "I", false)
  | 19 => ("BedBookModel", "sumWaits", "[I", true)
  | 20 => ("BedBookModel", "signWaits", "[I", true)
  | 21 => ("BedBookModel", "andWaits", "[I", true)
  | 22 => ("BedBookModel", "known", "[I", true)
  | 23 => ("BedBookModel", "pile", "[I", true)
  | 24 => ("BedBookModel", "now", "I", false)
  | 25 => ("BedBookModel", "plants", "I", false)
  | 26 => ("BedBookModel", "kind", "[I", true)
  | 27 => ("BedBookModel", "of", "[I", true)
  | 28 => ("BedBookModel", "father", "[I", true)
  | 29 => ("BedBookModel", "pieces", "[I", true)
  | 30 => ("BedBookModel", "marks", "[I", true)
  | 31 => ("BedBookModel", "needs", "[I", true)
  | 32 => ("BedBookModel", "inBed", "[I", true)
  | 33 => ("BedBookModel", "seen", "[I", true)
  | 34 => ("BedBookModel", "missed", "[I", true)
  | 35 => ("BedBookModel", "isDead", "[Z", true)
  | 36 => ("BedBookModel", "wildAt", "[I", true)
  | 37 => ("BedBookModel", "given", "I", false)
  | 38 => ("BedBookModel", "givenTo", "[I", true)
  | 39 => ("BedBookModel", "givenName", "[I", true)
  | 40 => ("BedBookModel", "givenDay", "[I", true)
  | 41 => ("BedBookModel", "joins", "I", false)
  | 42 => ("BedBookModel", "joinName", "[I", true)
  | 43 => ("BedBookModel", "joinTo", "[I", true)
  | 44 => ("BedBookModel", "joinDay", "[I", true)
  | 45 => ("BedBookModel", "beds", "I", false)
  | 46 => ("BedBookModel", "light", "[I", true)
  | 47 => ("BedBookModel", "wet", "[I", true)
  | 48 => ("BedBookModel", "room", "[I", true)
  | 49 => ("BedBookModel", "goesTo", "[I", true)
  | 50 => ("BedBookModel", "many", "[I", true)
  | 51 => ("BedBookModel", "cost", "[I", true)
  | 52 => ("BedBookModel", "by", "[I", true)
  | 53 => ("BedBookModel", "from", "[I", true)
  | 54 => ("BedBookModel", "sends", "I", false)
  | _ => ("BedBookModel", "sentRow", "[I", true)
def tyX10 : Nat → FieldType := fun k => match k with
  | 0 => .int
  | 1 => .array .int
  | 2 => .int
  | 3 => .int
  | 4 => .array .int
  | 5 => .array .int
  | 6 => .array .long
  | 7 => .int
  | 8 => .int
  | 9 => .array .long
  | 10 => .array .int
  | 11 => .array .boolean
  | 12 => .array .int
  | 13 => .array .int
  | 14 => .array .int
  | 15 => .int
  | 16 => .int
  | 17 => .int
  | 18 => .int
  | 19 => .array .int
  | 20 => .array .int
  | 21 => .array .int
  | 22 => .array .int
  | 23 => .array .int
  | 24 => .int
  | 25 => .int
  | 26 => .array .int
  | 27 => .array .int
  | 28 => .array .int
  | 29 => .array .int
  | 30 => .array .int
  | 31 => .array .int
  | 32 => .array .int
  | 33 => .array .int
  | 34 => .array .int
  | 35 => .array .boolean
  | 36 => .array .int
  | 37 => .int
  | 38 => .array .int
  | 39 => .array .int
  | 40 => .array .int
  | 41 => .int
  | 42 => .array .int
  | 43 => .array .int
  | 44 => .array .int
  | 45 => .int
  | 46 => .array .int
  | 47 => .array .int
  | 48 => .array .int
  | 49 => .array .int
  | 50 => .array .int
  | 51 => .array .int
  | 52 => .array .int
  | 53 => .array .int
  | 54 => .int
  | _ => .array .int
theorem nmX10 : ∀ a, a < 56 → ∀ b, b < 56 → a ≠ b → (TX10 a).2.1 ≠ (TX10 b).2.1 := by decide +kernel
theorem tyX10_ok : ∀ k, k < 56 → parseFieldDescriptor (TX10 k).2.2.1 = some (tyX10 k) := by decide +kernel
abbrev cX10_thrown : ByteArray := prog_12_method_1_code
def yX10_thrown : MethodName := ⟨RX10, "thrown", "()I"⟩
abbrev cX10_feed : ByteArray := prog_12_method_2_code
def yX10_feed : MethodName := ⟨RX10, "feed", "(JJJ)I"⟩
abbrev cX10_lay : ByteArray := prog_12_method_3_code
def yX10_lay : MethodName := ⟨RX10, "lay", "(J)V"⟩
abbrev cX10_init : ByteArray := prog_12_method_4_code
def yX10_init : MethodName := ⟨RX10, "<init>", "()V"⟩
abbrev cX10_isLetter : ByteArray := prog_12_method_5_code
def yX10_isLetter : MethodName := ⟨RX10, "isLetter", "(I)Z"⟩
abbrev cX10_isDigit : ByteArray := prog_12_method_6_code
def yX10_isDigit : MethodName := ⟨RX10, "isDigit", "(I)Z"⟩
abbrev cX10_rank : ByteArray := prog_12_method_7_code
def yX10_rank : MethodName := ⟨RX10, "rank", "(I)I"⟩
abbrev cX10_isSignOf : ByteArray := prog_12_method_8_code
def yX10_isSignOf : MethodName := ⟨RX10, "isSignOf", "(I)Z"⟩
abbrev cX10_cutAll : ByteArray := prog_12_method_9_code
def yX10_cutAll : MethodName := ⟨RX10, "cutAll", "()V"⟩
abbrev cX10_wrong : ByteArray := prog_12_method_10_code
def yX10_wrong : MethodName := ⟨RX10, "wrong", "(I)V"⟩
abbrev cX10_isSign : ByteArray := prog_12_method_11_code
def yX10_isSign : MethodName := ⟨RX10, "isSign", "(I)Z"⟩
abbrev cX10_isWord : ByteArray := prog_12_method_12_code
def yX10_isWord : MethodName := ⟨RX10, "isWord", "(I)Z"⟩
abbrev cX10_takeSign : ByteArray := prog_12_method_13_code
def yX10_takeSign : MethodName := ⟨RX10, "takeSign", "(I)V"⟩
abbrev cX10_hasSign : ByteArray := prog_12_method_14_code
def yX10_hasSign : MethodName := ⟨RX10, "hasSign", "(I)Z"⟩
abbrev cX10_hasWord : ByteArray := prog_12_method_15_code
def yX10_hasWord : MethodName := ⟨RX10, "hasWord", "(I)Z"⟩
abbrev cX10_takeWord : ByteArray := prog_12_method_16_code
def yX10_takeWord : MethodName := ⟨RX10, "takeWord", "(I)V"⟩
abbrev cX10_emit : ByteArray := prog_12_method_17_code
def yX10_emit : MethodName := ⟨RX10, "emit", "(II)V"⟩
abbrev cX10_text : ByteArray := prog_12_method_18_code
def yX10_text : MethodName := ⟨RX10, "text", "()I"⟩
abbrev cX10_line : ByteArray := prog_12_method_19_code
def yX10_line : MethodName := ⟨RX10, "line", "()V"⟩
abbrev cX10_opens : ByteArray := prog_12_method_20_code
def yX10_opens : MethodName := ⟨RX10, "opens", "()V"⟩
abbrev cX10_partWord : ByteArray := prog_12_method_21_code
def yX10_partWord : MethodName := ⟨RX10, "partWord", "()I"⟩
abbrev cX10_part : ByteArray := prog_12_method_22_code
def yX10_part : MethodName := ⟨RX10, "part", "()Z"⟩
abbrev cX10_goesOnBehind : ByteArray := prog_12_method_23_code
def yX10_goesOnBehind : MethodName := ⟨RX10, "goesOnBehind", "()Z"⟩
abbrev cX10_worth : ByteArray := prog_12_method_24_code
def yX10_worth : MethodName := ⟨RX10, "worth", "(I)I"⟩
abbrev cX10_days : ByteArray := prog_12_method_25_code
def yX10_days : MethodName := ⟨RX10, "days", "(I)I"⟩
abbrev cX10_isPlant : ByteArray := prog_12_method_26_code
def yX10_isPlant : MethodName := ⟨RX10, "isPlant", "(I)Z"⟩
abbrev cX10_grows : ByteArray := prog_12_method_27_code
def yX10_grows : MethodName := ⟨RX10, "grows", "(IIII)I"⟩
abbrev cX10_areMany : ByteArray := prog_12_method_28_code
def yX10_areMany : MethodName := ⟨RX10, "areMany", "(I)Z"⟩
abbrev cX10_wild : ByteArray := prog_12_method_29_code
def yX10_wild : MethodName := ⟨RX10, "wild", "(II)I"⟩
abbrev cX10_seed : ByteArray := prog_12_method_30_code
def yX10_seed : MethodName := ⟨RX10, "seed", "(III)I"⟩
abbrev cX10_cut : ByteArray := prog_12_method_31_code
def yX10_cut : MethodName := ⟨RX10, "cut", "(II)I"⟩
abbrev cX10_split : ByteArray := prog_12_method_32_code
def yX10_split : MethodName := ⟨RX10, "split", "(II)I"⟩
abbrev cX10_rootOf : ByteArray := prog_12_method_33_code
def yX10_rootOf : MethodName := ⟨RX10, "rootOf", "(I)I"⟩
abbrev cX10_isCut : ByteArray := prog_12_method_34_code
def yX10_isCut : MethodName := ⟨RX10, "isCut", "(I)Z"⟩
abbrev cX10_mark : ByteArray := prog_12_method_35_code
def yX10_mark : MethodName := ⟨RX10, "mark", "(IIII)Z"⟩
abbrev cX10_markOf : ByteArray := prog_12_method_36_code
def yX10_markOf : MethodName := ⟨RX10, "markOf", "(III)I"⟩
abbrev cX10_hasMark : ByteArray := prog_12_method_37_code
def yX10_hasMark : MethodName := ⟨RX10, "hasMark", "(III)Z"⟩
abbrev cX10_fitsAs : ByteArray := prog_12_method_38_code
def yX10_fitsAs : MethodName := ⟨RX10, "fitsAs", "(II)Z"⟩
abbrev cX10_fits : ByteArray := prog_12_method_39_code
def yX10_fits : MethodName := ⟨RX10, "fits", "(I)I"⟩
abbrev cX10_changed : ByteArray := prog_12_method_40_code
def yX10_changed : MethodName := ⟨RX10, "changed", "(II)I"⟩
abbrev cX10_isName : ByteArray := prog_12_method_41_code
def yX10_isName : MethodName := ⟨RX10, "isName", "(I)Z"⟩
abbrev cX10_name : ByteArray := prog_12_method_42_code
def yX10_name : MethodName := ⟨RX10, "name", "(II)Z"⟩
abbrev cX10_leads : ByteArray := prog_12_method_43_code
def yX10_leads : MethodName := ⟨RX10, "leads", "(II)I"⟩
abbrev cX10_joinedTo : ByteArray := prog_12_method_44_code
def yX10_joinedTo : MethodName := ⟨RX10, "joinedTo", "(II)I"⟩
abbrev cX10_leadsBack : ByteArray := prog_12_method_45_code
def yX10_leadsBack : MethodName := ⟨RX10, "leadsBack", "(II)Z"⟩
abbrev cX10_join : ByteArray := prog_12_method_46_code
def yX10_join : MethodName := ⟨RX10, "join", "(II)Z"⟩
abbrev cX10_nameOf : ByteArray := prog_12_method_47_code
def yX10_nameOf : MethodName := ⟨RX10, "nameOf", "(III)I"⟩
abbrev cX10_named : ByteArray := prog_12_method_48_code
def yX10_named : MethodName := ⟨RX10, "named", "(III)I"⟩
abbrev cX10_isDigitNumber : ByteArray := prog_12_method_49_code
def yX10_isDigitNumber : MethodName := ⟨RX10, "isDigitNumber", "(I)Z"⟩
abbrev cX10_bed : ByteArray := prog_12_method_50_code
def yX10_bed : MethodName := ⟨RX10, "bed", "(III)I"⟩
abbrev cX10_isBed : ByteArray := prog_12_method_51_code
def yX10_isBed : MethodName := ⟨RX10, "isBed", "(I)Z"⟩
abbrev cX10_change : ByteArray := prog_12_method_52_code
def yX10_change : MethodName := ⟨RX10, "change", "(III)Z"⟩
abbrev cX10_needs : ByteArray := prog_12_method_53_code
def yX10_needs : MethodName := ⟨RX10, "needs", "(IIIII)Z"⟩
abbrev cX10_suits : ByteArray := prog_12_method_54_code
def yX10_suits : MethodName := ⟨RX10, "suits", "(II)Z"⟩
abbrev cX10_lay_ : ByteArray := prog_12_method_55_code
def yX10_lay_ : MethodName := ⟨RX10, "lay", "(II)Z"⟩
abbrev cX10_costOf : ByteArray := prog_12_method_56_code
def yX10_costOf : MethodName := ⟨RX10, "costOf", "(II)I"⟩
abbrev cX10_begins : ByteArray := prog_12_method_57_code
def yX10_begins : MethodName := ⟨RX10, "begins", "(I)V"⟩
abbrev cX10_comes : ByteArray := prog_12_method_58_code
def yX10_comes : MethodName := ⟨RX10, "comes", "(I)Z"⟩
abbrev cX10_moves : ByteArray := prog_12_method_59_code
def yX10_moves : MethodName := ⟨RX10, "moves", "()I"⟩
abbrev cX10_lets : ByteArray := prog_12_method_60_code
def yX10_lets : MethodName := ⟨RX10, "lets", "(III)Z"⟩
abbrev cX10_isSending : ByteArray := prog_12_method_61_code
def yX10_isSending : MethodName := ⟨RX10, "isSending", "(III)Z"⟩
abbrev cX10_may : ByteArray := prog_12_method_62_code
def yX10_may : MethodName := ⟨RX10, "may", "(III)I"⟩
abbrev cX10_send : ByteArray := prog_12_method_63_code
def yX10_send : MethodName := ⟨RX10, "send", "(III)Z"⟩
abbrev cX10_sent : ByteArray := prog_12_method_64_code
def yX10_sent : MethodName := ⟨RX10, "sent", "(II)I"⟩
abbrev cX10_seen : ByteArray := prog_12_method_65_code
def yX10_seen : MethodName := ⟨RX10, "seen", "(II)Z"⟩
abbrev cX10_close : ByteArray := prog_12_method_66_code
def yX10_close : MethodName := ⟨RX10, "close", "(I)I"⟩
abbrev cX10_checks : ByteArray := prog_12_method_67_code
def yX10_checks : MethodName := ⟨RX10, "checks", "(I)Z"⟩
abbrev cX10_look : ByteArray := prog_12_method_68_code
def yX10_look : MethodName := ⟨RX10, "look", "(II)I"⟩
abbrev cX10_count : ByteArray := prog_12_method_69_code
def yX10_count : MethodName := ⟨RX10, "count", "(I)I"⟩
def RL : String := "BedBookLaw"
abbrev cL_named : ByteArray := method_3_code
def yL_named : MethodName := ⟨RL, "named", "(LBedBook;III[J)I"⟩
abbrev cL_look : ByteArray := method_4_code
def yL_look : MethodName := ⟨RL, "look", "(LBedBook;II[J)I"⟩
abbrev cL_law : ByteArray := code
def yL_law : MethodName := ⟨RL, "law", "([I)Z"⟩
set_option maxRecDepth 100000 in
theorem inX0 : ∀ w ∈ u_ws RX0 TX0 3, w ∈ lw_tbl := by decide +kernel
set_option maxRecDepth 100000 in
theorem inX1 : ∀ w ∈ u_ws RX1 TX1 8, w ∈ lw_tbl := by decide +kernel
set_option maxRecDepth 100000 in
theorem inX2 : ∀ w ∈ u_ws RX2 TX2 8, w ∈ lw_tbl := by decide +kernel
set_option maxRecDepth 100000 in
theorem inX3 : ∀ w ∈ u_ws RX3 TX3 17, w ∈ lw_tbl := by decide +kernel
set_option maxRecDepth 100000 in
theorem inX4 : ∀ w ∈ u_ws RX4 TX4 5, w ∈ lw_tbl := by decide +kernel
set_option maxRecDepth 100000 in
theorem inX5 : ∀ w ∈ u_ws RX5 TX5 8, w ∈ lw_tbl := by decide +kernel
set_option maxRecDepth 100000 in
theorem inX6 : ∀ w ∈ u_ws RX6 TX6 2, w ∈ lw_tbl := by decide +kernel
set_option maxRecDepth 100000 in
theorem inX7 : ∀ w ∈ u_ws RX7 TX7 2, w ∈ lw_tbl := by decide +kernel
set_option maxRecDepth 100000 in
theorem inX8 : ∀ w ∈ u_ws RX8 TX8 4, w ∈ lw_tbl := by decide +kernel
set_option maxRecDepth 100000 in
theorem inX9 : ∀ w ∈ u_ws RX9 TX9 12, w ∈ lw_tbl := by decide +kernel
set_option maxRecDepth 100000 in
theorem inX10 : ∀ w ∈ u_ws RX10 TX10 56, w ∈ lw_tbl := by decide +kernel
abbrev vwCl : List vw_C := [(RX0, TX0, 3), (RX1, TX1, 8), (RX2, TX2, 8), (RX3, TX3, 17), (RX4, TX4, 5), (RX5, TX5, 8), (RX6, TX6, 2), (RX7, TX7, 2), (RX8, TX8, 4), (RX9, TX9, 12), (RX10, TX10, 56)]
def mX0_init : aM := (yX0_init, cX0_init, 4, none)
def mX1_init : aM := (yX1_init, cX1_init, 3, none)
def mX9_within : aM := (yX9_within, cX9_within, 3, (some .boolean))
def mX3_suits : aM := (yX3_suits, cX3_suits, 2, (some .boolean))
def mX1_leaveWhatSuits : aM := (yX1_leaveWhatSuits, cX1_leaveWhatSuits, 3, none)
def mX1_price : aM := (yX1_price, cX1_price, 3, (some .int))
def mX1_spreadFrom : aM := (yX1_spreadFrom, cX1_spreadFrom, 6, (some .boolean))
def mX1_spreadCosts : aM := (yX1_spreadCosts, cX1_spreadCosts, 4, none)
def mX1_cheapestWithRoom : aM := (yX1_cheapestWithRoom, cX1_cheapestWithRoom, 3, (some .int))
def mX1_shiftAlong : aM := (yX1_shiftAlong, cX1_shiftAlong, 6, none)
def mX1_bringIn : aM := (yX1_bringIn, cX1_bringIn, 3, (some .boolean))
def mX1_fewest : aM := (yX1_fewest, cX1_fewest, 5, (some .int))
def mX2_init : aM := (yX2_init, cX2_init, 1, none)
def mX2_give : aM := (yX2_give, cX2_give, 4, (some .boolean))
def mX2_tiedAsOf : aM := (yX2_tiedAsOf, cX2_tiedAsOf, 4, (some .int))
def mX2_leadsTo : aM := (yX2_leadsTo, cX2_leadsTo, 6, (some .boolean))
def mX2_tie : aM := (yX2_tie, cX2_tie, 4, (some .boolean))
def mX2_givenAsOf : aM := (yX2_givenAsOf, cX2_givenAsOf, 4, (some .int))
def mX2_nameOf : aM := (yX2_nameOf, cX2_nameOf, 7, (some .int))
def mX3_init : aM := (yX3_init, cX3_init, 4, none)
def mX3_init_ : aM := (yX3_init_, cX3_init_, 6, none)
def mX3_setMarks : aM := (yX3_setMarks, cX3_setMarks, 4, none)
def mX3_diesByCheck : aM := (yX3_diesByCheck, cX3_diesByCheck, 2, (some .boolean))
def mX3_bears : aM := (yX3_bears, cX3_bears, 3, (some .boolean))
def mX3_fitsParents : aM := (yX3_fitsParents, cX3_fitsParents, 6, (some .boolean))
def mX3_sameMarks : aM := (yX3_sameMarks, cX3_sameMarks, 3, (some .boolean))
def mX3_fitsOriginOf : aM := (yX3_fitsOriginOf, cX3_fitsOriginOf, 4, (some .boolean))
def mX8_init : aM := (yX8_init, cX8_init, 1, none)
def mX5_init : aM := (yX5_init, cX5_init, 1, none)
def mX4_init : aM := (yX4_init, cX4_init, 1, none)
def mX7_endOfBlanks : aM := (yX7_endOfBlanks, cX7_endOfBlanks, 3, (some .int))
def mX7_endOfLetters : aM := (yX7_endOfLetters, cX7_endOfLetters, 3, (some .int))
def mX7_spells : aM := (yX7_spells, cX7_spells, 5, (some .boolean))
def mX8_kindOfWord : aM := (yX8_kindOfWord, cX8_kindOfWord, 3, (some .int))
def mX8_add : aM := (yX8_add, cX8_add, 4, none)
def mX7_endOfDigits : aM := (yX7_endOfDigits, cX7_endOfDigits, 3, (some .int))
def mX7_numberIn : aM := (yX7_numberIn, cX7_numberIn, 5, (some .int))
def mX8_kindOfSign : aM := (yX8_kindOfSign, cX8_kindOfSign, 1, (some .int))
def mX8_scanOne : aM := (yX8_scanOne, cX8_scanOne, 5, (some .int))
def mX8_scan : aM := (yX8_scan, cX8_scan, 4, none)
def mX5_makeEmpty : aM := (yX5_makeEmpty, cX5_makeEmpty, 1, none)
def mX4_beginsLine : aM := (yX4_beginsLine, cX4_beginsLine, 1, (some .boolean))
def mX4_advance : aM := (yX4_advance, cX4_advance, 1, none)
def mX4_refuse : aM := (yX4_refuse, cX4_refuse, 2, (some .boolean))
def mX4_expect : aM := (yX4_expect, cX4_expect, 2, (some .boolean))
def mX5_addCode : aM := (yX5_addCode, cX5_addCode, 3, none)
def mX4_readAnds : aM := (yX4_readAnds, cX4_readAnds, 3, (some .boolean))
def mX4_readPart : aM := (yX4_readPart, cX4_readPart, 2, (some .boolean))
def mX4_readSum : aM := (yX4_readSum, cX4_readSum, 4, (some .boolean))
def mX4_readTest : aM := (yX4_readTest, cX4_readTest, 3, (some .boolean))
def mX5_endLine : aM := (yX5_endLine, cX5_endLine, 2, none)
def mX4_readLine : aM := (yX4_readLine, cX4_readLine, 2, (some .boolean))
def mX4_readText : aM := (yX4_readText, cX4_readText, 3, (some .int))
def mX4_exchangeDraft : aM := (yX4_exchangeDraft, cX4_exchangeDraft, 3, (some (.object "BedBook$Rules")))
def mX5_push : aM := (yX5_push, cX5_push, 2, none)
def mX5_pop : aM := (yX5_pop, cX5_pop, 1, (some .int))
def mX5_joined : aM := (yX5_joined, cX5_joined, 3, (some .int))
def mX5_valueOf : aM := (yX5_valueOf, cX5_valueOf, 7, (some .int))
def mX5_permit : aM := (yX5_permit, cX5_permit, 4, (some .boolean))
def mX6_init : aM := (yX6_init, cX6_init, 1, none)
def mX6_write : aM := (yX6_write, cX6_write, 6, (some .boolean))
def mX6_entry : aM := (yX6_entry, cX6_entry, 3, (some .int))
def mX7_init : aM := (yX7_init, cX7_init, 1, none)
def mX7_takeBytes : aM := (yX7_takeBytes, cX7_takeBytes, 6, none)
def mX9_init : aM := (yX9_init, cX9_init, 1, none)
def mX9_days : aM := (yX9_days, cX9_days, 2, (some .int))
def mX9_canEnter : aM := (yX9_canEnter, cX9_canEnter, 2, (some .boolean))
def mX9_enter : aM := (yX9_enter, cX9_enter, 2, (some .int))
def mX9_wild : aM := (yX9_wild, cX9_wild, 3, (some .int))
def mX9_plantAt : aM := (yX9_plantAt, cX9_plantAt, 2, (some (.object "BedBook$Plant")))
def mX9_seed : aM := (yX9_seed, cX9_seed, 6, (some .int))
def mX9_cut : aM := (yX9_cut, cX9_cut, 4, (some .int))
def mX9_split : aM := (yX9_split, cX9_split, 4, (some .int))
def mX9_isDigit : aM := (yX9_isDigit, cX9_isDigit, 1, (some .boolean))
def mX9_mark : aM := (yX9_mark, cX9_mark, 6, (some .boolean))
def mX9_name : aM := (yX9_name, cX9_name, 3, (some .boolean))
def mX9_join : aM := (yX9_join, cX9_join, 3, (some .boolean))
def mX9_named : aM := (yX9_named, cX9_named, 4, (some .int))
def mX9_bed : aM := (yX9_bed, cX9_bed, 4, (some .int))
def mX9_bedAt : aM := (yX9_bedAt, cX9_bedAt, 2, (some (.object "BedBook$Bed")))
def mX9_change : aM := (yX9_change, cX9_change, 5, (some .boolean))
def mX9_isSpan : aM := (yX9_isSpan, cX9_isSpan, 2, (some .boolean))
def mX9_needs : aM := (yX9_needs, cX9_needs, 7, (some .boolean))
def mX9_hasPlaceFor : aM := (yX9_hasPlaceFor, cX9_hasPlaceFor, 6, (some .boolean))
def mX9_lay : aM := (yX9_lay, cX9_lay, 4, (some .boolean))
def mX9_moves : aM := (yX9_moves, cX9_moves, 1, (some .int))
def mX9_feed : aM := (yX9_feed, cX9_feed, 7, (some .int))
def mX9_text : aM := (yX9_text, cX9_text, 2, (some .int))
def mX9_may : aM := (yX9_may, cX9_may, 5, (some .int))
def mX9_send : aM := (yX9_send, cX9_send, 5, (some .boolean))
def mX9_sent : aM := (yX9_sent, cX9_sent, 3, (some .int))
def mX9_seen : aM := (yX9_seen, cX9_seen, 4, (some .boolean))
def mX9_close : aM := (yX9_close, cX9_close, 4, (some .int))
def mX9_fits : aM := (yX9_fits, cX9_fits, 3, (some .int))
def mX9_changed : aM := (yX9_changed, cX9_changed, 6, (some .int))
def mX9_numberOf : aM := (yX9_numberOf, cX9_numberOf, 1, (some .int))
def mX9_lookAtOrigin : aM := (yX9_lookAtOrigin, cX9_lookAtOrigin, 2, (some .int))
def mX9_lookAtState : aM := (yX9_lookAtState, cX9_lookAtState, 2, (some .int))
def mX9_look : aM := (yX9_look, cX9_look, 4, (some .int))
def mX9_countDead : aM := (yX9_countDead, cX9_countDead, 3, (some .int))
def mX9_countLying : aM := (yX9_countLying, cX9_countLying, 3, (some .int))
def mX9_count : aM := (yX9_count, cX9_count, 2, (some .int))
def mX10_thrown : aM := (yX10_thrown, cX10_thrown, 1, (some .int))
def mX10_lay : aM := (yX10_lay, cX10_lay, 5, none)
def mX10_feed : aM := (yX10_feed, cX10_feed, 7, (some .int))
def mX10_init : aM := (yX10_init, cX10_init, 2, none)
def mX10_isLetter : aM := (yX10_isLetter, cX10_isLetter, 1, (some .boolean))
def mX10_isDigit : aM := (yX10_isDigit, cX10_isDigit, 1, (some .boolean))
def mX10_rank : aM := (yX10_rank, cX10_rank, 1, (some .int))
def mX10_isSignOf : aM := (yX10_isSignOf, cX10_isSignOf, 1, (some .boolean))
def mX10_cutAll : aM := (yX10_cutAll, cX10_cutAll, 7, none)
def mX10_wrong : aM := (yX10_wrong, cX10_wrong, 2, none)
def mX10_isSign : aM := (yX10_isSign, cX10_isSign, 2, (some .boolean))
def mX10_isWord : aM := (yX10_isWord, cX10_isWord, 2, (some .boolean))
def mX10_takeSign : aM := (yX10_takeSign, cX10_takeSign, 2, none)
def mX10_hasSign : aM := (yX10_hasSign, cX10_hasSign, 3, (some .boolean))
def mX10_hasWord : aM := (yX10_hasWord, cX10_hasWord, 3, (some .boolean))
def mX10_takeWord : aM := (yX10_takeWord, cX10_takeWord, 2, none)
def mX10_emit : aM := (yX10_emit, cX10_emit, 3, none)
def mX10_opens : aM := (yX10_opens, cX10_opens, 1, none)
def mX10_partWord : aM := (yX10_partWord, cX10_partWord, 2, (some .int))
def mX10_part : aM := (yX10_part, cX10_part, 2, (some .boolean))
def mX10_goesOnBehind : aM := (yX10_goesOnBehind, cX10_goesOnBehind, 1, (some .boolean))
def mX10_line : aM := (yX10_line, cX10_line, 4, none)
def mX10_text : aM := (yX10_text, cX10_text, 1, (some .int))
def mX10_worth : aM := (yX10_worth, cX10_worth, 7, (some .int))
def mX10_days : aM := (yX10_days, cX10_days, 2, (some .int))
def mX10_isPlant : aM := (yX10_isPlant, cX10_isPlant, 2, (some .boolean))
def mX10_grows : aM := (yX10_grows, cX10_grows, 6, (some .int))
def mX10_areMany : aM := (yX10_areMany, cX10_areMany, 1, (some .boolean))
def mX10_wild : aM := (yX10_wild, cX10_wild, 3, (some .int))
def mX10_seed : aM := (yX10_seed, cX10_seed, 4, (some .int))
def mX10_cut : aM := (yX10_cut, cX10_cut, 3, (some .int))
def mX10_split : aM := (yX10_split, cX10_split, 3, (some .int))
def mX10_rootOf : aM := (yX10_rootOf, cX10_rootOf, 3, (some .int))
def mX10_isCut : aM := (yX10_isCut, cX10_isCut, 3, (some .boolean))
def mX10_mark : aM := (yX10_mark, cX10_mark, 5, (some .boolean))
def mX10_markOf : aM := (yX10_markOf, cX10_markOf, 4, (some .int))
def mX10_hasMark : aM := (yX10_hasMark, cX10_hasMark, 4, (some .boolean))
def mX10_fitsAs : aM := (yX10_fitsAs, cX10_fitsAs, 9, (some .boolean))
def mX10_fits : aM := (yX10_fits, cX10_fits, 2, (some .int))
def mX10_changed : aM := (yX10_changed, cX10_changed, 3, (some .int))
def mX10_isName : aM := (yX10_isName, cX10_isName, 1, (some .boolean))
def mX10_name : aM := (yX10_name, cX10_name, 3, (some .boolean))
def mX10_joinedTo : aM := (yX10_joinedTo, cX10_joinedTo, 5, (some .int))
def mX10_leads : aM := (yX10_leads, cX10_leads, 5, (some .int))
def mX10_leadsBack : aM := (yX10_leadsBack, cX10_leadsBack, 4, (some .boolean))
def mX10_join : aM := (yX10_join, cX10_join, 3, (some .boolean))
def mX10_nameOf : aM := (yX10_nameOf, cX10_nameOf, 6, (some .int))
def mX10_named : aM := (yX10_named, cX10_named, 4, (some .int))
def mX10_isDigitNumber : aM := (yX10_isDigitNumber, cX10_isDigitNumber, 1, (some .boolean))
def mX10_bed : aM := (yX10_bed, cX10_bed, 4, (some .int))
def mX10_isBed : aM := (yX10_isBed, cX10_isBed, 2, (some .boolean))
def mX10_change : aM := (yX10_change, cX10_change, 4, (some .boolean))
def mX10_needs : aM := (yX10_needs, cX10_needs, 6, (some .boolean))
def mX10_suits : aM := (yX10_suits, cX10_suits, 3, (some .boolean))
def mX10_lay_ : aM := (yX10_lay_, cX10_lay_, 5, (some .boolean))
def mX10_costOf : aM := (yX10_costOf, cX10_costOf, 3, (some .int))
def mX10_begins : aM := (yX10_begins, cX10_begins, 7, none)
def mX10_comes : aM := (yX10_comes, cX10_comes, 4, (some .boolean))
def mX10_moves : aM := (yX10_moves, cX10_moves, 3, (some .int))
def mX10_lets : aM := (yX10_lets, cX10_lets, 5, (some .boolean))
def mX10_isSending : aM := (yX10_isSending, cX10_isSending, 4, (some .boolean))
def mX10_may : aM := (yX10_may, cX10_may, 4, (some .int))
def mX10_send : aM := (yX10_send, cX10_send, 4, (some .boolean))
def mX10_sent : aM := (yX10_sent, cX10_sent, 3, (some .int))
def mX10_seen : aM := (yX10_seen, cX10_seen, 3, (some .boolean))
def mX10_checks : aM := (yX10_checks, cX10_checks, 3, (some .boolean))
def mX10_close : aM := (yX10_close, cX10_close, 4, (some .int))
def mX10_look : aM := (yX10_look, cX10_look, 3, (some .int))
def mX10_count : aM := (yX10_count, cX10_count, 5, (some .int))
end
section
theorem dX0_init_0 : decode cX0_init 0 = .ok (.aload_n 0, 1) := by decide +kernel
theorem dX0_init_1 : decode cX0_init 1 = .ok (.invokespecial 1, 3) := by decide +kernel
theorem dX0_init_4 : decode cX0_init 4 = .ok (.aload_n 0, 1) := by decide +kernel
theorem dX0_init_5 : decode cX0_init 5 = .ok (.iload_n 1, 1) := by decide +kernel
theorem dX0_init_6 : decode cX0_init 6 = .ok (.putfield 7, 3) := by decide +kernel
theorem dX0_init_9 : decode cX0_init 9 = .ok (.aload_n 0, 1) := by decide +kernel
theorem dX0_init_10 : decode cX0_init 10 = .ok (.iload_n 2, 1) := by decide +kernel
theorem dX0_init_11 : decode cX0_init 11 = .ok (.putfield 13, 3) := by decide +kernel
theorem dX0_init_14 : decode cX0_init 14 = .ok (.aload_n 0, 1) := by decide +kernel
theorem dX0_init_15 : decode cX0_init 15 = .ok (.iload_n 3, 1) := by decide +kernel
theorem dX0_init_16 : decode cX0_init 16 = .ok (.putfield 16, 3) := by decide +kernel
theorem dX0_init_19 : decode cX0_init 19 = .ok (.return_, 1) := by decide +kernel
theorem dX1_init_0 : decode cX1_init 0 = .ok (.aload_n 0, 1) := by decide +kernel
theorem dX1_init_1 : decode cX1_init 1 = .ok (.invokespecial 3, 3) := by decide +kernel
theorem dX1_init_4 : decode cX1_init 4 = .ok (.aload_n 0, 1) := by decide +kernel
theorem dX1_init_5 : decode cX1_init 5 = .ok (.bipush 40, 2) := by decide +kernel
theorem dX1_init_7 : decode cX1_init 7 = .ok (.newarray .int, 2) := by decide +kernel
theorem dX1_init_9 : decode cX1_init 9 = .ok (.putfield 9, 3) := by decide +kernel
theorem dX1_init_12 : decode cX1_init 12 = .ok (.aload_n 0, 1) := by decide +kernel
theorem dX1_init_13 : decode cX1_init 13 = .ok (.bipush 8, 2) := by decide +kernel
theorem dX1_init_15 : decode cX1_init 15 = .ok (.newarray .int, 2) := by decide +kernel
theorem dX1_init_17 : decode cX1_init 17 = .ok (.putfield 15, 3) := by decide +kernel
theorem dX1_init_20 : decode cX1_init 20 = .ok (.aload_n 0, 1) := by decide +kernel
theorem dX1_init_21 : decode cX1_init 21 = .ok (.bipush 8, 2) := by decide +kernel
theorem dX1_init_23 : decode cX1_init 23 = .ok (.newarray .int, 2) := by decide +kernel
theorem dX1_init_25 : decode cX1_init 25 = .ok (.putfield 18, 3) := by decide +kernel
theorem dX1_init_28 : decode cX1_init 28 = .ok (.aload_n 0, 1) := by decide +kernel
theorem dX1_init_29 : decode cX1_init 29 = .ok (.bipush 8, 2) := by decide +kernel
theorem dX1_init_31 : decode cX1_init 31 = .ok (.newarray .int, 2) := by decide +kernel
theorem dX1_init_33 : decode cX1_init 33 = .ok (.putfield 21, 3) := by decide +kernel
theorem dX1_init_36 : decode cX1_init 36 = .ok (.aload_n 0, 1) := by decide +kernel
theorem dX1_init_37 : decode cX1_init 37 = .ok (.aload_n 1, 1) := by decide +kernel
theorem dX1_init_38 : decode cX1_init 38 = .ok (.putfield 24, 3) := by decide +kernel
theorem dX1_init_41 : decode cX1_init 41 = .ok (.aload_n 0, 1) := by decide +kernel
theorem dX1_init_42 : decode cX1_init 42 = .ok (.aload_n 2, 1) := by decide +kernel
theorem dX1_init_43 : decode cX1_init 43 = .ok (.putfield 28, 3) := by decide +kernel
theorem dX1_init_46 : decode cX1_init 46 = .ok (.return_, 1) := by decide +kernel
theorem dX1_fewest_0 : decode cX1_fewest 0 = .ok (.aload_n 0, 1) := by decide +kernel
theorem dX1_fewest_1 : decode cX1_fewest 1 = .ok (.iload_n 1, 1) := by decide +kernel
theorem dX1_fewest_2 : decode cX1_fewest 2 = .ok (.putfield 32, 3) := by decide +kernel
theorem dX1_fewest_5 : decode cX1_fewest 5 = .ok (.aload_n 0, 1) := by decide +kernel
theorem dX1_fewest_6 : decode cX1_fewest 6 = .ok (.iload_n 2, 1) := by decide +kernel
theorem dX1_fewest_7 : decode cX1_fewest 7 = .ok (.putfield 36, 3) := by decide +kernel
theorem dX1_fewest_10 : decode cX1_fewest 10 = .ok (.aload_n 0, 1) := by decide +kernel
theorem dX1_fewest_11 : decode cX1_fewest 11 = .ok (.invokevirtual 39, 3) := by decide +kernel
theorem dX1_fewest_14 : decode cX1_fewest 14 = .ok (.iconst 0, 1) := by decide +kernel
theorem dX1_fewest_15 : decode cX1_fewest 15 = .ok (.istore_n 3, 1) := by decide +kernel
theorem dX1_fewest_16 : decode cX1_fewest 16 = .ok (.iload_n 3, 1) := by decide +kernel
theorem dX1_fewest_17 : decode cX1_fewest 17 = .ok (.iload_n 1, 1) := by decide +kernel
theorem dX1_fewest_18 : decode cX1_fewest 18 = .ok (.if_icmp .ge 42, 3) := by decide +kernel
theorem dX1_fewest_21 : decode cX1_fewest 21 = .ok (.aload_n 0, 1) := by decide +kernel
theorem dX1_fewest_22 : decode cX1_fewest 22 = .ok (.getfield 24, 3) := by decide +kernel
theorem dX1_fewest_25 : decode cX1_fewest 25 = .ok (.iload_n 3, 1) := by decide +kernel
theorem dX1_fewest_26 : decode cX1_fewest 26 = .ok (.aaload, 1) := by decide +kernel
theorem dX1_fewest_27 : decode cX1_fewest 27 = .ok (.getfield 42, 3) := by decide +kernel
theorem dX1_fewest_30 : decode cX1_fewest 30 = .ok (.iconst (-1), 1) := by decide +kernel
theorem dX1_fewest_31 : decode cX1_fewest 31 = .ok (.if_icmp .eq 23, 3) := by decide +kernel
theorem dX1_fewest_34 : decode cX1_fewest 34 = .ok (.aload_n 0, 1) := by decide +kernel
theorem dX1_fewest_35 : decode cX1_fewest 35 = .ok (.getfield 9, 3) := by decide +kernel
theorem dX1_fewest_38 : decode cX1_fewest 38 = .ok (.iload_n 3, 1) := by decide +kernel
theorem dX1_fewest_39 : decode cX1_fewest 39 = .ok (.iaload, 1) := by decide +kernel
theorem dX1_fewest_40 : decode cX1_fewest 40 = .ok (.iconst (-1), 1) := by decide +kernel
theorem dX1_fewest_41 : decode cX1_fewest 41 = .ok (.if_icmp .ne 13, 3) := by decide +kernel
theorem dX1_fewest_44 : decode cX1_fewest 44 = .ok (.aload_n 0, 1) := by decide +kernel
theorem dX1_fewest_45 : decode cX1_fewest 45 = .ok (.iload_n 3, 1) := by decide +kernel
theorem dX1_fewest_46 : decode cX1_fewest 46 = .ok (.invokevirtual 47, 3) := by decide +kernel
theorem dX1_fewest_49 : decode cX1_fewest 49 = .ok (.ifCond .ne 5, 3) := by decide +kernel
theorem dX1_fewest_52 : decode cX1_fewest 52 = .ok (.iconst (-1), 1) := by decide +kernel
theorem dX1_fewest_53 : decode cX1_fewest 53 = .ok (.ireturn, 1) := by decide +kernel
theorem dX1_fewest_54 : decode cX1_fewest 54 = .ok (.iinc 3 1, 3) := by decide +kernel
theorem dX1_fewest_57 : decode cX1_fewest 57 = .ok (.goto (-41), 3) := by decide +kernel
theorem dX1_fewest_60 : decode cX1_fewest 60 = .ok (.iconst 0, 1) := by decide +kernel
theorem dX1_fewest_61 : decode cX1_fewest 61 = .ok (.istore_n 3, 1) := by decide +kernel
theorem dX1_fewest_62 : decode cX1_fewest 62 = .ok (.iconst 0, 1) := by decide +kernel
theorem dX1_fewest_63 : decode cX1_fewest 63 = .ok (.istore 4, 2) := by decide +kernel
theorem dX1_fewest_65 : decode cX1_fewest 65 = .ok (.iload 4, 2) := by decide +kernel
theorem dX1_fewest_67 : decode cX1_fewest 67 = .ok (.iload_n 1, 1) := by decide +kernel
theorem dX1_fewest_68 : decode cX1_fewest 68 = .ok (.if_icmp .ge 32, 3) := by decide +kernel
theorem dX1_fewest_71 : decode cX1_fewest 71 = .ok (.aload_n 0, 1) := by decide +kernel
theorem dX1_fewest_72 : decode cX1_fewest 72 = .ok (.getfield 9, 3) := by decide +kernel
theorem dX1_fewest_75 : decode cX1_fewest 75 = .ok (.iload 4, 2) := by decide +kernel
theorem dX1_fewest_77 : decode cX1_fewest 77 = .ok (.iaload, 1) := by decide +kernel
theorem dX1_fewest_78 : decode cX1_fewest 78 = .ok (.aload_n 0, 1) := by decide +kernel
theorem dX1_fewest_79 : decode cX1_fewest 79 = .ok (.getfield 24, 3) := by decide +kernel
theorem dX1_fewest_82 : decode cX1_fewest 82 = .ok (.iload 4, 2) := by decide +kernel
theorem dX1_fewest_84 : decode cX1_fewest 84 = .ok (.aaload, 1) := by decide +kernel
theorem dX1_fewest_85 : decode cX1_fewest 85 = .ok (.getfield 42, 3) := by decide +kernel
theorem dX1_fewest_88 : decode cX1_fewest 88 = .ok (.if_icmp .eq 6, 3) := by decide +kernel
theorem dX1_fewest_91 : decode cX1_fewest 91 = .ok (.iinc 3 1, 3) := by decide +kernel
theorem dX1_fewest_94 : decode cX1_fewest 94 = .ok (.iinc 4 1, 3) := by decide +kernel
theorem dX1_fewest_97 : decode cX1_fewest 97 = .ok (.goto (-32), 3) := by decide +kernel
theorem dX1_fewest_100 : decode cX1_fewest 100 = .ok (.iload_n 3, 1) := by decide +kernel
theorem dX1_fewest_101 : decode cX1_fewest 101 = .ok (.ireturn, 1) := by decide +kernel
theorem dX1_leaveWhatSuits_0 : decode cX1_leaveWhatSuits 0 = .ok (.iconst 0, 1) := by decide +kernel
theorem dX1_leaveWhatSuits_1 : decode cX1_leaveWhatSuits 1 = .ok (.istore_n 1, 1) := by decide +kernel
theorem dX1_leaveWhatSuits_2 : decode cX1_leaveWhatSuits 2 = .ok (.iload_n 1, 1) := by decide +kernel
theorem dX1_leaveWhatSuits_3 : decode cX1_leaveWhatSuits 3 = .ok (.aload_n 0, 1) := by decide +kernel
theorem dX1_leaveWhatSuits_4 : decode cX1_leaveWhatSuits 4 = .ok (.getfield 36, 3) := by decide +kernel
theorem dX1_leaveWhatSuits_7 : decode cX1_leaveWhatSuits 7 = .ok (.if_icmp .ge 24, 3) := by decide +kernel
theorem dX1_leaveWhatSuits_10 : decode cX1_leaveWhatSuits 10 = .ok (.aload_n 0, 1) := by decide +kernel
theorem dX1_leaveWhatSuits_11 : decode cX1_leaveWhatSuits 11 = .ok (.getfield 15, 3) := by decide +kernel
theorem dX1_leaveWhatSuits_14 : decode cX1_leaveWhatSuits 14 = .ok (.iload_n 1, 1) := by decide +kernel
theorem dX1_leaveWhatSuits_15 : decode cX1_leaveWhatSuits 15 = .ok (.aload_n 0, 1) := by decide +kernel
theorem dX1_leaveWhatSuits_16 : decode cX1_leaveWhatSuits 16 = .ok (.getfield 28, 3) := by decide +kernel
theorem dX1_leaveWhatSuits_19 : decode cX1_leaveWhatSuits 19 = .ok (.iload_n 1, 1) := by decide +kernel
theorem dX1_leaveWhatSuits_20 : decode cX1_leaveWhatSuits 20 = .ok (.aaload, 1) := by decide +kernel
theorem dX1_leaveWhatSuits_21 : decode cX1_leaveWhatSuits 21 = .ok (.getfield 51, 3) := by decide +kernel
theorem dX1_leaveWhatSuits_24 : decode cX1_leaveWhatSuits 24 = .ok (.iastore, 1) := by decide +kernel
theorem dX1_leaveWhatSuits_25 : decode cX1_leaveWhatSuits 25 = .ok (.iinc 1 1, 3) := by decide +kernel
theorem dX1_leaveWhatSuits_28 : decode cX1_leaveWhatSuits 28 = .ok (.goto (-26), 3) := by decide +kernel
theorem dX1_leaveWhatSuits_31 : decode cX1_leaveWhatSuits 31 = .ok (.iconst 0, 1) := by decide +kernel
theorem dX1_leaveWhatSuits_32 : decode cX1_leaveWhatSuits 32 = .ok (.istore_n 1, 1) := by decide +kernel
theorem dX1_leaveWhatSuits_33 : decode cX1_leaveWhatSuits 33 = .ok (.iload_n 1, 1) := by decide +kernel
theorem dX1_leaveWhatSuits_34 : decode cX1_leaveWhatSuits 34 = .ok (.aload_n 0, 1) := by decide +kernel
theorem dX1_leaveWhatSuits_35 : decode cX1_leaveWhatSuits 35 = .ok (.getfield 32, 3) := by decide +kernel
theorem dX1_leaveWhatSuits_38 : decode cX1_leaveWhatSuits 38 = .ok (.if_icmp .ge 66, 3) := by decide +kernel
theorem dX1_leaveWhatSuits_41 : decode cX1_leaveWhatSuits 41 = .ok (.aload_n 0, 1) := by decide +kernel
theorem dX1_leaveWhatSuits_42 : decode cX1_leaveWhatSuits 42 = .ok (.getfield 24, 3) := by decide +kernel
theorem dX1_leaveWhatSuits_45 : decode cX1_leaveWhatSuits 45 = .ok (.iload_n 1, 1) := by decide +kernel
theorem dX1_leaveWhatSuits_46 : decode cX1_leaveWhatSuits 46 = .ok (.aaload, 1) := by decide +kernel
theorem dX1_leaveWhatSuits_47 : decode cX1_leaveWhatSuits 47 = .ok (.getfield 42, 3) := by decide +kernel
theorem dX1_leaveWhatSuits_50 : decode cX1_leaveWhatSuits 50 = .ok (.istore_n 2, 1) := by decide +kernel
theorem dX1_leaveWhatSuits_51 : decode cX1_leaveWhatSuits 51 = .ok (.aload_n 0, 1) := by decide +kernel
theorem dX1_leaveWhatSuits_52 : decode cX1_leaveWhatSuits 52 = .ok (.getfield 9, 3) := by decide +kernel
theorem dX1_leaveWhatSuits_55 : decode cX1_leaveWhatSuits 55 = .ok (.iload_n 1, 1) := by decide +kernel
theorem dX1_leaveWhatSuits_56 : decode cX1_leaveWhatSuits 56 = .ok (.iconst (-1), 1) := by decide +kernel
theorem dX1_leaveWhatSuits_57 : decode cX1_leaveWhatSuits 57 = .ok (.iastore, 1) := by decide +kernel
theorem dX1_leaveWhatSuits_58 : decode cX1_leaveWhatSuits 58 = .ok (.iload_n 2, 1) := by decide +kernel
theorem dX1_leaveWhatSuits_59 : decode cX1_leaveWhatSuits 59 = .ok (.iconst (-1), 1) := by decide +kernel
theorem dX1_leaveWhatSuits_60 : decode cX1_leaveWhatSuits 60 = .ok (.if_icmp .eq 38, 3) := by decide +kernel
theorem dX1_leaveWhatSuits_63 : decode cX1_leaveWhatSuits 63 = .ok (.aload_n 0, 1) := by decide +kernel
theorem dX1_leaveWhatSuits_64 : decode cX1_leaveWhatSuits 64 = .ok (.getfield 24, 3) := by decide +kernel
theorem dX1_leaveWhatSuits_67 : decode cX1_leaveWhatSuits 67 = .ok (.iload_n 1, 1) := by decide +kernel
theorem dX1_leaveWhatSuits_68 : decode cX1_leaveWhatSuits 68 = .ok (.aaload, 1) := by decide +kernel
theorem dX1_leaveWhatSuits_69 : decode cX1_leaveWhatSuits 69 = .ok (.aload_n 0, 1) := by decide +kernel
theorem dX1_leaveWhatSuits_70 : decode cX1_leaveWhatSuits 70 = .ok (.getfield 28, 3) := by decide +kernel
theorem dX1_leaveWhatSuits_73 : decode cX1_leaveWhatSuits 73 = .ok (.iload_n 2, 1) := by decide +kernel
theorem dX1_leaveWhatSuits_74 : decode cX1_leaveWhatSuits 74 = .ok (.aaload, 1) := by decide +kernel
theorem dX1_leaveWhatSuits_75 : decode cX1_leaveWhatSuits 75 = .ok (.invokevirtual 56, 3) := by decide +kernel
theorem dX1_leaveWhatSuits_78 : decode cX1_leaveWhatSuits 78 = .ok (.ifCond .eq 20, 3) := by decide +kernel
theorem dX1_leaveWhatSuits_81 : decode cX1_leaveWhatSuits 81 = .ok (.aload_n 0, 1) := by decide +kernel
theorem dX1_leaveWhatSuits_82 : decode cX1_leaveWhatSuits 82 = .ok (.getfield 9, 3) := by decide +kernel
theorem dX1_leaveWhatSuits_85 : decode cX1_leaveWhatSuits 85 = .ok (.iload_n 1, 1) := by decide +kernel
theorem dX1_leaveWhatSuits_86 : decode cX1_leaveWhatSuits 86 = .ok (.iload_n 2, 1) := by decide +kernel
theorem dX1_leaveWhatSuits_87 : decode cX1_leaveWhatSuits 87 = .ok (.iastore, 1) := by decide +kernel
theorem dX1_leaveWhatSuits_88 : decode cX1_leaveWhatSuits 88 = .ok (.aload_n 0, 1) := by decide +kernel
theorem dX1_leaveWhatSuits_89 : decode cX1_leaveWhatSuits 89 = .ok (.getfield 15, 3) := by decide +kernel
theorem dX1_leaveWhatSuits_92 : decode cX1_leaveWhatSuits 92 = .ok (.iload_n 2, 1) := by decide +kernel
theorem dX1_leaveWhatSuits_93 : decode cX1_leaveWhatSuits 93 = .ok (.dup2, 1) := by decide +kernel
theorem dX1_leaveWhatSuits_94 : decode cX1_leaveWhatSuits 94 = .ok (.iaload, 1) := by decide +kernel
theorem dX1_leaveWhatSuits_95 : decode cX1_leaveWhatSuits 95 = .ok (.iconst 1, 1) := by decide +kernel
theorem dX1_leaveWhatSuits_96 : decode cX1_leaveWhatSuits 96 = .ok (.isub, 1) := by decide +kernel
theorem dX1_leaveWhatSuits_97 : decode cX1_leaveWhatSuits 97 = .ok (.iastore, 1) := by decide +kernel
theorem dX1_leaveWhatSuits_98 : decode cX1_leaveWhatSuits 98 = .ok (.iinc 1 1, 3) := by decide +kernel
theorem dX1_leaveWhatSuits_101 : decode cX1_leaveWhatSuits 101 = .ok (.goto (-68), 3) := by decide +kernel
theorem dX1_leaveWhatSuits_104 : decode cX1_leaveWhatSuits 104 = .ok (.return_, 1) := by decide +kernel
theorem dX1_bringIn_0 : decode cX1_bringIn 0 = .ok (.iconst 0, 1) := by decide +kernel
theorem dX1_bringIn_1 : decode cX1_bringIn 1 = .ok (.istore_n 2, 1) := by decide +kernel
theorem dX1_bringIn_2 : decode cX1_bringIn 2 = .ok (.iload_n 2, 1) := by decide +kernel
theorem dX1_bringIn_3 : decode cX1_bringIn 3 = .ok (.aload_n 0, 1) := by decide +kernel
theorem dX1_bringIn_4 : decode cX1_bringIn 4 = .ok (.getfield 36, 3) := by decide +kernel
theorem dX1_bringIn_7 : decode cX1_bringIn 7 = .ok (.if_icmp .ge 52, 3) := by decide +kernel
theorem dX1_bringIn_10 : decode cX1_bringIn 10 = .ok (.aload_n 0, 1) := by decide +kernel
theorem dX1_bringIn_11 : decode cX1_bringIn 11 = .ok (.getfield 18, 3) := by decide +kernel
theorem dX1_bringIn_14 : decode cX1_bringIn 14 = .ok (.iload_n 2, 1) := by decide +kernel
theorem dX1_bringIn_15 : decode cX1_bringIn 15 = .ok (.aload_n 0, 1) := by decide +kernel
theorem dX1_bringIn_16 : decode cX1_bringIn 16 = .ok (.getfield 24, 3) := by decide +kernel
theorem dX1_bringIn_19 : decode cX1_bringIn 19 = .ok (.iload_n 1, 1) := by decide +kernel
theorem dX1_bringIn_20 : decode cX1_bringIn 20 = .ok (.aaload, 1) := by decide +kernel
theorem dX1_bringIn_21 : decode cX1_bringIn 21 = .ok (.aload_n 0, 1) := by decide +kernel
theorem dX1_bringIn_22 : decode cX1_bringIn 22 = .ok (.getfield 28, 3) := by decide +kernel
theorem dX1_bringIn_25 : decode cX1_bringIn 25 = .ok (.iload_n 2, 1) := by decide +kernel
theorem dX1_bringIn_26 : decode cX1_bringIn 26 = .ok (.aaload, 1) := by decide +kernel
theorem dX1_bringIn_27 : decode cX1_bringIn 27 = .ok (.invokevirtual 56, 3) := by decide +kernel
theorem dX1_bringIn_30 : decode cX1_bringIn 30 = .ok (.ifCond .eq 12, 3) := by decide +kernel
theorem dX1_bringIn_33 : decode cX1_bringIn 33 = .ok (.aload_n 0, 1) := by decide +kernel
theorem dX1_bringIn_34 : decode cX1_bringIn 34 = .ok (.iload_n 1, 1) := by decide +kernel
theorem dX1_bringIn_35 : decode cX1_bringIn 35 = .ok (.iload_n 2, 1) := by decide +kernel
theorem dX1_bringIn_36 : decode cX1_bringIn 36 = .ok (.invokevirtual 60, 3) := by decide +kernel
theorem dX1_bringIn_39 : decode cX1_bringIn 39 = .ok (.goto 6, 3) := by decide +kernel
theorem dX1_bringIn_42 : decode cX1_bringIn 42 = .ok (.sipush 1000, 3) := by decide +kernel
theorem dX1_bringIn_45 : decode cX1_bringIn 45 = .ok (.iastore, 1) := by decide +kernel
theorem dX1_bringIn_46 : decode cX1_bringIn 46 = .ok (.aload_n 0, 1) := by decide +kernel
theorem dX1_bringIn_47 : decode cX1_bringIn 47 = .ok (.getfield 21, 3) := by decide +kernel
theorem dX1_bringIn_50 : decode cX1_bringIn 50 = .ok (.iload_n 2, 1) := by decide +kernel
theorem dX1_bringIn_51 : decode cX1_bringIn 51 = .ok (.iload_n 1, 1) := by decide +kernel
theorem dX1_bringIn_52 : decode cX1_bringIn 52 = .ok (.iastore, 1) := by decide +kernel
theorem dX1_bringIn_53 : decode cX1_bringIn 53 = .ok (.iinc 2 1, 3) := by decide +kernel
theorem dX1_bringIn_56 : decode cX1_bringIn 56 = .ok (.goto (-54), 3) := by decide +kernel
theorem dX1_bringIn_59 : decode cX1_bringIn 59 = .ok (.aload_n 0, 1) := by decide +kernel
theorem dX1_bringIn_60 : decode cX1_bringIn 60 = .ok (.invokevirtual 64, 3) := by decide +kernel
theorem dX1_bringIn_63 : decode cX1_bringIn 63 = .ok (.aload_n 0, 1) := by decide +kernel
theorem dX1_bringIn_64 : decode cX1_bringIn 64 = .ok (.invokevirtual 67, 3) := by decide +kernel
theorem dX1_bringIn_67 : decode cX1_bringIn 67 = .ok (.istore_n 2, 1) := by decide +kernel
theorem dX1_bringIn_68 : decode cX1_bringIn 68 = .ok (.iload_n 2, 1) := by decide +kernel
theorem dX1_bringIn_69 : decode cX1_bringIn 69 = .ok (.iconst (-1), 1) := by decide +kernel
theorem dX1_bringIn_70 : decode cX1_bringIn 70 = .ok (.if_icmp .ne 5, 3) := by decide +kernel
theorem dX1_bringIn_73 : decode cX1_bringIn 73 = .ok (.iconst 0, 1) := by decide +kernel
theorem dX1_bringIn_74 : decode cX1_bringIn 74 = .ok (.ireturn, 1) := by decide +kernel
theorem dX1_bringIn_75 : decode cX1_bringIn 75 = .ok (.aload_n 0, 1) := by decide +kernel
theorem dX1_bringIn_76 : decode cX1_bringIn 76 = .ok (.getfield 15, 3) := by decide +kernel
theorem dX1_bringIn_79 : decode cX1_bringIn 79 = .ok (.iload_n 2, 1) := by decide +kernel
theorem dX1_bringIn_80 : decode cX1_bringIn 80 = .ok (.dup2, 1) := by decide +kernel
theorem dX1_bringIn_81 : decode cX1_bringIn 81 = .ok (.iaload, 1) := by decide +kernel
theorem dX1_bringIn_82 : decode cX1_bringIn 82 = .ok (.iconst 1, 1) := by decide +kernel
theorem dX1_bringIn_83 : decode cX1_bringIn 83 = .ok (.isub, 1) := by decide +kernel
theorem dX1_bringIn_84 : decode cX1_bringIn 84 = .ok (.iastore, 1) := by decide +kernel
theorem dX1_bringIn_85 : decode cX1_bringIn 85 = .ok (.aload_n 0, 1) := by decide +kernel
theorem dX1_bringIn_86 : decode cX1_bringIn 86 = .ok (.iload_n 2, 1) := by decide +kernel
theorem dX1_bringIn_87 : decode cX1_bringIn 87 = .ok (.invokevirtual 71, 3) := by decide +kernel
theorem dX1_bringIn_90 : decode cX1_bringIn 90 = .ok (.iconst 1, 1) := by decide +kernel
theorem dX1_bringIn_91 : decode cX1_bringIn 91 = .ok (.ireturn, 1) := by decide +kernel
theorem dX1_spreadCosts_0 : decode cX1_spreadCosts 0 = .ok (.iconst 1, 1) := by decide +kernel
theorem dX1_spreadCosts_1 : decode cX1_spreadCosts 1 = .ok (.istore_n 1, 1) := by decide +kernel
theorem dX1_spreadCosts_2 : decode cX1_spreadCosts 2 = .ok (.iconst 0, 1) := by decide +kernel
theorem dX1_spreadCosts_3 : decode cX1_spreadCosts 3 = .ok (.istore_n 2, 1) := by decide +kernel
theorem dX1_spreadCosts_4 : decode cX1_spreadCosts 4 = .ok (.iload_n 2, 1) := by decide +kernel
theorem dX1_spreadCosts_5 : decode cX1_spreadCosts 5 = .ok (.aload_n 0, 1) := by decide +kernel
theorem dX1_spreadCosts_6 : decode cX1_spreadCosts 6 = .ok (.getfield 36, 3) := by decide +kernel
theorem dX1_spreadCosts_9 : decode cX1_spreadCosts 9 = .ok (.if_icmp .ge 51, 3) := by decide +kernel
theorem dX1_spreadCosts_12 : decode cX1_spreadCosts 12 = .ok (.iload_n 1, 1) := by decide +kernel
theorem dX1_spreadCosts_13 : decode cX1_spreadCosts 13 = .ok (.ifCond .eq 47, 3) := by decide +kernel
theorem dX1_spreadCosts_16 : decode cX1_spreadCosts 16 = .ok (.iconst 0, 1) := by decide +kernel
theorem dX1_spreadCosts_17 : decode cX1_spreadCosts 17 = .ok (.istore_n 1, 1) := by decide +kernel
theorem dX1_spreadCosts_18 : decode cX1_spreadCosts 18 = .ok (.iconst 0, 1) := by decide +kernel
theorem dX1_spreadCosts_19 : decode cX1_spreadCosts 19 = .ok (.istore_n 3, 1) := by decide +kernel
theorem dX1_spreadCosts_20 : decode cX1_spreadCosts 20 = .ok (.iload_n 3, 1) := by decide +kernel
theorem dX1_spreadCosts_21 : decode cX1_spreadCosts 21 = .ok (.aload_n 0, 1) := by decide +kernel
theorem dX1_spreadCosts_22 : decode cX1_spreadCosts 22 = .ok (.getfield 32, 3) := by decide +kernel
theorem dX1_spreadCosts_25 : decode cX1_spreadCosts 25 = .ok (.if_icmp .ge 29, 3) := by decide +kernel
theorem dX1_spreadCosts_28 : decode cX1_spreadCosts 28 = .ok (.aload_n 0, 1) := by decide +kernel
theorem dX1_spreadCosts_29 : decode cX1_spreadCosts 29 = .ok (.getfield 9, 3) := by decide +kernel
theorem dX1_spreadCosts_32 : decode cX1_spreadCosts 32 = .ok (.iload_n 3, 1) := by decide +kernel
theorem dX1_spreadCosts_33 : decode cX1_spreadCosts 33 = .ok (.iaload, 1) := by decide +kernel
theorem dX1_spreadCosts_34 : decode cX1_spreadCosts 34 = .ok (.iconst (-1), 1) := by decide +kernel
theorem dX1_spreadCosts_35 : decode cX1_spreadCosts 35 = .ok (.if_icmp .eq 13, 3) := by decide +kernel
theorem dX1_spreadCosts_38 : decode cX1_spreadCosts 38 = .ok (.aload_n 0, 1) := by decide +kernel
theorem dX1_spreadCosts_39 : decode cX1_spreadCosts 39 = .ok (.iload_n 3, 1) := by decide +kernel
theorem dX1_spreadCosts_40 : decode cX1_spreadCosts 40 = .ok (.invokevirtual 75, 3) := by decide +kernel
theorem dX1_spreadCosts_43 : decode cX1_spreadCosts 43 = .ok (.ifCond .eq 5, 3) := by decide +kernel
theorem dX1_spreadCosts_46 : decode cX1_spreadCosts 46 = .ok (.iconst 1, 1) := by decide +kernel
theorem dX1_spreadCosts_47 : decode cX1_spreadCosts 47 = .ok (.istore_n 1, 1) := by decide +kernel
theorem dX1_spreadCosts_48 : decode cX1_spreadCosts 48 = .ok (.iinc 3 1, 3) := by decide +kernel
theorem dX1_spreadCosts_51 : decode cX1_spreadCosts 51 = .ok (.goto (-31), 3) := by decide +kernel
theorem dX1_spreadCosts_54 : decode cX1_spreadCosts 54 = .ok (.iinc 2 1, 3) := by decide +kernel
theorem dX1_spreadCosts_57 : decode cX1_spreadCosts 57 = .ok (.goto (-53), 3) := by decide +kernel
theorem dX1_spreadCosts_60 : decode cX1_spreadCosts 60 = .ok (.return_, 1) := by decide +kernel
theorem dX1_spreadFrom_0 : decode cX1_spreadFrom 0 = .ok (.aload_n 0, 1) := by decide +kernel
theorem dX1_spreadFrom_1 : decode cX1_spreadFrom 1 = .ok (.getfield 9, 3) := by decide +kernel
theorem dX1_spreadFrom_4 : decode cX1_spreadFrom 4 = .ok (.iload_n 1, 1) := by decide +kernel
theorem dX1_spreadFrom_5 : decode cX1_spreadFrom 5 = .ok (.iaload, 1) := by decide +kernel
theorem dX1_spreadFrom_6 : decode cX1_spreadFrom 6 = .ok (.istore_n 2, 1) := by decide +kernel
theorem dX1_spreadFrom_7 : decode cX1_spreadFrom 7 = .ok (.aload_n 0, 1) := by decide +kernel
theorem dX1_spreadFrom_8 : decode cX1_spreadFrom 8 = .ok (.getfield 18, 3) := by decide +kernel
theorem dX1_spreadFrom_11 : decode cX1_spreadFrom 11 = .ok (.iload_n 2, 1) := by decide +kernel
theorem dX1_spreadFrom_12 : decode cX1_spreadFrom 12 = .ok (.iaload, 1) := by decide +kernel
theorem dX1_spreadFrom_13 : decode cX1_spreadFrom 13 = .ok (.sipush 1000, 3) := by decide +kernel
theorem dX1_spreadFrom_16 : decode cX1_spreadFrom 16 = .ok (.if_icmp .lt 5, 3) := by decide +kernel
theorem dX1_spreadFrom_19 : decode cX1_spreadFrom 19 = .ok (.iconst 0, 1) := by decide +kernel
theorem dX1_spreadFrom_20 : decode cX1_spreadFrom 20 = .ok (.ireturn, 1) := by decide +kernel
theorem dX1_spreadFrom_21 : decode cX1_spreadFrom 21 = .ok (.iconst 0, 1) := by decide +kernel
theorem dX1_spreadFrom_22 : decode cX1_spreadFrom 22 = .ok (.istore_n 3, 1) := by decide +kernel
theorem dX1_spreadFrom_23 : decode cX1_spreadFrom 23 = .ok (.aload_n 0, 1) := by decide +kernel
theorem dX1_spreadFrom_24 : decode cX1_spreadFrom 24 = .ok (.getfield 18, 3) := by decide +kernel
theorem dX1_spreadFrom_27 : decode cX1_spreadFrom 27 = .ok (.iload_n 2, 1) := by decide +kernel
theorem dX1_spreadFrom_28 : decode cX1_spreadFrom 28 = .ok (.iaload, 1) := by decide +kernel
theorem dX1_spreadFrom_29 : decode cX1_spreadFrom 29 = .ok (.aload_n 0, 1) := by decide +kernel
theorem dX1_spreadFrom_30 : decode cX1_spreadFrom 30 = .ok (.iload_n 1, 1) := by decide +kernel
theorem dX1_spreadFrom_31 : decode cX1_spreadFrom 31 = .ok (.iload_n 2, 1) := by decide +kernel
theorem dX1_spreadFrom_32 : decode cX1_spreadFrom 32 = .ok (.invokevirtual 60, 3) := by decide +kernel
theorem dX1_spreadFrom_35 : decode cX1_spreadFrom 35 = .ok (.isub, 1) := by decide +kernel
theorem dX1_spreadFrom_36 : decode cX1_spreadFrom 36 = .ok (.istore 4, 2) := by decide +kernel
theorem dX1_spreadFrom_38 : decode cX1_spreadFrom 38 = .ok (.iconst 0, 1) := by decide +kernel
theorem dX1_spreadFrom_39 : decode cX1_spreadFrom 39 = .ok (.istore 5, 2) := by decide +kernel
theorem dX1_spreadFrom_41 : decode cX1_spreadFrom 41 = .ok (.iload 5, 2) := by decide +kernel
theorem dX1_spreadFrom_43 : decode cX1_spreadFrom 43 = .ok (.aload_n 0, 1) := by decide +kernel
theorem dX1_spreadFrom_44 : decode cX1_spreadFrom 44 = .ok (.getfield 36, 3) := by decide +kernel
theorem dX1_spreadFrom_47 : decode cX1_spreadFrom 47 = .ok (.if_icmp .ge 75, 3) := by decide +kernel
theorem dX1_spreadFrom_50 : decode cX1_spreadFrom 50 = .ok (.iload 4, 2) := by decide +kernel
theorem dX1_spreadFrom_52 : decode cX1_spreadFrom 52 = .ok (.aload_n 0, 1) := by decide +kernel
theorem dX1_spreadFrom_53 : decode cX1_spreadFrom 53 = .ok (.iload_n 1, 1) := by decide +kernel
theorem dX1_spreadFrom_54 : decode cX1_spreadFrom 54 = .ok (.iload 5, 2) := by decide +kernel
theorem dX1_spreadFrom_56 : decode cX1_spreadFrom 56 = .ok (.invokevirtual 60, 3) := by decide +kernel
theorem dX1_spreadFrom_59 : decode cX1_spreadFrom 59 = .ok (.iadd, 1) := by decide +kernel
theorem dX1_spreadFrom_60 : decode cX1_spreadFrom 60 = .ok (.aload_n 0, 1) := by decide +kernel
theorem dX1_spreadFrom_61 : decode cX1_spreadFrom 61 = .ok (.getfield 18, 3) := by decide +kernel
theorem dX1_spreadFrom_64 : decode cX1_spreadFrom 64 = .ok (.iload 5, 2) := by decide +kernel
theorem dX1_spreadFrom_66 : decode cX1_spreadFrom 66 = .ok (.iaload, 1) := by decide +kernel
theorem dX1_spreadFrom_67 : decode cX1_spreadFrom 67 = .ok (.if_icmp .ge 49, 3) := by decide +kernel
theorem dX1_spreadFrom_70 : decode cX1_spreadFrom 70 = .ok (.aload_n 0, 1) := by decide +kernel
theorem dX1_spreadFrom_71 : decode cX1_spreadFrom 71 = .ok (.getfield 24, 3) := by decide +kernel
theorem dX1_spreadFrom_74 : decode cX1_spreadFrom 74 = .ok (.iload_n 1, 1) := by decide +kernel
theorem dX1_spreadFrom_75 : decode cX1_spreadFrom 75 = .ok (.aaload, 1) := by decide +kernel
theorem dX1_spreadFrom_76 : decode cX1_spreadFrom 76 = .ok (.aload_n 0, 1) := by decide +kernel
theorem dX1_spreadFrom_77 : decode cX1_spreadFrom 77 = .ok (.getfield 28, 3) := by decide +kernel
theorem dX1_spreadFrom_80 : decode cX1_spreadFrom 80 = .ok (.iload 5, 2) := by decide +kernel
theorem dX1_spreadFrom_82 : decode cX1_spreadFrom 82 = .ok (.aaload, 1) := by decide +kernel
theorem dX1_spreadFrom_83 : decode cX1_spreadFrom 83 = .ok (.invokevirtual 56, 3) := by decide +kernel
theorem dX1_spreadFrom_86 : decode cX1_spreadFrom 86 = .ok (.ifCond .eq 30, 3) := by decide +kernel
theorem dX1_spreadFrom_89 : decode cX1_spreadFrom 89 = .ok (.aload_n 0, 1) := by decide +kernel
theorem dX1_spreadFrom_90 : decode cX1_spreadFrom 90 = .ok (.getfield 18, 3) := by decide +kernel
theorem dX1_spreadFrom_93 : decode cX1_spreadFrom 93 = .ok (.iload 5, 2) := by decide +kernel
theorem dX1_spreadFrom_95 : decode cX1_spreadFrom 95 = .ok (.iload 4, 2) := by decide +kernel
theorem dX1_spreadFrom_97 : decode cX1_spreadFrom 97 = .ok (.aload_n 0, 1) := by decide +kernel
theorem dX1_spreadFrom_98 : decode cX1_spreadFrom 98 = .ok (.iload_n 1, 1) := by decide +kernel
theorem dX1_spreadFrom_99 : decode cX1_spreadFrom 99 = .ok (.iload 5, 2) := by decide +kernel
theorem dX1_spreadFrom_101 : decode cX1_spreadFrom 101 = .ok (.invokevirtual 60, 3) := by decide +kernel
theorem dX1_spreadFrom_104 : decode cX1_spreadFrom 104 = .ok (.iadd, 1) := by decide +kernel
theorem dX1_spreadFrom_105 : decode cX1_spreadFrom 105 = .ok (.iastore, 1) := by decide +kernel
theorem dX1_spreadFrom_106 : decode cX1_spreadFrom 106 = .ok (.aload_n 0, 1) := by decide +kernel
theorem dX1_spreadFrom_107 : decode cX1_spreadFrom 107 = .ok (.getfield 21, 3) := by decide +kernel
theorem dX1_spreadFrom_110 : decode cX1_spreadFrom 110 = .ok (.iload 5, 2) := by decide +kernel
theorem dX1_spreadFrom_112 : decode cX1_spreadFrom 112 = .ok (.iload_n 1, 1) := by decide +kernel
theorem dX1_spreadFrom_113 : decode cX1_spreadFrom 113 = .ok (.iastore, 1) := by decide +kernel
theorem dX1_spreadFrom_114 : decode cX1_spreadFrom 114 = .ok (.iconst 1, 1) := by decide +kernel
theorem dX1_spreadFrom_115 : decode cX1_spreadFrom 115 = .ok (.istore_n 3, 1) := by decide +kernel
theorem dX1_spreadFrom_116 : decode cX1_spreadFrom 116 = .ok (.iinc 5 1, 3) := by decide +kernel
theorem dX1_spreadFrom_119 : decode cX1_spreadFrom 119 = .ok (.goto (-78), 3) := by decide +kernel
theorem dX1_spreadFrom_122 : decode cX1_spreadFrom 122 = .ok (.iload_n 3, 1) := by decide +kernel
theorem dX1_spreadFrom_123 : decode cX1_spreadFrom 123 = .ok (.ireturn, 1) := by decide +kernel
theorem dX1_cheapestWithRoom_0 : decode cX1_cheapestWithRoom 0 = .ok (.iconst (-1), 1) := by decide +kernel
theorem dX1_cheapestWithRoom_1 : decode cX1_cheapestWithRoom 1 = .ok (.istore_n 1, 1) := by decide +kernel
theorem dX1_cheapestWithRoom_2 : decode cX1_cheapestWithRoom 2 = .ok (.iconst 0, 1) := by decide +kernel
theorem dX1_cheapestWithRoom_3 : decode cX1_cheapestWithRoom 3 = .ok (.istore_n 2, 1) := by decide +kernel
theorem dX1_cheapestWithRoom_4 : decode cX1_cheapestWithRoom 4 = .ok (.iload_n 2, 1) := by decide +kernel
theorem dX1_cheapestWithRoom_5 : decode cX1_cheapestWithRoom 5 = .ok (.aload_n 0, 1) := by decide +kernel
theorem dX1_cheapestWithRoom_6 : decode cX1_cheapestWithRoom 6 = .ok (.getfield 36, 3) := by decide +kernel
theorem dX1_cheapestWithRoom_9 : decode cX1_cheapestWithRoom 9 = .ok (.if_icmp .ge 52, 3) := by decide +kernel
theorem dX1_cheapestWithRoom_12 : decode cX1_cheapestWithRoom 12 = .ok (.aload_n 0, 1) := by decide +kernel
theorem dX1_cheapestWithRoom_13 : decode cX1_cheapestWithRoom 13 = .ok (.getfield 15, 3) := by decide +kernel
theorem dX1_cheapestWithRoom_16 : decode cX1_cheapestWithRoom 16 = .ok (.iload_n 2, 1) := by decide +kernel
theorem dX1_cheapestWithRoom_17 : decode cX1_cheapestWithRoom 17 = .ok (.iaload, 1) := by decide +kernel
theorem dX1_cheapestWithRoom_18 : decode cX1_cheapestWithRoom 18 = .ok (.ifCond .le 37, 3) := by decide +kernel
theorem dX1_cheapestWithRoom_21 : decode cX1_cheapestWithRoom 21 = .ok (.aload_n 0, 1) := by decide +kernel
theorem dX1_cheapestWithRoom_22 : decode cX1_cheapestWithRoom 22 = .ok (.getfield 18, 3) := by decide +kernel
theorem dX1_cheapestWithRoom_25 : decode cX1_cheapestWithRoom 25 = .ok (.iload_n 2, 1) := by decide +kernel
theorem dX1_cheapestWithRoom_26 : decode cX1_cheapestWithRoom 26 = .ok (.iaload, 1) := by decide +kernel
theorem dX1_cheapestWithRoom_27 : decode cX1_cheapestWithRoom 27 = .ok (.sipush 1000, 3) := by decide +kernel
theorem dX1_cheapestWithRoom_30 : decode cX1_cheapestWithRoom 30 = .ok (.if_icmp .ge 25, 3) := by decide +kernel
theorem dX1_cheapestWithRoom_33 : decode cX1_cheapestWithRoom 33 = .ok (.iload_n 1, 1) := by decide +kernel
theorem dX1_cheapestWithRoom_34 : decode cX1_cheapestWithRoom 34 = .ok (.iconst (-1), 1) := by decide +kernel
theorem dX1_cheapestWithRoom_35 : decode cX1_cheapestWithRoom 35 = .ok (.if_icmp .eq 18, 3) := by decide +kernel
theorem dX1_cheapestWithRoom_38 : decode cX1_cheapestWithRoom 38 = .ok (.aload_n 0, 1) := by decide +kernel
theorem dX1_cheapestWithRoom_39 : decode cX1_cheapestWithRoom 39 = .ok (.getfield 18, 3) := by decide +kernel
theorem dX1_cheapestWithRoom_42 : decode cX1_cheapestWithRoom 42 = .ok (.iload_n 2, 1) := by decide +kernel
theorem dX1_cheapestWithRoom_43 : decode cX1_cheapestWithRoom 43 = .ok (.iaload, 1) := by decide +kernel
theorem dX1_cheapestWithRoom_44 : decode cX1_cheapestWithRoom 44 = .ok (.aload_n 0, 1) := by decide +kernel
theorem dX1_cheapestWithRoom_45 : decode cX1_cheapestWithRoom 45 = .ok (.getfield 18, 3) := by decide +kernel
theorem dX1_cheapestWithRoom_48 : decode cX1_cheapestWithRoom 48 = .ok (.iload_n 1, 1) := by decide +kernel
theorem dX1_cheapestWithRoom_49 : decode cX1_cheapestWithRoom 49 = .ok (.iaload, 1) := by decide +kernel
theorem dX1_cheapestWithRoom_50 : decode cX1_cheapestWithRoom 50 = .ok (.if_icmp .ge 5, 3) := by decide +kernel
theorem dX1_cheapestWithRoom_53 : decode cX1_cheapestWithRoom 53 = .ok (.iload_n 2, 1) := by decide +kernel
theorem dX1_cheapestWithRoom_54 : decode cX1_cheapestWithRoom 54 = .ok (.istore_n 1, 1) := by decide +kernel
theorem dX1_cheapestWithRoom_55 : decode cX1_cheapestWithRoom 55 = .ok (.iinc 2 1, 3) := by decide +kernel
theorem dX1_cheapestWithRoom_58 : decode cX1_cheapestWithRoom 58 = .ok (.goto (-54), 3) := by decide +kernel
theorem dX1_cheapestWithRoom_61 : decode cX1_cheapestWithRoom 61 = .ok (.iload_n 1, 1) := by decide +kernel
theorem dX1_cheapestWithRoom_62 : decode cX1_cheapestWithRoom 62 = .ok (.ireturn, 1) := by decide +kernel
theorem dX1_shiftAlong_0 : decode cX1_shiftAlong 0 = .ok (.iload_n 1, 1) := by decide +kernel
theorem dX1_shiftAlong_1 : decode cX1_shiftAlong 1 = .ok (.istore_n 2, 1) := by decide +kernel
theorem dX1_shiftAlong_2 : decode cX1_shiftAlong 2 = .ok (.iconst 0, 1) := by decide +kernel
theorem dX1_shiftAlong_3 : decode cX1_shiftAlong 3 = .ok (.istore_n 3, 1) := by decide +kernel
theorem dX1_shiftAlong_4 : decode cX1_shiftAlong 4 = .ok (.iload_n 3, 1) := by decide +kernel
theorem dX1_shiftAlong_5 : decode cX1_shiftAlong 5 = .ok (.aload_n 0, 1) := by decide +kernel
theorem dX1_shiftAlong_6 : decode cX1_shiftAlong 6 = .ok (.getfield 36, 3) := by decide +kernel
theorem dX1_shiftAlong_9 : decode cX1_shiftAlong 9 = .ok (.if_icmp .ge 42, 3) := by decide +kernel
theorem dX1_shiftAlong_12 : decode cX1_shiftAlong 12 = .ok (.iload_n 2, 1) := by decide +kernel
theorem dX1_shiftAlong_13 : decode cX1_shiftAlong 13 = .ok (.iconst (-1), 1) := by decide +kernel
theorem dX1_shiftAlong_14 : decode cX1_shiftAlong 14 = .ok (.if_icmp .eq 37, 3) := by decide +kernel
theorem dX1_shiftAlong_17 : decode cX1_shiftAlong 17 = .ok (.aload_n 0, 1) := by decide +kernel
theorem dX1_shiftAlong_18 : decode cX1_shiftAlong 18 = .ok (.getfield 21, 3) := by decide +kernel
theorem dX1_shiftAlong_21 : decode cX1_shiftAlong 21 = .ok (.iload_n 2, 1) := by decide +kernel
theorem dX1_shiftAlong_22 : decode cX1_shiftAlong 22 = .ok (.iaload, 1) := by decide +kernel
theorem dX1_shiftAlong_23 : decode cX1_shiftAlong 23 = .ok (.istore 4, 2) := by decide +kernel
theorem dX1_shiftAlong_25 : decode cX1_shiftAlong 25 = .ok (.aload_n 0, 1) := by decide +kernel
theorem dX1_shiftAlong_26 : decode cX1_shiftAlong 26 = .ok (.getfield 9, 3) := by decide +kernel
theorem dX1_shiftAlong_29 : decode cX1_shiftAlong 29 = .ok (.iload 4, 2) := by decide +kernel
theorem dX1_shiftAlong_31 : decode cX1_shiftAlong 31 = .ok (.iaload, 1) := by decide +kernel
theorem dX1_shiftAlong_32 : decode cX1_shiftAlong 32 = .ok (.istore 5, 2) := by decide +kernel
theorem dX1_shiftAlong_34 : decode cX1_shiftAlong 34 = .ok (.aload_n 0, 1) := by decide +kernel
theorem dX1_shiftAlong_35 : decode cX1_shiftAlong 35 = .ok (.getfield 9, 3) := by decide +kernel
theorem dX1_shiftAlong_38 : decode cX1_shiftAlong 38 = .ok (.iload 4, 2) := by decide +kernel
theorem dX1_shiftAlong_40 : decode cX1_shiftAlong 40 = .ok (.iload_n 2, 1) := by decide +kernel
theorem dX1_shiftAlong_41 : decode cX1_shiftAlong 41 = .ok (.iastore, 1) := by decide +kernel
theorem dX1_shiftAlong_42 : decode cX1_shiftAlong 42 = .ok (.iload 5, 2) := by decide +kernel
theorem dX1_shiftAlong_44 : decode cX1_shiftAlong 44 = .ok (.istore_n 2, 1) := by decide +kernel
theorem dX1_shiftAlong_45 : decode cX1_shiftAlong 45 = .ok (.iinc 3 1, 3) := by decide +kernel
theorem dX1_shiftAlong_48 : decode cX1_shiftAlong 48 = .ok (.goto (-44), 3) := by decide +kernel
theorem dX1_shiftAlong_51 : decode cX1_shiftAlong 51 = .ok (.return_, 1) := by decide +kernel
theorem dX1_price_0 : decode cX1_price 0 = .ok (.aload_n 0, 1) := by decide +kernel
theorem dX1_price_1 : decode cX1_price 1 = .ok (.getfield 24, 3) := by decide +kernel
theorem dX1_price_4 : decode cX1_price 4 = .ok (.iload_n 1, 1) := by decide +kernel
theorem dX1_price_5 : decode cX1_price 5 = .ok (.aaload, 1) := by decide +kernel
theorem dX1_price_6 : decode cX1_price 6 = .ok (.getfield 42, 3) := by decide +kernel
theorem dX1_price_9 : decode cX1_price 9 = .ok (.iload_n 2, 1) := by decide +kernel
theorem dX1_price_10 : decode cX1_price 10 = .ok (.if_icmp .ne 7, 3) := by decide +kernel
theorem dX1_price_13 : decode cX1_price 13 = .ok (.iconst 0, 1) := by decide +kernel
theorem dX1_price_14 : decode cX1_price 14 = .ok (.goto 4, 3) := by decide +kernel
theorem dX1_price_17 : decode cX1_price 17 = .ok (.iconst 1, 1) := by decide +kernel
theorem dX1_price_18 : decode cX1_price 18 = .ok (.ireturn, 1) := by decide +kernel
theorem dX2_init_0 : decode cX2_init 0 = .ok (.aload_n 0, 1) := by decide +kernel
theorem dX2_init_1 : decode cX2_init 1 = .ok (.invokespecial 3, 3) := by decide +kernel
theorem dX2_init_4 : decode cX2_init 4 = .ok (.aload_n 0, 1) := by decide +kernel
theorem dX2_init_5 : decode cX2_init 5 = .ok (.sipush 300, 3) := by decide +kernel
theorem dX2_init_8 : decode cX2_init 8 = .ok (.newarray .int, 2) := by decide +kernel
theorem dX2_init_10 : decode cX2_init 10 = .ok (.putfield 11, 3) := by decide +kernel
theorem dX2_init_13 : decode cX2_init 13 = .ok (.aload_n 0, 1) := by decide +kernel
theorem dX2_init_14 : decode cX2_init 14 = .ok (.sipush 300, 3) := by decide +kernel
theorem dX2_init_17 : decode cX2_init 17 = .ok (.newarray .int, 2) := by decide +kernel
theorem dX2_init_19 : decode cX2_init 19 = .ok (.putfield 15, 3) := by decide +kernel
theorem dX2_init_22 : decode cX2_init 22 = .ok (.aload_n 0, 1) := by decide +kernel
theorem dX2_init_23 : decode cX2_init 23 = .ok (.sipush 300, 3) := by decide +kernel
theorem dX2_init_26 : decode cX2_init 26 = .ok (.newarray .int, 2) := by decide +kernel
theorem dX2_init_28 : decode cX2_init 28 = .ok (.putfield 18, 3) := by decide +kernel
theorem dX2_init_31 : decode cX2_init 31 = .ok (.aload_n 0, 1) := by decide +kernel
theorem dX2_init_32 : decode cX2_init 32 = .ok (.bipush 100, 2) := by decide +kernel
theorem dX2_init_34 : decode cX2_init 34 = .ok (.newarray .int, 2) := by decide +kernel
theorem dX2_init_36 : decode cX2_init 36 = .ok (.putfield 21, 3) := by decide +kernel
theorem dX2_init_39 : decode cX2_init 39 = .ok (.aload_n 0, 1) := by decide +kernel
theorem dX2_init_40 : decode cX2_init 40 = .ok (.bipush 100, 2) := by decide +kernel
theorem dX2_init_42 : decode cX2_init 42 = .ok (.newarray .int, 2) := by decide +kernel
theorem dX2_init_44 : decode cX2_init 44 = .ok (.putfield 24, 3) := by decide +kernel
theorem dX2_init_47 : decode cX2_init 47 = .ok (.aload_n 0, 1) := by decide +kernel
theorem dX2_init_48 : decode cX2_init 48 = .ok (.bipush 100, 2) := by decide +kernel
theorem dX2_init_50 : decode cX2_init 50 = .ok (.newarray .int, 2) := by decide +kernel
theorem dX2_init_52 : decode cX2_init 52 = .ok (.putfield 27, 3) := by decide +kernel
theorem dX2_init_55 : decode cX2_init 55 = .ok (.return_, 1) := by decide +kernel
theorem dX2_give_0 : decode cX2_give 0 = .ok (.aload_n 0, 1) := by decide +kernel
theorem dX2_give_1 : decode cX2_give 1 = .ok (.getfield 30, 3) := by decide +kernel
theorem dX2_give_4 : decode cX2_give 4 = .ok (.sipush 300, 3) := by decide +kernel
theorem dX2_give_7 : decode cX2_give 7 = .ok (.if_icmp .lt 5, 3) := by decide +kernel
theorem dX2_give_10 : decode cX2_give 10 = .ok (.iconst 0, 1) := by decide +kernel
theorem dX2_give_11 : decode cX2_give 11 = .ok (.ireturn, 1) := by decide +kernel
theorem dX2_give_12 : decode cX2_give 12 = .ok (.aload_n 0, 1) := by decide +kernel
theorem dX2_give_13 : decode cX2_give 13 = .ok (.getfield 11, 3) := by decide +kernel
theorem dX2_give_16 : decode cX2_give 16 = .ok (.aload_n 0, 1) := by decide +kernel
theorem dX2_give_17 : decode cX2_give 17 = .ok (.getfield 30, 3) := by decide +kernel
theorem dX2_give_20 : decode cX2_give 20 = .ok (.iload_n 1, 1) := by decide +kernel
theorem dX2_give_21 : decode cX2_give 21 = .ok (.iastore, 1) := by decide +kernel
theorem dX2_give_22 : decode cX2_give 22 = .ok (.aload_n 0, 1) := by decide +kernel
theorem dX2_give_23 : decode cX2_give 23 = .ok (.getfield 15, 3) := by decide +kernel
theorem dX2_give_26 : decode cX2_give 26 = .ok (.aload_n 0, 1) := by decide +kernel
theorem dX2_give_27 : decode cX2_give 27 = .ok (.getfield 30, 3) := by decide +kernel
theorem dX2_give_30 : decode cX2_give 30 = .ok (.iload_n 2, 1) := by decide +kernel
theorem dX2_give_31 : decode cX2_give 31 = .ok (.iastore, 1) := by decide +kernel
theorem dX2_give_32 : decode cX2_give 32 = .ok (.aload_n 0, 1) := by decide +kernel
theorem dX2_give_33 : decode cX2_give 33 = .ok (.getfield 18, 3) := by decide +kernel
theorem dX2_give_36 : decode cX2_give 36 = .ok (.aload_n 0, 1) := by decide +kernel
theorem dX2_give_37 : decode cX2_give 37 = .ok (.getfield 30, 3) := by decide +kernel
theorem dX2_give_40 : decode cX2_give 40 = .ok (.iload_n 3, 1) := by decide +kernel
theorem dX2_give_41 : decode cX2_give 41 = .ok (.iastore, 1) := by decide +kernel
theorem dX2_give_42 : decode cX2_give 42 = .ok (.aload_n 0, 1) := by decide +kernel
theorem dX2_give_43 : decode cX2_give 43 = .ok (.dup, 1) := by decide +kernel
theorem dX2_give_44 : decode cX2_give 44 = .ok (.getfield 30, 3) := by decide +kernel
theorem dX2_give_47 : decode cX2_give 47 = .ok (.iconst 1, 1) := by decide +kernel
theorem dX2_give_48 : decode cX2_give 48 = .ok (.iadd, 1) := by decide +kernel
theorem dX2_give_49 : decode cX2_give 49 = .ok (.putfield 30, 3) := by decide +kernel
theorem dX2_give_52 : decode cX2_give 52 = .ok (.iconst 1, 1) := by decide +kernel
theorem dX2_give_53 : decode cX2_give 53 = .ok (.ireturn, 1) := by decide +kernel
theorem dX2_tie_0 : decode cX2_tie 0 = .ok (.aload_n 0, 1) := by decide +kernel
theorem dX2_tie_1 : decode cX2_tie 1 = .ok (.getfield 34, 3) := by decide +kernel
theorem dX2_tie_4 : decode cX2_tie 4 = .ok (.bipush 100, 2) := by decide +kernel
theorem dX2_tie_6 : decode cX2_tie 6 = .ok (.if_icmp .ge 13, 3) := by decide +kernel
theorem dX2_tie_9 : decode cX2_tie 9 = .ok (.aload_n 0, 1) := by decide +kernel
theorem dX2_tie_10 : decode cX2_tie 10 = .ok (.iload_n 2, 1) := by decide +kernel
theorem dX2_tie_11 : decode cX2_tie 11 = .ok (.iload_n 1, 1) := by decide +kernel
theorem dX2_tie_12 : decode cX2_tie 12 = .ok (.iload_n 3, 1) := by decide +kernel
theorem dX2_tie_13 : decode cX2_tie 13 = .ok (.invokevirtual 37, 3) := by decide +kernel
theorem dX2_tie_16 : decode cX2_tie 16 = .ok (.ifCond .eq 5, 3) := by decide +kernel
theorem dX2_tie_19 : decode cX2_tie 19 = .ok (.iconst 0, 1) := by decide +kernel
theorem dX2_tie_20 : decode cX2_tie 20 = .ok (.ireturn, 1) := by decide +kernel
theorem dX2_tie_21 : decode cX2_tie 21 = .ok (.aload_n 0, 1) := by decide +kernel
theorem dX2_tie_22 : decode cX2_tie 22 = .ok (.getfield 21, 3) := by decide +kernel
theorem dX2_tie_25 : decode cX2_tie 25 = .ok (.aload_n 0, 1) := by decide +kernel
theorem dX2_tie_26 : decode cX2_tie 26 = .ok (.getfield 34, 3) := by decide +kernel
theorem dX2_tie_29 : decode cX2_tie 29 = .ok (.iload_n 1, 1) := by decide +kernel
theorem dX2_tie_30 : decode cX2_tie 30 = .ok (.iastore, 1) := by decide +kernel
theorem dX2_tie_31 : decode cX2_tie 31 = .ok (.aload_n 0, 1) := by decide +kernel
theorem dX2_tie_32 : decode cX2_tie 32 = .ok (.getfield 24, 3) := by decide +kernel
theorem dX2_tie_35 : decode cX2_tie 35 = .ok (.aload_n 0, 1) := by decide +kernel
theorem dX2_tie_36 : decode cX2_tie 36 = .ok (.getfield 34, 3) := by decide +kernel
theorem dX2_tie_39 : decode cX2_tie 39 = .ok (.iload_n 2, 1) := by decide +kernel
theorem dX2_tie_40 : decode cX2_tie 40 = .ok (.iastore, 1) := by decide +kernel
theorem dX2_tie_41 : decode cX2_tie 41 = .ok (.aload_n 0, 1) := by decide +kernel
theorem dX2_tie_42 : decode cX2_tie 42 = .ok (.getfield 27, 3) := by decide +kernel
theorem dX2_tie_45 : decode cX2_tie 45 = .ok (.aload_n 0, 1) := by decide +kernel
theorem dX2_tie_46 : decode cX2_tie 46 = .ok (.getfield 34, 3) := by decide +kernel
theorem dX2_tie_49 : decode cX2_tie 49 = .ok (.iload_n 3, 1) := by decide +kernel
theorem dX2_tie_50 : decode cX2_tie 50 = .ok (.iastore, 1) := by decide +kernel
theorem dX2_tie_51 : decode cX2_tie 51 = .ok (.aload_n 0, 1) := by decide +kernel
theorem dX2_tie_52 : decode cX2_tie 52 = .ok (.dup, 1) := by decide +kernel
theorem dX2_tie_53 : decode cX2_tie 53 = .ok (.getfield 34, 3) := by decide +kernel
theorem dX2_tie_56 : decode cX2_tie 56 = .ok (.iconst 1, 1) := by decide +kernel
theorem dX2_tie_57 : decode cX2_tie 57 = .ok (.iadd, 1) := by decide +kernel
theorem dX2_tie_58 : decode cX2_tie 58 = .ok (.putfield 34, 3) := by decide +kernel
theorem dX2_tie_61 : decode cX2_tie 61 = .ok (.iconst 1, 1) := by decide +kernel
theorem dX2_tie_62 : decode cX2_tie 62 = .ok (.ireturn, 1) := by decide +kernel
theorem dX2_nameOf_0 : decode cX2_nameOf 0 = .ok (.aload_n 0, 1) := by decide +kernel
theorem dX2_nameOf_1 : decode cX2_nameOf 1 = .ok (.iload_n 1, 1) := by decide +kernel
theorem dX2_nameOf_2 : decode cX2_nameOf 2 = .ok (.iload_n 2, 1) := by decide +kernel
theorem dX2_nameOf_3 : decode cX2_nameOf 3 = .ok (.invokevirtual 41, 3) := by decide +kernel
theorem dX2_nameOf_6 : decode cX2_nameOf 6 = .ok (.istore 4, 2) := by decide +kernel
theorem dX2_nameOf_8 : decode cX2_nameOf 8 = .ok (.iconst 0, 1) := by decide +kernel
theorem dX2_nameOf_9 : decode cX2_nameOf 9 = .ok (.istore 5, 2) := by decide +kernel
theorem dX2_nameOf_11 : decode cX2_nameOf 11 = .ok (.iload 5, 2) := by decide +kernel
theorem dX2_nameOf_13 : decode cX2_nameOf 13 = .ok (.bipush 50, 2) := by decide +kernel
theorem dX2_nameOf_15 : decode cX2_nameOf 15 = .ok (.if_icmp .ge 30, 3) := by decide +kernel
theorem dX2_nameOf_18 : decode cX2_nameOf 18 = .ok (.aload_n 0, 1) := by decide +kernel
theorem dX2_nameOf_19 : decode cX2_nameOf 19 = .ok (.iload 4, 2) := by decide +kernel
theorem dX2_nameOf_21 : decode cX2_nameOf 21 = .ok (.iload_n 3, 1) := by decide +kernel
theorem dX2_nameOf_22 : decode cX2_nameOf 22 = .ok (.invokevirtual 45, 3) := by decide +kernel
theorem dX2_nameOf_25 : decode cX2_nameOf 25 = .ok (.istore 6, 2) := by decide +kernel
theorem dX2_nameOf_27 : decode cX2_nameOf 27 = .ok (.iload 6, 2) := by decide +kernel
theorem dX2_nameOf_29 : decode cX2_nameOf 29 = .ok (.ifCond .ne 6, 3) := by decide +kernel
theorem dX2_nameOf_32 : decode cX2_nameOf 32 = .ok (.iload 4, 2) := by decide +kernel
theorem dX2_nameOf_34 : decode cX2_nameOf 34 = .ok (.ireturn, 1) := by decide +kernel
theorem dX2_nameOf_35 : decode cX2_nameOf 35 = .ok (.iload 6, 2) := by decide +kernel
theorem dX2_nameOf_37 : decode cX2_nameOf 37 = .ok (.istore 4, 2) := by decide +kernel
theorem dX2_nameOf_39 : decode cX2_nameOf 39 = .ok (.iinc 5 1, 3) := by decide +kernel
theorem dX2_nameOf_42 : decode cX2_nameOf 42 = .ok (.goto (-31), 3) := by decide +kernel
theorem dX2_nameOf_45 : decode cX2_nameOf 45 = .ok (.iload 4, 2) := by decide +kernel
theorem dX2_nameOf_47 : decode cX2_nameOf 47 = .ok (.ireturn, 1) := by decide +kernel
theorem dX2_leadsTo_0 : decode cX2_leadsTo 0 = .ok (.iload_n 1, 1) := by decide +kernel
theorem dX2_leadsTo_1 : decode cX2_leadsTo 1 = .ok (.istore 4, 2) := by decide +kernel
theorem dX2_leadsTo_3 : decode cX2_leadsTo 3 = .ok (.iconst 0, 1) := by decide +kernel
theorem dX2_leadsTo_4 : decode cX2_leadsTo 4 = .ok (.istore 5, 2) := by decide +kernel
theorem dX2_leadsTo_6 : decode cX2_leadsTo 6 = .ok (.iload 5, 2) := by decide +kernel
theorem dX2_leadsTo_8 : decode cX2_leadsTo 8 = .ok (.bipush 50, 2) := by decide +kernel
theorem dX2_leadsTo_10 : decode cX2_leadsTo 10 = .ok (.if_icmp .ge 31, 3) := by decide +kernel
theorem dX2_leadsTo_13 : decode cX2_leadsTo 13 = .ok (.iload 4, 2) := by decide +kernel
theorem dX2_leadsTo_15 : decode cX2_leadsTo 15 = .ok (.ifCond .eq 26, 3) := by decide +kernel
theorem dX2_leadsTo_18 : decode cX2_leadsTo 18 = .ok (.iload 4, 2) := by decide +kernel
theorem dX2_leadsTo_20 : decode cX2_leadsTo 20 = .ok (.iload_n 2, 1) := by decide +kernel
theorem dX2_leadsTo_21 : decode cX2_leadsTo 21 = .ok (.if_icmp .ne 5, 3) := by decide +kernel
theorem dX2_leadsTo_24 : decode cX2_leadsTo 24 = .ok (.iconst 1, 1) := by decide +kernel
theorem dX2_leadsTo_25 : decode cX2_leadsTo 25 = .ok (.ireturn, 1) := by decide +kernel
theorem dX2_leadsTo_26 : decode cX2_leadsTo 26 = .ok (.aload_n 0, 1) := by decide +kernel
theorem dX2_leadsTo_27 : decode cX2_leadsTo 27 = .ok (.iload 4, 2) := by decide +kernel
theorem dX2_leadsTo_29 : decode cX2_leadsTo 29 = .ok (.iload_n 3, 1) := by decide +kernel
theorem dX2_leadsTo_30 : decode cX2_leadsTo 30 = .ok (.invokevirtual 45, 3) := by decide +kernel
theorem dX2_leadsTo_33 : decode cX2_leadsTo 33 = .ok (.istore 4, 2) := by decide +kernel
theorem dX2_leadsTo_35 : decode cX2_leadsTo 35 = .ok (.iinc 5 1, 3) := by decide +kernel
theorem dX2_leadsTo_38 : decode cX2_leadsTo 38 = .ok (.goto (-32), 3) := by decide +kernel
theorem dX2_leadsTo_41 : decode cX2_leadsTo 41 = .ok (.iconst 0, 1) := by decide +kernel
theorem dX2_leadsTo_42 : decode cX2_leadsTo 42 = .ok (.ireturn, 1) := by decide +kernel
theorem dX2_givenAsOf_0 : decode cX2_givenAsOf 0 = .ok (.aload_n 0, 1) := by decide +kernel
theorem dX2_givenAsOf_1 : decode cX2_givenAsOf 1 = .ok (.getfield 30, 3) := by decide +kernel
theorem dX2_givenAsOf_4 : decode cX2_givenAsOf 4 = .ok (.iconst 1, 1) := by decide +kernel
theorem dX2_givenAsOf_5 : decode cX2_givenAsOf 5 = .ok (.isub, 1) := by decide +kernel
theorem dX2_givenAsOf_6 : decode cX2_givenAsOf 6 = .ok (.istore_n 3, 1) := by decide +kernel
theorem dX2_givenAsOf_7 : decode cX2_givenAsOf 7 = .ok (.iload_n 3, 1) := by decide +kernel
theorem dX2_givenAsOf_8 : decode cX2_givenAsOf 8 = .ok (.ifCond .lt 36, 3) := by decide +kernel
theorem dX2_givenAsOf_11 : decode cX2_givenAsOf 11 = .ok (.aload_n 0, 1) := by decide +kernel
theorem dX2_givenAsOf_12 : decode cX2_givenAsOf 12 = .ok (.getfield 11, 3) := by decide +kernel
theorem dX2_givenAsOf_15 : decode cX2_givenAsOf 15 = .ok (.iload_n 3, 1) := by decide +kernel
theorem dX2_givenAsOf_16 : decode cX2_givenAsOf 16 = .ok (.iaload, 1) := by decide +kernel
theorem dX2_givenAsOf_17 : decode cX2_givenAsOf 17 = .ok (.iload_n 1, 1) := by decide +kernel
theorem dX2_givenAsOf_18 : decode cX2_givenAsOf 18 = .ok (.if_icmp .ne 20, 3) := by decide +kernel
theorem dX2_givenAsOf_21 : decode cX2_givenAsOf 21 = .ok (.aload_n 0, 1) := by decide +kernel
theorem dX2_givenAsOf_22 : decode cX2_givenAsOf 22 = .ok (.getfield 18, 3) := by decide +kernel
theorem dX2_givenAsOf_25 : decode cX2_givenAsOf 25 = .ok (.iload_n 3, 1) := by decide +kernel
theorem dX2_givenAsOf_26 : decode cX2_givenAsOf 26 = .ok (.iaload, 1) := by decide +kernel
theorem dX2_givenAsOf_27 : decode cX2_givenAsOf 27 = .ok (.iload_n 2, 1) := by decide +kernel
theorem dX2_givenAsOf_28 : decode cX2_givenAsOf 28 = .ok (.if_icmp .gt 10, 3) := by decide +kernel
theorem dX2_givenAsOf_31 : decode cX2_givenAsOf 31 = .ok (.aload_n 0, 1) := by decide +kernel
theorem dX2_givenAsOf_32 : decode cX2_givenAsOf 32 = .ok (.getfield 15, 3) := by decide +kernel
theorem dX2_givenAsOf_35 : decode cX2_givenAsOf 35 = .ok (.iload_n 3, 1) := by decide +kernel
theorem dX2_givenAsOf_36 : decode cX2_givenAsOf 36 = .ok (.iaload, 1) := by decide +kernel
theorem dX2_givenAsOf_37 : decode cX2_givenAsOf 37 = .ok (.ireturn, 1) := by decide +kernel
theorem dX2_givenAsOf_38 : decode cX2_givenAsOf 38 = .ok (.iinc 3 (-1), 3) := by decide +kernel
theorem dX2_givenAsOf_41 : decode cX2_givenAsOf 41 = .ok (.goto (-34), 3) := by decide +kernel
theorem dX2_givenAsOf_44 : decode cX2_givenAsOf 44 = .ok (.iconst 0, 1) := by decide +kernel
theorem dX2_givenAsOf_45 : decode cX2_givenAsOf 45 = .ok (.ireturn, 1) := by decide +kernel
theorem dX2_tiedAsOf_0 : decode cX2_tiedAsOf 0 = .ok (.aload_n 0, 1) := by decide +kernel
theorem dX2_tiedAsOf_1 : decode cX2_tiedAsOf 1 = .ok (.getfield 34, 3) := by decide +kernel
theorem dX2_tiedAsOf_4 : decode cX2_tiedAsOf 4 = .ok (.iconst 1, 1) := by decide +kernel
theorem dX2_tiedAsOf_5 : decode cX2_tiedAsOf 5 = .ok (.isub, 1) := by decide +kernel
theorem dX2_tiedAsOf_6 : decode cX2_tiedAsOf 6 = .ok (.istore_n 3, 1) := by decide +kernel
theorem dX2_tiedAsOf_7 : decode cX2_tiedAsOf 7 = .ok (.iload_n 3, 1) := by decide +kernel
theorem dX2_tiedAsOf_8 : decode cX2_tiedAsOf 8 = .ok (.ifCond .lt 36, 3) := by decide +kernel
theorem dX2_tiedAsOf_11 : decode cX2_tiedAsOf 11 = .ok (.aload_n 0, 1) := by decide +kernel
theorem dX2_tiedAsOf_12 : decode cX2_tiedAsOf 12 = .ok (.getfield 21, 3) := by decide +kernel
theorem dX2_tiedAsOf_15 : decode cX2_tiedAsOf 15 = .ok (.iload_n 3, 1) := by decide +kernel
theorem dX2_tiedAsOf_16 : decode cX2_tiedAsOf 16 = .ok (.iaload, 1) := by decide +kernel
theorem dX2_tiedAsOf_17 : decode cX2_tiedAsOf 17 = .ok (.iload_n 1, 1) := by decide +kernel
theorem dX2_tiedAsOf_18 : decode cX2_tiedAsOf 18 = .ok (.if_icmp .ne 20, 3) := by decide +kernel
theorem dX2_tiedAsOf_21 : decode cX2_tiedAsOf 21 = .ok (.aload_n 0, 1) := by decide +kernel
theorem dX2_tiedAsOf_22 : decode cX2_tiedAsOf 22 = .ok (.getfield 27, 3) := by decide +kernel
theorem dX2_tiedAsOf_25 : decode cX2_tiedAsOf 25 = .ok (.iload_n 3, 1) := by decide +kernel
theorem dX2_tiedAsOf_26 : decode cX2_tiedAsOf 26 = .ok (.iaload, 1) := by decide +kernel
theorem dX2_tiedAsOf_27 : decode cX2_tiedAsOf 27 = .ok (.iload_n 2, 1) := by decide +kernel
theorem dX2_tiedAsOf_28 : decode cX2_tiedAsOf 28 = .ok (.if_icmp .gt 10, 3) := by decide +kernel
theorem dX2_tiedAsOf_31 : decode cX2_tiedAsOf 31 = .ok (.aload_n 0, 1) := by decide +kernel
theorem dX2_tiedAsOf_32 : decode cX2_tiedAsOf 32 = .ok (.getfield 24, 3) := by decide +kernel
theorem dX2_tiedAsOf_35 : decode cX2_tiedAsOf 35 = .ok (.iload_n 3, 1) := by decide +kernel
theorem dX2_tiedAsOf_36 : decode cX2_tiedAsOf 36 = .ok (.iaload, 1) := by decide +kernel
theorem dX2_tiedAsOf_37 : decode cX2_tiedAsOf 37 = .ok (.ireturn, 1) := by decide +kernel
theorem dX2_tiedAsOf_38 : decode cX2_tiedAsOf 38 = .ok (.iinc 3 (-1), 3) := by decide +kernel
theorem dX2_tiedAsOf_41 : decode cX2_tiedAsOf 41 = .ok (.goto (-34), 3) := by decide +kernel
theorem dX2_tiedAsOf_44 : decode cX2_tiedAsOf 44 = .ok (.iconst 0, 1) := by decide +kernel
theorem dX2_tiedAsOf_45 : decode cX2_tiedAsOf 45 = .ok (.ireturn, 1) := by decide +kernel
theorem dX3_init_0 : decode cX3_init 0 = .ok (.aload_n 0, 1) := by decide +kernel
theorem dX3_init_1 : decode cX3_init 1 = .ok (.invokespecial 3, 3) := by decide +kernel
theorem dX3_init_4 : decode cX3_init 4 = .ok (.aload_n 0, 1) := by decide +kernel
theorem dX3_init_5 : decode cX3_init 5 = .ok (.bipush 8, 2) := by decide +kernel
theorem dX3_init_7 : decode cX3_init 7 = .ok (.newarray .int, 2) := by decide +kernel
theorem dX3_init_9 : decode cX3_init 9 = .ok (.putfield 9, 3) := by decide +kernel
theorem dX3_init_12 : decode cX3_init 12 = .ok (.aload_n 0, 1) := by decide +kernel
theorem dX3_init_13 : decode cX3_init 13 = .ok (.bipush 9, 2) := by decide +kernel
theorem dX3_init_15 : decode cX3_init 15 = .ok (.putfield 15, 3) := by decide +kernel
theorem dX3_init_18 : decode cX3_init 18 = .ok (.aload_n 0, 1) := by decide +kernel
theorem dX3_init_19 : decode cX3_init 19 = .ok (.bipush 9, 2) := by decide +kernel
theorem dX3_init_21 : decode cX3_init 21 = .ok (.putfield 19, 3) := by decide +kernel
theorem dX3_init_24 : decode cX3_init 24 = .ok (.aload_n 0, 1) := by decide +kernel
theorem dX3_init_25 : decode cX3_init 25 = .ok (.iconst (-1), 1) := by decide +kernel
theorem dX3_init_26 : decode cX3_init 26 = .ok (.putfield 22, 3) := by decide +kernel
theorem dX3_init_29 : decode cX3_init 29 = .ok (.aload_n 0, 1) := by decide +kernel
theorem dX3_init_30 : decode cX3_init 30 = .ok (.iload_n 1, 1) := by decide +kernel
theorem dX3_init_31 : decode cX3_init 31 = .ok (.putfield 25, 3) := by decide +kernel
theorem dX3_init_34 : decode cX3_init 34 = .ok (.aload_n 0, 1) := by decide +kernel
theorem dX3_init_35 : decode cX3_init 35 = .ok (.iconst 0, 1) := by decide +kernel
theorem dX3_init_36 : decode cX3_init 36 = .ok (.putfield 28, 3) := by decide +kernel
theorem dX3_init_39 : decode cX3_init 39 = .ok (.aload_n 0, 1) := by decide +kernel
theorem dX3_init_40 : decode cX3_init 40 = .ok (.aconst_null, 1) := by decide +kernel
theorem dX3_init_41 : decode cX3_init 41 = .ok (.putfield 31, 3) := by decide +kernel
theorem dX3_init_44 : decode cX3_init 44 = .ok (.aload_n 0, 1) := by decide +kernel
theorem dX3_init_45 : decode cX3_init 45 = .ok (.aconst_null, 1) := by decide +kernel
theorem dX3_init_46 : decode cX3_init 46 = .ok (.putfield 35, 3) := by decide +kernel
theorem dX3_init_49 : decode cX3_init 49 = .ok (.aload_n 0, 1) := by decide +kernel
theorem dX3_init_50 : decode cX3_init 50 = .ok (.iload_n 1, 1) := by decide +kernel
theorem dX3_init_51 : decode cX3_init 51 = .ok (.putfield 38, 3) := by decide +kernel
theorem dX3_init_54 : decode cX3_init 54 = .ok (.aload_n 0, 1) := by decide +kernel
theorem dX3_init_55 : decode cX3_init 55 = .ok (.iload_n 2, 1) := by decide +kernel
theorem dX3_init_56 : decode cX3_init 56 = .ok (.putfield 41, 3) := by decide +kernel
theorem dX3_init_59 : decode cX3_init 59 = .ok (.aload_n 0, 1) := by decide +kernel
theorem dX3_init_60 : decode cX3_init 60 = .ok (.iconst 0, 1) := by decide +kernel
theorem dX3_init_61 : decode cX3_init 61 = .ok (.putfield 44, 3) := by decide +kernel
theorem dX3_init_64 : decode cX3_init 64 = .ok (.aload_n 0, 1) := by decide +kernel
theorem dX3_init_65 : decode cX3_init 65 = .ok (.iload_n 3, 1) := by decide +kernel
theorem dX3_init_66 : decode cX3_init 66 = .ok (.putfield 48, 3) := by decide +kernel
theorem dX3_init_69 : decode cX3_init 69 = .ok (.return_, 1) := by decide +kernel
theorem dX3_init__0 : decode cX3_init_ 0 = .ok (.aload_n 0, 1) := by decide +kernel
theorem dX3_init__1 : decode cX3_init_ 1 = .ok (.invokespecial 3, 3) := by decide +kernel
theorem dX3_init__4 : decode cX3_init_ 4 = .ok (.aload_n 0, 1) := by decide +kernel
theorem dX3_init__5 : decode cX3_init_ 5 = .ok (.bipush 8, 2) := by decide +kernel
theorem dX3_init__7 : decode cX3_init_ 7 = .ok (.newarray .int, 2) := by decide +kernel
theorem dX3_init__9 : decode cX3_init_ 9 = .ok (.putfield 9, 3) := by decide +kernel
theorem dX3_init__12 : decode cX3_init_ 12 = .ok (.aload_n 0, 1) := by decide +kernel
theorem dX3_init__13 : decode cX3_init_ 13 = .ok (.bipush 9, 2) := by decide +kernel
theorem dX3_init__15 : decode cX3_init_ 15 = .ok (.putfield 15, 3) := by decide +kernel
theorem dX3_init__18 : decode cX3_init_ 18 = .ok (.aload_n 0, 1) := by decide +kernel
theorem dX3_init__19 : decode cX3_init_ 19 = .ok (.bipush 9, 2) := by decide +kernel
theorem dX3_init__21 : decode cX3_init_ 21 = .ok (.putfield 19, 3) := by decide +kernel
theorem dX3_init__24 : decode cX3_init_ 24 = .ok (.aload_n 0, 1) := by decide +kernel
theorem dX3_init__25 : decode cX3_init_ 25 = .ok (.iconst (-1), 1) := by decide +kernel
theorem dX3_init__26 : decode cX3_init_ 26 = .ok (.putfield 22, 3) := by decide +kernel
theorem dX3_init__29 : decode cX3_init_ 29 = .ok (.aload_n 0, 1) := by decide +kernel
theorem dX3_init__30 : decode cX3_init_ 30 = .ok (.iload_n 1, 1) := by decide +kernel
theorem dX3_init__31 : decode cX3_init_ 31 = .ok (.putfield 25, 3) := by decide +kernel
theorem dX3_init__34 : decode cX3_init_ 34 = .ok (.aload_n 0, 1) := by decide +kernel
theorem dX3_init__35 : decode cX3_init_ 35 = .ok (.iload_n 2, 1) := by decide +kernel
theorem dX3_init__36 : decode cX3_init_ 36 = .ok (.putfield 28, 3) := by decide +kernel
theorem dX3_init__39 : decode cX3_init_ 39 = .ok (.aload_n 0, 1) := by decide +kernel
theorem dX3_init__40 : decode cX3_init_ 40 = .ok (.aload_n 3, 1) := by decide +kernel
theorem dX3_init__41 : decode cX3_init_ 41 = .ok (.putfield 31, 3) := by decide +kernel
theorem dX3_init__44 : decode cX3_init_ 44 = .ok (.aload_n 0, 1) := by decide +kernel
theorem dX3_init__45 : decode cX3_init_ 45 = .ok (.aload 4, 2) := by decide +kernel
theorem dX3_init__47 : decode cX3_init_ 47 = .ok (.putfield 35, 3) := by decide +kernel
theorem dX3_init__50 : decode cX3_init_ 50 = .ok (.aload_n 0, 1) := by decide +kernel
theorem dX3_init__51 : decode cX3_init_ 51 = .ok (.aload_n 3, 1) := by decide +kernel
theorem dX3_init__52 : decode cX3_init_ 52 = .ok (.getfield 38, 3) := by decide +kernel
theorem dX3_init__55 : decode cX3_init_ 55 = .ok (.putfield 38, 3) := by decide +kernel
theorem dX3_init__58 : decode cX3_init_ 58 = .ok (.aload_n 0, 1) := by decide +kernel
theorem dX3_init__59 : decode cX3_init_ 59 = .ok (.aload_n 3, 1) := by decide +kernel
theorem dX3_init__60 : decode cX3_init_ 60 = .ok (.getfield 41, 3) := by decide +kernel
theorem dX3_init__63 : decode cX3_init_ 63 = .ok (.putfield 41, 3) := by decide +kernel
theorem dX3_init__66 : decode cX3_init_ 66 = .ok (.aload_n 0, 1) := by decide +kernel
theorem dX3_init__67 : decode cX3_init_ 67 = .ok (.iload_n 2, 1) := by decide +kernel
theorem dX3_init__68 : decode cX3_init_ 68 = .ok (.iconst 2, 1) := by decide +kernel
theorem dX3_init__69 : decode cX3_init_ 69 = .ok (.if_icmp .eq 15, 3) := by decide +kernel
theorem dX3_init__72 : decode cX3_init_ 72 = .ok (.iload_n 2, 1) := by decide +kernel
theorem dX3_init__73 : decode cX3_init_ 73 = .ok (.iconst 3, 1) := by decide +kernel
theorem dX3_init__74 : decode cX3_init_ 74 = .ok (.if_icmp .ne 14, 3) := by decide +kernel
theorem dX3_init__77 : decode cX3_init_ 77 = .ok (.aload_n 3, 1) := by decide +kernel
theorem dX3_init__78 : decode cX3_init_ 78 = .ok (.getfield 44, 3) := by decide +kernel
theorem dX3_init__81 : decode cX3_init_ 81 = .ok (.ifCond .eq 7, 3) := by decide +kernel
theorem dX3_init__84 : decode cX3_init_ 84 = .ok (.iconst 1, 1) := by decide +kernel
theorem dX3_init__85 : decode cX3_init_ 85 = .ok (.goto 4, 3) := by decide +kernel
theorem dX3_init__88 : decode cX3_init_ 88 = .ok (.iconst 0, 1) := by decide +kernel
theorem dX3_init__89 : decode cX3_init_ 89 = .ok (.putfield 44, 3) := by decide +kernel
theorem dX3_init__92 : decode cX3_init_ 92 = .ok (.aload_n 0, 1) := by decide +kernel
theorem dX3_init__93 : decode cX3_init_ 93 = .ok (.iload 5, 2) := by decide +kernel
theorem dX3_init__95 : decode cX3_init_ 95 = .ok (.putfield 48, 3) := by decide +kernel
theorem dX3_init__98 : decode cX3_init_ 98 = .ok (.iload_n 2, 1) := by decide +kernel
theorem dX3_init__99 : decode cX3_init_ 99 = .ok (.iconst 1, 1) := by decide +kernel
theorem dX3_init__100 : decode cX3_init_ 100 = .ok (.if_icmp .eq 21, 3) := by decide +kernel
theorem dX3_init__103 : decode cX3_init_ 103 = .ok (.aload_n 3, 1) := by decide +kernel
theorem dX3_init__104 : decode cX3_init_ 104 = .ok (.getfield 9, 3) := by decide +kernel
theorem dX3_init__107 : decode cX3_init_ 107 = .ok (.iconst 0, 1) := by decide +kernel
theorem dX3_init__108 : decode cX3_init_ 108 = .ok (.aload_n 0, 1) := by decide +kernel
theorem dX3_init__109 : decode cX3_init_ 109 = .ok (.getfield 9, 3) := by decide +kernel
theorem dX3_init__112 : decode cX3_init_ 112 = .ok (.iconst 0, 1) := by decide +kernel
theorem dX3_init__113 : decode cX3_init_ 113 = .ok (.aload_n 0, 1) := by decide +kernel
theorem dX3_init__114 : decode cX3_init_ 114 = .ok (.getfield 9, 3) := by decide +kernel
theorem dX3_init__117 : decode cX3_init_ 117 = .ok (.arraylength, 1) := by decide +kernel
theorem dX3_init__118 : decode cX3_init_ 118 = .ok (.invokestatic 51, 3) := by decide +kernel
theorem dX3_init__121 : decode cX3_init_ 121 = .ok (.return_, 1) := by decide +kernel
theorem dX3_setMarks_0 : decode cX3_setMarks 0 = .ok (.aload_n 0, 1) := by decide +kernel
theorem dX3_setMarks_1 : decode cX3_setMarks 1 = .ok (.getfield 9, 3) := by decide +kernel
theorem dX3_setMarks_4 : decode cX3_setMarks 4 = .ok (.iconst 2, 1) := by decide +kernel
theorem dX3_setMarks_5 : decode cX3_setMarks 5 = .ok (.iload_n 1, 1) := by decide +kernel
theorem dX3_setMarks_6 : decode cX3_setMarks 6 = .ok (.imul, 1) := by decide +kernel
theorem dX3_setMarks_7 : decode cX3_setMarks 7 = .ok (.iload_n 2, 1) := by decide +kernel
theorem dX3_setMarks_8 : decode cX3_setMarks 8 = .ok (.iastore, 1) := by decide +kernel
theorem dX3_setMarks_9 : decode cX3_setMarks 9 = .ok (.aload_n 0, 1) := by decide +kernel
theorem dX3_setMarks_10 : decode cX3_setMarks 10 = .ok (.getfield 9, 3) := by decide +kernel
theorem dX3_setMarks_13 : decode cX3_setMarks 13 = .ok (.iconst 2, 1) := by decide +kernel
theorem dX3_setMarks_14 : decode cX3_setMarks 14 = .ok (.iload_n 1, 1) := by decide +kernel
theorem dX3_setMarks_15 : decode cX3_setMarks 15 = .ok (.imul, 1) := by decide +kernel
theorem dX3_setMarks_16 : decode cX3_setMarks 16 = .ok (.iconst 1, 1) := by decide +kernel
theorem dX3_setMarks_17 : decode cX3_setMarks 17 = .ok (.iadd, 1) := by decide +kernel
theorem dX3_setMarks_18 : decode cX3_setMarks 18 = .ok (.iload_n 3, 1) := by decide +kernel
theorem dX3_setMarks_19 : decode cX3_setMarks 19 = .ok (.iastore, 1) := by decide +kernel
theorem dX3_setMarks_20 : decode cX3_setMarks 20 = .ok (.return_, 1) := by decide +kernel
theorem dX3_suits_0 : decode cX3_suits 0 = .ok (.aload_n 1, 1) := by decide +kernel
theorem dX3_suits_1 : decode cX3_suits 1 = .ok (.getfield 57, 3) := by decide +kernel
theorem dX3_suits_4 : decode cX3_suits 4 = .ok (.aload_n 0, 1) := by decide +kernel
theorem dX3_suits_5 : decode cX3_suits 5 = .ok (.getfield 62, 3) := by decide +kernel
theorem dX3_suits_8 : decode cX3_suits 8 = .ok (.aload_n 0, 1) := by decide +kernel
theorem dX3_suits_9 : decode cX3_suits 9 = .ok (.getfield 15, 3) := by decide +kernel
theorem dX3_suits_12 : decode cX3_suits 12 = .ok (.invokestatic 65, 3) := by decide +kernel
theorem dX3_suits_15 : decode cX3_suits 15 = .ok (.ifCond .eq 25, 3) := by decide +kernel
theorem dX3_suits_18 : decode cX3_suits 18 = .ok (.aload_n 1, 1) := by decide +kernel
theorem dX3_suits_19 : decode cX3_suits 19 = .ok (.getfield 69, 3) := by decide +kernel
theorem dX3_suits_22 : decode cX3_suits 22 = .ok (.aload_n 0, 1) := by decide +kernel
theorem dX3_suits_23 : decode cX3_suits 23 = .ok (.getfield 72, 3) := by decide +kernel
theorem dX3_suits_26 : decode cX3_suits 26 = .ok (.aload_n 0, 1) := by decide +kernel
theorem dX3_suits_27 : decode cX3_suits 27 = .ok (.getfield 19, 3) := by decide +kernel
theorem dX3_suits_30 : decode cX3_suits 30 = .ok (.invokestatic 65, 3) := by decide +kernel
theorem dX3_suits_33 : decode cX3_suits 33 = .ok (.ifCond .eq 7, 3) := by decide +kernel
theorem dX3_suits_36 : decode cX3_suits 36 = .ok (.iconst 1, 1) := by decide +kernel
theorem dX3_suits_37 : decode cX3_suits 37 = .ok (.goto 4, 3) := by decide +kernel
theorem dX3_suits_40 : decode cX3_suits 40 = .ok (.iconst 0, 1) := by decide +kernel
theorem dX3_suits_41 : decode cX3_suits 41 = .ok (.ireturn, 1) := by decide +kernel
theorem dX3_diesByCheck_0 : decode cX3_diesByCheck 0 = .ok (.aload_n 0, 1) := by decide +kernel
theorem dX3_diesByCheck_1 : decode cX3_diesByCheck 1 = .ok (.getfield 75, 3) := by decide +kernel
theorem dX3_diesByCheck_4 : decode cX3_diesByCheck 4 = .ok (.istore_n 1, 1) := by decide +kernel
theorem dX3_diesByCheck_5 : decode cX3_diesByCheck 5 = .ok (.aload_n 0, 1) := by decide +kernel
theorem dX3_diesByCheck_6 : decode cX3_diesByCheck 6 = .ok (.getfield 78, 3) := by decide +kernel
theorem dX3_diesByCheck_9 : decode cX3_diesByCheck 9 = .ok (.ifCond .le 24, 3) := by decide +kernel
theorem dX3_diesByCheck_12 : decode cX3_diesByCheck 12 = .ok (.aload_n 0, 1) := by decide +kernel
theorem dX3_diesByCheck_13 : decode cX3_diesByCheck 13 = .ok (.iconst 0, 1) := by decide +kernel
theorem dX3_diesByCheck_14 : decode cX3_diesByCheck 14 = .ok (.putfield 81, 3) := by decide +kernel
theorem dX3_diesByCheck_17 : decode cX3_diesByCheck 17 = .ok (.aload_n 0, 1) := by decide +kernel
theorem dX3_diesByCheck_18 : decode cX3_diesByCheck 18 = .ok (.aload_n 0, 1) := by decide +kernel
theorem dX3_diesByCheck_19 : decode cX3_diesByCheck 19 = .ok (.getfield 78, 3) := by decide +kernel
theorem dX3_diesByCheck_22 : decode cX3_diesByCheck 22 = .ok (.putfield 48, 3) := by decide +kernel
theorem dX3_diesByCheck_25 : decode cX3_diesByCheck 25 = .ok (.aload_n 0, 1) := by decide +kernel
theorem dX3_diesByCheck_26 : decode cX3_diesByCheck 26 = .ok (.iconst 0, 1) := by decide +kernel
theorem dX3_diesByCheck_27 : decode cX3_diesByCheck 27 = .ok (.putfield 78, 3) := by decide +kernel
theorem dX3_diesByCheck_30 : decode cX3_diesByCheck 30 = .ok (.goto 13, 3) := by decide +kernel
theorem dX3_diesByCheck_33 : decode cX3_diesByCheck 33 = .ok (.aload_n 0, 1) := by decide +kernel
theorem dX3_diesByCheck_34 : decode cX3_diesByCheck 34 = .ok (.dup, 1) := by decide +kernel
theorem dX3_diesByCheck_35 : decode cX3_diesByCheck 35 = .ok (.getfield 81, 3) := by decide +kernel
theorem dX3_diesByCheck_38 : decode cX3_diesByCheck 38 = .ok (.iconst 1, 1) := by decide +kernel
theorem dX3_diesByCheck_39 : decode cX3_diesByCheck 39 = .ok (.iadd, 1) := by decide +kernel
theorem dX3_diesByCheck_40 : decode cX3_diesByCheck 40 = .ok (.putfield 81, 3) := by decide +kernel
theorem dX3_diesByCheck_43 : decode cX3_diesByCheck 43 = .ok (.aload_n 0, 1) := by decide +kernel
theorem dX3_diesByCheck_44 : decode cX3_diesByCheck 44 = .ok (.aload_n 0, 1) := by decide +kernel
theorem dX3_diesByCheck_45 : decode cX3_diesByCheck 45 = .ok (.getfield 81, 3) := by decide +kernel
theorem dX3_diesByCheck_48 : decode cX3_diesByCheck 48 = .ok (.iconst 2, 1) := by decide +kernel
theorem dX3_diesByCheck_49 : decode cX3_diesByCheck 49 = .ok (.if_icmp .lt 7, 3) := by decide +kernel
theorem dX3_diesByCheck_52 : decode cX3_diesByCheck 52 = .ok (.iconst 1, 1) := by decide +kernel
theorem dX3_diesByCheck_53 : decode cX3_diesByCheck 53 = .ok (.goto 4, 3) := by decide +kernel
theorem dX3_diesByCheck_56 : decode cX3_diesByCheck 56 = .ok (.iconst 0, 1) := by decide +kernel
theorem dX3_diesByCheck_57 : decode cX3_diesByCheck 57 = .ok (.putfield 75, 3) := by decide +kernel
theorem dX3_diesByCheck_60 : decode cX3_diesByCheck 60 = .ok (.aload_n 0, 1) := by decide +kernel
theorem dX3_diesByCheck_61 : decode cX3_diesByCheck 61 = .ok (.getfield 75, 3) := by decide +kernel
theorem dX3_diesByCheck_64 : decode cX3_diesByCheck 64 = .ok (.ifCond .eq 11, 3) := by decide +kernel
theorem dX3_diesByCheck_67 : decode cX3_diesByCheck 67 = .ok (.iload_n 1, 1) := by decide +kernel
theorem dX3_diesByCheck_68 : decode cX3_diesByCheck 68 = .ok (.ifCond .ne 7, 3) := by decide +kernel
theorem dX3_diesByCheck_71 : decode cX3_diesByCheck 71 = .ok (.iconst 1, 1) := by decide +kernel
theorem dX3_diesByCheck_72 : decode cX3_diesByCheck 72 = .ok (.goto 4, 3) := by decide +kernel
theorem dX3_diesByCheck_75 : decode cX3_diesByCheck 75 = .ok (.iconst 0, 1) := by decide +kernel
theorem dX3_diesByCheck_76 : decode cX3_diesByCheck 76 = .ok (.ireturn, 1) := by decide +kernel
theorem dX3_fitsOriginOf_0 : decode cX3_fitsOriginOf 0 = .ok (.aload_n 1, 1) := by decide +kernel
theorem dX3_fitsOriginOf_1 : decode cX3_fitsOriginOf 1 = .ok (.getfield 31, 3) := by decide +kernel
theorem dX3_fitsOriginOf_4 : decode cX3_fitsOriginOf 4 = .ok (.ifnonnull 5, 3) := by decide +kernel
theorem dX3_fitsOriginOf_7 : decode cX3_fitsOriginOf 7 = .ok (.iconst 1, 1) := by decide +kernel
theorem dX3_fitsOriginOf_8 : decode cX3_fitsOriginOf 8 = .ok (.ireturn, 1) := by decide +kernel
theorem dX3_fitsOriginOf_9 : decode cX3_fitsOriginOf 9 = .ok (.iconst 0, 1) := by decide +kernel
theorem dX3_fitsOriginOf_10 : decode cX3_fitsOriginOf 10 = .ok (.istore_n 2, 1) := by decide +kernel
theorem dX3_fitsOriginOf_11 : decode cX3_fitsOriginOf 11 = .ok (.iload_n 2, 1) := by decide +kernel
theorem dX3_fitsOriginOf_12 : decode cX3_fitsOriginOf 12 = .ok (.iconst 4, 1) := by decide +kernel
theorem dX3_fitsOriginOf_13 : decode cX3_fitsOriginOf 13 = .ok (.if_icmp .ge 49, 3) := by decide +kernel
theorem dX3_fitsOriginOf_16 : decode cX3_fitsOriginOf 16 = .ok (.aload_n 1, 1) := by decide +kernel
theorem dX3_fitsOriginOf_17 : decode cX3_fitsOriginOf 17 = .ok (.getfield 28, 3) := by decide +kernel
theorem dX3_fitsOriginOf_20 : decode cX3_fitsOriginOf 20 = .ok (.iconst 1, 1) := by decide +kernel
theorem dX3_fitsOriginOf_21 : decode cX3_fitsOriginOf 21 = .ok (.if_icmp .ne 19, 3) := by decide +kernel
theorem dX3_fitsOriginOf_24 : decode cX3_fitsOriginOf 24 = .ok (.aload_n 0, 1) := by decide +kernel
theorem dX3_fitsOriginOf_25 : decode cX3_fitsOriginOf 25 = .ok (.iload_n 2, 1) := by decide +kernel
theorem dX3_fitsOriginOf_26 : decode cX3_fitsOriginOf 26 = .ok (.aload_n 1, 1) := by decide +kernel
theorem dX3_fitsOriginOf_27 : decode cX3_fitsOriginOf 27 = .ok (.getfield 31, 3) := by decide +kernel
theorem dX3_fitsOriginOf_30 : decode cX3_fitsOriginOf 30 = .ok (.aload_n 1, 1) := by decide +kernel
theorem dX3_fitsOriginOf_31 : decode cX3_fitsOriginOf 31 = .ok (.getfield 35, 3) := by decide +kernel
theorem dX3_fitsOriginOf_34 : decode cX3_fitsOriginOf 34 = .ok (.invokevirtual 84, 3) := by decide +kernel
theorem dX3_fitsOriginOf_37 : decode cX3_fitsOriginOf 37 = .ok (.goto 12, 3) := by decide +kernel
theorem dX3_fitsOriginOf_40 : decode cX3_fitsOriginOf 40 = .ok (.aload_n 0, 1) := by decide +kernel
theorem dX3_fitsOriginOf_41 : decode cX3_fitsOriginOf 41 = .ok (.iload_n 2, 1) := by decide +kernel
theorem dX3_fitsOriginOf_42 : decode cX3_fitsOriginOf 42 = .ok (.aload_n 1, 1) := by decide +kernel
theorem dX3_fitsOriginOf_43 : decode cX3_fitsOriginOf 43 = .ok (.getfield 31, 3) := by decide +kernel
theorem dX3_fitsOriginOf_46 : decode cX3_fitsOriginOf 46 = .ok (.invokevirtual 88, 3) := by decide +kernel
theorem dX3_fitsOriginOf_49 : decode cX3_fitsOriginOf 49 = .ok (.istore_n 3, 1) := by decide +kernel
theorem dX3_fitsOriginOf_50 : decode cX3_fitsOriginOf 50 = .ok (.iload_n 3, 1) := by decide +kernel
theorem dX3_fitsOriginOf_51 : decode cX3_fitsOriginOf 51 = .ok (.ifCond .ne 5, 3) := by decide +kernel
theorem dX3_fitsOriginOf_54 : decode cX3_fitsOriginOf 54 = .ok (.iconst 0, 1) := by decide +kernel
theorem dX3_fitsOriginOf_55 : decode cX3_fitsOriginOf 55 = .ok (.ireturn, 1) := by decide +kernel
theorem dX3_fitsOriginOf_56 : decode cX3_fitsOriginOf 56 = .ok (.iinc 2 1, 3) := by decide +kernel
theorem dX3_fitsOriginOf_59 : decode cX3_fitsOriginOf 59 = .ok (.goto (-48), 3) := by decide +kernel
theorem dX3_fitsOriginOf_62 : decode cX3_fitsOriginOf 62 = .ok (.iconst 1, 1) := by decide +kernel
theorem dX3_fitsOriginOf_63 : decode cX3_fitsOriginOf 63 = .ok (.ireturn, 1) := by decide +kernel
theorem dX3_sameMarks_0 : decode cX3_sameMarks 0 = .ok (.aload_n 0, 1) := by decide +kernel
theorem dX3_sameMarks_1 : decode cX3_sameMarks 1 = .ok (.getfield 9, 3) := by decide +kernel
theorem dX3_sameMarks_4 : decode cX3_sameMarks 4 = .ok (.iconst 2, 1) := by decide +kernel
theorem dX3_sameMarks_5 : decode cX3_sameMarks 5 = .ok (.iload_n 1, 1) := by decide +kernel
theorem dX3_sameMarks_6 : decode cX3_sameMarks 6 = .ok (.imul, 1) := by decide +kernel
theorem dX3_sameMarks_7 : decode cX3_sameMarks 7 = .ok (.iaload, 1) := by decide +kernel
theorem dX3_sameMarks_8 : decode cX3_sameMarks 8 = .ok (.aload_n 2, 1) := by decide +kernel
theorem dX3_sameMarks_9 : decode cX3_sameMarks 9 = .ok (.getfield 9, 3) := by decide +kernel
theorem dX3_sameMarks_12 : decode cX3_sameMarks 12 = .ok (.iconst 2, 1) := by decide +kernel
theorem dX3_sameMarks_13 : decode cX3_sameMarks 13 = .ok (.iload_n 1, 1) := by decide +kernel
theorem dX3_sameMarks_14 : decode cX3_sameMarks 14 = .ok (.imul, 1) := by decide +kernel
theorem dX3_sameMarks_15 : decode cX3_sameMarks 15 = .ok (.iaload, 1) := by decide +kernel
theorem dX3_sameMarks_16 : decode cX3_sameMarks 16 = .ok (.if_icmp .ne 30, 3) := by decide +kernel
theorem dX3_sameMarks_19 : decode cX3_sameMarks 19 = .ok (.aload_n 0, 1) := by decide +kernel
theorem dX3_sameMarks_20 : decode cX3_sameMarks 20 = .ok (.getfield 9, 3) := by decide +kernel
theorem dX3_sameMarks_23 : decode cX3_sameMarks 23 = .ok (.iconst 2, 1) := by decide +kernel
theorem dX3_sameMarks_24 : decode cX3_sameMarks 24 = .ok (.iload_n 1, 1) := by decide +kernel
theorem dX3_sameMarks_25 : decode cX3_sameMarks 25 = .ok (.imul, 1) := by decide +kernel
theorem dX3_sameMarks_26 : decode cX3_sameMarks 26 = .ok (.iconst 1, 1) := by decide +kernel
theorem dX3_sameMarks_27 : decode cX3_sameMarks 27 = .ok (.iadd, 1) := by decide +kernel
theorem dX3_sameMarks_28 : decode cX3_sameMarks 28 = .ok (.iaload, 1) := by decide +kernel
theorem dX3_sameMarks_29 : decode cX3_sameMarks 29 = .ok (.aload_n 2, 1) := by decide +kernel
theorem dX3_sameMarks_30 : decode cX3_sameMarks 30 = .ok (.getfield 9, 3) := by decide +kernel
theorem dX3_sameMarks_33 : decode cX3_sameMarks 33 = .ok (.iconst 2, 1) := by decide +kernel
theorem dX3_sameMarks_34 : decode cX3_sameMarks 34 = .ok (.iload_n 1, 1) := by decide +kernel
theorem dX3_sameMarks_35 : decode cX3_sameMarks 35 = .ok (.imul, 1) := by decide +kernel
theorem dX3_sameMarks_36 : decode cX3_sameMarks 36 = .ok (.iconst 1, 1) := by decide +kernel
theorem dX3_sameMarks_37 : decode cX3_sameMarks 37 = .ok (.iadd, 1) := by decide +kernel
theorem dX3_sameMarks_38 : decode cX3_sameMarks 38 = .ok (.iaload, 1) := by decide +kernel
theorem dX3_sameMarks_39 : decode cX3_sameMarks 39 = .ok (.if_icmp .ne 7, 3) := by decide +kernel
theorem dX3_sameMarks_42 : decode cX3_sameMarks 42 = .ok (.iconst 1, 1) := by decide +kernel
theorem dX3_sameMarks_43 : decode cX3_sameMarks 43 = .ok (.goto 4, 3) := by decide +kernel
theorem dX3_sameMarks_46 : decode cX3_sameMarks 46 = .ok (.iconst 0, 1) := by decide +kernel
theorem dX3_sameMarks_47 : decode cX3_sameMarks 47 = .ok (.ireturn, 1) := by decide +kernel
theorem dX3_fitsParents_0 : decode cX3_fitsParents 0 = .ok (.aload_n 0, 1) := by decide +kernel
theorem dX3_fitsParents_1 : decode cX3_fitsParents 1 = .ok (.getfield 9, 3) := by decide +kernel
theorem dX3_fitsParents_4 : decode cX3_fitsParents 4 = .ok (.iconst 2, 1) := by decide +kernel
theorem dX3_fitsParents_5 : decode cX3_fitsParents 5 = .ok (.iload_n 1, 1) := by decide +kernel
theorem dX3_fitsParents_6 : decode cX3_fitsParents 6 = .ok (.imul, 1) := by decide +kernel
theorem dX3_fitsParents_7 : decode cX3_fitsParents 7 = .ok (.iaload, 1) := by decide +kernel
theorem dX3_fitsParents_8 : decode cX3_fitsParents 8 = .ok (.istore 4, 2) := by decide +kernel
theorem dX3_fitsParents_10 : decode cX3_fitsParents 10 = .ok (.aload_n 0, 1) := by decide +kernel
theorem dX3_fitsParents_11 : decode cX3_fitsParents 11 = .ok (.getfield 9, 3) := by decide +kernel
theorem dX3_fitsParents_14 : decode cX3_fitsParents 14 = .ok (.iconst 2, 1) := by decide +kernel
theorem dX3_fitsParents_15 : decode cX3_fitsParents 15 = .ok (.iload_n 1, 1) := by decide +kernel
theorem dX3_fitsParents_16 : decode cX3_fitsParents 16 = .ok (.imul, 1) := by decide +kernel
theorem dX3_fitsParents_17 : decode cX3_fitsParents 17 = .ok (.iconst 1, 1) := by decide +kernel
theorem dX3_fitsParents_18 : decode cX3_fitsParents 18 = .ok (.iadd, 1) := by decide +kernel
theorem dX3_fitsParents_19 : decode cX3_fitsParents 19 = .ok (.iaload, 1) := by decide +kernel
theorem dX3_fitsParents_20 : decode cX3_fitsParents 20 = .ok (.istore 5, 2) := by decide +kernel
theorem dX3_fitsParents_22 : decode cX3_fitsParents 22 = .ok (.aload_n 3, 1) := by decide +kernel
theorem dX3_fitsParents_23 : decode cX3_fitsParents 23 = .ok (.ifnonnull 29, 3) := by decide +kernel
theorem dX3_fitsParents_26 : decode cX3_fitsParents 26 = .ok (.aload_n 2, 1) := by decide +kernel
theorem dX3_fitsParents_27 : decode cX3_fitsParents 27 = .ok (.iload_n 1, 1) := by decide +kernel
theorem dX3_fitsParents_28 : decode cX3_fitsParents 28 = .ok (.iload 4, 2) := by decide +kernel
theorem dX3_fitsParents_30 : decode cX3_fitsParents 30 = .ok (.invokevirtual 92, 3) := by decide +kernel
theorem dX3_fitsParents_33 : decode cX3_fitsParents 33 = .ok (.ifCond .ne 13, 3) := by decide +kernel
theorem dX3_fitsParents_36 : decode cX3_fitsParents 36 = .ok (.aload_n 2, 1) := by decide +kernel
theorem dX3_fitsParents_37 : decode cX3_fitsParents 37 = .ok (.iload_n 1, 1) := by decide +kernel
theorem dX3_fitsParents_38 : decode cX3_fitsParents 38 = .ok (.iload 5, 2) := by decide +kernel
theorem dX3_fitsParents_40 : decode cX3_fitsParents 40 = .ok (.invokevirtual 92, 3) := by decide +kernel
theorem dX3_fitsParents_43 : decode cX3_fitsParents 43 = .ok (.ifCond .eq 7, 3) := by decide +kernel
theorem dX3_fitsParents_46 : decode cX3_fitsParents 46 = .ok (.iconst 1, 1) := by decide +kernel
theorem dX3_fitsParents_47 : decode cX3_fitsParents 47 = .ok (.goto 4, 3) := by decide +kernel
theorem dX3_fitsParents_50 : decode cX3_fitsParents 50 = .ok (.iconst 0, 1) := by decide +kernel
theorem dX3_fitsParents_51 : decode cX3_fitsParents 51 = .ok (.ireturn, 1) := by decide +kernel
theorem dX3_fitsParents_52 : decode cX3_fitsParents 52 = .ok (.aload_n 2, 1) := by decide +kernel
theorem dX3_fitsParents_53 : decode cX3_fitsParents 53 = .ok (.iload_n 1, 1) := by decide +kernel
theorem dX3_fitsParents_54 : decode cX3_fitsParents 54 = .ok (.iload 4, 2) := by decide +kernel
theorem dX3_fitsParents_56 : decode cX3_fitsParents 56 = .ok (.invokevirtual 92, 3) := by decide +kernel
theorem dX3_fitsParents_59 : decode cX3_fitsParents 59 = .ok (.ifCond .eq 13, 3) := by decide +kernel
theorem dX3_fitsParents_62 : decode cX3_fitsParents 62 = .ok (.aload_n 3, 1) := by decide +kernel
theorem dX3_fitsParents_63 : decode cX3_fitsParents 63 = .ok (.iload_n 1, 1) := by decide +kernel
theorem dX3_fitsParents_64 : decode cX3_fitsParents 64 = .ok (.iload 5, 2) := by decide +kernel
theorem dX3_fitsParents_66 : decode cX3_fitsParents 66 = .ok (.invokevirtual 92, 3) := by decide +kernel
theorem dX3_fitsParents_69 : decode cX3_fitsParents 69 = .ok (.ifCond .ne 23, 3) := by decide +kernel
theorem dX3_fitsParents_72 : decode cX3_fitsParents 72 = .ok (.aload_n 2, 1) := by decide +kernel
theorem dX3_fitsParents_73 : decode cX3_fitsParents 73 = .ok (.iload_n 1, 1) := by decide +kernel
theorem dX3_fitsParents_74 : decode cX3_fitsParents 74 = .ok (.iload 5, 2) := by decide +kernel
theorem dX3_fitsParents_76 : decode cX3_fitsParents 76 = .ok (.invokevirtual 92, 3) := by decide +kernel
theorem dX3_fitsParents_79 : decode cX3_fitsParents 79 = .ok (.ifCond .eq 17, 3) := by decide +kernel
theorem dX3_fitsParents_82 : decode cX3_fitsParents 82 = .ok (.aload_n 3, 1) := by decide +kernel
theorem dX3_fitsParents_83 : decode cX3_fitsParents 83 = .ok (.iload_n 1, 1) := by decide +kernel
theorem dX3_fitsParents_84 : decode cX3_fitsParents 84 = .ok (.iload 4, 2) := by decide +kernel
theorem dX3_fitsParents_86 : decode cX3_fitsParents 86 = .ok (.invokevirtual 92, 3) := by decide +kernel
theorem dX3_fitsParents_89 : decode cX3_fitsParents 89 = .ok (.ifCond .eq 7, 3) := by decide +kernel
theorem dX3_fitsParents_92 : decode cX3_fitsParents 92 = .ok (.iconst 1, 1) := by decide +kernel
theorem dX3_fitsParents_93 : decode cX3_fitsParents 93 = .ok (.goto 4, 3) := by decide +kernel
theorem dX3_fitsParents_96 : decode cX3_fitsParents 96 = .ok (.iconst 0, 1) := by decide +kernel
theorem dX3_fitsParents_97 : decode cX3_fitsParents 97 = .ok (.ireturn, 1) := by decide +kernel
theorem dX3_bears_0 : decode cX3_bears 0 = .ok (.aload_n 0, 1) := by decide +kernel
theorem dX3_bears_1 : decode cX3_bears 1 = .ok (.getfield 9, 3) := by decide +kernel
theorem dX3_bears_4 : decode cX3_bears 4 = .ok (.iconst 2, 1) := by decide +kernel
theorem dX3_bears_5 : decode cX3_bears 5 = .ok (.iload_n 1, 1) := by decide +kernel
theorem dX3_bears_6 : decode cX3_bears 6 = .ok (.imul, 1) := by decide +kernel
theorem dX3_bears_7 : decode cX3_bears 7 = .ok (.iaload, 1) := by decide +kernel
theorem dX3_bears_8 : decode cX3_bears 8 = .ok (.iload_n 2, 1) := by decide +kernel
theorem dX3_bears_9 : decode cX3_bears 9 = .ok (.if_icmp .eq 17, 3) := by decide +kernel
theorem dX3_bears_12 : decode cX3_bears 12 = .ok (.aload_n 0, 1) := by decide +kernel
theorem dX3_bears_13 : decode cX3_bears 13 = .ok (.getfield 9, 3) := by decide +kernel
theorem dX3_bears_16 : decode cX3_bears 16 = .ok (.iconst 2, 1) := by decide +kernel
theorem dX3_bears_17 : decode cX3_bears 17 = .ok (.iload_n 1, 1) := by decide +kernel
theorem dX3_bears_18 : decode cX3_bears 18 = .ok (.imul, 1) := by decide +kernel
theorem dX3_bears_19 : decode cX3_bears 19 = .ok (.iconst 1, 1) := by decide +kernel
theorem dX3_bears_20 : decode cX3_bears 20 = .ok (.iadd, 1) := by decide +kernel
theorem dX3_bears_21 : decode cX3_bears 21 = .ok (.iaload, 1) := by decide +kernel
theorem dX3_bears_22 : decode cX3_bears 22 = .ok (.iload_n 2, 1) := by decide +kernel
theorem dX3_bears_23 : decode cX3_bears 23 = .ok (.if_icmp .ne 7, 3) := by decide +kernel
theorem dX3_bears_26 : decode cX3_bears 26 = .ok (.iconst 1, 1) := by decide +kernel
theorem dX3_bears_27 : decode cX3_bears 27 = .ok (.goto 4, 3) := by decide +kernel
theorem dX3_bears_30 : decode cX3_bears 30 = .ok (.iconst 0, 1) := by decide +kernel
theorem dX3_bears_31 : decode cX3_bears 31 = .ok (.ireturn, 1) := by decide +kernel
theorem dX4_init_0 : decode cX4_init 0 = .ok (.aload_n 0, 1) := by decide +kernel
theorem dX4_init_1 : decode cX4_init 1 = .ok (.invokespecial 3, 3) := by decide +kernel
theorem dX4_init_4 : decode cX4_init 4 = .ok (.aload_n 0, 1) := by decide +kernel
theorem dX4_init_5 : decode cX4_init 5 = .ok (.new 9, 3) := by decide +kernel
theorem dX4_init_8 : decode cX4_init 8 = .ok (.dup, 1) := by decide +kernel
theorem dX4_init_9 : decode cX4_init 9 = .ok (.invokespecial 11, 3) := by decide +kernel
theorem dX4_init_12 : decode cX4_init 12 = .ok (.putfield 12, 3) := by decide +kernel
theorem dX4_init_15 : decode cX4_init 15 = .ok (.aload_n 0, 1) := by decide +kernel
theorem dX4_init_16 : decode cX4_init 16 = .ok (.new 18, 3) := by decide +kernel
theorem dX4_init_19 : decode cX4_init 19 = .ok (.dup, 1) := by decide +kernel
theorem dX4_init_20 : decode cX4_init 20 = .ok (.invokespecial 20, 3) := by decide +kernel
theorem dX4_init_23 : decode cX4_init 23 = .ok (.putfield 21, 3) := by decide +kernel
theorem dX4_init_26 : decode cX4_init 26 = .ok (.return_, 1) := by decide +kernel
theorem dX4_readText_0 : decode cX4_readText 0 = .ok (.aload_n 0, 1) := by decide +kernel
theorem dX4_readText_1 : decode cX4_readText 1 = .ok (.getfield 12, 3) := by decide +kernel
theorem dX4_readText_4 : decode cX4_readText 4 = .ok (.aload_n 1, 1) := by decide +kernel
theorem dX4_readText_5 : decode cX4_readText 5 = .ok (.invokevirtual 25, 3) := by decide +kernel
theorem dX4_readText_8 : decode cX4_readText 8 = .ok (.aload_n 0, 1) := by decide +kernel
theorem dX4_readText_9 : decode cX4_readText 9 = .ok (.getfield 21, 3) := by decide +kernel
theorem dX4_readText_12 : decode cX4_readText 12 = .ok (.invokevirtual 29, 3) := by decide +kernel
theorem dX4_readText_15 : decode cX4_readText 15 = .ok (.aload_n 0, 1) := by decide +kernel
theorem dX4_readText_16 : decode cX4_readText 16 = .ok (.iconst 0, 1) := by decide +kernel
theorem dX4_readText_17 : decode cX4_readText 17 = .ok (.putfield 32, 3) := by decide +kernel
theorem dX4_readText_20 : decode cX4_readText 20 = .ok (.aload_n 0, 1) := by decide +kernel
theorem dX4_readText_21 : decode cX4_readText 21 = .ok (.iconst 0, 1) := by decide +kernel
theorem dX4_readText_22 : decode cX4_readText 22 = .ok (.putfield 36, 3) := by decide +kernel
theorem dX4_readText_25 : decode cX4_readText 25 = .ok (.aload_n 0, 1) := by decide +kernel
theorem dX4_readText_26 : decode cX4_readText 26 = .ok (.aload_n 0, 1) := by decide +kernel
theorem dX4_readText_27 : decode cX4_readText 27 = .ok (.getfield 12, 3) := by decide +kernel
theorem dX4_readText_30 : decode cX4_readText 30 = .ok (.getfield 39, 3) := by decide +kernel
theorem dX4_readText_33 : decode cX4_readText 33 = .ok (.aload_n 0, 1) := by decide +kernel
theorem dX4_readText_34 : decode cX4_readText 34 = .ok (.getfield 36, 3) := by decide +kernel
theorem dX4_readText_37 : decode cX4_readText 37 = .ok (.iaload, 1) := by decide +kernel
theorem dX4_readText_38 : decode cX4_readText 38 = .ok (.putfield 43, 3) := by decide +kernel
theorem dX4_readText_41 : decode cX4_readText 41 = .ok (.iconst 0, 1) := by decide +kernel
theorem dX4_readText_42 : decode cX4_readText 42 = .ok (.istore_n 2, 1) := by decide +kernel
theorem dX4_readText_43 : decode cX4_readText 43 = .ok (.iload_n 2, 1) := by decide +kernel
theorem dX4_readText_44 : decode cX4_readText 44 = .ok (.bipush 16, 2) := by decide +kernel
theorem dX4_readText_46 : decode cX4_readText 46 = .ok (.if_icmp .ge 28, 3) := by decide +kernel
theorem dX4_readText_49 : decode cX4_readText 49 = .ok (.aload_n 0, 1) := by decide +kernel
theorem dX4_readText_50 : decode cX4_readText 50 = .ok (.invokevirtual 46, 3) := by decide +kernel
theorem dX4_readText_53 : decode cX4_readText 53 = .ok (.ifCond .eq 21, 3) := by decide +kernel
theorem dX4_readText_56 : decode cX4_readText 56 = .ok (.aload_n 0, 1) := by decide +kernel
theorem dX4_readText_57 : decode cX4_readText 57 = .ok (.invokevirtual 50, 3) := by decide +kernel
theorem dX4_readText_60 : decode cX4_readText 60 = .ok (.ifCond .ne 8, 3) := by decide +kernel
theorem dX4_readText_63 : decode cX4_readText 63 = .ok (.aload_n 0, 1) := by decide +kernel
theorem dX4_readText_64 : decode cX4_readText 64 = .ok (.getfield 32, 3) := by decide +kernel
theorem dX4_readText_67 : decode cX4_readText 67 = .ok (.ireturn, 1) := by decide +kernel
theorem dX4_readText_68 : decode cX4_readText 68 = .ok (.iinc 2 1, 3) := by decide +kernel
theorem dX4_readText_71 : decode cX4_readText 71 = .ok (.goto (-28), 3) := by decide +kernel
theorem dX4_readText_74 : decode cX4_readText 74 = .ok (.aload_n 0, 1) := by decide +kernel
theorem dX4_readText_75 : decode cX4_readText 75 = .ok (.invokevirtual 46, 3) := by decide +kernel
theorem dX4_readText_78 : decode cX4_readText 78 = .ok (.ifCond .eq 12, 3) := by decide +kernel
theorem dX4_readText_81 : decode cX4_readText 81 = .ok (.aload_n 0, 1) := by decide +kernel
theorem dX4_readText_82 : decode cX4_readText 82 = .ok (.iconst 5, 1) := by decide +kernel
theorem dX4_readText_83 : decode cX4_readText 83 = .ok (.invokevirtual 53, 3) := by decide +kernel
theorem dX4_readText_86 : decode cX4_readText 86 = .ok (.pop, 1) := by decide +kernel
theorem dX4_readText_87 : decode cX4_readText 87 = .ok (.goto 18, 3) := by decide +kernel
theorem dX4_readText_90 : decode cX4_readText 90 = .ok (.aload_n 0, 1) := by decide +kernel
theorem dX4_readText_91 : decode cX4_readText 91 = .ok (.getfield 43, 3) := by decide +kernel
theorem dX4_readText_94 : decode cX4_readText 94 = .ok (.bipush 19, 2) := by decide +kernel
theorem dX4_readText_96 : decode cX4_readText 96 = .ok (.if_icmp .eq 9, 3) := by decide +kernel
theorem dX4_readText_99 : decode cX4_readText 99 = .ok (.aload_n 0, 1) := by decide +kernel
theorem dX4_readText_100 : decode cX4_readText 100 = .ok (.iconst 1, 1) := by decide +kernel
theorem dX4_readText_101 : decode cX4_readText 101 = .ok (.invokevirtual 53, 3) := by decide +kernel
theorem dX4_readText_104 : decode cX4_readText 104 = .ok (.pop, 1) := by decide +kernel
theorem dX4_readText_105 : decode cX4_readText 105 = .ok (.aload_n 0, 1) := by decide +kernel
theorem dX4_readText_106 : decode cX4_readText 106 = .ok (.getfield 32, 3) := by decide +kernel
theorem dX4_readText_109 : decode cX4_readText 109 = .ok (.ireturn, 1) := by decide +kernel
theorem dX4_exchangeDraft_0 : decode cX4_exchangeDraft 0 = .ok (.aload_n 0, 1) := by decide +kernel
theorem dX4_exchangeDraft_1 : decode cX4_exchangeDraft 1 = .ok (.getfield 21, 3) := by decide +kernel
theorem dX4_exchangeDraft_4 : decode cX4_exchangeDraft 4 = .ok (.astore_n 2, 1) := by decide +kernel
theorem dX4_exchangeDraft_5 : decode cX4_exchangeDraft 5 = .ok (.aload_n 0, 1) := by decide +kernel
theorem dX4_exchangeDraft_6 : decode cX4_exchangeDraft 6 = .ok (.aload_n 1, 1) := by decide +kernel
theorem dX4_exchangeDraft_7 : decode cX4_exchangeDraft 7 = .ok (.putfield 21, 3) := by decide +kernel
theorem dX4_exchangeDraft_10 : decode cX4_exchangeDraft 10 = .ok (.aload_n 2, 1) := by decide +kernel
theorem dX4_exchangeDraft_11 : decode cX4_exchangeDraft 11 = .ok (.areturn, 1) := by decide +kernel
theorem dX4_beginsLine_0 : decode cX4_beginsLine 0 = .ok (.aload_n 0, 1) := by decide +kernel
theorem dX4_beginsLine_1 : decode cX4_beginsLine 1 = .ok (.getfield 43, 3) := by decide +kernel
theorem dX4_beginsLine_4 : decode cX4_beginsLine 4 = .ok (.bipush 16, 2) := by decide +kernel
theorem dX4_beginsLine_6 : decode cX4_beginsLine 6 = .ok (.if_icmp .eq 12, 3) := by decide +kernel
theorem dX4_beginsLine_9 : decode cX4_beginsLine 9 = .ok (.aload_n 0, 1) := by decide +kernel
theorem dX4_beginsLine_10 : decode cX4_beginsLine 10 = .ok (.getfield 43, 3) := by decide +kernel
theorem dX4_beginsLine_13 : decode cX4_beginsLine 13 = .ok (.bipush 17, 2) := by decide +kernel
theorem dX4_beginsLine_15 : decode cX4_beginsLine 15 = .ok (.if_icmp .ne 7, 3) := by decide +kernel
theorem dX4_beginsLine_18 : decode cX4_beginsLine 18 = .ok (.iconst 1, 1) := by decide +kernel
theorem dX4_beginsLine_19 : decode cX4_beginsLine 19 = .ok (.goto 4, 3) := by decide +kernel
theorem dX4_beginsLine_22 : decode cX4_beginsLine 22 = .ok (.iconst 0, 1) := by decide +kernel
theorem dX4_beginsLine_23 : decode cX4_beginsLine 23 = .ok (.ireturn, 1) := by decide +kernel
theorem dX4_readLine_0 : decode cX4_readLine 0 = .ok (.aload_n 0, 1) := by decide +kernel
theorem dX4_readLine_1 : decode cX4_readLine 1 = .ok (.getfield 43, 3) := by decide +kernel
theorem dX4_readLine_4 : decode cX4_readLine 4 = .ok (.bipush 16, 2) := by decide +kernel
theorem dX4_readLine_6 : decode cX4_readLine 6 = .ok (.if_icmp .ne 7, 3) := by decide +kernel
theorem dX4_readLine_9 : decode cX4_readLine 9 = .ok (.iconst 1, 1) := by decide +kernel
theorem dX4_readLine_10 : decode cX4_readLine 10 = .ok (.goto 4, 3) := by decide +kernel
theorem dX4_readLine_13 : decode cX4_readLine 13 = .ok (.iconst 0, 1) := by decide +kernel
theorem dX4_readLine_14 : decode cX4_readLine 14 = .ok (.istore_n 1, 1) := by decide +kernel
theorem dX4_readLine_15 : decode cX4_readLine 15 = .ok (.aload_n 0, 1) := by decide +kernel
theorem dX4_readLine_16 : decode cX4_readLine 16 = .ok (.invokevirtual 57, 3) := by decide +kernel
theorem dX4_readLine_19 : decode cX4_readLine 19 = .ok (.aload_n 0, 1) := by decide +kernel
theorem dX4_readLine_20 : decode cX4_readLine 20 = .ok (.bipush 18, 2) := by decide +kernel
theorem dX4_readLine_22 : decode cX4_readLine 22 = .ok (.invokevirtual 60, 3) := by decide +kernel
theorem dX4_readLine_25 : decode cX4_readLine 25 = .ok (.ifCond .eq 20, 3) := by decide +kernel
theorem dX4_readLine_28 : decode cX4_readLine 28 = .ok (.aload_n 0, 1) := by decide +kernel
theorem dX4_readLine_29 : decode cX4_readLine 29 = .ok (.iconst 0, 1) := by decide +kernel
theorem dX4_readLine_30 : decode cX4_readLine 30 = .ok (.invokevirtual 63, 3) := by decide +kernel
theorem dX4_readLine_33 : decode cX4_readLine 33 = .ok (.ifCond .eq 12, 3) := by decide +kernel
theorem dX4_readLine_36 : decode cX4_readLine 36 = .ok (.aload_n 0, 1) := by decide +kernel
theorem dX4_readLine_37 : decode cX4_readLine 37 = .ok (.bipush 15, 2) := by decide +kernel
theorem dX4_readLine_39 : decode cX4_readLine 39 = .ok (.invokevirtual 60, 3) := by decide +kernel
theorem dX4_readLine_42 : decode cX4_readLine 42 = .ok (.ifCond .ne 5, 3) := by decide +kernel
theorem dX4_readLine_45 : decode cX4_readLine 45 = .ok (.iconst 0, 1) := by decide +kernel
theorem dX4_readLine_46 : decode cX4_readLine 46 = .ok (.ireturn, 1) := by decide +kernel
theorem dX4_readLine_47 : decode cX4_readLine 47 = .ok (.aload_n 0, 1) := by decide +kernel
theorem dX4_readLine_48 : decode cX4_readLine 48 = .ok (.getfield 21, 3) := by decide +kernel
theorem dX4_readLine_51 : decode cX4_readLine 51 = .ok (.iload_n 1, 1) := by decide +kernel
theorem dX4_readLine_52 : decode cX4_readLine 52 = .ok (.invokevirtual 66, 3) := by decide +kernel
theorem dX4_readLine_55 : decode cX4_readLine 55 = .ok (.iconst 1, 1) := by decide +kernel
theorem dX4_readLine_56 : decode cX4_readLine 56 = .ok (.ireturn, 1) := by decide +kernel
theorem dX4_readAnds_0 : decode cX4_readAnds 0 = .ok (.aload_n 0, 1) := by decide +kernel
theorem dX4_readAnds_1 : decode cX4_readAnds 1 = .ok (.iload_n 1, 1) := by decide +kernel
theorem dX4_readAnds_2 : decode cX4_readAnds 2 = .ok (.invokevirtual 70, 3) := by decide +kernel
theorem dX4_readAnds_5 : decode cX4_readAnds 5 = .ok (.ifCond .ne 5, 3) := by decide +kernel
theorem dX4_readAnds_8 : decode cX4_readAnds 8 = .ok (.iconst 0, 1) := by decide +kernel
theorem dX4_readAnds_9 : decode cX4_readAnds 9 = .ok (.ireturn, 1) := by decide +kernel
theorem dX4_readAnds_10 : decode cX4_readAnds 10 = .ok (.iconst 0, 1) := by decide +kernel
theorem dX4_readAnds_11 : decode cX4_readAnds 11 = .ok (.istore_n 2, 1) := by decide +kernel
theorem dX4_readAnds_12 : decode cX4_readAnds 12 = .ok (.iload_n 2, 1) := by decide +kernel
theorem dX4_readAnds_13 : decode cX4_readAnds 13 = .ok (.sipush 600, 3) := by decide +kernel
theorem dX4_readAnds_16 : decode cX4_readAnds 16 = .ok (.if_icmp .ge 42, 3) := by decide +kernel
theorem dX4_readAnds_19 : decode cX4_readAnds 19 = .ok (.aload_n 0, 1) := by decide +kernel
theorem dX4_readAnds_20 : decode cX4_readAnds 20 = .ok (.getfield 43, 3) := by decide +kernel
theorem dX4_readAnds_23 : decode cX4_readAnds 23 = .ok (.bipush 14, 2) := by decide +kernel
theorem dX4_readAnds_25 : decode cX4_readAnds 25 = .ok (.if_icmp .ne 33, 3) := by decide +kernel
theorem dX4_readAnds_28 : decode cX4_readAnds 28 = .ok (.aload_n 0, 1) := by decide +kernel
theorem dX4_readAnds_29 : decode cX4_readAnds 29 = .ok (.invokevirtual 57, 3) := by decide +kernel
theorem dX4_readAnds_32 : decode cX4_readAnds 32 = .ok (.aload_n 0, 1) := by decide +kernel
theorem dX4_readAnds_33 : decode cX4_readAnds 33 = .ok (.iload_n 1, 1) := by decide +kernel
theorem dX4_readAnds_34 : decode cX4_readAnds 34 = .ok (.invokevirtual 70, 3) := by decide +kernel
theorem dX4_readAnds_37 : decode cX4_readAnds 37 = .ok (.ifCond .ne 5, 3) := by decide +kernel
theorem dX4_readAnds_40 : decode cX4_readAnds 40 = .ok (.iconst 0, 1) := by decide +kernel
theorem dX4_readAnds_41 : decode cX4_readAnds 41 = .ok (.ireturn, 1) := by decide +kernel
theorem dX4_readAnds_42 : decode cX4_readAnds 42 = .ok (.aload_n 0, 1) := by decide +kernel
theorem dX4_readAnds_43 : decode cX4_readAnds 43 = .ok (.getfield 21, 3) := by decide +kernel
theorem dX4_readAnds_46 : decode cX4_readAnds 46 = .ok (.bipush 14, 2) := by decide +kernel
theorem dX4_readAnds_48 : decode cX4_readAnds 48 = .ok (.iconst 0, 1) := by decide +kernel
theorem dX4_readAnds_49 : decode cX4_readAnds 49 = .ok (.invokevirtual 73, 3) := by decide +kernel
theorem dX4_readAnds_52 : decode cX4_readAnds 52 = .ok (.iinc 2 1, 3) := by decide +kernel
theorem dX4_readAnds_55 : decode cX4_readAnds 55 = .ok (.goto (-43), 3) := by decide +kernel
theorem dX4_readAnds_58 : decode cX4_readAnds 58 = .ok (.iconst 1, 1) := by decide +kernel
theorem dX4_readAnds_59 : decode cX4_readAnds 59 = .ok (.ireturn, 1) := by decide +kernel
theorem dX4_readTest_0 : decode cX4_readTest 0 = .ok (.aload_n 0, 1) := by decide +kernel
theorem dX4_readTest_1 : decode cX4_readTest 1 = .ok (.iload_n 1, 1) := by decide +kernel
theorem dX4_readTest_2 : decode cX4_readTest 2 = .ok (.invokevirtual 77, 3) := by decide +kernel
theorem dX4_readTest_5 : decode cX4_readTest 5 = .ok (.ifCond .ne 5, 3) := by decide +kernel
theorem dX4_readTest_8 : decode cX4_readTest 8 = .ok (.iconst 0, 1) := by decide +kernel
theorem dX4_readTest_9 : decode cX4_readTest 9 = .ok (.ireturn, 1) := by decide +kernel
theorem dX4_readTest_10 : decode cX4_readTest 10 = .ok (.aload_n 0, 1) := by decide +kernel
theorem dX4_readTest_11 : decode cX4_readTest 11 = .ok (.getfield 43, 3) := by decide +kernel
theorem dX4_readTest_14 : decode cX4_readTest 14 = .ok (.bipush 10, 2) := by decide +kernel
theorem dX4_readTest_16 : decode cX4_readTest 16 = .ok (.if_icmp .eq 14, 3) := by decide +kernel
theorem dX4_readTest_19 : decode cX4_readTest 19 = .ok (.aload_n 0, 1) := by decide +kernel
theorem dX4_readTest_20 : decode cX4_readTest 20 = .ok (.getfield 43, 3) := by decide +kernel
theorem dX4_readTest_23 : decode cX4_readTest 23 = .ok (.bipush 11, 2) := by decide +kernel
theorem dX4_readTest_25 : decode cX4_readTest 25 = .ok (.if_icmp .eq 5, 3) := by decide +kernel
theorem dX4_readTest_28 : decode cX4_readTest 28 = .ok (.iconst 1, 1) := by decide +kernel
theorem dX4_readTest_29 : decode cX4_readTest 29 = .ok (.ireturn, 1) := by decide +kernel
theorem dX4_readTest_30 : decode cX4_readTest 30 = .ok (.aload_n 0, 1) := by decide +kernel
theorem dX4_readTest_31 : decode cX4_readTest 31 = .ok (.getfield 43, 3) := by decide +kernel
theorem dX4_readTest_34 : decode cX4_readTest 34 = .ok (.istore_n 2, 1) := by decide +kernel
theorem dX4_readTest_35 : decode cX4_readTest 35 = .ok (.aload_n 0, 1) := by decide +kernel
theorem dX4_readTest_36 : decode cX4_readTest 36 = .ok (.invokevirtual 57, 3) := by decide +kernel
theorem dX4_readTest_39 : decode cX4_readTest 39 = .ok (.aload_n 0, 1) := by decide +kernel
theorem dX4_readTest_40 : decode cX4_readTest 40 = .ok (.iload_n 1, 1) := by decide +kernel
theorem dX4_readTest_41 : decode cX4_readTest 41 = .ok (.invokevirtual 77, 3) := by decide +kernel
theorem dX4_readTest_44 : decode cX4_readTest 44 = .ok (.ifCond .ne 5, 3) := by decide +kernel
theorem dX4_readTest_47 : decode cX4_readTest 47 = .ok (.iconst 0, 1) := by decide +kernel
theorem dX4_readTest_48 : decode cX4_readTest 48 = .ok (.ireturn, 1) := by decide +kernel
theorem dX4_readTest_49 : decode cX4_readTest 49 = .ok (.aload_n 0, 1) := by decide +kernel
theorem dX4_readTest_50 : decode cX4_readTest 50 = .ok (.getfield 21, 3) := by decide +kernel
theorem dX4_readTest_53 : decode cX4_readTest 53 = .ok (.iload_n 2, 1) := by decide +kernel
theorem dX4_readTest_54 : decode cX4_readTest 54 = .ok (.iconst 0, 1) := by decide +kernel
theorem dX4_readTest_55 : decode cX4_readTest 55 = .ok (.invokevirtual 73, 3) := by decide +kernel
theorem dX4_readTest_58 : decode cX4_readTest 58 = .ok (.iconst 1, 1) := by decide +kernel
theorem dX4_readTest_59 : decode cX4_readTest 59 = .ok (.ireturn, 1) := by decide +kernel
theorem dX4_readSum_0 : decode cX4_readSum 0 = .ok (.aload_n 0, 1) := by decide +kernel
theorem dX4_readSum_1 : decode cX4_readSum 1 = .ok (.iload_n 1, 1) := by decide +kernel
theorem dX4_readSum_2 : decode cX4_readSum 2 = .ok (.invokevirtual 80, 3) := by decide +kernel
theorem dX4_readSum_5 : decode cX4_readSum 5 = .ok (.ifCond .ne 5, 3) := by decide +kernel
theorem dX4_readSum_8 : decode cX4_readSum 8 = .ok (.iconst 0, 1) := by decide +kernel
theorem dX4_readSum_9 : decode cX4_readSum 9 = .ok (.ireturn, 1) := by decide +kernel
theorem dX4_readSum_10 : decode cX4_readSum 10 = .ok (.iconst 0, 1) := by decide +kernel
theorem dX4_readSum_11 : decode cX4_readSum 11 = .ok (.istore_n 2, 1) := by decide +kernel
theorem dX4_readSum_12 : decode cX4_readSum 12 = .ok (.iload_n 2, 1) := by decide +kernel
theorem dX4_readSum_13 : decode cX4_readSum 13 = .ok (.sipush 600, 3) := by decide +kernel
theorem dX4_readSum_16 : decode cX4_readSum 16 = .ok (.if_icmp .ge 55, 3) := by decide +kernel
theorem dX4_readSum_19 : decode cX4_readSum 19 = .ok (.aload_n 0, 1) := by decide +kernel
theorem dX4_readSum_20 : decode cX4_readSum 20 = .ok (.getfield 43, 3) := by decide +kernel
theorem dX4_readSum_23 : decode cX4_readSum 23 = .ok (.bipush 12, 2) := by decide +kernel
theorem dX4_readSum_25 : decode cX4_readSum 25 = .ok (.if_icmp .eq 12, 3) := by decide +kernel
theorem dX4_readSum_28 : decode cX4_readSum 28 = .ok (.aload_n 0, 1) := by decide +kernel
theorem dX4_readSum_29 : decode cX4_readSum 29 = .ok (.getfield 43, 3) := by decide +kernel
theorem dX4_readSum_32 : decode cX4_readSum 32 = .ok (.bipush 13, 2) := by decide +kernel
theorem dX4_readSum_34 : decode cX4_readSum 34 = .ok (.if_icmp .ne 37, 3) := by decide +kernel
theorem dX4_readSum_37 : decode cX4_readSum 37 = .ok (.aload_n 0, 1) := by decide +kernel
theorem dX4_readSum_38 : decode cX4_readSum 38 = .ok (.getfield 43, 3) := by decide +kernel
theorem dX4_readSum_41 : decode cX4_readSum 41 = .ok (.istore_n 3, 1) := by decide +kernel
theorem dX4_readSum_42 : decode cX4_readSum 42 = .ok (.aload_n 0, 1) := by decide +kernel
theorem dX4_readSum_43 : decode cX4_readSum 43 = .ok (.invokevirtual 57, 3) := by decide +kernel
theorem dX4_readSum_46 : decode cX4_readSum 46 = .ok (.aload_n 0, 1) := by decide +kernel
theorem dX4_readSum_47 : decode cX4_readSum 47 = .ok (.iload_n 1, 1) := by decide +kernel
theorem dX4_readSum_48 : decode cX4_readSum 48 = .ok (.invokevirtual 80, 3) := by decide +kernel
theorem dX4_readSum_51 : decode cX4_readSum 51 = .ok (.ifCond .ne 5, 3) := by decide +kernel
theorem dX4_readSum_54 : decode cX4_readSum 54 = .ok (.iconst 0, 1) := by decide +kernel
theorem dX4_readSum_55 : decode cX4_readSum 55 = .ok (.ireturn, 1) := by decide +kernel
theorem dX4_readSum_56 : decode cX4_readSum 56 = .ok (.aload_n 0, 1) := by decide +kernel
theorem dX4_readSum_57 : decode cX4_readSum 57 = .ok (.getfield 21, 3) := by decide +kernel
theorem dX4_readSum_60 : decode cX4_readSum 60 = .ok (.iload_n 3, 1) := by decide +kernel
theorem dX4_readSum_61 : decode cX4_readSum 61 = .ok (.iconst 0, 1) := by decide +kernel
theorem dX4_readSum_62 : decode cX4_readSum 62 = .ok (.invokevirtual 73, 3) := by decide +kernel
theorem dX4_readSum_65 : decode cX4_readSum 65 = .ok (.iinc 2 1, 3) := by decide +kernel
theorem dX4_readSum_68 : decode cX4_readSum 68 = .ok (.goto (-56), 3) := by decide +kernel
theorem dX4_readSum_71 : decode cX4_readSum 71 = .ok (.iconst 1, 1) := by decide +kernel
theorem dX4_readSum_72 : decode cX4_readSum 72 = .ok (.ireturn, 1) := by decide +kernel
theorem dX4_readPart_0 : decode cX4_readPart 0 = .ok (.aload_n 0, 1) := by decide +kernel
theorem dX4_readPart_1 : decode cX4_readPart 1 = .ok (.getfield 43, 3) := by decide +kernel
theorem dX4_readPart_4 : decode cX4_readPart 4 = .ok (.bipush 8, 2) := by decide +kernel
theorem dX4_readPart_6 : decode cX4_readPart 6 = .ok (.if_icmp .le 9, 3) := by decide +kernel
theorem dX4_readPart_9 : decode cX4_readPart 9 = .ok (.aload_n 0, 1) := by decide +kernel
theorem dX4_readPart_10 : decode cX4_readPart 10 = .ok (.iconst 1, 1) := by decide +kernel
theorem dX4_readPart_11 : decode cX4_readPart 11 = .ok (.invokevirtual 53, 3) := by decide +kernel
theorem dX4_readPart_14 : decode cX4_readPart 14 = .ok (.ireturn, 1) := by decide +kernel
theorem dX4_readPart_15 : decode cX4_readPart 15 = .ok (.iload_n 1, 1) := by decide +kernel
theorem dX4_readPart_16 : decode cX4_readPart 16 = .ok (.iconst 5, 1) := by decide +kernel
theorem dX4_readPart_17 : decode cX4_readPart 17 = .ok (.if_icmp .lt 9, 3) := by decide +kernel
theorem dX4_readPart_20 : decode cX4_readPart 20 = .ok (.aload_n 0, 1) := by decide +kernel
theorem dX4_readPart_21 : decode cX4_readPart 21 = .ok (.iconst 5, 1) := by decide +kernel
theorem dX4_readPart_22 : decode cX4_readPart 22 = .ok (.invokevirtual 53, 3) := by decide +kernel
theorem dX4_readPart_25 : decode cX4_readPart 25 = .ok (.ireturn, 1) := by decide +kernel
theorem dX4_readPart_26 : decode cX4_readPart 26 = .ok (.aload_n 0, 1) := by decide +kernel
theorem dX4_readPart_27 : decode cX4_readPart 27 = .ok (.getfield 43, 3) := by decide +kernel
theorem dX4_readPart_30 : decode cX4_readPart 30 = .ok (.bipush 8, 2) := by decide +kernel
theorem dX4_readPart_32 : decode cX4_readPart 32 = .ok (.if_icmp .ne 34, 3) := by decide +kernel
theorem dX4_readPart_35 : decode cX4_readPart 35 = .ok (.aload_n 0, 1) := by decide +kernel
theorem dX4_readPart_36 : decode cX4_readPart 36 = .ok (.invokevirtual 57, 3) := by decide +kernel
theorem dX4_readPart_39 : decode cX4_readPart 39 = .ok (.aload_n 0, 1) := by decide +kernel
theorem dX4_readPart_40 : decode cX4_readPart 40 = .ok (.iload_n 1, 1) := by decide +kernel
theorem dX4_readPart_41 : decode cX4_readPart 41 = .ok (.iconst 1, 1) := by decide +kernel
theorem dX4_readPart_42 : decode cX4_readPart 42 = .ok (.iadd, 1) := by decide +kernel
theorem dX4_readPart_43 : decode cX4_readPart 43 = .ok (.invokevirtual 63, 3) := by decide +kernel
theorem dX4_readPart_46 : decode cX4_readPart 46 = .ok (.ifCond .ne 5, 3) := by decide +kernel
theorem dX4_readPart_49 : decode cX4_readPart 49 = .ok (.iconst 0, 1) := by decide +kernel
theorem dX4_readPart_50 : decode cX4_readPart 50 = .ok (.ireturn, 1) := by decide +kernel
theorem dX4_readPart_51 : decode cX4_readPart 51 = .ok (.aload_n 0, 1) := by decide +kernel
theorem dX4_readPart_52 : decode cX4_readPart 52 = .ok (.getfield 43, 3) := by decide +kernel
theorem dX4_readPart_55 : decode cX4_readPart 55 = .ok (.bipush 9, 2) := by decide +kernel
theorem dX4_readPart_57 : decode cX4_readPart 57 = .ok (.if_icmp .eq 32, 3) := by decide +kernel
theorem dX4_readPart_60 : decode cX4_readPart 60 = .ok (.aload_n 0, 1) := by decide +kernel
theorem dX4_readPart_61 : decode cX4_readPart 61 = .ok (.iconst 1, 1) := by decide +kernel
theorem dX4_readPart_62 : decode cX4_readPart 62 = .ok (.invokevirtual 53, 3) := by decide +kernel
theorem dX4_readPart_65 : decode cX4_readPart 65 = .ok (.ireturn, 1) := by decide +kernel
theorem dX4_readPart_66 : decode cX4_readPart 66 = .ok (.aload_n 0, 1) := by decide +kernel
theorem dX4_readPart_67 : decode cX4_readPart 67 = .ok (.getfield 21, 3) := by decide +kernel
theorem dX4_readPart_70 : decode cX4_readPart 70 = .ok (.aload_n 0, 1) := by decide +kernel
theorem dX4_readPart_71 : decode cX4_readPart 71 = .ok (.getfield 43, 3) := by decide +kernel
theorem dX4_readPart_74 : decode cX4_readPart 74 = .ok (.aload_n 0, 1) := by decide +kernel
theorem dX4_readPart_75 : decode cX4_readPart 75 = .ok (.getfield 12, 3) := by decide +kernel
theorem dX4_readPart_78 : decode cX4_readPart 78 = .ok (.getfield 83, 3) := by decide +kernel
theorem dX4_readPart_81 : decode cX4_readPart 81 = .ok (.aload_n 0, 1) := by decide +kernel
theorem dX4_readPart_82 : decode cX4_readPart 82 = .ok (.getfield 36, 3) := by decide +kernel
theorem dX4_readPart_85 : decode cX4_readPart 85 = .ok (.iaload, 1) := by decide +kernel
theorem dX4_readPart_86 : decode cX4_readPart 86 = .ok (.invokevirtual 73, 3) := by decide +kernel
theorem dX4_readPart_89 : decode cX4_readPart 89 = .ok (.aload_n 0, 1) := by decide +kernel
theorem dX4_readPart_90 : decode cX4_readPart 90 = .ok (.invokevirtual 57, 3) := by decide +kernel
theorem dX4_readPart_93 : decode cX4_readPart 93 = .ok (.iconst 1, 1) := by decide +kernel
theorem dX4_readPart_94 : decode cX4_readPart 94 = .ok (.ireturn, 1) := by decide +kernel
theorem dX4_expect_0 : decode cX4_expect 0 = .ok (.aload_n 0, 1) := by decide +kernel
theorem dX4_expect_1 : decode cX4_expect 1 = .ok (.getfield 43, 3) := by decide +kernel
theorem dX4_expect_4 : decode cX4_expect 4 = .ok (.iload_n 1, 1) := by decide +kernel
theorem dX4_expect_5 : decode cX4_expect 5 = .ok (.if_icmp .eq 9, 3) := by decide +kernel
theorem dX4_expect_8 : decode cX4_expect 8 = .ok (.aload_n 0, 1) := by decide +kernel
theorem dX4_expect_9 : decode cX4_expect 9 = .ok (.iconst 1, 1) := by decide +kernel
theorem dX4_expect_10 : decode cX4_expect 10 = .ok (.invokevirtual 53, 3) := by decide +kernel
theorem dX4_expect_13 : decode cX4_expect 13 = .ok (.ireturn, 1) := by decide +kernel
theorem dX4_expect_14 : decode cX4_expect 14 = .ok (.aload_n 0, 1) := by decide +kernel
theorem dX4_expect_15 : decode cX4_expect 15 = .ok (.invokevirtual 57, 3) := by decide +kernel
theorem dX4_expect_18 : decode cX4_expect 18 = .ok (.iconst 1, 1) := by decide +kernel
theorem dX4_expect_19 : decode cX4_expect 19 = .ok (.ireturn, 1) := by decide +kernel
theorem dX4_refuse_0 : decode cX4_refuse 0 = .ok (.aload_n 0, 1) := by decide +kernel
theorem dX4_refuse_1 : decode cX4_refuse 1 = .ok (.iload_n 1, 1) := by decide +kernel
theorem dX4_refuse_2 : decode cX4_refuse 2 = .ok (.bipush 16, 2) := by decide +kernel
theorem dX4_refuse_4 : decode cX4_refuse 4 = .ok (.aload_n 0, 1) := by decide +kernel
theorem dX4_refuse_5 : decode cX4_refuse 5 = .ok (.getfield 12, 3) := by decide +kernel
theorem dX4_refuse_8 : decode cX4_refuse 8 = .ok (.getfield 86, 3) := by decide +kernel
theorem dX4_refuse_11 : decode cX4_refuse 11 = .ok (.aload_n 0, 1) := by decide +kernel
theorem dX4_refuse_12 : decode cX4_refuse 12 = .ok (.getfield 36, 3) := by decide +kernel
theorem dX4_refuse_15 : decode cX4_refuse 15 = .ok (.iaload, 1) := by decide +kernel
theorem dX4_refuse_16 : decode cX4_refuse 16 = .ok (.imul, 1) := by decide +kernel
theorem dX4_refuse_17 : decode cX4_refuse 17 = .ok (.iadd, 1) := by decide +kernel
theorem dX4_refuse_18 : decode cX4_refuse 18 = .ok (.putfield 32, 3) := by decide +kernel
theorem dX4_refuse_21 : decode cX4_refuse 21 = .ok (.iconst 0, 1) := by decide +kernel
theorem dX4_refuse_22 : decode cX4_refuse 22 = .ok (.ireturn, 1) := by decide +kernel
theorem dX4_advance_0 : decode cX4_advance 0 = .ok (.aload_n 0, 1) := by decide +kernel
theorem dX4_advance_1 : decode cX4_advance 1 = .ok (.getfield 43, 3) := by decide +kernel
theorem dX4_advance_4 : decode cX4_advance 4 = .ok (.bipush 19, 2) := by decide +kernel
theorem dX4_advance_6 : decode cX4_advance 6 = .ok (.if_icmp .eq 41, 3) := by decide +kernel
theorem dX4_advance_9 : decode cX4_advance 9 = .ok (.aload_n 0, 1) := by decide +kernel
theorem dX4_advance_10 : decode cX4_advance 10 = .ok (.getfield 36, 3) := by decide +kernel
theorem dX4_advance_13 : decode cX4_advance 13 = .ok (.iconst 1, 1) := by decide +kernel
theorem dX4_advance_14 : decode cX4_advance 14 = .ok (.iadd, 1) := by decide +kernel
theorem dX4_advance_15 : decode cX4_advance 15 = .ok (.sipush 601, 3) := by decide +kernel
theorem dX4_advance_18 : decode cX4_advance 18 = .ok (.if_icmp .ge 29, 3) := by decide +kernel
theorem dX4_advance_21 : decode cX4_advance 21 = .ok (.aload_n 0, 1) := by decide +kernel
theorem dX4_advance_22 : decode cX4_advance 22 = .ok (.dup, 1) := by decide +kernel
theorem dX4_advance_23 : decode cX4_advance 23 = .ok (.getfield 36, 3) := by decide +kernel
theorem dX4_advance_26 : decode cX4_advance 26 = .ok (.iconst 1, 1) := by decide +kernel
theorem dX4_advance_27 : decode cX4_advance 27 = .ok (.iadd, 1) := by decide +kernel
theorem dX4_advance_28 : decode cX4_advance 28 = .ok (.putfield 36, 3) := by decide +kernel
theorem dX4_advance_31 : decode cX4_advance 31 = .ok (.aload_n 0, 1) := by decide +kernel
theorem dX4_advance_32 : decode cX4_advance 32 = .ok (.aload_n 0, 1) := by decide +kernel
theorem dX4_advance_33 : decode cX4_advance 33 = .ok (.getfield 12, 3) := by decide +kernel
theorem dX4_advance_36 : decode cX4_advance 36 = .ok (.getfield 39, 3) := by decide +kernel
theorem dX4_advance_39 : decode cX4_advance 39 = .ok (.aload_n 0, 1) := by decide +kernel
theorem dX4_advance_40 : decode cX4_advance 40 = .ok (.getfield 36, 3) := by decide +kernel
theorem dX4_advance_43 : decode cX4_advance 43 = .ok (.iaload, 1) := by decide +kernel
theorem dX4_advance_44 : decode cX4_advance 44 = .ok (.putfield 43, 3) := by decide +kernel
theorem dX4_advance_47 : decode cX4_advance 47 = .ok (.return_, 1) := by decide +kernel
theorem dX5_init_0 : decode cX5_init 0 = .ok (.aload_n 0, 1) := by decide +kernel
theorem dX5_init_1 : decode cX5_init 1 = .ok (.invokespecial 3, 3) := by decide +kernel
theorem dX5_init_4 : decode cX5_init 4 = .ok (.aload_n 0, 1) := by decide +kernel
theorem dX5_init_5 : decode cX5_init 5 = .ok (.sipush 600, 3) := by decide +kernel
theorem dX5_init_8 : decode cX5_init 8 = .ok (.newarray .int, 2) := by decide +kernel
theorem dX5_init_10 : decode cX5_init 10 = .ok (.putfield 9, 3) := by decide +kernel
theorem dX5_init_13 : decode cX5_init 13 = .ok (.aload_n 0, 1) := by decide +kernel
theorem dX5_init_14 : decode cX5_init 14 = .ok (.sipush 600, 3) := by decide +kernel
theorem dX5_init_17 : decode cX5_init 17 = .ok (.newarray .int, 2) := by decide +kernel
theorem dX5_init_19 : decode cX5_init 19 = .ok (.putfield 15, 3) := by decide +kernel
theorem dX5_init_22 : decode cX5_init 22 = .ok (.aload_n 0, 1) := by decide +kernel
theorem dX5_init_23 : decode cX5_init 23 = .ok (.bipush 16, 2) := by decide +kernel
theorem dX5_init_25 : decode cX5_init 25 = .ok (.newarray .int, 2) := by decide +kernel
theorem dX5_init_27 : decode cX5_init 27 = .ok (.putfield 18, 3) := by decide +kernel
theorem dX5_init_30 : decode cX5_init 30 = .ok (.aload_n 0, 1) := by decide +kernel
theorem dX5_init_31 : decode cX5_init 31 = .ok (.bipush 16, 2) := by decide +kernel
theorem dX5_init_33 : decode cX5_init 33 = .ok (.newarray .boolean, 2) := by decide +kernel
theorem dX5_init_35 : decode cX5_init 35 = .ok (.putfield 21, 3) := by decide +kernel
theorem dX5_init_38 : decode cX5_init 38 = .ok (.aload_n 0, 1) := by decide +kernel
theorem dX5_init_39 : decode cX5_init 39 = .ok (.bipush 24, 2) := by decide +kernel
theorem dX5_init_41 : decode cX5_init 41 = .ok (.newarray .int, 2) := by decide +kernel
theorem dX5_init_43 : decode cX5_init 43 = .ok (.putfield 25, 3) := by decide +kernel
theorem dX5_init_46 : decode cX5_init 46 = .ok (.return_, 1) := by decide +kernel
theorem dX5_makeEmpty_0 : decode cX5_makeEmpty 0 = .ok (.aload_n 0, 1) := by decide +kernel
theorem dX5_makeEmpty_1 : decode cX5_makeEmpty 1 = .ok (.iconst 0, 1) := by decide +kernel
theorem dX5_makeEmpty_2 : decode cX5_makeEmpty 2 = .ok (.putfield 28, 3) := by decide +kernel
theorem dX5_makeEmpty_5 : decode cX5_makeEmpty 5 = .ok (.aload_n 0, 1) := by decide +kernel
theorem dX5_makeEmpty_6 : decode cX5_makeEmpty 6 = .ok (.iconst 0, 1) := by decide +kernel
theorem dX5_makeEmpty_7 : decode cX5_makeEmpty 7 = .ok (.putfield 32, 3) := by decide +kernel
theorem dX5_makeEmpty_10 : decode cX5_makeEmpty 10 = .ok (.return_, 1) := by decide +kernel
theorem dX5_addCode_0 : decode cX5_addCode 0 = .ok (.aload_n 0, 1) := by decide +kernel
theorem dX5_addCode_1 : decode cX5_addCode 1 = .ok (.getfield 28, 3) := by decide +kernel
theorem dX5_addCode_4 : decode cX5_addCode 4 = .ok (.sipush 600, 3) := by decide +kernel
theorem dX5_addCode_7 : decode cX5_addCode 7 = .ok (.if_icmp .ge 33, 3) := by decide +kernel
theorem dX5_addCode_10 : decode cX5_addCode 10 = .ok (.aload_n 0, 1) := by decide +kernel
theorem dX5_addCode_11 : decode cX5_addCode 11 = .ok (.getfield 9, 3) := by decide +kernel
theorem dX5_addCode_14 : decode cX5_addCode 14 = .ok (.aload_n 0, 1) := by decide +kernel
theorem dX5_addCode_15 : decode cX5_addCode 15 = .ok (.getfield 28, 3) := by decide +kernel
theorem dX5_addCode_18 : decode cX5_addCode 18 = .ok (.iload_n 1, 1) := by decide +kernel
theorem dX5_addCode_19 : decode cX5_addCode 19 = .ok (.iastore, 1) := by decide +kernel
theorem dX5_addCode_20 : decode cX5_addCode 20 = .ok (.aload_n 0, 1) := by decide +kernel
theorem dX5_addCode_21 : decode cX5_addCode 21 = .ok (.getfield 15, 3) := by decide +kernel
theorem dX5_addCode_24 : decode cX5_addCode 24 = .ok (.aload_n 0, 1) := by decide +kernel
theorem dX5_addCode_25 : decode cX5_addCode 25 = .ok (.getfield 28, 3) := by decide +kernel
theorem dX5_addCode_28 : decode cX5_addCode 28 = .ok (.iload_n 2, 1) := by decide +kernel
theorem dX5_addCode_29 : decode cX5_addCode 29 = .ok (.iastore, 1) := by decide +kernel
theorem dX5_addCode_30 : decode cX5_addCode 30 = .ok (.aload_n 0, 1) := by decide +kernel
theorem dX5_addCode_31 : decode cX5_addCode 31 = .ok (.dup, 1) := by decide +kernel
theorem dX5_addCode_32 : decode cX5_addCode 32 = .ok (.getfield 28, 3) := by decide +kernel
theorem dX5_addCode_35 : decode cX5_addCode 35 = .ok (.iconst 1, 1) := by decide +kernel
theorem dX5_addCode_36 : decode cX5_addCode 36 = .ok (.iadd, 1) := by decide +kernel
theorem dX5_addCode_37 : decode cX5_addCode 37 = .ok (.putfield 28, 3) := by decide +kernel
theorem dX5_addCode_40 : decode cX5_addCode 40 = .ok (.return_, 1) := by decide +kernel
theorem dX5_endLine_0 : decode cX5_endLine 0 = .ok (.aload_n 0, 1) := by decide +kernel
theorem dX5_endLine_1 : decode cX5_endLine 1 = .ok (.getfield 32, 3) := by decide +kernel
theorem dX5_endLine_4 : decode cX5_endLine 4 = .ok (.bipush 16, 2) := by decide +kernel
theorem dX5_endLine_6 : decode cX5_endLine 6 = .ok (.if_icmp .ge 36, 3) := by decide +kernel
theorem dX5_endLine_9 : decode cX5_endLine 9 = .ok (.aload_n 0, 1) := by decide +kernel
theorem dX5_endLine_10 : decode cX5_endLine 10 = .ok (.getfield 18, 3) := by decide +kernel
theorem dX5_endLine_13 : decode cX5_endLine 13 = .ok (.aload_n 0, 1) := by decide +kernel
theorem dX5_endLine_14 : decode cX5_endLine 14 = .ok (.getfield 32, 3) := by decide +kernel
theorem dX5_endLine_17 : decode cX5_endLine 17 = .ok (.aload_n 0, 1) := by decide +kernel
theorem dX5_endLine_18 : decode cX5_endLine 18 = .ok (.getfield 28, 3) := by decide +kernel
theorem dX5_endLine_21 : decode cX5_endLine 21 = .ok (.iastore, 1) := by decide +kernel
theorem dX5_endLine_22 : decode cX5_endLine 22 = .ok (.aload_n 0, 1) := by decide +kernel
theorem dX5_endLine_23 : decode cX5_endLine 23 = .ok (.getfield 21, 3) := by decide +kernel
theorem dX5_endLine_26 : decode cX5_endLine 26 = .ok (.aload_n 0, 1) := by decide +kernel
theorem dX5_endLine_27 : decode cX5_endLine 27 = .ok (.getfield 32, 3) := by decide +kernel
theorem dX5_endLine_30 : decode cX5_endLine 30 = .ok (.iload_n 1, 1) := by decide +kernel
theorem dX5_endLine_31 : decode cX5_endLine 31 = .ok (.bastore, 1) := by decide +kernel
theorem dX5_endLine_32 : decode cX5_endLine 32 = .ok (.aload_n 0, 1) := by decide +kernel
theorem dX5_endLine_33 : decode cX5_endLine 33 = .ok (.dup, 1) := by decide +kernel
theorem dX5_endLine_34 : decode cX5_endLine 34 = .ok (.getfield 32, 3) := by decide +kernel
theorem dX5_endLine_37 : decode cX5_endLine 37 = .ok (.iconst 1, 1) := by decide +kernel
theorem dX5_endLine_38 : decode cX5_endLine 38 = .ok (.iadd, 1) := by decide +kernel
theorem dX5_endLine_39 : decode cX5_endLine 39 = .ok (.putfield 32, 3) := by decide +kernel
theorem dX5_endLine_42 : decode cX5_endLine 42 = .ok (.return_, 1) := by decide +kernel
theorem dX5_permit_0 : decode cX5_permit 0 = .ok (.iconst 0, 1) := by decide +kernel
theorem dX5_permit_1 : decode cX5_permit 1 = .ok (.istore_n 2, 1) := by decide +kernel
theorem dX5_permit_2 : decode cX5_permit 2 = .ok (.iconst 0, 1) := by decide +kernel
theorem dX5_permit_3 : decode cX5_permit 3 = .ok (.istore_n 3, 1) := by decide +kernel
theorem dX5_permit_4 : decode cX5_permit 4 = .ok (.iload_n 3, 1) := by decide +kernel
theorem dX5_permit_5 : decode cX5_permit 5 = .ok (.aload_n 0, 1) := by decide +kernel
theorem dX5_permit_6 : decode cX5_permit 6 = .ok (.getfield 32, 3) := by decide +kernel
theorem dX5_permit_9 : decode cX5_permit 9 = .ok (.if_icmp .ge 38, 3) := by decide +kernel
theorem dX5_permit_12 : decode cX5_permit 12 = .ok (.aload_n 0, 1) := by decide +kernel
theorem dX5_permit_13 : decode cX5_permit 13 = .ok (.iload_n 2, 1) := by decide +kernel
theorem dX5_permit_14 : decode cX5_permit 14 = .ok (.aload_n 0, 1) := by decide +kernel
theorem dX5_permit_15 : decode cX5_permit 15 = .ok (.getfield 18, 3) := by decide +kernel
theorem dX5_permit_18 : decode cX5_permit 18 = .ok (.iload_n 3, 1) := by decide +kernel
theorem dX5_permit_19 : decode cX5_permit 19 = .ok (.iaload, 1) := by decide +kernel
theorem dX5_permit_20 : decode cX5_permit 20 = .ok (.aload_n 1, 1) := by decide +kernel
theorem dX5_permit_21 : decode cX5_permit 21 = .ok (.invokevirtual 35, 3) := by decide +kernel
theorem dX5_permit_24 : decode cX5_permit 24 = .ok (.ifCond .eq 10, 3) := by decide +kernel
theorem dX5_permit_27 : decode cX5_permit 27 = .ok (.aload_n 0, 1) := by decide +kernel
theorem dX5_permit_28 : decode cX5_permit 28 = .ok (.getfield 21, 3) := by decide +kernel
theorem dX5_permit_31 : decode cX5_permit 31 = .ok (.iload_n 3, 1) := by decide +kernel
theorem dX5_permit_32 : decode cX5_permit 32 = .ok (.baload, 1) := by decide +kernel
theorem dX5_permit_33 : decode cX5_permit 33 = .ok (.ireturn, 1) := by decide +kernel
theorem dX5_permit_34 : decode cX5_permit 34 = .ok (.aload_n 0, 1) := by decide +kernel
theorem dX5_permit_35 : decode cX5_permit 35 = .ok (.getfield 18, 3) := by decide +kernel
theorem dX5_permit_38 : decode cX5_permit 38 = .ok (.iload_n 3, 1) := by decide +kernel
theorem dX5_permit_39 : decode cX5_permit 39 = .ok (.iaload, 1) := by decide +kernel
theorem dX5_permit_40 : decode cX5_permit 40 = .ok (.istore_n 2, 1) := by decide +kernel
theorem dX5_permit_41 : decode cX5_permit 41 = .ok (.iinc 3 1, 3) := by decide +kernel
theorem dX5_permit_44 : decode cX5_permit 44 = .ok (.goto (-40), 3) := by decide +kernel
theorem dX5_permit_47 : decode cX5_permit 47 = .ok (.iconst 0, 1) := by decide +kernel
theorem dX5_permit_48 : decode cX5_permit 48 = .ok (.ireturn, 1) := by decide +kernel
theorem dX5_valueOf_0 : decode cX5_valueOf 0 = .ok (.aload_n 0, 1) := by decide +kernel
theorem dX5_valueOf_1 : decode cX5_valueOf 1 = .ok (.iconst 0, 1) := by decide +kernel
theorem dX5_valueOf_2 : decode cX5_valueOf 2 = .ok (.putfield 39, 3) := by decide +kernel
theorem dX5_valueOf_5 : decode cX5_valueOf 5 = .ok (.iload_n 1, 1) := by decide +kernel
theorem dX5_valueOf_6 : decode cX5_valueOf 6 = .ok (.istore 4, 2) := by decide +kernel
theorem dX5_valueOf_8 : decode cX5_valueOf 8 = .ok (.iload 4, 2) := by decide +kernel
theorem dX5_valueOf_10 : decode cX5_valueOf 10 = .ok (.iload_n 2, 1) := by decide +kernel
theorem dX5_valueOf_11 : decode cX5_valueOf 11 = .ok (.if_icmp .ge 93, 3) := by decide +kernel
theorem dX5_valueOf_14 : decode cX5_valueOf 14 = .ok (.aload_n 0, 1) := by decide +kernel
theorem dX5_valueOf_15 : decode cX5_valueOf 15 = .ok (.getfield 9, 3) := by decide +kernel
theorem dX5_valueOf_18 : decode cX5_valueOf 18 = .ok (.iload 4, 2) := by decide +kernel
theorem dX5_valueOf_20 : decode cX5_valueOf 20 = .ok (.iaload, 1) := by decide +kernel
theorem dX5_valueOf_21 : decode cX5_valueOf 21 = .ok (.bipush 7, 2) := by decide +kernel
theorem dX5_valueOf_23 : decode cX5_valueOf 23 = .ok (.if_icmp .ge 19, 3) := by decide +kernel
theorem dX5_valueOf_26 : decode cX5_valueOf 26 = .ok (.aload_n 0, 1) := by decide +kernel
theorem dX5_valueOf_27 : decode cX5_valueOf 27 = .ok (.aload_n 3, 1) := by decide +kernel
theorem dX5_valueOf_28 : decode cX5_valueOf 28 = .ok (.aload_n 0, 1) := by decide +kernel
theorem dX5_valueOf_29 : decode cX5_valueOf 29 = .ok (.getfield 9, 3) := by decide +kernel
theorem dX5_valueOf_32 : decode cX5_valueOf 32 = .ok (.iload 4, 2) := by decide +kernel
theorem dX5_valueOf_34 : decode cX5_valueOf 34 = .ok (.iaload, 1) := by decide +kernel
theorem dX5_valueOf_35 : decode cX5_valueOf 35 = .ok (.iaload, 1) := by decide +kernel
theorem dX5_valueOf_36 : decode cX5_valueOf 36 = .ok (.invokevirtual 42, 3) := by decide +kernel
theorem dX5_valueOf_39 : decode cX5_valueOf 39 = .ok (.goto 59, 3) := by decide +kernel
theorem dX5_valueOf_42 : decode cX5_valueOf 42 = .ok (.aload_n 0, 1) := by decide +kernel
theorem dX5_valueOf_43 : decode cX5_valueOf 43 = .ok (.getfield 9, 3) := by decide +kernel
theorem dX5_valueOf_46 : decode cX5_valueOf 46 = .ok (.iload 4, 2) := by decide +kernel
theorem dX5_valueOf_48 : decode cX5_valueOf 48 = .ok (.iaload, 1) := by decide +kernel
theorem dX5_valueOf_49 : decode cX5_valueOf 49 = .ok (.bipush 7, 2) := by decide +kernel
theorem dX5_valueOf_51 : decode cX5_valueOf 51 = .ok (.if_icmp .ne 17, 3) := by decide +kernel
theorem dX5_valueOf_54 : decode cX5_valueOf 54 = .ok (.aload_n 0, 1) := by decide +kernel
theorem dX5_valueOf_55 : decode cX5_valueOf 55 = .ok (.aload_n 0, 1) := by decide +kernel
theorem dX5_valueOf_56 : decode cX5_valueOf 56 = .ok (.getfield 15, 3) := by decide +kernel
theorem dX5_valueOf_59 : decode cX5_valueOf 59 = .ok (.iload 4, 2) := by decide +kernel
theorem dX5_valueOf_61 : decode cX5_valueOf 61 = .ok (.iaload, 1) := by decide +kernel
theorem dX5_valueOf_62 : decode cX5_valueOf 62 = .ok (.invokevirtual 42, 3) := by decide +kernel
theorem dX5_valueOf_65 : decode cX5_valueOf 65 = .ok (.goto 33, 3) := by decide +kernel
theorem dX5_valueOf_68 : decode cX5_valueOf 68 = .ok (.aload_n 0, 1) := by decide +kernel
theorem dX5_valueOf_69 : decode cX5_valueOf 69 = .ok (.invokevirtual 46, 3) := by decide +kernel
theorem dX5_valueOf_72 : decode cX5_valueOf 72 = .ok (.istore 5, 2) := by decide +kernel
theorem dX5_valueOf_74 : decode cX5_valueOf 74 = .ok (.aload_n 0, 1) := by decide +kernel
theorem dX5_valueOf_75 : decode cX5_valueOf 75 = .ok (.invokevirtual 46, 3) := by decide +kernel
theorem dX5_valueOf_78 : decode cX5_valueOf 78 = .ok (.istore 6, 2) := by decide +kernel
theorem dX5_valueOf_80 : decode cX5_valueOf 80 = .ok (.aload_n 0, 1) := by decide +kernel
theorem dX5_valueOf_81 : decode cX5_valueOf 81 = .ok (.aload_n 0, 1) := by decide +kernel
theorem dX5_valueOf_82 : decode cX5_valueOf 82 = .ok (.getfield 9, 3) := by decide +kernel
theorem dX5_valueOf_85 : decode cX5_valueOf 85 = .ok (.iload 4, 2) := by decide +kernel
theorem dX5_valueOf_87 : decode cX5_valueOf 87 = .ok (.iaload, 1) := by decide +kernel
theorem dX5_valueOf_88 : decode cX5_valueOf 88 = .ok (.iload 6, 2) := by decide +kernel
theorem dX5_valueOf_90 : decode cX5_valueOf 90 = .ok (.iload 5, 2) := by decide +kernel
theorem dX5_valueOf_92 : decode cX5_valueOf 92 = .ok (.invokestatic 50, 3) := by decide +kernel
theorem dX5_valueOf_95 : decode cX5_valueOf 95 = .ok (.invokevirtual 42, 3) := by decide +kernel
theorem dX5_valueOf_98 : decode cX5_valueOf 98 = .ok (.iinc 4 1, 3) := by decide +kernel
theorem dX5_valueOf_101 : decode cX5_valueOf 101 = .ok (.goto (-93), 3) := by decide +kernel
theorem dX5_valueOf_104 : decode cX5_valueOf 104 = .ok (.aload_n 0, 1) := by decide +kernel
theorem dX5_valueOf_105 : decode cX5_valueOf 105 = .ok (.invokevirtual 46, 3) := by decide +kernel
theorem dX5_valueOf_108 : decode cX5_valueOf 108 = .ok (.ireturn, 1) := by decide +kernel
theorem dX5_push_0 : decode cX5_push 0 = .ok (.aload_n 0, 1) := by decide +kernel
theorem dX5_push_1 : decode cX5_push 1 = .ok (.getfield 39, 3) := by decide +kernel
theorem dX5_push_4 : decode cX5_push 4 = .ok (.bipush 24, 2) := by decide +kernel
theorem dX5_push_6 : decode cX5_push 6 = .ok (.if_icmp .ge 23, 3) := by decide +kernel
theorem dX5_push_9 : decode cX5_push 9 = .ok (.aload_n 0, 1) := by decide +kernel
theorem dX5_push_10 : decode cX5_push 10 = .ok (.getfield 25, 3) := by decide +kernel
theorem dX5_push_13 : decode cX5_push 13 = .ok (.aload_n 0, 1) := by decide +kernel
theorem dX5_push_14 : decode cX5_push 14 = .ok (.getfield 39, 3) := by decide +kernel
theorem dX5_push_17 : decode cX5_push 17 = .ok (.iload_n 1, 1) := by decide +kernel
theorem dX5_push_18 : decode cX5_push 18 = .ok (.iastore, 1) := by decide +kernel
theorem dX5_push_19 : decode cX5_push 19 = .ok (.aload_n 0, 1) := by decide +kernel
theorem dX5_push_20 : decode cX5_push 20 = .ok (.dup, 1) := by decide +kernel
theorem dX5_push_21 : decode cX5_push 21 = .ok (.getfield 39, 3) := by decide +kernel
theorem dX5_push_24 : decode cX5_push 24 = .ok (.iconst 1, 1) := by decide +kernel
theorem dX5_push_25 : decode cX5_push 25 = .ok (.iadd, 1) := by decide +kernel
theorem dX5_push_26 : decode cX5_push 26 = .ok (.putfield 39, 3) := by decide +kernel
theorem dX5_push_29 : decode cX5_push 29 = .ok (.return_, 1) := by decide +kernel
theorem dX5_pop_0 : decode cX5_pop 0 = .ok (.aload_n 0, 1) := by decide +kernel
theorem dX5_pop_1 : decode cX5_pop 1 = .ok (.getfield 39, 3) := by decide +kernel
theorem dX5_pop_4 : decode cX5_pop 4 = .ok (.iconst 1, 1) := by decide +kernel
theorem dX5_pop_5 : decode cX5_pop 5 = .ok (.if_icmp .ge 5, 3) := by decide +kernel
theorem dX5_pop_8 : decode cX5_pop 8 = .ok (.iconst 0, 1) := by decide +kernel
theorem dX5_pop_9 : decode cX5_pop 9 = .ok (.ireturn, 1) := by decide +kernel
theorem dX5_pop_10 : decode cX5_pop 10 = .ok (.aload_n 0, 1) := by decide +kernel
theorem dX5_pop_11 : decode cX5_pop 11 = .ok (.dup, 1) := by decide +kernel
theorem dX5_pop_12 : decode cX5_pop 12 = .ok (.getfield 39, 3) := by decide +kernel
theorem dX5_pop_15 : decode cX5_pop 15 = .ok (.iconst 1, 1) := by decide +kernel
theorem dX5_pop_16 : decode cX5_pop 16 = .ok (.isub, 1) := by decide +kernel
theorem dX5_pop_17 : decode cX5_pop 17 = .ok (.putfield 39, 3) := by decide +kernel
theorem dX5_pop_20 : decode cX5_pop 20 = .ok (.aload_n 0, 1) := by decide +kernel
theorem dX5_pop_21 : decode cX5_pop 21 = .ok (.getfield 25, 3) := by decide +kernel
theorem dX5_pop_24 : decode cX5_pop 24 = .ok (.aload_n 0, 1) := by decide +kernel
theorem dX5_pop_25 : decode cX5_pop 25 = .ok (.getfield 39, 3) := by decide +kernel
theorem dX5_pop_28 : decode cX5_pop 28 = .ok (.iaload, 1) := by decide +kernel
theorem dX5_pop_29 : decode cX5_pop 29 = .ok (.ireturn, 1) := by decide +kernel
theorem dX5_joined_0 : decode cX5_joined 0 = .ok (.iload_n 0, 1) := by decide +kernel
theorem dX5_joined_1 : decode cX5_joined 1 = .ok (.tableswitch 61 10 13 #[39, 50, 31, 35], 31) := by decide +kernel
theorem dX5_joined_32 : decode cX5_joined 32 = .ok (.iload_n 1, 1) := by decide +kernel
theorem dX5_joined_33 : decode cX5_joined 33 = .ok (.iload_n 2, 1) := by decide +kernel
theorem dX5_joined_34 : decode cX5_joined 34 = .ok (.iadd, 1) := by decide +kernel
theorem dX5_joined_35 : decode cX5_joined 35 = .ok (.ireturn, 1) := by decide +kernel
theorem dX5_joined_36 : decode cX5_joined 36 = .ok (.iload_n 1, 1) := by decide +kernel
theorem dX5_joined_37 : decode cX5_joined 37 = .ok (.iload_n 2, 1) := by decide +kernel
theorem dX5_joined_38 : decode cX5_joined 38 = .ok (.isub, 1) := by decide +kernel
theorem dX5_joined_39 : decode cX5_joined 39 = .ok (.ireturn, 1) := by decide +kernel
theorem dX5_joined_40 : decode cX5_joined 40 = .ok (.iload_n 1, 1) := by decide +kernel
theorem dX5_joined_41 : decode cX5_joined 41 = .ok (.iload_n 2, 1) := by decide +kernel
theorem dX5_joined_42 : decode cX5_joined 42 = .ok (.if_icmp .ge 7, 3) := by decide +kernel
theorem dX5_joined_45 : decode cX5_joined 45 = .ok (.iconst 1, 1) := by decide +kernel
theorem dX5_joined_46 : decode cX5_joined 46 = .ok (.goto 4, 3) := by decide +kernel
theorem dX5_joined_49 : decode cX5_joined 49 = .ok (.iconst 0, 1) := by decide +kernel
theorem dX5_joined_50 : decode cX5_joined 50 = .ok (.ireturn, 1) := by decide +kernel
theorem dX5_joined_51 : decode cX5_joined 51 = .ok (.iload_n 1, 1) := by decide +kernel
theorem dX5_joined_52 : decode cX5_joined 52 = .ok (.iload_n 2, 1) := by decide +kernel
theorem dX5_joined_53 : decode cX5_joined 53 = .ok (.if_icmp .ne 7, 3) := by decide +kernel
theorem dX5_joined_56 : decode cX5_joined 56 = .ok (.iconst 1, 1) := by decide +kernel
theorem dX5_joined_57 : decode cX5_joined 57 = .ok (.goto 4, 3) := by decide +kernel
theorem dX5_joined_60 : decode cX5_joined 60 = .ok (.iconst 0, 1) := by decide +kernel
theorem dX5_joined_61 : decode cX5_joined 61 = .ok (.ireturn, 1) := by decide +kernel
theorem dX5_joined_62 : decode cX5_joined 62 = .ok (.iload_n 1, 1) := by decide +kernel
theorem dX5_joined_63 : decode cX5_joined 63 = .ok (.ifCond .eq 11, 3) := by decide +kernel
theorem dX5_joined_66 : decode cX5_joined 66 = .ok (.iload_n 2, 1) := by decide +kernel
theorem dX5_joined_67 : decode cX5_joined 67 = .ok (.ifCond .eq 7, 3) := by decide +kernel
theorem dX5_joined_70 : decode cX5_joined 70 = .ok (.iconst 1, 1) := by decide +kernel
theorem dX5_joined_71 : decode cX5_joined 71 = .ok (.goto 4, 3) := by decide +kernel
theorem dX5_joined_74 : decode cX5_joined 74 = .ok (.iconst 0, 1) := by decide +kernel
theorem dX5_joined_75 : decode cX5_joined 75 = .ok (.ireturn, 1) := by decide +kernel
theorem dX6_init_0 : decode cX6_init 0 = .ok (.aload_n 0, 1) := by decide +kernel
theorem dX6_init_1 : decode cX6_init 1 = .ok (.invokespecial 3, 3) := by decide +kernel
theorem dX6_init_4 : decode cX6_init 4 = .ok (.aload_n 0, 1) := by decide +kernel
theorem dX6_init_5 : decode cX6_init 5 = .ok (.sipush 400, 3) := by decide +kernel
theorem dX6_init_8 : decode cX6_init 8 = .ok (.newarray .int, 2) := by decide +kernel
theorem dX6_init_10 : decode cX6_init 10 = .ok (.putfield 11, 3) := by decide +kernel
theorem dX6_init_13 : decode cX6_init 13 = .ok (.return_, 1) := by decide +kernel
theorem dX6_write_0 : decode cX6_write 0 = .ok (.aload_n 0, 1) := by decide +kernel
theorem dX6_write_1 : decode cX6_write 1 = .ok (.getfield 15, 3) := by decide +kernel
theorem dX6_write_4 : decode cX6_write 4 = .ok (.bipush 100, 2) := by decide +kernel
theorem dX6_write_6 : decode cX6_write 6 = .ok (.if_icmp .lt 5, 3) := by decide +kernel
theorem dX6_write_9 : decode cX6_write 9 = .ok (.iconst 0, 1) := by decide +kernel
theorem dX6_write_10 : decode cX6_write 10 = .ok (.ireturn, 1) := by decide +kernel
theorem dX6_write_11 : decode cX6_write 11 = .ok (.iconst 4, 1) := by decide +kernel
theorem dX6_write_12 : decode cX6_write 12 = .ok (.aload_n 0, 1) := by decide +kernel
theorem dX6_write_13 : decode cX6_write 13 = .ok (.getfield 15, 3) := by decide +kernel
theorem dX6_write_16 : decode cX6_write 16 = .ok (.imul, 1) := by decide +kernel
theorem dX6_write_17 : decode cX6_write 17 = .ok (.istore 5, 2) := by decide +kernel
theorem dX6_write_19 : decode cX6_write 19 = .ok (.aload_n 0, 1) := by decide +kernel
theorem dX6_write_20 : decode cX6_write 20 = .ok (.getfield 11, 3) := by decide +kernel
theorem dX6_write_23 : decode cX6_write 23 = .ok (.iload 5, 2) := by decide +kernel
theorem dX6_write_25 : decode cX6_write 25 = .ok (.iload_n 1, 1) := by decide +kernel
theorem dX6_write_26 : decode cX6_write 26 = .ok (.iastore, 1) := by decide +kernel
theorem dX6_write_27 : decode cX6_write 27 = .ok (.aload_n 0, 1) := by decide +kernel
theorem dX6_write_28 : decode cX6_write 28 = .ok (.getfield 11, 3) := by decide +kernel
theorem dX6_write_31 : decode cX6_write 31 = .ok (.iload 5, 2) := by decide +kernel
theorem dX6_write_33 : decode cX6_write 33 = .ok (.iconst 1, 1) := by decide +kernel
theorem dX6_write_34 : decode cX6_write 34 = .ok (.iadd, 1) := by decide +kernel
theorem dX6_write_35 : decode cX6_write 35 = .ok (.iload_n 2, 1) := by decide +kernel
theorem dX6_write_36 : decode cX6_write 36 = .ok (.iastore, 1) := by decide +kernel
theorem dX6_write_37 : decode cX6_write 37 = .ok (.aload_n 0, 1) := by decide +kernel
theorem dX6_write_38 : decode cX6_write 38 = .ok (.getfield 11, 3) := by decide +kernel
theorem dX6_write_41 : decode cX6_write 41 = .ok (.iload 5, 2) := by decide +kernel
theorem dX6_write_43 : decode cX6_write 43 = .ok (.iconst 2, 1) := by decide +kernel
theorem dX6_write_44 : decode cX6_write 44 = .ok (.iadd, 1) := by decide +kernel
theorem dX6_write_45 : decode cX6_write 45 = .ok (.iload_n 3, 1) := by decide +kernel
theorem dX6_write_46 : decode cX6_write 46 = .ok (.iastore, 1) := by decide +kernel
theorem dX6_write_47 : decode cX6_write 47 = .ok (.aload_n 0, 1) := by decide +kernel
theorem dX6_write_48 : decode cX6_write 48 = .ok (.getfield 11, 3) := by decide +kernel
theorem dX6_write_51 : decode cX6_write 51 = .ok (.iload 5, 2) := by decide +kernel
theorem dX6_write_53 : decode cX6_write 53 = .ok (.iconst 3, 1) := by decide +kernel
theorem dX6_write_54 : decode cX6_write 54 = .ok (.iadd, 1) := by decide +kernel
theorem dX6_write_55 : decode cX6_write 55 = .ok (.iload 4, 2) := by decide +kernel
theorem dX6_write_57 : decode cX6_write 57 = .ok (.iastore, 1) := by decide +kernel
theorem dX6_write_58 : decode cX6_write 58 = .ok (.aload_n 0, 1) := by decide +kernel
theorem dX6_write_59 : decode cX6_write 59 = .ok (.dup, 1) := by decide +kernel
theorem dX6_write_60 : decode cX6_write 60 = .ok (.getfield 15, 3) := by decide +kernel
theorem dX6_write_63 : decode cX6_write 63 = .ok (.iconst 1, 1) := by decide +kernel
theorem dX6_write_64 : decode cX6_write 64 = .ok (.iadd, 1) := by decide +kernel
theorem dX6_write_65 : decode cX6_write 65 = .ok (.putfield 15, 3) := by decide +kernel
theorem dX6_write_68 : decode cX6_write 68 = .ok (.iconst 1, 1) := by decide +kernel
theorem dX6_write_69 : decode cX6_write 69 = .ok (.ireturn, 1) := by decide +kernel
theorem dX6_entry_0 : decode cX6_entry 0 = .ok (.iload_n 1, 1) := by decide +kernel
theorem dX6_entry_1 : decode cX6_entry 1 = .ok (.iconst 0, 1) := by decide +kernel
theorem dX6_entry_2 : decode cX6_entry 2 = .ok (.aload_n 0, 1) := by decide +kernel
theorem dX6_entry_3 : decode cX6_entry 3 = .ok (.getfield 15, 3) := by decide +kernel
theorem dX6_entry_6 : decode cX6_entry 6 = .ok (.iconst 1, 1) := by decide +kernel
theorem dX6_entry_7 : decode cX6_entry 7 = .ok (.isub, 1) := by decide +kernel
theorem dX6_entry_8 : decode cX6_entry 8 = .ok (.invokestatic 19, 3) := by decide +kernel
theorem dX6_entry_11 : decode cX6_entry 11 = .ok (.ifCond .eq 12, 3) := by decide +kernel
theorem dX6_entry_14 : decode cX6_entry 14 = .ok (.iload_n 2, 1) := by decide +kernel
theorem dX6_entry_15 : decode cX6_entry 15 = .ok (.iconst 0, 1) := by decide +kernel
theorem dX6_entry_16 : decode cX6_entry 16 = .ok (.iconst 3, 1) := by decide +kernel
theorem dX6_entry_17 : decode cX6_entry 17 = .ok (.invokestatic 19, 3) := by decide +kernel
theorem dX6_entry_20 : decode cX6_entry 20 = .ok (.ifCond .ne 5, 3) := by decide +kernel
theorem dX6_entry_23 : decode cX6_entry 23 = .ok (.iconst (-1), 1) := by decide +kernel
theorem dX6_entry_24 : decode cX6_entry 24 = .ok (.ireturn, 1) := by decide +kernel
theorem dX6_entry_25 : decode cX6_entry 25 = .ok (.aload_n 0, 1) := by decide +kernel
theorem dX6_entry_26 : decode cX6_entry 26 = .ok (.getfield 11, 3) := by decide +kernel
theorem dX6_entry_29 : decode cX6_entry 29 = .ok (.iconst 4, 1) := by decide +kernel
theorem dX6_entry_30 : decode cX6_entry 30 = .ok (.iload_n 1, 1) := by decide +kernel
theorem dX6_entry_31 : decode cX6_entry 31 = .ok (.imul, 1) := by decide +kernel
theorem dX6_entry_32 : decode cX6_entry 32 = .ok (.iload_n 2, 1) := by decide +kernel
theorem dX6_entry_33 : decode cX6_entry 33 = .ok (.iadd, 1) := by decide +kernel
theorem dX6_entry_34 : decode cX6_entry 34 = .ok (.iaload, 1) := by decide +kernel
theorem dX6_entry_35 : decode cX6_entry 35 = .ok (.ireturn, 1) := by decide +kernel
theorem dX7_init_0 : decode cX7_init 0 = .ok (.aload_n 0, 1) := by decide +kernel
theorem dX7_init_1 : decode cX7_init 1 = .ok (.invokespecial 3, 3) := by decide +kernel
theorem dX7_init_4 : decode cX7_init 4 = .ok (.aload_n 0, 1) := by decide +kernel
theorem dX7_init_5 : decode cX7_init 5 = .ok (.sipush 600, 3) := by decide +kernel
theorem dX7_init_8 : decode cX7_init 8 = .ok (.newarray .int, 2) := by decide +kernel
theorem dX7_init_10 : decode cX7_init 10 = .ok (.putfield 9, 3) := by decide +kernel
theorem dX7_init_13 : decode cX7_init 13 = .ok (.return_, 1) := by decide +kernel
theorem dX7_takeBytes_0 : decode cX7_takeBytes 0 = .ok (.bipush 56, 2) := by decide +kernel
theorem dX7_takeBytes_2 : decode cX7_takeBytes 2 = .ok (.istore_n 3, 1) := by decide +kernel
theorem dX7_takeBytes_3 : decode cX7_takeBytes 3 = .ok (.iload_n 3, 1) := by decide +kernel
theorem dX7_takeBytes_4 : decode cX7_takeBytes 4 = .ok (.ifCond .lt 81, 3) := by decide +kernel
theorem dX7_takeBytes_7 : decode cX7_takeBytes 7 = .ok (.lload_n 1, 1) := by decide +kernel
theorem dX7_takeBytes_8 : decode cX7_takeBytes 8 = .ok (.iload_n 3, 1) := by decide +kernel
theorem dX7_takeBytes_9 : decode cX7_takeBytes 9 = .ok (.lushr, 1) := by decide +kernel
theorem dX7_takeBytes_10 : decode cX7_takeBytes 10 = .ok (.l2i, 1) := by decide +kernel
theorem dX7_takeBytes_11 : decode cX7_takeBytes 11 = .ok (.sipush 255, 3) := by decide +kernel
theorem dX7_takeBytes_14 : decode cX7_takeBytes 14 = .ok (.iand, 1) := by decide +kernel
theorem dX7_takeBytes_15 : decode cX7_takeBytes 15 = .ok (.istore 4, 2) := by decide +kernel
theorem dX7_takeBytes_17 : decode cX7_takeBytes 17 = .ok (.iload 4, 2) := by decide +kernel
theorem dX7_takeBytes_19 : decode cX7_takeBytes 19 = .ok (.bipush 10, 2) := by decide +kernel
theorem dX7_takeBytes_21 : decode cX7_takeBytes 21 = .ok (.if_icmp .eq 15, 3) := by decide +kernel
theorem dX7_takeBytes_24 : decode cX7_takeBytes 24 = .ok (.iload 4, 2) := by decide +kernel
theorem dX7_takeBytes_26 : decode cX7_takeBytes 26 = .ok (.bipush 32, 2) := by decide +kernel
theorem dX7_takeBytes_28 : decode cX7_takeBytes 28 = .ok (.bipush 126, 2) := by decide +kernel
theorem dX7_takeBytes_30 : decode cX7_takeBytes 30 = .ok (.invokestatic 15, 3) := by decide +kernel
theorem dX7_takeBytes_33 : decode cX7_takeBytes 33 = .ok (.ifCond .eq 7, 3) := by decide +kernel
theorem dX7_takeBytes_36 : decode cX7_takeBytes 36 = .ok (.iconst 1, 1) := by decide +kernel
theorem dX7_takeBytes_37 : decode cX7_takeBytes 37 = .ok (.goto 4, 3) := by decide +kernel
theorem dX7_takeBytes_40 : decode cX7_takeBytes 40 = .ok (.iconst 0, 1) := by decide +kernel
theorem dX7_takeBytes_41 : decode cX7_takeBytes 41 = .ok (.istore 5, 2) := by decide +kernel
theorem dX7_takeBytes_43 : decode cX7_takeBytes 43 = .ok (.iload 5, 2) := by decide +kernel
theorem dX7_takeBytes_45 : decode cX7_takeBytes 45 = .ok (.ifCond .eq 34, 3) := by decide +kernel
theorem dX7_takeBytes_48 : decode cX7_takeBytes 48 = .ok (.aload_n 0, 1) := by decide +kernel
theorem dX7_takeBytes_49 : decode cX7_takeBytes 49 = .ok (.getfield 19, 3) := by decide +kernel
end
section
theorem dX7_takeBytes_52 : decode cX7_takeBytes 52 = .ok (.sipush 600, 3) := by decide +kernel
theorem dX7_takeBytes_55 : decode cX7_takeBytes 55 = .ok (.if_icmp .ge 24, 3) := by decide +kernel
theorem dX7_takeBytes_58 : decode cX7_takeBytes 58 = .ok (.aload_n 0, 1) := by decide +kernel
theorem dX7_takeBytes_59 : decode cX7_takeBytes 59 = .ok (.getfield 9, 3) := by decide +kernel
theorem dX7_takeBytes_62 : decode cX7_takeBytes 62 = .ok (.aload_n 0, 1) := by decide +kernel
theorem dX7_takeBytes_63 : decode cX7_takeBytes 63 = .ok (.getfield 19, 3) := by decide +kernel
theorem dX7_takeBytes_66 : decode cX7_takeBytes 66 = .ok (.iload 4, 2) := by decide +kernel
theorem dX7_takeBytes_68 : decode cX7_takeBytes 68 = .ok (.iastore, 1) := by decide +kernel
theorem dX7_takeBytes_69 : decode cX7_takeBytes 69 = .ok (.aload_n 0, 1) := by decide +kernel
theorem dX7_takeBytes_70 : decode cX7_takeBytes 70 = .ok (.dup, 1) := by decide +kernel
theorem dX7_takeBytes_71 : decode cX7_takeBytes 71 = .ok (.getfield 19, 3) := by decide +kernel
theorem dX7_takeBytes_74 : decode cX7_takeBytes 74 = .ok (.iconst 1, 1) := by decide +kernel
theorem dX7_takeBytes_75 : decode cX7_takeBytes 75 = .ok (.iadd, 1) := by decide +kernel
theorem dX7_takeBytes_76 : decode cX7_takeBytes 76 = .ok (.putfield 19, 3) := by decide +kernel
theorem dX7_takeBytes_79 : decode cX7_takeBytes 79 = .ok (.iinc 3 (-8), 3) := by decide +kernel
theorem dX7_takeBytes_82 : decode cX7_takeBytes 82 = .ok (.goto (-79), 3) := by decide +kernel
theorem dX7_takeBytes_85 : decode cX7_takeBytes 85 = .ok (.return_, 1) := by decide +kernel
theorem dX7_endOfBlanks_0 : decode cX7_endOfBlanks 0 = .ok (.iload_n 1, 1) := by decide +kernel
theorem dX7_endOfBlanks_1 : decode cX7_endOfBlanks 1 = .ok (.istore_n 2, 1) := by decide +kernel
theorem dX7_endOfBlanks_2 : decode cX7_endOfBlanks 2 = .ok (.iload_n 2, 1) := by decide +kernel
theorem dX7_endOfBlanks_3 : decode cX7_endOfBlanks 3 = .ok (.aload_n 0, 1) := by decide +kernel
theorem dX7_endOfBlanks_4 : decode cX7_endOfBlanks 4 = .ok (.getfield 19, 3) := by decide +kernel
theorem dX7_endOfBlanks_7 : decode cX7_endOfBlanks 7 = .ok (.if_icmp .ge 31, 3) := by decide +kernel
theorem dX7_endOfBlanks_10 : decode cX7_endOfBlanks 10 = .ok (.aload_n 0, 1) := by decide +kernel
theorem dX7_endOfBlanks_11 : decode cX7_endOfBlanks 11 = .ok (.getfield 9, 3) := by decide +kernel
theorem dX7_endOfBlanks_14 : decode cX7_endOfBlanks 14 = .ok (.iload_n 2, 1) := by decide +kernel
theorem dX7_endOfBlanks_15 : decode cX7_endOfBlanks 15 = .ok (.iaload, 1) := by decide +kernel
theorem dX7_endOfBlanks_16 : decode cX7_endOfBlanks 16 = .ok (.bipush 10, 2) := by decide +kernel
theorem dX7_endOfBlanks_18 : decode cX7_endOfBlanks 18 = .ok (.if_icmp .eq 14, 3) := by decide +kernel
theorem dX7_endOfBlanks_21 : decode cX7_endOfBlanks 21 = .ok (.aload_n 0, 1) := by decide +kernel
theorem dX7_endOfBlanks_22 : decode cX7_endOfBlanks 22 = .ok (.getfield 9, 3) := by decide +kernel
theorem dX7_endOfBlanks_25 : decode cX7_endOfBlanks 25 = .ok (.iload_n 2, 1) := by decide +kernel
theorem dX7_endOfBlanks_26 : decode cX7_endOfBlanks 26 = .ok (.iaload, 1) := by decide +kernel
theorem dX7_endOfBlanks_27 : decode cX7_endOfBlanks 27 = .ok (.bipush 32, 2) := by decide +kernel
theorem dX7_endOfBlanks_29 : decode cX7_endOfBlanks 29 = .ok (.if_icmp .ne 9, 3) := by decide +kernel
theorem dX7_endOfBlanks_32 : decode cX7_endOfBlanks 32 = .ok (.iinc 2 1, 3) := by decide +kernel
theorem dX7_endOfBlanks_35 : decode cX7_endOfBlanks 35 = .ok (.goto (-33), 3) := by decide +kernel
theorem dX7_endOfBlanks_38 : decode cX7_endOfBlanks 38 = .ok (.iload_n 2, 1) := by decide +kernel
theorem dX7_endOfBlanks_39 : decode cX7_endOfBlanks 39 = .ok (.ireturn, 1) := by decide +kernel
theorem dX7_endOfLetters_0 : decode cX7_endOfLetters 0 = .ok (.iload_n 1, 1) := by decide +kernel
theorem dX7_endOfLetters_1 : decode cX7_endOfLetters 1 = .ok (.istore_n 2, 1) := by decide +kernel
theorem dX7_endOfLetters_2 : decode cX7_endOfLetters 2 = .ok (.iload_n 2, 1) := by decide +kernel
theorem dX7_endOfLetters_3 : decode cX7_endOfLetters 3 = .ok (.aload_n 0, 1) := by decide +kernel
theorem dX7_endOfLetters_4 : decode cX7_endOfLetters 4 = .ok (.getfield 19, 3) := by decide +kernel
theorem dX7_endOfLetters_7 : decode cX7_endOfLetters 7 = .ok (.if_icmp .ge 25, 3) := by decide +kernel
theorem dX7_endOfLetters_10 : decode cX7_endOfLetters 10 = .ok (.aload_n 0, 1) := by decide +kernel
theorem dX7_endOfLetters_11 : decode cX7_endOfLetters 11 = .ok (.getfield 9, 3) := by decide +kernel
theorem dX7_endOfLetters_14 : decode cX7_endOfLetters 14 = .ok (.iload_n 2, 1) := by decide +kernel
theorem dX7_endOfLetters_15 : decode cX7_endOfLetters 15 = .ok (.iaload, 1) := by decide +kernel
theorem dX7_endOfLetters_16 : decode cX7_endOfLetters 16 = .ok (.bipush 97, 2) := by decide +kernel
theorem dX7_endOfLetters_18 : decode cX7_endOfLetters 18 = .ok (.bipush 122, 2) := by decide +kernel
theorem dX7_endOfLetters_20 : decode cX7_endOfLetters 20 = .ok (.invokestatic 15, 3) := by decide +kernel
theorem dX7_endOfLetters_23 : decode cX7_endOfLetters 23 = .ok (.ifCond .eq 9, 3) := by decide +kernel
theorem dX7_endOfLetters_26 : decode cX7_endOfLetters 26 = .ok (.iinc 2 1, 3) := by decide +kernel
theorem dX7_endOfLetters_29 : decode cX7_endOfLetters 29 = .ok (.goto (-27), 3) := by decide +kernel
theorem dX7_endOfLetters_32 : decode cX7_endOfLetters 32 = .ok (.iload_n 2, 1) := by decide +kernel
theorem dX7_endOfLetters_33 : decode cX7_endOfLetters 33 = .ok (.ireturn, 1) := by decide +kernel
theorem dX7_endOfDigits_0 : decode cX7_endOfDigits 0 = .ok (.iload_n 1, 1) := by decide +kernel
theorem dX7_endOfDigits_1 : decode cX7_endOfDigits 1 = .ok (.istore_n 2, 1) := by decide +kernel
theorem dX7_endOfDigits_2 : decode cX7_endOfDigits 2 = .ok (.iload_n 2, 1) := by decide +kernel
theorem dX7_endOfDigits_3 : decode cX7_endOfDigits 3 = .ok (.aload_n 0, 1) := by decide +kernel
theorem dX7_endOfDigits_4 : decode cX7_endOfDigits 4 = .ok (.getfield 19, 3) := by decide +kernel
theorem dX7_endOfDigits_7 : decode cX7_endOfDigits 7 = .ok (.if_icmp .ge 25, 3) := by decide +kernel
theorem dX7_endOfDigits_10 : decode cX7_endOfDigits 10 = .ok (.aload_n 0, 1) := by decide +kernel
theorem dX7_endOfDigits_11 : decode cX7_endOfDigits 11 = .ok (.getfield 9, 3) := by decide +kernel
theorem dX7_endOfDigits_14 : decode cX7_endOfDigits 14 = .ok (.iload_n 2, 1) := by decide +kernel
theorem dX7_endOfDigits_15 : decode cX7_endOfDigits 15 = .ok (.iaload, 1) := by decide +kernel
theorem dX7_endOfDigits_16 : decode cX7_endOfDigits 16 = .ok (.bipush 48, 2) := by decide +kernel
theorem dX7_endOfDigits_18 : decode cX7_endOfDigits 18 = .ok (.bipush 57, 2) := by decide +kernel
theorem dX7_endOfDigits_20 : decode cX7_endOfDigits 20 = .ok (.invokestatic 15, 3) := by decide +kernel
theorem dX7_endOfDigits_23 : decode cX7_endOfDigits 23 = .ok (.ifCond .eq 9, 3) := by decide +kernel
theorem dX7_endOfDigits_26 : decode cX7_endOfDigits 26 = .ok (.iinc 2 1, 3) := by decide +kernel
theorem dX7_endOfDigits_29 : decode cX7_endOfDigits 29 = .ok (.goto (-27), 3) := by decide +kernel
theorem dX7_endOfDigits_32 : decode cX7_endOfDigits 32 = .ok (.iload_n 2, 1) := by decide +kernel
theorem dX7_endOfDigits_33 : decode cX7_endOfDigits 33 = .ok (.ireturn, 1) := by decide +kernel
theorem dX7_numberIn_0 : decode cX7_numberIn 0 = .ok (.iconst 0, 1) := by decide +kernel
theorem dX7_numberIn_1 : decode cX7_numberIn 1 = .ok (.istore_n 3, 1) := by decide +kernel
theorem dX7_numberIn_2 : decode cX7_numberIn 2 = .ok (.iload_n 1, 1) := by decide +kernel
theorem dX7_numberIn_3 : decode cX7_numberIn 3 = .ok (.istore 4, 2) := by decide +kernel
theorem dX7_numberIn_5 : decode cX7_numberIn 5 = .ok (.iload 4, 2) := by decide +kernel
theorem dX7_numberIn_7 : decode cX7_numberIn 7 = .ok (.iload_n 2, 1) := by decide +kernel
theorem dX7_numberIn_8 : decode cX7_numberIn 8 = .ok (.if_icmp .ge 25, 3) := by decide +kernel
theorem dX7_numberIn_11 : decode cX7_numberIn 11 = .ok (.iload_n 3, 1) := by decide +kernel
theorem dX7_numberIn_12 : decode cX7_numberIn 12 = .ok (.bipush 10, 2) := by decide +kernel
theorem dX7_numberIn_14 : decode cX7_numberIn 14 = .ok (.imul, 1) := by decide +kernel
theorem dX7_numberIn_15 : decode cX7_numberIn 15 = .ok (.aload_n 0, 1) := by decide +kernel
theorem dX7_numberIn_16 : decode cX7_numberIn 16 = .ok (.getfield 9, 3) := by decide +kernel
theorem dX7_numberIn_19 : decode cX7_numberIn 19 = .ok (.iload 4, 2) := by decide +kernel
theorem dX7_numberIn_21 : decode cX7_numberIn 21 = .ok (.iaload, 1) := by decide +kernel
theorem dX7_numberIn_22 : decode cX7_numberIn 22 = .ok (.bipush 48, 2) := by decide +kernel
theorem dX7_numberIn_24 : decode cX7_numberIn 24 = .ok (.isub, 1) := by decide +kernel
theorem dX7_numberIn_25 : decode cX7_numberIn 25 = .ok (.iadd, 1) := by decide +kernel
theorem dX7_numberIn_26 : decode cX7_numberIn 26 = .ok (.istore_n 3, 1) := by decide +kernel
theorem dX7_numberIn_27 : decode cX7_numberIn 27 = .ok (.iinc 4 1, 3) := by decide +kernel
theorem dX7_numberIn_30 : decode cX7_numberIn 30 = .ok (.goto (-25), 3) := by decide +kernel
theorem dX7_numberIn_33 : decode cX7_numberIn 33 = .ok (.iload_n 3, 1) := by decide +kernel
theorem dX7_numberIn_34 : decode cX7_numberIn 34 = .ok (.ireturn, 1) := by decide +kernel
theorem dX7_spells_0 : decode cX7_spells 0 = .ok (.iload_n 3, 1) := by decide +kernel
theorem dX7_spells_1 : decode cX7_spells 1 = .ok (.iload_n 2, 1) := by decide +kernel
theorem dX7_spells_2 : decode cX7_spells 2 = .ok (.isub, 1) := by decide +kernel
theorem dX7_spells_3 : decode cX7_spells 3 = .ok (.aload_n 1, 1) := by decide +kernel
theorem dX7_spells_4 : decode cX7_spells 4 = .ok (.invokevirtual 23, 3) := by decide +kernel
theorem dX7_spells_7 : decode cX7_spells 7 = .ok (.if_icmp .eq 5, 3) := by decide +kernel
theorem dX7_spells_10 : decode cX7_spells 10 = .ok (.iconst 0, 1) := by decide +kernel
theorem dX7_spells_11 : decode cX7_spells 11 = .ok (.ireturn, 1) := by decide +kernel
theorem dX7_spells_12 : decode cX7_spells 12 = .ok (.iload_n 2, 1) := by decide +kernel
theorem dX7_spells_13 : decode cX7_spells 13 = .ok (.istore 4, 2) := by decide +kernel
theorem dX7_spells_15 : decode cX7_spells 15 = .ok (.iload 4, 2) := by decide +kernel
theorem dX7_spells_17 : decode cX7_spells 17 = .ok (.iload_n 3, 1) := by decide +kernel
theorem dX7_spells_18 : decode cX7_spells 18 = .ok (.if_icmp .ge 29, 3) := by decide +kernel
theorem dX7_spells_21 : decode cX7_spells 21 = .ok (.aload_n 0, 1) := by decide +kernel
theorem dX7_spells_22 : decode cX7_spells 22 = .ok (.getfield 9, 3) := by decide +kernel
theorem dX7_spells_25 : decode cX7_spells 25 = .ok (.iload 4, 2) := by decide +kernel
theorem dX7_spells_27 : decode cX7_spells 27 = .ok (.iaload, 1) := by decide +kernel
theorem dX7_spells_28 : decode cX7_spells 28 = .ok (.aload_n 1, 1) := by decide +kernel
theorem dX7_spells_29 : decode cX7_spells 29 = .ok (.iload 4, 2) := by decide +kernel
theorem dX7_spells_31 : decode cX7_spells 31 = .ok (.iload_n 2, 1) := by decide +kernel
theorem dX7_spells_32 : decode cX7_spells 32 = .ok (.isub, 1) := by decide +kernel
theorem dX7_spells_33 : decode cX7_spells 33 = .ok (.invokevirtual 28, 3) := by decide +kernel
theorem dX7_spells_36 : decode cX7_spells 36 = .ok (.if_icmp .eq 5, 3) := by decide +kernel
theorem dX7_spells_39 : decode cX7_spells 39 = .ok (.iconst 0, 1) := by decide +kernel
theorem dX7_spells_40 : decode cX7_spells 40 = .ok (.ireturn, 1) := by decide +kernel
theorem dX7_spells_41 : decode cX7_spells 41 = .ok (.iinc 4 1, 3) := by decide +kernel
theorem dX7_spells_44 : decode cX7_spells 44 = .ok (.goto (-29), 3) := by decide +kernel
theorem dX7_spells_47 : decode cX7_spells 47 = .ok (.iconst 1, 1) := by decide +kernel
theorem dX7_spells_48 : decode cX7_spells 48 = .ok (.ireturn, 1) := by decide +kernel
theorem dX8_init_0 : decode cX8_init 0 = .ok (.aload_n 0, 1) := by decide +kernel
theorem dX8_init_1 : decode cX8_init 1 = .ok (.invokespecial 3, 3) := by decide +kernel
theorem dX8_init_4 : decode cX8_init 4 = .ok (.aload_n 0, 1) := by decide +kernel
theorem dX8_init_5 : decode cX8_init 5 = .ok (.sipush 601, 3) := by decide +kernel
theorem dX8_init_8 : decode cX8_init 8 = .ok (.newarray .int, 2) := by decide +kernel
theorem dX8_init_10 : decode cX8_init 10 = .ok (.putfield 11, 3) := by decide +kernel
theorem dX8_init_13 : decode cX8_init 13 = .ok (.aload_n 0, 1) := by decide +kernel
theorem dX8_init_14 : decode cX8_init 14 = .ok (.sipush 601, 3) := by decide +kernel
theorem dX8_init_17 : decode cX8_init 17 = .ok (.newarray .int, 2) := by decide +kernel
theorem dX8_init_19 : decode cX8_init 19 = .ok (.putfield 15, 3) := by decide +kernel
theorem dX8_init_22 : decode cX8_init 22 = .ok (.aload_n 0, 1) := by decide +kernel
theorem dX8_init_23 : decode cX8_init 23 = .ok (.sipush 601, 3) := by decide +kernel
theorem dX8_init_26 : decode cX8_init 26 = .ok (.newarray .int, 2) := by decide +kernel
theorem dX8_init_28 : decode cX8_init 28 = .ok (.putfield 18, 3) := by decide +kernel
theorem dX8_init_31 : decode cX8_init 31 = .ok (.return_, 1) := by decide +kernel
theorem dX8_scan_0 : decode cX8_scan 0 = .ok (.aload_n 0, 1) := by decide +kernel
theorem dX8_scan_1 : decode cX8_scan 1 = .ok (.iconst 0, 1) := by decide +kernel
theorem dX8_scan_2 : decode cX8_scan 2 = .ok (.putfield 21, 3) := by decide +kernel
theorem dX8_scan_5 : decode cX8_scan 5 = .ok (.aload_n 1, 1) := by decide +kernel
theorem dX8_scan_6 : decode cX8_scan 6 = .ok (.iconst 0, 1) := by decide +kernel
theorem dX8_scan_7 : decode cX8_scan 7 = .ok (.invokevirtual 25, 3) := by decide +kernel
theorem dX8_scan_10 : decode cX8_scan 10 = .ok (.istore_n 2, 1) := by decide +kernel
theorem dX8_scan_11 : decode cX8_scan 11 = .ok (.iconst 0, 1) := by decide +kernel
theorem dX8_scan_12 : decode cX8_scan 12 = .ok (.istore_n 3, 1) := by decide +kernel
theorem dX8_scan_13 : decode cX8_scan 13 = .ok (.iload_n 3, 1) := by decide +kernel
theorem dX8_scan_14 : decode cX8_scan 14 = .ok (.sipush 600, 3) := by decide +kernel
theorem dX8_scan_17 : decode cX8_scan 17 = .ok (.if_icmp .ge 28, 3) := by decide +kernel
theorem dX8_scan_20 : decode cX8_scan 20 = .ok (.iload_n 2, 1) := by decide +kernel
theorem dX8_scan_21 : decode cX8_scan 21 = .ok (.aload_n 1, 1) := by decide +kernel
theorem dX8_scan_22 : decode cX8_scan 22 = .ok (.getfield 31, 3) := by decide +kernel
theorem dX8_scan_25 : decode cX8_scan 25 = .ok (.if_icmp .ge 20, 3) := by decide +kernel
theorem dX8_scan_28 : decode cX8_scan 28 = .ok (.aload_n 1, 1) := by decide +kernel
theorem dX8_scan_29 : decode cX8_scan 29 = .ok (.aload_n 0, 1) := by decide +kernel
theorem dX8_scan_30 : decode cX8_scan 30 = .ok (.aload_n 1, 1) := by decide +kernel
theorem dX8_scan_31 : decode cX8_scan 31 = .ok (.iload_n 2, 1) := by decide +kernel
theorem dX8_scan_32 : decode cX8_scan 32 = .ok (.invokevirtual 32, 3) := by decide +kernel
theorem dX8_scan_35 : decode cX8_scan 35 = .ok (.invokevirtual 25, 3) := by decide +kernel
theorem dX8_scan_38 : decode cX8_scan 38 = .ok (.istore_n 2, 1) := by decide +kernel
theorem dX8_scan_39 : decode cX8_scan 39 = .ok (.iinc 3 1, 3) := by decide +kernel
theorem dX8_scan_42 : decode cX8_scan 42 = .ok (.goto (-29), 3) := by decide +kernel
theorem dX8_scan_45 : decode cX8_scan 45 = .ok (.aload_n 0, 1) := by decide +kernel
theorem dX8_scan_46 : decode cX8_scan 46 = .ok (.bipush 19, 2) := by decide +kernel
theorem dX8_scan_48 : decode cX8_scan 48 = .ok (.iload_n 2, 1) := by decide +kernel
theorem dX8_scan_49 : decode cX8_scan 49 = .ok (.iconst 0, 1) := by decide +kernel
theorem dX8_scan_50 : decode cX8_scan 50 = .ok (.invokevirtual 36, 3) := by decide +kernel
theorem dX8_scan_53 : decode cX8_scan 53 = .ok (.return_, 1) := by decide +kernel
theorem dX8_scanOne_0 : decode cX8_scanOne 0 = .ok (.aload_n 1, 1) := by decide +kernel
theorem dX8_scanOne_1 : decode cX8_scanOne 1 = .ok (.iload_n 2, 1) := by decide +kernel
theorem dX8_scanOne_2 : decode cX8_scanOne 2 = .ok (.invokevirtual 40, 3) := by decide +kernel
theorem dX8_scanOne_5 : decode cX8_scanOne 5 = .ok (.istore_n 3, 1) := by decide +kernel
theorem dX8_scanOne_6 : decode cX8_scanOne 6 = .ok (.iload_n 3, 1) := by decide +kernel
theorem dX8_scanOne_7 : decode cX8_scanOne 7 = .ok (.iload_n 2, 1) := by decide +kernel
theorem dX8_scanOne_8 : decode cX8_scanOne 8 = .ok (.if_icmp .le 30, 3) := by decide +kernel
theorem dX8_scanOne_11 : decode cX8_scanOne 11 = .ok (.aload_n 0, 1) := by decide +kernel
theorem dX8_scanOne_12 : decode cX8_scanOne 12 = .ok (.iload_n 3, 1) := by decide +kernel
theorem dX8_scanOne_13 : decode cX8_scanOne 13 = .ok (.iload_n 2, 1) := by decide +kernel
theorem dX8_scanOne_14 : decode cX8_scanOne 14 = .ok (.isub, 1) := by decide +kernel
theorem dX8_scanOne_15 : decode cX8_scanOne 15 = .ok (.bipush 8, 2) := by decide +kernel
theorem dX8_scanOne_17 : decode cX8_scanOne 17 = .ok (.if_icmp .le 8, 3) := by decide +kernel
theorem dX8_scanOne_20 : decode cX8_scanOne 20 = .ok (.bipush 20, 2) := by decide +kernel
theorem dX8_scanOne_22 : decode cX8_scanOne 22 = .ok (.goto 9, 3) := by decide +kernel
theorem dX8_scanOne_25 : decode cX8_scanOne 25 = .ok (.aload_n 1, 1) := by decide +kernel
theorem dX8_scanOne_26 : decode cX8_scanOne 26 = .ok (.iload_n 2, 1) := by decide +kernel
theorem dX8_scanOne_27 : decode cX8_scanOne 27 = .ok (.iload_n 3, 1) := by decide +kernel
theorem dX8_scanOne_28 : decode cX8_scanOne 28 = .ok (.invokestatic 43, 3) := by decide +kernel
theorem dX8_scanOne_31 : decode cX8_scanOne 31 = .ok (.iload_n 2, 1) := by decide +kernel
theorem dX8_scanOne_32 : decode cX8_scanOne 32 = .ok (.iconst 0, 1) := by decide +kernel
theorem dX8_scanOne_33 : decode cX8_scanOne 33 = .ok (.invokevirtual 36, 3) := by decide +kernel
theorem dX8_scanOne_36 : decode cX8_scanOne 36 = .ok (.iload_n 3, 1) := by decide +kernel
theorem dX8_scanOne_37 : decode cX8_scanOne 37 = .ok (.ireturn, 1) := by decide +kernel
theorem dX8_scanOne_38 : decode cX8_scanOne 38 = .ok (.aload_n 1, 1) := by decide +kernel
theorem dX8_scanOne_39 : decode cX8_scanOne 39 = .ok (.iload_n 2, 1) := by decide +kernel
theorem dX8_scanOne_40 : decode cX8_scanOne 40 = .ok (.invokevirtual 47, 3) := by decide +kernel
theorem dX8_scanOne_43 : decode cX8_scanOne 43 = .ok (.istore_n 3, 1) := by decide +kernel
theorem dX8_scanOne_44 : decode cX8_scanOne 44 = .ok (.iload_n 3, 1) := by decide +kernel
theorem dX8_scanOne_45 : decode cX8_scanOne 45 = .ok (.iload_n 2, 1) := by decide +kernel
theorem dX8_scanOne_46 : decode cX8_scanOne 46 = .ok (.if_icmp .le 51, 3) := by decide +kernel
theorem dX8_scanOne_49 : decode cX8_scanOne 49 = .ok (.iload_n 3, 1) := by decide +kernel
theorem dX8_scanOne_50 : decode cX8_scanOne 50 = .ok (.iload_n 2, 1) := by decide +kernel
theorem dX8_scanOne_51 : decode cX8_scanOne 51 = .ok (.isub, 1) := by decide +kernel
theorem dX8_scanOne_52 : decode cX8_scanOne 52 = .ok (.iconst 4, 1) := by decide +kernel
theorem dX8_scanOne_53 : decode cX8_scanOne 53 = .ok (.if_icmp .gt 7, 3) := by decide +kernel
theorem dX8_scanOne_56 : decode cX8_scanOne 56 = .ok (.iconst 1, 1) := by decide +kernel
theorem dX8_scanOne_57 : decode cX8_scanOne 57 = .ok (.goto 4, 3) := by decide +kernel
theorem dX8_scanOne_60 : decode cX8_scanOne 60 = .ok (.iconst 0, 1) := by decide +kernel
theorem dX8_scanOne_61 : decode cX8_scanOne 61 = .ok (.istore 4, 2) := by decide +kernel
theorem dX8_scanOne_63 : decode cX8_scanOne 63 = .ok (.aload_n 0, 1) := by decide +kernel
theorem dX8_scanOne_64 : decode cX8_scanOne 64 = .ok (.iload 4, 2) := by decide +kernel
theorem dX8_scanOne_66 : decode cX8_scanOne 66 = .ok (.ifCond .eq 8, 3) := by decide +kernel
theorem dX8_scanOne_69 : decode cX8_scanOne 69 = .ok (.bipush 7, 2) := by decide +kernel
theorem dX8_scanOne_71 : decode cX8_scanOne 71 = .ok (.goto 5, 3) := by decide +kernel
theorem dX8_scanOne_74 : decode cX8_scanOne 74 = .ok (.bipush 20, 2) := by decide +kernel
theorem dX8_scanOne_76 : decode cX8_scanOne 76 = .ok (.iload_n 2, 1) := by decide +kernel
theorem dX8_scanOne_77 : decode cX8_scanOne 77 = .ok (.iload 4, 2) := by decide +kernel
theorem dX8_scanOne_79 : decode cX8_scanOne 79 = .ok (.ifCond .eq 12, 3) := by decide +kernel
theorem dX8_scanOne_82 : decode cX8_scanOne 82 = .ok (.aload_n 1, 1) := by decide +kernel
theorem dX8_scanOne_83 : decode cX8_scanOne 83 = .ok (.iload_n 2, 1) := by decide +kernel
theorem dX8_scanOne_84 : decode cX8_scanOne 84 = .ok (.iload_n 3, 1) := by decide +kernel
theorem dX8_scanOne_85 : decode cX8_scanOne 85 = .ok (.invokevirtual 50, 3) := by decide +kernel
theorem dX8_scanOne_88 : decode cX8_scanOne 88 = .ok (.goto 4, 3) := by decide +kernel
theorem dX8_scanOne_91 : decode cX8_scanOne 91 = .ok (.iconst 0, 1) := by decide +kernel
theorem dX8_scanOne_92 : decode cX8_scanOne 92 = .ok (.invokevirtual 36, 3) := by decide +kernel
theorem dX8_scanOne_95 : decode cX8_scanOne 95 = .ok (.iload_n 3, 1) := by decide +kernel
theorem dX8_scanOne_96 : decode cX8_scanOne 96 = .ok (.ireturn, 1) := by decide +kernel
theorem dX8_scanOne_97 : decode cX8_scanOne 97 = .ok (.aload_n 0, 1) := by decide +kernel
theorem dX8_scanOne_98 : decode cX8_scanOne 98 = .ok (.aload_n 1, 1) := by decide +kernel
theorem dX8_scanOne_99 : decode cX8_scanOne 99 = .ok (.getfield 54, 3) := by decide +kernel
theorem dX8_scanOne_102 : decode cX8_scanOne 102 = .ok (.iload_n 2, 1) := by decide +kernel
theorem dX8_scanOne_103 : decode cX8_scanOne 103 = .ok (.iaload, 1) := by decide +kernel
theorem dX8_scanOne_104 : decode cX8_scanOne 104 = .ok (.invokestatic 57, 3) := by decide +kernel
theorem dX8_scanOne_107 : decode cX8_scanOne 107 = .ok (.iload_n 2, 1) := by decide +kernel
theorem dX8_scanOne_108 : decode cX8_scanOne 108 = .ok (.iconst 0, 1) := by decide +kernel
theorem dX8_scanOne_109 : decode cX8_scanOne 109 = .ok (.invokevirtual 36, 3) := by decide +kernel
theorem dX8_scanOne_112 : decode cX8_scanOne 112 = .ok (.iload_n 2, 1) := by decide +kernel
theorem dX8_scanOne_113 : decode cX8_scanOne 113 = .ok (.iconst 1, 1) := by decide +kernel
theorem dX8_scanOne_114 : decode cX8_scanOne 114 = .ok (.iadd, 1) := by decide +kernel
theorem dX8_scanOne_115 : decode cX8_scanOne 115 = .ok (.ireturn, 1) := by decide +kernel
theorem dX8_add_0 : decode cX8_add 0 = .ok (.aload_n 0, 1) := by decide +kernel
theorem dX8_add_1 : decode cX8_add 1 = .ok (.getfield 21, 3) := by decide +kernel
theorem dX8_add_4 : decode cX8_add 4 = .ok (.sipush 601, 3) := by decide +kernel
theorem dX8_add_7 : decode cX8_add 7 = .ok (.if_icmp .ge 43, 3) := by decide +kernel
theorem dX8_add_10 : decode cX8_add 10 = .ok (.aload_n 0, 1) := by decide +kernel
theorem dX8_add_11 : decode cX8_add 11 = .ok (.getfield 11, 3) := by decide +kernel
theorem dX8_add_14 : decode cX8_add 14 = .ok (.aload_n 0, 1) := by decide +kernel
theorem dX8_add_15 : decode cX8_add 15 = .ok (.getfield 21, 3) := by decide +kernel
theorem dX8_add_18 : decode cX8_add 18 = .ok (.iload_n 1, 1) := by decide +kernel
theorem dX8_add_19 : decode cX8_add 19 = .ok (.iastore, 1) := by decide +kernel
theorem dX8_add_20 : decode cX8_add 20 = .ok (.aload_n 0, 1) := by decide +kernel
theorem dX8_add_21 : decode cX8_add 21 = .ok (.getfield 15, 3) := by decide +kernel
theorem dX8_add_24 : decode cX8_add 24 = .ok (.aload_n 0, 1) := by decide +kernel
theorem dX8_add_25 : decode cX8_add 25 = .ok (.getfield 21, 3) := by decide +kernel
theorem dX8_add_28 : decode cX8_add 28 = .ok (.iload_n 2, 1) := by decide +kernel
theorem dX8_add_29 : decode cX8_add 29 = .ok (.iastore, 1) := by decide +kernel
theorem dX8_add_30 : decode cX8_add 30 = .ok (.aload_n 0, 1) := by decide +kernel
theorem dX8_add_31 : decode cX8_add 31 = .ok (.getfield 18, 3) := by decide +kernel
theorem dX8_add_34 : decode cX8_add 34 = .ok (.aload_n 0, 1) := by decide +kernel
theorem dX8_add_35 : decode cX8_add 35 = .ok (.getfield 21, 3) := by decide +kernel
theorem dX8_add_38 : decode cX8_add 38 = .ok (.iload_n 3, 1) := by decide +kernel
theorem dX8_add_39 : decode cX8_add 39 = .ok (.iastore, 1) := by decide +kernel
theorem dX8_add_40 : decode cX8_add 40 = .ok (.aload_n 0, 1) := by decide +kernel
theorem dX8_add_41 : decode cX8_add 41 = .ok (.dup, 1) := by decide +kernel
theorem dX8_add_42 : decode cX8_add 42 = .ok (.getfield 21, 3) := by decide +kernel
theorem dX8_add_45 : decode cX8_add 45 = .ok (.iconst 1, 1) := by decide +kernel
theorem dX8_add_46 : decode cX8_add 46 = .ok (.iadd, 1) := by decide +kernel
theorem dX8_add_47 : decode cX8_add 47 = .ok (.putfield 21, 3) := by decide +kernel
theorem dX8_add_50 : decode cX8_add 50 = .ok (.return_, 1) := by decide +kernel
theorem dX8_kindOfWord_0 : decode cX8_kindOfWord 0 = .ok (.aload_n 0, 1) := by decide +kernel
theorem dX8_kindOfWord_1 : decode cX8_kindOfWord 1 = .ok (.ldc 60, 2) := by decide +kernel
theorem dX8_kindOfWord_3 : decode cX8_kindOfWord 3 = .ok (.iload_n 1, 1) := by decide +kernel
theorem dX8_kindOfWord_4 : decode cX8_kindOfWord 4 = .ok (.iload_n 2, 1) := by decide +kernel
theorem dX8_kindOfWord_5 : decode cX8_kindOfWord 5 = .ok (.invokevirtual 62, 3) := by decide +kernel
theorem dX8_kindOfWord_8 : decode cX8_kindOfWord 8 = .ok (.ifCond .eq 5, 3) := by decide +kernel
theorem dX8_kindOfWord_11 : decode cX8_kindOfWord 11 = .ok (.iconst 0, 1) := by decide +kernel
theorem dX8_kindOfWord_12 : decode cX8_kindOfWord 12 = .ok (.ireturn, 1) := by decide +kernel
theorem dX8_kindOfWord_13 : decode cX8_kindOfWord 13 = .ok (.aload_n 0, 1) := by decide +kernel
theorem dX8_kindOfWord_14 : decode cX8_kindOfWord 14 = .ok (.ldc 66, 2) := by decide +kernel
theorem dX8_kindOfWord_16 : decode cX8_kindOfWord 16 = .ok (.iload_n 1, 1) := by decide +kernel
theorem dX8_kindOfWord_17 : decode cX8_kindOfWord 17 = .ok (.iload_n 2, 1) := by decide +kernel
theorem dX8_kindOfWord_18 : decode cX8_kindOfWord 18 = .ok (.invokevirtual 62, 3) := by decide +kernel
theorem dX8_kindOfWord_21 : decode cX8_kindOfWord 21 = .ok (.ifCond .eq 5, 3) := by decide +kernel
theorem dX8_kindOfWord_24 : decode cX8_kindOfWord 24 = .ok (.iconst 1, 1) := by decide +kernel
theorem dX8_kindOfWord_25 : decode cX8_kindOfWord 25 = .ok (.ireturn, 1) := by decide +kernel
theorem dX8_kindOfWord_26 : decode cX8_kindOfWord 26 = .ok (.aload_n 0, 1) := by decide +kernel
theorem dX8_kindOfWord_27 : decode cX8_kindOfWord 27 = .ok (.ldc 68, 2) := by decide +kernel
theorem dX8_kindOfWord_29 : decode cX8_kindOfWord 29 = .ok (.iload_n 1, 1) := by decide +kernel
theorem dX8_kindOfWord_30 : decode cX8_kindOfWord 30 = .ok (.iload_n 2, 1) := by decide +kernel
theorem dX8_kindOfWord_31 : decode cX8_kindOfWord 31 = .ok (.invokevirtual 62, 3) := by decide +kernel
theorem dX8_kindOfWord_34 : decode cX8_kindOfWord 34 = .ok (.ifCond .eq 5, 3) := by decide +kernel
theorem dX8_kindOfWord_37 : decode cX8_kindOfWord 37 = .ok (.iconst 2, 1) := by decide +kernel
theorem dX8_kindOfWord_38 : decode cX8_kindOfWord 38 = .ok (.ireturn, 1) := by decide +kernel
theorem dX8_kindOfWord_39 : decode cX8_kindOfWord 39 = .ok (.aload_n 0, 1) := by decide +kernel
theorem dX8_kindOfWord_40 : decode cX8_kindOfWord 40 = .ok (.ldc 70, 2) := by decide +kernel
theorem dX8_kindOfWord_42 : decode cX8_kindOfWord 42 = .ok (.iload_n 1, 1) := by decide +kernel
theorem dX8_kindOfWord_43 : decode cX8_kindOfWord 43 = .ok (.iload_n 2, 1) := by decide +kernel
theorem dX8_kindOfWord_44 : decode cX8_kindOfWord 44 = .ok (.invokevirtual 62, 3) := by decide +kernel
theorem dX8_kindOfWord_47 : decode cX8_kindOfWord 47 = .ok (.ifCond .eq 5, 3) := by decide +kernel
theorem dX8_kindOfWord_50 : decode cX8_kindOfWord 50 = .ok (.iconst 3, 1) := by decide +kernel
theorem dX8_kindOfWord_51 : decode cX8_kindOfWord 51 = .ok (.ireturn, 1) := by decide +kernel
theorem dX8_kindOfWord_52 : decode cX8_kindOfWord 52 = .ok (.aload_n 0, 1) := by decide +kernel
theorem dX8_kindOfWord_53 : decode cX8_kindOfWord 53 = .ok (.ldc 72, 2) := by decide +kernel
theorem dX8_kindOfWord_55 : decode cX8_kindOfWord 55 = .ok (.iload_n 1, 1) := by decide +kernel
theorem dX8_kindOfWord_56 : decode cX8_kindOfWord 56 = .ok (.iload_n 2, 1) := by decide +kernel
theorem dX8_kindOfWord_57 : decode cX8_kindOfWord 57 = .ok (.invokevirtual 62, 3) := by decide +kernel
theorem dX8_kindOfWord_60 : decode cX8_kindOfWord 60 = .ok (.ifCond .eq 5, 3) := by decide +kernel
theorem dX8_kindOfWord_63 : decode cX8_kindOfWord 63 = .ok (.iconst 4, 1) := by decide +kernel
theorem dX8_kindOfWord_64 : decode cX8_kindOfWord 64 = .ok (.ireturn, 1) := by decide +kernel
theorem dX8_kindOfWord_65 : decode cX8_kindOfWord 65 = .ok (.aload_n 0, 1) := by decide +kernel
theorem dX8_kindOfWord_66 : decode cX8_kindOfWord 66 = .ok (.ldc 74, 2) := by decide +kernel
theorem dX8_kindOfWord_68 : decode cX8_kindOfWord 68 = .ok (.iload_n 1, 1) := by decide +kernel
theorem dX8_kindOfWord_69 : decode cX8_kindOfWord 69 = .ok (.iload_n 2, 1) := by decide +kernel
theorem dX8_kindOfWord_70 : decode cX8_kindOfWord 70 = .ok (.invokevirtual 62, 3) := by decide +kernel
theorem dX8_kindOfWord_73 : decode cX8_kindOfWord 73 = .ok (.ifCond .eq 5, 3) := by decide +kernel
theorem dX8_kindOfWord_76 : decode cX8_kindOfWord 76 = .ok (.iconst 5, 1) := by decide +kernel
theorem dX8_kindOfWord_77 : decode cX8_kindOfWord 77 = .ok (.ireturn, 1) := by decide +kernel
theorem dX8_kindOfWord_78 : decode cX8_kindOfWord 78 = .ok (.aload_n 0, 1) := by decide +kernel
theorem dX8_kindOfWord_79 : decode cX8_kindOfWord 79 = .ok (.ldc 76, 2) := by decide +kernel
theorem dX8_kindOfWord_81 : decode cX8_kindOfWord 81 = .ok (.iload_n 1, 1) := by decide +kernel
theorem dX8_kindOfWord_82 : decode cX8_kindOfWord 82 = .ok (.iload_n 2, 1) := by decide +kernel
theorem dX8_kindOfWord_83 : decode cX8_kindOfWord 83 = .ok (.invokevirtual 62, 3) := by decide +kernel
theorem dX8_kindOfWord_86 : decode cX8_kindOfWord 86 = .ok (.ifCond .eq 6, 3) := by decide +kernel
theorem dX8_kindOfWord_89 : decode cX8_kindOfWord 89 = .ok (.bipush 6, 2) := by decide +kernel
theorem dX8_kindOfWord_91 : decode cX8_kindOfWord 91 = .ok (.ireturn, 1) := by decide +kernel
theorem dX8_kindOfWord_92 : decode cX8_kindOfWord 92 = .ok (.aload_n 0, 1) := by decide +kernel
theorem dX8_kindOfWord_93 : decode cX8_kindOfWord 93 = .ok (.ldc 78, 2) := by decide +kernel
theorem dX8_kindOfWord_95 : decode cX8_kindOfWord 95 = .ok (.iload_n 1, 1) := by decide +kernel
theorem dX8_kindOfWord_96 : decode cX8_kindOfWord 96 = .ok (.iload_n 2, 1) := by decide +kernel
theorem dX8_kindOfWord_97 : decode cX8_kindOfWord 97 = .ok (.invokevirtual 62, 3) := by decide +kernel
theorem dX8_kindOfWord_100 : decode cX8_kindOfWord 100 = .ok (.ifCond .eq 6, 3) := by decide +kernel
theorem dX8_kindOfWord_103 : decode cX8_kindOfWord 103 = .ok (.bipush 14, 2) := by decide +kernel
theorem dX8_kindOfWord_105 : decode cX8_kindOfWord 105 = .ok (.ireturn, 1) := by decide +kernel
theorem dX8_kindOfWord_106 : decode cX8_kindOfWord 106 = .ok (.aload_n 0, 1) := by decide +kernel
theorem dX8_kindOfWord_107 : decode cX8_kindOfWord 107 = .ok (.ldc 80, 2) := by decide +kernel
theorem dX8_kindOfWord_109 : decode cX8_kindOfWord 109 = .ok (.iload_n 1, 1) := by decide +kernel
theorem dX8_kindOfWord_110 : decode cX8_kindOfWord 110 = .ok (.iload_n 2, 1) := by decide +kernel
theorem dX8_kindOfWord_111 : decode cX8_kindOfWord 111 = .ok (.invokevirtual 62, 3) := by decide +kernel
theorem dX8_kindOfWord_114 : decode cX8_kindOfWord 114 = .ok (.ifCond .eq 6, 3) := by decide +kernel
theorem dX8_kindOfWord_117 : decode cX8_kindOfWord 117 = .ok (.bipush 16, 2) := by decide +kernel
theorem dX8_kindOfWord_119 : decode cX8_kindOfWord 119 = .ok (.ireturn, 1) := by decide +kernel
theorem dX8_kindOfWord_120 : decode cX8_kindOfWord 120 = .ok (.aload_n 0, 1) := by decide +kernel
theorem dX8_kindOfWord_121 : decode cX8_kindOfWord 121 = .ok (.ldc 82, 2) := by decide +kernel
theorem dX8_kindOfWord_123 : decode cX8_kindOfWord 123 = .ok (.iload_n 1, 1) := by decide +kernel
theorem dX8_kindOfWord_124 : decode cX8_kindOfWord 124 = .ok (.iload_n 2, 1) := by decide +kernel
theorem dX8_kindOfWord_125 : decode cX8_kindOfWord 125 = .ok (.invokevirtual 62, 3) := by decide +kernel
theorem dX8_kindOfWord_128 : decode cX8_kindOfWord 128 = .ok (.ifCond .eq 6, 3) := by decide +kernel
theorem dX8_kindOfWord_131 : decode cX8_kindOfWord 131 = .ok (.bipush 17, 2) := by decide +kernel
theorem dX8_kindOfWord_133 : decode cX8_kindOfWord 133 = .ok (.ireturn, 1) := by decide +kernel
theorem dX8_kindOfWord_134 : decode cX8_kindOfWord 134 = .ok (.aload_n 0, 1) := by decide +kernel
theorem dX8_kindOfWord_135 : decode cX8_kindOfWord 135 = .ok (.ldc 84, 2) := by decide +kernel
theorem dX8_kindOfWord_137 : decode cX8_kindOfWord 137 = .ok (.iload_n 1, 1) := by decide +kernel
theorem dX8_kindOfWord_138 : decode cX8_kindOfWord 138 = .ok (.iload_n 2, 1) := by decide +kernel
theorem dX8_kindOfWord_139 : decode cX8_kindOfWord 139 = .ok (.invokevirtual 62, 3) := by decide +kernel
theorem dX8_kindOfWord_142 : decode cX8_kindOfWord 142 = .ok (.ifCond .eq 6, 3) := by decide +kernel
theorem dX8_kindOfWord_145 : decode cX8_kindOfWord 145 = .ok (.bipush 18, 2) := by decide +kernel
theorem dX8_kindOfWord_147 : decode cX8_kindOfWord 147 = .ok (.ireturn, 1) := by decide +kernel
theorem dX8_kindOfWord_148 : decode cX8_kindOfWord 148 = .ok (.bipush 20, 2) := by decide +kernel
theorem dX8_kindOfWord_150 : decode cX8_kindOfWord 150 = .ok (.ireturn, 1) := by decide +kernel
theorem dX8_kindOfSign_0 : decode cX8_kindOfSign 0 = .ok (.iload_n 0, 1) := by decide +kernel
theorem dX8_kindOfSign_1 : decode cX8_kindOfSign 1 = .ok (.tableswitch 124 40 61 #[103, 106, 124, 115, 124, 118, 124, 124, 124, 124, 124, 124, 124, 124, 124, 124, 124, 124, 124, 121, 109, 112], 103) := by decide +kernel
theorem dX8_kindOfSign_104 : decode cX8_kindOfSign 104 = .ok (.bipush 8, 2) := by decide +kernel
theorem dX8_kindOfSign_106 : decode cX8_kindOfSign 106 = .ok (.ireturn, 1) := by decide +kernel
theorem dX8_kindOfSign_107 : decode cX8_kindOfSign 107 = .ok (.bipush 9, 2) := by decide +kernel
theorem dX8_kindOfSign_109 : decode cX8_kindOfSign 109 = .ok (.ireturn, 1) := by decide +kernel
theorem dX8_kindOfSign_110 : decode cX8_kindOfSign 110 = .ok (.bipush 10, 2) := by decide +kernel
theorem dX8_kindOfSign_112 : decode cX8_kindOfSign 112 = .ok (.ireturn, 1) := by decide +kernel
theorem dX8_kindOfSign_113 : decode cX8_kindOfSign 113 = .ok (.bipush 11, 2) := by decide +kernel
theorem dX8_kindOfSign_115 : decode cX8_kindOfSign 115 = .ok (.ireturn, 1) := by decide +kernel
theorem dX8_kindOfSign_116 : decode cX8_kindOfSign 116 = .ok (.bipush 12, 2) := by decide +kernel
theorem dX8_kindOfSign_118 : decode cX8_kindOfSign 118 = .ok (.ireturn, 1) := by decide +kernel
theorem dX8_kindOfSign_119 : decode cX8_kindOfSign 119 = .ok (.bipush 13, 2) := by decide +kernel
theorem dX8_kindOfSign_121 : decode cX8_kindOfSign 121 = .ok (.ireturn, 1) := by decide +kernel
theorem dX8_kindOfSign_122 : decode cX8_kindOfSign 122 = .ok (.bipush 15, 2) := by decide +kernel
theorem dX8_kindOfSign_124 : decode cX8_kindOfSign 124 = .ok (.ireturn, 1) := by decide +kernel
theorem dX8_kindOfSign_125 : decode cX8_kindOfSign 125 = .ok (.bipush 20, 2) := by decide +kernel
theorem dX8_kindOfSign_127 : decode cX8_kindOfSign 127 = .ok (.ireturn, 1) := by decide +kernel
end
section
theorem dX9_init_0 : decode cX9_init 0 = .ok (.aload_n 0, 1) := by decide +kernel
theorem dX9_init_1 : decode cX9_init 1 = .ok (.invokespecial 1, 3) := by decide +kernel
theorem dX9_init_4 : decode cX9_init 4 = .ok (.aload_n 0, 1) := by decide +kernel
theorem dX9_init_5 : decode cX9_init 5 = .ok (.bipush 40, 2) := by decide +kernel
theorem dX9_init_7 : decode cX9_init 7 = .ok (.anewarray 9, 3) := by decide +kernel
theorem dX9_init_10 : decode cX9_init 10 = .ok (.putfield 11, 3) := by decide +kernel
theorem dX9_init_13 : decode cX9_init 13 = .ok (.aload_n 0, 1) := by decide +kernel
theorem dX9_init_14 : decode cX9_init 14 = .ok (.bipush 8, 2) := by decide +kernel
theorem dX9_init_16 : decode cX9_init 16 = .ok (.anewarray 15, 3) := by decide +kernel
theorem dX9_init_19 : decode cX9_init 19 = .ok (.putfield 17, 3) := by decide +kernel
theorem dX9_init_22 : decode cX9_init 22 = .ok (.aload_n 0, 1) := by decide +kernel
theorem dX9_init_23 : decode cX9_init 23 = .ok (.new 21, 3) := by decide +kernel
theorem dX9_init_26 : decode cX9_init 26 = .ok (.dup, 1) := by decide +kernel
theorem dX9_init_27 : decode cX9_init 27 = .ok (.invokespecial 23, 3) := by decide +kernel
theorem dX9_init_30 : decode cX9_init 30 = .ok (.putfield 24, 3) := by decide +kernel
theorem dX9_init_33 : decode cX9_init 33 = .ok (.aload_n 0, 1) := by decide +kernel
theorem dX9_init_34 : decode cX9_init 34 = .ok (.new 28, 3) := by decide +kernel
theorem dX9_init_37 : decode cX9_init 37 = .ok (.dup, 1) := by decide +kernel
theorem dX9_init_38 : decode cX9_init 38 = .ok (.aload_n 0, 1) := by decide +kernel
theorem dX9_init_39 : decode cX9_init 39 = .ok (.getfield 11, 3) := by decide +kernel
theorem dX9_init_42 : decode cX9_init 42 = .ok (.aload_n 0, 1) := by decide +kernel
theorem dX9_init_43 : decode cX9_init 43 = .ok (.getfield 17, 3) := by decide +kernel
theorem dX9_init_46 : decode cX9_init 46 = .ok (.invokespecial 30, 3) := by decide +kernel
theorem dX9_init_49 : decode cX9_init 49 = .ok (.putfield 33, 3) := by decide +kernel
theorem dX9_init_52 : decode cX9_init 52 = .ok (.aload_n 0, 1) := by decide +kernel
theorem dX9_init_53 : decode cX9_init 53 = .ok (.new 37, 3) := by decide +kernel
theorem dX9_init_56 : decode cX9_init 56 = .ok (.dup, 1) := by decide +kernel
theorem dX9_init_57 : decode cX9_init 57 = .ok (.invokespecial 39, 3) := by decide +kernel
theorem dX9_init_60 : decode cX9_init 60 = .ok (.putfield 40, 3) := by decide +kernel
theorem dX9_init_63 : decode cX9_init 63 = .ok (.aload_n 0, 1) := by decide +kernel
theorem dX9_init_64 : decode cX9_init 64 = .ok (.new 44, 3) := by decide +kernel
theorem dX9_init_67 : decode cX9_init 67 = .ok (.dup, 1) := by decide +kernel
theorem dX9_init_68 : decode cX9_init 68 = .ok (.invokespecial 46, 3) := by decide +kernel
theorem dX9_init_71 : decode cX9_init 71 = .ok (.putfield 47, 3) := by decide +kernel
theorem dX9_init_74 : decode cX9_init 74 = .ok (.aload_n 0, 1) := by decide +kernel
theorem dX9_init_75 : decode cX9_init 75 = .ok (.new 51, 3) := by decide +kernel
theorem dX9_init_78 : decode cX9_init 78 = .ok (.dup, 1) := by decide +kernel
theorem dX9_init_79 : decode cX9_init 79 = .ok (.invokespecial 53, 3) := by decide +kernel
theorem dX9_init_82 : decode cX9_init 82 = .ok (.putfield 54, 3) := by decide +kernel
theorem dX9_init_85 : decode cX9_init 85 = .ok (.aload_n 0, 1) := by decide +kernel
theorem dX9_init_86 : decode cX9_init 86 = .ok (.bipush 7, 2) := by decide +kernel
theorem dX9_init_88 : decode cX9_init 88 = .ok (.newarray .int, 2) := by decide +kernel
theorem dX9_init_90 : decode cX9_init 90 = .ok (.putfield 58, 3) := by decide +kernel
theorem dX9_init_93 : decode cX9_init 93 = .ok (.aload_n 0, 1) := by decide +kernel
theorem dX9_init_94 : decode cX9_init 94 = .ok (.new 62, 3) := by decide +kernel
theorem dX9_init_97 : decode cX9_init 97 = .ok (.dup, 1) := by decide +kernel
theorem dX9_init_98 : decode cX9_init 98 = .ok (.invokespecial 64, 3) := by decide +kernel
theorem dX9_init_101 : decode cX9_init 101 = .ok (.putfield 65, 3) := by decide +kernel
theorem dX9_init_104 : decode cX9_init 104 = .ok (.return_, 1) := by decide +kernel
theorem dX9_days_0 : decode cX9_days 0 = .ok (.iload_n 1, 1) := by decide +kernel
theorem dX9_days_1 : decode cX9_days 1 = .ok (.iconst 0, 1) := by decide +kernel
theorem dX9_days_2 : decode cX9_days 2 = .ok (.sipush 1000, 3) := by decide +kernel
theorem dX9_days_5 : decode cX9_days 5 = .ok (.invokestatic 69, 3) := by decide +kernel
theorem dX9_days_8 : decode cX9_days 8 = .ok (.ifCond .eq 15, 3) := by decide +kernel
theorem dX9_days_11 : decode cX9_days 11 = .ok (.aload_n 0, 1) := by decide +kernel
theorem dX9_days_12 : decode cX9_days 12 = .ok (.getfield 73, 3) := by decide +kernel
theorem dX9_days_15 : decode cX9_days 15 = .ok (.iload_n 1, 1) := by decide +kernel
theorem dX9_days_16 : decode cX9_days 16 = .ok (.iadd, 1) := by decide +kernel
theorem dX9_days_17 : decode cX9_days 17 = .ok (.sipush 9999, 3) := by decide +kernel
theorem dX9_days_20 : decode cX9_days 20 = .ok (.if_icmp .le 5, 3) := by decide +kernel
theorem dX9_days_23 : decode cX9_days 23 = .ok (.iconst (-1), 1) := by decide +kernel
theorem dX9_days_24 : decode cX9_days 24 = .ok (.ireturn, 1) := by decide +kernel
theorem dX9_days_25 : decode cX9_days 25 = .ok (.aload_n 0, 1) := by decide +kernel
theorem dX9_days_26 : decode cX9_days 26 = .ok (.dup, 1) := by decide +kernel
theorem dX9_days_27 : decode cX9_days 27 = .ok (.getfield 73, 3) := by decide +kernel
theorem dX9_days_30 : decode cX9_days 30 = .ok (.iload_n 1, 1) := by decide +kernel
theorem dX9_days_31 : decode cX9_days 31 = .ok (.iadd, 1) := by decide +kernel
theorem dX9_days_32 : decode cX9_days 32 = .ok (.putfield 73, 3) := by decide +kernel
theorem dX9_days_35 : decode cX9_days 35 = .ok (.aload_n 0, 1) := by decide +kernel
theorem dX9_days_36 : decode cX9_days 36 = .ok (.getfield 73, 3) := by decide +kernel
theorem dX9_days_39 : decode cX9_days 39 = .ok (.ireturn, 1) := by decide +kernel
theorem dX9_wild_0 : decode cX9_wild 0 = .ok (.iload_n 1, 1) := by decide +kernel
theorem dX9_wild_1 : decode cX9_wild 1 = .ok (.iconst 0, 1) := by decide +kernel
theorem dX9_wild_2 : decode cX9_wild 2 = .ok (.bipush 99, 2) := by decide +kernel
theorem dX9_wild_4 : decode cX9_wild 4 = .ok (.invokestatic 69, 3) := by decide +kernel
theorem dX9_wild_7 : decode cX9_wild 7 = .ok (.ifCond .eq 11, 3) := by decide +kernel
theorem dX9_wild_10 : decode cX9_wild 10 = .ok (.aload_n 0, 1) := by decide +kernel
theorem dX9_wild_11 : decode cX9_wild 11 = .ok (.iload_n 2, 1) := by decide +kernel
theorem dX9_wild_12 : decode cX9_wild 12 = .ok (.invokevirtual 77, 3) := by decide +kernel
theorem dX9_wild_15 : decode cX9_wild 15 = .ok (.ifCond .ne 5, 3) := by decide +kernel
theorem dX9_wild_18 : decode cX9_wild 18 = .ok (.iconst (-1), 1) := by decide +kernel
theorem dX9_wild_19 : decode cX9_wild 19 = .ok (.ireturn, 1) := by decide +kernel
theorem dX9_wild_20 : decode cX9_wild 20 = .ok (.aload_n 0, 1) := by decide +kernel
theorem dX9_wild_21 : decode cX9_wild 21 = .ok (.new 9, 3) := by decide +kernel
theorem dX9_wild_24 : decode cX9_wild 24 = .ok (.dup, 1) := by decide +kernel
theorem dX9_wild_25 : decode cX9_wild 25 = .ok (.aload_n 0, 1) := by decide +kernel
theorem dX9_wild_26 : decode cX9_wild 26 = .ok (.getfield 81, 3) := by decide +kernel
theorem dX9_wild_29 : decode cX9_wild 29 = .ok (.iload_n 1, 1) := by decide +kernel
theorem dX9_wild_30 : decode cX9_wild 30 = .ok (.iload_n 2, 1) := by decide +kernel
theorem dX9_wild_31 : decode cX9_wild 31 = .ok (.invokespecial 84, 3) := by decide +kernel
theorem dX9_wild_34 : decode cX9_wild 34 = .ok (.invokevirtual 87, 3) := by decide +kernel
theorem dX9_wild_37 : decode cX9_wild 37 = .ok (.ireturn, 1) := by decide +kernel
theorem dX9_seed_0 : decode cX9_seed 0 = .ok (.aload_n 0, 1) := by decide +kernel
theorem dX9_seed_1 : decode cX9_seed 1 = .ok (.iload_n 1, 1) := by decide +kernel
theorem dX9_seed_2 : decode cX9_seed 2 = .ok (.invokevirtual 91, 3) := by decide +kernel
theorem dX9_seed_5 : decode cX9_seed 5 = .ok (.astore 4, 2) := by decide +kernel
theorem dX9_seed_7 : decode cX9_seed 7 = .ok (.aload_n 0, 1) := by decide +kernel
theorem dX9_seed_8 : decode cX9_seed 8 = .ok (.iload_n 2, 1) := by decide +kernel
theorem dX9_seed_9 : decode cX9_seed 9 = .ok (.invokevirtual 91, 3) := by decide +kernel
theorem dX9_seed_12 : decode cX9_seed 12 = .ok (.astore 5, 2) := by decide +kernel
theorem dX9_seed_14 : decode cX9_seed 14 = .ok (.aload 4, 2) := by decide +kernel
theorem dX9_seed_16 : decode cX9_seed 16 = .ok (.ifnull 21, 3) := by decide +kernel
theorem dX9_seed_19 : decode cX9_seed 19 = .ok (.aload 5, 2) := by decide +kernel
theorem dX9_seed_21 : decode cX9_seed 21 = .ok (.ifnonnull 8, 3) := by decide +kernel
theorem dX9_seed_24 : decode cX9_seed 24 = .ok (.iload_n 2, 1) := by decide +kernel
theorem dX9_seed_25 : decode cX9_seed 25 = .ok (.iconst (-1), 1) := by decide +kernel
theorem dX9_seed_26 : decode cX9_seed 26 = .ok (.if_icmp .ne 11, 3) := by decide +kernel
theorem dX9_seed_29 : decode cX9_seed 29 = .ok (.aload_n 0, 1) := by decide +kernel
theorem dX9_seed_30 : decode cX9_seed 30 = .ok (.iload_n 3, 1) := by decide +kernel
theorem dX9_seed_31 : decode cX9_seed 31 = .ok (.invokevirtual 77, 3) := by decide +kernel
theorem dX9_seed_34 : decode cX9_seed 34 = .ok (.ifCond .ne 5, 3) := by decide +kernel
theorem dX9_seed_37 : decode cX9_seed 37 = .ok (.iconst (-1), 1) := by decide +kernel
theorem dX9_seed_38 : decode cX9_seed 38 = .ok (.ireturn, 1) := by decide +kernel
theorem dX9_seed_39 : decode cX9_seed 39 = .ok (.aload_n 0, 1) := by decide +kernel
theorem dX9_seed_40 : decode cX9_seed 40 = .ok (.new 9, 3) := by decide +kernel
theorem dX9_seed_43 : decode cX9_seed 43 = .ok (.dup, 1) := by decide +kernel
theorem dX9_seed_44 : decode cX9_seed 44 = .ok (.aload_n 0, 1) := by decide +kernel
theorem dX9_seed_45 : decode cX9_seed 45 = .ok (.getfield 81, 3) := by decide +kernel
theorem dX9_seed_48 : decode cX9_seed 48 = .ok (.iconst 1, 1) := by decide +kernel
theorem dX9_seed_49 : decode cX9_seed 49 = .ok (.aload 4, 2) := by decide +kernel
theorem dX9_seed_51 : decode cX9_seed 51 = .ok (.aload 5, 2) := by decide +kernel
theorem dX9_seed_53 : decode cX9_seed 53 = .ok (.iload_n 3, 1) := by decide +kernel
theorem dX9_seed_54 : decode cX9_seed 54 = .ok (.invokespecial 95, 3) := by decide +kernel
theorem dX9_seed_57 : decode cX9_seed 57 = .ok (.invokevirtual 87, 3) := by decide +kernel
theorem dX9_seed_60 : decode cX9_seed 60 = .ok (.ireturn, 1) := by decide +kernel
theorem dX9_cut_0 : decode cX9_cut 0 = .ok (.aload_n 0, 1) := by decide +kernel
theorem dX9_cut_1 : decode cX9_cut 1 = .ok (.iload_n 1, 1) := by decide +kernel
theorem dX9_cut_2 : decode cX9_cut 2 = .ok (.invokevirtual 91, 3) := by decide +kernel
theorem dX9_cut_5 : decode cX9_cut 5 = .ok (.astore_n 3, 1) := by decide +kernel
theorem dX9_cut_6 : decode cX9_cut 6 = .ok (.aload_n 3, 1) := by decide +kernel
theorem dX9_cut_7 : decode cX9_cut 7 = .ok (.ifnull 11, 3) := by decide +kernel
theorem dX9_cut_10 : decode cX9_cut 10 = .ok (.aload_n 0, 1) := by decide +kernel
theorem dX9_cut_11 : decode cX9_cut 11 = .ok (.iload_n 2, 1) := by decide +kernel
theorem dX9_cut_12 : decode cX9_cut 12 = .ok (.invokevirtual 77, 3) := by decide +kernel
theorem dX9_cut_15 : decode cX9_cut 15 = .ok (.ifCond .ne 5, 3) := by decide +kernel
theorem dX9_cut_18 : decode cX9_cut 18 = .ok (.iconst (-1), 1) := by decide +kernel
theorem dX9_cut_19 : decode cX9_cut 19 = .ok (.ireturn, 1) := by decide +kernel
theorem dX9_cut_20 : decode cX9_cut 20 = .ok (.aload_n 0, 1) := by decide +kernel
theorem dX9_cut_21 : decode cX9_cut 21 = .ok (.new 9, 3) := by decide +kernel
theorem dX9_cut_24 : decode cX9_cut 24 = .ok (.dup, 1) := by decide +kernel
theorem dX9_cut_25 : decode cX9_cut 25 = .ok (.aload_n 0, 1) := by decide +kernel
theorem dX9_cut_26 : decode cX9_cut 26 = .ok (.getfield 81, 3) := by decide +kernel
theorem dX9_cut_29 : decode cX9_cut 29 = .ok (.iconst 2, 1) := by decide +kernel
theorem dX9_cut_30 : decode cX9_cut 30 = .ok (.aload_n 3, 1) := by decide +kernel
theorem dX9_cut_31 : decode cX9_cut 31 = .ok (.aconst_null, 1) := by decide +kernel
theorem dX9_cut_32 : decode cX9_cut 32 = .ok (.iload_n 2, 1) := by decide +kernel
theorem dX9_cut_33 : decode cX9_cut 33 = .ok (.invokespecial 95, 3) := by decide +kernel
theorem dX9_cut_36 : decode cX9_cut 36 = .ok (.invokevirtual 87, 3) := by decide +kernel
theorem dX9_cut_39 : decode cX9_cut 39 = .ok (.ireturn, 1) := by decide +kernel
theorem dX9_split_0 : decode cX9_split 0 = .ok (.aload_n 0, 1) := by decide +kernel
theorem dX9_split_1 : decode cX9_split 1 = .ok (.iload_n 1, 1) := by decide +kernel
theorem dX9_split_2 : decode cX9_split 2 = .ok (.invokevirtual 91, 3) := by decide +kernel
theorem dX9_split_5 : decode cX9_split 5 = .ok (.astore_n 3, 1) := by decide +kernel
theorem dX9_split_6 : decode cX9_split 6 = .ok (.aload_n 3, 1) := by decide +kernel
theorem dX9_split_7 : decode cX9_split 7 = .ok (.ifnull 19, 3) := by decide +kernel
theorem dX9_split_10 : decode cX9_split 10 = .ok (.aload_n 0, 1) := by decide +kernel
theorem dX9_split_11 : decode cX9_split 11 = .ok (.iload_n 2, 1) := by decide +kernel
theorem dX9_split_12 : decode cX9_split 12 = .ok (.invokevirtual 77, 3) := by decide +kernel
theorem dX9_split_15 : decode cX9_split 15 = .ok (.ifCond .eq 11, 3) := by decide +kernel
theorem dX9_split_18 : decode cX9_split 18 = .ok (.iload_n 2, 1) := by decide +kernel
theorem dX9_split_19 : decode cX9_split 19 = .ok (.aload_n 3, 1) := by decide +kernel
theorem dX9_split_20 : decode cX9_split 20 = .ok (.getfield 98, 3) := by decide +kernel
theorem dX9_split_23 : decode cX9_split 23 = .ok (.if_icmp .lt 5, 3) := by decide +kernel
theorem dX9_split_26 : decode cX9_split 26 = .ok (.iconst (-1), 1) := by decide +kernel
theorem dX9_split_27 : decode cX9_split 27 = .ok (.ireturn, 1) := by decide +kernel
theorem dX9_split_28 : decode cX9_split 28 = .ok (.aload_n 3, 1) := by decide +kernel
theorem dX9_split_29 : decode cX9_split 29 = .ok (.dup, 1) := by decide +kernel
theorem dX9_split_30 : decode cX9_split 30 = .ok (.getfield 98, 3) := by decide +kernel
theorem dX9_split_33 : decode cX9_split 33 = .ok (.iload_n 2, 1) := by decide +kernel
theorem dX9_split_34 : decode cX9_split 34 = .ok (.isub, 1) := by decide +kernel
theorem dX9_split_35 : decode cX9_split 35 = .ok (.putfield 98, 3) := by decide +kernel
theorem dX9_split_38 : decode cX9_split 38 = .ok (.aload_n 0, 1) := by decide +kernel
theorem dX9_split_39 : decode cX9_split 39 = .ok (.new 9, 3) := by decide +kernel
theorem dX9_split_42 : decode cX9_split 42 = .ok (.dup, 1) := by decide +kernel
theorem dX9_split_43 : decode cX9_split 43 = .ok (.aload_n 0, 1) := by decide +kernel
theorem dX9_split_44 : decode cX9_split 44 = .ok (.getfield 81, 3) := by decide +kernel
theorem dX9_split_47 : decode cX9_split 47 = .ok (.iconst 3, 1) := by decide +kernel
theorem dX9_split_48 : decode cX9_split 48 = .ok (.aload_n 3, 1) := by decide +kernel
theorem dX9_split_49 : decode cX9_split 49 = .ok (.aconst_null, 1) := by decide +kernel
theorem dX9_split_50 : decode cX9_split 50 = .ok (.iload_n 2, 1) := by decide +kernel
theorem dX9_split_51 : decode cX9_split 51 = .ok (.invokespecial 95, 3) := by decide +kernel
theorem dX9_split_54 : decode cX9_split 54 = .ok (.invokevirtual 87, 3) := by decide +kernel
theorem dX9_split_57 : decode cX9_split 57 = .ok (.ireturn, 1) := by decide +kernel
theorem dX9_mark_0 : decode cX9_mark 0 = .ok (.aload_n 0, 1) := by decide +kernel
theorem dX9_mark_1 : decode cX9_mark 1 = .ok (.iload_n 1, 1) := by decide +kernel
theorem dX9_mark_2 : decode cX9_mark 2 = .ok (.invokevirtual 91, 3) := by decide +kernel
theorem dX9_mark_5 : decode cX9_mark 5 = .ok (.astore 5, 2) := by decide +kernel
theorem dX9_mark_7 : decode cX9_mark 7 = .ok (.aload 5, 2) := by decide +kernel
theorem dX9_mark_9 : decode cX9_mark 9 = .ok (.ifnull 27, 3) := by decide +kernel
theorem dX9_mark_12 : decode cX9_mark 12 = .ok (.iload_n 2, 1) := by decide +kernel
theorem dX9_mark_13 : decode cX9_mark 13 = .ok (.iconst 0, 1) := by decide +kernel
theorem dX9_mark_14 : decode cX9_mark 14 = .ok (.iconst 3, 1) := by decide +kernel
theorem dX9_mark_15 : decode cX9_mark 15 = .ok (.invokestatic 69, 3) := by decide +kernel
theorem dX9_mark_18 : decode cX9_mark 18 = .ok (.ifCond .eq 18, 3) := by decide +kernel
theorem dX9_mark_21 : decode cX9_mark 21 = .ok (.iload_n 3, 1) := by decide +kernel
theorem dX9_mark_22 : decode cX9_mark 22 = .ok (.invokestatic 101, 3) := by decide +kernel
theorem dX9_mark_25 : decode cX9_mark 25 = .ok (.ifCond .eq 11, 3) := by decide +kernel
theorem dX9_mark_28 : decode cX9_mark 28 = .ok (.iload 4, 2) := by decide +kernel
theorem dX9_mark_30 : decode cX9_mark 30 = .ok (.invokestatic 101, 3) := by decide +kernel
theorem dX9_mark_33 : decode cX9_mark 33 = .ok (.ifCond .ne 5, 3) := by decide +kernel
theorem dX9_mark_36 : decode cX9_mark 36 = .ok (.iconst 0, 1) := by decide +kernel
theorem dX9_mark_37 : decode cX9_mark 37 = .ok (.ireturn, 1) := by decide +kernel
theorem dX9_mark_38 : decode cX9_mark 38 = .ok (.aload 5, 2) := by decide +kernel
theorem dX9_mark_40 : decode cX9_mark 40 = .ok (.iload_n 2, 1) := by decide +kernel
theorem dX9_mark_41 : decode cX9_mark 41 = .ok (.iload_n 3, 1) := by decide +kernel
theorem dX9_mark_42 : decode cX9_mark 42 = .ok (.iload 4, 2) := by decide +kernel
theorem dX9_mark_44 : decode cX9_mark 44 = .ok (.invokestatic 104, 3) := by decide +kernel
theorem dX9_mark_47 : decode cX9_mark 47 = .ok (.iload_n 3, 1) := by decide +kernel
theorem dX9_mark_48 : decode cX9_mark 48 = .ok (.iload 4, 2) := by decide +kernel
theorem dX9_mark_50 : decode cX9_mark 50 = .ok (.invokestatic 110, 3) := by decide +kernel
theorem dX9_mark_53 : decode cX9_mark 53 = .ok (.invokevirtual 113, 3) := by decide +kernel
theorem dX9_mark_56 : decode cX9_mark 56 = .ok (.iconst 1, 1) := by decide +kernel
theorem dX9_mark_57 : decode cX9_mark 57 = .ok (.ireturn, 1) := by decide +kernel
theorem dX9_name_0 : decode cX9_name 0 = .ok (.aload_n 0, 1) := by decide +kernel
theorem dX9_name_1 : decode cX9_name 1 = .ok (.iload_n 1, 1) := by decide +kernel
theorem dX9_name_2 : decode cX9_name 2 = .ok (.invokevirtual 91, 3) := by decide +kernel
theorem dX9_name_5 : decode cX9_name 5 = .ok (.ifnull 13, 3) := by decide +kernel
theorem dX9_name_8 : decode cX9_name 8 = .ok (.iload_n 2, 1) := by decide +kernel
theorem dX9_name_9 : decode cX9_name 9 = .ok (.iconst 1, 1) := by decide +kernel
theorem dX9_name_10 : decode cX9_name 10 = .ok (.bipush 50, 2) := by decide +kernel
theorem dX9_name_12 : decode cX9_name 12 = .ok (.invokestatic 69, 3) := by decide +kernel
theorem dX9_name_15 : decode cX9_name 15 = .ok (.ifCond .ne 5, 3) := by decide +kernel
theorem dX9_name_18 : decode cX9_name 18 = .ok (.iconst 0, 1) := by decide +kernel
theorem dX9_name_19 : decode cX9_name 19 = .ok (.ireturn, 1) := by decide +kernel
theorem dX9_name_20 : decode cX9_name 20 = .ok (.aload_n 0, 1) := by decide +kernel
theorem dX9_name_21 : decode cX9_name 21 = .ok (.getfield 24, 3) := by decide +kernel
theorem dX9_name_24 : decode cX9_name 24 = .ok (.iload_n 1, 1) := by decide +kernel
theorem dX9_name_25 : decode cX9_name 25 = .ok (.iload_n 2, 1) := by decide +kernel
theorem dX9_name_26 : decode cX9_name 26 = .ok (.aload_n 0, 1) := by decide +kernel
theorem dX9_name_27 : decode cX9_name 27 = .ok (.getfield 73, 3) := by decide +kernel
theorem dX9_name_30 : decode cX9_name 30 = .ok (.invokevirtual 116, 3) := by decide +kernel
theorem dX9_name_33 : decode cX9_name 33 = .ok (.ireturn, 1) := by decide +kernel
theorem dX9_join_0 : decode cX9_join 0 = .ok (.iload_n 1, 1) := by decide +kernel
theorem dX9_join_1 : decode cX9_join 1 = .ok (.iconst 1, 1) := by decide +kernel
theorem dX9_join_2 : decode cX9_join 2 = .ok (.bipush 50, 2) := by decide +kernel
theorem dX9_join_4 : decode cX9_join 4 = .ok (.invokestatic 69, 3) := by decide +kernel
theorem dX9_join_7 : decode cX9_join 7 = .ok (.ifCond .eq 13, 3) := by decide +kernel
theorem dX9_join_10 : decode cX9_join 10 = .ok (.iload_n 2, 1) := by decide +kernel
theorem dX9_join_11 : decode cX9_join 11 = .ok (.iconst 0, 1) := by decide +kernel
theorem dX9_join_12 : decode cX9_join 12 = .ok (.bipush 50, 2) := by decide +kernel
theorem dX9_join_14 : decode cX9_join 14 = .ok (.invokestatic 69, 3) := by decide +kernel
theorem dX9_join_17 : decode cX9_join 17 = .ok (.ifCond .ne 5, 3) := by decide +kernel
theorem dX9_join_20 : decode cX9_join 20 = .ok (.iconst 0, 1) := by decide +kernel
theorem dX9_join_21 : decode cX9_join 21 = .ok (.ireturn, 1) := by decide +kernel
theorem dX9_join_22 : decode cX9_join 22 = .ok (.aload_n 0, 1) := by decide +kernel
theorem dX9_join_23 : decode cX9_join 23 = .ok (.getfield 24, 3) := by decide +kernel
theorem dX9_join_26 : decode cX9_join 26 = .ok (.iload_n 1, 1) := by decide +kernel
theorem dX9_join_27 : decode cX9_join 27 = .ok (.iload_n 2, 1) := by decide +kernel
theorem dX9_join_28 : decode cX9_join 28 = .ok (.aload_n 0, 1) := by decide +kernel
theorem dX9_join_29 : decode cX9_join 29 = .ok (.getfield 73, 3) := by decide +kernel
theorem dX9_join_32 : decode cX9_join 32 = .ok (.invokevirtual 119, 3) := by decide +kernel
theorem dX9_join_35 : decode cX9_join 35 = .ok (.ireturn, 1) := by decide +kernel
theorem dX9_named_0 : decode cX9_named 0 = .ok (.aload_n 0, 1) := by decide +kernel
theorem dX9_named_1 : decode cX9_named 1 = .ok (.iload_n 1, 1) := by decide +kernel
theorem dX9_named_2 : decode cX9_named 2 = .ok (.invokevirtual 91, 3) := by decide +kernel
theorem dX9_named_5 : decode cX9_named 5 = .ok (.ifnull 24, 3) := by decide +kernel
theorem dX9_named_8 : decode cX9_named 8 = .ok (.iload_n 2, 1) := by decide +kernel
theorem dX9_named_9 : decode cX9_named 9 = .ok (.iconst 0, 1) := by decide +kernel
theorem dX9_named_10 : decode cX9_named 10 = .ok (.aload_n 0, 1) := by decide +kernel
theorem dX9_named_11 : decode cX9_named 11 = .ok (.getfield 73, 3) := by decide +kernel
theorem dX9_named_14 : decode cX9_named 14 = .ok (.invokestatic 69, 3) := by decide +kernel
theorem dX9_named_17 : decode cX9_named 17 = .ok (.ifCond .eq 12, 3) := by decide +kernel
theorem dX9_named_20 : decode cX9_named 20 = .ok (.iload_n 3, 1) := by decide +kernel
theorem dX9_named_21 : decode cX9_named 21 = .ok (.iconst 0, 1) := by decide +kernel
theorem dX9_named_22 : decode cX9_named 22 = .ok (.iconst 1, 1) := by decide +kernel
theorem dX9_named_23 : decode cX9_named 23 = .ok (.invokestatic 69, 3) := by decide +kernel
theorem dX9_named_26 : decode cX9_named 26 = .ok (.ifCond .ne 13, 3) := by decide +kernel
theorem dX9_named_29 : decode cX9_named 29 = .ok (.new 122, 3) := by decide +kernel
theorem dX9_named_32 : decode cX9_named 32 = .ok (.dup, 1) := by decide +kernel
theorem dX9_named_33 : decode cX9_named 33 = .ok (.ldc 124, 2) := by decide +kernel
theorem dX9_named_35 : decode cX9_named 35 = .ok (.invokespecial 126, 3) := by decide +kernel
theorem dX9_named_38 : decode cX9_named 38 = .ok (.athrow, 1) := by decide +kernel
theorem dX9_named_39 : decode cX9_named 39 = .ok (.aload_n 0, 1) := by decide +kernel
theorem dX9_named_40 : decode cX9_named 40 = .ok (.getfield 24, 3) := by decide +kernel
theorem dX9_named_43 : decode cX9_named 43 = .ok (.iload_n 1, 1) := by decide +kernel
theorem dX9_named_44 : decode cX9_named 44 = .ok (.iload_n 2, 1) := by decide +kernel
theorem dX9_named_45 : decode cX9_named 45 = .ok (.iload_n 3, 1) := by decide +kernel
theorem dX9_named_46 : decode cX9_named 46 = .ok (.ifCond .ne 7, 3) := by decide +kernel
theorem dX9_named_49 : decode cX9_named 49 = .ok (.iload_n 2, 1) := by decide +kernel
theorem dX9_named_50 : decode cX9_named 50 = .ok (.goto 7, 3) := by decide +kernel
theorem dX9_named_53 : decode cX9_named 53 = .ok (.aload_n 0, 1) := by decide +kernel
theorem dX9_named_54 : decode cX9_named 54 = .ok (.getfield 73, 3) := by decide +kernel
theorem dX9_named_57 : decode cX9_named 57 = .ok (.invokevirtual 129, 3) := by decide +kernel
theorem dX9_named_60 : decode cX9_named 60 = .ok (.ireturn, 1) := by decide +kernel
theorem dX9_bed_0 : decode cX9_bed 0 = .ok (.iload_n 1, 1) := by decide +kernel
theorem dX9_bed_1 : decode cX9_bed 1 = .ok (.invokestatic 101, 3) := by decide +kernel
theorem dX9_bed_4 : decode cX9_bed 4 = .ok (.ifCond .eq 29, 3) := by decide +kernel
theorem dX9_bed_7 : decode cX9_bed 7 = .ok (.iload_n 2, 1) := by decide +kernel
theorem dX9_bed_8 : decode cX9_bed 8 = .ok (.invokestatic 101, 3) := by decide +kernel
theorem dX9_bed_11 : decode cX9_bed 11 = .ok (.ifCond .eq 22, 3) := by decide +kernel
theorem dX9_bed_14 : decode cX9_bed 14 = .ok (.iload_n 3, 1) := by decide +kernel
theorem dX9_bed_15 : decode cX9_bed 15 = .ok (.iconst 1, 1) := by decide +kernel
theorem dX9_bed_16 : decode cX9_bed 16 = .ok (.bipush 40, 2) := by decide +kernel
theorem dX9_bed_18 : decode cX9_bed 18 = .ok (.invokestatic 69, 3) := by decide +kernel
theorem dX9_bed_21 : decode cX9_bed 21 = .ok (.ifCond .eq 12, 3) := by decide +kernel
theorem dX9_bed_24 : decode cX9_bed 24 = .ok (.aload_n 0, 1) := by decide +kernel
theorem dX9_bed_25 : decode cX9_bed 25 = .ok (.getfield 133, 3) := by decide +kernel
theorem dX9_bed_28 : decode cX9_bed 28 = .ok (.bipush 8, 2) := by decide +kernel
theorem dX9_bed_30 : decode cX9_bed 30 = .ok (.if_icmp .lt 5, 3) := by decide +kernel
theorem dX9_bed_33 : decode cX9_bed 33 = .ok (.iconst (-1), 1) := by decide +kernel
theorem dX9_bed_34 : decode cX9_bed 34 = .ok (.ireturn, 1) := by decide +kernel
theorem dX9_bed_35 : decode cX9_bed 35 = .ok (.aload_n 0, 1) := by decide +kernel
theorem dX9_bed_36 : decode cX9_bed 36 = .ok (.getfield 17, 3) := by decide +kernel
theorem dX9_bed_39 : decode cX9_bed 39 = .ok (.aload_n 0, 1) := by decide +kernel
theorem dX9_bed_40 : decode cX9_bed 40 = .ok (.getfield 133, 3) := by decide +kernel
theorem dX9_bed_43 : decode cX9_bed 43 = .ok (.new 15, 3) := by decide +kernel
theorem dX9_bed_46 : decode cX9_bed 46 = .ok (.dup, 1) := by decide +kernel
theorem dX9_bed_47 : decode cX9_bed 47 = .ok (.iload_n 1, 1) := by decide +kernel
theorem dX9_bed_48 : decode cX9_bed 48 = .ok (.iload_n 2, 1) := by decide +kernel
theorem dX9_bed_49 : decode cX9_bed 49 = .ok (.iload_n 3, 1) := by decide +kernel
theorem dX9_bed_50 : decode cX9_bed 50 = .ok (.invokespecial 136, 3) := by decide +kernel
theorem dX9_bed_53 : decode cX9_bed 53 = .ok (.aastore, 1) := by decide +kernel
theorem dX9_bed_54 : decode cX9_bed 54 = .ok (.aload_n 0, 1) := by decide +kernel
theorem dX9_bed_55 : decode cX9_bed 55 = .ok (.dup, 1) := by decide +kernel
theorem dX9_bed_56 : decode cX9_bed 56 = .ok (.getfield 133, 3) := by decide +kernel
theorem dX9_bed_59 : decode cX9_bed 59 = .ok (.iconst 1, 1) := by decide +kernel
theorem dX9_bed_60 : decode cX9_bed 60 = .ok (.iadd, 1) := by decide +kernel
theorem dX9_bed_61 : decode cX9_bed 61 = .ok (.putfield 133, 3) := by decide +kernel
theorem dX9_bed_64 : decode cX9_bed 64 = .ok (.aload_n 0, 1) := by decide +kernel
theorem dX9_bed_65 : decode cX9_bed 65 = .ok (.getfield 133, 3) := by decide +kernel
theorem dX9_bed_68 : decode cX9_bed 68 = .ok (.iconst 1, 1) := by decide +kernel
theorem dX9_bed_69 : decode cX9_bed 69 = .ok (.isub, 1) := by decide +kernel
theorem dX9_bed_70 : decode cX9_bed 70 = .ok (.ireturn, 1) := by decide +kernel
theorem dX9_change_0 : decode cX9_change 0 = .ok (.aload_n 0, 1) := by decide +kernel
theorem dX9_change_1 : decode cX9_change 1 = .ok (.iload_n 1, 1) := by decide +kernel
theorem dX9_change_2 : decode cX9_change 2 = .ok (.invokevirtual 137, 3) := by decide +kernel
theorem dX9_change_5 : decode cX9_change 5 = .ok (.astore 4, 2) := by decide +kernel
theorem dX9_change_7 : decode cX9_change 7 = .ok (.aload 4, 2) := by decide +kernel
theorem dX9_change_9 : decode cX9_change 9 = .ok (.ifnull 17, 3) := by decide +kernel
theorem dX9_change_12 : decode cX9_change 12 = .ok (.iload_n 2, 1) := by decide +kernel
theorem dX9_change_13 : decode cX9_change 13 = .ok (.invokestatic 101, 3) := by decide +kernel
theorem dX9_change_16 : decode cX9_change 16 = .ok (.ifCond .eq 10, 3) := by decide +kernel
theorem dX9_change_19 : decode cX9_change 19 = .ok (.iload_n 3, 1) := by decide +kernel
theorem dX9_change_20 : decode cX9_change 20 = .ok (.invokestatic 101, 3) := by decide +kernel
theorem dX9_change_23 : decode cX9_change 23 = .ok (.ifCond .ne 5, 3) := by decide +kernel
theorem dX9_change_26 : decode cX9_change 26 = .ok (.iconst 0, 1) := by decide +kernel
theorem dX9_change_27 : decode cX9_change 27 = .ok (.ireturn, 1) := by decide +kernel
theorem dX9_change_28 : decode cX9_change 28 = .ok (.aload 4, 2) := by decide +kernel
theorem dX9_change_30 : decode cX9_change 30 = .ok (.iload_n 2, 1) := by decide +kernel
theorem dX9_change_31 : decode cX9_change 31 = .ok (.putfield 141, 3) := by decide +kernel
theorem dX9_change_34 : decode cX9_change 34 = .ok (.aload 4, 2) := by decide +kernel
theorem dX9_change_36 : decode cX9_change 36 = .ok (.iload_n 3, 1) := by decide +kernel
theorem dX9_change_37 : decode cX9_change 37 = .ok (.putfield 144, 3) := by decide +kernel
theorem dX9_change_40 : decode cX9_change 40 = .ok (.iconst 1, 1) := by decide +kernel
theorem dX9_change_41 : decode cX9_change 41 = .ok (.ireturn, 1) := by decide +kernel
theorem dX9_needs_0 : decode cX9_needs 0 = .ok (.aload_n 0, 1) := by decide +kernel
theorem dX9_needs_1 : decode cX9_needs 1 = .ok (.iload_n 1, 1) := by decide +kernel
theorem dX9_needs_2 : decode cX9_needs 2 = .ok (.invokevirtual 91, 3) := by decide +kernel
theorem dX9_needs_5 : decode cX9_needs 5 = .ok (.astore 6, 2) := by decide +kernel
theorem dX9_needs_7 : decode cX9_needs 7 = .ok (.aload 6, 2) := by decide +kernel
theorem dX9_needs_9 : decode cX9_needs 9 = .ok (.ifnull 21, 3) := by decide +kernel
theorem dX9_needs_12 : decode cX9_needs 12 = .ok (.iload_n 2, 1) := by decide +kernel
theorem dX9_needs_13 : decode cX9_needs 13 = .ok (.iload_n 3, 1) := by decide +kernel
theorem dX9_needs_14 : decode cX9_needs 14 = .ok (.invokestatic 147, 3) := by decide +kernel
theorem dX9_needs_17 : decode cX9_needs 17 = .ok (.ifCond .eq 13, 3) := by decide +kernel
theorem dX9_needs_20 : decode cX9_needs 20 = .ok (.iload 4, 2) := by decide +kernel
theorem dX9_needs_22 : decode cX9_needs 22 = .ok (.iload 5, 2) := by decide +kernel
theorem dX9_needs_24 : decode cX9_needs 24 = .ok (.invokestatic 147, 3) := by decide +kernel
theorem dX9_needs_27 : decode cX9_needs 27 = .ok (.ifCond .ne 5, 3) := by decide +kernel
theorem dX9_needs_30 : decode cX9_needs 30 = .ok (.iconst 0, 1) := by decide +kernel
theorem dX9_needs_31 : decode cX9_needs 31 = .ok (.ireturn, 1) := by decide +kernel
theorem dX9_needs_32 : decode cX9_needs 32 = .ok (.aload 6, 2) := by decide +kernel
theorem dX9_needs_34 : decode cX9_needs 34 = .ok (.iload_n 2, 1) := by decide +kernel
theorem dX9_needs_35 : decode cX9_needs 35 = .ok (.putfield 151, 3) := by decide +kernel
theorem dX9_needs_38 : decode cX9_needs 38 = .ok (.aload 6, 2) := by decide +kernel
theorem dX9_needs_40 : decode cX9_needs 40 = .ok (.iload_n 3, 1) := by decide +kernel
theorem dX9_needs_41 : decode cX9_needs 41 = .ok (.putfield 154, 3) := by decide +kernel
theorem dX9_needs_44 : decode cX9_needs 44 = .ok (.aload 6, 2) := by decide +kernel
theorem dX9_needs_46 : decode cX9_needs 46 = .ok (.iload 4, 2) := by decide +kernel
theorem dX9_needs_48 : decode cX9_needs 48 = .ok (.putfield 157, 3) := by decide +kernel
theorem dX9_needs_51 : decode cX9_needs 51 = .ok (.aload 6, 2) := by decide +kernel
theorem dX9_needs_53 : decode cX9_needs 53 = .ok (.iload 5, 2) := by decide +kernel
theorem dX9_needs_55 : decode cX9_needs 55 = .ok (.putfield 160, 3) := by decide +kernel
theorem dX9_needs_58 : decode cX9_needs 58 = .ok (.iconst 1, 1) := by decide +kernel
theorem dX9_needs_59 : decode cX9_needs 59 = .ok (.ireturn, 1) := by decide +kernel
theorem dX9_lay_0 : decode cX9_lay 0 = .ok (.aload_n 0, 1) := by decide +kernel
theorem dX9_lay_1 : decode cX9_lay 1 = .ok (.iload_n 1, 1) := by decide +kernel
theorem dX9_lay_2 : decode cX9_lay 2 = .ok (.invokevirtual 91, 3) := by decide +kernel
theorem dX9_lay_5 : decode cX9_lay 5 = .ok (.astore_n 3, 1) := by decide +kernel
theorem dX9_lay_6 : decode cX9_lay 6 = .ok (.aload_n 3, 1) := by decide +kernel
theorem dX9_lay_7 : decode cX9_lay 7 = .ok (.ifnull 17, 3) := by decide +kernel
theorem dX9_lay_10 : decode cX9_lay 10 = .ok (.iload_n 2, 1) := by decide +kernel
theorem dX9_lay_11 : decode cX9_lay 11 = .ok (.iconst (-1), 1) := by decide +kernel
theorem dX9_lay_12 : decode cX9_lay 12 = .ok (.if_icmp .eq 14, 3) := by decide +kernel
theorem dX9_lay_15 : decode cX9_lay 15 = .ok (.aload_n 0, 1) := by decide +kernel
theorem dX9_lay_16 : decode cX9_lay 16 = .ok (.aload_n 3, 1) := by decide +kernel
theorem dX9_lay_17 : decode cX9_lay 17 = .ok (.iload_n 2, 1) := by decide +kernel
theorem dX9_lay_18 : decode cX9_lay 18 = .ok (.invokevirtual 163, 3) := by decide +kernel
theorem dX9_lay_21 : decode cX9_lay 21 = .ok (.ifCond .ne 5, 3) := by decide +kernel
theorem dX9_lay_24 : decode cX9_lay 24 = .ok (.iconst 0, 1) := by decide +kernel
theorem dX9_lay_25 : decode cX9_lay 25 = .ok (.ireturn, 1) := by decide +kernel
theorem dX9_lay_26 : decode cX9_lay 26 = .ok (.aload_n 3, 1) := by decide +kernel
theorem dX9_lay_27 : decode cX9_lay 27 = .ok (.iload_n 2, 1) := by decide +kernel
theorem dX9_lay_28 : decode cX9_lay 28 = .ok (.putfield 167, 3) := by decide +kernel
theorem dX9_lay_31 : decode cX9_lay 31 = .ok (.aload_n 3, 1) := by decide +kernel
theorem dX9_lay_32 : decode cX9_lay 32 = .ok (.iconst 0, 1) := by decide +kernel
theorem dX9_lay_33 : decode cX9_lay 33 = .ok (.putfield 170, 3) := by decide +kernel
theorem dX9_lay_36 : decode cX9_lay 36 = .ok (.iconst 1, 1) := by decide +kernel
theorem dX9_lay_37 : decode cX9_lay 37 = .ok (.ireturn, 1) := by decide +kernel
theorem dX9_moves_0 : decode cX9_moves 0 = .ok (.aload_n 0, 1) := by decide +kernel
theorem dX9_moves_1 : decode cX9_moves 1 = .ok (.getfield 33, 3) := by decide +kernel
theorem dX9_moves_4 : decode cX9_moves 4 = .ok (.aload_n 0, 1) := by decide +kernel
theorem dX9_moves_5 : decode cX9_moves 5 = .ok (.getfield 81, 3) := by decide +kernel
theorem dX9_moves_8 : decode cX9_moves 8 = .ok (.aload_n 0, 1) := by decide +kernel
theorem dX9_moves_9 : decode cX9_moves 9 = .ok (.getfield 133, 3) := by decide +kernel
theorem dX9_moves_12 : decode cX9_moves 12 = .ok (.invokevirtual 173, 3) := by decide +kernel
theorem dX9_moves_15 : decode cX9_moves 15 = .ok (.ireturn, 1) := by decide +kernel
theorem dX9_feed_0 : decode cX9_feed 0 = .ok (.aload_n 0, 1) := by decide +kernel
theorem dX9_feed_1 : decode cX9_feed 1 = .ok (.getfield 40, 3) := by decide +kernel
theorem dX9_feed_4 : decode cX9_feed 4 = .ok (.lload_n 1, 1) := by decide +kernel
theorem dX9_feed_5 : decode cX9_feed 5 = .ok (.invokevirtual 176, 3) := by decide +kernel
theorem dX9_feed_8 : decode cX9_feed 8 = .ok (.aload_n 0, 1) := by decide +kernel
theorem dX9_feed_9 : decode cX9_feed 9 = .ok (.getfield 40, 3) := by decide +kernel
theorem dX9_feed_12 : decode cX9_feed 12 = .ok (.lload_n 3, 1) := by decide +kernel
theorem dX9_feed_13 : decode cX9_feed 13 = .ok (.invokevirtual 176, 3) := by decide +kernel
theorem dX9_feed_16 : decode cX9_feed 16 = .ok (.aload_n 0, 1) := by decide +kernel
theorem dX9_feed_17 : decode cX9_feed 17 = .ok (.getfield 40, 3) := by decide +kernel
theorem dX9_feed_20 : decode cX9_feed 20 = .ok (.lload 5, 2) := by decide +kernel
theorem dX9_feed_22 : decode cX9_feed 22 = .ok (.invokevirtual 176, 3) := by decide +kernel
theorem dX9_feed_25 : decode cX9_feed 25 = .ok (.aload_n 0, 1) := by decide +kernel
theorem dX9_feed_26 : decode cX9_feed 26 = .ok (.getfield 40, 3) := by decide +kernel
theorem dX9_feed_29 : decode cX9_feed 29 = .ok (.getfield 180, 3) := by decide +kernel
theorem dX9_feed_32 : decode cX9_feed 32 = .ok (.ireturn, 1) := by decide +kernel
theorem dX9_text_0 : decode cX9_text 0 = .ok (.aload_n 0, 1) := by decide +kernel
theorem dX9_text_1 : decode cX9_text 1 = .ok (.getfield 47, 3) := by decide +kernel
theorem dX9_text_4 : decode cX9_text 4 = .ok (.aload_n 0, 1) := by decide +kernel
theorem dX9_text_5 : decode cX9_text 5 = .ok (.getfield 40, 3) := by decide +kernel
theorem dX9_text_8 : decode cX9_text 8 = .ok (.invokevirtual 183, 3) := by decide +kernel
theorem dX9_text_11 : decode cX9_text 11 = .ok (.istore_n 1, 1) := by decide +kernel
theorem dX9_text_12 : decode cX9_text 12 = .ok (.aload_n 0, 1) := by decide +kernel
theorem dX9_text_13 : decode cX9_text 13 = .ok (.getfield 40, 3) := by decide +kernel
theorem dX9_text_16 : decode cX9_text 16 = .ok (.iconst 0, 1) := by decide +kernel
theorem dX9_text_17 : decode cX9_text 17 = .ok (.putfield 180, 3) := by decide +kernel
theorem dX9_text_20 : decode cX9_text 20 = .ok (.iload_n 1, 1) := by decide +kernel
theorem dX9_text_21 : decode cX9_text 21 = .ok (.ifCond .ne 18, 3) := by decide +kernel
theorem dX9_text_24 : decode cX9_text 24 = .ok (.aload_n 0, 1) := by decide +kernel
theorem dX9_text_25 : decode cX9_text 25 = .ok (.aload_n 0, 1) := by decide +kernel
theorem dX9_text_26 : decode cX9_text 26 = .ok (.getfield 47, 3) := by decide +kernel
theorem dX9_text_29 : decode cX9_text 29 = .ok (.aload_n 0, 1) := by decide +kernel
theorem dX9_text_30 : decode cX9_text 30 = .ok (.getfield 65, 3) := by decide +kernel
theorem dX9_text_33 : decode cX9_text 33 = .ok (.invokevirtual 187, 3) := by decide +kernel
theorem dX9_text_36 : decode cX9_text 36 = .ok (.putfield 65, 3) := by decide +kernel
theorem dX9_text_39 : decode cX9_text 39 = .ok (.iload_n 1, 1) := by decide +kernel
theorem dX9_text_40 : decode cX9_text 40 = .ok (.ireturn, 1) := by decide +kernel
theorem dX9_may_0 : decode cX9_may 0 = .ok (.aload_n 0, 1) := by decide +kernel
theorem dX9_may_1 : decode cX9_may 1 = .ok (.iload_n 1, 1) := by decide +kernel
theorem dX9_may_2 : decode cX9_may 2 = .ok (.invokevirtual 91, 3) := by decide +kernel
theorem dX9_may_5 : decode cX9_may 5 = .ok (.astore 4, 2) := by decide +kernel
theorem dX9_may_7 : decode cX9_may 7 = .ok (.aload 4, 2) := by decide +kernel
theorem dX9_may_9 : decode cX9_may 9 = .ok (.ifnull 23, 3) := by decide +kernel
theorem dX9_may_12 : decode cX9_may 12 = .ok (.iload_n 2, 1) := by decide +kernel
theorem dX9_may_13 : decode cX9_may 13 = .ok (.iconst 0, 1) := by decide +kernel
theorem dX9_may_14 : decode cX9_may 14 = .ok (.bipush 99, 2) := by decide +kernel
theorem dX9_may_16 : decode cX9_may 16 = .ok (.invokestatic 69, 3) := by decide +kernel
theorem dX9_may_19 : decode cX9_may 19 = .ok (.ifCond .eq 13, 3) := by decide +kernel
theorem dX9_may_22 : decode cX9_may 22 = .ok (.iload_n 3, 1) := by decide +kernel
theorem dX9_may_23 : decode cX9_may 23 = .ok (.iconst 0, 1) := by decide +kernel
theorem dX9_may_24 : decode cX9_may 24 = .ok (.bipush 9, 2) := by decide +kernel
theorem dX9_may_26 : decode cX9_may 26 = .ok (.invokestatic 69, 3) := by decide +kernel
theorem dX9_may_29 : decode cX9_may 29 = .ok (.ifCond .ne 5, 3) := by decide +kernel
theorem dX9_may_32 : decode cX9_may 32 = .ok (.iconst (-1), 1) := by decide +kernel
theorem dX9_may_33 : decode cX9_may 33 = .ok (.ireturn, 1) := by decide +kernel
theorem dX9_may_34 : decode cX9_may 34 = .ok (.aload_n 0, 1) := by decide +kernel
theorem dX9_may_35 : decode cX9_may 35 = .ok (.getfield 58, 3) := by decide +kernel
theorem dX9_may_38 : decode cX9_may 38 = .ok (.iconst 0, 1) := by decide +kernel
theorem dX9_may_39 : decode cX9_may 39 = .ok (.aload 4, 2) := by decide +kernel
theorem dX9_may_41 : decode cX9_may 41 = .ok (.getfield 191, 3) := by decide +kernel
theorem dX9_may_44 : decode cX9_may 44 = .ok (.iastore, 1) := by decide +kernel
theorem dX9_may_45 : decode cX9_may 45 = .ok (.aload_n 0, 1) := by decide +kernel
theorem dX9_may_46 : decode cX9_may 46 = .ok (.getfield 58, 3) := by decide +kernel
theorem dX9_may_49 : decode cX9_may 49 = .ok (.iconst 1, 1) := by decide +kernel
theorem dX9_may_50 : decode cX9_may 50 = .ok (.aload_n 0, 1) := by decide +kernel
theorem dX9_may_51 : decode cX9_may 51 = .ok (.getfield 24, 3) := by decide +kernel
theorem dX9_may_54 : decode cX9_may 54 = .ok (.iload_n 1, 1) := by decide +kernel
theorem dX9_may_55 : decode cX9_may 55 = .ok (.aload_n 0, 1) := by decide +kernel
theorem dX9_may_56 : decode cX9_may 56 = .ok (.getfield 73, 3) := by decide +kernel
theorem dX9_may_59 : decode cX9_may 59 = .ok (.aload_n 0, 1) := by decide +kernel
theorem dX9_may_60 : decode cX9_may 60 = .ok (.getfield 73, 3) := by decide +kernel
theorem dX9_may_63 : decode cX9_may 63 = .ok (.invokevirtual 129, 3) := by decide +kernel
theorem dX9_may_66 : decode cX9_may 66 = .ok (.iastore, 1) := by decide +kernel
theorem dX9_may_67 : decode cX9_may 67 = .ok (.aload_n 0, 1) := by decide +kernel
theorem dX9_may_68 : decode cX9_may 68 = .ok (.getfield 58, 3) := by decide +kernel
theorem dX9_may_71 : decode cX9_may 71 = .ok (.iconst 2, 1) := by decide +kernel
theorem dX9_may_72 : decode cX9_may 72 = .ok (.iload_n 2, 1) := by decide +kernel
theorem dX9_may_73 : decode cX9_may 73 = .ok (.iastore, 1) := by decide +kernel
theorem dX9_may_74 : decode cX9_may 74 = .ok (.aload_n 0, 1) := by decide +kernel
theorem dX9_may_75 : decode cX9_may 75 = .ok (.getfield 58, 3) := by decide +kernel
theorem dX9_may_78 : decode cX9_may 78 = .ok (.iconst 3, 1) := by decide +kernel
theorem dX9_may_79 : decode cX9_may 79 = .ok (.iload_n 3, 1) := by decide +kernel
theorem dX9_may_80 : decode cX9_may 80 = .ok (.iastore, 1) := by decide +kernel
theorem dX9_may_81 : decode cX9_may 81 = .ok (.aload_n 0, 1) := by decide +kernel
theorem dX9_may_82 : decode cX9_may 82 = .ok (.getfield 58, 3) := by decide +kernel
theorem dX9_may_85 : decode cX9_may 85 = .ok (.iconst 4, 1) := by decide +kernel
theorem dX9_may_86 : decode cX9_may 86 = .ok (.aload 4, 2) := by decide +kernel
theorem dX9_may_88 : decode cX9_may 88 = .ok (.getfield 194, 3) := by decide +kernel
theorem dX9_may_91 : decode cX9_may 91 = .ok (.ifCond .eq 7, 3) := by decide +kernel
theorem dX9_may_94 : decode cX9_may 94 = .ok (.iconst 1, 1) := by decide +kernel
theorem dX9_may_95 : decode cX9_may 95 = .ok (.goto 4, 3) := by decide +kernel
theorem dX9_may_98 : decode cX9_may 98 = .ok (.iconst 0, 1) := by decide +kernel
theorem dX9_may_99 : decode cX9_may 99 = .ok (.iastore, 1) := by decide +kernel
theorem dX9_may_100 : decode cX9_may 100 = .ok (.aload_n 0, 1) := by decide +kernel
theorem dX9_may_101 : decode cX9_may 101 = .ok (.getfield 58, 3) := by decide +kernel
theorem dX9_may_104 : decode cX9_may 104 = .ok (.iconst 5, 1) := by decide +kernel
theorem dX9_may_105 : decode cX9_may 105 = .ok (.aload 4, 2) := by decide +kernel
theorem dX9_may_107 : decode cX9_may 107 = .ok (.getfield 98, 3) := by decide +kernel
theorem dX9_may_110 : decode cX9_may 110 = .ok (.iastore, 1) := by decide +kernel
theorem dX9_may_111 : decode cX9_may 111 = .ok (.aload_n 0, 1) := by decide +kernel
theorem dX9_may_112 : decode cX9_may 112 = .ok (.getfield 58, 3) := by decide +kernel
theorem dX9_may_115 : decode cX9_may 115 = .ok (.bipush 6, 2) := by decide +kernel
theorem dX9_may_117 : decode cX9_may 117 = .ok (.aload_n 0, 1) := by decide +kernel
theorem dX9_may_118 : decode cX9_may 118 = .ok (.getfield 73, 3) := by decide +kernel
theorem dX9_may_121 : decode cX9_may 121 = .ok (.iastore, 1) := by decide +kernel
theorem dX9_may_122 : decode cX9_may 122 = .ok (.aload_n 0, 1) := by decide +kernel
theorem dX9_may_123 : decode cX9_may 123 = .ok (.getfield 65, 3) := by decide +kernel
theorem dX9_may_126 : decode cX9_may 126 = .ok (.aload_n 0, 1) := by decide +kernel
theorem dX9_may_127 : decode cX9_may 127 = .ok (.getfield 58, 3) := by decide +kernel
theorem dX9_may_130 : decode cX9_may 130 = .ok (.invokevirtual 198, 3) := by decide +kernel
theorem dX9_may_133 : decode cX9_may 133 = .ok (.ifCond .eq 7, 3) := by decide +kernel
theorem dX9_may_136 : decode cX9_may 136 = .ok (.iconst 1, 1) := by decide +kernel
theorem dX9_may_137 : decode cX9_may 137 = .ok (.goto 4, 3) := by decide +kernel
theorem dX9_may_140 : decode cX9_may 140 = .ok (.iconst 0, 1) := by decide +kernel
theorem dX9_may_141 : decode cX9_may 141 = .ok (.ireturn, 1) := by decide +kernel
theorem dX9_send_0 : decode cX9_send 0 = .ok (.aload_n 0, 1) := by decide +kernel
theorem dX9_send_1 : decode cX9_send 1 = .ok (.iload_n 1, 1) := by decide +kernel
theorem dX9_send_2 : decode cX9_send 2 = .ok (.invokevirtual 91, 3) := by decide +kernel
theorem dX9_send_5 : decode cX9_send 5 = .ok (.astore 4, 2) := by decide +kernel
theorem dX9_send_7 : decode cX9_send 7 = .ok (.aload 4, 2) := by decide +kernel
theorem dX9_send_9 : decode cX9_send 9 = .ok (.ifnull 23, 3) := by decide +kernel
theorem dX9_send_12 : decode cX9_send 12 = .ok (.aload 4, 2) := by decide +kernel
theorem dX9_send_14 : decode cX9_send 14 = .ok (.getfield 98, 3) := by decide +kernel
theorem dX9_send_17 : decode cX9_send 17 = .ok (.iconst 1, 1) := by decide +kernel
theorem dX9_send_18 : decode cX9_send 18 = .ok (.if_icmp .lt 14, 3) := by decide +kernel
theorem dX9_send_21 : decode cX9_send 21 = .ok (.aload_n 0, 1) := by decide +kernel
theorem dX9_send_22 : decode cX9_send 22 = .ok (.iload_n 1, 1) := by decide +kernel
theorem dX9_send_23 : decode cX9_send 23 = .ok (.iload_n 2, 1) := by decide +kernel
theorem dX9_send_24 : decode cX9_send 24 = .ok (.iload_n 3, 1) := by decide +kernel
theorem dX9_send_25 : decode cX9_send 25 = .ok (.invokevirtual 202, 3) := by decide +kernel
theorem dX9_send_28 : decode cX9_send 28 = .ok (.iconst 1, 1) := by decide +kernel
theorem dX9_send_29 : decode cX9_send 29 = .ok (.if_icmp .eq 5, 3) := by decide +kernel
theorem dX9_send_32 : decode cX9_send 32 = .ok (.iconst 0, 1) := by decide +kernel
theorem dX9_send_33 : decode cX9_send 33 = .ok (.ireturn, 1) := by decide +kernel
theorem dX9_send_34 : decode cX9_send 34 = .ok (.aload_n 0, 1) := by decide +kernel
theorem dX9_send_35 : decode cX9_send 35 = .ok (.getfield 54, 3) := by decide +kernel
theorem dX9_send_38 : decode cX9_send 38 = .ok (.iload_n 1, 1) := by decide +kernel
theorem dX9_send_39 : decode cX9_send 39 = .ok (.iload_n 2, 1) := by decide +kernel
theorem dX9_send_40 : decode cX9_send 40 = .ok (.iload_n 3, 1) := by decide +kernel
theorem dX9_send_41 : decode cX9_send 41 = .ok (.aload_n 0, 1) := by decide +kernel
theorem dX9_send_42 : decode cX9_send 42 = .ok (.getfield 73, 3) := by decide +kernel
theorem dX9_send_45 : decode cX9_send 45 = .ok (.invokevirtual 205, 3) := by decide +kernel
theorem dX9_send_48 : decode cX9_send 48 = .ok (.ifCond .ne 5, 3) := by decide +kernel
theorem dX9_send_51 : decode cX9_send 51 = .ok (.iconst 0, 1) := by decide +kernel
theorem dX9_send_52 : decode cX9_send 52 = .ok (.ireturn, 1) := by decide +kernel
theorem dX9_send_53 : decode cX9_send 53 = .ok (.aload 4, 2) := by decide +kernel
theorem dX9_send_55 : decode cX9_send 55 = .ok (.dup, 1) := by decide +kernel
theorem dX9_send_56 : decode cX9_send 56 = .ok (.getfield 98, 3) := by decide +kernel
theorem dX9_send_59 : decode cX9_send 59 = .ok (.iconst 1, 1) := by decide +kernel
theorem dX9_send_60 : decode cX9_send 60 = .ok (.isub, 1) := by decide +kernel
theorem dX9_send_61 : decode cX9_send 61 = .ok (.putfield 98, 3) := by decide +kernel
theorem dX9_send_64 : decode cX9_send 64 = .ok (.iconst 1, 1) := by decide +kernel
theorem dX9_send_65 : decode cX9_send 65 = .ok (.ireturn, 1) := by decide +kernel
theorem dX9_sent_0 : decode cX9_sent 0 = .ok (.aload_n 0, 1) := by decide +kernel
theorem dX9_sent_1 : decode cX9_sent 1 = .ok (.getfield 54, 3) := by decide +kernel
theorem dX9_sent_4 : decode cX9_sent 4 = .ok (.iload_n 1, 1) := by decide +kernel
theorem dX9_sent_5 : decode cX9_sent 5 = .ok (.iload_n 2, 1) := by decide +kernel
theorem dX9_sent_6 : decode cX9_sent 6 = .ok (.invokevirtual 209, 3) := by decide +kernel
theorem dX9_sent_9 : decode cX9_sent 9 = .ok (.ireturn, 1) := by decide +kernel
theorem dX9_seen_0 : decode cX9_seen 0 = .ok (.aload_n 0, 1) := by decide +kernel
theorem dX9_seen_1 : decode cX9_seen 1 = .ok (.iload_n 1, 1) := by decide +kernel
theorem dX9_seen_2 : decode cX9_seen 2 = .ok (.invokevirtual 91, 3) := by decide +kernel
theorem dX9_seen_5 : decode cX9_seen 5 = .ok (.astore_n 3, 1) := by decide +kernel
theorem dX9_seen_6 : decode cX9_seen 6 = .ok (.aload_n 3, 1) := by decide +kernel
theorem dX9_seen_7 : decode cX9_seen 7 = .ok (.ifnull 21, 3) := by decide +kernel
theorem dX9_seen_10 : decode cX9_seen 10 = .ok (.aload_n 3, 1) := by decide +kernel
theorem dX9_seen_11 : decode cX9_seen 11 = .ok (.getfield 167, 3) := by decide +kernel
theorem dX9_seen_14 : decode cX9_seen 14 = .ok (.iconst (-1), 1) := by decide +kernel
theorem dX9_seen_15 : decode cX9_seen 15 = .ok (.if_icmp .eq 13, 3) := by decide +kernel
theorem dX9_seen_18 : decode cX9_seen 18 = .ok (.iload_n 2, 1) := by decide +kernel
theorem dX9_seen_19 : decode cX9_seen 19 = .ok (.iconst 1, 1) := by decide +kernel
theorem dX9_seen_20 : decode cX9_seen 20 = .ok (.bipush 100, 2) := by decide +kernel
theorem dX9_seen_22 : decode cX9_seen 22 = .ok (.invokestatic 69, 3) := by decide +kernel
theorem dX9_seen_25 : decode cX9_seen 25 = .ok (.ifCond .ne 5, 3) := by decide +kernel
theorem dX9_seen_28 : decode cX9_seen 28 = .ok (.iconst 0, 1) := by decide +kernel
theorem dX9_seen_29 : decode cX9_seen 29 = .ok (.ireturn, 1) := by decide +kernel
theorem dX9_seen_30 : decode cX9_seen 30 = .ok (.aload_n 3, 1) := by decide +kernel
theorem dX9_seen_31 : decode cX9_seen 31 = .ok (.iload_n 2, 1) := by decide +kernel
theorem dX9_seen_32 : decode cX9_seen 32 = .ok (.putfield 170, 3) := by decide +kernel
theorem dX9_seen_35 : decode cX9_seen 35 = .ok (.iconst 1, 1) := by decide +kernel
theorem dX9_seen_36 : decode cX9_seen 36 = .ok (.ireturn, 1) := by decide +kernel
theorem dX9_close_0 : decode cX9_close 0 = .ok (.aload_n 0, 1) := by decide +kernel
theorem dX9_close_1 : decode cX9_close 1 = .ok (.iload_n 1, 1) := by decide +kernel
theorem dX9_close_2 : decode cX9_close 2 = .ok (.invokevirtual 137, 3) := by decide +kernel
theorem dX9_close_5 : decode cX9_close 5 = .ok (.ifnonnull 5, 3) := by decide +kernel
theorem dX9_close_8 : decode cX9_close 8 = .ok (.iconst (-1), 1) := by decide +kernel
theorem dX9_close_9 : decode cX9_close 9 = .ok (.ireturn, 1) := by decide +kernel
theorem dX9_close_10 : decode cX9_close 10 = .ok (.iconst 0, 1) := by decide +kernel
theorem dX9_close_11 : decode cX9_close 11 = .ok (.istore_n 2, 1) := by decide +kernel
theorem dX9_close_12 : decode cX9_close 12 = .ok (.iconst 0, 1) := by decide +kernel
theorem dX9_close_13 : decode cX9_close 13 = .ok (.istore_n 3, 1) := by decide +kernel
theorem dX9_close_14 : decode cX9_close 14 = .ok (.iload_n 3, 1) := by decide +kernel
theorem dX9_close_15 : decode cX9_close 15 = .ok (.aload_n 0, 1) := by decide +kernel
theorem dX9_close_16 : decode cX9_close 16 = .ok (.getfield 81, 3) := by decide +kernel
theorem dX9_close_19 : decode cX9_close 19 = .ok (.if_icmp .ge 37, 3) := by decide +kernel
theorem dX9_close_22 : decode cX9_close 22 = .ok (.aload_n 0, 1) := by decide +kernel
theorem dX9_close_23 : decode cX9_close 23 = .ok (.getfield 11, 3) := by decide +kernel
theorem dX9_close_26 : decode cX9_close 26 = .ok (.iload_n 3, 1) := by decide +kernel
theorem dX9_close_27 : decode cX9_close 27 = .ok (.aaload, 1) := by decide +kernel
theorem dX9_close_28 : decode cX9_close 28 = .ok (.getfield 167, 3) := by decide +kernel
theorem dX9_close_31 : decode cX9_close 31 = .ok (.iload_n 1, 1) := by decide +kernel
theorem dX9_close_32 : decode cX9_close 32 = .ok (.if_icmp .ne 18, 3) := by decide +kernel
theorem dX9_close_35 : decode cX9_close 35 = .ok (.aload_n 0, 1) := by decide +kernel
theorem dX9_close_36 : decode cX9_close 36 = .ok (.getfield 11, 3) := by decide +kernel
theorem dX9_close_39 : decode cX9_close 39 = .ok (.iload_n 3, 1) := by decide +kernel
theorem dX9_close_40 : decode cX9_close 40 = .ok (.aaload, 1) := by decide +kernel
theorem dX9_close_41 : decode cX9_close 41 = .ok (.invokevirtual 212, 3) := by decide +kernel
theorem dX9_close_44 : decode cX9_close 44 = .ok (.ifCond .eq 6, 3) := by decide +kernel
theorem dX9_close_47 : decode cX9_close 47 = .ok (.iinc 2 1, 3) := by decide +kernel
theorem dX9_close_50 : decode cX9_close 50 = .ok (.iinc 3 1, 3) := by decide +kernel
theorem dX9_close_53 : decode cX9_close 53 = .ok (.goto (-39), 3) := by decide +kernel
theorem dX9_close_56 : decode cX9_close 56 = .ok (.iload_n 2, 1) := by decide +kernel
theorem dX9_close_57 : decode cX9_close 57 = .ok (.ireturn, 1) := by decide +kernel
theorem dX9_fits_0 : decode cX9_fits 0 = .ok (.aload_n 0, 1) := by decide +kernel
theorem dX9_fits_1 : decode cX9_fits 1 = .ok (.iload_n 1, 1) := by decide +kernel
theorem dX9_fits_2 : decode cX9_fits 2 = .ok (.invokevirtual 91, 3) := by decide +kernel
theorem dX9_fits_5 : decode cX9_fits 5 = .ok (.astore_n 2, 1) := by decide +kernel
theorem dX9_fits_6 : decode cX9_fits 6 = .ok (.aload_n 2, 1) := by decide +kernel
theorem dX9_fits_7 : decode cX9_fits 7 = .ok (.ifnonnull 5, 3) := by decide +kernel
theorem dX9_fits_10 : decode cX9_fits 10 = .ok (.iconst (-1), 1) := by decide +kernel
theorem dX9_fits_11 : decode cX9_fits 11 = .ok (.ireturn, 1) := by decide +kernel
theorem dX9_fits_12 : decode cX9_fits 12 = .ok (.aload_n 2, 1) := by decide +kernel
theorem dX9_fits_13 : decode cX9_fits 13 = .ok (.aload_n 2, 1) := by decide +kernel
theorem dX9_fits_14 : decode cX9_fits 14 = .ok (.invokevirtual 216, 3) := by decide +kernel
theorem dX9_fits_17 : decode cX9_fits 17 = .ok (.ifCond .eq 7, 3) := by decide +kernel
theorem dX9_fits_20 : decode cX9_fits 20 = .ok (.iconst 1, 1) := by decide +kernel
theorem dX9_fits_21 : decode cX9_fits 21 = .ok (.goto 4, 3) := by decide +kernel
theorem dX9_fits_24 : decode cX9_fits 24 = .ok (.iconst 0, 1) := by decide +kernel
theorem dX9_fits_25 : decode cX9_fits 25 = .ok (.ireturn, 1) := by decide +kernel
theorem dX9_changed_0 : decode cX9_changed 0 = .ok (.aload_n 0, 1) := by decide +kernel
theorem dX9_changed_1 : decode cX9_changed 1 = .ok (.iload_n 1, 1) := by decide +kernel
theorem dX9_changed_2 : decode cX9_changed 2 = .ok (.invokevirtual 91, 3) := by decide +kernel
theorem dX9_changed_5 : decode cX9_changed 5 = .ok (.astore_n 3, 1) := by decide +kernel
theorem dX9_changed_6 : decode cX9_changed 6 = .ok (.aload_n 0, 1) := by decide +kernel
theorem dX9_changed_7 : decode cX9_changed 7 = .ok (.iload_n 2, 1) := by decide +kernel
theorem dX9_changed_8 : decode cX9_changed 8 = .ok (.invokevirtual 91, 3) := by decide +kernel
theorem dX9_changed_11 : decode cX9_changed 11 = .ok (.astore 4, 2) := by decide +kernel
theorem dX9_changed_13 : decode cX9_changed 13 = .ok (.aload_n 3, 1) := by decide +kernel
theorem dX9_changed_14 : decode cX9_changed 14 = .ok (.ifnull 13, 3) := by decide +kernel
theorem dX9_changed_17 : decode cX9_changed 17 = .ok (.aload 4, 2) := by decide +kernel
theorem dX9_changed_19 : decode cX9_changed 19 = .ok (.ifnull 8, 3) := by decide +kernel
theorem dX9_changed_22 : decode cX9_changed 22 = .ok (.iload_n 1, 1) := by decide +kernel
theorem dX9_changed_23 : decode cX9_changed 23 = .ok (.iload_n 2, 1) := by decide +kernel
theorem dX9_changed_24 : decode cX9_changed 24 = .ok (.if_icmp .ne 5, 3) := by decide +kernel
theorem dX9_changed_27 : decode cX9_changed 27 = .ok (.iconst (-1), 1) := by decide +kernel
theorem dX9_changed_28 : decode cX9_changed 28 = .ok (.ireturn, 1) := by decide +kernel
theorem dX9_changed_29 : decode cX9_changed 29 = .ok (.aload_n 3, 1) := by decide +kernel
theorem dX9_changed_30 : decode cX9_changed 30 = .ok (.aload_n 3, 1) := by decide +kernel
theorem dX9_changed_31 : decode cX9_changed 31 = .ok (.invokevirtual 216, 3) := by decide +kernel
theorem dX9_changed_34 : decode cX9_changed 34 = .ok (.ifCond .ne 17, 3) := by decide +kernel
theorem dX9_changed_37 : decode cX9_changed 37 = .ok (.aload 4, 2) := by decide +kernel
theorem dX9_changed_39 : decode cX9_changed 39 = .ok (.aload 4, 2) := by decide +kernel
theorem dX9_changed_41 : decode cX9_changed 41 = .ok (.invokevirtual 216, 3) := by decide +kernel
theorem dX9_changed_44 : decode cX9_changed 44 = .ok (.ifCond .ne 7, 3) := by decide +kernel
theorem dX9_changed_47 : decode cX9_changed 47 = .ok (.iconst 1, 1) := by decide +kernel
theorem dX9_changed_48 : decode cX9_changed 48 = .ok (.goto 4, 3) := by decide +kernel
theorem dX9_changed_51 : decode cX9_changed 51 = .ok (.iconst 0, 1) := by decide +kernel
theorem dX9_changed_52 : decode cX9_changed 52 = .ok (.istore 5, 2) := by decide +kernel
theorem dX9_changed_54 : decode cX9_changed 54 = .ok (.iload 5, 2) := by decide +kernel
theorem dX9_changed_56 : decode cX9_changed 56 = .ok (.ifCond .eq 25, 3) := by decide +kernel
theorem dX9_changed_59 : decode cX9_changed 59 = .ok (.aload_n 3, 1) := by decide +kernel
theorem dX9_changed_60 : decode cX9_changed 60 = .ok (.aload 4, 2) := by decide +kernel
theorem dX9_changed_62 : decode cX9_changed 62 = .ok (.invokevirtual 216, 3) := by decide +kernel
theorem dX9_changed_65 : decode cX9_changed 65 = .ok (.ifCond .eq 16, 3) := by decide +kernel
theorem dX9_changed_68 : decode cX9_changed 68 = .ok (.aload 4, 2) := by decide +kernel
theorem dX9_changed_70 : decode cX9_changed 70 = .ok (.aload_n 3, 1) := by decide +kernel
theorem dX9_changed_71 : decode cX9_changed 71 = .ok (.invokevirtual 216, 3) := by decide +kernel
theorem dX9_changed_74 : decode cX9_changed 74 = .ok (.ifCond .eq 7, 3) := by decide +kernel
theorem dX9_changed_77 : decode cX9_changed 77 = .ok (.iconst 1, 1) := by decide +kernel
theorem dX9_changed_78 : decode cX9_changed 78 = .ok (.goto 4, 3) := by decide +kernel
theorem dX9_changed_81 : decode cX9_changed 81 = .ok (.iconst 0, 1) := by decide +kernel
theorem dX9_changed_82 : decode cX9_changed 82 = .ok (.ireturn, 1) := by decide +kernel
theorem dX9_look_0 : decode cX9_look 0 = .ok (.aload_n 0, 1) := by decide +kernel
theorem dX9_look_1 : decode cX9_look 1 = .ok (.iload_n 1, 1) := by decide +kernel
theorem dX9_look_2 : decode cX9_look 2 = .ok (.invokevirtual 91, 3) := by decide +kernel
theorem dX9_look_5 : decode cX9_look 5 = .ok (.astore_n 3, 1) := by decide +kernel
theorem dX9_look_6 : decode cX9_look 6 = .ok (.aload_n 3, 1) := by decide +kernel
theorem dX9_look_7 : decode cX9_look 7 = .ok (.ifnull 13, 3) := by decide +kernel
theorem dX9_look_10 : decode cX9_look 10 = .ok (.iload_n 2, 1) := by decide +kernel
theorem dX9_look_11 : decode cX9_look 11 = .ok (.iconst 0, 1) := by decide +kernel
theorem dX9_look_12 : decode cX9_look 12 = .ok (.bipush 17, 2) := by decide +kernel
theorem dX9_look_14 : decode cX9_look 14 = .ok (.invokestatic 69, 3) := by decide +kernel
theorem dX9_look_17 : decode cX9_look 17 = .ok (.ifCond .ne 13, 3) := by decide +kernel
theorem dX9_look_20 : decode cX9_look 20 = .ok (.new 122, 3) := by decide +kernel
theorem dX9_look_23 : decode cX9_look 23 = .ok (.dup, 1) := by decide +kernel
theorem dX9_look_24 : decode cX9_look 24 = .ok (.ldc 220, 2) := by decide +kernel
theorem dX9_look_26 : decode cX9_look 26 = .ok (.invokespecial 126, 3) := by decide +kernel
theorem dX9_look_29 : decode cX9_look 29 = .ok (.athrow, 1) := by decide +kernel
theorem dX9_look_30 : decode cX9_look 30 = .ok (.iload_n 2, 1) := by decide +kernel
theorem dX9_look_31 : decode cX9_look 31 = .ok (.bipush 10, 2) := by decide +kernel
theorem dX9_look_33 : decode cX9_look 33 = .ok (.if_icmp .lt 13, 3) := by decide +kernel
theorem dX9_look_36 : decode cX9_look 36 = .ok (.aload_n 3, 1) := by decide +kernel
theorem dX9_look_37 : decode cX9_look 37 = .ok (.getfield 222, 3) := by decide +kernel
theorem dX9_look_40 : decode cX9_look 40 = .ok (.iload_n 2, 1) := by decide +kernel
theorem dX9_look_41 : decode cX9_look 41 = .ok (.bipush 10, 2) := by decide +kernel
theorem dX9_look_43 : decode cX9_look 43 = .ok (.isub, 1) := by decide +kernel
theorem dX9_look_44 : decode cX9_look 44 = .ok (.iaload, 1) := by decide +kernel
theorem dX9_look_45 : decode cX9_look 45 = .ok (.ireturn, 1) := by decide +kernel
theorem dX9_look_46 : decode cX9_look 46 = .ok (.iload_n 2, 1) := by decide +kernel
theorem dX9_look_47 : decode cX9_look 47 = .ok (.iconst 4, 1) := by decide +kernel
theorem dX9_look_48 : decode cX9_look 48 = .ok (.if_icmp .gt 11, 3) := by decide +kernel
theorem dX9_look_51 : decode cX9_look 51 = .ok (.aload_n 3, 1) := by decide +kernel
theorem dX9_look_52 : decode cX9_look 52 = .ok (.iload_n 2, 1) := by decide +kernel
theorem dX9_look_53 : decode cX9_look 53 = .ok (.invokestatic 225, 3) := by decide +kernel
theorem dX9_look_56 : decode cX9_look 56 = .ok (.goto 8, 3) := by decide +kernel
theorem dX9_look_59 : decode cX9_look 59 = .ok (.aload_n 3, 1) := by decide +kernel
theorem dX9_look_60 : decode cX9_look 60 = .ok (.iload_n 2, 1) := by decide +kernel
theorem dX9_look_61 : decode cX9_look 61 = .ok (.invokestatic 229, 3) := by decide +kernel
theorem dX9_look_64 : decode cX9_look 64 = .ok (.ireturn, 1) := by decide +kernel
theorem dX9_count_0 : decode cX9_count 0 = .ok (.iload_n 1, 1) := by decide +kernel
theorem dX9_count_1 : decode cX9_count 1 = .ok (.tableswitch 120 0 9 #[55, 60, 65, 70, 78, 86, 94, 99, 107, 115], 55) := by decide +kernel
theorem dX9_count_56 : decode cX9_count 56 = .ok (.aload_n 0, 1) := by decide +kernel
theorem dX9_count_57 : decode cX9_count 57 = .ok (.getfield 81, 3) := by decide +kernel
theorem dX9_count_60 : decode cX9_count 60 = .ok (.ireturn, 1) := by decide +kernel
theorem dX9_count_61 : decode cX9_count 61 = .ok (.aload_n 0, 1) := by decide +kernel
theorem dX9_count_62 : decode cX9_count 62 = .ok (.getfield 73, 3) := by decide +kernel
theorem dX9_count_65 : decode cX9_count 65 = .ok (.ireturn, 1) := by decide +kernel
theorem dX9_count_66 : decode cX9_count 66 = .ok (.aload_n 0, 1) := by decide +kernel
theorem dX9_count_67 : decode cX9_count 67 = .ok (.getfield 133, 3) := by decide +kernel
theorem dX9_count_70 : decode cX9_count 70 = .ok (.ireturn, 1) := by decide +kernel
theorem dX9_count_71 : decode cX9_count 71 = .ok (.aload_n 0, 1) := by decide +kernel
theorem dX9_count_72 : decode cX9_count 72 = .ok (.getfield 24, 3) := by decide +kernel
theorem dX9_count_75 : decode cX9_count 75 = .ok (.getfield 232, 3) := by decide +kernel
theorem dX9_count_78 : decode cX9_count 78 = .ok (.ireturn, 1) := by decide +kernel
theorem dX9_count_79 : decode cX9_count 79 = .ok (.aload_n 0, 1) := by decide +kernel
theorem dX9_count_80 : decode cX9_count 80 = .ok (.getfield 24, 3) := by decide +kernel
theorem dX9_count_83 : decode cX9_count 83 = .ok (.getfield 235, 3) := by decide +kernel
theorem dX9_count_86 : decode cX9_count 86 = .ok (.ireturn, 1) := by decide +kernel
theorem dX9_count_87 : decode cX9_count 87 = .ok (.aload_n 0, 1) := by decide +kernel
theorem dX9_count_88 : decode cX9_count 88 = .ok (.getfield 54, 3) := by decide +kernel
theorem dX9_count_91 : decode cX9_count 91 = .ok (.getfield 238, 3) := by decide +kernel
theorem dX9_count_94 : decode cX9_count 94 = .ok (.ireturn, 1) := by decide +kernel
theorem dX9_count_95 : decode cX9_count 95 = .ok (.aload_n 0, 1) := by decide +kernel
theorem dX9_count_96 : decode cX9_count 96 = .ok (.invokevirtual 239, 3) := by decide +kernel
theorem dX9_count_99 : decode cX9_count 99 = .ok (.ireturn, 1) := by decide +kernel
theorem dX9_count_100 : decode cX9_count 100 = .ok (.aload_n 0, 1) := by decide +kernel
theorem dX9_count_101 : decode cX9_count 101 = .ok (.getfield 65, 3) := by decide +kernel
theorem dX9_count_104 : decode cX9_count 104 = .ok (.getfield 243, 3) := by decide +kernel
theorem dX9_count_107 : decode cX9_count 107 = .ok (.ireturn, 1) := by decide +kernel
theorem dX9_count_108 : decode cX9_count 108 = .ok (.aload_n 0, 1) := by decide +kernel
theorem dX9_count_109 : decode cX9_count 109 = .ok (.getfield 40, 3) := by decide +kernel
theorem dX9_count_112 : decode cX9_count 112 = .ok (.getfield 180, 3) := by decide +kernel
theorem dX9_count_115 : decode cX9_count 115 = .ok (.ireturn, 1) := by decide +kernel
theorem dX9_count_116 : decode cX9_count 116 = .ok (.aload_n 0, 1) := by decide +kernel
theorem dX9_count_117 : decode cX9_count 117 = .ok (.invokevirtual 246, 3) := by decide +kernel
theorem dX9_count_120 : decode cX9_count 120 = .ok (.ireturn, 1) := by decide +kernel
theorem dX9_count_121 : decode cX9_count 121 = .ok (.iconst (-1), 1) := by decide +kernel
theorem dX9_count_122 : decode cX9_count 122 = .ok (.ireturn, 1) := by decide +kernel
theorem dX9_lookAtOrigin_0 : decode cX9_lookAtOrigin 0 = .ok (.iload_n 1, 1) := by decide +kernel
theorem dX9_lookAtOrigin_1 : decode cX9_lookAtOrigin 1 = .ok (.tableswitch 57 0 3 #[31, 36, 44, 52], 31) := by decide +kernel
theorem dX9_lookAtOrigin_32 : decode cX9_lookAtOrigin 32 = .ok (.aload_n 0, 1) := by decide +kernel
theorem dX9_lookAtOrigin_33 : decode cX9_lookAtOrigin 33 = .ok (.getfield 249, 3) := by decide +kernel
theorem dX9_lookAtOrigin_36 : decode cX9_lookAtOrigin 36 = .ok (.ireturn, 1) := by decide +kernel
theorem dX9_lookAtOrigin_37 : decode cX9_lookAtOrigin 37 = .ok (.aload_n 0, 1) := by decide +kernel
theorem dX9_lookAtOrigin_38 : decode cX9_lookAtOrigin 38 = .ok (.getfield 252, 3) := by decide +kernel
theorem dX9_lookAtOrigin_41 : decode cX9_lookAtOrigin 41 = .ok (.invokestatic 256, 3) := by decide +kernel
theorem dX9_lookAtOrigin_44 : decode cX9_lookAtOrigin 44 = .ok (.ireturn, 1) := by decide +kernel
theorem dX9_lookAtOrigin_45 : decode cX9_lookAtOrigin 45 = .ok (.aload_n 0, 1) := by decide +kernel
theorem dX9_lookAtOrigin_46 : decode cX9_lookAtOrigin 46 = .ok (.getfield 259, 3) := by decide +kernel
theorem dX9_lookAtOrigin_49 : decode cX9_lookAtOrigin 49 = .ok (.invokestatic 256, 3) := by decide +kernel
theorem dX9_lookAtOrigin_52 : decode cX9_lookAtOrigin 52 = .ok (.ireturn, 1) := by decide +kernel
theorem dX9_lookAtOrigin_53 : decode cX9_lookAtOrigin 53 = .ok (.aload_n 0, 1) := by decide +kernel
theorem dX9_lookAtOrigin_54 : decode cX9_lookAtOrigin 54 = .ok (.getfield 98, 3) := by decide +kernel
theorem dX9_lookAtOrigin_57 : decode cX9_lookAtOrigin 57 = .ok (.ireturn, 1) := by decide +kernel
theorem dX9_lookAtOrigin_58 : decode cX9_lookAtOrigin 58 = .ok (.aload_n 0, 1) := by decide +kernel
theorem dX9_lookAtOrigin_59 : decode cX9_lookAtOrigin 59 = .ok (.getfield 191, 3) := by decide +kernel
theorem dX9_lookAtOrigin_62 : decode cX9_lookAtOrigin 62 = .ok (.ireturn, 1) := by decide +kernel
theorem dX9_lookAtState_0 : decode cX9_lookAtState 0 = .ok (.iload_n 1, 1) := by decide +kernel
theorem dX9_lookAtState_1 : decode cX9_lookAtState 1 = .ok (.tableswitch 59 5 8 #[31, 36, 49, 54], 31) := by decide +kernel
theorem dX9_lookAtState_32 : decode cX9_lookAtState 32 = .ok (.aload_n 0, 1) := by decide +kernel
theorem dX9_lookAtState_33 : decode cX9_lookAtState 33 = .ok (.getfield 262, 3) := by decide +kernel
theorem dX9_lookAtState_36 : decode cX9_lookAtState 36 = .ok (.ireturn, 1) := by decide +kernel
theorem dX9_lookAtState_37 : decode cX9_lookAtState 37 = .ok (.aload_n 0, 1) := by decide +kernel
theorem dX9_lookAtState_38 : decode cX9_lookAtState 38 = .ok (.getfield 194, 3) := by decide +kernel
theorem dX9_lookAtState_41 : decode cX9_lookAtState 41 = .ok (.ifCond .eq 7, 3) := by decide +kernel
theorem dX9_lookAtState_44 : decode cX9_lookAtState 44 = .ok (.iconst 1, 1) := by decide +kernel
theorem dX9_lookAtState_45 : decode cX9_lookAtState 45 = .ok (.goto 4, 3) := by decide +kernel
theorem dX9_lookAtState_48 : decode cX9_lookAtState 48 = .ok (.iconst 0, 1) := by decide +kernel
theorem dX9_lookAtState_49 : decode cX9_lookAtState 49 = .ok (.ireturn, 1) := by decide +kernel
theorem dX9_lookAtState_50 : decode cX9_lookAtState 50 = .ok (.aload_n 0, 1) := by decide +kernel
theorem dX9_lookAtState_51 : decode cX9_lookAtState 51 = .ok (.getfield 167, 3) := by decide +kernel
theorem dX9_lookAtState_54 : decode cX9_lookAtState 54 = .ok (.ireturn, 1) := by decide +kernel
theorem dX9_lookAtState_55 : decode cX9_lookAtState 55 = .ok (.aload_n 0, 1) := by decide +kernel
theorem dX9_lookAtState_56 : decode cX9_lookAtState 56 = .ok (.getfield 265, 3) := by decide +kernel
theorem dX9_lookAtState_59 : decode cX9_lookAtState 59 = .ok (.ireturn, 1) := by decide +kernel
theorem dX9_lookAtState_60 : decode cX9_lookAtState 60 = .ok (.aload_n 0, 1) := by decide +kernel
theorem dX9_lookAtState_61 : decode cX9_lookAtState 61 = .ok (.getfield 268, 3) := by decide +kernel
theorem dX9_lookAtState_64 : decode cX9_lookAtState 64 = .ok (.ifCond .eq 7, 3) := by decide +kernel
theorem dX9_lookAtState_67 : decode cX9_lookAtState 67 = .ok (.iconst 1, 1) := by decide +kernel
theorem dX9_lookAtState_68 : decode cX9_lookAtState 68 = .ok (.goto 4, 3) := by decide +kernel
theorem dX9_lookAtState_71 : decode cX9_lookAtState 71 = .ok (.iconst 0, 1) := by decide +kernel
theorem dX9_lookAtState_72 : decode cX9_lookAtState 72 = .ok (.ireturn, 1) := by decide +kernel
theorem dX9_numberOf_0 : decode cX9_numberOf 0 = .ok (.aload_n 0, 1) := by decide +kernel
theorem dX9_numberOf_1 : decode cX9_numberOf 1 = .ok (.ifnonnull 7, 3) := by decide +kernel
theorem dX9_numberOf_4 : decode cX9_numberOf 4 = .ok (.iconst (-1), 1) := by decide +kernel
theorem dX9_numberOf_5 : decode cX9_numberOf 5 = .ok (.goto 7, 3) := by decide +kernel
theorem dX9_numberOf_8 : decode cX9_numberOf 8 = .ok (.aload_n 0, 1) := by decide +kernel
theorem dX9_numberOf_9 : decode cX9_numberOf 9 = .ok (.getfield 271, 3) := by decide +kernel
theorem dX9_numberOf_12 : decode cX9_numberOf 12 = .ok (.ireturn, 1) := by decide +kernel
theorem dX9_countDead_0 : decode cX9_countDead 0 = .ok (.iconst 0, 1) := by decide +kernel
theorem dX9_countDead_1 : decode cX9_countDead 1 = .ok (.istore_n 1, 1) := by decide +kernel
theorem dX9_countDead_2 : decode cX9_countDead 2 = .ok (.iconst 0, 1) := by decide +kernel
theorem dX9_countDead_3 : decode cX9_countDead 3 = .ok (.istore_n 2, 1) := by decide +kernel
theorem dX9_countDead_4 : decode cX9_countDead 4 = .ok (.iload_n 2, 1) := by decide +kernel
theorem dX9_countDead_5 : decode cX9_countDead 5 = .ok (.aload_n 0, 1) := by decide +kernel
theorem dX9_countDead_6 : decode cX9_countDead 6 = .ok (.getfield 81, 3) := by decide +kernel
theorem dX9_countDead_9 : decode cX9_countDead 9 = .ok (.if_icmp .ge 24, 3) := by decide +kernel
theorem dX9_countDead_12 : decode cX9_countDead 12 = .ok (.aload_n 0, 1) := by decide +kernel
theorem dX9_countDead_13 : decode cX9_countDead 13 = .ok (.getfield 11, 3) := by decide +kernel
theorem dX9_countDead_16 : decode cX9_countDead 16 = .ok (.iload_n 2, 1) := by decide +kernel
theorem dX9_countDead_17 : decode cX9_countDead 17 = .ok (.aaload, 1) := by decide +kernel
theorem dX9_countDead_18 : decode cX9_countDead 18 = .ok (.getfield 268, 3) := by decide +kernel
theorem dX9_countDead_21 : decode cX9_countDead 21 = .ok (.ifCond .eq 6, 3) := by decide +kernel
theorem dX9_countDead_24 : decode cX9_countDead 24 = .ok (.iinc 1 1, 3) := by decide +kernel
theorem dX9_countDead_27 : decode cX9_countDead 27 = .ok (.iinc 2 1, 3) := by decide +kernel
theorem dX9_countDead_30 : decode cX9_countDead 30 = .ok (.goto (-26), 3) := by decide +kernel
theorem dX9_countDead_33 : decode cX9_countDead 33 = .ok (.iload_n 1, 1) := by decide +kernel
theorem dX9_countDead_34 : decode cX9_countDead 34 = .ok (.ireturn, 1) := by decide +kernel
theorem dX9_countLying_0 : decode cX9_countLying 0 = .ok (.iconst 0, 1) := by decide +kernel
theorem dX9_countLying_1 : decode cX9_countLying 1 = .ok (.istore_n 1, 1) := by decide +kernel
theorem dX9_countLying_2 : decode cX9_countLying 2 = .ok (.iconst 0, 1) := by decide +kernel
theorem dX9_countLying_3 : decode cX9_countLying 3 = .ok (.istore_n 2, 1) := by decide +kernel
theorem dX9_countLying_4 : decode cX9_countLying 4 = .ok (.iload_n 2, 1) := by decide +kernel
theorem dX9_countLying_5 : decode cX9_countLying 5 = .ok (.aload_n 0, 1) := by decide +kernel
theorem dX9_countLying_6 : decode cX9_countLying 6 = .ok (.getfield 81, 3) := by decide +kernel
theorem dX9_countLying_9 : decode cX9_countLying 9 = .ok (.if_icmp .ge 25, 3) := by decide +kernel
theorem dX9_countLying_12 : decode cX9_countLying 12 = .ok (.aload_n 0, 1) := by decide +kernel
theorem dX9_countLying_13 : decode cX9_countLying 13 = .ok (.getfield 11, 3) := by decide +kernel
theorem dX9_countLying_16 : decode cX9_countLying 16 = .ok (.iload_n 2, 1) := by decide +kernel
theorem dX9_countLying_17 : decode cX9_countLying 17 = .ok (.aaload, 1) := by decide +kernel
theorem dX9_countLying_18 : decode cX9_countLying 18 = .ok (.getfield 167, 3) := by decide +kernel
theorem dX9_countLying_21 : decode cX9_countLying 21 = .ok (.iconst (-1), 1) := by decide +kernel
theorem dX9_countLying_22 : decode cX9_countLying 22 = .ok (.if_icmp .eq 6, 3) := by decide +kernel
theorem dX9_countLying_25 : decode cX9_countLying 25 = .ok (.iinc 1 1, 3) := by decide +kernel
theorem dX9_countLying_28 : decode cX9_countLying 28 = .ok (.iinc 2 1, 3) := by decide +kernel
theorem dX9_countLying_31 : decode cX9_countLying 31 = .ok (.goto (-27), 3) := by decide +kernel
theorem dX9_countLying_34 : decode cX9_countLying 34 = .ok (.iload_n 1, 1) := by decide +kernel
theorem dX9_countLying_35 : decode cX9_countLying 35 = .ok (.ireturn, 1) := by decide +kernel
theorem dX9_within_0 : decode cX9_within 0 = .ok (.iload_n 0, 1) := by decide +kernel
theorem dX9_within_1 : decode cX9_within 1 = .ok (.iload_n 1, 1) := by decide +kernel
theorem dX9_within_2 : decode cX9_within 2 = .ok (.if_icmp .lt 12, 3) := by decide +kernel
theorem dX9_within_5 : decode cX9_within 5 = .ok (.iload_n 0, 1) := by decide +kernel
theorem dX9_within_6 : decode cX9_within 6 = .ok (.iload_n 2, 1) := by decide +kernel
theorem dX9_within_7 : decode cX9_within 7 = .ok (.if_icmp .gt 7, 3) := by decide +kernel
theorem dX9_within_10 : decode cX9_within 10 = .ok (.iconst 1, 1) := by decide +kernel
theorem dX9_within_11 : decode cX9_within 11 = .ok (.goto 4, 3) := by decide +kernel
theorem dX9_within_14 : decode cX9_within 14 = .ok (.iconst 0, 1) := by decide +kernel
theorem dX9_within_15 : decode cX9_within 15 = .ok (.ireturn, 1) := by decide +kernel
theorem dX9_isDigit_0 : decode cX9_isDigit 0 = .ok (.iload_n 0, 1) := by decide +kernel
theorem dX9_isDigit_1 : decode cX9_isDigit 1 = .ok (.iconst 0, 1) := by decide +kernel
theorem dX9_isDigit_2 : decode cX9_isDigit 2 = .ok (.bipush 9, 2) := by decide +kernel
theorem dX9_isDigit_4 : decode cX9_isDigit 4 = .ok (.invokestatic 69, 3) := by decide +kernel
theorem dX9_isDigit_7 : decode cX9_isDigit 7 = .ok (.ireturn, 1) := by decide +kernel
theorem dX9_isSpan_0 : decode cX9_isSpan 0 = .ok (.iload_n 0, 1) := by decide +kernel
theorem dX9_isSpan_1 : decode cX9_isSpan 1 = .ok (.invokestatic 101, 3) := by decide +kernel
theorem dX9_isSpan_4 : decode cX9_isSpan 4 = .ok (.ifCond .eq 19, 3) := by decide +kernel
theorem dX9_isSpan_7 : decode cX9_isSpan 7 = .ok (.iload_n 1, 1) := by decide +kernel
theorem dX9_isSpan_8 : decode cX9_isSpan 8 = .ok (.invokestatic 101, 3) := by decide +kernel
theorem dX9_isSpan_11 : decode cX9_isSpan 11 = .ok (.ifCond .eq 12, 3) := by decide +kernel
theorem dX9_isSpan_14 : decode cX9_isSpan 14 = .ok (.iload_n 0, 1) := by decide +kernel
theorem dX9_isSpan_15 : decode cX9_isSpan 15 = .ok (.iload_n 1, 1) := by decide +kernel
theorem dX9_isSpan_16 : decode cX9_isSpan 16 = .ok (.if_icmp .gt 7, 3) := by decide +kernel
theorem dX9_isSpan_19 : decode cX9_isSpan 19 = .ok (.iconst 1, 1) := by decide +kernel
theorem dX9_isSpan_20 : decode cX9_isSpan 20 = .ok (.goto 4, 3) := by decide +kernel
theorem dX9_isSpan_23 : decode cX9_isSpan 23 = .ok (.iconst 0, 1) := by decide +kernel
theorem dX9_isSpan_24 : decode cX9_isSpan 24 = .ok (.ireturn, 1) := by decide +kernel
theorem dX9_plantAt_0 : decode cX9_plantAt 0 = .ok (.iload_n 1, 1) := by decide +kernel
theorem dX9_plantAt_1 : decode cX9_plantAt 1 = .ok (.iconst 0, 1) := by decide +kernel
theorem dX9_plantAt_2 : decode cX9_plantAt 2 = .ok (.aload_n 0, 1) := by decide +kernel
theorem dX9_plantAt_3 : decode cX9_plantAt 3 = .ok (.getfield 81, 3) := by decide +kernel
theorem dX9_plantAt_6 : decode cX9_plantAt 6 = .ok (.iconst 1, 1) := by decide +kernel
theorem dX9_plantAt_7 : decode cX9_plantAt 7 = .ok (.isub, 1) := by decide +kernel
theorem dX9_plantAt_8 : decode cX9_plantAt 8 = .ok (.invokestatic 69, 3) := by decide +kernel
theorem dX9_plantAt_11 : decode cX9_plantAt 11 = .ok (.ifCond .eq 12, 3) := by decide +kernel
theorem dX9_plantAt_14 : decode cX9_plantAt 14 = .ok (.aload_n 0, 1) := by decide +kernel
theorem dX9_plantAt_15 : decode cX9_plantAt 15 = .ok (.getfield 11, 3) := by decide +kernel
theorem dX9_plantAt_18 : decode cX9_plantAt 18 = .ok (.iload_n 1, 1) := by decide +kernel
theorem dX9_plantAt_19 : decode cX9_plantAt 19 = .ok (.aaload, 1) := by decide +kernel
theorem dX9_plantAt_20 : decode cX9_plantAt 20 = .ok (.goto 4, 3) := by decide +kernel
theorem dX9_plantAt_23 : decode cX9_plantAt 23 = .ok (.aconst_null, 1) := by decide +kernel
theorem dX9_plantAt_24 : decode cX9_plantAt 24 = .ok (.areturn, 1) := by decide +kernel
theorem dX9_bedAt_0 : decode cX9_bedAt 0 = .ok (.iload_n 1, 1) := by decide +kernel
theorem dX9_bedAt_1 : decode cX9_bedAt 1 = .ok (.iconst 0, 1) := by decide +kernel
theorem dX9_bedAt_2 : decode cX9_bedAt 2 = .ok (.aload_n 0, 1) := by decide +kernel
theorem dX9_bedAt_3 : decode cX9_bedAt 3 = .ok (.getfield 133, 3) := by decide +kernel
theorem dX9_bedAt_6 : decode cX9_bedAt 6 = .ok (.iconst 1, 1) := by decide +kernel
theorem dX9_bedAt_7 : decode cX9_bedAt 7 = .ok (.isub, 1) := by decide +kernel
theorem dX9_bedAt_8 : decode cX9_bedAt 8 = .ok (.invokestatic 69, 3) := by decide +kernel
theorem dX9_bedAt_11 : decode cX9_bedAt 11 = .ok (.ifCond .eq 12, 3) := by decide +kernel
theorem dX9_bedAt_14 : decode cX9_bedAt 14 = .ok (.aload_n 0, 1) := by decide +kernel
theorem dX9_bedAt_15 : decode cX9_bedAt 15 = .ok (.getfield 17, 3) := by decide +kernel
theorem dX9_bedAt_18 : decode cX9_bedAt 18 = .ok (.iload_n 1, 1) := by decide +kernel
theorem dX9_bedAt_19 : decode cX9_bedAt 19 = .ok (.aaload, 1) := by decide +kernel
theorem dX9_bedAt_20 : decode cX9_bedAt 20 = .ok (.goto 4, 3) := by decide +kernel
theorem dX9_bedAt_23 : decode cX9_bedAt 23 = .ok (.aconst_null, 1) := by decide +kernel
theorem dX9_bedAt_24 : decode cX9_bedAt 24 = .ok (.areturn, 1) := by decide +kernel
theorem dX9_canEnter_0 : decode cX9_canEnter 0 = .ok (.iload_n 1, 1) := by decide +kernel
theorem dX9_canEnter_1 : decode cX9_canEnter 1 = .ok (.iconst 1, 1) := by decide +kernel
theorem dX9_canEnter_2 : decode cX9_canEnter 2 = .ok (.bipush 100, 2) := by decide +kernel
theorem dX9_canEnter_4 : decode cX9_canEnter 4 = .ok (.invokestatic 69, 3) := by decide +kernel
theorem dX9_canEnter_7 : decode cX9_canEnter 7 = .ok (.ifCond .eq 16, 3) := by decide +kernel
theorem dX9_canEnter_10 : decode cX9_canEnter 10 = .ok (.aload_n 0, 1) := by decide +kernel
theorem dX9_canEnter_11 : decode cX9_canEnter 11 = .ok (.getfield 81, 3) := by decide +kernel
theorem dX9_canEnter_14 : decode cX9_canEnter 14 = .ok (.bipush 40, 2) := by decide +kernel
theorem dX9_canEnter_16 : decode cX9_canEnter 16 = .ok (.if_icmp .ge 7, 3) := by decide +kernel
theorem dX9_canEnter_19 : decode cX9_canEnter 19 = .ok (.iconst 1, 1) := by decide +kernel
theorem dX9_canEnter_20 : decode cX9_canEnter 20 = .ok (.goto 4, 3) := by decide +kernel
theorem dX9_canEnter_23 : decode cX9_canEnter 23 = .ok (.iconst 0, 1) := by decide +kernel
theorem dX9_canEnter_24 : decode cX9_canEnter 24 = .ok (.ireturn, 1) := by decide +kernel
theorem dX9_enter_0 : decode cX9_enter 0 = .ok (.aload_n 0, 1) := by decide +kernel
theorem dX9_enter_1 : decode cX9_enter 1 = .ok (.getfield 11, 3) := by decide +kernel
theorem dX9_enter_4 : decode cX9_enter 4 = .ok (.aload_n 0, 1) := by decide +kernel
theorem dX9_enter_5 : decode cX9_enter 5 = .ok (.getfield 81, 3) := by decide +kernel
theorem dX9_enter_8 : decode cX9_enter 8 = .ok (.aload_n 1, 1) := by decide +kernel
theorem dX9_enter_9 : decode cX9_enter 9 = .ok (.aastore, 1) := by decide +kernel
theorem dX9_enter_10 : decode cX9_enter 10 = .ok (.aload_n 0, 1) := by decide +kernel
theorem dX9_enter_11 : decode cX9_enter 11 = .ok (.dup, 1) := by decide +kernel
theorem dX9_enter_12 : decode cX9_enter 12 = .ok (.getfield 81, 3) := by decide +kernel
theorem dX9_enter_15 : decode cX9_enter 15 = .ok (.iconst 1, 1) := by decide +kernel
theorem dX9_enter_16 : decode cX9_enter 16 = .ok (.iadd, 1) := by decide +kernel
theorem dX9_enter_17 : decode cX9_enter 17 = .ok (.putfield 81, 3) := by decide +kernel
theorem dX9_enter_20 : decode cX9_enter 20 = .ok (.aload_n 1, 1) := by decide +kernel
theorem dX9_enter_21 : decode cX9_enter 21 = .ok (.getfield 271, 3) := by decide +kernel
theorem dX9_enter_24 : decode cX9_enter 24 = .ok (.ireturn, 1) := by decide +kernel
theorem dX9_hasPlaceFor_0 : decode cX9_hasPlaceFor 0 = .ok (.aload_n 0, 1) := by decide +kernel
theorem dX9_hasPlaceFor_1 : decode cX9_hasPlaceFor 1 = .ok (.iload_n 2, 1) := by decide +kernel
theorem dX9_hasPlaceFor_2 : decode cX9_hasPlaceFor 2 = .ok (.invokevirtual 137, 3) := by decide +kernel
theorem dX9_hasPlaceFor_5 : decode cX9_hasPlaceFor 5 = .ok (.astore_n 3, 1) := by decide +kernel
theorem dX9_hasPlaceFor_6 : decode cX9_hasPlaceFor 6 = .ok (.aload_n 3, 1) := by decide +kernel
theorem dX9_hasPlaceFor_7 : decode cX9_hasPlaceFor 7 = .ok (.ifnull 11, 3) := by decide +kernel
theorem dX9_hasPlaceFor_10 : decode cX9_hasPlaceFor 10 = .ok (.aload_n 1, 1) := by decide +kernel
theorem dX9_hasPlaceFor_11 : decode cX9_hasPlaceFor 11 = .ok (.aload_n 3, 1) := by decide +kernel
theorem dX9_hasPlaceFor_12 : decode cX9_hasPlaceFor 12 = .ok (.invokevirtual 274, 3) := by decide +kernel
theorem dX9_hasPlaceFor_15 : decode cX9_hasPlaceFor 15 = .ok (.ifCond .ne 5, 3) := by decide +kernel
theorem dX9_hasPlaceFor_18 : decode cX9_hasPlaceFor 18 = .ok (.iconst 0, 1) := by decide +kernel
theorem dX9_hasPlaceFor_19 : decode cX9_hasPlaceFor 19 = .ok (.ireturn, 1) := by decide +kernel
theorem dX9_hasPlaceFor_20 : decode cX9_hasPlaceFor 20 = .ok (.iconst 0, 1) := by decide +kernel
theorem dX9_hasPlaceFor_21 : decode cX9_hasPlaceFor 21 = .ok (.istore 4, 2) := by decide +kernel
theorem dX9_hasPlaceFor_23 : decode cX9_hasPlaceFor 23 = .ok (.iconst 0, 1) := by decide +kernel
theorem dX9_hasPlaceFor_24 : decode cX9_hasPlaceFor 24 = .ok (.istore 5, 2) := by decide +kernel
theorem dX9_hasPlaceFor_26 : decode cX9_hasPlaceFor 26 = .ok (.iload 5, 2) := by decide +kernel
theorem dX9_hasPlaceFor_28 : decode cX9_hasPlaceFor 28 = .ok (.aload_n 0, 1) := by decide +kernel
theorem dX9_hasPlaceFor_29 : decode cX9_hasPlaceFor 29 = .ok (.getfield 81, 3) := by decide +kernel
theorem dX9_hasPlaceFor_32 : decode cX9_hasPlaceFor 32 = .ok (.if_icmp .ge 35, 3) := by decide +kernel
theorem dX9_hasPlaceFor_35 : decode cX9_hasPlaceFor 35 = .ok (.aload_n 0, 1) := by decide +kernel
theorem dX9_hasPlaceFor_36 : decode cX9_hasPlaceFor 36 = .ok (.getfield 11, 3) := by decide +kernel
theorem dX9_hasPlaceFor_39 : decode cX9_hasPlaceFor 39 = .ok (.iload 5, 2) := by decide +kernel
theorem dX9_hasPlaceFor_41 : decode cX9_hasPlaceFor 41 = .ok (.aaload, 1) := by decide +kernel
theorem dX9_hasPlaceFor_42 : decode cX9_hasPlaceFor 42 = .ok (.getfield 167, 3) := by decide +kernel
theorem dX9_hasPlaceFor_45 : decode cX9_hasPlaceFor 45 = .ok (.iload_n 2, 1) := by decide +kernel
theorem dX9_hasPlaceFor_46 : decode cX9_hasPlaceFor 46 = .ok (.if_icmp .ne 15, 3) := by decide +kernel
theorem dX9_hasPlaceFor_49 : decode cX9_hasPlaceFor 49 = .ok (.iload 5, 2) := by decide +kernel
theorem dX9_hasPlaceFor_51 : decode cX9_hasPlaceFor 51 = .ok (.aload_n 1, 1) := by decide +kernel
theorem dX9_hasPlaceFor_52 : decode cX9_hasPlaceFor 52 = .ok (.getfield 271, 3) := by decide +kernel
theorem dX9_hasPlaceFor_55 : decode cX9_hasPlaceFor 55 = .ok (.if_icmp .eq 6, 3) := by decide +kernel
theorem dX9_hasPlaceFor_58 : decode cX9_hasPlaceFor 58 = .ok (.iinc 4 1, 3) := by decide +kernel
theorem dX9_hasPlaceFor_61 : decode cX9_hasPlaceFor 61 = .ok (.iinc 5 1, 3) := by decide +kernel
theorem dX9_hasPlaceFor_64 : decode cX9_hasPlaceFor 64 = .ok (.goto (-38), 3) := by decide +kernel
theorem dX9_hasPlaceFor_67 : decode cX9_hasPlaceFor 67 = .ok (.iload 4, 2) := by decide +kernel
theorem dX9_hasPlaceFor_69 : decode cX9_hasPlaceFor 69 = .ok (.aload_n 3, 1) := by decide +kernel
theorem dX9_hasPlaceFor_70 : decode cX9_hasPlaceFor 70 = .ok (.getfield 278, 3) := by decide +kernel
theorem dX9_hasPlaceFor_73 : decode cX9_hasPlaceFor 73 = .ok (.if_icmp .ge 7, 3) := by decide +kernel
theorem dX9_hasPlaceFor_76 : decode cX9_hasPlaceFor 76 = .ok (.iconst 1, 1) := by decide +kernel
theorem dX9_hasPlaceFor_77 : decode cX9_hasPlaceFor 77 = .ok (.goto 4, 3) := by decide +kernel
theorem dX9_hasPlaceFor_80 : decode cX9_hasPlaceFor 80 = .ok (.iconst 0, 1) := by decide +kernel
theorem dX9_hasPlaceFor_81 : decode cX9_hasPlaceFor 81 = .ok (.ireturn, 1) := by decide +kernel
end
section
theorem dX10_thrown_0 : decode cX10_thrown 0 = .ok (.aload_n 0, 1) := by decide +kernel
theorem dX10_thrown_1 : decode cX10_thrown 1 = .ok (.getfield 1, 3) := by decide +kernel
theorem dX10_thrown_4 : decode cX10_thrown 4 = .ok (.ireturn, 1) := by decide +kernel
theorem dX10_feed_0 : decode cX10_feed 0 = .ok (.aload_n 0, 1) := by decide +kernel
theorem dX10_feed_1 : decode cX10_feed 1 = .ok (.iconst 0, 1) := by decide +kernel
theorem dX10_feed_2 : decode cX10_feed 2 = .ok (.putfield 1, 3) := by decide +kernel
theorem dX10_feed_5 : decode cX10_feed 5 = .ok (.aload_n 0, 1) := by decide +kernel
theorem dX10_feed_6 : decode cX10_feed 6 = .ok (.lload_n 1, 1) := by decide +kernel
theorem dX10_feed_7 : decode cX10_feed 7 = .ok (.invokevirtual 7, 3) := by decide +kernel
theorem dX10_feed_10 : decode cX10_feed 10 = .ok (.aload_n 0, 1) := by decide +kernel
theorem dX10_feed_11 : decode cX10_feed 11 = .ok (.lload_n 3, 1) := by decide +kernel
theorem dX10_feed_12 : decode cX10_feed 12 = .ok (.invokevirtual 7, 3) := by decide +kernel
theorem dX10_feed_15 : decode cX10_feed 15 = .ok (.aload_n 0, 1) := by decide +kernel
theorem dX10_feed_16 : decode cX10_feed 16 = .ok (.lload 5, 2) := by decide +kernel
theorem dX10_feed_18 : decode cX10_feed 18 = .ok (.invokevirtual 7, 3) := by decide +kernel
theorem dX10_feed_21 : decode cX10_feed 21 = .ok (.aload_n 0, 1) := by decide +kernel
theorem dX10_feed_22 : decode cX10_feed 22 = .ok (.getfield 11, 3) := by decide +kernel
theorem dX10_feed_25 : decode cX10_feed 25 = .ok (.ireturn, 1) := by decide +kernel
theorem dX10_lay_0 : decode cX10_lay 0 = .ok (.bipush 56, 2) := by decide +kernel
theorem dX10_lay_2 : decode cX10_lay 2 = .ok (.istore_n 3, 1) := by decide +kernel
theorem dX10_lay_3 : decode cX10_lay 3 = .ok (.iload_n 3, 1) := by decide +kernel
theorem dX10_lay_4 : decode cX10_lay 4 = .ok (.ifCond .lt 71, 3) := by decide +kernel
theorem dX10_lay_7 : decode cX10_lay 7 = .ok (.lload_n 1, 1) := by decide +kernel
theorem dX10_lay_8 : decode cX10_lay 8 = .ok (.iload_n 3, 1) := by decide +kernel
theorem dX10_lay_9 : decode cX10_lay 9 = .ok (.lshr, 1) := by decide +kernel
theorem dX10_lay_10 : decode cX10_lay 10 = .ok (.l2i, 1) := by decide +kernel
theorem dX10_lay_11 : decode cX10_lay 11 = .ok (.sipush 255, 3) := by decide +kernel
theorem dX10_lay_14 : decode cX10_lay 14 = .ok (.iand, 1) := by decide +kernel
theorem dX10_lay_15 : decode cX10_lay 15 = .ok (.istore 4, 2) := by decide +kernel
theorem dX10_lay_17 : decode cX10_lay 17 = .ok (.iload 4, 2) := by decide +kernel
theorem dX10_lay_19 : decode cX10_lay 19 = .ok (.bipush 10, 2) := by decide +kernel
theorem dX10_lay_21 : decode cX10_lay 21 = .ok (.if_icmp .eq 17, 3) := by decide +kernel
theorem dX10_lay_24 : decode cX10_lay 24 = .ok (.iload 4, 2) := by decide +kernel
theorem dX10_lay_26 : decode cX10_lay 26 = .ok (.bipush 32, 2) := by decide +kernel
theorem dX10_lay_28 : decode cX10_lay 28 = .ok (.if_icmp .lt 41, 3) := by decide +kernel
theorem dX10_lay_31 : decode cX10_lay 31 = .ok (.iload 4, 2) := by decide +kernel
theorem dX10_lay_33 : decode cX10_lay 33 = .ok (.bipush 126, 2) := by decide +kernel
theorem dX10_lay_35 : decode cX10_lay 35 = .ok (.if_icmp .gt 34, 3) := by decide +kernel
theorem dX10_lay_38 : decode cX10_lay 38 = .ok (.aload_n 0, 1) := by decide +kernel
theorem dX10_lay_39 : decode cX10_lay 39 = .ok (.getfield 11, 3) := by decide +kernel
theorem dX10_lay_42 : decode cX10_lay 42 = .ok (.sipush 600, 3) := by decide +kernel
theorem dX10_lay_45 : decode cX10_lay 45 = .ok (.if_icmp .ge 24, 3) := by decide +kernel
theorem dX10_lay_48 : decode cX10_lay 48 = .ok (.aload_n 0, 1) := by decide +kernel
theorem dX10_lay_49 : decode cX10_lay 49 = .ok (.getfield 14, 3) := by decide +kernel
theorem dX10_lay_52 : decode cX10_lay 52 = .ok (.aload_n 0, 1) := by decide +kernel
theorem dX10_lay_53 : decode cX10_lay 53 = .ok (.getfield 11, 3) := by decide +kernel
theorem dX10_lay_56 : decode cX10_lay 56 = .ok (.iload 4, 2) := by decide +kernel
theorem dX10_lay_58 : decode cX10_lay 58 = .ok (.iastore, 1) := by decide +kernel
theorem dX10_lay_59 : decode cX10_lay 59 = .ok (.aload_n 0, 1) := by decide +kernel
theorem dX10_lay_60 : decode cX10_lay 60 = .ok (.dup, 1) := by decide +kernel
theorem dX10_lay_61 : decode cX10_lay 61 = .ok (.getfield 11, 3) := by decide +kernel
theorem dX10_lay_64 : decode cX10_lay 64 = .ok (.iconst 1, 1) := by decide +kernel
theorem dX10_lay_65 : decode cX10_lay 65 = .ok (.iadd, 1) := by decide +kernel
theorem dX10_lay_66 : decode cX10_lay 66 = .ok (.putfield 11, 3) := by decide +kernel
theorem dX10_lay_69 : decode cX10_lay 69 = .ok (.iinc 3 (-8), 3) := by decide +kernel
theorem dX10_lay_72 : decode cX10_lay 72 = .ok (.goto (-69), 3) := by decide +kernel
theorem dX10_lay_75 : decode cX10_lay 75 = .ok (.return_, 1) := by decide +kernel
theorem dX10_init_0 : decode cX10_init 0 = .ok (.aload_n 0, 1) := by decide +kernel
theorem dX10_init_1 : decode cX10_init 1 = .ok (.invokespecial 18, 3) := by decide +kernel
theorem dX10_init_4 : decode cX10_init 4 = .ok (.aload_n 0, 1) := by decide +kernel
theorem dX10_init_5 : decode cX10_init 5 = .ok (.sipush 600, 3) := by decide +kernel
theorem dX10_init_8 : decode cX10_init 8 = .ok (.newarray .int, 2) := by decide +kernel
theorem dX10_init_10 : decode cX10_init 10 = .ok (.putfield 14, 3) := by decide +kernel
theorem dX10_init_13 : decode cX10_init 13 = .ok (.aload_n 0, 1) := by decide +kernel
theorem dX10_init_14 : decode cX10_init 14 = .ok (.sipush 602, 3) := by decide +kernel
theorem dX10_init_17 : decode cX10_init 17 = .ok (.newarray .int, 2) := by decide +kernel
theorem dX10_init_19 : decode cX10_init 19 = .ok (.putfield 24, 3) := by decide +kernel
theorem dX10_init_22 : decode cX10_init 22 = .ok (.aload_n 0, 1) := by decide +kernel
theorem dX10_init_23 : decode cX10_init 23 = .ok (.sipush 602, 3) := by decide +kernel
theorem dX10_init_26 : decode cX10_init 26 = .ok (.newarray .int, 2) := by decide +kernel
theorem dX10_init_28 : decode cX10_init 28 = .ok (.putfield 27, 3) := by decide +kernel
theorem dX10_init_31 : decode cX10_init 31 = .ok (.aload_n 0, 1) := by decide +kernel
theorem dX10_init_32 : decode cX10_init 32 = .ok (.sipush 602, 3) := by decide +kernel
theorem dX10_init_35 : decode cX10_init 35 = .ok (.newarray .long, 2) := by decide +kernel
theorem dX10_init_37 : decode cX10_init 37 = .ok (.putfield 30, 3) := by decide +kernel
theorem dX10_init_40 : decode cX10_init 40 = .ok (.aload_n 0, 1) := by decide +kernel
theorem dX10_init_41 : decode cX10_init 41 = .ok (.bipush 11, 2) := by decide +kernel
theorem dX10_init_43 : decode cX10_init 43 = .ok (.newarray .long, 2) := by decide +kernel
theorem dX10_init_45 : decode cX10_init 45 = .ok (.dup, 1) := by decide +kernel
theorem dX10_init_46 : decode cX10_init 46 = .ok (.iconst 0, 1) := by decide +kernel
theorem dX10_init_47 : decode cX10_init 47 = .ok (.ldc2_w 34, 3) := by decide +kernel
theorem dX10_init_50 : decode cX10_init 50 = .ok (.lastore, 1) := by decide +kernel
theorem dX10_init_51 : decode cX10_init 51 = .ok (.dup, 1) := by decide +kernel
theorem dX10_init_52 : decode cX10_init 52 = .ok (.iconst 1, 1) := by decide +kernel
theorem dX10_init_53 : decode cX10_init 53 = .ok (.ldc2_w 36, 3) := by decide +kernel
theorem dX10_init_56 : decode cX10_init 56 = .ok (.lastore, 1) := by decide +kernel
theorem dX10_init_57 : decode cX10_init 57 = .ok (.dup, 1) := by decide +kernel
theorem dX10_init_58 : decode cX10_init 58 = .ok (.iconst 2, 1) := by decide +kernel
theorem dX10_init_59 : decode cX10_init 59 = .ok (.ldc2_w 38, 3) := by decide +kernel
theorem dX10_init_62 : decode cX10_init 62 = .ok (.lastore, 1) := by decide +kernel
theorem dX10_init_63 : decode cX10_init 63 = .ok (.dup, 1) := by decide +kernel
theorem dX10_init_64 : decode cX10_init 64 = .ok (.iconst 3, 1) := by decide +kernel
theorem dX10_init_65 : decode cX10_init 65 = .ok (.ldc2_w 40, 3) := by decide +kernel
theorem dX10_init_68 : decode cX10_init 68 = .ok (.lastore, 1) := by decide +kernel
theorem dX10_init_69 : decode cX10_init 69 = .ok (.dup, 1) := by decide +kernel
theorem dX10_init_70 : decode cX10_init 70 = .ok (.iconst 4, 1) := by decide +kernel
theorem dX10_init_71 : decode cX10_init 71 = .ok (.ldc2_w 42, 3) := by decide +kernel
theorem dX10_init_74 : decode cX10_init 74 = .ok (.lastore, 1) := by decide +kernel
theorem dX10_init_75 : decode cX10_init 75 = .ok (.dup, 1) := by decide +kernel
theorem dX10_init_76 : decode cX10_init 76 = .ok (.iconst 5, 1) := by decide +kernel
theorem dX10_init_77 : decode cX10_init 77 = .ok (.ldc2_w 44, 3) := by decide +kernel
theorem dX10_init_80 : decode cX10_init 80 = .ok (.lastore, 1) := by decide +kernel
theorem dX10_init_81 : decode cX10_init 81 = .ok (.dup, 1) := by decide +kernel
theorem dX10_init_82 : decode cX10_init 82 = .ok (.bipush 6, 2) := by decide +kernel
theorem dX10_init_84 : decode cX10_init 84 = .ok (.ldc2_w 46, 3) := by decide +kernel
theorem dX10_init_87 : decode cX10_init 87 = .ok (.lastore, 1) := by decide +kernel
theorem dX10_init_88 : decode cX10_init 88 = .ok (.dup, 1) := by decide +kernel
theorem dX10_init_89 : decode cX10_init 89 = .ok (.bipush 7, 2) := by decide +kernel
theorem dX10_init_91 : decode cX10_init 91 = .ok (.ldc2_w 48, 3) := by decide +kernel
theorem dX10_init_94 : decode cX10_init 94 = .ok (.lastore, 1) := by decide +kernel
theorem dX10_init_95 : decode cX10_init 95 = .ok (.dup, 1) := by decide +kernel
theorem dX10_init_96 : decode cX10_init 96 = .ok (.bipush 8, 2) := by decide +kernel
theorem dX10_init_98 : decode cX10_init 98 = .ok (.ldc2_w 50, 3) := by decide +kernel
theorem dX10_init_101 : decode cX10_init 101 = .ok (.lastore, 1) := by decide +kernel
theorem dX10_init_102 : decode cX10_init 102 = .ok (.dup, 1) := by decide +kernel
theorem dX10_init_103 : decode cX10_init 103 = .ok (.bipush 9, 2) := by decide +kernel
theorem dX10_init_105 : decode cX10_init 105 = .ok (.ldc2_w 52, 3) := by decide +kernel
theorem dX10_init_108 : decode cX10_init 108 = .ok (.lastore, 1) := by decide +kernel
theorem dX10_init_109 : decode cX10_init 109 = .ok (.dup, 1) := by decide +kernel
theorem dX10_init_110 : decode cX10_init 110 = .ok (.bipush 10, 2) := by decide +kernel
theorem dX10_init_112 : decode cX10_init 112 = .ok (.ldc2_w 54, 3) := by decide +kernel
theorem dX10_init_115 : decode cX10_init 115 = .ok (.lastore, 1) := by decide +kernel
theorem dX10_init_116 : decode cX10_init 116 = .ok (.putfield 56, 3) := by decide +kernel
theorem dX10_init_119 : decode cX10_init 119 = .ok (.aload_n 0, 1) := by decide +kernel
theorem dX10_init_120 : decode cX10_init 120 = .ok (.iconst 2, 1) := by decide +kernel
theorem dX10_init_121 : decode cX10_init 121 = .ok (.newarray .int, 2) := by decide +kernel
theorem dX10_init_123 : decode cX10_init 123 = .ok (.putfield 59, 3) := by decide +kernel
theorem dX10_init_126 : decode cX10_init 126 = .ok (.aload_n 0, 1) := by decide +kernel
theorem dX10_init_127 : decode cX10_init 127 = .ok (.bipush 32, 2) := by decide +kernel
theorem dX10_init_129 : decode cX10_init 129 = .ok (.newarray .boolean, 2) := by decide +kernel
theorem dX10_init_131 : decode cX10_init 131 = .ok (.putfield 62, 3) := by decide +kernel
theorem dX10_init_134 : decode cX10_init 134 = .ok (.aload_n 0, 1) := by decide +kernel
theorem dX10_init_135 : decode cX10_init 135 = .ok (.bipush 32, 2) := by decide +kernel
theorem dX10_init_137 : decode cX10_init 137 = .ok (.newarray .int, 2) := by decide +kernel
theorem dX10_init_139 : decode cX10_init 139 = .ok (.putfield 66, 3) := by decide +kernel
theorem dX10_init_142 : decode cX10_init 142 = .ok (.aload_n 0, 1) := by decide +kernel
theorem dX10_init_143 : decode cX10_init 143 = .ok (.sipush 1320, 3) := by decide +kernel
theorem dX10_init_146 : decode cX10_init 146 = .ok (.newarray .int, 2) := by decide +kernel
theorem dX10_init_148 : decode cX10_init 148 = .ok (.putfield 69, 3) := by decide +kernel
theorem dX10_init_151 : decode cX10_init 151 = .ok (.aload_n 0, 1) := by decide +kernel
theorem dX10_init_152 : decode cX10_init 152 = .ok (.sipush 1320, 3) := by decide +kernel
theorem dX10_init_155 : decode cX10_init 155 = .ok (.newarray .int, 2) := by decide +kernel
theorem dX10_init_157 : decode cX10_init 157 = .ok (.putfield 72, 3) := by decide +kernel
theorem dX10_init_160 : decode cX10_init 160 = .ok (.aload_n 0, 1) := by decide +kernel
theorem dX10_init_161 : decode cX10_init 161 = .ok (.bipush 7, 2) := by decide +kernel
theorem dX10_init_163 : decode cX10_init 163 = .ok (.newarray .int, 2) := by decide +kernel
theorem dX10_init_165 : decode cX10_init 165 = .ok (.putfield 75, 3) := by decide +kernel
theorem dX10_init_168 : decode cX10_init 168 = .ok (.aload_n 0, 1) := by decide +kernel
theorem dX10_init_169 : decode cX10_init 169 = .ok (.bipush 7, 2) := by decide +kernel
theorem dX10_init_171 : decode cX10_init 171 = .ok (.newarray .int, 2) := by decide +kernel
theorem dX10_init_173 : decode cX10_init 173 = .ok (.putfield 78, 3) := by decide +kernel
theorem dX10_init_176 : decode cX10_init 176 = .ok (.aload_n 0, 1) := by decide +kernel
theorem dX10_init_177 : decode cX10_init 177 = .ok (.bipush 7, 2) := by decide +kernel
theorem dX10_init_179 : decode cX10_init 179 = .ok (.newarray .int, 2) := by decide +kernel
theorem dX10_init_181 : decode cX10_init 181 = .ok (.putfield 81, 3) := by decide +kernel
theorem dX10_init_184 : decode cX10_init 184 = .ok (.aload_n 0, 1) := by decide +kernel
theorem dX10_init_185 : decode cX10_init 185 = .ok (.bipush 7, 2) := by decide +kernel
theorem dX10_init_187 : decode cX10_init 187 = .ok (.newarray .int, 2) := by decide +kernel
theorem dX10_init_189 : decode cX10_init 189 = .ok (.putfield 84, 3) := by decide +kernel
theorem dX10_init_192 : decode cX10_init 192 = .ok (.aload_n 0, 1) := by decide +kernel
theorem dX10_init_193 : decode cX10_init 193 = .ok (.sipush 660, 3) := by decide +kernel
theorem dX10_init_196 : decode cX10_init 196 = .ok (.newarray .int, 2) := by decide +kernel
theorem dX10_init_198 : decode cX10_init 198 = .ok (.putfield 87, 3) := by decide +kernel
theorem dX10_init_201 : decode cX10_init 201 = .ok (.aload_n 0, 1) := by decide +kernel
theorem dX10_init_202 : decode cX10_init 202 = .ok (.bipush 40, 2) := by decide +kernel
theorem dX10_init_204 : decode cX10_init 204 = .ok (.newarray .int, 2) := by decide +kernel
theorem dX10_init_206 : decode cX10_init 206 = .ok (.putfield 90, 3) := by decide +kernel
theorem dX10_init_209 : decode cX10_init 209 = .ok (.aload_n 0, 1) := by decide +kernel
theorem dX10_init_210 : decode cX10_init 210 = .ok (.bipush 40, 2) := by decide +kernel
theorem dX10_init_212 : decode cX10_init 212 = .ok (.newarray .int, 2) := by decide +kernel
theorem dX10_init_214 : decode cX10_init 214 = .ok (.putfield 93, 3) := by decide +kernel
theorem dX10_init_217 : decode cX10_init 217 = .ok (.aload_n 0, 1) := by decide +kernel
theorem dX10_init_218 : decode cX10_init 218 = .ok (.bipush 40, 2) := by decide +kernel
theorem dX10_init_220 : decode cX10_init 220 = .ok (.newarray .int, 2) := by decide +kernel
theorem dX10_init_222 : decode cX10_init 222 = .ok (.putfield 96, 3) := by decide +kernel
theorem dX10_init_225 : decode cX10_init 225 = .ok (.aload_n 0, 1) := by decide +kernel
theorem dX10_init_226 : decode cX10_init 226 = .ok (.bipush 40, 2) := by decide +kernel
theorem dX10_init_228 : decode cX10_init 228 = .ok (.newarray .int, 2) := by decide +kernel
theorem dX10_init_230 : decode cX10_init 230 = .ok (.putfield 99, 3) := by decide +kernel
theorem dX10_init_233 : decode cX10_init 233 = .ok (.aload_n 0, 1) := by decide +kernel
theorem dX10_init_234 : decode cX10_init 234 = .ok (.sipush 320, 3) := by decide +kernel
theorem dX10_init_237 : decode cX10_init 237 = .ok (.newarray .int, 2) := by decide +kernel
theorem dX10_init_239 : decode cX10_init 239 = .ok (.putfield 102, 3) := by decide +kernel
theorem dX10_init_242 : decode cX10_init 242 = .ok (.aload_n 0, 1) := by decide +kernel
theorem dX10_init_243 : decode cX10_init 243 = .ok (.sipush 160, 3) := by decide +kernel
theorem dX10_init_246 : decode cX10_init 246 = .ok (.newarray .int, 2) := by decide +kernel
theorem dX10_init_248 : decode cX10_init 248 = .ok (.putfield 105, 3) := by decide +kernel
theorem dX10_init_251 : decode cX10_init 251 = .ok (.aload_n 0, 1) := by decide +kernel
theorem dX10_init_252 : decode cX10_init 252 = .ok (.bipush 40, 2) := by decide +kernel
theorem dX10_init_254 : decode cX10_init 254 = .ok (.newarray .int, 2) := by decide +kernel
theorem dX10_init_256 : decode cX10_init 256 = .ok (.putfield 108, 3) := by decide +kernel
theorem dX10_init_259 : decode cX10_init 259 = .ok (.aload_n 0, 1) := by decide +kernel
theorem dX10_init_260 : decode cX10_init 260 = .ok (.bipush 40, 2) := by decide +kernel
theorem dX10_init_262 : decode cX10_init 262 = .ok (.newarray .int, 2) := by decide +kernel
theorem dX10_init_264 : decode cX10_init 264 = .ok (.putfield 111, 3) := by decide +kernel
theorem dX10_init_267 : decode cX10_init 267 = .ok (.aload_n 0, 1) := by decide +kernel
theorem dX10_init_268 : decode cX10_init 268 = .ok (.bipush 40, 2) := by decide +kernel
theorem dX10_init_270 : decode cX10_init 270 = .ok (.newarray .int, 2) := by decide +kernel
theorem dX10_init_272 : decode cX10_init 272 = .ok (.putfield 114, 3) := by decide +kernel
theorem dX10_init_275 : decode cX10_init 275 = .ok (.aload_n 0, 1) := by decide +kernel
theorem dX10_init_276 : decode cX10_init 276 = .ok (.bipush 40, 2) := by decide +kernel
theorem dX10_init_278 : decode cX10_init 278 = .ok (.newarray .boolean, 2) := by decide +kernel
theorem dX10_init_280 : decode cX10_init 280 = .ok (.putfield 117, 3) := by decide +kernel
theorem dX10_init_283 : decode cX10_init 283 = .ok (.aload_n 0, 1) := by decide +kernel
theorem dX10_init_284 : decode cX10_init 284 = .ok (.bipush 40, 2) := by decide +kernel
theorem dX10_init_286 : decode cX10_init 286 = .ok (.newarray .int, 2) := by decide +kernel
theorem dX10_init_288 : decode cX10_init 288 = .ok (.putfield 120, 3) := by decide +kernel
theorem dX10_init_291 : decode cX10_init 291 = .ok (.aload_n 0, 1) := by decide +kernel
theorem dX10_init_292 : decode cX10_init 292 = .ok (.sipush 300, 3) := by decide +kernel
theorem dX10_init_295 : decode cX10_init 295 = .ok (.newarray .int, 2) := by decide +kernel
theorem dX10_init_297 : decode cX10_init 297 = .ok (.putfield 123, 3) := by decide +kernel
theorem dX10_init_300 : decode cX10_init 300 = .ok (.aload_n 0, 1) := by decide +kernel
theorem dX10_init_301 : decode cX10_init 301 = .ok (.sipush 300, 3) := by decide +kernel
theorem dX10_init_304 : decode cX10_init 304 = .ok (.newarray .int, 2) := by decide +kernel
theorem dX10_init_306 : decode cX10_init 306 = .ok (.putfield 126, 3) := by decide +kernel
theorem dX10_init_309 : decode cX10_init 309 = .ok (.aload_n 0, 1) := by decide +kernel
theorem dX10_init_310 : decode cX10_init 310 = .ok (.sipush 300, 3) := by decide +kernel
theorem dX10_init_313 : decode cX10_init 313 = .ok (.newarray .int, 2) := by decide +kernel
theorem dX10_init_315 : decode cX10_init 315 = .ok (.putfield 129, 3) := by decide +kernel
theorem dX10_init_318 : decode cX10_init 318 = .ok (.aload_n 0, 1) := by decide +kernel
theorem dX10_init_319 : decode cX10_init 319 = .ok (.bipush 100, 2) := by decide +kernel
theorem dX10_init_321 : decode cX10_init 321 = .ok (.newarray .int, 2) := by decide +kernel
theorem dX10_init_323 : decode cX10_init 323 = .ok (.putfield 132, 3) := by decide +kernel
theorem dX10_init_326 : decode cX10_init 326 = .ok (.aload_n 0, 1) := by decide +kernel
theorem dX10_init_327 : decode cX10_init 327 = .ok (.bipush 100, 2) := by decide +kernel
theorem dX10_init_329 : decode cX10_init 329 = .ok (.newarray .int, 2) := by decide +kernel
theorem dX10_init_331 : decode cX10_init 331 = .ok (.putfield 135, 3) := by decide +kernel
theorem dX10_init_334 : decode cX10_init 334 = .ok (.aload_n 0, 1) := by decide +kernel
theorem dX10_init_335 : decode cX10_init 335 = .ok (.bipush 100, 2) := by decide +kernel
theorem dX10_init_337 : decode cX10_init 337 = .ok (.newarray .int, 2) := by decide +kernel
theorem dX10_init_339 : decode cX10_init 339 = .ok (.putfield 138, 3) := by decide +kernel
theorem dX10_init_342 : decode cX10_init 342 = .ok (.aload_n 0, 1) := by decide +kernel
theorem dX10_init_343 : decode cX10_init 343 = .ok (.bipush 8, 2) := by decide +kernel
theorem dX10_init_345 : decode cX10_init 345 = .ok (.newarray .int, 2) := by decide +kernel
theorem dX10_init_347 : decode cX10_init 347 = .ok (.putfield 141, 3) := by decide +kernel
theorem dX10_init_350 : decode cX10_init 350 = .ok (.aload_n 0, 1) := by decide +kernel
theorem dX10_init_351 : decode cX10_init 351 = .ok (.bipush 8, 2) := by decide +kernel
theorem dX10_init_353 : decode cX10_init 353 = .ok (.newarray .int, 2) := by decide +kernel
theorem dX10_init_355 : decode cX10_init 355 = .ok (.putfield 144, 3) := by decide +kernel
theorem dX10_init_358 : decode cX10_init 358 = .ok (.aload_n 0, 1) := by decide +kernel
theorem dX10_init_359 : decode cX10_init 359 = .ok (.bipush 8, 2) := by decide +kernel
theorem dX10_init_361 : decode cX10_init 361 = .ok (.newarray .int, 2) := by decide +kernel
theorem dX10_init_363 : decode cX10_init 363 = .ok (.putfield 147, 3) := by decide +kernel
theorem dX10_init_366 : decode cX10_init 366 = .ok (.aload_n 0, 1) := by decide +kernel
theorem dX10_init_367 : decode cX10_init 367 = .ok (.bipush 40, 2) := by decide +kernel
theorem dX10_init_369 : decode cX10_init 369 = .ok (.newarray .int, 2) := by decide +kernel
theorem dX10_init_371 : decode cX10_init 371 = .ok (.putfield 150, 3) := by decide +kernel
theorem dX10_init_374 : decode cX10_init 374 = .ok (.aload_n 0, 1) := by decide +kernel
theorem dX10_init_375 : decode cX10_init 375 = .ok (.bipush 8, 2) := by decide +kernel
theorem dX10_init_377 : decode cX10_init 377 = .ok (.newarray .int, 2) := by decide +kernel
theorem dX10_init_379 : decode cX10_init 379 = .ok (.putfield 153, 3) := by decide +kernel
theorem dX10_init_382 : decode cX10_init 382 = .ok (.aload_n 0, 1) := by decide +kernel
theorem dX10_init_383 : decode cX10_init 383 = .ok (.bipush 8, 2) := by decide +kernel
theorem dX10_init_385 : decode cX10_init 385 = .ok (.newarray .int, 2) := by decide +kernel
theorem dX10_init_387 : decode cX10_init 387 = .ok (.putfield 156, 3) := by decide +kernel
theorem dX10_init_390 : decode cX10_init 390 = .ok (.aload_n 0, 1) := by decide +kernel
theorem dX10_init_391 : decode cX10_init 391 = .ok (.bipush 8, 2) := by decide +kernel
theorem dX10_init_393 : decode cX10_init 393 = .ok (.newarray .int, 2) := by decide +kernel
theorem dX10_init_395 : decode cX10_init 395 = .ok (.putfield 159, 3) := by decide +kernel
theorem dX10_init_398 : decode cX10_init 398 = .ok (.aload_n 0, 1) := by decide +kernel
theorem dX10_init_399 : decode cX10_init 399 = .ok (.bipush 8, 2) := by decide +kernel
theorem dX10_init_401 : decode cX10_init 401 = .ok (.newarray .int, 2) := by decide +kernel
theorem dX10_init_403 : decode cX10_init 403 = .ok (.putfield 162, 3) := by decide +kernel
theorem dX10_init_406 : decode cX10_init 406 = .ok (.aload_n 0, 1) := by decide +kernel
theorem dX10_init_407 : decode cX10_init 407 = .ok (.sipush 400, 3) := by decide +kernel
theorem dX10_init_410 : decode cX10_init 410 = .ok (.newarray .int, 2) := by decide +kernel
theorem dX10_init_412 : decode cX10_init 412 = .ok (.putfield 165, 3) := by decide +kernel
theorem dX10_init_415 : decode cX10_init 415 = .ok (.iconst 0, 1) := by decide +kernel
theorem dX10_init_416 : decode cX10_init 416 = .ok (.istore_n 1, 1) := by decide +kernel
theorem dX10_init_417 : decode cX10_init 417 = .ok (.iload_n 1, 1) := by decide +kernel
theorem dX10_init_418 : decode cX10_init 418 = .ok (.bipush 40, 2) := by decide +kernel
theorem dX10_init_420 : decode cX10_init 420 = .ok (.if_icmp .ge 23, 3) := by decide +kernel
theorem dX10_init_423 : decode cX10_init 423 = .ok (.aload_n 0, 1) := by decide +kernel
theorem dX10_init_424 : decode cX10_init 424 = .ok (.getfield 108, 3) := by decide +kernel
theorem dX10_init_427 : decode cX10_init 427 = .ok (.iload_n 1, 1) := by decide +kernel
theorem dX10_init_428 : decode cX10_init 428 = .ok (.iconst (-1), 1) := by decide +kernel
theorem dX10_init_429 : decode cX10_init 429 = .ok (.iastore, 1) := by decide +kernel
theorem dX10_init_430 : decode cX10_init 430 = .ok (.aload_n 0, 1) := by decide +kernel
theorem dX10_init_431 : decode cX10_init 431 = .ok (.getfield 111, 3) := by decide +kernel
theorem dX10_init_434 : decode cX10_init 434 = .ok (.iload_n 1, 1) := by decide +kernel
theorem dX10_init_435 : decode cX10_init 435 = .ok (.iconst (-1), 1) := by decide +kernel
theorem dX10_init_436 : decode cX10_init 436 = .ok (.iastore, 1) := by decide +kernel
theorem dX10_init_437 : decode cX10_init 437 = .ok (.iinc 1 1, 3) := by decide +kernel
theorem dX10_init_440 : decode cX10_init 440 = .ok (.goto (-23), 3) := by decide +kernel
theorem dX10_init_443 : decode cX10_init 443 = .ok (.return_, 1) := by decide +kernel
theorem dX10_isLetter_0 : decode cX10_isLetter 0 = .ok (.iload_n 0, 1) := by decide +kernel
theorem dX10_isLetter_1 : decode cX10_isLetter 1 = .ok (.bipush 97, 2) := by decide +kernel
theorem dX10_isLetter_3 : decode cX10_isLetter 3 = .ok (.if_icmp .lt 13, 3) := by decide +kernel
theorem dX10_isLetter_6 : decode cX10_isLetter 6 = .ok (.iload_n 0, 1) := by decide +kernel
theorem dX10_isLetter_7 : decode cX10_isLetter 7 = .ok (.bipush 122, 2) := by decide +kernel
theorem dX10_isLetter_9 : decode cX10_isLetter 9 = .ok (.if_icmp .gt 7, 3) := by decide +kernel
theorem dX10_isLetter_12 : decode cX10_isLetter 12 = .ok (.iconst 1, 1) := by decide +kernel
theorem dX10_isLetter_13 : decode cX10_isLetter 13 = .ok (.goto 4, 3) := by decide +kernel
theorem dX10_isLetter_16 : decode cX10_isLetter 16 = .ok (.iconst 0, 1) := by decide +kernel
theorem dX10_isLetter_17 : decode cX10_isLetter 17 = .ok (.ireturn, 1) := by decide +kernel
theorem dX10_isDigit_0 : decode cX10_isDigit 0 = .ok (.iload_n 0, 1) := by decide +kernel
theorem dX10_isDigit_1 : decode cX10_isDigit 1 = .ok (.bipush 48, 2) := by decide +kernel
theorem dX10_isDigit_3 : decode cX10_isDigit 3 = .ok (.if_icmp .lt 13, 3) := by decide +kernel
theorem dX10_isDigit_6 : decode cX10_isDigit 6 = .ok (.iload_n 0, 1) := by decide +kernel
theorem dX10_isDigit_7 : decode cX10_isDigit 7 = .ok (.bipush 57, 2) := by decide +kernel
theorem dX10_isDigit_9 : decode cX10_isDigit 9 = .ok (.if_icmp .gt 7, 3) := by decide +kernel
theorem dX10_isDigit_12 : decode cX10_isDigit 12 = .ok (.iconst 1, 1) := by decide +kernel
theorem dX10_isDigit_13 : decode cX10_isDigit 13 = .ok (.goto 4, 3) := by decide +kernel
theorem dX10_isDigit_16 : decode cX10_isDigit 16 = .ok (.iconst 0, 1) := by decide +kernel
theorem dX10_isDigit_17 : decode cX10_isDigit 17 = .ok (.ireturn, 1) := by decide +kernel
theorem dX10_rank_0 : decode cX10_rank 0 = .ok (.iload_n 0, 1) := by decide +kernel
theorem dX10_rank_1 : decode cX10_rank 1 = .ok (.invokestatic 168, 3) := by decide +kernel
theorem dX10_rank_4 : decode cX10_rank 4 = .ok (.ifCond .eq 10, 3) := by decide +kernel
theorem dX10_rank_7 : decode cX10_rank 7 = .ok (.iload_n 0, 1) := by decide +kernel
theorem dX10_rank_8 : decode cX10_rank 8 = .ok (.bipush 96, 2) := by decide +kernel
theorem dX10_rank_10 : decode cX10_rank 10 = .ok (.isub, 1) := by decide +kernel
theorem dX10_rank_11 : decode cX10_rank 11 = .ok (.goto 7, 3) := by decide +kernel
theorem dX10_rank_14 : decode cX10_rank 14 = .ok (.iload_n 0, 1) := by decide +kernel
theorem dX10_rank_15 : decode cX10_rank 15 = .ok (.bipush 21, 2) := by decide +kernel
theorem dX10_rank_17 : decode cX10_rank 17 = .ok (.isub, 1) := by decide +kernel
theorem dX10_rank_18 : decode cX10_rank 18 = .ok (.ireturn, 1) := by decide +kernel
theorem dX10_isSignOf_0 : decode cX10_isSignOf 0 = .ok (.iload_n 0, 1) := by decide +kernel
theorem dX10_isSignOf_1 : decode cX10_isSignOf 1 = .ok (.bipush 40, 2) := by decide +kernel
theorem dX10_isSignOf_3 : decode cX10_isSignOf 3 = .ok (.if_icmp .eq 39, 3) := by decide +kernel
theorem dX10_isSignOf_6 : decode cX10_isSignOf 6 = .ok (.iload_n 0, 1) := by decide +kernel
theorem dX10_isSignOf_7 : decode cX10_isSignOf 7 = .ok (.bipush 41, 2) := by decide +kernel
theorem dX10_isSignOf_9 : decode cX10_isSignOf 9 = .ok (.if_icmp .eq 33, 3) := by decide +kernel
theorem dX10_isSignOf_12 : decode cX10_isSignOf 12 = .ok (.iload_n 0, 1) := by decide +kernel
theorem dX10_isSignOf_13 : decode cX10_isSignOf 13 = .ok (.bipush 59, 2) := by decide +kernel
theorem dX10_isSignOf_15 : decode cX10_isSignOf 15 = .ok (.if_icmp .eq 27, 3) := by decide +kernel
theorem dX10_isSignOf_18 : decode cX10_isSignOf 18 = .ok (.iload_n 0, 1) := by decide +kernel
theorem dX10_isSignOf_19 : decode cX10_isSignOf 19 = .ok (.bipush 61, 2) := by decide +kernel
theorem dX10_isSignOf_21 : decode cX10_isSignOf 21 = .ok (.if_icmp .eq 21, 3) := by decide +kernel
theorem dX10_isSignOf_24 : decode cX10_isSignOf 24 = .ok (.iload_n 0, 1) := by decide +kernel
theorem dX10_isSignOf_25 : decode cX10_isSignOf 25 = .ok (.bipush 60, 2) := by decide +kernel
theorem dX10_isSignOf_27 : decode cX10_isSignOf 27 = .ok (.if_icmp .eq 15, 3) := by decide +kernel
theorem dX10_isSignOf_30 : decode cX10_isSignOf 30 = .ok (.iload_n 0, 1) := by decide +kernel
theorem dX10_isSignOf_31 : decode cX10_isSignOf 31 = .ok (.bipush 43, 2) := by decide +kernel
theorem dX10_isSignOf_33 : decode cX10_isSignOf 33 = .ok (.if_icmp .eq 9, 3) := by decide +kernel
theorem dX10_isSignOf_36 : decode cX10_isSignOf 36 = .ok (.iload_n 0, 1) := by decide +kernel
theorem dX10_isSignOf_37 : decode cX10_isSignOf 37 = .ok (.bipush 45, 2) := by decide +kernel
theorem dX10_isSignOf_39 : decode cX10_isSignOf 39 = .ok (.if_icmp .ne 7, 3) := by decide +kernel
theorem dX10_isSignOf_42 : decode cX10_isSignOf 42 = .ok (.iconst 1, 1) := by decide +kernel
theorem dX10_isSignOf_43 : decode cX10_isSignOf 43 = .ok (.goto 4, 3) := by decide +kernel
theorem dX10_isSignOf_46 : decode cX10_isSignOf 46 = .ok (.iconst 0, 1) := by decide +kernel
theorem dX10_isSignOf_47 : decode cX10_isSignOf 47 = .ok (.ireturn, 1) := by decide +kernel
theorem dX10_cutAll_0 : decode cX10_cutAll 0 = .ok (.aload_n 0, 1) := by decide +kernel
theorem dX10_cutAll_1 : decode cX10_cutAll 1 = .ok (.aload_n 0, 1) := by decide +kernel
theorem dX10_cutAll_2 : decode cX10_cutAll 2 = .ok (.getfield 11, 3) := by decide +kernel
theorem dX10_cutAll_5 : decode cX10_cutAll 5 = .ok (.putfield 172, 3) := by decide +kernel
theorem dX10_cutAll_8 : decode cX10_cutAll 8 = .ok (.aload_n 0, 1) := by decide +kernel
theorem dX10_cutAll_9 : decode cX10_cutAll 9 = .ok (.iconst 0, 1) := by decide +kernel
theorem dX10_cutAll_10 : decode cX10_cutAll 10 = .ok (.putfield 11, 3) := by decide +kernel
theorem dX10_cutAll_13 : decode cX10_cutAll 13 = .ok (.iconst 0, 1) := by decide +kernel
theorem dX10_cutAll_14 : decode cX10_cutAll 14 = .ok (.istore_n 1, 1) := by decide +kernel
theorem dX10_cutAll_15 : decode cX10_cutAll 15 = .ok (.iconst 0, 1) := by decide +kernel
theorem dX10_cutAll_16 : decode cX10_cutAll 16 = .ok (.istore_n 2, 1) := by decide +kernel
theorem dX10_cutAll_17 : decode cX10_cutAll 17 = .ok (.iload_n 2, 1) := by decide +kernel
theorem dX10_cutAll_18 : decode cX10_cutAll 18 = .ok (.aload_n 0, 1) := by decide +kernel
theorem dX10_cutAll_19 : decode cX10_cutAll 19 = .ok (.getfield 172, 3) := by decide +kernel
theorem dX10_cutAll_22 : decode cX10_cutAll 22 = .ok (.if_icmp .ge 257, 3) := by decide +kernel
theorem dX10_cutAll_25 : decode cX10_cutAll 25 = .ok (.aload_n 0, 1) := by decide +kernel
theorem dX10_cutAll_26 : decode cX10_cutAll 26 = .ok (.getfield 14, 3) := by decide +kernel
theorem dX10_cutAll_29 : decode cX10_cutAll 29 = .ok (.iload_n 2, 1) := by decide +kernel
theorem dX10_cutAll_30 : decode cX10_cutAll 30 = .ok (.iaload, 1) := by decide +kernel
theorem dX10_cutAll_31 : decode cX10_cutAll 31 = .ok (.istore_n 3, 1) := by decide +kernel
theorem dX10_cutAll_32 : decode cX10_cutAll 32 = .ok (.iload_n 3, 1) := by decide +kernel
theorem dX10_cutAll_33 : decode cX10_cutAll 33 = .ok (.bipush 10, 2) := by decide +kernel
theorem dX10_cutAll_35 : decode cX10_cutAll 35 = .ok (.if_icmp .eq 9, 3) := by decide +kernel
theorem dX10_cutAll_38 : decode cX10_cutAll 38 = .ok (.iload_n 3, 1) := by decide +kernel
theorem dX10_cutAll_39 : decode cX10_cutAll 39 = .ok (.bipush 32, 2) := by decide +kernel
theorem dX10_cutAll_41 : decode cX10_cutAll 41 = .ok (.if_icmp .ne 9, 3) := by decide +kernel
theorem dX10_cutAll_44 : decode cX10_cutAll 44 = .ok (.iinc 2 1, 3) := by decide +kernel
theorem dX10_cutAll_47 : decode cX10_cutAll 47 = .ok (.goto (-30), 3) := by decide +kernel
theorem dX10_cutAll_50 : decode cX10_cutAll 50 = .ok (.iload_n 2, 1) := by decide +kernel
theorem dX10_cutAll_51 : decode cX10_cutAll 51 = .ok (.istore 4, 2) := by decide +kernel
theorem dX10_cutAll_53 : decode cX10_cutAll 53 = .ok (.lconst 0, 1) := by decide +kernel
theorem dX10_cutAll_54 : decode cX10_cutAll 54 = .ok (.lstore 5, 2) := by decide +kernel
theorem dX10_cutAll_56 : decode cX10_cutAll 56 = .ok (.aload_n 0, 1) := by decide +kernel
theorem dX10_cutAll_57 : decode cX10_cutAll 57 = .ok (.getfield 27, 3) := by decide +kernel
theorem dX10_cutAll_60 : decode cX10_cutAll 60 = .ok (.iload_n 1, 1) := by decide +kernel
theorem dX10_cutAll_61 : decode cX10_cutAll 61 = .ok (.iload_n 2, 1) := by decide +kernel
theorem dX10_cutAll_62 : decode cX10_cutAll 62 = .ok (.iastore, 1) := by decide +kernel
theorem dX10_cutAll_63 : decode cX10_cutAll 63 = .ok (.iload_n 3, 1) := by decide +kernel
theorem dX10_cutAll_64 : decode cX10_cutAll 64 = .ok (.invokestatic 168, 3) := by decide +kernel
theorem dX10_cutAll_67 : decode cX10_cutAll 67 = .ok (.ifCond .eq 85, 3) := by decide +kernel
theorem dX10_cutAll_70 : decode cX10_cutAll 70 = .ok (.iload_n 2, 1) := by decide +kernel
theorem dX10_cutAll_71 : decode cX10_cutAll 71 = .ok (.aload_n 0, 1) := by decide +kernel
theorem dX10_cutAll_72 : decode cX10_cutAll 72 = .ok (.getfield 172, 3) := by decide +kernel
theorem dX10_cutAll_75 : decode cX10_cutAll 75 = .ok (.if_icmp .ge 54, 3) := by decide +kernel
theorem dX10_cutAll_78 : decode cX10_cutAll 78 = .ok (.aload_n 0, 1) := by decide +kernel
theorem dX10_cutAll_79 : decode cX10_cutAll 79 = .ok (.getfield 14, 3) := by decide +kernel
theorem dX10_cutAll_82 : decode cX10_cutAll 82 = .ok (.iload_n 2, 1) := by decide +kernel
theorem dX10_cutAll_83 : decode cX10_cutAll 83 = .ok (.iaload, 1) := by decide +kernel
theorem dX10_cutAll_84 : decode cX10_cutAll 84 = .ok (.invokestatic 168, 3) := by decide +kernel
theorem dX10_cutAll_87 : decode cX10_cutAll 87 = .ok (.ifCond .eq 42, 3) := by decide +kernel
theorem dX10_cutAll_90 : decode cX10_cutAll 90 = .ok (.iload_n 2, 1) := by decide +kernel
theorem dX10_cutAll_91 : decode cX10_cutAll 91 = .ok (.iload 4, 2) := by decide +kernel
theorem dX10_cutAll_93 : decode cX10_cutAll 93 = .ok (.isub, 1) := by decide +kernel
theorem dX10_cutAll_94 : decode cX10_cutAll 94 = .ok (.bipush 8, 2) := by decide +kernel
theorem dX10_cutAll_96 : decode cX10_cutAll 96 = .ok (.if_icmp .ge 23, 3) := by decide +kernel
theorem dX10_cutAll_99 : decode cX10_cutAll 99 = .ok (.ldc2_w 175, 3) := by decide +kernel
theorem dX10_cutAll_102 : decode cX10_cutAll 102 = .ok (.lload 5, 2) := by decide +kernel
theorem dX10_cutAll_104 : decode cX10_cutAll 104 = .ok (.lmul, 1) := by decide +kernel
theorem dX10_cutAll_105 : decode cX10_cutAll 105 = .ok (.aload_n 0, 1) := by decide +kernel
theorem dX10_cutAll_106 : decode cX10_cutAll 106 = .ok (.getfield 14, 3) := by decide +kernel
theorem dX10_cutAll_109 : decode cX10_cutAll 109 = .ok (.iload_n 2, 1) := by decide +kernel
theorem dX10_cutAll_110 : decode cX10_cutAll 110 = .ok (.iaload, 1) := by decide +kernel
theorem dX10_cutAll_111 : decode cX10_cutAll 111 = .ok (.invokestatic 177, 3) := by decide +kernel
theorem dX10_cutAll_114 : decode cX10_cutAll 114 = .ok (.i2l, 1) := by decide +kernel
theorem dX10_cutAll_115 : decode cX10_cutAll 115 = .ok (.ladd, 1) := by decide +kernel
theorem dX10_cutAll_116 : decode cX10_cutAll 116 = .ok (.goto 5, 3) := by decide +kernel
theorem dX10_cutAll_119 : decode cX10_cutAll 119 = .ok (.lload 5, 2) := by decide +kernel
theorem dX10_cutAll_121 : decode cX10_cutAll 121 = .ok (.lstore 5, 2) := by decide +kernel
theorem dX10_cutAll_123 : decode cX10_cutAll 123 = .ok (.iinc 2 1, 3) := by decide +kernel
theorem dX10_cutAll_126 : decode cX10_cutAll 126 = .ok (.goto (-56), 3) := by decide +kernel
theorem dX10_cutAll_129 : decode cX10_cutAll 129 = .ok (.aload_n 0, 1) := by decide +kernel
theorem dX10_cutAll_130 : decode cX10_cutAll 130 = .ok (.getfield 24, 3) := by decide +kernel
theorem dX10_cutAll_133 : decode cX10_cutAll 133 = .ok (.iload_n 1, 1) := by decide +kernel
theorem dX10_cutAll_134 : decode cX10_cutAll 134 = .ok (.iload_n 2, 1) := by decide +kernel
theorem dX10_cutAll_135 : decode cX10_cutAll 135 = .ok (.iload 4, 2) := by decide +kernel
theorem dX10_cutAll_137 : decode cX10_cutAll 137 = .ok (.isub, 1) := by decide +kernel
theorem dX10_cutAll_138 : decode cX10_cutAll 138 = .ok (.bipush 8, 2) := by decide +kernel
theorem dX10_cutAll_140 : decode cX10_cutAll 140 = .ok (.if_icmp .le 7, 3) := by decide +kernel
theorem dX10_cutAll_143 : decode cX10_cutAll 143 = .ok (.iconst 4, 1) := by decide +kernel
theorem dX10_cutAll_144 : decode cX10_cutAll 144 = .ok (.goto 4, 3) := by decide +kernel
theorem dX10_cutAll_147 : decode cX10_cutAll 147 = .ok (.iconst 1, 1) := by decide +kernel
theorem dX10_cutAll_148 : decode cX10_cutAll 148 = .ok (.iastore, 1) := by decide +kernel
theorem dX10_cutAll_149 : decode cX10_cutAll 149 = .ok (.goto 116, 3) := by decide +kernel
theorem dX10_cutAll_152 : decode cX10_cutAll 152 = .ok (.iload_n 3, 1) := by decide +kernel
theorem dX10_cutAll_153 : decode cX10_cutAll 153 = .ok (.invokestatic 181, 3) := by decide +kernel
theorem dX10_cutAll_156 : decode cX10_cutAll 156 = .ok (.ifCond .eq 84, 3) := by decide +kernel
theorem dX10_cutAll_159 : decode cX10_cutAll 159 = .ok (.iload_n 2, 1) := by decide +kernel
theorem dX10_cutAll_160 : decode cX10_cutAll 160 = .ok (.aload_n 0, 1) := by decide +kernel
theorem dX10_cutAll_161 : decode cX10_cutAll 161 = .ok (.getfield 172, 3) := by decide +kernel
theorem dX10_cutAll_164 : decode cX10_cutAll 164 = .ok (.if_icmp .ge 54, 3) := by decide +kernel
theorem dX10_cutAll_167 : decode cX10_cutAll 167 = .ok (.aload_n 0, 1) := by decide +kernel
theorem dX10_cutAll_168 : decode cX10_cutAll 168 = .ok (.getfield 14, 3) := by decide +kernel
theorem dX10_cutAll_171 : decode cX10_cutAll 171 = .ok (.iload_n 2, 1) := by decide +kernel
theorem dX10_cutAll_172 : decode cX10_cutAll 172 = .ok (.iaload, 1) := by decide +kernel
theorem dX10_cutAll_173 : decode cX10_cutAll 173 = .ok (.invokestatic 181, 3) := by decide +kernel
theorem dX10_cutAll_176 : decode cX10_cutAll 176 = .ok (.ifCond .eq 42, 3) := by decide +kernel
theorem dX10_cutAll_179 : decode cX10_cutAll 179 = .ok (.iload_n 2, 1) := by decide +kernel
theorem dX10_cutAll_180 : decode cX10_cutAll 180 = .ok (.iload 4, 2) := by decide +kernel
theorem dX10_cutAll_182 : decode cX10_cutAll 182 = .ok (.isub, 1) := by decide +kernel
theorem dX10_cutAll_183 : decode cX10_cutAll 183 = .ok (.iconst 4, 1) := by decide +kernel
theorem dX10_cutAll_184 : decode cX10_cutAll 184 = .ok (.if_icmp .ge 24, 3) := by decide +kernel
theorem dX10_cutAll_187 : decode cX10_cutAll 187 = .ok (.ldc2_w 184, 3) := by decide +kernel
theorem dX10_cutAll_190 : decode cX10_cutAll 190 = .ok (.lload 5, 2) := by decide +kernel
theorem dX10_cutAll_192 : decode cX10_cutAll 192 = .ok (.lmul, 1) := by decide +kernel
theorem dX10_cutAll_193 : decode cX10_cutAll 193 = .ok (.aload_n 0, 1) := by decide +kernel
theorem dX10_cutAll_194 : decode cX10_cutAll 194 = .ok (.getfield 14, 3) := by decide +kernel
theorem dX10_cutAll_197 : decode cX10_cutAll 197 = .ok (.iload_n 2, 1) := by decide +kernel
theorem dX10_cutAll_198 : decode cX10_cutAll 198 = .ok (.iaload, 1) := by decide +kernel
theorem dX10_cutAll_199 : decode cX10_cutAll 199 = .ok (.i2l, 1) := by decide +kernel
theorem dX10_cutAll_200 : decode cX10_cutAll 200 = .ok (.ladd, 1) := by decide +kernel
theorem dX10_cutAll_201 : decode cX10_cutAll 201 = .ok (.ldc2_w 186, 3) := by decide +kernel
theorem dX10_cutAll_204 : decode cX10_cutAll 204 = .ok (.lsub, 1) := by decide +kernel
theorem dX10_cutAll_205 : decode cX10_cutAll 205 = .ok (.goto 5, 3) := by decide +kernel
theorem dX10_cutAll_208 : decode cX10_cutAll 208 = .ok (.lload 5, 2) := by decide +kernel
theorem dX10_cutAll_210 : decode cX10_cutAll 210 = .ok (.lstore 5, 2) := by decide +kernel
theorem dX10_cutAll_212 : decode cX10_cutAll 212 = .ok (.iinc 2 1, 3) := by decide +kernel
theorem dX10_cutAll_215 : decode cX10_cutAll 215 = .ok (.goto (-56), 3) := by decide +kernel
theorem dX10_cutAll_218 : decode cX10_cutAll 218 = .ok (.aload_n 0, 1) := by decide +kernel
theorem dX10_cutAll_219 : decode cX10_cutAll 219 = .ok (.getfield 24, 3) := by decide +kernel
theorem dX10_cutAll_222 : decode cX10_cutAll 222 = .ok (.iload_n 1, 1) := by decide +kernel
theorem dX10_cutAll_223 : decode cX10_cutAll 223 = .ok (.iload_n 2, 1) := by decide +kernel
theorem dX10_cutAll_224 : decode cX10_cutAll 224 = .ok (.iload 4, 2) := by decide +kernel
theorem dX10_cutAll_226 : decode cX10_cutAll 226 = .ok (.isub, 1) := by decide +kernel
theorem dX10_cutAll_227 : decode cX10_cutAll 227 = .ok (.iconst 4, 1) := by decide +kernel
theorem dX10_cutAll_228 : decode cX10_cutAll 228 = .ok (.if_icmp .le 7, 3) := by decide +kernel
theorem dX10_cutAll_231 : decode cX10_cutAll 231 = .ok (.iconst 4, 1) := by decide +kernel
theorem dX10_cutAll_232 : decode cX10_cutAll 232 = .ok (.goto 4, 3) := by decide +kernel
theorem dX10_cutAll_235 : decode cX10_cutAll 235 = .ok (.iconst 2, 1) := by decide +kernel
theorem dX10_cutAll_236 : decode cX10_cutAll 236 = .ok (.iastore, 1) := by decide +kernel
theorem dX10_cutAll_237 : decode cX10_cutAll 237 = .ok (.goto 28, 3) := by decide +kernel
theorem dX10_cutAll_240 : decode cX10_cutAll 240 = .ok (.iload_n 3, 1) := by decide +kernel
theorem dX10_cutAll_241 : decode cX10_cutAll 241 = .ok (.i2l, 1) := by decide +kernel
theorem dX10_cutAll_242 : decode cX10_cutAll 242 = .ok (.lstore 5, 2) := by decide +kernel
theorem dX10_cutAll_244 : decode cX10_cutAll 244 = .ok (.aload_n 0, 1) := by decide +kernel
theorem dX10_cutAll_245 : decode cX10_cutAll 245 = .ok (.getfield 24, 3) := by decide +kernel
theorem dX10_cutAll_248 : decode cX10_cutAll 248 = .ok (.iload_n 1, 1) := by decide +kernel
theorem dX10_cutAll_249 : decode cX10_cutAll 249 = .ok (.iload_n 3, 1) := by decide +kernel
theorem dX10_cutAll_250 : decode cX10_cutAll 250 = .ok (.invokestatic 188, 3) := by decide +kernel
theorem dX10_cutAll_253 : decode cX10_cutAll 253 = .ok (.ifCond .eq 7, 3) := by decide +kernel
theorem dX10_cutAll_256 : decode cX10_cutAll 256 = .ok (.iconst 3, 1) := by decide +kernel
theorem dX10_cutAll_257 : decode cX10_cutAll 257 = .ok (.goto 4, 3) := by decide +kernel
theorem dX10_cutAll_260 : decode cX10_cutAll 260 = .ok (.iconst 4, 1) := by decide +kernel
theorem dX10_cutAll_261 : decode cX10_cutAll 261 = .ok (.iastore, 1) := by decide +kernel
theorem dX10_cutAll_262 : decode cX10_cutAll 262 = .ok (.iinc 2 1, 3) := by decide +kernel
theorem dX10_cutAll_265 : decode cX10_cutAll 265 = .ok (.aload_n 0, 1) := by decide +kernel
theorem dX10_cutAll_266 : decode cX10_cutAll 266 = .ok (.getfield 30, 3) := by decide +kernel
theorem dX10_cutAll_269 : decode cX10_cutAll 269 = .ok (.iload_n 1, 1) := by decide +kernel
theorem dX10_cutAll_270 : decode cX10_cutAll 270 = .ok (.lload 5, 2) := by decide +kernel
theorem dX10_cutAll_272 : decode cX10_cutAll 272 = .ok (.lastore, 1) := by decide +kernel
theorem dX10_cutAll_273 : decode cX10_cutAll 273 = .ok (.iinc 1 1, 3) := by decide +kernel
theorem dX10_cutAll_276 : decode cX10_cutAll 276 = .ok (.goto (-259), 3) := by decide +kernel
theorem dX10_cutAll_279 : decode cX10_cutAll 279 = .ok (.aload_n 0, 1) := by decide +kernel
theorem dX10_cutAll_280 : decode cX10_cutAll 280 = .ok (.getfield 24, 3) := by decide +kernel
theorem dX10_cutAll_283 : decode cX10_cutAll 283 = .ok (.iload_n 1, 1) := by decide +kernel
theorem dX10_cutAll_284 : decode cX10_cutAll 284 = .ok (.iconst 0, 1) := by decide +kernel
theorem dX10_cutAll_285 : decode cX10_cutAll 285 = .ok (.iastore, 1) := by decide +kernel
theorem dX10_cutAll_286 : decode cX10_cutAll 286 = .ok (.aload_n 0, 1) := by decide +kernel
theorem dX10_cutAll_287 : decode cX10_cutAll 287 = .ok (.getfield 27, 3) := by decide +kernel
theorem dX10_cutAll_290 : decode cX10_cutAll 290 = .ok (.iload_n 1, 1) := by decide +kernel
theorem dX10_cutAll_291 : decode cX10_cutAll 291 = .ok (.aload_n 0, 1) := by decide +kernel
theorem dX10_cutAll_292 : decode cX10_cutAll 292 = .ok (.getfield 172, 3) := by decide +kernel
theorem dX10_cutAll_295 : decode cX10_cutAll 295 = .ok (.iastore, 1) := by decide +kernel
theorem dX10_cutAll_296 : decode cX10_cutAll 296 = .ok (.aload_n 0, 1) := by decide +kernel
theorem dX10_cutAll_297 : decode cX10_cutAll 297 = .ok (.iconst 0, 1) := by decide +kernel
theorem dX10_cutAll_298 : decode cX10_cutAll 298 = .ok (.putfield 191, 3) := by decide +kernel
theorem dX10_cutAll_301 : decode cX10_cutAll 301 = .ok (.aload_n 0, 1) := by decide +kernel
theorem dX10_cutAll_302 : decode cX10_cutAll 302 = .ok (.iconst 0, 1) := by decide +kernel
theorem dX10_cutAll_303 : decode cX10_cutAll 303 = .ok (.putfield 194, 3) := by decide +kernel
theorem dX10_cutAll_306 : decode cX10_cutAll 306 = .ok (.return_, 1) := by decide +kernel
theorem dX10_wrong_0 : decode cX10_wrong 0 = .ok (.aload_n 0, 1) := by decide +kernel
theorem dX10_wrong_1 : decode cX10_wrong 1 = .ok (.getfield 194, 3) := by decide +kernel
theorem dX10_wrong_4 : decode cX10_wrong 4 = .ok (.ifCond .ne 21, 3) := by decide +kernel
theorem dX10_wrong_7 : decode cX10_wrong 7 = .ok (.aload_n 0, 1) := by decide +kernel
theorem dX10_wrong_8 : decode cX10_wrong 8 = .ok (.iload_n 1, 1) := by decide +kernel
theorem dX10_wrong_9 : decode cX10_wrong 9 = .ok (.bipush 16, 2) := by decide +kernel
theorem dX10_wrong_11 : decode cX10_wrong 11 = .ok (.aload_n 0, 1) := by decide +kernel
theorem dX10_wrong_12 : decode cX10_wrong 12 = .ok (.getfield 27, 3) := by decide +kernel
theorem dX10_wrong_15 : decode cX10_wrong 15 = .ok (.aload_n 0, 1) := by decide +kernel
theorem dX10_wrong_16 : decode cX10_wrong 16 = .ok (.getfield 191, 3) := by decide +kernel
theorem dX10_wrong_19 : decode cX10_wrong 19 = .ok (.iaload, 1) := by decide +kernel
theorem dX10_wrong_20 : decode cX10_wrong 20 = .ok (.imul, 1) := by decide +kernel
theorem dX10_wrong_21 : decode cX10_wrong 21 = .ok (.iadd, 1) := by decide +kernel
theorem dX10_wrong_22 : decode cX10_wrong 22 = .ok (.putfield 194, 3) := by decide +kernel
theorem dX10_wrong_25 : decode cX10_wrong 25 = .ok (.return_, 1) := by decide +kernel
theorem dX10_isSign_0 : decode cX10_isSign 0 = .ok (.aload_n 0, 1) := by decide +kernel
theorem dX10_isSign_1 : decode cX10_isSign 1 = .ok (.getfield 194, 3) := by decide +kernel
theorem dX10_isSign_4 : decode cX10_isSign 4 = .ok (.ifCond .ne 35, 3) := by decide +kernel
theorem dX10_isSign_7 : decode cX10_isSign 7 = .ok (.aload_n 0, 1) := by decide +kernel
theorem dX10_isSign_8 : decode cX10_isSign 8 = .ok (.getfield 24, 3) := by decide +kernel
theorem dX10_isSign_11 : decode cX10_isSign 11 = .ok (.aload_n 0, 1) := by decide +kernel
theorem dX10_isSign_12 : decode cX10_isSign 12 = .ok (.getfield 191, 3) := by decide +kernel
theorem dX10_isSign_15 : decode cX10_isSign 15 = .ok (.iaload, 1) := by decide +kernel
theorem dX10_isSign_16 : decode cX10_isSign 16 = .ok (.iconst 3, 1) := by decide +kernel
theorem dX10_isSign_17 : decode cX10_isSign 17 = .ok (.if_icmp .ne 22, 3) := by decide +kernel
theorem dX10_isSign_20 : decode cX10_isSign 20 = .ok (.aload_n 0, 1) := by decide +kernel
theorem dX10_isSign_21 : decode cX10_isSign 21 = .ok (.getfield 30, 3) := by decide +kernel
theorem dX10_isSign_24 : decode cX10_isSign 24 = .ok (.aload_n 0, 1) := by decide +kernel
theorem dX10_isSign_25 : decode cX10_isSign 25 = .ok (.getfield 191, 3) := by decide +kernel
theorem dX10_isSign_28 : decode cX10_isSign 28 = .ok (.laload, 1) := by decide +kernel
theorem dX10_isSign_29 : decode cX10_isSign 29 = .ok (.iload_n 1, 1) := by decide +kernel
theorem dX10_isSign_30 : decode cX10_isSign 30 = .ok (.i2l, 1) := by decide +kernel
theorem dX10_isSign_31 : decode cX10_isSign 31 = .ok (.lcmp, 1) := by decide +kernel
theorem dX10_isSign_32 : decode cX10_isSign 32 = .ok (.ifCond .ne 7, 3) := by decide +kernel
theorem dX10_isSign_35 : decode cX10_isSign 35 = .ok (.iconst 1, 1) := by decide +kernel
theorem dX10_isSign_36 : decode cX10_isSign 36 = .ok (.goto 4, 3) := by decide +kernel
theorem dX10_isSign_39 : decode cX10_isSign 39 = .ok (.iconst 0, 1) := by decide +kernel
theorem dX10_isSign_40 : decode cX10_isSign 40 = .ok (.ireturn, 1) := by decide +kernel
theorem dX10_isWord_0 : decode cX10_isWord 0 = .ok (.aload_n 0, 1) := by decide +kernel
theorem dX10_isWord_1 : decode cX10_isWord 1 = .ok (.getfield 194, 3) := by decide +kernel
theorem dX10_isWord_4 : decode cX10_isWord 4 = .ok (.ifCond .ne 39, 3) := by decide +kernel
theorem dX10_isWord_7 : decode cX10_isWord 7 = .ok (.aload_n 0, 1) := by decide +kernel
theorem dX10_isWord_8 : decode cX10_isWord 8 = .ok (.getfield 24, 3) := by decide +kernel
theorem dX10_isWord_11 : decode cX10_isWord 11 = .ok (.aload_n 0, 1) := by decide +kernel
theorem dX10_isWord_12 : decode cX10_isWord 12 = .ok (.getfield 191, 3) := by decide +kernel
theorem dX10_isWord_15 : decode cX10_isWord 15 = .ok (.iaload, 1) := by decide +kernel
theorem dX10_isWord_16 : decode cX10_isWord 16 = .ok (.iconst 1, 1) := by decide +kernel
theorem dX10_isWord_17 : decode cX10_isWord 17 = .ok (.if_icmp .ne 26, 3) := by decide +kernel
theorem dX10_isWord_20 : decode cX10_isWord 20 = .ok (.aload_n 0, 1) := by decide +kernel
theorem dX10_isWord_21 : decode cX10_isWord 21 = .ok (.getfield 30, 3) := by decide +kernel
theorem dX10_isWord_24 : decode cX10_isWord 24 = .ok (.aload_n 0, 1) := by decide +kernel
theorem dX10_isWord_25 : decode cX10_isWord 25 = .ok (.getfield 191, 3) := by decide +kernel
theorem dX10_isWord_28 : decode cX10_isWord 28 = .ok (.laload, 1) := by decide +kernel
theorem dX10_isWord_29 : decode cX10_isWord 29 = .ok (.aload_n 0, 1) := by decide +kernel
theorem dX10_isWord_30 : decode cX10_isWord 30 = .ok (.getfield 56, 3) := by decide +kernel
theorem dX10_isWord_33 : decode cX10_isWord 33 = .ok (.iload_n 1, 1) := by decide +kernel
theorem dX10_isWord_34 : decode cX10_isWord 34 = .ok (.laload, 1) := by decide +kernel
theorem dX10_isWord_35 : decode cX10_isWord 35 = .ok (.lcmp, 1) := by decide +kernel
theorem dX10_isWord_36 : decode cX10_isWord 36 = .ok (.ifCond .ne 7, 3) := by decide +kernel
theorem dX10_isWord_39 : decode cX10_isWord 39 = .ok (.iconst 1, 1) := by decide +kernel
theorem dX10_isWord_40 : decode cX10_isWord 40 = .ok (.goto 4, 3) := by decide +kernel
theorem dX10_isWord_43 : decode cX10_isWord 43 = .ok (.iconst 0, 1) := by decide +kernel
theorem dX10_isWord_44 : decode cX10_isWord 44 = .ok (.ireturn, 1) := by decide +kernel
theorem dX10_takeSign_0 : decode cX10_takeSign 0 = .ok (.aload_n 0, 1) := by decide +kernel
theorem dX10_takeSign_1 : decode cX10_takeSign 1 = .ok (.iload_n 1, 1) := by decide +kernel
theorem dX10_takeSign_2 : decode cX10_takeSign 2 = .ok (.invokevirtual 197, 3) := by decide +kernel
theorem dX10_takeSign_5 : decode cX10_takeSign 5 = .ok (.ifCond .eq 16, 3) := by decide +kernel
theorem dX10_takeSign_8 : decode cX10_takeSign 8 = .ok (.aload_n 0, 1) := by decide +kernel
theorem dX10_takeSign_9 : decode cX10_takeSign 9 = .ok (.dup, 1) := by decide +kernel
theorem dX10_takeSign_10 : decode cX10_takeSign 10 = .ok (.getfield 191, 3) := by decide +kernel
theorem dX10_takeSign_13 : decode cX10_takeSign 13 = .ok (.iconst 1, 1) := by decide +kernel
theorem dX10_takeSign_14 : decode cX10_takeSign 14 = .ok (.iadd, 1) := by decide +kernel
theorem dX10_takeSign_15 : decode cX10_takeSign 15 = .ok (.putfield 191, 3) := by decide +kernel
theorem dX10_takeSign_18 : decode cX10_takeSign 18 = .ok (.goto 8, 3) := by decide +kernel
theorem dX10_takeSign_21 : decode cX10_takeSign 21 = .ok (.aload_n 0, 1) := by decide +kernel
theorem dX10_takeSign_22 : decode cX10_takeSign 22 = .ok (.iconst 1, 1) := by decide +kernel
theorem dX10_takeSign_23 : decode cX10_takeSign 23 = .ok (.invokevirtual 200, 3) := by decide +kernel
theorem dX10_takeSign_26 : decode cX10_takeSign 26 = .ok (.return_, 1) := by decide +kernel
theorem dX10_hasSign_0 : decode cX10_hasSign 0 = .ok (.aload_n 0, 1) := by decide +kernel
theorem dX10_hasSign_1 : decode cX10_hasSign 1 = .ok (.iload_n 1, 1) := by decide +kernel
theorem dX10_hasSign_2 : decode cX10_hasSign 2 = .ok (.invokevirtual 197, 3) := by decide +kernel
theorem dX10_hasSign_5 : decode cX10_hasSign 5 = .ok (.istore_n 2, 1) := by decide +kernel
theorem dX10_hasSign_6 : decode cX10_hasSign 6 = .ok (.aload_n 0, 1) := by decide +kernel
theorem dX10_hasSign_7 : decode cX10_hasSign 7 = .ok (.dup, 1) := by decide +kernel
theorem dX10_hasSign_8 : decode cX10_hasSign 8 = .ok (.getfield 191, 3) := by decide +kernel
theorem dX10_hasSign_11 : decode cX10_hasSign 11 = .ok (.iload_n 2, 1) := by decide +kernel
theorem dX10_hasSign_12 : decode cX10_hasSign 12 = .ok (.ifCond .eq 7, 3) := by decide +kernel
theorem dX10_hasSign_15 : decode cX10_hasSign 15 = .ok (.iconst 1, 1) := by decide +kernel
theorem dX10_hasSign_16 : decode cX10_hasSign 16 = .ok (.goto 4, 3) := by decide +kernel
theorem dX10_hasSign_19 : decode cX10_hasSign 19 = .ok (.iconst 0, 1) := by decide +kernel
theorem dX10_hasSign_20 : decode cX10_hasSign 20 = .ok (.iadd, 1) := by decide +kernel
theorem dX10_hasSign_21 : decode cX10_hasSign 21 = .ok (.putfield 191, 3) := by decide +kernel
theorem dX10_hasSign_24 : decode cX10_hasSign 24 = .ok (.iload_n 2, 1) := by decide +kernel
theorem dX10_hasSign_25 : decode cX10_hasSign 25 = .ok (.ireturn, 1) := by decide +kernel
theorem dX10_hasWord_0 : decode cX10_hasWord 0 = .ok (.aload_n 0, 1) := by decide +kernel
theorem dX10_hasWord_1 : decode cX10_hasWord 1 = .ok (.iload_n 1, 1) := by decide +kernel
theorem dX10_hasWord_2 : decode cX10_hasWord 2 = .ok (.invokevirtual 204, 3) := by decide +kernel
theorem dX10_hasWord_5 : decode cX10_hasWord 5 = .ok (.istore_n 2, 1) := by decide +kernel
theorem dX10_hasWord_6 : decode cX10_hasWord 6 = .ok (.aload_n 0, 1) := by decide +kernel
theorem dX10_hasWord_7 : decode cX10_hasWord 7 = .ok (.dup, 1) := by decide +kernel
theorem dX10_hasWord_8 : decode cX10_hasWord 8 = .ok (.getfield 191, 3) := by decide +kernel
theorem dX10_hasWord_11 : decode cX10_hasWord 11 = .ok (.iload_n 2, 1) := by decide +kernel
theorem dX10_hasWord_12 : decode cX10_hasWord 12 = .ok (.ifCond .eq 7, 3) := by decide +kernel
theorem dX10_hasWord_15 : decode cX10_hasWord 15 = .ok (.iconst 1, 1) := by decide +kernel
theorem dX10_hasWord_16 : decode cX10_hasWord 16 = .ok (.goto 4, 3) := by decide +kernel
theorem dX10_hasWord_19 : decode cX10_hasWord 19 = .ok (.iconst 0, 1) := by decide +kernel
theorem dX10_hasWord_20 : decode cX10_hasWord 20 = .ok (.iadd, 1) := by decide +kernel
theorem dX10_hasWord_21 : decode cX10_hasWord 21 = .ok (.putfield 191, 3) := by decide +kernel
theorem dX10_hasWord_24 : decode cX10_hasWord 24 = .ok (.iload_n 2, 1) := by decide +kernel
theorem dX10_hasWord_25 : decode cX10_hasWord 25 = .ok (.ireturn, 1) := by decide +kernel
theorem dX10_takeWord_0 : decode cX10_takeWord 0 = .ok (.aload_n 0, 1) := by decide +kernel
theorem dX10_takeWord_1 : decode cX10_takeWord 1 = .ok (.iload_n 1, 1) := by decide +kernel
theorem dX10_takeWord_2 : decode cX10_takeWord 2 = .ok (.invokevirtual 207, 3) := by decide +kernel
theorem dX10_takeWord_5 : decode cX10_takeWord 5 = .ok (.ifCond .ne 8, 3) := by decide +kernel
theorem dX10_takeWord_8 : decode cX10_takeWord 8 = .ok (.aload_n 0, 1) := by decide +kernel
theorem dX10_takeWord_9 : decode cX10_takeWord 9 = .ok (.iconst 1, 1) := by decide +kernel
theorem dX10_takeWord_10 : decode cX10_takeWord 10 = .ok (.invokevirtual 200, 3) := by decide +kernel
theorem dX10_takeWord_13 : decode cX10_takeWord 13 = .ok (.return_, 1) := by decide +kernel
theorem dX10_emit_0 : decode cX10_emit 0 = .ok (.aload_n 0, 1) := by decide +kernel
theorem dX10_emit_1 : decode cX10_emit 1 = .ok (.getfield 69, 3) := by decide +kernel
theorem dX10_emit_4 : decode cX10_emit 4 = .ok (.sipush 660, 3) := by decide +kernel
theorem dX10_emit_7 : decode cX10_emit 7 = .ok (.aload_n 0, 1) := by decide +kernel
theorem dX10_emit_8 : decode cX10_emit 8 = .ok (.getfield 210, 3) := by decide +kernel
theorem dX10_emit_11 : decode cX10_emit 11 = .ok (.imul, 1) := by decide +kernel
theorem dX10_emit_12 : decode cX10_emit 12 = .ok (.aload_n 0, 1) := by decide +kernel
theorem dX10_emit_13 : decode cX10_emit 13 = .ok (.getfield 213, 3) := by decide +kernel
theorem dX10_emit_16 : decode cX10_emit 16 = .ok (.iadd, 1) := by decide +kernel
theorem dX10_emit_17 : decode cX10_emit 17 = .ok (.iload_n 1, 1) := by decide +kernel
theorem dX10_emit_18 : decode cX10_emit 18 = .ok (.iastore, 1) := by decide +kernel
theorem dX10_emit_19 : decode cX10_emit 19 = .ok (.aload_n 0, 1) := by decide +kernel
theorem dX10_emit_20 : decode cX10_emit 20 = .ok (.getfield 72, 3) := by decide +kernel
theorem dX10_emit_23 : decode cX10_emit 23 = .ok (.sipush 660, 3) := by decide +kernel
theorem dX10_emit_26 : decode cX10_emit 26 = .ok (.aload_n 0, 1) := by decide +kernel
theorem dX10_emit_27 : decode cX10_emit 27 = .ok (.getfield 210, 3) := by decide +kernel
theorem dX10_emit_30 : decode cX10_emit 30 = .ok (.imul, 1) := by decide +kernel
theorem dX10_emit_31 : decode cX10_emit 31 = .ok (.aload_n 0, 1) := by decide +kernel
theorem dX10_emit_32 : decode cX10_emit 32 = .ok (.getfield 213, 3) := by decide +kernel
theorem dX10_emit_35 : decode cX10_emit 35 = .ok (.iadd, 1) := by decide +kernel
theorem dX10_emit_36 : decode cX10_emit 36 = .ok (.iload_n 2, 1) := by decide +kernel
theorem dX10_emit_37 : decode cX10_emit 37 = .ok (.iastore, 1) := by decide +kernel
theorem dX10_emit_38 : decode cX10_emit 38 = .ok (.aload_n 0, 1) := by decide +kernel
theorem dX10_emit_39 : decode cX10_emit 39 = .ok (.dup, 1) := by decide +kernel
theorem dX10_emit_40 : decode cX10_emit 40 = .ok (.getfield 213, 3) := by decide +kernel
theorem dX10_emit_43 : decode cX10_emit 43 = .ok (.iconst 1, 1) := by decide +kernel
theorem dX10_emit_44 : decode cX10_emit 44 = .ok (.iadd, 1) := by decide +kernel
theorem dX10_emit_45 : decode cX10_emit 45 = .ok (.putfield 213, 3) := by decide +kernel
theorem dX10_emit_48 : decode cX10_emit 48 = .ok (.return_, 1) := by decide +kernel
theorem dX10_text_0 : decode cX10_text 0 = .ok (.aload_n 0, 1) := by decide +kernel
theorem dX10_text_1 : decode cX10_text 1 = .ok (.iconst 0, 1) := by decide +kernel
theorem dX10_text_2 : decode cX10_text 2 = .ok (.putfield 1, 3) := by decide +kernel
theorem dX10_text_5 : decode cX10_text 5 = .ok (.aload_n 0, 1) := by decide +kernel
theorem dX10_text_6 : decode cX10_text 6 = .ok (.invokevirtual 216, 3) := by decide +kernel
theorem dX10_text_9 : decode cX10_text 9 = .ok (.aload_n 0, 1) := by decide +kernel
theorem dX10_text_10 : decode cX10_text 10 = .ok (.iconst 1, 1) := by decide +kernel
theorem dX10_text_11 : decode cX10_text 11 = .ok (.aload_n 0, 1) := by decide +kernel
theorem dX10_text_12 : decode cX10_text 12 = .ok (.getfield 219, 3) := by decide +kernel
theorem dX10_text_15 : decode cX10_text 15 = .ok (.isub, 1) := by decide +kernel
theorem dX10_text_16 : decode cX10_text 16 = .ok (.putfield 210, 3) := by decide +kernel
theorem dX10_text_19 : decode cX10_text 19 = .ok (.aload_n 0, 1) := by decide +kernel
theorem dX10_text_20 : decode cX10_text 20 = .ok (.getfield 59, 3) := by decide +kernel
theorem dX10_text_23 : decode cX10_text 23 = .ok (.aload_n 0, 1) := by decide +kernel
theorem dX10_text_24 : decode cX10_text 24 = .ok (.getfield 210, 3) := by decide +kernel
theorem dX10_text_27 : decode cX10_text 27 = .ok (.iconst 0, 1) := by decide +kernel
theorem dX10_text_28 : decode cX10_text 28 = .ok (.iastore, 1) := by decide +kernel
theorem dX10_text_29 : decode cX10_text 29 = .ok (.aload_n 0, 1) := by decide +kernel
theorem dX10_text_30 : decode cX10_text 30 = .ok (.iconst 0, 1) := by decide +kernel
theorem dX10_text_31 : decode cX10_text 31 = .ok (.putfield 213, 3) := by decide +kernel
theorem dX10_text_34 : decode cX10_text 34 = .ok (.aload_n 0, 1) := by decide +kernel
theorem dX10_text_35 : decode cX10_text 35 = .ok (.getfield 194, 3) := by decide +kernel
theorem dX10_text_38 : decode cX10_text 38 = .ok (.ifCond .ne 22, 3) := by decide +kernel
theorem dX10_text_41 : decode cX10_text 41 = .ok (.aload_n 0, 1) := by decide +kernel
theorem dX10_text_42 : decode cX10_text 42 = .ok (.getfield 24, 3) := by decide +kernel
theorem dX10_text_45 : decode cX10_text 45 = .ok (.aload_n 0, 1) := by decide +kernel
theorem dX10_text_46 : decode cX10_text 46 = .ok (.getfield 191, 3) := by decide +kernel
theorem dX10_text_49 : decode cX10_text 49 = .ok (.iaload, 1) := by decide +kernel
theorem dX10_text_50 : decode cX10_text 50 = .ok (.ifCond .eq 10, 3) := by decide +kernel
theorem dX10_text_53 : decode cX10_text 53 = .ok (.aload_n 0, 1) := by decide +kernel
theorem dX10_text_54 : decode cX10_text 54 = .ok (.invokevirtual 222, 3) := by decide +kernel
theorem dX10_text_57 : decode cX10_text 57 = .ok (.goto (-23), 3) := by decide +kernel
theorem dX10_text_60 : decode cX10_text 60 = .ok (.aload_n 0, 1) := by decide +kernel
theorem dX10_text_61 : decode cX10_text 61 = .ok (.getfield 194, 3) := by decide +kernel
theorem dX10_text_64 : decode cX10_text 64 = .ok (.ifCond .ne 11, 3) := by decide +kernel
theorem dX10_text_67 : decode cX10_text 67 = .ok (.aload_n 0, 1) := by decide +kernel
theorem dX10_text_68 : decode cX10_text 68 = .ok (.aload_n 0, 1) := by decide +kernel
theorem dX10_text_69 : decode cX10_text 69 = .ok (.getfield 210, 3) := by decide +kernel
theorem dX10_text_72 : decode cX10_text 72 = .ok (.putfield 219, 3) := by decide +kernel
theorem dX10_text_75 : decode cX10_text 75 = .ok (.aload_n 0, 1) := by decide +kernel
theorem dX10_text_76 : decode cX10_text 76 = .ok (.getfield 194, 3) := by decide +kernel
theorem dX10_text_79 : decode cX10_text 79 = .ok (.ireturn, 1) := by decide +kernel
theorem dX10_line_0 : decode cX10_line 0 = .ok (.aload_n 0, 1) := by decide +kernel
theorem dX10_line_1 : decode cX10_line 1 = .ok (.iconst 1, 1) := by decide +kernel
theorem dX10_line_2 : decode cX10_line 2 = .ok (.invokevirtual 204, 3) := by decide +kernel
theorem dX10_line_5 : decode cX10_line 5 = .ok (.istore_n 1, 1) := by decide +kernel
theorem dX10_line_6 : decode cX10_line 6 = .ok (.iload_n 1, 1) := by decide +kernel
theorem dX10_line_7 : decode cX10_line 7 = .ok (.ifCond .ne 19, 3) := by decide +kernel
theorem dX10_line_10 : decode cX10_line 10 = .ok (.aload_n 0, 1) := by decide +kernel
theorem dX10_line_11 : decode cX10_line 11 = .ok (.iconst 0, 1) := by decide +kernel
theorem dX10_line_12 : decode cX10_line 12 = .ok (.invokevirtual 204, 3) := by decide +kernel
theorem dX10_line_15 : decode cX10_line 15 = .ok (.ifCond .ne 11, 3) := by decide +kernel
theorem dX10_line_18 : decode cX10_line 18 = .ok (.aload_n 0, 1) := by decide +kernel
theorem dX10_line_19 : decode cX10_line 19 = .ok (.iconst 1, 1) := by decide +kernel
theorem dX10_line_20 : decode cX10_line 20 = .ok (.invokevirtual 200, 3) := by decide +kernel
theorem dX10_line_23 : decode cX10_line 23 = .ok (.goto 22, 3) := by decide +kernel
theorem dX10_line_26 : decode cX10_line 26 = .ok (.aload_n 0, 1) := by decide +kernel
theorem dX10_line_27 : decode cX10_line 27 = .ok (.getfield 59, 3) := by decide +kernel
theorem dX10_line_30 : decode cX10_line 30 = .ok (.aload_n 0, 1) := by decide +kernel
theorem dX10_line_31 : decode cX10_line 31 = .ok (.getfield 210, 3) := by decide +kernel
theorem dX10_line_34 : decode cX10_line 34 = .ok (.iaload, 1) := by decide +kernel
theorem dX10_line_35 : decode cX10_line 35 = .ok (.bipush 16, 2) := by decide +kernel
theorem dX10_line_37 : decode cX10_line 37 = .ok (.if_icmp .ne 8, 3) := by decide +kernel
theorem dX10_line_40 : decode cX10_line 40 = .ok (.aload_n 0, 1) := by decide +kernel
theorem dX10_line_41 : decode cX10_line 41 = .ok (.iconst 5, 1) := by decide +kernel
theorem dX10_line_42 : decode cX10_line 42 = .ok (.invokevirtual 200, 3) := by decide +kernel
theorem dX10_line_45 : decode cX10_line 45 = .ok (.aload_n 0, 1) := by decide +kernel
theorem dX10_line_46 : decode cX10_line 46 = .ok (.getfield 194, 3) := by decide +kernel
theorem dX10_line_49 : decode cX10_line 49 = .ok (.ifCond .le 4, 3) := by decide +kernel
theorem dX10_line_52 : decode cX10_line 52 = .ok (.return_, 1) := by decide +kernel
theorem dX10_line_53 : decode cX10_line 53 = .ok (.aload_n 0, 1) := by decide +kernel
theorem dX10_line_54 : decode cX10_line 54 = .ok (.dup, 1) := by decide +kernel
theorem dX10_line_55 : decode cX10_line 55 = .ok (.getfield 191, 3) := by decide +kernel
theorem dX10_line_58 : decode cX10_line 58 = .ok (.iconst 1, 1) := by decide +kernel
theorem dX10_line_59 : decode cX10_line 59 = .ok (.iadd, 1) := by decide +kernel
theorem dX10_line_60 : decode cX10_line 60 = .ok (.putfield 191, 3) := by decide +kernel
theorem dX10_line_63 : decode cX10_line 63 = .ok (.bipush 16, 2) := by decide +kernel
theorem dX10_line_65 : decode cX10_line 65 = .ok (.aload_n 0, 1) := by decide +kernel
theorem dX10_line_66 : decode cX10_line 66 = .ok (.getfield 210, 3) := by decide +kernel
theorem dX10_line_69 : decode cX10_line 69 = .ok (.imul, 1) := by decide +kernel
theorem dX10_line_70 : decode cX10_line 70 = .ok (.aload_n 0, 1) := by decide +kernel
theorem dX10_line_71 : decode cX10_line 71 = .ok (.getfield 59, 3) := by decide +kernel
theorem dX10_line_74 : decode cX10_line 74 = .ok (.aload_n 0, 1) := by decide +kernel
theorem dX10_line_75 : decode cX10_line 75 = .ok (.getfield 210, 3) := by decide +kernel
theorem dX10_line_78 : decode cX10_line 78 = .ok (.iaload, 1) := by decide +kernel
theorem dX10_line_79 : decode cX10_line 79 = .ok (.iadd, 1) := by decide +kernel
theorem dX10_line_80 : decode cX10_line 80 = .ok (.istore_n 2, 1) := by decide +kernel
theorem dX10_line_81 : decode cX10_line 81 = .ok (.aload_n 0, 1) := by decide +kernel
theorem dX10_line_82 : decode cX10_line 82 = .ok (.getfield 62, 3) := by decide +kernel
theorem dX10_line_85 : decode cX10_line 85 = .ok (.iload_n 2, 1) := by decide +kernel
theorem dX10_line_86 : decode cX10_line 86 = .ok (.iload_n 1, 1) := by decide +kernel
theorem dX10_line_87 : decode cX10_line 87 = .ok (.bastore, 1) := by decide +kernel
theorem dX10_line_88 : decode cX10_line 88 = .ok (.aload_n 0, 1) := by decide +kernel
theorem dX10_line_89 : decode cX10_line 89 = .ok (.iconst 2, 1) := by decide +kernel
theorem dX10_line_90 : decode cX10_line 90 = .ok (.invokevirtual 225, 3) := by decide +kernel
theorem dX10_line_93 : decode cX10_line 93 = .ok (.aload_n 0, 1) := by decide +kernel
theorem dX10_line_94 : decode cX10_line 94 = .ok (.getfield 66, 3) := by decide +kernel
theorem dX10_line_97 : decode cX10_line 97 = .ok (.iload_n 2, 1) := by decide +kernel
theorem dX10_line_98 : decode cX10_line 98 = .ok (.sipush 660, 3) := by decide +kernel
theorem dX10_line_101 : decode cX10_line 101 = .ok (.aload_n 0, 1) := by decide +kernel
theorem dX10_line_102 : decode cX10_line 102 = .ok (.getfield 210, 3) := by decide +kernel
theorem dX10_line_105 : decode cX10_line 105 = .ok (.imul, 1) := by decide +kernel
theorem dX10_line_106 : decode cX10_line 106 = .ok (.aload_n 0, 1) := by decide +kernel
theorem dX10_line_107 : decode cX10_line 107 = .ok (.getfield 213, 3) := by decide +kernel
theorem dX10_line_110 : decode cX10_line 110 = .ok (.iadd, 1) := by decide +kernel
theorem dX10_line_111 : decode cX10_line 111 = .ok (.iastore, 1) := by decide +kernel
theorem dX10_line_112 : decode cX10_line 112 = .ok (.aload_n 0, 1) := by decide +kernel
theorem dX10_line_113 : decode cX10_line 113 = .ok (.iconst 0, 1) := by decide +kernel
theorem dX10_line_114 : decode cX10_line 114 = .ok (.putfield 228, 3) := by decide +kernel
theorem dX10_line_117 : decode cX10_line 117 = .ok (.aload_n 0, 1) := by decide +kernel
theorem dX10_line_118 : decode cX10_line 118 = .ok (.invokevirtual 231, 3) := by decide +kernel
theorem dX10_line_121 : decode cX10_line 121 = .ok (.iconst 1, 1) := by decide +kernel
theorem dX10_line_122 : decode cX10_line 122 = .ok (.istore_n 3, 1) := by decide +kernel
theorem dX10_line_123 : decode cX10_line 123 = .ok (.iload_n 3, 1) := by decide +kernel
theorem dX10_line_124 : decode cX10_line 124 = .ok (.ifCond .eq 33, 3) := by decide +kernel
theorem dX10_line_127 : decode cX10_line 127 = .ok (.aload_n 0, 1) := by decide +kernel
theorem dX10_line_128 : decode cX10_line 128 = .ok (.getfield 194, 3) := by decide +kernel
theorem dX10_line_131 : decode cX10_line 131 = .ok (.ifCond .ne 26, 3) := by decide +kernel
theorem dX10_line_134 : decode cX10_line 134 = .ok (.aload_n 0, 1) := by decide +kernel
theorem dX10_line_135 : decode cX10_line 135 = .ok (.invokevirtual 234, 3) := by decide +kernel
theorem dX10_line_138 : decode cX10_line 138 = .ok (.ifCond .ne 10, 3) := by decide +kernel
theorem dX10_line_141 : decode cX10_line 141 = .ok (.aload_n 0, 1) := by decide +kernel
theorem dX10_line_142 : decode cX10_line 142 = .ok (.invokevirtual 238, 3) := by decide +kernel
theorem dX10_line_145 : decode cX10_line 145 = .ok (.ifCond .eq 7, 3) := by decide +kernel
theorem dX10_line_148 : decode cX10_line 148 = .ok (.iconst 1, 1) := by decide +kernel
theorem dX10_line_149 : decode cX10_line 149 = .ok (.goto 4, 3) := by decide +kernel
theorem dX10_line_152 : decode cX10_line 152 = .ok (.iconst 0, 1) := by decide +kernel
theorem dX10_line_153 : decode cX10_line 153 = .ok (.istore_n 3, 1) := by decide +kernel
theorem dX10_line_154 : decode cX10_line 154 = .ok (.goto (-31), 3) := by decide +kernel
theorem dX10_line_157 : decode cX10_line 157 = .ok (.aload_n 0, 1) := by decide +kernel
theorem dX10_line_158 : decode cX10_line 158 = .ok (.iconst 0, 1) := by decide +kernel
theorem dX10_line_159 : decode cX10_line 159 = .ok (.iconst 0, 1) := by decide +kernel
theorem dX10_line_160 : decode cX10_line 160 = .ok (.invokevirtual 241, 3) := by decide +kernel
theorem dX10_line_163 : decode cX10_line 163 = .ok (.aload_n 0, 1) := by decide +kernel
theorem dX10_line_164 : decode cX10_line 164 = .ok (.bipush 59, 2) := by decide +kernel
theorem dX10_line_166 : decode cX10_line 166 = .ok (.invokevirtual 245, 3) := by decide +kernel
theorem dX10_line_169 : decode cX10_line 169 = .ok (.aload_n 0, 1) := by decide +kernel
theorem dX10_line_170 : decode cX10_line 170 = .ok (.getfield 59, 3) := by decide +kernel
theorem dX10_line_173 : decode cX10_line 173 = .ok (.aload_n 0, 1) := by decide +kernel
theorem dX10_line_174 : decode cX10_line 174 = .ok (.getfield 210, 3) := by decide +kernel
theorem dX10_line_177 : decode cX10_line 177 = .ok (.dup2, 1) := by decide +kernel
theorem dX10_line_178 : decode cX10_line 178 = .ok (.iaload, 1) := by decide +kernel
theorem dX10_line_179 : decode cX10_line 179 = .ok (.iconst 1, 1) := by decide +kernel
theorem dX10_line_180 : decode cX10_line 180 = .ok (.iadd, 1) := by decide +kernel
theorem dX10_line_181 : decode cX10_line 181 = .ok (.iastore, 1) := by decide +kernel
theorem dX10_line_182 : decode cX10_line 182 = .ok (.return_, 1) := by decide +kernel
theorem dX10_opens_0 : decode cX10_opens 0 = .ok (.aload_n 0, 1) := by decide +kernel
theorem dX10_opens_1 : decode cX10_opens 1 = .ok (.getfield 75, 3) := by decide +kernel
theorem dX10_opens_4 : decode cX10_opens 4 = .ok (.aload_n 0, 1) := by decide +kernel
theorem dX10_opens_5 : decode cX10_opens 5 = .ok (.getfield 228, 3) := by decide +kernel
theorem dX10_opens_8 : decode cX10_opens 8 = .ok (.iconst 0, 1) := by decide +kernel
theorem dX10_opens_9 : decode cX10_opens 9 = .ok (.iastore, 1) := by decide +kernel
theorem dX10_opens_10 : decode cX10_opens 10 = .ok (.aload_n 0, 1) := by decide +kernel
theorem dX10_opens_11 : decode cX10_opens 11 = .ok (.getfield 78, 3) := by decide +kernel
theorem dX10_opens_14 : decode cX10_opens 14 = .ok (.aload_n 0, 1) := by decide +kernel
theorem dX10_opens_15 : decode cX10_opens 15 = .ok (.getfield 228, 3) := by decide +kernel
theorem dX10_opens_18 : decode cX10_opens 18 = .ok (.iconst 0, 1) := by decide +kernel
theorem dX10_opens_19 : decode cX10_opens 19 = .ok (.iastore, 1) := by decide +kernel
theorem dX10_opens_20 : decode cX10_opens 20 = .ok (.aload_n 0, 1) := by decide +kernel
theorem dX10_opens_21 : decode cX10_opens 21 = .ok (.getfield 81, 3) := by decide +kernel
theorem dX10_opens_24 : decode cX10_opens 24 = .ok (.aload_n 0, 1) := by decide +kernel
theorem dX10_opens_25 : decode cX10_opens 25 = .ok (.getfield 228, 3) := by decide +kernel
theorem dX10_opens_28 : decode cX10_opens 28 = .ok (.iconst 0, 1) := by decide +kernel
theorem dX10_opens_29 : decode cX10_opens 29 = .ok (.iastore, 1) := by decide +kernel
theorem dX10_opens_30 : decode cX10_opens 30 = .ok (.return_, 1) := by decide +kernel
theorem dX10_partWord_0 : decode cX10_partWord 0 = .ok (.iconst 0, 1) := by decide +kernel
theorem dX10_partWord_1 : decode cX10_partWord 1 = .ok (.istore_n 1, 1) := by decide +kernel
theorem dX10_partWord_2 : decode cX10_partWord 2 = .ok (.iload_n 1, 1) := by decide +kernel
theorem dX10_partWord_3 : decode cX10_partWord 3 = .ok (.bipush 7, 2) := by decide +kernel
theorem dX10_partWord_5 : decode cX10_partWord 5 = .ok (.if_icmp .ge 21, 3) := by decide +kernel
theorem dX10_partWord_8 : decode cX10_partWord 8 = .ok (.aload_n 0, 1) := by decide +kernel
theorem dX10_partWord_9 : decode cX10_partWord 9 = .ok (.iconst 4, 1) := by decide +kernel
theorem dX10_partWord_10 : decode cX10_partWord 10 = .ok (.iload_n 1, 1) := by decide +kernel
theorem dX10_partWord_11 : decode cX10_partWord 11 = .ok (.iadd, 1) := by decide +kernel
theorem dX10_partWord_12 : decode cX10_partWord 12 = .ok (.invokevirtual 204, 3) := by decide +kernel
theorem dX10_partWord_15 : decode cX10_partWord 15 = .ok (.ifCond .eq 5, 3) := by decide +kernel
theorem dX10_partWord_18 : decode cX10_partWord 18 = .ok (.iload_n 1, 1) := by decide +kernel
theorem dX10_partWord_19 : decode cX10_partWord 19 = .ok (.ireturn, 1) := by decide +kernel
theorem dX10_partWord_20 : decode cX10_partWord 20 = .ok (.iinc 1 1, 3) := by decide +kernel
theorem dX10_partWord_23 : decode cX10_partWord 23 = .ok (.goto (-21), 3) := by decide +kernel
theorem dX10_partWord_26 : decode cX10_partWord 26 = .ok (.iconst (-1), 1) := by decide +kernel
theorem dX10_partWord_27 : decode cX10_partWord 27 = .ok (.ireturn, 1) := by decide +kernel
theorem dX10_part_0 : decode cX10_part 0 = .ok (.aload_n 0, 1) := by decide +kernel
theorem dX10_part_1 : decode cX10_part 1 = .ok (.invokevirtual 248, 3) := by decide +kernel
theorem dX10_part_4 : decode cX10_part 4 = .ok (.istore_n 1, 1) := by decide +kernel
theorem dX10_part_5 : decode cX10_part 5 = .ok (.aload_n 0, 1) := by decide +kernel
theorem dX10_part_6 : decode cX10_part 6 = .ok (.getfield 194, 3) := by decide +kernel
theorem dX10_part_9 : decode cX10_part 9 = .ok (.ifCond .ne 37, 3) := by decide +kernel
theorem dX10_part_12 : decode cX10_part 12 = .ok (.aload_n 0, 1) := by decide +kernel
theorem dX10_part_13 : decode cX10_part 13 = .ok (.getfield 24, 3) := by decide +kernel
theorem dX10_part_16 : decode cX10_part 16 = .ok (.aload_n 0, 1) := by decide +kernel
theorem dX10_part_17 : decode cX10_part 17 = .ok (.getfield 191, 3) := by decide +kernel
theorem dX10_part_20 : decode cX10_part 20 = .ok (.iaload, 1) := by decide +kernel
theorem dX10_part_21 : decode cX10_part 21 = .ok (.iconst 2, 1) := by decide +kernel
theorem dX10_part_22 : decode cX10_part 22 = .ok (.if_icmp .eq 24, 3) := by decide +kernel
theorem dX10_part_25 : decode cX10_part 25 = .ok (.aload_n 0, 1) := by decide +kernel
theorem dX10_part_26 : decode cX10_part 26 = .ok (.bipush 40, 2) := by decide +kernel
theorem dX10_part_28 : decode cX10_part 28 = .ok (.invokevirtual 197, 3) := by decide +kernel
theorem dX10_part_31 : decode cX10_part 31 = .ok (.ifCond .ne 15, 3) := by decide +kernel
theorem dX10_part_34 : decode cX10_part 34 = .ok (.iload_n 1, 1) := by decide +kernel
theorem dX10_part_35 : decode cX10_part 35 = .ok (.ifCond .ge 11, 3) := by decide +kernel
theorem dX10_part_38 : decode cX10_part 38 = .ok (.aload_n 0, 1) := by decide +kernel
theorem dX10_part_39 : decode cX10_part 39 = .ok (.iconst 1, 1) := by decide +kernel
theorem dX10_part_40 : decode cX10_part 40 = .ok (.invokevirtual 200, 3) := by decide +kernel
theorem dX10_part_43 : decode cX10_part 43 = .ok (.goto 16, 3) := by decide +kernel
theorem dX10_part_46 : decode cX10_part 46 = .ok (.aload_n 0, 1) := by decide +kernel
theorem dX10_part_47 : decode cX10_part 47 = .ok (.getfield 228, 3) := by decide +kernel
theorem dX10_part_50 : decode cX10_part 50 = .ok (.iconst 5, 1) := by decide +kernel
theorem dX10_part_51 : decode cX10_part 51 = .ok (.if_icmp .ne 8, 3) := by decide +kernel
theorem dX10_part_54 : decode cX10_part 54 = .ok (.aload_n 0, 1) := by decide +kernel
theorem dX10_part_55 : decode cX10_part 55 = .ok (.iconst 5, 1) := by decide +kernel
theorem dX10_part_56 : decode cX10_part 56 = .ok (.invokevirtual 200, 3) := by decide +kernel
theorem dX10_part_59 : decode cX10_part 59 = .ok (.aload_n 0, 1) := by decide +kernel
theorem dX10_part_60 : decode cX10_part 60 = .ok (.getfield 194, 3) := by decide +kernel
theorem dX10_part_63 : decode cX10_part 63 = .ok (.ifCond .le 5, 3) := by decide +kernel
theorem dX10_part_66 : decode cX10_part 66 = .ok (.iconst 0, 1) := by decide +kernel
theorem dX10_part_67 : decode cX10_part 67 = .ok (.ireturn, 1) := by decide +kernel
theorem dX10_part_68 : decode cX10_part 68 = .ok (.aload_n 0, 1) := by decide +kernel
theorem dX10_part_69 : decode cX10_part 69 = .ok (.bipush 40, 2) := by decide +kernel
theorem dX10_part_71 : decode cX10_part 71 = .ok (.invokevirtual 252, 3) := by decide +kernel
theorem dX10_part_74 : decode cX10_part 74 = .ok (.ifCond .eq 19, 3) := by decide +kernel
theorem dX10_part_77 : decode cX10_part 77 = .ok (.aload_n 0, 1) := by decide +kernel
theorem dX10_part_78 : decode cX10_part 78 = .ok (.dup, 1) := by decide +kernel
theorem dX10_part_79 : decode cX10_part 79 = .ok (.getfield 228, 3) := by decide +kernel
theorem dX10_part_82 : decode cX10_part 82 = .ok (.iconst 1, 1) := by decide +kernel
theorem dX10_part_83 : decode cX10_part 83 = .ok (.iadd, 1) := by decide +kernel
theorem dX10_part_84 : decode cX10_part 84 = .ok (.putfield 228, 3) := by decide +kernel
theorem dX10_part_87 : decode cX10_part 87 = .ok (.aload_n 0, 1) := by decide +kernel
theorem dX10_part_88 : decode cX10_part 88 = .ok (.invokevirtual 231, 3) := by decide +kernel
theorem dX10_part_91 : decode cX10_part 91 = .ok (.iconst 1, 1) := by decide +kernel
theorem dX10_part_92 : decode cX10_part 92 = .ok (.ireturn, 1) := by decide +kernel
theorem dX10_part_93 : decode cX10_part 93 = .ok (.aload_n 0, 1) := by decide +kernel
theorem dX10_part_94 : decode cX10_part 94 = .ok (.iload_n 1, 1) := by decide +kernel
theorem dX10_part_95 : decode cX10_part 95 = .ok (.ifCond .ge 7, 3) := by decide +kernel
theorem dX10_part_98 : decode cX10_part 98 = .ok (.iconst 1, 1) := by decide +kernel
theorem dX10_part_99 : decode cX10_part 99 = .ok (.goto 4, 3) := by decide +kernel
theorem dX10_part_102 : decode cX10_part 102 = .ok (.iconst 2, 1) := by decide +kernel
theorem dX10_part_103 : decode cX10_part 103 = .ok (.iload_n 1, 1) := by decide +kernel
theorem dX10_part_104 : decode cX10_part 104 = .ok (.ifCond .ge 16, 3) := by decide +kernel
theorem dX10_part_107 : decode cX10_part 107 = .ok (.aload_n 0, 1) := by decide +kernel
theorem dX10_part_108 : decode cX10_part 108 = .ok (.getfield 30, 3) := by decide +kernel
theorem dX10_part_111 : decode cX10_part 111 = .ok (.aload_n 0, 1) := by decide +kernel
theorem dX10_part_112 : decode cX10_part 112 = .ok (.getfield 191, 3) := by decide +kernel
theorem dX10_part_115 : decode cX10_part 115 = .ok (.laload, 1) := by decide +kernel
theorem dX10_part_116 : decode cX10_part 116 = .ok (.l2i, 1) := by decide +kernel
theorem dX10_part_117 : decode cX10_part 117 = .ok (.goto 4, 3) := by decide +kernel
theorem dX10_part_120 : decode cX10_part 120 = .ok (.iload_n 1, 1) := by decide +kernel
theorem dX10_part_121 : decode cX10_part 121 = .ok (.invokevirtual 241, 3) := by decide +kernel
theorem dX10_part_124 : decode cX10_part 124 = .ok (.aload_n 0, 1) := by decide +kernel
theorem dX10_part_125 : decode cX10_part 125 = .ok (.dup, 1) := by decide +kernel
theorem dX10_part_126 : decode cX10_part 126 = .ok (.getfield 191, 3) := by decide +kernel
theorem dX10_part_129 : decode cX10_part 129 = .ok (.iconst 1, 1) := by decide +kernel
theorem dX10_part_130 : decode cX10_part 130 = .ok (.iadd, 1) := by decide +kernel
theorem dX10_part_131 : decode cX10_part 131 = .ok (.putfield 191, 3) := by decide +kernel
theorem dX10_part_134 : decode cX10_part 134 = .ok (.iconst 0, 1) := by decide +kernel
theorem dX10_part_135 : decode cX10_part 135 = .ok (.ireturn, 1) := by decide +kernel
theorem dX10_goesOnBehind_0 : decode cX10_goesOnBehind 0 = .ok (.aload_n 0, 1) := by decide +kernel
theorem dX10_goesOnBehind_1 : decode cX10_goesOnBehind 1 = .ok (.getfield 194, 3) := by decide +kernel
theorem dX10_goesOnBehind_4 : decode cX10_goesOnBehind 4 = .ok (.ifCond .ne 273, 3) := by decide +kernel
theorem dX10_goesOnBehind_7 : decode cX10_goesOnBehind 7 = .ok (.aload_n 0, 1) := by decide +kernel
theorem dX10_goesOnBehind_8 : decode cX10_goesOnBehind 8 = .ok (.getfield 75, 3) := by decide +kernel
theorem dX10_goesOnBehind_11 : decode cX10_goesOnBehind 11 = .ok (.aload_n 0, 1) := by decide +kernel
theorem dX10_goesOnBehind_12 : decode cX10_goesOnBehind 12 = .ok (.getfield 228, 3) := by decide +kernel
theorem dX10_goesOnBehind_15 : decode cX10_goesOnBehind 15 = .ok (.iaload, 1) := by decide +kernel
theorem dX10_goesOnBehind_16 : decode cX10_goesOnBehind 16 = .ok (.ifCond .eq 27, 3) := by decide +kernel
theorem dX10_goesOnBehind_19 : decode cX10_goesOnBehind 19 = .ok (.aload_n 0, 1) := by decide +kernel
theorem dX10_goesOnBehind_20 : decode cX10_goesOnBehind 20 = .ok (.aload_n 0, 1) := by decide +kernel
theorem dX10_goesOnBehind_21 : decode cX10_goesOnBehind 21 = .ok (.getfield 75, 3) := by decide +kernel
theorem dX10_goesOnBehind_24 : decode cX10_goesOnBehind 24 = .ok (.aload_n 0, 1) := by decide +kernel
theorem dX10_goesOnBehind_25 : decode cX10_goesOnBehind 25 = .ok (.getfield 228, 3) := by decide +kernel
theorem dX10_goesOnBehind_28 : decode cX10_goesOnBehind 28 = .ok (.iaload, 1) := by decide +kernel
theorem dX10_goesOnBehind_29 : decode cX10_goesOnBehind 29 = .ok (.iconst 0, 1) := by decide +kernel
theorem dX10_goesOnBehind_30 : decode cX10_goesOnBehind 30 = .ok (.invokevirtual 241, 3) := by decide +kernel
theorem dX10_goesOnBehind_33 : decode cX10_goesOnBehind 33 = .ok (.aload_n 0, 1) := by decide +kernel
theorem dX10_goesOnBehind_34 : decode cX10_goesOnBehind 34 = .ok (.getfield 75, 3) := by decide +kernel
theorem dX10_goesOnBehind_37 : decode cX10_goesOnBehind 37 = .ok (.aload_n 0, 1) := by decide +kernel
theorem dX10_goesOnBehind_38 : decode cX10_goesOnBehind 38 = .ok (.getfield 228, 3) := by decide +kernel
theorem dX10_goesOnBehind_41 : decode cX10_goesOnBehind 41 = .ok (.iconst 0, 1) := by decide +kernel
theorem dX10_goesOnBehind_42 : decode cX10_goesOnBehind 42 = .ok (.iastore, 1) := by decide +kernel
theorem dX10_goesOnBehind_43 : decode cX10_goesOnBehind 43 = .ok (.aload_n 0, 1) := by decide +kernel
theorem dX10_goesOnBehind_44 : decode cX10_goesOnBehind 44 = .ok (.bipush 43, 2) := by decide +kernel
theorem dX10_goesOnBehind_46 : decode cX10_goesOnBehind 46 = .ok (.invokevirtual 197, 3) := by decide +kernel
theorem dX10_goesOnBehind_49 : decode cX10_goesOnBehind 49 = .ok (.ifCond .ne 12, 3) := by decide +kernel
theorem dX10_goesOnBehind_52 : decode cX10_goesOnBehind 52 = .ok (.aload_n 0, 1) := by decide +kernel
theorem dX10_goesOnBehind_53 : decode cX10_goesOnBehind 53 = .ok (.bipush 45, 2) := by decide +kernel
theorem dX10_goesOnBehind_55 : decode cX10_goesOnBehind 55 = .ok (.invokevirtual 197, 3) := by decide +kernel
theorem dX10_goesOnBehind_58 : decode cX10_goesOnBehind 58 = .ok (.ifCond .eq 38, 3) := by decide +kernel
theorem dX10_goesOnBehind_61 : decode cX10_goesOnBehind 61 = .ok (.aload_n 0, 1) := by decide +kernel
theorem dX10_goesOnBehind_62 : decode cX10_goesOnBehind 62 = .ok (.getfield 75, 3) := by decide +kernel
theorem dX10_goesOnBehind_65 : decode cX10_goesOnBehind 65 = .ok (.aload_n 0, 1) := by decide +kernel
theorem dX10_goesOnBehind_66 : decode cX10_goesOnBehind 66 = .ok (.getfield 228, 3) := by decide +kernel
theorem dX10_goesOnBehind_69 : decode cX10_goesOnBehind 69 = .ok (.aload_n 0, 1) := by decide +kernel
theorem dX10_goesOnBehind_70 : decode cX10_goesOnBehind 70 = .ok (.bipush 43, 2) := by decide +kernel
theorem dX10_goesOnBehind_72 : decode cX10_goesOnBehind 72 = .ok (.invokevirtual 197, 3) := by decide +kernel
theorem dX10_goesOnBehind_75 : decode cX10_goesOnBehind 75 = .ok (.ifCond .eq 7, 3) := by decide +kernel
theorem dX10_goesOnBehind_78 : decode cX10_goesOnBehind 78 = .ok (.iconst 3, 1) := by decide +kernel
theorem dX10_goesOnBehind_79 : decode cX10_goesOnBehind 79 = .ok (.goto 4, 3) := by decide +kernel
theorem dX10_goesOnBehind_82 : decode cX10_goesOnBehind 82 = .ok (.iconst 4, 1) := by decide +kernel
theorem dX10_goesOnBehind_83 : decode cX10_goesOnBehind 83 = .ok (.iastore, 1) := by decide +kernel
theorem dX10_goesOnBehind_84 : decode cX10_goesOnBehind 84 = .ok (.aload_n 0, 1) := by decide +kernel
theorem dX10_goesOnBehind_85 : decode cX10_goesOnBehind 85 = .ok (.dup, 1) := by decide +kernel
theorem dX10_goesOnBehind_86 : decode cX10_goesOnBehind 86 = .ok (.getfield 191, 3) := by decide +kernel
theorem dX10_goesOnBehind_89 : decode cX10_goesOnBehind 89 = .ok (.iconst 1, 1) := by decide +kernel
theorem dX10_goesOnBehind_90 : decode cX10_goesOnBehind 90 = .ok (.iadd, 1) := by decide +kernel
theorem dX10_goesOnBehind_91 : decode cX10_goesOnBehind 91 = .ok (.putfield 191, 3) := by decide +kernel
theorem dX10_goesOnBehind_94 : decode cX10_goesOnBehind 94 = .ok (.iconst 1, 1) := by decide +kernel
theorem dX10_goesOnBehind_95 : decode cX10_goesOnBehind 95 = .ok (.ireturn, 1) := by decide +kernel
theorem dX10_goesOnBehind_96 : decode cX10_goesOnBehind 96 = .ok (.aload_n 0, 1) := by decide +kernel
theorem dX10_goesOnBehind_97 : decode cX10_goesOnBehind 97 = .ok (.getfield 78, 3) := by decide +kernel
theorem dX10_goesOnBehind_100 : decode cX10_goesOnBehind 100 = .ok (.aload_n 0, 1) := by decide +kernel
theorem dX10_goesOnBehind_101 : decode cX10_goesOnBehind 101 = .ok (.getfield 228, 3) := by decide +kernel
theorem dX10_goesOnBehind_104 : decode cX10_goesOnBehind 104 = .ok (.iaload, 1) := by decide +kernel
theorem dX10_goesOnBehind_105 : decode cX10_goesOnBehind 105 = .ok (.ifCond .eq 30, 3) := by decide +kernel
theorem dX10_goesOnBehind_108 : decode cX10_goesOnBehind 108 = .ok (.aload_n 0, 1) := by decide +kernel
theorem dX10_goesOnBehind_109 : decode cX10_goesOnBehind 109 = .ok (.aload_n 0, 1) := by decide +kernel
theorem dX10_goesOnBehind_110 : decode cX10_goesOnBehind 110 = .ok (.getfield 78, 3) := by decide +kernel
theorem dX10_goesOnBehind_113 : decode cX10_goesOnBehind 113 = .ok (.aload_n 0, 1) := by decide +kernel
theorem dX10_goesOnBehind_114 : decode cX10_goesOnBehind 114 = .ok (.getfield 228, 3) := by decide +kernel
theorem dX10_goesOnBehind_117 : decode cX10_goesOnBehind 117 = .ok (.iaload, 1) := by decide +kernel
theorem dX10_goesOnBehind_118 : decode cX10_goesOnBehind 118 = .ok (.iconst 0, 1) := by decide +kernel
theorem dX10_goesOnBehind_119 : decode cX10_goesOnBehind 119 = .ok (.invokevirtual 241, 3) := by decide +kernel
theorem dX10_goesOnBehind_122 : decode cX10_goesOnBehind 122 = .ok (.aload_n 0, 1) := by decide +kernel
theorem dX10_goesOnBehind_123 : decode cX10_goesOnBehind 123 = .ok (.getfield 78, 3) := by decide +kernel
theorem dX10_goesOnBehind_126 : decode cX10_goesOnBehind 126 = .ok (.aload_n 0, 1) := by decide +kernel
theorem dX10_goesOnBehind_127 : decode cX10_goesOnBehind 127 = .ok (.getfield 228, 3) := by decide +kernel
theorem dX10_goesOnBehind_130 : decode cX10_goesOnBehind 130 = .ok (.iconst 0, 1) := by decide +kernel
theorem dX10_goesOnBehind_131 : decode cX10_goesOnBehind 131 = .ok (.iastore, 1) := by decide +kernel
theorem dX10_goesOnBehind_132 : decode cX10_goesOnBehind 132 = .ok (.goto 57, 3) := by decide +kernel
theorem dX10_goesOnBehind_135 : decode cX10_goesOnBehind 135 = .ok (.aload_n 0, 1) := by decide +kernel
theorem dX10_goesOnBehind_136 : decode cX10_goesOnBehind 136 = .ok (.bipush 60, 2) := by decide +kernel
theorem dX10_goesOnBehind_138 : decode cX10_goesOnBehind 138 = .ok (.invokevirtual 197, 3) := by decide +kernel
theorem dX10_goesOnBehind_141 : decode cX10_goesOnBehind 141 = .ok (.ifCond .ne 12, 3) := by decide +kernel
theorem dX10_goesOnBehind_144 : decode cX10_goesOnBehind 144 = .ok (.aload_n 0, 1) := by decide +kernel
theorem dX10_goesOnBehind_145 : decode cX10_goesOnBehind 145 = .ok (.bipush 61, 2) := by decide +kernel
theorem dX10_goesOnBehind_147 : decode cX10_goesOnBehind 147 = .ok (.invokevirtual 197, 3) := by decide +kernel
theorem dX10_goesOnBehind_150 : decode cX10_goesOnBehind 150 = .ok (.ifCond .eq 39, 3) := by decide +kernel
theorem dX10_goesOnBehind_153 : decode cX10_goesOnBehind 153 = .ok (.aload_n 0, 1) := by decide +kernel
theorem dX10_goesOnBehind_154 : decode cX10_goesOnBehind 154 = .ok (.getfield 78, 3) := by decide +kernel
theorem dX10_goesOnBehind_157 : decode cX10_goesOnBehind 157 = .ok (.aload_n 0, 1) := by decide +kernel
theorem dX10_goesOnBehind_158 : decode cX10_goesOnBehind 158 = .ok (.getfield 228, 3) := by decide +kernel
theorem dX10_goesOnBehind_161 : decode cX10_goesOnBehind 161 = .ok (.aload_n 0, 1) := by decide +kernel
theorem dX10_goesOnBehind_162 : decode cX10_goesOnBehind 162 = .ok (.bipush 60, 2) := by decide +kernel
theorem dX10_goesOnBehind_164 : decode cX10_goesOnBehind 164 = .ok (.invokevirtual 197, 3) := by decide +kernel
theorem dX10_goesOnBehind_167 : decode cX10_goesOnBehind 167 = .ok (.ifCond .eq 7, 3) := by decide +kernel
theorem dX10_goesOnBehind_170 : decode cX10_goesOnBehind 170 = .ok (.iconst 5, 1) := by decide +kernel
theorem dX10_goesOnBehind_171 : decode cX10_goesOnBehind 171 = .ok (.goto 5, 3) := by decide +kernel
theorem dX10_goesOnBehind_174 : decode cX10_goesOnBehind 174 = .ok (.bipush 6, 2) := by decide +kernel
theorem dX10_goesOnBehind_176 : decode cX10_goesOnBehind 176 = .ok (.iastore, 1) := by decide +kernel
theorem dX10_goesOnBehind_177 : decode cX10_goesOnBehind 177 = .ok (.aload_n 0, 1) := by decide +kernel
theorem dX10_goesOnBehind_178 : decode cX10_goesOnBehind 178 = .ok (.dup, 1) := by decide +kernel
theorem dX10_goesOnBehind_179 : decode cX10_goesOnBehind 179 = .ok (.getfield 191, 3) := by decide +kernel
theorem dX10_goesOnBehind_182 : decode cX10_goesOnBehind 182 = .ok (.iconst 1, 1) := by decide +kernel
theorem dX10_goesOnBehind_183 : decode cX10_goesOnBehind 183 = .ok (.iadd, 1) := by decide +kernel
theorem dX10_goesOnBehind_184 : decode cX10_goesOnBehind 184 = .ok (.putfield 191, 3) := by decide +kernel
theorem dX10_goesOnBehind_187 : decode cX10_goesOnBehind 187 = .ok (.iconst 1, 1) := by decide +kernel
theorem dX10_goesOnBehind_188 : decode cX10_goesOnBehind 188 = .ok (.ireturn, 1) := by decide +kernel
theorem dX10_goesOnBehind_189 : decode cX10_goesOnBehind 189 = .ok (.aload_n 0, 1) := by decide +kernel
theorem dX10_goesOnBehind_190 : decode cX10_goesOnBehind 190 = .ok (.getfield 81, 3) := by decide +kernel
theorem dX10_goesOnBehind_193 : decode cX10_goesOnBehind 193 = .ok (.aload_n 0, 1) := by decide +kernel
theorem dX10_goesOnBehind_194 : decode cX10_goesOnBehind 194 = .ok (.getfield 228, 3) := by decide +kernel
theorem dX10_goesOnBehind_197 : decode cX10_goesOnBehind 197 = .ok (.iaload, 1) := by decide +kernel
theorem dX10_goesOnBehind_198 : decode cX10_goesOnBehind 198 = .ok (.ifCond .eq 20, 3) := by decide +kernel
theorem dX10_goesOnBehind_201 : decode cX10_goesOnBehind 201 = .ok (.aload_n 0, 1) := by decide +kernel
theorem dX10_goesOnBehind_202 : decode cX10_goesOnBehind 202 = .ok (.bipush 7, 2) := by decide +kernel
theorem dX10_goesOnBehind_204 : decode cX10_goesOnBehind 204 = .ok (.iconst 0, 1) := by decide +kernel
theorem dX10_goesOnBehind_205 : decode cX10_goesOnBehind 205 = .ok (.invokevirtual 241, 3) := by decide +kernel
theorem dX10_goesOnBehind_208 : decode cX10_goesOnBehind 208 = .ok (.aload_n 0, 1) := by decide +kernel
theorem dX10_goesOnBehind_209 : decode cX10_goesOnBehind 209 = .ok (.getfield 81, 3) := by decide +kernel
theorem dX10_goesOnBehind_212 : decode cX10_goesOnBehind 212 = .ok (.aload_n 0, 1) := by decide +kernel
theorem dX10_goesOnBehind_213 : decode cX10_goesOnBehind 213 = .ok (.getfield 228, 3) := by decide +kernel
theorem dX10_goesOnBehind_216 : decode cX10_goesOnBehind 216 = .ok (.iconst 0, 1) := by decide +kernel
theorem dX10_goesOnBehind_217 : decode cX10_goesOnBehind 217 = .ok (.iastore, 1) := by decide +kernel
theorem dX10_goesOnBehind_218 : decode cX10_goesOnBehind 218 = .ok (.aload_n 0, 1) := by decide +kernel
theorem dX10_goesOnBehind_219 : decode cX10_goesOnBehind 219 = .ok (.iconst 3, 1) := by decide +kernel
theorem dX10_goesOnBehind_220 : decode cX10_goesOnBehind 220 = .ok (.invokevirtual 204, 3) := by decide +kernel
theorem dX10_goesOnBehind_223 : decode cX10_goesOnBehind 223 = .ok (.ifCond .eq 26, 3) := by decide +kernel
theorem dX10_goesOnBehind_226 : decode cX10_goesOnBehind 226 = .ok (.aload_n 0, 1) := by decide +kernel
theorem dX10_goesOnBehind_227 : decode cX10_goesOnBehind 227 = .ok (.getfield 81, 3) := by decide +kernel
theorem dX10_goesOnBehind_230 : decode cX10_goesOnBehind 230 = .ok (.aload_n 0, 1) := by decide +kernel
theorem dX10_goesOnBehind_231 : decode cX10_goesOnBehind 231 = .ok (.getfield 228, 3) := by decide +kernel
theorem dX10_goesOnBehind_234 : decode cX10_goesOnBehind 234 = .ok (.bipush 7, 2) := by decide +kernel
theorem dX10_goesOnBehind_236 : decode cX10_goesOnBehind 236 = .ok (.iastore, 1) := by decide +kernel
theorem dX10_goesOnBehind_237 : decode cX10_goesOnBehind 237 = .ok (.aload_n 0, 1) := by decide +kernel
theorem dX10_goesOnBehind_238 : decode cX10_goesOnBehind 238 = .ok (.dup, 1) := by decide +kernel
theorem dX10_goesOnBehind_239 : decode cX10_goesOnBehind 239 = .ok (.getfield 191, 3) := by decide +kernel
theorem dX10_goesOnBehind_242 : decode cX10_goesOnBehind 242 = .ok (.iconst 1, 1) := by decide +kernel
theorem dX10_goesOnBehind_243 : decode cX10_goesOnBehind 243 = .ok (.iadd, 1) := by decide +kernel
theorem dX10_goesOnBehind_244 : decode cX10_goesOnBehind 244 = .ok (.putfield 191, 3) := by decide +kernel
theorem dX10_goesOnBehind_247 : decode cX10_goesOnBehind 247 = .ok (.iconst 1, 1) := by decide +kernel
theorem dX10_goesOnBehind_248 : decode cX10_goesOnBehind 248 = .ok (.ireturn, 1) := by decide +kernel
theorem dX10_goesOnBehind_249 : decode cX10_goesOnBehind 249 = .ok (.aload_n 0, 1) := by decide +kernel
theorem dX10_goesOnBehind_250 : decode cX10_goesOnBehind 250 = .ok (.getfield 228, 3) := by decide +kernel
theorem dX10_goesOnBehind_253 : decode cX10_goesOnBehind 253 = .ok (.ifCond .ne 5, 3) := by decide +kernel
theorem dX10_goesOnBehind_256 : decode cX10_goesOnBehind 256 = .ok (.iconst 0, 1) := by decide +kernel
theorem dX10_goesOnBehind_257 : decode cX10_goesOnBehind 257 = .ok (.ireturn, 1) := by decide +kernel
theorem dX10_goesOnBehind_258 : decode cX10_goesOnBehind 258 = .ok (.aload_n 0, 1) := by decide +kernel
theorem dX10_goesOnBehind_259 : decode cX10_goesOnBehind 259 = .ok (.bipush 41, 2) := by decide +kernel
theorem dX10_goesOnBehind_261 : decode cX10_goesOnBehind 261 = .ok (.invokevirtual 245, 3) := by decide +kernel
theorem dX10_goesOnBehind_264 : decode cX10_goesOnBehind 264 = .ok (.aload_n 0, 1) := by decide +kernel
theorem dX10_goesOnBehind_265 : decode cX10_goesOnBehind 265 = .ok (.dup, 1) := by decide +kernel
theorem dX10_goesOnBehind_266 : decode cX10_goesOnBehind 266 = .ok (.getfield 228, 3) := by decide +kernel
theorem dX10_goesOnBehind_269 : decode cX10_goesOnBehind 269 = .ok (.iconst 1, 1) := by decide +kernel
theorem dX10_goesOnBehind_270 : decode cX10_goesOnBehind 270 = .ok (.isub, 1) := by decide +kernel
theorem dX10_goesOnBehind_271 : decode cX10_goesOnBehind 271 = .ok (.putfield 228, 3) := by decide +kernel
theorem dX10_goesOnBehind_274 : decode cX10_goesOnBehind 274 = .ok (.goto (-274), 3) := by decide +kernel
theorem dX10_goesOnBehind_277 : decode cX10_goesOnBehind 277 = .ok (.iconst 0, 1) := by decide +kernel
theorem dX10_goesOnBehind_278 : decode cX10_goesOnBehind 278 = .ok (.ireturn, 1) := by decide +kernel
theorem dX10_worth_0 : decode cX10_worth 0 = .ok (.iload_n 1, 1) := by decide +kernel
theorem dX10_worth_1 : decode cX10_worth 1 = .ok (.istore_n 2, 1) := by decide +kernel
theorem dX10_worth_2 : decode cX10_worth 2 = .ok (.iconst 0, 1) := by decide +kernel
theorem dX10_worth_3 : decode cX10_worth 3 = .ok (.istore_n 3, 1) := by decide +kernel
theorem dX10_worth_4 : decode cX10_worth 4 = .ok (.aload_n 0, 1) := by decide +kernel
theorem dX10_worth_5 : decode cX10_worth 5 = .ok (.getfield 69, 3) := by decide +kernel
theorem dX10_worth_8 : decode cX10_worth 8 = .ok (.iload_n 2, 1) := by decide +kernel
theorem dX10_worth_9 : decode cX10_worth 9 = .ok (.iaload, 1) := by decide +kernel
theorem dX10_worth_10 : decode cX10_worth 10 = .ok (.ifCond .eq 182, 3) := by decide +kernel
theorem dX10_worth_13 : decode cX10_worth 13 = .ok (.aload_n 0, 1) := by decide +kernel
theorem dX10_worth_14 : decode cX10_worth 14 = .ok (.getfield 69, 3) := by decide +kernel
theorem dX10_worth_17 : decode cX10_worth 17 = .ok (.iload_n 2, 1) := by decide +kernel
theorem dX10_worth_18 : decode cX10_worth 18 = .ok (.iaload, 1) := by decide +kernel
theorem dX10_worth_19 : decode cX10_worth 19 = .ok (.istore 4, 2) := by decide +kernel
theorem dX10_worth_21 : decode cX10_worth 21 = .ok (.iload 4, 2) := by decide +kernel
theorem dX10_worth_23 : decode cX10_worth 23 = .ok (.iconst 1, 1) := by decide +kernel
theorem dX10_worth_24 : decode cX10_worth 24 = .ok (.if_icmp .eq 9, 3) := by decide +kernel
theorem dX10_worth_27 : decode cX10_worth 27 = .ok (.iload 4, 2) := by decide +kernel
theorem dX10_worth_29 : decode cX10_worth 29 = .ok (.iconst 2, 1) := by decide +kernel
theorem dX10_worth_30 : decode cX10_worth 30 = .ok (.if_icmp .ne 41, 3) := by decide +kernel
theorem dX10_worth_33 : decode cX10_worth 33 = .ok (.aload_n 0, 1) := by decide +kernel
theorem dX10_worth_34 : decode cX10_worth 34 = .ok (.getfield 87, 3) := by decide +kernel
theorem dX10_worth_37 : decode cX10_worth 37 = .ok (.iload_n 3, 1) := by decide +kernel
theorem dX10_worth_38 : decode cX10_worth 38 = .ok (.iload 4, 2) := by decide +kernel
theorem dX10_worth_40 : decode cX10_worth 40 = .ok (.iconst 1, 1) := by decide +kernel
theorem dX10_worth_41 : decode cX10_worth 41 = .ok (.if_icmp .ne 12, 3) := by decide +kernel
theorem dX10_worth_44 : decode cX10_worth 44 = .ok (.aload_n 0, 1) := by decide +kernel
theorem dX10_worth_45 : decode cX10_worth 45 = .ok (.getfield 72, 3) := by decide +kernel
theorem dX10_worth_48 : decode cX10_worth 48 = .ok (.iload_n 2, 1) := by decide +kernel
theorem dX10_worth_49 : decode cX10_worth 49 = .ok (.iaload, 1) := by decide +kernel
theorem dX10_worth_50 : decode cX10_worth 50 = .ok (.goto 14, 3) := by decide +kernel
theorem dX10_worth_53 : decode cX10_worth 53 = .ok (.aload_n 0, 1) := by decide +kernel
theorem dX10_worth_54 : decode cX10_worth 54 = .ok (.getfield 84, 3) := by decide +kernel
theorem dX10_worth_57 : decode cX10_worth 57 = .ok (.aload_n 0, 1) := by decide +kernel
theorem dX10_worth_58 : decode cX10_worth 58 = .ok (.getfield 72, 3) := by decide +kernel
theorem dX10_worth_61 : decode cX10_worth 61 = .ok (.iload_n 2, 1) := by decide +kernel
theorem dX10_worth_62 : decode cX10_worth 62 = .ok (.iaload, 1) := by decide +kernel
theorem dX10_worth_63 : decode cX10_worth 63 = .ok (.iaload, 1) := by decide +kernel
theorem dX10_worth_64 : decode cX10_worth 64 = .ok (.iastore, 1) := by decide +kernel
theorem dX10_worth_65 : decode cX10_worth 65 = .ok (.iinc 3 1, 3) := by decide +kernel
theorem dX10_worth_68 : decode cX10_worth 68 = .ok (.goto 118, 3) := by decide +kernel
theorem dX10_worth_71 : decode cX10_worth 71 = .ok (.iinc 3 (-1), 3) := by decide +kernel
theorem dX10_worth_74 : decode cX10_worth 74 = .ok (.aload_n 0, 1) := by decide +kernel
theorem dX10_worth_75 : decode cX10_worth 75 = .ok (.getfield 87, 3) := by decide +kernel
theorem dX10_worth_78 : decode cX10_worth 78 = .ok (.iload_n 3, 1) := by decide +kernel
theorem dX10_worth_79 : decode cX10_worth 79 = .ok (.iaload, 1) := by decide +kernel
theorem dX10_worth_80 : decode cX10_worth 80 = .ok (.istore 5, 2) := by decide +kernel
theorem dX10_worth_82 : decode cX10_worth 82 = .ok (.aload_n 0, 1) := by decide +kernel
theorem dX10_worth_83 : decode cX10_worth 83 = .ok (.getfield 87, 3) := by decide +kernel
theorem dX10_worth_86 : decode cX10_worth 86 = .ok (.iload_n 3, 1) := by decide +kernel
theorem dX10_worth_87 : decode cX10_worth 87 = .ok (.iconst 1, 1) := by decide +kernel
theorem dX10_worth_88 : decode cX10_worth 88 = .ok (.isub, 1) := by decide +kernel
theorem dX10_worth_89 : decode cX10_worth 89 = .ok (.iaload, 1) := by decide +kernel
theorem dX10_worth_90 : decode cX10_worth 90 = .ok (.istore 6, 2) := by decide +kernel
theorem dX10_worth_92 : decode cX10_worth 92 = .ok (.aload_n 0, 1) := by decide +kernel
theorem dX10_worth_93 : decode cX10_worth 93 = .ok (.getfield 87, 3) := by decide +kernel
theorem dX10_worth_96 : decode cX10_worth 96 = .ok (.iload_n 3, 1) := by decide +kernel
theorem dX10_worth_97 : decode cX10_worth 97 = .ok (.iconst 1, 1) := by decide +kernel
theorem dX10_worth_98 : decode cX10_worth 98 = .ok (.isub, 1) := by decide +kernel
theorem dX10_worth_99 : decode cX10_worth 99 = .ok (.iload 4, 2) := by decide +kernel
theorem dX10_worth_101 : decode cX10_worth 101 = .ok (.iconst 3, 1) := by decide +kernel
theorem dX10_worth_102 : decode cX10_worth 102 = .ok (.if_icmp .ne 11, 3) := by decide +kernel
theorem dX10_worth_105 : decode cX10_worth 105 = .ok (.iload 6, 2) := by decide +kernel
theorem dX10_worth_107 : decode cX10_worth 107 = .ok (.iload 5, 2) := by decide +kernel
theorem dX10_worth_109 : decode cX10_worth 109 = .ok (.iadd, 1) := by decide +kernel
theorem dX10_worth_110 : decode cX10_worth 110 = .ok (.goto 75, 3) := by decide +kernel
theorem dX10_worth_113 : decode cX10_worth 113 = .ok (.iload 4, 2) := by decide +kernel
theorem dX10_worth_115 : decode cX10_worth 115 = .ok (.iconst 4, 1) := by decide +kernel
theorem dX10_worth_116 : decode cX10_worth 116 = .ok (.if_icmp .ne 11, 3) := by decide +kernel
theorem dX10_worth_119 : decode cX10_worth 119 = .ok (.iload 6, 2) := by decide +kernel
theorem dX10_worth_121 : decode cX10_worth 121 = .ok (.iload 5, 2) := by decide +kernel
theorem dX10_worth_123 : decode cX10_worth 123 = .ok (.isub, 1) := by decide +kernel
theorem dX10_worth_124 : decode cX10_worth 124 = .ok (.goto 61, 3) := by decide +kernel
theorem dX10_worth_127 : decode cX10_worth 127 = .ok (.iload 4, 2) := by decide +kernel
theorem dX10_worth_129 : decode cX10_worth 129 = .ok (.iconst 5, 1) := by decide +kernel
theorem dX10_worth_130 : decode cX10_worth 130 = .ok (.if_icmp .ne 18, 3) := by decide +kernel
theorem dX10_worth_133 : decode cX10_worth 133 = .ok (.iload 6, 2) := by decide +kernel
theorem dX10_worth_135 : decode cX10_worth 135 = .ok (.iload 5, 2) := by decide +kernel
theorem dX10_worth_137 : decode cX10_worth 137 = .ok (.if_icmp .ge 7, 3) := by decide +kernel
theorem dX10_worth_140 : decode cX10_worth 140 = .ok (.iconst 1, 1) := by decide +kernel
theorem dX10_worth_141 : decode cX10_worth 141 = .ok (.goto 44, 3) := by decide +kernel
theorem dX10_worth_144 : decode cX10_worth 144 = .ok (.iconst 0, 1) := by decide +kernel
theorem dX10_worth_145 : decode cX10_worth 145 = .ok (.goto 40, 3) := by decide +kernel
theorem dX10_worth_148 : decode cX10_worth 148 = .ok (.iload 4, 2) := by decide +kernel
theorem dX10_worth_150 : decode cX10_worth 150 = .ok (.bipush 6, 2) := by decide +kernel
theorem dX10_worth_152 : decode cX10_worth 152 = .ok (.if_icmp .ne 18, 3) := by decide +kernel
theorem dX10_worth_155 : decode cX10_worth 155 = .ok (.iload 6, 2) := by decide +kernel
theorem dX10_worth_157 : decode cX10_worth 157 = .ok (.iload 5, 2) := by decide +kernel
theorem dX10_worth_159 : decode cX10_worth 159 = .ok (.if_icmp .ne 7, 3) := by decide +kernel
theorem dX10_worth_162 : decode cX10_worth 162 = .ok (.iconst 1, 1) := by decide +kernel
theorem dX10_worth_163 : decode cX10_worth 163 = .ok (.goto 22, 3) := by decide +kernel
theorem dX10_worth_166 : decode cX10_worth 166 = .ok (.iconst 0, 1) := by decide +kernel
theorem dX10_worth_167 : decode cX10_worth 167 = .ok (.goto 18, 3) := by decide +kernel
theorem dX10_worth_170 : decode cX10_worth 170 = .ok (.iload 6, 2) := by decide +kernel
theorem dX10_worth_172 : decode cX10_worth 172 = .ok (.ifCond .eq 12, 3) := by decide +kernel
theorem dX10_worth_175 : decode cX10_worth 175 = .ok (.iload 5, 2) := by decide +kernel
theorem dX10_worth_177 : decode cX10_worth 177 = .ok (.ifCond .eq 7, 3) := by decide +kernel
theorem dX10_worth_180 : decode cX10_worth 180 = .ok (.iconst 1, 1) := by decide +kernel
theorem dX10_worth_181 : decode cX10_worth 181 = .ok (.goto 4, 3) := by decide +kernel
theorem dX10_worth_184 : decode cX10_worth 184 = .ok (.iconst 0, 1) := by decide +kernel
theorem dX10_worth_185 : decode cX10_worth 185 = .ok (.iastore, 1) := by decide +kernel
theorem dX10_worth_186 : decode cX10_worth 186 = .ok (.iinc 2 1, 3) := by decide +kernel
theorem dX10_worth_189 : decode cX10_worth 189 = .ok (.goto (-185), 3) := by decide +kernel
theorem dX10_worth_192 : decode cX10_worth 192 = .ok (.aload_n 0, 1) := by decide +kernel
theorem dX10_worth_193 : decode cX10_worth 193 = .ok (.getfield 87, 3) := by decide +kernel
theorem dX10_worth_196 : decode cX10_worth 196 = .ok (.iconst 0, 1) := by decide +kernel
theorem dX10_worth_197 : decode cX10_worth 197 = .ok (.iaload, 1) := by decide +kernel
theorem dX10_worth_198 : decode cX10_worth 198 = .ok (.ireturn, 1) := by decide +kernel
theorem dX10_days_0 : decode cX10_days 0 = .ok (.aload_n 0, 1) := by decide +kernel
theorem dX10_days_1 : decode cX10_days 1 = .ok (.iconst 0, 1) := by decide +kernel
theorem dX10_days_2 : decode cX10_days 2 = .ok (.putfield 1, 3) := by decide +kernel
theorem dX10_days_5 : decode cX10_days 5 = .ok (.iload_n 1, 1) := by decide +kernel
theorem dX10_days_6 : decode cX10_days 6 = .ok (.ifCond .lt 22, 3) := by decide +kernel
theorem dX10_days_9 : decode cX10_days 9 = .ok (.iload_n 1, 1) := by decide +kernel
theorem dX10_days_10 : decode cX10_days 10 = .ok (.sipush 1000, 3) := by decide +kernel
theorem dX10_days_13 : decode cX10_days 13 = .ok (.if_icmp .gt 15, 3) := by decide +kernel
theorem dX10_days_16 : decode cX10_days 16 = .ok (.aload_n 0, 1) := by decide +kernel
theorem dX10_days_17 : decode cX10_days 17 = .ok (.getfield 255, 3) := by decide +kernel
theorem dX10_days_20 : decode cX10_days 20 = .ok (.iload_n 1, 1) := by decide +kernel
theorem dX10_days_21 : decode cX10_days 21 = .ok (.iadd, 1) := by decide +kernel
theorem dX10_days_22 : decode cX10_days 22 = .ok (.sipush 9999, 3) := by decide +kernel
theorem dX10_days_25 : decode cX10_days 25 = .ok (.if_icmp .le 5, 3) := by decide +kernel
theorem dX10_days_28 : decode cX10_days 28 = .ok (.iconst (-1), 1) := by decide +kernel
theorem dX10_days_29 : decode cX10_days 29 = .ok (.ireturn, 1) := by decide +kernel
theorem dX10_days_30 : decode cX10_days 30 = .ok (.aload_n 0, 1) := by decide +kernel
theorem dX10_days_31 : decode cX10_days 31 = .ok (.dup, 1) := by decide +kernel
theorem dX10_days_32 : decode cX10_days 32 = .ok (.getfield 255, 3) := by decide +kernel
theorem dX10_days_35 : decode cX10_days 35 = .ok (.iload_n 1, 1) := by decide +kernel
theorem dX10_days_36 : decode cX10_days 36 = .ok (.iadd, 1) := by decide +kernel
theorem dX10_days_37 : decode cX10_days 37 = .ok (.putfield 255, 3) := by decide +kernel
theorem dX10_days_40 : decode cX10_days 40 = .ok (.aload_n 0, 1) := by decide +kernel
theorem dX10_days_41 : decode cX10_days 41 = .ok (.getfield 255, 3) := by decide +kernel
theorem dX10_days_44 : decode cX10_days 44 = .ok (.ireturn, 1) := by decide +kernel
theorem dX10_isPlant_0 : decode cX10_isPlant 0 = .ok (.iload_n 1, 1) := by decide +kernel
theorem dX10_isPlant_1 : decode cX10_isPlant 1 = .ok (.ifCond .lt 15, 3) := by decide +kernel
theorem dX10_isPlant_4 : decode cX10_isPlant 4 = .ok (.iload_n 1, 1) := by decide +kernel
theorem dX10_isPlant_5 : decode cX10_isPlant 5 = .ok (.aload_n 0, 1) := by decide +kernel
theorem dX10_isPlant_6 : decode cX10_isPlant 6 = .ok (.getfield 258, 3) := by decide +kernel
theorem dX10_isPlant_9 : decode cX10_isPlant 9 = .ok (.if_icmp .ge 7, 3) := by decide +kernel
theorem dX10_isPlant_12 : decode cX10_isPlant 12 = .ok (.iconst 1, 1) := by decide +kernel
theorem dX10_isPlant_13 : decode cX10_isPlant 13 = .ok (.goto 4, 3) := by decide +kernel
theorem dX10_isPlant_16 : decode cX10_isPlant 16 = .ok (.iconst 0, 1) := by decide +kernel
theorem dX10_isPlant_17 : decode cX10_isPlant 17 = .ok (.ireturn, 1) := by decide +kernel
theorem dX10_grows_0 : decode cX10_grows 0 = .ok (.aload_n 0, 1) := by decide +kernel
theorem dX10_grows_1 : decode cX10_grows 1 = .ok (.getfield 90, 3) := by decide +kernel
theorem dX10_grows_4 : decode cX10_grows 4 = .ok (.aload_n 0, 1) := by decide +kernel
theorem dX10_grows_5 : decode cX10_grows 5 = .ok (.getfield 258, 3) := by decide +kernel
theorem dX10_grows_8 : decode cX10_grows 8 = .ok (.iload_n 1, 1) := by decide +kernel
theorem dX10_grows_9 : decode cX10_grows 9 = .ok (.iastore, 1) := by decide +kernel
theorem dX10_grows_10 : decode cX10_grows 10 = .ok (.aload_n 0, 1) := by decide +kernel
theorem dX10_grows_11 : decode cX10_grows 11 = .ok (.getfield 93, 3) := by decide +kernel
theorem dX10_grows_14 : decode cX10_grows 14 = .ok (.aload_n 0, 1) := by decide +kernel
theorem dX10_grows_15 : decode cX10_grows 15 = .ok (.getfield 258, 3) := by decide +kernel
theorem dX10_grows_18 : decode cX10_grows 18 = .ok (.iload_n 2, 1) := by decide +kernel
theorem dX10_grows_19 : decode cX10_grows 19 = .ok (.iastore, 1) := by decide +kernel
theorem dX10_grows_20 : decode cX10_grows 20 = .ok (.aload_n 0, 1) := by decide +kernel
theorem dX10_grows_21 : decode cX10_grows 21 = .ok (.getfield 96, 3) := by decide +kernel
theorem dX10_grows_24 : decode cX10_grows 24 = .ok (.aload_n 0, 1) := by decide +kernel
theorem dX10_grows_25 : decode cX10_grows 25 = .ok (.getfield 258, 3) := by decide +kernel
theorem dX10_grows_28 : decode cX10_grows 28 = .ok (.iload_n 3, 1) := by decide +kernel
theorem dX10_grows_29 : decode cX10_grows 29 = .ok (.iastore, 1) := by decide +kernel
theorem dX10_grows_30 : decode cX10_grows 30 = .ok (.aload_n 0, 1) := by decide +kernel
theorem dX10_grows_31 : decode cX10_grows 31 = .ok (.getfield 99, 3) := by decide +kernel
theorem dX10_grows_34 : decode cX10_grows 34 = .ok (.aload_n 0, 1) := by decide +kernel
theorem dX10_grows_35 : decode cX10_grows 35 = .ok (.getfield 258, 3) := by decide +kernel
theorem dX10_grows_38 : decode cX10_grows 38 = .ok (.iload 4, 2) := by decide +kernel
theorem dX10_grows_40 : decode cX10_grows 40 = .ok (.iastore, 1) := by decide +kernel
theorem dX10_grows_41 : decode cX10_grows 41 = .ok (.iconst 0, 1) := by decide +kernel
theorem dX10_grows_42 : decode cX10_grows 42 = .ok (.istore 5, 2) := by decide +kernel
theorem dX10_grows_44 : decode cX10_grows 44 = .ok (.iload 5, 2) := by decide +kernel
theorem dX10_grows_46 : decode cX10_grows 46 = .ok (.bipush 8, 2) := by decide +kernel
theorem dX10_grows_48 : decode cX10_grows 48 = .ok (.if_icmp .ge 41, 3) := by decide +kernel
theorem dX10_grows_51 : decode cX10_grows 51 = .ok (.iload_n 1, 1) := by decide +kernel
theorem dX10_grows_52 : decode cX10_grows 52 = .ok (.iconst 2, 1) := by decide +kernel
theorem dX10_grows_53 : decode cX10_grows 53 = .ok (.if_icmp .lt 36, 3) := by decide +kernel
theorem dX10_grows_56 : decode cX10_grows 56 = .ok (.aload_n 0, 1) := by decide +kernel
theorem dX10_grows_57 : decode cX10_grows 57 = .ok (.getfield 102, 3) := by decide +kernel
theorem dX10_grows_60 : decode cX10_grows 60 = .ok (.bipush 8, 2) := by decide +kernel
theorem dX10_grows_62 : decode cX10_grows 62 = .ok (.aload_n 0, 1) := by decide +kernel
theorem dX10_grows_63 : decode cX10_grows 63 = .ok (.getfield 258, 3) := by decide +kernel
theorem dX10_grows_66 : decode cX10_grows 66 = .ok (.imul, 1) := by decide +kernel
theorem dX10_grows_67 : decode cX10_grows 67 = .ok (.iload 5, 2) := by decide +kernel
theorem dX10_grows_69 : decode cX10_grows 69 = .ok (.iadd, 1) := by decide +kernel
theorem dX10_grows_70 : decode cX10_grows 70 = .ok (.aload_n 0, 1) := by decide +kernel
theorem dX10_grows_71 : decode cX10_grows 71 = .ok (.getfield 102, 3) := by decide +kernel
theorem dX10_grows_74 : decode cX10_grows 74 = .ok (.bipush 8, 2) := by decide +kernel
theorem dX10_grows_76 : decode cX10_grows 76 = .ok (.iload_n 2, 1) := by decide +kernel
theorem dX10_grows_77 : decode cX10_grows 77 = .ok (.imul, 1) := by decide +kernel
theorem dX10_grows_78 : decode cX10_grows 78 = .ok (.iload 5, 2) := by decide +kernel
theorem dX10_grows_80 : decode cX10_grows 80 = .ok (.iadd, 1) := by decide +kernel
theorem dX10_grows_81 : decode cX10_grows 81 = .ok (.iaload, 1) := by decide +kernel
theorem dX10_grows_82 : decode cX10_grows 82 = .ok (.iastore, 1) := by decide +kernel
theorem dX10_grows_83 : decode cX10_grows 83 = .ok (.iinc 5 1, 3) := by decide +kernel
theorem dX10_grows_86 : decode cX10_grows 86 = .ok (.goto (-42), 3) := by decide +kernel
theorem dX10_grows_89 : decode cX10_grows 89 = .ok (.iconst 0, 1) := by decide +kernel
theorem dX10_grows_90 : decode cX10_grows 90 = .ok (.istore 5, 2) := by decide +kernel
theorem dX10_grows_92 : decode cX10_grows 92 = .ok (.iload 5, 2) := by decide +kernel
theorem dX10_grows_94 : decode cX10_grows 94 = .ok (.iconst 4, 1) := by decide +kernel
theorem dX10_grows_95 : decode cX10_grows 95 = .ok (.if_icmp .ge 36, 3) := by decide +kernel
theorem dX10_grows_98 : decode cX10_grows 98 = .ok (.aload_n 0, 1) := by decide +kernel
theorem dX10_grows_99 : decode cX10_grows 99 = .ok (.getfield 105, 3) := by decide +kernel
theorem dX10_grows_102 : decode cX10_grows 102 = .ok (.iconst 4, 1) := by decide +kernel
theorem dX10_grows_103 : decode cX10_grows 103 = .ok (.aload_n 0, 1) := by decide +kernel
theorem dX10_grows_104 : decode cX10_grows 104 = .ok (.getfield 258, 3) := by decide +kernel
theorem dX10_grows_107 : decode cX10_grows 107 = .ok (.imul, 1) := by decide +kernel
theorem dX10_grows_108 : decode cX10_grows 108 = .ok (.iload 5, 2) := by decide +kernel
theorem dX10_grows_110 : decode cX10_grows 110 = .ok (.iadd, 1) := by decide +kernel
theorem dX10_grows_111 : decode cX10_grows 111 = .ok (.iload 5, 2) := by decide +kernel
theorem dX10_grows_113 : decode cX10_grows 113 = .ok (.iconst 2, 1) := by decide +kernel
theorem dX10_grows_114 : decode cX10_grows 114 = .ok (.irem, 1) := by decide +kernel
theorem dX10_grows_115 : decode cX10_grows 115 = .ok (.ifCond .ne 7, 3) := by decide +kernel
theorem dX10_grows_118 : decode cX10_grows 118 = .ok (.iconst 0, 1) := by decide +kernel
theorem dX10_grows_119 : decode cX10_grows 119 = .ok (.goto 5, 3) := by decide +kernel
theorem dX10_grows_122 : decode cX10_grows 122 = .ok (.bipush 9, 2) := by decide +kernel
theorem dX10_grows_124 : decode cX10_grows 124 = .ok (.iastore, 1) := by decide +kernel
theorem dX10_grows_125 : decode cX10_grows 125 = .ok (.iinc 5 1, 3) := by decide +kernel
theorem dX10_grows_128 : decode cX10_grows 128 = .ok (.goto (-36), 3) := by decide +kernel
theorem dX10_grows_131 : decode cX10_grows 131 = .ok (.aload_n 0, 1) := by decide +kernel
theorem dX10_grows_132 : decode cX10_grows 132 = .ok (.dup, 1) := by decide +kernel
theorem dX10_grows_133 : decode cX10_grows 133 = .ok (.getfield 258, 3) := by decide +kernel
theorem dX10_grows_136 : decode cX10_grows 136 = .ok (.iconst 1, 1) := by decide +kernel
theorem dX10_grows_137 : decode cX10_grows 137 = .ok (.iadd, 1) := by decide +kernel
theorem dX10_grows_138 : decode cX10_grows 138 = .ok (.putfield 258, 3) := by decide +kernel
theorem dX10_grows_141 : decode cX10_grows 141 = .ok (.aload_n 0, 1) := by decide +kernel
theorem dX10_grows_142 : decode cX10_grows 142 = .ok (.getfield 258, 3) := by decide +kernel
theorem dX10_grows_145 : decode cX10_grows 145 = .ok (.iconst 1, 1) := by decide +kernel
theorem dX10_grows_146 : decode cX10_grows 146 = .ok (.isub, 1) := by decide +kernel
theorem dX10_grows_147 : decode cX10_grows 147 = .ok (.ireturn, 1) := by decide +kernel
theorem dX10_areMany_0 : decode cX10_areMany 0 = .ok (.iload_n 0, 1) := by decide +kernel
theorem dX10_areMany_1 : decode cX10_areMany 1 = .ok (.iconst 1, 1) := by decide +kernel
theorem dX10_areMany_2 : decode cX10_areMany 2 = .ok (.if_icmp .lt 13, 3) := by decide +kernel
theorem dX10_areMany_5 : decode cX10_areMany 5 = .ok (.iload_n 0, 1) := by decide +kernel
theorem dX10_areMany_6 : decode cX10_areMany 6 = .ok (.bipush 100, 2) := by decide +kernel
theorem dX10_areMany_8 : decode cX10_areMany 8 = .ok (.if_icmp .gt 7, 3) := by decide +kernel
theorem dX10_areMany_11 : decode cX10_areMany 11 = .ok (.iconst 1, 1) := by decide +kernel
theorem dX10_areMany_12 : decode cX10_areMany 12 = .ok (.goto 4, 3) := by decide +kernel
theorem dX10_areMany_15 : decode cX10_areMany 15 = .ok (.iconst 0, 1) := by decide +kernel
theorem dX10_areMany_16 : decode cX10_areMany 16 = .ok (.ireturn, 1) := by decide +kernel
theorem dX10_wild_0 : decode cX10_wild 0 = .ok (.aload_n 0, 1) := by decide +kernel
theorem dX10_wild_1 : decode cX10_wild 1 = .ok (.iconst 0, 1) := by decide +kernel
theorem dX10_wild_2 : decode cX10_wild 2 = .ok (.putfield 1, 3) := by decide +kernel
theorem dX10_wild_5 : decode cX10_wild 5 = .ok (.iload_n 1, 1) := by decide +kernel
theorem dX10_wild_6 : decode cX10_wild 6 = .ok (.ifCond .lt 25, 3) := by decide +kernel
theorem dX10_wild_9 : decode cX10_wild 9 = .ok (.iload_n 1, 1) := by decide +kernel
theorem dX10_wild_10 : decode cX10_wild 10 = .ok (.bipush 99, 2) := by decide +kernel
theorem dX10_wild_12 : decode cX10_wild 12 = .ok (.if_icmp .gt 19, 3) := by decide +kernel
theorem dX10_wild_15 : decode cX10_wild 15 = .ok (.iload_n 2, 1) := by decide +kernel
theorem dX10_wild_16 : decode cX10_wild 16 = .ok (.invokestatic 261, 3) := by decide +kernel
theorem dX10_wild_19 : decode cX10_wild 19 = .ok (.ifCond .eq 12, 3) := by decide +kernel
theorem dX10_wild_22 : decode cX10_wild 22 = .ok (.aload_n 0, 1) := by decide +kernel
theorem dX10_wild_23 : decode cX10_wild 23 = .ok (.getfield 258, 3) := by decide +kernel
theorem dX10_wild_26 : decode cX10_wild 26 = .ok (.bipush 40, 2) := by decide +kernel
theorem dX10_wild_28 : decode cX10_wild 28 = .ok (.if_icmp .ne 5, 3) := by decide +kernel
theorem dX10_wild_31 : decode cX10_wild 31 = .ok (.iconst (-1), 1) := by decide +kernel
theorem dX10_wild_32 : decode cX10_wild 32 = .ok (.ireturn, 1) := by decide +kernel
theorem dX10_wild_33 : decode cX10_wild 33 = .ok (.aload_n 0, 1) := by decide +kernel
theorem dX10_wild_34 : decode cX10_wild 34 = .ok (.getfield 120, 3) := by decide +kernel
theorem dX10_wild_37 : decode cX10_wild 37 = .ok (.aload_n 0, 1) := by decide +kernel
theorem dX10_wild_38 : decode cX10_wild 38 = .ok (.getfield 258, 3) := by decide +kernel
theorem dX10_wild_41 : decode cX10_wild 41 = .ok (.iload_n 1, 1) := by decide +kernel
theorem dX10_wild_42 : decode cX10_wild 42 = .ok (.iastore, 1) := by decide +kernel
theorem dX10_wild_43 : decode cX10_wild 43 = .ok (.aload_n 0, 1) := by decide +kernel
theorem dX10_wild_44 : decode cX10_wild 44 = .ok (.iconst 0, 1) := by decide +kernel
theorem dX10_wild_45 : decode cX10_wild 45 = .ok (.iconst (-1), 1) := by decide +kernel
theorem dX10_wild_46 : decode cX10_wild 46 = .ok (.iconst (-1), 1) := by decide +kernel
theorem dX10_wild_47 : decode cX10_wild 47 = .ok (.iload_n 2, 1) := by decide +kernel
theorem dX10_wild_48 : decode cX10_wild 48 = .ok (.invokevirtual 264, 3) := by decide +kernel
theorem dX10_wild_51 : decode cX10_wild 51 = .ok (.ireturn, 1) := by decide +kernel
theorem dX10_seed_0 : decode cX10_seed 0 = .ok (.aload_n 0, 1) := by decide +kernel
theorem dX10_seed_1 : decode cX10_seed 1 = .ok (.iconst 0, 1) := by decide +kernel
theorem dX10_seed_2 : decode cX10_seed 2 = .ok (.putfield 1, 3) := by decide +kernel
theorem dX10_seed_5 : decode cX10_seed 5 = .ok (.aload_n 0, 1) := by decide +kernel
theorem dX10_seed_6 : decode cX10_seed 6 = .ok (.iload_n 1, 1) := by decide +kernel
theorem dX10_seed_7 : decode cX10_seed 7 = .ok (.invokevirtual 268, 3) := by decide +kernel
theorem dX10_seed_10 : decode cX10_seed 10 = .ok (.ifCond .eq 32, 3) := by decide +kernel
theorem dX10_seed_13 : decode cX10_seed 13 = .ok (.iload_n 2, 1) := by decide +kernel
theorem dX10_seed_14 : decode cX10_seed 14 = .ok (.iconst (-1), 1) := by decide +kernel
theorem dX10_seed_15 : decode cX10_seed 15 = .ok (.if_icmp .eq 11, 3) := by decide +kernel
theorem dX10_seed_18 : decode cX10_seed 18 = .ok (.aload_n 0, 1) := by decide +kernel
theorem dX10_seed_19 : decode cX10_seed 19 = .ok (.iload_n 2, 1) := by decide +kernel
theorem dX10_seed_20 : decode cX10_seed 20 = .ok (.invokevirtual 268, 3) := by decide +kernel
theorem dX10_seed_23 : decode cX10_seed 23 = .ok (.ifCond .eq 19, 3) := by decide +kernel
theorem dX10_seed_26 : decode cX10_seed 26 = .ok (.iload_n 3, 1) := by decide +kernel
theorem dX10_seed_27 : decode cX10_seed 27 = .ok (.invokestatic 261, 3) := by decide +kernel
theorem dX10_seed_30 : decode cX10_seed 30 = .ok (.ifCond .eq 12, 3) := by decide +kernel
theorem dX10_seed_33 : decode cX10_seed 33 = .ok (.aload_n 0, 1) := by decide +kernel
theorem dX10_seed_34 : decode cX10_seed 34 = .ok (.getfield 258, 3) := by decide +kernel
theorem dX10_seed_37 : decode cX10_seed 37 = .ok (.bipush 40, 2) := by decide +kernel
theorem dX10_seed_39 : decode cX10_seed 39 = .ok (.if_icmp .ne 5, 3) := by decide +kernel
theorem dX10_seed_42 : decode cX10_seed 42 = .ok (.iconst (-1), 1) := by decide +kernel
theorem dX10_seed_43 : decode cX10_seed 43 = .ok (.ireturn, 1) := by decide +kernel
theorem dX10_seed_44 : decode cX10_seed 44 = .ok (.aload_n 0, 1) := by decide +kernel
theorem dX10_seed_45 : decode cX10_seed 45 = .ok (.iconst 1, 1) := by decide +kernel
theorem dX10_seed_46 : decode cX10_seed 46 = .ok (.iload_n 1, 1) := by decide +kernel
theorem dX10_seed_47 : decode cX10_seed 47 = .ok (.iload_n 2, 1) := by decide +kernel
theorem dX10_seed_48 : decode cX10_seed 48 = .ok (.iload_n 3, 1) := by decide +kernel
theorem dX10_seed_49 : decode cX10_seed 49 = .ok (.invokevirtual 264, 3) := by decide +kernel
theorem dX10_seed_52 : decode cX10_seed 52 = .ok (.ireturn, 1) := by decide +kernel
theorem dX10_cut_0 : decode cX10_cut 0 = .ok (.aload_n 0, 1) := by decide +kernel
theorem dX10_cut_1 : decode cX10_cut 1 = .ok (.iconst 0, 1) := by decide +kernel
theorem dX10_cut_2 : decode cX10_cut 2 = .ok (.putfield 1, 3) := by decide +kernel
theorem dX10_cut_5 : decode cX10_cut 5 = .ok (.aload_n 0, 1) := by decide +kernel
theorem dX10_cut_6 : decode cX10_cut 6 = .ok (.iload_n 1, 1) := by decide +kernel
theorem dX10_cut_7 : decode cX10_cut 7 = .ok (.invokevirtual 268, 3) := by decide +kernel
theorem dX10_cut_10 : decode cX10_cut 10 = .ok (.ifCond .eq 19, 3) := by decide +kernel
theorem dX10_cut_13 : decode cX10_cut 13 = .ok (.iload_n 2, 1) := by decide +kernel
theorem dX10_cut_14 : decode cX10_cut 14 = .ok (.invokestatic 261, 3) := by decide +kernel
theorem dX10_cut_17 : decode cX10_cut 17 = .ok (.ifCond .eq 12, 3) := by decide +kernel
theorem dX10_cut_20 : decode cX10_cut 20 = .ok (.aload_n 0, 1) := by decide +kernel
theorem dX10_cut_21 : decode cX10_cut 21 = .ok (.getfield 258, 3) := by decide +kernel
theorem dX10_cut_24 : decode cX10_cut 24 = .ok (.bipush 40, 2) := by decide +kernel
theorem dX10_cut_26 : decode cX10_cut 26 = .ok (.if_icmp .ne 7, 3) := by decide +kernel
theorem dX10_cut_29 : decode cX10_cut 29 = .ok (.iconst (-1), 1) := by decide +kernel
theorem dX10_cut_30 : decode cX10_cut 30 = .ok (.goto 11, 3) := by decide +kernel
theorem dX10_cut_33 : decode cX10_cut 33 = .ok (.aload_n 0, 1) := by decide +kernel
theorem dX10_cut_34 : decode cX10_cut 34 = .ok (.iconst 2, 1) := by decide +kernel
theorem dX10_cut_35 : decode cX10_cut 35 = .ok (.iload_n 1, 1) := by decide +kernel
theorem dX10_cut_36 : decode cX10_cut 36 = .ok (.iconst (-1), 1) := by decide +kernel
theorem dX10_cut_37 : decode cX10_cut 37 = .ok (.iload_n 2, 1) := by decide +kernel
theorem dX10_cut_38 : decode cX10_cut 38 = .ok (.invokevirtual 264, 3) := by decide +kernel
theorem dX10_cut_41 : decode cX10_cut 41 = .ok (.ireturn, 1) := by decide +kernel
theorem dX10_split_0 : decode cX10_split 0 = .ok (.aload_n 0, 1) := by decide +kernel
theorem dX10_split_1 : decode cX10_split 1 = .ok (.iconst 0, 1) := by decide +kernel
theorem dX10_split_2 : decode cX10_split 2 = .ok (.putfield 1, 3) := by decide +kernel
theorem dX10_split_5 : decode cX10_split 5 = .ok (.aload_n 0, 1) := by decide +kernel
theorem dX10_split_6 : decode cX10_split 6 = .ok (.iload_n 1, 1) := by decide +kernel
theorem dX10_split_7 : decode cX10_split 7 = .ok (.invokevirtual 268, 3) := by decide +kernel
theorem dX10_split_10 : decode cX10_split 10 = .ok (.ifCond .eq 27, 3) := by decide +kernel
theorem dX10_split_13 : decode cX10_split 13 = .ok (.iload_n 2, 1) := by decide +kernel
theorem dX10_split_14 : decode cX10_split 14 = .ok (.iconst 1, 1) := by decide +kernel
theorem dX10_split_15 : decode cX10_split 15 = .ok (.if_icmp .lt 22, 3) := by decide +kernel
theorem dX10_split_18 : decode cX10_split 18 = .ok (.iload_n 2, 1) := by decide +kernel
theorem dX10_split_19 : decode cX10_split 19 = .ok (.aload_n 0, 1) := by decide +kernel
theorem dX10_split_20 : decode cX10_split 20 = .ok (.getfield 99, 3) := by decide +kernel
theorem dX10_split_23 : decode cX10_split 23 = .ok (.iload_n 1, 1) := by decide +kernel
theorem dX10_split_24 : decode cX10_split 24 = .ok (.iaload, 1) := by decide +kernel
theorem dX10_split_25 : decode cX10_split 25 = .ok (.if_icmp .ge 12, 3) := by decide +kernel
theorem dX10_split_28 : decode cX10_split 28 = .ok (.aload_n 0, 1) := by decide +kernel
theorem dX10_split_29 : decode cX10_split 29 = .ok (.getfield 258, 3) := by decide +kernel
theorem dX10_split_32 : decode cX10_split 32 = .ok (.bipush 40, 2) := by decide +kernel
theorem dX10_split_34 : decode cX10_split 34 = .ok (.if_icmp .ne 5, 3) := by decide +kernel
theorem dX10_split_37 : decode cX10_split 37 = .ok (.iconst (-1), 1) := by decide +kernel
theorem dX10_split_38 : decode cX10_split 38 = .ok (.ireturn, 1) := by decide +kernel
theorem dX10_split_39 : decode cX10_split 39 = .ok (.aload_n 0, 1) := by decide +kernel
theorem dX10_split_40 : decode cX10_split 40 = .ok (.getfield 99, 3) := by decide +kernel
theorem dX10_split_43 : decode cX10_split 43 = .ok (.iload_n 1, 1) := by decide +kernel
theorem dX10_split_44 : decode cX10_split 44 = .ok (.dup2, 1) := by decide +kernel
theorem dX10_split_45 : decode cX10_split 45 = .ok (.iaload, 1) := by decide +kernel
theorem dX10_split_46 : decode cX10_split 46 = .ok (.iload_n 2, 1) := by decide +kernel
theorem dX10_split_47 : decode cX10_split 47 = .ok (.isub, 1) := by decide +kernel
theorem dX10_split_48 : decode cX10_split 48 = .ok (.iastore, 1) := by decide +kernel
theorem dX10_split_49 : decode cX10_split 49 = .ok (.aload_n 0, 1) := by decide +kernel
theorem dX10_split_50 : decode cX10_split 50 = .ok (.iconst 3, 1) := by decide +kernel
theorem dX10_split_51 : decode cX10_split 51 = .ok (.iload_n 1, 1) := by decide +kernel
theorem dX10_split_52 : decode cX10_split 52 = .ok (.iconst (-1), 1) := by decide +kernel
theorem dX10_split_53 : decode cX10_split 53 = .ok (.iload_n 2, 1) := by decide +kernel
theorem dX10_split_54 : decode cX10_split 54 = .ok (.invokevirtual 264, 3) := by decide +kernel
theorem dX10_split_57 : decode cX10_split 57 = .ok (.ireturn, 1) := by decide +kernel
theorem dX10_rootOf_0 : decode cX10_rootOf 0 = .ok (.iload_n 1, 1) := by decide +kernel
theorem dX10_rootOf_1 : decode cX10_rootOf 1 = .ok (.istore_n 2, 1) := by decide +kernel
theorem dX10_rootOf_2 : decode cX10_rootOf 2 = .ok (.aload_n 0, 1) := by decide +kernel
theorem dX10_rootOf_3 : decode cX10_rootOf 3 = .ok (.getfield 90, 3) := by decide +kernel
theorem dX10_rootOf_6 : decode cX10_rootOf 6 = .ok (.iload_n 2, 1) := by decide +kernel
theorem dX10_rootOf_7 : decode cX10_rootOf 7 = .ok (.iaload, 1) := by decide +kernel
theorem dX10_rootOf_8 : decode cX10_rootOf 8 = .ok (.ifCond .eq 13, 3) := by decide +kernel
theorem dX10_rootOf_11 : decode cX10_rootOf 11 = .ok (.aload_n 0, 1) := by decide +kernel
theorem dX10_rootOf_12 : decode cX10_rootOf 12 = .ok (.getfield 93, 3) := by decide +kernel
theorem dX10_rootOf_15 : decode cX10_rootOf 15 = .ok (.iload_n 2, 1) := by decide +kernel
theorem dX10_rootOf_16 : decode cX10_rootOf 16 = .ok (.iaload, 1) := by decide +kernel
theorem dX10_rootOf_17 : decode cX10_rootOf 17 = .ok (.istore_n 2, 1) := by decide +kernel
theorem dX10_rootOf_18 : decode cX10_rootOf 18 = .ok (.goto (-16), 3) := by decide +kernel
theorem dX10_rootOf_21 : decode cX10_rootOf 21 = .ok (.iload_n 2, 1) := by decide +kernel
theorem dX10_rootOf_22 : decode cX10_rootOf 22 = .ok (.ireturn, 1) := by decide +kernel
theorem dX10_isCut_0 : decode cX10_isCut 0 = .ok (.iload_n 1, 1) := by decide +kernel
theorem dX10_isCut_1 : decode cX10_isCut 1 = .ok (.istore_n 2, 1) := by decide +kernel
theorem dX10_isCut_2 : decode cX10_isCut 2 = .ok (.aload_n 0, 1) := by decide +kernel
theorem dX10_isCut_3 : decode cX10_isCut 3 = .ok (.getfield 90, 3) := by decide +kernel
theorem dX10_isCut_6 : decode cX10_isCut 6 = .ok (.iload_n 2, 1) := by decide +kernel
theorem dX10_isCut_7 : decode cX10_isCut 7 = .ok (.iaload, 1) := by decide +kernel
theorem dX10_isCut_8 : decode cX10_isCut 8 = .ok (.iconst 3, 1) := by decide +kernel
theorem dX10_isCut_9 : decode cX10_isCut 9 = .ok (.if_icmp .ne 13, 3) := by decide +kernel
theorem dX10_isCut_12 : decode cX10_isCut 12 = .ok (.aload_n 0, 1) := by decide +kernel
theorem dX10_isCut_13 : decode cX10_isCut 13 = .ok (.getfield 93, 3) := by decide +kernel
theorem dX10_isCut_16 : decode cX10_isCut 16 = .ok (.iload_n 2, 1) := by decide +kernel
theorem dX10_isCut_17 : decode cX10_isCut 17 = .ok (.iaload, 1) := by decide +kernel
theorem dX10_isCut_18 : decode cX10_isCut 18 = .ok (.istore_n 2, 1) := by decide +kernel
theorem dX10_isCut_19 : decode cX10_isCut 19 = .ok (.goto (-17), 3) := by decide +kernel
theorem dX10_isCut_22 : decode cX10_isCut 22 = .ok (.aload_n 0, 1) := by decide +kernel
theorem dX10_isCut_23 : decode cX10_isCut 23 = .ok (.getfield 90, 3) := by decide +kernel
theorem dX10_isCut_26 : decode cX10_isCut 26 = .ok (.iload_n 2, 1) := by decide +kernel
theorem dX10_isCut_27 : decode cX10_isCut 27 = .ok (.iaload, 1) := by decide +kernel
theorem dX10_isCut_28 : decode cX10_isCut 28 = .ok (.iconst 2, 1) := by decide +kernel
theorem dX10_isCut_29 : decode cX10_isCut 29 = .ok (.if_icmp .ne 7, 3) := by decide +kernel
theorem dX10_isCut_32 : decode cX10_isCut 32 = .ok (.iconst 1, 1) := by decide +kernel
theorem dX10_isCut_33 : decode cX10_isCut 33 = .ok (.goto 4, 3) := by decide +kernel
theorem dX10_isCut_36 : decode cX10_isCut 36 = .ok (.iconst 0, 1) := by decide +kernel
theorem dX10_isCut_37 : decode cX10_isCut 37 = .ok (.ireturn, 1) := by decide +kernel
theorem dX10_mark_0 : decode cX10_mark 0 = .ok (.aload_n 0, 1) := by decide +kernel
theorem dX10_mark_1 : decode cX10_mark 1 = .ok (.iconst 0, 1) := by decide +kernel
theorem dX10_mark_2 : decode cX10_mark 2 = .ok (.putfield 1, 3) := by decide +kernel
theorem dX10_mark_5 : decode cX10_mark 5 = .ok (.aload_n 0, 1) := by decide +kernel
theorem dX10_mark_6 : decode cX10_mark 6 = .ok (.iload_n 1, 1) := by decide +kernel
theorem dX10_mark_7 : decode cX10_mark 7 = .ok (.invokevirtual 268, 3) := by decide +kernel
theorem dX10_mark_10 : decode cX10_mark 10 = .ok (.ifCond .eq 34, 3) := by decide +kernel
theorem dX10_mark_13 : decode cX10_mark 13 = .ok (.iload_n 2, 1) := by decide +kernel
theorem dX10_mark_14 : decode cX10_mark 14 = .ok (.ifCond .lt 30, 3) := by decide +kernel
theorem dX10_mark_17 : decode cX10_mark 17 = .ok (.iload_n 2, 1) := by decide +kernel
theorem dX10_mark_18 : decode cX10_mark 18 = .ok (.iconst 3, 1) := by decide +kernel
theorem dX10_mark_19 : decode cX10_mark 19 = .ok (.if_icmp .gt 25, 3) := by decide +kernel
theorem dX10_mark_22 : decode cX10_mark 22 = .ok (.iload_n 3, 1) := by decide +kernel
theorem dX10_mark_23 : decode cX10_mark 23 = .ok (.ifCond .lt 21, 3) := by decide +kernel
theorem dX10_mark_26 : decode cX10_mark 26 = .ok (.iload_n 3, 1) := by decide +kernel
theorem dX10_mark_27 : decode cX10_mark 27 = .ok (.bipush 9, 2) := by decide +kernel
theorem dX10_mark_29 : decode cX10_mark 29 = .ok (.if_icmp .gt 15, 3) := by decide +kernel
theorem dX10_mark_32 : decode cX10_mark 32 = .ok (.iload 4, 2) := by decide +kernel
theorem dX10_mark_34 : decode cX10_mark 34 = .ok (.ifCond .lt 10, 3) := by decide +kernel
theorem dX10_mark_37 : decode cX10_mark 37 = .ok (.iload 4, 2) := by decide +kernel
theorem dX10_mark_39 : decode cX10_mark 39 = .ok (.bipush 9, 2) := by decide +kernel
theorem dX10_mark_41 : decode cX10_mark 41 = .ok (.if_icmp .le 5, 3) := by decide +kernel
theorem dX10_mark_44 : decode cX10_mark 44 = .ok (.iconst 0, 1) := by decide +kernel
theorem dX10_mark_45 : decode cX10_mark 45 = .ok (.ireturn, 1) := by decide +kernel
theorem dX10_mark_46 : decode cX10_mark 46 = .ok (.aload_n 0, 1) := by decide +kernel
theorem dX10_mark_47 : decode cX10_mark 47 = .ok (.getfield 102, 3) := by decide +kernel
theorem dX10_mark_50 : decode cX10_mark 50 = .ok (.bipush 8, 2) := by decide +kernel
theorem dX10_mark_52 : decode cX10_mark 52 = .ok (.iload_n 1, 1) := by decide +kernel
theorem dX10_mark_53 : decode cX10_mark 53 = .ok (.imul, 1) := by decide +kernel
theorem dX10_mark_54 : decode cX10_mark 54 = .ok (.iconst 2, 1) := by decide +kernel
theorem dX10_mark_55 : decode cX10_mark 55 = .ok (.iload_n 2, 1) := by decide +kernel
theorem dX10_mark_56 : decode cX10_mark 56 = .ok (.imul, 1) := by decide +kernel
theorem dX10_mark_57 : decode cX10_mark 57 = .ok (.iadd, 1) := by decide +kernel
theorem dX10_mark_58 : decode cX10_mark 58 = .ok (.iload_n 3, 1) := by decide +kernel
theorem dX10_mark_59 : decode cX10_mark 59 = .ok (.iload 4, 2) := by decide +kernel
theorem dX10_mark_61 : decode cX10_mark 61 = .ok (.if_icmp .ge 7, 3) := by decide +kernel
theorem dX10_mark_64 : decode cX10_mark 64 = .ok (.iload_n 3, 1) := by decide +kernel
theorem dX10_mark_65 : decode cX10_mark 65 = .ok (.goto 5, 3) := by decide +kernel
theorem dX10_mark_68 : decode cX10_mark 68 = .ok (.iload 4, 2) := by decide +kernel
theorem dX10_mark_70 : decode cX10_mark 70 = .ok (.iastore, 1) := by decide +kernel
theorem dX10_mark_71 : decode cX10_mark 71 = .ok (.aload_n 0, 1) := by decide +kernel
theorem dX10_mark_72 : decode cX10_mark 72 = .ok (.getfield 102, 3) := by decide +kernel
theorem dX10_mark_75 : decode cX10_mark 75 = .ok (.bipush 8, 2) := by decide +kernel
theorem dX10_mark_77 : decode cX10_mark 77 = .ok (.iload_n 1, 1) := by decide +kernel
theorem dX10_mark_78 : decode cX10_mark 78 = .ok (.imul, 1) := by decide +kernel
theorem dX10_mark_79 : decode cX10_mark 79 = .ok (.iconst 2, 1) := by decide +kernel
theorem dX10_mark_80 : decode cX10_mark 80 = .ok (.iload_n 2, 1) := by decide +kernel
theorem dX10_mark_81 : decode cX10_mark 81 = .ok (.imul, 1) := by decide +kernel
theorem dX10_mark_82 : decode cX10_mark 82 = .ok (.iadd, 1) := by decide +kernel
theorem dX10_mark_83 : decode cX10_mark 83 = .ok (.iconst 1, 1) := by decide +kernel
theorem dX10_mark_84 : decode cX10_mark 84 = .ok (.iadd, 1) := by decide +kernel
theorem dX10_mark_85 : decode cX10_mark 85 = .ok (.iload_n 3, 1) := by decide +kernel
theorem dX10_mark_86 : decode cX10_mark 86 = .ok (.iload 4, 2) := by decide +kernel
theorem dX10_mark_88 : decode cX10_mark 88 = .ok (.if_icmp .ge 8, 3) := by decide +kernel
theorem dX10_mark_91 : decode cX10_mark 91 = .ok (.iload 4, 2) := by decide +kernel
theorem dX10_mark_93 : decode cX10_mark 93 = .ok (.goto 4, 3) := by decide +kernel
theorem dX10_mark_96 : decode cX10_mark 96 = .ok (.iload_n 3, 1) := by decide +kernel
theorem dX10_mark_97 : decode cX10_mark 97 = .ok (.iastore, 1) := by decide +kernel
theorem dX10_mark_98 : decode cX10_mark 98 = .ok (.iconst 1, 1) := by decide +kernel
theorem dX10_mark_99 : decode cX10_mark 99 = .ok (.ireturn, 1) := by decide +kernel
theorem dX10_markOf_0 : decode cX10_markOf 0 = .ok (.aload_n 0, 1) := by decide +kernel
theorem dX10_markOf_1 : decode cX10_markOf 1 = .ok (.getfield 102, 3) := by decide +kernel
theorem dX10_markOf_4 : decode cX10_markOf 4 = .ok (.bipush 8, 2) := by decide +kernel
theorem dX10_markOf_6 : decode cX10_markOf 6 = .ok (.iload_n 1, 1) := by decide +kernel
theorem dX10_markOf_7 : decode cX10_markOf 7 = .ok (.imul, 1) := by decide +kernel
theorem dX10_markOf_8 : decode cX10_markOf 8 = .ok (.iconst 2, 1) := by decide +kernel
theorem dX10_markOf_9 : decode cX10_markOf 9 = .ok (.iload_n 2, 1) := by decide +kernel
theorem dX10_markOf_10 : decode cX10_markOf 10 = .ok (.imul, 1) := by decide +kernel
theorem dX10_markOf_11 : decode cX10_markOf 11 = .ok (.iadd, 1) := by decide +kernel
theorem dX10_markOf_12 : decode cX10_markOf 12 = .ok (.iload_n 3, 1) := by decide +kernel
theorem dX10_markOf_13 : decode cX10_markOf 13 = .ok (.iadd, 1) := by decide +kernel
theorem dX10_markOf_14 : decode cX10_markOf 14 = .ok (.iaload, 1) := by decide +kernel
theorem dX10_markOf_15 : decode cX10_markOf 15 = .ok (.ireturn, 1) := by decide +kernel
theorem dX10_hasMark_0 : decode cX10_hasMark 0 = .ok (.aload_n 0, 1) := by decide +kernel
theorem dX10_hasMark_1 : decode cX10_hasMark 1 = .ok (.iload_n 1, 1) := by decide +kernel
theorem dX10_hasMark_2 : decode cX10_hasMark 2 = .ok (.iload_n 2, 1) := by decide +kernel
theorem dX10_hasMark_3 : decode cX10_hasMark 3 = .ok (.iconst 0, 1) := by decide +kernel
theorem dX10_hasMark_4 : decode cX10_hasMark 4 = .ok (.invokevirtual 271, 3) := by decide +kernel
theorem dX10_hasMark_7 : decode cX10_hasMark 7 = .ok (.iload_n 3, 1) := by decide +kernel
theorem dX10_hasMark_8 : decode cX10_hasMark 8 = .ok (.if_icmp .eq 14, 3) := by decide +kernel
theorem dX10_hasMark_11 : decode cX10_hasMark 11 = .ok (.aload_n 0, 1) := by decide +kernel
theorem dX10_hasMark_12 : decode cX10_hasMark 12 = .ok (.iload_n 1, 1) := by decide +kernel
theorem dX10_hasMark_13 : decode cX10_hasMark 13 = .ok (.iload_n 2, 1) := by decide +kernel
theorem dX10_hasMark_14 : decode cX10_hasMark 14 = .ok (.iconst 1, 1) := by decide +kernel
theorem dX10_hasMark_15 : decode cX10_hasMark 15 = .ok (.invokevirtual 271, 3) := by decide +kernel
theorem dX10_hasMark_18 : decode cX10_hasMark 18 = .ok (.iload_n 3, 1) := by decide +kernel
theorem dX10_hasMark_19 : decode cX10_hasMark 19 = .ok (.if_icmp .ne 7, 3) := by decide +kernel
theorem dX10_hasMark_22 : decode cX10_hasMark 22 = .ok (.iconst 1, 1) := by decide +kernel
theorem dX10_hasMark_23 : decode cX10_hasMark 23 = .ok (.goto 4, 3) := by decide +kernel
theorem dX10_hasMark_26 : decode cX10_hasMark 26 = .ok (.iconst 0, 1) := by decide +kernel
theorem dX10_hasMark_27 : decode cX10_hasMark 27 = .ok (.ireturn, 1) := by decide +kernel
theorem dX10_fitsAs_0 : decode cX10_fitsAs 0 = .ok (.iconst 1, 1) := by decide +kernel
theorem dX10_fitsAs_1 : decode cX10_fitsAs 1 = .ok (.istore_n 3, 1) := by decide +kernel
theorem dX10_fitsAs_2 : decode cX10_fitsAs 2 = .ok (.iconst 0, 1) := by decide +kernel
theorem dX10_fitsAs_3 : decode cX10_fitsAs 3 = .ok (.istore 4, 2) := by decide +kernel
theorem dX10_fitsAs_5 : decode cX10_fitsAs 5 = .ok (.iload 4, 2) := by decide +kernel
theorem dX10_fitsAs_7 : decode cX10_fitsAs 7 = .ok (.iconst 4, 1) := by decide +kernel
theorem dX10_fitsAs_8 : decode cX10_fitsAs 8 = .ok (.if_icmp .ge 211, 3) := by decide +kernel
theorem dX10_fitsAs_11 : decode cX10_fitsAs 11 = .ok (.aload_n 0, 1) := by decide +kernel
theorem dX10_fitsAs_12 : decode cX10_fitsAs 12 = .ok (.getfield 90, 3) := by decide +kernel
theorem dX10_fitsAs_15 : decode cX10_fitsAs 15 = .ok (.iload_n 2, 1) := by decide +kernel
theorem dX10_fitsAs_16 : decode cX10_fitsAs 16 = .ok (.iaload, 1) := by decide +kernel
theorem dX10_fitsAs_17 : decode cX10_fitsAs 17 = .ok (.ifCond .eq 202, 3) := by decide +kernel
theorem dX10_fitsAs_20 : decode cX10_fitsAs 20 = .ok (.aload_n 0, 1) := by decide +kernel
theorem dX10_fitsAs_21 : decode cX10_fitsAs 21 = .ok (.iload_n 1, 1) := by decide +kernel
theorem dX10_fitsAs_22 : decode cX10_fitsAs 22 = .ok (.iload 4, 2) := by decide +kernel
theorem dX10_fitsAs_24 : decode cX10_fitsAs 24 = .ok (.iconst 0, 1) := by decide +kernel
theorem dX10_fitsAs_25 : decode cX10_fitsAs 25 = .ok (.invokevirtual 271, 3) := by decide +kernel
theorem dX10_fitsAs_28 : decode cX10_fitsAs 28 = .ok (.istore 5, 2) := by decide +kernel
theorem dX10_fitsAs_30 : decode cX10_fitsAs 30 = .ok (.aload_n 0, 1) := by decide +kernel
theorem dX10_fitsAs_31 : decode cX10_fitsAs 31 = .ok (.iload_n 1, 1) := by decide +kernel
theorem dX10_fitsAs_32 : decode cX10_fitsAs 32 = .ok (.iload 4, 2) := by decide +kernel
theorem dX10_fitsAs_34 : decode cX10_fitsAs 34 = .ok (.iconst 1, 1) := by decide +kernel
theorem dX10_fitsAs_35 : decode cX10_fitsAs 35 = .ok (.invokevirtual 271, 3) := by decide +kernel
theorem dX10_fitsAs_38 : decode cX10_fitsAs 38 = .ok (.istore 6, 2) := by decide +kernel
theorem dX10_fitsAs_40 : decode cX10_fitsAs 40 = .ok (.aload_n 0, 1) := by decide +kernel
theorem dX10_fitsAs_41 : decode cX10_fitsAs 41 = .ok (.getfield 93, 3) := by decide +kernel
theorem dX10_fitsAs_44 : decode cX10_fitsAs 44 = .ok (.iload_n 2, 1) := by decide +kernel
theorem dX10_fitsAs_45 : decode cX10_fitsAs 45 = .ok (.iaload, 1) := by decide +kernel
theorem dX10_fitsAs_46 : decode cX10_fitsAs 46 = .ok (.istore 7, 2) := by decide +kernel
theorem dX10_fitsAs_48 : decode cX10_fitsAs 48 = .ok (.aload_n 0, 1) := by decide +kernel
theorem dX10_fitsAs_49 : decode cX10_fitsAs 49 = .ok (.getfield 96, 3) := by decide +kernel
theorem dX10_fitsAs_52 : decode cX10_fitsAs 52 = .ok (.iload_n 2, 1) := by decide +kernel
theorem dX10_fitsAs_53 : decode cX10_fitsAs 53 = .ok (.iaload, 1) := by decide +kernel
theorem dX10_fitsAs_54 : decode cX10_fitsAs 54 = .ok (.istore 8, 2) := by decide +kernel
theorem dX10_fitsAs_56 : decode cX10_fitsAs 56 = .ok (.aload_n 0, 1) := by decide +kernel
theorem dX10_fitsAs_57 : decode cX10_fitsAs 57 = .ok (.getfield 90, 3) := by decide +kernel
theorem dX10_fitsAs_60 : decode cX10_fitsAs 60 = .ok (.iload_n 2, 1) := by decide +kernel
theorem dX10_fitsAs_61 : decode cX10_fitsAs 61 = .ok (.iaload, 1) := by decide +kernel
theorem dX10_fitsAs_62 : decode cX10_fitsAs 62 = .ok (.iconst 2, 1) := by decide +kernel
theorem dX10_fitsAs_63 : decode cX10_fitsAs 63 = .ok (.if_icmp .lt 44, 3) := by decide +kernel
theorem dX10_fitsAs_66 : decode cX10_fitsAs 66 = .ok (.iload_n 3, 1) := by decide +kernel
theorem dX10_fitsAs_67 : decode cX10_fitsAs 67 = .ok (.ifCond .eq 35, 3) := by decide +kernel
theorem dX10_fitsAs_70 : decode cX10_fitsAs 70 = .ok (.iload 5, 2) := by decide +kernel
theorem dX10_fitsAs_72 : decode cX10_fitsAs 72 = .ok (.aload_n 0, 1) := by decide +kernel
theorem dX10_fitsAs_73 : decode cX10_fitsAs 73 = .ok (.iload 7, 2) := by decide +kernel
theorem dX10_fitsAs_75 : decode cX10_fitsAs 75 = .ok (.iload 4, 2) := by decide +kernel
theorem dX10_fitsAs_77 : decode cX10_fitsAs 77 = .ok (.iconst 0, 1) := by decide +kernel
theorem dX10_fitsAs_78 : decode cX10_fitsAs 78 = .ok (.invokevirtual 271, 3) := by decide +kernel
end
section
theorem dX10_fitsAs_81 : decode cX10_fitsAs 81 = .ok (.if_icmp .ne 21, 3) := by decide +kernel
theorem dX10_fitsAs_84 : decode cX10_fitsAs 84 = .ok (.iload 6, 2) := by decide +kernel
theorem dX10_fitsAs_86 : decode cX10_fitsAs 86 = .ok (.aload_n 0, 1) := by decide +kernel
theorem dX10_fitsAs_87 : decode cX10_fitsAs 87 = .ok (.iload 7, 2) := by decide +kernel
theorem dX10_fitsAs_89 : decode cX10_fitsAs 89 = .ok (.iload 4, 2) := by decide +kernel
theorem dX10_fitsAs_91 : decode cX10_fitsAs 91 = .ok (.iconst 1, 1) := by decide +kernel
theorem dX10_fitsAs_92 : decode cX10_fitsAs 92 = .ok (.invokevirtual 271, 3) := by decide +kernel
theorem dX10_fitsAs_95 : decode cX10_fitsAs 95 = .ok (.if_icmp .ne 7, 3) := by decide +kernel
theorem dX10_fitsAs_98 : decode cX10_fitsAs 98 = .ok (.iconst 1, 1) := by decide +kernel
theorem dX10_fitsAs_99 : decode cX10_fitsAs 99 = .ok (.goto 4, 3) := by decide +kernel
theorem dX10_fitsAs_102 : decode cX10_fitsAs 102 = .ok (.iconst 0, 1) := by decide +kernel
theorem dX10_fitsAs_103 : decode cX10_fitsAs 103 = .ok (.istore_n 3, 1) := by decide +kernel
theorem dX10_fitsAs_104 : decode cX10_fitsAs 104 = .ok (.goto 109, 3) := by decide +kernel
theorem dX10_fitsAs_107 : decode cX10_fitsAs 107 = .ok (.iload 8, 2) := by decide +kernel
theorem dX10_fitsAs_109 : decode cX10_fitsAs 109 = .ok (.ifCond .ge 42, 3) := by decide +kernel
theorem dX10_fitsAs_112 : decode cX10_fitsAs 112 = .ok (.iload_n 3, 1) := by decide +kernel
theorem dX10_fitsAs_113 : decode cX10_fitsAs 113 = .ok (.ifCond .eq 33, 3) := by decide +kernel
theorem dX10_fitsAs_116 : decode cX10_fitsAs 116 = .ok (.aload_n 0, 1) := by decide +kernel
theorem dX10_fitsAs_117 : decode cX10_fitsAs 117 = .ok (.iload 7, 2) := by decide +kernel
theorem dX10_fitsAs_119 : decode cX10_fitsAs 119 = .ok (.iload 4, 2) := by decide +kernel
theorem dX10_fitsAs_121 : decode cX10_fitsAs 121 = .ok (.iload 5, 2) := by decide +kernel
theorem dX10_fitsAs_123 : decode cX10_fitsAs 123 = .ok (.invokevirtual 275, 3) := by decide +kernel
theorem dX10_fitsAs_126 : decode cX10_fitsAs 126 = .ok (.ifCond .ne 16, 3) := by decide +kernel
theorem dX10_fitsAs_129 : decode cX10_fitsAs 129 = .ok (.aload_n 0, 1) := by decide +kernel
theorem dX10_fitsAs_130 : decode cX10_fitsAs 130 = .ok (.iload 7, 2) := by decide +kernel
theorem dX10_fitsAs_132 : decode cX10_fitsAs 132 = .ok (.iload 4, 2) := by decide +kernel
theorem dX10_fitsAs_134 : decode cX10_fitsAs 134 = .ok (.iload 6, 2) := by decide +kernel
theorem dX10_fitsAs_136 : decode cX10_fitsAs 136 = .ok (.invokevirtual 275, 3) := by decide +kernel
theorem dX10_fitsAs_139 : decode cX10_fitsAs 139 = .ok (.ifCond .eq 7, 3) := by decide +kernel
theorem dX10_fitsAs_142 : decode cX10_fitsAs 142 = .ok (.iconst 1, 1) := by decide +kernel
theorem dX10_fitsAs_143 : decode cX10_fitsAs 143 = .ok (.goto 4, 3) := by decide +kernel
theorem dX10_fitsAs_146 : decode cX10_fitsAs 146 = .ok (.iconst 0, 1) := by decide +kernel
theorem dX10_fitsAs_147 : decode cX10_fitsAs 147 = .ok (.istore_n 3, 1) := by decide +kernel
theorem dX10_fitsAs_148 : decode cX10_fitsAs 148 = .ok (.goto 65, 3) := by decide +kernel
theorem dX10_fitsAs_151 : decode cX10_fitsAs 151 = .ok (.iload_n 3, 1) := by decide +kernel
theorem dX10_fitsAs_152 : decode cX10_fitsAs 152 = .ok (.ifCond .eq 59, 3) := by decide +kernel
theorem dX10_fitsAs_155 : decode cX10_fitsAs 155 = .ok (.aload_n 0, 1) := by decide +kernel
theorem dX10_fitsAs_156 : decode cX10_fitsAs 156 = .ok (.iload 7, 2) := by decide +kernel
theorem dX10_fitsAs_158 : decode cX10_fitsAs 158 = .ok (.iload 4, 2) := by decide +kernel
theorem dX10_fitsAs_160 : decode cX10_fitsAs 160 = .ok (.iload 5, 2) := by decide +kernel
theorem dX10_fitsAs_162 : decode cX10_fitsAs 162 = .ok (.invokevirtual 275, 3) := by decide +kernel
theorem dX10_fitsAs_165 : decode cX10_fitsAs 165 = .ok (.ifCond .eq 16, 3) := by decide +kernel
theorem dX10_fitsAs_168 : decode cX10_fitsAs 168 = .ok (.aload_n 0, 1) := by decide +kernel
theorem dX10_fitsAs_169 : decode cX10_fitsAs 169 = .ok (.iload 8, 2) := by decide +kernel
theorem dX10_fitsAs_171 : decode cX10_fitsAs 171 = .ok (.iload 4, 2) := by decide +kernel
theorem dX10_fitsAs_173 : decode cX10_fitsAs 173 = .ok (.iload 6, 2) := by decide +kernel
theorem dX10_fitsAs_175 : decode cX10_fitsAs 175 = .ok (.invokevirtual 275, 3) := by decide +kernel
theorem dX10_fitsAs_178 : decode cX10_fitsAs 178 = .ok (.ifCond .ne 29, 3) := by decide +kernel
theorem dX10_fitsAs_181 : decode cX10_fitsAs 181 = .ok (.aload_n 0, 1) := by decide +kernel
theorem dX10_fitsAs_182 : decode cX10_fitsAs 182 = .ok (.iload 7, 2) := by decide +kernel
theorem dX10_fitsAs_184 : decode cX10_fitsAs 184 = .ok (.iload 4, 2) := by decide +kernel
theorem dX10_fitsAs_186 : decode cX10_fitsAs 186 = .ok (.iload 6, 2) := by decide +kernel
theorem dX10_fitsAs_188 : decode cX10_fitsAs 188 = .ok (.invokevirtual 275, 3) := by decide +kernel
theorem dX10_fitsAs_191 : decode cX10_fitsAs 191 = .ok (.ifCond .eq 20, 3) := by decide +kernel
theorem dX10_fitsAs_194 : decode cX10_fitsAs 194 = .ok (.aload_n 0, 1) := by decide +kernel
theorem dX10_fitsAs_195 : decode cX10_fitsAs 195 = .ok (.iload 8, 2) := by decide +kernel
theorem dX10_fitsAs_197 : decode cX10_fitsAs 197 = .ok (.iload 4, 2) := by decide +kernel
theorem dX10_fitsAs_199 : decode cX10_fitsAs 199 = .ok (.iload 5, 2) := by decide +kernel
theorem dX10_fitsAs_201 : decode cX10_fitsAs 201 = .ok (.invokevirtual 275, 3) := by decide +kernel
theorem dX10_fitsAs_204 : decode cX10_fitsAs 204 = .ok (.ifCond .eq 7, 3) := by decide +kernel
theorem dX10_fitsAs_207 : decode cX10_fitsAs 207 = .ok (.iconst 1, 1) := by decide +kernel
theorem dX10_fitsAs_208 : decode cX10_fitsAs 208 = .ok (.goto 4, 3) := by decide +kernel
theorem dX10_fitsAs_211 : decode cX10_fitsAs 211 = .ok (.iconst 0, 1) := by decide +kernel
theorem dX10_fitsAs_212 : decode cX10_fitsAs 212 = .ok (.istore_n 3, 1) := by decide +kernel
theorem dX10_fitsAs_213 : decode cX10_fitsAs 213 = .ok (.iinc 4 1, 3) := by decide +kernel
theorem dX10_fitsAs_216 : decode cX10_fitsAs 216 = .ok (.goto (-211), 3) := by decide +kernel
theorem dX10_fitsAs_219 : decode cX10_fitsAs 219 = .ok (.iload_n 3, 1) := by decide +kernel
theorem dX10_fitsAs_220 : decode cX10_fitsAs 220 = .ok (.ireturn, 1) := by decide +kernel
theorem dX10_fits_0 : decode cX10_fits 0 = .ok (.aload_n 0, 1) := by decide +kernel
theorem dX10_fits_1 : decode cX10_fits 1 = .ok (.iconst 0, 1) := by decide +kernel
theorem dX10_fits_2 : decode cX10_fits 2 = .ok (.putfield 1, 3) := by decide +kernel
theorem dX10_fits_5 : decode cX10_fits 5 = .ok (.aload_n 0, 1) := by decide +kernel
theorem dX10_fits_6 : decode cX10_fits 6 = .ok (.iload_n 1, 1) := by decide +kernel
theorem dX10_fits_7 : decode cX10_fits 7 = .ok (.invokevirtual 268, 3) := by decide +kernel
theorem dX10_fits_10 : decode cX10_fits 10 = .ok (.ifCond .ne 7, 3) := by decide +kernel
theorem dX10_fits_13 : decode cX10_fits 13 = .ok (.iconst (-1), 1) := by decide +kernel
theorem dX10_fits_14 : decode cX10_fits 14 = .ok (.goto 17, 3) := by decide +kernel
theorem dX10_fits_17 : decode cX10_fits 17 = .ok (.aload_n 0, 1) := by decide +kernel
theorem dX10_fits_18 : decode cX10_fits 18 = .ok (.iload_n 1, 1) := by decide +kernel
theorem dX10_fits_19 : decode cX10_fits 19 = .ok (.iload_n 1, 1) := by decide +kernel
theorem dX10_fits_20 : decode cX10_fits 20 = .ok (.invokevirtual 279, 3) := by decide +kernel
theorem dX10_fits_23 : decode cX10_fits 23 = .ok (.ifCond .eq 7, 3) := by decide +kernel
theorem dX10_fits_26 : decode cX10_fits 26 = .ok (.iconst 1, 1) := by decide +kernel
theorem dX10_fits_27 : decode cX10_fits 27 = .ok (.goto 4, 3) := by decide +kernel
theorem dX10_fits_30 : decode cX10_fits 30 = .ok (.iconst 0, 1) := by decide +kernel
theorem dX10_fits_31 : decode cX10_fits 31 = .ok (.ireturn, 1) := by decide +kernel
theorem dX10_changed_0 : decode cX10_changed 0 = .ok (.aload_n 0, 1) := by decide +kernel
theorem dX10_changed_1 : decode cX10_changed 1 = .ok (.iconst 0, 1) := by decide +kernel
theorem dX10_changed_2 : decode cX10_changed 2 = .ok (.putfield 1, 3) := by decide +kernel
theorem dX10_changed_5 : decode cX10_changed 5 = .ok (.aload_n 0, 1) := by decide +kernel
theorem dX10_changed_6 : decode cX10_changed 6 = .ok (.iload_n 1, 1) := by decide +kernel
theorem dX10_changed_7 : decode cX10_changed 7 = .ok (.invokevirtual 268, 3) := by decide +kernel
theorem dX10_changed_10 : decode cX10_changed 10 = .ok (.ifCond .eq 16, 3) := by decide +kernel
theorem dX10_changed_13 : decode cX10_changed 13 = .ok (.aload_n 0, 1) := by decide +kernel
theorem dX10_changed_14 : decode cX10_changed 14 = .ok (.iload_n 2, 1) := by decide +kernel
theorem dX10_changed_15 : decode cX10_changed 15 = .ok (.invokevirtual 268, 3) := by decide +kernel
theorem dX10_changed_18 : decode cX10_changed 18 = .ok (.ifCond .eq 8, 3) := by decide +kernel
theorem dX10_changed_21 : decode cX10_changed 21 = .ok (.iload_n 1, 1) := by decide +kernel
theorem dX10_changed_22 : decode cX10_changed 22 = .ok (.iload_n 2, 1) := by decide +kernel
theorem dX10_changed_23 : decode cX10_changed 23 = .ok (.if_icmp .ne 5, 3) := by decide +kernel
theorem dX10_changed_26 : decode cX10_changed 26 = .ok (.iconst (-1), 1) := by decide +kernel
theorem dX10_changed_27 : decode cX10_changed 27 = .ok (.ireturn, 1) := by decide +kernel
theorem dX10_changed_28 : decode cX10_changed 28 = .ok (.aload_n 0, 1) := by decide +kernel
theorem dX10_changed_29 : decode cX10_changed 29 = .ok (.iload_n 1, 1) := by decide +kernel
theorem dX10_changed_30 : decode cX10_changed 30 = .ok (.iload_n 1, 1) := by decide +kernel
theorem dX10_changed_31 : decode cX10_changed 31 = .ok (.invokevirtual 279, 3) := by decide +kernel
theorem dX10_changed_34 : decode cX10_changed 34 = .ok (.ifCond .ne 34, 3) := by decide +kernel
theorem dX10_changed_37 : decode cX10_changed 37 = .ok (.aload_n 0, 1) := by decide +kernel
theorem dX10_changed_38 : decode cX10_changed 38 = .ok (.iload_n 2, 1) := by decide +kernel
theorem dX10_changed_39 : decode cX10_changed 39 = .ok (.iload_n 2, 1) := by decide +kernel
theorem dX10_changed_40 : decode cX10_changed 40 = .ok (.invokevirtual 279, 3) := by decide +kernel
theorem dX10_changed_43 : decode cX10_changed 43 = .ok (.ifCond .ne 25, 3) := by decide +kernel
theorem dX10_changed_46 : decode cX10_changed 46 = .ok (.aload_n 0, 1) := by decide +kernel
theorem dX10_changed_47 : decode cX10_changed 47 = .ok (.iload_n 1, 1) := by decide +kernel
theorem dX10_changed_48 : decode cX10_changed 48 = .ok (.iload_n 2, 1) := by decide +kernel
theorem dX10_changed_49 : decode cX10_changed 49 = .ok (.invokevirtual 279, 3) := by decide +kernel
theorem dX10_changed_52 : decode cX10_changed 52 = .ok (.ifCond .eq 16, 3) := by decide +kernel
theorem dX10_changed_55 : decode cX10_changed 55 = .ok (.aload_n 0, 1) := by decide +kernel
theorem dX10_changed_56 : decode cX10_changed 56 = .ok (.iload_n 2, 1) := by decide +kernel
theorem dX10_changed_57 : decode cX10_changed 57 = .ok (.iload_n 1, 1) := by decide +kernel
theorem dX10_changed_58 : decode cX10_changed 58 = .ok (.invokevirtual 279, 3) := by decide +kernel
theorem dX10_changed_61 : decode cX10_changed 61 = .ok (.ifCond .eq 7, 3) := by decide +kernel
theorem dX10_changed_64 : decode cX10_changed 64 = .ok (.iconst 1, 1) := by decide +kernel
theorem dX10_changed_65 : decode cX10_changed 65 = .ok (.goto 4, 3) := by decide +kernel
theorem dX10_changed_68 : decode cX10_changed 68 = .ok (.iconst 0, 1) := by decide +kernel
theorem dX10_changed_69 : decode cX10_changed 69 = .ok (.ireturn, 1) := by decide +kernel
theorem dX10_isName_0 : decode cX10_isName 0 = .ok (.iload_n 0, 1) := by decide +kernel
theorem dX10_isName_1 : decode cX10_isName 1 = .ok (.iconst 1, 1) := by decide +kernel
theorem dX10_isName_2 : decode cX10_isName 2 = .ok (.if_icmp .lt 13, 3) := by decide +kernel
theorem dX10_isName_5 : decode cX10_isName 5 = .ok (.iload_n 0, 1) := by decide +kernel
theorem dX10_isName_6 : decode cX10_isName 6 = .ok (.bipush 50, 2) := by decide +kernel
theorem dX10_isName_8 : decode cX10_isName 8 = .ok (.if_icmp .gt 7, 3) := by decide +kernel
theorem dX10_isName_11 : decode cX10_isName 11 = .ok (.iconst 1, 1) := by decide +kernel
theorem dX10_isName_12 : decode cX10_isName 12 = .ok (.goto 4, 3) := by decide +kernel
theorem dX10_isName_15 : decode cX10_isName 15 = .ok (.iconst 0, 1) := by decide +kernel
theorem dX10_isName_16 : decode cX10_isName 16 = .ok (.ireturn, 1) := by decide +kernel
theorem dX10_name_0 : decode cX10_name 0 = .ok (.aload_n 0, 1) := by decide +kernel
theorem dX10_name_1 : decode cX10_name 1 = .ok (.iconst 0, 1) := by decide +kernel
theorem dX10_name_2 : decode cX10_name 2 = .ok (.putfield 1, 3) := by decide +kernel
theorem dX10_name_5 : decode cX10_name 5 = .ok (.aload_n 0, 1) := by decide +kernel
theorem dX10_name_6 : decode cX10_name 6 = .ok (.iload_n 1, 1) := by decide +kernel
theorem dX10_name_7 : decode cX10_name 7 = .ok (.invokevirtual 268, 3) := by decide +kernel
theorem dX10_name_10 : decode cX10_name 10 = .ok (.ifCond .eq 20, 3) := by decide +kernel
theorem dX10_name_13 : decode cX10_name 13 = .ok (.iload_n 2, 1) := by decide +kernel
theorem dX10_name_14 : decode cX10_name 14 = .ok (.invokestatic 283, 3) := by decide +kernel
theorem dX10_name_17 : decode cX10_name 17 = .ok (.ifCond .eq 13, 3) := by decide +kernel
theorem dX10_name_20 : decode cX10_name 20 = .ok (.aload_n 0, 1) := by decide +kernel
theorem dX10_name_21 : decode cX10_name 21 = .ok (.getfield 286, 3) := by decide +kernel
theorem dX10_name_24 : decode cX10_name 24 = .ok (.sipush 300, 3) := by decide +kernel
theorem dX10_name_27 : decode cX10_name 27 = .ok (.if_icmp .ne 5, 3) := by decide +kernel
theorem dX10_name_30 : decode cX10_name 30 = .ok (.iconst 0, 1) := by decide +kernel
theorem dX10_name_31 : decode cX10_name 31 = .ok (.ireturn, 1) := by decide +kernel
theorem dX10_name_32 : decode cX10_name 32 = .ok (.aload_n 0, 1) := by decide +kernel
theorem dX10_name_33 : decode cX10_name 33 = .ok (.getfield 123, 3) := by decide +kernel
theorem dX10_name_36 : decode cX10_name 36 = .ok (.aload_n 0, 1) := by decide +kernel
theorem dX10_name_37 : decode cX10_name 37 = .ok (.getfield 286, 3) := by decide +kernel
theorem dX10_name_40 : decode cX10_name 40 = .ok (.iload_n 1, 1) := by decide +kernel
theorem dX10_name_41 : decode cX10_name 41 = .ok (.iastore, 1) := by decide +kernel
theorem dX10_name_42 : decode cX10_name 42 = .ok (.aload_n 0, 1) := by decide +kernel
theorem dX10_name_43 : decode cX10_name 43 = .ok (.getfield 126, 3) := by decide +kernel
theorem dX10_name_46 : decode cX10_name 46 = .ok (.aload_n 0, 1) := by decide +kernel
theorem dX10_name_47 : decode cX10_name 47 = .ok (.getfield 286, 3) := by decide +kernel
theorem dX10_name_50 : decode cX10_name 50 = .ok (.iload_n 2, 1) := by decide +kernel
theorem dX10_name_51 : decode cX10_name 51 = .ok (.iastore, 1) := by decide +kernel
theorem dX10_name_52 : decode cX10_name 52 = .ok (.aload_n 0, 1) := by decide +kernel
theorem dX10_name_53 : decode cX10_name 53 = .ok (.getfield 129, 3) := by decide +kernel
theorem dX10_name_56 : decode cX10_name 56 = .ok (.aload_n 0, 1) := by decide +kernel
theorem dX10_name_57 : decode cX10_name 57 = .ok (.getfield 286, 3) := by decide +kernel
theorem dX10_name_60 : decode cX10_name 60 = .ok (.aload_n 0, 1) := by decide +kernel
theorem dX10_name_61 : decode cX10_name 61 = .ok (.getfield 255, 3) := by decide +kernel
theorem dX10_name_64 : decode cX10_name 64 = .ok (.iastore, 1) := by decide +kernel
theorem dX10_name_65 : decode cX10_name 65 = .ok (.aload_n 0, 1) := by decide +kernel
theorem dX10_name_66 : decode cX10_name 66 = .ok (.dup, 1) := by decide +kernel
theorem dX10_name_67 : decode cX10_name 67 = .ok (.getfield 286, 3) := by decide +kernel
theorem dX10_name_70 : decode cX10_name 70 = .ok (.iconst 1, 1) := by decide +kernel
theorem dX10_name_71 : decode cX10_name 71 = .ok (.iadd, 1) := by decide +kernel
theorem dX10_name_72 : decode cX10_name 72 = .ok (.putfield 286, 3) := by decide +kernel
theorem dX10_name_75 : decode cX10_name 75 = .ok (.iconst 1, 1) := by decide +kernel
theorem dX10_name_76 : decode cX10_name 76 = .ok (.ireturn, 1) := by decide +kernel
theorem dX10_leads_0 : decode cX10_leads 0 = .ok (.iload_n 1, 1) := by decide +kernel
theorem dX10_leads_1 : decode cX10_leads 1 = .ok (.istore_n 3, 1) := by decide +kernel
theorem dX10_leads_2 : decode cX10_leads 2 = .ok (.aload_n 0, 1) := by decide +kernel
theorem dX10_leads_3 : decode cX10_leads 3 = .ok (.iload_n 3, 1) := by decide +kernel
theorem dX10_leads_4 : decode cX10_leads 4 = .ok (.iload_n 2, 1) := by decide +kernel
theorem dX10_leads_5 : decode cX10_leads 5 = .ok (.invokevirtual 289, 3) := by decide +kernel
theorem dX10_leads_8 : decode cX10_leads 8 = .ok (.istore 4, 2) := by decide +kernel
theorem dX10_leads_10 : decode cX10_leads 10 = .ok (.iload 4, 2) := by decide +kernel
theorem dX10_leads_12 : decode cX10_leads 12 = .ok (.ifCond .le 17, 3) := by decide +kernel
theorem dX10_leads_15 : decode cX10_leads 15 = .ok (.iload 4, 2) := by decide +kernel
theorem dX10_leads_17 : decode cX10_leads 17 = .ok (.istore_n 3, 1) := by decide +kernel
theorem dX10_leads_18 : decode cX10_leads 18 = .ok (.aload_n 0, 1) := by decide +kernel
theorem dX10_leads_19 : decode cX10_leads 19 = .ok (.iload_n 3, 1) := by decide +kernel
theorem dX10_leads_20 : decode cX10_leads 20 = .ok (.iload_n 2, 1) := by decide +kernel
theorem dX10_leads_21 : decode cX10_leads 21 = .ok (.invokevirtual 289, 3) := by decide +kernel
theorem dX10_leads_24 : decode cX10_leads 24 = .ok (.istore 4, 2) := by decide +kernel
theorem dX10_leads_26 : decode cX10_leads 26 = .ok (.goto (-16), 3) := by decide +kernel
theorem dX10_leads_29 : decode cX10_leads 29 = .ok (.iload_n 3, 1) := by decide +kernel
theorem dX10_leads_30 : decode cX10_leads 30 = .ok (.ireturn, 1) := by decide +kernel
theorem dX10_joinedTo_0 : decode cX10_joinedTo 0 = .ok (.iconst 0, 1) := by decide +kernel
theorem dX10_joinedTo_1 : decode cX10_joinedTo 1 = .ok (.istore_n 3, 1) := by decide +kernel
theorem dX10_joinedTo_2 : decode cX10_joinedTo 2 = .ok (.iconst 0, 1) := by decide +kernel
theorem dX10_joinedTo_3 : decode cX10_joinedTo 3 = .ok (.istore 4, 2) := by decide +kernel
theorem dX10_joinedTo_5 : decode cX10_joinedTo 5 = .ok (.iload 4, 2) := by decide +kernel
theorem dX10_joinedTo_7 : decode cX10_joinedTo 7 = .ok (.aload_n 0, 1) := by decide +kernel
theorem dX10_joinedTo_8 : decode cX10_joinedTo 8 = .ok (.getfield 293, 3) := by decide +kernel
theorem dX10_joinedTo_11 : decode cX10_joinedTo 11 = .ok (.if_icmp .ge 43, 3) := by decide +kernel
theorem dX10_joinedTo_14 : decode cX10_joinedTo 14 = .ok (.aload_n 0, 1) := by decide +kernel
theorem dX10_joinedTo_15 : decode cX10_joinedTo 15 = .ok (.getfield 132, 3) := by decide +kernel
theorem dX10_joinedTo_18 : decode cX10_joinedTo 18 = .ok (.iload 4, 2) := by decide +kernel
theorem dX10_joinedTo_20 : decode cX10_joinedTo 20 = .ok (.iaload, 1) := by decide +kernel
theorem dX10_joinedTo_21 : decode cX10_joinedTo 21 = .ok (.iload_n 1, 1) := by decide +kernel
theorem dX10_joinedTo_22 : decode cX10_joinedTo 22 = .ok (.if_icmp .ne 24, 3) := by decide +kernel
theorem dX10_joinedTo_25 : decode cX10_joinedTo 25 = .ok (.aload_n 0, 1) := by decide +kernel
theorem dX10_joinedTo_26 : decode cX10_joinedTo 26 = .ok (.getfield 138, 3) := by decide +kernel
theorem dX10_joinedTo_29 : decode cX10_joinedTo 29 = .ok (.iload 4, 2) := by decide +kernel
theorem dX10_joinedTo_31 : decode cX10_joinedTo 31 = .ok (.iaload, 1) := by decide +kernel
theorem dX10_joinedTo_32 : decode cX10_joinedTo 32 = .ok (.iload_n 2, 1) := by decide +kernel
theorem dX10_joinedTo_33 : decode cX10_joinedTo 33 = .ok (.if_icmp .gt 13, 3) := by decide +kernel
theorem dX10_joinedTo_36 : decode cX10_joinedTo 36 = .ok (.aload_n 0, 1) := by decide +kernel
theorem dX10_joinedTo_37 : decode cX10_joinedTo 37 = .ok (.getfield 135, 3) := by decide +kernel
theorem dX10_joinedTo_40 : decode cX10_joinedTo 40 = .ok (.iload 4, 2) := by decide +kernel
theorem dX10_joinedTo_42 : decode cX10_joinedTo 42 = .ok (.iaload, 1) := by decide +kernel
theorem dX10_joinedTo_43 : decode cX10_joinedTo 43 = .ok (.goto 4, 3) := by decide +kernel
theorem dX10_joinedTo_46 : decode cX10_joinedTo 46 = .ok (.iload_n 3, 1) := by decide +kernel
theorem dX10_joinedTo_47 : decode cX10_joinedTo 47 = .ok (.istore_n 3, 1) := by decide +kernel
theorem dX10_joinedTo_48 : decode cX10_joinedTo 48 = .ok (.iinc 4 1, 3) := by decide +kernel
theorem dX10_joinedTo_51 : decode cX10_joinedTo 51 = .ok (.goto (-46), 3) := by decide +kernel
theorem dX10_joinedTo_54 : decode cX10_joinedTo 54 = .ok (.iload_n 3, 1) := by decide +kernel
theorem dX10_joinedTo_55 : decode cX10_joinedTo 55 = .ok (.ireturn, 1) := by decide +kernel
theorem dX10_leadsBack_0 : decode cX10_leadsBack 0 = .ok (.iload_n 1, 1) := by decide +kernel
theorem dX10_leadsBack_1 : decode cX10_leadsBack 1 = .ok (.istore_n 3, 1) := by decide +kernel
theorem dX10_leadsBack_2 : decode cX10_leadsBack 2 = .ok (.iload_n 3, 1) := by decide +kernel
theorem dX10_leadsBack_3 : decode cX10_leadsBack 3 = .ok (.ifCond .le 21, 3) := by decide +kernel
theorem dX10_leadsBack_6 : decode cX10_leadsBack 6 = .ok (.iload_n 3, 1) := by decide +kernel
theorem dX10_leadsBack_7 : decode cX10_leadsBack 7 = .ok (.iload_n 2, 1) := by decide +kernel
theorem dX10_leadsBack_8 : decode cX10_leadsBack 8 = .ok (.if_icmp .eq 16, 3) := by decide +kernel
theorem dX10_leadsBack_11 : decode cX10_leadsBack 11 = .ok (.aload_n 0, 1) := by decide +kernel
theorem dX10_leadsBack_12 : decode cX10_leadsBack 12 = .ok (.iload_n 3, 1) := by decide +kernel
theorem dX10_leadsBack_13 : decode cX10_leadsBack 13 = .ok (.aload_n 0, 1) := by decide +kernel
theorem dX10_leadsBack_14 : decode cX10_leadsBack 14 = .ok (.getfield 255, 3) := by decide +kernel
theorem dX10_leadsBack_17 : decode cX10_leadsBack 17 = .ok (.invokevirtual 289, 3) := by decide +kernel
theorem dX10_leadsBack_20 : decode cX10_leadsBack 20 = .ok (.istore_n 3, 1) := by decide +kernel
theorem dX10_leadsBack_21 : decode cX10_leadsBack 21 = .ok (.goto (-19), 3) := by decide +kernel
theorem dX10_leadsBack_24 : decode cX10_leadsBack 24 = .ok (.iload_n 3, 1) := by decide +kernel
theorem dX10_leadsBack_25 : decode cX10_leadsBack 25 = .ok (.iload_n 2, 1) := by decide +kernel
theorem dX10_leadsBack_26 : decode cX10_leadsBack 26 = .ok (.if_icmp .ne 7, 3) := by decide +kernel
theorem dX10_leadsBack_29 : decode cX10_leadsBack 29 = .ok (.iconst 1, 1) := by decide +kernel
theorem dX10_leadsBack_30 : decode cX10_leadsBack 30 = .ok (.goto 4, 3) := by decide +kernel
theorem dX10_leadsBack_33 : decode cX10_leadsBack 33 = .ok (.iconst 0, 1) := by decide +kernel
theorem dX10_leadsBack_34 : decode cX10_leadsBack 34 = .ok (.ireturn, 1) := by decide +kernel
theorem dX10_join_0 : decode cX10_join 0 = .ok (.aload_n 0, 1) := by decide +kernel
theorem dX10_join_1 : decode cX10_join 1 = .ok (.iconst 0, 1) := by decide +kernel
theorem dX10_join_2 : decode cX10_join 2 = .ok (.putfield 1, 3) := by decide +kernel
theorem dX10_join_5 : decode cX10_join 5 = .ok (.iload_n 1, 1) := by decide +kernel
theorem dX10_join_6 : decode cX10_join 6 = .ok (.invokestatic 283, 3) := by decide +kernel
theorem dX10_join_9 : decode cX10_join 9 = .ok (.ifCond .eq 41, 3) := by decide +kernel
theorem dX10_join_12 : decode cX10_join 12 = .ok (.iload_n 2, 1) := by decide +kernel
theorem dX10_join_13 : decode cX10_join 13 = .ok (.ifCond .eq 10, 3) := by decide +kernel
theorem dX10_join_16 : decode cX10_join 16 = .ok (.iload_n 2, 1) := by decide +kernel
theorem dX10_join_17 : decode cX10_join 17 = .ok (.invokestatic 283, 3) := by decide +kernel
theorem dX10_join_20 : decode cX10_join 20 = .ok (.ifCond .eq 30, 3) := by decide +kernel
theorem dX10_join_23 : decode cX10_join 23 = .ok (.iload_n 1, 1) := by decide +kernel
theorem dX10_join_24 : decode cX10_join 24 = .ok (.iload_n 2, 1) := by decide +kernel
theorem dX10_join_25 : decode cX10_join 25 = .ok (.if_icmp .eq 25, 3) := by decide +kernel
theorem dX10_join_28 : decode cX10_join 28 = .ok (.aload_n 0, 1) := by decide +kernel
theorem dX10_join_29 : decode cX10_join 29 = .ok (.getfield 293, 3) := by decide +kernel
theorem dX10_join_32 : decode cX10_join 32 = .ok (.bipush 100, 2) := by decide +kernel
theorem dX10_join_34 : decode cX10_join 34 = .ok (.if_icmp .eq 16, 3) := by decide +kernel
theorem dX10_join_37 : decode cX10_join 37 = .ok (.iload_n 2, 1) := by decide +kernel
theorem dX10_join_38 : decode cX10_join 38 = .ok (.ifCond .le 14, 3) := by decide +kernel
theorem dX10_join_41 : decode cX10_join 41 = .ok (.aload_n 0, 1) := by decide +kernel
theorem dX10_join_42 : decode cX10_join 42 = .ok (.iload_n 2, 1) := by decide +kernel
theorem dX10_join_43 : decode cX10_join 43 = .ok (.iload_n 1, 1) := by decide +kernel
theorem dX10_join_44 : decode cX10_join 44 = .ok (.invokevirtual 296, 3) := by decide +kernel
theorem dX10_join_47 : decode cX10_join 47 = .ok (.ifCond .eq 5, 3) := by decide +kernel
theorem dX10_join_50 : decode cX10_join 50 = .ok (.iconst 0, 1) := by decide +kernel
theorem dX10_join_51 : decode cX10_join 51 = .ok (.ireturn, 1) := by decide +kernel
theorem dX10_join_52 : decode cX10_join 52 = .ok (.aload_n 0, 1) := by decide +kernel
theorem dX10_join_53 : decode cX10_join 53 = .ok (.getfield 132, 3) := by decide +kernel
theorem dX10_join_56 : decode cX10_join 56 = .ok (.aload_n 0, 1) := by decide +kernel
theorem dX10_join_57 : decode cX10_join 57 = .ok (.getfield 293, 3) := by decide +kernel
theorem dX10_join_60 : decode cX10_join 60 = .ok (.iload_n 1, 1) := by decide +kernel
theorem dX10_join_61 : decode cX10_join 61 = .ok (.iastore, 1) := by decide +kernel
theorem dX10_join_62 : decode cX10_join 62 = .ok (.aload_n 0, 1) := by decide +kernel
theorem dX10_join_63 : decode cX10_join 63 = .ok (.getfield 135, 3) := by decide +kernel
theorem dX10_join_66 : decode cX10_join 66 = .ok (.aload_n 0, 1) := by decide +kernel
theorem dX10_join_67 : decode cX10_join 67 = .ok (.getfield 293, 3) := by decide +kernel
theorem dX10_join_70 : decode cX10_join 70 = .ok (.iload_n 2, 1) := by decide +kernel
theorem dX10_join_71 : decode cX10_join 71 = .ok (.iastore, 1) := by decide +kernel
theorem dX10_join_72 : decode cX10_join 72 = .ok (.aload_n 0, 1) := by decide +kernel
theorem dX10_join_73 : decode cX10_join 73 = .ok (.getfield 138, 3) := by decide +kernel
theorem dX10_join_76 : decode cX10_join 76 = .ok (.aload_n 0, 1) := by decide +kernel
theorem dX10_join_77 : decode cX10_join 77 = .ok (.getfield 293, 3) := by decide +kernel
theorem dX10_join_80 : decode cX10_join 80 = .ok (.aload_n 0, 1) := by decide +kernel
theorem dX10_join_81 : decode cX10_join 81 = .ok (.getfield 255, 3) := by decide +kernel
theorem dX10_join_84 : decode cX10_join 84 = .ok (.iastore, 1) := by decide +kernel
theorem dX10_join_85 : decode cX10_join 85 = .ok (.aload_n 0, 1) := by decide +kernel
theorem dX10_join_86 : decode cX10_join 86 = .ok (.dup, 1) := by decide +kernel
theorem dX10_join_87 : decode cX10_join 87 = .ok (.getfield 293, 3) := by decide +kernel
theorem dX10_join_90 : decode cX10_join 90 = .ok (.iconst 1, 1) := by decide +kernel
theorem dX10_join_91 : decode cX10_join 91 = .ok (.iadd, 1) := by decide +kernel
theorem dX10_join_92 : decode cX10_join 92 = .ok (.putfield 293, 3) := by decide +kernel
theorem dX10_join_95 : decode cX10_join 95 = .ok (.iconst 1, 1) := by decide +kernel
theorem dX10_join_96 : decode cX10_join 96 = .ok (.ireturn, 1) := by decide +kernel
theorem dX10_nameOf_0 : decode cX10_nameOf 0 = .ok (.iconst 0, 1) := by decide +kernel
theorem dX10_nameOf_1 : decode cX10_nameOf 1 = .ok (.istore 4, 2) := by decide +kernel
theorem dX10_nameOf_3 : decode cX10_nameOf 3 = .ok (.iconst 0, 1) := by decide +kernel
theorem dX10_nameOf_4 : decode cX10_nameOf 4 = .ok (.istore 5, 2) := by decide +kernel
theorem dX10_nameOf_6 : decode cX10_nameOf 6 = .ok (.iload 5, 2) := by decide +kernel
theorem dX10_nameOf_8 : decode cX10_nameOf 8 = .ok (.aload_n 0, 1) := by decide +kernel
theorem dX10_nameOf_9 : decode cX10_nameOf 9 = .ok (.getfield 286, 3) := by decide +kernel
theorem dX10_nameOf_12 : decode cX10_nameOf 12 = .ok (.if_icmp .ge 45, 3) := by decide +kernel
theorem dX10_nameOf_15 : decode cX10_nameOf 15 = .ok (.aload_n 0, 1) := by decide +kernel
theorem dX10_nameOf_16 : decode cX10_nameOf 16 = .ok (.getfield 123, 3) := by decide +kernel
theorem dX10_nameOf_19 : decode cX10_nameOf 19 = .ok (.iload 5, 2) := by decide +kernel
theorem dX10_nameOf_21 : decode cX10_nameOf 21 = .ok (.iaload, 1) := by decide +kernel
theorem dX10_nameOf_22 : decode cX10_nameOf 22 = .ok (.iload_n 1, 1) := by decide +kernel
theorem dX10_nameOf_23 : decode cX10_nameOf 23 = .ok (.if_icmp .ne 24, 3) := by decide +kernel
theorem dX10_nameOf_26 : decode cX10_nameOf 26 = .ok (.aload_n 0, 1) := by decide +kernel
theorem dX10_nameOf_27 : decode cX10_nameOf 27 = .ok (.getfield 129, 3) := by decide +kernel
theorem dX10_nameOf_30 : decode cX10_nameOf 30 = .ok (.iload 5, 2) := by decide +kernel
theorem dX10_nameOf_32 : decode cX10_nameOf 32 = .ok (.iaload, 1) := by decide +kernel
theorem dX10_nameOf_33 : decode cX10_nameOf 33 = .ok (.iload_n 2, 1) := by decide +kernel
theorem dX10_nameOf_34 : decode cX10_nameOf 34 = .ok (.if_icmp .gt 13, 3) := by decide +kernel
theorem dX10_nameOf_37 : decode cX10_nameOf 37 = .ok (.aload_n 0, 1) := by decide +kernel
theorem dX10_nameOf_38 : decode cX10_nameOf 38 = .ok (.getfield 126, 3) := by decide +kernel
theorem dX10_nameOf_41 : decode cX10_nameOf 41 = .ok (.iload 5, 2) := by decide +kernel
theorem dX10_nameOf_43 : decode cX10_nameOf 43 = .ok (.iaload, 1) := by decide +kernel
theorem dX10_nameOf_44 : decode cX10_nameOf 44 = .ok (.goto 5, 3) := by decide +kernel
theorem dX10_nameOf_47 : decode cX10_nameOf 47 = .ok (.iload 4, 2) := by decide +kernel
theorem dX10_nameOf_49 : decode cX10_nameOf 49 = .ok (.istore 4, 2) := by decide +kernel
theorem dX10_nameOf_51 : decode cX10_nameOf 51 = .ok (.iinc 5 1, 3) := by decide +kernel
theorem dX10_nameOf_54 : decode cX10_nameOf 54 = .ok (.goto (-48), 3) := by decide +kernel
theorem dX10_nameOf_57 : decode cX10_nameOf 57 = .ok (.iload 4, 2) := by decide +kernel
theorem dX10_nameOf_59 : decode cX10_nameOf 59 = .ok (.ifCond .ne 7, 3) := by decide +kernel
theorem dX10_nameOf_62 : decode cX10_nameOf 62 = .ok (.iconst 0, 1) := by decide +kernel
theorem dX10_nameOf_63 : decode cX10_nameOf 63 = .ok (.goto 10, 3) := by decide +kernel
theorem dX10_nameOf_66 : decode cX10_nameOf 66 = .ok (.aload_n 0, 1) := by decide +kernel
theorem dX10_nameOf_67 : decode cX10_nameOf 67 = .ok (.iload 4, 2) := by decide +kernel
theorem dX10_nameOf_69 : decode cX10_nameOf 69 = .ok (.iload_n 3, 1) := by decide +kernel
theorem dX10_nameOf_70 : decode cX10_nameOf 70 = .ok (.invokevirtual 299, 3) := by decide +kernel
theorem dX10_nameOf_73 : decode cX10_nameOf 73 = .ok (.ireturn, 1) := by decide +kernel
theorem dX10_named_0 : decode cX10_named 0 = .ok (.aload_n 0, 1) := by decide +kernel
theorem dX10_named_1 : decode cX10_named 1 = .ok (.aload_n 0, 1) := by decide +kernel
theorem dX10_named_2 : decode cX10_named 2 = .ok (.iload_n 1, 1) := by decide +kernel
theorem dX10_named_3 : decode cX10_named 3 = .ok (.invokevirtual 268, 3) := by decide +kernel
theorem dX10_named_6 : decode cX10_named 6 = .ok (.ifCond .eq 28, 3) := by decide +kernel
theorem dX10_named_9 : decode cX10_named 9 = .ok (.iload_n 2, 1) := by decide +kernel
theorem dX10_named_10 : decode cX10_named 10 = .ok (.ifCond .lt 24, 3) := by decide +kernel
theorem dX10_named_13 : decode cX10_named 13 = .ok (.iload_n 2, 1) := by decide +kernel
theorem dX10_named_14 : decode cX10_named 14 = .ok (.aload_n 0, 1) := by decide +kernel
theorem dX10_named_15 : decode cX10_named 15 = .ok (.getfield 255, 3) := by decide +kernel
theorem dX10_named_18 : decode cX10_named 18 = .ok (.if_icmp .gt 16, 3) := by decide +kernel
theorem dX10_named_21 : decode cX10_named 21 = .ok (.iload_n 3, 1) := by decide +kernel
theorem dX10_named_22 : decode cX10_named 22 = .ok (.ifCond .lt 12, 3) := by decide +kernel
theorem dX10_named_25 : decode cX10_named 25 = .ok (.iload_n 3, 1) := by decide +kernel
theorem dX10_named_26 : decode cX10_named 26 = .ok (.iconst 1, 1) := by decide +kernel
theorem dX10_named_27 : decode cX10_named 27 = .ok (.if_icmp .gt 7, 3) := by decide +kernel
theorem dX10_named_30 : decode cX10_named 30 = .ok (.iconst 0, 1) := by decide +kernel
theorem dX10_named_31 : decode cX10_named 31 = .ok (.goto 4, 3) := by decide +kernel
theorem dX10_named_34 : decode cX10_named 34 = .ok (.iconst 1, 1) := by decide +kernel
theorem dX10_named_35 : decode cX10_named 35 = .ok (.putfield 1, 3) := by decide +kernel
theorem dX10_named_38 : decode cX10_named 38 = .ok (.aload_n 0, 1) := by decide +kernel
theorem dX10_named_39 : decode cX10_named 39 = .ok (.getfield 1, 3) := by decide +kernel
theorem dX10_named_42 : decode cX10_named 42 = .ok (.ifCond .le 7, 3) := by decide +kernel
theorem dX10_named_45 : decode cX10_named 45 = .ok (.iconst 0, 1) := by decide +kernel
theorem dX10_named_46 : decode cX10_named 46 = .ok (.goto 21, 3) := by decide +kernel
theorem dX10_named_49 : decode cX10_named 49 = .ok (.aload_n 0, 1) := by decide +kernel
theorem dX10_named_50 : decode cX10_named 50 = .ok (.iload_n 1, 1) := by decide +kernel
theorem dX10_named_51 : decode cX10_named 51 = .ok (.iload_n 2, 1) := by decide +kernel
theorem dX10_named_52 : decode cX10_named 52 = .ok (.iload_n 3, 1) := by decide +kernel
theorem dX10_named_53 : decode cX10_named 53 = .ok (.ifCond .ne 7, 3) := by decide +kernel
theorem dX10_named_56 : decode cX10_named 56 = .ok (.iload_n 2, 1) := by decide +kernel
theorem dX10_named_57 : decode cX10_named 57 = .ok (.goto 7, 3) := by decide +kernel
theorem dX10_named_60 : decode cX10_named 60 = .ok (.aload_n 0, 1) := by decide +kernel
theorem dX10_named_61 : decode cX10_named 61 = .ok (.getfield 255, 3) := by decide +kernel
theorem dX10_named_64 : decode cX10_named 64 = .ok (.invokevirtual 302, 3) := by decide +kernel
theorem dX10_named_67 : decode cX10_named 67 = .ok (.ireturn, 1) := by decide +kernel
theorem dX10_isDigitNumber_0 : decode cX10_isDigitNumber 0 = .ok (.iload_n 0, 1) := by decide +kernel
theorem dX10_isDigitNumber_1 : decode cX10_isDigitNumber 1 = .ok (.ifCond .lt 13, 3) := by decide +kernel
theorem dX10_isDigitNumber_4 : decode cX10_isDigitNumber 4 = .ok (.iload_n 0, 1) := by decide +kernel
theorem dX10_isDigitNumber_5 : decode cX10_isDigitNumber 5 = .ok (.bipush 9, 2) := by decide +kernel
theorem dX10_isDigitNumber_7 : decode cX10_isDigitNumber 7 = .ok (.if_icmp .gt 7, 3) := by decide +kernel
theorem dX10_isDigitNumber_10 : decode cX10_isDigitNumber 10 = .ok (.iconst 1, 1) := by decide +kernel
theorem dX10_isDigitNumber_11 : decode cX10_isDigitNumber 11 = .ok (.goto 4, 3) := by decide +kernel
theorem dX10_isDigitNumber_14 : decode cX10_isDigitNumber 14 = .ok (.iconst 0, 1) := by decide +kernel
theorem dX10_isDigitNumber_15 : decode cX10_isDigitNumber 15 = .ok (.ireturn, 1) := by decide +kernel
theorem dX10_bed_0 : decode cX10_bed 0 = .ok (.aload_n 0, 1) := by decide +kernel
theorem dX10_bed_1 : decode cX10_bed 1 = .ok (.iconst 0, 1) := by decide +kernel
theorem dX10_bed_2 : decode cX10_bed 2 = .ok (.putfield 1, 3) := by decide +kernel
theorem dX10_bed_5 : decode cX10_bed 5 = .ok (.iload_n 1, 1) := by decide +kernel
theorem dX10_bed_6 : decode cX10_bed 6 = .ok (.invokestatic 305, 3) := by decide +kernel
theorem dX10_bed_9 : decode cX10_bed 9 = .ok (.ifCond .eq 30, 3) := by decide +kernel
theorem dX10_bed_12 : decode cX10_bed 12 = .ok (.iload_n 2, 1) := by decide +kernel
theorem dX10_bed_13 : decode cX10_bed 13 = .ok (.invokestatic 305, 3) := by decide +kernel
theorem dX10_bed_16 : decode cX10_bed 16 = .ok (.ifCond .eq 23, 3) := by decide +kernel
theorem dX10_bed_19 : decode cX10_bed 19 = .ok (.iload_n 3, 1) := by decide +kernel
theorem dX10_bed_20 : decode cX10_bed 20 = .ok (.iconst 1, 1) := by decide +kernel
theorem dX10_bed_21 : decode cX10_bed 21 = .ok (.if_icmp .lt 18, 3) := by decide +kernel
theorem dX10_bed_24 : decode cX10_bed 24 = .ok (.iload_n 3, 1) := by decide +kernel
theorem dX10_bed_25 : decode cX10_bed 25 = .ok (.bipush 40, 2) := by decide +kernel
theorem dX10_bed_27 : decode cX10_bed 27 = .ok (.if_icmp .gt 12, 3) := by decide +kernel
theorem dX10_bed_30 : decode cX10_bed 30 = .ok (.aload_n 0, 1) := by decide +kernel
theorem dX10_bed_31 : decode cX10_bed 31 = .ok (.getfield 308, 3) := by decide +kernel
theorem dX10_bed_34 : decode cX10_bed 34 = .ok (.bipush 8, 2) := by decide +kernel
theorem dX10_bed_36 : decode cX10_bed 36 = .ok (.if_icmp .ne 5, 3) := by decide +kernel
theorem dX10_bed_39 : decode cX10_bed 39 = .ok (.iconst (-1), 1) := by decide +kernel
theorem dX10_bed_40 : decode cX10_bed 40 = .ok (.ireturn, 1) := by decide +kernel
theorem dX10_bed_41 : decode cX10_bed 41 = .ok (.aload_n 0, 1) := by decide +kernel
theorem dX10_bed_42 : decode cX10_bed 42 = .ok (.getfield 141, 3) := by decide +kernel
theorem dX10_bed_45 : decode cX10_bed 45 = .ok (.aload_n 0, 1) := by decide +kernel
theorem dX10_bed_46 : decode cX10_bed 46 = .ok (.getfield 308, 3) := by decide +kernel
theorem dX10_bed_49 : decode cX10_bed 49 = .ok (.iload_n 1, 1) := by decide +kernel
theorem dX10_bed_50 : decode cX10_bed 50 = .ok (.iastore, 1) := by decide +kernel
theorem dX10_bed_51 : decode cX10_bed 51 = .ok (.aload_n 0, 1) := by decide +kernel
theorem dX10_bed_52 : decode cX10_bed 52 = .ok (.getfield 144, 3) := by decide +kernel
theorem dX10_bed_55 : decode cX10_bed 55 = .ok (.aload_n 0, 1) := by decide +kernel
theorem dX10_bed_56 : decode cX10_bed 56 = .ok (.getfield 308, 3) := by decide +kernel
theorem dX10_bed_59 : decode cX10_bed 59 = .ok (.iload_n 2, 1) := by decide +kernel
theorem dX10_bed_60 : decode cX10_bed 60 = .ok (.iastore, 1) := by decide +kernel
theorem dX10_bed_61 : decode cX10_bed 61 = .ok (.aload_n 0, 1) := by decide +kernel
theorem dX10_bed_62 : decode cX10_bed 62 = .ok (.getfield 147, 3) := by decide +kernel
theorem dX10_bed_65 : decode cX10_bed 65 = .ok (.aload_n 0, 1) := by decide +kernel
theorem dX10_bed_66 : decode cX10_bed 66 = .ok (.getfield 308, 3) := by decide +kernel
theorem dX10_bed_69 : decode cX10_bed 69 = .ok (.iload_n 3, 1) := by decide +kernel
theorem dX10_bed_70 : decode cX10_bed 70 = .ok (.iastore, 1) := by decide +kernel
theorem dX10_bed_71 : decode cX10_bed 71 = .ok (.aload_n 0, 1) := by decide +kernel
theorem dX10_bed_72 : decode cX10_bed 72 = .ok (.dup, 1) := by decide +kernel
theorem dX10_bed_73 : decode cX10_bed 73 = .ok (.getfield 308, 3) := by decide +kernel
theorem dX10_bed_76 : decode cX10_bed 76 = .ok (.iconst 1, 1) := by decide +kernel
theorem dX10_bed_77 : decode cX10_bed 77 = .ok (.iadd, 1) := by decide +kernel
theorem dX10_bed_78 : decode cX10_bed 78 = .ok (.putfield 308, 3) := by decide +kernel
theorem dX10_bed_81 : decode cX10_bed 81 = .ok (.aload_n 0, 1) := by decide +kernel
theorem dX10_bed_82 : decode cX10_bed 82 = .ok (.getfield 308, 3) := by decide +kernel
theorem dX10_bed_85 : decode cX10_bed 85 = .ok (.iconst 1, 1) := by decide +kernel
theorem dX10_bed_86 : decode cX10_bed 86 = .ok (.isub, 1) := by decide +kernel
theorem dX10_bed_87 : decode cX10_bed 87 = .ok (.ireturn, 1) := by decide +kernel
theorem dX10_isBed_0 : decode cX10_isBed 0 = .ok (.iload_n 1, 1) := by decide +kernel
theorem dX10_isBed_1 : decode cX10_isBed 1 = .ok (.ifCond .lt 15, 3) := by decide +kernel
theorem dX10_isBed_4 : decode cX10_isBed 4 = .ok (.iload_n 1, 1) := by decide +kernel
theorem dX10_isBed_5 : decode cX10_isBed 5 = .ok (.aload_n 0, 1) := by decide +kernel
theorem dX10_isBed_6 : decode cX10_isBed 6 = .ok (.getfield 308, 3) := by decide +kernel
theorem dX10_isBed_9 : decode cX10_isBed 9 = .ok (.if_icmp .ge 7, 3) := by decide +kernel
theorem dX10_isBed_12 : decode cX10_isBed 12 = .ok (.iconst 1, 1) := by decide +kernel
theorem dX10_isBed_13 : decode cX10_isBed 13 = .ok (.goto 4, 3) := by decide +kernel
theorem dX10_isBed_16 : decode cX10_isBed 16 = .ok (.iconst 0, 1) := by decide +kernel
theorem dX10_isBed_17 : decode cX10_isBed 17 = .ok (.ireturn, 1) := by decide +kernel
theorem dX10_change_0 : decode cX10_change 0 = .ok (.aload_n 0, 1) := by decide +kernel
theorem dX10_change_1 : decode cX10_change 1 = .ok (.iconst 0, 1) := by decide +kernel
theorem dX10_change_2 : decode cX10_change 2 = .ok (.putfield 1, 3) := by decide +kernel
theorem dX10_change_5 : decode cX10_change 5 = .ok (.aload_n 0, 1) := by decide +kernel
theorem dX10_change_6 : decode cX10_change 6 = .ok (.iload_n 1, 1) := by decide +kernel
theorem dX10_change_7 : decode cX10_change 7 = .ok (.invokevirtual 311, 3) := by decide +kernel
theorem dX10_change_10 : decode cX10_change 10 = .ok (.ifCond .eq 17, 3) := by decide +kernel
theorem dX10_change_13 : decode cX10_change 13 = .ok (.iload_n 2, 1) := by decide +kernel
theorem dX10_change_14 : decode cX10_change 14 = .ok (.invokestatic 305, 3) := by decide +kernel
theorem dX10_change_17 : decode cX10_change 17 = .ok (.ifCond .eq 10, 3) := by decide +kernel
theorem dX10_change_20 : decode cX10_change 20 = .ok (.iload_n 3, 1) := by decide +kernel
theorem dX10_change_21 : decode cX10_change 21 = .ok (.invokestatic 305, 3) := by decide +kernel
theorem dX10_change_24 : decode cX10_change 24 = .ok (.ifCond .ne 5, 3) := by decide +kernel
theorem dX10_change_27 : decode cX10_change 27 = .ok (.iconst 0, 1) := by decide +kernel
theorem dX10_change_28 : decode cX10_change 28 = .ok (.ireturn, 1) := by decide +kernel
theorem dX10_change_29 : decode cX10_change 29 = .ok (.aload_n 0, 1) := by decide +kernel
theorem dX10_change_30 : decode cX10_change 30 = .ok (.getfield 141, 3) := by decide +kernel
theorem dX10_change_33 : decode cX10_change 33 = .ok (.iload_n 1, 1) := by decide +kernel
theorem dX10_change_34 : decode cX10_change 34 = .ok (.iload_n 2, 1) := by decide +kernel
theorem dX10_change_35 : decode cX10_change 35 = .ok (.iastore, 1) := by decide +kernel
theorem dX10_change_36 : decode cX10_change 36 = .ok (.aload_n 0, 1) := by decide +kernel
theorem dX10_change_37 : decode cX10_change 37 = .ok (.getfield 144, 3) := by decide +kernel
theorem dX10_change_40 : decode cX10_change 40 = .ok (.iload_n 1, 1) := by decide +kernel
theorem dX10_change_41 : decode cX10_change 41 = .ok (.iload_n 3, 1) := by decide +kernel
theorem dX10_change_42 : decode cX10_change 42 = .ok (.iastore, 1) := by decide +kernel
theorem dX10_change_43 : decode cX10_change 43 = .ok (.iconst 1, 1) := by decide +kernel
theorem dX10_change_44 : decode cX10_change 44 = .ok (.ireturn, 1) := by decide +kernel
theorem dX10_needs_0 : decode cX10_needs 0 = .ok (.aload_n 0, 1) := by decide +kernel
theorem dX10_needs_1 : decode cX10_needs 1 = .ok (.iconst 0, 1) := by decide +kernel
theorem dX10_needs_2 : decode cX10_needs 2 = .ok (.putfield 1, 3) := by decide +kernel
theorem dX10_needs_5 : decode cX10_needs 5 = .ok (.aload_n 0, 1) := by decide +kernel
theorem dX10_needs_6 : decode cX10_needs 6 = .ok (.iload_n 1, 1) := by decide +kernel
theorem dX10_needs_7 : decode cX10_needs 7 = .ok (.invokevirtual 268, 3) := by decide +kernel
theorem dX10_needs_10 : decode cX10_needs 10 = .ok (.ifCond .eq 37, 3) := by decide +kernel
theorem dX10_needs_13 : decode cX10_needs 13 = .ok (.iload_n 2, 1) := by decide +kernel
theorem dX10_needs_14 : decode cX10_needs 14 = .ok (.ifCond .lt 33, 3) := by decide +kernel
theorem dX10_needs_17 : decode cX10_needs 17 = .ok (.iload_n 3, 1) := by decide +kernel
theorem dX10_needs_18 : decode cX10_needs 18 = .ok (.bipush 9, 2) := by decide +kernel
theorem dX10_needs_20 : decode cX10_needs 20 = .ok (.if_icmp .gt 27, 3) := by decide +kernel
theorem dX10_needs_23 : decode cX10_needs 23 = .ok (.iload_n 2, 1) := by decide +kernel
theorem dX10_needs_24 : decode cX10_needs 24 = .ok (.iload_n 3, 1) := by decide +kernel
theorem dX10_needs_25 : decode cX10_needs 25 = .ok (.if_icmp .gt 22, 3) := by decide +kernel
theorem dX10_needs_28 : decode cX10_needs 28 = .ok (.iload 4, 2) := by decide +kernel
theorem dX10_needs_30 : decode cX10_needs 30 = .ok (.ifCond .lt 17, 3) := by decide +kernel
theorem dX10_needs_33 : decode cX10_needs 33 = .ok (.iload 5, 2) := by decide +kernel
theorem dX10_needs_35 : decode cX10_needs 35 = .ok (.bipush 9, 2) := by decide +kernel
theorem dX10_needs_37 : decode cX10_needs 37 = .ok (.if_icmp .gt 10, 3) := by decide +kernel
theorem dX10_needs_40 : decode cX10_needs 40 = .ok (.iload 4, 2) := by decide +kernel
theorem dX10_needs_42 : decode cX10_needs 42 = .ok (.iload 5, 2) := by decide +kernel
theorem dX10_needs_44 : decode cX10_needs 44 = .ok (.if_icmp .le 5, 3) := by decide +kernel
theorem dX10_needs_47 : decode cX10_needs 47 = .ok (.iconst 0, 1) := by decide +kernel
theorem dX10_needs_48 : decode cX10_needs 48 = .ok (.ireturn, 1) := by decide +kernel
theorem dX10_needs_49 : decode cX10_needs 49 = .ok (.aload_n 0, 1) := by decide +kernel
theorem dX10_needs_50 : decode cX10_needs 50 = .ok (.getfield 105, 3) := by decide +kernel
theorem dX10_needs_53 : decode cX10_needs 53 = .ok (.iconst 4, 1) := by decide +kernel
theorem dX10_needs_54 : decode cX10_needs 54 = .ok (.iload_n 1, 1) := by decide +kernel
theorem dX10_needs_55 : decode cX10_needs 55 = .ok (.imul, 1) := by decide +kernel
theorem dX10_needs_56 : decode cX10_needs 56 = .ok (.iload_n 2, 1) := by decide +kernel
theorem dX10_needs_57 : decode cX10_needs 57 = .ok (.iastore, 1) := by decide +kernel
theorem dX10_needs_58 : decode cX10_needs 58 = .ok (.aload_n 0, 1) := by decide +kernel
theorem dX10_needs_59 : decode cX10_needs 59 = .ok (.getfield 105, 3) := by decide +kernel
theorem dX10_needs_62 : decode cX10_needs 62 = .ok (.iconst 4, 1) := by decide +kernel
theorem dX10_needs_63 : decode cX10_needs 63 = .ok (.iload_n 1, 1) := by decide +kernel
theorem dX10_needs_64 : decode cX10_needs 64 = .ok (.imul, 1) := by decide +kernel
theorem dX10_needs_65 : decode cX10_needs 65 = .ok (.iconst 1, 1) := by decide +kernel
theorem dX10_needs_66 : decode cX10_needs 66 = .ok (.iadd, 1) := by decide +kernel
theorem dX10_needs_67 : decode cX10_needs 67 = .ok (.iload_n 3, 1) := by decide +kernel
theorem dX10_needs_68 : decode cX10_needs 68 = .ok (.iastore, 1) := by decide +kernel
theorem dX10_needs_69 : decode cX10_needs 69 = .ok (.aload_n 0, 1) := by decide +kernel
theorem dX10_needs_70 : decode cX10_needs 70 = .ok (.getfield 105, 3) := by decide +kernel
theorem dX10_needs_73 : decode cX10_needs 73 = .ok (.iconst 4, 1) := by decide +kernel
theorem dX10_needs_74 : decode cX10_needs 74 = .ok (.iload_n 1, 1) := by decide +kernel
theorem dX10_needs_75 : decode cX10_needs 75 = .ok (.imul, 1) := by decide +kernel
theorem dX10_needs_76 : decode cX10_needs 76 = .ok (.iconst 2, 1) := by decide +kernel
theorem dX10_needs_77 : decode cX10_needs 77 = .ok (.iadd, 1) := by decide +kernel
theorem dX10_needs_78 : decode cX10_needs 78 = .ok (.iload 4, 2) := by decide +kernel
theorem dX10_needs_80 : decode cX10_needs 80 = .ok (.iastore, 1) := by decide +kernel
theorem dX10_needs_81 : decode cX10_needs 81 = .ok (.aload_n 0, 1) := by decide +kernel
theorem dX10_needs_82 : decode cX10_needs 82 = .ok (.getfield 105, 3) := by decide +kernel
theorem dX10_needs_85 : decode cX10_needs 85 = .ok (.iconst 4, 1) := by decide +kernel
theorem dX10_needs_86 : decode cX10_needs 86 = .ok (.iload_n 1, 1) := by decide +kernel
theorem dX10_needs_87 : decode cX10_needs 87 = .ok (.imul, 1) := by decide +kernel
theorem dX10_needs_88 : decode cX10_needs 88 = .ok (.iconst 3, 1) := by decide +kernel
theorem dX10_needs_89 : decode cX10_needs 89 = .ok (.iadd, 1) := by decide +kernel
theorem dX10_needs_90 : decode cX10_needs 90 = .ok (.iload 5, 2) := by decide +kernel
theorem dX10_needs_92 : decode cX10_needs 92 = .ok (.iastore, 1) := by decide +kernel
theorem dX10_needs_93 : decode cX10_needs 93 = .ok (.iconst 1, 1) := by decide +kernel
theorem dX10_needs_94 : decode cX10_needs 94 = .ok (.ireturn, 1) := by decide +kernel
theorem dX10_suits_0 : decode cX10_suits 0 = .ok (.aload_n 0, 1) := by decide +kernel
theorem dX10_suits_1 : decode cX10_suits 1 = .ok (.getfield 141, 3) := by decide +kernel
theorem dX10_suits_4 : decode cX10_suits 4 = .ok (.iload_n 2, 1) := by decide +kernel
theorem dX10_suits_5 : decode cX10_suits 5 = .ok (.iaload, 1) := by decide +kernel
theorem dX10_suits_6 : decode cX10_suits 6 = .ok (.aload_n 0, 1) := by decide +kernel
theorem dX10_suits_7 : decode cX10_suits 7 = .ok (.getfield 105, 3) := by decide +kernel
theorem dX10_suits_10 : decode cX10_suits 10 = .ok (.iconst 4, 1) := by decide +kernel
theorem dX10_suits_11 : decode cX10_suits 11 = .ok (.iload_n 1, 1) := by decide +kernel
theorem dX10_suits_12 : decode cX10_suits 12 = .ok (.imul, 1) := by decide +kernel
theorem dX10_suits_13 : decode cX10_suits 13 = .ok (.iaload, 1) := by decide +kernel
theorem dX10_suits_14 : decode cX10_suits 14 = .ok (.if_icmp .lt 64, 3) := by decide +kernel
theorem dX10_suits_17 : decode cX10_suits 17 = .ok (.aload_n 0, 1) := by decide +kernel
theorem dX10_suits_18 : decode cX10_suits 18 = .ok (.getfield 141, 3) := by decide +kernel
theorem dX10_suits_21 : decode cX10_suits 21 = .ok (.iload_n 2, 1) := by decide +kernel
theorem dX10_suits_22 : decode cX10_suits 22 = .ok (.iaload, 1) := by decide +kernel
theorem dX10_suits_23 : decode cX10_suits 23 = .ok (.aload_n 0, 1) := by decide +kernel
theorem dX10_suits_24 : decode cX10_suits 24 = .ok (.getfield 105, 3) := by decide +kernel
theorem dX10_suits_27 : decode cX10_suits 27 = .ok (.iconst 4, 1) := by decide +kernel
theorem dX10_suits_28 : decode cX10_suits 28 = .ok (.iload_n 1, 1) := by decide +kernel
theorem dX10_suits_29 : decode cX10_suits 29 = .ok (.imul, 1) := by decide +kernel
theorem dX10_suits_30 : decode cX10_suits 30 = .ok (.iconst 1, 1) := by decide +kernel
theorem dX10_suits_31 : decode cX10_suits 31 = .ok (.iadd, 1) := by decide +kernel
theorem dX10_suits_32 : decode cX10_suits 32 = .ok (.iaload, 1) := by decide +kernel
theorem dX10_suits_33 : decode cX10_suits 33 = .ok (.if_icmp .gt 45, 3) := by decide +kernel
theorem dX10_suits_36 : decode cX10_suits 36 = .ok (.aload_n 0, 1) := by decide +kernel
theorem dX10_suits_37 : decode cX10_suits 37 = .ok (.getfield 144, 3) := by decide +kernel
theorem dX10_suits_40 : decode cX10_suits 40 = .ok (.iload_n 2, 1) := by decide +kernel
theorem dX10_suits_41 : decode cX10_suits 41 = .ok (.iaload, 1) := by decide +kernel
theorem dX10_suits_42 : decode cX10_suits 42 = .ok (.aload_n 0, 1) := by decide +kernel
theorem dX10_suits_43 : decode cX10_suits 43 = .ok (.getfield 105, 3) := by decide +kernel
theorem dX10_suits_46 : decode cX10_suits 46 = .ok (.iconst 4, 1) := by decide +kernel
theorem dX10_suits_47 : decode cX10_suits 47 = .ok (.iload_n 1, 1) := by decide +kernel
theorem dX10_suits_48 : decode cX10_suits 48 = .ok (.imul, 1) := by decide +kernel
theorem dX10_suits_49 : decode cX10_suits 49 = .ok (.iconst 2, 1) := by decide +kernel
theorem dX10_suits_50 : decode cX10_suits 50 = .ok (.iadd, 1) := by decide +kernel
theorem dX10_suits_51 : decode cX10_suits 51 = .ok (.iaload, 1) := by decide +kernel
theorem dX10_suits_52 : decode cX10_suits 52 = .ok (.if_icmp .lt 26, 3) := by decide +kernel
theorem dX10_suits_55 : decode cX10_suits 55 = .ok (.aload_n 0, 1) := by decide +kernel
theorem dX10_suits_56 : decode cX10_suits 56 = .ok (.getfield 144, 3) := by decide +kernel
theorem dX10_suits_59 : decode cX10_suits 59 = .ok (.iload_n 2, 1) := by decide +kernel
theorem dX10_suits_60 : decode cX10_suits 60 = .ok (.iaload, 1) := by decide +kernel
theorem dX10_suits_61 : decode cX10_suits 61 = .ok (.aload_n 0, 1) := by decide +kernel
theorem dX10_suits_62 : decode cX10_suits 62 = .ok (.getfield 105, 3) := by decide +kernel
theorem dX10_suits_65 : decode cX10_suits 65 = .ok (.iconst 4, 1) := by decide +kernel
theorem dX10_suits_66 : decode cX10_suits 66 = .ok (.iload_n 1, 1) := by decide +kernel
theorem dX10_suits_67 : decode cX10_suits 67 = .ok (.imul, 1) := by decide +kernel
theorem dX10_suits_68 : decode cX10_suits 68 = .ok (.iconst 3, 1) := by decide +kernel
theorem dX10_suits_69 : decode cX10_suits 69 = .ok (.iadd, 1) := by decide +kernel
theorem dX10_suits_70 : decode cX10_suits 70 = .ok (.iaload, 1) := by decide +kernel
theorem dX10_suits_71 : decode cX10_suits 71 = .ok (.if_icmp .gt 7, 3) := by decide +kernel
theorem dX10_suits_74 : decode cX10_suits 74 = .ok (.iconst 1, 1) := by decide +kernel
theorem dX10_suits_75 : decode cX10_suits 75 = .ok (.goto 4, 3) := by decide +kernel
theorem dX10_suits_78 : decode cX10_suits 78 = .ok (.iconst 0, 1) := by decide +kernel
theorem dX10_suits_79 : decode cX10_suits 79 = .ok (.ireturn, 1) := by decide +kernel
theorem dX10_lay__0 : decode cX10_lay_ 0 = .ok (.aload_n 0, 1) := by decide +kernel
theorem dX10_lay__1 : decode cX10_lay_ 1 = .ok (.iconst 0, 1) := by decide +kernel
theorem dX10_lay__2 : decode cX10_lay_ 2 = .ok (.putfield 1, 3) := by decide +kernel
theorem dX10_lay__5 : decode cX10_lay_ 5 = .ok (.aload_n 0, 1) := by decide +kernel
theorem dX10_lay__6 : decode cX10_lay_ 6 = .ok (.iload_n 1, 1) := by decide +kernel
theorem dX10_lay__7 : decode cX10_lay_ 7 = .ok (.invokevirtual 268, 3) := by decide +kernel
theorem dX10_lay__10 : decode cX10_lay_ 10 = .ok (.ifCond .eq 25, 3) := by decide +kernel
theorem dX10_lay__13 : decode cX10_lay_ 13 = .ok (.iload_n 2, 1) := by decide +kernel
theorem dX10_lay__14 : decode cX10_lay_ 14 = .ok (.iconst (-1), 1) := by decide +kernel
theorem dX10_lay__15 : decode cX10_lay_ 15 = .ok (.if_icmp .eq 22, 3) := by decide +kernel
theorem dX10_lay__18 : decode cX10_lay_ 18 = .ok (.aload_n 0, 1) := by decide +kernel
theorem dX10_lay__19 : decode cX10_lay_ 19 = .ok (.iload_n 2, 1) := by decide +kernel
theorem dX10_lay__20 : decode cX10_lay_ 20 = .ok (.invokevirtual 311, 3) := by decide +kernel
theorem dX10_lay__23 : decode cX10_lay_ 23 = .ok (.ifCond .eq 12, 3) := by decide +kernel
theorem dX10_lay__26 : decode cX10_lay_ 26 = .ok (.aload_n 0, 1) := by decide +kernel
theorem dX10_lay__27 : decode cX10_lay_ 27 = .ok (.iload_n 1, 1) := by decide +kernel
theorem dX10_lay__28 : decode cX10_lay_ 28 = .ok (.iload_n 2, 1) := by decide +kernel
theorem dX10_lay__29 : decode cX10_lay_ 29 = .ok (.invokevirtual 314, 3) := by decide +kernel
theorem dX10_lay__32 : decode cX10_lay_ 32 = .ok (.ifCond .ne 5, 3) := by decide +kernel
theorem dX10_lay__35 : decode cX10_lay_ 35 = .ok (.iconst 0, 1) := by decide +kernel
theorem dX10_lay__36 : decode cX10_lay_ 36 = .ok (.ireturn, 1) := by decide +kernel
theorem dX10_lay__37 : decode cX10_lay_ 37 = .ok (.iconst 0, 1) := by decide +kernel
theorem dX10_lay__38 : decode cX10_lay_ 38 = .ok (.istore_n 3, 1) := by decide +kernel
theorem dX10_lay__39 : decode cX10_lay_ 39 = .ok (.iconst 0, 1) := by decide +kernel
theorem dX10_lay__40 : decode cX10_lay_ 40 = .ok (.istore 4, 2) := by decide +kernel
theorem dX10_lay__42 : decode cX10_lay_ 42 = .ok (.iload 4, 2) := by decide +kernel
theorem dX10_lay__44 : decode cX10_lay_ 44 = .ok (.aload_n 0, 1) := by decide +kernel
theorem dX10_lay__45 : decode cX10_lay_ 45 = .ok (.getfield 258, 3) := by decide +kernel
theorem dX10_lay__48 : decode cX10_lay_ 48 = .ok (.if_icmp .ge 38, 3) := by decide +kernel
theorem dX10_lay__51 : decode cX10_lay_ 51 = .ok (.iload_n 3, 1) := by decide +kernel
theorem dX10_lay__52 : decode cX10_lay_ 52 = .ok (.iload 4, 2) := by decide +kernel
theorem dX10_lay__54 : decode cX10_lay_ 54 = .ok (.iload_n 1, 1) := by decide +kernel
theorem dX10_lay__55 : decode cX10_lay_ 55 = .ok (.if_icmp .eq 22, 3) := by decide +kernel
theorem dX10_lay__58 : decode cX10_lay_ 58 = .ok (.iload_n 2, 1) := by decide +kernel
theorem dX10_lay__59 : decode cX10_lay_ 59 = .ok (.ifCond .lt 18, 3) := by decide +kernel
theorem dX10_lay__62 : decode cX10_lay_ 62 = .ok (.aload_n 0, 1) := by decide +kernel
theorem dX10_lay__63 : decode cX10_lay_ 63 = .ok (.getfield 108, 3) := by decide +kernel
theorem dX10_lay__66 : decode cX10_lay_ 66 = .ok (.iload 4, 2) := by decide +kernel
theorem dX10_lay__68 : decode cX10_lay_ 68 = .ok (.iaload, 1) := by decide +kernel
theorem dX10_lay__69 : decode cX10_lay_ 69 = .ok (.iload_n 2, 1) := by decide +kernel
theorem dX10_lay__70 : decode cX10_lay_ 70 = .ok (.if_icmp .ne 7, 3) := by decide +kernel
theorem dX10_lay__73 : decode cX10_lay_ 73 = .ok (.iconst 1, 1) := by decide +kernel
theorem dX10_lay__74 : decode cX10_lay_ 74 = .ok (.goto 4, 3) := by decide +kernel
theorem dX10_lay__77 : decode cX10_lay_ 77 = .ok (.iconst 0, 1) := by decide +kernel
theorem dX10_lay__78 : decode cX10_lay_ 78 = .ok (.iadd, 1) := by decide +kernel
theorem dX10_lay__79 : decode cX10_lay_ 79 = .ok (.istore_n 3, 1) := by decide +kernel
theorem dX10_lay__80 : decode cX10_lay_ 80 = .ok (.iinc 4 1, 3) := by decide +kernel
theorem dX10_lay__83 : decode cX10_lay_ 83 = .ok (.goto (-41), 3) := by decide +kernel
theorem dX10_lay__86 : decode cX10_lay_ 86 = .ok (.iload_n 2, 1) := by decide +kernel
theorem dX10_lay__87 : decode cX10_lay_ 87 = .ok (.ifCond .lt 15, 3) := by decide +kernel
theorem dX10_lay__90 : decode cX10_lay_ 90 = .ok (.iload_n 3, 1) := by decide +kernel
theorem dX10_lay__91 : decode cX10_lay_ 91 = .ok (.aload_n 0, 1) := by decide +kernel
theorem dX10_lay__92 : decode cX10_lay_ 92 = .ok (.getfield 147, 3) := by decide +kernel
theorem dX10_lay__95 : decode cX10_lay_ 95 = .ok (.iload_n 2, 1) := by decide +kernel
theorem dX10_lay__96 : decode cX10_lay_ 96 = .ok (.iaload, 1) := by decide +kernel
theorem dX10_lay__97 : decode cX10_lay_ 97 = .ok (.if_icmp .lt 5, 3) := by decide +kernel
theorem dX10_lay__100 : decode cX10_lay_ 100 = .ok (.iconst 0, 1) := by decide +kernel
theorem dX10_lay__101 : decode cX10_lay_ 101 = .ok (.ireturn, 1) := by decide +kernel
theorem dX10_lay__102 : decode cX10_lay_ 102 = .ok (.aload_n 0, 1) := by decide +kernel
theorem dX10_lay__103 : decode cX10_lay_ 103 = .ok (.getfield 108, 3) := by decide +kernel
theorem dX10_lay__106 : decode cX10_lay_ 106 = .ok (.iload_n 1, 1) := by decide +kernel
theorem dX10_lay__107 : decode cX10_lay_ 107 = .ok (.iload_n 2, 1) := by decide +kernel
theorem dX10_lay__108 : decode cX10_lay_ 108 = .ok (.iastore, 1) := by decide +kernel
theorem dX10_lay__109 : decode cX10_lay_ 109 = .ok (.aload_n 0, 1) := by decide +kernel
theorem dX10_lay__110 : decode cX10_lay_ 110 = .ok (.getfield 111, 3) := by decide +kernel
theorem dX10_lay__113 : decode cX10_lay_ 113 = .ok (.iload_n 1, 1) := by decide +kernel
theorem dX10_lay__114 : decode cX10_lay_ 114 = .ok (.iconst (-1), 1) := by decide +kernel
theorem dX10_lay__115 : decode cX10_lay_ 115 = .ok (.iastore, 1) := by decide +kernel
theorem dX10_lay__116 : decode cX10_lay_ 116 = .ok (.iconst 1, 1) := by decide +kernel
theorem dX10_lay__117 : decode cX10_lay_ 117 = .ok (.ireturn, 1) := by decide +kernel
theorem dX10_costOf_0 : decode cX10_costOf 0 = .ok (.aload_n 0, 1) := by decide +kernel
theorem dX10_costOf_1 : decode cX10_costOf 1 = .ok (.iload_n 1, 1) := by decide +kernel
theorem dX10_costOf_2 : decode cX10_costOf 2 = .ok (.iload_n 2, 1) := by decide +kernel
theorem dX10_costOf_3 : decode cX10_costOf 3 = .ok (.invokevirtual 314, 3) := by decide +kernel
theorem dX10_costOf_6 : decode cX10_costOf 6 = .ok (.ifCond .ne 9, 3) := by decide +kernel
theorem dX10_costOf_9 : decode cX10_costOf 9 = .ok (.ldc_w 317, 3) := by decide +kernel
theorem dX10_costOf_12 : decode cX10_costOf 12 = .ok (.goto 18, 3) := by decide +kernel
theorem dX10_costOf_15 : decode cX10_costOf 15 = .ok (.aload_n 0, 1) := by decide +kernel
theorem dX10_costOf_16 : decode cX10_costOf 16 = .ok (.getfield 108, 3) := by decide +kernel
theorem dX10_costOf_19 : decode cX10_costOf 19 = .ok (.iload_n 1, 1) := by decide +kernel
theorem dX10_costOf_20 : decode cX10_costOf 20 = .ok (.iaload, 1) := by decide +kernel
theorem dX10_costOf_21 : decode cX10_costOf 21 = .ok (.iload_n 2, 1) := by decide +kernel
theorem dX10_costOf_22 : decode cX10_costOf 22 = .ok (.if_icmp .ne 7, 3) := by decide +kernel
theorem dX10_costOf_25 : decode cX10_costOf 25 = .ok (.iconst 0, 1) := by decide +kernel
theorem dX10_costOf_26 : decode cX10_costOf 26 = .ok (.goto 4, 3) := by decide +kernel
theorem dX10_costOf_29 : decode cX10_costOf 29 = .ok (.iconst 1, 1) := by decide +kernel
theorem dX10_costOf_30 : decode cX10_costOf 30 = .ok (.ireturn, 1) := by decide +kernel
theorem dX10_begins_0 : decode cX10_begins 0 = .ok (.iconst 0, 1) := by decide +kernel
theorem dX10_begins_1 : decode cX10_begins 1 = .ok (.istore_n 2, 1) := by decide +kernel
theorem dX10_begins_2 : decode cX10_begins 2 = .ok (.iload_n 2, 1) := by decide +kernel
theorem dX10_begins_3 : decode cX10_begins 3 = .ok (.aload_n 0, 1) := by decide +kernel
theorem dX10_begins_4 : decode cX10_begins 4 = .ok (.getfield 308, 3) := by decide +kernel
theorem dX10_begins_7 : decode cX10_begins 7 = .ok (.if_icmp .ge 35, 3) := by decide +kernel
theorem dX10_begins_10 : decode cX10_begins 10 = .ok (.aload_n 0, 1) := by decide +kernel
theorem dX10_begins_11 : decode cX10_begins 11 = .ok (.getfield 156, 3) := by decide +kernel
theorem dX10_begins_14 : decode cX10_begins 14 = .ok (.iload_n 2, 1) := by decide +kernel
theorem dX10_begins_15 : decode cX10_begins 15 = .ok (.aload_n 0, 1) := by decide +kernel
theorem dX10_begins_16 : decode cX10_begins 16 = .ok (.iload_n 1, 1) := by decide +kernel
theorem dX10_begins_17 : decode cX10_begins 17 = .ok (.iload_n 2, 1) := by decide +kernel
theorem dX10_begins_18 : decode cX10_begins 18 = .ok (.invokevirtual 318, 3) := by decide +kernel
theorem dX10_begins_21 : decode cX10_begins 21 = .ok (.iastore, 1) := by decide +kernel
theorem dX10_begins_22 : decode cX10_begins 22 = .ok (.aload_n 0, 1) := by decide +kernel
theorem dX10_begins_23 : decode cX10_begins 23 = .ok (.getfield 159, 3) := by decide +kernel
theorem dX10_begins_26 : decode cX10_begins 26 = .ok (.iload_n 2, 1) := by decide +kernel
theorem dX10_begins_27 : decode cX10_begins 27 = .ok (.iload_n 1, 1) := by decide +kernel
theorem dX10_begins_28 : decode cX10_begins 28 = .ok (.iastore, 1) := by decide +kernel
theorem dX10_begins_29 : decode cX10_begins 29 = .ok (.aload_n 0, 1) := by decide +kernel
theorem dX10_begins_30 : decode cX10_begins 30 = .ok (.getfield 162, 3) := by decide +kernel
theorem dX10_begins_33 : decode cX10_begins 33 = .ok (.iload_n 2, 1) := by decide +kernel
theorem dX10_begins_34 : decode cX10_begins 34 = .ok (.iconst (-1), 1) := by decide +kernel
theorem dX10_begins_35 : decode cX10_begins 35 = .ok (.iastore, 1) := by decide +kernel
theorem dX10_begins_36 : decode cX10_begins 36 = .ok (.iinc 2 1, 3) := by decide +kernel
theorem dX10_begins_39 : decode cX10_begins 39 = .ok (.goto (-37), 3) := by decide +kernel
theorem dX10_begins_42 : decode cX10_begins 42 = .ok (.iconst 1, 1) := by decide +kernel
theorem dX10_begins_43 : decode cX10_begins 43 = .ok (.istore_n 2, 1) := by decide +kernel
theorem dX10_begins_44 : decode cX10_begins 44 = .ok (.iload_n 2, 1) := by decide +kernel
theorem dX10_begins_45 : decode cX10_begins 45 = .ok (.ifCond .eq 159, 3) := by decide +kernel
theorem dX10_begins_48 : decode cX10_begins 48 = .ok (.iconst 0, 1) := by decide +kernel
theorem dX10_begins_49 : decode cX10_begins 49 = .ok (.istore_n 2, 1) := by decide +kernel
theorem dX10_begins_50 : decode cX10_begins 50 = .ok (.iconst 0, 1) := by decide +kernel
theorem dX10_begins_51 : decode cX10_begins 51 = .ok (.istore_n 3, 1) := by decide +kernel
theorem dX10_begins_52 : decode cX10_begins 52 = .ok (.iload_n 3, 1) := by decide +kernel
theorem dX10_begins_53 : decode cX10_begins 53 = .ok (.aload_n 0, 1) := by decide +kernel
theorem dX10_begins_54 : decode cX10_begins 54 = .ok (.getfield 258, 3) := by decide +kernel
theorem dX10_begins_57 : decode cX10_begins 57 = .ok (.if_icmp .ge 144, 3) := by decide +kernel
theorem dX10_begins_60 : decode cX10_begins 60 = .ok (.aload_n 0, 1) := by decide +kernel
theorem dX10_begins_61 : decode cX10_begins 61 = .ok (.getfield 150, 3) := by decide +kernel
theorem dX10_begins_64 : decode cX10_begins 64 = .ok (.iload_n 3, 1) := by decide +kernel
theorem dX10_begins_65 : decode cX10_begins 65 = .ok (.iaload, 1) := by decide +kernel
theorem dX10_begins_66 : decode cX10_begins 66 = .ok (.istore 4, 2) := by decide +kernel
theorem dX10_begins_68 : decode cX10_begins 68 = .ok (.iconst 0, 1) := by decide +kernel
theorem dX10_begins_69 : decode cX10_begins 69 = .ok (.istore 5, 2) := by decide +kernel
theorem dX10_begins_71 : decode cX10_begins 71 = .ok (.iload 5, 2) := by decide +kernel
theorem dX10_begins_73 : decode cX10_begins 73 = .ok (.aload_n 0, 1) := by decide +kernel
theorem dX10_begins_74 : decode cX10_begins 74 = .ok (.getfield 308, 3) := by decide +kernel
theorem dX10_begins_77 : decode cX10_begins 77 = .ok (.if_icmp .ge 118, 3) := by decide +kernel
theorem dX10_begins_80 : decode cX10_begins 80 = .ok (.iload 4, 2) := by decide +kernel
theorem dX10_begins_82 : decode cX10_begins 82 = .ok (.ifCond .lt 113, 3) := by decide +kernel
theorem dX10_begins_85 : decode cX10_begins 85 = .ok (.aload_n 0, 1) := by decide +kernel
theorem dX10_begins_86 : decode cX10_begins 86 = .ok (.iload_n 3, 1) := by decide +kernel
theorem dX10_begins_87 : decode cX10_begins 87 = .ok (.iload 5, 2) := by decide +kernel
theorem dX10_begins_89 : decode cX10_begins 89 = .ok (.invokevirtual 318, 3) := by decide +kernel
theorem dX10_begins_92 : decode cX10_begins 92 = .ok (.ldc_w 317, 3) := by decide +kernel
theorem dX10_begins_95 : decode cX10_begins 95 = .ok (.if_icmp .eq 16, 3) := by decide +kernel
theorem dX10_begins_98 : decode cX10_begins 98 = .ok (.aload_n 0, 1) := by decide +kernel
theorem dX10_begins_99 : decode cX10_begins 99 = .ok (.getfield 156, 3) := by decide +kernel
theorem dX10_begins_102 : decode cX10_begins 102 = .ok (.iload 4, 2) := by decide +kernel
theorem dX10_begins_104 : decode cX10_begins 104 = .ok (.iaload, 1) := by decide +kernel
theorem dX10_begins_105 : decode cX10_begins 105 = .ok (.ldc_w 317, 3) := by decide +kernel
theorem dX10_begins_108 : decode cX10_begins 108 = .ok (.if_icmp .lt 9, 3) := by decide +kernel
theorem dX10_begins_111 : decode cX10_begins 111 = .ok (.ldc_w 317, 3) := by decide +kernel
theorem dX10_begins_114 : decode cX10_begins 114 = .ok (.goto 26, 3) := by decide +kernel
theorem dX10_begins_117 : decode cX10_begins 117 = .ok (.aload_n 0, 1) := by decide +kernel
theorem dX10_begins_118 : decode cX10_begins 118 = .ok (.getfield 156, 3) := by decide +kernel
theorem dX10_begins_121 : decode cX10_begins 121 = .ok (.iload 4, 2) := by decide +kernel
theorem dX10_begins_123 : decode cX10_begins 123 = .ok (.iaload, 1) := by decide +kernel
theorem dX10_begins_124 : decode cX10_begins 124 = .ok (.aload_n 0, 1) := by decide +kernel
theorem dX10_begins_125 : decode cX10_begins 125 = .ok (.iload_n 3, 1) := by decide +kernel
theorem dX10_begins_126 : decode cX10_begins 126 = .ok (.iload 5, 2) := by decide +kernel
theorem dX10_begins_128 : decode cX10_begins 128 = .ok (.invokevirtual 318, 3) := by decide +kernel
theorem dX10_begins_131 : decode cX10_begins 131 = .ok (.iadd, 1) := by decide +kernel
theorem dX10_begins_132 : decode cX10_begins 132 = .ok (.aload_n 0, 1) := by decide +kernel
theorem dX10_begins_133 : decode cX10_begins 133 = .ok (.iload_n 3, 1) := by decide +kernel
theorem dX10_begins_134 : decode cX10_begins 134 = .ok (.iload 4, 2) := by decide +kernel
theorem dX10_begins_136 : decode cX10_begins 136 = .ok (.invokevirtual 318, 3) := by decide +kernel
theorem dX10_begins_139 : decode cX10_begins 139 = .ok (.isub, 1) := by decide +kernel
theorem dX10_begins_140 : decode cX10_begins 140 = .ok (.istore 6, 2) := by decide +kernel
theorem dX10_begins_142 : decode cX10_begins 142 = .ok (.iload 5, 2) := by decide +kernel
theorem dX10_begins_144 : decode cX10_begins 144 = .ok (.iload 4, 2) := by decide +kernel
theorem dX10_begins_146 : decode cX10_begins 146 = .ok (.if_icmp .eq 43, 3) := by decide +kernel
theorem dX10_begins_149 : decode cX10_begins 149 = .ok (.iload 6, 2) := by decide +kernel
theorem dX10_begins_151 : decode cX10_begins 151 = .ok (.aload_n 0, 1) := by decide +kernel
theorem dX10_begins_152 : decode cX10_begins 152 = .ok (.getfield 156, 3) := by decide +kernel
theorem dX10_begins_155 : decode cX10_begins 155 = .ok (.iload 5, 2) := by decide +kernel
theorem dX10_begins_157 : decode cX10_begins 157 = .ok (.iaload, 1) := by decide +kernel
theorem dX10_begins_158 : decode cX10_begins 158 = .ok (.if_icmp .ge 31, 3) := by decide +kernel
theorem dX10_begins_161 : decode cX10_begins 161 = .ok (.aload_n 0, 1) := by decide +kernel
theorem dX10_begins_162 : decode cX10_begins 162 = .ok (.getfield 156, 3) := by decide +kernel
theorem dX10_begins_165 : decode cX10_begins 165 = .ok (.iload 5, 2) := by decide +kernel
theorem dX10_begins_167 : decode cX10_begins 167 = .ok (.iload 6, 2) := by decide +kernel
theorem dX10_begins_169 : decode cX10_begins 169 = .ok (.iastore, 1) := by decide +kernel
theorem dX10_begins_170 : decode cX10_begins 170 = .ok (.aload_n 0, 1) := by decide +kernel
theorem dX10_begins_171 : decode cX10_begins 171 = .ok (.getfield 159, 3) := by decide +kernel
theorem dX10_begins_174 : decode cX10_begins 174 = .ok (.iload 5, 2) := by decide +kernel
theorem dX10_begins_176 : decode cX10_begins 176 = .ok (.iload_n 3, 1) := by decide +kernel
theorem dX10_begins_177 : decode cX10_begins 177 = .ok (.iastore, 1) := by decide +kernel
theorem dX10_begins_178 : decode cX10_begins 178 = .ok (.aload_n 0, 1) := by decide +kernel
theorem dX10_begins_179 : decode cX10_begins 179 = .ok (.getfield 162, 3) := by decide +kernel
theorem dX10_begins_182 : decode cX10_begins 182 = .ok (.iload 5, 2) := by decide +kernel
theorem dX10_begins_184 : decode cX10_begins 184 = .ok (.iload 4, 2) := by decide +kernel
theorem dX10_begins_186 : decode cX10_begins 186 = .ok (.iastore, 1) := by decide +kernel
theorem dX10_begins_187 : decode cX10_begins 187 = .ok (.iconst 1, 1) := by decide +kernel
theorem dX10_begins_188 : decode cX10_begins 188 = .ok (.istore_n 2, 1) := by decide +kernel
theorem dX10_begins_189 : decode cX10_begins 189 = .ok (.iinc 5 1, 3) := by decide +kernel
theorem dX10_begins_192 : decode cX10_begins 192 = .ok (.goto (-121), 3) := by decide +kernel
theorem dX10_begins_195 : decode cX10_begins 195 = .ok (.iinc 3 1, 3) := by decide +kernel
theorem dX10_begins_198 : decode cX10_begins 198 = .ok (.goto (-146), 3) := by decide +kernel
theorem dX10_begins_201 : decode cX10_begins 201 = .ok (.goto (-157), 3) := by decide +kernel
theorem dX10_begins_204 : decode cX10_begins 204 = .ok (.return_, 1) := by decide +kernel
theorem dX10_comes_0 : decode cX10_comes 0 = .ok (.aload_n 0, 1) := by decide +kernel
theorem dX10_comes_1 : decode cX10_comes 1 = .ok (.iload_n 1, 1) := by decide +kernel
theorem dX10_comes_2 : decode cX10_comes 2 = .ok (.invokevirtual 321, 3) := by decide +kernel
theorem dX10_comes_5 : decode cX10_comes 5 = .ok (.iconst (-1), 1) := by decide +kernel
theorem dX10_comes_6 : decode cX10_comes 6 = .ok (.istore_n 2, 1) := by decide +kernel
theorem dX10_comes_7 : decode cX10_comes 7 = .ok (.iconst 0, 1) := by decide +kernel
theorem dX10_comes_8 : decode cX10_comes 8 = .ok (.istore_n 3, 1) := by decide +kernel
theorem dX10_comes_9 : decode cX10_comes 9 = .ok (.iload_n 3, 1) := by decide +kernel
theorem dX10_comes_10 : decode cX10_comes 10 = .ok (.aload_n 0, 1) := by decide +kernel
theorem dX10_comes_11 : decode cX10_comes 11 = .ok (.getfield 308, 3) := by decide +kernel
theorem dX10_comes_14 : decode cX10_comes 14 = .ok (.if_icmp .ge 61, 3) := by decide +kernel
theorem dX10_comes_17 : decode cX10_comes 17 = .ok (.aload_n 0, 1) := by decide +kernel
theorem dX10_comes_18 : decode cX10_comes 18 = .ok (.getfield 153, 3) := by decide +kernel
theorem dX10_comes_21 : decode cX10_comes 21 = .ok (.iload_n 3, 1) := by decide +kernel
theorem dX10_comes_22 : decode cX10_comes 22 = .ok (.iaload, 1) := by decide +kernel
theorem dX10_comes_23 : decode cX10_comes 23 = .ok (.aload_n 0, 1) := by decide +kernel
theorem dX10_comes_24 : decode cX10_comes 24 = .ok (.getfield 147, 3) := by decide +kernel
theorem dX10_comes_27 : decode cX10_comes 27 = .ok (.iload_n 3, 1) := by decide +kernel
theorem dX10_comes_28 : decode cX10_comes 28 = .ok (.iaload, 1) := by decide +kernel
theorem dX10_comes_29 : decode cX10_comes 29 = .ok (.if_icmp .ge 38, 3) := by decide +kernel
theorem dX10_comes_32 : decode cX10_comes 32 = .ok (.aload_n 0, 1) := by decide +kernel
theorem dX10_comes_33 : decode cX10_comes 33 = .ok (.getfield 156, 3) := by decide +kernel
theorem dX10_comes_36 : decode cX10_comes 36 = .ok (.iload_n 3, 1) := by decide +kernel
theorem dX10_comes_37 : decode cX10_comes 37 = .ok (.iaload, 1) := by decide +kernel
theorem dX10_comes_38 : decode cX10_comes 38 = .ok (.ldc_w 317, 3) := by decide +kernel
theorem dX10_comes_41 : decode cX10_comes 41 = .ok (.if_icmp .ge 26, 3) := by decide +kernel
theorem dX10_comes_44 : decode cX10_comes 44 = .ok (.iload_n 2, 1) := by decide +kernel
theorem dX10_comes_45 : decode cX10_comes 45 = .ok (.ifCond .lt 18, 3) := by decide +kernel
theorem dX10_comes_48 : decode cX10_comes 48 = .ok (.aload_n 0, 1) := by decide +kernel
theorem dX10_comes_49 : decode cX10_comes 49 = .ok (.getfield 156, 3) := by decide +kernel
theorem dX10_comes_52 : decode cX10_comes 52 = .ok (.iload_n 3, 1) := by decide +kernel
theorem dX10_comes_53 : decode cX10_comes 53 = .ok (.iaload, 1) := by decide +kernel
theorem dX10_comes_54 : decode cX10_comes 54 = .ok (.aload_n 0, 1) := by decide +kernel
theorem dX10_comes_55 : decode cX10_comes 55 = .ok (.getfield 156, 3) := by decide +kernel
theorem dX10_comes_58 : decode cX10_comes 58 = .ok (.iload_n 2, 1) := by decide +kernel
theorem dX10_comes_59 : decode cX10_comes 59 = .ok (.iaload, 1) := by decide +kernel
theorem dX10_comes_60 : decode cX10_comes 60 = .ok (.if_icmp .ge 7, 3) := by decide +kernel
theorem dX10_comes_63 : decode cX10_comes 63 = .ok (.iload_n 3, 1) := by decide +kernel
theorem dX10_comes_64 : decode cX10_comes 64 = .ok (.goto 4, 3) := by decide +kernel
theorem dX10_comes_67 : decode cX10_comes 67 = .ok (.iload_n 2, 1) := by decide +kernel
theorem dX10_comes_68 : decode cX10_comes 68 = .ok (.istore_n 2, 1) := by decide +kernel
theorem dX10_comes_69 : decode cX10_comes 69 = .ok (.iinc 3 1, 3) := by decide +kernel
theorem dX10_comes_72 : decode cX10_comes 72 = .ok (.goto (-63), 3) := by decide +kernel
theorem dX10_comes_75 : decode cX10_comes 75 = .ok (.iload_n 2, 1) := by decide +kernel
theorem dX10_comes_76 : decode cX10_comes 76 = .ok (.ifCond .ge 5, 3) := by decide +kernel
theorem dX10_comes_79 : decode cX10_comes 79 = .ok (.iconst 0, 1) := by decide +kernel
theorem dX10_comes_80 : decode cX10_comes 80 = .ok (.ireturn, 1) := by decide +kernel
theorem dX10_comes_81 : decode cX10_comes 81 = .ok (.aload_n 0, 1) := by decide +kernel
theorem dX10_comes_82 : decode cX10_comes 82 = .ok (.getfield 153, 3) := by decide +kernel
theorem dX10_comes_85 : decode cX10_comes 85 = .ok (.iload_n 2, 1) := by decide +kernel
theorem dX10_comes_86 : decode cX10_comes 86 = .ok (.dup2, 1) := by decide +kernel
theorem dX10_comes_87 : decode cX10_comes 87 = .ok (.iaload, 1) := by decide +kernel
theorem dX10_comes_88 : decode cX10_comes 88 = .ok (.iconst 1, 1) := by decide +kernel
theorem dX10_comes_89 : decode cX10_comes 89 = .ok (.iadd, 1) := by decide +kernel
theorem dX10_comes_90 : decode cX10_comes 90 = .ok (.iastore, 1) := by decide +kernel
theorem dX10_comes_91 : decode cX10_comes 91 = .ok (.iload_n 2, 1) := by decide +kernel
theorem dX10_comes_92 : decode cX10_comes 92 = .ok (.istore_n 3, 1) := by decide +kernel
theorem dX10_comes_93 : decode cX10_comes 93 = .ok (.iload_n 3, 1) := by decide +kernel
theorem dX10_comes_94 : decode cX10_comes 94 = .ok (.ifCond .lt 25, 3) := by decide +kernel
theorem dX10_comes_97 : decode cX10_comes 97 = .ok (.aload_n 0, 1) := by decide +kernel
theorem dX10_comes_98 : decode cX10_comes 98 = .ok (.getfield 150, 3) := by decide +kernel
theorem dX10_comes_101 : decode cX10_comes 101 = .ok (.aload_n 0, 1) := by decide +kernel
theorem dX10_comes_102 : decode cX10_comes 102 = .ok (.getfield 159, 3) := by decide +kernel
theorem dX10_comes_105 : decode cX10_comes 105 = .ok (.iload_n 3, 1) := by decide +kernel
theorem dX10_comes_106 : decode cX10_comes 106 = .ok (.iaload, 1) := by decide +kernel
theorem dX10_comes_107 : decode cX10_comes 107 = .ok (.iload_n 3, 1) := by decide +kernel
theorem dX10_comes_108 : decode cX10_comes 108 = .ok (.iastore, 1) := by decide +kernel
theorem dX10_comes_109 : decode cX10_comes 109 = .ok (.aload_n 0, 1) := by decide +kernel
theorem dX10_comes_110 : decode cX10_comes 110 = .ok (.getfield 162, 3) := by decide +kernel
theorem dX10_comes_113 : decode cX10_comes 113 = .ok (.iload_n 3, 1) := by decide +kernel
theorem dX10_comes_114 : decode cX10_comes 114 = .ok (.iaload, 1) := by decide +kernel
theorem dX10_comes_115 : decode cX10_comes 115 = .ok (.istore_n 3, 1) := by decide +kernel
theorem dX10_comes_116 : decode cX10_comes 116 = .ok (.goto (-23), 3) := by decide +kernel
theorem dX10_comes_119 : decode cX10_comes 119 = .ok (.iconst 1, 1) := by decide +kernel
theorem dX10_comes_120 : decode cX10_comes 120 = .ok (.ireturn, 1) := by decide +kernel
theorem dX10_moves_0 : decode cX10_moves 0 = .ok (.aload_n 0, 1) := by decide +kernel
theorem dX10_moves_1 : decode cX10_moves 1 = .ok (.iconst 0, 1) := by decide +kernel
theorem dX10_moves_2 : decode cX10_moves 2 = .ok (.putfield 1, 3) := by decide +kernel
theorem dX10_moves_5 : decode cX10_moves 5 = .ok (.iconst 0, 1) := by decide +kernel
theorem dX10_moves_6 : decode cX10_moves 6 = .ok (.istore_n 1, 1) := by decide +kernel
theorem dX10_moves_7 : decode cX10_moves 7 = .ok (.iload_n 1, 1) := by decide +kernel
theorem dX10_moves_8 : decode cX10_moves 8 = .ok (.aload_n 0, 1) := by decide +kernel
theorem dX10_moves_9 : decode cX10_moves 9 = .ok (.getfield 308, 3) := by decide +kernel
theorem dX10_moves_12 : decode cX10_moves 12 = .ok (.if_icmp .ge 16, 3) := by decide +kernel
theorem dX10_moves_15 : decode cX10_moves 15 = .ok (.aload_n 0, 1) := by decide +kernel
theorem dX10_moves_16 : decode cX10_moves 16 = .ok (.getfield 153, 3) := by decide +kernel
theorem dX10_moves_19 : decode cX10_moves 19 = .ok (.iload_n 1, 1) := by decide +kernel
theorem dX10_moves_20 : decode cX10_moves 20 = .ok (.iconst 0, 1) := by decide +kernel
theorem dX10_moves_21 : decode cX10_moves 21 = .ok (.iastore, 1) := by decide +kernel
theorem dX10_moves_22 : decode cX10_moves 22 = .ok (.iinc 1 1, 3) := by decide +kernel
theorem dX10_moves_25 : decode cX10_moves 25 = .ok (.goto (-18), 3) := by decide +kernel
theorem dX10_moves_28 : decode cX10_moves 28 = .ok (.iconst 0, 1) := by decide +kernel
theorem dX10_moves_29 : decode cX10_moves 29 = .ok (.istore_n 1, 1) := by decide +kernel
theorem dX10_moves_30 : decode cX10_moves 30 = .ok (.iload_n 1, 1) := by decide +kernel
theorem dX10_moves_31 : decode cX10_moves 31 = .ok (.aload_n 0, 1) := by decide +kernel
theorem dX10_moves_32 : decode cX10_moves 32 = .ok (.getfield 258, 3) := by decide +kernel
theorem dX10_moves_35 : decode cX10_moves 35 = .ok (.if_icmp .ge 16, 3) := by decide +kernel
theorem dX10_moves_38 : decode cX10_moves 38 = .ok (.aload_n 0, 1) := by decide +kernel
theorem dX10_moves_39 : decode cX10_moves 39 = .ok (.getfield 150, 3) := by decide +kernel
theorem dX10_moves_42 : decode cX10_moves 42 = .ok (.iload_n 1, 1) := by decide +kernel
theorem dX10_moves_43 : decode cX10_moves 43 = .ok (.iconst (-1), 1) := by decide +kernel
theorem dX10_moves_44 : decode cX10_moves 44 = .ok (.iastore, 1) := by decide +kernel
theorem dX10_moves_45 : decode cX10_moves 45 = .ok (.iinc 1 1, 3) := by decide +kernel
theorem dX10_moves_48 : decode cX10_moves 48 = .ok (.goto (-18), 3) := by decide +kernel
theorem dX10_moves_51 : decode cX10_moves 51 = .ok (.iconst 0, 1) := by decide +kernel
theorem dX10_moves_52 : decode cX10_moves 52 = .ok (.istore_n 1, 1) := by decide +kernel
theorem dX10_moves_53 : decode cX10_moves 53 = .ok (.iconst 0, 1) := by decide +kernel
theorem dX10_moves_54 : decode cX10_moves 54 = .ok (.istore_n 2, 1) := by decide +kernel
theorem dX10_moves_55 : decode cX10_moves 55 = .ok (.iload_n 2, 1) := by decide +kernel
theorem dX10_moves_56 : decode cX10_moves 56 = .ok (.aload_n 0, 1) := by decide +kernel
theorem dX10_moves_57 : decode cX10_moves 57 = .ok (.getfield 258, 3) := by decide +kernel
theorem dX10_moves_60 : decode cX10_moves 60 = .ok (.if_icmp .ge 28, 3) := by decide +kernel
theorem dX10_moves_63 : decode cX10_moves 63 = .ok (.aload_n 0, 1) := by decide +kernel
theorem dX10_moves_64 : decode cX10_moves 64 = .ok (.getfield 108, 3) := by decide +kernel
theorem dX10_moves_67 : decode cX10_moves 67 = .ok (.iload_n 2, 1) := by decide +kernel
theorem dX10_moves_68 : decode cX10_moves 68 = .ok (.iaload, 1) := by decide +kernel
theorem dX10_moves_69 : decode cX10_moves 69 = .ok (.ifCond .lt 13, 3) := by decide +kernel
theorem dX10_moves_72 : decode cX10_moves 72 = .ok (.aload_n 0, 1) := by decide +kernel
theorem dX10_moves_73 : decode cX10_moves 73 = .ok (.iload_n 2, 1) := by decide +kernel
theorem dX10_moves_74 : decode cX10_moves 74 = .ok (.invokevirtual 324, 3) := by decide +kernel
theorem dX10_moves_77 : decode cX10_moves 77 = .ok (.ifCond .ne 5, 3) := by decide +kernel
theorem dX10_moves_80 : decode cX10_moves 80 = .ok (.iconst (-1), 1) := by decide +kernel
theorem dX10_moves_81 : decode cX10_moves 81 = .ok (.ireturn, 1) := by decide +kernel
theorem dX10_moves_82 : decode cX10_moves 82 = .ok (.iinc 2 1, 3) := by decide +kernel
theorem dX10_moves_85 : decode cX10_moves 85 = .ok (.goto (-30), 3) := by decide +kernel
theorem dX10_moves_88 : decode cX10_moves 88 = .ok (.iconst 0, 1) := by decide +kernel
theorem dX10_moves_89 : decode cX10_moves 89 = .ok (.istore_n 2, 1) := by decide +kernel
theorem dX10_moves_90 : decode cX10_moves 90 = .ok (.iload_n 2, 1) := by decide +kernel
theorem dX10_moves_91 : decode cX10_moves 91 = .ok (.aload_n 0, 1) := by decide +kernel
theorem dX10_moves_92 : decode cX10_moves 92 = .ok (.getfield 258, 3) := by decide +kernel
theorem dX10_moves_95 : decode cX10_moves 95 = .ok (.if_icmp .ge 41, 3) := by decide +kernel
theorem dX10_moves_98 : decode cX10_moves 98 = .ok (.iload_n 1, 1) := by decide +kernel
theorem dX10_moves_99 : decode cX10_moves 99 = .ok (.aload_n 0, 1) := by decide +kernel
theorem dX10_moves_100 : decode cX10_moves 100 = .ok (.getfield 108, 3) := by decide +kernel
theorem dX10_moves_103 : decode cX10_moves 103 = .ok (.iload_n 2, 1) := by decide +kernel
theorem dX10_moves_104 : decode cX10_moves 104 = .ok (.iaload, 1) := by decide +kernel
theorem dX10_moves_105 : decode cX10_moves 105 = .ok (.ifCond .lt 22, 3) := by decide +kernel
theorem dX10_moves_108 : decode cX10_moves 108 = .ok (.aload_n 0, 1) := by decide +kernel
theorem dX10_moves_109 : decode cX10_moves 109 = .ok (.getfield 150, 3) := by decide +kernel
theorem dX10_moves_112 : decode cX10_moves 112 = .ok (.iload_n 2, 1) := by decide +kernel
theorem dX10_moves_113 : decode cX10_moves 113 = .ok (.iaload, 1) := by decide +kernel
theorem dX10_moves_114 : decode cX10_moves 114 = .ok (.aload_n 0, 1) := by decide +kernel
theorem dX10_moves_115 : decode cX10_moves 115 = .ok (.getfield 108, 3) := by decide +kernel
theorem dX10_moves_118 : decode cX10_moves 118 = .ok (.iload_n 2, 1) := by decide +kernel
theorem dX10_moves_119 : decode cX10_moves 119 = .ok (.iaload, 1) := by decide +kernel
theorem dX10_moves_120 : decode cX10_moves 120 = .ok (.if_icmp .eq 7, 3) := by decide +kernel
theorem dX10_moves_123 : decode cX10_moves 123 = .ok (.iconst 1, 1) := by decide +kernel
theorem dX10_moves_124 : decode cX10_moves 124 = .ok (.goto 4, 3) := by decide +kernel
theorem dX10_moves_127 : decode cX10_moves 127 = .ok (.iconst 0, 1) := by decide +kernel
theorem dX10_moves_128 : decode cX10_moves 128 = .ok (.iadd, 1) := by decide +kernel
theorem dX10_moves_129 : decode cX10_moves 129 = .ok (.istore_n 1, 1) := by decide +kernel
theorem dX10_moves_130 : decode cX10_moves 130 = .ok (.iinc 2 1, 3) := by decide +kernel
theorem dX10_moves_133 : decode cX10_moves 133 = .ok (.goto (-43), 3) := by decide +kernel
theorem dX10_moves_136 : decode cX10_moves 136 = .ok (.iload_n 1, 1) := by decide +kernel
theorem dX10_moves_137 : decode cX10_moves 137 = .ok (.ireturn, 1) := by decide +kernel
theorem dX10_lets_0 : decode cX10_lets 0 = .ok (.aload_n 0, 1) := by decide +kernel
theorem dX10_lets_1 : decode cX10_lets 1 = .ok (.getfield 84, 3) := by decide +kernel
theorem dX10_lets_4 : decode cX10_lets 4 = .ok (.iconst 0, 1) := by decide +kernel
theorem dX10_lets_5 : decode cX10_lets 5 = .ok (.aload_n 0, 1) := by decide +kernel
theorem dX10_lets_6 : decode cX10_lets 6 = .ok (.getfield 120, 3) := by decide +kernel
theorem dX10_lets_9 : decode cX10_lets 9 = .ok (.aload_n 0, 1) := by decide +kernel
theorem dX10_lets_10 : decode cX10_lets 10 = .ok (.iload_n 1, 1) := by decide +kernel
theorem dX10_lets_11 : decode cX10_lets 11 = .ok (.invokevirtual 327, 3) := by decide +kernel
theorem dX10_lets_14 : decode cX10_lets 14 = .ok (.iaload, 1) := by decide +kernel
theorem dX10_lets_15 : decode cX10_lets 15 = .ok (.iastore, 1) := by decide +kernel
theorem dX10_lets_16 : decode cX10_lets 16 = .ok (.aload_n 0, 1) := by decide +kernel
theorem dX10_lets_17 : decode cX10_lets 17 = .ok (.getfield 84, 3) := by decide +kernel
theorem dX10_lets_20 : decode cX10_lets 20 = .ok (.iconst 1, 1) := by decide +kernel
theorem dX10_lets_21 : decode cX10_lets 21 = .ok (.aload_n 0, 1) := by decide +kernel
theorem dX10_lets_22 : decode cX10_lets 22 = .ok (.iload_n 1, 1) := by decide +kernel
theorem dX10_lets_23 : decode cX10_lets 23 = .ok (.aload_n 0, 1) := by decide +kernel
theorem dX10_lets_24 : decode cX10_lets 24 = .ok (.getfield 255, 3) := by decide +kernel
theorem dX10_lets_27 : decode cX10_lets 27 = .ok (.aload_n 0, 1) := by decide +kernel
theorem dX10_lets_28 : decode cX10_lets 28 = .ok (.getfield 255, 3) := by decide +kernel
theorem dX10_lets_31 : decode cX10_lets 31 = .ok (.invokevirtual 302, 3) := by decide +kernel
theorem dX10_lets_34 : decode cX10_lets 34 = .ok (.iastore, 1) := by decide +kernel
theorem dX10_lets_35 : decode cX10_lets 35 = .ok (.aload_n 0, 1) := by decide +kernel
theorem dX10_lets_36 : decode cX10_lets 36 = .ok (.getfield 84, 3) := by decide +kernel
theorem dX10_lets_39 : decode cX10_lets 39 = .ok (.iconst 2, 1) := by decide +kernel
theorem dX10_lets_40 : decode cX10_lets 40 = .ok (.iload_n 2, 1) := by decide +kernel
theorem dX10_lets_41 : decode cX10_lets 41 = .ok (.iastore, 1) := by decide +kernel
theorem dX10_lets_42 : decode cX10_lets 42 = .ok (.aload_n 0, 1) := by decide +kernel
theorem dX10_lets_43 : decode cX10_lets 43 = .ok (.getfield 84, 3) := by decide +kernel
theorem dX10_lets_46 : decode cX10_lets 46 = .ok (.iconst 3, 1) := by decide +kernel
theorem dX10_lets_47 : decode cX10_lets 47 = .ok (.iload_n 3, 1) := by decide +kernel
theorem dX10_lets_48 : decode cX10_lets 48 = .ok (.iastore, 1) := by decide +kernel
theorem dX10_lets_49 : decode cX10_lets 49 = .ok (.aload_n 0, 1) := by decide +kernel
theorem dX10_lets_50 : decode cX10_lets 50 = .ok (.getfield 84, 3) := by decide +kernel
theorem dX10_lets_53 : decode cX10_lets 53 = .ok (.iconst 4, 1) := by decide +kernel
theorem dX10_lets_54 : decode cX10_lets 54 = .ok (.aload_n 0, 1) := by decide +kernel
theorem dX10_lets_55 : decode cX10_lets 55 = .ok (.iload_n 1, 1) := by decide +kernel
theorem dX10_lets_56 : decode cX10_lets 56 = .ok (.invokevirtual 330, 3) := by decide +kernel
theorem dX10_lets_59 : decode cX10_lets 59 = .ok (.ifCond .eq 7, 3) := by decide +kernel
theorem dX10_lets_62 : decode cX10_lets 62 = .ok (.iconst 1, 1) := by decide +kernel
theorem dX10_lets_63 : decode cX10_lets 63 = .ok (.goto 4, 3) := by decide +kernel
theorem dX10_lets_66 : decode cX10_lets 66 = .ok (.iconst 0, 1) := by decide +kernel
theorem dX10_lets_67 : decode cX10_lets 67 = .ok (.iastore, 1) := by decide +kernel
theorem dX10_lets_68 : decode cX10_lets 68 = .ok (.aload_n 0, 1) := by decide +kernel
theorem dX10_lets_69 : decode cX10_lets 69 = .ok (.getfield 84, 3) := by decide +kernel
theorem dX10_lets_72 : decode cX10_lets 72 = .ok (.iconst 5, 1) := by decide +kernel
theorem dX10_lets_73 : decode cX10_lets 73 = .ok (.aload_n 0, 1) := by decide +kernel
theorem dX10_lets_74 : decode cX10_lets 74 = .ok (.getfield 99, 3) := by decide +kernel
theorem dX10_lets_77 : decode cX10_lets 77 = .ok (.iload_n 1, 1) := by decide +kernel
theorem dX10_lets_78 : decode cX10_lets 78 = .ok (.iaload, 1) := by decide +kernel
theorem dX10_lets_79 : decode cX10_lets 79 = .ok (.iastore, 1) := by decide +kernel
theorem dX10_lets_80 : decode cX10_lets 80 = .ok (.aload_n 0, 1) := by decide +kernel
theorem dX10_lets_81 : decode cX10_lets 81 = .ok (.getfield 84, 3) := by decide +kernel
theorem dX10_lets_84 : decode cX10_lets 84 = .ok (.bipush 6, 2) := by decide +kernel
theorem dX10_lets_86 : decode cX10_lets 86 = .ok (.aload_n 0, 1) := by decide +kernel
theorem dX10_lets_87 : decode cX10_lets 87 = .ok (.getfield 255, 3) := by decide +kernel
theorem dX10_lets_90 : decode cX10_lets 90 = .ok (.iastore, 1) := by decide +kernel
theorem dX10_lets_91 : decode cX10_lets 91 = .ok (.bipush 16, 2) := by decide +kernel
theorem dX10_lets_93 : decode cX10_lets 93 = .ok (.aload_n 0, 1) := by decide +kernel
theorem dX10_lets_94 : decode cX10_lets 94 = .ok (.getfield 219, 3) := by decide +kernel
theorem dX10_lets_97 : decode cX10_lets 97 = .ok (.imul, 1) := by decide +kernel
theorem dX10_lets_98 : decode cX10_lets 98 = .ok (.istore 4, 2) := by decide +kernel
theorem dX10_lets_100 : decode cX10_lets 100 = .ok (.iload 4, 2) := by decide +kernel
theorem dX10_lets_102 : decode cX10_lets 102 = .ok (.bipush 16, 2) := by decide +kernel
theorem dX10_lets_104 : decode cX10_lets 104 = .ok (.aload_n 0, 1) := by decide +kernel
theorem dX10_lets_105 : decode cX10_lets 105 = .ok (.getfield 219, 3) := by decide +kernel
theorem dX10_lets_108 : decode cX10_lets 108 = .ok (.imul, 1) := by decide +kernel
theorem dX10_lets_109 : decode cX10_lets 109 = .ok (.aload_n 0, 1) := by decide +kernel
theorem dX10_lets_110 : decode cX10_lets 110 = .ok (.getfield 59, 3) := by decide +kernel
theorem dX10_lets_113 : decode cX10_lets 113 = .ok (.aload_n 0, 1) := by decide +kernel
theorem dX10_lets_114 : decode cX10_lets 114 = .ok (.getfield 219, 3) := by decide +kernel
theorem dX10_lets_117 : decode cX10_lets 117 = .ok (.iaload, 1) := by decide +kernel
theorem dX10_lets_118 : decode cX10_lets 118 = .ok (.iadd, 1) := by decide +kernel
theorem dX10_lets_119 : decode cX10_lets 119 = .ok (.if_icmp .ge 39, 3) := by decide +kernel
theorem dX10_lets_122 : decode cX10_lets 122 = .ok (.aload_n 0, 1) := by decide +kernel
theorem dX10_lets_123 : decode cX10_lets 123 = .ok (.aload_n 0, 1) := by decide +kernel
theorem dX10_lets_124 : decode cX10_lets 124 = .ok (.getfield 66, 3) := by decide +kernel
theorem dX10_lets_127 : decode cX10_lets 127 = .ok (.iload 4, 2) := by decide +kernel
theorem dX10_lets_129 : decode cX10_lets 129 = .ok (.iaload, 1) := by decide +kernel
theorem dX10_lets_130 : decode cX10_lets 130 = .ok (.invokevirtual 333, 3) := by decide +kernel
theorem dX10_lets_133 : decode cX10_lets 133 = .ok (.ifCond .eq 19, 3) := by decide +kernel
theorem dX10_lets_136 : decode cX10_lets 136 = .ok (.aload_n 0, 1) := by decide +kernel
theorem dX10_lets_137 : decode cX10_lets 137 = .ok (.getfield 62, 3) := by decide +kernel
theorem dX10_lets_140 : decode cX10_lets 140 = .ok (.iload 4, 2) := by decide +kernel
theorem dX10_lets_142 : decode cX10_lets 142 = .ok (.baload, 1) := by decide +kernel
theorem dX10_lets_143 : decode cX10_lets 143 = .ok (.ifCond .ne 7, 3) := by decide +kernel
theorem dX10_lets_146 : decode cX10_lets 146 = .ok (.iconst 1, 1) := by decide +kernel
theorem dX10_lets_147 : decode cX10_lets 147 = .ok (.goto 4, 3) := by decide +kernel
theorem dX10_lets_150 : decode cX10_lets 150 = .ok (.iconst 0, 1) := by decide +kernel
theorem dX10_lets_151 : decode cX10_lets 151 = .ok (.ireturn, 1) := by decide +kernel
theorem dX10_lets_152 : decode cX10_lets 152 = .ok (.iinc 4 1, 3) := by decide +kernel
theorem dX10_lets_155 : decode cX10_lets 155 = .ok (.goto (-55), 3) := by decide +kernel
theorem dX10_lets_158 : decode cX10_lets 158 = .ok (.iconst 0, 1) := by decide +kernel
theorem dX10_lets_159 : decode cX10_lets 159 = .ok (.ireturn, 1) := by decide +kernel
theorem dX10_isSending_0 : decode cX10_isSending 0 = .ok (.aload_n 0, 1) := by decide +kernel
theorem dX10_isSending_1 : decode cX10_isSending 1 = .ok (.iload_n 1, 1) := by decide +kernel
theorem dX10_isSending_2 : decode cX10_isSending 2 = .ok (.invokevirtual 268, 3) := by decide +kernel
theorem dX10_isSending_5 : decode cX10_isSending 5 = .ok (.ifCond .eq 27, 3) := by decide +kernel
theorem dX10_isSending_8 : decode cX10_isSending 8 = .ok (.iload_n 2, 1) := by decide +kernel
theorem dX10_isSending_9 : decode cX10_isSending 9 = .ok (.ifCond .lt 23, 3) := by decide +kernel
theorem dX10_isSending_12 : decode cX10_isSending 12 = .ok (.iload_n 2, 1) := by decide +kernel
theorem dX10_isSending_13 : decode cX10_isSending 13 = .ok (.bipush 99, 2) := by decide +kernel
theorem dX10_isSending_15 : decode cX10_isSending 15 = .ok (.if_icmp .gt 17, 3) := by decide +kernel
theorem dX10_isSending_18 : decode cX10_isSending 18 = .ok (.iload_n 3, 1) := by decide +kernel
theorem dX10_isSending_19 : decode cX10_isSending 19 = .ok (.ifCond .lt 13, 3) := by decide +kernel
theorem dX10_isSending_22 : decode cX10_isSending 22 = .ok (.iload_n 3, 1) := by decide +kernel
theorem dX10_isSending_23 : decode cX10_isSending 23 = .ok (.bipush 9, 2) := by decide +kernel
theorem dX10_isSending_25 : decode cX10_isSending 25 = .ok (.if_icmp .gt 7, 3) := by decide +kernel
theorem dX10_isSending_28 : decode cX10_isSending 28 = .ok (.iconst 1, 1) := by decide +kernel
theorem dX10_isSending_29 : decode cX10_isSending 29 = .ok (.goto 4, 3) := by decide +kernel
theorem dX10_isSending_32 : decode cX10_isSending 32 = .ok (.iconst 0, 1) := by decide +kernel
theorem dX10_isSending_33 : decode cX10_isSending 33 = .ok (.ireturn, 1) := by decide +kernel
theorem dX10_may_0 : decode cX10_may 0 = .ok (.aload_n 0, 1) := by decide +kernel
theorem dX10_may_1 : decode cX10_may 1 = .ok (.iconst 0, 1) := by decide +kernel
theorem dX10_may_2 : decode cX10_may 2 = .ok (.putfield 1, 3) := by decide +kernel
theorem dX10_may_5 : decode cX10_may 5 = .ok (.aload_n 0, 1) := by decide +kernel
theorem dX10_may_6 : decode cX10_may 6 = .ok (.iload_n 1, 1) := by decide +kernel
theorem dX10_may_7 : decode cX10_may 7 = .ok (.iload_n 2, 1) := by decide +kernel
theorem dX10_may_8 : decode cX10_may 8 = .ok (.iload_n 3, 1) := by decide +kernel
theorem dX10_may_9 : decode cX10_may 9 = .ok (.invokevirtual 336, 3) := by decide +kernel
theorem dX10_may_12 : decode cX10_may 12 = .ok (.ifCond .ne 7, 3) := by decide +kernel
theorem dX10_may_15 : decode cX10_may 15 = .ok (.iconst (-1), 1) := by decide +kernel
theorem dX10_may_16 : decode cX10_may 16 = .ok (.goto 18, 3) := by decide +kernel
theorem dX10_may_19 : decode cX10_may 19 = .ok (.aload_n 0, 1) := by decide +kernel
theorem dX10_may_20 : decode cX10_may 20 = .ok (.iload_n 1, 1) := by decide +kernel
theorem dX10_may_21 : decode cX10_may 21 = .ok (.iload_n 2, 1) := by decide +kernel
theorem dX10_may_22 : decode cX10_may 22 = .ok (.iload_n 3, 1) := by decide +kernel
theorem dX10_may_23 : decode cX10_may 23 = .ok (.invokevirtual 339, 3) := by decide +kernel
theorem dX10_may_26 : decode cX10_may 26 = .ok (.ifCond .eq 7, 3) := by decide +kernel
theorem dX10_may_29 : decode cX10_may 29 = .ok (.iconst 1, 1) := by decide +kernel
theorem dX10_may_30 : decode cX10_may 30 = .ok (.goto 4, 3) := by decide +kernel
theorem dX10_may_33 : decode cX10_may 33 = .ok (.iconst 0, 1) := by decide +kernel
theorem dX10_may_34 : decode cX10_may 34 = .ok (.ireturn, 1) := by decide +kernel
theorem dX10_send_0 : decode cX10_send 0 = .ok (.aload_n 0, 1) := by decide +kernel
theorem dX10_send_1 : decode cX10_send 1 = .ok (.iconst 0, 1) := by decide +kernel
theorem dX10_send_2 : decode cX10_send 2 = .ok (.putfield 1, 3) := by decide +kernel
theorem dX10_send_5 : decode cX10_send 5 = .ok (.aload_n 0, 1) := by decide +kernel
theorem dX10_send_6 : decode cX10_send 6 = .ok (.iload_n 1, 1) := by decide +kernel
theorem dX10_send_7 : decode cX10_send 7 = .ok (.iload_n 2, 1) := by decide +kernel
theorem dX10_send_8 : decode cX10_send 8 = .ok (.iload_n 3, 1) := by decide +kernel
theorem dX10_send_9 : decode cX10_send 9 = .ok (.invokevirtual 336, 3) := by decide +kernel
theorem dX10_send_12 : decode cX10_send 12 = .ok (.ifCond .eq 31, 3) := by decide +kernel
theorem dX10_send_15 : decode cX10_send 15 = .ok (.aload_n 0, 1) := by decide +kernel
theorem dX10_send_16 : decode cX10_send 16 = .ok (.getfield 99, 3) := by decide +kernel
theorem dX10_send_19 : decode cX10_send 19 = .ok (.iload_n 1, 1) := by decide +kernel
theorem dX10_send_20 : decode cX10_send 20 = .ok (.iaload, 1) := by decide +kernel
theorem dX10_send_21 : decode cX10_send 21 = .ok (.ifCond .eq 22, 3) := by decide +kernel
theorem dX10_send_24 : decode cX10_send 24 = .ok (.aload_n 0, 1) := by decide +kernel
theorem dX10_send_25 : decode cX10_send 25 = .ok (.getfield 342, 3) := by decide +kernel
theorem dX10_send_28 : decode cX10_send 28 = .ok (.bipush 100, 2) := by decide +kernel
theorem dX10_send_30 : decode cX10_send 30 = .ok (.if_icmp .eq 13, 3) := by decide +kernel
theorem dX10_send_33 : decode cX10_send 33 = .ok (.aload_n 0, 1) := by decide +kernel
theorem dX10_send_34 : decode cX10_send 34 = .ok (.iload_n 1, 1) := by decide +kernel
theorem dX10_send_35 : decode cX10_send 35 = .ok (.iload_n 2, 1) := by decide +kernel
theorem dX10_send_36 : decode cX10_send 36 = .ok (.iload_n 3, 1) := by decide +kernel
theorem dX10_send_37 : decode cX10_send 37 = .ok (.invokevirtual 339, 3) := by decide +kernel
theorem dX10_send_40 : decode cX10_send 40 = .ok (.ifCond .ne 5, 3) := by decide +kernel
theorem dX10_send_43 : decode cX10_send 43 = .ok (.iconst 0, 1) := by decide +kernel
theorem dX10_send_44 : decode cX10_send 44 = .ok (.ireturn, 1) := by decide +kernel
theorem dX10_send_45 : decode cX10_send 45 = .ok (.aload_n 0, 1) := by decide +kernel
theorem dX10_send_46 : decode cX10_send 46 = .ok (.getfield 99, 3) := by decide +kernel
theorem dX10_send_49 : decode cX10_send 49 = .ok (.iload_n 1, 1) := by decide +kernel
theorem dX10_send_50 : decode cX10_send 50 = .ok (.dup2, 1) := by decide +kernel
theorem dX10_send_51 : decode cX10_send 51 = .ok (.iaload, 1) := by decide +kernel
theorem dX10_send_52 : decode cX10_send 52 = .ok (.iconst 1, 1) := by decide +kernel
theorem dX10_send_53 : decode cX10_send 53 = .ok (.isub, 1) := by decide +kernel
theorem dX10_send_54 : decode cX10_send 54 = .ok (.iastore, 1) := by decide +kernel
theorem dX10_send_55 : decode cX10_send 55 = .ok (.aload_n 0, 1) := by decide +kernel
theorem dX10_send_56 : decode cX10_send 56 = .ok (.getfield 165, 3) := by decide +kernel
theorem dX10_send_59 : decode cX10_send 59 = .ok (.iconst 4, 1) := by decide +kernel
theorem dX10_send_60 : decode cX10_send 60 = .ok (.aload_n 0, 1) := by decide +kernel
theorem dX10_send_61 : decode cX10_send 61 = .ok (.getfield 342, 3) := by decide +kernel
theorem dX10_send_64 : decode cX10_send 64 = .ok (.imul, 1) := by decide +kernel
theorem dX10_send_65 : decode cX10_send 65 = .ok (.iload_n 1, 1) := by decide +kernel
theorem dX10_send_66 : decode cX10_send 66 = .ok (.iastore, 1) := by decide +kernel
theorem dX10_send_67 : decode cX10_send 67 = .ok (.aload_n 0, 1) := by decide +kernel
theorem dX10_send_68 : decode cX10_send 68 = .ok (.getfield 165, 3) := by decide +kernel
theorem dX10_send_71 : decode cX10_send 71 = .ok (.iconst 4, 1) := by decide +kernel
theorem dX10_send_72 : decode cX10_send 72 = .ok (.aload_n 0, 1) := by decide +kernel
theorem dX10_send_73 : decode cX10_send 73 = .ok (.getfield 342, 3) := by decide +kernel
theorem dX10_send_76 : decode cX10_send 76 = .ok (.imul, 1) := by decide +kernel
theorem dX10_send_77 : decode cX10_send 77 = .ok (.iconst 1, 1) := by decide +kernel
theorem dX10_send_78 : decode cX10_send 78 = .ok (.iadd, 1) := by decide +kernel
theorem dX10_send_79 : decode cX10_send 79 = .ok (.iload_n 2, 1) := by decide +kernel
theorem dX10_send_80 : decode cX10_send 80 = .ok (.iastore, 1) := by decide +kernel
theorem dX10_send_81 : decode cX10_send 81 = .ok (.aload_n 0, 1) := by decide +kernel
theorem dX10_send_82 : decode cX10_send 82 = .ok (.getfield 165, 3) := by decide +kernel
theorem dX10_send_85 : decode cX10_send 85 = .ok (.iconst 4, 1) := by decide +kernel
theorem dX10_send_86 : decode cX10_send 86 = .ok (.aload_n 0, 1) := by decide +kernel
theorem dX10_send_87 : decode cX10_send 87 = .ok (.getfield 342, 3) := by decide +kernel
theorem dX10_send_90 : decode cX10_send 90 = .ok (.imul, 1) := by decide +kernel
theorem dX10_send_91 : decode cX10_send 91 = .ok (.iconst 2, 1) := by decide +kernel
theorem dX10_send_92 : decode cX10_send 92 = .ok (.iadd, 1) := by decide +kernel
theorem dX10_send_93 : decode cX10_send 93 = .ok (.iload_n 3, 1) := by decide +kernel
theorem dX10_send_94 : decode cX10_send 94 = .ok (.iastore, 1) := by decide +kernel
theorem dX10_send_95 : decode cX10_send 95 = .ok (.aload_n 0, 1) := by decide +kernel
theorem dX10_send_96 : decode cX10_send 96 = .ok (.getfield 165, 3) := by decide +kernel
theorem dX10_send_99 : decode cX10_send 99 = .ok (.iconst 4, 1) := by decide +kernel
theorem dX10_send_100 : decode cX10_send 100 = .ok (.aload_n 0, 1) := by decide +kernel
theorem dX10_send_101 : decode cX10_send 101 = .ok (.getfield 342, 3) := by decide +kernel
theorem dX10_send_104 : decode cX10_send 104 = .ok (.imul, 1) := by decide +kernel
theorem dX10_send_105 : decode cX10_send 105 = .ok (.iconst 3, 1) := by decide +kernel
theorem dX10_send_106 : decode cX10_send 106 = .ok (.iadd, 1) := by decide +kernel
theorem dX10_send_107 : decode cX10_send 107 = .ok (.aload_n 0, 1) := by decide +kernel
theorem dX10_send_108 : decode cX10_send 108 = .ok (.getfield 255, 3) := by decide +kernel
theorem dX10_send_111 : decode cX10_send 111 = .ok (.iastore, 1) := by decide +kernel
theorem dX10_send_112 : decode cX10_send 112 = .ok (.aload_n 0, 1) := by decide +kernel
theorem dX10_send_113 : decode cX10_send 113 = .ok (.dup, 1) := by decide +kernel
theorem dX10_send_114 : decode cX10_send 114 = .ok (.getfield 342, 3) := by decide +kernel
theorem dX10_send_117 : decode cX10_send 117 = .ok (.iconst 1, 1) := by decide +kernel
theorem dX10_send_118 : decode cX10_send 118 = .ok (.iadd, 1) := by decide +kernel
theorem dX10_send_119 : decode cX10_send 119 = .ok (.putfield 342, 3) := by decide +kernel
theorem dX10_send_122 : decode cX10_send 122 = .ok (.iconst 1, 1) := by decide +kernel
theorem dX10_send_123 : decode cX10_send 123 = .ok (.ireturn, 1) := by decide +kernel
theorem dX10_sent_0 : decode cX10_sent 0 = .ok (.aload_n 0, 1) := by decide +kernel
theorem dX10_sent_1 : decode cX10_sent 1 = .ok (.iconst 0, 1) := by decide +kernel
theorem dX10_sent_2 : decode cX10_sent 2 = .ok (.putfield 1, 3) := by decide +kernel
theorem dX10_sent_5 : decode cX10_sent 5 = .ok (.iload_n 1, 1) := by decide +kernel
theorem dX10_sent_6 : decode cX10_sent 6 = .ok (.ifCond .lt 20, 3) := by decide +kernel
theorem dX10_sent_9 : decode cX10_sent 9 = .ok (.iload_n 1, 1) := by decide +kernel
theorem dX10_sent_10 : decode cX10_sent 10 = .ok (.aload_n 0, 1) := by decide +kernel
theorem dX10_sent_11 : decode cX10_sent 11 = .ok (.getfield 342, 3) := by decide +kernel
theorem dX10_sent_14 : decode cX10_sent 14 = .ok (.if_icmp .ge 12, 3) := by decide +kernel
theorem dX10_sent_17 : decode cX10_sent 17 = .ok (.iload_n 2, 1) := by decide +kernel
theorem dX10_sent_18 : decode cX10_sent 18 = .ok (.ifCond .lt 8, 3) := by decide +kernel
theorem dX10_sent_21 : decode cX10_sent 21 = .ok (.iload_n 2, 1) := by decide +kernel
theorem dX10_sent_22 : decode cX10_sent 22 = .ok (.iconst 3, 1) := by decide +kernel
theorem dX10_sent_23 : decode cX10_sent 23 = .ok (.if_icmp .le 7, 3) := by decide +kernel
theorem dX10_sent_26 : decode cX10_sent 26 = .ok (.iconst (-1), 1) := by decide +kernel
theorem dX10_sent_27 : decode cX10_sent 27 = .ok (.goto 13, 3) := by decide +kernel
theorem dX10_sent_30 : decode cX10_sent 30 = .ok (.aload_n 0, 1) := by decide +kernel
theorem dX10_sent_31 : decode cX10_sent 31 = .ok (.getfield 165, 3) := by decide +kernel
theorem dX10_sent_34 : decode cX10_sent 34 = .ok (.iconst 4, 1) := by decide +kernel
theorem dX10_sent_35 : decode cX10_sent 35 = .ok (.iload_n 1, 1) := by decide +kernel
theorem dX10_sent_36 : decode cX10_sent 36 = .ok (.imul, 1) := by decide +kernel
theorem dX10_sent_37 : decode cX10_sent 37 = .ok (.iload_n 2, 1) := by decide +kernel
theorem dX10_sent_38 : decode cX10_sent 38 = .ok (.iadd, 1) := by decide +kernel
theorem dX10_sent_39 : decode cX10_sent 39 = .ok (.iaload, 1) := by decide +kernel
theorem dX10_sent_40 : decode cX10_sent 40 = .ok (.ireturn, 1) := by decide +kernel
theorem dX10_seen_0 : decode cX10_seen 0 = .ok (.aload_n 0, 1) := by decide +kernel
theorem dX10_seen_1 : decode cX10_seen 1 = .ok (.iconst 0, 1) := by decide +kernel
theorem dX10_seen_2 : decode cX10_seen 2 = .ok (.putfield 1, 3) := by decide +kernel
theorem dX10_seen_5 : decode cX10_seen 5 = .ok (.aload_n 0, 1) := by decide +kernel
theorem dX10_seen_6 : decode cX10_seen 6 = .ok (.iload_n 1, 1) := by decide +kernel
theorem dX10_seen_7 : decode cX10_seen 7 = .ok (.invokevirtual 268, 3) := by decide +kernel
theorem dX10_seen_10 : decode cX10_seen 10 = .ok (.ifCond .eq 19, 3) := by decide +kernel
theorem dX10_seen_13 : decode cX10_seen 13 = .ok (.aload_n 0, 1) := by decide +kernel
theorem dX10_seen_14 : decode cX10_seen 14 = .ok (.getfield 108, 3) := by decide +kernel
theorem dX10_seen_17 : decode cX10_seen 17 = .ok (.iload_n 1, 1) := by decide +kernel
theorem dX10_seen_18 : decode cX10_seen 18 = .ok (.iaload, 1) := by decide +kernel
theorem dX10_seen_19 : decode cX10_seen 19 = .ok (.ifCond .lt 10, 3) := by decide +kernel
theorem dX10_seen_22 : decode cX10_seen 22 = .ok (.iload_n 2, 1) := by decide +kernel
theorem dX10_seen_23 : decode cX10_seen 23 = .ok (.invokestatic 261, 3) := by decide +kernel
theorem dX10_seen_26 : decode cX10_seen 26 = .ok (.ifCond .ne 5, 3) := by decide +kernel
theorem dX10_seen_29 : decode cX10_seen 29 = .ok (.iconst 0, 1) := by decide +kernel
theorem dX10_seen_30 : decode cX10_seen 30 = .ok (.ireturn, 1) := by decide +kernel
theorem dX10_seen_31 : decode cX10_seen 31 = .ok (.aload_n 0, 1) := by decide +kernel
theorem dX10_seen_32 : decode cX10_seen 32 = .ok (.getfield 111, 3) := by decide +kernel
theorem dX10_seen_35 : decode cX10_seen 35 = .ok (.iload_n 1, 1) := by decide +kernel
theorem dX10_seen_36 : decode cX10_seen 36 = .ok (.iload_n 2, 1) := by decide +kernel
theorem dX10_seen_37 : decode cX10_seen 37 = .ok (.iastore, 1) := by decide +kernel
theorem dX10_seen_38 : decode cX10_seen 38 = .ok (.iconst 1, 1) := by decide +kernel
theorem dX10_seen_39 : decode cX10_seen 39 = .ok (.ireturn, 1) := by decide +kernel
theorem dX10_close_0 : decode cX10_close 0 = .ok (.aload_n 0, 1) := by decide +kernel
theorem dX10_close_1 : decode cX10_close 1 = .ok (.iconst 0, 1) := by decide +kernel
theorem dX10_close_2 : decode cX10_close 2 = .ok (.putfield 1, 3) := by decide +kernel
theorem dX10_close_5 : decode cX10_close 5 = .ok (.aload_n 0, 1) := by decide +kernel
theorem dX10_close_6 : decode cX10_close 6 = .ok (.iload_n 1, 1) := by decide +kernel
theorem dX10_close_7 : decode cX10_close 7 = .ok (.invokevirtual 311, 3) := by decide +kernel
theorem dX10_close_10 : decode cX10_close 10 = .ok (.ifCond .ne 5, 3) := by decide +kernel
theorem dX10_close_13 : decode cX10_close 13 = .ok (.iconst (-1), 1) := by decide +kernel
theorem dX10_close_14 : decode cX10_close 14 = .ok (.ireturn, 1) := by decide +kernel
theorem dX10_close_15 : decode cX10_close 15 = .ok (.iconst 0, 1) := by decide +kernel
theorem dX10_close_16 : decode cX10_close 16 = .ok (.istore_n 2, 1) := by decide +kernel
theorem dX10_close_17 : decode cX10_close 17 = .ok (.iconst 0, 1) := by decide +kernel
theorem dX10_close_18 : decode cX10_close 18 = .ok (.istore_n 3, 1) := by decide +kernel
theorem dX10_close_19 : decode cX10_close 19 = .ok (.iload_n 3, 1) := by decide +kernel
theorem dX10_close_20 : decode cX10_close 20 = .ok (.aload_n 0, 1) := by decide +kernel
theorem dX10_close_21 : decode cX10_close 21 = .ok (.getfield 258, 3) := by decide +kernel
theorem dX10_close_24 : decode cX10_close 24 = .ok (.if_icmp .ge 35, 3) := by decide +kernel
theorem dX10_close_27 : decode cX10_close 27 = .ok (.aload_n 0, 1) := by decide +kernel
theorem dX10_close_28 : decode cX10_close 28 = .ok (.getfield 108, 3) := by decide +kernel
theorem dX10_close_31 : decode cX10_close 31 = .ok (.iload_n 3, 1) := by decide +kernel
theorem dX10_close_32 : decode cX10_close 32 = .ok (.iaload, 1) := by decide +kernel
theorem dX10_close_33 : decode cX10_close 33 = .ok (.iload_n 1, 1) := by decide +kernel
theorem dX10_close_34 : decode cX10_close 34 = .ok (.if_icmp .ne 19, 3) := by decide +kernel
theorem dX10_close_37 : decode cX10_close 37 = .ok (.iload_n 2, 1) := by decide +kernel
theorem dX10_close_38 : decode cX10_close 38 = .ok (.aload_n 0, 1) := by decide +kernel
theorem dX10_close_39 : decode cX10_close 39 = .ok (.iload_n 3, 1) := by decide +kernel
theorem dX10_close_40 : decode cX10_close 40 = .ok (.invokevirtual 345, 3) := by decide +kernel
theorem dX10_close_43 : decode cX10_close 43 = .ok (.ifCond .eq 7, 3) := by decide +kernel
theorem dX10_close_46 : decode cX10_close 46 = .ok (.iconst 1, 1) := by decide +kernel
theorem dX10_close_47 : decode cX10_close 47 = .ok (.goto 4, 3) := by decide +kernel
theorem dX10_close_50 : decode cX10_close 50 = .ok (.iconst 0, 1) := by decide +kernel
theorem dX10_close_51 : decode cX10_close 51 = .ok (.iadd, 1) := by decide +kernel
theorem dX10_close_52 : decode cX10_close 52 = .ok (.istore_n 2, 1) := by decide +kernel
theorem dX10_close_53 : decode cX10_close 53 = .ok (.iinc 3 1, 3) := by decide +kernel
theorem dX10_close_56 : decode cX10_close 56 = .ok (.goto (-37), 3) := by decide +kernel
theorem dX10_close_59 : decode cX10_close 59 = .ok (.iload_n 2, 1) := by decide +kernel
theorem dX10_close_60 : decode cX10_close 60 = .ok (.ireturn, 1) := by decide +kernel
theorem dX10_checks_0 : decode cX10_checks 0 = .ok (.aload_n 0, 1) := by decide +kernel
theorem dX10_checks_1 : decode cX10_checks 1 = .ok (.getfield 111, 3) := by decide +kernel
theorem dX10_checks_4 : decode cX10_checks 4 = .ok (.iload_n 1, 1) := by decide +kernel
theorem dX10_checks_5 : decode cX10_checks 5 = .ok (.iaload, 1) := by decide +kernel
theorem dX10_checks_6 : decode cX10_checks 6 = .ok (.ifCond .lt 38, 3) := by decide +kernel
theorem dX10_checks_9 : decode cX10_checks 9 = .ok (.aload_n 0, 1) := by decide +kernel
theorem dX10_checks_10 : decode cX10_checks 10 = .ok (.getfield 114, 3) := by decide +kernel
theorem dX10_checks_13 : decode cX10_checks 13 = .ok (.iload_n 1, 1) := by decide +kernel
theorem dX10_checks_14 : decode cX10_checks 14 = .ok (.iconst 0, 1) := by decide +kernel
theorem dX10_checks_15 : decode cX10_checks 15 = .ok (.iastore, 1) := by decide +kernel
theorem dX10_checks_16 : decode cX10_checks 16 = .ok (.aload_n 0, 1) := by decide +kernel
theorem dX10_checks_17 : decode cX10_checks 17 = .ok (.getfield 117, 3) := by decide +kernel
theorem dX10_checks_20 : decode cX10_checks 20 = .ok (.iload_n 1, 1) := by decide +kernel
theorem dX10_checks_21 : decode cX10_checks 21 = .ok (.iconst 0, 1) := by decide +kernel
theorem dX10_checks_22 : decode cX10_checks 22 = .ok (.bastore, 1) := by decide +kernel
theorem dX10_checks_23 : decode cX10_checks 23 = .ok (.aload_n 0, 1) := by decide +kernel
theorem dX10_checks_24 : decode cX10_checks 24 = .ok (.getfield 99, 3) := by decide +kernel
theorem dX10_checks_27 : decode cX10_checks 27 = .ok (.iload_n 1, 1) := by decide +kernel
theorem dX10_checks_28 : decode cX10_checks 28 = .ok (.aload_n 0, 1) := by decide +kernel
theorem dX10_checks_29 : decode cX10_checks 29 = .ok (.getfield 111, 3) := by decide +kernel
theorem dX10_checks_32 : decode cX10_checks 32 = .ok (.iload_n 1, 1) := by decide +kernel
theorem dX10_checks_33 : decode cX10_checks 33 = .ok (.iaload, 1) := by decide +kernel
theorem dX10_checks_34 : decode cX10_checks 34 = .ok (.iastore, 1) := by decide +kernel
theorem dX10_checks_35 : decode cX10_checks 35 = .ok (.aload_n 0, 1) := by decide +kernel
theorem dX10_checks_36 : decode cX10_checks 36 = .ok (.getfield 111, 3) := by decide +kernel
theorem dX10_checks_39 : decode cX10_checks 39 = .ok (.iload_n 1, 1) := by decide +kernel
theorem dX10_checks_40 : decode cX10_checks 40 = .ok (.iconst (-1), 1) := by decide +kernel
theorem dX10_checks_41 : decode cX10_checks 41 = .ok (.iastore, 1) := by decide +kernel
theorem dX10_checks_42 : decode cX10_checks 42 = .ok (.iconst 0, 1) := by decide +kernel
theorem dX10_checks_43 : decode cX10_checks 43 = .ok (.ireturn, 1) := by decide +kernel
theorem dX10_checks_44 : decode cX10_checks 44 = .ok (.aload_n 0, 1) := by decide +kernel
theorem dX10_checks_45 : decode cX10_checks 45 = .ok (.getfield 114, 3) := by decide +kernel
theorem dX10_checks_48 : decode cX10_checks 48 = .ok (.iload_n 1, 1) := by decide +kernel
theorem dX10_checks_49 : decode cX10_checks 49 = .ok (.dup2, 1) := by decide +kernel
theorem dX10_checks_50 : decode cX10_checks 50 = .ok (.iaload, 1) := by decide +kernel
theorem dX10_checks_51 : decode cX10_checks 51 = .ok (.iconst 1, 1) := by decide +kernel
theorem dX10_checks_52 : decode cX10_checks 52 = .ok (.iadd, 1) := by decide +kernel
theorem dX10_checks_53 : decode cX10_checks 53 = .ok (.iastore, 1) := by decide +kernel
theorem dX10_checks_54 : decode cX10_checks 54 = .ok (.aload_n 0, 1) := by decide +kernel
theorem dX10_checks_55 : decode cX10_checks 55 = .ok (.getfield 114, 3) := by decide +kernel
theorem dX10_checks_58 : decode cX10_checks 58 = .ok (.iload_n 1, 1) := by decide +kernel
theorem dX10_checks_59 : decode cX10_checks 59 = .ok (.iaload, 1) := by decide +kernel
theorem dX10_checks_60 : decode cX10_checks 60 = .ok (.iconst 2, 1) := by decide +kernel
theorem dX10_checks_61 : decode cX10_checks 61 = .ok (.if_icmp .lt 16, 3) := by decide +kernel
theorem dX10_checks_64 : decode cX10_checks 64 = .ok (.aload_n 0, 1) := by decide +kernel
theorem dX10_checks_65 : decode cX10_checks 65 = .ok (.getfield 117, 3) := by decide +kernel
theorem dX10_checks_68 : decode cX10_checks 68 = .ok (.iload_n 1, 1) := by decide +kernel
theorem dX10_checks_69 : decode cX10_checks 69 = .ok (.baload, 1) := by decide +kernel
theorem dX10_checks_70 : decode cX10_checks 70 = .ok (.ifCond .ne 7, 3) := by decide +kernel
theorem dX10_checks_73 : decode cX10_checks 73 = .ok (.iconst 1, 1) := by decide +kernel
theorem dX10_checks_74 : decode cX10_checks 74 = .ok (.goto 4, 3) := by decide +kernel
theorem dX10_checks_77 : decode cX10_checks 77 = .ok (.iconst 0, 1) := by decide +kernel
theorem dX10_checks_78 : decode cX10_checks 78 = .ok (.istore_n 2, 1) := by decide +kernel
theorem dX10_checks_79 : decode cX10_checks 79 = .ok (.aload_n 0, 1) := by decide +kernel
theorem dX10_checks_80 : decode cX10_checks 80 = .ok (.getfield 117, 3) := by decide +kernel
theorem dX10_checks_83 : decode cX10_checks 83 = .ok (.iload_n 1, 1) := by decide +kernel
theorem dX10_checks_84 : decode cX10_checks 84 = .ok (.aload_n 0, 1) := by decide +kernel
theorem dX10_checks_85 : decode cX10_checks 85 = .ok (.getfield 117, 3) := by decide +kernel
theorem dX10_checks_88 : decode cX10_checks 88 = .ok (.iload_n 1, 1) := by decide +kernel
theorem dX10_checks_89 : decode cX10_checks 89 = .ok (.baload, 1) := by decide +kernel
theorem dX10_checks_90 : decode cX10_checks 90 = .ok (.ifCond .ne 7, 3) := by decide +kernel
theorem dX10_checks_93 : decode cX10_checks 93 = .ok (.iload_n 2, 1) := by decide +kernel
theorem dX10_checks_94 : decode cX10_checks 94 = .ok (.ifCond .eq 7, 3) := by decide +kernel
theorem dX10_checks_97 : decode cX10_checks 97 = .ok (.iconst 1, 1) := by decide +kernel
theorem dX10_checks_98 : decode cX10_checks 98 = .ok (.goto 4, 3) := by decide +kernel
theorem dX10_checks_101 : decode cX10_checks 101 = .ok (.iconst 0, 1) := by decide +kernel
theorem dX10_checks_102 : decode cX10_checks 102 = .ok (.bastore, 1) := by decide +kernel
theorem dX10_checks_103 : decode cX10_checks 103 = .ok (.iload_n 2, 1) := by decide +kernel
theorem dX10_checks_104 : decode cX10_checks 104 = .ok (.ireturn, 1) := by decide +kernel
theorem dX10_look_0 : decode cX10_look 0 = .ok (.aload_n 0, 1) := by decide +kernel
theorem dX10_look_1 : decode cX10_look 1 = .ok (.aload_n 0, 1) := by decide +kernel
theorem dX10_look_2 : decode cX10_look 2 = .ok (.iload_n 1, 1) := by decide +kernel
theorem dX10_look_3 : decode cX10_look 3 = .ok (.invokevirtual 268, 3) := by decide +kernel
theorem dX10_look_6 : decode cX10_look 6 = .ok (.ifCond .eq 17, 3) := by decide +kernel
theorem dX10_look_9 : decode cX10_look 9 = .ok (.iload_n 2, 1) := by decide +kernel
theorem dX10_look_10 : decode cX10_look 10 = .ok (.ifCond .lt 13, 3) := by decide +kernel
theorem dX10_look_13 : decode cX10_look 13 = .ok (.iload_n 2, 1) := by decide +kernel
theorem dX10_look_14 : decode cX10_look 14 = .ok (.bipush 17, 2) := by decide +kernel
theorem dX10_look_16 : decode cX10_look 16 = .ok (.if_icmp .gt 7, 3) := by decide +kernel
theorem dX10_look_19 : decode cX10_look 19 = .ok (.iconst 0, 1) := by decide +kernel
theorem dX10_look_20 : decode cX10_look 20 = .ok (.goto 4, 3) := by decide +kernel
theorem dX10_look_23 : decode cX10_look 23 = .ok (.iconst 1, 1) := by decide +kernel
theorem dX10_look_24 : decode cX10_look 24 = .ok (.putfield 1, 3) := by decide +kernel
theorem dX10_look_27 : decode cX10_look 27 = .ok (.aload_n 0, 1) := by decide +kernel
theorem dX10_look_28 : decode cX10_look 28 = .ok (.getfield 1, 3) := by decide +kernel
theorem dX10_look_31 : decode cX10_look 31 = .ok (.ifCond .le 5, 3) := by decide +kernel
theorem dX10_look_34 : decode cX10_look 34 = .ok (.iconst 0, 1) := by decide +kernel
theorem dX10_look_35 : decode cX10_look 35 = .ok (.ireturn, 1) := by decide +kernel
theorem dX10_look_36 : decode cX10_look 36 = .ok (.iload_n 2, 1) := by decide +kernel
theorem dX10_look_37 : decode cX10_look 37 = .ok (.tableswitch 143 0 9 #[55, 62, 69, 76, 83, 94, 100, 114, 121, 128], 55) := by decide +kernel
theorem dX10_look_92 : decode cX10_look 92 = .ok (.aload_n 0, 1) := by decide +kernel
theorem dX10_look_93 : decode cX10_look 93 = .ok (.getfield 90, 3) := by decide +kernel
theorem dX10_look_96 : decode cX10_look 96 = .ok (.iload_n 1, 1) := by decide +kernel
theorem dX10_look_97 : decode cX10_look 97 = .ok (.iaload, 1) := by decide +kernel
theorem dX10_look_98 : decode cX10_look 98 = .ok (.ireturn, 1) := by decide +kernel
theorem dX10_look_99 : decode cX10_look 99 = .ok (.aload_n 0, 1) := by decide +kernel
theorem dX10_look_100 : decode cX10_look 100 = .ok (.getfield 93, 3) := by decide +kernel
theorem dX10_look_103 : decode cX10_look 103 = .ok (.iload_n 1, 1) := by decide +kernel
theorem dX10_look_104 : decode cX10_look 104 = .ok (.iaload, 1) := by decide +kernel
theorem dX10_look_105 : decode cX10_look 105 = .ok (.ireturn, 1) := by decide +kernel
theorem dX10_look_106 : decode cX10_look 106 = .ok (.aload_n 0, 1) := by decide +kernel
theorem dX10_look_107 : decode cX10_look 107 = .ok (.getfield 96, 3) := by decide +kernel
theorem dX10_look_110 : decode cX10_look 110 = .ok (.iload_n 1, 1) := by decide +kernel
theorem dX10_look_111 : decode cX10_look 111 = .ok (.iaload, 1) := by decide +kernel
theorem dX10_look_112 : decode cX10_look 112 = .ok (.ireturn, 1) := by decide +kernel
theorem dX10_look_113 : decode cX10_look 113 = .ok (.aload_n 0, 1) := by decide +kernel
theorem dX10_look_114 : decode cX10_look 114 = .ok (.getfield 99, 3) := by decide +kernel
theorem dX10_look_117 : decode cX10_look 117 = .ok (.iload_n 1, 1) := by decide +kernel
theorem dX10_look_118 : decode cX10_look 118 = .ok (.iaload, 1) := by decide +kernel
theorem dX10_look_119 : decode cX10_look 119 = .ok (.ireturn, 1) := by decide +kernel
theorem dX10_look_120 : decode cX10_look 120 = .ok (.aload_n 0, 1) := by decide +kernel
theorem dX10_look_121 : decode cX10_look 121 = .ok (.getfield 120, 3) := by decide +kernel
theorem dX10_look_124 : decode cX10_look 124 = .ok (.aload_n 0, 1) := by decide +kernel
theorem dX10_look_125 : decode cX10_look 125 = .ok (.iload_n 1, 1) := by decide +kernel
theorem dX10_look_126 : decode cX10_look 126 = .ok (.invokevirtual 327, 3) := by decide +kernel
theorem dX10_look_129 : decode cX10_look 129 = .ok (.iaload, 1) := by decide +kernel
theorem dX10_look_130 : decode cX10_look 130 = .ok (.ireturn, 1) := by decide +kernel
theorem dX10_look_131 : decode cX10_look 131 = .ok (.aload_n 0, 1) := by decide +kernel
theorem dX10_look_132 : decode cX10_look 132 = .ok (.iload_n 1, 1) := by decide +kernel
theorem dX10_look_133 : decode cX10_look 133 = .ok (.invokevirtual 327, 3) := by decide +kernel
theorem dX10_look_136 : decode cX10_look 136 = .ok (.ireturn, 1) := by decide +kernel
theorem dX10_look_137 : decode cX10_look 137 = .ok (.aload_n 0, 1) := by decide +kernel
theorem dX10_look_138 : decode cX10_look 138 = .ok (.iload_n 1, 1) := by decide +kernel
theorem dX10_look_139 : decode cX10_look 139 = .ok (.invokevirtual 330, 3) := by decide +kernel
theorem dX10_look_142 : decode cX10_look 142 = .ok (.ifCond .eq 7, 3) := by decide +kernel
theorem dX10_look_145 : decode cX10_look 145 = .ok (.iconst 1, 1) := by decide +kernel
theorem dX10_look_146 : decode cX10_look 146 = .ok (.goto 4, 3) := by decide +kernel
theorem dX10_look_149 : decode cX10_look 149 = .ok (.iconst 0, 1) := by decide +kernel
theorem dX10_look_150 : decode cX10_look 150 = .ok (.ireturn, 1) := by decide +kernel
theorem dX10_look_151 : decode cX10_look 151 = .ok (.aload_n 0, 1) := by decide +kernel
theorem dX10_look_152 : decode cX10_look 152 = .ok (.getfield 108, 3) := by decide +kernel
theorem dX10_look_155 : decode cX10_look 155 = .ok (.iload_n 1, 1) := by decide +kernel
theorem dX10_look_156 : decode cX10_look 156 = .ok (.iaload, 1) := by decide +kernel
theorem dX10_look_157 : decode cX10_look 157 = .ok (.ireturn, 1) := by decide +kernel
theorem dX10_look_158 : decode cX10_look 158 = .ok (.aload_n 0, 1) := by decide +kernel
theorem dX10_look_159 : decode cX10_look 159 = .ok (.getfield 114, 3) := by decide +kernel
theorem dX10_look_162 : decode cX10_look 162 = .ok (.iload_n 1, 1) := by decide +kernel
theorem dX10_look_163 : decode cX10_look 163 = .ok (.iaload, 1) := by decide +kernel
theorem dX10_look_164 : decode cX10_look 164 = .ok (.ireturn, 1) := by decide +kernel
theorem dX10_look_165 : decode cX10_look 165 = .ok (.aload_n 0, 1) := by decide +kernel
theorem dX10_look_166 : decode cX10_look 166 = .ok (.getfield 117, 3) := by decide +kernel
theorem dX10_look_169 : decode cX10_look 169 = .ok (.iload_n 1, 1) := by decide +kernel
theorem dX10_look_170 : decode cX10_look 170 = .ok (.baload, 1) := by decide +kernel
theorem dX10_look_171 : decode cX10_look 171 = .ok (.ifCond .eq 7, 3) := by decide +kernel
theorem dX10_look_174 : decode cX10_look 174 = .ok (.iconst 1, 1) := by decide +kernel
theorem dX10_look_175 : decode cX10_look 175 = .ok (.goto 4, 3) := by decide +kernel
theorem dX10_look_178 : decode cX10_look 178 = .ok (.iconst 0, 1) := by decide +kernel
theorem dX10_look_179 : decode cX10_look 179 = .ok (.ireturn, 1) := by decide +kernel
theorem dX10_look_180 : decode cX10_look 180 = .ok (.aload_n 0, 1) := by decide +kernel
theorem dX10_look_181 : decode cX10_look 181 = .ok (.iload_n 1, 1) := by decide +kernel
theorem dX10_look_182 : decode cX10_look 182 = .ok (.iload_n 2, 1) := by decide +kernel
theorem dX10_look_183 : decode cX10_look 183 = .ok (.bipush 10, 2) := by decide +kernel
theorem dX10_look_185 : decode cX10_look 185 = .ok (.isub, 1) := by decide +kernel
theorem dX10_look_186 : decode cX10_look 186 = .ok (.iconst 2, 1) := by decide +kernel
theorem dX10_look_187 : decode cX10_look 187 = .ok (.idiv, 1) := by decide +kernel
theorem dX10_look_188 : decode cX10_look 188 = .ok (.iload_n 2, 1) := by decide +kernel
theorem dX10_look_189 : decode cX10_look 189 = .ok (.iconst 2, 1) := by decide +kernel
theorem dX10_look_190 : decode cX10_look 190 = .ok (.irem, 1) := by decide +kernel
theorem dX10_look_191 : decode cX10_look 191 = .ok (.invokevirtual 271, 3) := by decide +kernel
theorem dX10_look_194 : decode cX10_look 194 = .ok (.ireturn, 1) := by decide +kernel
theorem dX10_count_0 : decode cX10_count 0 = .ok (.aload_n 0, 1) := by decide +kernel
theorem dX10_count_1 : decode cX10_count 1 = .ok (.iconst 0, 1) := by decide +kernel
theorem dX10_count_2 : decode cX10_count 2 = .ok (.putfield 1, 3) := by decide +kernel
theorem dX10_count_5 : decode cX10_count 5 = .ok (.iconst 0, 1) := by decide +kernel
theorem dX10_count_6 : decode cX10_count 6 = .ok (.istore_n 2, 1) := by decide +kernel
theorem dX10_count_7 : decode cX10_count 7 = .ok (.iconst 0, 1) := by decide +kernel
theorem dX10_count_8 : decode cX10_count 8 = .ok (.istore_n 3, 1) := by decide +kernel
theorem dX10_count_9 : decode cX10_count 9 = .ok (.iconst 0, 1) := by decide +kernel
theorem dX10_count_10 : decode cX10_count 10 = .ok (.istore 4, 2) := by decide +kernel
theorem dX10_count_12 : decode cX10_count 12 = .ok (.iload 4, 2) := by decide +kernel
theorem dX10_count_14 : decode cX10_count 14 = .ok (.aload_n 0, 1) := by decide +kernel
theorem dX10_count_15 : decode cX10_count 15 = .ok (.getfield 258, 3) := by decide +kernel
theorem dX10_count_18 : decode cX10_count 18 = .ok (.if_icmp .ge 45, 3) := by decide +kernel
theorem dX10_count_21 : decode cX10_count 21 = .ok (.iload_n 2, 1) := by decide +kernel
theorem dX10_count_22 : decode cX10_count 22 = .ok (.aload_n 0, 1) := by decide +kernel
theorem dX10_count_23 : decode cX10_count 23 = .ok (.getfield 117, 3) := by decide +kernel
theorem dX10_count_26 : decode cX10_count 26 = .ok (.iload 4, 2) := by decide +kernel
theorem dX10_count_28 : decode cX10_count 28 = .ok (.baload, 1) := by decide +kernel
theorem dX10_count_29 : decode cX10_count 29 = .ok (.ifCond .eq 7, 3) := by decide +kernel
theorem dX10_count_32 : decode cX10_count 32 = .ok (.iconst 1, 1) := by decide +kernel
theorem dX10_count_33 : decode cX10_count 33 = .ok (.goto 4, 3) := by decide +kernel
theorem dX10_count_36 : decode cX10_count 36 = .ok (.iconst 0, 1) := by decide +kernel
theorem dX10_count_37 : decode cX10_count 37 = .ok (.iadd, 1) := by decide +kernel
theorem dX10_count_38 : decode cX10_count 38 = .ok (.istore_n 2, 1) := by decide +kernel
theorem dX10_count_39 : decode cX10_count 39 = .ok (.iload_n 3, 1) := by decide +kernel
theorem dX10_count_40 : decode cX10_count 40 = .ok (.aload_n 0, 1) := by decide +kernel
theorem dX10_count_41 : decode cX10_count 41 = .ok (.getfield 108, 3) := by decide +kernel
theorem dX10_count_44 : decode cX10_count 44 = .ok (.iload 4, 2) := by decide +kernel
theorem dX10_count_46 : decode cX10_count 46 = .ok (.iaload, 1) := by decide +kernel
theorem dX10_count_47 : decode cX10_count 47 = .ok (.ifCond .lt 7, 3) := by decide +kernel
theorem dX10_count_50 : decode cX10_count 50 = .ok (.iconst 1, 1) := by decide +kernel
theorem dX10_count_51 : decode cX10_count 51 = .ok (.goto 4, 3) := by decide +kernel
theorem dX10_count_54 : decode cX10_count 54 = .ok (.iconst 0, 1) := by decide +kernel
theorem dX10_count_55 : decode cX10_count 55 = .ok (.iadd, 1) := by decide +kernel
theorem dX10_count_56 : decode cX10_count 56 = .ok (.istore_n 3, 1) := by decide +kernel
theorem dX10_count_57 : decode cX10_count 57 = .ok (.iinc 4 1, 3) := by decide +kernel
theorem dX10_count_60 : decode cX10_count 60 = .ok (.goto (-48), 3) := by decide +kernel
theorem dX10_count_63 : decode cX10_count 63 = .ok (.iload_n 1, 1) := by decide +kernel
theorem dX10_count_64 : decode cX10_count 64 = .ok (.tableswitch 105 0 9 #[56, 61, 66, 71, 76, 81, 86, 88, 98, 103], 56) := by decide +kernel
theorem dX10_count_120 : decode cX10_count 120 = .ok (.aload_n 0, 1) := by decide +kernel
theorem dX10_count_121 : decode cX10_count 121 = .ok (.getfield 258, 3) := by decide +kernel
theorem dX10_count_124 : decode cX10_count 124 = .ok (.ireturn, 1) := by decide +kernel
theorem dX10_count_125 : decode cX10_count 125 = .ok (.aload_n 0, 1) := by decide +kernel
theorem dX10_count_126 : decode cX10_count 126 = .ok (.getfield 255, 3) := by decide +kernel
theorem dX10_count_129 : decode cX10_count 129 = .ok (.ireturn, 1) := by decide +kernel
theorem dX10_count_130 : decode cX10_count 130 = .ok (.aload_n 0, 1) := by decide +kernel
theorem dX10_count_131 : decode cX10_count 131 = .ok (.getfield 308, 3) := by decide +kernel
theorem dX10_count_134 : decode cX10_count 134 = .ok (.ireturn, 1) := by decide +kernel
theorem dX10_count_135 : decode cX10_count 135 = .ok (.aload_n 0, 1) := by decide +kernel
theorem dX10_count_136 : decode cX10_count 136 = .ok (.getfield 286, 3) := by decide +kernel
theorem dX10_count_139 : decode cX10_count 139 = .ok (.ireturn, 1) := by decide +kernel
theorem dX10_count_140 : decode cX10_count 140 = .ok (.aload_n 0, 1) := by decide +kernel
theorem dX10_count_141 : decode cX10_count 141 = .ok (.getfield 293, 3) := by decide +kernel
theorem dX10_count_144 : decode cX10_count 144 = .ok (.ireturn, 1) := by decide +kernel
theorem dX10_count_145 : decode cX10_count 145 = .ok (.aload_n 0, 1) := by decide +kernel
theorem dX10_count_146 : decode cX10_count 146 = .ok (.getfield 342, 3) := by decide +kernel
theorem dX10_count_149 : decode cX10_count 149 = .ok (.ireturn, 1) := by decide +kernel
theorem dX10_count_150 : decode cX10_count 150 = .ok (.iload_n 2, 1) := by decide +kernel
theorem dX10_count_151 : decode cX10_count 151 = .ok (.ireturn, 1) := by decide +kernel
theorem dX10_count_152 : decode cX10_count 152 = .ok (.aload_n 0, 1) := by decide +kernel
theorem dX10_count_153 : decode cX10_count 153 = .ok (.getfield 59, 3) := by decide +kernel
theorem dX10_count_156 : decode cX10_count 156 = .ok (.aload_n 0, 1) := by decide +kernel
theorem dX10_count_157 : decode cX10_count 157 = .ok (.getfield 219, 3) := by decide +kernel
theorem dX10_count_160 : decode cX10_count 160 = .ok (.iaload, 1) := by decide +kernel
theorem dX10_count_161 : decode cX10_count 161 = .ok (.ireturn, 1) := by decide +kernel
theorem dX10_count_162 : decode cX10_count 162 = .ok (.aload_n 0, 1) := by decide +kernel
theorem dX10_count_163 : decode cX10_count 163 = .ok (.getfield 11, 3) := by decide +kernel
theorem dX10_count_166 : decode cX10_count 166 = .ok (.ireturn, 1) := by decide +kernel
theorem dX10_count_167 : decode cX10_count 167 = .ok (.iload_n 3, 1) := by decide +kernel
theorem dX10_count_168 : decode cX10_count 168 = .ok (.ireturn, 1) := by decide +kernel
theorem dX10_count_169 : decode cX10_count 169 = .ok (.iconst (-1), 1) := by decide +kernel
theorem dX10_count_170 : decode cX10_count 170 = .ok (.ireturn, 1) := by decide +kernel
end
section
theorem dL_named_0 : decode cL_named 0 = .ok (.aload 4, 2) := by decide +kernel
theorem dL_named_2 : decode cL_named 2 = .ok (.iconst 0, 1) := by decide +kernel
theorem dL_named_3 : decode cL_named 3 = .ok (.aload_n 0, 1) := by decide +kernel
theorem dL_named_4 : decode cL_named 4 = .ok (.iload_n 1, 1) := by decide +kernel
theorem dL_named_5 : decode cL_named 5 = .ok (.iload_n 2, 1) := by decide +kernel
theorem dL_named_6 : decode cL_named 6 = .ok (.iload_n 3, 1) := by decide +kernel
theorem dL_named_7 : decode cL_named 7 = .ok (.invokevirtual 7, 3) := by decide +kernel
theorem dL_named_10 : decode cL_named 10 = .ok (.i2l, 1) := by decide +kernel
theorem dL_named_11 : decode cL_named 11 = .ok (.lastore, 1) := by decide +kernel
theorem dL_named_12 : decode cL_named 12 = .ok (.goto 7, 3) := by decide +kernel
theorem dL_named_15 : decode cL_named 15 = .ok (.astore 5, 2) := by decide +kernel
theorem dL_named_17 : decode cL_named 17 = .ok (.iconst 1, 1) := by decide +kernel
theorem dL_named_18 : decode cL_named 18 = .ok (.ireturn, 1) := by decide +kernel
theorem dL_named_19 : decode cL_named 19 = .ok (.iconst 0, 1) := by decide +kernel
theorem dL_named_20 : decode cL_named 20 = .ok (.ireturn, 1) := by decide +kernel
theorem dL_look_0 : decode cL_look 0 = .ok (.aload_n 3, 1) := by decide +kernel
theorem dL_look_1 : decode cL_look 1 = .ok (.iconst 0, 1) := by decide +kernel
theorem dL_look_2 : decode cL_look 2 = .ok (.aload_n 0, 1) := by decide +kernel
theorem dL_look_3 : decode cL_look 3 = .ok (.iload_n 1, 1) := by decide +kernel
theorem dL_look_4 : decode cL_look 4 = .ok (.iload_n 2, 1) := by decide +kernel
theorem dL_look_5 : decode cL_look 5 = .ok (.invokevirtual 15, 3) := by decide +kernel
theorem dL_look_8 : decode cL_look 8 = .ok (.i2l, 1) := by decide +kernel
theorem dL_look_9 : decode cL_look 9 = .ok (.lastore, 1) := by decide +kernel
theorem dL_look_10 : decode cL_look 10 = .ok (.goto 7, 3) := by decide +kernel
theorem dL_look_13 : decode cL_look 13 = .ok (.astore 4, 2) := by decide +kernel
theorem dL_look_15 : decode cL_look 15 = .ok (.iconst 1, 1) := by decide +kernel
theorem dL_look_16 : decode cL_look 16 = .ok (.ireturn, 1) := by decide +kernel
theorem dL_look_17 : decode cL_look 17 = .ok (.iconst 0, 1) := by decide +kernel
theorem dL_look_18 : decode cL_look 18 = .ok (.ireturn, 1) := by decide +kernel
theorem dL_law_0 : decode cL_law 0 = .ok (.new 8, 3) := by decide +kernel
theorem dL_law_3 : decode cL_law 3 = .ok (.dup, 1) := by decide +kernel
theorem dL_law_4 : decode cL_law 4 = .ok (.invokespecial 19, 3) := by decide +kernel
theorem dL_law_7 : decode cL_law 7 = .ok (.astore_n 1, 1) := by decide +kernel
theorem dL_law_8 : decode cL_law 8 = .ok (.new 20, 3) := by decide +kernel
theorem dL_law_11 : decode cL_law 11 = .ok (.dup, 1) := by decide +kernel
theorem dL_law_12 : decode cL_law 12 = .ok (.invokespecial 22, 3) := by decide +kernel
theorem dL_law_15 : decode cL_law 15 = .ok (.astore_n 2, 1) := by decide +kernel
theorem dL_law_16 : decode cL_law 16 = .ok (.iconst 1, 1) := by decide +kernel
theorem dL_law_17 : decode cL_law 17 = .ok (.newarray .long, 2) := by decide +kernel
theorem dL_law_19 : decode cL_law 19 = .ok (.astore_n 3, 1) := by decide +kernel
theorem dL_law_20 : decode cL_law 20 = .ok (.iconst 0, 1) := by decide +kernel
theorem dL_law_21 : decode cL_law 21 = .ok (.istore 4, 2) := by decide +kernel
theorem dL_law_23 : decode cL_law 23 = .ok (.iload 4, 2) := by decide +kernel
theorem dL_law_25 : decode cL_law 25 = .ok (.aload_n 0, 1) := by decide +kernel
theorem dL_law_26 : decode cL_law 26 = .ok (.arraylength, 1) := by decide +kernel
theorem dL_law_27 : decode cL_law 27 = .ok (.bipush 7, 2) := by decide +kernel
theorem dL_law_29 : decode cL_law 29 = .ok (.isub, 1) := by decide +kernel
theorem dL_law_30 : decode cL_law 30 = .ok (.if_icmp .gt 1265, 3) := by decide +kernel
theorem dL_law_33 : decode cL_law 33 = .ok (.aload_n 0, 1) := by decide +kernel
theorem dL_law_34 : decode cL_law 34 = .ok (.iload 4, 2) := by decide +kernel
theorem dL_law_36 : decode cL_law 36 = .ok (.iaload, 1) := by decide +kernel
theorem dL_law_37 : decode cL_law 37 = .ok (.bipush 31, 2) := by decide +kernel
theorem dL_law_39 : decode cL_law 39 = .ok (.iand, 1) := by decide +kernel
theorem dL_law_40 : decode cL_law 40 = .ok (.tableswitch 1249 0 24 #[116, 141, 178, 227, 264, 301, 362, 399, 436, 516, 565, 614, 687, 724, 737, 884, 897, 946, 995, 1032, 1069, 1094, 1119, 1156, 1224], 116) := by decide +kernel
theorem dL_law_156 : decode cL_law 156 = .ok (.aload_n 1, 1) := by decide +kernel
theorem dL_law_157 : decode cL_law 157 = .ok (.aload_n 0, 1) := by decide +kernel
theorem dL_law_158 : decode cL_law 158 = .ok (.iload 4, 2) := by decide +kernel
theorem dL_law_160 : decode cL_law 160 = .ok (.iconst 1, 1) := by decide +kernel
theorem dL_law_161 : decode cL_law 161 = .ok (.iadd, 1) := by decide +kernel
theorem dL_law_162 : decode cL_law 162 = .ok (.iaload, 1) := by decide +kernel
theorem dL_law_163 : decode cL_law 163 = .ok (.invokevirtual 23, 3) := by decide +kernel
theorem dL_law_166 : decode cL_law 166 = .ok (.aload_n 2, 1) := by decide +kernel
theorem dL_law_167 : decode cL_law 167 = .ok (.aload_n 0, 1) := by decide +kernel
theorem dL_law_168 : decode cL_law 168 = .ok (.iload 4, 2) := by decide +kernel
theorem dL_law_170 : decode cL_law 170 = .ok (.iconst 1, 1) := by decide +kernel
theorem dL_law_171 : decode cL_law 171 = .ok (.iadd, 1) := by decide +kernel
theorem dL_law_172 : decode cL_law 172 = .ok (.iaload, 1) := by decide +kernel
theorem dL_law_173 : decode cL_law 173 = .ok (.invokevirtual 27, 3) := by decide +kernel
theorem dL_law_176 : decode cL_law 176 = .ok (.if_icmp .eq 1113, 3) := by decide +kernel
theorem dL_law_179 : decode cL_law 179 = .ok (.iconst 0, 1) := by decide +kernel
theorem dL_law_180 : decode cL_law 180 = .ok (.ireturn, 1) := by decide +kernel
theorem dL_law_181 : decode cL_law 181 = .ok (.aload_n 1, 1) := by decide +kernel
theorem dL_law_182 : decode cL_law 182 = .ok (.aload_n 0, 1) := by decide +kernel
theorem dL_law_183 : decode cL_law 183 = .ok (.iload 4, 2) := by decide +kernel
theorem dL_law_185 : decode cL_law 185 = .ok (.iconst 1, 1) := by decide +kernel
theorem dL_law_186 : decode cL_law 186 = .ok (.iadd, 1) := by decide +kernel
theorem dL_law_187 : decode cL_law 187 = .ok (.iaload, 1) := by decide +kernel
theorem dL_law_188 : decode cL_law 188 = .ok (.aload_n 0, 1) := by decide +kernel
theorem dL_law_189 : decode cL_law 189 = .ok (.iload 4, 2) := by decide +kernel
theorem dL_law_191 : decode cL_law 191 = .ok (.iconst 2, 1) := by decide +kernel
theorem dL_law_192 : decode cL_law 192 = .ok (.iadd, 1) := by decide +kernel
theorem dL_law_193 : decode cL_law 193 = .ok (.iaload, 1) := by decide +kernel
theorem dL_law_194 : decode cL_law 194 = .ok (.invokevirtual 28, 3) := by decide +kernel
theorem dL_law_197 : decode cL_law 197 = .ok (.aload_n 2, 1) := by decide +kernel
theorem dL_law_198 : decode cL_law 198 = .ok (.aload_n 0, 1) := by decide +kernel
theorem dL_law_199 : decode cL_law 199 = .ok (.iload 4, 2) := by decide +kernel
theorem dL_law_201 : decode cL_law 201 = .ok (.iconst 1, 1) := by decide +kernel
theorem dL_law_202 : decode cL_law 202 = .ok (.iadd, 1) := by decide +kernel
theorem dL_law_203 : decode cL_law 203 = .ok (.iaload, 1) := by decide +kernel
theorem dL_law_204 : decode cL_law 204 = .ok (.aload_n 0, 1) := by decide +kernel
theorem dL_law_205 : decode cL_law 205 = .ok (.iload 4, 2) := by decide +kernel
theorem dL_law_207 : decode cL_law 207 = .ok (.iconst 2, 1) := by decide +kernel
theorem dL_law_208 : decode cL_law 208 = .ok (.iadd, 1) := by decide +kernel
theorem dL_law_209 : decode cL_law 209 = .ok (.iaload, 1) := by decide +kernel
theorem dL_law_210 : decode cL_law 210 = .ok (.invokevirtual 31, 3) := by decide +kernel
theorem dL_law_213 : decode cL_law 213 = .ok (.if_icmp .eq 1076, 3) := by decide +kernel
theorem dL_law_216 : decode cL_law 216 = .ok (.iconst 0, 1) := by decide +kernel
theorem dL_law_217 : decode cL_law 217 = .ok (.ireturn, 1) := by decide +kernel
theorem dL_law_218 : decode cL_law 218 = .ok (.aload_n 1, 1) := by decide +kernel
theorem dL_law_219 : decode cL_law 219 = .ok (.aload_n 0, 1) := by decide +kernel
theorem dL_law_220 : decode cL_law 220 = .ok (.iload 4, 2) := by decide +kernel
theorem dL_law_222 : decode cL_law 222 = .ok (.iconst 1, 1) := by decide +kernel
theorem dL_law_223 : decode cL_law 223 = .ok (.iadd, 1) := by decide +kernel
theorem dL_law_224 : decode cL_law 224 = .ok (.iaload, 1) := by decide +kernel
theorem dL_law_225 : decode cL_law 225 = .ok (.aload_n 0, 1) := by decide +kernel
theorem dL_law_226 : decode cL_law 226 = .ok (.iload 4, 2) := by decide +kernel
theorem dL_law_228 : decode cL_law 228 = .ok (.iconst 2, 1) := by decide +kernel
theorem dL_law_229 : decode cL_law 229 = .ok (.iadd, 1) := by decide +kernel
theorem dL_law_230 : decode cL_law 230 = .ok (.iaload, 1) := by decide +kernel
theorem dL_law_231 : decode cL_law 231 = .ok (.aload_n 0, 1) := by decide +kernel
theorem dL_law_232 : decode cL_law 232 = .ok (.iload 4, 2) := by decide +kernel
theorem dL_law_234 : decode cL_law 234 = .ok (.iconst 3, 1) := by decide +kernel
theorem dL_law_235 : decode cL_law 235 = .ok (.iadd, 1) := by decide +kernel
theorem dL_law_236 : decode cL_law 236 = .ok (.iaload, 1) := by decide +kernel
theorem dL_law_237 : decode cL_law 237 = .ok (.invokevirtual 32, 3) := by decide +kernel
theorem dL_law_240 : decode cL_law 240 = .ok (.aload_n 2, 1) := by decide +kernel
theorem dL_law_241 : decode cL_law 241 = .ok (.aload_n 0, 1) := by decide +kernel
theorem dL_law_242 : decode cL_law 242 = .ok (.iload 4, 2) := by decide +kernel
theorem dL_law_244 : decode cL_law 244 = .ok (.iconst 1, 1) := by decide +kernel
theorem dL_law_245 : decode cL_law 245 = .ok (.iadd, 1) := by decide +kernel
theorem dL_law_246 : decode cL_law 246 = .ok (.iaload, 1) := by decide +kernel
theorem dL_law_247 : decode cL_law 247 = .ok (.aload_n 0, 1) := by decide +kernel
theorem dL_law_248 : decode cL_law 248 = .ok (.iload 4, 2) := by decide +kernel
theorem dL_law_250 : decode cL_law 250 = .ok (.iconst 2, 1) := by decide +kernel
theorem dL_law_251 : decode cL_law 251 = .ok (.iadd, 1) := by decide +kernel
theorem dL_law_252 : decode cL_law 252 = .ok (.iaload, 1) := by decide +kernel
theorem dL_law_253 : decode cL_law 253 = .ok (.aload_n 0, 1) := by decide +kernel
theorem dL_law_254 : decode cL_law 254 = .ok (.iload 4, 2) := by decide +kernel
theorem dL_law_256 : decode cL_law 256 = .ok (.iconst 3, 1) := by decide +kernel
theorem dL_law_257 : decode cL_law 257 = .ok (.iadd, 1) := by decide +kernel
theorem dL_law_258 : decode cL_law 258 = .ok (.iaload, 1) := by decide +kernel
theorem dL_law_259 : decode cL_law 259 = .ok (.invokevirtual 35, 3) := by decide +kernel
theorem dL_law_262 : decode cL_law 262 = .ok (.if_icmp .eq 1027, 3) := by decide +kernel
theorem dL_law_265 : decode cL_law 265 = .ok (.iconst 0, 1) := by decide +kernel
theorem dL_law_266 : decode cL_law 266 = .ok (.ireturn, 1) := by decide +kernel
theorem dL_law_267 : decode cL_law 267 = .ok (.aload_n 1, 1) := by decide +kernel
theorem dL_law_268 : decode cL_law 268 = .ok (.aload_n 0, 1) := by decide +kernel
theorem dL_law_269 : decode cL_law 269 = .ok (.iload 4, 2) := by decide +kernel
theorem dL_law_271 : decode cL_law 271 = .ok (.iconst 1, 1) := by decide +kernel
theorem dL_law_272 : decode cL_law 272 = .ok (.iadd, 1) := by decide +kernel
theorem dL_law_273 : decode cL_law 273 = .ok (.iaload, 1) := by decide +kernel
theorem dL_law_274 : decode cL_law 274 = .ok (.aload_n 0, 1) := by decide +kernel
theorem dL_law_275 : decode cL_law 275 = .ok (.iload 4, 2) := by decide +kernel
theorem dL_law_277 : decode cL_law 277 = .ok (.iconst 2, 1) := by decide +kernel
theorem dL_law_278 : decode cL_law 278 = .ok (.iadd, 1) := by decide +kernel
theorem dL_law_279 : decode cL_law 279 = .ok (.iaload, 1) := by decide +kernel
theorem dL_law_280 : decode cL_law 280 = .ok (.invokevirtual 36, 3) := by decide +kernel
theorem dL_law_283 : decode cL_law 283 = .ok (.aload_n 2, 1) := by decide +kernel
theorem dL_law_284 : decode cL_law 284 = .ok (.aload_n 0, 1) := by decide +kernel
theorem dL_law_285 : decode cL_law 285 = .ok (.iload 4, 2) := by decide +kernel
theorem dL_law_287 : decode cL_law 287 = .ok (.iconst 1, 1) := by decide +kernel
theorem dL_law_288 : decode cL_law 288 = .ok (.iadd, 1) := by decide +kernel
theorem dL_law_289 : decode cL_law 289 = .ok (.iaload, 1) := by decide +kernel
theorem dL_law_290 : decode cL_law 290 = .ok (.aload_n 0, 1) := by decide +kernel
theorem dL_law_291 : decode cL_law 291 = .ok (.iload 4, 2) := by decide +kernel
theorem dL_law_293 : decode cL_law 293 = .ok (.iconst 2, 1) := by decide +kernel
theorem dL_law_294 : decode cL_law 294 = .ok (.iadd, 1) := by decide +kernel
theorem dL_law_295 : decode cL_law 295 = .ok (.iaload, 1) := by decide +kernel
theorem dL_law_296 : decode cL_law 296 = .ok (.invokevirtual 39, 3) := by decide +kernel
theorem dL_law_299 : decode cL_law 299 = .ok (.if_icmp .eq 990, 3) := by decide +kernel
theorem dL_law_302 : decode cL_law 302 = .ok (.iconst 0, 1) := by decide +kernel
theorem dL_law_303 : decode cL_law 303 = .ok (.ireturn, 1) := by decide +kernel
theorem dL_law_304 : decode cL_law 304 = .ok (.aload_n 1, 1) := by decide +kernel
theorem dL_law_305 : decode cL_law 305 = .ok (.aload_n 0, 1) := by decide +kernel
theorem dL_law_306 : decode cL_law 306 = .ok (.iload 4, 2) := by decide +kernel
theorem dL_law_308 : decode cL_law 308 = .ok (.iconst 1, 1) := by decide +kernel
theorem dL_law_309 : decode cL_law 309 = .ok (.iadd, 1) := by decide +kernel
theorem dL_law_310 : decode cL_law 310 = .ok (.iaload, 1) := by decide +kernel
theorem dL_law_311 : decode cL_law 311 = .ok (.aload_n 0, 1) := by decide +kernel
theorem dL_law_312 : decode cL_law 312 = .ok (.iload 4, 2) := by decide +kernel
theorem dL_law_314 : decode cL_law 314 = .ok (.iconst 2, 1) := by decide +kernel
theorem dL_law_315 : decode cL_law 315 = .ok (.iadd, 1) := by decide +kernel
theorem dL_law_316 : decode cL_law 316 = .ok (.iaload, 1) := by decide +kernel
theorem dL_law_317 : decode cL_law 317 = .ok (.invokevirtual 40, 3) := by decide +kernel
theorem dL_law_320 : decode cL_law 320 = .ok (.aload_n 2, 1) := by decide +kernel
theorem dL_law_321 : decode cL_law 321 = .ok (.aload_n 0, 1) := by decide +kernel
theorem dL_law_322 : decode cL_law 322 = .ok (.iload 4, 2) := by decide +kernel
theorem dL_law_324 : decode cL_law 324 = .ok (.iconst 1, 1) := by decide +kernel
theorem dL_law_325 : decode cL_law 325 = .ok (.iadd, 1) := by decide +kernel
theorem dL_law_326 : decode cL_law 326 = .ok (.iaload, 1) := by decide +kernel
theorem dL_law_327 : decode cL_law 327 = .ok (.aload_n 0, 1) := by decide +kernel
theorem dL_law_328 : decode cL_law 328 = .ok (.iload 4, 2) := by decide +kernel
theorem dL_law_330 : decode cL_law 330 = .ok (.iconst 2, 1) := by decide +kernel
theorem dL_law_331 : decode cL_law 331 = .ok (.iadd, 1) := by decide +kernel
theorem dL_law_332 : decode cL_law 332 = .ok (.iaload, 1) := by decide +kernel
theorem dL_law_333 : decode cL_law 333 = .ok (.invokevirtual 43, 3) := by decide +kernel
theorem dL_law_336 : decode cL_law 336 = .ok (.if_icmp .eq 953, 3) := by decide +kernel
theorem dL_law_339 : decode cL_law 339 = .ok (.iconst 0, 1) := by decide +kernel
theorem dL_law_340 : decode cL_law 340 = .ok (.ireturn, 1) := by decide +kernel
theorem dL_law_341 : decode cL_law 341 = .ok (.aload_n 1, 1) := by decide +kernel
theorem dL_law_342 : decode cL_law 342 = .ok (.aload_n 0, 1) := by decide +kernel
theorem dL_law_343 : decode cL_law 343 = .ok (.iload 4, 2) := by decide +kernel
theorem dL_law_345 : decode cL_law 345 = .ok (.iconst 1, 1) := by decide +kernel
theorem dL_law_346 : decode cL_law 346 = .ok (.iadd, 1) := by decide +kernel
theorem dL_law_347 : decode cL_law 347 = .ok (.iaload, 1) := by decide +kernel
theorem dL_law_348 : decode cL_law 348 = .ok (.aload_n 0, 1) := by decide +kernel
theorem dL_law_349 : decode cL_law 349 = .ok (.iload 4, 2) := by decide +kernel
theorem dL_law_351 : decode cL_law 351 = .ok (.iconst 2, 1) := by decide +kernel
theorem dL_law_352 : decode cL_law 352 = .ok (.iadd, 1) := by decide +kernel
theorem dL_law_353 : decode cL_law 353 = .ok (.iaload, 1) := by decide +kernel
theorem dL_law_354 : decode cL_law 354 = .ok (.aload_n 0, 1) := by decide +kernel
theorem dL_law_355 : decode cL_law 355 = .ok (.iload 4, 2) := by decide +kernel
theorem dL_law_357 : decode cL_law 357 = .ok (.iconst 3, 1) := by decide +kernel
theorem dL_law_358 : decode cL_law 358 = .ok (.iadd, 1) := by decide +kernel
theorem dL_law_359 : decode cL_law 359 = .ok (.iaload, 1) := by decide +kernel
theorem dL_law_360 : decode cL_law 360 = .ok (.aload_n 0, 1) := by decide +kernel
theorem dL_law_361 : decode cL_law 361 = .ok (.iload 4, 2) := by decide +kernel
theorem dL_law_363 : decode cL_law 363 = .ok (.iconst 4, 1) := by decide +kernel
theorem dL_law_364 : decode cL_law 364 = .ok (.iadd, 1) := by decide +kernel
theorem dL_law_365 : decode cL_law 365 = .ok (.iaload, 1) := by decide +kernel
theorem dL_law_366 : decode cL_law 366 = .ok (.invokevirtual 44, 3) := by decide +kernel
theorem dL_law_369 : decode cL_law 369 = .ok (.aload_n 2, 1) := by decide +kernel
theorem dL_law_370 : decode cL_law 370 = .ok (.aload_n 0, 1) := by decide +kernel
theorem dL_law_371 : decode cL_law 371 = .ok (.iload 4, 2) := by decide +kernel
theorem dL_law_373 : decode cL_law 373 = .ok (.iconst 1, 1) := by decide +kernel
theorem dL_law_374 : decode cL_law 374 = .ok (.iadd, 1) := by decide +kernel
theorem dL_law_375 : decode cL_law 375 = .ok (.iaload, 1) := by decide +kernel
theorem dL_law_376 : decode cL_law 376 = .ok (.aload_n 0, 1) := by decide +kernel
theorem dL_law_377 : decode cL_law 377 = .ok (.iload 4, 2) := by decide +kernel
theorem dL_law_379 : decode cL_law 379 = .ok (.iconst 2, 1) := by decide +kernel
theorem dL_law_380 : decode cL_law 380 = .ok (.iadd, 1) := by decide +kernel
theorem dL_law_381 : decode cL_law 381 = .ok (.iaload, 1) := by decide +kernel
theorem dL_law_382 : decode cL_law 382 = .ok (.aload_n 0, 1) := by decide +kernel
theorem dL_law_383 : decode cL_law 383 = .ok (.iload 4, 2) := by decide +kernel
theorem dL_law_385 : decode cL_law 385 = .ok (.iconst 3, 1) := by decide +kernel
theorem dL_law_386 : decode cL_law 386 = .ok (.iadd, 1) := by decide +kernel
theorem dL_law_387 : decode cL_law 387 = .ok (.iaload, 1) := by decide +kernel
theorem dL_law_388 : decode cL_law 388 = .ok (.aload_n 0, 1) := by decide +kernel
theorem dL_law_389 : decode cL_law 389 = .ok (.iload 4, 2) := by decide +kernel
theorem dL_law_391 : decode cL_law 391 = .ok (.iconst 4, 1) := by decide +kernel
theorem dL_law_392 : decode cL_law 392 = .ok (.iadd, 1) := by decide +kernel
theorem dL_law_393 : decode cL_law 393 = .ok (.iaload, 1) := by decide +kernel
theorem dL_law_394 : decode cL_law 394 = .ok (.invokevirtual 48, 3) := by decide +kernel
theorem dL_law_397 : decode cL_law 397 = .ok (.if_icmp .eq 892, 3) := by decide +kernel
theorem dL_law_400 : decode cL_law 400 = .ok (.iconst 0, 1) := by decide +kernel
theorem dL_law_401 : decode cL_law 401 = .ok (.ireturn, 1) := by decide +kernel
theorem dL_law_402 : decode cL_law 402 = .ok (.aload_n 1, 1) := by decide +kernel
theorem dL_law_403 : decode cL_law 403 = .ok (.aload_n 0, 1) := by decide +kernel
theorem dL_law_404 : decode cL_law 404 = .ok (.iload 4, 2) := by decide +kernel
theorem dL_law_406 : decode cL_law 406 = .ok (.iconst 1, 1) := by decide +kernel
theorem dL_law_407 : decode cL_law 407 = .ok (.iadd, 1) := by decide +kernel
theorem dL_law_408 : decode cL_law 408 = .ok (.iaload, 1) := by decide +kernel
theorem dL_law_409 : decode cL_law 409 = .ok (.aload_n 0, 1) := by decide +kernel
theorem dL_law_410 : decode cL_law 410 = .ok (.iload 4, 2) := by decide +kernel
theorem dL_law_412 : decode cL_law 412 = .ok (.iconst 2, 1) := by decide +kernel
theorem dL_law_413 : decode cL_law 413 = .ok (.iadd, 1) := by decide +kernel
theorem dL_law_414 : decode cL_law 414 = .ok (.iaload, 1) := by decide +kernel
theorem dL_law_415 : decode cL_law 415 = .ok (.invokevirtual 49, 3) := by decide +kernel
theorem dL_law_418 : decode cL_law 418 = .ok (.aload_n 2, 1) := by decide +kernel
theorem dL_law_419 : decode cL_law 419 = .ok (.aload_n 0, 1) := by decide +kernel
theorem dL_law_420 : decode cL_law 420 = .ok (.iload 4, 2) := by decide +kernel
theorem dL_law_422 : decode cL_law 422 = .ok (.iconst 1, 1) := by decide +kernel
theorem dL_law_423 : decode cL_law 423 = .ok (.iadd, 1) := by decide +kernel
theorem dL_law_424 : decode cL_law 424 = .ok (.iaload, 1) := by decide +kernel
theorem dL_law_425 : decode cL_law 425 = .ok (.aload_n 0, 1) := by decide +kernel
theorem dL_law_426 : decode cL_law 426 = .ok (.iload 4, 2) := by decide +kernel
theorem dL_law_428 : decode cL_law 428 = .ok (.iconst 2, 1) := by decide +kernel
theorem dL_law_429 : decode cL_law 429 = .ok (.iadd, 1) := by decide +kernel
theorem dL_law_430 : decode cL_law 430 = .ok (.iaload, 1) := by decide +kernel
theorem dL_law_431 : decode cL_law 431 = .ok (.invokevirtual 53, 3) := by decide +kernel
theorem dL_law_434 : decode cL_law 434 = .ok (.if_icmp .eq 855, 3) := by decide +kernel
theorem dL_law_437 : decode cL_law 437 = .ok (.iconst 0, 1) := by decide +kernel
theorem dL_law_438 : decode cL_law 438 = .ok (.ireturn, 1) := by decide +kernel
theorem dL_law_439 : decode cL_law 439 = .ok (.aload_n 1, 1) := by decide +kernel
theorem dL_law_440 : decode cL_law 440 = .ok (.aload_n 0, 1) := by decide +kernel
theorem dL_law_441 : decode cL_law 441 = .ok (.iload 4, 2) := by decide +kernel
theorem dL_law_443 : decode cL_law 443 = .ok (.iconst 1, 1) := by decide +kernel
theorem dL_law_444 : decode cL_law 444 = .ok (.iadd, 1) := by decide +kernel
theorem dL_law_445 : decode cL_law 445 = .ok (.iaload, 1) := by decide +kernel
theorem dL_law_446 : decode cL_law 446 = .ok (.aload_n 0, 1) := by decide +kernel
theorem dL_law_447 : decode cL_law 447 = .ok (.iload 4, 2) := by decide +kernel
theorem dL_law_449 : decode cL_law 449 = .ok (.iconst 2, 1) := by decide +kernel
theorem dL_law_450 : decode cL_law 450 = .ok (.iadd, 1) := by decide +kernel
theorem dL_law_451 : decode cL_law 451 = .ok (.iaload, 1) := by decide +kernel
theorem dL_law_452 : decode cL_law 452 = .ok (.invokevirtual 54, 3) := by decide +kernel
theorem dL_law_455 : decode cL_law 455 = .ok (.aload_n 2, 1) := by decide +kernel
theorem dL_law_456 : decode cL_law 456 = .ok (.aload_n 0, 1) := by decide +kernel
theorem dL_law_457 : decode cL_law 457 = .ok (.iload 4, 2) := by decide +kernel
theorem dL_law_459 : decode cL_law 459 = .ok (.iconst 1, 1) := by decide +kernel
theorem dL_law_460 : decode cL_law 460 = .ok (.iadd, 1) := by decide +kernel
theorem dL_law_461 : decode cL_law 461 = .ok (.iaload, 1) := by decide +kernel
theorem dL_law_462 : decode cL_law 462 = .ok (.aload_n 0, 1) := by decide +kernel
theorem dL_law_463 : decode cL_law 463 = .ok (.iload 4, 2) := by decide +kernel
theorem dL_law_465 : decode cL_law 465 = .ok (.iconst 2, 1) := by decide +kernel
theorem dL_law_466 : decode cL_law 466 = .ok (.iadd, 1) := by decide +kernel
theorem dL_law_467 : decode cL_law 467 = .ok (.iaload, 1) := by decide +kernel
theorem dL_law_468 : decode cL_law 468 = .ok (.invokevirtual 57, 3) := by decide +kernel
theorem dL_law_471 : decode cL_law 471 = .ok (.if_icmp .eq 818, 3) := by decide +kernel
theorem dL_law_474 : decode cL_law 474 = .ok (.iconst 0, 1) := by decide +kernel
theorem dL_law_475 : decode cL_law 475 = .ok (.ireturn, 1) := by decide +kernel
theorem dL_law_476 : decode cL_law 476 = .ok (.aload_n 1, 1) := by decide +kernel
theorem dL_law_477 : decode cL_law 477 = .ok (.aload_n 0, 1) := by decide +kernel
theorem dL_law_478 : decode cL_law 478 = .ok (.iload 4, 2) := by decide +kernel
theorem dL_law_480 : decode cL_law 480 = .ok (.iconst 1, 1) := by decide +kernel
theorem dL_law_481 : decode cL_law 481 = .ok (.iadd, 1) := by decide +kernel
theorem dL_law_482 : decode cL_law 482 = .ok (.iaload, 1) := by decide +kernel
theorem dL_law_483 : decode cL_law 483 = .ok (.aload_n 0, 1) := by decide +kernel
theorem dL_law_484 : decode cL_law 484 = .ok (.iload 4, 2) := by decide +kernel
theorem dL_law_486 : decode cL_law 486 = .ok (.iconst 2, 1) := by decide +kernel
theorem dL_law_487 : decode cL_law 487 = .ok (.iadd, 1) := by decide +kernel
theorem dL_law_488 : decode cL_law 488 = .ok (.iaload, 1) := by decide +kernel
theorem dL_law_489 : decode cL_law 489 = .ok (.aload_n 0, 1) := by decide +kernel
theorem dL_law_490 : decode cL_law 490 = .ok (.iload 4, 2) := by decide +kernel
theorem dL_law_492 : decode cL_law 492 = .ok (.iconst 3, 1) := by decide +kernel
theorem dL_law_493 : decode cL_law 493 = .ok (.iadd, 1) := by decide +kernel
theorem dL_law_494 : decode cL_law 494 = .ok (.iaload, 1) := by decide +kernel
theorem dL_law_495 : decode cL_law 495 = .ok (.aload_n 3, 1) := by decide +kernel
theorem dL_law_496 : decode cL_law 496 = .ok (.invokestatic 58, 3) := by decide +kernel
theorem dL_law_499 : decode cL_law 499 = .ok (.istore 5, 2) := by decide +kernel
theorem dL_law_501 : decode cL_law 501 = .ok (.aload_n 2, 1) := by decide +kernel
theorem dL_law_502 : decode cL_law 502 = .ok (.aload_n 0, 1) := by decide +kernel
theorem dL_law_503 : decode cL_law 503 = .ok (.iload 4, 2) := by decide +kernel
theorem dL_law_505 : decode cL_law 505 = .ok (.iconst 1, 1) := by decide +kernel
theorem dL_law_506 : decode cL_law 506 = .ok (.iadd, 1) := by decide +kernel
theorem dL_law_507 : decode cL_law 507 = .ok (.iaload, 1) := by decide +kernel
theorem dL_law_508 : decode cL_law 508 = .ok (.aload_n 0, 1) := by decide +kernel
theorem dL_law_509 : decode cL_law 509 = .ok (.iload 4, 2) := by decide +kernel
theorem dL_law_511 : decode cL_law 511 = .ok (.iconst 2, 1) := by decide +kernel
theorem dL_law_512 : decode cL_law 512 = .ok (.iadd, 1) := by decide +kernel
theorem dL_law_513 : decode cL_law 513 = .ok (.iaload, 1) := by decide +kernel
theorem dL_law_514 : decode cL_law 514 = .ok (.aload_n 0, 1) := by decide +kernel
theorem dL_law_515 : decode cL_law 515 = .ok (.iload 4, 2) := by decide +kernel
theorem dL_law_517 : decode cL_law 517 = .ok (.iconst 3, 1) := by decide +kernel
theorem dL_law_518 : decode cL_law 518 = .ok (.iadd, 1) := by decide +kernel
theorem dL_law_519 : decode cL_law 519 = .ok (.iaload, 1) := by decide +kernel
theorem dL_law_520 : decode cL_law 520 = .ok (.invokevirtual 63, 3) := by decide +kernel
theorem dL_law_523 : decode cL_law 523 = .ok (.istore 6, 2) := by decide +kernel
theorem dL_law_525 : decode cL_law 525 = .ok (.aload_n 2, 1) := by decide +kernel
theorem dL_law_526 : decode cL_law 526 = .ok (.invokevirtual 64, 3) := by decide +kernel
theorem dL_law_529 : decode cL_law 529 = .ok (.iload 5, 2) := by decide +kernel
theorem dL_law_531 : decode cL_law 531 = .ok (.if_icmp .eq 5, 3) := by decide +kernel
theorem dL_law_534 : decode cL_law 534 = .ok (.iconst 0, 1) := by decide +kernel
theorem dL_law_535 : decode cL_law 535 = .ok (.ireturn, 1) := by decide +kernel
theorem dL_law_536 : decode cL_law 536 = .ok (.iload 5, 2) := by decide +kernel
theorem dL_law_538 : decode cL_law 538 = .ok (.ifCond .ne 15, 3) := by decide +kernel
theorem dL_law_541 : decode cL_law 541 = .ok (.aload_n 3, 1) := by decide +kernel
theorem dL_law_542 : decode cL_law 542 = .ok (.iconst 0, 1) := by decide +kernel
theorem dL_law_543 : decode cL_law 543 = .ok (.laload, 1) := by decide +kernel
theorem dL_law_544 : decode cL_law 544 = .ok (.iload 6, 2) := by decide +kernel
theorem dL_law_546 : decode cL_law 546 = .ok (.i2l, 1) := by decide +kernel
theorem dL_law_547 : decode cL_law 547 = .ok (.lcmp, 1) := by decide +kernel
theorem dL_law_548 : decode cL_law 548 = .ok (.ifCond .eq 5, 3) := by decide +kernel
theorem dL_law_551 : decode cL_law 551 = .ok (.iconst 0, 1) := by decide +kernel
theorem dL_law_552 : decode cL_law 552 = .ok (.ireturn, 1) := by decide +kernel
theorem dL_law_553 : decode cL_law 553 = .ok (.goto 736, 3) := by decide +kernel
theorem dL_law_556 : decode cL_law 556 = .ok (.aload_n 1, 1) := by decide +kernel
theorem dL_law_557 : decode cL_law 557 = .ok (.aload_n 0, 1) := by decide +kernel
theorem dL_law_558 : decode cL_law 558 = .ok (.iload 4, 2) := by decide +kernel
theorem dL_law_560 : decode cL_law 560 = .ok (.iconst 1, 1) := by decide +kernel
theorem dL_law_561 : decode cL_law 561 = .ok (.iadd, 1) := by decide +kernel
theorem dL_law_562 : decode cL_law 562 = .ok (.iaload, 1) := by decide +kernel
theorem dL_law_563 : decode cL_law 563 = .ok (.aload_n 0, 1) := by decide +kernel
theorem dL_law_564 : decode cL_law 564 = .ok (.iload 4, 2) := by decide +kernel
theorem dL_law_566 : decode cL_law 566 = .ok (.iconst 2, 1) := by decide +kernel
theorem dL_law_567 : decode cL_law 567 = .ok (.iadd, 1) := by decide +kernel
theorem dL_law_568 : decode cL_law 568 = .ok (.iaload, 1) := by decide +kernel
theorem dL_law_569 : decode cL_law 569 = .ok (.aload_n 0, 1) := by decide +kernel
theorem dL_law_570 : decode cL_law 570 = .ok (.iload 4, 2) := by decide +kernel
theorem dL_law_572 : decode cL_law 572 = .ok (.iconst 3, 1) := by decide +kernel
theorem dL_law_573 : decode cL_law 573 = .ok (.iadd, 1) := by decide +kernel
theorem dL_law_574 : decode cL_law 574 = .ok (.iaload, 1) := by decide +kernel
theorem dL_law_575 : decode cL_law 575 = .ok (.invokevirtual 68, 3) := by decide +kernel
theorem dL_law_578 : decode cL_law 578 = .ok (.aload_n 2, 1) := by decide +kernel
theorem dL_law_579 : decode cL_law 579 = .ok (.aload_n 0, 1) := by decide +kernel
theorem dL_law_580 : decode cL_law 580 = .ok (.iload 4, 2) := by decide +kernel
theorem dL_law_582 : decode cL_law 582 = .ok (.iconst 1, 1) := by decide +kernel
theorem dL_law_583 : decode cL_law 583 = .ok (.iadd, 1) := by decide +kernel
theorem dL_law_584 : decode cL_law 584 = .ok (.iaload, 1) := by decide +kernel
theorem dL_law_585 : decode cL_law 585 = .ok (.aload_n 0, 1) := by decide +kernel
theorem dL_law_586 : decode cL_law 586 = .ok (.iload 4, 2) := by decide +kernel
theorem dL_law_588 : decode cL_law 588 = .ok (.iconst 2, 1) := by decide +kernel
theorem dL_law_589 : decode cL_law 589 = .ok (.iadd, 1) := by decide +kernel
theorem dL_law_590 : decode cL_law 590 = .ok (.iaload, 1) := by decide +kernel
theorem dL_law_591 : decode cL_law 591 = .ok (.aload_n 0, 1) := by decide +kernel
theorem dL_law_592 : decode cL_law 592 = .ok (.iload 4, 2) := by decide +kernel
theorem dL_law_594 : decode cL_law 594 = .ok (.iconst 3, 1) := by decide +kernel
theorem dL_law_595 : decode cL_law 595 = .ok (.iadd, 1) := by decide +kernel
theorem dL_law_596 : decode cL_law 596 = .ok (.iaload, 1) := by decide +kernel
theorem dL_law_597 : decode cL_law 597 = .ok (.invokevirtual 71, 3) := by decide +kernel
theorem dL_law_600 : decode cL_law 600 = .ok (.if_icmp .eq 689, 3) := by decide +kernel
theorem dL_law_603 : decode cL_law 603 = .ok (.iconst 0, 1) := by decide +kernel
theorem dL_law_604 : decode cL_law 604 = .ok (.ireturn, 1) := by decide +kernel
theorem dL_law_605 : decode cL_law 605 = .ok (.aload_n 1, 1) := by decide +kernel
theorem dL_law_606 : decode cL_law 606 = .ok (.aload_n 0, 1) := by decide +kernel
theorem dL_law_607 : decode cL_law 607 = .ok (.iload 4, 2) := by decide +kernel
theorem dL_law_609 : decode cL_law 609 = .ok (.iconst 1, 1) := by decide +kernel
theorem dL_law_610 : decode cL_law 610 = .ok (.iadd, 1) := by decide +kernel
theorem dL_law_611 : decode cL_law 611 = .ok (.iaload, 1) := by decide +kernel
theorem dL_law_612 : decode cL_law 612 = .ok (.aload_n 0, 1) := by decide +kernel
theorem dL_law_613 : decode cL_law 613 = .ok (.iload 4, 2) := by decide +kernel
theorem dL_law_615 : decode cL_law 615 = .ok (.iconst 2, 1) := by decide +kernel
theorem dL_law_616 : decode cL_law 616 = .ok (.iadd, 1) := by decide +kernel
theorem dL_law_617 : decode cL_law 617 = .ok (.iaload, 1) := by decide +kernel
theorem dL_law_618 : decode cL_law 618 = .ok (.aload_n 0, 1) := by decide +kernel
theorem dL_law_619 : decode cL_law 619 = .ok (.iload 4, 2) := by decide +kernel
theorem dL_law_621 : decode cL_law 621 = .ok (.iconst 3, 1) := by decide +kernel
theorem dL_law_622 : decode cL_law 622 = .ok (.iadd, 1) := by decide +kernel
theorem dL_law_623 : decode cL_law 623 = .ok (.iaload, 1) := by decide +kernel
theorem dL_law_624 : decode cL_law 624 = .ok (.invokevirtual 72, 3) := by decide +kernel
theorem dL_law_627 : decode cL_law 627 = .ok (.aload_n 2, 1) := by decide +kernel
theorem dL_law_628 : decode cL_law 628 = .ok (.aload_n 0, 1) := by decide +kernel
theorem dL_law_629 : decode cL_law 629 = .ok (.iload 4, 2) := by decide +kernel
theorem dL_law_631 : decode cL_law 631 = .ok (.iconst 1, 1) := by decide +kernel
theorem dL_law_632 : decode cL_law 632 = .ok (.iadd, 1) := by decide +kernel
theorem dL_law_633 : decode cL_law 633 = .ok (.iaload, 1) := by decide +kernel
theorem dL_law_634 : decode cL_law 634 = .ok (.aload_n 0, 1) := by decide +kernel
theorem dL_law_635 : decode cL_law 635 = .ok (.iload 4, 2) := by decide +kernel
theorem dL_law_637 : decode cL_law 637 = .ok (.iconst 2, 1) := by decide +kernel
theorem dL_law_638 : decode cL_law 638 = .ok (.iadd, 1) := by decide +kernel
theorem dL_law_639 : decode cL_law 639 = .ok (.iaload, 1) := by decide +kernel
theorem dL_law_640 : decode cL_law 640 = .ok (.aload_n 0, 1) := by decide +kernel
theorem dL_law_641 : decode cL_law 641 = .ok (.iload 4, 2) := by decide +kernel
theorem dL_law_643 : decode cL_law 643 = .ok (.iconst 3, 1) := by decide +kernel
theorem dL_law_644 : decode cL_law 644 = .ok (.iadd, 1) := by decide +kernel
theorem dL_law_645 : decode cL_law 645 = .ok (.iaload, 1) := by decide +kernel
theorem dL_law_646 : decode cL_law 646 = .ok (.invokevirtual 76, 3) := by decide +kernel
theorem dL_law_649 : decode cL_law 649 = .ok (.if_icmp .eq 640, 3) := by decide +kernel
theorem dL_law_652 : decode cL_law 652 = .ok (.iconst 0, 1) := by decide +kernel
theorem dL_law_653 : decode cL_law 653 = .ok (.ireturn, 1) := by decide +kernel
theorem dL_law_654 : decode cL_law 654 = .ok (.aload_n 1, 1) := by decide +kernel
theorem dL_law_655 : decode cL_law 655 = .ok (.aload_n 0, 1) := by decide +kernel
theorem dL_law_656 : decode cL_law 656 = .ok (.iload 4, 2) := by decide +kernel
theorem dL_law_658 : decode cL_law 658 = .ok (.iconst 1, 1) := by decide +kernel
theorem dL_law_659 : decode cL_law 659 = .ok (.iadd, 1) := by decide +kernel
theorem dL_law_660 : decode cL_law 660 = .ok (.iaload, 1) := by decide +kernel
theorem dL_law_661 : decode cL_law 661 = .ok (.aload_n 0, 1) := by decide +kernel
theorem dL_law_662 : decode cL_law 662 = .ok (.iload 4, 2) := by decide +kernel
theorem dL_law_664 : decode cL_law 664 = .ok (.iconst 2, 1) := by decide +kernel
theorem dL_law_665 : decode cL_law 665 = .ok (.iadd, 1) := by decide +kernel
theorem dL_law_666 : decode cL_law 666 = .ok (.iaload, 1) := by decide +kernel
theorem dL_law_667 : decode cL_law 667 = .ok (.aload_n 0, 1) := by decide +kernel
theorem dL_law_668 : decode cL_law 668 = .ok (.iload 4, 2) := by decide +kernel
theorem dL_law_670 : decode cL_law 670 = .ok (.iconst 3, 1) := by decide +kernel
theorem dL_law_671 : decode cL_law 671 = .ok (.iadd, 1) := by decide +kernel
theorem dL_law_672 : decode cL_law 672 = .ok (.iaload, 1) := by decide +kernel
theorem dL_law_673 : decode cL_law 673 = .ok (.aload_n 0, 1) := by decide +kernel
theorem dL_law_674 : decode cL_law 674 = .ok (.iload 4, 2) := by decide +kernel
theorem dL_law_676 : decode cL_law 676 = .ok (.iconst 4, 1) := by decide +kernel
theorem dL_law_677 : decode cL_law 677 = .ok (.iadd, 1) := by decide +kernel
theorem dL_law_678 : decode cL_law 678 = .ok (.iaload, 1) := by decide +kernel
theorem dL_law_679 : decode cL_law 679 = .ok (.aload_n 0, 1) := by decide +kernel
theorem dL_law_680 : decode cL_law 680 = .ok (.iload 4, 2) := by decide +kernel
theorem dL_law_682 : decode cL_law 682 = .ok (.iconst 5, 1) := by decide +kernel
theorem dL_law_683 : decode cL_law 683 = .ok (.iadd, 1) := by decide +kernel
theorem dL_law_684 : decode cL_law 684 = .ok (.iaload, 1) := by decide +kernel
theorem dL_law_685 : decode cL_law 685 = .ok (.invokevirtual 77, 3) := by decide +kernel
theorem dL_law_688 : decode cL_law 688 = .ok (.aload_n 2, 1) := by decide +kernel
theorem dL_law_689 : decode cL_law 689 = .ok (.aload_n 0, 1) := by decide +kernel
theorem dL_law_690 : decode cL_law 690 = .ok (.iload 4, 2) := by decide +kernel
theorem dL_law_692 : decode cL_law 692 = .ok (.iconst 1, 1) := by decide +kernel
theorem dL_law_693 : decode cL_law 693 = .ok (.iadd, 1) := by decide +kernel
theorem dL_law_694 : decode cL_law 694 = .ok (.iaload, 1) := by decide +kernel
theorem dL_law_695 : decode cL_law 695 = .ok (.aload_n 0, 1) := by decide +kernel
theorem dL_law_696 : decode cL_law 696 = .ok (.iload 4, 2) := by decide +kernel
theorem dL_law_698 : decode cL_law 698 = .ok (.iconst 2, 1) := by decide +kernel
theorem dL_law_699 : decode cL_law 699 = .ok (.iadd, 1) := by decide +kernel
theorem dL_law_700 : decode cL_law 700 = .ok (.iaload, 1) := by decide +kernel
theorem dL_law_701 : decode cL_law 701 = .ok (.aload_n 0, 1) := by decide +kernel
theorem dL_law_702 : decode cL_law 702 = .ok (.iload 4, 2) := by decide +kernel
theorem dL_law_704 : decode cL_law 704 = .ok (.iconst 3, 1) := by decide +kernel
theorem dL_law_705 : decode cL_law 705 = .ok (.iadd, 1) := by decide +kernel
theorem dL_law_706 : decode cL_law 706 = .ok (.iaload, 1) := by decide +kernel
theorem dL_law_707 : decode cL_law 707 = .ok (.aload_n 0, 1) := by decide +kernel
theorem dL_law_708 : decode cL_law 708 = .ok (.iload 4, 2) := by decide +kernel
theorem dL_law_710 : decode cL_law 710 = .ok (.iconst 4, 1) := by decide +kernel
theorem dL_law_711 : decode cL_law 711 = .ok (.iadd, 1) := by decide +kernel
theorem dL_law_712 : decode cL_law 712 = .ok (.iaload, 1) := by decide +kernel
theorem dL_law_713 : decode cL_law 713 = .ok (.aload_n 0, 1) := by decide +kernel
theorem dL_law_714 : decode cL_law 714 = .ok (.iload 4, 2) := by decide +kernel
theorem dL_law_716 : decode cL_law 716 = .ok (.iconst 5, 1) := by decide +kernel
theorem dL_law_717 : decode cL_law 717 = .ok (.iadd, 1) := by decide +kernel
theorem dL_law_718 : decode cL_law 718 = .ok (.iaload, 1) := by decide +kernel
theorem dL_law_719 : decode cL_law 719 = .ok (.invokevirtual 81, 3) := by decide +kernel
theorem dL_law_722 : decode cL_law 722 = .ok (.if_icmp .eq 567, 3) := by decide +kernel
theorem dL_law_725 : decode cL_law 725 = .ok (.iconst 0, 1) := by decide +kernel
theorem dL_law_726 : decode cL_law 726 = .ok (.ireturn, 1) := by decide +kernel
theorem dL_law_727 : decode cL_law 727 = .ok (.aload_n 1, 1) := by decide +kernel
theorem dL_law_728 : decode cL_law 728 = .ok (.aload_n 0, 1) := by decide +kernel
theorem dL_law_729 : decode cL_law 729 = .ok (.iload 4, 2) := by decide +kernel
theorem dL_law_731 : decode cL_law 731 = .ok (.iconst 1, 1) := by decide +kernel
theorem dL_law_732 : decode cL_law 732 = .ok (.iadd, 1) := by decide +kernel
theorem dL_law_733 : decode cL_law 733 = .ok (.iaload, 1) := by decide +kernel
theorem dL_law_734 : decode cL_law 734 = .ok (.aload_n 0, 1) := by decide +kernel
theorem dL_law_735 : decode cL_law 735 = .ok (.iload 4, 2) := by decide +kernel
theorem dL_law_737 : decode cL_law 737 = .ok (.iconst 2, 1) := by decide +kernel
theorem dL_law_738 : decode cL_law 738 = .ok (.iadd, 1) := by decide +kernel
theorem dL_law_739 : decode cL_law 739 = .ok (.iaload, 1) := by decide +kernel
theorem dL_law_740 : decode cL_law 740 = .ok (.invokevirtual 82, 3) := by decide +kernel
theorem dL_law_743 : decode cL_law 743 = .ok (.aload_n 2, 1) := by decide +kernel
theorem dL_law_744 : decode cL_law 744 = .ok (.aload_n 0, 1) := by decide +kernel
theorem dL_law_745 : decode cL_law 745 = .ok (.iload 4, 2) := by decide +kernel
theorem dL_law_747 : decode cL_law 747 = .ok (.iconst 1, 1) := by decide +kernel
theorem dL_law_748 : decode cL_law 748 = .ok (.iadd, 1) := by decide +kernel
theorem dL_law_749 : decode cL_law 749 = .ok (.iaload, 1) := by decide +kernel
theorem dL_law_750 : decode cL_law 750 = .ok (.aload_n 0, 1) := by decide +kernel
theorem dL_law_751 : decode cL_law 751 = .ok (.iload 4, 2) := by decide +kernel
theorem dL_law_753 : decode cL_law 753 = .ok (.iconst 2, 1) := by decide +kernel
theorem dL_law_754 : decode cL_law 754 = .ok (.iadd, 1) := by decide +kernel
theorem dL_law_755 : decode cL_law 755 = .ok (.iaload, 1) := by decide +kernel
theorem dL_law_756 : decode cL_law 756 = .ok (.invokevirtual 85, 3) := by decide +kernel
theorem dL_law_759 : decode cL_law 759 = .ok (.if_icmp .eq 530, 3) := by decide +kernel
theorem dL_law_762 : decode cL_law 762 = .ok (.iconst 0, 1) := by decide +kernel
theorem dL_law_763 : decode cL_law 763 = .ok (.ireturn, 1) := by decide +kernel
theorem dL_law_764 : decode cL_law 764 = .ok (.aload_n 1, 1) := by decide +kernel
theorem dL_law_765 : decode cL_law 765 = .ok (.invokevirtual 86, 3) := by decide +kernel
theorem dL_law_768 : decode cL_law 768 = .ok (.aload_n 2, 1) := by decide +kernel
theorem dL_law_769 : decode cL_law 769 = .ok (.invokevirtual 89, 3) := by decide +kernel
theorem dL_law_772 : decode cL_law 772 = .ok (.if_icmp .eq 517, 3) := by decide +kernel
theorem dL_law_775 : decode cL_law 775 = .ok (.iconst 0, 1) := by decide +kernel
theorem dL_law_776 : decode cL_law 776 = .ok (.ireturn, 1) := by decide +kernel
theorem dL_law_777 : decode cL_law 777 = .ok (.aload_n 1, 1) := by decide +kernel
theorem dL_law_778 : decode cL_law 778 = .ok (.aload_n 0, 1) := by decide +kernel
theorem dL_law_779 : decode cL_law 779 = .ok (.iload 4, 2) := by decide +kernel
theorem dL_law_781 : decode cL_law 781 = .ok (.iconst 1, 1) := by decide +kernel
theorem dL_law_782 : decode cL_law 782 = .ok (.iadd, 1) := by decide +kernel
theorem dL_law_783 : decode cL_law 783 = .ok (.iaload, 1) := by decide +kernel
theorem dL_law_784 : decode cL_law 784 = .ok (.i2l, 1) := by decide +kernel
theorem dL_law_785 : decode cL_law 785 = .ok (.bipush 32, 2) := by decide +kernel
theorem dL_law_787 : decode cL_law 787 = .ok (.lshl, 1) := by decide +kernel
theorem dL_law_788 : decode cL_law 788 = .ok (.aload_n 0, 1) := by decide +kernel
theorem dL_law_789 : decode cL_law 789 = .ok (.iload 4, 2) := by decide +kernel
theorem dL_law_791 : decode cL_law 791 = .ok (.iconst 2, 1) := by decide +kernel
theorem dL_law_792 : decode cL_law 792 = .ok (.iadd, 1) := by decide +kernel
theorem dL_law_793 : decode cL_law 793 = .ok (.iaload, 1) := by decide +kernel
theorem dL_law_794 : decode cL_law 794 = .ok (.i2l, 1) := by decide +kernel
theorem dL_law_795 : decode cL_law 795 = .ok (.ldc2_w 90, 3) := by decide +kernel
theorem dL_law_798 : decode cL_law 798 = .ok (.land, 1) := by decide +kernel
theorem dL_law_799 : decode cL_law 799 = .ok (.lor, 1) := by decide +kernel
theorem dL_law_800 : decode cL_law 800 = .ok (.aload_n 0, 1) := by decide +kernel
theorem dL_law_801 : decode cL_law 801 = .ok (.iload 4, 2) := by decide +kernel
theorem dL_law_803 : decode cL_law 803 = .ok (.iconst 3, 1) := by decide +kernel
theorem dL_law_804 : decode cL_law 804 = .ok (.iadd, 1) := by decide +kernel
theorem dL_law_805 : decode cL_law 805 = .ok (.iaload, 1) := by decide +kernel
theorem dL_law_806 : decode cL_law 806 = .ok (.i2l, 1) := by decide +kernel
theorem dL_law_807 : decode cL_law 807 = .ok (.bipush 32, 2) := by decide +kernel
theorem dL_law_809 : decode cL_law 809 = .ok (.lshl, 1) := by decide +kernel
theorem dL_law_810 : decode cL_law 810 = .ok (.aload_n 0, 1) := by decide +kernel
theorem dL_law_811 : decode cL_law 811 = .ok (.iload 4, 2) := by decide +kernel
theorem dL_law_813 : decode cL_law 813 = .ok (.iconst 4, 1) := by decide +kernel
theorem dL_law_814 : decode cL_law 814 = .ok (.iadd, 1) := by decide +kernel
theorem dL_law_815 : decode cL_law 815 = .ok (.iaload, 1) := by decide +kernel
theorem dL_law_816 : decode cL_law 816 = .ok (.i2l, 1) := by decide +kernel
theorem dL_law_817 : decode cL_law 817 = .ok (.ldc2_w 90, 3) := by decide +kernel
theorem dL_law_820 : decode cL_law 820 = .ok (.land, 1) := by decide +kernel
theorem dL_law_821 : decode cL_law 821 = .ok (.lor, 1) := by decide +kernel
theorem dL_law_822 : decode cL_law 822 = .ok (.aload_n 0, 1) := by decide +kernel
theorem dL_law_823 : decode cL_law 823 = .ok (.iload 4, 2) := by decide +kernel
theorem dL_law_825 : decode cL_law 825 = .ok (.iconst 5, 1) := by decide +kernel
theorem dL_law_826 : decode cL_law 826 = .ok (.iadd, 1) := by decide +kernel
theorem dL_law_827 : decode cL_law 827 = .ok (.iaload, 1) := by decide +kernel
theorem dL_law_828 : decode cL_law 828 = .ok (.i2l, 1) := by decide +kernel
theorem dL_law_829 : decode cL_law 829 = .ok (.bipush 32, 2) := by decide +kernel
theorem dL_law_831 : decode cL_law 831 = .ok (.lshl, 1) := by decide +kernel
theorem dL_law_832 : decode cL_law 832 = .ok (.aload_n 0, 1) := by decide +kernel
theorem dL_law_833 : decode cL_law 833 = .ok (.iload 4, 2) := by decide +kernel
theorem dL_law_835 : decode cL_law 835 = .ok (.bipush 6, 2) := by decide +kernel
theorem dL_law_837 : decode cL_law 837 = .ok (.iadd, 1) := by decide +kernel
theorem dL_law_838 : decode cL_law 838 = .ok (.iaload, 1) := by decide +kernel
theorem dL_law_839 : decode cL_law 839 = .ok (.i2l, 1) := by decide +kernel
theorem dL_law_840 : decode cL_law 840 = .ok (.ldc2_w 90, 3) := by decide +kernel
theorem dL_law_843 : decode cL_law 843 = .ok (.land, 1) := by decide +kernel
theorem dL_law_844 : decode cL_law 844 = .ok (.lor, 1) := by decide +kernel
theorem dL_law_845 : decode cL_law 845 = .ok (.invokevirtual 92, 3) := by decide +kernel
theorem dL_law_848 : decode cL_law 848 = .ok (.aload_n 2, 1) := by decide +kernel
theorem dL_law_849 : decode cL_law 849 = .ok (.aload_n 0, 1) := by decide +kernel
theorem dL_law_850 : decode cL_law 850 = .ok (.iload 4, 2) := by decide +kernel
theorem dL_law_852 : decode cL_law 852 = .ok (.iconst 1, 1) := by decide +kernel
theorem dL_law_853 : decode cL_law 853 = .ok (.iadd, 1) := by decide +kernel
theorem dL_law_854 : decode cL_law 854 = .ok (.iaload, 1) := by decide +kernel
theorem dL_law_855 : decode cL_law 855 = .ok (.i2l, 1) := by decide +kernel
theorem dL_law_856 : decode cL_law 856 = .ok (.bipush 32, 2) := by decide +kernel
theorem dL_law_858 : decode cL_law 858 = .ok (.lshl, 1) := by decide +kernel
theorem dL_law_859 : decode cL_law 859 = .ok (.aload_n 0, 1) := by decide +kernel
theorem dL_law_860 : decode cL_law 860 = .ok (.iload 4, 2) := by decide +kernel
theorem dL_law_862 : decode cL_law 862 = .ok (.iconst 2, 1) := by decide +kernel
theorem dL_law_863 : decode cL_law 863 = .ok (.iadd, 1) := by decide +kernel
theorem dL_law_864 : decode cL_law 864 = .ok (.iaload, 1) := by decide +kernel
theorem dL_law_865 : decode cL_law 865 = .ok (.i2l, 1) := by decide +kernel
theorem dL_law_866 : decode cL_law 866 = .ok (.ldc2_w 90, 3) := by decide +kernel
theorem dL_law_869 : decode cL_law 869 = .ok (.land, 1) := by decide +kernel
theorem dL_law_870 : decode cL_law 870 = .ok (.lor, 1) := by decide +kernel
theorem dL_law_871 : decode cL_law 871 = .ok (.aload_n 0, 1) := by decide +kernel
theorem dL_law_872 : decode cL_law 872 = .ok (.iload 4, 2) := by decide +kernel
theorem dL_law_874 : decode cL_law 874 = .ok (.iconst 3, 1) := by decide +kernel
theorem dL_law_875 : decode cL_law 875 = .ok (.iadd, 1) := by decide +kernel
theorem dL_law_876 : decode cL_law 876 = .ok (.iaload, 1) := by decide +kernel
theorem dL_law_877 : decode cL_law 877 = .ok (.i2l, 1) := by decide +kernel
theorem dL_law_878 : decode cL_law 878 = .ok (.bipush 32, 2) := by decide +kernel
theorem dL_law_880 : decode cL_law 880 = .ok (.lshl, 1) := by decide +kernel
theorem dL_law_881 : decode cL_law 881 = .ok (.aload_n 0, 1) := by decide +kernel
theorem dL_law_882 : decode cL_law 882 = .ok (.iload 4, 2) := by decide +kernel
theorem dL_law_884 : decode cL_law 884 = .ok (.iconst 4, 1) := by decide +kernel
theorem dL_law_885 : decode cL_law 885 = .ok (.iadd, 1) := by decide +kernel
theorem dL_law_886 : decode cL_law 886 = .ok (.iaload, 1) := by decide +kernel
theorem dL_law_887 : decode cL_law 887 = .ok (.i2l, 1) := by decide +kernel
theorem dL_law_888 : decode cL_law 888 = .ok (.ldc2_w 90, 3) := by decide +kernel
theorem dL_law_891 : decode cL_law 891 = .ok (.land, 1) := by decide +kernel
theorem dL_law_892 : decode cL_law 892 = .ok (.lor, 1) := by decide +kernel
theorem dL_law_893 : decode cL_law 893 = .ok (.aload_n 0, 1) := by decide +kernel
theorem dL_law_894 : decode cL_law 894 = .ok (.iload 4, 2) := by decide +kernel
theorem dL_law_896 : decode cL_law 896 = .ok (.iconst 5, 1) := by decide +kernel
theorem dL_law_897 : decode cL_law 897 = .ok (.iadd, 1) := by decide +kernel
theorem dL_law_898 : decode cL_law 898 = .ok (.iaload, 1) := by decide +kernel
theorem dL_law_899 : decode cL_law 899 = .ok (.i2l, 1) := by decide +kernel
theorem dL_law_900 : decode cL_law 900 = .ok (.bipush 32, 2) := by decide +kernel
theorem dL_law_902 : decode cL_law 902 = .ok (.lshl, 1) := by decide +kernel
theorem dL_law_903 : decode cL_law 903 = .ok (.aload_n 0, 1) := by decide +kernel
theorem dL_law_904 : decode cL_law 904 = .ok (.iload 4, 2) := by decide +kernel
theorem dL_law_906 : decode cL_law 906 = .ok (.bipush 6, 2) := by decide +kernel
theorem dL_law_908 : decode cL_law 908 = .ok (.iadd, 1) := by decide +kernel
theorem dL_law_909 : decode cL_law 909 = .ok (.iaload, 1) := by decide +kernel
theorem dL_law_910 : decode cL_law 910 = .ok (.i2l, 1) := by decide +kernel
theorem dL_law_911 : decode cL_law 911 = .ok (.ldc2_w 90, 3) := by decide +kernel
theorem dL_law_914 : decode cL_law 914 = .ok (.land, 1) := by decide +kernel
theorem dL_law_915 : decode cL_law 915 = .ok (.lor, 1) := by decide +kernel
theorem dL_law_916 : decode cL_law 916 = .ok (.invokevirtual 96, 3) := by decide +kernel
theorem dL_law_919 : decode cL_law 919 = .ok (.if_icmp .eq 370, 3) := by decide +kernel
theorem dL_law_922 : decode cL_law 922 = .ok (.iconst 0, 1) := by decide +kernel
theorem dL_law_923 : decode cL_law 923 = .ok (.ireturn, 1) := by decide +kernel
theorem dL_law_924 : decode cL_law 924 = .ok (.aload_n 1, 1) := by decide +kernel
theorem dL_law_925 : decode cL_law 925 = .ok (.invokevirtual 97, 3) := by decide +kernel
theorem dL_law_928 : decode cL_law 928 = .ok (.aload_n 2, 1) := by decide +kernel
theorem dL_law_929 : decode cL_law 929 = .ok (.invokevirtual 100, 3) := by decide +kernel
theorem dL_law_932 : decode cL_law 932 = .ok (.if_icmp .eq 357, 3) := by decide +kernel
theorem dL_law_935 : decode cL_law 935 = .ok (.iconst 0, 1) := by decide +kernel
theorem dL_law_936 : decode cL_law 936 = .ok (.ireturn, 1) := by decide +kernel
theorem dL_law_937 : decode cL_law 937 = .ok (.aload_n 1, 1) := by decide +kernel
theorem dL_law_938 : decode cL_law 938 = .ok (.aload_n 0, 1) := by decide +kernel
theorem dL_law_939 : decode cL_law 939 = .ok (.iload 4, 2) := by decide +kernel
theorem dL_law_941 : decode cL_law 941 = .ok (.iconst 1, 1) := by decide +kernel
theorem dL_law_942 : decode cL_law 942 = .ok (.iadd, 1) := by decide +kernel
theorem dL_law_943 : decode cL_law 943 = .ok (.iaload, 1) := by decide +kernel
theorem dL_law_944 : decode cL_law 944 = .ok (.aload_n 0, 1) := by decide +kernel
theorem dL_law_945 : decode cL_law 945 = .ok (.iload 4, 2) := by decide +kernel
theorem dL_law_947 : decode cL_law 947 = .ok (.iconst 2, 1) := by decide +kernel
theorem dL_law_948 : decode cL_law 948 = .ok (.iadd, 1) := by decide +kernel
theorem dL_law_949 : decode cL_law 949 = .ok (.iaload, 1) := by decide +kernel
theorem dL_law_950 : decode cL_law 950 = .ok (.aload_n 0, 1) := by decide +kernel
theorem dL_law_951 : decode cL_law 951 = .ok (.iload 4, 2) := by decide +kernel
theorem dL_law_953 : decode cL_law 953 = .ok (.iconst 3, 1) := by decide +kernel
theorem dL_law_954 : decode cL_law 954 = .ok (.iadd, 1) := by decide +kernel
theorem dL_law_955 : decode cL_law 955 = .ok (.iaload, 1) := by decide +kernel
theorem dL_law_956 : decode cL_law 956 = .ok (.invokevirtual 101, 3) := by decide +kernel
theorem dL_law_959 : decode cL_law 959 = .ok (.aload_n 2, 1) := by decide +kernel
theorem dL_law_960 : decode cL_law 960 = .ok (.aload_n 0, 1) := by decide +kernel
theorem dL_law_961 : decode cL_law 961 = .ok (.iload 4, 2) := by decide +kernel
theorem dL_law_963 : decode cL_law 963 = .ok (.iconst 1, 1) := by decide +kernel
theorem dL_law_964 : decode cL_law 964 = .ok (.iadd, 1) := by decide +kernel
theorem dL_law_965 : decode cL_law 965 = .ok (.iaload, 1) := by decide +kernel
theorem dL_law_966 : decode cL_law 966 = .ok (.aload_n 0, 1) := by decide +kernel
theorem dL_law_967 : decode cL_law 967 = .ok (.iload 4, 2) := by decide +kernel
theorem dL_law_969 : decode cL_law 969 = .ok (.iconst 2, 1) := by decide +kernel
theorem dL_law_970 : decode cL_law 970 = .ok (.iadd, 1) := by decide +kernel
theorem dL_law_971 : decode cL_law 971 = .ok (.iaload, 1) := by decide +kernel
theorem dL_law_972 : decode cL_law 972 = .ok (.aload_n 0, 1) := by decide +kernel
theorem dL_law_973 : decode cL_law 973 = .ok (.iload 4, 2) := by decide +kernel
theorem dL_law_975 : decode cL_law 975 = .ok (.iconst 3, 1) := by decide +kernel
theorem dL_law_976 : decode cL_law 976 = .ok (.iadd, 1) := by decide +kernel
theorem dL_law_977 : decode cL_law 977 = .ok (.iaload, 1) := by decide +kernel
theorem dL_law_978 : decode cL_law 978 = .ok (.invokevirtual 104, 3) := by decide +kernel
theorem dL_law_981 : decode cL_law 981 = .ok (.if_icmp .eq 308, 3) := by decide +kernel
theorem dL_law_984 : decode cL_law 984 = .ok (.iconst 0, 1) := by decide +kernel
theorem dL_law_985 : decode cL_law 985 = .ok (.ireturn, 1) := by decide +kernel
theorem dL_law_986 : decode cL_law 986 = .ok (.aload_n 1, 1) := by decide +kernel
theorem dL_law_987 : decode cL_law 987 = .ok (.aload_n 0, 1) := by decide +kernel
theorem dL_law_988 : decode cL_law 988 = .ok (.iload 4, 2) := by decide +kernel
theorem dL_law_990 : decode cL_law 990 = .ok (.iconst 1, 1) := by decide +kernel
theorem dL_law_991 : decode cL_law 991 = .ok (.iadd, 1) := by decide +kernel
theorem dL_law_992 : decode cL_law 992 = .ok (.iaload, 1) := by decide +kernel
theorem dL_law_993 : decode cL_law 993 = .ok (.aload_n 0, 1) := by decide +kernel
theorem dL_law_994 : decode cL_law 994 = .ok (.iload 4, 2) := by decide +kernel
theorem dL_law_996 : decode cL_law 996 = .ok (.iconst 2, 1) := by decide +kernel
theorem dL_law_997 : decode cL_law 997 = .ok (.iadd, 1) := by decide +kernel
theorem dL_law_998 : decode cL_law 998 = .ok (.iaload, 1) := by decide +kernel
theorem dL_law_999 : decode cL_law 999 = .ok (.aload_n 0, 1) := by decide +kernel
theorem dL_law_1000 : decode cL_law 1000 = .ok (.iload 4, 2) := by decide +kernel
theorem dL_law_1002 : decode cL_law 1002 = .ok (.iconst 3, 1) := by decide +kernel
theorem dL_law_1003 : decode cL_law 1003 = .ok (.iadd, 1) := by decide +kernel
theorem dL_law_1004 : decode cL_law 1004 = .ok (.iaload, 1) := by decide +kernel
theorem dL_law_1005 : decode cL_law 1005 = .ok (.invokevirtual 105, 3) := by decide +kernel
theorem dL_law_1008 : decode cL_law 1008 = .ok (.aload_n 2, 1) := by decide +kernel
theorem dL_law_1009 : decode cL_law 1009 = .ok (.aload_n 0, 1) := by decide +kernel
theorem dL_law_1010 : decode cL_law 1010 = .ok (.iload 4, 2) := by decide +kernel
theorem dL_law_1012 : decode cL_law 1012 = .ok (.iconst 1, 1) := by decide +kernel
theorem dL_law_1013 : decode cL_law 1013 = .ok (.iadd, 1) := by decide +kernel
theorem dL_law_1014 : decode cL_law 1014 = .ok (.iaload, 1) := by decide +kernel
theorem dL_law_1015 : decode cL_law 1015 = .ok (.aload_n 0, 1) := by decide +kernel
theorem dL_law_1016 : decode cL_law 1016 = .ok (.iload 4, 2) := by decide +kernel
theorem dL_law_1018 : decode cL_law 1018 = .ok (.iconst 2, 1) := by decide +kernel
theorem dL_law_1019 : decode cL_law 1019 = .ok (.iadd, 1) := by decide +kernel
theorem dL_law_1020 : decode cL_law 1020 = .ok (.iaload, 1) := by decide +kernel
theorem dL_law_1021 : decode cL_law 1021 = .ok (.aload_n 0, 1) := by decide +kernel
theorem dL_law_1022 : decode cL_law 1022 = .ok (.iload 4, 2) := by decide +kernel
theorem dL_law_1024 : decode cL_law 1024 = .ok (.iconst 3, 1) := by decide +kernel
theorem dL_law_1025 : decode cL_law 1025 = .ok (.iadd, 1) := by decide +kernel
theorem dL_law_1026 : decode cL_law 1026 = .ok (.iaload, 1) := by decide +kernel
theorem dL_law_1027 : decode cL_law 1027 = .ok (.invokevirtual 108, 3) := by decide +kernel
theorem dL_law_1030 : decode cL_law 1030 = .ok (.if_icmp .eq 259, 3) := by decide +kernel
theorem dL_law_1033 : decode cL_law 1033 = .ok (.iconst 0, 1) := by decide +kernel
theorem dL_law_1034 : decode cL_law 1034 = .ok (.ireturn, 1) := by decide +kernel
theorem dL_law_1035 : decode cL_law 1035 = .ok (.aload_n 1, 1) := by decide +kernel
theorem dL_law_1036 : decode cL_law 1036 = .ok (.aload_n 0, 1) := by decide +kernel
theorem dL_law_1037 : decode cL_law 1037 = .ok (.iload 4, 2) := by decide +kernel
theorem dL_law_1039 : decode cL_law 1039 = .ok (.iconst 1, 1) := by decide +kernel
theorem dL_law_1040 : decode cL_law 1040 = .ok (.iadd, 1) := by decide +kernel
theorem dL_law_1041 : decode cL_law 1041 = .ok (.iaload, 1) := by decide +kernel
theorem dL_law_1042 : decode cL_law 1042 = .ok (.aload_n 0, 1) := by decide +kernel
theorem dL_law_1043 : decode cL_law 1043 = .ok (.iload 4, 2) := by decide +kernel
theorem dL_law_1045 : decode cL_law 1045 = .ok (.iconst 2, 1) := by decide +kernel
theorem dL_law_1046 : decode cL_law 1046 = .ok (.iadd, 1) := by decide +kernel
theorem dL_law_1047 : decode cL_law 1047 = .ok (.iaload, 1) := by decide +kernel
theorem dL_law_1048 : decode cL_law 1048 = .ok (.invokevirtual 109, 3) := by decide +kernel
theorem dL_law_1051 : decode cL_law 1051 = .ok (.aload_n 2, 1) := by decide +kernel
theorem dL_law_1052 : decode cL_law 1052 = .ok (.aload_n 0, 1) := by decide +kernel
theorem dL_law_1053 : decode cL_law 1053 = .ok (.iload 4, 2) := by decide +kernel
theorem dL_law_1055 : decode cL_law 1055 = .ok (.iconst 1, 1) := by decide +kernel
theorem dL_law_1056 : decode cL_law 1056 = .ok (.iadd, 1) := by decide +kernel
theorem dL_law_1057 : decode cL_law 1057 = .ok (.iaload, 1) := by decide +kernel
theorem dL_law_1058 : decode cL_law 1058 = .ok (.aload_n 0, 1) := by decide +kernel
theorem dL_law_1059 : decode cL_law 1059 = .ok (.iload 4, 2) := by decide +kernel
theorem dL_law_1061 : decode cL_law 1061 = .ok (.iconst 2, 1) := by decide +kernel
theorem dL_law_1062 : decode cL_law 1062 = .ok (.iadd, 1) := by decide +kernel
theorem dL_law_1063 : decode cL_law 1063 = .ok (.iaload, 1) := by decide +kernel
theorem dL_law_1064 : decode cL_law 1064 = .ok (.invokevirtual 112, 3) := by decide +kernel
theorem dL_law_1067 : decode cL_law 1067 = .ok (.if_icmp .eq 222, 3) := by decide +kernel
theorem dL_law_1070 : decode cL_law 1070 = .ok (.iconst 0, 1) := by decide +kernel
theorem dL_law_1071 : decode cL_law 1071 = .ok (.ireturn, 1) := by decide +kernel
theorem dL_law_1072 : decode cL_law 1072 = .ok (.aload_n 1, 1) := by decide +kernel
theorem dL_law_1073 : decode cL_law 1073 = .ok (.aload_n 0, 1) := by decide +kernel
theorem dL_law_1074 : decode cL_law 1074 = .ok (.iload 4, 2) := by decide +kernel
theorem dL_law_1076 : decode cL_law 1076 = .ok (.iconst 1, 1) := by decide +kernel
theorem dL_law_1077 : decode cL_law 1077 = .ok (.iadd, 1) := by decide +kernel
theorem dL_law_1078 : decode cL_law 1078 = .ok (.iaload, 1) := by decide +kernel
theorem dL_law_1079 : decode cL_law 1079 = .ok (.aload_n 0, 1) := by decide +kernel
theorem dL_law_1080 : decode cL_law 1080 = .ok (.iload 4, 2) := by decide +kernel
theorem dL_law_1082 : decode cL_law 1082 = .ok (.iconst 2, 1) := by decide +kernel
theorem dL_law_1083 : decode cL_law 1083 = .ok (.iadd, 1) := by decide +kernel
theorem dL_law_1084 : decode cL_law 1084 = .ok (.iaload, 1) := by decide +kernel
theorem dL_law_1085 : decode cL_law 1085 = .ok (.invokevirtual 113, 3) := by decide +kernel
theorem dL_law_1088 : decode cL_law 1088 = .ok (.aload_n 2, 1) := by decide +kernel
theorem dL_law_1089 : decode cL_law 1089 = .ok (.aload_n 0, 1) := by decide +kernel
theorem dL_law_1090 : decode cL_law 1090 = .ok (.iload 4, 2) := by decide +kernel
theorem dL_law_1092 : decode cL_law 1092 = .ok (.iconst 1, 1) := by decide +kernel
theorem dL_law_1093 : decode cL_law 1093 = .ok (.iadd, 1) := by decide +kernel
theorem dL_law_1094 : decode cL_law 1094 = .ok (.iaload, 1) := by decide +kernel
theorem dL_law_1095 : decode cL_law 1095 = .ok (.aload_n 0, 1) := by decide +kernel
theorem dL_law_1096 : decode cL_law 1096 = .ok (.iload 4, 2) := by decide +kernel
theorem dL_law_1098 : decode cL_law 1098 = .ok (.iconst 2, 1) := by decide +kernel
theorem dL_law_1099 : decode cL_law 1099 = .ok (.iadd, 1) := by decide +kernel
theorem dL_law_1100 : decode cL_law 1100 = .ok (.iaload, 1) := by decide +kernel
theorem dL_law_1101 : decode cL_law 1101 = .ok (.invokevirtual 116, 3) := by decide +kernel
theorem dL_law_1104 : decode cL_law 1104 = .ok (.if_icmp .eq 185, 3) := by decide +kernel
theorem dL_law_1107 : decode cL_law 1107 = .ok (.iconst 0, 1) := by decide +kernel
theorem dL_law_1108 : decode cL_law 1108 = .ok (.ireturn, 1) := by decide +kernel
theorem dL_law_1109 : decode cL_law 1109 = .ok (.aload_n 1, 1) := by decide +kernel
theorem dL_law_1110 : decode cL_law 1110 = .ok (.aload_n 0, 1) := by decide +kernel
theorem dL_law_1111 : decode cL_law 1111 = .ok (.iload 4, 2) := by decide +kernel
theorem dL_law_1113 : decode cL_law 1113 = .ok (.iconst 1, 1) := by decide +kernel
theorem dL_law_1114 : decode cL_law 1114 = .ok (.iadd, 1) := by decide +kernel
theorem dL_law_1115 : decode cL_law 1115 = .ok (.iaload, 1) := by decide +kernel
theorem dL_law_1116 : decode cL_law 1116 = .ok (.invokevirtual 117, 3) := by decide +kernel
theorem dL_law_1119 : decode cL_law 1119 = .ok (.aload_n 2, 1) := by decide +kernel
theorem dL_law_1120 : decode cL_law 1120 = .ok (.aload_n 0, 1) := by decide +kernel
theorem dL_law_1121 : decode cL_law 1121 = .ok (.iload 4, 2) := by decide +kernel
theorem dL_law_1123 : decode cL_law 1123 = .ok (.iconst 1, 1) := by decide +kernel
theorem dL_law_1124 : decode cL_law 1124 = .ok (.iadd, 1) := by decide +kernel
theorem dL_law_1125 : decode cL_law 1125 = .ok (.iaload, 1) := by decide +kernel
theorem dL_law_1126 : decode cL_law 1126 = .ok (.invokevirtual 120, 3) := by decide +kernel
theorem dL_law_1129 : decode cL_law 1129 = .ok (.if_icmp .eq 160, 3) := by decide +kernel
theorem dL_law_1132 : decode cL_law 1132 = .ok (.iconst 0, 1) := by decide +kernel
theorem dL_law_1133 : decode cL_law 1133 = .ok (.ireturn, 1) := by decide +kernel
theorem dL_law_1134 : decode cL_law 1134 = .ok (.aload_n 1, 1) := by decide +kernel
theorem dL_law_1135 : decode cL_law 1135 = .ok (.aload_n 0, 1) := by decide +kernel
theorem dL_law_1136 : decode cL_law 1136 = .ok (.iload 4, 2) := by decide +kernel
theorem dL_law_1138 : decode cL_law 1138 = .ok (.iconst 1, 1) := by decide +kernel
theorem dL_law_1139 : decode cL_law 1139 = .ok (.iadd, 1) := by decide +kernel
theorem dL_law_1140 : decode cL_law 1140 = .ok (.iaload, 1) := by decide +kernel
theorem dL_law_1141 : decode cL_law 1141 = .ok (.invokevirtual 121, 3) := by decide +kernel
theorem dL_law_1144 : decode cL_law 1144 = .ok (.aload_n 2, 1) := by decide +kernel
theorem dL_law_1145 : decode cL_law 1145 = .ok (.aload_n 0, 1) := by decide +kernel
theorem dL_law_1146 : decode cL_law 1146 = .ok (.iload 4, 2) := by decide +kernel
theorem dL_law_1148 : decode cL_law 1148 = .ok (.iconst 1, 1) := by decide +kernel
theorem dL_law_1149 : decode cL_law 1149 = .ok (.iadd, 1) := by decide +kernel
theorem dL_law_1150 : decode cL_law 1150 = .ok (.iaload, 1) := by decide +kernel
theorem dL_law_1151 : decode cL_law 1151 = .ok (.invokevirtual 124, 3) := by decide +kernel
theorem dL_law_1154 : decode cL_law 1154 = .ok (.if_icmp .eq 135, 3) := by decide +kernel
theorem dL_law_1157 : decode cL_law 1157 = .ok (.iconst 0, 1) := by decide +kernel
theorem dL_law_1158 : decode cL_law 1158 = .ok (.ireturn, 1) := by decide +kernel
theorem dL_law_1159 : decode cL_law 1159 = .ok (.aload_n 1, 1) := by decide +kernel
theorem dL_law_1160 : decode cL_law 1160 = .ok (.aload_n 0, 1) := by decide +kernel
theorem dL_law_1161 : decode cL_law 1161 = .ok (.iload 4, 2) := by decide +kernel
theorem dL_law_1163 : decode cL_law 1163 = .ok (.iconst 1, 1) := by decide +kernel
theorem dL_law_1164 : decode cL_law 1164 = .ok (.iadd, 1) := by decide +kernel
theorem dL_law_1165 : decode cL_law 1165 = .ok (.iaload, 1) := by decide +kernel
theorem dL_law_1166 : decode cL_law 1166 = .ok (.aload_n 0, 1) := by decide +kernel
theorem dL_law_1167 : decode cL_law 1167 = .ok (.iload 4, 2) := by decide +kernel
theorem dL_law_1169 : decode cL_law 1169 = .ok (.iconst 2, 1) := by decide +kernel
theorem dL_law_1170 : decode cL_law 1170 = .ok (.iadd, 1) := by decide +kernel
theorem dL_law_1171 : decode cL_law 1171 = .ok (.iaload, 1) := by decide +kernel
theorem dL_law_1172 : decode cL_law 1172 = .ok (.invokevirtual 125, 3) := by decide +kernel
theorem dL_law_1175 : decode cL_law 1175 = .ok (.aload_n 2, 1) := by decide +kernel
theorem dL_law_1176 : decode cL_law 1176 = .ok (.aload_n 0, 1) := by decide +kernel
theorem dL_law_1177 : decode cL_law 1177 = .ok (.iload 4, 2) := by decide +kernel
theorem dL_law_1179 : decode cL_law 1179 = .ok (.iconst 1, 1) := by decide +kernel
theorem dL_law_1180 : decode cL_law 1180 = .ok (.iadd, 1) := by decide +kernel
theorem dL_law_1181 : decode cL_law 1181 = .ok (.iaload, 1) := by decide +kernel
theorem dL_law_1182 : decode cL_law 1182 = .ok (.aload_n 0, 1) := by decide +kernel
theorem dL_law_1183 : decode cL_law 1183 = .ok (.iload 4, 2) := by decide +kernel
theorem dL_law_1185 : decode cL_law 1185 = .ok (.iconst 2, 1) := by decide +kernel
theorem dL_law_1186 : decode cL_law 1186 = .ok (.iadd, 1) := by decide +kernel
theorem dL_law_1187 : decode cL_law 1187 = .ok (.iaload, 1) := by decide +kernel
theorem dL_law_1188 : decode cL_law 1188 = .ok (.invokevirtual 128, 3) := by decide +kernel
theorem dL_law_1191 : decode cL_law 1191 = .ok (.if_icmp .eq 98, 3) := by decide +kernel
theorem dL_law_1194 : decode cL_law 1194 = .ok (.iconst 0, 1) := by decide +kernel
theorem dL_law_1195 : decode cL_law 1195 = .ok (.ireturn, 1) := by decide +kernel
theorem dL_law_1196 : decode cL_law 1196 = .ok (.aload_n 1, 1) := by decide +kernel
theorem dL_law_1197 : decode cL_law 1197 = .ok (.aload_n 0, 1) := by decide +kernel
theorem dL_law_1198 : decode cL_law 1198 = .ok (.iload 4, 2) := by decide +kernel
theorem dL_law_1200 : decode cL_law 1200 = .ok (.iconst 1, 1) := by decide +kernel
theorem dL_law_1201 : decode cL_law 1201 = .ok (.iadd, 1) := by decide +kernel
theorem dL_law_1202 : decode cL_law 1202 = .ok (.iaload, 1) := by decide +kernel
theorem dL_law_1203 : decode cL_law 1203 = .ok (.aload_n 0, 1) := by decide +kernel
theorem dL_law_1204 : decode cL_law 1204 = .ok (.iload 4, 2) := by decide +kernel
theorem dL_law_1206 : decode cL_law 1206 = .ok (.iconst 2, 1) := by decide +kernel
theorem dL_law_1207 : decode cL_law 1207 = .ok (.iadd, 1) := by decide +kernel
theorem dL_law_1208 : decode cL_law 1208 = .ok (.iaload, 1) := by decide +kernel
theorem dL_law_1209 : decode cL_law 1209 = .ok (.aload_n 3, 1) := by decide +kernel
theorem dL_law_1210 : decode cL_law 1210 = .ok (.invokestatic 129, 3) := by decide +kernel
theorem dL_law_1213 : decode cL_law 1213 = .ok (.istore 5, 2) := by decide +kernel
theorem dL_law_1215 : decode cL_law 1215 = .ok (.aload_n 2, 1) := by decide +kernel
theorem dL_law_1216 : decode cL_law 1216 = .ok (.aload_n 0, 1) := by decide +kernel
theorem dL_law_1217 : decode cL_law 1217 = .ok (.iload 4, 2) := by decide +kernel
theorem dL_law_1219 : decode cL_law 1219 = .ok (.iconst 1, 1) := by decide +kernel
theorem dL_law_1220 : decode cL_law 1220 = .ok (.iadd, 1) := by decide +kernel
theorem dL_law_1221 : decode cL_law 1221 = .ok (.iaload, 1) := by decide +kernel
theorem dL_law_1222 : decode cL_law 1222 = .ok (.aload_n 0, 1) := by decide +kernel
theorem dL_law_1223 : decode cL_law 1223 = .ok (.iload 4, 2) := by decide +kernel
theorem dL_law_1225 : decode cL_law 1225 = .ok (.iconst 2, 1) := by decide +kernel
theorem dL_law_1226 : decode cL_law 1226 = .ok (.iadd, 1) := by decide +kernel
theorem dL_law_1227 : decode cL_law 1227 = .ok (.iaload, 1) := by decide +kernel
theorem dL_law_1228 : decode cL_law 1228 = .ok (.invokevirtual 132, 3) := by decide +kernel
theorem dL_law_1231 : decode cL_law 1231 = .ok (.istore 6, 2) := by decide +kernel
theorem dL_law_1233 : decode cL_law 1233 = .ok (.aload_n 2, 1) := by decide +kernel
theorem dL_law_1234 : decode cL_law 1234 = .ok (.invokevirtual 64, 3) := by decide +kernel
theorem dL_law_1237 : decode cL_law 1237 = .ok (.iload 5, 2) := by decide +kernel
theorem dL_law_1239 : decode cL_law 1239 = .ok (.if_icmp .eq 5, 3) := by decide +kernel
theorem dL_law_1242 : decode cL_law 1242 = .ok (.iconst 0, 1) := by decide +kernel
theorem dL_law_1243 : decode cL_law 1243 = .ok (.ireturn, 1) := by decide +kernel
theorem dL_law_1244 : decode cL_law 1244 = .ok (.iload 5, 2) := by decide +kernel
theorem dL_law_1246 : decode cL_law 1246 = .ok (.ifCond .ne 15, 3) := by decide +kernel
theorem dL_law_1249 : decode cL_law 1249 = .ok (.aload_n 3, 1) := by decide +kernel
theorem dL_law_1250 : decode cL_law 1250 = .ok (.iconst 0, 1) := by decide +kernel
theorem dL_law_1251 : decode cL_law 1251 = .ok (.laload, 1) := by decide +kernel
theorem dL_law_1252 : decode cL_law 1252 = .ok (.iload 6, 2) := by decide +kernel
theorem dL_law_1254 : decode cL_law 1254 = .ok (.i2l, 1) := by decide +kernel
theorem dL_law_1255 : decode cL_law 1255 = .ok (.lcmp, 1) := by decide +kernel
theorem dL_law_1256 : decode cL_law 1256 = .ok (.ifCond .eq 5, 3) := by decide +kernel
theorem dL_law_1259 : decode cL_law 1259 = .ok (.iconst 0, 1) := by decide +kernel
theorem dL_law_1260 : decode cL_law 1260 = .ok (.ireturn, 1) := by decide +kernel
theorem dL_law_1261 : decode cL_law 1261 = .ok (.goto 28, 3) := by decide +kernel
theorem dL_law_1264 : decode cL_law 1264 = .ok (.aload_n 1, 1) := by decide +kernel
theorem dL_law_1265 : decode cL_law 1265 = .ok (.aload_n 0, 1) := by decide +kernel
theorem dL_law_1266 : decode cL_law 1266 = .ok (.iload 4, 2) := by decide +kernel
theorem dL_law_1268 : decode cL_law 1268 = .ok (.iconst 1, 1) := by decide +kernel
theorem dL_law_1269 : decode cL_law 1269 = .ok (.iadd, 1) := by decide +kernel
theorem dL_law_1270 : decode cL_law 1270 = .ok (.iaload, 1) := by decide +kernel
theorem dL_law_1271 : decode cL_law 1271 = .ok (.invokevirtual 133, 3) := by decide +kernel
theorem dL_law_1274 : decode cL_law 1274 = .ok (.aload_n 2, 1) := by decide +kernel
theorem dL_law_1275 : decode cL_law 1275 = .ok (.aload_n 0, 1) := by decide +kernel
theorem dL_law_1276 : decode cL_law 1276 = .ok (.iload 4, 2) := by decide +kernel
theorem dL_law_1278 : decode cL_law 1278 = .ok (.iconst 1, 1) := by decide +kernel
theorem dL_law_1279 : decode cL_law 1279 = .ok (.iadd, 1) := by decide +kernel
theorem dL_law_1280 : decode cL_law 1280 = .ok (.iaload, 1) := by decide +kernel
theorem dL_law_1281 : decode cL_law 1281 = .ok (.invokevirtual 136, 3) := by decide +kernel
theorem dL_law_1284 : decode cL_law 1284 = .ok (.if_icmp .eq 5, 3) := by decide +kernel
theorem dL_law_1287 : decode cL_law 1287 = .ok (.iconst 0, 1) := by decide +kernel
theorem dL_law_1288 : decode cL_law 1288 = .ok (.ireturn, 1) := by decide +kernel
theorem dL_law_1289 : decode cL_law 1289 = .ok (.iinc 4 7, 3) := by decide +kernel
theorem dL_law_1292 : decode cL_law 1292 = .ok (.goto (-1269), 3) := by decide +kernel
theorem dL_law_1295 : decode cL_law 1295 = .ok (.iconst 1, 1) := by decide +kernel
theorem dL_law_1296 : decode cL_law 1296 = .ok (.ireturn, 1) := by decide +kernel
end
section
/-! A small machine of my own over the kit's: whole numbers are Int, references are numbers counted from the law's first new cell, the heap is four functions. a_wp is a judgement over the machine itself (no interpreter): each row here turns it at an instruction into itself at the next. -/
abbrev aV : Type := Int ⊕ (Int ⊕ Option Nat)
abbrev vI (i : Int) : aV := Sum.inl i
abbrev vJ (i : Int) : aV := Sum.inr (Sum.inl i)
abbrev vO (o : Option Nat) : aV := Sum.inr (Sum.inr o)
abbrev vR (a : Nat) : aV := Sum.inr (Sum.inr (some a))
/-- how many cells there are, how many slots they have, and of each its kind (a class's number, or 20 int[], 21 long[], 22 boolean[], 23 Plant[], 24 Bed[]; beyond 30: nothing is said) and its length -/
abbrev aZ : Type := Nat × Nat × (Nat → Nat × Int)
abbrev aR : Type := Nat → Int → Option Nat
abbrev aI : Type := Nat → Int → Int
abbrev aG : Type := Launch × Nat × Heap × (Nat → ClassId) × (Nat → Nat → Nat) × (Nat → ClassId) × (Nat → Nat) × (State → Prop)
abbrev gl (G : aG) : Launch := G.1
abbrev gb (G : aG) : Nat := G.2.1
abbrev gH (G : aG) : Heap := G.2.2.1
abbrev gC (G : aG) : Nat → ClassId := G.2.2.2.1
abbrev gI (G : aG) : Nat → Nat → Nat := G.2.2.2.2.1
abbrev gA (G : aG) : Nat → ClassId := G.2.2.2.2.2.1
abbrev gE (G : aG) : Nat → Nat := G.2.2.2.2.2.2.1
abbrev gX (G : aG) : State → Prop := G.2.2.2.2.2.2.2
def r32 (x : Int) : Prop := -2147483648 ≤ x ∧ x < 2147483648
def r64 (x : Int) : Prop := -9223372036854775808 ≤ x ∧ x < 9223372036854775808
def a_ok : aV → Prop
  | .inl i => r32 i
  | .inr (.inl j) => r64 j
  | .inr (.inr _) => True
def a_ca (G : aG) (a : Nat) : Nat := if a < 1000000000 then gb G + a else gE G (a - 1000000000)
def a_cv (G : aG) : aV → Value
  | .inl i => .int (Int32.ofInt i)
  | .inr (.inl j) => .long (Int64.ofInt j)
  | .inr (.inr o) => va_rf (o.map (a_ca G))
def a_ty (t : Nat) : Nat → FieldType := match t with
  | 0 => tyX0
  | 1 => tyX1
  | 2 => tyX2
  | 3 => tyX3
  | 4 => tyX4
  | 5 => tyX5
  | 6 => tyX6
  | 7 => tyX7
  | 8 => tyX8
  | 9 => tyX9
  | _ => tyX10
def a_nf (t : Nat) : Nat := match t with
  | 0 => 3
  | 1 => 8
  | 2 => 8
  | 3 => 17
  | 4 => 5
  | 5 => 8
  | 6 => 2
  | 7 => 2
  | 8 => 4
  | 9 => 12
  | _ => 56
def a_isR (ty : FieldType) : Bool := match ty with
  | .object _ => true
  | .array _ => true
  | _ => false
def a_fv (G : aG) (t k : Nat) (x : Int) (r : Option Nat) : Value := if a_isR (a_ty t k) = true then va_rf (r.map (a_ca G)) else .int (Int32.ofInt x)
def a_av (G : aG) (t : Nat) (x l : Int) (r : Option Nat) : Value := if t = 21 then .long (Int64.ofInt l) else if t = 23 ∨ t = 24 then va_rf (r.map (a_ca G)) else .int (Int32.ofInt x)
def a_cell (G : aG) (z : aZ) (hr : aR) (hi hl : aI) (a : Nat) (H : Heap) : Prop :=
  if (z.2.2 a).1 < 11 then t_OB (gb G + a) (gC G (z.2.2 a).1) (a_nf (z.2.2 a).1) (gI G (z.2.2 a).1) H (fun k => a_fv G (z.2.2 a).1 k (hi a k) (hr a k))
  else if (z.2.2 a).1 < 30 then H[gb G + a]? = some (arrV (gA G (z.2.2 a).1) (z.2.2 a).2.toNat (fun j => a_av G (z.2.2 a).1 (hi a j) (hl a j) (hr a j)))
  else True
/-- the heap is as the four functions say -/
def a_rp (G : aG) (z : aZ) (hr : aR) (hi hl : aI) (H : Heap) : Prop :=
  H.size = gb G + z.1 ∧ z.1 < 1000000000 ∧ (∀ a, a < z.1 → a_cell G z hr hi hl a H) ∧ (∀ q, q < gb G → H[q]? = (gH G)[q]?) ∧ (∀ a i, r32 (hi a i)) ∧ ∀ a i, r64 (hl a i)
abbrev a_tys (G : aG) : List (ClassId × FieldType) := [(gA G 20, .int), (gA G 21, .long), (gA G 22, .boolean), (gA G 23, .object RX3), (gA G 24, .object RX0)]
def a_wK (G : aG) (U : State) : Prop := va_K (gC G, gI G) vwCl (a_tys G) U ∧ gX G U
def a_stab (G : aG) : Prop := ∀ s U : State, s.WarmedH U.vm → gb G ≤ s.heap.size → gb G ≤ U.heap.size → (∀ q, q < gb G → U.heap[q]? = s.heap[q]?) → gX G s → gX G U
/-- the locals: what is listed is held -/
def a_L (G : aG) (L : List (Option aV)) (ls : Array Slot) (nL : Nat) : Prop := ls.size = nL ∧ lv_wf ls ∧ ∀ (i : Nat) (v : aV), L[i]? = some (some v) → ls[i]? = some (.val (a_cv G v))
def a_Cx (M : aM) (p : Program) (s : State) (m : MethodId) (args : Array Value) (meth : Method) (c : Code) : Prop :=
  p.tables.exec = Jvm.exec ∧ c.code = M.2.1 ∧ c.maxLocals = M.2.2.1 ∧ s.vm.findClass M.1.cls = some m.cls ∧ (∀ w ∈ lw_tbl, goodWord w = true → w.before args s = true) ∧ meth.sig.returnType = M.2.2.2 ∧ meth.locks = false ∧ meth.name = M.1.name
def a_Qc (G : aG) (r : Option aV) (z : aZ) (hr : aR) (hi hl : aI) : Array Value → State → Outcome → State → Prop := fun _ _ o t =>
  o = .returned (r.map (a_cv G)) ∧ a_rp G z hr hi hl t.heap ∧ ∀ v, r = some v → a_ok v
def okL (L : List (Option aV)) : Prop := ∀ v, some v ∈ L → a_ok v
def okS (st : List aV) : Prop := ∀ v ∈ st, a_ok v
/-- what a row may use of the machine where it stands -/
def a_B (G : aG) (M : aM) (d dc ds : Nat) (L : List (Option aV)) (z : aZ) (hr : aR) (hi hl : aI) (p : Program) (R : Room) (s : State) (m : MethodId) (args : Array Value) (meth : Method) (c : Code) (H : Heap) (locs : List Loc) (cells slots : Nat) (ls : Array Slot) : Prop :=
  a_Cx M p s m args meth c ∧ d ≤ R.frames ∧ 40 * d ≤ R.locals ∧ cells + dc ≤ R.cells ∧ slots + ds ≤ R.slots ∧ a_rp G z hr hi hl H ∧ a_wK G s ∧ va_S (fun q => gb G ≤ q) s.heap H locs ∧ gb G ≤ s.heap.size ∧ (∀ q, q < gb G → s.heap[q]? = (gH G)[q]?) ∧ a_L G L ls M.2.2.1
def a_W (G : aG) (M : aM) (d pc : Nat) (L : List (Option aV)) (st : List aV) (z : aZ) (hr : aR) (hi hl : aI) (r : Option aV) (z' : aZ) (hr' : aR) (hi' hl' : aI) : Prop :=
  z.1 ≤ z'.1 ∧ z.2.1 ≤ z'.2.1 ∧ (a_stab G → okL L → okS st →
  ∀ (p : Program) (e : Env) (R : Room) (s : State) (m : MethodId) (args : Array Value) (below : List Frame) (meth : Method) (c : Code) (H : Heap) (locs : List Loc) (cells slots : Nat) (ls : Array Slot) (mc ms : Nat),
    a_B G M d 0 0 L z hr hi hl p R s m args meth c H locs cells slots ls → cells + z'.1 = mc + z.1 → slots + z'.2.1 = ms + z.2.1 → mc ≤ R.cells → ms ≤ R.slots →
    W p (gl G) e R s m args below meth c H locs cells slots (MQ below (a_Qc G r z' hr' hi' hl') args s mc ms (fun q => gb G ≤ q)) (F0 m pc ls (st.map (a_cv G))))
def a_wp (G : aG) (M : aM) (d pc : Nat) (L : List (Option aV)) (st : List aV) (z : aZ) (hr : aR) (hi hl : aI) (Q : Option aV → aZ → aR → aI → aI → Prop) : Prop :=
  ∃ r z' hr' hi' hl', a_W G M d pc L st z hr hi hl r z' hr' hi' hl' ∧ Q r z' hr' hi' hl'
section A
variable {G : aG} {M : aM} {d pc : Nat} {L : List (Option aV)} {st : List aV} {z : aZ} {hr : aR} {hi hl : aI} {Q : Option aV → aZ → aR → aI → aI → Prop}
theorem a_wp.mono {Q2 : Option aV → aZ → aR → aI → aI → Prop} (h : a_wp G M d pc L st z hr hi hl Q) (hq : ∀ r z' hr' hi' hl', Q r z' hr' hi' hl' → Q2 r z' hr' hi' hl') : a_wp G M d pc L st z hr hi hl Q2 := by
  obtain ⟨r, z', hr', hi', hl', h1, h2⟩ := h
  exact ⟨r, z', hr', hi', hl', h1, hq _ _ _ _ _ h2⟩
/-- one step: whatever it changes -/
theorem a_step {pc2 : Nat} {L2 : List (Option aV)} {st2 : List aV} {z2 : aZ} {hr2 : aR} {hi2 hl2 : aI} (k : a_wp G M d pc2 L2 st2 z2 hr2 hi2 hl2 Q) (dc ds : Nat) (hz1 : z2.1 = z.1 + dc) (hz2 : z2.2.1 = z.2.1 + ds)
    (hok : okL L → okS st → okL L2 ∧ okS st2)
    (hs : a_stab G → okL L → okS st → ∀ (p : Program) (e : Env) (R : Room) (s : State) (m : MethodId) (args : Array Value) (below : List Frame) (meth : Method) (c : Code) (H : Heap) (locs : List Loc) (cells slots : Nat) (ls : Array Slot) (Q0 : State → Prop),
      a_B G M d dc ds L z hr hi hl p R s m args meth c H locs cells slots ls →
      (∀ (H2 : Heap) (locs2 : List Loc) (ls2 : Array Slot), a_rp G z2 hr2 hi2 hl2 H2 → va_S (fun q => gb G ≤ q) s.heap H2 locs2 → a_L G L2 ls2 M.2.2.1 → W p (gl G) e R s m args below meth c H2 locs2 (cells + dc) (slots + ds) Q0 (F0 m pc2 ls2 (st2.map (a_cv G)))) →
      W p (gl G) e R s m args below meth c H locs cells slots Q0 (F0 m pc ls (st.map (a_cv G)))) : a_wp G M d pc L st z hr hi hl Q := by
  obtain ⟨r, z', hr', hi', hl', ⟨k1, k2, k3⟩, hq⟩ := k
  refine ⟨r, z', hr', hi', hl', ⟨by omega, by omega, fun hst hL hS p e R s m args below meth c H locs cells slots ls mc ms B e1 e2 e3 e4 => ?_⟩, hq⟩
  obtain ⟨b1, b2, b3, b4, b5, b6, b7, b8, b9, b10, b11⟩ := B
  obtain ⟨o1, o2⟩ := hok hL hS
  refine hs hst hL hS p e R s m args below meth c H locs cells slots ls _ ⟨b1, b2, b3, by omega, by omega, b6, b7, b8, b9, b10, b11⟩ (fun H2 locs2 ls2 g1 g2 g3 => ?_)
  exact k3 hst o1 o2 p e R s m args below meth c H2 locs2 (cells + dc) (slots + ds) ls2 mc ms ⟨b1, b2, b3, by omega, by omega, g1, b7, g2, b9, b10, g3⟩ (by omega) (by omega) e3 e4
/-- a step that leaves the heap and the locals -/
theorem a_go {pc2 : Nat} {st2 : List aV} (k : a_wp G M d pc2 L st2 z hr hi hl Q) (hok : okL L → okS st → (∀ a i, r32 (hi a i)) → (∀ a i, r64 (hl a i)) → okS st2)
    (hs : okL L → okS st → ∀ (p : Program) (e : Env) (R : Room) (s : State) (m : MethodId) (args : Array Value) (below : List Frame) (meth : Method) (c : Code) (H : Heap) (locs : List Loc) (cells slots : Nat) (ls : Array Slot) (Q0 : State → Prop),
      a_B G M d 0 0 L z hr hi hl p R s m args meth c H locs cells slots ls →
      W p (gl G) e R s m args below meth c H locs cells slots Q0 (F0 m pc2 ls (st2.map (a_cv G))) →
      W p (gl G) e R s m args below meth c H locs cells slots Q0 (F0 m pc ls (st.map (a_cv G)))) : a_wp G M d pc L st z hr hi hl Q := by
  obtain ⟨r, z', hr', hi', hl', ⟨k1, k2, k3⟩, hq⟩ := k
  refine ⟨r, z', hr', hi', hl', ⟨k1, k2, fun hst hL hS p e R s m args below meth c H locs cells slots ls mc ms B e1 e2 e3 e4 => ?_⟩, hq⟩
  have hrp := B.2.2.2.2.2.1
  exact hs hL hS p e R s m args below meth c H locs cells slots ls _ B (k3 hst hL (hok hL hS hrp.2.2.2.2.1 hrp.2.2.2.2.2) p e R s m args below meth c H locs cells slots ls mc ms B e1 e2 e3 e4)
end A
theorem a_toI {x : Int} (h : r32 x) : (Int32.ofInt x).toInt = x := Int32.toInt_ofInt_of_le (by have := h.1; omega) (by have := h.2; omega)
theorem a_lt {x y : Int} (hx : r32 x) (hy : r32 y) : Int32.ofInt x < Int32.ofInt y ↔ x < y := by rw [Int32.lt_iff_toInt_lt, a_toI hx, a_toI hy]
theorem a_le {x y : Int} (hx : r32 x) (hy : r32 y) : Int32.ofInt x ≤ Int32.ofInt y ↔ x ≤ y := by rw [Int32.le_iff_toInt_le, a_toI hx, a_toI hy]
theorem a_eq {x y : Int} (hx : r32 x) (hy : r32 y) : Int32.ofInt x = Int32.ofInt y ↔ x = y := by rw [← Int32.toInt_inj, a_toI hx, a_toI hy]
theorem r32_0 : r32 0 := ⟨by decide, by decide⟩
theorem a_lt0 {x : Int} (hx : r32 x) : Int32.ofInt x < 0 ↔ x < 0 := a_lt hx r32_0
theorem a_le0 {x : Int} (hx : r32 x) : Int32.ofInt x ≤ 0 ↔ x ≤ 0 := a_le hx r32_0
theorem a_eq0 {x : Int} (hx : r32 x) : Int32.ofInt x = 0 ↔ x = 0 := a_eq hx r32_0
theorem a_0le {x : Int} (hx : r32 x) : 0 ≤ Int32.ofInt x ↔ 0 ≤ x := a_le r32_0 hx
theorem a_0lt {x : Int} (hx : r32 x) : 0 < Int32.ofInt x ↔ 0 < x := a_lt r32_0 hx
theorem a_cl {x : Int} (hx : r32 x) : (Int32.ofInt x).toNatClampNeg = x.toNat := Int32.toNatClampNeg_ofInt_of_le (by have := hx.1; omega) (by have := hx.2; omega)
theorem r32_of (x : Int32) : r32 x.toInt := ⟨by have := x.le_toInt; omega, by have := x.toInt_lt; omega⟩
theorem a_ofI (x : Int32) : Int32.ofInt x.toInt = x := Int32.ofInt_toInt x
theorem a_toJ {x : Int} (h : r64 x) : (Int64.ofInt x).toInt = x := Int64.toInt_ofInt_of_le (by have := h.1; omega) (by have := h.2; omega)
theorem okS_c {v : aV} {st : List aV} (h : a_ok v) (hs : okS st) : okS (v :: st) := fun w hw => (List.mem_cons.mp hw).elim (fun e => e ▸ h) (hs w)
theorem okS_t {v : aV} {st : List aV} (hs : okS (v :: st)) : okS st := fun w hw => hs w (List.mem_cons_of_mem _ hw)
theorem okS_h {v : aV} {st : List aV} (hs : okS (v :: st)) : a_ok v := hs v List.mem_cons_self
theorem okI {i : Int} (h : r32 i) : a_ok (vI i) := h
theorem okI' {i : Int} (h : a_ok (vI i)) : r32 i := h
theorem okO (o : Option Nat) : a_ok (vO o) := trivial
end
section
section B
variable {G : aG} {M : aM} {d pc n : Nat} {L : List (Option aV)} {st : List aV} {z : aZ} {hr : aR} {hi hl : aI} {Q : Option aV → aZ → aR → aI → aI → Prop}
theorem a_iconst {v : Int} (hd : decode M.2.1 pc = .ok (.iconst v, 1)) (hn : pc + 1 = n) (hv : r32 v) (k : a_wp G M d n L (vI v :: st) z hr hi hl Q) : a_wp G M d pc L st z hr hi hl Q := by
  subst hn
  refine a_go k (fun hL hs _ _ => okS_c hv hs) (fun hL hs p e R s m args below meth c H locs cells slots ls Q0 B kk => ?_)
  exact lv_iconst B.1.1 B.1.2.1 hd rfl kk
theorem a_bipush {v : Int} (hd : decode M.2.1 pc = .ok (.bipush v, 2)) (hn : pc + 2 = n) (hv : r32 v) (he : (Int8.ofInt v).toInt32 = Int32.ofInt v) (k : a_wp G M d n L (vI v :: st) z hr hi hl Q) : a_wp G M d pc L st z hr hi hl Q := by
  subst hn
  refine a_go k (fun hL hs _ _ => okS_c hv hs) (fun hL hs p e R s m args below meth c H locs cells slots ls Q0 B kk => ?_)
  exact lv_bipush B.1.1 B.1.2.1 hd he kk
theorem a_sipush {v : Int} (hd : decode M.2.1 pc = .ok (.sipush v, 3)) (hn : pc + 3 = n) (hv : r32 v) (he : (Int16.ofInt v).toInt32 = Int32.ofInt v) (k : a_wp G M d n L (vI v :: st) z hr hi hl Q) : a_wp G M d pc L st z hr hi hl Q := by
  subst hn
  refine a_go k (fun hL hs _ _ => okS_c hv hs) (fun hL hs p e R s m args below meth c H locs cells slots ls Q0 B kk => ?_)
  exact lv_sipush B.1.1 B.1.2.1 hd he kk
theorem a_lconst {q : Fin 2} {v : Int} (hd : decode M.2.1 pc = .ok (.lconst q, 1)) (hn : pc + 1 = n) (hv : r64 v) (he : Int64.ofNat (q : Nat) = Int64.ofInt v) (k : a_wp G M d n L (vJ v :: st) z hr hi hl Q) : a_wp G M d pc L st z hr hi hl Q := by
  subst hn
  refine a_go k (fun hL hs _ _ => okS_c hv hs) (fun hL hs p e R s m args below meth c H locs cells slots ls Q0 B kk => ?_)
  exact lv_lconst B.1.1 B.1.2.1 hd he kk
theorem a_ldc {v : Int} {w : Int32} {idx : Nat} (hd : decode M.2.1 pc = .ok (.ldc idx, 2)) (hn : pc + 2 = n) (hv : r32 v) (hc : Cond.constant M.1.cls idx w ∈ lw_tbl) (he : w = Int32.ofInt v) (k : a_wp G M d n L (vI v :: st) z hr hi hl Q) : a_wp G M d pc L st z hr hi hl Q := by
  subst hn; subst he
  refine a_go k (fun hL hs _ _ => okS_c hv hs) (fun hL hs p e R s m args below meth c H locs cells slots ls Q0 B kk => ?_)
  exact lv_ldc B.1.1 B.1.2.1 B.1.2.2.2.1 (B.1.2.2.2.2.1 _ hc rfl) hd kk
theorem a_ldc2 {v : Int} {w : Int64} {idx : Nat} (hd : decode M.2.1 pc = .ok (.ldc2_w idx, 3)) (hn : pc + 3 = n) (hv : r64 v) (hc : Cond.constantLong M.1.cls idx w ∈ lw_tbl) (he : w = Int64.ofInt v) (k : a_wp G M d n L (vJ v :: st) z hr hi hl Q) : a_wp G M d pc L st z hr hi hl Q := by
  subst hn; subst he
  refine a_go k (fun hL hs _ _ => okS_c hv hs) (fun hL hs p e R s m args below meth c H locs cells slots ls Q0 B kk => ?_)
  exact lv_ldc2 B.1.1 B.1.2.1 B.1.2.2.2.1 (B.1.2.2.2.2.1 _ hc rfl) hd kk
theorem okL_at {i : Nat} {v : aV} (h : okL L) (hl : L[i]? = some (some v)) : a_ok v := h v (List.mem_of_getElem? hl)
theorem a_iload_n {q : Fin 4} {x : Int} (hd : decode M.2.1 pc = .ok (.iload_n q, 1)) (hn : pc + 1 = n) (hx : L[(q : Nat)]? = some (some (vI x))) (k : a_wp G M d n L (vI x :: st) z hr hi hl Q) : a_wp G M d pc L st z hr hi hl Q := by
  subst hn
  refine a_go k (fun hL hs _ _ => okS_c (okL_at hL hx) hs) (fun hL hs p e R s m args below meth c H locs cells slots ls Q0 B kk => ?_)
  exact lv_iload_n B.1.1 B.1.2.1 hd rfl (B.2.2.2.2.2.2.2.2.2.2.2.2 _ _ hx) kk
theorem a_iload {i : Nat} {x : Int} (hd : decode M.2.1 pc = .ok (.iload i, 2)) (hn : pc + 2 = n) (hx : L[i]? = some (some (vI x))) (k : a_wp G M d n L (vI x :: st) z hr hi hl Q) : a_wp G M d pc L st z hr hi hl Q := by
  subst hn
  refine a_go k (fun hL hs _ _ => okS_c (okL_at hL hx) hs) (fun hL hs p e R s m args below meth c H locs cells slots ls Q0 B kk => ?_)
  exact lv_iload B.1.1 B.1.2.1 hd (B.2.2.2.2.2.2.2.2.2.2.2.2 _ _ hx) kk
theorem a_lload_n {q : Fin 4} {x : Int} (hd : decode M.2.1 pc = .ok (.lload_n q, 1)) (hn : pc + 1 = n) (hx : L[(q : Nat)]? = some (some (vJ x))) (k : a_wp G M d n L (vJ x :: st) z hr hi hl Q) : a_wp G M d pc L st z hr hi hl Q := by
  subst hn
  refine a_go k (fun hL hs _ _ => okS_c (okL_at hL hx) hs) (fun hL hs p e R s m args below meth c H locs cells slots ls Q0 B kk => ?_)
  exact lv_lload_n B.1.1 B.1.2.1 hd rfl (B.2.2.2.2.2.2.2.2.2.2.2.2 _ _ hx) kk
theorem a_lload {i : Nat} {x : Int} (hd : decode M.2.1 pc = .ok (.lload i, 2)) (hn : pc + 2 = n) (hx : L[i]? = some (some (vJ x))) (k : a_wp G M d n L (vJ x :: st) z hr hi hl Q) : a_wp G M d pc L st z hr hi hl Q := by
  subst hn
  refine a_go k (fun hL hs _ _ => okS_c (okL_at hL hx) hs) (fun hL hs p e R s m args below meth c H locs cells slots ls Q0 B kk => ?_)
  exact lv_lload B.1.1 B.1.2.1 hd (B.2.2.2.2.2.2.2.2.2.2.2.2 _ _ hx) kk
theorem a_aload_n {q : Fin 4} {o : Option Nat} (hd : decode M.2.1 pc = .ok (.aload_n q, 1)) (hn : pc + 1 = n) (hx : L[(q : Nat)]? = some (some (vO o))) (k : a_wp G M d n L (vO o :: st) z hr hi hl Q) : a_wp G M d pc L st z hr hi hl Q := by
  subst hn
  refine a_go k (fun hL hs _ _ => okS_c (okL_at hL hx) hs) (fun hL hs p e R s m args below meth c H locs cells slots ls Q0 B kk => ?_)
  cases o with
  | none => exact lv_aload_nN B.1.1 B.1.2.1 hd rfl (B.2.2.2.2.2.2.2.2.2.2.2.2 _ _ hx) kk
  | some a => exact lv_aload_n B.1.1 B.1.2.1 hd rfl (B.2.2.2.2.2.2.2.2.2.2.2.2 _ _ hx) kk
theorem a_aload {i : Nat} {o : Option Nat} (hd : decode M.2.1 pc = .ok (.aload i, 2)) (hn : pc + 2 = n) (hx : L[i]? = some (some (vO o))) (k : a_wp G M d n L (vO o :: st) z hr hi hl Q) : a_wp G M d pc L st z hr hi hl Q := by
  subst hn
  refine a_go k (fun hL hs _ _ => okS_c (okL_at hL hx) hs) (fun hL hs p e R s m args below meth c H locs cells slots ls Q0 B kk => ?_)
  cases o with
  | none => exact lv_aloadN B.1.1 B.1.2.1 hd (B.2.2.2.2.2.2.2.2.2.2.2.2 _ _ hx) kk
  | some a => exact lv_aload B.1.1 B.1.2.1 hd (B.2.2.2.2.2.2.2.2.2.2.2.2 _ _ hx) kk
theorem a_null (hd : decode M.2.1 pc = .ok (.aconst_null, 1)) (hn : pc + 1 = n) (k : a_wp G M d n L (vO none :: st) z hr hi hl Q) : a_wp G M d pc L st z hr hi hl Q := by
  subst hn
  refine a_go k (fun hL hs _ _ => okS_c trivial hs) (fun hL hs p e R s m args below meth c H locs cells slots ls Q0 B kk => ?_)
  exact lv_null B.1.1 B.1.2.1 hd kk
theorem a_dup {v : aV} (hd : decode M.2.1 pc = .ok (.dup, 1)) (hn : pc + 1 = n) (hv : (a_cv G v).category = 1) (k : a_wp G M d n L (v :: v :: st) z hr hi hl Q) : a_wp G M d pc L (v :: st) z hr hi hl Q := by
  subst hn
  refine a_go k (fun hL hs _ _ => okS_c (okS_h hs) hs) (fun hL hs p e R s m args below meth c H locs cells slots ls Q0 B kk => ?_)
  exact lv_dup B.1.1 B.1.2.1 hd hv kk
theorem a_pop {v : aV} (hd : decode M.2.1 pc = .ok (.pop, 1)) (hn : pc + 1 = n) (hv : (a_cv G v).category = 1) (k : a_wp G M d n L st z hr hi hl Q) : a_wp G M d pc L (v :: st) z hr hi hl Q := by
  subst hn
  refine a_go k (fun hL hs _ _ => okS_t hs) (fun hL hs p e R s m args below meth c H locs cells slots ls Q0 B kk => ?_)
  exact lv_pop B.1.1 B.1.2.1 hd hv kk
theorem a_dup2 {v w : aV} (hd : decode M.2.1 pc = .ok (.dup2, 1)) (hn : pc + 1 = n) (hv : (a_cv G v).category = 1) (hw : (a_cv G w).category = 1) (k : a_wp G M d n L (v :: w :: v :: w :: st) z hr hi hl Q) : a_wp G M d pc L (v :: w :: st) z hr hi hl Q := by
  subst hn
  refine a_go k (fun hL hs _ _ => okS_c (okS_h hs) (okS_c (okS_h (okS_t hs)) hs)) (fun hL hs p e R s m args below meth c H locs cells slots ls Q0 B kk => ?_)
  exact lv_dup2_11 B.1.1 B.1.2.1 hd hv hw kk
theorem a_iadd {x y : Int} (hd : decode M.2.1 pc = .ok (.iadd, 1)) (hn : pc + 1 = n) (h1 : r32 (x + y)) (k : a_wp G M d n L (vI (x + y) :: st) z hr hi hl Q) : a_wp G M d pc L (vI y :: vI x :: st) z hr hi hl Q := by
  subst hn
  refine a_go k (fun hL hs _ _ => okS_c h1 (okS_t (okS_t hs))) (fun hL hs p e R s m args below meth c H locs cells slots ls Q0 B kk => ?_)
  refine lv_iadd B.1.1 B.1.2.1 hd ?_
  rw [← Int32.ofInt_add]
  exact kk
theorem a_ladd {x y : Int} (hd : decode M.2.1 pc = .ok (.ladd, 1)) (hn : pc + 1 = n) (h1 : r64 (x + y)) (k : a_wp G M d n L (vJ (x + y) :: st) z hr hi hl Q) : a_wp G M d pc L (vJ y :: vJ x :: st) z hr hi hl Q := by
  subst hn
  refine a_go k (fun hL hs _ _ => okS_c h1 (okS_t (okS_t hs))) (fun hL hs p e R s m args below meth c H locs cells slots ls Q0 B kk => ?_)
  refine lv_ladd B.1.1 B.1.2.1 hd ?_
  rw [← Int64.ofInt_add]
  exact kk
theorem a_isub {x y : Int} (hd : decode M.2.1 pc = .ok (.isub, 1)) (hn : pc + 1 = n) (h1 : r32 (x - y)) (k : a_wp G M d n L (vI (x - y) :: st) z hr hi hl Q) : a_wp G M d pc L (vI y :: vI x :: st) z hr hi hl Q := by
  subst hn
  refine a_go k (fun hL hs _ _ => okS_c h1 (okS_t (okS_t hs))) (fun hL hs p e R s m args below meth c H locs cells slots ls Q0 B kk => ?_)
  refine lv_isub B.1.1 B.1.2.1 hd ?_
  rw [← Int32.ofInt_sub]
  exact kk
theorem a_lsub {x y : Int} (hd : decode M.2.1 pc = .ok (.lsub, 1)) (hn : pc + 1 = n) (h1 : r64 (x - y)) (k : a_wp G M d n L (vJ (x - y) :: st) z hr hi hl Q) : a_wp G M d pc L (vJ y :: vJ x :: st) z hr hi hl Q := by
  subst hn
  refine a_go k (fun hL hs _ _ => okS_c h1 (okS_t (okS_t hs))) (fun hL hs p e R s m args below meth c H locs cells slots ls Q0 B kk => ?_)
  refine lv_lsub B.1.1 B.1.2.1 hd ?_
  rw [← Int64.ofInt_sub]
  exact kk
theorem a_imul {x y : Int} (hd : decode M.2.1 pc = .ok (.imul, 1)) (hn : pc + 1 = n) (h1 : r32 (x * y)) (k : a_wp G M d n L (vI (x * y) :: st) z hr hi hl Q) : a_wp G M d pc L (vI y :: vI x :: st) z hr hi hl Q := by
  subst hn
  refine a_go k (fun hL hs _ _ => okS_c h1 (okS_t (okS_t hs))) (fun hL hs p e R s m args below meth c H locs cells slots ls Q0 B kk => ?_)
  refine lv_imul B.1.1 B.1.2.1 hd ?_
  rw [← Int32.ofInt_mul]
  exact kk
theorem a_lmul {x y : Int} (hd : decode M.2.1 pc = .ok (.lmul, 1)) (hn : pc + 1 = n) (h1 : r64 (x * y)) (k : a_wp G M d n L (vJ (x * y) :: st) z hr hi hl Q) : a_wp G M d pc L (vJ y :: vJ x :: st) z hr hi hl Q := by
  subst hn
  refine a_go k (fun hL hs _ _ => okS_c h1 (okS_t (okS_t hs))) (fun hL hs p e R s m args below meth c H locs cells slots ls Q0 B kk => ?_)
  refine lv_lmul B.1.1 B.1.2.1 hd ?_
  rw [← Int64.ofInt_mul]
  exact kk
/-- sums and differences that may wrap -/
def w32 (x : Int) : Int := (Int32.ofInt x).toInt
theorem w32_r (x : Int) : r32 (w32 x) := r32_of _
theorem w32_o (x : Int) : Int32.ofInt (w32 x) = Int32.ofInt x := Int32.ofInt_toInt _
theorem w32_e {x : Int} (h : r32 x) : w32 x = x := a_toI h
theorem a_iaddw {x y : Int} (hd : decode M.2.1 pc = .ok (.iadd, 1)) (hn : pc + 1 = n) (k : a_wp G M d n L (vI (w32 (x + y)) :: st) z hr hi hl Q) : a_wp G M d pc L (vI y :: vI x :: st) z hr hi hl Q := by
  subst hn
  refine a_go k (fun hL hs _ _ => okS_c (w32_r _) (okS_t (okS_t hs))) (fun hL hs p e R s m args below meth c H locs cells slots ls Q0 B kk => ?_)
  refine lv_iadd B.1.1 B.1.2.1 hd ?_
  rw [← Int32.ofInt_add, ← w32_o]
  exact kk
theorem a_isubw {x y : Int} (hd : decode M.2.1 pc = .ok (.isub, 1)) (hn : pc + 1 = n) (k : a_wp G M d n L (vI (w32 (x - y)) :: st) z hr hi hl Q) : a_wp G M d pc L (vI y :: vI x :: st) z hr hi hl Q := by
  subst hn
  refine a_go k (fun hL hs _ _ => okS_c (w32_r _) (okS_t (okS_t hs))) (fun hL hs p e R s m args below meth c H locs cells slots ls Q0 B kk => ?_)
  refine lv_isub B.1.1 B.1.2.1 hd ?_
  rw [← Int32.ofInt_sub, ← w32_o]
  exact kk
theorem a_irem {x y : Int} (hd : decode M.2.1 pc = .ok (.irem, 1)) (hn : pc + 1 = n) (hx : 0 ≤ x) (hy : 0 < y) (k : a_wp G M d n L (vI (x % y) :: st) z hr hi hl Q) : a_wp G M d pc L (vI y :: vI x :: st) z hr hi hl Q := by
  subst hn
  have hb : 0 ≤ x % y ∧ x % y ≤ x := ⟨Int.emod_nonneg _ (by omega), by
    have h3 := Int.emod_def x y
    have h4 := Int.mul_nonneg (show (0 : Int) ≤ y by omega) (Int.ediv_nonneg hx (show (0 : Int) ≤ y by omega))
    omega⟩
  refine a_go k (fun hL hs _ _ => okS_c (show r32 (x % y) from ⟨by omega, by have h8 := okI' (okS_h (okS_t hs)); have := h8.2; omega⟩) (okS_t (okS_t hs))) (fun hL hs p e R s m args below meth c H locs cells slots ls Q0 B kk => ?_)
  have h1 := okI' (okS_h hs)
  have h2 := okI' (okS_h (okS_t hs))
  refine lv_irem B.1.1 B.1.2.1 hd (fun h => by rw [a_eq0 h1] at h; omega) ?_
  have he : Int32.ofInt x - Int32.ofInt x / Int32.ofInt y * Int32.ofInt y = Int32.ofInt (x % y) := by
    rw [← Int32.toInt_inj, rem_toInt, a_toI h1, a_toI h2, a_toI ⟨by omega, by have := h2.2; omega⟩, Int.tmod_eq_emod_of_nonneg hx]
  rw [he]
  exact kk
theorem a_idiv {x y : Int} (hd : decode M.2.1 pc = .ok (.idiv, 1)) (hn : pc + 1 = n) (hx : 0 ≤ x) (hy : 0 < y) (k : a_wp G M d n L (vI (x / y) :: st) z hr hi hl Q) : a_wp G M d pc L (vI y :: vI x :: st) z hr hi hl Q := by
  subst hn
  have hb : 0 ≤ x / y ∧ x / y ≤ x := ⟨Int.ediv_nonneg hx (by omega), Int.ediv_le_self y hx⟩
  refine a_go k (fun hL hs _ _ => okS_c (show r32 (x / y) from ⟨by omega, by have h8 := okI' (okS_h (okS_t hs)); have := h8.2; omega⟩) (okS_t (okS_t hs))) (fun hL hs p e R s m args below meth c H locs cells slots ls Q0 B kk => ?_)
  have h1 := okI' (okS_h hs)
  have h2 := okI' (okS_h (okS_t hs))
  have hr2 : r32 (x / y) := ⟨by omega, by have := h2.2; omega⟩
  refine lv_idiv B.1.1 B.1.2.1 hd (fun h => by rw [a_eq0 h1] at h; omega) ?_
  have he : Int32.ofInt x / Int32.ofInt y = Int32.ofInt (x / y) := by
    have h9 : (Int32.ofInt x / Int32.ofInt y).toInt = (Int32.ofInt (x / y)).toInt := by
      rw [Int32.toInt_div, a_toI h1, a_toI h2, Int.tdiv_eq_ediv_of_nonneg hx, Int32.toInt_ofInt]
    exact Int32.toInt_inj.mp h9
  rw [he]
  exact kk
/-- bits: as the machine has them -/
def b_and (x y : Int) : Int := (Int32.ofInt x &&& Int32.ofInt y).toInt
theorem a_iand {x y : Int} (hd : decode M.2.1 pc = .ok (.iand, 1)) (hn : pc + 1 = n) (k : a_wp G M d n L (vI (b_and x y) :: st) z hr hi hl Q) : a_wp G M d pc L (vI y :: vI x :: st) z hr hi hl Q := by
  subst hn
  refine a_go k (fun hL hs _ _ => okS_c (show r32 (b_and x y) from r32_of _) (okS_t (okS_t hs))) (fun hL hs p e R s m args below meth c H locs cells slots ls Q0 B kk => ?_)
  refine lv_iand B.1.1 B.1.2.1 hd ?_
  rw [← Int32.ofInt_toInt (Int32.ofInt x &&& Int32.ofInt y)]
  exact kk
theorem r64_of (x : Int64) : r64 x.toInt := ⟨by have := x.le_toInt; omega, by have := x.toInt_lt; omega⟩
theorem a_i2l {x : Int} (hd : decode M.2.1 pc = .ok (.i2l, 1)) (hn : pc + 1 = n) (k : a_wp G M d n L (vJ x :: st) z hr hi hl Q) : a_wp G M d pc L (vI x :: st) z hr hi hl Q := by
  subst hn
  refine a_go k (fun hL hs _ _ => okS_c (show r64 x from by have h := okI' (okS_h hs); exact ⟨by have := h.1; omega, by have := h.2; omega⟩) (okS_t hs)) (fun hL hs p e R s m args below meth c H locs cells slots ls Q0 B kk => ?_)
  have h := okI' (okS_h hs)
  refine lv_i2l (v := Int64.ofInt x) B.1.1 B.1.2.1 hd ?_ kk
  rw [← Int64.toInt_inj, Int32.toInt_toInt64, a_toI h, a_toJ ⟨by have := h.1; omega, by have := h.2; omega⟩]
def b_l2i (x : Int) : Int := (Int64.ofInt x).toInt32.toInt
theorem a_l2i {x : Int} (hd : decode M.2.1 pc = .ok (.l2i, 1)) (hn : pc + 1 = n) (k : a_wp G M d n L (vI (b_l2i x) :: st) z hr hi hl Q) : a_wp G M d pc L (vJ x :: st) z hr hi hl Q := by
  subst hn
  refine a_go k (fun hL hs _ _ => okS_c (show r32 (b_l2i x) from r32_of _) (okS_t hs)) (fun hL hs p e R s m args below meth c H locs cells slots ls Q0 B kk => ?_)
  exact lv_l2i B.1.1 B.1.2.1 hd (Int32.ofInt_toInt _).symm kk
def b_land (x y : Int) : Int := (Int64.ofInt x &&& Int64.ofInt y).toInt
theorem a_land {x y : Int} (hd : decode M.2.1 pc = .ok (.land, 1)) (hn : pc + 1 = n) (k : a_wp G M d n L (vJ (b_land x y) :: st) z hr hi hl Q) : a_wp G M d pc L (vJ y :: vJ x :: st) z hr hi hl Q := by
  subst hn
  refine a_go k (fun hL hs _ _ => okS_c (show r64 (b_land x y) from r64_of _) (okS_t (okS_t hs))) (fun hL hs p e R s m args below meth c H locs cells slots ls Q0 B kk => ?_)
  refine lv_land B.1.1 B.1.2.1 hd ?_
  rw [← Int64.ofInt_toInt (Int64.ofInt x &&& Int64.ofInt y)]
  exact kk
def b_lor (x y : Int) : Int := (Int64.ofInt x ||| Int64.ofInt y).toInt
theorem a_lor {x y : Int} (hd : decode M.2.1 pc = .ok (.lor, 1)) (hn : pc + 1 = n) (k : a_wp G M d n L (vJ (b_lor x y) :: st) z hr hi hl Q) : a_wp G M d pc L (vJ y :: vJ x :: st) z hr hi hl Q := by
  subst hn
  refine a_go k (fun hL hs _ _ => okS_c (show r64 (b_lor x y) from r64_of _) (okS_t (okS_t hs))) (fun hL hs p e R s m args below meth c H locs cells slots ls Q0 B kk => ?_)
  refine lv_lor B.1.1 B.1.2.1 hd ?_
  rw [← Int64.ofInt_toInt (Int64.ofInt x ||| Int64.ofInt y)]
  exact kk
def b_lshl (x y : Int) : Int := (Int64.ofInt x <<< ((Int32.ofInt y).toInt64 &&& 63)).toInt
theorem a_lshl {x y : Int} (hd : decode M.2.1 pc = .ok (.lshl, 1)) (hn : pc + 1 = n) (k : a_wp G M d n L (vJ (b_lshl x y) :: st) z hr hi hl Q) : a_wp G M d pc L (vI y :: vJ x :: st) z hr hi hl Q := by
  subst hn
  refine a_go k (fun hL hs _ _ => okS_c (show r64 (b_lshl x y) from r64_of _) (okS_t (okS_t hs))) (fun hL hs p e R s m args below meth c H locs cells slots ls Q0 B kk => ?_)
  exact lv_lshl B.1.1 B.1.2.1 hd (Int64.ofInt_toInt _).symm kk
def b_lshr (x y : Int) : Int := (Int64.ofInt x >>> ((Int32.ofInt y).toInt64 &&& 63)).toInt
theorem a_lshr {x y : Int} (hd : decode M.2.1 pc = .ok (.lshr, 1)) (hn : pc + 1 = n) (k : a_wp G M d n L (vJ (b_lshr x y) :: st) z hr hi hl Q) : a_wp G M d pc L (vI y :: vJ x :: st) z hr hi hl Q := by
  subst hn
  refine a_go k (fun hL hs _ _ => okS_c (show r64 (b_lshr x y) from r64_of _) (okS_t (okS_t hs))) (fun hL hs p e R s m args below meth c H locs cells slots ls Q0 B kk => ?_)
  exact lv_lshr B.1.1 B.1.2.1 hd (Int64.ofInt_toInt _).symm kk
def b_lushr (x y : Int) : Int := (((Int64.ofInt x).toUInt64 >>> ((Int32.ofInt y).toInt64.toUInt64 &&& Int64.toUInt64 63)).toInt64).toInt
theorem a_lushr {x y : Int} (hd : decode M.2.1 pc = .ok (.lushr, 1)) (hn : pc + 1 = n) (k : a_wp G M d n L (vJ (b_lushr x y) :: st) z hr hi hl Q) : a_wp G M d pc L (vI y :: vJ x :: st) z hr hi hl Q := by
  subst hn
  refine a_go k (fun hL hs _ _ => okS_c (show r64 (b_lushr x y) from r64_of _) (okS_t (okS_t hs))) (fun hL hs p e R s m args below meth c H locs cells slots ls Q0 B kk => ?_)
  exact lv_lushr B.1.1 B.1.2.1 hd (Int64.ofInt_toInt _).symm kk
def b_cmp (x y : Int) : Int := if y < x then 1 else if x = y then 0 else -1
theorem b_cmp_r (x y : Int) : r32 (b_cmp x y) := by
  unfold b_cmp
  split
  · exact ⟨by decide, by decide⟩
  · split
    · exact ⟨by decide, by decide⟩
    · exact ⟨by decide, by decide⟩
theorem a_lcmp {x y : Int} (hd : decode M.2.1 pc = .ok (.lcmp, 1)) (hn : pc + 1 = n) (k : a_wp G M d n L (vI (b_cmp x y) :: st) z hr hi hl Q) : a_wp G M d pc L (vJ y :: vJ x :: st) z hr hi hl Q := by
  subst hn
  refine a_go k (fun hL hs _ _ => okS_c (show r32 (b_cmp x y) from b_cmp_r x y) (okS_t (okS_t hs))) (fun hL hs p e R s m args below meth c H locs cells slots ls Q0 B kk => ?_)
  have h1 : r64 y := okS_h hs
  have h2 : r64 x := okS_h (okS_t hs)
  refine W.lcmp B.1.1 B.1.2.1 hd ?_
  have he : lg_cmp (Int64.ofInt x) (Int64.ofInt y) = Int32.ofInt (b_cmp x y) := by
    unfold lg_cmp b_cmp
    simp only [gt_iff_lt, Int64.lt_iff_toInt_lt, ← Int64.toInt_inj, a_toJ h1, a_toJ h2]
    split
    · rfl
    · split
      · rfl
      · rfl
  rw [he]
  exact kk
theorem a_icmp_eq {x y : Int} {t : Nat} {off : Int} (hd : decode M.2.1 pc = .ok (.if_icmp .eq off, 3)) (ht : (pc : Int) + off = (t : Int)) (hn : pc + 3 = n) (kt : x = y → a_wp G M d t L st z hr hi hl Q) (kf : ¬ (x = y) → a_wp G M d n L st z hr hi hl Q) : a_wp G M d pc L (vI y :: vI x :: st) z hr hi hl Q := by
  subst hn
  by_cases hc : x = y
  · refine a_go (kt hc) (fun hL hs _ _ => okS_t (okS_t hs)) (fun hL hs p e R s m args below meth c H locs cells slots ls Q0 B kk => ?_)
    have h1 := okI' (okS_h hs)
    have h2 := okI' (okS_h (okS_t hs))
    exact lv_icmp_eq B.1.1 B.1.2.1 hd ht (fun _ => kk) (fun g => absurd ((a_eq h2 h1).mpr hc) g)
  · refine a_go (kf hc) (fun hL hs _ _ => okS_t (okS_t hs)) (fun hL hs p e R s m args below meth c H locs cells slots ls Q0 B kk => ?_)
    have h1 := okI' (okS_h hs)
    have h2 := okI' (okS_h (okS_t hs))
    exact lv_icmp_eq B.1.1 B.1.2.1 hd ht (fun g => absurd ((a_eq h2 h1).mp g) hc) (fun _ => kk)
theorem a_if_eq {x : Int} {t : Nat} {off : Int} (hd : decode M.2.1 pc = .ok (.ifCond .eq off, 3)) (ht : (pc : Int) + off = (t : Int)) (hn : pc + 3 = n) (kt : x = 0 → a_wp G M d t L st z hr hi hl Q) (kf : ¬ (x = 0) → a_wp G M d n L st z hr hi hl Q) : a_wp G M d pc L (vI x :: st) z hr hi hl Q := by
  subst hn
  by_cases hc : x = 0
  · refine a_go (kt hc) (fun hL hs _ _ => okS_t hs) (fun hL hs p e R s m args below meth c H locs cells slots ls Q0 B kk => ?_)
    have h1 := okI' (okS_h hs)
    exact lv_if_eq B.1.1 B.1.2.1 hd ht (fun _ => kk) (fun g => absurd ((a_eq0 h1).mpr hc) g)
  · refine a_go (kf hc) (fun hL hs _ _ => okS_t hs) (fun hL hs p e R s m args below meth c H locs cells slots ls Q0 B kk => ?_)
    have h1 := okI' (okS_h hs)
    exact lv_if_eq B.1.1 B.1.2.1 hd ht (fun g => absurd ((a_eq0 h1).mp g) hc) (fun _ => kk)
theorem a_icmp_ne {x y : Int} {t : Nat} {off : Int} (hd : decode M.2.1 pc = .ok (.if_icmp .ne off, 3)) (ht : (pc : Int) + off = (t : Int)) (hn : pc + 3 = n) (kt : ¬ x = y → a_wp G M d t L st z hr hi hl Q) (kf : x = y → a_wp G M d n L st z hr hi hl Q) : a_wp G M d pc L (vI y :: vI x :: st) z hr hi hl Q := by
  subst hn
  by_cases hc : x = y
  · refine a_go (kf hc) (fun hL hs _ _ => okS_t (okS_t hs)) (fun hL hs p e R s m args below meth c H locs cells slots ls Q0 B kk => ?_)
    have h1 := okI' (okS_h hs)
    have h2 := okI' (okS_h (okS_t hs))
    exact lv_icmp_ne B.1.1 B.1.2.1 hd ht (fun g => absurd ((a_eq h2 h1).mpr hc) g) (fun _ => kk)
  · refine a_go (kt hc) (fun hL hs _ _ => okS_t (okS_t hs)) (fun hL hs p e R s m args below meth c H locs cells slots ls Q0 B kk => ?_)
    have h1 := okI' (okS_h hs)
    have h2 := okI' (okS_h (okS_t hs))
    exact lv_icmp_ne B.1.1 B.1.2.1 hd ht (fun _ => kk) (fun g => absurd ((a_eq h2 h1).mp g) hc)
theorem a_if_ne {x : Int} {t : Nat} {off : Int} (hd : decode M.2.1 pc = .ok (.ifCond .ne off, 3)) (ht : (pc : Int) + off = (t : Int)) (hn : pc + 3 = n) (kt : ¬ x = 0 → a_wp G M d t L st z hr hi hl Q) (kf : x = 0 → a_wp G M d n L st z hr hi hl Q) : a_wp G M d pc L (vI x :: st) z hr hi hl Q := by
  subst hn
  by_cases hc : x = 0
  · refine a_go (kf hc) (fun hL hs _ _ => okS_t hs) (fun hL hs p e R s m args below meth c H locs cells slots ls Q0 B kk => ?_)
    have h1 := okI' (okS_h hs)
    exact lv_if_ne B.1.1 B.1.2.1 hd ht (fun g => absurd ((a_eq0 h1).mpr hc) g) (fun _ => kk)
  · refine a_go (kt hc) (fun hL hs _ _ => okS_t hs) (fun hL hs p e R s m args below meth c H locs cells slots ls Q0 B kk => ?_)
    have h1 := okI' (okS_h hs)
    exact lv_if_ne B.1.1 B.1.2.1 hd ht (fun _ => kk) (fun g => absurd ((a_eq0 h1).mp g) hc)
theorem a_icmp_lt {x y : Int} {t : Nat} {off : Int} (hd : decode M.2.1 pc = .ok (.if_icmp .lt off, 3)) (ht : (pc : Int) + off = (t : Int)) (hn : pc + 3 = n) (kt : x < y → a_wp G M d t L st z hr hi hl Q) (kf : ¬ (x < y) → a_wp G M d n L st z hr hi hl Q) : a_wp G M d pc L (vI y :: vI x :: st) z hr hi hl Q := by
  subst hn
  by_cases hc : x < y
  · refine a_go (kt hc) (fun hL hs _ _ => okS_t (okS_t hs)) (fun hL hs p e R s m args below meth c H locs cells slots ls Q0 B kk => ?_)
    have h1 := okI' (okS_h hs)
    have h2 := okI' (okS_h (okS_t hs))
    exact lv_icmp_lt B.1.1 B.1.2.1 hd ht (fun _ => kk) (fun g => absurd ((a_lt h2 h1).mpr hc) g)
  · refine a_go (kf hc) (fun hL hs _ _ => okS_t (okS_t hs)) (fun hL hs p e R s m args below meth c H locs cells slots ls Q0 B kk => ?_)
    have h1 := okI' (okS_h hs)
    have h2 := okI' (okS_h (okS_t hs))
    exact lv_icmp_lt B.1.1 B.1.2.1 hd ht (fun g => absurd ((a_lt h2 h1).mp g) hc) (fun _ => kk)
theorem a_if_lt {x : Int} {t : Nat} {off : Int} (hd : decode M.2.1 pc = .ok (.ifCond .lt off, 3)) (ht : (pc : Int) + off = (t : Int)) (hn : pc + 3 = n) (kt : x < 0 → a_wp G M d t L st z hr hi hl Q) (kf : ¬ (x < 0) → a_wp G M d n L st z hr hi hl Q) : a_wp G M d pc L (vI x :: st) z hr hi hl Q := by
  subst hn
  by_cases hc : x < 0
  · refine a_go (kt hc) (fun hL hs _ _ => okS_t hs) (fun hL hs p e R s m args below meth c H locs cells slots ls Q0 B kk => ?_)
    have h1 := okI' (okS_h hs)
    exact lv_if_lt B.1.1 B.1.2.1 hd ht (fun _ => kk) (fun g => absurd ((a_lt0 h1).mpr hc) g)
  · refine a_go (kf hc) (fun hL hs _ _ => okS_t hs) (fun hL hs p e R s m args below meth c H locs cells slots ls Q0 B kk => ?_)
    have h1 := okI' (okS_h hs)
    exact lv_if_lt B.1.1 B.1.2.1 hd ht (fun g => absurd ((a_lt0 h1).mp g) hc) (fun _ => kk)
theorem a_icmp_ge {x y : Int} {t : Nat} {off : Int} (hd : decode M.2.1 pc = .ok (.if_icmp .ge off, 3)) (ht : (pc : Int) + off = (t : Int)) (hn : pc + 3 = n) (kt : y ≤ x → a_wp G M d t L st z hr hi hl Q) (kf : ¬ (y ≤ x) → a_wp G M d n L st z hr hi hl Q) : a_wp G M d pc L (vI y :: vI x :: st) z hr hi hl Q := by
  subst hn
  by_cases hc : y ≤ x
  · refine a_go (kt hc) (fun hL hs _ _ => okS_t (okS_t hs)) (fun hL hs p e R s m args below meth c H locs cells slots ls Q0 B kk => ?_)
    have h1 := okI' (okS_h hs)
    have h2 := okI' (okS_h (okS_t hs))
    exact lv_icmp_ge B.1.1 B.1.2.1 hd ht (fun _ => kk) (fun g => absurd ((a_le h1 h2).mpr hc) g)
  · refine a_go (kf hc) (fun hL hs _ _ => okS_t (okS_t hs)) (fun hL hs p e R s m args below meth c H locs cells slots ls Q0 B kk => ?_)
    have h1 := okI' (okS_h hs)
    have h2 := okI' (okS_h (okS_t hs))
    exact lv_icmp_ge B.1.1 B.1.2.1 hd ht (fun g => absurd ((a_le h1 h2).mp g) hc) (fun _ => kk)
theorem a_if_ge {x : Int} {t : Nat} {off : Int} (hd : decode M.2.1 pc = .ok (.ifCond .ge off, 3)) (ht : (pc : Int) + off = (t : Int)) (hn : pc + 3 = n) (kt : 0 ≤ x → a_wp G M d t L st z hr hi hl Q) (kf : ¬ (0 ≤ x) → a_wp G M d n L st z hr hi hl Q) : a_wp G M d pc L (vI x :: st) z hr hi hl Q := by
  subst hn
  by_cases hc : 0 ≤ x
  · refine a_go (kt hc) (fun hL hs _ _ => okS_t hs) (fun hL hs p e R s m args below meth c H locs cells slots ls Q0 B kk => ?_)
    have h1 := okI' (okS_h hs)
    exact lv_if_ge B.1.1 B.1.2.1 hd ht (fun _ => kk) (fun g => absurd ((a_0le h1).mpr hc) g)
  · refine a_go (kf hc) (fun hL hs _ _ => okS_t hs) (fun hL hs p e R s m args below meth c H locs cells slots ls Q0 B kk => ?_)
    have h1 := okI' (okS_h hs)
    exact lv_if_ge B.1.1 B.1.2.1 hd ht (fun g => absurd ((a_0le h1).mp g) hc) (fun _ => kk)
theorem a_icmp_gt {x y : Int} {t : Nat} {off : Int} (hd : decode M.2.1 pc = .ok (.if_icmp .gt off, 3)) (ht : (pc : Int) + off = (t : Int)) (hn : pc + 3 = n) (kt : y < x → a_wp G M d t L st z hr hi hl Q) (kf : ¬ (y < x) → a_wp G M d n L st z hr hi hl Q) : a_wp G M d pc L (vI y :: vI x :: st) z hr hi hl Q := by
  subst hn
  by_cases hc : y < x
  · refine a_go (kt hc) (fun hL hs _ _ => okS_t (okS_t hs)) (fun hL hs p e R s m args below meth c H locs cells slots ls Q0 B kk => ?_)
    have h1 := okI' (okS_h hs)
    have h2 := okI' (okS_h (okS_t hs))
    exact lv_icmp_gt B.1.1 B.1.2.1 hd ht (fun _ => kk) (fun g => absurd ((a_lt h1 h2).mpr hc) g)
  · refine a_go (kf hc) (fun hL hs _ _ => okS_t (okS_t hs)) (fun hL hs p e R s m args below meth c H locs cells slots ls Q0 B kk => ?_)
    have h1 := okI' (okS_h hs)
    have h2 := okI' (okS_h (okS_t hs))
    exact lv_icmp_gt B.1.1 B.1.2.1 hd ht (fun g => absurd ((a_lt h1 h2).mp g) hc) (fun _ => kk)
theorem a_if_gt {x : Int} {t : Nat} {off : Int} (hd : decode M.2.1 pc = .ok (.ifCond .gt off, 3)) (ht : (pc : Int) + off = (t : Int)) (hn : pc + 3 = n) (kt : 0 < x → a_wp G M d t L st z hr hi hl Q) (kf : ¬ (0 < x) → a_wp G M d n L st z hr hi hl Q) : a_wp G M d pc L (vI x :: st) z hr hi hl Q := by
  subst hn
  by_cases hc : 0 < x
  · refine a_go (kt hc) (fun hL hs _ _ => okS_t hs) (fun hL hs p e R s m args below meth c H locs cells slots ls Q0 B kk => ?_)
    have h1 := okI' (okS_h hs)
    exact lv_if_gt B.1.1 B.1.2.1 hd ht (fun _ => kk) (fun g => absurd ((a_0lt h1).mpr hc) g)
  · refine a_go (kf hc) (fun hL hs _ _ => okS_t hs) (fun hL hs p e R s m args below meth c H locs cells slots ls Q0 B kk => ?_)
    have h1 := okI' (okS_h hs)
    exact lv_if_gt B.1.1 B.1.2.1 hd ht (fun g => absurd ((a_0lt h1).mp g) hc) (fun _ => kk)
theorem a_icmp_le {x y : Int} {t : Nat} {off : Int} (hd : decode M.2.1 pc = .ok (.if_icmp .le off, 3)) (ht : (pc : Int) + off = (t : Int)) (hn : pc + 3 = n) (kt : x ≤ y → a_wp G M d t L st z hr hi hl Q) (kf : ¬ (x ≤ y) → a_wp G M d n L st z hr hi hl Q) : a_wp G M d pc L (vI y :: vI x :: st) z hr hi hl Q := by
  subst hn
  by_cases hc : x ≤ y
  · refine a_go (kt hc) (fun hL hs _ _ => okS_t (okS_t hs)) (fun hL hs p e R s m args below meth c H locs cells slots ls Q0 B kk => ?_)
    have h1 := okI' (okS_h hs)
    have h2 := okI' (okS_h (okS_t hs))
    exact lv_icmp_le B.1.1 B.1.2.1 hd ht (fun _ => kk) (fun g => absurd ((a_le h2 h1).mpr hc) g)
  · refine a_go (kf hc) (fun hL hs _ _ => okS_t (okS_t hs)) (fun hL hs p e R s m args below meth c H locs cells slots ls Q0 B kk => ?_)
    have h1 := okI' (okS_h hs)
    have h2 := okI' (okS_h (okS_t hs))
    exact lv_icmp_le B.1.1 B.1.2.1 hd ht (fun g => absurd ((a_le h2 h1).mp g) hc) (fun _ => kk)
theorem a_if_le {x : Int} {t : Nat} {off : Int} (hd : decode M.2.1 pc = .ok (.ifCond .le off, 3)) (ht : (pc : Int) + off = (t : Int)) (hn : pc + 3 = n) (kt : x ≤ 0 → a_wp G M d t L st z hr hi hl Q) (kf : ¬ (x ≤ 0) → a_wp G M d n L st z hr hi hl Q) : a_wp G M d pc L (vI x :: st) z hr hi hl Q := by
  subst hn
  by_cases hc : x ≤ 0
  · refine a_go (kt hc) (fun hL hs _ _ => okS_t hs) (fun hL hs p e R s m args below meth c H locs cells slots ls Q0 B kk => ?_)
    have h1 := okI' (okS_h hs)
    exact lv_if_le B.1.1 B.1.2.1 hd ht (fun _ => kk) (fun g => absurd ((a_le0 h1).mpr hc) g)
  · refine a_go (kf hc) (fun hL hs _ _ => okS_t hs) (fun hL hs p e R s m args below meth c H locs cells slots ls Q0 B kk => ?_)
    have h1 := okI' (okS_h hs)
    exact lv_if_le B.1.1 B.1.2.1 hd ht (fun g => absurd ((a_le0 h1).mp g) hc) (fun _ => kk)
theorem a_goto {t : Nat} {off : Int} (hd : decode M.2.1 pc = .ok (.goto off, 3)) (ht : (pc : Int) + off = (t : Int)) (k : a_wp G M d t L st z hr hi hl Q) : a_wp G M d pc L st z hr hi hl Q :=
  a_go k (fun hL hs _ _ => hs) (fun hL hs p e R s m args below meth c H locs cells slots ls Q0 B kk => lv_goto B.1.1 B.1.2.1 hd ht kk)
theorem a_ifnull {o : Option Nat} {t : Nat} {off : Int} (hd : decode M.2.1 pc = .ok (.ifnull off, 3)) (ht : (pc : Int) + off = (t : Int)) (hn : pc + 3 = n) (kt : o = none → a_wp G M d t L st z hr hi hl Q) (kf : ∀ a, o = some a → a_wp G M d n L st z hr hi hl Q) : a_wp G M d pc L (vO o :: st) z hr hi hl Q := by
  subst hn
  cases o with
  | none => exact a_go (kt rfl) (fun hL hs _ _ => okS_t hs) (fun hL hs p e R s m args below meth c H locs cells slots ls Q0 B kk => lv_ifnullN B.1.1 B.1.2.1 hd ht kk)
  | some a => exact a_go (kf a rfl) (fun hL hs _ _ => okS_t hs) (fun hL hs p e R s m args below meth c H locs cells slots ls Q0 B kk => lv_ifnull B.1.1 B.1.2.1 hd kk)
theorem a_ifnonnull {o : Option Nat} {t : Nat} {off : Int} (hd : decode M.2.1 pc = .ok (.ifnonnull off, 3)) (ht : (pc : Int) + off = (t : Int)) (hn : pc + 3 = n) (kt : ∀ a, o = some a → a_wp G M d t L st z hr hi hl Q) (kf : o = none → a_wp G M d n L st z hr hi hl Q) : a_wp G M d pc L (vO o :: st) z hr hi hl Q := by
  subst hn
  cases o with
  | none => exact a_go (kf rfl) (fun hL hs _ _ => okS_t hs) (fun hL hs p e R s m args below meth c H locs cells slots ls Q0 B kk => lv_ifnonnullN B.1.1 B.1.2.1 hd kk)
  | some a => exact a_go (kt a rfl) (fun hL hs _ _ => okS_t hs) (fun hL hs p e R s m args below meth c H locs cells slots ls Q0 B kk => lv_ifnonnull B.1.1 B.1.2.1 hd ht kk)
theorem a_tableOut {x dflt lo hi' : Int} {offs : Array Int} {len t : Nat} (hd : decode M.2.1 pc = .ok (.tableswitch dflt lo hi' offs, len)) (h : x < lo ∨ hi' < x) (ht : (pc : Int) + dflt = (t : Int)) (k : a_wp G M d t L st z hr hi hl Q) : a_wp G M d pc L (vI x :: st) z hr hi hl Q := by
  refine a_go k (fun hL hs _ _ => okS_t hs) (fun hL hs p e R s m args below meth c H locs cells slots ls Q0 B kk => ?_)
  have h1 := okI' (okS_h hs)
  exact lv_tableOut B.1.1 B.1.2.1 hd (by rw [a_toI h1]; exact h) ht kk
theorem a_tableIn {x dflt lo hi' off : Int} {offs : Array Int} {len t : Nat} (hd : decode M.2.1 pc = .ok (.tableswitch dflt lo hi' offs, len)) (h : lo ≤ x) (h2 : x ≤ hi') (ho : offs[(x - lo).toNat]? = some off) (ht : (pc : Int) + off = (t : Int)) (k : a_wp G M d t L st z hr hi hl Q) : a_wp G M d pc L (vI x :: st) z hr hi hl Q := by
  refine a_go k (fun hL hs _ _ => okS_t hs) (fun hL hs p e R s m args below meth c H locs cells slots ls Q0 B kk => ?_)
  have h1 := okI' (okS_h hs)
  exact lv_tableIn B.1.1 B.1.2.1 hd (by rw [a_toI h1]; omega) (by rw [a_toI h1]; omega) (by rw [a_toI h1]; exact ho) ht kk
end B
end
section
/-! locals that are written; cells that are read and written -/
def a_clr (L : List (Option aV)) (i : Nat) : List (Option aV) := match i with
  | 0 => L
  | j + 1 => match L[j]? with
    | some (some (.inr (.inl _))) => L.set j none
    | _ => L
def a_st (L : List (Option aV)) (i : Nat) (v : aV) : List (Option aV) := (a_clr L i).set i (some v)
def a_st2 (L : List (Option aV)) (i : Nat) (v : aV) : List (Option aV) := ((a_clr L i).set i (some v)).set (i + 1) none
def a_as (G : aG) (L : List (Option aV)) : List (Nat × Value) := L.zipIdx.filterMap (fun q => q.1.map (fun v => (q.2, a_cv G v)))
theorem a_as_mem {G : aG} {L : List (Option aV)} {i : Nat} {v : aV} (h : L[i]? = some (some v)) : (i, a_cv G v) ∈ a_as G L := by
  unfold a_as
  rw [List.mem_filterMap]
  refine ⟨(some v, i), ?_, rfl⟩
  exact List.mk_mem_zipIdx_iff_getElem?.mpr h
theorem a_L.has {G : aG} {L : List (Option aV)} {ls : Array Slot} {nL : Nat} (h : a_L G L ls nL) : lv_has ls nL (a_as G L) := by
  refine ⟨h.1, h.2.1, fun q hq => ?_⟩
  unfold a_as at hq
  obtain ⟨x, hx, he⟩ := List.mem_filterMap.mp hq
  obtain ⟨o, i⟩ := x
  cases o with
  | none => cases he
  | some v =>
    cases he
    exact h.2.2 i v (List.mk_mem_zipIdx_iff_getElem?.mp hx)
theorem a_cat2 {G : aG} {v : aV} (h : (a_cv G v).category = 2) : ∃ j, v = vJ j := by
  match v with
  | .inl i => cases h
  | .inr (.inl j) => exact ⟨j, rfl⟩
  | .inr (.inr none) => cases h
  | .inr (.inr (some a)) => cases h
theorem a_clr_len (L : List (Option aV)) (i : Nat) : (a_clr L i).length = L.length := by
  unfold a_clr
  split
  · rfl
  · split
    · simp
    · rfl
theorem a_clr_at {G : aG} {L : List (Option aV)} {i k : Nat} {w : aV} (h : (a_clr L i)[k]? = some (some w)) : L[k]? = some (some w) ∧ ¬ (k + 1 = i ∧ (a_cv G w).category = 2) := by
  unfold a_clr at h
  split at h
  · exact ⟨h, fun q => by omega⟩
  · rename_i j
    split at h
    · rename_i x hx
      by_cases hk : j = k
      · subst hk
        rw [List.getElem?_set_self (by exact (List.getElem?_eq_some_iff.mp hx).1)] at h
        cases h
      · rw [List.getElem?_set_ne hk] at h
        exact ⟨h, fun q => hk (by omega)⟩
    · rename_i hx
      refine ⟨h, fun q => ?_⟩
      obtain ⟨q1, q2⟩ := q
      have : k = j := by omega
      subst this
      obtain ⟨y, rfl⟩ := a_cat2 q2
      exact hx y h
theorem a_L.st1 {G : aG} {L : List (Option aV)} {ls' : Array Slot} {nL i : Nat} {v : aV} (h : lv_has ls' nL ((i, a_cv G v) :: (a_as G L).filter (fun q => !(q.1 == i) && !(q.1 + 1 == i && q.2.category == 2)))) : a_L G (a_st L i v) ls' nL := by
  refine ⟨h.1, h.2.1, fun k w hk => ?_⟩
  unfold a_st at hk
  by_cases e : i = k
  · subst e
    rw [List.getElem?_set] at hk
    simp only [if_true] at hk
    split at hk
    · cases hk
      exact h.2.2 _ List.mem_cons_self
    · cases hk
  · rw [List.getElem?_set_ne e] at hk
    obtain ⟨h1, h2⟩ := a_clr_at (G := G) hk
    refine h.2.2 (k, a_cv G w) (List.mem_cons_of_mem _ (List.mem_filter.mpr ⟨a_as_mem h1, ?_⟩))
    simp only [Bool.and_eq_true, Bool.not_eq_true', beq_eq_false_iff_ne, ne_eq, Bool.and_eq_false_iff]
    refine ⟨fun q => e q.symm, ?_⟩
    by_cases g : k + 1 = i
    · exact Or.inr (fun q => h2 ⟨g, q⟩)
    · exact Or.inl g
theorem a_L.st2 {G : aG} {L : List (Option aV)} {ls' : Array Slot} {nL i : Nat} {v : aV} (h : lv_has ls' nL ((i, a_cv G v) :: (a_as G L).filter (fun q => !(q.1 == i) && (!(q.1 == i + 1) && !(q.1 + 1 == i && q.2.category == 2))))) : a_L G (a_st2 L i v) ls' nL := by
  refine ⟨h.1, h.2.1, fun k w hk => ?_⟩
  unfold a_st2 at hk
  by_cases e2 : i + 1 = k
  · subst e2
    rw [List.getElem?_set] at hk
    simp only [if_true] at hk
    split at hk
    · cases hk
    · cases hk
  rw [List.getElem?_set_ne e2] at hk
  by_cases e : i = k
  · subst e
    rw [List.getElem?_set] at hk
    simp only [if_true] at hk
    split at hk
    · cases hk
      exact h.2.2 _ List.mem_cons_self
    · cases hk
  · rw [List.getElem?_set_ne e] at hk
    obtain ⟨h1, h2⟩ := a_clr_at (G := G) hk
    refine h.2.2 (k, a_cv G w) (List.mem_cons_of_mem _ (List.mem_filter.mpr ⟨a_as_mem h1, ?_⟩))
    simp only [Bool.and_eq_true, Bool.not_eq_true', beq_eq_false_iff_ne, ne_eq, Bool.and_eq_false_iff]
    refine ⟨fun q => e q.symm, fun q => e2 q.symm, ?_⟩
    by_cases g : k + 1 = i
    · exact Or.inr (fun q => h2 ⟨g, q⟩)
    · exact Or.inl g
theorem okL_clr {L : List (Option aV)} {i : Nat} (h : okL L) : okL (a_clr L i) := by
  unfold a_clr
  split
  · exact h
  · split
    · intro v hv
      rcases List.mem_or_eq_of_mem_set hv with q | q
      · exact h v q
      · cases q
    · exact h
theorem okL_st {L : List (Option aV)} {i : Nat} {v : aV} (h : okL L) (hv : a_ok v) : okL (a_st L i v) := by
  intro w hw
  rcases List.mem_or_eq_of_mem_set hw with q | q
  · exact okL_clr h w q
  · cases q; exact hv
theorem okL_st2 {L : List (Option aV)} {i : Nat} {v : aV} (h : okL L) (hv : a_ok v) : okL (a_st2 L i v) := by
  intro w hw
  rcases List.mem_or_eq_of_mem_set hw with q | q
  · rcases List.mem_or_eq_of_mem_set q with q | q
    · exact okL_clr h w q
    · cases q; exact hv
  · cases q
section B
variable {G : aG} {M : aM} {d pc n : Nat} {L : List (Option aV)} {st : List aV} {z : aZ} {hr : aR} {hi hl : aI} {Q : Option aV → aZ → aR → aI → aI → Prop}
/-- a step that writes a local alone -/
theorem a_goL {pc2 : Nat} {L2 : List (Option aV)} {st2 : List aV} (k : a_wp G M d pc2 L2 st2 z hr hi hl Q) (hok : okL L → okS st → okL L2 ∧ okS st2)
    (hs : okL L → okS st → ∀ (p : Program) (e : Env) (R : Room) (s : State) (m : MethodId) (args : Array Value) (below : List Frame) (meth : Method) (c : Code) (H : Heap) (locs : List Loc) (cells slots : Nat) (ls : Array Slot) (Q0 : State → Prop),
      a_B G M d 0 0 L z hr hi hl p R s m args meth c H locs cells slots ls →
      (∀ ls2 : Array Slot, a_L G L2 ls2 M.2.2.1 → W p (gl G) e R s m args below meth c H locs cells slots Q0 (F0 m pc2 ls2 (st2.map (a_cv G)))) →
      W p (gl G) e R s m args below meth c H locs cells slots Q0 (F0 m pc ls (st.map (a_cv G)))) : a_wp G M d pc L st z hr hi hl Q :=
  a_step k 0 0 rfl rfl hok (fun _ hL hS p e R s m args below meth c H locs cells slots ls Q0 B kk => hs hL hS p e R s m args below meth c H locs cells slots ls Q0 B (fun ls2 h2 => kk H locs ls2 B.2.2.2.2.2.1 B.2.2.2.2.2.2.2.1 h2))
theorem a_istore_n {q : Fin 4} {x : Int} (hd : decode M.2.1 pc = .ok (.istore_n q, 1)) (hn : pc + 1 = n) (hL : (q : Nat) < M.2.2.1) (k : a_wp G M d n (a_st L (q : Nat) (vI x)) st z hr hi hl Q) : a_wp G M d pc L (vI x :: st) z hr hi hl Q := by
  subst hn
  refine a_goL k (fun hL hs => ⟨okL_st hL (okS_h hs), okS_t hs⟩) (fun _ hs p e R s m args below meth c H locs cells slots ls Q0 B kk => ?_)
  exact lv_istore_n B.1.1 B.1.2.1 hd rfl (B.2.2.2.2.2.2.2.2.2.2).has hL rfl (fun ls' h' => kk ls' (a_L.st1 h'))
theorem a_istore {i : Nat} {x : Int} (hd : decode M.2.1 pc = .ok (.istore i, 2)) (hn : pc + 2 = n) (hL : i < M.2.2.1) (k : a_wp G M d n (a_st L i (vI x)) st z hr hi hl Q) : a_wp G M d pc L (vI x :: st) z hr hi hl Q := by
  subst hn
  refine a_goL k (fun hL hs => ⟨okL_st hL (okS_h hs), okS_t hs⟩) (fun _ hs p e R s m args below meth c H locs cells slots ls Q0 B kk => ?_)
  exact lv_istore B.1.1 B.1.2.1 hd (B.2.2.2.2.2.2.2.2.2.2).has hL rfl (fun ls' h' => kk ls' (a_L.st1 h'))
theorem a_astore_n {q : Fin 4} {o : Option Nat} (hd : decode M.2.1 pc = .ok (.astore_n q, 1)) (hn : pc + 1 = n) (hL : (q : Nat) < M.2.2.1) (k : a_wp G M d n (a_st L (q : Nat) (vO o)) st z hr hi hl Q) : a_wp G M d pc L (vO o :: st) z hr hi hl Q := by
  subst hn
  refine a_goL k (fun hL hs => ⟨okL_st hL (okS_h hs), okS_t hs⟩) (fun _ hs p e R s m args below meth c H locs cells slots ls Q0 B kk => ?_)
  cases o with
  | none => exact lv_astore_nN B.1.1 B.1.2.1 hd rfl (B.2.2.2.2.2.2.2.2.2.2).has hL rfl (fun ls' h' => kk ls' (a_L.st1 (v := vO none) h'))
  | some a => exact lv_astore_n B.1.1 B.1.2.1 hd rfl (B.2.2.2.2.2.2.2.2.2.2).has hL rfl (fun ls' h' => kk ls' (a_L.st1 (v := vR a) h'))
theorem a_astore {i : Nat} {o : Option Nat} (hd : decode M.2.1 pc = .ok (.astore i, 2)) (hn : pc + 2 = n) (hL : i < M.2.2.1) (k : a_wp G M d n (a_st L i (vO o)) st z hr hi hl Q) : a_wp G M d pc L (vO o :: st) z hr hi hl Q := by
  subst hn
  refine a_goL k (fun hL hs => ⟨okL_st hL (okS_h hs), okS_t hs⟩) (fun _ hs p e R s m args below meth c H locs cells slots ls Q0 B kk => ?_)
  cases o with
  | none => exact lv_astoreN B.1.1 B.1.2.1 hd (B.2.2.2.2.2.2.2.2.2.2).has hL rfl (fun ls' h' => kk ls' (a_L.st1 (v := vO none) h'))
  | some a => exact lv_astore B.1.1 B.1.2.1 hd (B.2.2.2.2.2.2.2.2.2.2).has hL rfl (fun ls' h' => kk ls' (a_L.st1 (v := vR a) h'))
theorem a_lstore {i : Nat} {x : Int} (hd : decode M.2.1 pc = .ok (.lstore i, 2)) (hn : pc + 2 = n) (hL : i + 1 < M.2.2.1) (k : a_wp G M d n (a_st2 L i (vJ x)) st z hr hi hl Q) : a_wp G M d pc L (vJ x :: st) z hr hi hl Q := by
  subst hn
  refine a_goL k (fun hL hs => ⟨okL_st2 hL (okS_h hs), okS_t hs⟩) (fun _ hs p e R s m args below meth c H locs cells slots ls Q0 B kk => ?_)
  exact lv_lstore B.1.1 B.1.2.1 hd (B.2.2.2.2.2.2.2.2.2.2).has hL rfl (fun ls' h' => kk ls' (a_L.st2 h'))
theorem a_iinc {i : Nat} {x c0 : Int} (hd : decode M.2.1 pc = .ok (.iinc i c0, 3)) (hn : pc + 3 = n) (hL : i < M.2.2.1) (hx : L[i]? = some (some (vI x))) (h1 : r32 (x + c0)) (k : a_wp G M d n (a_st L i (vI (x + c0))) st z hr hi hl Q) : a_wp G M d pc L st z hr hi hl Q := by
  subst hn
  refine a_goL k (fun hL hs => ⟨okL_st hL h1, hs⟩) (fun _ hs p e R s m args below meth c H locs cells slots ls Q0 B kk => ?_)
  obtain ⟨q, hq⟩ := List.getElem?_of_mem (a_as_mem (G := G) hx)
  refine lv_iinc (v := Int32.ofInt (x + c0)) B.1.1 B.1.2.1 hd (B.2.2.2.2.2.2.2.2.2.2).has hq ?_ hL rfl (fun ls' h' => kk ls' (a_L.st1 (v := vI (x + c0)) h'))
  rw [Int32.ofInt_add]
end B
/-! the classes' tables -/
def a_T (t : Nat) : u_T := match t with
  | 0 => TX0
  | 1 => TX1
  | 2 => TX2
  | 3 => TX3
  | 4 => TX4
  | 5 => TX5
  | 6 => TX6
  | 7 => TX7
  | 8 => TX8
  | 9 => TX9
  | _ => TX10
def a_Rn (t : Nat) : String := match t with
  | 0 => RX0
  | 1 => RX1
  | 2 => RX2
  | 3 => RX3
  | 4 => RX4
  | 5 => RX5
  | 6 => RX6
  | 7 => RX7
  | 8 => RX8
  | 9 => RX9
  | _ => RX10
theorem a_11 {P : Nat → Prop} (h0 : P 0) (h1 : P 1) (h2 : P 2) (h3 : P 3) (h4 : P 4) (h5 : P 5) (h6 : P 6) (h7 : P 7) (h8 : P 8) (h9 : P 9) (h10 : P 10) (t : Nat) (ht : t < 11) : P t := by
  match t, ht with
  | 0, _ => exact h0
  | 1, _ => exact h1
  | 2, _ => exact h2
  | 3, _ => exact h3
  | 4, _ => exact h4
  | 5, _ => exact h5
  | 6, _ => exact h6
  | 7, _ => exact h7
  | 8, _ => exact h8
  | 9, _ => exact h9
  | 10, _ => exact h10
  | q + 11, hq => exact absurd hq (by omega)
theorem a_vw (t : Nat) (h : t < 11) : vwCl[t]? = some (a_Rn t, a_T t, a_nf t) := a_11 (P := fun t => vwCl[t]? = some (a_Rn t, a_T t, a_nf t)) rfl rfl rfl rfl rfl rfl rfl rfl rfl rfl rfl t h
theorem a_tyok (t : Nat) (h : t < 11) : ∀ k, k < a_nf t → parseFieldDescriptor (a_T t k).2.2.1 = some (a_ty t k) := a_11 (P := fun t => ∀ k, k < a_nf t → parseFieldDescriptor (a_T t k).2.2.1 = some (a_ty t k)) tyX0_ok tyX1_ok tyX2_ok tyX3_ok tyX4_ok tyX5_ok tyX6_ok tyX7_ok tyX8_ok tyX9_ok tyX10_ok t h
theorem a_nm (t : Nat) (h : t < 11) : ∀ a, a < a_nf t → ∀ b, b < a_nf t → a ≠ b → (a_T t a).2.1 ≠ (a_T t b).2.1 := a_11 (P := fun t => ∀ a, a < a_nf t → ∀ b, b < a_nf t → a ≠ b → (a_T t a).2.1 ≠ (a_T t b).2.1) nmX0 nmX1 nmX2 nmX3 nmX4 nmX5 nmX6 nmX7 nmX8 nmX9 nmX10 t h
theorem a_gw (C : String) (T : u_T) (N : Nat) : ∀ w ∈ u_ws C T N, goodWord w = true := by
  intro w hw
  obtain ⟨k, -, rfl⟩ := List.mem_map.mp hw
  unfold u_lay
  split <;> rfl
theorem a_in (t : Nat) (h : t < 11) : ∀ w ∈ u_ws (a_Rn t) (a_T t) (a_nf t), w ∈ lw_tbl.filter goodWord := by
  intro w hw
  refine List.mem_filter.mpr ⟨?_, a_gw _ _ _ w hw⟩
  exact a_11 (P := fun t => ∀ w ∈ u_ws (a_Rn t) (a_T t) (a_nf t), w ∈ lw_tbl) inX0 inX1 inX2 inX3 inX4 inX5 inX6 inX7 inX8 inX9 inX10 t h w hw
theorem a_Cx.ts {M : aM} {p : Program} {s : State} {m : MethodId} {args : Array Value} {meth : Method} {c : Code} (C : a_Cx M p s m args meth c) : ∀ w ∈ lw_tbl.filter goodWord, w.before args s = true := fun w hw => C.2.2.2.2.1 w (List.mem_filter.mp hw).1 (List.mem_filter.mp hw).2
/-- a cell of a kind and a length -/
def a_is (z : aZ) (a t : Nat) (len : Int) : Prop := a < z.1 ∧ z.2.2 a = (t, len)
/-- a link to a field: of the class t the k-th (ki: the same as an Int), a reference or not -/
def a_Fl (own : String) (idx t k : Nat) (ki : Int) (isR : Bool) : Prop := t < 11 ∧ k < a_nf t ∧ (k : Int) = ki ∧ Cond.fieldLink own idx (a_T t k).1 (a_T t k).2.1 (a_T t k).2.2.1 ∈ lw_tbl ∧ a_isR (a_ty t k) = isR
def up2 {α : Type} (f : Nat → Int → α) (a : Nat) (i : Int) (v : α) : Nat → Int → α := fun b j => if b = a ∧ j = i then v else f b j
theorem a_obj {G : aG} {z : aZ} {hr : aR} {hi hl : aI} {H : Heap} {a t : Nat} {len : Int} (h : a_rp G z hr hi hl H) (hs : a_is z a t len) (ht : t < 11) : t_OB (gb G + a) (gC G t) (a_nf t) (gI G t) H (fun k => a_fv G t k (hi a k) (hr a k)) := by
  have h1 := h.2.2.1 a hs.1
  unfold a_cell at h1
  rw [hs.2] at h1
  simpa [ht] using h1
theorem a_arr {G : aG} {z : aZ} {hr : aR} {hi hl : aI} {H : Heap} {a t : Nat} {len : Int} (h : a_rp G z hr hi hl H) (hs : a_is z a t len) (ht : 11 ≤ t) (ht2 : t < 30) : H[gb G + a]? = some (arrV (gA G t) len.toNat (fun j => a_av G t (hi a j) (hl a j) (hr a j))) := by
  have h1 := h.2.2.1 a hs.1
  unfold a_cell at h1
  rw [hs.2] at h1
  simpa [Nat.not_lt.mpr ht, ht2] using h1
theorem a_cvR {G : aG} {a : Nat} (h : a < 1000000000) : a_cv G (vR a) = .ref (gb G + a) := by
  show va_rf (some (a_ca G a)) = _
  unfold a_ca
  rw [if_pos h]
  rfl
end
section
/-! getfield, putfield, arrays, what is made new -/
theorem a_cellq {G : aG} {z : aZ} {hr hr2 : aR} {hi hi2 hl hl2 : aI} {H H2 : Heap} {b : Nat} (h : a_cell G z hr hi hl b H) (h1 : ∀ j, hr2 b j = hr b j) (h2 : ∀ j, hi2 b j = hi b j) (h3 : ∀ j, hl2 b j = hl b j) (hq : H2[gb G + b]? = H[gb G + b]?) : a_cell G z hr2 hi2 hl2 b H2 := by
  unfold a_cell at h ⊢
  split
  · rename_i g
    rw [if_pos g] at h
    exact (h.kept hq).to (fun k _ => by rw [h1, h2])
  · rename_i g
    rw [if_neg g] at h
    split
    · rename_i g2
      rw [if_pos g2] at h
      rw [hq, h]
      congr 2
      funext j
      rw [h1, h2, h3]
    · trivial
/-- one cell is written -/
theorem a_rp.set {G : aG} {z : aZ} {hr hr2 : aR} {hi hi2 hl hl2 : aI} {H H2 : Heap} {a : Nat} (h : a_rp G z hr hi hl H) (hz : H2.size = H.size) (hq : ∀ q : Nat, q ≠ gb G + a → H2[q]? = H[q]?) (h1 : ∀ b j, b ≠ a → hr2 b j = hr b j) (h2 : ∀ b j, b ≠ a → hi2 b j = hi b j) (h3 : ∀ b j, b ≠ a → hl2 b j = hl b j) (hc : a_cell G z hr2 hi2 hl2 a H2) (g1 : ∀ a i, r32 (hi2 a i)) (g2 : ∀ a i, r64 (hl2 a i)) : a_rp G z hr2 hi2 hl2 H2 := by
  refine ⟨by rw [hz]; exact h.1, h.2.1, fun b hb => ?_, fun q hq1 => by rw [hq q (by omega)]; exact h.2.2.2.1 q hq1, g1, g2⟩
  by_cases e : b = a
  · subst e; exact hc
  · exact a_cellq (h.2.2.1 b hb) (fun j => h1 b j e) (fun j => h2 b j e) (fun j => h3 b j e) (hq _ (by omega))
theorem up2_s {α : Type} {f : Nat → Int → α} {a : Nat} {i : Int} {v : α} : up2 f a i v a i = v := by simp [up2]
theorem up2_n {α : Type} {f : Nat → Int → α} {a b : Nat} {i j : Int} {v : α} (h : b ≠ a) : up2 f a i v b j = f b j := by simp [up2, h]
theorem up2_m {α : Type} {f : Nat → Int → α} {a b : Nat} {i j : Int} {v : α} (h : j ≠ i) : up2 f a i v b j = f b j := by simp [up2, h]
theorem up2_r {f : aI} {a : Nat} {i v : Int} {P : Int → Prop} (h : ∀ a i, P (f a i)) (hv : P v) : ∀ b j, P (up2 f a i v b j) := fun b j => by
  unfold up2; split
  · exact hv
  · exact h b j
theorem a_P1 {G : aG} {A t : Nat} {H : Heap} {V : Nat → Value} (ht : t < 11) (h : t_OB A (gC G t) (a_nf t) (gI G t) H V) : va_P (gC G, gI G) vwCl [(A, .inr (t, (List.range (a_nf t)).map V))] H := by
  intro k q hk
  have h1 : k = 0 := by
    have := (List.getElem?_eq_some_iff.mp hk).1
    simp at this; omega
  subst h1
  cases hk
  refine ⟨_, a_vw t ht, h.to (fun k hk => ?_)⟩
  simp [vp_V, hk]
section C
variable {G : aG} {M : aM} {d pc n : Nat} {L : List (Option aV)} {st : List aV} {z : aZ} {hr : aR} {hi hl : aI} {Q : Option aV → aZ → aR → aI → aI → Prop}
variable {p : Program} {e : Env} {R : Room} {s : State} {m : MethodId} {args : Array Value} {below : List Frame} {meth : Method} {c : Code} {H : Heap} {locs : List Loc} {cells slots : Nat} {ls : Array Slot} {Q0 : State → Prop} {dc ds : Nat} {rest : List Value}
theorem a_getW {idx t k a : Nat} {ki len : Int} {isR : Bool} (B : a_B G M d dc ds L z hr hi hl p R s m args meth c H locs cells slots ls) (F : a_Fl M.1.cls idx t k ki isR) (hs : a_is z a t len) (hd : decode M.2.1 pc = .ok (.getfield idx, 3))
    (kk : W p (gl G) e R s m args below meth c H locs cells slots Q0 (F0 m (pc + 3) ls (a_fv G t k (hi a ki) (hr a ki) :: rest))) : W p (gl G) e R s m args below meth c H locs cells slots Q0 (F0 m pc ls (.ref (gb G + a) :: rest)) := by
  have ho := a_obj B.2.2.2.2.2.1 hs F.1
  refine va_get (D := (gC G, gI G)) (cl := vwCl) (tys := a_tys G) (ci := t) (C := a_Rn t) (T := a_T t) (N := a_nf t) B.1.1 B.1.2.1 B.1.ts (a_in t F.1) B.1.2.2.2.1 B.2.2.2.2.2.2.1.1 (a_P1 F.1 ho) 0 rfl (a_vw t F.1) k F.2.1 (B.1.2.2.2.2.1 _ F.2.2.2.1 rfl) (fun _ h => h) ?_ hd kk
  simp [F.2.1, F.2.2.1]
theorem a_lt9 (B : a_B G M d dc ds L z hr hi hl p R s m args meth c H locs cells slots ls) {a t : Nat} {len : Int} (hs : a_is z a t len) : a < 1000000000 := Nat.lt_trans hs.1 B.2.2.2.2.2.1.2.1
theorem a_getI {idx t k a : Nat} {ki len : Int} (hd : decode M.2.1 pc = .ok (.getfield idx, 3)) (hn : pc + 3 = n) (F : a_Fl M.1.cls idx t k ki false) (hs : a_is z a t len) (kw : a_wp G M d n L (vI (hi a ki) :: st) z hr hi hl Q) : a_wp G M d pc L (vR a :: st) z hr hi hl Q := by
  subst hn
  refine a_go kw (fun hL hs h1 h2 => okS_c (show r32 _ from h1 _ _) (okS_t hs)) (fun hL hS p e R s m args below meth c H locs cells slots ls Q0 B kk => ?_)
  have := a_getW (rest := st.map (a_cv G)) (Q0 := Q0) (e := e) (below := below) B F hs hd (by unfold a_fv; rw [if_neg (by rw [F.2.2.2.2]; decide)]; exact kk)
  rwa [← a_cvR (a_lt9 B hs)] at this
theorem a_getO {idx t k a : Nat} {ki len : Int} (hd : decode M.2.1 pc = .ok (.getfield idx, 3)) (hn : pc + 3 = n) (F : a_Fl M.1.cls idx t k ki true) (hs : a_is z a t len) (kw : a_wp G M d n L (vO (hr a ki) :: st) z hr hi hl Q) : a_wp G M d pc L (vR a :: st) z hr hi hl Q := by
  subst hn
  refine a_go kw (fun hL hs h1 h2 => okS_c trivial (okS_t hs)) (fun hL hS p e R s m args below meth c H locs cells slots ls Q0 B kk => ?_)
  have := a_getW (rest := st.map (a_cv G)) (Q0 := Q0) (e := e) (below := below) B F hs hd (by unfold a_fv; rw [if_pos F.2.2.2.2]; exact kk)
  rwa [← a_cvR (a_lt9 B hs)] at this
theorem a_getR {idx t k a b : Nat} {ki len : Int} (hd : decode M.2.1 pc = .ok (.getfield idx, 3)) (hn : pc + 3 = n) (F : a_Fl M.1.cls idx t k ki true) (hs : a_is z a t len) (hb : hr a ki = some b) (kw : a_wp G M d n L (vR b :: st) z hr hi hl Q) : a_wp G M d pc L (vR a :: st) z hr hi hl Q :=
  a_getO hd hn F hs (by rw [hb]; exact kw)
/-- a field may be written: it isn't final, or this is its class's constructor -/
def a_wf (M : aM) (t k : Nat) : Prop := (a_T t k).2.2.2 = false ∨ ((a_T t k).2.2.2 = true ∧ M.1.name = "<init>" ∧ (a_T t k).1 = M.1.cls)
theorem a_putW {idx t k a : Nat} {ki len : Int} {isR : Bool} {w : Value} (B : a_B G M d dc ds L z hr hi hl p R s m args meth c H locs cells slots ls) (F : a_Fl M.1.cls idx t k ki isR) (hs : a_is z a t len) (hf : a_wf M t k) (hn : narrow (a_ty t k) w = w) (hfit : fits (a_ty t k) w = true) (hd : decode M.2.1 pc = .ok (.putfield idx, 3))
    (kk : ∀ (H2 : Heap) (locs2 : List Loc), H2.size = H.size → (∀ q : Nat, q ≠ gb G + a → H2[q]? = H[q]?) → t_OB (gb G + a) (gC G t) (a_nf t) (gI G t) H2 (updV (fun k => a_fv G t k (hi a k) (hr a k)) k w) → va_S (fun q => gb G ≤ q) s.heap H2 locs2 → W p (gl G) e R s m args below meth c H2 locs2 cells slots Q0 (F0 m (pc + 3) ls rest)) : W p (gl G) e R s m args below meth c H locs cells slots Q0 (F0 m pc ls (w :: .ref (gb G + a) :: rest)) := by
  have hK := B.2.2.2.2.2.2.1.1
  have hts := B.1.ts
  have hown := B.1.2.2.2.1
  have hlink := B.1.2.2.2.2.1 _ F.2.2.2.1 rfl
  have hin := a_in t F.1
  have hc := a_vw t F.1
  have hk := F.2.1
  have hap := va_apart (D := (gC G, gI G)) (own := M.1.cls) hts hin (a_ty t) (a_tyok t F.1) (a_nm t F.1) hK hc
  obtain ⟨cell, q1, q2, q3, q4⟩ := a_obj B.2.2.2.2.2.1 hs F.1
  obtain ⟨hS, hfc, kC, hkC, hkind⟩ := hK.1 t _ hc
  obtain ⟨cf, kf, fi, f, hi9, hsl⟩ := hS k hk
  have hlay := hts _ (hin _ (u_in_lay hk))
  have hst := (u_facts hfc hkC (u_lays hts hin hk) hi9).1
  have hS8 := B.2.2.2.2.2.2.2.1
  rcases hf with hf | ⟨hf, hi2, hdecl⟩
  · unfold u_lay at hlay
    rw [if_neg (by rw [hf]; decide)] at hlay
    have h6 := u_store hfc hkC hkind hlay hi9 (a_tyok t F.1 k hk) hn hfit
    refine W.putK B.1.1 B.1.2.1 (f := f) ⟨hown, hlink, ⟨_, _, _, hi9⟩, hst⟩ (by rw [q2]; exact h6) q1 q3 (by rw [hsl]; exact k2_hasslot (q4 k hk)) rfl rfl hd fun H' e1 e2 e3 => ?_
    rw [hsl] at e1 ⊢
    exact kk H' _ e2 e3 ⟨_, e1, q2, q3, t_set q4 hap hk w⟩ (hS8.put e2 e3 (Nat.le_add_right _ _))
  · unfold u_lay at hlay
    rw [if_pos hf] at hlay
    have hcf : m.cls = cf := by
      obtain ⟨_, _, c', _, _, _, -, -, hf', -, -, -, hown2, -⟩ := Cond.laysFinal_spec hlay
      have e1 : c' = cf := by have := hi9.symm.trans hf'; simp at this; exact this.1.symm
      rw [hdecl] at hown2
      rw [← e1]; exact Option.some.inj (hown.symm.trans hown2)
    have h6 := u_fits hfc hkC hkind (Or.inr hlay) hi9 (a_tyok t F.1 k hk) hn hfit
    refine W.putFinK B.1.1 B.1.2.1 hown hlink hi9 hst hcf (B.1.2.2.2.2.2.2.2.trans hi2) (by rw [q2]; exact h6) q1 q3 (by rw [hsl]; exact k2_hasslot (q4 k hk)) rfl rfl hd fun H' e1 e2 e3 => ?_
    rw [hsl] at e1 ⊢
    exact kk H' _ e2 e3 ⟨_, e1, q2, q3, t_set q4 hap hk w⟩ (hS8.put e2 e3 (Nat.le_add_right _ _))
/-- a number (int, boolean) is put into a field -/
theorem a_putN {idx t k a : Nat} {ki len x : Int} (hd : decode M.2.1 pc = .ok (.putfield idx, 3)) (hn : pc + 3 = n) (F : a_Fl M.1.cls idx t k ki false) (hs : a_is z a t len) (hf : a_wf M t k) (h1 : narrow (a_ty t k) (.int (Int32.ofInt x)) = .int (Int32.ofInt x)) (h2 : fits (a_ty t k) (.int (Int32.ofInt x)) = true) (kw : a_wp G M d n L st z hr (up2 hi a ki x) hl Q) : a_wp G M d pc L (vI x :: vR a :: st) z hr hi hl Q := by
  subst hn
  refine a_step kw 0 0 rfl rfl (fun hL hs => ⟨hL, okS_t (okS_t hs)⟩) (fun _ hL hS p e R s m args below meth c H locs cells slots ls Q0 B kk => ?_)
  have hx := okI' (okS_h hS)
  have hrp := B.2.2.2.2.2.1
  have := a_putW (w := .int (Int32.ofInt x)) (rest := st.map (a_cv G)) (Q0 := Q0) (e := e) (below := below) B F hs hf h1 h2 hd (fun H2 locs2 g1 g2 g3 g4 => kk H2 locs2 ls (hrp.set (a := a) g1 g2 (fun _ _ _ => rfl) (fun b j hb => up2_n hb) (fun _ _ _ => rfl) (by
    unfold a_cell
    rw [hs.2]
    rw [if_pos F.1]
    refine g3.to (fun j hj => ?_)
    unfold updV
    by_cases e9 : j = k
    · subst e9
      rw [if_pos rfl, F.2.2.1, up2_s]
      unfold a_fv
      rw [if_neg (by rw [F.2.2.2.2]; decide)]
    · rw [if_neg e9, up2_m (by have := F.2.2.1; omega)]) (up2_r hrp.2.2.2.2.1 hx) hrp.2.2.2.2.2) g4 B.2.2.2.2.2.2.2.2.2.2)
  rwa [← a_cvR (a_lt9 B hs)] at this
theorem a_putI {idx t k a : Nat} {ki len x : Int} (hd : decode M.2.1 pc = .ok (.putfield idx, 3)) (hn : pc + 3 = n) (F : a_Fl M.1.cls idx t k ki false) (hty : a_ty t k = .int) (hs : a_is z a t len) (hf : a_wf M t k) (kw : a_wp G M d n L st z hr (up2 hi a ki x) hl Q) : a_wp G M d pc L (vI x :: vR a :: st) z hr hi hl Q :=
  a_putN hd hn F hs hf (by rw [hty]; rfl) (by rw [hty]; rfl) kw
theorem a_putZ {idx t k a : Nat} {ki len x : Int} (hd : decode M.2.1 pc = .ok (.putfield idx, 3)) (hn : pc + 3 = n) (F : a_Fl M.1.cls idx t k ki false) (hty : a_ty t k = .boolean) (hs : a_is z a t len) (hf : a_wf M t k) (hx : x = 0 ∨ x = 1) (kw : a_wp G M d n L st z hr (up2 hi a ki x) hl Q) : a_wp G M d pc L (vI x :: vR a :: st) z hr hi hl Q :=
  a_putN hd hn F hs hf (by rw [hty]; rcases hx with rfl | rfl <;> rfl) (by rw [hty]; rcases hx with rfl | rfl <;> rfl) kw
theorem a_putO {idx t k a : Nat} {ki len : Int} {o : Option Nat} (hd : decode M.2.1 pc = .ok (.putfield idx, 3)) (hn : pc + 3 = n) (F : a_Fl M.1.cls idx t k ki true) (hs : a_is z a t len) (hf : a_wf M t k) (kw : a_wp G M d n L st z (up2 hr a ki o) hi hl Q) : a_wp G M d pc L (vO o :: vR a :: st) z hr hi hl Q := by
  subst hn
  refine a_step kw 0 0 rfl rfl (fun hL hs => ⟨hL, okS_t (okS_t hs)⟩) (fun _ hL hS p e R s m args below meth c H locs cells slots ls Q0 B kk => ?_)
  have hrp := B.2.2.2.2.2.1
  have h12 : narrow (a_ty t k) (va_rf (o.map (a_ca G))) = va_rf (o.map (a_ca G)) ∧ fits (a_ty t k) (va_rf (o.map (a_ca G))) = true := by
    have hR := F.2.2.2.2
    cases hty : a_ty t k with
    | object C => cases o <;> exact ⟨rfl, rfl⟩
    | array C => cases o <;> exact ⟨rfl, rfl⟩
    | _ => rw [hty] at hR; cases hR
  have := a_putW (w := va_rf (o.map (a_ca G))) (rest := st.map (a_cv G)) (Q0 := Q0) (e := e) (below := below) B F hs hf h12.1 h12.2 hd (fun H2 locs2 g1 g2 g3 g4 => kk H2 locs2 ls (hrp.set (a := a) g1 g2 (fun b j hb => up2_n hb) (fun _ _ _ => rfl) (fun _ _ _ => rfl) (by
    unfold a_cell
    rw [hs.2]
    rw [if_pos F.1]
    refine g3.to (fun j hj => ?_)
    unfold updV
    by_cases e9 : j = k
    · subst e9
      rw [if_pos rfl, F.2.2.1, up2_s]
      unfold a_fv
      rw [if_pos F.2.2.2.2]
    · rw [if_neg e9, up2_m (by have := F.2.2.1; omega)]) hrp.2.2.2.2.1 hrp.2.2.2.2.2) g4 B.2.2.2.2.2.2.2.2.2.2)
  rwa [← a_cvR (a_lt9 B hs)] at this
theorem a_inI {i len : Int} (hi0 : r32 i) (h0 : 0 ≤ i) (h1 : i < len) (cA : ClassId) (f : Nat → Value) : ¬ (Int32.ofInt i < 0 ∨ (arrV cA len.toNat f).slots.size ≤ (Int32.ofInt i).toNatClampNeg) := by
  rw [arrV_size, a_cl hi0, a_lt0 hi0]
  omega
theorem a_rd {G : aG} {i len : Int} {t a : Nat} {hr : aR} {hi hl : aI} (hi0 : r32 i) (h0 : 0 ≤ i) (h1 : i < len) (cA : ClassId) : (arrV cA len.toNat (fun j => a_av G t (hi a j) (hl a j) (hr a j))).slots[(Int32.ofInt i).toNatClampNeg]? = some (a_av G t (hi a i) (hl a i) (hr a i)) := by
  rw [a_cl hi0, arrV_read _ _ (by omega), Int.toNat_of_nonneg h0]
theorem a_av_i {G : aG} {x l : Int} {r : Option Nat} {t : Nat} (h : t = 20 ∨ t = 22) : a_av G t x l r = .int (Int32.ofInt x) := by rcases h with rfl | rfl <;> rfl
theorem a_iald {a : Nat} {i len : Int} (hd : decode M.2.1 pc = .ok (.iaload, 1)) (hn : pc + 1 = n) (hs : a_is z a 20 len) (h0 : 0 ≤ i) (h1 : i < len) (k : a_wp G M d n L (vI (hi a i) :: st) z hr hi hl Q) : a_wp G M d pc L (vI i :: vR a :: st) z hr hi hl Q := by
  subst hn
  refine a_go k (fun hL hs h1 h2 => okS_c (show r32 _ from h1 _ _) (okS_t (okS_t hs))) (fun hL hS p e R s m args below meth c H locs cells slots ls Q0 B kk => ?_)
  have hi0 := okI' (okS_h hS)
  have ha := a_arr B.2.2.2.2.2.1 hs (by decide) (by decide)
  have := W.iald (Q := Q0) (g := F0 m pc ls (.int (Int32.ofInt i) :: .ref (gb G + a) :: st.map (a_cv G))) B.1.1 B.1.2.1 ha ((B.2.2.2.2.2.2.1.1.2 0 _ rfl).1 _ _) (fun q => by cases q) (a_inI hi0 h0 h1 _ _) (a_rd hi0 h0 h1 _) rfl rfl hd (e := e) (below := below) (by rw [a_av_i (Or.inl rfl)]; exact kk)
  rwa [← a_cvR (a_lt9 B hs)] at this
theorem a_zald {a : Nat} {i len : Int} (hd : decode M.2.1 pc = .ok (.baload, 1)) (hn : pc + 1 = n) (hs : a_is z a 22 len) (h0 : 0 ≤ i) (h1 : i < len) (k : a_wp G M d n L (vI (hi a i) :: st) z hr hi hl Q) : a_wp G M d pc L (vI i :: vR a :: st) z hr hi hl Q := by
  subst hn
  refine a_go k (fun hL hs h1 h2 => okS_c (show r32 _ from h1 _ _) (okS_t (okS_t hs))) (fun hL hS p e R s m args below meth c H locs cells slots ls Q0 B kk => ?_)
  have hi0 := okI' (okS_h hS)
  have ha := a_arr B.2.2.2.2.2.1 hs (by decide) (by decide)
  have := W.zald (Q := Q0) (g := F0 m pc ls (.int (Int32.ofInt i) :: .ref (gb G + a) :: st.map (a_cv G))) B.1.1 B.1.2.1 ha ((B.2.2.2.2.2.2.1.1.2 2 _ rfl).1 _ _) (fun q => by cases q) (a_inI hi0 h0 h1 _ _) (a_rd hi0 h0 h1 _) rfl rfl hd (e := e) (below := below) (by rw [a_av_i (Or.inr rfl)]; exact kk)
  rwa [← a_cvR (a_lt9 B hs)] at this
theorem a_lald {a : Nat} {i len : Int} (hd : decode M.2.1 pc = .ok (.laload, 1)) (hn : pc + 1 = n) (hs : a_is z a 21 len) (h0 : 0 ≤ i) (h1 : i < len) (k : a_wp G M d n L (vJ (hl a i) :: st) z hr hi hl Q) : a_wp G M d pc L (vI i :: vR a :: st) z hr hi hl Q := by
  subst hn
  refine a_go k (fun hL hs h1 h2 => okS_c (show r64 _ from h2 _ _) (okS_t (okS_t hs))) (fun hL hS p e R s m args below meth c H locs cells slots ls Q0 B kk => ?_)
  have hi0 := okI' (okS_h hS)
  have ha := a_arr B.2.2.2.2.2.1 hs (by decide) (by decide)
  have := W.lald (Q := Q0) (g := F0 m pc ls (.int (Int32.ofInt i) :: .ref (gb G + a) :: st.map (a_cv G))) B.1.1 B.1.2.1 ha ((B.2.2.2.2.2.2.1.1.2 1 _ rfl).1 _ _) (fun q => by cases q) (a_inI hi0 h0 h1 _ _) (a_rd hi0 h0 h1 _) rfl rfl hd (e := e) (below := below) kk
  rwa [← a_cvR (a_lt9 B hs)] at this
theorem a_aald {a t : Nat} {i len : Int} (hd : decode M.2.1 pc = .ok (.aaload, 1)) (hn : pc + 1 = n) (hs : a_is z a t len) (ht : t = 23 ∨ t = 24) (h0 : 0 ≤ i) (h1 : i < len) (k : a_wp G M d n L (vO (hr a i) :: st) z hr hi hl Q) : a_wp G M d pc L (vI i :: vR a :: st) z hr hi hl Q := by
  subst hn
  refine a_go k (fun hL hs h1 h2 => okS_c trivial (okS_t (okS_t hs))) (fun hL hS p e R s m args below meth c H locs cells slots ls Q0 B kk => ?_)
  have hi0 := okI' (okS_h hS)
  have ha := a_arr B.2.2.2.2.2.1 hs (by rcases ht with rfl | rfl <;> decide) (by rcases ht with rfl | rfl <;> decide)
  rcases ht with rfl | rfl
  · have := W.aald (Q := Q0) (g := F0 m pc ls (.int (Int32.ofInt i) :: .ref (gb G + a) :: st.map (a_cv G))) B.1.1 B.1.2.1 ha ((B.2.2.2.2.2.2.1.1.2 3 _ rfl).1 _ _) rfl (fun q => by cases q) (a_inI hi0 h0 h1 _ _) (a_rd hi0 h0 h1 _) rfl rfl hd (e := e) (below := below) kk
    rwa [← a_cvR (a_lt9 B hs)] at this
  · have := W.aald (Q := Q0) (g := F0 m pc ls (.int (Int32.ofInt i) :: .ref (gb G + a) :: st.map (a_cv G))) B.1.1 B.1.2.1 ha ((B.2.2.2.2.2.2.1.1.2 4 _ rfl).1 _ _) rfl (fun q => by cases q) (a_inI hi0 h0 h1 _ _) (a_rd hi0 h0 h1 _) rfl rfl hd (e := e) (below := below) kk
    rwa [← a_cvR (a_lt9 B hs)] at this
theorem a_alen {a t : Nat} {len : Int} (hd : decode M.2.1 pc = .ok (.arraylength, 1)) (hn : pc + 1 = n) (hs : a_is z a t len) (ht : t = 20) (h0 : 0 ≤ len) (h1 : len < 2147483648) (k : a_wp G M d n L (vI len :: st) z hr hi hl Q) : a_wp G M d pc L (vR a :: st) z hr hi hl Q := by
  subst hn; subst ht
  refine a_go k (fun hL hs _ _ => okS_c (show r32 len from ⟨by omega, h1⟩) (okS_t hs)) (fun hL hS p e R s m args below meth c H locs cells slots ls Q0 B kk => ?_)
  have ha := a_arr B.2.2.2.2.2.1 hs (by decide) (by decide)
  have := W.alen (Q := Q0) (n := Int32.ofInt len) (g := F0 m pc ls (.ref (gb G + a) :: st.map (a_cv G))) B.1.1 B.1.2.1 ha ((B.2.2.2.2.2.2.1.1.2 0 _ rfl).1 _ _) (by
    rw [arrV_size]
    show Int32.ofNat len.toNat = _
    rw [← Int32.ofInt_eq_ofNat, Int.toNat_of_nonneg h0]) rfl rfl hd (e := e) (below := below) kk
  rwa [← a_cvR (a_lt9 B hs)] at this
/-- the cell of an array behind a store -/
theorem a_arset {G : aG} {z : aZ} {hr hr2 : aR} {hi hi2 hl hl2 : aI} {H2 : Heap} {a t : Nat} {i len : Int} {w : Value} (hs : a_is z a t len) (ht : 11 ≤ t) (ht2 : t < 30) (h0 : 0 ≤ i) (hi0 : r32 i) (he : H2[gb G + a]? = some ((arrV (gA G t) len.toNat (fun j => a_av G t (hi a j) (hl a j) (hr a j))).setSlot (Int32.ofInt i).toNatClampNeg w)) (hw : a_av G t (hi2 a i) (hl2 a i) (hr2 a i) = w) (ho : ∀ j : Int, j ≠ i → hi2 a j = hi a j ∧ hl2 a j = hl a j ∧ hr2 a j = hr a j) : a_cell G z hr2 hi2 hl2 a H2 := by
  unfold a_cell
  rw [hs.2, if_neg (Nat.not_lt.mpr ht), if_pos ht2, he, arrV_store, a_cl hi0]
  congr 2
  funext j
  unfold updV
  by_cases e : j = i.toNat
  · subst e
    rw [if_pos rfl, Int.toNat_of_nonneg h0]
    exact hw.symm
  · rw [if_neg e]
    obtain ⟨q1, q2, q3⟩ := ho j (by omega)
    show _ = a_av G t _ _ _
    rw [q1, q2, q3]
theorem a_iast {a : Nat} {i len x : Int} (hd : decode M.2.1 pc = .ok (.iastore, 1)) (hn : pc + 1 = n) (hs : a_is z a 20 len) (h0 : 0 ≤ i) (h1 : i < len) (k : a_wp G M d n L st z hr (up2 hi a i x) hl Q) : a_wp G M d pc L (vI x :: vI i :: vR a :: st) z hr hi hl Q := by
  subst hn
  refine a_step k 0 0 rfl rfl (fun hL hs => ⟨hL, okS_t (okS_t (okS_t hs))⟩) (fun _ hL hS p e R s m args below meth c H locs cells slots ls Q0 B kk => ?_)
  have hx := okI' (okS_h hS)
  have hi0 := okI' (okS_h (okS_t hS))
  have hrp := B.2.2.2.2.2.1
  have ha := a_arr hrp hs (by decide) (by decide)
  have := W.iast (Q := Q0) (g := F0 m pc ls (.int (Int32.ofInt x) :: .int (Int32.ofInt i) :: .ref (gb G + a) :: st.map (a_cv G))) B.1.1 B.1.2.1 ha ((B.2.2.2.2.2.2.1.1.2 0 _ rfl).1 _ _) (fun q => by cases q) (a_inI hi0 h0 h1 _ _) rfl rfl hd (e := e) (below := below)
    (fun H2 g3 g1 g2 => kk H2 _ ls (hrp.set (a := a) g1 g2 (fun _ _ _ => rfl) (fun b j hb => up2_n hb) (fun _ _ _ => rfl) (a_arset hs (by decide) (by decide) h0 hi0 g3 (by rw [a_av_i (Or.inl rfl), up2_s]) (fun j hj => ⟨up2_m hj, rfl, rfl⟩)) (up2_r hrp.2.2.2.2.1 hx) hrp.2.2.2.2.2) (B.2.2.2.2.2.2.2.1.put g1 g2 (Nat.le_add_right _ _)) B.2.2.2.2.2.2.2.2.2.2)
  rwa [← a_cvR (a_lt9 B hs)] at this
theorem a_zast {a : Nat} {i len x : Int} (hd : decode M.2.1 pc = .ok (.bastore, 1)) (hn : pc + 1 = n) (hs : a_is z a 22 len) (h0 : 0 ≤ i) (h1 : i < len) (hx1 : x = 0 ∨ x = 1) (k : a_wp G M d n L st z hr (up2 hi a i x) hl Q) : a_wp G M d pc L (vI x :: vI i :: vR a :: st) z hr hi hl Q := by
  subst hn
  refine a_step k 0 0 rfl rfl (fun hL hs => ⟨hL, okS_t (okS_t (okS_t hs))⟩) (fun _ hL hS p e R s m args below meth c H locs cells slots ls Q0 B kk => ?_)
  have hx := okI' (okS_h hS)
  have hi0 := okI' (okS_h (okS_t hS))
  have hrp := B.2.2.2.2.2.1
  have ha := a_arr hrp hs (by decide) (by decide)
  have := W.zast (Q := Q0) (g := F0 m pc ls (.int (Int32.ofInt x) :: .int (Int32.ofInt i) :: .ref (gb G + a) :: st.map (a_cv G))) B.1.1 B.1.2.1 ha ((B.2.2.2.2.2.2.1.1.2 2 _ rfl).1 _ _) (fun q => by cases q) (a_inI hi0 h0 h1 _ _) rfl rfl hd (e := e) (below := below)
    (fun H2 g3 g1 g2 => kk H2 _ ls (hrp.set (a := a) g1 g2 (fun _ _ _ => rfl) (fun b j hb => up2_n hb) (fun _ _ _ => rfl) (a_arset hs (by decide) (by decide) h0 hi0 g3 (by rw [a_av_i (Or.inr rfl), up2_s]; rcases hx1 with rfl | rfl <;> rfl) (fun j hj => ⟨up2_m hj, rfl, rfl⟩)) (up2_r hrp.2.2.2.2.1 hx) hrp.2.2.2.2.2) (B.2.2.2.2.2.2.2.1.put g1 g2 (Nat.le_add_right _ _)) B.2.2.2.2.2.2.2.2.2.2)
  rwa [← a_cvR (a_lt9 B hs)] at this
theorem a_last {a : Nat} {i len x : Int} (hd : decode M.2.1 pc = .ok (.lastore, 1)) (hn : pc + 1 = n) (hs : a_is z a 21 len) (h0 : 0 ≤ i) (h1 : i < len) (k : a_wp G M d n L st z hr hi (up2 hl a i x) Q) : a_wp G M d pc L (vJ x :: vI i :: vR a :: st) z hr hi hl Q := by
  subst hn
  refine a_step k 0 0 rfl rfl (fun hL hs => ⟨hL, okS_t (okS_t (okS_t hs))⟩) (fun _ hL hS p e R s m args below meth c H locs cells slots ls Q0 B kk => ?_)
  have hx : r64 x := okS_h hS
  have hi0 := okI' (okS_h (okS_t hS))
  have hrp := B.2.2.2.2.2.1
  have ha := a_arr hrp hs (by decide) (by decide)
  have := W.last (Q := Q0) (g := F0 m pc ls (.long (Int64.ofInt x) :: .int (Int32.ofInt i) :: .ref (gb G + a) :: st.map (a_cv G))) B.1.1 B.1.2.1 ha ((B.2.2.2.2.2.2.1.1.2 1 _ rfl).1 _ _) (fun q => by cases q) (a_inI hi0 h0 h1 _ _) rfl rfl hd (e := e) (below := below)
    (fun H2 g3 g1 g2 => kk H2 _ ls (hrp.set (a := a) g1 g2 (fun _ _ _ => rfl) (fun _ _ _ => rfl) (fun b j hb => up2_n hb) (a_arset hs (by decide) (by decide) h0 hi0 g3 (by rw [up2_s]; rfl) (fun j hj => ⟨rfl, up2_m hj, rfl⟩)) hrp.2.2.2.2.1 (up2_r hrp.2.2.2.2.2 hx)) (B.2.2.2.2.2.2.2.1.put g1 g2 (Nat.le_add_right _ _)) B.2.2.2.2.2.2.2.2.2.2)
  rwa [← a_cvR (a_lt9 B hs)] at this
theorem a_aast {a t b tb : Nat} {i len lb : Int} (hd : decode M.2.1 pc = .ok (.aastore, 1)) (hn : pc + 1 = n) (hs : a_is z a t len) (hb : a_is z b tb lb) (ht : (t = 23 ∧ tb = 3) ∨ (t = 24 ∧ tb = 0)) (h0 : 0 ≤ i) (h1 : i < len) (k : a_wp G M d n L st z (up2 hr a i (some b)) hi hl Q) : a_wp G M d pc L (vR b :: vI i :: vR a :: st) z hr hi hl Q := by
  subst hn
  refine a_step k 0 0 rfl rfl (fun hL hs => ⟨hL, okS_t (okS_t (okS_t hs))⟩) (fun _ hL hS p e R s m args below meth c H locs cells slots ls Q0 B kk => ?_)
  have hi0 := okI' (okS_h (okS_t hS))
  have hrp := B.2.2.2.2.2.1
  have hK := B.2.2.2.2.2.2.1.1
  have ha := a_arr hrp hs (by omega) (by omega)
  have htb : tb < 11 := by omega
  obtain ⟨cellV, g1, g2, g3, -⟩ := a_obj hrp hb htb
  have hcls := (hK.1 tb _ (a_vw tb htb)).2
  have hkk : ∃ (kA : Class) (comp : ClassId), s.vm.classes[gA G t]? = some kA ∧ kA.kind = .array comp (.object (a_Rn tb)) ∧ s.vm.findClass (a_Rn tb) = some comp := by
    rcases ht with ⟨rfl, rfl⟩ | ⟨rfl, rfl⟩
    · obtain ⟨kA, comp, k1, k2, k3, -⟩ := (hK.2 3 _ rfl).2
      exact ⟨kA, comp, k1, k2, k3⟩
    · obtain ⟨kA, comp, k1, k2, k3, -⟩ := (hK.2 4 _ rfl).2
      exact ⟨kA, comp, k1, k2, k3⟩
  obtain ⟨kA, comp, k1, k2, k3⟩ := hkk
  have hcomp : comp = gC G tb := Option.some.inj (k3.symm.trans hcls.1)
  subst hcomp
  obtain ⟨kC, hkC, -⟩ := hcls.2
  have := W.aast (Q := Q0) (g := F0 m pc ls (.ref (gb G + b) :: .int (Int32.ofInt i) :: .ref (gb G + a) :: st.map (a_cv G))) B.1.1 B.1.2.1 ha (fun q h => by cases h) (fun h => by cases h) k1 k2 rfl hkC ⟨fun q => a_inI hi0 h0 h1 0 (fun _ => .null) (Or.inl q), by rw [arrV_size, a_cl hi0]; omega⟩ g1 (fun q h => by rw [g3] at h; cases h) (by rw [g2]; exact hkC) (by rw [g2]; exact va_assign hcls) rfl rfl hd (e := e) (below := below)
    (fun H2 g5 g6 g7 => kk H2 _ ls (hrp.set (a := a) g6 g7 (fun b j hb => up2_n hb) (fun _ _ _ => rfl) (fun _ _ _ => rfl) (a_arset hs (by omega) (by omega) h0 hi0 g5 (by
      rw [up2_s, ← a_cvR (a_lt9 B hb)]
      rcases ht with ⟨rfl, -⟩ | ⟨rfl, -⟩ <;> rfl) (fun j hj => ⟨rfl, rfl, up2_m hj⟩)) hrp.2.2.2.2.1 hrp.2.2.2.2.2) (B.2.2.2.2.2.2.2.1.put g6 g7 (Nat.le_add_right _ _)) B.2.2.2.2.2.2.2.2.2.2)
  rwa [← a_cvR (a_lt9 B hs), ← a_cvR (a_lt9 B hb)] at this
end C
end
section
/-! what is made new; calls; ends; contracts -/
def a_al (z : aZ) (t : Nat) (len : Int) : aZ := (z.1 + 1, z.2.1 + len.toNat, fun b => if b = z.1 then (t, len) else z.2.2 b)
def cl0 {α : Type} (f : Nat → Int → α) (a : Nat) (v : α) : Nat → Int → α := fun b j => if b = a then v else f b j
theorem cl0_s {α : Type} {f : Nat → Int → α} {a : Nat} {v : α} {j : Int} : cl0 f a v a j = v := by simp [cl0]
theorem cl0_n {α : Type} {f : Nat → Int → α} {a b : Nat} {v : α} {j : Int} (h : b ≠ a) : cl0 f a v b j = f b j := by simp [cl0, h]
theorem cl0_r {f : aI} {a : Nat} {v : Int} {P : Int → Prop} (h : ∀ a i, P (f a i)) (hv : P v) : ∀ b j, P (cl0 f a v b j) := fun b j => by
  unfold cl0; split
  · exact hv
  · exact h b j
theorem r64_0 : r64 0 := ⟨by decide, by decide⟩
theorem a_al_new {z : aZ} {t : Nat} {len : Int} : a_is (a_al z t len) z.1 t len := ⟨Nat.lt_succ_self _, by simp [a_al]⟩
theorem a_is.al {z : aZ} {a t t2 : Nat} {len l2 : Int} (h : a_is z a t len) : a_is (a_al z t2 l2) a t len := ⟨Nat.lt_succ_of_lt h.1, by have := h.1; simp [a_al, Nat.ne_of_lt this, h.2]⟩
theorem a_rp.new {G : aG} {z : aZ} {hr : aR} {hi hl : aI} {H H2 : Heap} {t : Nat} {len : Int} (h : a_rp G z hr hi hl H) (hz : z.1 + 1 < 1000000000) (h1 : H2.size = H.size + 1) (h2 : ∀ q : Nat, q < H.size → H2[q]? = H[q]?) (hc : a_cell G (a_al z t len) (cl0 hr z.1 none) (cl0 hi z.1 0) (cl0 hl z.1 0) z.1 H2) : a_rp G (a_al z t len) (cl0 hr z.1 none) (cl0 hi z.1 0) (cl0 hl z.1 0) H2 := by
  have hsz := h.1
  refine ⟨by rw [h1, hsz]; rfl, hz, fun b hb => ?_, fun q hq => by rw [h2 q (by omega)]; exact h.2.2.2.1 q hq, cl0_r h.2.2.2.2.1 r32_0, cl0_r h.2.2.2.2.2 r64_0⟩
  by_cases e : b = z.1
  · subst e; exact hc
  · have hb2 : b < z.1 := by have : b < z.1 + 1 := hb; omega
    have h9 := a_cellq (hr2 := cl0 hr z.1 none) (hi2 := cl0 hi z.1 0) (hl2 := cl0 hl z.1 0) (h.2.2.1 b hb2) (fun j => cl0_n e) (fun j => cl0_n e) (fun j => cl0_n e) (h2 _ (by omega))
    unfold a_cell at h9 ⊢
    have ez : (a_al z t len).2.2 b = z.2.2 b := by simp [a_al, e]
    rw [ez]
    exact h9
theorem a_dv {G : aG} (t : Nat) (h : t < 11) : ∀ k, k < a_nf t → defaultValue (a_ty t k) = a_fv G t k 0 none := by
  have key : ∀ k, k < a_nf t → defaultValue (a_ty t k) = if a_isR (a_ty t k) = true then Value.null else Value.int 0 :=
    a_11 (P := fun t => ∀ k, k < a_nf t → defaultValue (a_ty t k) = if a_isR (a_ty t k) = true then Value.null else Value.int 0) (by decide +kernel) (by decide +kernel) (by decide +kernel) (by decide +kernel) (by decide +kernel) (by decide +kernel) (by decide +kernel) (by decide +kernel) (by decide +kernel) (by decide +kernel) (by decide +kernel) t h
  intro k hk
  rw [key k hk]
  rfl
section D
variable {G : aG} {M : aM} {d pc n : Nat} {L : List (Option aV)} {st : List aV} {z : aZ} {hr : aR} {hi hl : aI} {Q : Option aV → aZ → aR → aI → aI → Prop}
theorem a_S1 {s : State} {H H2 : Heap} {locs : List Loc} (hS : va_S (fun q => gb G ≤ q) s.heap H locs) (h1 : H2.size = H.size + 1) (h2 : ∀ q : Nat, q < H.size → H2[q]? = H[q]?) : va_S (fun q => gb G ≤ q) s.heap H2 locs :=
  ⟨by have := hS.1; omega, fun q g1 g2 => (h2 q (Nat.lt_of_lt_of_le g1 hS.1)).trans (hS.2.1 q g1 g2), hS.2.2⟩
theorem a_new {idx t : Nat} {len : Int} (hd : decode M.2.1 pc = .ok (.new idx, 3)) (hn : pc + 3 = n) (ht : t < 11) (hlen : len.toNat = a_nf t) (hcl : Cond.classLink M.1.cls idx (a_Rn t) ∈ lw_tbl) (hins : Cond.instantiable (a_Rn t) (a_nf t) ∈ lw_tbl) (hini : Cond.initialized (a_Rn t) ∈ lw_tbl) (hz : z.1 + 1 < 1000000000)
    (k : a_wp G M d n L (vR z.1 :: st) (a_al z t len) (cl0 hr z.1 none) (cl0 hi z.1 0) (cl0 hl z.1 0) Q) : a_wp G M d pc L st z hr hi hl Q := by
  subst hn
  refine a_step k 1 len.toNat rfl rfl (fun hL hs => ⟨hL, okS_c trivial hs⟩) (fun _ hL hS p e R s m args below meth c H locs cells slots ls Q0 B kk => ?_)
  have hrp := B.2.2.2.2.2.1
  have hts := B.1.2.2.2.2.1
  have hKn := B.2.2.2.2.2.2.1.1.1 t _ (a_vw t ht)
  refine W.newcK (n := len.toNat) B.1.1 B.1.2.1 B.1.2.2.2.1 (hts _ hcl rfl) (by rw [hlen]; exact hts _ hins rfl) (hts _ hini rfl) rfl hd B.2.2.2.1 B.2.2.2.2.1 hKn.2.1 rfl fun H1 kC hkC e1 z1 o1 => ?_
  have hb := u_born (a_ty t) B.1.ts (a_in t ht) hKn hkC e1 (a_tyok t ht)
  have hw := kk H1 locs ls (hrp.new hz z1 o1 (by
    unfold a_cell
    rw [show (a_al z t len).2.2 z.1 = (t, len) from a_al_new.2, if_pos ht]
    rw [hrp.1] at hb
    refine hb.to (fun j hj => ?_)
    rw [cl0_s, cl0_s]
    exact a_dv t ht j hj)) (a_S1 B.2.2.2.2.2.2.2.1 z1 o1) B.2.2.2.2.2.2.2.2.2.2
  have he : a_cv G (vR z.1) = .ref H.size := by rw [a_cvR hrp.2.1, hrp.1]
  rw [List.map_cons, he] at hw
  exact hw
theorem a_newaW {at_ : ArrayType} {t : Nat} {x : Int} (hd : decode M.2.1 pc = .ok (.newarray at_, 2)) (hn : pc + 2 = n) (ht : 11 ≤ t ∧ t < 30) (harr : Cond.arrayClass (newarray.typeOf at_) ∈ lw_tbl) (hR : ∀ s, a_wK G s → s.vm.findClass ("[" ++ (newarray.typeOf at_).toString) = some (gA G t)) (hdv : defaultValue (newarray.typeOf at_) = a_av G t 0 0 none) (hx : 0 ≤ x) (hx2 : x ≤ 1000000) (hcb : componentBytes (newarray.typeOf at_) ≤ 8) (hz : z.1 + 1 < 1000000000)
    (k : a_wp G M d n L (vR z.1 :: st) (a_al z t x) (cl0 hr z.1 none) (cl0 hi z.1 0) (cl0 hl z.1 0) Q) : a_wp G M d pc L (vI x :: st) z hr hi hl Q := by
  subst hn
  refine a_step k 1 x.toNat rfl rfl (fun hL hs => ⟨hL, okS_c trivial (okS_t hs)⟩) (fun _ hL hS p e R s m args below meth c H locs cells slots ls Q0 B kk => ?_)
  have hrp := B.2.2.2.2.2.1
  have hx0 := okI' (okS_h hS)
  refine va_newaK (g := F0 m pc ls (.int (Int32.ofInt x) :: st.map (a_cv G))) B.1.1 B.1.2.1 (B.1.2.2.2.2.1 _ harr rfl) rfl hd rfl (fun q => by rw [a_lt0 hx0] at q; omega) (a_cl hx0) (Nat.le_trans (Nat.mul_le_mul (show x.toNat ≤ 1000000 by omega) hcb) (by decide)) B.2.2.2.1 B.2.2.2.2.1 rfl fun H1 cA e1 z1 o1 _ hNm => ?_
  have hcA : cA = gA G t := Option.some.inj (hNm.symm.trans (hR s B.2.2.2.2.2.2.1))
  subst hcA
  have hw := kk H1 locs ls (hrp.new hz z1 o1 (by
    unfold a_cell
    rw [show (a_al z t x).2.2 z.1 = (t, x) from a_al_new.2, if_neg (Nat.not_lt.mpr ht.1), if_pos ht.2, ← hrp.1, e1]
    congr 2
    funext j
    rw [cl0_s, cl0_s, cl0_s]
    exact hdv)) (a_S1 B.2.2.2.2.2.2.2.1 z1 o1) B.2.2.2.2.2.2.2.2.2.2
  have he : a_cv G (vR z.1) = .ref H.size := by rw [a_cvR hrp.2.1, hrp.1]
  rw [List.map_cons, he] at hw
  exact hw
theorem arrI : Cond.arrayClass .int ∈ lw_tbl := by decide +kernel
theorem arrJ : Cond.arrayClass .long ∈ lw_tbl := by decide +kernel
theorem arrZ : Cond.arrayClass .boolean ∈ lw_tbl := by decide +kernel
theorem a_newaI {x : Int} (hd : decode M.2.1 pc = .ok (.newarray .int, 2)) (hn : pc + 2 = n) (hx : 0 ≤ x) (hx2 : x ≤ 1000000) (hz : z.1 + 1 < 1000000000) (k : a_wp G M d n L (vR z.1 :: st) (a_al z 20 x) (cl0 hr z.1 none) (cl0 hi z.1 0) (cl0 hl z.1 0) Q) : a_wp G M d pc L (vI x :: st) z hr hi hl Q :=
  a_newaW hd hn ⟨by decide, by decide⟩ arrI (fun s h => (h.1.2 0 _ rfl).2) rfl hx hx2 (by decide) hz k
theorem a_newaJ {x : Int} (hd : decode M.2.1 pc = .ok (.newarray .long, 2)) (hn : pc + 2 = n) (hx : 0 ≤ x) (hx2 : x ≤ 1000000) (hz : z.1 + 1 < 1000000000) (k : a_wp G M d n L (vR z.1 :: st) (a_al z 21 x) (cl0 hr z.1 none) (cl0 hi z.1 0) (cl0 hl z.1 0) Q) : a_wp G M d pc L (vI x :: st) z hr hi hl Q :=
  a_newaW hd hn ⟨by decide, by decide⟩ arrJ (fun s h => (h.1.2 1 _ rfl).2) rfl hx hx2 (by decide) hz k
theorem a_newaZ {x : Int} (hd : decode M.2.1 pc = .ok (.newarray .boolean, 2)) (hn : pc + 2 = n) (hx : 0 ≤ x) (hx2 : x ≤ 1000000) (hz : z.1 + 1 < 1000000000) (k : a_wp G M d n L (vR z.1 :: st) (a_al z 22 x) (cl0 hr z.1 none) (cl0 hi z.1 0) (cl0 hl z.1 0) Q) : a_wp G M d pc L (vI x :: st) z hr hi hl Q :=
  a_newaW hd hn ⟨by decide, by decide⟩ arrZ (fun s h => (h.1.2 2 _ rfl).2) rfl hx hx2 (by decide) hz k
theorem a_anew {x : Int} {idx t tb : Nat} (hd : decode M.2.1 pc = .ok (.anewarray idx, 3)) (hn : pc + 3 = n) (ht : (t = 23 ∧ tb = 3) ∨ (t = 24 ∧ tb = 0)) (hcl : Cond.classLink M.1.cls idx (a_Rn tb) ∈ lw_tbl) (hov : ∀ U, gX G U → va_AO (a_Rn tb) U) (hx : 0 ≤ x) (hx2 : x ≤ 1000000) (hz : z.1 + 1 < 1000000000) (k : a_wp G M d n L (vR z.1 :: st) (a_al z t x) (cl0 hr z.1 none) (cl0 hi z.1 0) (cl0 hl z.1 0) Q) : a_wp G M d pc L (vI x :: st) z hr hi hl Q := by
  subst hn
  refine a_step k 1 x.toNat rfl rfl (fun hL hs => ⟨hL, okS_c trivial (okS_t hs)⟩) (fun _ hL hS p e R s m args below meth c H locs cells slots ls Q0 B kk => ?_)
  have hrp := B.2.2.2.2.2.1
  have hx0 := okI' (okS_h hS)
  have hcl2 := a_cl hx0
  refine W.anew (g := F0 m pc ls (.int (Int32.ofInt x) :: st.map (a_cv G))) B.1.1 B.1.2.1 B.1.2.2.2.1 (B.1.2.2.2.2.1 _ hcl rfl) (va_AO.use (hov s B.2.2.2.2.2.2.1.2)) rfl hd rfl (fun q => by rw [a_lt0 hx0] at q; omega) (by rw [hcl2]; omega) B.2.2.2.1 (by rw [hcl2]; exact B.2.2.2.2.1) fun cA kA comp f1 f2 f3 f4 => ?_
  rw [hcl2]
  generalize hH1 : H.push ({ cls := cA, slots := Array.replicate x.toNat .null, vm := .none } : Cell) = H1
  have z1 : H1.size = H.size + 1 := by rw [← hH1, Array.size_push]
  have e1 : H1[H.size]? = some (arrV cA x.toNat (fun _ => .null)) := by rw [← hH1, Array.getElem?_push_size, ← arrV_new]
  have o1 : ∀ q : Nat, q < H.size → H1[q]? = H[q]? := fun q hq => by rw [← hH1, Array.getElem?_push, if_neg (Nat.ne_of_lt hq)]
  have hcA : cA = gA G t := by
    rcases ht with ⟨rfl, rfl⟩ | ⟨rfl, rfl⟩
    · obtain ⟨_, _, -, -, -, k4⟩ := (B.2.2.2.2.2.2.1.1.2 3 _ rfl).2
      exact Option.some.inj (f1.symm.trans k4)
    · obtain ⟨_, _, -, -, -, k4⟩ := (B.2.2.2.2.2.2.1.1.2 4 _ rfl).2
      exact Option.some.inj (f1.symm.trans k4)
  subst hcA
  have hw := kk H1 locs ls (hrp.new hz z1 o1 (by
    unfold a_cell
    rw [show (a_al z t x).2.2 z.1 = (t, x) from a_al_new.2, if_neg (by omega), if_pos (by omega), ← hrp.1, e1]
    congr 2
    funext j
    rw [cl0_s, cl0_s, cl0_s]
    rcases ht with ⟨rfl, -⟩ | ⟨rfl, -⟩ <;> rfl)) (a_S1 B.2.2.2.2.2.2.2.1 z1 o1) B.2.2.2.2.2.2.2.2.2.2
  have he : a_cv G (vR z.1) = .ref H.size := by rw [a_cvR hrp.2.1, hrp.1]
  rw [List.map_cons, he] at hw
  exact hw
/-! ends -/
theorem a_end {r : Option aV} (hq : Q r z hr hi hl) (hs : okS st → ∀ v, r = some v → a_ok v) (h : okS st → ∀ (p : Program) (e : Env) (R : Room) (s : State) (m : MethodId) (args : Array Value) (below : List Frame) (meth : Method) (c : Code) (H : Heap) (locs : List Loc) (cells slots : Nat) (ls : Array Slot),
      a_B G M d 0 0 L z hr hi hl p R s m args meth c H locs cells slots ls → (∀ t : State, t.heap = H → s.WarmedH t.vm → a_Qc G r z hr hi hl args s (.returned (r.map (a_cv G))) t) → (∀ q ∈ locs, gb G ≤ q.base) →
      W p (gl G) e R s m args below meth c H locs cells slots (MQ below (a_Qc G r z hr hi hl) args s cells slots (fun q => gb G ≤ q)) (F0 m pc ls (st.map (a_cv G)))) : a_wp G M d pc L st z hr hi hl Q := by
  refine ⟨r, z, hr, hi, hl, ⟨Nat.le_refl _, Nat.le_refl _, fun hst hL hS p e R s m args below meth c H locs cells slots ls mc ms B e1 e2 e3 e4 => ?_⟩, hq⟩
  have f1 : cells = mc := by omega
  have f2 : slots = ms := by omega
  subst f1; subst f2
  exact h hS p e R s m args below meth c H locs cells slots ls B (fun t ht _ => ⟨rfl, by rw [ht]; exact B.2.2.2.2.2.1, hs hS⟩) B.2.2.2.2.2.2.2.1.2.2
theorem a_ireturn {x : Int} (hd : decode M.2.1 pc = .ok (.ireturn, 1)) (hr0 : M.2.2.2 = some .int) (hq : Q (some (vI x)) z hr hi hl) : a_wp G M d pc L [vI x] z hr hi hl Q := by
  refine a_end hq (fun hS v hv => by cases hv; exact okS_h hS) (fun hS p e R s m args below meth c H locs cells slots ls B hQ hf => ?_)
  have hlocks := B.1.2.2.2.2.2.2.1
  exact W.iret B.1.1 B.1.2.1 (B.1.2.2.2.2.2.1.trans hr0) hQ hf hd
theorem a_zreturn {x : Int} (hd : decode M.2.1 pc = .ok (.ireturn, 1)) (hr0 : M.2.2.2 = some .boolean) (hx : x = 0 ∨ x = 1) (hq : Q (some (vI x)) z hr hi hl) : a_wp G M d pc L [vI x] z hr hi hl Q := by
  refine a_end hq (fun hS v hv => by cases hv; exact okS_h hS) (fun hS p e R s m args below meth c H locs cells slots ls B hQ hf => ?_)
  have hlocks := B.1.2.2.2.2.2.2.1
  exact W.zret B.1.1 B.1.2.1 (B.1.2.2.2.2.2.1.trans hr0) (by rcases hx with rfl | rfl <;> rfl) hQ hf hd
theorem a_return (hd : decode M.2.1 pc = .ok (.return_, 1)) (hr0 : M.2.2.2 = none) (hq : Q none z hr hi hl) : a_wp G M d pc L [] z hr hi hl Q := by
  refine a_end hq (fun hS v hv => by cases hv) (fun hS p e R s m args below meth c H locs cells slots ls B hQ hf => ?_)
  have hlocks := B.1.2.2.2.2.2.2.1
  exact W.vret B.1.1 B.1.2.1 (B.1.2.2.2.2.2.1.trans hr0) hQ hf hd
theorem a_areturn {o : Option Nat} {C : String} (hd : decode M.2.1 pc = .ok (.areturn, 1)) (hr0 : M.2.2.2 = some (.object C)) (hq : Q (some (vO o)) z hr hi hl) : a_wp G M d pc L [vO o] z hr hi hl Q := by
  refine a_end hq (fun hS v hv => by cases hv; exact okS_h hS) (fun hS p e R s m args below meth c H locs cells slots ls B hQ hf => ?_)
  have hlocks := B.1.2.2.2.2.2.2.1
  exact W.aret B.1.1 B.1.2.1 (B.1.2.2.2.2.2.1.trans hr0) (Or.inl ⟨_, rfl⟩) (va_rf_or _) hQ hf hd
end D
end
section
/-! contracts of methods, and calls by contract -/
def a_ws (M : aM) : List Cond := .code M.1 M.2.1 M.2.2.1 M.2.2.2 :: lw_tbl.filter goodWord
def a_rm (d : Nat) (z z' : aZ) : Room := { frames := d, cells := z'.1 - z.1, slots := z'.2.1 - z.2.1, locals := 40 * d }
def a_Pc (G : aG) (As : List aV) (z : aZ) (hr : aR) (hi hl : aI) : Array Value → State → Prop := va_Pc (As.map (a_cv G)) (fun U => a_rp G z hr hi hl U.heap ∧ a_wK G U)
def a_Met (G : aG) (M : aM) (d : Nat) (As : List aV) (z : aZ) (hr : aR) (hi hl : aI) (r : Option aV) (z' : aZ) (hr' : aR) (hi' hl' : aI) : Prop :=
  z.1 ≤ z'.1 ∧ z.2.1 ≤ z'.2.1 ∧ (a_stab G → okS As → Met (gl G) M.1 (a_ws M) (a_rm d z z') (a_Pc G As z hr hi hl) (a_Qc G r z' hr' hi' hl') (z'.1 - z.1) (z'.2.1 - z.2.1) (fun q => gb G ≤ q))
/-- the method M, called with As where the heap is z hr hi hl, returns, and Q holds of its answer and the heap behind it -/
def a_ct (G : aG) (M : aM) (d : Nat) (As : List aV) (z : aZ) (hr : aR) (hi hl : aI) (Q : Option aV → aZ → aR → aI → aI → Prop) : Prop :=
  ∃ r z' hr' hi' hl', a_Met G M d As z hr hi hl r z' hr' hi' hl' ∧ Q r z' hr' hi' hl'
def a_fl : List aV → List (Option aV)
  | [] => []
  | .inr (.inl j) :: vs => some (vJ j) :: none :: a_fl vs
  | v :: vs => some v :: a_fl vs
def a_L0 (As : List aV) (nL : Nat) : List (Option aV) := a_fl As ++ List.replicate (nL - (a_fl As).length) none
theorem a_fl_at {G : aG} : ∀ (As : List aV) (i k : Nat) (v : aV), (a_fl As)[i]? = some (some v) → (k + i, a_cv G v) ∈ lv_args k (As.map (a_cv G))
  | [], i, k, v, h => by simp [a_fl] at h
  | .inr (.inl j) :: vs, i, k, v, h => by
    match i, h with
    | 0, h =>
      cases h
      exact List.mem_cons_self
    | 1, h => cases h
    | i + 2, h =>
      have h1 : (a_fl vs)[i]? = some (some v) := h
      have h2 := a_fl_at (G := G) vs i (k + 2) v h1
      refine List.mem_cons_of_mem _ ?_
      show (k + (i + 2), a_cv G v) ∈ lv_args (k + 2) (vs.map (a_cv G))
      rwa [show k + (i + 2) = k + 2 + i by omega]
  | .inl x :: vs, i, k, v, h => by
    match i, h with
    | 0, h =>
      cases h
      exact List.mem_cons_self
    | i + 1, h =>
      have h1 : (a_fl vs)[i]? = some (some v) := h
      have h2 := a_fl_at (G := G) vs i (k + 1) v h1
      refine List.mem_cons_of_mem _ ?_
      show (k + (i + 1), a_cv G v) ∈ lv_args (k + 1) (vs.map (a_cv G))
      rwa [show k + (i + 1) = k + 1 + i by omega]
  | .inr (.inr o) :: vs, i, k, v, h => by
    match i, h with
    | 0, h =>
      cases h
      exact List.mem_cons_self
    | i + 1, h =>
      have h1 : (a_fl vs)[i]? = some (some v) := h
      have h2 := a_fl_at (G := G) vs i (k + 1) v h1
      refine List.mem_cons_of_mem _ ?_
      have hc : ¬ (a_cv G (vO o)).category = 2 := fun q => by obtain ⟨j, hj⟩ := a_cat2 q; cases hj
      show (k + (i + 1), a_cv G v) ∈ lv_args (if (a_cv G (vO o)).category = 2 then k + 2 else k + 1) (vs.map (a_cv G))
      rw [if_neg hc]
      rwa [show k + (i + 1) = k + 1 + i by omega]
theorem a_fl_ok : ∀ (As : List aV), okS As → ∀ v, some v ∈ a_fl As → a_ok v
  | [], _, v, h => by simp [a_fl] at h
  | .inr (.inl j) :: vs, hs, v, h => by
    rcases List.mem_cons.mp h with q | q
    · cases q; exact hs _ List.mem_cons_self
    · rcases List.mem_cons.mp q with q | q
      · cases q
      · exact a_fl_ok vs (okS_t hs) v q
  | .inl x :: vs, hs, v, h => by
    rcases List.mem_cons.mp h with q | q
    · cases q; exact hs _ List.mem_cons_self
    · exact a_fl_ok vs (okS_t hs) v q
  | .inr (.inr o) :: vs, hs, v, h => by
    rcases List.mem_cons.mp h with q | q
    · cases q; exact hs _ List.mem_cons_self
    · exact a_fl_ok vs (okS_t hs) v q
section E
variable {G : aG} {M : aM} {d pc n : Nat} {L : List (Option aV)} {st : List aV} {z : aZ} {hr : aR} {hi hl : aI} {Q : Option aV → aZ → aR → aI → aI → Prop}
/-- a contract out of the walk of the body -/
theorem a_ct_of {As : List aV} (hy : plainName M.1.cls = true) (hlen : (lg_sl (As.map (a_cv G))).length ≤ M.2.2.1) (h : a_wp G M d 0 (a_L0 As M.2.2.1) [] z hr hi hl Q) : a_ct G M d As z hr hi hl Q := by
  obtain ⟨r, z', hr', hi', hl', ⟨k1, k2, k3⟩, hq⟩ := h
  refine ⟨r, z', hr', hi', hl', ⟨k1, k2, fun hst hok => ?_⟩, hq⟩
  refine Met.ofW (cc := M.2.1) (maxL := M.2.2.1) (ret := M.2.2.2) hy rfl ?_
  intro p e s m args below meth c s₁ B hml hv
  obtain ⟨rfl, hrp, hwK⟩ := hv
  have hts := atoms_spec (ws := a_ws M) B.pre
  have C : a_Cx M p s m _ meth c := ⟨B.exec, B.bytes, hml, findClass_of_methodNamed B.named, fun w h1 h2 => hts w (List.mem_cons_of_mem _ (List.mem_filter.mpr ⟨h1, h2⟩)), B.returns, B.notSynchronized, (name_of_methodNamed B.named B.method).1⟩
  have hl0 := lv_entry (As.map (a_cv G)) (n := M.2.2.1) hlen
  rw [lg_entry_eq]
  refine k3 hst (fun v hv => ?_) (fun v hv => by cases hv) p e _ s m _ below meth c s.heap [] 0 0 _ (z'.1 - z.1) (z'.2.1 - z.2.1) ⟨C, Nat.le_refl _, Nat.le_refl _, Nat.zero_le _, Nat.zero_le _, hrp, hwK, va_S.rf, by rw [hrp.1]; exact Nat.le_add_right _ _, hrp.2.2.2.1, hl0.1, hl0.2.1, fun i v hv => ?_⟩ (by omega) (by omega) (Nat.le_refl _) (Nat.le_refl _)
  · rcases List.mem_append.mp hv with q | q
    · exact a_fl_ok As hok v q
    · have := List.eq_of_mem_replicate q; cases this
  · have h1 : (a_fl As)[i]? = some (some v) := by
      unfold a_L0 at hv
      by_cases hi9 : i < (a_fl As).length
      · rwa [List.getElem?_append_left hi9] at hv
      · rw [List.getElem?_append_right (by omega)] at hv
        have := List.eq_of_mem_replicate (List.mem_of_getElem? hv)
        cases this
    have h2 := a_fl_at (G := G) As i 0 v h1
    rw [Nat.zero_add] at h2
    exact hl0.2.2 _ h2
theorem a_ct.mono {As : List aV} {Q2 : Option aV → aZ → aR → aI → aI → Prop} (h : a_ct G M d As z hr hi hl Q) (hq : ∀ r z' hr' hi' hl', Q r z' hr' hi' hl' → Q2 r z' hr' hi' hl') : a_ct G M d As z hr hi hl Q2 := by
  obtain ⟨r, z', hr', hi', hl', h1, h2⟩ := h
  exact ⟨r, z', hr', hi', hl', h1, hq _ _ _ _ _ h2⟩
def a_cat : aV → Nat
  | .inr (.inl _) => 2
  | _ => 1
theorem a_cat_eq (v : aV) : (a_cv G v).category = a_cat v := by
  match v with
  | .inl i => rfl
  | .inr (.inl j) => rfl
  | .inr (.inr none) => rfl
  | .inr (.inr (some a)) => rfl
theorem a_cats (st : List aV) : ((st.map (a_cv G)).map fun v => v.category).sum = (st.map a_cat).sum := by
  induction st with
  | nil => rfl
  | cons v vs ih => simp only [List.map_cons, List.sum_cons, ih, a_cat_eq]
theorem a_wK.moved {s U : State} (hst : a_stab G) (hW : s.WarmedH U.vm) (h1 : gb G ≤ s.heap.size) (h2 : gb G ≤ U.heap.size) (hq : ∀ q, q < gb G → U.heap[q]? = s.heap[q]?) (h : a_wK G s) : a_wK G U := ⟨va_K.moved hW.alike h.1, hst s U hW h1 h2 hq h.2⟩
theorem a_blind (hst : a_stab G) {As : List aV} : FrameBlind (a_Pc G As z hr hi hl) := by
  intro a U g mk q
  obtain ⟨q0, q1, q2⟩ := q
  have hb : gb G ≤ U.heap.size := by rw [q1.1]; exact Nat.le_add_right _ _
  exact ⟨q0, q1, a_wK.moved (U := U.calling g mk a) hst (State.WarmedH.refl U) hb hb (fun _ _ => rfl) q2⟩
/-- what a row of the tables says, at any later tables -/
theorem a_word {M : aM} {p : Program} {s : State} {m : MethodId} {args : Array Value} {meth : Method} {c : Code} (C : a_Cx M p s m args meth c) {w : Cond} (h1 : w ∈ lw_tbl) (h2 : goodWord w = true) (a' : Array Value) (U : State) (hW : s.WarmedH U.vm) : w.before a' U = true := word_at hW (good_of_word h2) (C.2.2.2.2.1 w h1 h2)
theorem a_cont {p : Program} {e : Env} {R : Room} {s : State} {m : MethodId} {args : Array Value} {below : List Frame} {meth : Method} {c : Code} {H : Heap} {locs : List Loc} {cells slots mc ms : Nat} {ls : Array Slot} {Q0 : State → Prop} {st0 rest : List Value} {r : Option aV} {z' : aZ} {hr' : aR} {hi' hl' : aI} {a : Array Value} {dc ds : Nat}
    (hrun : va_Run p (gl G) e R s m args below meth c H locs cells slots mc ms (F0 m pc ls st0) rest (a_Qc G r z' hr' hi' hl' a) (fun q => gb G ≤ q)) (B : a_B G M d dc ds L z hr hi hl p R s m args meth c H locs cells slots ls) (hz : z.1 ≤ z'.1)
    (kk : ∀ (H2 : Heap) (locs2 : List Loc), a_rp G z' hr' hi' hl' H2 → va_S (fun q => gb G ≤ q) s.heap H2 locs2 → (∀ v, r = some v → a_ok v) → W p (gl G) e R s m args below meth c H2 locs2 (cells + mc) (slots + ms) Q0 (F0 m (pc + 3) ls ((r.map (a_cv G)).toList ++ rest))) : W p (gl G) e R s m args below meth c H locs cells slots Q0 (F0 m pc ls st0) := by
  intro T hT X
  obtain ⟨v, st₀, t, T', L9, h0, X', hL, e1, e2, ⟨hv, hb, ho⟩, hg⟩ := hrun T hT X
  cases hv
  have hrp := B.2.2.2.2.2.1
  have hS := B.2.2.2.2.2.2.2.1
  obtain ⟨t2, a1, b1⟩ := kk T'.heap (locs ++ L9) (by rw [e1]; exact hb) ⟨by rw [e1, hb.1]; have := hS.1; rw [hrp.1] at this; omega, fun q g1 g2 => by
      have g3 : q < gb G := Nat.not_le.mp g2
      rw [e1, hb.2.2.2.1 q g3]; exact (B.2.2.2.2.2.2.2.2.2.1 q g3).symm, fun q hq => by
      rcases List.mem_append.mp hq with h | h
      · exact hS.2.2 q h
      · exact hL q h⟩ ho T' rfl X'
  exact ⟨t2, hg t2 a1, b1⟩
/-- a call, once its run is known -/
theorem a_callW {M2 : aM} {d2 : Nat} {As : List aV} {st0 : List aV} {Q1 : Option aV → aZ → aR → aI → aI → Prop} (hn : pc + 3 = n) (hst0 : st0 = As.reverse ++ st) (C : a_ct G M2 d2 As z hr hi hl Q1)
    (hw : ∀ (r : Option aV) (z' : aZ) (hr' : aR) (hi' hl' : aI), a_stab G → z.1 ≤ z'.1 → z.2.1 ≤ z'.2.1 → Met (gl G) M2.1 (a_ws M2) (a_rm d2 z z') (a_Pc G As z hr hi hl) (a_Qc G r z' hr' hi' hl') (z'.1 - z.1) (z'.2.1 - z.2.1) (fun q => gb G ≤ q) →
      ∀ (p : Program) (e : Env) (R : Room) (s : State) (m : MethodId) (args : Array Value) (below : List Frame) (meth : Method) (c : Code) (H : Heap) (locs : List Loc) (cells slots : Nat) (ls : Array Slot), a_B G M d 0 0 L z hr hi hl p R s m args meth c H locs cells slots ls → cells + (z'.1 - z.1) ≤ R.cells → slots + (z'.2.1 - z.2.1) ≤ R.slots →
      va_Run p (gl G) e R s m args below meth c H locs cells slots (z'.1 - z.1) (z'.2.1 - z.2.1) (F0 m pc ls (st0.map (a_cv G))) (st.map (a_cv G)) (a_Qc G r z' hr' hi' hl' (As.map (a_cv G)).toArray) (fun q => gb G ≤ q))
    (k : ∀ r z' hr' hi' hl', Q1 r z' hr' hi' hl' → a_wp G M d n L (r.toList ++ st) z' hr' hi' hl' Q) : a_wp G M d pc L st0 z hr hi hl Q := by
  subst hn; subst hst0
  obtain ⟨r1, z1, hr1, hi1, hl1, ⟨c1, c2, c3⟩, hq1⟩ := C
  obtain ⟨r, z', hr', hi', hl', ⟨k1, k2, k3⟩, hq⟩ := k r1 z1 hr1 hi1 hl1 hq1
  refine ⟨r, z', hr', hi', hl', ⟨Nat.le_trans c1 k1, Nat.le_trans c2 k2, fun hst hL hS p e R s m args below meth c H locs cells slots ls mc ms B e1 e2 e3 e4 => ?_⟩, hq⟩
  have hAs : okS As := fun v hv => hS v (List.mem_append_left _ (List.mem_reverse.mpr hv))
  have hst2 : okS st := fun v hv => hS v (List.mem_append_right _ hv)
  have hrun := hw r1 z1 hr1 hi1 hl1 hst c1 c2 (c3 hst hAs) p e R s m args below meth c H locs cells slots ls B (by omega) (by omega)
  refine a_cont hrun B c1 (fun H2 locs2 g1 g2 g3 => ?_)
  have hB := B
  obtain ⟨b1, b2, b3, b4, b5, b6, b7, b8, b9, b10, b11⟩ := hB
  have h9 := k3 hst hL (fun v hv => by
    rcases List.mem_append.mp hv with q | q
    · cases r1 with
      | none => cases q
      | some v1 => rw [List.mem_singleton.mp q]; exact g3 v1 rfl
    · exact hst2 v q) p e R s m args below meth c H2 locs2 (cells + (z1.1 - z.1)) (slots + (z1.2.1 - z.2.1)) ls mc ms ⟨b1, b2, b3, by omega, by omega, g1, b7, g2, b9, b10, b11⟩ (by omega) (by omega) e3 e4
  rw [List.map_append] at h9
  cases r1 with
  | none => exact h9
  | some v1 => exact h9
/-- what a method brings to a call: its code's row, that its class is ready, how many arguments it takes, its room -/
def a_Ok (M2 : aM) (na : Nat) : Prop := Cond.code M2.1 M2.2.1 M2.2.2.1 M2.2.2.2 ∈ lw_tbl ∧ Cond.initialized M2.1.cls ∈ lw_tbl ∧ (M2.1.cls ≠ "java/lang/invoke/MethodHandle" ∧ M2.1.cls ≠ "java/lang/invoke/VarHandle") ∧ (parseMethodDescriptor M2.1.desc).map (fun d => d.parameters.length) = some na ∧ M2.2.2.1 ≤ 21
theorem a_CB {M2 : aM} {d2 idx na : Nat} {z' : aZ} {p : Program} {R : Room} {s : State} {m : MethodId} {args : Array Value} {meth : Method} {c : Code} {H : Heap} {locs : List Loc} {cells slots : Nat} {ls : Array Slot} (B : a_B G M d 0 0 L z hr hi hl p R s m args meth c H locs cells slots ls) (K : a_Ok M2 na) (hlink : Cond.methodLink M.1.cls idx M2.1 ∈ lw_tbl) (hdd : d2 + 1 ≤ d) :
    CallB R s args M.1.cls idx M2.1 M2.2.1 M2.2.2.1 M2.2.2.2 (a_ws M2) (a_rm d2 z z') (z'.1 - z.1) (z'.2.1 - z.2.1) na := by
  obtain ⟨K1, K2, K3, K4, K5⟩ := K
  have b2 := B.2.1
  have b3 := B.2.2.1
  refine ⟨rfl, rfl, by show d2 + 1 ≤ R.frames; omega, by show 8 + (M2.2.2.1 + 11) + 40 * d2 ≤ R.locals; omega, fun w hw a' U hW => ?_, List.mem_cons_self, B.1.2.2.2.2.1 _ K1 rfl, B.1.2.2.2.2.1 _ K2 rfl, K3, fun sig hsig => ?_, B.1.2.2.2.2.1 _ hlink rfl⟩
  · rcases List.mem_cons.mp hw with rfl | hw
    · exact a_word B.1 K1 rfl a' U hW
    · exact a_word B.1 (List.mem_filter.mp hw).1 (List.mem_filter.mp hw).2 a' U hW
  · rw [hsig] at K4
    exact (Option.some.inj K4).symm
theorem a_pcU {As : List aV} {p : Program} {R : Room} {s : State} {m : MethodId} {args : Array Value} {meth : Method} {c : Code} {H : Heap} {locs : List Loc} {cells slots : Nat} {ls : Array Slot} (hst : a_stab G) (B : a_B G M d 0 0 L z hr hi hl p R s m args meth c H locs cells slots ls) (U : State) (hU : U.heap = H) (hW : s.WarmedH U.vm) : a_Pc G As z hr hi hl (As.map (a_cv G)).toArray U := by
  have hrp := B.2.2.2.2.2.1
  refine ⟨rfl, by rw [hU]; exact hrp, a_wK.moved hst hW B.2.2.2.2.2.2.2.2.1 (by rw [hU, hrp.1]; exact Nat.le_add_right _ _) (fun q hq => ?_) B.2.2.2.2.2.2.1⟩
  rw [hU, hrp.2.2.2.1 q hq]
  exact (B.2.2.2.2.2.2.2.2.2.1 q hq).symm
theorem a_callS {M2 : aM} {d2 idx : Nat} {As st0 : List aV} {Q1 : Option aV → aZ → aR → aI → aI → Prop} (hd : decode M.2.1 pc = .ok (.invokestatic idx, 3)) (hn : pc + 3 = n) (K : a_Ok M2 As.length) (hlink : Cond.methodLink M.1.cls idx M2.1 ∈ lw_tbl) (hsta : Cond.static M2.1 ∈ lw_tbl) (hdd : d2 + 1 ≤ d) (C : a_ct G M2 d2 As z hr hi hl Q1) (hst0 : st0 = As.reverse ++ st) (hw : (st.map a_cat).sum ≤ 8)
    (k : ∀ r z' hr' hi' hl', Q1 r z' hr' hi' hl' → a_wp G M d n L (r.toList ++ st) z' hr' hi' hl' Q) : a_wp G M d pc L st0 z hr hi hl Q := by
  refine a_callW hn hst0 C (fun r z' hr' hi' hl' hst g1 g2 hM p e R s m args below meth c H locs cells slots ls B h1 h2 => ?_) k
  subst hst0
  exact va_runS (As := As.map (a_cv G)) (rest := st.map (a_cv G)) (n := As.length) ⟨B.1.1, B.1.2.1, B.1.2.2.1, B.1.2.2.2.1, B.1.ts⟩ hM ⟨a_CB B K hlink hdd, B.1.2.2.2.2.1 _ hsta rfl⟩ ⟨a_blind hst, fun U hU hW => a_pcU hst B U hU hW⟩ rfl (by simp) B.2.2.2.2.2.2.2.2.2.2.1 (by rw [List.map_append, List.map_reverse]) (lv_room (by rw [a_cats]; exact hw)) hd ⟨h1, h2⟩
theorem a_callV {M2 : aM} {d2 idx b t : Nat} {len : Int} {As st0 : List aV} {Q1 : Option aV → aZ → aR → aI → aI → Prop} (hd : decode M.2.1 pc = .ok (.invokevirtual idx, 3)) (hn : pc + 3 = n) (K : a_Ok M2 As.length) (hlink : Cond.methodLink M.1.cls idx M2.1 ∈ lw_tbl) (hin : Cond.instanceMethod M2.1 ∈ lw_tbl) (hsel : Cond.selects (a_Rn t) M2.1 M2.1 ∈ lw_tbl) (ht : t < 11) (hdd : d2 + 1 ≤ d) (C : a_ct G M2 d2 (vR b :: As) z hr hi hl Q1) (hb : a_is z b t len) (hst0 : st0 = As.reverse ++ vR b :: st) (hw : (st.map a_cat).sum ≤ 8)
    (k : ∀ r z' hr' hi' hl', Q1 r z' hr' hi' hl' → a_wp G M d n L (r.toList ++ st) z' hr' hi' hl' Q) : a_wp G M d pc L st0 z hr hi hl Q := by
  refine a_callW hn (by rw [hst0]; simp) C (fun r z' hr' hi' hl' hst g1 g2 hM p e R s m args below meth c H locs cells slots ls B h1 h2 => ?_) k
  subst hst0
  have hrp := B.2.2.2.2.2.1
  have hbr : a_cv G (vR b) = .ref (gb G + b) := a_cvR (a_lt9 B hb)
  obtain ⟨cellB, q1, q2, q3, -⟩ := a_obj hrp hb ht
  have hU : ∀ U : State, U.heap = H → s.WarmedH U.vm → a_Pc G (vR b :: As) z hr hi hl (Value.ref (gb G + b) :: As.map (a_cv G)).toArray U := fun U hU hW => by
    have := a_pcU (As := vR b :: As) hst B U hU hW
    rwa [List.map_cons, hbr] at this
  have hrun := va_runV (C := a_Rn t) (b := gb G + b) (As := As.map (a_cv G)) (rest := st.map (a_cv G)) (n := As.length) (g := F0 m pc ls ((As.map (a_cv G)).reverse ++ Value.ref (gb G + b) :: st.map (a_cv G))) (cells := cells) (slots := slots) (locs := locs) (e := e) (below := below) (meth := meth) ⟨B.1.1, B.1.2.1, B.1.2.2.1, B.1.2.2.2.1, B.1.ts⟩ hM ⟨a_CB B K hlink hdd, B.1.2.2.2.2.1 _ hin rfl, B.1.2.2.2.2.1 _ hsel rfl⟩ ⟨a_blind hst, ⟨cellB, q1, by rw [q3]; rfl, by rw [q2]; exact (B.2.2.2.2.2.2.1.1.1 t _ (a_vw t ht)).2.1⟩, hU⟩ rfl (by simp) B.2.2.2.2.2.2.2.2.2.2.1 rfl (lv_room (by rw [a_cats]; exact hw)) hd ⟨h1, h2⟩
  rw [List.map_append, List.map_cons, List.map_reverse, List.map_cons, hbr]
  exact hrun
theorem a_callI {M2 : aM} {d2 idx b : Nat} {As st0 : List aV} {Q1 : Option aV → aZ → aR → aI → aI → Prop} (hd : decode M.2.1 pc = .ok (.invokespecial idx, 3)) (hn : pc + 3 = n) (K : a_Ok M2 As.length) (hlink : Cond.methodLink M.1.cls idx M2.1 ∈ lw_tbl) (hin : Cond.instanceMethod M2.1 ∈ lw_tbl) (hnm : M2.1.name = "<init>") (hret : M2.2.2.2 = none) (hdd : d2 + 1 ≤ d) (hb : b < z.1) (C : a_ct G M2 d2 (vR b :: As) z hr hi hl Q1) (hst0 : st0 = As.reverse ++ vR b :: st) (hw : (st.map a_cat).sum ≤ 8)
    (k : ∀ r z' hr' hi' hl', Q1 r z' hr' hi' hl' → a_wp G M d n L (r.toList ++ st) z' hr' hi' hl' Q) : a_wp G M d pc L st0 z hr hi hl Q := by
  refine a_callW hn (by rw [hst0]; simp) C (fun r z' hr' hi' hl' hst g1 g2 hM p e R s m args below meth c H locs cells slots ls B h1 h2 => ?_) k
  subst hst0
  have hrp := B.2.2.2.2.2.1
  have hbr : a_cv G (vR b) = .ref (gb G + b) := a_cvR (Nat.lt_trans hb hrp.2.1)
  have hU : ∀ U : State, U.heap = H → s.WarmedH U.vm → a_Pc G (vR b :: As) z hr hi hl (Value.ref (gb G + b) :: As.map (a_cv G)).toArray U := fun U hU hW => by
    have := a_pcU (As := vR b :: As) hst B U hU hW
    rwa [List.map_cons, hbr] at this
  have hcb := a_CB (z' := z') B K hlink hdd
  rw [hret] at hcb
  have hrun := va_runI (b := gb G + b) (As := As.map (a_cv G)) (rest := st.map (a_cv G)) (n := As.length) (g := F0 m pc ls ((As.map (a_cv G)).reverse ++ Value.ref (gb G + b) :: st.map (a_cv G))) (cells := cells) (slots := slots) (locs := locs) (e := e) (below := below) (meth := meth) ⟨B.1.1, B.1.2.1, B.1.2.2.1, B.1.2.2.2.1, B.1.ts⟩ hM ⟨hcb, hnm, B.1.2.2.2.2.1 _ hin rfl⟩ ⟨a_blind hst, hU⟩ rfl (by simp) B.2.2.2.2.2.2.2.2.2.2.1 rfl (lv_room (by rw [a_cats]; exact hw)) hd ⟨h1, h2⟩
  rw [List.map_append, List.map_cons, List.map_reverse, List.map_cons, hbr]
  exact hrun
end E
end
section
/-! calls of nest mates; Object's constructor; Math.min and max -/
section F
variable {G : aG} {M : aM} {d pc n : Nat} {L : List (Option aV)} {st : List aV} {z : aZ} {hr : aR} {hi hl : aI} {Q : Option aV → aZ → aR → aI → aI → Prop}
theorem a_CNk {M2 : aM} {d2 idx na : Nat} {host : String} {z' : aZ} {p : Program} {R : Room} {s : State} {m : MethodId} {args : Array Value} {meth : Method} {c : Code} {H : Heap} {locs : List Loc} {cells slots : Nat} {ls : Array Slot} (B : a_B G M d 0 0 L z hr hi hl p R s m args meth c H locs cells slots ls) (K : a_Ok M2 na) (hlink : ∀ U, gX G U → va_Nw (.methodLinkNest M.1.cls idx M2.1 host) U) (hdd : d2 + 1 ≤ d) :
    va_CN R s args M.1.cls idx M2.1 host M2.2.1 M2.2.2.1 M2.2.2.2 (a_ws M2) (a_rm d2 z z') (z'.1 - z.1) (z'.2.1 - z.2.1) na := by
  obtain ⟨K1, K2, K3, K4, K5⟩ := K
  have b2 := B.2.1
  have b3 := B.2.2.1
  refine va_cnB (Ts := a_ws M2) na (fun w hw => ?_) (fun w hw => ⟨hw, ?_⟩) rfl rfl rfl (hlink s B.2.2.2.2.2.2.1.2) (B.1.2.2.2.2.1 _ K2 rfl) ⟨K3.1, K3.2, K4⟩ ⟨by show d2 + 1 ≤ R.frames; omega, by show 8 + (M2.2.2.1 + 11) + 40 * d2 ≤ R.locals; omega⟩
  · rcases List.mem_cons.mp hw with rfl | hw
    · exact B.1.2.2.2.2.1 _ K1 rfl
    · exact B.1.ts w hw
  · rcases List.mem_cons.mp hw with rfl | hw
    · exact good_of_word rfl
    · exact good_of_word (List.mem_filter.mp hw).2
theorem a_callSN {M2 : aM} {d2 idx : Nat} {host : String} {As st0 : List aV} {Q1 : Option aV → aZ → aR → aI → aI → Prop} (hd : decode M.2.1 pc = .ok (.invokestatic idx, 3)) (hn : pc + 3 = n) (K : a_Ok M2 As.length) (hlink : ∀ U, gX G U → va_Nw (.methodLinkNest M.1.cls idx M2.1 host) U) (hsta : Cond.static M2.1 ∈ lw_tbl) (hdd : d2 + 1 ≤ d) (C : a_ct G M2 d2 As z hr hi hl Q1) (hst0 : st0 = As.reverse ++ st) (hw : (st.map a_cat).sum ≤ 8)
    (k : ∀ r z' hr' hi' hl', Q1 r z' hr' hi' hl' → a_wp G M d n L (r.toList ++ st) z' hr' hi' hl' Q) : a_wp G M d pc L st0 z hr hi hl Q := by
  refine a_callW hn hst0 C (fun r z' hr' hi' hl' hst g1 g2 hM p e R s m args below meth c H locs cells slots ls B h1 h2 => ?_) k
  subst hst0
  exact va_runSN (As := As.map (a_cv G)) (rest := st.map (a_cv G)) (n := As.length) ⟨B.1.1, B.1.2.1, B.1.2.2.1, B.1.2.2.2.1, B.1.ts⟩ hM ⟨a_CNk B K hlink hdd, B.1.2.2.2.2.1 _ hsta rfl, trivial⟩ ⟨a_blind hst, fun U hU hW => a_pcU hst B U hU hW⟩ rfl (by simp) B.2.2.2.2.2.2.2.2.2.2.1 (by rw [List.map_append, List.map_reverse]) (lv_room (by rw [a_cats]; exact hw)) hd ⟨h1, h2⟩
theorem a_callIN {M2 : aM} {d2 idx b : Nat} {host : String} {As st0 : List aV} {Q1 : Option aV → aZ → aR → aI → aI → Prop} (hd : decode M.2.1 pc = .ok (.invokespecial idx, 3)) (hn : pc + 3 = n) (K : a_Ok M2 As.length) (hlink : ∀ U, gX G U → va_Nw (.methodLinkNest M.1.cls idx M2.1 host) U) (hin : Cond.instanceMethod M2.1 ∈ lw_tbl) (hnm : M2.1.name = "<init>") (hret : M2.2.2.2 = none) (hdd : d2 + 1 ≤ d) (hb : b < z.1) (C : a_ct G M2 d2 (vR b :: As) z hr hi hl Q1) (hst0 : st0 = As.reverse ++ vR b :: st) (hw : (st.map a_cat).sum ≤ 8)
    (k : ∀ r z' hr' hi' hl', Q1 r z' hr' hi' hl' → a_wp G M d n L (r.toList ++ st) z' hr' hi' hl' Q) : a_wp G M d pc L st0 z hr hi hl Q := by
  refine a_callW hn (by rw [hst0]; simp) C (fun r z' hr' hi' hl' hst g1 g2 hM p e R s m args below meth c H locs cells slots ls B h1 h2 => ?_) k
  subst hst0
  have hrp := B.2.2.2.2.2.1
  have hbr : a_cv G (vR b) = .ref (gb G + b) := a_cvR (Nat.lt_trans hb hrp.2.1)
  have hU : ∀ U : State, U.heap = H → s.WarmedH U.vm → a_Pc G (vR b :: As) z hr hi hl (Value.ref (gb G + b) :: As.map (a_cv G)).toArray U := fun U hU hW => by
    have := a_pcU (As := vR b :: As) hst B U hU hW
    rwa [List.map_cons, hbr] at this
  have hcb := a_CNk (z' := z') B K hlink hdd
  rw [hret] at hcb
  have hrun := va_runIN (b := gb G + b) (As := As.map (a_cv G)) (rest := st.map (a_cv G)) (n := As.length) (g := F0 m pc ls ((As.map (a_cv G)).reverse ++ Value.ref (gb G + b) :: st.map (a_cv G))) (cells := cells) (slots := slots) (locs := locs) (e := e) (below := below) (meth := meth) ⟨B.1.1, B.1.2.1, B.1.2.2.1, B.1.2.2.2.1, B.1.ts⟩ hM ⟨hcb, hnm, B.1.2.2.2.2.1 _ hin rfl⟩ ⟨a_blind hst, hU⟩ rfl (by simp) B.2.2.2.2.2.2.2.2.2.2.1 rfl (lv_room (by rw [a_cats]; exact hw)) hd ⟨h1, h2⟩
  rw [List.map_append, List.map_cons, List.map_reverse, List.map_cons, hbr]
  exact hrun
theorem obj_in : Cond.instanceMethod objectInit ∈ lw_tbl := by decide +kernel
theorem obj_code : Cond.code objectInit ⟨#[0xb1]⟩ 1 none ∈ lw_tbl := by decide +kernel
theorem a_objInit {b idx : Nat} (hd : decode M.2.1 pc = .ok (.invokespecial idx, 3)) (hn : pc + 3 = n) (hlink : Cond.methodLink M.1.cls idx objectInit ∈ lw_tbl) (hdd : 1 ≤ d) (hb : b < z.1) (hw : (st.map a_cat).sum ≤ 8) (k : a_wp G M d n L st z hr hi hl Q) : a_wp G M d pc L (vR b :: st) z hr hi hl Q := by
  subst hn
  refine a_go k (fun hL hs _ _ => okS_t hs) (fun hL hS p e R s m args below meth c H locs cells slots ls Q0 B kk => ?_)
  have hbr : a_cv G (vR b) = .ref (gb G + b) := a_cvR (Nat.lt_trans hb B.2.2.2.2.2.1.2.1)
  have b2 := B.2.1
  have b3 := B.2.2.1
  rw [List.map_cons, hbr]
  refine W.objInit B.1.1 B.1.2.1 B.1.2.2.2.1 (B.1.2.2.2.2.1 _ hlink rfl) (B.1.2.2.2.2.1 _ obj_in rfl) (B.1.2.2.2.2.1 _ obj_code rfl) rfl (B.2.2.2.2.2.2.2.2.2.2.1.trans B.1.2.2.1.symm) rfl hd (by omega) ?_ kk
  have := lv_room (m := m) (pc := pc) (ls := ls) (rest := Value.ref (gb G + b) :: st.map (a_cv G)) (st := st.map (a_cv G)) (by rw [a_cats]; exact hw)
  omega
end F
end
section
set_option maxRecDepth 100000 in
theorem fX2_11 : a_Fl RX2 11 2 0 0 true := ⟨by decide, by decide, rfl, List.mem_append_right _ (List.mem_of_getElem? (i := 40) (by decide +kernel)), rfl⟩
set_option maxRecDepth 100000 in
theorem fX2_15 : a_Fl RX2 15 2 1 1 true := ⟨by decide, by decide, rfl, List.mem_append_right _ (List.mem_of_getElem? (i := 41) (by decide +kernel)), rfl⟩
set_option maxRecDepth 100000 in
theorem fX2_18 : a_Fl RX2 18 2 2 2 true := ⟨by decide, by decide, rfl, List.mem_append_right _ (List.mem_of_getElem? (i := 42) (by decide +kernel)), rfl⟩
set_option maxRecDepth 100000 in
theorem fX2_21 : a_Fl RX2 21 2 3 3 true := ⟨by decide, by decide, rfl, List.mem_append_right _ (List.mem_of_getElem? (i := 43) (by decide +kernel)), rfl⟩
set_option maxRecDepth 100000 in
theorem fX2_24 : a_Fl RX2 24 2 4 4 true := ⟨by decide, by decide, rfl, List.mem_append_right _ (List.mem_of_getElem? (i := 44) (by decide +kernel)), rfl⟩
set_option maxRecDepth 100000 in
theorem fX2_27 : a_Fl RX2 27 2 5 5 true := ⟨by decide, by decide, rfl, List.mem_append_right _ (List.mem_of_getElem? (i := 45) (by decide +kernel)), rfl⟩
set_option maxRecDepth 100000 in
theorem fX2_30 : a_Fl RX2 30 2 6 6 false := ⟨by decide, by decide, rfl, List.mem_append_right _ (List.mem_of_getElem? (i := 46) (by decide +kernel)), rfl⟩
set_option maxRecDepth 100000 in
theorem fX9_232 : a_Fl RX9 232 2 6 6 false := ⟨by decide, by decide, rfl, List.mem_append_right _ (List.mem_of_getElem? (i := 47) (by decide +kernel)), rfl⟩
set_option maxRecDepth 100000 in
theorem fX2_34 : a_Fl RX2 34 2 7 7 false := ⟨by decide, by decide, rfl, List.mem_append_right _ (List.mem_of_getElem? (i := 48) (by decide +kernel)), rfl⟩
set_option maxRecDepth 100000 in
theorem fX9_235 : a_Fl RX9 235 2 7 7 false := ⟨by decide, by decide, rfl, List.mem_append_right _ (List.mem_of_getElem? (i := 49) (by decide +kernel)), rfl⟩
set_option maxRecDepth 100000 in
theorem fX1_24 : a_Fl RX1 24 1 0 0 true := ⟨by decide, by decide, rfl, List.mem_append_right _ (List.mem_of_getElem? (i := 74) (by decide +kernel)), rfl⟩
set_option maxRecDepth 100000 in
theorem fX1_28 : a_Fl RX1 28 1 1 1 true := ⟨by decide, by decide, rfl, List.mem_append_right _ (List.mem_of_getElem? (i := 75) (by decide +kernel)), rfl⟩
set_option maxRecDepth 100000 in
theorem fX1_9 : a_Fl RX1 9 1 2 2 true := ⟨by decide, by decide, rfl, List.mem_append_right _ (List.mem_of_getElem? (i := 76) (by decide +kernel)), rfl⟩
set_option maxRecDepth 100000 in
theorem fX1_15 : a_Fl RX1 15 1 3 3 true := ⟨by decide, by decide, rfl, List.mem_append_right _ (List.mem_of_getElem? (i := 77) (by decide +kernel)), rfl⟩
set_option maxRecDepth 100000 in
theorem fX1_18 : a_Fl RX1 18 1 4 4 true := ⟨by decide, by decide, rfl, List.mem_append_right _ (List.mem_of_getElem? (i := 78) (by decide +kernel)), rfl⟩
set_option maxRecDepth 100000 in
theorem fX1_21 : a_Fl RX1 21 1 5 5 true := ⟨by decide, by decide, rfl, List.mem_append_right _ (List.mem_of_getElem? (i := 79) (by decide +kernel)), rfl⟩
set_option maxRecDepth 100000 in
theorem fX1_32 : a_Fl RX1 32 1 6 6 false := ⟨by decide, by decide, rfl, List.mem_append_right _ (List.mem_of_getElem? (i := 80) (by decide +kernel)), rfl⟩
set_option maxRecDepth 100000 in
theorem fX1_36 : a_Fl RX1 36 1 7 7 false := ⟨by decide, by decide, rfl, List.mem_append_right _ (List.mem_of_getElem? (i := 81) (by decide +kernel)), rfl⟩
set_option maxRecDepth 100000 in
theorem fX7_9 : a_Fl RX7 9 7 0 0 true := ⟨by decide, by decide, rfl, List.mem_append_right _ (List.mem_of_getElem? (i := 105) (by decide +kernel)), rfl⟩
set_option maxRecDepth 100000 in
theorem fX8_54 : a_Fl RX8 54 7 0 0 true := ⟨by decide, by decide, rfl, List.mem_append_right _ (List.mem_of_getElem? (i := 106) (by decide +kernel)), rfl⟩
set_option maxRecDepth 100000 in
theorem fX8_31 : a_Fl RX8 31 7 1 1 false := ⟨by decide, by decide, rfl, List.mem_append_right _ (List.mem_of_getElem? (i := 107) (by decide +kernel)), rfl⟩
set_option maxRecDepth 100000 in
theorem fX7_19 : a_Fl RX7 19 7 1 1 false := ⟨by decide, by decide, rfl, List.mem_append_right _ (List.mem_of_getElem? (i := 108) (by decide +kernel)), rfl⟩
set_option maxRecDepth 100000 in
theorem fX9_180 : a_Fl RX9 180 7 1 1 false := ⟨by decide, by decide, rfl, List.mem_append_right _ (List.mem_of_getElem? (i := 109) (by decide +kernel)), rfl⟩
set_option maxRecDepth 100000 in
theorem fX8_11 : a_Fl RX8 11 8 0 0 true := ⟨by decide, by decide, rfl, List.mem_append_right _ (List.mem_of_getElem? (i := 127) (by decide +kernel)), rfl⟩
set_option maxRecDepth 100000 in
theorem fX4_39 : a_Fl RX4 39 8 0 0 true := ⟨by decide, by decide, rfl, List.mem_append_right _ (List.mem_of_getElem? (i := 128) (by decide +kernel)), rfl⟩
set_option maxRecDepth 100000 in
theorem fX8_15 : a_Fl RX8 15 8 1 1 true := ⟨by decide, by decide, rfl, List.mem_append_right _ (List.mem_of_getElem? (i := 129) (by decide +kernel)), rfl⟩
set_option maxRecDepth 100000 in
theorem fX4_86 : a_Fl RX4 86 8 1 1 true := ⟨by decide, by decide, rfl, List.mem_append_right _ (List.mem_of_getElem? (i := 130) (by decide +kernel)), rfl⟩
set_option maxRecDepth 100000 in
theorem fX8_18 : a_Fl RX8 18 8 2 2 true := ⟨by decide, by decide, rfl, List.mem_append_right _ (List.mem_of_getElem? (i := 131) (by decide +kernel)), rfl⟩
set_option maxRecDepth 100000 in
theorem fX4_83 : a_Fl RX4 83 8 2 2 true := ⟨by decide, by decide, rfl, List.mem_append_right _ (List.mem_of_getElem? (i := 132) (by decide +kernel)), rfl⟩
set_option maxRecDepth 100000 in
theorem fX8_21 : a_Fl RX8 21 8 3 3 false := ⟨by decide, by decide, rfl, List.mem_append_right _ (List.mem_of_getElem? (i := 133) (by decide +kernel)), rfl⟩
set_option maxRecDepth 100000 in
theorem fX5_9 : a_Fl RX5 9 5 0 0 true := ⟨by decide, by decide, rfl, List.mem_append_right _ (List.mem_of_getElem? (i := 149) (by decide +kernel)), rfl⟩
set_option maxRecDepth 100000 in
theorem fX5_15 : a_Fl RX5 15 5 1 1 true := ⟨by decide, by decide, rfl, List.mem_append_right _ (List.mem_of_getElem? (i := 150) (by decide +kernel)), rfl⟩
set_option maxRecDepth 100000 in
theorem fX5_18 : a_Fl RX5 18 5 2 2 true := ⟨by decide, by decide, rfl, List.mem_append_right _ (List.mem_of_getElem? (i := 151) (by decide +kernel)), rfl⟩
set_option maxRecDepth 100000 in
theorem fX5_21 : a_Fl RX5 21 5 3 3 true := ⟨by decide, by decide, rfl, List.mem_append_right _ (List.mem_of_getElem? (i := 152) (by decide +kernel)), rfl⟩
set_option maxRecDepth 100000 in
theorem fX5_25 : a_Fl RX5 25 5 4 4 true := ⟨by decide, by decide, rfl, List.mem_append_right _ (List.mem_of_getElem? (i := 153) (by decide +kernel)), rfl⟩
set_option maxRecDepth 100000 in
theorem fX5_39 : a_Fl RX5 39 5 5 5 false := ⟨by decide, by decide, rfl, List.mem_append_right _ (List.mem_of_getElem? (i := 154) (by decide +kernel)), rfl⟩
set_option maxRecDepth 100000 in
theorem fX5_28 : a_Fl RX5 28 5 6 6 false := ⟨by decide, by decide, rfl, List.mem_append_right _ (List.mem_of_getElem? (i := 155) (by decide +kernel)), rfl⟩
set_option maxRecDepth 100000 in
theorem fX5_32 : a_Fl RX5 32 5 7 7 false := ⟨by decide, by decide, rfl, List.mem_append_right _ (List.mem_of_getElem? (i := 156) (by decide +kernel)), rfl⟩
set_option maxRecDepth 100000 in
theorem fX9_243 : a_Fl RX9 243 5 7 7 false := ⟨by decide, by decide, rfl, List.mem_append_right _ (List.mem_of_getElem? (i := 157) (by decide +kernel)), rfl⟩
set_option maxRecDepth 100000 in
theorem fX4_12 : a_Fl RX4 12 4 0 0 true := ⟨by decide, by decide, rfl, List.mem_append_right _ (List.mem_of_getElem? (i := 176) (by decide +kernel)), rfl⟩
set_option maxRecDepth 100000 in
theorem fX4_21 : a_Fl RX4 21 4 1 1 true := ⟨by decide, by decide, rfl, List.mem_append_right _ (List.mem_of_getElem? (i := 177) (by decide +kernel)), rfl⟩
set_option maxRecDepth 100000 in
theorem fX4_36 : a_Fl RX4 36 4 2 2 false := ⟨by decide, by decide, rfl, List.mem_append_right _ (List.mem_of_getElem? (i := 178) (by decide +kernel)), rfl⟩
set_option maxRecDepth 100000 in
theorem fX4_43 : a_Fl RX4 43 4 3 3 false := ⟨by decide, by decide, rfl, List.mem_append_right _ (List.mem_of_getElem? (i := 179) (by decide +kernel)), rfl⟩
set_option maxRecDepth 100000 in
theorem fX4_32 : a_Fl RX4 32 4 4 4 false := ⟨by decide, by decide, rfl, List.mem_append_right _ (List.mem_of_getElem? (i := 180) (by decide +kernel)), rfl⟩
set_option maxRecDepth 100000 in
theorem fX6_11 : a_Fl RX6 11 6 0 0 true := ⟨by decide, by decide, rfl, List.mem_append_right _ (List.mem_of_getElem? (i := 198) (by decide +kernel)), rfl⟩
set_option maxRecDepth 100000 in
theorem fX6_15 : a_Fl RX6 15 6 1 1 false := ⟨by decide, by decide, rfl, List.mem_append_right _ (List.mem_of_getElem? (i := 199) (by decide +kernel)), rfl⟩
set_option maxRecDepth 100000 in
theorem fX9_238 : a_Fl RX9 238 6 1 1 false := ⟨by decide, by decide, rfl, List.mem_append_right _ (List.mem_of_getElem? (i := 200) (by decide +kernel)), rfl⟩
set_option maxRecDepth 100000 in
theorem fX9_11 : a_Fl RX9 11 9 0 0 true := ⟨by decide, by decide, rfl, List.mem_append_right _ (List.mem_of_getElem? (i := 208) (by decide +kernel)), rfl⟩
set_option maxRecDepth 100000 in
theorem fX9_17 : a_Fl RX9 17 9 1 1 true := ⟨by decide, by decide, rfl, List.mem_append_right _ (List.mem_of_getElem? (i := 209) (by decide +kernel)), rfl⟩
set_option maxRecDepth 100000 in
theorem fX9_24 : a_Fl RX9 24 9 2 2 true := ⟨by decide, by decide, rfl, List.mem_append_right _ (List.mem_of_getElem? (i := 210) (by decide +kernel)), rfl⟩
set_option maxRecDepth 100000 in
theorem fX9_33 : a_Fl RX9 33 9 3 3 true := ⟨by decide, by decide, rfl, List.mem_append_right _ (List.mem_of_getElem? (i := 211) (by decide +kernel)), rfl⟩
set_option maxRecDepth 100000 in
theorem fX9_40 : a_Fl RX9 40 9 4 4 true := ⟨by decide, by decide, rfl, List.mem_append_right _ (List.mem_of_getElem? (i := 212) (by decide +kernel)), rfl⟩
set_option maxRecDepth 100000 in
theorem fX9_47 : a_Fl RX9 47 9 5 5 true := ⟨by decide, by decide, rfl, List.mem_append_right _ (List.mem_of_getElem? (i := 213) (by decide +kernel)), rfl⟩
set_option maxRecDepth 100000 in
theorem fX9_54 : a_Fl RX9 54 9 6 6 true := ⟨by decide, by decide, rfl, List.mem_append_right _ (List.mem_of_getElem? (i := 214) (by decide +kernel)), rfl⟩
set_option maxRecDepth 100000 in
theorem fX9_58 : a_Fl RX9 58 9 7 7 true := ⟨by decide, by decide, rfl, List.mem_append_right _ (List.mem_of_getElem? (i := 215) (by decide +kernel)), rfl⟩
set_option maxRecDepth 100000 in
theorem fX9_65 : a_Fl RX9 65 9 8 8 true := ⟨by decide, by decide, rfl, List.mem_append_right _ (List.mem_of_getElem? (i := 216) (by decide +kernel)), rfl⟩
set_option maxRecDepth 100000 in
theorem fX9_81 : a_Fl RX9 81 9 9 9 false := ⟨by decide, by decide, rfl, List.mem_append_right _ (List.mem_of_getElem? (i := 217) (by decide +kernel)), rfl⟩
set_option maxRecDepth 100000 in
theorem fX9_133 : a_Fl RX9 133 9 10 10 false := ⟨by decide, by decide, rfl, List.mem_append_right _ (List.mem_of_getElem? (i := 218) (by decide +kernel)), rfl⟩
set_option maxRecDepth 100000 in
theorem fX9_73 : a_Fl RX9 73 9 11 11 false := ⟨by decide, by decide, rfl, List.mem_append_right _ (List.mem_of_getElem? (i := 219) (by decide +kernel)), rfl⟩
set_option maxRecDepth 100000 in
theorem fX3_25 : a_Fl RX3 25 3 0 0 false := ⟨by decide, by decide, rfl, List.mem_append_right _ (List.mem_of_getElem? (i := 265) (by decide +kernel)), rfl⟩
set_option maxRecDepth 100000 in
theorem fX9_271 : a_Fl RX9 271 3 0 0 false := ⟨by decide, by decide, rfl, List.mem_append_right _ (List.mem_of_getElem? (i := 266) (by decide +kernel)), rfl⟩
set_option maxRecDepth 100000 in
theorem fX3_28 : a_Fl RX3 28 3 1 1 false := ⟨by decide, by decide, rfl, List.mem_append_right _ (List.mem_of_getElem? (i := 267) (by decide +kernel)), rfl⟩
set_option maxRecDepth 100000 in
theorem fX9_249 : a_Fl RX9 249 3 1 1 false := ⟨by decide, by decide, rfl, List.mem_append_right _ (List.mem_of_getElem? (i := 268) (by decide +kernel)), rfl⟩
set_option maxRecDepth 100000 in
theorem fX3_31 : a_Fl RX3 31 3 2 2 true := ⟨by decide, by decide, rfl, List.mem_append_right _ (List.mem_of_getElem? (i := 269) (by decide +kernel)), rfl⟩
set_option maxRecDepth 100000 in
theorem fX9_252 : a_Fl RX9 252 3 2 2 true := ⟨by decide, by decide, rfl, List.mem_append_right _ (List.mem_of_getElem? (i := 270) (by decide +kernel)), rfl⟩
set_option maxRecDepth 100000 in
theorem fX3_35 : a_Fl RX3 35 3 3 3 true := ⟨by decide, by decide, rfl, List.mem_append_right _ (List.mem_of_getElem? (i := 271) (by decide +kernel)), rfl⟩
set_option maxRecDepth 100000 in
theorem fX9_259 : a_Fl RX9 259 3 3 3 true := ⟨by decide, by decide, rfl, List.mem_append_right _ (List.mem_of_getElem? (i := 272) (by decide +kernel)), rfl⟩
set_option maxRecDepth 100000 in
theorem fX3_38 : a_Fl RX3 38 3 4 4 false := ⟨by decide, by decide, rfl, List.mem_append_right _ (List.mem_of_getElem? (i := 273) (by decide +kernel)), rfl⟩
set_option maxRecDepth 100000 in
theorem fX9_262 : a_Fl RX9 262 3 4 4 false := ⟨by decide, by decide, rfl, List.mem_append_right _ (List.mem_of_getElem? (i := 274) (by decide +kernel)), rfl⟩
set_option maxRecDepth 100000 in
theorem fX3_41 : a_Fl RX3 41 3 5 5 false := ⟨by decide, by decide, rfl, List.mem_append_right _ (List.mem_of_getElem? (i := 275) (by decide +kernel)), rfl⟩
set_option maxRecDepth 100000 in
theorem fX9_191 : a_Fl RX9 191 3 5 5 false := ⟨by decide, by decide, rfl, List.mem_append_right _ (List.mem_of_getElem? (i := 276) (by decide +kernel)), rfl⟩
set_option maxRecDepth 100000 in
theorem fX3_44 : a_Fl RX3 44 3 6 6 false := ⟨by decide, by decide, rfl, List.mem_append_right _ (List.mem_of_getElem? (i := 277) (by decide +kernel)), rfl⟩
set_option maxRecDepth 100000 in
theorem fX9_194 : a_Fl RX9 194 3 6 6 false := ⟨by decide, by decide, rfl, List.mem_append_right _ (List.mem_of_getElem? (i := 278) (by decide +kernel)), rfl⟩
set_option maxRecDepth 100000 in
theorem fX3_9 : a_Fl RX3 9 3 7 7 true := ⟨by decide, by decide, rfl, List.mem_append_right _ (List.mem_of_getElem? (i := 279) (by decide +kernel)), rfl⟩
set_option maxRecDepth 100000 in
theorem fX9_222 : a_Fl RX9 222 3 7 7 true := ⟨by decide, by decide, rfl, List.mem_append_right _ (List.mem_of_getElem? (i := 280) (by decide +kernel)), rfl⟩
set_option maxRecDepth 100000 in
theorem fX3_48 : a_Fl RX3 48 3 8 8 false := ⟨by decide, by decide, rfl, List.mem_append_right _ (List.mem_of_getElem? (i := 281) (by decide +kernel)), rfl⟩
set_option maxRecDepth 100000 in
theorem fX9_98 : a_Fl RX9 98 3 8 8 false := ⟨by decide, by decide, rfl, List.mem_append_right _ (List.mem_of_getElem? (i := 282) (by decide +kernel)), rfl⟩
set_option maxRecDepth 100000 in
theorem fX3_62 : a_Fl RX3 62 3 9 9 false := ⟨by decide, by decide, rfl, List.mem_append_right _ (List.mem_of_getElem? (i := 283) (by decide +kernel)), rfl⟩
set_option maxRecDepth 100000 in
theorem fX9_151 : a_Fl RX9 151 3 9 9 false := ⟨by decide, by decide, rfl, List.mem_append_right _ (List.mem_of_getElem? (i := 284) (by decide +kernel)), rfl⟩
set_option maxRecDepth 100000 in
theorem fX3_15 : a_Fl RX3 15 3 10 10 false := ⟨by decide, by decide, rfl, List.mem_append_right _ (List.mem_of_getElem? (i := 285) (by decide +kernel)), rfl⟩
set_option maxRecDepth 100000 in
theorem fX9_154 : a_Fl RX9 154 3 10 10 false := ⟨by decide, by decide, rfl, List.mem_append_right _ (List.mem_of_getElem? (i := 286) (by decide +kernel)), rfl⟩
set_option maxRecDepth 100000 in
theorem fX3_72 : a_Fl RX3 72 3 11 11 false := ⟨by decide, by decide, rfl, List.mem_append_right _ (List.mem_of_getElem? (i := 287) (by decide +kernel)), rfl⟩
set_option maxRecDepth 100000 in
theorem fX9_157 : a_Fl RX9 157 3 11 11 false := ⟨by decide, by decide, rfl, List.mem_append_right _ (List.mem_of_getElem? (i := 288) (by decide +kernel)), rfl⟩
set_option maxRecDepth 100000 in
theorem fX3_19 : a_Fl RX3 19 3 12 12 false := ⟨by decide, by decide, rfl, List.mem_append_right _ (List.mem_of_getElem? (i := 289) (by decide +kernel)), rfl⟩
set_option maxRecDepth 100000 in
theorem fX9_160 : a_Fl RX9 160 3 12 12 false := ⟨by decide, by decide, rfl, List.mem_append_right _ (List.mem_of_getElem? (i := 290) (by decide +kernel)), rfl⟩
set_option maxRecDepth 100000 in
theorem fX3_22 : a_Fl RX3 22 3 13 13 false := ⟨by decide, by decide, rfl, List.mem_append_right _ (List.mem_of_getElem? (i := 291) (by decide +kernel)), rfl⟩
set_option maxRecDepth 100000 in
theorem fX1_42 : a_Fl RX1 42 3 13 13 false := ⟨by decide, by decide, rfl, List.mem_append_right _ (List.mem_of_getElem? (i := 292) (by decide +kernel)), rfl⟩
set_option maxRecDepth 100000 in
theorem fX9_167 : a_Fl RX9 167 3 13 13 false := ⟨by decide, by decide, rfl, List.mem_append_right _ (List.mem_of_getElem? (i := 293) (by decide +kernel)), rfl⟩
set_option maxRecDepth 100000 in
theorem fX3_81 : a_Fl RX3 81 3 14 14 false := ⟨by decide, by decide, rfl, List.mem_append_right _ (List.mem_of_getElem? (i := 294) (by decide +kernel)), rfl⟩
set_option maxRecDepth 100000 in
theorem fX9_265 : a_Fl RX9 265 3 14 14 false := ⟨by decide, by decide, rfl, List.mem_append_right _ (List.mem_of_getElem? (i := 295) (by decide +kernel)), rfl⟩
set_option maxRecDepth 100000 in
theorem fX3_75 : a_Fl RX3 75 3 15 15 false := ⟨by decide, by decide, rfl, List.mem_append_right _ (List.mem_of_getElem? (i := 296) (by decide +kernel)), rfl⟩
set_option maxRecDepth 100000 in
theorem fX9_268 : a_Fl RX9 268 3 15 15 false := ⟨by decide, by decide, rfl, List.mem_append_right _ (List.mem_of_getElem? (i := 297) (by decide +kernel)), rfl⟩
set_option maxRecDepth 100000 in
theorem fX3_78 : a_Fl RX3 78 3 16 16 false := ⟨by decide, by decide, rfl, List.mem_append_right _ (List.mem_of_getElem? (i := 298) (by decide +kernel)), rfl⟩
set_option maxRecDepth 100000 in
theorem fX9_170 : a_Fl RX9 170 3 16 16 false := ⟨by decide, by decide, rfl, List.mem_append_right _ (List.mem_of_getElem? (i := 299) (by decide +kernel)), rfl⟩
set_option maxRecDepth 100000 in
theorem fX0_7 : a_Fl RX0 7 0 0 0 false := ⟨by decide, by decide, rfl, List.mem_append_right _ (List.mem_of_getElem? (i := 411) (by decide +kernel)), rfl⟩
set_option maxRecDepth 100000 in
theorem fX3_57 : a_Fl RX3 57 0 0 0 false := ⟨by decide, by decide, rfl, List.mem_append_right _ (List.mem_of_getElem? (i := 412) (by decide +kernel)), rfl⟩
set_option maxRecDepth 100000 in
theorem fX9_141 : a_Fl RX9 141 0 0 0 false := ⟨by decide, by decide, rfl, List.mem_append_right _ (List.mem_of_getElem? (i := 413) (by decide +kernel)), rfl⟩
set_option maxRecDepth 100000 in
theorem fX0_13 : a_Fl RX0 13 0 1 1 false := ⟨by decide, by decide, rfl, List.mem_append_right _ (List.mem_of_getElem? (i := 414) (by decide +kernel)), rfl⟩
set_option maxRecDepth 100000 in
theorem fX3_69 : a_Fl RX3 69 0 1 1 false := ⟨by decide, by decide, rfl, List.mem_append_right _ (List.mem_of_getElem? (i := 415) (by decide +kernel)), rfl⟩
set_option maxRecDepth 100000 in
theorem fX9_144 : a_Fl RX9 144 0 1 1 false := ⟨by decide, by decide, rfl, List.mem_append_right _ (List.mem_of_getElem? (i := 416) (by decide +kernel)), rfl⟩
set_option maxRecDepth 100000 in
theorem fX0_16 : a_Fl RX0 16 0 2 2 false := ⟨by decide, by decide, rfl, List.mem_append_right _ (List.mem_of_getElem? (i := 417) (by decide +kernel)), rfl⟩
set_option maxRecDepth 100000 in
theorem fX1_51 : a_Fl RX1 51 0 2 2 false := ⟨by decide, by decide, rfl, List.mem_append_right _ (List.mem_of_getElem? (i := 418) (by decide +kernel)), rfl⟩
set_option maxRecDepth 100000 in
theorem fX9_278 : a_Fl RX9 278 0 2 2 false := ⟨by decide, by decide, rfl, List.mem_append_right _ (List.mem_of_getElem? (i := 419) (by decide +kernel)), rfl⟩
set_option maxRecDepth 100000 in
theorem fX10_1 : a_Fl RX10 1 10 0 0 false := ⟨by decide, by decide, rfl, List.mem_append_right _ (List.mem_of_getElem? (i := 875) (by decide +kernel)), rfl⟩
set_option maxRecDepth 100000 in
theorem fX10_14 : a_Fl RX10 14 10 1 1 true := ⟨by decide, by decide, rfl, List.mem_append_right _ (List.mem_of_getElem? (i := 876) (by decide +kernel)), rfl⟩
set_option maxRecDepth 100000 in
theorem fX10_11 : a_Fl RX10 11 10 2 2 false := ⟨by decide, by decide, rfl, List.mem_append_right _ (List.mem_of_getElem? (i := 877) (by decide +kernel)), rfl⟩
set_option maxRecDepth 100000 in
theorem fX10_172 : a_Fl RX10 172 10 3 3 false := ⟨by decide, by decide, rfl, List.mem_append_right _ (List.mem_of_getElem? (i := 878) (by decide +kernel)), rfl⟩
set_option maxRecDepth 100000 in
theorem fX10_24 : a_Fl RX10 24 10 4 4 true := ⟨by decide, by decide, rfl, List.mem_append_right _ (List.mem_of_getElem? (i := 879) (by decide +kernel)), rfl⟩
set_option maxRecDepth 100000 in
theorem fX10_27 : a_Fl RX10 27 10 5 5 true := ⟨by decide, by decide, rfl, List.mem_append_right _ (List.mem_of_getElem? (i := 880) (by decide +kernel)), rfl⟩
set_option maxRecDepth 100000 in
theorem fX10_30 : a_Fl RX10 30 10 6 6 true := ⟨by decide, by decide, rfl, List.mem_append_right _ (List.mem_of_getElem? (i := 881) (by decide +kernel)), rfl⟩
set_option maxRecDepth 100000 in
theorem fX10_191 : a_Fl RX10 191 10 7 7 false := ⟨by decide, by decide, rfl, List.mem_append_right _ (List.mem_of_getElem? (i := 882) (by decide +kernel)), rfl⟩
set_option maxRecDepth 100000 in
theorem fX10_194 : a_Fl RX10 194 10 8 8 false := ⟨by decide, by decide, rfl, List.mem_append_right _ (List.mem_of_getElem? (i := 883) (by decide +kernel)), rfl⟩
set_option maxRecDepth 100000 in
theorem fX10_56 : a_Fl RX10 56 10 9 9 true := ⟨by decide, by decide, rfl, List.mem_append_right _ (List.mem_of_getElem? (i := 884) (by decide +kernel)), rfl⟩
set_option maxRecDepth 100000 in
theorem fX10_59 : a_Fl RX10 59 10 10 10 true := ⟨by decide, by decide, rfl, List.mem_append_right _ (List.mem_of_getElem? (i := 885) (by decide +kernel)), rfl⟩
set_option maxRecDepth 100000 in
theorem fX10_62 : a_Fl RX10 62 10 11 11 true := ⟨by decide, by decide, rfl, List.mem_append_right _ (List.mem_of_getElem? (i := 886) (by decide +kernel)), rfl⟩
set_option maxRecDepth 100000 in
theorem fX10_66 : a_Fl RX10 66 10 12 12 true := ⟨by decide, by decide, rfl, List.mem_append_right _ (List.mem_of_getElem? (i := 887) (by decide +kernel)), rfl⟩
set_option maxRecDepth 100000 in
theorem fX10_69 : a_Fl RX10 69 10 13 13 true := ⟨by decide, by decide, rfl, List.mem_append_right _ (List.mem_of_getElem? (i := 888) (by decide +kernel)), rfl⟩
set_option maxRecDepth 100000 in
theorem fX10_72 : a_Fl RX10 72 10 14 14 true := ⟨by decide, by decide, rfl, List.mem_append_right _ (List.mem_of_getElem? (i := 889) (by decide +kernel)), rfl⟩
set_option maxRecDepth 100000 in
theorem fX10_219 : a_Fl RX10 219 10 15 15 false := ⟨by decide, by decide, rfl, List.mem_append_right _ (List.mem_of_getElem? (i := 890) (by decide +kernel)), rfl⟩
set_option maxRecDepth 100000 in
theorem fX10_210 : a_Fl RX10 210 10 16 16 false := ⟨by decide, by decide, rfl, List.mem_append_right _ (List.mem_of_getElem? (i := 891) (by decide +kernel)), rfl⟩
set_option maxRecDepth 100000 in
theorem fX10_213 : a_Fl RX10 213 10 17 17 false := ⟨by decide, by decide, rfl, List.mem_append_right _ (List.mem_of_getElem? (i := 892) (by decide +kernel)), rfl⟩
set_option maxRecDepth 100000 in
theorem fX10_228 : a_Fl RX10 228 10 18 18 false := ⟨by decide, by decide, rfl, List.mem_append_right _ (List.mem_of_getElem? (i := 893) (by decide +kernel)), rfl⟩
set_option maxRecDepth 100000 in
theorem fX10_75 : a_Fl RX10 75 10 19 19 true := ⟨by decide, by decide, rfl, List.mem_append_right _ (List.mem_of_getElem? (i := 894) (by decide +kernel)), rfl⟩
set_option maxRecDepth 100000 in
theorem fX10_78 : a_Fl RX10 78 10 20 20 true := ⟨by decide, by decide, rfl, List.mem_append_right _ (List.mem_of_getElem? (i := 895) (by decide +kernel)), rfl⟩
set_option maxRecDepth 100000 in
theorem fX10_81 : a_Fl RX10 81 10 21 21 true := ⟨by decide, by decide, rfl, List.mem_append_right _ (List.mem_of_getElem? (i := 896) (by decide +kernel)), rfl⟩
set_option maxRecDepth 100000 in
theorem fX10_84 : a_Fl RX10 84 10 22 22 true := ⟨by decide, by decide, rfl, List.mem_append_right _ (List.mem_of_getElem? (i := 897) (by decide +kernel)), rfl⟩
set_option maxRecDepth 100000 in
theorem fX10_87 : a_Fl RX10 87 10 23 23 true := ⟨by decide, by decide, rfl, List.mem_append_right _ (List.mem_of_getElem? (i := 898) (by decide +kernel)), rfl⟩
set_option maxRecDepth 100000 in
theorem fX10_255 : a_Fl RX10 255 10 24 24 false := ⟨by decide, by decide, rfl, List.mem_append_right _ (List.mem_of_getElem? (i := 899) (by decide +kernel)), rfl⟩
set_option maxRecDepth 100000 in
theorem fX10_258 : a_Fl RX10 258 10 25 25 false := ⟨by decide, by decide, rfl, List.mem_append_right _ (List.mem_of_getElem? (i := 900) (by decide +kernel)), rfl⟩
set_option maxRecDepth 100000 in
theorem fX10_90 : a_Fl RX10 90 10 26 26 true := ⟨by decide, by decide, rfl, List.mem_append_right _ (List.mem_of_getElem? (i := 901) (by decide +kernel)), rfl⟩
set_option maxRecDepth 100000 in
theorem fX10_93 : a_Fl RX10 93 10 27 27 true := ⟨by decide, by decide, rfl, List.mem_append_right _ (List.mem_of_getElem? (i := 902) (by decide +kernel)), rfl⟩
set_option maxRecDepth 100000 in
theorem fX10_96 : a_Fl RX10 96 10 28 28 true := ⟨by decide, by decide, rfl, List.mem_append_right _ (List.mem_of_getElem? (i := 903) (by decide +kernel)), rfl⟩
set_option maxRecDepth 100000 in
theorem fX10_99 : a_Fl RX10 99 10 29 29 true := ⟨by decide, by decide, rfl, List.mem_append_right _ (List.mem_of_getElem? (i := 904) (by decide +kernel)), rfl⟩
set_option maxRecDepth 100000 in
theorem fX10_102 : a_Fl RX10 102 10 30 30 true := ⟨by decide, by decide, rfl, List.mem_append_right _ (List.mem_of_getElem? (i := 905) (by decide +kernel)), rfl⟩
set_option maxRecDepth 100000 in
theorem fX10_105 : a_Fl RX10 105 10 31 31 true := ⟨by decide, by decide, rfl, List.mem_append_right _ (List.mem_of_getElem? (i := 906) (by decide +kernel)), rfl⟩
set_option maxRecDepth 100000 in
theorem fX10_108 : a_Fl RX10 108 10 32 32 true := ⟨by decide, by decide, rfl, List.mem_append_right _ (List.mem_of_getElem? (i := 907) (by decide +kernel)), rfl⟩
set_option maxRecDepth 100000 in
theorem fX10_111 : a_Fl RX10 111 10 33 33 true := ⟨by decide, by decide, rfl, List.mem_append_right _ (List.mem_of_getElem? (i := 908) (by decide +kernel)), rfl⟩
set_option maxRecDepth 100000 in
theorem fX10_114 : a_Fl RX10 114 10 34 34 true := ⟨by decide, by decide, rfl, List.mem_append_right _ (List.mem_of_getElem? (i := 909) (by decide +kernel)), rfl⟩
set_option maxRecDepth 100000 in
theorem fX10_117 : a_Fl RX10 117 10 35 35 true := ⟨by decide, by decide, rfl, List.mem_append_right _ (List.mem_of_getElem? (i := 910) (by decide +kernel)), rfl⟩
set_option maxRecDepth 100000 in
theorem fX10_120 : a_Fl RX10 120 10 36 36 true := ⟨by decide, by decide, rfl, List.mem_append_right _ (List.mem_of_getElem? (i := 911) (by decide +kernel)), rfl⟩
set_option maxRecDepth 100000 in
theorem fX10_286 : a_Fl RX10 286 10 37 37 false := ⟨by decide, by decide, rfl, List.mem_append_right _ (List.mem_of_getElem? (i := 912) (by decide +kernel)), rfl⟩
set_option maxRecDepth 100000 in
theorem fX10_123 : a_Fl RX10 123 10 38 38 true := ⟨by decide, by decide, rfl, List.mem_append_right _ (List.mem_of_getElem? (i := 913) (by decide +kernel)), rfl⟩
set_option maxRecDepth 100000 in
theorem fX10_126 : a_Fl RX10 126 10 39 39 true := ⟨by decide, by decide, rfl, List.mem_append_right _ (List.mem_of_getElem? (i := 914) (by decide +kernel)), rfl⟩
set_option maxRecDepth 100000 in
theorem fX10_129 : a_Fl RX10 129 10 40 40 true := ⟨by decide, by decide, rfl, List.mem_append_right _ (List.mem_of_getElem? (i := 915) (by decide +kernel)), rfl⟩
set_option maxRecDepth 100000 in
theorem fX10_293 : a_Fl RX10 293 10 41 41 false := ⟨by decide, by decide, rfl, List.mem_append_right _ (List.mem_of_getElem? (i := 916) (by decide +kernel)), rfl⟩
set_option maxRecDepth 100000 in
theorem fX10_132 : a_Fl RX10 132 10 42 42 true := ⟨by decide, by decide, rfl, List.mem_append_right _ (List.mem_of_getElem? (i := 917) (by decide +kernel)), rfl⟩
set_option maxRecDepth 100000 in
theorem fX10_135 : a_Fl RX10 135 10 43 43 true := ⟨by decide, by decide, rfl, List.mem_append_right _ (List.mem_of_getElem? (i := 918) (by decide +kernel)), rfl⟩
set_option maxRecDepth 100000 in
theorem fX10_138 : a_Fl RX10 138 10 44 44 true := ⟨by decide, by decide, rfl, List.mem_append_right _ (List.mem_of_getElem? (i := 919) (by decide +kernel)), rfl⟩
set_option maxRecDepth 100000 in
theorem fX10_308 : a_Fl RX10 308 10 45 45 false := ⟨by decide, by decide, rfl, List.mem_append_right _ (List.mem_of_getElem? (i := 920) (by decide +kernel)), rfl⟩
set_option maxRecDepth 100000 in
theorem fX10_141 : a_Fl RX10 141 10 46 46 true := ⟨by decide, by decide, rfl, List.mem_append_right _ (List.mem_of_getElem? (i := 921) (by decide +kernel)), rfl⟩
set_option maxRecDepth 100000 in
theorem fX10_144 : a_Fl RX10 144 10 47 47 true := ⟨by decide, by decide, rfl, List.mem_append_right _ (List.mem_of_getElem? (i := 922) (by decide +kernel)), rfl⟩
set_option maxRecDepth 100000 in
theorem fX10_147 : a_Fl RX10 147 10 48 48 true := ⟨by decide, by decide, rfl, List.mem_append_right _ (List.mem_of_getElem? (i := 923) (by decide +kernel)), rfl⟩
set_option maxRecDepth 100000 in
theorem fX10_150 : a_Fl RX10 150 10 49 49 true := ⟨by decide, by decide, rfl, List.mem_append_right _ (List.mem_of_getElem? (i := 924) (by decide +kernel)), rfl⟩
set_option maxRecDepth 100000 in
theorem fX10_153 : a_Fl RX10 153 10 50 50 true := ⟨by decide, by decide, rfl, List.mem_append_right _ (List.mem_of_getElem? (i := 925) (by decide +kernel)), rfl⟩
set_option maxRecDepth 100000 in
theorem fX10_156 : a_Fl RX10 156 10 51 51 true := ⟨by decide, by decide, rfl, List.mem_append_right _ (List.mem_of_getElem? (i := 926) (by decide +kernel)), rfl⟩
set_option maxRecDepth 100000 in
theorem fX10_159 : a_Fl RX10 159 10 52 52 true := ⟨by decide, by decide, rfl, List.mem_append_right _ (List.mem_of_getElem? (i := 927) (by decide +kernel)), rfl⟩
set_option maxRecDepth 100000 in
theorem fX10_162 : a_Fl RX10 162 10 53 53 true := ⟨by decide, by decide, rfl, List.mem_append_right _ (List.mem_of_getElem? (i := 928) (by decide +kernel)), rfl⟩
set_option maxRecDepth 100000 in
theorem fX10_342 : a_Fl RX10 342 10 54 54 false := ⟨by decide, by decide, rfl, List.mem_append_right _ (List.mem_of_getElem? (i := 929) (by decide +kernel)), rfl⟩
set_option maxRecDepth 100000 in
theorem fX10_165 : a_Fl RX10 165 10 55 55 true := ⟨by decide, by decide, rfl, List.mem_append_right _ (List.mem_of_getElem? (i := 930) (by decide +kernel)), rfl⟩
set_option maxRecDepth 100000 in
theorem lL_19 : Cond.methodLink RL 19 yX9_init ∈ lw_tbl := List.mem_append_right _ (List.mem_of_getElem? (i := 24) (by decide +kernel))
set_option maxRecDepth 100000 in
theorem oX9_1 : Cond.methodLink RX9 1 objectInit ∈ lw_tbl := List.mem_append_right _ (List.mem_of_getElem? (i := 27) (by decide +kernel))
set_option maxRecDepth 100000 in
theorem oX2_3 : Cond.methodLink RX2 3 objectInit ∈ lw_tbl := List.mem_append_right _ (List.mem_of_getElem? (i := 39) (by decide +kernel))
set_option maxRecDepth 100000 in
theorem lX9_30 : Cond.methodLink RX9 30 yX1_init ∈ lw_tbl := List.mem_append_right _ (List.mem_of_getElem? (i := 70) (by decide +kernel))
set_option maxRecDepth 100000 in
theorem oX1_3 : Cond.methodLink RX1 3 objectInit ∈ lw_tbl := List.mem_append_right _ (List.mem_of_getElem? (i := 73) (by decide +kernel))
set_option maxRecDepth 100000 in
theorem oX7_3 : Cond.methodLink RX7 3 objectInit ∈ lw_tbl := List.mem_append_right _ (List.mem_of_getElem? (i := 104) (by decide +kernel))
set_option maxRecDepth 100000 in
theorem oX4_3 : Cond.methodLink RX4 3 objectInit ∈ lw_tbl := List.mem_append_right _ (List.mem_of_getElem? (i := 120) (by decide +kernel))
set_option maxRecDepth 100000 in
theorem oX8_3 : Cond.methodLink RX8 3 objectInit ∈ lw_tbl := List.mem_append_right _ (List.mem_of_getElem? (i := 126) (by decide +kernel))
set_option maxRecDepth 100000 in
theorem oX5_3 : Cond.methodLink RX5 3 objectInit ∈ lw_tbl := List.mem_append_right _ (List.mem_of_getElem? (i := 148) (by decide +kernel))
set_option maxRecDepth 100000 in
theorem oX6_3 : Cond.methodLink RX6 3 objectInit ∈ lw_tbl := List.mem_append_right _ (List.mem_of_getElem? (i := 197) (by decide +kernel))
set_option maxRecDepth 100000 in
theorem lL_23 : Cond.methodLink RL 23 yX9_days ∈ lw_tbl := List.mem_append_right _ (List.mem_of_getElem? (i := 245) (by decide +kernel))
set_option maxRecDepth 100000 in
theorem lX9_69 : Cond.methodLink RX9 69 yX9_within ∈ lw_tbl := List.mem_append_right _ (List.mem_of_getElem? (i := 249) (by decide +kernel))
set_option maxRecDepth 100000 in
theorem lL_28 : Cond.methodLink RL 28 yX9_wild ∈ lw_tbl := List.mem_append_right _ (List.mem_of_getElem? (i := 252) (by decide +kernel))
set_option maxRecDepth 100000 in
theorem lX9_77 : Cond.methodLink RX9 77 yX9_canEnter ∈ lw_tbl := List.mem_append_right _ (List.mem_of_getElem? (i := 256) (by decide +kernel))
set_option maxRecDepth 100000 in
theorem lX9_84 : Cond.methodLink RX9 84 yX3_init ∈ lw_tbl := List.mem_append_right _ (List.mem_of_getElem? (i := 261) (by decide +kernel))
set_option maxRecDepth 100000 in
theorem oX3_3 : Cond.methodLink RX3 3 objectInit ∈ lw_tbl := List.mem_append_right _ (List.mem_of_getElem? (i := 264) (by decide +kernel))
set_option maxRecDepth 100000 in
theorem lX9_87 : Cond.methodLink RX9 87 yX9_enter ∈ lw_tbl := List.mem_append_right _ (List.mem_of_getElem? (i := 335) (by decide +kernel))
set_option maxRecDepth 100000 in
theorem lL_32 : Cond.methodLink RL 32 yX9_seed ∈ lw_tbl := List.mem_append_right _ (List.mem_of_getElem? (i := 339) (by decide +kernel))
set_option maxRecDepth 100000 in
theorem lX9_91 : Cond.methodLink RX9 91 yX9_plantAt ∈ lw_tbl := List.mem_append_right _ (List.mem_of_getElem? (i := 343) (by decide +kernel))
set_option maxRecDepth 100000 in
theorem lX9_95 : Cond.methodLink RX9 95 yX3_init_ ∈ lw_tbl := List.mem_append_right _ (List.mem_of_getElem? (i := 347) (by decide +kernel))
set_option maxRecDepth 100000 in
theorem lL_36 : Cond.methodLink RL 36 yX9_cut ∈ lw_tbl := List.mem_append_right _ (List.mem_of_getElem? (i := 353) (by decide +kernel))
set_option maxRecDepth 100000 in
theorem lL_40 : Cond.methodLink RL 40 yX9_split ∈ lw_tbl := List.mem_append_right _ (List.mem_of_getElem? (i := 357) (by decide +kernel))
set_option maxRecDepth 100000 in
theorem lL_44 : Cond.methodLink RL 44 yX9_mark ∈ lw_tbl := List.mem_append_right _ (List.mem_of_getElem? (i := 361) (by decide +kernel))
set_option maxRecDepth 100000 in
theorem lX9_101 : Cond.methodLink RX9 101 yX9_isDigit ∈ lw_tbl := List.mem_append_right _ (List.mem_of_getElem? (i := 365) (by decide +kernel))
set_option maxRecDepth 100000 in
theorem lX9_113 : Cond.methodLink RX9 113 yX3_setMarks ∈ lw_tbl := List.mem_append_right _ (List.mem_of_getElem? (i := 374) (by decide +kernel))
set_option maxRecDepth 100000 in
theorem lL_49 : Cond.methodLink RL 49 yX9_name ∈ lw_tbl := List.mem_append_right _ (List.mem_of_getElem? (i := 378) (by decide +kernel))
set_option maxRecDepth 100000 in
theorem lX9_116 : Cond.methodLink RX9 116 yX2_give ∈ lw_tbl := List.mem_append_right _ (List.mem_of_getElem? (i := 382) (by decide +kernel))
set_option maxRecDepth 100000 in
theorem lL_54 : Cond.methodLink RL 54 yX9_join ∈ lw_tbl := List.mem_append_right _ (List.mem_of_getElem? (i := 386) (by decide +kernel))
set_option maxRecDepth 100000 in
theorem lX9_119 : Cond.methodLink RX9 119 yX2_tie ∈ lw_tbl := List.mem_append_right _ (List.mem_of_getElem? (i := 390) (by decide +kernel))
set_option maxRecDepth 100000 in
theorem lX2_37 : Cond.methodLink RX2 37 yX2_leadsTo ∈ lw_tbl := List.mem_append_right _ (List.mem_of_getElem? (i := 394) (by decide +kernel))
set_option maxRecDepth 100000 in
theorem lX2_45 : Cond.methodLink RX2 45 yX2_tiedAsOf ∈ lw_tbl := List.mem_append_right _ (List.mem_of_getElem? (i := 398) (by decide +kernel))
set_option maxRecDepth 100000 in
theorem lL_68 : Cond.methodLink RL 68 yX9_bed ∈ lw_tbl := List.mem_append_right _ (List.mem_of_getElem? (i := 402) (by decide +kernel))
set_option maxRecDepth 100000 in
theorem lX9_136 : Cond.methodLink RX9 136 yX0_init ∈ lw_tbl := List.mem_append_right _ (List.mem_of_getElem? (i := 407) (by decide +kernel))
set_option maxRecDepth 100000 in
theorem oX0_1 : Cond.methodLink RX0 1 objectInit ∈ lw_tbl := List.mem_append_right _ (List.mem_of_getElem? (i := 410) (by decide +kernel))
set_option maxRecDepth 100000 in
theorem lL_72 : Cond.methodLink RL 72 yX9_change ∈ lw_tbl := List.mem_append_right _ (List.mem_of_getElem? (i := 427) (by decide +kernel))
set_option maxRecDepth 100000 in
theorem lX9_137 : Cond.methodLink RX9 137 yX9_bedAt ∈ lw_tbl := List.mem_append_right _ (List.mem_of_getElem? (i := 431) (by decide +kernel))
set_option maxRecDepth 100000 in
theorem lL_77 : Cond.methodLink RL 77 yX9_needs ∈ lw_tbl := List.mem_append_right _ (List.mem_of_getElem? (i := 435) (by decide +kernel))
set_option maxRecDepth 100000 in
theorem lX9_147 : Cond.methodLink RX9 147 yX9_isSpan ∈ lw_tbl := List.mem_append_right _ (List.mem_of_getElem? (i := 439) (by decide +kernel))
set_option maxRecDepth 100000 in
theorem lL_82 : Cond.methodLink RL 82 yX9_lay ∈ lw_tbl := List.mem_append_right _ (List.mem_of_getElem? (i := 442) (by decide +kernel))
set_option maxRecDepth 100000 in
theorem lX9_163 : Cond.methodLink RX9 163 yX9_hasPlaceFor ∈ lw_tbl := List.mem_append_right _ (List.mem_of_getElem? (i := 446) (by decide +kernel))
set_option maxRecDepth 100000 in
theorem lX9_274 : Cond.methodLink RX9 274 yX3_suits ∈ lw_tbl := List.mem_append_right _ (List.mem_of_getElem? (i := 450) (by decide +kernel))
set_option maxRecDepth 100000 in
theorem lL_86 : Cond.methodLink RL 86 yX9_moves ∈ lw_tbl := List.mem_append_right _ (List.mem_of_getElem? (i := 455) (by decide +kernel))
set_option maxRecDepth 100000 in
theorem lX9_173 : Cond.methodLink RX9 173 yX1_fewest ∈ lw_tbl := List.mem_append_right _ (List.mem_of_getElem? (i := 459) (by decide +kernel))
set_option maxRecDepth 100000 in
theorem lX1_39 : Cond.methodLink RX1 39 yX1_leaveWhatSuits ∈ lw_tbl := List.mem_append_right _ (List.mem_of_getElem? (i := 463) (by decide +kernel))
set_option maxRecDepth 100000 in
theorem lX1_56 : Cond.methodLink RX1 56 yX3_suits ∈ lw_tbl := List.mem_append_right _ (List.mem_of_getElem? (i := 467) (by decide +kernel))
set_option maxRecDepth 100000 in
theorem lX1_47 : Cond.methodLink RX1 47 yX1_bringIn ∈ lw_tbl := List.mem_append_right _ (List.mem_of_getElem? (i := 468) (by decide +kernel))
set_option maxRecDepth 100000 in
theorem lX1_60 : Cond.methodLink RX1 60 yX1_price ∈ lw_tbl := List.mem_append_right _ (List.mem_of_getElem? (i := 472) (by decide +kernel))
set_option maxRecDepth 100000 in
theorem lX1_64 : Cond.methodLink RX1 64 yX1_spreadCosts ∈ lw_tbl := List.mem_append_right _ (List.mem_of_getElem? (i := 476) (by decide +kernel))
set_option maxRecDepth 100000 in
theorem lX1_75 : Cond.methodLink RX1 75 yX1_spreadFrom ∈ lw_tbl := List.mem_append_right _ (List.mem_of_getElem? (i := 480) (by decide +kernel))
set_option maxRecDepth 100000 in
theorem lX1_67 : Cond.methodLink RX1 67 yX1_cheapestWithRoom ∈ lw_tbl := List.mem_append_right _ (List.mem_of_getElem? (i := 484) (by decide +kernel))
set_option maxRecDepth 100000 in
theorem lX1_71 : Cond.methodLink RX1 71 yX1_shiftAlong ∈ lw_tbl := List.mem_append_right _ (List.mem_of_getElem? (i := 488) (by decide +kernel))
set_option maxRecDepth 100000 in
theorem lL_92 : Cond.methodLink RL 92 yX9_feed ∈ lw_tbl := List.mem_append_right _ (List.mem_of_getElem? (i := 492) (by decide +kernel))
set_option maxRecDepth 100000 in
theorem lX9_176 : Cond.methodLink RX9 176 yX7_takeBytes ∈ lw_tbl := List.mem_append_right _ (List.mem_of_getElem? (i := 496) (by decide +kernel))
set_option maxRecDepth 100000 in
theorem lL_97 : Cond.methodLink RL 97 yX9_text ∈ lw_tbl := List.mem_append_right _ (List.mem_of_getElem? (i := 501) (by decide +kernel))
set_option maxRecDepth 100000 in
theorem lX9_183 : Cond.methodLink RX9 183 yX4_readText ∈ lw_tbl := List.mem_append_right _ (List.mem_of_getElem? (i := 505) (by decide +kernel))
set_option maxRecDepth 100000 in
theorem lX4_25 : Cond.methodLink RX4 25 yX8_scan ∈ lw_tbl := List.mem_append_right _ (List.mem_of_getElem? (i := 509) (by decide +kernel))
set_option maxRecDepth 100000 in
theorem lX8_25 : Cond.methodLink RX8 25 yX7_endOfBlanks ∈ lw_tbl := List.mem_append_right _ (List.mem_of_getElem? (i := 513) (by decide +kernel))
set_option maxRecDepth 100000 in
theorem lX8_32 : Cond.methodLink RX8 32 yX8_scanOne ∈ lw_tbl := List.mem_append_right _ (List.mem_of_getElem? (i := 517) (by decide +kernel))
set_option maxRecDepth 100000 in
theorem lX8_40 : Cond.methodLink RX8 40 yX7_endOfLetters ∈ lw_tbl := List.mem_append_right _ (List.mem_of_getElem? (i := 521) (by decide +kernel))
set_option maxRecDepth 100000 in
theorem lX8_43 : Cond.methodLink RX8 43 yX8_kindOfWord ∈ lw_tbl := List.mem_append_right _ (List.mem_of_getElem? (i := 525) (by decide +kernel))
set_option maxRecDepth 100000 in
theorem lX8_62 : Cond.methodLink RX8 62 yX7_spells ∈ lw_tbl := List.mem_append_right _ (List.mem_of_getElem? (i := 529) (by decide +kernel))
set_option maxRecDepth 100000 in
theorem lX8_36 : Cond.methodLink RX8 36 yX8_add ∈ lw_tbl := List.mem_append_right _ (List.mem_of_getElem? (i := 591) (by decide +kernel))
set_option maxRecDepth 100000 in
theorem lX8_47 : Cond.methodLink RX8 47 yX7_endOfDigits ∈ lw_tbl := List.mem_append_right _ (List.mem_of_getElem? (i := 595) (by decide +kernel))
set_option maxRecDepth 100000 in
theorem lX8_50 : Cond.methodLink RX8 50 yX7_numberIn ∈ lw_tbl := List.mem_append_right _ (List.mem_of_getElem? (i := 599) (by decide +kernel))
set_option maxRecDepth 100000 in
theorem lX8_57 : Cond.methodLink RX8 57 yX8_kindOfSign ∈ lw_tbl := List.mem_append_right _ (List.mem_of_getElem? (i := 603) (by decide +kernel))
set_option maxRecDepth 100000 in
theorem lX4_29 : Cond.methodLink RX4 29 yX5_makeEmpty ∈ lw_tbl := List.mem_append_right _ (List.mem_of_getElem? (i := 606) (by decide +kernel))
set_option maxRecDepth 100000 in
theorem lX4_46 : Cond.methodLink RX4 46 yX4_beginsLine ∈ lw_tbl := List.mem_append_right _ (List.mem_of_getElem? (i := 610) (by decide +kernel))
set_option maxRecDepth 100000 in
theorem lX4_50 : Cond.methodLink RX4 50 yX4_readLine ∈ lw_tbl := List.mem_append_right _ (List.mem_of_getElem? (i := 614) (by decide +kernel))
set_option maxRecDepth 100000 in
theorem lX4_57 : Cond.methodLink RX4 57 yX4_advance ∈ lw_tbl := List.mem_append_right _ (List.mem_of_getElem? (i := 618) (by decide +kernel))
set_option maxRecDepth 100000 in
theorem lX4_60 : Cond.methodLink RX4 60 yX4_expect ∈ lw_tbl := List.mem_append_right _ (List.mem_of_getElem? (i := 622) (by decide +kernel))
set_option maxRecDepth 100000 in
theorem lX4_53 : Cond.methodLink RX4 53 yX4_refuse ∈ lw_tbl := List.mem_append_right _ (List.mem_of_getElem? (i := 626) (by decide +kernel))
set_option maxRecDepth 100000 in
theorem lX4_63 : Cond.methodLink RX4 63 yX4_readAnds ∈ lw_tbl := List.mem_append_right _ (List.mem_of_getElem? (i := 630) (by decide +kernel))
set_option maxRecDepth 100000 in
theorem lX4_70 : Cond.methodLink RX4 70 yX4_readTest ∈ lw_tbl := List.mem_append_right _ (List.mem_of_getElem? (i := 634) (by decide +kernel))
set_option maxRecDepth 100000 in
theorem lX4_77 : Cond.methodLink RX4 77 yX4_readSum ∈ lw_tbl := List.mem_append_right _ (List.mem_of_getElem? (i := 638) (by decide +kernel))
set_option maxRecDepth 100000 in
theorem lX4_80 : Cond.methodLink RX4 80 yX4_readPart ∈ lw_tbl := List.mem_append_right _ (List.mem_of_getElem? (i := 642) (by decide +kernel))
set_option maxRecDepth 100000 in
theorem lX4_73 : Cond.methodLink RX4 73 yX5_addCode ∈ lw_tbl := List.mem_append_right _ (List.mem_of_getElem? (i := 646) (by decide +kernel))
set_option maxRecDepth 100000 in
theorem lX4_66 : Cond.methodLink RX4 66 yX5_endLine ∈ lw_tbl := List.mem_append_right _ (List.mem_of_getElem? (i := 650) (by decide +kernel))
set_option maxRecDepth 100000 in
theorem lX9_187 : Cond.methodLink RX9 187 yX4_exchangeDraft ∈ lw_tbl := List.mem_append_right _ (List.mem_of_getElem? (i := 654) (by decide +kernel))
set_option maxRecDepth 100000 in
theorem lL_101 : Cond.methodLink RL 101 yX9_may ∈ lw_tbl := List.mem_append_right _ (List.mem_of_getElem? (i := 659) (by decide +kernel))
set_option maxRecDepth 100000 in
theorem lX9_129 : Cond.methodLink RX9 129 yX2_nameOf ∈ lw_tbl := List.mem_append_right _ (List.mem_of_getElem? (i := 663) (by decide +kernel))
set_option maxRecDepth 100000 in
theorem lX2_41 : Cond.methodLink RX2 41 yX2_givenAsOf ∈ lw_tbl := List.mem_append_right _ (List.mem_of_getElem? (i := 667) (by decide +kernel))
set_option maxRecDepth 100000 in
theorem lX9_198 : Cond.methodLink RX9 198 yX5_permit ∈ lw_tbl := List.mem_append_right _ (List.mem_of_getElem? (i := 671) (by decide +kernel))
set_option maxRecDepth 100000 in
theorem lX5_35 : Cond.methodLink RX5 35 yX5_valueOf ∈ lw_tbl := List.mem_append_right _ (List.mem_of_getElem? (i := 675) (by decide +kernel))
set_option maxRecDepth 100000 in
theorem lX5_42 : Cond.methodLink RX5 42 yX5_push ∈ lw_tbl := List.mem_append_right _ (List.mem_of_getElem? (i := 679) (by decide +kernel))
set_option maxRecDepth 100000 in
theorem lX5_46 : Cond.methodLink RX5 46 yX5_pop ∈ lw_tbl := List.mem_append_right _ (List.mem_of_getElem? (i := 683) (by decide +kernel))
set_option maxRecDepth 100000 in
theorem lX5_50 : Cond.methodLink RX5 50 yX5_joined ∈ lw_tbl := List.mem_append_right _ (List.mem_of_getElem? (i := 687) (by decide +kernel))
set_option maxRecDepth 100000 in
theorem lL_105 : Cond.methodLink RL 105 yX9_send ∈ lw_tbl := List.mem_append_right _ (List.mem_of_getElem? (i := 690) (by decide +kernel))
set_option maxRecDepth 100000 in
theorem lX9_202 : Cond.methodLink RX9 202 yX9_may ∈ lw_tbl := List.mem_append_right _ (List.mem_of_getElem? (i := 694) (by decide +kernel))
set_option maxRecDepth 100000 in
theorem lX9_205 : Cond.methodLink RX9 205 yX6_write ∈ lw_tbl := List.mem_append_right _ (List.mem_of_getElem? (i := 695) (by decide +kernel))
set_option maxRecDepth 100000 in
theorem lL_109 : Cond.methodLink RL 109 yX9_sent ∈ lw_tbl := List.mem_append_right _ (List.mem_of_getElem? (i := 699) (by decide +kernel))
set_option maxRecDepth 100000 in
theorem lX9_209 : Cond.methodLink RX9 209 yX6_entry ∈ lw_tbl := List.mem_append_right _ (List.mem_of_getElem? (i := 703) (by decide +kernel))
set_option maxRecDepth 100000 in
theorem lL_113 : Cond.methodLink RL 113 yX9_seen ∈ lw_tbl := List.mem_append_right _ (List.mem_of_getElem? (i := 708) (by decide +kernel))
set_option maxRecDepth 100000 in
theorem lL_117 : Cond.methodLink RL 117 yX9_close ∈ lw_tbl := List.mem_append_right _ (List.mem_of_getElem? (i := 712) (by decide +kernel))
set_option maxRecDepth 100000 in
theorem lX9_212 : Cond.methodLink RX9 212 yX3_diesByCheck ∈ lw_tbl := List.mem_append_right _ (List.mem_of_getElem? (i := 716) (by decide +kernel))
set_option maxRecDepth 100000 in
theorem lL_121 : Cond.methodLink RL 121 yX9_fits ∈ lw_tbl := List.mem_append_right _ (List.mem_of_getElem? (i := 720) (by decide +kernel))
set_option maxRecDepth 100000 in
theorem lX9_216 : Cond.methodLink RX9 216 yX3_fitsOriginOf ∈ lw_tbl := List.mem_append_right _ (List.mem_of_getElem? (i := 724) (by decide +kernel))
set_option maxRecDepth 100000 in
theorem lX3_84 : Cond.methodLink RX3 84 yX3_fitsParents ∈ lw_tbl := List.mem_append_right _ (List.mem_of_getElem? (i := 728) (by decide +kernel))
set_option maxRecDepth 100000 in
theorem lX3_92 : Cond.methodLink RX3 92 yX3_bears ∈ lw_tbl := List.mem_append_right _ (List.mem_of_getElem? (i := 732) (by decide +kernel))
set_option maxRecDepth 100000 in
theorem lX3_88 : Cond.methodLink RX3 88 yX3_sameMarks ∈ lw_tbl := List.mem_append_right _ (List.mem_of_getElem? (i := 736) (by decide +kernel))
set_option maxRecDepth 100000 in
theorem lL_125 : Cond.methodLink RL 125 yX9_changed ∈ lw_tbl := List.mem_append_right _ (List.mem_of_getElem? (i := 740) (by decide +kernel))
set_option maxRecDepth 100000 in
theorem lL_133 : Cond.methodLink RL 133 yX9_count ∈ lw_tbl := List.mem_append_right _ (List.mem_of_getElem? (i := 744) (by decide +kernel))
set_option maxRecDepth 100000 in
theorem lX9_239 : Cond.methodLink RX9 239 yX9_countDead ∈ lw_tbl := List.mem_append_right _ (List.mem_of_getElem? (i := 748) (by decide +kernel))
set_option maxRecDepth 100000 in
theorem lX9_246 : Cond.methodLink RX9 246 yX9_countLying ∈ lw_tbl := List.mem_append_right _ (List.mem_of_getElem? (i := 752) (by decide +kernel))
set_option maxRecDepth 100000 in
theorem lL_58 : Cond.methodLink RL 58 yL_named ∈ lw_tbl := List.mem_append_right _ (List.mem_of_getElem? (i := 756) (by decide +kernel))
set_option maxRecDepth 100000 in
theorem lL_7 : Cond.methodLink RL 7 yX9_named ∈ lw_tbl := List.mem_append_right _ (List.mem_of_getElem? (i := 760) (by decide +kernel))
set_option maxRecDepth 100000 in
theorem lL_129 : Cond.methodLink RL 129 yL_look ∈ lw_tbl := List.mem_append_right _ (List.mem_of_getElem? (i := 829) (by decide +kernel))
set_option maxRecDepth 100000 in
theorem lL_15 : Cond.methodLink RL 15 yX9_look ∈ lw_tbl := List.mem_append_right _ (List.mem_of_getElem? (i := 832) (by decide +kernel))
set_option maxRecDepth 100000 in
theorem lX9_225 : Cond.methodLink RX9 225 yX9_lookAtOrigin ∈ lw_tbl := List.mem_append_right _ (List.mem_of_getElem? (i := 837) (by decide +kernel))
set_option maxRecDepth 100000 in
theorem lX9_256 : Cond.methodLink RX9 256 yX9_numberOf ∈ lw_tbl := List.mem_append_right _ (List.mem_of_getElem? (i := 840) (by decide +kernel))
set_option maxRecDepth 100000 in
theorem lX9_229 : Cond.methodLink RX9 229 yX9_lookAtState ∈ lw_tbl := List.mem_append_right _ (List.mem_of_getElem? (i := 843) (by decide +kernel))
set_option maxRecDepth 100000 in
theorem lL_64 : Cond.methodLink RL 64 yX10_thrown ∈ lw_tbl := List.mem_append_right _ (List.mem_of_getElem? (i := 846) (by decide +kernel))
set_option maxRecDepth 100000 in
theorem lL_96 : Cond.methodLink RL 96 yX10_feed ∈ lw_tbl := List.mem_append_right _ (List.mem_of_getElem? (i := 850) (by decide +kernel))
set_option maxRecDepth 100000 in
theorem lX10_7 : Cond.methodLink RX10 7 yX10_lay ∈ lw_tbl := List.mem_append_right _ (List.mem_of_getElem? (i := 854) (by decide +kernel))
set_option maxRecDepth 100000 in
theorem lL_22 : Cond.methodLink RL 22 yX10_init ∈ lw_tbl := List.mem_append_right _ (List.mem_of_getElem? (i := 860) (by decide +kernel))
set_option maxRecDepth 100000 in
theorem oX10_18 : Cond.methodLink RX10 18 objectInit ∈ lw_tbl := List.mem_append_right _ (List.mem_of_getElem? (i := 863) (by decide +kernel))
set_option maxRecDepth 100000 in
theorem lL_100 : Cond.methodLink RL 100 yX10_text ∈ lw_tbl := List.mem_append_right _ (List.mem_of_getElem? (i := 1045) (by decide +kernel))
set_option maxRecDepth 100000 in
theorem lX10_216 : Cond.methodLink RX10 216 yX10_cutAll ∈ lw_tbl := List.mem_append_right _ (List.mem_of_getElem? (i := 1049) (by decide +kernel))
set_option maxRecDepth 100000 in
theorem lX10_168 : Cond.methodLink RX10 168 yX10_isLetter ∈ lw_tbl := List.mem_append_right _ (List.mem_of_getElem? (i := 1053) (by decide +kernel))
set_option maxRecDepth 100000 in
theorem lX10_177 : Cond.methodLink RX10 177 yX10_rank ∈ lw_tbl := List.mem_append_right _ (List.mem_of_getElem? (i := 1057) (by decide +kernel))
set_option maxRecDepth 100000 in
theorem lX10_181 : Cond.methodLink RX10 181 yX10_isDigit ∈ lw_tbl := List.mem_append_right _ (List.mem_of_getElem? (i := 1060) (by decide +kernel))
set_option maxRecDepth 100000 in
theorem lX10_188 : Cond.methodLink RX10 188 yX10_isSignOf ∈ lw_tbl := List.mem_append_right _ (List.mem_of_getElem? (i := 1065) (by decide +kernel))
set_option maxRecDepth 100000 in
theorem lX10_222 : Cond.methodLink RX10 222 yX10_line ∈ lw_tbl := List.mem_append_right _ (List.mem_of_getElem? (i := 1068) (by decide +kernel))
set_option maxRecDepth 100000 in
theorem lX10_204 : Cond.methodLink RX10 204 yX10_isWord ∈ lw_tbl := List.mem_append_right _ (List.mem_of_getElem? (i := 1072) (by decide +kernel))
set_option maxRecDepth 100000 in
theorem lX10_200 : Cond.methodLink RX10 200 yX10_wrong ∈ lw_tbl := List.mem_append_right _ (List.mem_of_getElem? (i := 1076) (by decide +kernel))
set_option maxRecDepth 100000 in
theorem lX10_225 : Cond.methodLink RX10 225 yX10_takeWord ∈ lw_tbl := List.mem_append_right _ (List.mem_of_getElem? (i := 1080) (by decide +kernel))
set_option maxRecDepth 100000 in
theorem lX10_207 : Cond.methodLink RX10 207 yX10_hasWord ∈ lw_tbl := List.mem_append_right _ (List.mem_of_getElem? (i := 1084) (by decide +kernel))
set_option maxRecDepth 100000 in
theorem lX10_231 : Cond.methodLink RX10 231 yX10_opens ∈ lw_tbl := List.mem_append_right _ (List.mem_of_getElem? (i := 1088) (by decide +kernel))
set_option maxRecDepth 100000 in
theorem lX10_234 : Cond.methodLink RX10 234 yX10_part ∈ lw_tbl := List.mem_append_right _ (List.mem_of_getElem? (i := 1092) (by decide +kernel))
set_option maxRecDepth 100000 in
theorem lX10_248 : Cond.methodLink RX10 248 yX10_partWord ∈ lw_tbl := List.mem_append_right _ (List.mem_of_getElem? (i := 1096) (by decide +kernel))
set_option maxRecDepth 100000 in
theorem lX10_197 : Cond.methodLink RX10 197 yX10_isSign ∈ lw_tbl := List.mem_append_right _ (List.mem_of_getElem? (i := 1100) (by decide +kernel))
set_option maxRecDepth 100000 in
theorem lX10_252 : Cond.methodLink RX10 252 yX10_hasSign ∈ lw_tbl := List.mem_append_right _ (List.mem_of_getElem? (i := 1104) (by decide +kernel))
set_option maxRecDepth 100000 in
theorem lX10_241 : Cond.methodLink RX10 241 yX10_emit ∈ lw_tbl := List.mem_append_right _ (List.mem_of_getElem? (i := 1108) (by decide +kernel))
set_option maxRecDepth 100000 in
theorem lX10_238 : Cond.methodLink RX10 238 yX10_goesOnBehind ∈ lw_tbl := List.mem_append_right _ (List.mem_of_getElem? (i := 1112) (by decide +kernel))
set_option maxRecDepth 100000 in
theorem lX10_245 : Cond.methodLink RX10 245 yX10_takeSign ∈ lw_tbl := List.mem_append_right _ (List.mem_of_getElem? (i := 1116) (by decide +kernel))
set_option maxRecDepth 100000 in
theorem lL_27 : Cond.methodLink RL 27 yX10_days ∈ lw_tbl := List.mem_append_right _ (List.mem_of_getElem? (i := 1120) (by decide +kernel))
set_option maxRecDepth 100000 in
theorem lL_31 : Cond.methodLink RL 31 yX10_wild ∈ lw_tbl := List.mem_append_right _ (List.mem_of_getElem? (i := 1124) (by decide +kernel))
set_option maxRecDepth 100000 in
theorem lX10_261 : Cond.methodLink RX10 261 yX10_areMany ∈ lw_tbl := List.mem_append_right _ (List.mem_of_getElem? (i := 1128) (by decide +kernel))
set_option maxRecDepth 100000 in
theorem lX10_264 : Cond.methodLink RX10 264 yX10_grows ∈ lw_tbl := List.mem_append_right _ (List.mem_of_getElem? (i := 1131) (by decide +kernel))
set_option maxRecDepth 100000 in
theorem lL_35 : Cond.methodLink RL 35 yX10_seed ∈ lw_tbl := List.mem_append_right _ (List.mem_of_getElem? (i := 1135) (by decide +kernel))
set_option maxRecDepth 100000 in
theorem lX10_268 : Cond.methodLink RX10 268 yX10_isPlant ∈ lw_tbl := List.mem_append_right _ (List.mem_of_getElem? (i := 1139) (by decide +kernel))
set_option maxRecDepth 100000 in
theorem lL_39 : Cond.methodLink RL 39 yX10_cut ∈ lw_tbl := List.mem_append_right _ (List.mem_of_getElem? (i := 1143) (by decide +kernel))
set_option maxRecDepth 100000 in
theorem lL_43 : Cond.methodLink RL 43 yX10_split ∈ lw_tbl := List.mem_append_right _ (List.mem_of_getElem? (i := 1147) (by decide +kernel))
set_option maxRecDepth 100000 in
theorem lL_48 : Cond.methodLink RL 48 yX10_mark ∈ lw_tbl := List.mem_append_right _ (List.mem_of_getElem? (i := 1151) (by decide +kernel))
set_option maxRecDepth 100000 in
theorem lL_124 : Cond.methodLink RL 124 yX10_fits ∈ lw_tbl := List.mem_append_right _ (List.mem_of_getElem? (i := 1155) (by decide +kernel))
set_option maxRecDepth 100000 in
theorem lX10_279 : Cond.methodLink RX10 279 yX10_fitsAs ∈ lw_tbl := List.mem_append_right _ (List.mem_of_getElem? (i := 1159) (by decide +kernel))
set_option maxRecDepth 100000 in
theorem lX10_271 : Cond.methodLink RX10 271 yX10_markOf ∈ lw_tbl := List.mem_append_right _ (List.mem_of_getElem? (i := 1163) (by decide +kernel))
set_option maxRecDepth 100000 in
theorem lX10_275 : Cond.methodLink RX10 275 yX10_hasMark ∈ lw_tbl := List.mem_append_right _ (List.mem_of_getElem? (i := 1167) (by decide +kernel))
set_option maxRecDepth 100000 in
theorem lL_128 : Cond.methodLink RL 128 yX10_changed ∈ lw_tbl := List.mem_append_right _ (List.mem_of_getElem? (i := 1171) (by decide +kernel))
set_option maxRecDepth 100000 in
theorem lL_53 : Cond.methodLink RL 53 yX10_name ∈ lw_tbl := List.mem_append_right _ (List.mem_of_getElem? (i := 1175) (by decide +kernel))
set_option maxRecDepth 100000 in
theorem lX10_283 : Cond.methodLink RX10 283 yX10_isName ∈ lw_tbl := List.mem_append_right _ (List.mem_of_getElem? (i := 1179) (by decide +kernel))
set_option maxRecDepth 100000 in
theorem lL_57 : Cond.methodLink RL 57 yX10_join ∈ lw_tbl := List.mem_append_right _ (List.mem_of_getElem? (i := 1182) (by decide +kernel))
set_option maxRecDepth 100000 in
theorem lX10_296 : Cond.methodLink RX10 296 yX10_leadsBack ∈ lw_tbl := List.mem_append_right _ (List.mem_of_getElem? (i := 1186) (by decide +kernel))
set_option maxRecDepth 100000 in
theorem lX10_289 : Cond.methodLink RX10 289 yX10_joinedTo ∈ lw_tbl := List.mem_append_right _ (List.mem_of_getElem? (i := 1190) (by decide +kernel))
set_option maxRecDepth 100000 in
theorem lL_63 : Cond.methodLink RL 63 yX10_named ∈ lw_tbl := List.mem_append_right _ (List.mem_of_getElem? (i := 1194) (by decide +kernel))
set_option maxRecDepth 100000 in
theorem lX10_302 : Cond.methodLink RX10 302 yX10_nameOf ∈ lw_tbl := List.mem_append_right _ (List.mem_of_getElem? (i := 1198) (by decide +kernel))
set_option maxRecDepth 100000 in
theorem lX10_299 : Cond.methodLink RX10 299 yX10_leads ∈ lw_tbl := List.mem_append_right _ (List.mem_of_getElem? (i := 1202) (by decide +kernel))
set_option maxRecDepth 100000 in
theorem lL_71 : Cond.methodLink RL 71 yX10_bed ∈ lw_tbl := List.mem_append_right _ (List.mem_of_getElem? (i := 1206) (by decide +kernel))
set_option maxRecDepth 100000 in
theorem lX10_305 : Cond.methodLink RX10 305 yX10_isDigitNumber ∈ lw_tbl := List.mem_append_right _ (List.mem_of_getElem? (i := 1210) (by decide +kernel))
set_option maxRecDepth 100000 in
theorem lL_76 : Cond.methodLink RL 76 yX10_change ∈ lw_tbl := List.mem_append_right _ (List.mem_of_getElem? (i := 1213) (by decide +kernel))
set_option maxRecDepth 100000 in
theorem lX10_311 : Cond.methodLink RX10 311 yX10_isBed ∈ lw_tbl := List.mem_append_right _ (List.mem_of_getElem? (i := 1217) (by decide +kernel))
set_option maxRecDepth 100000 in
theorem lL_81 : Cond.methodLink RL 81 yX10_needs ∈ lw_tbl := List.mem_append_right _ (List.mem_of_getElem? (i := 1221) (by decide +kernel))
set_option maxRecDepth 100000 in
theorem lL_85 : Cond.methodLink RL 85 yX10_lay_ ∈ lw_tbl := List.mem_append_right _ (List.mem_of_getElem? (i := 1225) (by decide +kernel))
set_option maxRecDepth 100000 in
theorem lX10_314 : Cond.methodLink RX10 314 yX10_suits ∈ lw_tbl := List.mem_append_right _ (List.mem_of_getElem? (i := 1229) (by decide +kernel))
set_option maxRecDepth 100000 in
theorem lL_89 : Cond.methodLink RL 89 yX10_moves ∈ lw_tbl := List.mem_append_right _ (List.mem_of_getElem? (i := 1233) (by decide +kernel))
set_option maxRecDepth 100000 in
theorem lX10_324 : Cond.methodLink RX10 324 yX10_comes ∈ lw_tbl := List.mem_append_right _ (List.mem_of_getElem? (i := 1237) (by decide +kernel))
set_option maxRecDepth 100000 in
theorem lX10_321 : Cond.methodLink RX10 321 yX10_begins ∈ lw_tbl := List.mem_append_right _ (List.mem_of_getElem? (i := 1241) (by decide +kernel))
set_option maxRecDepth 100000 in
theorem lX10_318 : Cond.methodLink RX10 318 yX10_costOf ∈ lw_tbl := List.mem_append_right _ (List.mem_of_getElem? (i := 1245) (by decide +kernel))
set_option maxRecDepth 100000 in
theorem lL_104 : Cond.methodLink RL 104 yX10_may ∈ lw_tbl := List.mem_append_right _ (List.mem_of_getElem? (i := 1250) (by decide +kernel))
set_option maxRecDepth 100000 in
theorem lX10_336 : Cond.methodLink RX10 336 yX10_isSending ∈ lw_tbl := List.mem_append_right _ (List.mem_of_getElem? (i := 1254) (by decide +kernel))
set_option maxRecDepth 100000 in
theorem lX10_339 : Cond.methodLink RX10 339 yX10_lets ∈ lw_tbl := List.mem_append_right _ (List.mem_of_getElem? (i := 1258) (by decide +kernel))
set_option maxRecDepth 100000 in
theorem lX10_327 : Cond.methodLink RX10 327 yX10_rootOf ∈ lw_tbl := List.mem_append_right _ (List.mem_of_getElem? (i := 1262) (by decide +kernel))
set_option maxRecDepth 100000 in
theorem lX10_330 : Cond.methodLink RX10 330 yX10_isCut ∈ lw_tbl := List.mem_append_right _ (List.mem_of_getElem? (i := 1266) (by decide +kernel))
set_option maxRecDepth 100000 in
theorem lX10_333 : Cond.methodLink RX10 333 yX10_worth ∈ lw_tbl := List.mem_append_right _ (List.mem_of_getElem? (i := 1270) (by decide +kernel))
set_option maxRecDepth 100000 in
theorem lL_108 : Cond.methodLink RL 108 yX10_send ∈ lw_tbl := List.mem_append_right _ (List.mem_of_getElem? (i := 1274) (by decide +kernel))
set_option maxRecDepth 100000 in
theorem lL_112 : Cond.methodLink RL 112 yX10_sent ∈ lw_tbl := List.mem_append_right _ (List.mem_of_getElem? (i := 1278) (by decide +kernel))
set_option maxRecDepth 100000 in
theorem lL_116 : Cond.methodLink RL 116 yX10_seen ∈ lw_tbl := List.mem_append_right _ (List.mem_of_getElem? (i := 1282) (by decide +kernel))
set_option maxRecDepth 100000 in
theorem lL_120 : Cond.methodLink RL 120 yX10_close ∈ lw_tbl := List.mem_append_right _ (List.mem_of_getElem? (i := 1286) (by decide +kernel))
set_option maxRecDepth 100000 in
theorem lX10_345 : Cond.methodLink RX10 345 yX10_checks ∈ lw_tbl := List.mem_append_right _ (List.mem_of_getElem? (i := 1290) (by decide +kernel))
set_option maxRecDepth 100000 in
theorem lL_132 : Cond.methodLink RL 132 yX10_look ∈ lw_tbl := List.mem_append_right _ (List.mem_of_getElem? (i := 1294) (by decide +kernel))
set_option maxRecDepth 100000 in
theorem lL_136 : Cond.methodLink RL 136 yX10_count ∈ lw_tbl := List.mem_append_right _ (List.mem_of_getElem? (i := 1298) (by decide +kernel))
set_option maxRecDepth 100000 in
theorem sX9_within : Cond.static yX9_within ∈ lw_tbl := List.mem_append_right _ (List.mem_of_getElem? (i := 250) (by decide +kernel))
set_option maxRecDepth 100000 in
theorem sX9_isDigit : Cond.static yX9_isDigit ∈ lw_tbl := List.mem_append_right _ (List.mem_of_getElem? (i := 366) (by decide +kernel))
set_option maxRecDepth 100000 in
theorem sX9_isSpan : Cond.static yX9_isSpan ∈ lw_tbl := List.mem_append_right _ (List.mem_of_getElem? (i := 440) (by decide +kernel))
set_option maxRecDepth 100000 in
theorem sX8_kindOfWord : Cond.static yX8_kindOfWord ∈ lw_tbl := List.mem_append_right _ (List.mem_of_getElem? (i := 526) (by decide +kernel))
set_option maxRecDepth 100000 in
theorem sX8_kindOfSign : Cond.static yX8_kindOfSign ∈ lw_tbl := List.mem_append_right _ (List.mem_of_getElem? (i := 604) (by decide +kernel))
set_option maxRecDepth 100000 in
theorem sX5_joined : Cond.static yX5_joined ∈ lw_tbl := List.mem_append_right _ (List.mem_of_getElem? (i := 688) (by decide +kernel))
set_option maxRecDepth 100000 in
theorem sL_named : Cond.static yL_named ∈ lw_tbl := List.mem_append_right _ (List.mem_of_getElem? (i := 757) (by decide +kernel))
set_option maxRecDepth 100000 in
theorem sL_look : Cond.static yL_look ∈ lw_tbl := List.mem_append_right _ (List.mem_of_getElem? (i := 830) (by decide +kernel))
set_option maxRecDepth 100000 in
theorem sX9_lookAtOrigin : Cond.static yX9_lookAtOrigin ∈ lw_tbl := List.mem_append_right _ (List.mem_of_getElem? (i := 838) (by decide +kernel))
set_option maxRecDepth 100000 in
theorem sX9_numberOf : Cond.static yX9_numberOf ∈ lw_tbl := List.mem_append_right _ (List.mem_of_getElem? (i := 841) (by decide +kernel))
set_option maxRecDepth 100000 in
theorem sX9_lookAtState : Cond.static yX9_lookAtState ∈ lw_tbl := List.mem_append_right _ (List.mem_of_getElem? (i := 844) (by decide +kernel))
set_option maxRecDepth 100000 in
theorem sX10_isLetter : Cond.static yX10_isLetter ∈ lw_tbl := List.mem_append_right _ (List.mem_of_getElem? (i := 1054) (by decide +kernel))
set_option maxRecDepth 100000 in
theorem sX10_rank : Cond.static yX10_rank ∈ lw_tbl := List.mem_append_right _ (List.mem_of_getElem? (i := 1058) (by decide +kernel))
set_option maxRecDepth 100000 in
theorem sX10_isDigit : Cond.static yX10_isDigit ∈ lw_tbl := List.mem_append_right _ (List.mem_of_getElem? (i := 1061) (by decide +kernel))
set_option maxRecDepth 100000 in
theorem sX10_isSignOf : Cond.static yX10_isSignOf ∈ lw_tbl := List.mem_append_right _ (List.mem_of_getElem? (i := 1066) (by decide +kernel))
set_option maxRecDepth 100000 in
theorem sX10_areMany : Cond.static yX10_areMany ∈ lw_tbl := List.mem_append_right _ (List.mem_of_getElem? (i := 1129) (by decide +kernel))
set_option maxRecDepth 100000 in
theorem sX10_isName : Cond.static yX10_isName ∈ lw_tbl := List.mem_append_right _ (List.mem_of_getElem? (i := 1180) (by decide +kernel))
set_option maxRecDepth 100000 in
theorem sX10_isDigitNumber : Cond.static yX10_isDigitNumber ∈ lw_tbl := List.mem_append_right _ (List.mem_of_getElem? (i := 1211) (by decide +kernel))
set_option maxRecDepth 100000 in
theorem iX9_init : Cond.instanceMethod yX9_init ∈ lw_tbl := List.mem_append_right _ (List.mem_of_getElem? (i := 25) (by decide +kernel))
set_option maxRecDepth 100000 in
theorem iX2_init : Cond.instanceMethod yX2_init ∈ lw_tbl := List.mem_append_right _ (List.mem_of_getElem? (i := 37) (by decide +kernel))
set_option maxRecDepth 100000 in
theorem iX1_init : Cond.instanceMethod yX1_init ∈ lw_tbl := List.mem_append_right _ (List.mem_of_getElem? (i := 71) (by decide +kernel))
set_option maxRecDepth 100000 in
theorem iX7_init : Cond.instanceMethod yX7_init ∈ lw_tbl := List.mem_append_right _ (List.mem_of_getElem? (i := 102) (by decide +kernel))
set_option maxRecDepth 100000 in
theorem iX4_init : Cond.instanceMethod yX4_init ∈ lw_tbl := List.mem_append_right _ (List.mem_of_getElem? (i := 118) (by decide +kernel))
set_option maxRecDepth 100000 in
theorem iX8_init : Cond.instanceMethod yX8_init ∈ lw_tbl := List.mem_append_right _ (List.mem_of_getElem? (i := 124) (by decide +kernel))
set_option maxRecDepth 100000 in
theorem iX5_init : Cond.instanceMethod yX5_init ∈ lw_tbl := List.mem_append_right _ (List.mem_of_getElem? (i := 146) (by decide +kernel))
set_option maxRecDepth 100000 in
theorem iX6_init : Cond.instanceMethod yX6_init ∈ lw_tbl := List.mem_append_right _ (List.mem_of_getElem? (i := 195) (by decide +kernel))
set_option maxRecDepth 100000 in
theorem iX9_days : Cond.instanceMethod yX9_days ∈ lw_tbl := List.mem_append_right _ (List.mem_of_getElem? (i := 246) (by decide +kernel))
set_option maxRecDepth 100000 in
theorem iX9_wild : Cond.instanceMethod yX9_wild ∈ lw_tbl := List.mem_append_right _ (List.mem_of_getElem? (i := 253) (by decide +kernel))
set_option maxRecDepth 100000 in
theorem iX9_canEnter : Cond.instanceMethod yX9_canEnter ∈ lw_tbl := List.mem_append_right _ (List.mem_of_getElem? (i := 258) (by decide +kernel))
set_option maxRecDepth 100000 in
theorem iX3_init : Cond.instanceMethod yX3_init ∈ lw_tbl := List.mem_append_right _ (List.mem_of_getElem? (i := 262) (by decide +kernel))
set_option maxRecDepth 100000 in
theorem iX9_enter : Cond.instanceMethod yX9_enter ∈ lw_tbl := List.mem_append_right _ (List.mem_of_getElem? (i := 337) (by decide +kernel))
set_option maxRecDepth 100000 in
theorem iX9_seed : Cond.instanceMethod yX9_seed ∈ lw_tbl := List.mem_append_right _ (List.mem_of_getElem? (i := 340) (by decide +kernel))
set_option maxRecDepth 100000 in
theorem iX9_plantAt : Cond.instanceMethod yX9_plantAt ∈ lw_tbl := List.mem_append_right _ (List.mem_of_getElem? (i := 345) (by decide +kernel))
set_option maxRecDepth 100000 in
theorem iX3_init_ : Cond.instanceMethod yX3_init_ ∈ lw_tbl := List.mem_append_right _ (List.mem_of_getElem? (i := 348) (by decide +kernel))
set_option maxRecDepth 100000 in
theorem iX9_cut : Cond.instanceMethod yX9_cut ∈ lw_tbl := List.mem_append_right _ (List.mem_of_getElem? (i := 354) (by decide +kernel))
set_option maxRecDepth 100000 in
theorem iX9_split : Cond.instanceMethod yX9_split ∈ lw_tbl := List.mem_append_right _ (List.mem_of_getElem? (i := 358) (by decide +kernel))
set_option maxRecDepth 100000 in
theorem iX9_mark : Cond.instanceMethod yX9_mark ∈ lw_tbl := List.mem_append_right _ (List.mem_of_getElem? (i := 362) (by decide +kernel))
set_option maxRecDepth 100000 in
theorem iX3_setMarks : Cond.instanceMethod yX3_setMarks ∈ lw_tbl := List.mem_append_right _ (List.mem_of_getElem? (i := 375) (by decide +kernel))
set_option maxRecDepth 100000 in
theorem iX9_name : Cond.instanceMethod yX9_name ∈ lw_tbl := List.mem_append_right _ (List.mem_of_getElem? (i := 379) (by decide +kernel))
set_option maxRecDepth 100000 in
theorem iX2_give : Cond.instanceMethod yX2_give ∈ lw_tbl := List.mem_append_right _ (List.mem_of_getElem? (i := 383) (by decide +kernel))
set_option maxRecDepth 100000 in
theorem iX9_join : Cond.instanceMethod yX9_join ∈ lw_tbl := List.mem_append_right _ (List.mem_of_getElem? (i := 387) (by decide +kernel))
set_option maxRecDepth 100000 in
theorem iX2_tie : Cond.instanceMethod yX2_tie ∈ lw_tbl := List.mem_append_right _ (List.mem_of_getElem? (i := 391) (by decide +kernel))
set_option maxRecDepth 100000 in
theorem iX2_leadsTo : Cond.instanceMethod yX2_leadsTo ∈ lw_tbl := List.mem_append_right _ (List.mem_of_getElem? (i := 396) (by decide +kernel))
set_option maxRecDepth 100000 in
theorem iX2_tiedAsOf : Cond.instanceMethod yX2_tiedAsOf ∈ lw_tbl := List.mem_append_right _ (List.mem_of_getElem? (i := 400) (by decide +kernel))
set_option maxRecDepth 100000 in
theorem iX9_bed : Cond.instanceMethod yX9_bed ∈ lw_tbl := List.mem_append_right _ (List.mem_of_getElem? (i := 403) (by decide +kernel))
set_option maxRecDepth 100000 in
theorem iX0_init : Cond.instanceMethod yX0_init ∈ lw_tbl := List.mem_append_right _ (List.mem_of_getElem? (i := 408) (by decide +kernel))
set_option maxRecDepth 100000 in
theorem iX9_change : Cond.instanceMethod yX9_change ∈ lw_tbl := List.mem_append_right _ (List.mem_of_getElem? (i := 428) (by decide +kernel))
set_option maxRecDepth 100000 in
theorem iX9_bedAt : Cond.instanceMethod yX9_bedAt ∈ lw_tbl := List.mem_append_right _ (List.mem_of_getElem? (i := 433) (by decide +kernel))
set_option maxRecDepth 100000 in
theorem iX9_needs : Cond.instanceMethod yX9_needs ∈ lw_tbl := List.mem_append_right _ (List.mem_of_getElem? (i := 436) (by decide +kernel))
set_option maxRecDepth 100000 in
theorem iX9_lay : Cond.instanceMethod yX9_lay ∈ lw_tbl := List.mem_append_right _ (List.mem_of_getElem? (i := 443) (by decide +kernel))
set_option maxRecDepth 100000 in
theorem iX9_hasPlaceFor : Cond.instanceMethod yX9_hasPlaceFor ∈ lw_tbl := List.mem_append_right _ (List.mem_of_getElem? (i := 448) (by decide +kernel))
set_option maxRecDepth 100000 in
theorem iX3_suits : Cond.instanceMethod yX3_suits ∈ lw_tbl := List.mem_append_right _ (List.mem_of_getElem? (i := 451) (by decide +kernel))
set_option maxRecDepth 100000 in
theorem iX9_moves : Cond.instanceMethod yX9_moves ∈ lw_tbl := List.mem_append_right _ (List.mem_of_getElem? (i := 456) (by decide +kernel))
set_option maxRecDepth 100000 in
theorem iX1_fewest : Cond.instanceMethod yX1_fewest ∈ lw_tbl := List.mem_append_right _ (List.mem_of_getElem? (i := 460) (by decide +kernel))
set_option maxRecDepth 100000 in
theorem iX1_leaveWhatSuits : Cond.instanceMethod yX1_leaveWhatSuits ∈ lw_tbl := List.mem_append_right _ (List.mem_of_getElem? (i := 465) (by decide +kernel))
set_option maxRecDepth 100000 in
theorem iX1_bringIn : Cond.instanceMethod yX1_bringIn ∈ lw_tbl := List.mem_append_right _ (List.mem_of_getElem? (i := 470) (by decide +kernel))
set_option maxRecDepth 100000 in
theorem iX1_price : Cond.instanceMethod yX1_price ∈ lw_tbl := List.mem_append_right _ (List.mem_of_getElem? (i := 474) (by decide +kernel))
set_option maxRecDepth 100000 in
theorem iX1_spreadCosts : Cond.instanceMethod yX1_spreadCosts ∈ lw_tbl := List.mem_append_right _ (List.mem_of_getElem? (i := 478) (by decide +kernel))
set_option maxRecDepth 100000 in
theorem iX1_spreadFrom : Cond.instanceMethod yX1_spreadFrom ∈ lw_tbl := List.mem_append_right _ (List.mem_of_getElem? (i := 482) (by decide +kernel))
set_option maxRecDepth 100000 in
theorem iX1_cheapestWithRoom : Cond.instanceMethod yX1_cheapestWithRoom ∈ lw_tbl := List.mem_append_right _ (List.mem_of_getElem? (i := 486) (by decide +kernel))
set_option maxRecDepth 100000 in
theorem iX1_shiftAlong : Cond.instanceMethod yX1_shiftAlong ∈ lw_tbl := List.mem_append_right _ (List.mem_of_getElem? (i := 490) (by decide +kernel))
set_option maxRecDepth 100000 in
theorem iX9_feed : Cond.instanceMethod yX9_feed ∈ lw_tbl := List.mem_append_right _ (List.mem_of_getElem? (i := 493) (by decide +kernel))
set_option maxRecDepth 100000 in
theorem iX7_takeBytes : Cond.instanceMethod yX7_takeBytes ∈ lw_tbl := List.mem_append_right _ (List.mem_of_getElem? (i := 497) (by decide +kernel))
set_option maxRecDepth 100000 in
theorem iX9_text : Cond.instanceMethod yX9_text ∈ lw_tbl := List.mem_append_right _ (List.mem_of_getElem? (i := 502) (by decide +kernel))
set_option maxRecDepth 100000 in
theorem iX4_readText : Cond.instanceMethod yX4_readText ∈ lw_tbl := List.mem_append_right _ (List.mem_of_getElem? (i := 506) (by decide +kernel))
set_option maxRecDepth 100000 in
theorem iX8_scan : Cond.instanceMethod yX8_scan ∈ lw_tbl := List.mem_append_right _ (List.mem_of_getElem? (i := 510) (by decide +kernel))
set_option maxRecDepth 100000 in
theorem iX7_endOfBlanks : Cond.instanceMethod yX7_endOfBlanks ∈ lw_tbl := List.mem_append_right _ (List.mem_of_getElem? (i := 514) (by decide +kernel))
set_option maxRecDepth 100000 in
theorem iX8_scanOne : Cond.instanceMethod yX8_scanOne ∈ lw_tbl := List.mem_append_right _ (List.mem_of_getElem? (i := 519) (by decide +kernel))
set_option maxRecDepth 100000 in
theorem iX7_endOfLetters : Cond.instanceMethod yX7_endOfLetters ∈ lw_tbl := List.mem_append_right _ (List.mem_of_getElem? (i := 522) (by decide +kernel))
set_option maxRecDepth 100000 in
theorem iX7_spells : Cond.instanceMethod yX7_spells ∈ lw_tbl := List.mem_append_right _ (List.mem_of_getElem? (i := 530) (by decide +kernel))
set_option maxRecDepth 100000 in
theorem iX8_add : Cond.instanceMethod yX8_add ∈ lw_tbl := List.mem_append_right _ (List.mem_of_getElem? (i := 593) (by decide +kernel))
set_option maxRecDepth 100000 in
theorem iX7_endOfDigits : Cond.instanceMethod yX7_endOfDigits ∈ lw_tbl := List.mem_append_right _ (List.mem_of_getElem? (i := 596) (by decide +kernel))
set_option maxRecDepth 100000 in
theorem iX7_numberIn : Cond.instanceMethod yX7_numberIn ∈ lw_tbl := List.mem_append_right _ (List.mem_of_getElem? (i := 600) (by decide +kernel))
set_option maxRecDepth 100000 in
theorem iX5_makeEmpty : Cond.instanceMethod yX5_makeEmpty ∈ lw_tbl := List.mem_append_right _ (List.mem_of_getElem? (i := 607) (by decide +kernel))
set_option maxRecDepth 100000 in
theorem iX4_beginsLine : Cond.instanceMethod yX4_beginsLine ∈ lw_tbl := List.mem_append_right _ (List.mem_of_getElem? (i := 612) (by decide +kernel))
set_option maxRecDepth 100000 in
theorem iX4_readLine : Cond.instanceMethod yX4_readLine ∈ lw_tbl := List.mem_append_right _ (List.mem_of_getElem? (i := 616) (by decide +kernel))
set_option maxRecDepth 100000 in
theorem iX4_advance : Cond.instanceMethod yX4_advance ∈ lw_tbl := List.mem_append_right _ (List.mem_of_getElem? (i := 620) (by decide +kernel))
set_option maxRecDepth 100000 in
theorem iX4_expect : Cond.instanceMethod yX4_expect ∈ lw_tbl := List.mem_append_right _ (List.mem_of_getElem? (i := 624) (by decide +kernel))
set_option maxRecDepth 100000 in
theorem iX4_refuse : Cond.instanceMethod yX4_refuse ∈ lw_tbl := List.mem_append_right _ (List.mem_of_getElem? (i := 628) (by decide +kernel))
set_option maxRecDepth 100000 in
theorem iX4_readAnds : Cond.instanceMethod yX4_readAnds ∈ lw_tbl := List.mem_append_right _ (List.mem_of_getElem? (i := 632) (by decide +kernel))
set_option maxRecDepth 100000 in
theorem iX4_readTest : Cond.instanceMethod yX4_readTest ∈ lw_tbl := List.mem_append_right _ (List.mem_of_getElem? (i := 636) (by decide +kernel))
set_option maxRecDepth 100000 in
theorem iX4_readSum : Cond.instanceMethod yX4_readSum ∈ lw_tbl := List.mem_append_right _ (List.mem_of_getElem? (i := 640) (by decide +kernel))
set_option maxRecDepth 100000 in
theorem iX4_readPart : Cond.instanceMethod yX4_readPart ∈ lw_tbl := List.mem_append_right _ (List.mem_of_getElem? (i := 644) (by decide +kernel))
set_option maxRecDepth 100000 in
theorem iX5_addCode : Cond.instanceMethod yX5_addCode ∈ lw_tbl := List.mem_append_right _ (List.mem_of_getElem? (i := 647) (by decide +kernel))
set_option maxRecDepth 100000 in
theorem iX5_endLine : Cond.instanceMethod yX5_endLine ∈ lw_tbl := List.mem_append_right _ (List.mem_of_getElem? (i := 651) (by decide +kernel))
set_option maxRecDepth 100000 in
theorem iX4_exchangeDraft : Cond.instanceMethod yX4_exchangeDraft ∈ lw_tbl := List.mem_append_right _ (List.mem_of_getElem? (i := 655) (by decide +kernel))
set_option maxRecDepth 100000 in
theorem iX9_may : Cond.instanceMethod yX9_may ∈ lw_tbl := List.mem_append_right _ (List.mem_of_getElem? (i := 660) (by decide +kernel))
set_option maxRecDepth 100000 in
theorem iX2_nameOf : Cond.instanceMethod yX2_nameOf ∈ lw_tbl := List.mem_append_right _ (List.mem_of_getElem? (i := 664) (by decide +kernel))
set_option maxRecDepth 100000 in
theorem iX2_givenAsOf : Cond.instanceMethod yX2_givenAsOf ∈ lw_tbl := List.mem_append_right _ (List.mem_of_getElem? (i := 669) (by decide +kernel))
set_option maxRecDepth 100000 in
theorem iX5_permit : Cond.instanceMethod yX5_permit ∈ lw_tbl := List.mem_append_right _ (List.mem_of_getElem? (i := 672) (by decide +kernel))
set_option maxRecDepth 100000 in
theorem iX5_valueOf : Cond.instanceMethod yX5_valueOf ∈ lw_tbl := List.mem_append_right _ (List.mem_of_getElem? (i := 677) (by decide +kernel))
set_option maxRecDepth 100000 in
theorem iX5_push : Cond.instanceMethod yX5_push ∈ lw_tbl := List.mem_append_right _ (List.mem_of_getElem? (i := 681) (by decide +kernel))
set_option maxRecDepth 100000 in
theorem iX5_pop : Cond.instanceMethod yX5_pop ∈ lw_tbl := List.mem_append_right _ (List.mem_of_getElem? (i := 685) (by decide +kernel))
set_option maxRecDepth 100000 in
theorem iX9_send : Cond.instanceMethod yX9_send ∈ lw_tbl := List.mem_append_right _ (List.mem_of_getElem? (i := 691) (by decide +kernel))
set_option maxRecDepth 100000 in
theorem iX6_write : Cond.instanceMethod yX6_write ∈ lw_tbl := List.mem_append_right _ (List.mem_of_getElem? (i := 696) (by decide +kernel))
set_option maxRecDepth 100000 in
theorem iX9_sent : Cond.instanceMethod yX9_sent ∈ lw_tbl := List.mem_append_right _ (List.mem_of_getElem? (i := 700) (by decide +kernel))
set_option maxRecDepth 100000 in
theorem iX6_entry : Cond.instanceMethod yX6_entry ∈ lw_tbl := List.mem_append_right _ (List.mem_of_getElem? (i := 704) (by decide +kernel))
set_option maxRecDepth 100000 in
theorem iX9_seen : Cond.instanceMethod yX9_seen ∈ lw_tbl := List.mem_append_right _ (List.mem_of_getElem? (i := 709) (by decide +kernel))
set_option maxRecDepth 100000 in
theorem iX9_close : Cond.instanceMethod yX9_close ∈ lw_tbl := List.mem_append_right _ (List.mem_of_getElem? (i := 713) (by decide +kernel))
set_option maxRecDepth 100000 in
theorem iX3_diesByCheck : Cond.instanceMethod yX3_diesByCheck ∈ lw_tbl := List.mem_append_right _ (List.mem_of_getElem? (i := 717) (by decide +kernel))
set_option maxRecDepth 100000 in
theorem iX9_fits : Cond.instanceMethod yX9_fits ∈ lw_tbl := List.mem_append_right _ (List.mem_of_getElem? (i := 721) (by decide +kernel))
set_option maxRecDepth 100000 in
theorem iX3_fitsOriginOf : Cond.instanceMethod yX3_fitsOriginOf ∈ lw_tbl := List.mem_append_right _ (List.mem_of_getElem? (i := 725) (by decide +kernel))
set_option maxRecDepth 100000 in
theorem iX3_fitsParents : Cond.instanceMethod yX3_fitsParents ∈ lw_tbl := List.mem_append_right _ (List.mem_of_getElem? (i := 730) (by decide +kernel))
set_option maxRecDepth 100000 in
theorem iX3_bears : Cond.instanceMethod yX3_bears ∈ lw_tbl := List.mem_append_right _ (List.mem_of_getElem? (i := 734) (by decide +kernel))
set_option maxRecDepth 100000 in
theorem iX3_sameMarks : Cond.instanceMethod yX3_sameMarks ∈ lw_tbl := List.mem_append_right _ (List.mem_of_getElem? (i := 738) (by decide +kernel))
set_option maxRecDepth 100000 in
theorem iX9_changed : Cond.instanceMethod yX9_changed ∈ lw_tbl := List.mem_append_right _ (List.mem_of_getElem? (i := 741) (by decide +kernel))
set_option maxRecDepth 100000 in
theorem iX9_count : Cond.instanceMethod yX9_count ∈ lw_tbl := List.mem_append_right _ (List.mem_of_getElem? (i := 745) (by decide +kernel))
set_option maxRecDepth 100000 in
theorem iX9_countDead : Cond.instanceMethod yX9_countDead ∈ lw_tbl := List.mem_append_right _ (List.mem_of_getElem? (i := 750) (by decide +kernel))
set_option maxRecDepth 100000 in
theorem iX9_countLying : Cond.instanceMethod yX9_countLying ∈ lw_tbl := List.mem_append_right _ (List.mem_of_getElem? (i := 754) (by decide +kernel))
set_option maxRecDepth 100000 in
theorem iX9_named : Cond.instanceMethod yX9_named ∈ lw_tbl := List.mem_append_right _ (List.mem_of_getElem? (i := 761) (by decide +kernel))
set_option maxRecDepth 100000 in
theorem iX9_look : Cond.instanceMethod yX9_look ∈ lw_tbl := List.mem_append_right _ (List.mem_of_getElem? (i := 833) (by decide +kernel))
set_option maxRecDepth 100000 in
theorem iX10_thrown : Cond.instanceMethod yX10_thrown ∈ lw_tbl := List.mem_append_right _ (List.mem_of_getElem? (i := 847) (by decide +kernel))
set_option maxRecDepth 100000 in
theorem iX10_feed : Cond.instanceMethod yX10_feed ∈ lw_tbl := List.mem_append_right _ (List.mem_of_getElem? (i := 851) (by decide +kernel))
set_option maxRecDepth 100000 in
theorem iX10_lay : Cond.instanceMethod yX10_lay ∈ lw_tbl := List.mem_append_right _ (List.mem_of_getElem? (i := 856) (by decide +kernel))
set_option maxRecDepth 100000 in
theorem iX10_init : Cond.instanceMethod yX10_init ∈ lw_tbl := List.mem_append_right _ (List.mem_of_getElem? (i := 861) (by decide +kernel))
set_option maxRecDepth 100000 in
theorem iX10_text : Cond.instanceMethod yX10_text ∈ lw_tbl := List.mem_append_right _ (List.mem_of_getElem? (i := 1046) (by decide +kernel))
set_option maxRecDepth 100000 in
theorem iX10_cutAll : Cond.instanceMethod yX10_cutAll ∈ lw_tbl := List.mem_append_right _ (List.mem_of_getElem? (i := 1051) (by decide +kernel))
set_option maxRecDepth 100000 in
theorem iX10_line : Cond.instanceMethod yX10_line ∈ lw_tbl := List.mem_append_right _ (List.mem_of_getElem? (i := 1070) (by decide +kernel))
set_option maxRecDepth 100000 in
theorem iX10_isWord : Cond.instanceMethod yX10_isWord ∈ lw_tbl := List.mem_append_right _ (List.mem_of_getElem? (i := 1074) (by decide +kernel))
set_option maxRecDepth 100000 in
theorem iX10_wrong : Cond.instanceMethod yX10_wrong ∈ lw_tbl := List.mem_append_right _ (List.mem_of_getElem? (i := 1078) (by decide +kernel))
set_option maxRecDepth 100000 in
theorem iX10_takeWord : Cond.instanceMethod yX10_takeWord ∈ lw_tbl := List.mem_append_right _ (List.mem_of_getElem? (i := 1082) (by decide +kernel))
set_option maxRecDepth 100000 in
theorem iX10_hasWord : Cond.instanceMethod yX10_hasWord ∈ lw_tbl := List.mem_append_right _ (List.mem_of_getElem? (i := 1086) (by decide +kernel))
set_option maxRecDepth 100000 in
theorem iX10_opens : Cond.instanceMethod yX10_opens ∈ lw_tbl := List.mem_append_right _ (List.mem_of_getElem? (i := 1090) (by decide +kernel))
set_option maxRecDepth 100000 in
theorem iX10_part : Cond.instanceMethod yX10_part ∈ lw_tbl := List.mem_append_right _ (List.mem_of_getElem? (i := 1094) (by decide +kernel))
set_option maxRecDepth 100000 in
theorem iX10_partWord : Cond.instanceMethod yX10_partWord ∈ lw_tbl := List.mem_append_right _ (List.mem_of_getElem? (i := 1098) (by decide +kernel))
set_option maxRecDepth 100000 in
theorem iX10_isSign : Cond.instanceMethod yX10_isSign ∈ lw_tbl := List.mem_append_right _ (List.mem_of_getElem? (i := 1102) (by decide +kernel))
set_option maxRecDepth 100000 in
theorem iX10_hasSign : Cond.instanceMethod yX10_hasSign ∈ lw_tbl := List.mem_append_right _ (List.mem_of_getElem? (i := 1106) (by decide +kernel))
set_option maxRecDepth 100000 in
theorem iX10_emit : Cond.instanceMethod yX10_emit ∈ lw_tbl := List.mem_append_right _ (List.mem_of_getElem? (i := 1110) (by decide +kernel))
set_option maxRecDepth 100000 in
theorem iX10_goesOnBehind : Cond.instanceMethod yX10_goesOnBehind ∈ lw_tbl := List.mem_append_right _ (List.mem_of_getElem? (i := 1114) (by decide +kernel))
set_option maxRecDepth 100000 in
theorem iX10_takeSign : Cond.instanceMethod yX10_takeSign ∈ lw_tbl := List.mem_append_right _ (List.mem_of_getElem? (i := 1118) (by decide +kernel))
set_option maxRecDepth 100000 in
theorem iX10_days : Cond.instanceMethod yX10_days ∈ lw_tbl := List.mem_append_right _ (List.mem_of_getElem? (i := 1121) (by decide +kernel))
set_option maxRecDepth 100000 in
theorem iX10_wild : Cond.instanceMethod yX10_wild ∈ lw_tbl := List.mem_append_right _ (List.mem_of_getElem? (i := 1125) (by decide +kernel))
set_option maxRecDepth 100000 in
theorem iX10_grows : Cond.instanceMethod yX10_grows ∈ lw_tbl := List.mem_append_right _ (List.mem_of_getElem? (i := 1133) (by decide +kernel))
set_option maxRecDepth 100000 in
theorem iX10_seed : Cond.instanceMethod yX10_seed ∈ lw_tbl := List.mem_append_right _ (List.mem_of_getElem? (i := 1136) (by decide +kernel))
set_option maxRecDepth 100000 in
theorem iX10_isPlant : Cond.instanceMethod yX10_isPlant ∈ lw_tbl := List.mem_append_right _ (List.mem_of_getElem? (i := 1141) (by decide +kernel))
set_option maxRecDepth 100000 in
theorem iX10_cut : Cond.instanceMethod yX10_cut ∈ lw_tbl := List.mem_append_right _ (List.mem_of_getElem? (i := 1144) (by decide +kernel))
set_option maxRecDepth 100000 in
theorem iX10_split : Cond.instanceMethod yX10_split ∈ lw_tbl := List.mem_append_right _ (List.mem_of_getElem? (i := 1148) (by decide +kernel))
set_option maxRecDepth 100000 in
theorem iX10_mark : Cond.instanceMethod yX10_mark ∈ lw_tbl := List.mem_append_right _ (List.mem_of_getElem? (i := 1152) (by decide +kernel))
set_option maxRecDepth 100000 in
theorem iX10_fits : Cond.instanceMethod yX10_fits ∈ lw_tbl := List.mem_append_right _ (List.mem_of_getElem? (i := 1156) (by decide +kernel))
set_option maxRecDepth 100000 in
theorem iX10_fitsAs : Cond.instanceMethod yX10_fitsAs ∈ lw_tbl := List.mem_append_right _ (List.mem_of_getElem? (i := 1161) (by decide +kernel))
set_option maxRecDepth 100000 in
theorem iX10_markOf : Cond.instanceMethod yX10_markOf ∈ lw_tbl := List.mem_append_right _ (List.mem_of_getElem? (i := 1165) (by decide +kernel))
set_option maxRecDepth 100000 in
theorem iX10_hasMark : Cond.instanceMethod yX10_hasMark ∈ lw_tbl := List.mem_append_right _ (List.mem_of_getElem? (i := 1169) (by decide +kernel))
set_option maxRecDepth 100000 in
theorem iX10_changed : Cond.instanceMethod yX10_changed ∈ lw_tbl := List.mem_append_right _ (List.mem_of_getElem? (i := 1172) (by decide +kernel))
set_option maxRecDepth 100000 in
theorem iX10_name : Cond.instanceMethod yX10_name ∈ lw_tbl := List.mem_append_right _ (List.mem_of_getElem? (i := 1176) (by decide +kernel))
set_option maxRecDepth 100000 in
theorem iX10_join : Cond.instanceMethod yX10_join ∈ lw_tbl := List.mem_append_right _ (List.mem_of_getElem? (i := 1183) (by decide +kernel))
set_option maxRecDepth 100000 in
theorem iX10_leadsBack : Cond.instanceMethod yX10_leadsBack ∈ lw_tbl := List.mem_append_right _ (List.mem_of_getElem? (i := 1188) (by decide +kernel))
set_option maxRecDepth 100000 in
theorem iX10_joinedTo : Cond.instanceMethod yX10_joinedTo ∈ lw_tbl := List.mem_append_right _ (List.mem_of_getElem? (i := 1192) (by decide +kernel))
set_option maxRecDepth 100000 in
theorem iX10_named : Cond.instanceMethod yX10_named ∈ lw_tbl := List.mem_append_right _ (List.mem_of_getElem? (i := 1195) (by decide +kernel))
set_option maxRecDepth 100000 in
theorem iX10_nameOf : Cond.instanceMethod yX10_nameOf ∈ lw_tbl := List.mem_append_right _ (List.mem_of_getElem? (i := 1200) (by decide +kernel))
set_option maxRecDepth 100000 in
theorem iX10_leads : Cond.instanceMethod yX10_leads ∈ lw_tbl := List.mem_append_right _ (List.mem_of_getElem? (i := 1204) (by decide +kernel))
set_option maxRecDepth 100000 in
theorem iX10_bed : Cond.instanceMethod yX10_bed ∈ lw_tbl := List.mem_append_right _ (List.mem_of_getElem? (i := 1207) (by decide +kernel))
set_option maxRecDepth 100000 in
theorem iX10_change : Cond.instanceMethod yX10_change ∈ lw_tbl := List.mem_append_right _ (List.mem_of_getElem? (i := 1214) (by decide +kernel))
set_option maxRecDepth 100000 in
theorem iX10_isBed : Cond.instanceMethod yX10_isBed ∈ lw_tbl := List.mem_append_right _ (List.mem_of_getElem? (i := 1219) (by decide +kernel))
set_option maxRecDepth 100000 in
theorem iX10_needs : Cond.instanceMethod yX10_needs ∈ lw_tbl := List.mem_append_right _ (List.mem_of_getElem? (i := 1222) (by decide +kernel))
set_option maxRecDepth 100000 in
theorem iX10_lay_ : Cond.instanceMethod yX10_lay_ ∈ lw_tbl := List.mem_append_right _ (List.mem_of_getElem? (i := 1226) (by decide +kernel))
set_option maxRecDepth 100000 in
theorem iX10_suits : Cond.instanceMethod yX10_suits ∈ lw_tbl := List.mem_append_right _ (List.mem_of_getElem? (i := 1231) (by decide +kernel))
set_option maxRecDepth 100000 in
theorem iX10_moves : Cond.instanceMethod yX10_moves ∈ lw_tbl := List.mem_append_right _ (List.mem_of_getElem? (i := 1234) (by decide +kernel))
set_option maxRecDepth 100000 in
theorem iX10_comes : Cond.instanceMethod yX10_comes ∈ lw_tbl := List.mem_append_right _ (List.mem_of_getElem? (i := 1239) (by decide +kernel))
set_option maxRecDepth 100000 in
theorem iX10_begins : Cond.instanceMethod yX10_begins ∈ lw_tbl := List.mem_append_right _ (List.mem_of_getElem? (i := 1243) (by decide +kernel))
set_option maxRecDepth 100000 in
theorem iX10_costOf : Cond.instanceMethod yX10_costOf ∈ lw_tbl := List.mem_append_right _ (List.mem_of_getElem? (i := 1247) (by decide +kernel))
set_option maxRecDepth 100000 in
theorem iX10_may : Cond.instanceMethod yX10_may ∈ lw_tbl := List.mem_append_right _ (List.mem_of_getElem? (i := 1251) (by decide +kernel))
set_option maxRecDepth 100000 in
theorem iX10_isSending : Cond.instanceMethod yX10_isSending ∈ lw_tbl := List.mem_append_right _ (List.mem_of_getElem? (i := 1256) (by decide +kernel))
set_option maxRecDepth 100000 in
theorem iX10_lets : Cond.instanceMethod yX10_lets ∈ lw_tbl := List.mem_append_right _ (List.mem_of_getElem? (i := 1260) (by decide +kernel))
set_option maxRecDepth 100000 in
theorem iX10_rootOf : Cond.instanceMethod yX10_rootOf ∈ lw_tbl := List.mem_append_right _ (List.mem_of_getElem? (i := 1264) (by decide +kernel))
set_option maxRecDepth 100000 in
theorem iX10_isCut : Cond.instanceMethod yX10_isCut ∈ lw_tbl := List.mem_append_right _ (List.mem_of_getElem? (i := 1268) (by decide +kernel))
set_option maxRecDepth 100000 in
theorem iX10_worth : Cond.instanceMethod yX10_worth ∈ lw_tbl := List.mem_append_right _ (List.mem_of_getElem? (i := 1272) (by decide +kernel))
set_option maxRecDepth 100000 in
theorem iX10_send : Cond.instanceMethod yX10_send ∈ lw_tbl := List.mem_append_right _ (List.mem_of_getElem? (i := 1275) (by decide +kernel))
set_option maxRecDepth 100000 in
theorem iX10_sent : Cond.instanceMethod yX10_sent ∈ lw_tbl := List.mem_append_right _ (List.mem_of_getElem? (i := 1279) (by decide +kernel))
set_option maxRecDepth 100000 in
theorem iX10_seen : Cond.instanceMethod yX10_seen ∈ lw_tbl := List.mem_append_right _ (List.mem_of_getElem? (i := 1283) (by decide +kernel))
set_option maxRecDepth 100000 in
theorem iX10_close : Cond.instanceMethod yX10_close ∈ lw_tbl := List.mem_append_right _ (List.mem_of_getElem? (i := 1287) (by decide +kernel))
set_option maxRecDepth 100000 in
theorem iX10_checks : Cond.instanceMethod yX10_checks ∈ lw_tbl := List.mem_append_right _ (List.mem_of_getElem? (i := 1292) (by decide +kernel))
set_option maxRecDepth 100000 in
theorem iX10_look : Cond.instanceMethod yX10_look ∈ lw_tbl := List.mem_append_right _ (List.mem_of_getElem? (i := 1295) (by decide +kernel))
set_option maxRecDepth 100000 in
theorem iX10_count : Cond.instanceMethod yX10_count ∈ lw_tbl := List.mem_append_right _ (List.mem_of_getElem? (i := 1299) (by decide +kernel))
set_option maxRecDepth 100000 in
theorem eX10_bed : Cond.selects (a_Rn 10) yX10_bed yX10_bed ∈ lw_tbl := List.mem_append_right _ (List.mem_of_getElem? (i := 1208) (by decide +kernel))
set_option maxRecDepth 100000 in
theorem eX10_begins : Cond.selects (a_Rn 10) yX10_begins yX10_begins ∈ lw_tbl := List.mem_append_left _ (List.mem_of_getElem? (i := 62) (by decide +kernel))
set_option maxRecDepth 100000 in
theorem eX10_change : Cond.selects (a_Rn 10) yX10_change yX10_change ∈ lw_tbl := List.mem_append_right _ (List.mem_of_getElem? (i := 1215) (by decide +kernel))
set_option maxRecDepth 100000 in
theorem eX10_changed : Cond.selects (a_Rn 10) yX10_changed yX10_changed ∈ lw_tbl := List.mem_append_right _ (List.mem_of_getElem? (i := 1173) (by decide +kernel))
set_option maxRecDepth 100000 in
theorem eX10_checks : Cond.selects (a_Rn 10) yX10_checks yX10_checks ∈ lw_tbl := List.mem_append_left _ (List.mem_of_getElem? (i := 69) (by decide +kernel))
set_option maxRecDepth 100000 in
theorem eX10_close : Cond.selects (a_Rn 10) yX10_close yX10_close ∈ lw_tbl := List.mem_append_right _ (List.mem_of_getElem? (i := 1288) (by decide +kernel))
set_option maxRecDepth 100000 in
theorem eX10_comes : Cond.selects (a_Rn 10) yX10_comes yX10_comes ∈ lw_tbl := List.mem_append_left _ (List.mem_of_getElem? (i := 61) (by decide +kernel))
set_option maxRecDepth 100000 in
theorem eX10_costOf : Cond.selects (a_Rn 10) yX10_costOf yX10_costOf ∈ lw_tbl := List.mem_append_left _ (List.mem_of_getElem? (i := 63) (by decide +kernel))
set_option maxRecDepth 100000 in
theorem eX10_count : Cond.selects (a_Rn 10) yX10_count yX10_count ∈ lw_tbl := List.mem_append_right _ (List.mem_of_getElem? (i := 1300) (by decide +kernel))
set_option maxRecDepth 100000 in
theorem eX10_cut : Cond.selects (a_Rn 10) yX10_cut yX10_cut ∈ lw_tbl := List.mem_append_right _ (List.mem_of_getElem? (i := 1145) (by decide +kernel))
set_option maxRecDepth 100000 in
theorem eX10_cutAll : Cond.selects (a_Rn 10) yX10_cutAll yX10_cutAll ∈ lw_tbl := List.mem_append_left _ (List.mem_of_getElem? (i := 36) (by decide +kernel))
set_option maxRecDepth 100000 in
theorem eX10_days : Cond.selects (a_Rn 10) yX10_days yX10_days ∈ lw_tbl := List.mem_append_right _ (List.mem_of_getElem? (i := 1122) (by decide +kernel))
set_option maxRecDepth 100000 in
theorem eX10_emit : Cond.selects (a_Rn 10) yX10_emit yX10_emit ∈ lw_tbl := List.mem_append_left _ (List.mem_of_getElem? (i := 47) (by decide +kernel))
set_option maxRecDepth 100000 in
theorem eX10_feed : Cond.selects (a_Rn 10) yX10_feed yX10_feed ∈ lw_tbl := List.mem_append_right _ (List.mem_of_getElem? (i := 852) (by decide +kernel))
set_option maxRecDepth 100000 in
theorem eX10_fits : Cond.selects (a_Rn 10) yX10_fits yX10_fits ∈ lw_tbl := List.mem_append_right _ (List.mem_of_getElem? (i := 1157) (by decide +kernel))
set_option maxRecDepth 100000 in
theorem eX10_fitsAs : Cond.selects (a_Rn 10) yX10_fitsAs yX10_fitsAs ∈ lw_tbl := List.mem_append_left _ (List.mem_of_getElem? (i := 52) (by decide +kernel))
set_option maxRecDepth 100000 in
theorem eX10_goesOnBehind : Cond.selects (a_Rn 10) yX10_goesOnBehind yX10_goesOnBehind ∈ lw_tbl := List.mem_append_left _ (List.mem_of_getElem? (i := 48) (by decide +kernel))
set_option maxRecDepth 100000 in
theorem eX10_grows : Cond.selects (a_Rn 10) yX10_grows yX10_grows ∈ lw_tbl := List.mem_append_left _ (List.mem_of_getElem? (i := 50) (by decide +kernel))
set_option maxRecDepth 100000 in
theorem eX10_hasMark : Cond.selects (a_Rn 10) yX10_hasMark yX10_hasMark ∈ lw_tbl := List.mem_append_left _ (List.mem_of_getElem? (i := 54) (by decide +kernel))
set_option maxRecDepth 100000 in
theorem eX10_hasSign : Cond.selects (a_Rn 10) yX10_hasSign yX10_hasSign ∈ lw_tbl := List.mem_append_left _ (List.mem_of_getElem? (i := 46) (by decide +kernel))
set_option maxRecDepth 100000 in
theorem eX10_hasWord : Cond.selects (a_Rn 10) yX10_hasWord yX10_hasWord ∈ lw_tbl := List.mem_append_left _ (List.mem_of_getElem? (i := 41) (by decide +kernel))
set_option maxRecDepth 100000 in
theorem eX10_isBed : Cond.selects (a_Rn 10) yX10_isBed yX10_isBed ∈ lw_tbl := List.mem_append_left _ (List.mem_of_getElem? (i := 59) (by decide +kernel))
set_option maxRecDepth 100000 in
theorem eX10_isCut : Cond.selects (a_Rn 10) yX10_isCut yX10_isCut ∈ lw_tbl := List.mem_append_left _ (List.mem_of_getElem? (i := 67) (by decide +kernel))
set_option maxRecDepth 100000 in
theorem eX10_isPlant : Cond.selects (a_Rn 10) yX10_isPlant yX10_isPlant ∈ lw_tbl := List.mem_append_left _ (List.mem_of_getElem? (i := 51) (by decide +kernel))
set_option maxRecDepth 100000 in
theorem eX10_isSending : Cond.selects (a_Rn 10) yX10_isSending yX10_isSending ∈ lw_tbl := List.mem_append_left _ (List.mem_of_getElem? (i := 64) (by decide +kernel))
set_option maxRecDepth 100000 in
theorem eX10_isSign : Cond.selects (a_Rn 10) yX10_isSign yX10_isSign ∈ lw_tbl := List.mem_append_left _ (List.mem_of_getElem? (i := 45) (by decide +kernel))
set_option maxRecDepth 100000 in
theorem eX10_isWord : Cond.selects (a_Rn 10) yX10_isWord yX10_isWord ∈ lw_tbl := List.mem_append_left _ (List.mem_of_getElem? (i := 38) (by decide +kernel))
set_option maxRecDepth 100000 in
theorem eX10_join : Cond.selects (a_Rn 10) yX10_join yX10_join ∈ lw_tbl := List.mem_append_right _ (List.mem_of_getElem? (i := 1184) (by decide +kernel))
set_option maxRecDepth 100000 in
theorem eX10_joinedTo : Cond.selects (a_Rn 10) yX10_joinedTo yX10_joinedTo ∈ lw_tbl := List.mem_append_left _ (List.mem_of_getElem? (i := 56) (by decide +kernel))
set_option maxRecDepth 100000 in
theorem eX10_lay : Cond.selects (a_Rn 10) yX10_lay yX10_lay ∈ lw_tbl := List.mem_append_left _ (List.mem_of_getElem? (i := 35) (by decide +kernel))
set_option maxRecDepth 100000 in
theorem eX10_lay_ : Cond.selects (a_Rn 10) yX10_lay_ yX10_lay_ ∈ lw_tbl := List.mem_append_right _ (List.mem_of_getElem? (i := 1227) (by decide +kernel))
set_option maxRecDepth 100000 in
theorem eX10_leads : Cond.selects (a_Rn 10) yX10_leads yX10_leads ∈ lw_tbl := List.mem_append_left _ (List.mem_of_getElem? (i := 58) (by decide +kernel))
set_option maxRecDepth 100000 in
theorem eX10_leadsBack : Cond.selects (a_Rn 10) yX10_leadsBack yX10_leadsBack ∈ lw_tbl := List.mem_append_left _ (List.mem_of_getElem? (i := 55) (by decide +kernel))
set_option maxRecDepth 100000 in
theorem eX10_lets : Cond.selects (a_Rn 10) yX10_lets yX10_lets ∈ lw_tbl := List.mem_append_left _ (List.mem_of_getElem? (i := 65) (by decide +kernel))
set_option maxRecDepth 100000 in
theorem eX10_line : Cond.selects (a_Rn 10) yX10_line yX10_line ∈ lw_tbl := List.mem_append_left _ (List.mem_of_getElem? (i := 37) (by decide +kernel))
set_option maxRecDepth 100000 in
theorem eX10_look : Cond.selects (a_Rn 10) yX10_look yX10_look ∈ lw_tbl := List.mem_append_right _ (List.mem_of_getElem? (i := 1296) (by decide +kernel))
set_option maxRecDepth 100000 in
theorem eX10_mark : Cond.selects (a_Rn 10) yX10_mark yX10_mark ∈ lw_tbl := List.mem_append_right _ (List.mem_of_getElem? (i := 1153) (by decide +kernel))
set_option maxRecDepth 100000 in
theorem eX10_markOf : Cond.selects (a_Rn 10) yX10_markOf yX10_markOf ∈ lw_tbl := List.mem_append_left _ (List.mem_of_getElem? (i := 53) (by decide +kernel))
set_option maxRecDepth 100000 in
theorem eX10_may : Cond.selects (a_Rn 10) yX10_may yX10_may ∈ lw_tbl := List.mem_append_right _ (List.mem_of_getElem? (i := 1252) (by decide +kernel))
set_option maxRecDepth 100000 in
theorem eX10_moves : Cond.selects (a_Rn 10) yX10_moves yX10_moves ∈ lw_tbl := List.mem_append_right _ (List.mem_of_getElem? (i := 1235) (by decide +kernel))
set_option maxRecDepth 100000 in
theorem eX10_name : Cond.selects (a_Rn 10) yX10_name yX10_name ∈ lw_tbl := List.mem_append_right _ (List.mem_of_getElem? (i := 1177) (by decide +kernel))
set_option maxRecDepth 100000 in
theorem eX10_nameOf : Cond.selects (a_Rn 10) yX10_nameOf yX10_nameOf ∈ lw_tbl := List.mem_append_left _ (List.mem_of_getElem? (i := 57) (by decide +kernel))
set_option maxRecDepth 100000 in
theorem eX10_named : Cond.selects (a_Rn 10) yX10_named yX10_named ∈ lw_tbl := List.mem_append_right _ (List.mem_of_getElem? (i := 1196) (by decide +kernel))
set_option maxRecDepth 100000 in
theorem eX10_needs : Cond.selects (a_Rn 10) yX10_needs yX10_needs ∈ lw_tbl := List.mem_append_right _ (List.mem_of_getElem? (i := 1223) (by decide +kernel))
set_option maxRecDepth 100000 in
theorem eX10_opens : Cond.selects (a_Rn 10) yX10_opens yX10_opens ∈ lw_tbl := List.mem_append_left _ (List.mem_of_getElem? (i := 42) (by decide +kernel))
set_option maxRecDepth 100000 in
theorem eX10_part : Cond.selects (a_Rn 10) yX10_part yX10_part ∈ lw_tbl := List.mem_append_left _ (List.mem_of_getElem? (i := 43) (by decide +kernel))
set_option maxRecDepth 100000 in
theorem eX10_partWord : Cond.selects (a_Rn 10) yX10_partWord yX10_partWord ∈ lw_tbl := List.mem_append_left _ (List.mem_of_getElem? (i := 44) (by decide +kernel))
set_option maxRecDepth 100000 in
theorem eX10_rootOf : Cond.selects (a_Rn 10) yX10_rootOf yX10_rootOf ∈ lw_tbl := List.mem_append_left _ (List.mem_of_getElem? (i := 66) (by decide +kernel))
set_option maxRecDepth 100000 in
theorem eX10_seed : Cond.selects (a_Rn 10) yX10_seed yX10_seed ∈ lw_tbl := List.mem_append_right _ (List.mem_of_getElem? (i := 1137) (by decide +kernel))
set_option maxRecDepth 100000 in
theorem eX10_seen : Cond.selects (a_Rn 10) yX10_seen yX10_seen ∈ lw_tbl := List.mem_append_right _ (List.mem_of_getElem? (i := 1284) (by decide +kernel))
set_option maxRecDepth 100000 in
theorem eX10_send : Cond.selects (a_Rn 10) yX10_send yX10_send ∈ lw_tbl := List.mem_append_right _ (List.mem_of_getElem? (i := 1276) (by decide +kernel))
set_option maxRecDepth 100000 in
theorem eX10_sent : Cond.selects (a_Rn 10) yX10_sent yX10_sent ∈ lw_tbl := List.mem_append_right _ (List.mem_of_getElem? (i := 1280) (by decide +kernel))
set_option maxRecDepth 100000 in
theorem eX10_split : Cond.selects (a_Rn 10) yX10_split yX10_split ∈ lw_tbl := List.mem_append_right _ (List.mem_of_getElem? (i := 1149) (by decide +kernel))
set_option maxRecDepth 100000 in
theorem eX10_suits : Cond.selects (a_Rn 10) yX10_suits yX10_suits ∈ lw_tbl := List.mem_append_left _ (List.mem_of_getElem? (i := 60) (by decide +kernel))
set_option maxRecDepth 100000 in
theorem eX10_takeSign : Cond.selects (a_Rn 10) yX10_takeSign yX10_takeSign ∈ lw_tbl := List.mem_append_left _ (List.mem_of_getElem? (i := 49) (by decide +kernel))
set_option maxRecDepth 100000 in
theorem eX10_takeWord : Cond.selects (a_Rn 10) yX10_takeWord yX10_takeWord ∈ lw_tbl := List.mem_append_left _ (List.mem_of_getElem? (i := 40) (by decide +kernel))
set_option maxRecDepth 100000 in
theorem eX10_text : Cond.selects (a_Rn 10) yX10_text yX10_text ∈ lw_tbl := List.mem_append_right _ (List.mem_of_getElem? (i := 1047) (by decide +kernel))
set_option maxRecDepth 100000 in
theorem eX10_thrown : Cond.selects (a_Rn 10) yX10_thrown yX10_thrown ∈ lw_tbl := List.mem_append_right _ (List.mem_of_getElem? (i := 848) (by decide +kernel))
set_option maxRecDepth 100000 in
theorem eX10_wild : Cond.selects (a_Rn 10) yX10_wild yX10_wild ∈ lw_tbl := List.mem_append_right _ (List.mem_of_getElem? (i := 1126) (by decide +kernel))
set_option maxRecDepth 100000 in
theorem eX10_worth : Cond.selects (a_Rn 10) yX10_worth yX10_worth ∈ lw_tbl := List.mem_append_left _ (List.mem_of_getElem? (i := 68) (by decide +kernel))
set_option maxRecDepth 100000 in
theorem eX10_wrong : Cond.selects (a_Rn 10) yX10_wrong yX10_wrong ∈ lw_tbl := List.mem_append_left _ (List.mem_of_getElem? (i := 39) (by decide +kernel))
set_option maxRecDepth 100000 in
theorem eX1_bringIn : Cond.selects (a_Rn 1) yX1_bringIn yX1_bringIn ∈ lw_tbl := List.mem_append_left _ (List.mem_of_getElem? (i := 8) (by decide +kernel))
set_option maxRecDepth 100000 in
theorem eX1_cheapestWithRoom : Cond.selects (a_Rn 1) yX1_cheapestWithRoom yX1_cheapestWithRoom ∈ lw_tbl := List.mem_append_left _ (List.mem_of_getElem? (i := 12) (by decide +kernel))
set_option maxRecDepth 100000 in
theorem eX1_fewest : Cond.selects (a_Rn 1) yX1_fewest yX1_fewest ∈ lw_tbl := List.mem_append_right _ (List.mem_of_getElem? (i := 461) (by decide +kernel))
set_option maxRecDepth 100000 in
theorem eX1_leaveWhatSuits : Cond.selects (a_Rn 1) yX1_leaveWhatSuits yX1_leaveWhatSuits ∈ lw_tbl := List.mem_append_left _ (List.mem_of_getElem? (i := 7) (by decide +kernel))
set_option maxRecDepth 100000 in
theorem eX1_price : Cond.selects (a_Rn 1) yX1_price yX1_price ∈ lw_tbl := List.mem_append_left _ (List.mem_of_getElem? (i := 9) (by decide +kernel))
set_option maxRecDepth 100000 in
theorem eX1_shiftAlong : Cond.selects (a_Rn 1) yX1_shiftAlong yX1_shiftAlong ∈ lw_tbl := List.mem_append_left _ (List.mem_of_getElem? (i := 13) (by decide +kernel))
set_option maxRecDepth 100000 in
theorem eX1_spreadCosts : Cond.selects (a_Rn 1) yX1_spreadCosts yX1_spreadCosts ∈ lw_tbl := List.mem_append_left _ (List.mem_of_getElem? (i := 10) (by decide +kernel))
set_option maxRecDepth 100000 in
theorem eX1_spreadFrom : Cond.selects (a_Rn 1) yX1_spreadFrom yX1_spreadFrom ∈ lw_tbl := List.mem_append_left _ (List.mem_of_getElem? (i := 11) (by decide +kernel))
set_option maxRecDepth 100000 in
theorem eX2_give : Cond.selects (a_Rn 2) yX2_give yX2_give ∈ lw_tbl := List.mem_append_right _ (List.mem_of_getElem? (i := 384) (by decide +kernel))
set_option maxRecDepth 100000 in
theorem eX2_givenAsOf : Cond.selects (a_Rn 2) yX2_givenAsOf yX2_givenAsOf ∈ lw_tbl := List.mem_append_left _ (List.mem_of_getElem? (i := 25) (by decide +kernel))
set_option maxRecDepth 100000 in
theorem eX2_leadsTo : Cond.selects (a_Rn 2) yX2_leadsTo yX2_leadsTo ∈ lw_tbl := List.mem_append_left _ (List.mem_of_getElem? (i := 3) (by decide +kernel))
set_option maxRecDepth 100000 in
theorem eX2_nameOf : Cond.selects (a_Rn 2) yX2_nameOf yX2_nameOf ∈ lw_tbl := List.mem_append_right _ (List.mem_of_getElem? (i := 665) (by decide +kernel))
set_option maxRecDepth 100000 in
theorem eX2_tie : Cond.selects (a_Rn 2) yX2_tie yX2_tie ∈ lw_tbl := List.mem_append_right _ (List.mem_of_getElem? (i := 392) (by decide +kernel))
set_option maxRecDepth 100000 in
theorem eX2_tiedAsOf : Cond.selects (a_Rn 2) yX2_tiedAsOf yX2_tiedAsOf ∈ lw_tbl := List.mem_append_left _ (List.mem_of_getElem? (i := 4) (by decide +kernel))
set_option maxRecDepth 100000 in
theorem eX3_bears : Cond.selects (a_Rn 3) yX3_bears yX3_bears ∈ lw_tbl := List.mem_append_left _ (List.mem_of_getElem? (i := 30) (by decide +kernel))
set_option maxRecDepth 100000 in
theorem eX3_diesByCheck : Cond.selects (a_Rn 3) yX3_diesByCheck yX3_diesByCheck ∈ lw_tbl := List.mem_append_right _ (List.mem_of_getElem? (i := 718) (by decide +kernel))
set_option maxRecDepth 100000 in
theorem eX3_fitsOriginOf : Cond.selects (a_Rn 3) yX3_fitsOriginOf yX3_fitsOriginOf ∈ lw_tbl := List.mem_append_right _ (List.mem_of_getElem? (i := 726) (by decide +kernel))
set_option maxRecDepth 100000 in
theorem eX3_fitsParents : Cond.selects (a_Rn 3) yX3_fitsParents yX3_fitsParents ∈ lw_tbl := List.mem_append_left _ (List.mem_of_getElem? (i := 29) (by decide +kernel))
set_option maxRecDepth 100000 in
theorem eX3_sameMarks : Cond.selects (a_Rn 3) yX3_sameMarks yX3_sameMarks ∈ lw_tbl := List.mem_append_left _ (List.mem_of_getElem? (i := 31) (by decide +kernel))
set_option maxRecDepth 100000 in
theorem eX3_setMarks : Cond.selects (a_Rn 3) yX3_setMarks yX3_setMarks ∈ lw_tbl := List.mem_append_right _ (List.mem_of_getElem? (i := 376) (by decide +kernel))
set_option maxRecDepth 100000 in
theorem eX3_suits : Cond.selects (a_Rn 3) yX3_suits yX3_suits ∈ lw_tbl := List.mem_append_right _ (List.mem_of_getElem? (i := 452) (by decide +kernel))
set_option maxRecDepth 100000 in
theorem eX4_advance : Cond.selects (a_Rn 4) yX4_advance yX4_advance ∈ lw_tbl := List.mem_append_left _ (List.mem_of_getElem? (i := 18) (by decide +kernel))
set_option maxRecDepth 100000 in
theorem eX4_beginsLine : Cond.selects (a_Rn 4) yX4_beginsLine yX4_beginsLine ∈ lw_tbl := List.mem_append_left _ (List.mem_of_getElem? (i := 16) (by decide +kernel))
set_option maxRecDepth 100000 in
theorem eX4_exchangeDraft : Cond.selects (a_Rn 4) yX4_exchangeDraft yX4_exchangeDraft ∈ lw_tbl := List.mem_append_right _ (List.mem_of_getElem? (i := 656) (by decide +kernel))
set_option maxRecDepth 100000 in
theorem eX4_expect : Cond.selects (a_Rn 4) yX4_expect yX4_expect ∈ lw_tbl := List.mem_append_left _ (List.mem_of_getElem? (i := 19) (by decide +kernel))
set_option maxRecDepth 100000 in
theorem eX4_readAnds : Cond.selects (a_Rn 4) yX4_readAnds yX4_readAnds ∈ lw_tbl := List.mem_append_left _ (List.mem_of_getElem? (i := 21) (by decide +kernel))
set_option maxRecDepth 100000 in
theorem eX4_readLine : Cond.selects (a_Rn 4) yX4_readLine yX4_readLine ∈ lw_tbl := List.mem_append_left _ (List.mem_of_getElem? (i := 17) (by decide +kernel))
set_option maxRecDepth 100000 in
theorem eX4_readPart : Cond.selects (a_Rn 4) yX4_readPart yX4_readPart ∈ lw_tbl := List.mem_append_left _ (List.mem_of_getElem? (i := 24) (by decide +kernel))
set_option maxRecDepth 100000 in
theorem eX4_readSum : Cond.selects (a_Rn 4) yX4_readSum yX4_readSum ∈ lw_tbl := List.mem_append_left _ (List.mem_of_getElem? (i := 23) (by decide +kernel))
set_option maxRecDepth 100000 in
theorem eX4_readTest : Cond.selects (a_Rn 4) yX4_readTest yX4_readTest ∈ lw_tbl := List.mem_append_left _ (List.mem_of_getElem? (i := 22) (by decide +kernel))
set_option maxRecDepth 100000 in
theorem eX4_readText : Cond.selects (a_Rn 4) yX4_readText yX4_readText ∈ lw_tbl := List.mem_append_right _ (List.mem_of_getElem? (i := 507) (by decide +kernel))
set_option maxRecDepth 100000 in
theorem eX4_refuse : Cond.selects (a_Rn 4) yX4_refuse yX4_refuse ∈ lw_tbl := List.mem_append_left _ (List.mem_of_getElem? (i := 20) (by decide +kernel))
set_option maxRecDepth 100000 in
theorem eX5_addCode : Cond.selects (a_Rn 5) yX5_addCode yX5_addCode ∈ lw_tbl := List.mem_append_right _ (List.mem_of_getElem? (i := 648) (by decide +kernel))
set_option maxRecDepth 100000 in
theorem eX5_endLine : Cond.selects (a_Rn 5) yX5_endLine yX5_endLine ∈ lw_tbl := List.mem_append_right _ (List.mem_of_getElem? (i := 652) (by decide +kernel))
set_option maxRecDepth 100000 in
theorem eX5_makeEmpty : Cond.selects (a_Rn 5) yX5_makeEmpty yX5_makeEmpty ∈ lw_tbl := List.mem_append_right _ (List.mem_of_getElem? (i := 608) (by decide +kernel))
set_option maxRecDepth 100000 in
theorem eX5_permit : Cond.selects (a_Rn 5) yX5_permit yX5_permit ∈ lw_tbl := List.mem_append_right _ (List.mem_of_getElem? (i := 673) (by decide +kernel))
set_option maxRecDepth 100000 in
theorem eX5_pop : Cond.selects (a_Rn 5) yX5_pop yX5_pop ∈ lw_tbl := List.mem_append_left _ (List.mem_of_getElem? (i := 28) (by decide +kernel))
set_option maxRecDepth 100000 in
theorem eX5_push : Cond.selects (a_Rn 5) yX5_push yX5_push ∈ lw_tbl := List.mem_append_left _ (List.mem_of_getElem? (i := 27) (by decide +kernel))
set_option maxRecDepth 100000 in
theorem eX5_valueOf : Cond.selects (a_Rn 5) yX5_valueOf yX5_valueOf ∈ lw_tbl := List.mem_append_left _ (List.mem_of_getElem? (i := 26) (by decide +kernel))
set_option maxRecDepth 100000 in
theorem eX6_entry : Cond.selects (a_Rn 6) yX6_entry yX6_entry ∈ lw_tbl := List.mem_append_right _ (List.mem_of_getElem? (i := 705) (by decide +kernel))
set_option maxRecDepth 100000 in
theorem eX6_write : Cond.selects (a_Rn 6) yX6_write yX6_write ∈ lw_tbl := List.mem_append_right _ (List.mem_of_getElem? (i := 697) (by decide +kernel))
set_option maxRecDepth 100000 in
theorem eX7_endOfBlanks : Cond.selects (a_Rn 7) yX7_endOfBlanks yX7_endOfBlanks ∈ lw_tbl := List.mem_append_right _ (List.mem_of_getElem? (i := 515) (by decide +kernel))
set_option maxRecDepth 100000 in
theorem eX7_endOfDigits : Cond.selects (a_Rn 7) yX7_endOfDigits yX7_endOfDigits ∈ lw_tbl := List.mem_append_right _ (List.mem_of_getElem? (i := 597) (by decide +kernel))
set_option maxRecDepth 100000 in
theorem eX7_endOfLetters : Cond.selects (a_Rn 7) yX7_endOfLetters yX7_endOfLetters ∈ lw_tbl := List.mem_append_right _ (List.mem_of_getElem? (i := 523) (by decide +kernel))
set_option maxRecDepth 100000 in
theorem eX7_numberIn : Cond.selects (a_Rn 7) yX7_numberIn yX7_numberIn ∈ lw_tbl := List.mem_append_right _ (List.mem_of_getElem? (i := 601) (by decide +kernel))
set_option maxRecDepth 100000 in
theorem eX7_spells : Cond.selects (a_Rn 7) yX7_spells yX7_spells ∈ lw_tbl := List.mem_append_right _ (List.mem_of_getElem? (i := 531) (by decide +kernel))
set_option maxRecDepth 100000 in
theorem eX7_takeBytes : Cond.selects (a_Rn 7) yX7_takeBytes yX7_takeBytes ∈ lw_tbl := List.mem_append_right _ (List.mem_of_getElem? (i := 498) (by decide +kernel))
set_option maxRecDepth 100000 in
theorem eX8_add : Cond.selects (a_Rn 8) yX8_add yX8_add ∈ lw_tbl := List.mem_append_left _ (List.mem_of_getElem? (i := 15) (by decide +kernel))
set_option maxRecDepth 100000 in
theorem eX8_scan : Cond.selects (a_Rn 8) yX8_scan yX8_scan ∈ lw_tbl := List.mem_append_right _ (List.mem_of_getElem? (i := 511) (by decide +kernel))
set_option maxRecDepth 100000 in
theorem eX8_scanOne : Cond.selects (a_Rn 8) yX8_scanOne yX8_scanOne ∈ lw_tbl := List.mem_append_left _ (List.mem_of_getElem? (i := 14) (by decide +kernel))
set_option maxRecDepth 100000 in
theorem eX9_bed : Cond.selects (a_Rn 9) yX9_bed yX9_bed ∈ lw_tbl := List.mem_append_right _ (List.mem_of_getElem? (i := 404) (by decide +kernel))
set_option maxRecDepth 100000 in
theorem eX9_bedAt : Cond.selects (a_Rn 9) yX9_bedAt yX9_bedAt ∈ lw_tbl := List.mem_append_left _ (List.mem_of_getElem? (i := 5) (by decide +kernel))
set_option maxRecDepth 100000 in
theorem eX9_canEnter : Cond.selects (a_Rn 9) yX9_canEnter yX9_canEnter ∈ lw_tbl := List.mem_append_left _ (List.mem_of_getElem? (i := 0) (by decide +kernel))
set_option maxRecDepth 100000 in
theorem eX9_change : Cond.selects (a_Rn 9) yX9_change yX9_change ∈ lw_tbl := List.mem_append_right _ (List.mem_of_getElem? (i := 429) (by decide +kernel))
set_option maxRecDepth 100000 in
theorem eX9_changed : Cond.selects (a_Rn 9) yX9_changed yX9_changed ∈ lw_tbl := List.mem_append_right _ (List.mem_of_getElem? (i := 742) (by decide +kernel))
set_option maxRecDepth 100000 in
theorem eX9_close : Cond.selects (a_Rn 9) yX9_close yX9_close ∈ lw_tbl := List.mem_append_right _ (List.mem_of_getElem? (i := 714) (by decide +kernel))
set_option maxRecDepth 100000 in
theorem eX9_count : Cond.selects (a_Rn 9) yX9_count yX9_count ∈ lw_tbl := List.mem_append_right _ (List.mem_of_getElem? (i := 746) (by decide +kernel))
set_option maxRecDepth 100000 in
theorem eX9_countDead : Cond.selects (a_Rn 9) yX9_countDead yX9_countDead ∈ lw_tbl := List.mem_append_left _ (List.mem_of_getElem? (i := 32) (by decide +kernel))
set_option maxRecDepth 100000 in
theorem eX9_countLying : Cond.selects (a_Rn 9) yX9_countLying yX9_countLying ∈ lw_tbl := List.mem_append_left _ (List.mem_of_getElem? (i := 33) (by decide +kernel))
set_option maxRecDepth 100000 in
theorem eX9_cut : Cond.selects (a_Rn 9) yX9_cut yX9_cut ∈ lw_tbl := List.mem_append_right _ (List.mem_of_getElem? (i := 355) (by decide +kernel))
set_option maxRecDepth 100000 in
theorem eX9_days : Cond.selects (a_Rn 9) yX9_days yX9_days ∈ lw_tbl := List.mem_append_right _ (List.mem_of_getElem? (i := 247) (by decide +kernel))
set_option maxRecDepth 100000 in
theorem eX9_enter : Cond.selects (a_Rn 9) yX9_enter yX9_enter ∈ lw_tbl := List.mem_append_left _ (List.mem_of_getElem? (i := 1) (by decide +kernel))
set_option maxRecDepth 100000 in
theorem eX9_feed : Cond.selects (a_Rn 9) yX9_feed yX9_feed ∈ lw_tbl := List.mem_append_right _ (List.mem_of_getElem? (i := 494) (by decide +kernel))
set_option maxRecDepth 100000 in
theorem eX9_fits : Cond.selects (a_Rn 9) yX9_fits yX9_fits ∈ lw_tbl := List.mem_append_right _ (List.mem_of_getElem? (i := 722) (by decide +kernel))
set_option maxRecDepth 100000 in
theorem eX9_hasPlaceFor : Cond.selects (a_Rn 9) yX9_hasPlaceFor yX9_hasPlaceFor ∈ lw_tbl := List.mem_append_left _ (List.mem_of_getElem? (i := 6) (by decide +kernel))
set_option maxRecDepth 100000 in
theorem eX9_join : Cond.selects (a_Rn 9) yX9_join yX9_join ∈ lw_tbl := List.mem_append_right _ (List.mem_of_getElem? (i := 388) (by decide +kernel))
set_option maxRecDepth 100000 in
theorem eX9_lay : Cond.selects (a_Rn 9) yX9_lay yX9_lay ∈ lw_tbl := List.mem_append_right _ (List.mem_of_getElem? (i := 444) (by decide +kernel))
set_option maxRecDepth 100000 in
theorem eX9_look : Cond.selects (a_Rn 9) yX9_look yX9_look ∈ lw_tbl := List.mem_append_right _ (List.mem_of_getElem? (i := 834) (by decide +kernel))
set_option maxRecDepth 100000 in
theorem eX9_mark : Cond.selects (a_Rn 9) yX9_mark yX9_mark ∈ lw_tbl := List.mem_append_right _ (List.mem_of_getElem? (i := 363) (by decide +kernel))
set_option maxRecDepth 100000 in
theorem eX9_may : Cond.selects (a_Rn 9) yX9_may yX9_may ∈ lw_tbl := List.mem_append_right _ (List.mem_of_getElem? (i := 661) (by decide +kernel))
set_option maxRecDepth 100000 in
theorem eX9_moves : Cond.selects (a_Rn 9) yX9_moves yX9_moves ∈ lw_tbl := List.mem_append_right _ (List.mem_of_getElem? (i := 457) (by decide +kernel))
set_option maxRecDepth 100000 in
theorem eX9_name : Cond.selects (a_Rn 9) yX9_name yX9_name ∈ lw_tbl := List.mem_append_right _ (List.mem_of_getElem? (i := 380) (by decide +kernel))
set_option maxRecDepth 100000 in
theorem eX9_named : Cond.selects (a_Rn 9) yX9_named yX9_named ∈ lw_tbl := List.mem_append_right _ (List.mem_of_getElem? (i := 762) (by decide +kernel))
set_option maxRecDepth 100000 in
theorem eX9_needs : Cond.selects (a_Rn 9) yX9_needs yX9_needs ∈ lw_tbl := List.mem_append_right _ (List.mem_of_getElem? (i := 437) (by decide +kernel))
set_option maxRecDepth 100000 in
theorem eX9_plantAt : Cond.selects (a_Rn 9) yX9_plantAt yX9_plantAt ∈ lw_tbl := List.mem_append_left _ (List.mem_of_getElem? (i := 2) (by decide +kernel))
set_option maxRecDepth 100000 in
theorem eX9_seed : Cond.selects (a_Rn 9) yX9_seed yX9_seed ∈ lw_tbl := List.mem_append_right _ (List.mem_of_getElem? (i := 341) (by decide +kernel))
set_option maxRecDepth 100000 in
theorem eX9_seen : Cond.selects (a_Rn 9) yX9_seen yX9_seen ∈ lw_tbl := List.mem_append_right _ (List.mem_of_getElem? (i := 710) (by decide +kernel))
set_option maxRecDepth 100000 in
theorem eX9_send : Cond.selects (a_Rn 9) yX9_send yX9_send ∈ lw_tbl := List.mem_append_right _ (List.mem_of_getElem? (i := 692) (by decide +kernel))
set_option maxRecDepth 100000 in
theorem eX9_sent : Cond.selects (a_Rn 9) yX9_sent yX9_sent ∈ lw_tbl := List.mem_append_right _ (List.mem_of_getElem? (i := 701) (by decide +kernel))
set_option maxRecDepth 100000 in
theorem eX9_split : Cond.selects (a_Rn 9) yX9_split yX9_split ∈ lw_tbl := List.mem_append_right _ (List.mem_of_getElem? (i := 359) (by decide +kernel))
set_option maxRecDepth 100000 in
theorem eX9_text : Cond.selects (a_Rn 9) yX9_text yX9_text ∈ lw_tbl := List.mem_append_right _ (List.mem_of_getElem? (i := 503) (by decide +kernel))
set_option maxRecDepth 100000 in
theorem eX9_wild : Cond.selects (a_Rn 9) yX9_wild yX9_wild ∈ lw_tbl := List.mem_append_right _ (List.mem_of_getElem? (i := 254) (by decide +kernel))
set_option maxRecDepth 100000 in
theorem kX0_init : a_Ok mX0_init 3 := ⟨List.mem_append_right _ (List.mem_of_getElem? (i := 409) rfl), List.mem_append_right _ (List.mem_of_getElem? (i := 17) (by decide +kernel)), ⟨by decide, by decide⟩, by decide +kernel, by decide⟩
set_option maxRecDepth 100000 in
theorem kX1_init : a_Ok mX1_init 2 := ⟨List.mem_append_right _ (List.mem_of_getElem? (i := 72) rfl), List.mem_append_right _ (List.mem_of_getElem? (i := 3) (by decide +kernel)), ⟨by decide, by decide⟩, by decide +kernel, by decide⟩
set_option maxRecDepth 100000 in
theorem kX9_within : a_Ok mX9_within 3 := ⟨List.mem_append_right _ (List.mem_of_getElem? (i := 251) rfl), List.mem_append_right _ (List.mem_of_getElem? (i := 1) (by decide +kernel)), ⟨by decide, by decide⟩, by decide +kernel, by decide⟩
set_option maxRecDepth 100000 in
theorem kX3_suits : a_Ok mX3_suits 1 := ⟨List.mem_append_right _ (List.mem_of_getElem? (i := 453) rfl), List.mem_append_right _ (List.mem_of_getElem? (i := 10) (by decide +kernel)), ⟨by decide, by decide⟩, by decide +kernel, by decide⟩
set_option maxRecDepth 100000 in
theorem kX1_leaveWhatSuits : a_Ok mX1_leaveWhatSuits 0 := ⟨List.mem_append_right _ (List.mem_of_getElem? (i := 466) rfl), List.mem_append_right _ (List.mem_of_getElem? (i := 3) (by decide +kernel)), ⟨by decide, by decide⟩, by decide +kernel, by decide⟩
set_option maxRecDepth 100000 in
theorem kX1_price : a_Ok mX1_price 2 := ⟨List.mem_append_right _ (List.mem_of_getElem? (i := 475) rfl), List.mem_append_right _ (List.mem_of_getElem? (i := 3) (by decide +kernel)), ⟨by decide, by decide⟩, by decide +kernel, by decide⟩
set_option maxRecDepth 100000 in
theorem kX1_spreadFrom : a_Ok mX1_spreadFrom 1 := ⟨List.mem_append_right _ (List.mem_of_getElem? (i := 483) rfl), List.mem_append_right _ (List.mem_of_getElem? (i := 3) (by decide +kernel)), ⟨by decide, by decide⟩, by decide +kernel, by decide⟩
set_option maxRecDepth 100000 in
theorem kX1_spreadCosts : a_Ok mX1_spreadCosts 0 := ⟨List.mem_append_right _ (List.mem_of_getElem? (i := 479) rfl), List.mem_append_right _ (List.mem_of_getElem? (i := 3) (by decide +kernel)), ⟨by decide, by decide⟩, by decide +kernel, by decide⟩
set_option maxRecDepth 100000 in
theorem kX1_cheapestWithRoom : a_Ok mX1_cheapestWithRoom 0 := ⟨List.mem_append_right _ (List.mem_of_getElem? (i := 487) rfl), List.mem_append_right _ (List.mem_of_getElem? (i := 3) (by decide +kernel)), ⟨by decide, by decide⟩, by decide +kernel, by decide⟩
set_option maxRecDepth 100000 in
theorem kX1_shiftAlong : a_Ok mX1_shiftAlong 1 := ⟨List.mem_append_right _ (List.mem_of_getElem? (i := 491) rfl), List.mem_append_right _ (List.mem_of_getElem? (i := 3) (by decide +kernel)), ⟨by decide, by decide⟩, by decide +kernel, by decide⟩
set_option maxRecDepth 100000 in
theorem kX1_bringIn : a_Ok mX1_bringIn 1 := ⟨List.mem_append_right _ (List.mem_of_getElem? (i := 471) rfl), List.mem_append_right _ (List.mem_of_getElem? (i := 3) (by decide +kernel)), ⟨by decide, by decide⟩, by decide +kernel, by decide⟩
set_option maxRecDepth 100000 in
theorem kX1_fewest : a_Ok mX1_fewest 2 := ⟨List.mem_append_right _ (List.mem_of_getElem? (i := 462) rfl), List.mem_append_right _ (List.mem_of_getElem? (i := 3) (by decide +kernel)), ⟨by decide, by decide⟩, by decide +kernel, by decide⟩
set_option maxRecDepth 100000 in
theorem kX2_init : a_Ok mX2_init 0 := ⟨List.mem_append_right _ (List.mem_of_getElem? (i := 38) rfl), List.mem_append_right _ (List.mem_of_getElem? (i := 2) (by decide +kernel)), ⟨by decide, by decide⟩, by decide +kernel, by decide⟩
set_option maxRecDepth 100000 in
theorem kX2_give : a_Ok mX2_give 3 := ⟨List.mem_append_right _ (List.mem_of_getElem? (i := 385) rfl), List.mem_append_right _ (List.mem_of_getElem? (i := 2) (by decide +kernel)), ⟨by decide, by decide⟩, by decide +kernel, by decide⟩
set_option maxRecDepth 100000 in
theorem kX2_tiedAsOf : a_Ok mX2_tiedAsOf 2 := ⟨List.mem_append_right _ (List.mem_of_getElem? (i := 401) rfl), List.mem_append_right _ (List.mem_of_getElem? (i := 2) (by decide +kernel)), ⟨by decide, by decide⟩, by decide +kernel, by decide⟩
set_option maxRecDepth 100000 in
theorem kX2_leadsTo : a_Ok mX2_leadsTo 3 := ⟨List.mem_append_right _ (List.mem_of_getElem? (i := 397) rfl), List.mem_append_right _ (List.mem_of_getElem? (i := 2) (by decide +kernel)), ⟨by decide, by decide⟩, by decide +kernel, by decide⟩
set_option maxRecDepth 100000 in
theorem kX2_tie : a_Ok mX2_tie 3 := ⟨List.mem_append_right _ (List.mem_of_getElem? (i := 393) rfl), List.mem_append_right _ (List.mem_of_getElem? (i := 2) (by decide +kernel)), ⟨by decide, by decide⟩, by decide +kernel, by decide⟩
set_option maxRecDepth 100000 in
theorem kX2_givenAsOf : a_Ok mX2_givenAsOf 2 := ⟨List.mem_append_right _ (List.mem_of_getElem? (i := 670) rfl), List.mem_append_right _ (List.mem_of_getElem? (i := 2) (by decide +kernel)), ⟨by decide, by decide⟩, by decide +kernel, by decide⟩
set_option maxRecDepth 100000 in
theorem kX2_nameOf : a_Ok mX2_nameOf 3 := ⟨List.mem_append_right _ (List.mem_of_getElem? (i := 666) rfl), List.mem_append_right _ (List.mem_of_getElem? (i := 2) (by decide +kernel)), ⟨by decide, by decide⟩, by decide +kernel, by decide⟩
set_option maxRecDepth 100000 in
theorem kX3_init : a_Ok mX3_init 3 := ⟨List.mem_append_right _ (List.mem_of_getElem? (i := 263) rfl), List.mem_append_right _ (List.mem_of_getElem? (i := 10) (by decide +kernel)), ⟨by decide, by decide⟩, by decide +kernel, by decide⟩
set_option maxRecDepth 100000 in
theorem kX3_init_ : a_Ok mX3_init_ 5 := ⟨List.mem_append_right _ (List.mem_of_getElem? (i := 349) rfl), List.mem_append_right _ (List.mem_of_getElem? (i := 10) (by decide +kernel)), ⟨by decide, by decide⟩, by decide +kernel, by decide⟩
set_option maxRecDepth 100000 in
theorem kX3_setMarks : a_Ok mX3_setMarks 3 := ⟨List.mem_append_right _ (List.mem_of_getElem? (i := 377) rfl), List.mem_append_right _ (List.mem_of_getElem? (i := 10) (by decide +kernel)), ⟨by decide, by decide⟩, by decide +kernel, by decide⟩
set_option maxRecDepth 100000 in
theorem kX3_diesByCheck : a_Ok mX3_diesByCheck 0 := ⟨List.mem_append_right _ (List.mem_of_getElem? (i := 719) rfl), List.mem_append_right _ (List.mem_of_getElem? (i := 10) (by decide +kernel)), ⟨by decide, by decide⟩, by decide +kernel, by decide⟩
set_option maxRecDepth 100000 in
theorem kX3_bears : a_Ok mX3_bears 2 := ⟨List.mem_append_right _ (List.mem_of_getElem? (i := 735) rfl), List.mem_append_right _ (List.mem_of_getElem? (i := 10) (by decide +kernel)), ⟨by decide, by decide⟩, by decide +kernel, by decide⟩
set_option maxRecDepth 100000 in
theorem kX3_fitsParents : a_Ok mX3_fitsParents 3 := ⟨List.mem_append_right _ (List.mem_of_getElem? (i := 731) rfl), List.mem_append_right _ (List.mem_of_getElem? (i := 10) (by decide +kernel)), ⟨by decide, by decide⟩, by decide +kernel, by decide⟩
set_option maxRecDepth 100000 in
theorem kX3_sameMarks : a_Ok mX3_sameMarks 2 := ⟨List.mem_append_right _ (List.mem_of_getElem? (i := 739) rfl), List.mem_append_right _ (List.mem_of_getElem? (i := 10) (by decide +kernel)), ⟨by decide, by decide⟩, by decide +kernel, by decide⟩
set_option maxRecDepth 100000 in
theorem kX3_fitsOriginOf : a_Ok mX3_fitsOriginOf 1 := ⟨List.mem_append_right _ (List.mem_of_getElem? (i := 727) rfl), List.mem_append_right _ (List.mem_of_getElem? (i := 10) (by decide +kernel)), ⟨by decide, by decide⟩, by decide +kernel, by decide⟩
set_option maxRecDepth 100000 in
theorem kX8_init : a_Ok mX8_init 0 := ⟨List.mem_append_right _ (List.mem_of_getElem? (i := 125) rfl), List.mem_append_right _ (List.mem_of_getElem? (i := 6) (by decide +kernel)), ⟨by decide, by decide⟩, by decide +kernel, by decide⟩
set_option maxRecDepth 100000 in
theorem kX5_init : a_Ok mX5_init 0 := ⟨List.mem_append_right _ (List.mem_of_getElem? (i := 147) rfl), List.mem_append_right _ (List.mem_of_getElem? (i := 7) (by decide +kernel)), ⟨by decide, by decide⟩, by decide +kernel, by decide⟩
set_option maxRecDepth 100000 in
theorem kX4_init : a_Ok mX4_init 0 := ⟨List.mem_append_right _ (List.mem_of_getElem? (i := 119) rfl), List.mem_append_right _ (List.mem_of_getElem? (i := 5) (by decide +kernel)), ⟨by decide, by decide⟩, by decide +kernel, by decide⟩
set_option maxRecDepth 100000 in
theorem kX7_endOfBlanks : a_Ok mX7_endOfBlanks 1 := ⟨List.mem_append_right _ (List.mem_of_getElem? (i := 516) rfl), List.mem_append_right _ (List.mem_of_getElem? (i := 4) (by decide +kernel)), ⟨by decide, by decide⟩, by decide +kernel, by decide⟩
set_option maxRecDepth 100000 in
theorem kX7_endOfLetters : a_Ok mX7_endOfLetters 1 := ⟨List.mem_append_right _ (List.mem_of_getElem? (i := 524) rfl), List.mem_append_right _ (List.mem_of_getElem? (i := 4) (by decide +kernel)), ⟨by decide, by decide⟩, by decide +kernel, by decide⟩
set_option maxRecDepth 100000 in
theorem kX7_spells : a_Ok mX7_spells 3 := ⟨List.mem_append_right _ (List.mem_of_getElem? (i := 532) rfl), List.mem_append_right _ (List.mem_of_getElem? (i := 4) (by decide +kernel)), ⟨by decide, by decide⟩, by decide +kernel, by decide⟩
set_option maxRecDepth 100000 in
theorem kX8_kindOfWord : a_Ok mX8_kindOfWord 3 := ⟨List.mem_append_right _ (List.mem_of_getElem? (i := 527) rfl), List.mem_append_right _ (List.mem_of_getElem? (i := 6) (by decide +kernel)), ⟨by decide, by decide⟩, by decide +kernel, by decide⟩
set_option maxRecDepth 100000 in
theorem kX8_add : a_Ok mX8_add 3 := ⟨List.mem_append_right _ (List.mem_of_getElem? (i := 594) rfl), List.mem_append_right _ (List.mem_of_getElem? (i := 6) (by decide +kernel)), ⟨by decide, by decide⟩, by decide +kernel, by decide⟩
set_option maxRecDepth 100000 in
theorem kX7_endOfDigits : a_Ok mX7_endOfDigits 1 := ⟨List.mem_append_right _ (List.mem_of_getElem? (i := 598) rfl), List.mem_append_right _ (List.mem_of_getElem? (i := 4) (by decide +kernel)), ⟨by decide, by decide⟩, by decide +kernel, by decide⟩
set_option maxRecDepth 100000 in
theorem kX7_numberIn : a_Ok mX7_numberIn 2 := ⟨List.mem_append_right _ (List.mem_of_getElem? (i := 602) rfl), List.mem_append_right _ (List.mem_of_getElem? (i := 4) (by decide +kernel)), ⟨by decide, by decide⟩, by decide +kernel, by decide⟩
set_option maxRecDepth 100000 in
theorem kX8_kindOfSign : a_Ok mX8_kindOfSign 1 := ⟨List.mem_append_right _ (List.mem_of_getElem? (i := 605) rfl), List.mem_append_right _ (List.mem_of_getElem? (i := 6) (by decide +kernel)), ⟨by decide, by decide⟩, by decide +kernel, by decide⟩
set_option maxRecDepth 100000 in
theorem kX8_scanOne : a_Ok mX8_scanOne 2 := ⟨List.mem_append_right _ (List.mem_of_getElem? (i := 520) rfl), List.mem_append_right _ (List.mem_of_getElem? (i := 6) (by decide +kernel)), ⟨by decide, by decide⟩, by decide +kernel, by decide⟩
set_option maxRecDepth 100000 in
theorem kX8_scan : a_Ok mX8_scan 1 := ⟨List.mem_append_right _ (List.mem_of_getElem? (i := 512) rfl), List.mem_append_right _ (List.mem_of_getElem? (i := 6) (by decide +kernel)), ⟨by decide, by decide⟩, by decide +kernel, by decide⟩
set_option maxRecDepth 100000 in
theorem kX5_makeEmpty : a_Ok mX5_makeEmpty 0 := ⟨List.mem_append_right _ (List.mem_of_getElem? (i := 609) rfl), List.mem_append_right _ (List.mem_of_getElem? (i := 7) (by decide +kernel)), ⟨by decide, by decide⟩, by decide +kernel, by decide⟩
set_option maxRecDepth 100000 in
theorem kX4_beginsLine : a_Ok mX4_beginsLine 0 := ⟨List.mem_append_right _ (List.mem_of_getElem? (i := 613) rfl), List.mem_append_right _ (List.mem_of_getElem? (i := 5) (by decide +kernel)), ⟨by decide, by decide⟩, by decide +kernel, by decide⟩
set_option maxRecDepth 100000 in
theorem kX4_advance : a_Ok mX4_advance 0 := ⟨List.mem_append_right _ (List.mem_of_getElem? (i := 621) rfl), List.mem_append_right _ (List.mem_of_getElem? (i := 5) (by decide +kernel)), ⟨by decide, by decide⟩, by decide +kernel, by decide⟩
set_option maxRecDepth 100000 in
theorem kX4_refuse : a_Ok mX4_refuse 1 := ⟨List.mem_append_right _ (List.mem_of_getElem? (i := 629) rfl), List.mem_append_right _ (List.mem_of_getElem? (i := 5) (by decide +kernel)), ⟨by decide, by decide⟩, by decide +kernel, by decide⟩
set_option maxRecDepth 100000 in
theorem kX4_expect : a_Ok mX4_expect 1 := ⟨List.mem_append_right _ (List.mem_of_getElem? (i := 625) rfl), List.mem_append_right _ (List.mem_of_getElem? (i := 5) (by decide +kernel)), ⟨by decide, by decide⟩, by decide +kernel, by decide⟩
set_option maxRecDepth 100000 in
theorem kX5_addCode : a_Ok mX5_addCode 2 := ⟨List.mem_append_right _ (List.mem_of_getElem? (i := 649) rfl), List.mem_append_right _ (List.mem_of_getElem? (i := 7) (by decide +kernel)), ⟨by decide, by decide⟩, by decide +kernel, by decide⟩
set_option maxRecDepth 100000 in
theorem kX4_readAnds : a_Ok mX4_readAnds 1 := ⟨List.mem_append_right _ (List.mem_of_getElem? (i := 633) rfl), List.mem_append_right _ (List.mem_of_getElem? (i := 5) (by decide +kernel)), ⟨by decide, by decide⟩, by decide +kernel, by decide⟩
set_option maxRecDepth 100000 in
theorem kX4_readPart : a_Ok mX4_readPart 1 := ⟨List.mem_append_right _ (List.mem_of_getElem? (i := 645) rfl), List.mem_append_right _ (List.mem_of_getElem? (i := 5) (by decide +kernel)), ⟨by decide, by decide⟩, by decide +kernel, by decide⟩
set_option maxRecDepth 100000 in
theorem kX4_readSum : a_Ok mX4_readSum 1 := ⟨List.mem_append_right _ (List.mem_of_getElem? (i := 641) rfl), List.mem_append_right _ (List.mem_of_getElem? (i := 5) (by decide +kernel)), ⟨by decide, by decide⟩, by decide +kernel, by decide⟩
set_option maxRecDepth 100000 in
theorem kX4_readTest : a_Ok mX4_readTest 1 := ⟨List.mem_append_right _ (List.mem_of_getElem? (i := 637) rfl), List.mem_append_right _ (List.mem_of_getElem? (i := 5) (by decide +kernel)), ⟨by decide, by decide⟩, by decide +kernel, by decide⟩
set_option maxRecDepth 100000 in
theorem kX5_endLine : a_Ok mX5_endLine 1 := ⟨List.mem_append_right _ (List.mem_of_getElem? (i := 653) rfl), List.mem_append_right _ (List.mem_of_getElem? (i := 7) (by decide +kernel)), ⟨by decide, by decide⟩, by decide +kernel, by decide⟩
set_option maxRecDepth 100000 in
theorem kX4_readLine : a_Ok mX4_readLine 0 := ⟨List.mem_append_right _ (List.mem_of_getElem? (i := 617) rfl), List.mem_append_right _ (List.mem_of_getElem? (i := 5) (by decide +kernel)), ⟨by decide, by decide⟩, by decide +kernel, by decide⟩
set_option maxRecDepth 100000 in
theorem kX4_readText : a_Ok mX4_readText 1 := ⟨List.mem_append_right _ (List.mem_of_getElem? (i := 508) rfl), List.mem_append_right _ (List.mem_of_getElem? (i := 5) (by decide +kernel)), ⟨by decide, by decide⟩, by decide +kernel, by decide⟩
set_option maxRecDepth 100000 in
theorem kX4_exchangeDraft : a_Ok mX4_exchangeDraft 1 := ⟨List.mem_append_right _ (List.mem_of_getElem? (i := 657) rfl), List.mem_append_right _ (List.mem_of_getElem? (i := 5) (by decide +kernel)), ⟨by decide, by decide⟩, by decide +kernel, by decide⟩
set_option maxRecDepth 100000 in
theorem kX5_push : a_Ok mX5_push 1 := ⟨List.mem_append_right _ (List.mem_of_getElem? (i := 682) rfl), List.mem_append_right _ (List.mem_of_getElem? (i := 7) (by decide +kernel)), ⟨by decide, by decide⟩, by decide +kernel, by decide⟩
set_option maxRecDepth 100000 in
theorem kX5_pop : a_Ok mX5_pop 0 := ⟨List.mem_append_right _ (List.mem_of_getElem? (i := 686) rfl), List.mem_append_right _ (List.mem_of_getElem? (i := 7) (by decide +kernel)), ⟨by decide, by decide⟩, by decide +kernel, by decide⟩
set_option maxRecDepth 100000 in
theorem kX5_joined : a_Ok mX5_joined 3 := ⟨List.mem_append_right _ (List.mem_of_getElem? (i := 689) rfl), List.mem_append_right _ (List.mem_of_getElem? (i := 7) (by decide +kernel)), ⟨by decide, by decide⟩, by decide +kernel, by decide⟩
set_option maxRecDepth 100000 in
theorem kX5_valueOf : a_Ok mX5_valueOf 3 := ⟨List.mem_append_right _ (List.mem_of_getElem? (i := 678) rfl), List.mem_append_right _ (List.mem_of_getElem? (i := 7) (by decide +kernel)), ⟨by decide, by decide⟩, by decide +kernel, by decide⟩
set_option maxRecDepth 100000 in
theorem kX5_permit : a_Ok mX5_permit 1 := ⟨List.mem_append_right _ (List.mem_of_getElem? (i := 674) rfl), List.mem_append_right _ (List.mem_of_getElem? (i := 7) (by decide +kernel)), ⟨by decide, by decide⟩, by decide +kernel, by decide⟩
set_option maxRecDepth 100000 in
theorem kX6_init : a_Ok mX6_init 0 := ⟨List.mem_append_right _ (List.mem_of_getElem? (i := 196) rfl), List.mem_append_right _ (List.mem_of_getElem? (i := 8) (by decide +kernel)), ⟨by decide, by decide⟩, by decide +kernel, by decide⟩
set_option maxRecDepth 100000 in
theorem kX6_write : a_Ok mX6_write 4 := ⟨List.mem_append_right _ (List.mem_of_getElem? (i := 698) rfl), List.mem_append_right _ (List.mem_of_getElem? (i := 8) (by decide +kernel)), ⟨by decide, by decide⟩, by decide +kernel, by decide⟩
set_option maxRecDepth 100000 in
theorem kX6_entry : a_Ok mX6_entry 2 := ⟨List.mem_append_right _ (List.mem_of_getElem? (i := 706) rfl), List.mem_append_right _ (List.mem_of_getElem? (i := 8) (by decide +kernel)), ⟨by decide, by decide⟩, by decide +kernel, by decide⟩
set_option maxRecDepth 100000 in
theorem kX7_init : a_Ok mX7_init 0 := ⟨List.mem_append_right _ (List.mem_of_getElem? (i := 103) rfl), List.mem_append_right _ (List.mem_of_getElem? (i := 4) (by decide +kernel)), ⟨by decide, by decide⟩, by decide +kernel, by decide⟩
set_option maxRecDepth 100000 in
theorem kX7_takeBytes : a_Ok mX7_takeBytes 1 := ⟨List.mem_append_right _ (List.mem_of_getElem? (i := 499) rfl), List.mem_append_right _ (List.mem_of_getElem? (i := 4) (by decide +kernel)), ⟨by decide, by decide⟩, by decide +kernel, by decide⟩
set_option maxRecDepth 100000 in
theorem kX9_init : a_Ok mX9_init 0 := ⟨List.mem_append_right _ (List.mem_of_getElem? (i := 26) rfl), List.mem_append_right _ (List.mem_of_getElem? (i := 1) (by decide +kernel)), ⟨by decide, by decide⟩, by decide +kernel, by decide⟩
set_option maxRecDepth 100000 in
theorem kX9_days : a_Ok mX9_days 1 := ⟨List.mem_append_right _ (List.mem_of_getElem? (i := 248) rfl), List.mem_append_right _ (List.mem_of_getElem? (i := 1) (by decide +kernel)), ⟨by decide, by decide⟩, by decide +kernel, by decide⟩
set_option maxRecDepth 100000 in
theorem kX9_canEnter : a_Ok mX9_canEnter 1 := ⟨List.mem_append_right _ (List.mem_of_getElem? (i := 259) rfl), List.mem_append_right _ (List.mem_of_getElem? (i := 1) (by decide +kernel)), ⟨by decide, by decide⟩, by decide +kernel, by decide⟩
set_option maxRecDepth 100000 in
theorem kX9_enter : a_Ok mX9_enter 1 := ⟨List.mem_append_right _ (List.mem_of_getElem? (i := 338) rfl), List.mem_append_right _ (List.mem_of_getElem? (i := 1) (by decide +kernel)), ⟨by decide, by decide⟩, by decide +kernel, by decide⟩
set_option maxRecDepth 100000 in
theorem kX9_wild : a_Ok mX9_wild 2 := ⟨List.mem_append_right _ (List.mem_of_getElem? (i := 255) rfl), List.mem_append_right _ (List.mem_of_getElem? (i := 1) (by decide +kernel)), ⟨by decide, by decide⟩, by decide +kernel, by decide⟩
set_option maxRecDepth 100000 in
theorem kX9_plantAt : a_Ok mX9_plantAt 1 := ⟨List.mem_append_right _ (List.mem_of_getElem? (i := 346) rfl), List.mem_append_right _ (List.mem_of_getElem? (i := 1) (by decide +kernel)), ⟨by decide, by decide⟩, by decide +kernel, by decide⟩
set_option maxRecDepth 100000 in
theorem kX9_seed : a_Ok mX9_seed 3 := ⟨List.mem_append_right _ (List.mem_of_getElem? (i := 342) rfl), List.mem_append_right _ (List.mem_of_getElem? (i := 1) (by decide +kernel)), ⟨by decide, by decide⟩, by decide +kernel, by decide⟩
set_option maxRecDepth 100000 in
theorem kX9_cut : a_Ok mX9_cut 2 := ⟨List.mem_append_right _ (List.mem_of_getElem? (i := 356) rfl), List.mem_append_right _ (List.mem_of_getElem? (i := 1) (by decide +kernel)), ⟨by decide, by decide⟩, by decide +kernel, by decide⟩
set_option maxRecDepth 100000 in
theorem kX9_split : a_Ok mX9_split 2 := ⟨List.mem_append_right _ (List.mem_of_getElem? (i := 360) rfl), List.mem_append_right _ (List.mem_of_getElem? (i := 1) (by decide +kernel)), ⟨by decide, by decide⟩, by decide +kernel, by decide⟩
set_option maxRecDepth 100000 in
theorem kX9_isDigit : a_Ok mX9_isDigit 1 := ⟨List.mem_append_right _ (List.mem_of_getElem? (i := 367) rfl), List.mem_append_right _ (List.mem_of_getElem? (i := 1) (by decide +kernel)), ⟨by decide, by decide⟩, by decide +kernel, by decide⟩
set_option maxRecDepth 100000 in
theorem kX9_mark : a_Ok mX9_mark 4 := ⟨List.mem_append_right _ (List.mem_of_getElem? (i := 364) rfl), List.mem_append_right _ (List.mem_of_getElem? (i := 1) (by decide +kernel)), ⟨by decide, by decide⟩, by decide +kernel, by decide⟩
set_option maxRecDepth 100000 in
theorem kX9_name : a_Ok mX9_name 2 := ⟨List.mem_append_right _ (List.mem_of_getElem? (i := 381) rfl), List.mem_append_right _ (List.mem_of_getElem? (i := 1) (by decide +kernel)), ⟨by decide, by decide⟩, by decide +kernel, by decide⟩
set_option maxRecDepth 100000 in
theorem kX9_join : a_Ok mX9_join 2 := ⟨List.mem_append_right _ (List.mem_of_getElem? (i := 389) rfl), List.mem_append_right _ (List.mem_of_getElem? (i := 1) (by decide +kernel)), ⟨by decide, by decide⟩, by decide +kernel, by decide⟩
set_option maxRecDepth 100000 in
theorem kX9_named : a_Ok mX9_named 3 := ⟨List.mem_append_right _ (List.mem_of_getElem? (i := 763) rfl), List.mem_append_right _ (List.mem_of_getElem? (i := 1) (by decide +kernel)), ⟨by decide, by decide⟩, by decide +kernel, by decide⟩
set_option maxRecDepth 100000 in
theorem kX9_bed : a_Ok mX9_bed 3 := ⟨List.mem_append_right _ (List.mem_of_getElem? (i := 405) rfl), List.mem_append_right _ (List.mem_of_getElem? (i := 1) (by decide +kernel)), ⟨by decide, by decide⟩, by decide +kernel, by decide⟩
set_option maxRecDepth 100000 in
theorem kX9_bedAt : a_Ok mX9_bedAt 1 := ⟨List.mem_append_right _ (List.mem_of_getElem? (i := 434) rfl), List.mem_append_right _ (List.mem_of_getElem? (i := 1) (by decide +kernel)), ⟨by decide, by decide⟩, by decide +kernel, by decide⟩
set_option maxRecDepth 100000 in
theorem kX9_change : a_Ok mX9_change 3 := ⟨List.mem_append_right _ (List.mem_of_getElem? (i := 430) rfl), List.mem_append_right _ (List.mem_of_getElem? (i := 1) (by decide +kernel)), ⟨by decide, by decide⟩, by decide +kernel, by decide⟩
set_option maxRecDepth 100000 in
theorem kX9_isSpan : a_Ok mX9_isSpan 2 := ⟨List.mem_append_right _ (List.mem_of_getElem? (i := 441) rfl), List.mem_append_right _ (List.mem_of_getElem? (i := 1) (by decide +kernel)), ⟨by decide, by decide⟩, by decide +kernel, by decide⟩
set_option maxRecDepth 100000 in
theorem kX9_needs : a_Ok mX9_needs 5 := ⟨List.mem_append_right _ (List.mem_of_getElem? (i := 438) rfl), List.mem_append_right _ (List.mem_of_getElem? (i := 1) (by decide +kernel)), ⟨by decide, by decide⟩, by decide +kernel, by decide⟩
set_option maxRecDepth 100000 in
theorem kX9_hasPlaceFor : a_Ok mX9_hasPlaceFor 2 := ⟨List.mem_append_right _ (List.mem_of_getElem? (i := 449) rfl), List.mem_append_right _ (List.mem_of_getElem? (i := 1) (by decide +kernel)), ⟨by decide, by decide⟩, by decide +kernel, by decide⟩
set_option maxRecDepth 100000 in
theorem kX9_lay : a_Ok mX9_lay 2 := ⟨List.mem_append_right _ (List.mem_of_getElem? (i := 445) rfl), List.mem_append_right _ (List.mem_of_getElem? (i := 1) (by decide +kernel)), ⟨by decide, by decide⟩, by decide +kernel, by decide⟩
set_option maxRecDepth 100000 in
theorem kX9_moves : a_Ok mX9_moves 0 := ⟨List.mem_append_right _ (List.mem_of_getElem? (i := 458) rfl), List.mem_append_right _ (List.mem_of_getElem? (i := 1) (by decide +kernel)), ⟨by decide, by decide⟩, by decide +kernel, by decide⟩
set_option maxRecDepth 100000 in
theorem kX9_feed : a_Ok mX9_feed 3 := ⟨List.mem_append_right _ (List.mem_of_getElem? (i := 495) rfl), List.mem_append_right _ (List.mem_of_getElem? (i := 1) (by decide +kernel)), ⟨by decide, by decide⟩, by decide +kernel, by decide⟩
set_option maxRecDepth 100000 in
theorem kX9_text : a_Ok mX9_text 0 := ⟨List.mem_append_right _ (List.mem_of_getElem? (i := 504) rfl), List.mem_append_right _ (List.mem_of_getElem? (i := 1) (by decide +kernel)), ⟨by decide, by decide⟩, by decide +kernel, by decide⟩
set_option maxRecDepth 100000 in
theorem kX9_may : a_Ok mX9_may 3 := ⟨List.mem_append_right _ (List.mem_of_getElem? (i := 662) rfl), List.mem_append_right _ (List.mem_of_getElem? (i := 1) (by decide +kernel)), ⟨by decide, by decide⟩, by decide +kernel, by decide⟩
set_option maxRecDepth 100000 in
theorem kX9_send : a_Ok mX9_send 3 := ⟨List.mem_append_right _ (List.mem_of_getElem? (i := 693) rfl), List.mem_append_right _ (List.mem_of_getElem? (i := 1) (by decide +kernel)), ⟨by decide, by decide⟩, by decide +kernel, by decide⟩
set_option maxRecDepth 100000 in
theorem kX9_sent : a_Ok mX9_sent 2 := ⟨List.mem_append_right _ (List.mem_of_getElem? (i := 702) rfl), List.mem_append_right _ (List.mem_of_getElem? (i := 1) (by decide +kernel)), ⟨by decide, by decide⟩, by decide +kernel, by decide⟩
set_option maxRecDepth 100000 in
theorem kX9_seen : a_Ok mX9_seen 2 := ⟨List.mem_append_right _ (List.mem_of_getElem? (i := 711) rfl), List.mem_append_right _ (List.mem_of_getElem? (i := 1) (by decide +kernel)), ⟨by decide, by decide⟩, by decide +kernel, by decide⟩
set_option maxRecDepth 100000 in
theorem kX9_close : a_Ok mX9_close 1 := ⟨List.mem_append_right _ (List.mem_of_getElem? (i := 715) rfl), List.mem_append_right _ (List.mem_of_getElem? (i := 1) (by decide +kernel)), ⟨by decide, by decide⟩, by decide +kernel, by decide⟩
set_option maxRecDepth 100000 in
theorem kX9_fits : a_Ok mX9_fits 1 := ⟨List.mem_append_right _ (List.mem_of_getElem? (i := 723) rfl), List.mem_append_right _ (List.mem_of_getElem? (i := 1) (by decide +kernel)), ⟨by decide, by decide⟩, by decide +kernel, by decide⟩
set_option maxRecDepth 100000 in
theorem kX9_changed : a_Ok mX9_changed 2 := ⟨List.mem_append_right _ (List.mem_of_getElem? (i := 743) rfl), List.mem_append_right _ (List.mem_of_getElem? (i := 1) (by decide +kernel)), ⟨by decide, by decide⟩, by decide +kernel, by decide⟩
set_option maxRecDepth 100000 in
theorem kX9_numberOf : a_Ok mX9_numberOf 1 := ⟨List.mem_append_right _ (List.mem_of_getElem? (i := 842) rfl), List.mem_append_right _ (List.mem_of_getElem? (i := 1) (by decide +kernel)), ⟨by decide, by decide⟩, by decide +kernel, by decide⟩
set_option maxRecDepth 100000 in
theorem kX9_lookAtOrigin : a_Ok mX9_lookAtOrigin 2 := ⟨List.mem_append_right _ (List.mem_of_getElem? (i := 839) rfl), List.mem_append_right _ (List.mem_of_getElem? (i := 1) (by decide +kernel)), ⟨by decide, by decide⟩, by decide +kernel, by decide⟩
set_option maxRecDepth 100000 in
theorem kX9_lookAtState : a_Ok mX9_lookAtState 2 := ⟨List.mem_append_right _ (List.mem_of_getElem? (i := 845) rfl), List.mem_append_right _ (List.mem_of_getElem? (i := 1) (by decide +kernel)), ⟨by decide, by decide⟩, by decide +kernel, by decide⟩
set_option maxRecDepth 100000 in
theorem kX9_look : a_Ok mX9_look 2 := ⟨List.mem_append_right _ (List.mem_of_getElem? (i := 835) rfl), List.mem_append_right _ (List.mem_of_getElem? (i := 1) (by decide +kernel)), ⟨by decide, by decide⟩, by decide +kernel, by decide⟩
set_option maxRecDepth 100000 in
theorem kX9_countDead : a_Ok mX9_countDead 0 := ⟨List.mem_append_right _ (List.mem_of_getElem? (i := 751) rfl), List.mem_append_right _ (List.mem_of_getElem? (i := 1) (by decide +kernel)), ⟨by decide, by decide⟩, by decide +kernel, by decide⟩
set_option maxRecDepth 100000 in
theorem kX9_countLying : a_Ok mX9_countLying 0 := ⟨List.mem_append_right _ (List.mem_of_getElem? (i := 755) rfl), List.mem_append_right _ (List.mem_of_getElem? (i := 1) (by decide +kernel)), ⟨by decide, by decide⟩, by decide +kernel, by decide⟩
set_option maxRecDepth 100000 in
theorem kX9_count : a_Ok mX9_count 1 := ⟨List.mem_append_right _ (List.mem_of_getElem? (i := 747) rfl), List.mem_append_right _ (List.mem_of_getElem? (i := 1) (by decide +kernel)), ⟨by decide, by decide⟩, by decide +kernel, by decide⟩
set_option maxRecDepth 100000 in
theorem kX10_thrown : a_Ok mX10_thrown 0 := ⟨List.mem_append_right _ (List.mem_of_getElem? (i := 849) rfl), List.mem_append_right _ (List.mem_of_getElem? (i := 9) (by decide +kernel)), ⟨by decide, by decide⟩, by decide +kernel, by decide⟩
set_option maxRecDepth 100000 in
theorem kX10_lay : a_Ok mX10_lay 1 := ⟨List.mem_append_right _ (List.mem_of_getElem? (i := 858) rfl), List.mem_append_right _ (List.mem_of_getElem? (i := 9) (by decide +kernel)), ⟨by decide, by decide⟩, by decide +kernel, by decide⟩
set_option maxRecDepth 100000 in
theorem kX10_feed : a_Ok mX10_feed 3 := ⟨List.mem_append_right _ (List.mem_of_getElem? (i := 853) rfl), List.mem_append_right _ (List.mem_of_getElem? (i := 9) (by decide +kernel)), ⟨by decide, by decide⟩, by decide +kernel, by decide⟩
set_option maxRecDepth 100000 in
theorem kX10_init : a_Ok mX10_init 0 := ⟨List.mem_append_right _ (List.mem_of_getElem? (i := 862) rfl), List.mem_append_right _ (List.mem_of_getElem? (i := 9) (by decide +kernel)), ⟨by decide, by decide⟩, by decide +kernel, by decide⟩
set_option maxRecDepth 100000 in
theorem kX10_isLetter : a_Ok mX10_isLetter 1 := ⟨List.mem_append_right _ (List.mem_of_getElem? (i := 1055) rfl), List.mem_append_right _ (List.mem_of_getElem? (i := 9) (by decide +kernel)), ⟨by decide, by decide⟩, by decide +kernel, by decide⟩
set_option maxRecDepth 100000 in
theorem kX10_isDigit : a_Ok mX10_isDigit 1 := ⟨List.mem_append_right _ (List.mem_of_getElem? (i := 1062) rfl), List.mem_append_right _ (List.mem_of_getElem? (i := 9) (by decide +kernel)), ⟨by decide, by decide⟩, by decide +kernel, by decide⟩
set_option maxRecDepth 100000 in
theorem kX10_rank : a_Ok mX10_rank 1 := ⟨List.mem_append_right _ (List.mem_of_getElem? (i := 1059) rfl), List.mem_append_right _ (List.mem_of_getElem? (i := 9) (by decide +kernel)), ⟨by decide, by decide⟩, by decide +kernel, by decide⟩
set_option maxRecDepth 100000 in
theorem kX10_isSignOf : a_Ok mX10_isSignOf 1 := ⟨List.mem_append_right _ (List.mem_of_getElem? (i := 1067) rfl), List.mem_append_right _ (List.mem_of_getElem? (i := 9) (by decide +kernel)), ⟨by decide, by decide⟩, by decide +kernel, by decide⟩
set_option maxRecDepth 100000 in
theorem kX10_cutAll : a_Ok mX10_cutAll 0 := ⟨List.mem_append_right _ (List.mem_of_getElem? (i := 1052) rfl), List.mem_append_right _ (List.mem_of_getElem? (i := 9) (by decide +kernel)), ⟨by decide, by decide⟩, by decide +kernel, by decide⟩
set_option maxRecDepth 100000 in
theorem kX10_wrong : a_Ok mX10_wrong 1 := ⟨List.mem_append_right _ (List.mem_of_getElem? (i := 1079) rfl), List.mem_append_right _ (List.mem_of_getElem? (i := 9) (by decide +kernel)), ⟨by decide, by decide⟩, by decide +kernel, by decide⟩
set_option maxRecDepth 100000 in
theorem kX10_isSign : a_Ok mX10_isSign 1 := ⟨List.mem_append_right _ (List.mem_of_getElem? (i := 1103) rfl), List.mem_append_right _ (List.mem_of_getElem? (i := 9) (by decide +kernel)), ⟨by decide, by decide⟩, by decide +kernel, by decide⟩
set_option maxRecDepth 100000 in
theorem kX10_isWord : a_Ok mX10_isWord 1 := ⟨List.mem_append_right _ (List.mem_of_getElem? (i := 1075) rfl), List.mem_append_right _ (List.mem_of_getElem? (i := 9) (by decide +kernel)), ⟨by decide, by decide⟩, by decide +kernel, by decide⟩
set_option maxRecDepth 100000 in
theorem kX10_takeSign : a_Ok mX10_takeSign 1 := ⟨List.mem_append_right _ (List.mem_of_getElem? (i := 1119) rfl), List.mem_append_right _ (List.mem_of_getElem? (i := 9) (by decide +kernel)), ⟨by decide, by decide⟩, by decide +kernel, by decide⟩
set_option maxRecDepth 100000 in
theorem kX10_hasSign : a_Ok mX10_hasSign 1 := ⟨List.mem_append_right _ (List.mem_of_getElem? (i := 1107) rfl), List.mem_append_right _ (List.mem_of_getElem? (i := 9) (by decide +kernel)), ⟨by decide, by decide⟩, by decide +kernel, by decide⟩
set_option maxRecDepth 100000 in
theorem kX10_hasWord : a_Ok mX10_hasWord 1 := ⟨List.mem_append_right _ (List.mem_of_getElem? (i := 1087) rfl), List.mem_append_right _ (List.mem_of_getElem? (i := 9) (by decide +kernel)), ⟨by decide, by decide⟩, by decide +kernel, by decide⟩
set_option maxRecDepth 100000 in
theorem kX10_takeWord : a_Ok mX10_takeWord 1 := ⟨List.mem_append_right _ (List.mem_of_getElem? (i := 1083) rfl), List.mem_append_right _ (List.mem_of_getElem? (i := 9) (by decide +kernel)), ⟨by decide, by decide⟩, by decide +kernel, by decide⟩
set_option maxRecDepth 100000 in
theorem kX10_emit : a_Ok mX10_emit 2 := ⟨List.mem_append_right _ (List.mem_of_getElem? (i := 1111) rfl), List.mem_append_right _ (List.mem_of_getElem? (i := 9) (by decide +kernel)), ⟨by decide, by decide⟩, by decide +kernel, by decide⟩
set_option maxRecDepth 100000 in
theorem kX10_opens : a_Ok mX10_opens 0 := ⟨List.mem_append_right _ (List.mem_of_getElem? (i := 1091) rfl), List.mem_append_right _ (List.mem_of_getElem? (i := 9) (by decide +kernel)), ⟨by decide, by decide⟩, by decide +kernel, by decide⟩
set_option maxRecDepth 100000 in
theorem kX10_partWord : a_Ok mX10_partWord 0 := ⟨List.mem_append_right _ (List.mem_of_getElem? (i := 1099) rfl), List.mem_append_right _ (List.mem_of_getElem? (i := 9) (by decide +kernel)), ⟨by decide, by decide⟩, by decide +kernel, by decide⟩
set_option maxRecDepth 100000 in
theorem kX10_part : a_Ok mX10_part 0 := ⟨List.mem_append_right _ (List.mem_of_getElem? (i := 1095) rfl), List.mem_append_right _ (List.mem_of_getElem? (i := 9) (by decide +kernel)), ⟨by decide, by decide⟩, by decide +kernel, by decide⟩
set_option maxRecDepth 100000 in
theorem kX10_goesOnBehind : a_Ok mX10_goesOnBehind 0 := ⟨List.mem_append_right _ (List.mem_of_getElem? (i := 1115) rfl), List.mem_append_right _ (List.mem_of_getElem? (i := 9) (by decide +kernel)), ⟨by decide, by decide⟩, by decide +kernel, by decide⟩
set_option maxRecDepth 100000 in
theorem kX10_line : a_Ok mX10_line 0 := ⟨List.mem_append_right _ (List.mem_of_getElem? (i := 1071) rfl), List.mem_append_right _ (List.mem_of_getElem? (i := 9) (by decide +kernel)), ⟨by decide, by decide⟩, by decide +kernel, by decide⟩
set_option maxRecDepth 100000 in
theorem kX10_text : a_Ok mX10_text 0 := ⟨List.mem_append_right _ (List.mem_of_getElem? (i := 1048) rfl), List.mem_append_right _ (List.mem_of_getElem? (i := 9) (by decide +kernel)), ⟨by decide, by decide⟩, by decide +kernel, by decide⟩
set_option maxRecDepth 100000 in
theorem kX10_worth : a_Ok mX10_worth 1 := ⟨List.mem_append_right _ (List.mem_of_getElem? (i := 1273) rfl), List.mem_append_right _ (List.mem_of_getElem? (i := 9) (by decide +kernel)), ⟨by decide, by decide⟩, by decide +kernel, by decide⟩
set_option maxRecDepth 100000 in
theorem kX10_days : a_Ok mX10_days 1 := ⟨List.mem_append_right _ (List.mem_of_getElem? (i := 1123) rfl), List.mem_append_right _ (List.mem_of_getElem? (i := 9) (by decide +kernel)), ⟨by decide, by decide⟩, by decide +kernel, by decide⟩
set_option maxRecDepth 100000 in
theorem kX10_isPlant : a_Ok mX10_isPlant 1 := ⟨List.mem_append_right _ (List.mem_of_getElem? (i := 1142) rfl), List.mem_append_right _ (List.mem_of_getElem? (i := 9) (by decide +kernel)), ⟨by decide, by decide⟩, by decide +kernel, by decide⟩
set_option maxRecDepth 100000 in
theorem kX10_grows : a_Ok mX10_grows 4 := ⟨List.mem_append_right _ (List.mem_of_getElem? (i := 1134) rfl), List.mem_append_right _ (List.mem_of_getElem? (i := 9) (by decide +kernel)), ⟨by decide, by decide⟩, by decide +kernel, by decide⟩
set_option maxRecDepth 100000 in
theorem kX10_areMany : a_Ok mX10_areMany 1 := ⟨List.mem_append_right _ (List.mem_of_getElem? (i := 1130) rfl), List.mem_append_right _ (List.mem_of_getElem? (i := 9) (by decide +kernel)), ⟨by decide, by decide⟩, by decide +kernel, by decide⟩
set_option maxRecDepth 100000 in
theorem kX10_wild : a_Ok mX10_wild 2 := ⟨List.mem_append_right _ (List.mem_of_getElem? (i := 1127) rfl), List.mem_append_right _ (List.mem_of_getElem? (i := 9) (by decide +kernel)), ⟨by decide, by decide⟩, by decide +kernel, by decide⟩
set_option maxRecDepth 100000 in
theorem kX10_seed : a_Ok mX10_seed 3 := ⟨List.mem_append_right _ (List.mem_of_getElem? (i := 1138) rfl), List.mem_append_right _ (List.mem_of_getElem? (i := 9) (by decide +kernel)), ⟨by decide, by decide⟩, by decide +kernel, by decide⟩
set_option maxRecDepth 100000 in
theorem kX10_cut : a_Ok mX10_cut 2 := ⟨List.mem_append_right _ (List.mem_of_getElem? (i := 1146) rfl), List.mem_append_right _ (List.mem_of_getElem? (i := 9) (by decide +kernel)), ⟨by decide, by decide⟩, by decide +kernel, by decide⟩
set_option maxRecDepth 100000 in
theorem kX10_split : a_Ok mX10_split 2 := ⟨List.mem_append_right _ (List.mem_of_getElem? (i := 1150) rfl), List.mem_append_right _ (List.mem_of_getElem? (i := 9) (by decide +kernel)), ⟨by decide, by decide⟩, by decide +kernel, by decide⟩
set_option maxRecDepth 100000 in
theorem kX10_rootOf : a_Ok mX10_rootOf 1 := ⟨List.mem_append_right _ (List.mem_of_getElem? (i := 1265) rfl), List.mem_append_right _ (List.mem_of_getElem? (i := 9) (by decide +kernel)), ⟨by decide, by decide⟩, by decide +kernel, by decide⟩
set_option maxRecDepth 100000 in
theorem kX10_isCut : a_Ok mX10_isCut 1 := ⟨List.mem_append_right _ (List.mem_of_getElem? (i := 1269) rfl), List.mem_append_right _ (List.mem_of_getElem? (i := 9) (by decide +kernel)), ⟨by decide, by decide⟩, by decide +kernel, by decide⟩
set_option maxRecDepth 100000 in
theorem kX10_mark : a_Ok mX10_mark 4 := ⟨List.mem_append_right _ (List.mem_of_getElem? (i := 1154) rfl), List.mem_append_right _ (List.mem_of_getElem? (i := 9) (by decide +kernel)), ⟨by decide, by decide⟩, by decide +kernel, by decide⟩
set_option maxRecDepth 100000 in
theorem kX10_markOf : a_Ok mX10_markOf 3 := ⟨List.mem_append_right _ (List.mem_of_getElem? (i := 1166) rfl), List.mem_append_right _ (List.mem_of_getElem? (i := 9) (by decide +kernel)), ⟨by decide, by decide⟩, by decide +kernel, by decide⟩
set_option maxRecDepth 100000 in
theorem kX10_hasMark : a_Ok mX10_hasMark 3 := ⟨List.mem_append_right _ (List.mem_of_getElem? (i := 1170) rfl), List.mem_append_right _ (List.mem_of_getElem? (i := 9) (by decide +kernel)), ⟨by decide, by decide⟩, by decide +kernel, by decide⟩
set_option maxRecDepth 100000 in
theorem kX10_fitsAs : a_Ok mX10_fitsAs 2 := ⟨List.mem_append_right _ (List.mem_of_getElem? (i := 1162) rfl), List.mem_append_right _ (List.mem_of_getElem? (i := 9) (by decide +kernel)), ⟨by decide, by decide⟩, by decide +kernel, by decide⟩
set_option maxRecDepth 100000 in
theorem kX10_fits : a_Ok mX10_fits 1 := ⟨List.mem_append_right _ (List.mem_of_getElem? (i := 1158) rfl), List.mem_append_right _ (List.mem_of_getElem? (i := 9) (by decide +kernel)), ⟨by decide, by decide⟩, by decide +kernel, by decide⟩
set_option maxRecDepth 100000 in
theorem kX10_changed : a_Ok mX10_changed 2 := ⟨List.mem_append_right _ (List.mem_of_getElem? (i := 1174) rfl), List.mem_append_right _ (List.mem_of_getElem? (i := 9) (by decide +kernel)), ⟨by decide, by decide⟩, by decide +kernel, by decide⟩
set_option maxRecDepth 100000 in
theorem kX10_isName : a_Ok mX10_isName 1 := ⟨List.mem_append_right _ (List.mem_of_getElem? (i := 1181) rfl), List.mem_append_right _ (List.mem_of_getElem? (i := 9) (by decide +kernel)), ⟨by decide, by decide⟩, by decide +kernel, by decide⟩
set_option maxRecDepth 100000 in
theorem kX10_name : a_Ok mX10_name 2 := ⟨List.mem_append_right _ (List.mem_of_getElem? (i := 1178) rfl), List.mem_append_right _ (List.mem_of_getElem? (i := 9) (by decide +kernel)), ⟨by decide, by decide⟩, by decide +kernel, by decide⟩
set_option maxRecDepth 100000 in
theorem kX10_joinedTo : a_Ok mX10_joinedTo 2 := ⟨List.mem_append_right _ (List.mem_of_getElem? (i := 1193) rfl), List.mem_append_right _ (List.mem_of_getElem? (i := 9) (by decide +kernel)), ⟨by decide, by decide⟩, by decide +kernel, by decide⟩
set_option maxRecDepth 100000 in
theorem kX10_leads : a_Ok mX10_leads 2 := ⟨List.mem_append_right _ (List.mem_of_getElem? (i := 1205) rfl), List.mem_append_right _ (List.mem_of_getElem? (i := 9) (by decide +kernel)), ⟨by decide, by decide⟩, by decide +kernel, by decide⟩
set_option maxRecDepth 100000 in
theorem kX10_leadsBack : a_Ok mX10_leadsBack 2 := ⟨List.mem_append_right _ (List.mem_of_getElem? (i := 1189) rfl), List.mem_append_right _ (List.mem_of_getElem? (i := 9) (by decide +kernel)), ⟨by decide, by decide⟩, by decide +kernel, by decide⟩
set_option maxRecDepth 100000 in
theorem kX10_join : a_Ok mX10_join 2 := ⟨List.mem_append_right _ (List.mem_of_getElem? (i := 1185) rfl), List.mem_append_right _ (List.mem_of_getElem? (i := 9) (by decide +kernel)), ⟨by decide, by decide⟩, by decide +kernel, by decide⟩
set_option maxRecDepth 100000 in
theorem kX10_nameOf : a_Ok mX10_nameOf 3 := ⟨List.mem_append_right _ (List.mem_of_getElem? (i := 1201) rfl), List.mem_append_right _ (List.mem_of_getElem? (i := 9) (by decide +kernel)), ⟨by decide, by decide⟩, by decide +kernel, by decide⟩
set_option maxRecDepth 100000 in
theorem kX10_named : a_Ok mX10_named 3 := ⟨List.mem_append_right _ (List.mem_of_getElem? (i := 1197) rfl), List.mem_append_right _ (List.mem_of_getElem? (i := 9) (by decide +kernel)), ⟨by decide, by decide⟩, by decide +kernel, by decide⟩
set_option maxRecDepth 100000 in
theorem kX10_isDigitNumber : a_Ok mX10_isDigitNumber 1 := ⟨List.mem_append_right _ (List.mem_of_getElem? (i := 1212) rfl), List.mem_append_right _ (List.mem_of_getElem? (i := 9) (by decide +kernel)), ⟨by decide, by decide⟩, by decide +kernel, by decide⟩
set_option maxRecDepth 100000 in
theorem kX10_bed : a_Ok mX10_bed 3 := ⟨List.mem_append_right _ (List.mem_of_getElem? (i := 1209) rfl), List.mem_append_right _ (List.mem_of_getElem? (i := 9) (by decide +kernel)), ⟨by decide, by decide⟩, by decide +kernel, by decide⟩
set_option maxRecDepth 100000 in
theorem kX10_isBed : a_Ok mX10_isBed 1 := ⟨List.mem_append_right _ (List.mem_of_getElem? (i := 1220) rfl), List.mem_append_right _ (List.mem_of_getElem? (i := 9) (by decide +kernel)), ⟨by decide, by decide⟩, by decide +kernel, by decide⟩
set_option maxRecDepth 100000 in
theorem kX10_change : a_Ok mX10_change 3 := ⟨List.mem_append_right _ (List.mem_of_getElem? (i := 1216) rfl), List.mem_append_right _ (List.mem_of_getElem? (i := 9) (by decide +kernel)), ⟨by decide, by decide⟩, by decide +kernel, by decide⟩
set_option maxRecDepth 100000 in
theorem kX10_needs : a_Ok mX10_needs 5 := ⟨List.mem_append_right _ (List.mem_of_getElem? (i := 1224) rfl), List.mem_append_right _ (List.mem_of_getElem? (i := 9) (by decide +kernel)), ⟨by decide, by decide⟩, by decide +kernel, by decide⟩
set_option maxRecDepth 100000 in
theorem kX10_suits : a_Ok mX10_suits 2 := ⟨List.mem_append_right _ (List.mem_of_getElem? (i := 1232) rfl), List.mem_append_right _ (List.mem_of_getElem? (i := 9) (by decide +kernel)), ⟨by decide, by decide⟩, by decide +kernel, by decide⟩
set_option maxRecDepth 100000 in
theorem kX10_lay_ : a_Ok mX10_lay_ 2 := ⟨List.mem_append_right _ (List.mem_of_getElem? (i := 1228) rfl), List.mem_append_right _ (List.mem_of_getElem? (i := 9) (by decide +kernel)), ⟨by decide, by decide⟩, by decide +kernel, by decide⟩
set_option maxRecDepth 100000 in
theorem kX10_costOf : a_Ok mX10_costOf 2 := ⟨List.mem_append_right _ (List.mem_of_getElem? (i := 1248) rfl), List.mem_append_right _ (List.mem_of_getElem? (i := 9) (by decide +kernel)), ⟨by decide, by decide⟩, by decide +kernel, by decide⟩
set_option maxRecDepth 100000 in
theorem kX10_begins : a_Ok mX10_begins 1 := ⟨List.mem_append_right _ (List.mem_of_getElem? (i := 1244) rfl), List.mem_append_right _ (List.mem_of_getElem? (i := 9) (by decide +kernel)), ⟨by decide, by decide⟩, by decide +kernel, by decide⟩
set_option maxRecDepth 100000 in
theorem kX10_comes : a_Ok mX10_comes 1 := ⟨List.mem_append_right _ (List.mem_of_getElem? (i := 1240) rfl), List.mem_append_right _ (List.mem_of_getElem? (i := 9) (by decide +kernel)), ⟨by decide, by decide⟩, by decide +kernel, by decide⟩
set_option maxRecDepth 100000 in
theorem kX10_moves : a_Ok mX10_moves 0 := ⟨List.mem_append_right _ (List.mem_of_getElem? (i := 1236) rfl), List.mem_append_right _ (List.mem_of_getElem? (i := 9) (by decide +kernel)), ⟨by decide, by decide⟩, by decide +kernel, by decide⟩
set_option maxRecDepth 100000 in
theorem kX10_lets : a_Ok mX10_lets 3 := ⟨List.mem_append_right _ (List.mem_of_getElem? (i := 1261) rfl), List.mem_append_right _ (List.mem_of_getElem? (i := 9) (by decide +kernel)), ⟨by decide, by decide⟩, by decide +kernel, by decide⟩
set_option maxRecDepth 100000 in
theorem kX10_isSending : a_Ok mX10_isSending 3 := ⟨List.mem_append_right _ (List.mem_of_getElem? (i := 1257) rfl), List.mem_append_right _ (List.mem_of_getElem? (i := 9) (by decide +kernel)), ⟨by decide, by decide⟩, by decide +kernel, by decide⟩
set_option maxRecDepth 100000 in
theorem kX10_may : a_Ok mX10_may 3 := ⟨List.mem_append_right _ (List.mem_of_getElem? (i := 1253) rfl), List.mem_append_right _ (List.mem_of_getElem? (i := 9) (by decide +kernel)), ⟨by decide, by decide⟩, by decide +kernel, by decide⟩
set_option maxRecDepth 100000 in
theorem kX10_send : a_Ok mX10_send 3 := ⟨List.mem_append_right _ (List.mem_of_getElem? (i := 1277) rfl), List.mem_append_right _ (List.mem_of_getElem? (i := 9) (by decide +kernel)), ⟨by decide, by decide⟩, by decide +kernel, by decide⟩
set_option maxRecDepth 100000 in
theorem kX10_sent : a_Ok mX10_sent 2 := ⟨List.mem_append_right _ (List.mem_of_getElem? (i := 1281) rfl), List.mem_append_right _ (List.mem_of_getElem? (i := 9) (by decide +kernel)), ⟨by decide, by decide⟩, by decide +kernel, by decide⟩
set_option maxRecDepth 100000 in
theorem kX10_seen : a_Ok mX10_seen 2 := ⟨List.mem_append_right _ (List.mem_of_getElem? (i := 1285) rfl), List.mem_append_right _ (List.mem_of_getElem? (i := 9) (by decide +kernel)), ⟨by decide, by decide⟩, by decide +kernel, by decide⟩
set_option maxRecDepth 100000 in
theorem kX10_checks : a_Ok mX10_checks 1 := ⟨List.mem_append_right _ (List.mem_of_getElem? (i := 1293) rfl), List.mem_append_right _ (List.mem_of_getElem? (i := 9) (by decide +kernel)), ⟨by decide, by decide⟩, by decide +kernel, by decide⟩
set_option maxRecDepth 100000 in
theorem kX10_close : a_Ok mX10_close 1 := ⟨List.mem_append_right _ (List.mem_of_getElem? (i := 1289) rfl), List.mem_append_right _ (List.mem_of_getElem? (i := 9) (by decide +kernel)), ⟨by decide, by decide⟩, by decide +kernel, by decide⟩
set_option maxRecDepth 100000 in
theorem kX10_look : a_Ok mX10_look 2 := ⟨List.mem_append_right _ (List.mem_of_getElem? (i := 1297) rfl), List.mem_append_right _ (List.mem_of_getElem? (i := 9) (by decide +kernel)), ⟨by decide, by decide⟩, by decide +kernel, by decide⟩
set_option maxRecDepth 100000 in
theorem kX10_count : a_Ok mX10_count 1 := ⟨List.mem_append_right _ (List.mem_of_getElem? (i := 1301) rfl), List.mem_append_right _ (List.mem_of_getElem? (i := 9) (by decide +kernel)), ⟨by decide, by decide⟩, by decide +kernel, by decide⟩
set_option maxRecDepth 100000 in
theorem nL_8 : Cond.classLink RL 8 (a_Rn 9) ∈ lw_tbl := List.mem_append_right _ (List.mem_of_getElem? (i := 22) (by decide +kernel))
set_option maxRecDepth 100000 in
theorem nX9_9 : Cond.classLink RX9 9 (a_Rn 3) ∈ lw_tbl := List.mem_append_right _ (List.mem_of_getElem? (i := 30) (by decide +kernel))
set_option maxRecDepth 100000 in
theorem nX9_15 : Cond.classLink RX9 15 (a_Rn 0) ∈ lw_tbl := List.mem_append_right _ (List.mem_of_getElem? (i := 32) (by decide +kernel))
set_option maxRecDepth 100000 in
theorem nX9_21 : Cond.classLink RX9 21 (a_Rn 2) ∈ lw_tbl := List.mem_append_right _ (List.mem_of_getElem? (i := 34) (by decide +kernel))
set_option maxRecDepth 100000 in
theorem nX9_28 : Cond.classLink RX9 28 (a_Rn 1) ∈ lw_tbl := List.mem_append_right _ (List.mem_of_getElem? (i := 68) (by decide +kernel))
set_option maxRecDepth 100000 in
theorem nX9_37 : Cond.classLink RX9 37 (a_Rn 7) ∈ lw_tbl := List.mem_append_right _ (List.mem_of_getElem? (i := 99) (by decide +kernel))
set_option maxRecDepth 100000 in
theorem nX9_44 : Cond.classLink RX9 44 (a_Rn 4) ∈ lw_tbl := List.mem_append_right _ (List.mem_of_getElem? (i := 115) (by decide +kernel))
set_option maxRecDepth 100000 in
theorem nX4_9 : Cond.classLink RX4 9 (a_Rn 8) ∈ lw_tbl := List.mem_append_right _ (List.mem_of_getElem? (i := 121) (by decide +kernel))
set_option maxRecDepth 100000 in
theorem nX4_18 : Cond.classLink RX4 18 (a_Rn 5) ∈ lw_tbl := List.mem_append_right _ (List.mem_of_getElem? (i := 143) (by decide +kernel))
set_option maxRecDepth 100000 in
theorem nX9_51 : Cond.classLink RX9 51 (a_Rn 6) ∈ lw_tbl := List.mem_append_right _ (List.mem_of_getElem? (i := 192) (by decide +kernel))
set_option maxRecDepth 100000 in
theorem nX9_62 : Cond.classLink RX9 62 (a_Rn 5) ∈ lw_tbl := List.mem_append_right _ (List.mem_of_getElem? (i := 206) (by decide +kernel))
set_option maxRecDepth 100000 in
theorem nL_20 : Cond.classLink RL 20 (a_Rn 10) ∈ lw_tbl := List.mem_append_right _ (List.mem_of_getElem? (i := 859) (by decide +kernel))
set_option maxRecDepth 100000 in
theorem q0 : Cond.instantiable (a_Rn 0) (a_nf 0) ∈ lw_tbl := List.mem_append_right _ (List.mem_of_getElem? (i := 406) (by decide +kernel))
set_option maxRecDepth 100000 in
theorem qi0 : Cond.initialized (a_Rn 0) ∈ lw_tbl := List.mem_append_right _ (List.mem_of_getElem? (i := 17) (by decide +kernel))
set_option maxRecDepth 100000 in
theorem q1 : Cond.instantiable (a_Rn 1) (a_nf 1) ∈ lw_tbl := List.mem_append_right _ (List.mem_of_getElem? (i := 69) (by decide +kernel))
set_option maxRecDepth 100000 in
theorem qi1 : Cond.initialized (a_Rn 1) ∈ lw_tbl := List.mem_append_right _ (List.mem_of_getElem? (i := 3) (by decide +kernel))
set_option maxRecDepth 100000 in
theorem q2 : Cond.instantiable (a_Rn 2) (a_nf 2) ∈ lw_tbl := List.mem_append_right _ (List.mem_of_getElem? (i := 35) (by decide +kernel))
set_option maxRecDepth 100000 in
theorem qi2 : Cond.initialized (a_Rn 2) ∈ lw_tbl := List.mem_append_right _ (List.mem_of_getElem? (i := 2) (by decide +kernel))
set_option maxRecDepth 100000 in
theorem q3 : Cond.instantiable (a_Rn 3) (a_nf 3) ∈ lw_tbl := List.mem_append_right _ (List.mem_of_getElem? (i := 260) (by decide +kernel))
set_option maxRecDepth 100000 in
theorem qi3 : Cond.initialized (a_Rn 3) ∈ lw_tbl := List.mem_append_right _ (List.mem_of_getElem? (i := 10) (by decide +kernel))
set_option maxRecDepth 100000 in
theorem q4 : Cond.instantiable (a_Rn 4) (a_nf 4) ∈ lw_tbl := List.mem_append_right _ (List.mem_of_getElem? (i := 116) (by decide +kernel))
set_option maxRecDepth 100000 in
theorem qi4 : Cond.initialized (a_Rn 4) ∈ lw_tbl := List.mem_append_right _ (List.mem_of_getElem? (i := 5) (by decide +kernel))
set_option maxRecDepth 100000 in
theorem q5 : Cond.instantiable (a_Rn 5) (a_nf 5) ∈ lw_tbl := List.mem_append_right _ (List.mem_of_getElem? (i := 144) (by decide +kernel))
set_option maxRecDepth 100000 in
theorem qi5 : Cond.initialized (a_Rn 5) ∈ lw_tbl := List.mem_append_right _ (List.mem_of_getElem? (i := 7) (by decide +kernel))
set_option maxRecDepth 100000 in
theorem q6 : Cond.instantiable (a_Rn 6) (a_nf 6) ∈ lw_tbl := List.mem_append_right _ (List.mem_of_getElem? (i := 193) (by decide +kernel))
set_option maxRecDepth 100000 in
theorem qi6 : Cond.initialized (a_Rn 6) ∈ lw_tbl := List.mem_append_right _ (List.mem_of_getElem? (i := 8) (by decide +kernel))
set_option maxRecDepth 100000 in
theorem q7 : Cond.instantiable (a_Rn 7) (a_nf 7) ∈ lw_tbl := List.mem_append_right _ (List.mem_of_getElem? (i := 100) (by decide +kernel))
set_option maxRecDepth 100000 in
theorem qi7 : Cond.initialized (a_Rn 7) ∈ lw_tbl := List.mem_append_right _ (List.mem_of_getElem? (i := 4) (by decide +kernel))
set_option maxRecDepth 100000 in
theorem q8 : Cond.instantiable (a_Rn 8) (a_nf 8) ∈ lw_tbl := List.mem_append_right _ (List.mem_of_getElem? (i := 122) (by decide +kernel))
set_option maxRecDepth 100000 in
theorem qi8 : Cond.initialized (a_Rn 8) ∈ lw_tbl := List.mem_append_right _ (List.mem_of_getElem? (i := 6) (by decide +kernel))
set_option maxRecDepth 100000 in
theorem q9 : Cond.instantiable (a_Rn 9) (a_nf 9) ∈ lw_tbl := List.mem_append_right _ (List.mem_of_getElem? (i := 23) (by decide +kernel))
set_option maxRecDepth 100000 in
theorem qi9 : Cond.initialized (a_Rn 9) ∈ lw_tbl := List.mem_append_right _ (List.mem_of_getElem? (i := 1) (by decide +kernel))
set_option maxRecDepth 100000 in
theorem q10 : Cond.instantiable (a_Rn 10) (a_nf 10) ∈ lw_tbl := List.mem_append_right _ (List.mem_of_getElem? (i := 857) (by decide +kernel))
set_option maxRecDepth 100000 in
theorem qi10 : Cond.initialized (a_Rn 10) ∈ lw_tbl := List.mem_append_right _ (List.mem_of_getElem? (i := 9) (by decide +kernel))
end
