theorem dX0_init_0 : decode cX0_init 0 = .ok (.aload_n 0, 1) := by decide +kernel
theorem dX0_init_1 : decode cX0_init 1 = .ok (.invokespecial 1, 3) := by decide +kernel
theorem dX0_init_4 : decode cX0_init 4 = .ok (.aload_n 0, 1) := by decide +kernel
theorem dX0_init_5 : decode cX0_init 5 = .ok (.iload_n 1, 1) := by decide +kernel
theorem dX0_init_6 : decode cX0_init 6 = .ok (.putfield 7, 3) := by decide +kernel
theorem dX0_init_9 : decode cX0_init 9 = .ok (.aload_n 0, 1) := by decide +kernel
theorem dX0_init_10 : decode cX0_init 10 = .ok (.iload_n 2, 1) := by decide +kernel
theorem dX0_init_11 : decode cX0_init 11 = .ok (.putfield 13, 3) := by decide +kernel
theorem dX0_init_14 : decode cX0_init 14 = .ok (.aload_n 0, 1) := by decide +kernel
theorem dX0_init_15 : decode cX0_init 15 = .ok (.iload_n 3, 1) := by decide +kernel
theorem dX0_init_16 : decode cX0_init 16 = .ok (.putfield 16, 3) := by decide +kernel
theorem dX0_init_19 : decode cX0_init 19 = .ok (.return_, 1) := by decide +kernel
theorem dX1_init_0 : decode cX1_init 0 = .ok (.aload_n 0, 1) := by decide +kernel
theorem dX1_init_1 : decode cX1_init 1 = .ok (.invokespecial 3, 3) := by decide +kernel
theorem dX1_init_4 : decode cX1_init 4 = .ok (.aload_n 0, 1) := by decide +kernel
theorem dX1_init_5 : decode cX1_init 5 = .ok (.sipush 320, 3) := by decide +kernel
theorem dX1_init_8 : decode cX1_init 8 = .ok (.newarray .int, 2) := by decide +kernel
theorem dX1_init_10 : decode cX1_init 10 = .ok (.putfield 9, 3) := by decide +kernel
theorem dX1_init_13 : decode cX1_init 13 = .ok (.aload_n 0, 1) := by decide +kernel
theorem dX1_init_14 : decode cX1_init 14 = .ok (.bipush 40, 2) := by decide +kernel
theorem dX1_init_16 : decode cX1_init 16 = .ok (.newarray .int, 2) := by decide +kernel
theorem dX1_init_18 : decode cX1_init 18 = .ok (.putfield 15, 3) := by decide +kernel
theorem dX1_init_21 : decode cX1_init 21 = .ok (.aload_n 0, 1) := by decide +kernel
theorem dX1_init_22 : decode cX1_init 22 = .ok (.bipush 8, 2) := by decide +kernel
theorem dX1_init_24 : decode cX1_init 24 = .ok (.newarray .int, 2) := by decide +kernel
theorem dX1_init_26 : decode cX1_init 26 = .ok (.putfield 18, 3) := by decide +kernel
theorem dX1_init_29 : decode cX1_init 29 = .ok (.aload_n 0, 1) := by decide +kernel
theorem dX1_init_30 : decode cX1_init 30 = .ok (.bipush 8, 2) := by decide +kernel
theorem dX1_init_32 : decode cX1_init 32 = .ok (.newarray .int, 2) := by decide +kernel
theorem dX1_init_34 : decode cX1_init 34 = .ok (.putfield 21, 3) := by decide +kernel
theorem dX1_init_37 : decode cX1_init 37 = .ok (.aload_n 0, 1) := by decide +kernel
theorem dX1_init_38 : decode cX1_init 38 = .ok (.bipush 8, 2) := by decide +kernel
theorem dX1_init_40 : decode cX1_init 40 = .ok (.newarray .int, 2) := by decide +kernel
theorem dX1_init_42 : decode cX1_init 42 = .ok (.putfield 24, 3) := by decide +kernel
theorem dX1_init_45 : decode cX1_init 45 = .ok (.return_, 1) := by decide +kernel
theorem dX1_makeEmpty_0 : decode cX1_makeEmpty 0 = .ok (.aload_n 0, 1) := by decide +kernel
theorem dX1_makeEmpty_1 : decode cX1_makeEmpty 1 = .ok (.iconst 0, 1) := by decide +kernel
theorem dX1_makeEmpty_2 : decode cX1_makeEmpty 2 = .ok (.putfield 27, 3) := by decide +kernel
theorem dX1_makeEmpty_5 : decode cX1_makeEmpty 5 = .ok (.aload_n 0, 1) := by decide +kernel
theorem dX1_makeEmpty_6 : decode cX1_makeEmpty 6 = .ok (.iconst 0, 1) := by decide +kernel
theorem dX1_makeEmpty_7 : decode cX1_makeEmpty 7 = .ok (.putfield 31, 3) := by decide +kernel
theorem dX1_makeEmpty_10 : decode cX1_makeEmpty 10 = .ok (.return_, 1) := by decide +kernel
theorem dX1_addBed_0 : decode cX1_addBed 0 = .ok (.aload_n 0, 1) := by decide +kernel
theorem dX1_addBed_1 : decode cX1_addBed 1 = .ok (.getfield 31, 3) := by decide +kernel
theorem dX1_addBed_4 : decode cX1_addBed 4 = .ok (.bipush 8, 2) := by decide +kernel
theorem dX1_addBed_6 : decode cX1_addBed 6 = .ok (.if_icmp .ge 23, 3) := by decide +kernel
theorem dX1_addBed_9 : decode cX1_addBed 9 = .ok (.aload_n 0, 1) := by decide +kernel
theorem dX1_addBed_10 : decode cX1_addBed 10 = .ok (.getfield 18, 3) := by decide +kernel
theorem dX1_addBed_13 : decode cX1_addBed 13 = .ok (.aload_n 0, 1) := by decide +kernel
theorem dX1_addBed_14 : decode cX1_addBed 14 = .ok (.getfield 31, 3) := by decide +kernel
theorem dX1_addBed_17 : decode cX1_addBed 17 = .ok (.iload_n 1, 1) := by decide +kernel
theorem dX1_addBed_18 : decode cX1_addBed 18 = .ok (.iastore, 1) := by decide +kernel
theorem dX1_addBed_19 : decode cX1_addBed 19 = .ok (.aload_n 0, 1) := by decide +kernel
theorem dX1_addBed_20 : decode cX1_addBed 20 = .ok (.dup, 1) := by decide +kernel
theorem dX1_addBed_21 : decode cX1_addBed 21 = .ok (.getfield 31, 3) := by decide +kernel
theorem dX1_addBed_24 : decode cX1_addBed 24 = .ok (.iconst 1, 1) := by decide +kernel
theorem dX1_addBed_25 : decode cX1_addBed 25 = .ok (.iadd, 1) := by decide +kernel
theorem dX1_addBed_26 : decode cX1_addBed 26 = .ok (.putfield 31, 3) := by decide +kernel
theorem dX1_addBed_29 : decode cX1_addBed 29 = .ok (.return_, 1) := by decide +kernel
theorem dX1_addPlant_0 : decode cX1_addPlant 0 = .ok (.aload_n 0, 1) := by decide +kernel
theorem dX1_addPlant_1 : decode cX1_addPlant 1 = .ok (.getfield 27, 3) := by decide +kernel
theorem dX1_addPlant_4 : decode cX1_addPlant 4 = .ok (.bipush 40, 2) := by decide +kernel
theorem dX1_addPlant_6 : decode cX1_addPlant 6 = .ok (.if_icmp .lt 4, 3) := by decide +kernel
theorem dX1_addPlant_9 : decode cX1_addPlant 9 = .ok (.return_, 1) := by decide +kernel
theorem dX1_addPlant_10 : decode cX1_addPlant 10 = .ok (.aload_n 0, 1) := by decide +kernel
theorem dX1_addPlant_11 : decode cX1_addPlant 11 = .ok (.getfield 15, 3) := by decide +kernel
theorem dX1_addPlant_14 : decode cX1_addPlant 14 = .ok (.aload_n 0, 1) := by decide +kernel
theorem dX1_addPlant_15 : decode cX1_addPlant 15 = .ok (.getfield 27, 3) := by decide +kernel
theorem dX1_addPlant_18 : decode cX1_addPlant 18 = .ok (.iconst (-1), 1) := by decide +kernel
theorem dX1_addPlant_19 : decode cX1_addPlant 19 = .ok (.iastore, 1) := by decide +kernel
theorem dX1_addPlant_20 : decode cX1_addPlant 20 = .ok (.iconst 0, 1) := by decide +kernel
theorem dX1_addPlant_21 : decode cX1_addPlant 21 = .ok (.istore_n 3, 1) := by decide +kernel
theorem dX1_addPlant_22 : decode cX1_addPlant 22 = .ok (.iload_n 3, 1) := by decide +kernel
theorem dX1_addPlant_23 : decode cX1_addPlant 23 = .ok (.aload_n 0, 1) := by decide +kernel
theorem dX1_addPlant_24 : decode cX1_addPlant 24 = .ok (.getfield 31, 3) := by decide +kernel
theorem dX1_addPlant_27 : decode cX1_addPlant 27 = .ok (.if_icmp .ge 98, 3) := by decide +kernel
theorem dX1_addPlant_30 : decode cX1_addPlant 30 = .ok (.aload_n 1, 1) := by decide +kernel
theorem dX1_addPlant_31 : decode cX1_addPlant 31 = .ok (.aload_n 2, 1) := by decide +kernel
theorem dX1_addPlant_32 : decode cX1_addPlant 32 = .ok (.iload_n 3, 1) := by decide +kernel
theorem dX1_addPlant_33 : decode cX1_addPlant 33 = .ok (.aaload, 1) := by decide +kernel
theorem dX1_addPlant_34 : decode cX1_addPlant 34 = .ok (.invokevirtual 34, 3) := by decide +kernel
theorem dX1_addPlant_37 : decode cX1_addPlant 37 = .ok (.istore 4, 2) := by decide +kernel
theorem dX1_addPlant_39 : decode cX1_addPlant 39 = .ok (.iload 4, 2) := by decide +kernel
theorem dX1_addPlant_41 : decode cX1_addPlant 41 = .ok (.ifCond .eq 15, 3) := by decide +kernel
theorem dX1_addPlant_44 : decode cX1_addPlant 44 = .ok (.aload_n 1, 1) := by decide +kernel
theorem dX1_addPlant_45 : decode cX1_addPlant 45 = .ok (.getfield 40, 3) := by decide +kernel
theorem dX1_addPlant_48 : decode cX1_addPlant 48 = .ok (.iload_n 3, 1) := by decide +kernel
theorem dX1_addPlant_49 : decode cX1_addPlant 49 = .ok (.if_icmp .ne 7, 3) := by decide +kernel
theorem dX1_addPlant_52 : decode cX1_addPlant 52 = .ok (.iconst 1, 1) := by decide +kernel
theorem dX1_addPlant_53 : decode cX1_addPlant 53 = .ok (.goto 4, 3) := by decide +kernel
theorem dX1_addPlant_56 : decode cX1_addPlant 56 = .ok (.iconst 0, 1) := by decide +kernel
theorem dX1_addPlant_57 : decode cX1_addPlant 57 = .ok (.istore 5, 2) := by decide +kernel
theorem dX1_addPlant_59 : decode cX1_addPlant 59 = .ok (.aload_n 0, 1) := by decide +kernel
theorem dX1_addPlant_60 : decode cX1_addPlant 60 = .ok (.getfield 9, 3) := by decide +kernel
theorem dX1_addPlant_63 : decode cX1_addPlant 63 = .ok (.aload_n 0, 1) := by decide +kernel
theorem dX1_addPlant_64 : decode cX1_addPlant 64 = .ok (.getfield 27, 3) := by decide +kernel
theorem dX1_addPlant_67 : decode cX1_addPlant 67 = .ok (.bipush 8, 2) := by decide +kernel
theorem dX1_addPlant_69 : decode cX1_addPlant 69 = .ok (.imul, 1) := by decide +kernel
theorem dX1_addPlant_70 : decode cX1_addPlant 70 = .ok (.iload_n 3, 1) := by decide +kernel
theorem dX1_addPlant_71 : decode cX1_addPlant 71 = .ok (.iadd, 1) := by decide +kernel
theorem dX1_addPlant_72 : decode cX1_addPlant 72 = .ok (.iload 5, 2) := by decide +kernel
theorem dX1_addPlant_74 : decode cX1_addPlant 74 = .ok (.ifCond .eq 7, 3) := by decide +kernel
theorem dX1_addPlant_77 : decode cX1_addPlant 77 = .ok (.iconst 0, 1) := by decide +kernel
theorem dX1_addPlant_78 : decode cX1_addPlant 78 = .ok (.goto 15, 3) := by decide +kernel
theorem dX1_addPlant_81 : decode cX1_addPlant 81 = .ok (.iload 4, 2) := by decide +kernel
theorem dX1_addPlant_83 : decode cX1_addPlant 83 = .ok (.ifCond .eq 7, 3) := by decide +kernel
theorem dX1_addPlant_86 : decode cX1_addPlant 86 = .ok (.iconst 1, 1) := by decide +kernel
theorem dX1_addPlant_87 : decode cX1_addPlant 87 = .ok (.goto 6, 3) := by decide +kernel
theorem dX1_addPlant_90 : decode cX1_addPlant 90 = .ok (.sipush 1000, 3) := by decide +kernel
theorem dX1_addPlant_93 : decode cX1_addPlant 93 = .ok (.iastore, 1) := by decide +kernel
theorem dX1_addPlant_94 : decode cX1_addPlant 94 = .ok (.iload 5, 2) := by decide +kernel
theorem dX1_addPlant_96 : decode cX1_addPlant 96 = .ok (.ifCond .eq 23, 3) := by decide +kernel
theorem dX1_addPlant_99 : decode cX1_addPlant 99 = .ok (.aload_n 0, 1) := by decide +kernel
theorem dX1_addPlant_100 : decode cX1_addPlant 100 = .ok (.getfield 15, 3) := by decide +kernel
theorem dX1_addPlant_103 : decode cX1_addPlant 103 = .ok (.aload_n 0, 1) := by decide +kernel
theorem dX1_addPlant_104 : decode cX1_addPlant 104 = .ok (.getfield 27, 3) := by decide +kernel
theorem dX1_addPlant_107 : decode cX1_addPlant 107 = .ok (.iload_n 3, 1) := by decide +kernel
theorem dX1_addPlant_108 : decode cX1_addPlant 108 = .ok (.iastore, 1) := by decide +kernel
theorem dX1_addPlant_109 : decode cX1_addPlant 109 = .ok (.aload_n 0, 1) := by decide +kernel
theorem dX1_addPlant_110 : decode cX1_addPlant 110 = .ok (.getfield 18, 3) := by decide +kernel
theorem dX1_addPlant_113 : decode cX1_addPlant 113 = .ok (.iload_n 3, 1) := by decide +kernel
theorem dX1_addPlant_114 : decode cX1_addPlant 114 = .ok (.dup2, 1) := by decide +kernel
theorem dX1_addPlant_115 : decode cX1_addPlant 115 = .ok (.iaload, 1) := by decide +kernel
theorem dX1_addPlant_116 : decode cX1_addPlant 116 = .ok (.iconst 1, 1) := by decide +kernel
theorem dX1_addPlant_117 : decode cX1_addPlant 117 = .ok (.isub, 1) := by decide +kernel
theorem dX1_addPlant_118 : decode cX1_addPlant 118 = .ok (.iastore, 1) := by decide +kernel
theorem dX1_addPlant_119 : decode cX1_addPlant 119 = .ok (.iinc 3 1, 3) := by decide +kernel
theorem dX1_addPlant_122 : decode cX1_addPlant 122 = .ok (.goto (-100), 3) := by decide +kernel
theorem dX1_addPlant_125 : decode cX1_addPlant 125 = .ok (.aload_n 0, 1) := by decide +kernel
theorem dX1_addPlant_126 : decode cX1_addPlant 126 = .ok (.dup, 1) := by decide +kernel
theorem dX1_addPlant_127 : decode cX1_addPlant 127 = .ok (.getfield 27, 3) := by decide +kernel
theorem dX1_addPlant_130 : decode cX1_addPlant 130 = .ok (.iconst 1, 1) := by decide +kernel
theorem dX1_addPlant_131 : decode cX1_addPlant 131 = .ok (.iadd, 1) := by decide +kernel
theorem dX1_addPlant_132 : decode cX1_addPlant 132 = .ok (.putfield 27, 3) := by decide +kernel
theorem dX1_addPlant_135 : decode cX1_addPlant 135 = .ok (.return_, 1) := by decide +kernel
theorem dX1_fewest_0 : decode cX1_fewest 0 = .ok (.iconst 0, 1) := by decide +kernel
theorem dX1_fewest_1 : decode cX1_fewest 1 = .ok (.istore_n 1, 1) := by decide +kernel
theorem dX1_fewest_2 : decode cX1_fewest 2 = .ok (.iload_n 1, 1) := by decide +kernel
theorem dX1_fewest_3 : decode cX1_fewest 3 = .ok (.aload_n 0, 1) := by decide +kernel
theorem dX1_fewest_4 : decode cX1_fewest 4 = .ok (.getfield 27, 3) := by decide +kernel
theorem dX1_fewest_7 : decode cX1_fewest 7 = .ok (.if_icmp .ge 29, 3) := by decide +kernel
theorem dX1_fewest_10 : decode cX1_fewest 10 = .ok (.aload_n 0, 1) := by decide +kernel
theorem dX1_fewest_11 : decode cX1_fewest 11 = .ok (.getfield 15, 3) := by decide +kernel
theorem dX1_fewest_14 : decode cX1_fewest 14 = .ok (.iload_n 1, 1) := by decide +kernel
theorem dX1_fewest_15 : decode cX1_fewest 15 = .ok (.iaload, 1) := by decide +kernel
theorem dX1_fewest_16 : decode cX1_fewest 16 = .ok (.iconst (-1), 1) := by decide +kernel
theorem dX1_fewest_17 : decode cX1_fewest 17 = .ok (.if_icmp .ne 13, 3) := by decide +kernel
theorem dX1_fewest_20 : decode cX1_fewest 20 = .ok (.aload_n 0, 1) := by decide +kernel
theorem dX1_fewest_21 : decode cX1_fewest 21 = .ok (.iload_n 1, 1) := by decide +kernel
theorem dX1_fewest_22 : decode cX1_fewest 22 = .ok (.invokevirtual 43, 3) := by decide +kernel
theorem dX1_fewest_25 : decode cX1_fewest 25 = .ok (.ifCond .ne 5, 3) := by decide +kernel
theorem dX1_fewest_28 : decode cX1_fewest 28 = .ok (.iconst (-1), 1) := by decide +kernel
theorem dX1_fewest_29 : decode cX1_fewest 29 = .ok (.ireturn, 1) := by decide +kernel
theorem dX1_fewest_30 : decode cX1_fewest 30 = .ok (.iinc 1 1, 3) := by decide +kernel
theorem dX1_fewest_33 : decode cX1_fewest 33 = .ok (.goto (-31), 3) := by decide +kernel
theorem dX1_fewest_36 : decode cX1_fewest 36 = .ok (.iconst 0, 1) := by decide +kernel
theorem dX1_fewest_37 : decode cX1_fewest 37 = .ok (.istore_n 1, 1) := by decide +kernel
theorem dX1_fewest_38 : decode cX1_fewest 38 = .ok (.iconst 0, 1) := by decide +kernel
theorem dX1_fewest_39 : decode cX1_fewest 39 = .ok (.istore_n 2, 1) := by decide +kernel
theorem dX1_fewest_40 : decode cX1_fewest 40 = .ok (.iload_n 2, 1) := by decide +kernel
theorem dX1_fewest_41 : decode cX1_fewest 41 = .ok (.aload_n 0, 1) := by decide +kernel
theorem dX1_fewest_42 : decode cX1_fewest 42 = .ok (.getfield 27, 3) := by decide +kernel
theorem dX1_fewest_45 : decode cX1_fewest 45 = .ok (.if_icmp .ge 23, 3) := by decide +kernel
theorem dX1_fewest_48 : decode cX1_fewest 48 = .ok (.iload_n 1, 1) := by decide +kernel
theorem dX1_fewest_49 : decode cX1_fewest 49 = .ok (.aload_n 0, 1) := by decide +kernel
theorem dX1_fewest_50 : decode cX1_fewest 50 = .ok (.iload_n 2, 1) := by decide +kernel
theorem dX1_fewest_51 : decode cX1_fewest 51 = .ok (.aload_n 0, 1) := by decide +kernel
theorem dX1_fewest_52 : decode cX1_fewest 52 = .ok (.getfield 15, 3) := by decide +kernel
theorem dX1_fewest_55 : decode cX1_fewest 55 = .ok (.iload_n 2, 1) := by decide +kernel
theorem dX1_fewest_56 : decode cX1_fewest 56 = .ok (.iaload, 1) := by decide +kernel
theorem dX1_fewest_57 : decode cX1_fewest 57 = .ok (.invokevirtual 47, 3) := by decide +kernel
theorem dX1_fewest_60 : decode cX1_fewest 60 = .ok (.iadd, 1) := by decide +kernel
theorem dX1_fewest_61 : decode cX1_fewest 61 = .ok (.istore_n 1, 1) := by decide +kernel
theorem dX1_fewest_62 : decode cX1_fewest 62 = .ok (.iinc 2 1, 3) := by decide +kernel
theorem dX1_fewest_65 : decode cX1_fewest 65 = .ok (.goto (-25), 3) := by decide +kernel
theorem dX1_fewest_68 : decode cX1_fewest 68 = .ok (.iload_n 1, 1) := by decide +kernel
theorem dX1_fewest_69 : decode cX1_fewest 69 = .ok (.ireturn, 1) := by decide +kernel
theorem dX1_bringIn_0 : decode cX1_bringIn 0 = .ok (.iconst 0, 1) := by decide +kernel
theorem dX1_bringIn_1 : decode cX1_bringIn 1 = .ok (.istore_n 2, 1) := by decide +kernel
theorem dX1_bringIn_2 : decode cX1_bringIn 2 = .ok (.iload_n 2, 1) := by decide +kernel
theorem dX1_bringIn_3 : decode cX1_bringIn 3 = .ok (.aload_n 0, 1) := by decide +kernel
theorem dX1_bringIn_4 : decode cX1_bringIn 4 = .ok (.getfield 31, 3) := by decide +kernel
theorem dX1_bringIn_7 : decode cX1_bringIn 7 = .ok (.if_icmp .ge 28, 3) := by decide +kernel
theorem dX1_bringIn_10 : decode cX1_bringIn 10 = .ok (.aload_n 0, 1) := by decide +kernel
theorem dX1_bringIn_11 : decode cX1_bringIn 11 = .ok (.getfield 21, 3) := by decide +kernel
theorem dX1_bringIn_14 : decode cX1_bringIn 14 = .ok (.iload_n 2, 1) := by decide +kernel
theorem dX1_bringIn_15 : decode cX1_bringIn 15 = .ok (.aload_n 0, 1) := by decide +kernel
theorem dX1_bringIn_16 : decode cX1_bringIn 16 = .ok (.iload_n 1, 1) := by decide +kernel
theorem dX1_bringIn_17 : decode cX1_bringIn 17 = .ok (.iload_n 2, 1) := by decide +kernel
theorem dX1_bringIn_18 : decode cX1_bringIn 18 = .ok (.invokevirtual 47, 3) := by decide +kernel
theorem dX1_bringIn_21 : decode cX1_bringIn 21 = .ok (.iastore, 1) := by decide +kernel
theorem dX1_bringIn_22 : decode cX1_bringIn 22 = .ok (.aload_n 0, 1) := by decide +kernel
theorem dX1_bringIn_23 : decode cX1_bringIn 23 = .ok (.getfield 24, 3) := by decide +kernel
theorem dX1_bringIn_26 : decode cX1_bringIn 26 = .ok (.iload_n 2, 1) := by decide +kernel
theorem dX1_bringIn_27 : decode cX1_bringIn 27 = .ok (.iload_n 1, 1) := by decide +kernel
theorem dX1_bringIn_28 : decode cX1_bringIn 28 = .ok (.iastore, 1) := by decide +kernel
theorem dX1_bringIn_29 : decode cX1_bringIn 29 = .ok (.iinc 2 1, 3) := by decide +kernel
theorem dX1_bringIn_32 : decode cX1_bringIn 32 = .ok (.goto (-30), 3) := by decide +kernel
theorem dX1_bringIn_35 : decode cX1_bringIn 35 = .ok (.aload_n 0, 1) := by decide +kernel
theorem dX1_bringIn_36 : decode cX1_bringIn 36 = .ok (.invokevirtual 51, 3) := by decide +kernel
theorem dX1_bringIn_39 : decode cX1_bringIn 39 = .ok (.aload_n 0, 1) := by decide +kernel
theorem dX1_bringIn_40 : decode cX1_bringIn 40 = .ok (.invokevirtual 54, 3) := by decide +kernel
theorem dX1_bringIn_43 : decode cX1_bringIn 43 = .ok (.istore_n 2, 1) := by decide +kernel
theorem dX1_bringIn_44 : decode cX1_bringIn 44 = .ok (.iload_n 2, 1) := by decide +kernel
theorem dX1_bringIn_45 : decode cX1_bringIn 45 = .ok (.iconst (-1), 1) := by decide +kernel
theorem dX1_bringIn_46 : decode cX1_bringIn 46 = .ok (.if_icmp .ne 5, 3) := by decide +kernel
theorem dX1_bringIn_49 : decode cX1_bringIn 49 = .ok (.iconst 0, 1) := by decide +kernel
theorem dX1_bringIn_50 : decode cX1_bringIn 50 = .ok (.ireturn, 1) := by decide +kernel
theorem dX1_bringIn_51 : decode cX1_bringIn 51 = .ok (.aload_n 0, 1) := by decide +kernel
theorem dX1_bringIn_52 : decode cX1_bringIn 52 = .ok (.getfield 18, 3) := by decide +kernel
theorem dX1_bringIn_55 : decode cX1_bringIn 55 = .ok (.iload_n 2, 1) := by decide +kernel
theorem dX1_bringIn_56 : decode cX1_bringIn 56 = .ok (.dup2, 1) := by decide +kernel
theorem dX1_bringIn_57 : decode cX1_bringIn 57 = .ok (.iaload, 1) := by decide +kernel
theorem dX1_bringIn_58 : decode cX1_bringIn 58 = .ok (.iconst 1, 1) := by decide +kernel
theorem dX1_bringIn_59 : decode cX1_bringIn 59 = .ok (.isub, 1) := by decide +kernel
theorem dX1_bringIn_60 : decode cX1_bringIn 60 = .ok (.iastore, 1) := by decide +kernel
theorem dX1_bringIn_61 : decode cX1_bringIn 61 = .ok (.aload_n 0, 1) := by decide +kernel
theorem dX1_bringIn_62 : decode cX1_bringIn 62 = .ok (.iload_n 2, 1) := by decide +kernel
theorem dX1_bringIn_63 : decode cX1_bringIn 63 = .ok (.invokevirtual 58, 3) := by decide +kernel
theorem dX1_bringIn_66 : decode cX1_bringIn 66 = .ok (.iconst 1, 1) := by decide +kernel
theorem dX1_bringIn_67 : decode cX1_bringIn 67 = .ok (.ireturn, 1) := by decide +kernel
theorem dX1_spreadCosts_0 : decode cX1_spreadCosts 0 = .ok (.iconst 1, 1) := by decide +kernel
theorem dX1_spreadCosts_1 : decode cX1_spreadCosts 1 = .ok (.istore_n 1, 1) := by decide +kernel
theorem dX1_spreadCosts_2 : decode cX1_spreadCosts 2 = .ok (.iconst 0, 1) := by decide +kernel
theorem dX1_spreadCosts_3 : decode cX1_spreadCosts 3 = .ok (.istore_n 2, 1) := by decide +kernel
theorem dX1_spreadCosts_4 : decode cX1_spreadCosts 4 = .ok (.iload_n 2, 1) := by decide +kernel
theorem dX1_spreadCosts_5 : decode cX1_spreadCosts 5 = .ok (.aload_n 0, 1) := by decide +kernel
theorem dX1_spreadCosts_6 : decode cX1_spreadCosts 6 = .ok (.getfield 31, 3) := by decide +kernel
theorem dX1_spreadCosts_9 : decode cX1_spreadCosts 9 = .ok (.if_icmp .ge 51, 3) := by decide +kernel
theorem dX1_spreadCosts_12 : decode cX1_spreadCosts 12 = .ok (.iload_n 1, 1) := by decide +kernel
theorem dX1_spreadCosts_13 : decode cX1_spreadCosts 13 = .ok (.ifCond .eq 47, 3) := by decide +kernel
theorem dX1_spreadCosts_16 : decode cX1_spreadCosts 16 = .ok (.iconst 0, 1) := by decide +kernel
theorem dX1_spreadCosts_17 : decode cX1_spreadCosts 17 = .ok (.istore_n 1, 1) := by decide +kernel
theorem dX1_spreadCosts_18 : decode cX1_spreadCosts 18 = .ok (.iconst 0, 1) := by decide +kernel
theorem dX1_spreadCosts_19 : decode cX1_spreadCosts 19 = .ok (.istore_n 3, 1) := by decide +kernel
theorem dX1_spreadCosts_20 : decode cX1_spreadCosts 20 = .ok (.iload_n 3, 1) := by decide +kernel
theorem dX1_spreadCosts_21 : decode cX1_spreadCosts 21 = .ok (.aload_n 0, 1) := by decide +kernel
theorem dX1_spreadCosts_22 : decode cX1_spreadCosts 22 = .ok (.getfield 27, 3) := by decide +kernel
theorem dX1_spreadCosts_25 : decode cX1_spreadCosts 25 = .ok (.if_icmp .ge 29, 3) := by decide +kernel
theorem dX1_spreadCosts_28 : decode cX1_spreadCosts 28 = .ok (.aload_n 0, 1) := by decide +kernel
theorem dX1_spreadCosts_29 : decode cX1_spreadCosts 29 = .ok (.getfield 15, 3) := by decide +kernel
theorem dX1_spreadCosts_32 : decode cX1_spreadCosts 32 = .ok (.iload_n 3, 1) := by decide +kernel
theorem dX1_spreadCosts_33 : decode cX1_spreadCosts 33 = .ok (.iaload, 1) := by decide +kernel
theorem dX1_spreadCosts_34 : decode cX1_spreadCosts 34 = .ok (.iconst (-1), 1) := by decide +kernel
theorem dX1_spreadCosts_35 : decode cX1_spreadCosts 35 = .ok (.if_icmp .eq 13, 3) := by decide +kernel
theorem dX1_spreadCosts_38 : decode cX1_spreadCosts 38 = .ok (.aload_n 0, 1) := by decide +kernel
theorem dX1_spreadCosts_39 : decode cX1_spreadCosts 39 = .ok (.iload_n 3, 1) := by decide +kernel
theorem dX1_spreadCosts_40 : decode cX1_spreadCosts 40 = .ok (.invokevirtual 62, 3) := by decide +kernel
theorem dX1_spreadCosts_43 : decode cX1_spreadCosts 43 = .ok (.ifCond .eq 5, 3) := by decide +kernel
theorem dX1_spreadCosts_46 : decode cX1_spreadCosts 46 = .ok (.iconst 1, 1) := by decide +kernel
theorem dX1_spreadCosts_47 : decode cX1_spreadCosts 47 = .ok (.istore_n 1, 1) := by decide +kernel
theorem dX1_spreadCosts_48 : decode cX1_spreadCosts 48 = .ok (.iinc 3 1, 3) := by decide +kernel
theorem dX1_spreadCosts_51 : decode cX1_spreadCosts 51 = .ok (.goto (-31), 3) := by decide +kernel
theorem dX1_spreadCosts_54 : decode cX1_spreadCosts 54 = .ok (.iinc 2 1, 3) := by decide +kernel
theorem dX1_spreadCosts_57 : decode cX1_spreadCosts 57 = .ok (.goto (-53), 3) := by decide +kernel
theorem dX1_spreadCosts_60 : decode cX1_spreadCosts 60 = .ok (.return_, 1) := by decide +kernel
theorem dX1_spreadFrom_0 : decode cX1_spreadFrom 0 = .ok (.aload_n 0, 1) := by decide +kernel
theorem dX1_spreadFrom_1 : decode cX1_spreadFrom 1 = .ok (.getfield 15, 3) := by decide +kernel
theorem dX1_spreadFrom_4 : decode cX1_spreadFrom 4 = .ok (.iload_n 1, 1) := by decide +kernel
theorem dX1_spreadFrom_5 : decode cX1_spreadFrom 5 = .ok (.iaload, 1) := by decide +kernel
theorem dX1_spreadFrom_6 : decode cX1_spreadFrom 6 = .ok (.istore_n 2, 1) := by decide +kernel
theorem dX1_spreadFrom_7 : decode cX1_spreadFrom 7 = .ok (.aload_n 0, 1) := by decide +kernel
theorem dX1_spreadFrom_8 : decode cX1_spreadFrom 8 = .ok (.getfield 21, 3) := by decide +kernel
theorem dX1_spreadFrom_11 : decode cX1_spreadFrom 11 = .ok (.iload_n 2, 1) := by decide +kernel
theorem dX1_spreadFrom_12 : decode cX1_spreadFrom 12 = .ok (.iaload, 1) := by decide +kernel
theorem dX1_spreadFrom_13 : decode cX1_spreadFrom 13 = .ok (.sipush 1000, 3) := by decide +kernel
theorem dX1_spreadFrom_16 : decode cX1_spreadFrom 16 = .ok (.if_icmp .lt 5, 3) := by decide +kernel
theorem dX1_spreadFrom_19 : decode cX1_spreadFrom 19 = .ok (.iconst 0, 1) := by decide +kernel
theorem dX1_spreadFrom_20 : decode cX1_spreadFrom 20 = .ok (.ireturn, 1) := by decide +kernel
theorem dX1_spreadFrom_21 : decode cX1_spreadFrom 21 = .ok (.iconst 0, 1) := by decide +kernel
theorem dX1_spreadFrom_22 : decode cX1_spreadFrom 22 = .ok (.istore_n 3, 1) := by decide +kernel
theorem dX1_spreadFrom_23 : decode cX1_spreadFrom 23 = .ok (.aload_n 0, 1) := by decide +kernel
theorem dX1_spreadFrom_24 : decode cX1_spreadFrom 24 = .ok (.getfield 21, 3) := by decide +kernel
theorem dX1_spreadFrom_27 : decode cX1_spreadFrom 27 = .ok (.iload_n 2, 1) := by decide +kernel
theorem dX1_spreadFrom_28 : decode cX1_spreadFrom 28 = .ok (.iaload, 1) := by decide +kernel
theorem dX1_spreadFrom_29 : decode cX1_spreadFrom 29 = .ok (.aload_n 0, 1) := by decide +kernel
theorem dX1_spreadFrom_30 : decode cX1_spreadFrom 30 = .ok (.iload_n 1, 1) := by decide +kernel
theorem dX1_spreadFrom_31 : decode cX1_spreadFrom 31 = .ok (.iload_n 2, 1) := by decide +kernel
theorem dX1_spreadFrom_32 : decode cX1_spreadFrom 32 = .ok (.invokevirtual 47, 3) := by decide +kernel
theorem dX1_spreadFrom_35 : decode cX1_spreadFrom 35 = .ok (.isub, 1) := by decide +kernel
theorem dX1_spreadFrom_36 : decode cX1_spreadFrom 36 = .ok (.istore 4, 2) := by decide +kernel
theorem dX1_spreadFrom_38 : decode cX1_spreadFrom 38 = .ok (.iconst 0, 1) := by decide +kernel
theorem dX1_spreadFrom_39 : decode cX1_spreadFrom 39 = .ok (.istore 5, 2) := by decide +kernel
theorem dX1_spreadFrom_41 : decode cX1_spreadFrom 41 = .ok (.iload 5, 2) := by decide +kernel
theorem dX1_spreadFrom_43 : decode cX1_spreadFrom 43 = .ok (.aload_n 0, 1) := by decide +kernel
theorem dX1_spreadFrom_44 : decode cX1_spreadFrom 44 = .ok (.getfield 31, 3) := by decide +kernel
theorem dX1_spreadFrom_47 : decode cX1_spreadFrom 47 = .ok (.if_icmp .ge 63, 3) := by decide +kernel
theorem dX1_spreadFrom_50 : decode cX1_spreadFrom 50 = .ok (.aload_n 0, 1) := by decide +kernel
theorem dX1_spreadFrom_51 : decode cX1_spreadFrom 51 = .ok (.iload_n 1, 1) := by decide +kernel
theorem dX1_spreadFrom_52 : decode cX1_spreadFrom 52 = .ok (.iload 5, 2) := by decide +kernel
theorem dX1_spreadFrom_54 : decode cX1_spreadFrom 54 = .ok (.invokevirtual 47, 3) := by decide +kernel
theorem dX1_spreadFrom_57 : decode cX1_spreadFrom 57 = .ok (.istore 6, 2) := by decide +kernel
theorem dX1_spreadFrom_59 : decode cX1_spreadFrom 59 = .ok (.iload 6, 2) := by decide +kernel
theorem dX1_spreadFrom_61 : decode cX1_spreadFrom 61 = .ok (.sipush 1000, 3) := by decide +kernel
theorem dX1_spreadFrom_64 : decode cX1_spreadFrom 64 = .ok (.if_icmp .ge 40, 3) := by decide +kernel
theorem dX1_spreadFrom_67 : decode cX1_spreadFrom 67 = .ok (.iload 4, 2) := by decide +kernel
theorem dX1_spreadFrom_69 : decode cX1_spreadFrom 69 = .ok (.iload 6, 2) := by decide +kernel
theorem dX1_spreadFrom_71 : decode cX1_spreadFrom 71 = .ok (.iadd, 1) := by decide +kernel
theorem dX1_spreadFrom_72 : decode cX1_spreadFrom 72 = .ok (.aload_n 0, 1) := by decide +kernel
theorem dX1_spreadFrom_73 : decode cX1_spreadFrom 73 = .ok (.getfield 21, 3) := by decide +kernel
theorem dX1_spreadFrom_76 : decode cX1_spreadFrom 76 = .ok (.iload 5, 2) := by decide +kernel
theorem dX1_spreadFrom_78 : decode cX1_spreadFrom 78 = .ok (.iaload, 1) := by decide +kernel
theorem dX1_spreadFrom_79 : decode cX1_spreadFrom 79 = .ok (.if_icmp .ge 25, 3) := by decide +kernel
theorem dX1_spreadFrom_82 : decode cX1_spreadFrom 82 = .ok (.aload_n 0, 1) := by decide +kernel
theorem dX1_spreadFrom_83 : decode cX1_spreadFrom 83 = .ok (.getfield 21, 3) := by decide +kernel
theorem dX1_spreadFrom_86 : decode cX1_spreadFrom 86 = .ok (.iload 5, 2) := by decide +kernel
theorem dX1_spreadFrom_88 : decode cX1_spreadFrom 88 = .ok (.iload 4, 2) := by decide +kernel
theorem dX1_spreadFrom_90 : decode cX1_spreadFrom 90 = .ok (.iload 6, 2) := by decide +kernel
theorem dX1_spreadFrom_92 : decode cX1_spreadFrom 92 = .ok (.iadd, 1) := by decide +kernel
theorem dX1_spreadFrom_93 : decode cX1_spreadFrom 93 = .ok (.iastore, 1) := by decide +kernel
theorem dX1_spreadFrom_94 : decode cX1_spreadFrom 94 = .ok (.aload_n 0, 1) := by decide +kernel
theorem dX1_spreadFrom_95 : decode cX1_spreadFrom 95 = .ok (.getfield 24, 3) := by decide +kernel
theorem dX1_spreadFrom_98 : decode cX1_spreadFrom 98 = .ok (.iload 5, 2) := by decide +kernel
theorem dX1_spreadFrom_100 : decode cX1_spreadFrom 100 = .ok (.iload_n 1, 1) := by decide +kernel
theorem dX1_spreadFrom_101 : decode cX1_spreadFrom 101 = .ok (.iastore, 1) := by decide +kernel
theorem dX1_spreadFrom_102 : decode cX1_spreadFrom 102 = .ok (.iconst 1, 1) := by decide +kernel
theorem dX1_spreadFrom_103 : decode cX1_spreadFrom 103 = .ok (.istore_n 3, 1) := by decide +kernel
theorem dX1_spreadFrom_104 : decode cX1_spreadFrom 104 = .ok (.iinc 5 1, 3) := by decide +kernel
theorem dX1_spreadFrom_107 : decode cX1_spreadFrom 107 = .ok (.goto (-66), 3) := by decide +kernel
theorem dX1_spreadFrom_110 : decode cX1_spreadFrom 110 = .ok (.iload_n 3, 1) := by decide +kernel
theorem dX1_spreadFrom_111 : decode cX1_spreadFrom 111 = .ok (.ireturn, 1) := by decide +kernel
theorem dX1_cheapestWithRoom_0 : decode cX1_cheapestWithRoom 0 = .ok (.iconst (-1), 1) := by decide +kernel
theorem dX1_cheapestWithRoom_1 : decode cX1_cheapestWithRoom 1 = .ok (.istore_n 1, 1) := by decide +kernel
theorem dX1_cheapestWithRoom_2 : decode cX1_cheapestWithRoom 2 = .ok (.iconst 0, 1) := by decide +kernel
theorem dX1_cheapestWithRoom_3 : decode cX1_cheapestWithRoom 3 = .ok (.istore_n 2, 1) := by decide +kernel
theorem dX1_cheapestWithRoom_4 : decode cX1_cheapestWithRoom 4 = .ok (.iload_n 2, 1) := by decide +kernel
theorem dX1_cheapestWithRoom_5 : decode cX1_cheapestWithRoom 5 = .ok (.aload_n 0, 1) := by decide +kernel
theorem dX1_cheapestWithRoom_6 : decode cX1_cheapestWithRoom 6 = .ok (.getfield 31, 3) := by decide +kernel
theorem dX1_cheapestWithRoom_9 : decode cX1_cheapestWithRoom 9 = .ok (.if_icmp .ge 52, 3) := by decide +kernel
theorem dX1_cheapestWithRoom_12 : decode cX1_cheapestWithRoom 12 = .ok (.aload_n 0, 1) := by decide +kernel
theorem dX1_cheapestWithRoom_13 : decode cX1_cheapestWithRoom 13 = .ok (.getfield 18, 3) := by decide +kernel
theorem dX1_cheapestWithRoom_16 : decode cX1_cheapestWithRoom 16 = .ok (.iload_n 2, 1) := by decide +kernel
theorem dX1_cheapestWithRoom_17 : decode cX1_cheapestWithRoom 17 = .ok (.iaload, 1) := by decide +kernel
theorem dX1_cheapestWithRoom_18 : decode cX1_cheapestWithRoom 18 = .ok (.ifCond .le 37, 3) := by decide +kernel
theorem dX1_cheapestWithRoom_21 : decode cX1_cheapestWithRoom 21 = .ok (.aload_n 0, 1) := by decide +kernel
theorem dX1_cheapestWithRoom_22 : decode cX1_cheapestWithRoom 22 = .ok (.getfield 21, 3) := by decide +kernel
theorem dX1_cheapestWithRoom_25 : decode cX1_cheapestWithRoom 25 = .ok (.iload_n 2, 1) := by decide +kernel
theorem dX1_cheapestWithRoom_26 : decode cX1_cheapestWithRoom 26 = .ok (.iaload, 1) := by decide +kernel
theorem dX1_cheapestWithRoom_27 : decode cX1_cheapestWithRoom 27 = .ok (.sipush 1000, 3) := by decide +kernel
theorem dX1_cheapestWithRoom_30 : decode cX1_cheapestWithRoom 30 = .ok (.if_icmp .ge 25, 3) := by decide +kernel
theorem dX1_cheapestWithRoom_33 : decode cX1_cheapestWithRoom 33 = .ok (.iload_n 1, 1) := by decide +kernel
theorem dX1_cheapestWithRoom_34 : decode cX1_cheapestWithRoom 34 = .ok (.iconst (-1), 1) := by decide +kernel
theorem dX1_cheapestWithRoom_35 : decode cX1_cheapestWithRoom 35 = .ok (.if_icmp .eq 18, 3) := by decide +kernel
theorem dX1_cheapestWithRoom_38 : decode cX1_cheapestWithRoom 38 = .ok (.aload_n 0, 1) := by decide +kernel
theorem dX1_cheapestWithRoom_39 : decode cX1_cheapestWithRoom 39 = .ok (.getfield 21, 3) := by decide +kernel
theorem dX1_cheapestWithRoom_42 : decode cX1_cheapestWithRoom 42 = .ok (.iload_n 2, 1) := by decide +kernel
theorem dX1_cheapestWithRoom_43 : decode cX1_cheapestWithRoom 43 = .ok (.iaload, 1) := by decide +kernel
theorem dX1_cheapestWithRoom_44 : decode cX1_cheapestWithRoom 44 = .ok (.aload_n 0, 1) := by decide +kernel
theorem dX1_cheapestWithRoom_45 : decode cX1_cheapestWithRoom 45 = .ok (.getfield 21, 3) := by decide +kernel
theorem dX1_cheapestWithRoom_48 : decode cX1_cheapestWithRoom 48 = .ok (.iload_n 1, 1) := by decide +kernel
theorem dX1_cheapestWithRoom_49 : decode cX1_cheapestWithRoom 49 = .ok (.iaload, 1) := by decide +kernel
theorem dX1_cheapestWithRoom_50 : decode cX1_cheapestWithRoom 50 = .ok (.if_icmp .ge 5, 3) := by decide +kernel
theorem dX1_cheapestWithRoom_53 : decode cX1_cheapestWithRoom 53 = .ok (.iload_n 2, 1) := by decide +kernel
theorem dX1_cheapestWithRoom_54 : decode cX1_cheapestWithRoom 54 = .ok (.istore_n 1, 1) := by decide +kernel
theorem dX1_cheapestWithRoom_55 : decode cX1_cheapestWithRoom 55 = .ok (.iinc 2 1, 3) := by decide +kernel
theorem dX1_cheapestWithRoom_58 : decode cX1_cheapestWithRoom 58 = .ok (.goto (-54), 3) := by decide +kernel
theorem dX1_cheapestWithRoom_61 : decode cX1_cheapestWithRoom 61 = .ok (.iload_n 1, 1) := by decide +kernel
theorem dX1_cheapestWithRoom_62 : decode cX1_cheapestWithRoom 62 = .ok (.ireturn, 1) := by decide +kernel
theorem dX1_shiftAlong_0 : decode cX1_shiftAlong 0 = .ok (.iload_n 1, 1) := by decide +kernel
theorem dX1_shiftAlong_1 : decode cX1_shiftAlong 1 = .ok (.istore_n 2, 1) := by decide +kernel
theorem dX1_shiftAlong_2 : decode cX1_shiftAlong 2 = .ok (.iconst 0, 1) := by decide +kernel
theorem dX1_shiftAlong_3 : decode cX1_shiftAlong 3 = .ok (.istore_n 3, 1) := by decide +kernel
theorem dX1_shiftAlong_4 : decode cX1_shiftAlong 4 = .ok (.iload_n 3, 1) := by decide +kernel
theorem dX1_shiftAlong_5 : decode cX1_shiftAlong 5 = .ok (.aload_n 0, 1) := by decide +kernel
theorem dX1_shiftAlong_6 : decode cX1_shiftAlong 6 = .ok (.getfield 31, 3) := by decide +kernel
theorem dX1_shiftAlong_9 : decode cX1_shiftAlong 9 = .ok (.if_icmp .ge 42, 3) := by decide +kernel
theorem dX1_shiftAlong_12 : decode cX1_shiftAlong 12 = .ok (.iload_n 2, 1) := by decide +kernel
theorem dX1_shiftAlong_13 : decode cX1_shiftAlong 13 = .ok (.iconst (-1), 1) := by decide +kernel
theorem dX1_shiftAlong_14 : decode cX1_shiftAlong 14 = .ok (.if_icmp .eq 37, 3) := by decide +kernel
theorem dX1_shiftAlong_17 : decode cX1_shiftAlong 17 = .ok (.aload_n 0, 1) := by decide +kernel
theorem dX1_shiftAlong_18 : decode cX1_shiftAlong 18 = .ok (.getfield 24, 3) := by decide +kernel
theorem dX1_shiftAlong_21 : decode cX1_shiftAlong 21 = .ok (.iload_n 2, 1) := by decide +kernel
theorem dX1_shiftAlong_22 : decode cX1_shiftAlong 22 = .ok (.iaload, 1) := by decide +kernel
theorem dX1_shiftAlong_23 : decode cX1_shiftAlong 23 = .ok (.istore 4, 2) := by decide +kernel
theorem dX1_shiftAlong_25 : decode cX1_shiftAlong 25 = .ok (.aload_n 0, 1) := by decide +kernel
theorem dX1_shiftAlong_26 : decode cX1_shiftAlong 26 = .ok (.getfield 15, 3) := by decide +kernel
theorem dX1_shiftAlong_29 : decode cX1_shiftAlong 29 = .ok (.iload 4, 2) := by decide +kernel
theorem dX1_shiftAlong_31 : decode cX1_shiftAlong 31 = .ok (.iaload, 1) := by decide +kernel
theorem dX1_shiftAlong_32 : decode cX1_shiftAlong 32 = .ok (.istore 5, 2) := by decide +kernel
theorem dX1_shiftAlong_34 : decode cX1_shiftAlong 34 = .ok (.aload_n 0, 1) := by decide +kernel
theorem dX1_shiftAlong_35 : decode cX1_shiftAlong 35 = .ok (.getfield 15, 3) := by decide +kernel
theorem dX1_shiftAlong_38 : decode cX1_shiftAlong 38 = .ok (.iload 4, 2) := by decide +kernel
theorem dX1_shiftAlong_40 : decode cX1_shiftAlong 40 = .ok (.iload_n 2, 1) := by decide +kernel
theorem dX1_shiftAlong_41 : decode cX1_shiftAlong 41 = .ok (.iastore, 1) := by decide +kernel
theorem dX1_shiftAlong_42 : decode cX1_shiftAlong 42 = .ok (.iload 5, 2) := by decide +kernel
theorem dX1_shiftAlong_44 : decode cX1_shiftAlong 44 = .ok (.istore_n 2, 1) := by decide +kernel
theorem dX1_shiftAlong_45 : decode cX1_shiftAlong 45 = .ok (.iinc 3 1, 3) := by decide +kernel
theorem dX1_shiftAlong_48 : decode cX1_shiftAlong 48 = .ok (.goto (-44), 3) := by decide +kernel
theorem dX1_shiftAlong_51 : decode cX1_shiftAlong 51 = .ok (.return_, 1) := by decide +kernel
theorem dX1_price_0 : decode cX1_price 0 = .ok (.aload_n 0, 1) := by decide +kernel
theorem dX1_price_1 : decode cX1_price 1 = .ok (.getfield 9, 3) := by decide +kernel
theorem dX1_price_4 : decode cX1_price 4 = .ok (.iload_n 1, 1) := by decide +kernel
theorem dX1_price_5 : decode cX1_price 5 = .ok (.bipush 8, 2) := by decide +kernel
theorem dX1_price_7 : decode cX1_price 7 = .ok (.imul, 1) := by decide +kernel
theorem dX1_price_8 : decode cX1_price 8 = .ok (.iload_n 2, 1) := by decide +kernel
theorem dX1_price_9 : decode cX1_price 9 = .ok (.iadd, 1) := by decide +kernel
theorem dX1_price_10 : decode cX1_price 10 = .ok (.iaload, 1) := by decide +kernel
theorem dX1_price_11 : decode cX1_price 11 = .ok (.ireturn, 1) := by decide +kernel
theorem dX2_init_0 : decode cX2_init 0 = .ok (.aload_n 0, 1) := by decide +kernel
theorem dX2_init_1 : decode cX2_init 1 = .ok (.invokespecial 3, 3) := by decide +kernel
theorem dX2_init_4 : decode cX2_init 4 = .ok (.aload_n 0, 1) := by decide +kernel
theorem dX2_init_5 : decode cX2_init 5 = .ok (.sipush 300, 3) := by decide +kernel
theorem dX2_init_8 : decode cX2_init 8 = .ok (.newarray .int, 2) := by decide +kernel
theorem dX2_init_10 : decode cX2_init 10 = .ok (.putfield 11, 3) := by decide +kernel
theorem dX2_init_13 : decode cX2_init 13 = .ok (.aload_n 0, 1) := by decide +kernel
theorem dX2_init_14 : decode cX2_init 14 = .ok (.sipush 300, 3) := by decide +kernel
theorem dX2_init_17 : decode cX2_init 17 = .ok (.newarray .int, 2) := by decide +kernel
theorem dX2_init_19 : decode cX2_init 19 = .ok (.putfield 15, 3) := by decide +kernel
theorem dX2_init_22 : decode cX2_init 22 = .ok (.aload_n 0, 1) := by decide +kernel
theorem dX2_init_23 : decode cX2_init 23 = .ok (.sipush 300, 3) := by decide +kernel
theorem dX2_init_26 : decode cX2_init 26 = .ok (.newarray .int, 2) := by decide +kernel
theorem dX2_init_28 : decode cX2_init 28 = .ok (.putfield 18, 3) := by decide +kernel
theorem dX2_init_31 : decode cX2_init 31 = .ok (.aload_n 0, 1) := by decide +kernel
theorem dX2_init_32 : decode cX2_init 32 = .ok (.bipush 100, 2) := by decide +kernel
theorem dX2_init_34 : decode cX2_init 34 = .ok (.newarray .int, 2) := by decide +kernel
theorem dX2_init_36 : decode cX2_init 36 = .ok (.putfield 21, 3) := by decide +kernel
theorem dX2_init_39 : decode cX2_init 39 = .ok (.aload_n 0, 1) := by decide +kernel
theorem dX2_init_40 : decode cX2_init 40 = .ok (.bipush 100, 2) := by decide +kernel
theorem dX2_init_42 : decode cX2_init 42 = .ok (.newarray .int, 2) := by decide +kernel
theorem dX2_init_44 : decode cX2_init 44 = .ok (.putfield 24, 3) := by decide +kernel
theorem dX2_init_47 : decode cX2_init 47 = .ok (.aload_n 0, 1) := by decide +kernel
theorem dX2_init_48 : decode cX2_init 48 = .ok (.bipush 100, 2) := by decide +kernel
theorem dX2_init_50 : decode cX2_init 50 = .ok (.newarray .int, 2) := by decide +kernel
theorem dX2_init_52 : decode cX2_init 52 = .ok (.putfield 27, 3) := by decide +kernel
theorem dX2_init_55 : decode cX2_init 55 = .ok (.return_, 1) := by decide +kernel
theorem dX2_give_0 : decode cX2_give 0 = .ok (.aload_n 0, 1) := by decide +kernel
theorem dX2_give_1 : decode cX2_give 1 = .ok (.getfield 30, 3) := by decide +kernel
theorem dX2_give_4 : decode cX2_give 4 = .ok (.sipush 300, 3) := by decide +kernel
theorem dX2_give_7 : decode cX2_give 7 = .ok (.if_icmp .lt 5, 3) := by decide +kernel
theorem dX2_give_10 : decode cX2_give 10 = .ok (.iconst 0, 1) := by decide +kernel
theorem dX2_give_11 : decode cX2_give 11 = .ok (.ireturn, 1) := by decide +kernel
theorem dX2_give_12 : decode cX2_give 12 = .ok (.aload_n 0, 1) := by decide +kernel
theorem dX2_give_13 : decode cX2_give 13 = .ok (.getfield 11, 3) := by decide +kernel
theorem dX2_give_16 : decode cX2_give 16 = .ok (.aload_n 0, 1) := by decide +kernel
theorem dX2_give_17 : decode cX2_give 17 = .ok (.getfield 30, 3) := by decide +kernel
theorem dX2_give_20 : decode cX2_give 20 = .ok (.iload_n 1, 1) := by decide +kernel
theorem dX2_give_21 : decode cX2_give 21 = .ok (.iastore, 1) := by decide +kernel
theorem dX2_give_22 : decode cX2_give 22 = .ok (.aload_n 0, 1) := by decide +kernel
theorem dX2_give_23 : decode cX2_give 23 = .ok (.getfield 15, 3) := by decide +kernel
theorem dX2_give_26 : decode cX2_give 26 = .ok (.aload_n 0, 1) := by decide +kernel
theorem dX2_give_27 : decode cX2_give 27 = .ok (.getfield 30, 3) := by decide +kernel
theorem dX2_give_30 : decode cX2_give 30 = .ok (.iload_n 2, 1) := by decide +kernel
theorem dX2_give_31 : decode cX2_give 31 = .ok (.iastore, 1) := by decide +kernel
theorem dX2_give_32 : decode cX2_give 32 = .ok (.aload_n 0, 1) := by decide +kernel
theorem dX2_give_33 : decode cX2_give 33 = .ok (.getfield 18, 3) := by decide +kernel
theorem dX2_give_36 : decode cX2_give 36 = .ok (.aload_n 0, 1) := by decide +kernel
theorem dX2_give_37 : decode cX2_give 37 = .ok (.getfield 30, 3) := by decide +kernel
theorem dX2_give_40 : decode cX2_give 40 = .ok (.iload_n 3, 1) := by decide +kernel
theorem dX2_give_41 : decode cX2_give 41 = .ok (.iastore, 1) := by decide +kernel
theorem dX2_give_42 : decode cX2_give 42 = .ok (.aload_n 0, 1) := by decide +kernel
theorem dX2_give_43 : decode cX2_give 43 = .ok (.dup, 1) := by decide +kernel
theorem dX2_give_44 : decode cX2_give 44 = .ok (.getfield 30, 3) := by decide +kernel
theorem dX2_give_47 : decode cX2_give 47 = .ok (.iconst 1, 1) := by decide +kernel
theorem dX2_give_48 : decode cX2_give 48 = .ok (.iadd, 1) := by decide +kernel
theorem dX2_give_49 : decode cX2_give 49 = .ok (.putfield 30, 3) := by decide +kernel
theorem dX2_give_52 : decode cX2_give 52 = .ok (.iconst 1, 1) := by decide +kernel
theorem dX2_give_53 : decode cX2_give 53 = .ok (.ireturn, 1) := by decide +kernel
theorem dX2_tie_0 : decode cX2_tie 0 = .ok (.aload_n 0, 1) := by decide +kernel
theorem dX2_tie_1 : decode cX2_tie 1 = .ok (.getfield 34, 3) := by decide +kernel
theorem dX2_tie_4 : decode cX2_tie 4 = .ok (.bipush 100, 2) := by decide +kernel
theorem dX2_tie_6 : decode cX2_tie 6 = .ok (.if_icmp .ge 13, 3) := by decide +kernel
theorem dX2_tie_9 : decode cX2_tie 9 = .ok (.aload_n 0, 1) := by decide +kernel
theorem dX2_tie_10 : decode cX2_tie 10 = .ok (.iload_n 2, 1) := by decide +kernel
theorem dX2_tie_11 : decode cX2_tie 11 = .ok (.iload_n 1, 1) := by decide +kernel
theorem dX2_tie_12 : decode cX2_tie 12 = .ok (.iload_n 3, 1) := by decide +kernel
theorem dX2_tie_13 : decode cX2_tie 13 = .ok (.invokevirtual 37, 3) := by decide +kernel
theorem dX2_tie_16 : decode cX2_tie 16 = .ok (.ifCond .eq 5, 3) := by decide +kernel
theorem dX2_tie_19 : decode cX2_tie 19 = .ok (.iconst 0, 1) := by decide +kernel
theorem dX2_tie_20 : decode cX2_tie 20 = .ok (.ireturn, 1) := by decide +kernel
theorem dX2_tie_21 : decode cX2_tie 21 = .ok (.aload_n 0, 1) := by decide +kernel
theorem dX2_tie_22 : decode cX2_tie 22 = .ok (.getfield 21, 3) := by decide +kernel
theorem dX2_tie_25 : decode cX2_tie 25 = .ok (.aload_n 0, 1) := by decide +kernel
theorem dX2_tie_26 : decode cX2_tie 26 = .ok (.getfield 34, 3) := by decide +kernel
theorem dX2_tie_29 : decode cX2_tie 29 = .ok (.iload_n 1, 1) := by decide +kernel
theorem dX2_tie_30 : decode cX2_tie 30 = .ok (.iastore, 1) := by decide +kernel
theorem dX2_tie_31 : decode cX2_tie 31 = .ok (.aload_n 0, 1) := by decide +kernel
theorem dX2_tie_32 : decode cX2_tie 32 = .ok (.getfield 24, 3) := by decide +kernel
theorem dX2_tie_35 : decode cX2_tie 35 = .ok (.aload_n 0, 1) := by decide +kernel
theorem dX2_tie_36 : decode cX2_tie 36 = .ok (.getfield 34, 3) := by decide +kernel
theorem dX2_tie_39 : decode cX2_tie 39 = .ok (.iload_n 2, 1) := by decide +kernel
theorem dX2_tie_40 : decode cX2_tie 40 = .ok (.iastore, 1) := by decide +kernel
theorem dX2_tie_41 : decode cX2_tie 41 = .ok (.aload_n 0, 1) := by decide +kernel
theorem dX2_tie_42 : decode cX2_tie 42 = .ok (.getfield 27, 3) := by decide +kernel
theorem dX2_tie_45 : decode cX2_tie 45 = .ok (.aload_n 0, 1) := by decide +kernel
theorem dX2_tie_46 : decode cX2_tie 46 = .ok (.getfield 34, 3) := by decide +kernel
theorem dX2_tie_49 : decode cX2_tie 49 = .ok (.iload_n 3, 1) := by decide +kernel
theorem dX2_tie_50 : decode cX2_tie 50 = .ok (.iastore, 1) := by decide +kernel
theorem dX2_tie_51 : decode cX2_tie 51 = .ok (.aload_n 0, 1) := by decide +kernel
theorem dX2_tie_52 : decode cX2_tie 52 = .ok (.dup, 1) := by decide +kernel
theorem dX2_tie_53 : decode cX2_tie 53 = .ok (.getfield 34, 3) := by decide +kernel
theorem dX2_tie_56 : decode cX2_tie 56 = .ok (.iconst 1, 1) := by decide +kernel
theorem dX2_tie_57 : decode cX2_tie 57 = .ok (.iadd, 1) := by decide +kernel
theorem dX2_tie_58 : decode cX2_tie 58 = .ok (.putfield 34, 3) := by decide +kernel
theorem dX2_tie_61 : decode cX2_tie 61 = .ok (.iconst 1, 1) := by decide +kernel
theorem dX2_tie_62 : decode cX2_tie 62 = .ok (.ireturn, 1) := by decide +kernel
theorem dX2_nameOf_0 : decode cX2_nameOf 0 = .ok (.aload_n 0, 1) := by decide +kernel
theorem dX2_nameOf_1 : decode cX2_nameOf 1 = .ok (.iload_n 1, 1) := by decide +kernel
theorem dX2_nameOf_2 : decode cX2_nameOf 2 = .ok (.iload_n 2, 1) := by decide +kernel
theorem dX2_nameOf_3 : decode cX2_nameOf 3 = .ok (.invokevirtual 41, 3) := by decide +kernel
theorem dX2_nameOf_6 : decode cX2_nameOf 6 = .ok (.istore 4, 2) := by decide +kernel
theorem dX2_nameOf_8 : decode cX2_nameOf 8 = .ok (.iconst 0, 1) := by decide +kernel
theorem dX2_nameOf_9 : decode cX2_nameOf 9 = .ok (.istore 5, 2) := by decide +kernel
theorem dX2_nameOf_11 : decode cX2_nameOf 11 = .ok (.iload 5, 2) := by decide +kernel
theorem dX2_nameOf_13 : decode cX2_nameOf 13 = .ok (.bipush 50, 2) := by decide +kernel
theorem dX2_nameOf_15 : decode cX2_nameOf 15 = .ok (.if_icmp .ge 30, 3) := by decide +kernel
theorem dX2_nameOf_18 : decode cX2_nameOf 18 = .ok (.aload_n 0, 1) := by decide +kernel
theorem dX2_nameOf_19 : decode cX2_nameOf 19 = .ok (.iload 4, 2) := by decide +kernel
theorem dX2_nameOf_21 : decode cX2_nameOf 21 = .ok (.iload_n 3, 1) := by decide +kernel
theorem dX2_nameOf_22 : decode cX2_nameOf 22 = .ok (.invokevirtual 45, 3) := by decide +kernel
theorem dX2_nameOf_25 : decode cX2_nameOf 25 = .ok (.istore 6, 2) := by decide +kernel
theorem dX2_nameOf_27 : decode cX2_nameOf 27 = .ok (.iload 6, 2) := by decide +kernel
theorem dX2_nameOf_29 : decode cX2_nameOf 29 = .ok (.ifCond .ne 6, 3) := by decide +kernel
theorem dX2_nameOf_32 : decode cX2_nameOf 32 = .ok (.iload 4, 2) := by decide +kernel
theorem dX2_nameOf_34 : decode cX2_nameOf 34 = .ok (.ireturn, 1) := by decide +kernel
theorem dX2_nameOf_35 : decode cX2_nameOf 35 = .ok (.iload 6, 2) := by decide +kernel
theorem dX2_nameOf_37 : decode cX2_nameOf 37 = .ok (.istore 4, 2) := by decide +kernel
theorem dX2_nameOf_39 : decode cX2_nameOf 39 = .ok (.iinc 5 1, 3) := by decide +kernel
theorem dX2_nameOf_42 : decode cX2_nameOf 42 = .ok (.goto (-31), 3) := by decide +kernel
theorem dX2_nameOf_45 : decode cX2_nameOf 45 = .ok (.iload 4, 2) := by decide +kernel
theorem dX2_nameOf_47 : decode cX2_nameOf 47 = .ok (.ireturn, 1) := by decide +kernel
theorem dX2_leadsTo_0 : decode cX2_leadsTo 0 = .ok (.iload_n 1, 1) := by decide +kernel
theorem dX2_leadsTo_1 : decode cX2_leadsTo 1 = .ok (.istore 4, 2) := by decide +kernel
theorem dX2_leadsTo_3 : decode cX2_leadsTo 3 = .ok (.iconst 0, 1) := by decide +kernel
theorem dX2_leadsTo_4 : decode cX2_leadsTo 4 = .ok (.istore 5, 2) := by decide +kernel
theorem dX2_leadsTo_6 : decode cX2_leadsTo 6 = .ok (.iload 5, 2) := by decide +kernel
theorem dX2_leadsTo_8 : decode cX2_leadsTo 8 = .ok (.bipush 50, 2) := by decide +kernel
theorem dX2_leadsTo_10 : decode cX2_leadsTo 10 = .ok (.if_icmp .ge 31, 3) := by decide +kernel
theorem dX2_leadsTo_13 : decode cX2_leadsTo 13 = .ok (.iload 4, 2) := by decide +kernel
theorem dX2_leadsTo_15 : decode cX2_leadsTo 15 = .ok (.ifCond .eq 26, 3) := by decide +kernel
theorem dX2_leadsTo_18 : decode cX2_leadsTo 18 = .ok (.iload 4, 2) := by decide +kernel
theorem dX2_leadsTo_20 : decode cX2_leadsTo 20 = .ok (.iload_n 2, 1) := by decide +kernel
theorem dX2_leadsTo_21 : decode cX2_leadsTo 21 = .ok (.if_icmp .ne 5, 3) := by decide +kernel
theorem dX2_leadsTo_24 : decode cX2_leadsTo 24 = .ok (.iconst 1, 1) := by decide +kernel
theorem dX2_leadsTo_25 : decode cX2_leadsTo 25 = .ok (.ireturn, 1) := by decide +kernel
theorem dX2_leadsTo_26 : decode cX2_leadsTo 26 = .ok (.aload_n 0, 1) := by decide +kernel
theorem dX2_leadsTo_27 : decode cX2_leadsTo 27 = .ok (.iload 4, 2) := by decide +kernel
theorem dX2_leadsTo_29 : decode cX2_leadsTo 29 = .ok (.iload_n 3, 1) := by decide +kernel
theorem dX2_leadsTo_30 : decode cX2_leadsTo 30 = .ok (.invokevirtual 45, 3) := by decide +kernel
theorem dX2_leadsTo_33 : decode cX2_leadsTo 33 = .ok (.istore 4, 2) := by decide +kernel
theorem dX2_leadsTo_35 : decode cX2_leadsTo 35 = .ok (.iinc 5 1, 3) := by decide +kernel
theorem dX2_leadsTo_38 : decode cX2_leadsTo 38 = .ok (.goto (-32), 3) := by decide +kernel
theorem dX2_leadsTo_41 : decode cX2_leadsTo 41 = .ok (.iconst 0, 1) := by decide +kernel
theorem dX2_leadsTo_42 : decode cX2_leadsTo 42 = .ok (.ireturn, 1) := by decide +kernel
theorem dX2_givenAsOf_0 : decode cX2_givenAsOf 0 = .ok (.aload_n 0, 1) := by decide +kernel
theorem dX2_givenAsOf_1 : decode cX2_givenAsOf 1 = .ok (.getfield 30, 3) := by decide +kernel
theorem dX2_givenAsOf_4 : decode cX2_givenAsOf 4 = .ok (.iconst 1, 1) := by decide +kernel
theorem dX2_givenAsOf_5 : decode cX2_givenAsOf 5 = .ok (.isub, 1) := by decide +kernel
theorem dX2_givenAsOf_6 : decode cX2_givenAsOf 6 = .ok (.istore_n 3, 1) := by decide +kernel
theorem dX2_givenAsOf_7 : decode cX2_givenAsOf 7 = .ok (.iload_n 3, 1) := by decide +kernel
theorem dX2_givenAsOf_8 : decode cX2_givenAsOf 8 = .ok (.ifCond .lt 36, 3) := by decide +kernel
theorem dX2_givenAsOf_11 : decode cX2_givenAsOf 11 = .ok (.aload_n 0, 1) := by decide +kernel
theorem dX2_givenAsOf_12 : decode cX2_givenAsOf 12 = .ok (.getfield 11, 3) := by decide +kernel
theorem dX2_givenAsOf_15 : decode cX2_givenAsOf 15 = .ok (.iload_n 3, 1) := by decide +kernel
theorem dX2_givenAsOf_16 : decode cX2_givenAsOf 16 = .ok (.iaload, 1) := by decide +kernel
theorem dX2_givenAsOf_17 : decode cX2_givenAsOf 17 = .ok (.iload_n 1, 1) := by decide +kernel
theorem dX2_givenAsOf_18 : decode cX2_givenAsOf 18 = .ok (.if_icmp .ne 20, 3) := by decide +kernel
theorem dX2_givenAsOf_21 : decode cX2_givenAsOf 21 = .ok (.aload_n 0, 1) := by decide +kernel
theorem dX2_givenAsOf_22 : decode cX2_givenAsOf 22 = .ok (.getfield 18, 3) := by decide +kernel
theorem dX2_givenAsOf_25 : decode cX2_givenAsOf 25 = .ok (.iload_n 3, 1) := by decide +kernel
theorem dX2_givenAsOf_26 : decode cX2_givenAsOf 26 = .ok (.iaload, 1) := by decide +kernel
theorem dX2_givenAsOf_27 : decode cX2_givenAsOf 27 = .ok (.iload_n 2, 1) := by decide +kernel
theorem dX2_givenAsOf_28 : decode cX2_givenAsOf 28 = .ok (.if_icmp .gt 10, 3) := by decide +kernel
theorem dX2_givenAsOf_31 : decode cX2_givenAsOf 31 = .ok (.aload_n 0, 1) := by decide +kernel
theorem dX2_givenAsOf_32 : decode cX2_givenAsOf 32 = .ok (.getfield 15, 3) := by decide +kernel
theorem dX2_givenAsOf_35 : decode cX2_givenAsOf 35 = .ok (.iload_n 3, 1) := by decide +kernel
theorem dX2_givenAsOf_36 : decode cX2_givenAsOf 36 = .ok (.iaload, 1) := by decide +kernel
theorem dX2_givenAsOf_37 : decode cX2_givenAsOf 37 = .ok (.ireturn, 1) := by decide +kernel
theorem dX2_givenAsOf_38 : decode cX2_givenAsOf 38 = .ok (.iinc 3 (-1), 3) := by decide +kernel
theorem dX2_givenAsOf_41 : decode cX2_givenAsOf 41 = .ok (.goto (-34), 3) := by decide +kernel
theorem dX2_givenAsOf_44 : decode cX2_givenAsOf 44 = .ok (.iconst 0, 1) := by decide +kernel
theorem dX2_givenAsOf_45 : decode cX2_givenAsOf 45 = .ok (.ireturn, 1) := by decide +kernel
theorem dX2_tiedAsOf_0 : decode cX2_tiedAsOf 0 = .ok (.aload_n 0, 1) := by decide +kernel
theorem dX2_tiedAsOf_1 : decode cX2_tiedAsOf 1 = .ok (.getfield 34, 3) := by decide +kernel
theorem dX2_tiedAsOf_4 : decode cX2_tiedAsOf 4 = .ok (.iconst 1, 1) := by decide +kernel
theorem dX2_tiedAsOf_5 : decode cX2_tiedAsOf 5 = .ok (.isub, 1) := by decide +kernel
theorem dX2_tiedAsOf_6 : decode cX2_tiedAsOf 6 = .ok (.istore_n 3, 1) := by decide +kernel
theorem dX2_tiedAsOf_7 : decode cX2_tiedAsOf 7 = .ok (.iload_n 3, 1) := by decide +kernel
theorem dX2_tiedAsOf_8 : decode cX2_tiedAsOf 8 = .ok (.ifCond .lt 36, 3) := by decide +kernel
theorem dX2_tiedAsOf_11 : decode cX2_tiedAsOf 11 = .ok (.aload_n 0, 1) := by decide +kernel
theorem dX2_tiedAsOf_12 : decode cX2_tiedAsOf 12 = .ok (.getfield 21, 3) := by decide +kernel
theorem dX2_tiedAsOf_15 : decode cX2_tiedAsOf 15 = .ok (.iload_n 3, 1) := by decide +kernel
theorem dX2_tiedAsOf_16 : decode cX2_tiedAsOf 16 = .ok (.iaload, 1) := by decide +kernel
theorem dX2_tiedAsOf_17 : decode cX2_tiedAsOf 17 = .ok (.iload_n 1, 1) := by decide +kernel
theorem dX2_tiedAsOf_18 : decode cX2_tiedAsOf 18 = .ok (.if_icmp .ne 20, 3) := by decide +kernel
theorem dX2_tiedAsOf_21 : decode cX2_tiedAsOf 21 = .ok (.aload_n 0, 1) := by decide +kernel
theorem dX2_tiedAsOf_22 : decode cX2_tiedAsOf 22 = .ok (.getfield 27, 3) := by decide +kernel
theorem dX2_tiedAsOf_25 : decode cX2_tiedAsOf 25 = .ok (.iload_n 3, 1) := by decide +kernel
theorem dX2_tiedAsOf_26 : decode cX2_tiedAsOf 26 = .ok (.iaload, 1) := by decide +kernel
theorem dX2_tiedAsOf_27 : decode cX2_tiedAsOf 27 = .ok (.iload_n 2, 1) := by decide +kernel
theorem dX2_tiedAsOf_28 : decode cX2_tiedAsOf 28 = .ok (.if_icmp .gt 10, 3) := by decide +kernel
theorem dX2_tiedAsOf_31 : decode cX2_tiedAsOf 31 = .ok (.aload_n 0, 1) := by decide +kernel
theorem dX2_tiedAsOf_32 : decode cX2_tiedAsOf 32 = .ok (.getfield 24, 3) := by decide +kernel
theorem dX2_tiedAsOf_35 : decode cX2_tiedAsOf 35 = .ok (.iload_n 3, 1) := by decide +kernel
theorem dX2_tiedAsOf_36 : decode cX2_tiedAsOf 36 = .ok (.iaload, 1) := by decide +kernel
theorem dX2_tiedAsOf_37 : decode cX2_tiedAsOf 37 = .ok (.ireturn, 1) := by decide +kernel
theorem dX2_tiedAsOf_38 : decode cX2_tiedAsOf 38 = .ok (.iinc 3 (-1), 3) := by decide +kernel
theorem dX2_tiedAsOf_41 : decode cX2_tiedAsOf 41 = .ok (.goto (-34), 3) := by decide +kernel
theorem dX2_tiedAsOf_44 : decode cX2_tiedAsOf 44 = .ok (.iconst 0, 1) := by decide +kernel
theorem dX2_tiedAsOf_45 : decode cX2_tiedAsOf 45 = .ok (.ireturn, 1) := by decide +kernel
theorem dX3_init_0 : decode cX3_init 0 = .ok (.aload_n 0, 1) := by decide +kernel
theorem dX3_init_1 : decode cX3_init 1 = .ok (.invokespecial 3, 3) := by decide +kernel
theorem dX3_init_4 : decode cX3_init 4 = .ok (.aload_n 0, 1) := by decide +kernel
theorem dX3_init_5 : decode cX3_init 5 = .ok (.bipush 8, 2) := by decide +kernel
theorem dX3_init_7 : decode cX3_init 7 = .ok (.newarray .int, 2) := by decide +kernel
theorem dX3_init_9 : decode cX3_init 9 = .ok (.putfield 9, 3) := by decide +kernel
theorem dX3_init_12 : decode cX3_init 12 = .ok (.aload_n 0, 1) := by decide +kernel
theorem dX3_init_13 : decode cX3_init 13 = .ok (.bipush 9, 2) := by decide +kernel
theorem dX3_init_15 : decode cX3_init 15 = .ok (.putfield 15, 3) := by decide +kernel
theorem dX3_init_18 : decode cX3_init 18 = .ok (.aload_n 0, 1) := by decide +kernel
theorem dX3_init_19 : decode cX3_init 19 = .ok (.bipush 9, 2) := by decide +kernel
theorem dX3_init_21 : decode cX3_init 21 = .ok (.putfield 19, 3) := by decide +kernel
theorem dX3_init_24 : decode cX3_init 24 = .ok (.aload_n 0, 1) := by decide +kernel
theorem dX3_init_25 : decode cX3_init 25 = .ok (.iconst (-1), 1) := by decide +kernel
theorem dX3_init_26 : decode cX3_init 26 = .ok (.putfield 22, 3) := by decide +kernel
theorem dX3_init_29 : decode cX3_init 29 = .ok (.aload_n 0, 1) := by decide +kernel
theorem dX3_init_30 : decode cX3_init 30 = .ok (.iload_n 1, 1) := by decide +kernel
theorem dX3_init_31 : decode cX3_init 31 = .ok (.putfield 25, 3) := by decide +kernel
theorem dX3_init_34 : decode cX3_init 34 = .ok (.aload_n 0, 1) := by decide +kernel
theorem dX3_init_35 : decode cX3_init 35 = .ok (.iconst 0, 1) := by decide +kernel
theorem dX3_init_36 : decode cX3_init 36 = .ok (.putfield 28, 3) := by decide +kernel
theorem dX3_init_39 : decode cX3_init 39 = .ok (.aload_n 0, 1) := by decide +kernel
theorem dX3_init_40 : decode cX3_init 40 = .ok (.aconst_null, 1) := by decide +kernel
theorem dX3_init_41 : decode cX3_init 41 = .ok (.putfield 31, 3) := by decide +kernel
theorem dX3_init_44 : decode cX3_init 44 = .ok (.aload_n 0, 1) := by decide +kernel
theorem dX3_init_45 : decode cX3_init 45 = .ok (.aconst_null, 1) := by decide +kernel
theorem dX3_init_46 : decode cX3_init 46 = .ok (.putfield 35, 3) := by decide +kernel
theorem dX3_init_49 : decode cX3_init 49 = .ok (.aload_n 0, 1) := by decide +kernel
theorem dX3_init_50 : decode cX3_init 50 = .ok (.iload_n 1, 1) := by decide +kernel
theorem dX3_init_51 : decode cX3_init 51 = .ok (.putfield 38, 3) := by decide +kernel
theorem dX3_init_54 : decode cX3_init 54 = .ok (.aload_n 0, 1) := by decide +kernel
theorem dX3_init_55 : decode cX3_init 55 = .ok (.iload_n 2, 1) := by decide +kernel
theorem dX3_init_56 : decode cX3_init 56 = .ok (.putfield 41, 3) := by decide +kernel
theorem dX3_init_59 : decode cX3_init 59 = .ok (.aload_n 0, 1) := by decide +kernel
theorem dX3_init_60 : decode cX3_init 60 = .ok (.iconst 0, 1) := by decide +kernel
theorem dX3_init_61 : decode cX3_init 61 = .ok (.putfield 44, 3) := by decide +kernel
theorem dX3_init_64 : decode cX3_init 64 = .ok (.aload_n 0, 1) := by decide +kernel
theorem dX3_init_65 : decode cX3_init 65 = .ok (.iload_n 3, 1) := by decide +kernel
theorem dX3_init_66 : decode cX3_init 66 = .ok (.putfield 48, 3) := by decide +kernel
theorem dX3_init_69 : decode cX3_init 69 = .ok (.return_, 1) := by decide +kernel
theorem dX3_init__0 : decode cX3_init_ 0 = .ok (.aload_n 0, 1) := by decide +kernel
theorem dX3_init__1 : decode cX3_init_ 1 = .ok (.invokespecial 3, 3) := by decide +kernel
theorem dX3_init__4 : decode cX3_init_ 4 = .ok (.aload_n 0, 1) := by decide +kernel
theorem dX3_init__5 : decode cX3_init_ 5 = .ok (.bipush 8, 2) := by decide +kernel
theorem dX3_init__7 : decode cX3_init_ 7 = .ok (.newarray .int, 2) := by decide +kernel
theorem dX3_init__9 : decode cX3_init_ 9 = .ok (.putfield 9, 3) := by decide +kernel
theorem dX3_init__12 : decode cX3_init_ 12 = .ok (.aload_n 0, 1) := by decide +kernel
theorem dX3_init__13 : decode cX3_init_ 13 = .ok (.bipush 9, 2) := by decide +kernel
theorem dX3_init__15 : decode cX3_init_ 15 = .ok (.putfield 15, 3) := by decide +kernel
theorem dX3_init__18 : decode cX3_init_ 18 = .ok (.aload_n 0, 1) := by decide +kernel
theorem dX3_init__19 : decode cX3_init_ 19 = .ok (.bipush 9, 2) := by decide +kernel
theorem dX3_init__21 : decode cX3_init_ 21 = .ok (.putfield 19, 3) := by decide +kernel
theorem dX3_init__24 : decode cX3_init_ 24 = .ok (.aload_n 0, 1) := by decide +kernel
theorem dX3_init__25 : decode cX3_init_ 25 = .ok (.iconst (-1), 1) := by decide +kernel
theorem dX3_init__26 : decode cX3_init_ 26 = .ok (.putfield 22, 3) := by decide +kernel
theorem dX3_init__29 : decode cX3_init_ 29 = .ok (.aload_n 0, 1) := by decide +kernel
theorem dX3_init__30 : decode cX3_init_ 30 = .ok (.iload_n 1, 1) := by decide +kernel
theorem dX3_init__31 : decode cX3_init_ 31 = .ok (.putfield 25, 3) := by decide +kernel
theorem dX3_init__34 : decode cX3_init_ 34 = .ok (.aload_n 0, 1) := by decide +kernel
theorem dX3_init__35 : decode cX3_init_ 35 = .ok (.iload_n 2, 1) := by decide +kernel
theorem dX3_init__36 : decode cX3_init_ 36 = .ok (.putfield 28, 3) := by decide +kernel
theorem dX3_init__39 : decode cX3_init_ 39 = .ok (.aload_n 0, 1) := by decide +kernel
theorem dX3_init__40 : decode cX3_init_ 40 = .ok (.aload_n 3, 1) := by decide +kernel
theorem dX3_init__41 : decode cX3_init_ 41 = .ok (.putfield 31, 3) := by decide +kernel
theorem dX3_init__44 : decode cX3_init_ 44 = .ok (.aload_n 0, 1) := by decide +kernel
theorem dX3_init__45 : decode cX3_init_ 45 = .ok (.aload 4, 2) := by decide +kernel
theorem dX3_init__47 : decode cX3_init_ 47 = .ok (.putfield 35, 3) := by decide +kernel
theorem dX3_init__50 : decode cX3_init_ 50 = .ok (.aload_n 0, 1) := by decide +kernel
theorem dX3_init__51 : decode cX3_init_ 51 = .ok (.aload_n 3, 1) := by decide +kernel
theorem dX3_init__52 : decode cX3_init_ 52 = .ok (.getfield 38, 3) := by decide +kernel
theorem dX3_init__55 : decode cX3_init_ 55 = .ok (.putfield 38, 3) := by decide +kernel
theorem dX3_init__58 : decode cX3_init_ 58 = .ok (.aload_n 0, 1) := by decide +kernel
theorem dX3_init__59 : decode cX3_init_ 59 = .ok (.aload_n 3, 1) := by decide +kernel
theorem dX3_init__60 : decode cX3_init_ 60 = .ok (.getfield 41, 3) := by decide +kernel
theorem dX3_init__63 : decode cX3_init_ 63 = .ok (.putfield 41, 3) := by decide +kernel
theorem dX3_init__66 : decode cX3_init_ 66 = .ok (.aload_n 0, 1) := by decide +kernel
theorem dX3_init__67 : decode cX3_init_ 67 = .ok (.iload_n 2, 1) := by decide +kernel
theorem dX3_init__68 : decode cX3_init_ 68 = .ok (.iconst 2, 1) := by decide +kernel
theorem dX3_init__69 : decode cX3_init_ 69 = .ok (.if_icmp .eq 15, 3) := by decide +kernel
theorem dX3_init__72 : decode cX3_init_ 72 = .ok (.iload_n 2, 1) := by decide +kernel
theorem dX3_init__73 : decode cX3_init_ 73 = .ok (.iconst 3, 1) := by decide +kernel
theorem dX3_init__74 : decode cX3_init_ 74 = .ok (.if_icmp .ne 14, 3) := by decide +kernel
theorem dX3_init__77 : decode cX3_init_ 77 = .ok (.aload_n 3, 1) := by decide +kernel
theorem dX3_init__78 : decode cX3_init_ 78 = .ok (.getfield 44, 3) := by decide +kernel
theorem dX3_init__81 : decode cX3_init_ 81 = .ok (.ifCond .eq 7, 3) := by decide +kernel
theorem dX3_init__84 : decode cX3_init_ 84 = .ok (.iconst 1, 1) := by decide +kernel
theorem dX3_init__85 : decode cX3_init_ 85 = .ok (.goto 4, 3) := by decide +kernel
theorem dX3_init__88 : decode cX3_init_ 88 = .ok (.iconst 0, 1) := by decide +kernel
theorem dX3_init__89 : decode cX3_init_ 89 = .ok (.putfield 44, 3) := by decide +kernel
theorem dX3_init__92 : decode cX3_init_ 92 = .ok (.aload_n 0, 1) := by decide +kernel
theorem dX3_init__93 : decode cX3_init_ 93 = .ok (.iload 5, 2) := by decide +kernel
theorem dX3_init__95 : decode cX3_init_ 95 = .ok (.putfield 48, 3) := by decide +kernel
theorem dX3_init__98 : decode cX3_init_ 98 = .ok (.iload_n 2, 1) := by decide +kernel
theorem dX3_init__99 : decode cX3_init_ 99 = .ok (.iconst 1, 1) := by decide +kernel
theorem dX3_init__100 : decode cX3_init_ 100 = .ok (.if_icmp .eq 21, 3) := by decide +kernel
theorem dX3_init__103 : decode cX3_init_ 103 = .ok (.aload_n 3, 1) := by decide +kernel
theorem dX3_init__104 : decode cX3_init_ 104 = .ok (.getfield 9, 3) := by decide +kernel
theorem dX3_init__107 : decode cX3_init_ 107 = .ok (.iconst 0, 1) := by decide +kernel
theorem dX3_init__108 : decode cX3_init_ 108 = .ok (.aload_n 0, 1) := by decide +kernel
theorem dX3_init__109 : decode cX3_init_ 109 = .ok (.getfield 9, 3) := by decide +kernel
theorem dX3_init__112 : decode cX3_init_ 112 = .ok (.iconst 0, 1) := by decide +kernel
theorem dX3_init__113 : decode cX3_init_ 113 = .ok (.aload_n 0, 1) := by decide +kernel
theorem dX3_init__114 : decode cX3_init_ 114 = .ok (.getfield 9, 3) := by decide +kernel
theorem dX3_init__117 : decode cX3_init_ 117 = .ok (.arraylength, 1) := by decide +kernel
theorem dX3_init__118 : decode cX3_init_ 118 = .ok (.invokestatic 51, 3) := by decide +kernel
theorem dX3_init__121 : decode cX3_init_ 121 = .ok (.return_, 1) := by decide +kernel
theorem dX3_setMarks_0 : decode cX3_setMarks 0 = .ok (.aload_n 0, 1) := by decide +kernel
theorem dX3_setMarks_1 : decode cX3_setMarks 1 = .ok (.getfield 9, 3) := by decide +kernel
theorem dX3_setMarks_4 : decode cX3_setMarks 4 = .ok (.iconst 2, 1) := by decide +kernel
theorem dX3_setMarks_5 : decode cX3_setMarks 5 = .ok (.iload_n 1, 1) := by decide +kernel
theorem dX3_setMarks_6 : decode cX3_setMarks 6 = .ok (.imul, 1) := by decide +kernel
theorem dX3_setMarks_7 : decode cX3_setMarks 7 = .ok (.iload_n 2, 1) := by decide +kernel
theorem dX3_setMarks_8 : decode cX3_setMarks 8 = .ok (.iastore, 1) := by decide +kernel
theorem dX3_setMarks_9 : decode cX3_setMarks 9 = .ok (.aload_n 0, 1) := by decide +kernel
theorem dX3_setMarks_10 : decode cX3_setMarks 10 = .ok (.getfield 9, 3) := by decide +kernel
theorem dX3_setMarks_13 : decode cX3_setMarks 13 = .ok (.iconst 2, 1) := by decide +kernel
theorem dX3_setMarks_14 : decode cX3_setMarks 14 = .ok (.iload_n 1, 1) := by decide +kernel
theorem dX3_setMarks_15 : decode cX3_setMarks 15 = .ok (.imul, 1) := by decide +kernel
theorem dX3_setMarks_16 : decode cX3_setMarks 16 = .ok (.iconst 1, 1) := by decide +kernel
theorem dX3_setMarks_17 : decode cX3_setMarks 17 = .ok (.iadd, 1) := by decide +kernel
theorem dX3_setMarks_18 : decode cX3_setMarks 18 = .ok (.iload_n 3, 1) := by decide +kernel
theorem dX3_setMarks_19 : decode cX3_setMarks 19 = .ok (.iastore, 1) := by decide +kernel
theorem dX3_setMarks_20 : decode cX3_setMarks 20 = .ok (.return_, 1) := by decide +kernel
theorem dX3_suits_0 : decode cX3_suits 0 = .ok (.aload_n 1, 1) := by decide +kernel
theorem dX3_suits_1 : decode cX3_suits 1 = .ok (.getfield 57, 3) := by decide +kernel
theorem dX3_suits_4 : decode cX3_suits 4 = .ok (.aload_n 0, 1) := by decide +kernel
theorem dX3_suits_5 : decode cX3_suits 5 = .ok (.getfield 62, 3) := by decide +kernel
theorem dX3_suits_8 : decode cX3_suits 8 = .ok (.aload_n 0, 1) := by decide +kernel
theorem dX3_suits_9 : decode cX3_suits 9 = .ok (.getfield 15, 3) := by decide +kernel
theorem dX3_suits_12 : decode cX3_suits 12 = .ok (.invokestatic 65, 3) := by decide +kernel
theorem dX3_suits_15 : decode cX3_suits 15 = .ok (.ifCond .eq 25, 3) := by decide +kernel
theorem dX3_suits_18 : decode cX3_suits 18 = .ok (.aload_n 1, 1) := by decide +kernel
theorem dX3_suits_19 : decode cX3_suits 19 = .ok (.getfield 69, 3) := by decide +kernel
theorem dX3_suits_22 : decode cX3_suits 22 = .ok (.aload_n 0, 1) := by decide +kernel
theorem dX3_suits_23 : decode cX3_suits 23 = .ok (.getfield 72, 3) := by decide +kernel
theorem dX3_suits_26 : decode cX3_suits 26 = .ok (.aload_n 0, 1) := by decide +kernel
theorem dX3_suits_27 : decode cX3_suits 27 = .ok (.getfield 19, 3) := by decide +kernel
theorem dX3_suits_30 : decode cX3_suits 30 = .ok (.invokestatic 65, 3) := by decide +kernel
theorem dX3_suits_33 : decode cX3_suits 33 = .ok (.ifCond .eq 7, 3) := by decide +kernel
theorem dX3_suits_36 : decode cX3_suits 36 = .ok (.iconst 1, 1) := by decide +kernel
theorem dX3_suits_37 : decode cX3_suits 37 = .ok (.goto 4, 3) := by decide +kernel
theorem dX3_suits_40 : decode cX3_suits 40 = .ok (.iconst 0, 1) := by decide +kernel
theorem dX3_suits_41 : decode cX3_suits 41 = .ok (.ireturn, 1) := by decide +kernel
theorem dX3_diesByCheck_0 : decode cX3_diesByCheck 0 = .ok (.aload_n 0, 1) := by decide +kernel
theorem dX3_diesByCheck_1 : decode cX3_diesByCheck 1 = .ok (.getfield 75, 3) := by decide +kernel
theorem dX3_diesByCheck_4 : decode cX3_diesByCheck 4 = .ok (.istore_n 1, 1) := by decide +kernel
theorem dX3_diesByCheck_5 : decode cX3_diesByCheck 5 = .ok (.aload_n 0, 1) := by decide +kernel
theorem dX3_diesByCheck_6 : decode cX3_diesByCheck 6 = .ok (.getfield 78, 3) := by decide +kernel
theorem dX3_diesByCheck_9 : decode cX3_diesByCheck 9 = .ok (.ifCond .le 24, 3) := by decide +kernel
theorem dX3_diesByCheck_12 : decode cX3_diesByCheck 12 = .ok (.aload_n 0, 1) := by decide +kernel
theorem dX3_diesByCheck_13 : decode cX3_diesByCheck 13 = .ok (.iconst 0, 1) := by decide +kernel
theorem dX3_diesByCheck_14 : decode cX3_diesByCheck 14 = .ok (.putfield 81, 3) := by decide +kernel
theorem dX3_diesByCheck_17 : decode cX3_diesByCheck 17 = .ok (.aload_n 0, 1) := by decide +kernel
theorem dX3_diesByCheck_18 : decode cX3_diesByCheck 18 = .ok (.aload_n 0, 1) := by decide +kernel
theorem dX3_diesByCheck_19 : decode cX3_diesByCheck 19 = .ok (.getfield 78, 3) := by decide +kernel
theorem dX3_diesByCheck_22 : decode cX3_diesByCheck 22 = .ok (.putfield 48, 3) := by decide +kernel
theorem dX3_diesByCheck_25 : decode cX3_diesByCheck 25 = .ok (.aload_n 0, 1) := by decide +kernel
theorem dX3_diesByCheck_26 : decode cX3_diesByCheck 26 = .ok (.iconst 0, 1) := by decide +kernel
theorem dX3_diesByCheck_27 : decode cX3_diesByCheck 27 = .ok (.putfield 78, 3) := by decide +kernel
theorem dX3_diesByCheck_30 : decode cX3_diesByCheck 30 = .ok (.goto 13, 3) := by decide +kernel
theorem dX3_diesByCheck_33 : decode cX3_diesByCheck 33 = .ok (.aload_n 0, 1) := by decide +kernel
theorem dX3_diesByCheck_34 : decode cX3_diesByCheck 34 = .ok (.dup, 1) := by decide +kernel
theorem dX3_diesByCheck_35 : decode cX3_diesByCheck 35 = .ok (.getfield 81, 3) := by decide +kernel
theorem dX3_diesByCheck_38 : decode cX3_diesByCheck 38 = .ok (.iconst 1, 1) := by decide +kernel
theorem dX3_diesByCheck_39 : decode cX3_diesByCheck 39 = .ok (.iadd, 1) := by decide +kernel
theorem dX3_diesByCheck_40 : decode cX3_diesByCheck 40 = .ok (.putfield 81, 3) := by decide +kernel
theorem dX3_diesByCheck_43 : decode cX3_diesByCheck 43 = .ok (.aload_n 0, 1) := by decide +kernel
theorem dX3_diesByCheck_44 : decode cX3_diesByCheck 44 = .ok (.aload_n 0, 1) := by decide +kernel
theorem dX3_diesByCheck_45 : decode cX3_diesByCheck 45 = .ok (.getfield 81, 3) := by decide +kernel
theorem dX3_diesByCheck_48 : decode cX3_diesByCheck 48 = .ok (.iconst 2, 1) := by decide +kernel
theorem dX3_diesByCheck_49 : decode cX3_diesByCheck 49 = .ok (.if_icmp .lt 7, 3) := by decide +kernel
theorem dX3_diesByCheck_52 : decode cX3_diesByCheck 52 = .ok (.iconst 1, 1) := by decide +kernel
theorem dX3_diesByCheck_53 : decode cX3_diesByCheck 53 = .ok (.goto 4, 3) := by decide +kernel
theorem dX3_diesByCheck_56 : decode cX3_diesByCheck 56 = .ok (.iconst 0, 1) := by decide +kernel
theorem dX3_diesByCheck_57 : decode cX3_diesByCheck 57 = .ok (.putfield 75, 3) := by decide +kernel
theorem dX3_diesByCheck_60 : decode cX3_diesByCheck 60 = .ok (.aload_n 0, 1) := by decide +kernel
theorem dX3_diesByCheck_61 : decode cX3_diesByCheck 61 = .ok (.getfield 75, 3) := by decide +kernel
theorem dX3_diesByCheck_64 : decode cX3_diesByCheck 64 = .ok (.ifCond .eq 11, 3) := by decide +kernel
theorem dX3_diesByCheck_67 : decode cX3_diesByCheck 67 = .ok (.iload_n 1, 1) := by decide +kernel
theorem dX3_diesByCheck_68 : decode cX3_diesByCheck 68 = .ok (.ifCond .ne 7, 3) := by decide +kernel
theorem dX3_diesByCheck_71 : decode cX3_diesByCheck 71 = .ok (.iconst 1, 1) := by decide +kernel
theorem dX3_diesByCheck_72 : decode cX3_diesByCheck 72 = .ok (.goto 4, 3) := by decide +kernel
theorem dX3_diesByCheck_75 : decode cX3_diesByCheck 75 = .ok (.iconst 0, 1) := by decide +kernel
theorem dX3_diesByCheck_76 : decode cX3_diesByCheck 76 = .ok (.ireturn, 1) := by decide +kernel
theorem dX3_fitsOriginOf_0 : decode cX3_fitsOriginOf 0 = .ok (.aload_n 1, 1) := by decide +kernel
theorem dX3_fitsOriginOf_1 : decode cX3_fitsOriginOf 1 = .ok (.getfield 31, 3) := by decide +kernel
theorem dX3_fitsOriginOf_4 : decode cX3_fitsOriginOf 4 = .ok (.ifnonnull 5, 3) := by decide +kernel
theorem dX3_fitsOriginOf_7 : decode cX3_fitsOriginOf 7 = .ok (.iconst 1, 1) := by decide +kernel
theorem dX3_fitsOriginOf_8 : decode cX3_fitsOriginOf 8 = .ok (.ireturn, 1) := by decide +kernel
theorem dX3_fitsOriginOf_9 : decode cX3_fitsOriginOf 9 = .ok (.iconst 0, 1) := by decide +kernel
theorem dX3_fitsOriginOf_10 : decode cX3_fitsOriginOf 10 = .ok (.istore_n 2, 1) := by decide +kernel
theorem dX3_fitsOriginOf_11 : decode cX3_fitsOriginOf 11 = .ok (.iload_n 2, 1) := by decide +kernel
theorem dX3_fitsOriginOf_12 : decode cX3_fitsOriginOf 12 = .ok (.iconst 4, 1) := by decide +kernel
theorem dX3_fitsOriginOf_13 : decode cX3_fitsOriginOf 13 = .ok (.if_icmp .ge 49, 3) := by decide +kernel
theorem dX3_fitsOriginOf_16 : decode cX3_fitsOriginOf 16 = .ok (.aload_n 1, 1) := by decide +kernel
theorem dX3_fitsOriginOf_17 : decode cX3_fitsOriginOf 17 = .ok (.getfield 28, 3) := by decide +kernel
theorem dX3_fitsOriginOf_20 : decode cX3_fitsOriginOf 20 = .ok (.iconst 1, 1) := by decide +kernel
theorem dX3_fitsOriginOf_21 : decode cX3_fitsOriginOf 21 = .ok (.if_icmp .ne 19, 3) := by decide +kernel
theorem dX3_fitsOriginOf_24 : decode cX3_fitsOriginOf 24 = .ok (.aload_n 0, 1) := by decide +kernel
theorem dX3_fitsOriginOf_25 : decode cX3_fitsOriginOf 25 = .ok (.iload_n 2, 1) := by decide +kernel
theorem dX3_fitsOriginOf_26 : decode cX3_fitsOriginOf 26 = .ok (.aload_n 1, 1) := by decide +kernel
theorem dX3_fitsOriginOf_27 : decode cX3_fitsOriginOf 27 = .ok (.getfield 31, 3) := by decide +kernel
theorem dX3_fitsOriginOf_30 : decode cX3_fitsOriginOf 30 = .ok (.aload_n 1, 1) := by decide +kernel
theorem dX3_fitsOriginOf_31 : decode cX3_fitsOriginOf 31 = .ok (.getfield 35, 3) := by decide +kernel
theorem dX3_fitsOriginOf_34 : decode cX3_fitsOriginOf 34 = .ok (.invokevirtual 84, 3) := by decide +kernel
theorem dX3_fitsOriginOf_37 : decode cX3_fitsOriginOf 37 = .ok (.goto 12, 3) := by decide +kernel
theorem dX3_fitsOriginOf_40 : decode cX3_fitsOriginOf 40 = .ok (.aload_n 0, 1) := by decide +kernel
theorem dX3_fitsOriginOf_41 : decode cX3_fitsOriginOf 41 = .ok (.iload_n 2, 1) := by decide +kernel
theorem dX3_fitsOriginOf_42 : decode cX3_fitsOriginOf 42 = .ok (.aload_n 1, 1) := by decide +kernel
theorem dX3_fitsOriginOf_43 : decode cX3_fitsOriginOf 43 = .ok (.getfield 31, 3) := by decide +kernel
theorem dX3_fitsOriginOf_46 : decode cX3_fitsOriginOf 46 = .ok (.invokevirtual 88, 3) := by decide +kernel
theorem dX3_fitsOriginOf_49 : decode cX3_fitsOriginOf 49 = .ok (.istore_n 3, 1) := by decide +kernel
theorem dX3_fitsOriginOf_50 : decode cX3_fitsOriginOf 50 = .ok (.iload_n 3, 1) := by decide +kernel
theorem dX3_fitsOriginOf_51 : decode cX3_fitsOriginOf 51 = .ok (.ifCond .ne 5, 3) := by decide +kernel
theorem dX3_fitsOriginOf_54 : decode cX3_fitsOriginOf 54 = .ok (.iconst 0, 1) := by decide +kernel
theorem dX3_fitsOriginOf_55 : decode cX3_fitsOriginOf 55 = .ok (.ireturn, 1) := by decide +kernel
theorem dX3_fitsOriginOf_56 : decode cX3_fitsOriginOf 56 = .ok (.iinc 2 1, 3) := by decide +kernel
theorem dX3_fitsOriginOf_59 : decode cX3_fitsOriginOf 59 = .ok (.goto (-48), 3) := by decide +kernel
theorem dX3_fitsOriginOf_62 : decode cX3_fitsOriginOf 62 = .ok (.iconst 1, 1) := by decide +kernel
theorem dX3_fitsOriginOf_63 : decode cX3_fitsOriginOf 63 = .ok (.ireturn, 1) := by decide +kernel
theorem dX3_sameMarks_0 : decode cX3_sameMarks 0 = .ok (.aload_n 0, 1) := by decide +kernel
theorem dX3_sameMarks_1 : decode cX3_sameMarks 1 = .ok (.getfield 9, 3) := by decide +kernel
theorem dX3_sameMarks_4 : decode cX3_sameMarks 4 = .ok (.iconst 2, 1) := by decide +kernel
theorem dX3_sameMarks_5 : decode cX3_sameMarks 5 = .ok (.iload_n 1, 1) := by decide +kernel
theorem dX3_sameMarks_6 : decode cX3_sameMarks 6 = .ok (.imul, 1) := by decide +kernel
theorem dX3_sameMarks_7 : decode cX3_sameMarks 7 = .ok (.iaload, 1) := by decide +kernel
theorem dX3_sameMarks_8 : decode cX3_sameMarks 8 = .ok (.aload_n 2, 1) := by decide +kernel
theorem dX3_sameMarks_9 : decode cX3_sameMarks 9 = .ok (.getfield 9, 3) := by decide +kernel
theorem dX3_sameMarks_12 : decode cX3_sameMarks 12 = .ok (.iconst 2, 1) := by decide +kernel
theorem dX3_sameMarks_13 : decode cX3_sameMarks 13 = .ok (.iload_n 1, 1) := by decide +kernel
theorem dX3_sameMarks_14 : decode cX3_sameMarks 14 = .ok (.imul, 1) := by decide +kernel
theorem dX3_sameMarks_15 : decode cX3_sameMarks 15 = .ok (.iaload, 1) := by decide +kernel
theorem dX3_sameMarks_16 : decode cX3_sameMarks 16 = .ok (.if_icmp .ne 30, 3) := by decide +kernel
theorem dX3_sameMarks_19 : decode cX3_sameMarks 19 = .ok (.aload_n 0, 1) := by decide +kernel
theorem dX3_sameMarks_20 : decode cX3_sameMarks 20 = .ok (.getfield 9, 3) := by decide +kernel
theorem dX3_sameMarks_23 : decode cX3_sameMarks 23 = .ok (.iconst 2, 1) := by decide +kernel
theorem dX3_sameMarks_24 : decode cX3_sameMarks 24 = .ok (.iload_n 1, 1) := by decide +kernel
theorem dX3_sameMarks_25 : decode cX3_sameMarks 25 = .ok (.imul, 1) := by decide +kernel
theorem dX3_sameMarks_26 : decode cX3_sameMarks 26 = .ok (.iconst 1, 1) := by decide +kernel
theorem dX3_sameMarks_27 : decode cX3_sameMarks 27 = .ok (.iadd, 1) := by decide +kernel
theorem dX3_sameMarks_28 : decode cX3_sameMarks 28 = .ok (.iaload, 1) := by decide +kernel
theorem dX3_sameMarks_29 : decode cX3_sameMarks 29 = .ok (.aload_n 2, 1) := by decide +kernel
theorem dX3_sameMarks_30 : decode cX3_sameMarks 30 = .ok (.getfield 9, 3) := by decide +kernel
theorem dX3_sameMarks_33 : decode cX3_sameMarks 33 = .ok (.iconst 2, 1) := by decide +kernel
theorem dX3_sameMarks_34 : decode cX3_sameMarks 34 = .ok (.iload_n 1, 1) := by decide +kernel
theorem dX3_sameMarks_35 : decode cX3_sameMarks 35 = .ok (.imul, 1) := by decide +kernel
theorem dX3_sameMarks_36 : decode cX3_sameMarks 36 = .ok (.iconst 1, 1) := by decide +kernel
theorem dX3_sameMarks_37 : decode cX3_sameMarks 37 = .ok (.iadd, 1) := by decide +kernel
theorem dX3_sameMarks_38 : decode cX3_sameMarks 38 = .ok (.iaload, 1) := by decide +kernel
theorem dX3_sameMarks_39 : decode cX3_sameMarks 39 = .ok (.if_icmp .ne 7, 3) := by decide +kernel
theorem dX3_sameMarks_42 : decode cX3_sameMarks 42 = .ok (.iconst 1, 1) := by decide +kernel
theorem dX3_sameMarks_43 : decode cX3_sameMarks 43 = .ok (.goto 4, 3) := by decide +kernel
theorem dX3_sameMarks_46 : decode cX3_sameMarks 46 = .ok (.iconst 0, 1) := by decide +kernel
theorem dX3_sameMarks_47 : decode cX3_sameMarks 47 = .ok (.ireturn, 1) := by decide +kernel
theorem dX3_fitsParents_0 : decode cX3_fitsParents 0 = .ok (.aload_n 0, 1) := by decide +kernel
theorem dX3_fitsParents_1 : decode cX3_fitsParents 1 = .ok (.getfield 9, 3) := by decide +kernel
theorem dX3_fitsParents_4 : decode cX3_fitsParents 4 = .ok (.iconst 2, 1) := by decide +kernel
theorem dX3_fitsParents_5 : decode cX3_fitsParents 5 = .ok (.iload_n 1, 1) := by decide +kernel
theorem dX3_fitsParents_6 : decode cX3_fitsParents 6 = .ok (.imul, 1) := by decide +kernel
theorem dX3_fitsParents_7 : decode cX3_fitsParents 7 = .ok (.iaload, 1) := by decide +kernel
theorem dX3_fitsParents_8 : decode cX3_fitsParents 8 = .ok (.istore 4, 2) := by decide +kernel
theorem dX3_fitsParents_10 : decode cX3_fitsParents 10 = .ok (.aload_n 0, 1) := by decide +kernel
theorem dX3_fitsParents_11 : decode cX3_fitsParents 11 = .ok (.getfield 9, 3) := by decide +kernel
theorem dX3_fitsParents_14 : decode cX3_fitsParents 14 = .ok (.iconst 2, 1) := by decide +kernel
theorem dX3_fitsParents_15 : decode cX3_fitsParents 15 = .ok (.iload_n 1, 1) := by decide +kernel
theorem dX3_fitsParents_16 : decode cX3_fitsParents 16 = .ok (.imul, 1) := by decide +kernel
theorem dX3_fitsParents_17 : decode cX3_fitsParents 17 = .ok (.iconst 1, 1) := by decide +kernel
theorem dX3_fitsParents_18 : decode cX3_fitsParents 18 = .ok (.iadd, 1) := by decide +kernel
theorem dX3_fitsParents_19 : decode cX3_fitsParents 19 = .ok (.iaload, 1) := by decide +kernel
theorem dX3_fitsParents_20 : decode cX3_fitsParents 20 = .ok (.istore 5, 2) := by decide +kernel
theorem dX3_fitsParents_22 : decode cX3_fitsParents 22 = .ok (.aload_n 3, 1) := by decide +kernel
theorem dX3_fitsParents_23 : decode cX3_fitsParents 23 = .ok (.ifnonnull 29, 3) := by decide +kernel
theorem dX3_fitsParents_26 : decode cX3_fitsParents 26 = .ok (.aload_n 2, 1) := by decide +kernel
theorem dX3_fitsParents_27 : decode cX3_fitsParents 27 = .ok (.iload_n 1, 1) := by decide +kernel
theorem dX3_fitsParents_28 : decode cX3_fitsParents 28 = .ok (.iload 4, 2) := by decide +kernel
theorem dX3_fitsParents_30 : decode cX3_fitsParents 30 = .ok (.invokevirtual 92, 3) := by decide +kernel
theorem dX3_fitsParents_33 : decode cX3_fitsParents 33 = .ok (.ifCond .ne 13, 3) := by decide +kernel
theorem dX3_fitsParents_36 : decode cX3_fitsParents 36 = .ok (.aload_n 2, 1) := by decide +kernel
theorem dX3_fitsParents_37 : decode cX3_fitsParents 37 = .ok (.iload_n 1, 1) := by decide +kernel
theorem dX3_fitsParents_38 : decode cX3_fitsParents 38 = .ok (.iload 5, 2) := by decide +kernel
theorem dX3_fitsParents_40 : decode cX3_fitsParents 40 = .ok (.invokevirtual 92, 3) := by decide +kernel
theorem dX3_fitsParents_43 : decode cX3_fitsParents 43 = .ok (.ifCond .eq 7, 3) := by decide +kernel
theorem dX3_fitsParents_46 : decode cX3_fitsParents 46 = .ok (.iconst 1, 1) := by decide +kernel
theorem dX3_fitsParents_47 : decode cX3_fitsParents 47 = .ok (.goto 4, 3) := by decide +kernel
theorem dX3_fitsParents_50 : decode cX3_fitsParents 50 = .ok (.iconst 0, 1) := by decide +kernel
theorem dX3_fitsParents_51 : decode cX3_fitsParents 51 = .ok (.ireturn, 1) := by decide +kernel
theorem dX3_fitsParents_52 : decode cX3_fitsParents 52 = .ok (.aload_n 2, 1) := by decide +kernel
theorem dX3_fitsParents_53 : decode cX3_fitsParents 53 = .ok (.iload_n 1, 1) := by decide +kernel
theorem dX3_fitsParents_54 : decode cX3_fitsParents 54 = .ok (.iload 4, 2) := by decide +kernel
theorem dX3_fitsParents_56 : decode cX3_fitsParents 56 = .ok (.invokevirtual 92, 3) := by decide +kernel
theorem dX3_fitsParents_59 : decode cX3_fitsParents 59 = .ok (.ifCond .eq 13, 3) := by decide +kernel
theorem dX3_fitsParents_62 : decode cX3_fitsParents 62 = .ok (.aload_n 3, 1) := by decide +kernel
theorem dX3_fitsParents_63 : decode cX3_fitsParents 63 = .ok (.iload_n 1, 1) := by decide +kernel
theorem dX3_fitsParents_64 : decode cX3_fitsParents 64 = .ok (.iload 5, 2) := by decide +kernel
theorem dX3_fitsParents_66 : decode cX3_fitsParents 66 = .ok (.invokevirtual 92, 3) := by decide +kernel
theorem dX3_fitsParents_69 : decode cX3_fitsParents 69 = .ok (.ifCond .ne 23, 3) := by decide +kernel
theorem dX3_fitsParents_72 : decode cX3_fitsParents 72 = .ok (.aload_n 2, 1) := by decide +kernel
theorem dX3_fitsParents_73 : decode cX3_fitsParents 73 = .ok (.iload_n 1, 1) := by decide +kernel
theorem dX3_fitsParents_74 : decode cX3_fitsParents 74 = .ok (.iload 5, 2) := by decide +kernel
theorem dX3_fitsParents_76 : decode cX3_fitsParents 76 = .ok (.invokevirtual 92, 3) := by decide +kernel
theorem dX3_fitsParents_79 : decode cX3_fitsParents 79 = .ok (.ifCond .eq 17, 3) := by decide +kernel
theorem dX3_fitsParents_82 : decode cX3_fitsParents 82 = .ok (.aload_n 3, 1) := by decide +kernel
theorem dX3_fitsParents_83 : decode cX3_fitsParents 83 = .ok (.iload_n 1, 1) := by decide +kernel
theorem dX3_fitsParents_84 : decode cX3_fitsParents 84 = .ok (.iload 4, 2) := by decide +kernel
theorem dX3_fitsParents_86 : decode cX3_fitsParents 86 = .ok (.invokevirtual 92, 3) := by decide +kernel
theorem dX3_fitsParents_89 : decode cX3_fitsParents 89 = .ok (.ifCond .eq 7, 3) := by decide +kernel
theorem dX3_fitsParents_92 : decode cX3_fitsParents 92 = .ok (.iconst 1, 1) := by decide +kernel
theorem dX3_fitsParents_93 : decode cX3_fitsParents 93 = .ok (.goto 4, 3) := by decide +kernel
theorem dX3_fitsParents_96 : decode cX3_fitsParents 96 = .ok (.iconst 0, 1) := by decide +kernel
theorem dX3_fitsParents_97 : decode cX3_fitsParents 97 = .ok (.ireturn, 1) := by decide +kernel
theorem dX3_bears_0 : decode cX3_bears 0 = .ok (.aload_n 0, 1) := by decide +kernel
theorem dX3_bears_1 : decode cX3_bears 1 = .ok (.getfield 9, 3) := by decide +kernel
theorem dX3_bears_4 : decode cX3_bears 4 = .ok (.iconst 2, 1) := by decide +kernel
theorem dX3_bears_5 : decode cX3_bears 5 = .ok (.iload_n 1, 1) := by decide +kernel
theorem dX3_bears_6 : decode cX3_bears 6 = .ok (.imul, 1) := by decide +kernel
theorem dX3_bears_7 : decode cX3_bears 7 = .ok (.iaload, 1) := by decide +kernel
theorem dX3_bears_8 : decode cX3_bears 8 = .ok (.iload_n 2, 1) := by decide +kernel
theorem dX3_bears_9 : decode cX3_bears 9 = .ok (.if_icmp .eq 17, 3) := by decide +kernel
theorem dX3_bears_12 : decode cX3_bears 12 = .ok (.aload_n 0, 1) := by decide +kernel
theorem dX3_bears_13 : decode cX3_bears 13 = .ok (.getfield 9, 3) := by decide +kernel
theorem dX3_bears_16 : decode cX3_bears 16 = .ok (.iconst 2, 1) := by decide +kernel
theorem dX3_bears_17 : decode cX3_bears 17 = .ok (.iload_n 1, 1) := by decide +kernel
theorem dX3_bears_18 : decode cX3_bears 18 = .ok (.imul, 1) := by decide +kernel
theorem dX3_bears_19 : decode cX3_bears 19 = .ok (.iconst 1, 1) := by decide +kernel
theorem dX3_bears_20 : decode cX3_bears 20 = .ok (.iadd, 1) := by decide +kernel
theorem dX3_bears_21 : decode cX3_bears 21 = .ok (.iaload, 1) := by decide +kernel
theorem dX3_bears_22 : decode cX3_bears 22 = .ok (.iload_n 2, 1) := by decide +kernel
theorem dX3_bears_23 : decode cX3_bears 23 = .ok (.if_icmp .ne 7, 3) := by decide +kernel
theorem dX3_bears_26 : decode cX3_bears 26 = .ok (.iconst 1, 1) := by decide +kernel
theorem dX3_bears_27 : decode cX3_bears 27 = .ok (.goto 4, 3) := by decide +kernel
theorem dX3_bears_30 : decode cX3_bears 30 = .ok (.iconst 0, 1) := by decide +kernel
theorem dX3_bears_31 : decode cX3_bears 31 = .ok (.ireturn, 1) := by decide +kernel
theorem dX4_init_0 : decode cX4_init 0 = .ok (.aload_n 0, 1) := by decide +kernel
theorem dX4_init_1 : decode cX4_init 1 = .ok (.invokespecial 3, 3) := by decide +kernel
theorem dX4_init_4 : decode cX4_init 4 = .ok (.aload_n 0, 1) := by decide +kernel
theorem dX4_init_5 : decode cX4_init 5 = .ok (.new 9, 3) := by decide +kernel
theorem dX4_init_8 : decode cX4_init 8 = .ok (.dup, 1) := by decide +kernel
theorem dX4_init_9 : decode cX4_init 9 = .ok (.invokespecial 11, 3) := by decide +kernel
theorem dX4_init_12 : decode cX4_init 12 = .ok (.putfield 12, 3) := by decide +kernel
theorem dX4_init_15 : decode cX4_init 15 = .ok (.aload_n 0, 1) := by decide +kernel
theorem dX4_init_16 : decode cX4_init 16 = .ok (.new 18, 3) := by decide +kernel
theorem dX4_init_19 : decode cX4_init 19 = .ok (.dup, 1) := by decide +kernel
theorem dX4_init_20 : decode cX4_init 20 = .ok (.invokespecial 20, 3) := by decide +kernel
theorem dX4_init_23 : decode cX4_init 23 = .ok (.putfield 21, 3) := by decide +kernel
theorem dX4_init_26 : decode cX4_init 26 = .ok (.return_, 1) := by decide +kernel
theorem dX4_readText_0 : decode cX4_readText 0 = .ok (.aload_n 0, 1) := by decide +kernel
theorem dX4_readText_1 : decode cX4_readText 1 = .ok (.getfield 12, 3) := by decide +kernel
theorem dX4_readText_4 : decode cX4_readText 4 = .ok (.aload_n 1, 1) := by decide +kernel
theorem dX4_readText_5 : decode cX4_readText 5 = .ok (.invokevirtual 25, 3) := by decide +kernel
theorem dX4_readText_8 : decode cX4_readText 8 = .ok (.aload_n 0, 1) := by decide +kernel
theorem dX4_readText_9 : decode cX4_readText 9 = .ok (.getfield 21, 3) := by decide +kernel
theorem dX4_readText_12 : decode cX4_readText 12 = .ok (.invokevirtual 29, 3) := by decide +kernel
theorem dX4_readText_15 : decode cX4_readText 15 = .ok (.aload_n 0, 1) := by decide +kernel
theorem dX4_readText_16 : decode cX4_readText 16 = .ok (.iconst 0, 1) := by decide +kernel
theorem dX4_readText_17 : decode cX4_readText 17 = .ok (.putfield 32, 3) := by decide +kernel
theorem dX4_readText_20 : decode cX4_readText 20 = .ok (.aload_n 0, 1) := by decide +kernel
theorem dX4_readText_21 : decode cX4_readText 21 = .ok (.iconst 0, 1) := by decide +kernel
theorem dX4_readText_22 : decode cX4_readText 22 = .ok (.putfield 36, 3) := by decide +kernel
theorem dX4_readText_25 : decode cX4_readText 25 = .ok (.aload_n 0, 1) := by decide +kernel
theorem dX4_readText_26 : decode cX4_readText 26 = .ok (.aload_n 0, 1) := by decide +kernel
theorem dX4_readText_27 : decode cX4_readText 27 = .ok (.getfield 12, 3) := by decide +kernel
theorem dX4_readText_30 : decode cX4_readText 30 = .ok (.getfield 39, 3) := by decide +kernel
theorem dX4_readText_33 : decode cX4_readText 33 = .ok (.aload_n 0, 1) := by decide +kernel
theorem dX4_readText_34 : decode cX4_readText 34 = .ok (.getfield 36, 3) := by decide +kernel
theorem dX4_readText_37 : decode cX4_readText 37 = .ok (.iaload, 1) := by decide +kernel
theorem dX4_readText_38 : decode cX4_readText 38 = .ok (.putfield 43, 3) := by decide +kernel
theorem dX4_readText_41 : decode cX4_readText 41 = .ok (.iconst 0, 1) := by decide +kernel
theorem dX4_readText_42 : decode cX4_readText 42 = .ok (.istore_n 2, 1) := by decide +kernel
theorem dX4_readText_43 : decode cX4_readText 43 = .ok (.iload_n 2, 1) := by decide +kernel
theorem dX4_readText_44 : decode cX4_readText 44 = .ok (.bipush 16, 2) := by decide +kernel
theorem dX4_readText_46 : decode cX4_readText 46 = .ok (.if_icmp .ge 28, 3) := by decide +kernel
theorem dX4_readText_49 : decode cX4_readText 49 = .ok (.aload_n 0, 1) := by decide +kernel
theorem dX4_readText_50 : decode cX4_readText 50 = .ok (.invokevirtual 46, 3) := by decide +kernel
theorem dX4_readText_53 : decode cX4_readText 53 = .ok (.ifCond .eq 21, 3) := by decide +kernel
theorem dX4_readText_56 : decode cX4_readText 56 = .ok (.aload_n 0, 1) := by decide +kernel
theorem dX4_readText_57 : decode cX4_readText 57 = .ok (.invokevirtual 50, 3) := by decide +kernel
theorem dX4_readText_60 : decode cX4_readText 60 = .ok (.ifCond .ne 8, 3) := by decide +kernel
theorem dX4_readText_63 : decode cX4_readText 63 = .ok (.aload_n 0, 1) := by decide +kernel
theorem dX4_readText_64 : decode cX4_readText 64 = .ok (.getfield 32, 3) := by decide +kernel
theorem dX4_readText_67 : decode cX4_readText 67 = .ok (.ireturn, 1) := by decide +kernel
theorem dX4_readText_68 : decode cX4_readText 68 = .ok (.iinc 2 1, 3) := by decide +kernel
theorem dX4_readText_71 : decode cX4_readText 71 = .ok (.goto (-28), 3) := by decide +kernel
theorem dX4_readText_74 : decode cX4_readText 74 = .ok (.aload_n 0, 1) := by decide +kernel
theorem dX4_readText_75 : decode cX4_readText 75 = .ok (.invokevirtual 46, 3) := by decide +kernel
theorem dX4_readText_78 : decode cX4_readText 78 = .ok (.ifCond .eq 12, 3) := by decide +kernel
theorem dX4_readText_81 : decode cX4_readText 81 = .ok (.aload_n 0, 1) := by decide +kernel
theorem dX4_readText_82 : decode cX4_readText 82 = .ok (.iconst 5, 1) := by decide +kernel
theorem dX4_readText_83 : decode cX4_readText 83 = .ok (.invokevirtual 53, 3) := by decide +kernel
theorem dX4_readText_86 : decode cX4_readText 86 = .ok (.pop, 1) := by decide +kernel
theorem dX4_readText_87 : decode cX4_readText 87 = .ok (.goto 18, 3) := by decide +kernel
theorem dX4_readText_90 : decode cX4_readText 90 = .ok (.aload_n 0, 1) := by decide +kernel
theorem dX4_readText_91 : decode cX4_readText 91 = .ok (.getfield 43, 3) := by decide +kernel
theorem dX4_readText_94 : decode cX4_readText 94 = .ok (.bipush 19, 2) := by decide +kernel
theorem dX4_readText_96 : decode cX4_readText 96 = .ok (.if_icmp .eq 9, 3) := by decide +kernel
theorem dX4_readText_99 : decode cX4_readText 99 = .ok (.aload_n 0, 1) := by decide +kernel
theorem dX4_readText_100 : decode cX4_readText 100 = .ok (.iconst 1, 1) := by decide +kernel
theorem dX4_readText_101 : decode cX4_readText 101 = .ok (.invokevirtual 53, 3) := by decide +kernel
theorem dX4_readText_104 : decode cX4_readText 104 = .ok (.pop, 1) := by decide +kernel
theorem dX4_readText_105 : decode cX4_readText 105 = .ok (.aload_n 0, 1) := by decide +kernel
theorem dX4_readText_106 : decode cX4_readText 106 = .ok (.getfield 32, 3) := by decide +kernel
theorem dX4_readText_109 : decode cX4_readText 109 = .ok (.ireturn, 1) := by decide +kernel
theorem dX4_exchangeDraft_0 : decode cX4_exchangeDraft 0 = .ok (.aload_n 0, 1) := by decide +kernel
theorem dX4_exchangeDraft_1 : decode cX4_exchangeDraft 1 = .ok (.getfield 21, 3) := by decide +kernel
theorem dX4_exchangeDraft_4 : decode cX4_exchangeDraft 4 = .ok (.astore_n 2, 1) := by decide +kernel
theorem dX4_exchangeDraft_5 : decode cX4_exchangeDraft 5 = .ok (.aload_n 0, 1) := by decide +kernel
theorem dX4_exchangeDraft_6 : decode cX4_exchangeDraft 6 = .ok (.aload_n 1, 1) := by decide +kernel
theorem dX4_exchangeDraft_7 : decode cX4_exchangeDraft 7 = .ok (.putfield 21, 3) := by decide +kernel
theorem dX4_exchangeDraft_10 : decode cX4_exchangeDraft 10 = .ok (.aload_n 2, 1) := by decide +kernel
theorem dX4_exchangeDraft_11 : decode cX4_exchangeDraft 11 = .ok (.areturn, 1) := by decide +kernel
theorem dX4_beginsLine_0 : decode cX4_beginsLine 0 = .ok (.aload_n 0, 1) := by decide +kernel
theorem dX4_beginsLine_1 : decode cX4_beginsLine 1 = .ok (.getfield 43, 3) := by decide +kernel
theorem dX4_beginsLine_4 : decode cX4_beginsLine 4 = .ok (.bipush 16, 2) := by decide +kernel
theorem dX4_beginsLine_6 : decode cX4_beginsLine 6 = .ok (.if_icmp .eq 12, 3) := by decide +kernel
theorem dX4_beginsLine_9 : decode cX4_beginsLine 9 = .ok (.aload_n 0, 1) := by decide +kernel
theorem dX4_beginsLine_10 : decode cX4_beginsLine 10 = .ok (.getfield 43, 3) := by decide +kernel
theorem dX4_beginsLine_13 : decode cX4_beginsLine 13 = .ok (.bipush 17, 2) := by decide +kernel
theorem dX4_beginsLine_15 : decode cX4_beginsLine 15 = .ok (.if_icmp .ne 7, 3) := by decide +kernel
theorem dX4_beginsLine_18 : decode cX4_beginsLine 18 = .ok (.iconst 1, 1) := by decide +kernel
theorem dX4_beginsLine_19 : decode cX4_beginsLine 19 = .ok (.goto 4, 3) := by decide +kernel
theorem dX4_beginsLine_22 : decode cX4_beginsLine 22 = .ok (.iconst 0, 1) := by decide +kernel
theorem dX4_beginsLine_23 : decode cX4_beginsLine 23 = .ok (.ireturn, 1) := by decide +kernel
theorem dX4_readLine_0 : decode cX4_readLine 0 = .ok (.aload_n 0, 1) := by decide +kernel
theorem dX4_readLine_1 : decode cX4_readLine 1 = .ok (.getfield 43, 3) := by decide +kernel
theorem dX4_readLine_4 : decode cX4_readLine 4 = .ok (.bipush 16, 2) := by decide +kernel
theorem dX4_readLine_6 : decode cX4_readLine 6 = .ok (.if_icmp .ne 7, 3) := by decide +kernel
theorem dX4_readLine_9 : decode cX4_readLine 9 = .ok (.iconst 1, 1) := by decide +kernel
theorem dX4_readLine_10 : decode cX4_readLine 10 = .ok (.goto 4, 3) := by decide +kernel
theorem dX4_readLine_13 : decode cX4_readLine 13 = .ok (.iconst 0, 1) := by decide +kernel
theorem dX4_readLine_14 : decode cX4_readLine 14 = .ok (.istore_n 1, 1) := by decide +kernel
theorem dX4_readLine_15 : decode cX4_readLine 15 = .ok (.aload_n 0, 1) := by decide +kernel
theorem dX4_readLine_16 : decode cX4_readLine 16 = .ok (.invokevirtual 57, 3) := by decide +kernel
theorem dX4_readLine_19 : decode cX4_readLine 19 = .ok (.aload_n 0, 1) := by decide +kernel
theorem dX4_readLine_20 : decode cX4_readLine 20 = .ok (.bipush 18, 2) := by decide +kernel
theorem dX4_readLine_22 : decode cX4_readLine 22 = .ok (.invokevirtual 60, 3) := by decide +kernel
theorem dX4_readLine_25 : decode cX4_readLine 25 = .ok (.ifCond .eq 20, 3) := by decide +kernel
theorem dX4_readLine_28 : decode cX4_readLine 28 = .ok (.aload_n 0, 1) := by decide +kernel
theorem dX4_readLine_29 : decode cX4_readLine 29 = .ok (.iconst 0, 1) := by decide +kernel
theorem dX4_readLine_30 : decode cX4_readLine 30 = .ok (.invokevirtual 63, 3) := by decide +kernel
theorem dX4_readLine_33 : decode cX4_readLine 33 = .ok (.ifCond .eq 12, 3) := by decide +kernel
theorem dX4_readLine_36 : decode cX4_readLine 36 = .ok (.aload_n 0, 1) := by decide +kernel
theorem dX4_readLine_37 : decode cX4_readLine 37 = .ok (.bipush 15, 2) := by decide +kernel
theorem dX4_readLine_39 : decode cX4_readLine 39 = .ok (.invokevirtual 60, 3) := by decide +kernel
theorem dX4_readLine_42 : decode cX4_readLine 42 = .ok (.ifCond .ne 5, 3) := by decide +kernel
theorem dX4_readLine_45 : decode cX4_readLine 45 = .ok (.iconst 0, 1) := by decide +kernel
theorem dX4_readLine_46 : decode cX4_readLine 46 = .ok (.ireturn, 1) := by decide +kernel
theorem dX4_readLine_47 : decode cX4_readLine 47 = .ok (.aload_n 0, 1) := by decide +kernel
theorem dX4_readLine_48 : decode cX4_readLine 48 = .ok (.getfield 21, 3) := by decide +kernel
theorem dX4_readLine_51 : decode cX4_readLine 51 = .ok (.iload_n 1, 1) := by decide +kernel
theorem dX4_readLine_52 : decode cX4_readLine 52 = .ok (.invokevirtual 66, 3) := by decide +kernel
theorem dX4_readLine_55 : decode cX4_readLine 55 = .ok (.iconst 1, 1) := by decide +kernel
theorem dX4_readLine_56 : decode cX4_readLine 56 = .ok (.ireturn, 1) := by decide +kernel
theorem dX4_readAnds_0 : decode cX4_readAnds 0 = .ok (.aload_n 0, 1) := by decide +kernel
theorem dX4_readAnds_1 : decode cX4_readAnds 1 = .ok (.iload_n 1, 1) := by decide +kernel
theorem dX4_readAnds_2 : decode cX4_readAnds 2 = .ok (.invokevirtual 70, 3) := by decide +kernel
theorem dX4_readAnds_5 : decode cX4_readAnds 5 = .ok (.ifCond .ne 5, 3) := by decide +kernel
theorem dX4_readAnds_8 : decode cX4_readAnds 8 = .ok (.iconst 0, 1) := by decide +kernel
theorem dX4_readAnds_9 : decode cX4_readAnds 9 = .ok (.ireturn, 1) := by decide +kernel
theorem dX4_readAnds_10 : decode cX4_readAnds 10 = .ok (.iconst 0, 1) := by decide +kernel
theorem dX4_readAnds_11 : decode cX4_readAnds 11 = .ok (.istore_n 2, 1) := by decide +kernel
theorem dX4_readAnds_12 : decode cX4_readAnds 12 = .ok (.iload_n 2, 1) := by decide +kernel
theorem dX4_readAnds_13 : decode cX4_readAnds 13 = .ok (.sipush 600, 3) := by decide +kernel
theorem dX4_readAnds_16 : decode cX4_readAnds 16 = .ok (.if_icmp .ge 42, 3) := by decide +kernel
theorem dX4_readAnds_19 : decode cX4_readAnds 19 = .ok (.aload_n 0, 1) := by decide +kernel
theorem dX4_readAnds_20 : decode cX4_readAnds 20 = .ok (.getfield 43, 3) := by decide +kernel
theorem dX4_readAnds_23 : decode cX4_readAnds 23 = .ok (.bipush 14, 2) := by decide +kernel
theorem dX4_readAnds_25 : decode cX4_readAnds 25 = .ok (.if_icmp .ne 33, 3) := by decide +kernel
theorem dX4_readAnds_28 : decode cX4_readAnds 28 = .ok (.aload_n 0, 1) := by decide +kernel
theorem dX4_readAnds_29 : decode cX4_readAnds 29 = .ok (.invokevirtual 57, 3) := by decide +kernel
theorem dX4_readAnds_32 : decode cX4_readAnds 32 = .ok (.aload_n 0, 1) := by decide +kernel
theorem dX4_readAnds_33 : decode cX4_readAnds 33 = .ok (.iload_n 1, 1) := by decide +kernel
theorem dX4_readAnds_34 : decode cX4_readAnds 34 = .ok (.invokevirtual 70, 3) := by decide +kernel
theorem dX4_readAnds_37 : decode cX4_readAnds 37 = .ok (.ifCond .ne 5, 3) := by decide +kernel
theorem dX4_readAnds_40 : decode cX4_readAnds 40 = .ok (.iconst 0, 1) := by decide +kernel
theorem dX4_readAnds_41 : decode cX4_readAnds 41 = .ok (.ireturn, 1) := by decide +kernel
theorem dX4_readAnds_42 : decode cX4_readAnds 42 = .ok (.aload_n 0, 1) := by decide +kernel
theorem dX4_readAnds_43 : decode cX4_readAnds 43 = .ok (.getfield 21, 3) := by decide +kernel
theorem dX4_readAnds_46 : decode cX4_readAnds 46 = .ok (.bipush 14, 2) := by decide +kernel
theorem dX4_readAnds_48 : decode cX4_readAnds 48 = .ok (.iconst 0, 1) := by decide +kernel
theorem dX4_readAnds_49 : decode cX4_readAnds 49 = .ok (.invokevirtual 73, 3) := by decide +kernel
theorem dX4_readAnds_52 : decode cX4_readAnds 52 = .ok (.iinc 2 1, 3) := by decide +kernel
theorem dX4_readAnds_55 : decode cX4_readAnds 55 = .ok (.goto (-43), 3) := by decide +kernel
theorem dX4_readAnds_58 : decode cX4_readAnds 58 = .ok (.iconst 1, 1) := by decide +kernel
theorem dX4_readAnds_59 : decode cX4_readAnds 59 = .ok (.ireturn, 1) := by decide +kernel
theorem dX4_readTest_0 : decode cX4_readTest 0 = .ok (.aload_n 0, 1) := by decide +kernel
theorem dX4_readTest_1 : decode cX4_readTest 1 = .ok (.iload_n 1, 1) := by decide +kernel
theorem dX4_readTest_2 : decode cX4_readTest 2 = .ok (.invokevirtual 77, 3) := by decide +kernel
theorem dX4_readTest_5 : decode cX4_readTest 5 = .ok (.ifCond .ne 5, 3) := by decide +kernel
theorem dX4_readTest_8 : decode cX4_readTest 8 = .ok (.iconst 0, 1) := by decide +kernel
theorem dX4_readTest_9 : decode cX4_readTest 9 = .ok (.ireturn, 1) := by decide +kernel
theorem dX4_readTest_10 : decode cX4_readTest 10 = .ok (.aload_n 0, 1) := by decide +kernel
theorem dX4_readTest_11 : decode cX4_readTest 11 = .ok (.getfield 43, 3) := by decide +kernel
theorem dX4_readTest_14 : decode cX4_readTest 14 = .ok (.bipush 10, 2) := by decide +kernel
theorem dX4_readTest_16 : decode cX4_readTest 16 = .ok (.if_icmp .eq 14, 3) := by decide +kernel
theorem dX4_readTest_19 : decode cX4_readTest 19 = .ok (.aload_n 0, 1) := by decide +kernel
theorem dX4_readTest_20 : decode cX4_readTest 20 = .ok (.getfield 43, 3) := by decide +kernel
theorem dX4_readTest_23 : decode cX4_readTest 23 = .ok (.bipush 11, 2) := by decide +kernel
theorem dX4_readTest_25 : decode cX4_readTest 25 = .ok (.if_icmp .eq 5, 3) := by decide +kernel
theorem dX4_readTest_28 : decode cX4_readTest 28 = .ok (.iconst 1, 1) := by decide +kernel
theorem dX4_readTest_29 : decode cX4_readTest 29 = .ok (.ireturn, 1) := by decide +kernel
theorem dX4_readTest_30 : decode cX4_readTest 30 = .ok (.aload_n 0, 1) := by decide +kernel
theorem dX4_readTest_31 : decode cX4_readTest 31 = .ok (.getfield 43, 3) := by decide +kernel
theorem dX4_readTest_34 : decode cX4_readTest 34 = .ok (.istore_n 2, 1) := by decide +kernel
theorem dX4_readTest_35 : decode cX4_readTest 35 = .ok (.aload_n 0, 1) := by decide +kernel
theorem dX4_readTest_36 : decode cX4_readTest 36 = .ok (.invokevirtual 57, 3) := by decide +kernel
theorem dX4_readTest_39 : decode cX4_readTest 39 = .ok (.aload_n 0, 1) := by decide +kernel
theorem dX4_readTest_40 : decode cX4_readTest 40 = .ok (.iload_n 1, 1) := by decide +kernel
theorem dX4_readTest_41 : decode cX4_readTest 41 = .ok (.invokevirtual 77, 3) := by decide +kernel
theorem dX4_readTest_44 : decode cX4_readTest 44 = .ok (.ifCond .ne 5, 3) := by decide +kernel
theorem dX4_readTest_47 : decode cX4_readTest 47 = .ok (.iconst 0, 1) := by decide +kernel
theorem dX4_readTest_48 : decode cX4_readTest 48 = .ok (.ireturn, 1) := by decide +kernel
theorem dX4_readTest_49 : decode cX4_readTest 49 = .ok (.aload_n 0, 1) := by decide +kernel
theorem dX4_readTest_50 : decode cX4_readTest 50 = .ok (.getfield 21, 3) := by decide +kernel
theorem dX4_readTest_53 : decode cX4_readTest 53 = .ok (.iload_n 2, 1) := by decide +kernel
theorem dX4_readTest_54 : decode cX4_readTest 54 = .ok (.iconst 0, 1) := by decide +kernel
theorem dX4_readTest_55 : decode cX4_readTest 55 = .ok (.invokevirtual 73, 3) := by decide +kernel
theorem dX4_readTest_58 : decode cX4_readTest 58 = .ok (.iconst 1, 1) := by decide +kernel
theorem dX4_readTest_59 : decode cX4_readTest 59 = .ok (.ireturn, 1) := by decide +kernel
theorem dX4_readSum_0 : decode cX4_readSum 0 = .ok (.aload_n 0, 1) := by decide +kernel
theorem dX4_readSum_1 : decode cX4_readSum 1 = .ok (.iload_n 1, 1) := by decide +kernel
theorem dX4_readSum_2 : decode cX4_readSum 2 = .ok (.invokevirtual 80, 3) := by decide +kernel
theorem dX4_readSum_5 : decode cX4_readSum 5 = .ok (.ifCond .ne 5, 3) := by decide +kernel
theorem dX4_readSum_8 : decode cX4_readSum 8 = .ok (.iconst 0, 1) := by decide +kernel
theorem dX4_readSum_9 : decode cX4_readSum 9 = .ok (.ireturn, 1) := by decide +kernel
theorem dX4_readSum_10 : decode cX4_readSum 10 = .ok (.iconst 0, 1) := by decide +kernel
theorem dX4_readSum_11 : decode cX4_readSum 11 = .ok (.istore_n 2, 1) := by decide +kernel
theorem dX4_readSum_12 : decode cX4_readSum 12 = .ok (.iload_n 2, 1) := by decide +kernel
theorem dX4_readSum_13 : decode cX4_readSum 13 = .ok (.sipush 600, 3) := by decide +kernel
theorem dX4_readSum_16 : decode cX4_readSum 16 = .ok (.if_icmp .ge 55, 3) := by decide +kernel
theorem dX4_readSum_19 : decode cX4_readSum 19 = .ok (.aload_n 0, 1) := by decide +kernel
theorem dX4_readSum_20 : decode cX4_readSum 20 = .ok (.getfield 43, 3) := by decide +kernel
theorem dX4_readSum_23 : decode cX4_readSum 23 = .ok (.bipush 12, 2) := by decide +kernel
theorem dX4_readSum_25 : decode cX4_readSum 25 = .ok (.if_icmp .eq 12, 3) := by decide +kernel
theorem dX4_readSum_28 : decode cX4_readSum 28 = .ok (.aload_n 0, 1) := by decide +kernel
theorem dX4_readSum_29 : decode cX4_readSum 29 = .ok (.getfield 43, 3) := by decide +kernel
theorem dX4_readSum_32 : decode cX4_readSum 32 = .ok (.bipush 13, 2) := by decide +kernel
theorem dX4_readSum_34 : decode cX4_readSum 34 = .ok (.if_icmp .ne 37, 3) := by decide +kernel
theorem dX4_readSum_37 : decode cX4_readSum 37 = .ok (.aload_n 0, 1) := by decide +kernel
theorem dX4_readSum_38 : decode cX4_readSum 38 = .ok (.getfield 43, 3) := by decide +kernel
theorem dX4_readSum_41 : decode cX4_readSum 41 = .ok (.istore_n 3, 1) := by decide +kernel
theorem dX4_readSum_42 : decode cX4_readSum 42 = .ok (.aload_n 0, 1) := by decide +kernel
theorem dX4_readSum_43 : decode cX4_readSum 43 = .ok (.invokevirtual 57, 3) := by decide +kernel
theorem dX4_readSum_46 : decode cX4_readSum 46 = .ok (.aload_n 0, 1) := by decide +kernel
theorem dX4_readSum_47 : decode cX4_readSum 47 = .ok (.iload_n 1, 1) := by decide +kernel
theorem dX4_readSum_48 : decode cX4_readSum 48 = .ok (.invokevirtual 80, 3) := by decide +kernel
theorem dX4_readSum_51 : decode cX4_readSum 51 = .ok (.ifCond .ne 5, 3) := by decide +kernel
theorem dX4_readSum_54 : decode cX4_readSum 54 = .ok (.iconst 0, 1) := by decide +kernel
theorem dX4_readSum_55 : decode cX4_readSum 55 = .ok (.ireturn, 1) := by decide +kernel
theorem dX4_readSum_56 : decode cX4_readSum 56 = .ok (.aload_n 0, 1) := by decide +kernel
theorem dX4_readSum_57 : decode cX4_readSum 57 = .ok (.getfield 21, 3) := by decide +kernel
theorem dX4_readSum_60 : decode cX4_readSum 60 = .ok (.iload_n 3, 1) := by decide +kernel
theorem dX4_readSum_61 : decode cX4_readSum 61 = .ok (.iconst 0, 1) := by decide +kernel
theorem dX4_readSum_62 : decode cX4_readSum 62 = .ok (.invokevirtual 73, 3) := by decide +kernel
theorem dX4_readSum_65 : decode cX4_readSum 65 = .ok (.iinc 2 1, 3) := by decide +kernel
theorem dX4_readSum_68 : decode cX4_readSum 68 = .ok (.goto (-56), 3) := by decide +kernel
theorem dX4_readSum_71 : decode cX4_readSum 71 = .ok (.iconst 1, 1) := by decide +kernel
theorem dX4_readSum_72 : decode cX4_readSum 72 = .ok (.ireturn, 1) := by decide +kernel
theorem dX4_readPart_0 : decode cX4_readPart 0 = .ok (.aload_n 0, 1) := by decide +kernel
theorem dX4_readPart_1 : decode cX4_readPart 1 = .ok (.getfield 43, 3) := by decide +kernel
theorem dX4_readPart_4 : decode cX4_readPart 4 = .ok (.bipush 8, 2) := by decide +kernel
theorem dX4_readPart_6 : decode cX4_readPart 6 = .ok (.if_icmp .le 9, 3) := by decide +kernel
theorem dX4_readPart_9 : decode cX4_readPart 9 = .ok (.aload_n 0, 1) := by decide +kernel
theorem dX4_readPart_10 : decode cX4_readPart 10 = .ok (.iconst 1, 1) := by decide +kernel
theorem dX4_readPart_11 : decode cX4_readPart 11 = .ok (.invokevirtual 53, 3) := by decide +kernel
theorem dX4_readPart_14 : decode cX4_readPart 14 = .ok (.ireturn, 1) := by decide +kernel
theorem dX4_readPart_15 : decode cX4_readPart 15 = .ok (.iload_n 1, 1) := by decide +kernel
theorem dX4_readPart_16 : decode cX4_readPart 16 = .ok (.iconst 5, 1) := by decide +kernel
theorem dX4_readPart_17 : decode cX4_readPart 17 = .ok (.if_icmp .lt 9, 3) := by decide +kernel
theorem dX4_readPart_20 : decode cX4_readPart 20 = .ok (.aload_n 0, 1) := by decide +kernel
theorem dX4_readPart_21 : decode cX4_readPart 21 = .ok (.iconst 5, 1) := by decide +kernel
theorem dX4_readPart_22 : decode cX4_readPart 22 = .ok (.invokevirtual 53, 3) := by decide +kernel
theorem dX4_readPart_25 : decode cX4_readPart 25 = .ok (.ireturn, 1) := by decide +kernel
theorem dX4_readPart_26 : decode cX4_readPart 26 = .ok (.aload_n 0, 1) := by decide +kernel
theorem dX4_readPart_27 : decode cX4_readPart 27 = .ok (.getfield 43, 3) := by decide +kernel
theorem dX4_readPart_30 : decode cX4_readPart 30 = .ok (.bipush 8, 2) := by decide +kernel
theorem dX4_readPart_32 : decode cX4_readPart 32 = .ok (.if_icmp .ne 34, 3) := by decide +kernel
theorem dX4_readPart_35 : decode cX4_readPart 35 = .ok (.aload_n 0, 1) := by decide +kernel
theorem dX4_readPart_36 : decode cX4_readPart 36 = .ok (.invokevirtual 57, 3) := by decide +kernel
theorem dX4_readPart_39 : decode cX4_readPart 39 = .ok (.aload_n 0, 1) := by decide +kernel
theorem dX4_readPart_40 : decode cX4_readPart 40 = .ok (.iload_n 1, 1) := by decide +kernel
theorem dX4_readPart_41 : decode cX4_readPart 41 = .ok (.iconst 1, 1) := by decide +kernel
theorem dX4_readPart_42 : decode cX4_readPart 42 = .ok (.iadd, 1) := by decide +kernel
theorem dX4_readPart_43 : decode cX4_readPart 43 = .ok (.invokevirtual 63, 3) := by decide +kernel
theorem dX4_readPart_46 : decode cX4_readPart 46 = .ok (.ifCond .ne 5, 3) := by decide +kernel
theorem dX4_readPart_49 : decode cX4_readPart 49 = .ok (.iconst 0, 1) := by decide +kernel
theorem dX4_readPart_50 : decode cX4_readPart 50 = .ok (.ireturn, 1) := by decide +kernel
theorem dX4_readPart_51 : decode cX4_readPart 51 = .ok (.aload_n 0, 1) := by decide +kernel
theorem dX4_readPart_52 : decode cX4_readPart 52 = .ok (.getfield 43, 3) := by decide +kernel
theorem dX4_readPart_55 : decode cX4_readPart 55 = .ok (.bipush 9, 2) := by decide +kernel
theorem dX4_readPart_57 : decode cX4_readPart 57 = .ok (.if_icmp .eq 32, 3) := by decide +kernel
theorem dX4_readPart_60 : decode cX4_readPart 60 = .ok (.aload_n 0, 1) := by decide +kernel
theorem dX4_readPart_61 : decode cX4_readPart 61 = .ok (.iconst 1, 1) := by decide +kernel
theorem dX4_readPart_62 : decode cX4_readPart 62 = .ok (.invokevirtual 53, 3) := by decide +kernel
theorem dX4_readPart_65 : decode cX4_readPart 65 = .ok (.ireturn, 1) := by decide +kernel
theorem dX4_readPart_66 : decode cX4_readPart 66 = .ok (.aload_n 0, 1) := by decide +kernel
theorem dX4_readPart_67 : decode cX4_readPart 67 = .ok (.getfield 21, 3) := by decide +kernel
theorem dX4_readPart_70 : decode cX4_readPart 70 = .ok (.aload_n 0, 1) := by decide +kernel
theorem dX4_readPart_71 : decode cX4_readPart 71 = .ok (.getfield 43, 3) := by decide +kernel
theorem dX4_readPart_74 : decode cX4_readPart 74 = .ok (.aload_n 0, 1) := by decide +kernel
theorem dX4_readPart_75 : decode cX4_readPart 75 = .ok (.getfield 12, 3) := by decide +kernel
theorem dX4_readPart_78 : decode cX4_readPart 78 = .ok (.getfield 83, 3) := by decide +kernel
theorem dX4_readPart_81 : decode cX4_readPart 81 = .ok (.aload_n 0, 1) := by decide +kernel
theorem dX4_readPart_82 : decode cX4_readPart 82 = .ok (.getfield 36, 3) := by decide +kernel
theorem dX4_readPart_85 : decode cX4_readPart 85 = .ok (.iaload, 1) := by decide +kernel
theorem dX4_readPart_86 : decode cX4_readPart 86 = .ok (.invokevirtual 73, 3) := by decide +kernel
theorem dX4_readPart_89 : decode cX4_readPart 89 = .ok (.aload_n 0, 1) := by decide +kernel
theorem dX4_readPart_90 : decode cX4_readPart 90 = .ok (.invokevirtual 57, 3) := by decide +kernel
theorem dX4_readPart_93 : decode cX4_readPart 93 = .ok (.iconst 1, 1) := by decide +kernel
theorem dX4_readPart_94 : decode cX4_readPart 94 = .ok (.ireturn, 1) := by decide +kernel
theorem dX4_expect_0 : decode cX4_expect 0 = .ok (.aload_n 0, 1) := by decide +kernel
theorem dX4_expect_1 : decode cX4_expect 1 = .ok (.getfield 43, 3) := by decide +kernel
theorem dX4_expect_4 : decode cX4_expect 4 = .ok (.iload_n 1, 1) := by decide +kernel
theorem dX4_expect_5 : decode cX4_expect 5 = .ok (.if_icmp .eq 9, 3) := by decide +kernel
theorem dX4_expect_8 : decode cX4_expect 8 = .ok (.aload_n 0, 1) := by decide +kernel
theorem dX4_expect_9 : decode cX4_expect 9 = .ok (.iconst 1, 1) := by decide +kernel
theorem dX4_expect_10 : decode cX4_expect 10 = .ok (.invokevirtual 53, 3) := by decide +kernel
theorem dX4_expect_13 : decode cX4_expect 13 = .ok (.ireturn, 1) := by decide +kernel
theorem dX4_expect_14 : decode cX4_expect 14 = .ok (.aload_n 0, 1) := by decide +kernel
theorem dX4_expect_15 : decode cX4_expect 15 = .ok (.invokevirtual 57, 3) := by decide +kernel
theorem dX4_expect_18 : decode cX4_expect 18 = .ok (.iconst 1, 1) := by decide +kernel
theorem dX4_expect_19 : decode cX4_expect 19 = .ok (.ireturn, 1) := by decide +kernel
theorem dX4_refuse_0 : decode cX4_refuse 0 = .ok (.aload_n 0, 1) := by decide +kernel
theorem dX4_refuse_1 : decode cX4_refuse 1 = .ok (.iload_n 1, 1) := by decide +kernel
theorem dX4_refuse_2 : decode cX4_refuse 2 = .ok (.bipush 16, 2) := by decide +kernel
theorem dX4_refuse_4 : decode cX4_refuse 4 = .ok (.aload_n 0, 1) := by decide +kernel
theorem dX4_refuse_5 : decode cX4_refuse 5 = .ok (.getfield 12, 3) := by decide +kernel
theorem dX4_refuse_8 : decode cX4_refuse 8 = .ok (.getfield 86, 3) := by decide +kernel
theorem dX4_refuse_11 : decode cX4_refuse 11 = .ok (.aload_n 0, 1) := by decide +kernel
theorem dX4_refuse_12 : decode cX4_refuse 12 = .ok (.getfield 36, 3) := by decide +kernel
theorem dX4_refuse_15 : decode cX4_refuse 15 = .ok (.iaload, 1) := by decide +kernel
theorem dX4_refuse_16 : decode cX4_refuse 16 = .ok (.imul, 1) := by decide +kernel
theorem dX4_refuse_17 : decode cX4_refuse 17 = .ok (.iadd, 1) := by decide +kernel
theorem dX4_refuse_18 : decode cX4_refuse 18 = .ok (.putfield 32, 3) := by decide +kernel
theorem dX4_refuse_21 : decode cX4_refuse 21 = .ok (.iconst 0, 1) := by decide +kernel
theorem dX4_refuse_22 : decode cX4_refuse 22 = .ok (.ireturn, 1) := by decide +kernel
theorem dX4_advance_0 : decode cX4_advance 0 = .ok (.aload_n 0, 1) := by decide +kernel
theorem dX4_advance_1 : decode cX4_advance 1 = .ok (.getfield 43, 3) := by decide +kernel
theorem dX4_advance_4 : decode cX4_advance 4 = .ok (.bipush 19, 2) := by decide +kernel
theorem dX4_advance_6 : decode cX4_advance 6 = .ok (.if_icmp .eq 41, 3) := by decide +kernel
theorem dX4_advance_9 : decode cX4_advance 9 = .ok (.aload_n 0, 1) := by decide +kernel
theorem dX4_advance_10 : decode cX4_advance 10 = .ok (.getfield 36, 3) := by decide +kernel
theorem dX4_advance_13 : decode cX4_advance 13 = .ok (.iconst 1, 1) := by decide +kernel
theorem dX4_advance_14 : decode cX4_advance 14 = .ok (.iadd, 1) := by decide +kernel
theorem dX4_advance_15 : decode cX4_advance 15 = .ok (.sipush 601, 3) := by decide +kernel
theorem dX4_advance_18 : decode cX4_advance 18 = .ok (.if_icmp .ge 29, 3) := by decide +kernel
theorem dX4_advance_21 : decode cX4_advance 21 = .ok (.aload_n 0, 1) := by decide +kernel
theorem dX4_advance_22 : decode cX4_advance 22 = .ok (.dup, 1) := by decide +kernel
theorem dX4_advance_23 : decode cX4_advance 23 = .ok (.getfield 36, 3) := by decide +kernel
theorem dX4_advance_26 : decode cX4_advance 26 = .ok (.iconst 1, 1) := by decide +kernel
theorem dX4_advance_27 : decode cX4_advance 27 = .ok (.iadd, 1) := by decide +kernel
theorem dX4_advance_28 : decode cX4_advance 28 = .ok (.putfield 36, 3) := by decide +kernel
theorem dX4_advance_31 : decode cX4_advance 31 = .ok (.aload_n 0, 1) := by decide +kernel
theorem dX4_advance_32 : decode cX4_advance 32 = .ok (.aload_n 0, 1) := by decide +kernel
theorem dX4_advance_33 : decode cX4_advance 33 = .ok (.getfield 12, 3) := by decide +kernel
theorem dX4_advance_36 : decode cX4_advance 36 = .ok (.getfield 39, 3) := by decide +kernel
theorem dX4_advance_39 : decode cX4_advance 39 = .ok (.aload_n 0, 1) := by decide +kernel
theorem dX4_advance_40 : decode cX4_advance 40 = .ok (.getfield 36, 3) := by decide +kernel
theorem dX4_advance_43 : decode cX4_advance 43 = .ok (.iaload, 1) := by decide +kernel
theorem dX4_advance_44 : decode cX4_advance 44 = .ok (.putfield 43, 3) := by decide +kernel
theorem dX4_advance_47 : decode cX4_advance 47 = .ok (.return_, 1) := by decide +kernel
theorem dX5_init_0 : decode cX5_init 0 = .ok (.aload_n 0, 1) := by decide +kernel
theorem dX5_init_1 : decode cX5_init 1 = .ok (.invokespecial 3, 3) := by decide +kernel
theorem dX5_init_4 : decode cX5_init 4 = .ok (.aload_n 0, 1) := by decide +kernel
theorem dX5_init_5 : decode cX5_init 5 = .ok (.sipush 600, 3) := by decide +kernel
theorem dX5_init_8 : decode cX5_init 8 = .ok (.newarray .int, 2) := by decide +kernel
theorem dX5_init_10 : decode cX5_init 10 = .ok (.putfield 9, 3) := by decide +kernel
theorem dX5_init_13 : decode cX5_init 13 = .ok (.aload_n 0, 1) := by decide +kernel
theorem dX5_init_14 : decode cX5_init 14 = .ok (.sipush 600, 3) := by decide +kernel
theorem dX5_init_17 : decode cX5_init 17 = .ok (.newarray .int, 2) := by decide +kernel
theorem dX5_init_19 : decode cX5_init 19 = .ok (.putfield 15, 3) := by decide +kernel
theorem dX5_init_22 : decode cX5_init 22 = .ok (.aload_n 0, 1) := by decide +kernel
theorem dX5_init_23 : decode cX5_init 23 = .ok (.bipush 16, 2) := by decide +kernel
theorem dX5_init_25 : decode cX5_init 25 = .ok (.newarray .int, 2) := by decide +kernel
theorem dX5_init_27 : decode cX5_init 27 = .ok (.putfield 18, 3) := by decide +kernel
theorem dX5_init_30 : decode cX5_init 30 = .ok (.aload_n 0, 1) := by decide +kernel
theorem dX5_init_31 : decode cX5_init 31 = .ok (.bipush 16, 2) := by decide +kernel
theorem dX5_init_33 : decode cX5_init 33 = .ok (.newarray .boolean, 2) := by decide +kernel
theorem dX5_init_35 : decode cX5_init 35 = .ok (.putfield 21, 3) := by decide +kernel
theorem dX5_init_38 : decode cX5_init 38 = .ok (.aload_n 0, 1) := by decide +kernel
theorem dX5_init_39 : decode cX5_init 39 = .ok (.bipush 24, 2) := by decide +kernel
theorem dX5_init_41 : decode cX5_init 41 = .ok (.newarray .int, 2) := by decide +kernel
theorem dX5_init_43 : decode cX5_init 43 = .ok (.putfield 25, 3) := by decide +kernel
theorem dX5_init_46 : decode cX5_init 46 = .ok (.return_, 1) := by decide +kernel
theorem dX5_makeEmpty_0 : decode cX5_makeEmpty 0 = .ok (.aload_n 0, 1) := by decide +kernel
theorem dX5_makeEmpty_1 : decode cX5_makeEmpty 1 = .ok (.iconst 0, 1) := by decide +kernel
theorem dX5_makeEmpty_2 : decode cX5_makeEmpty 2 = .ok (.putfield 28, 3) := by decide +kernel
theorem dX5_makeEmpty_5 : decode cX5_makeEmpty 5 = .ok (.aload_n 0, 1) := by decide +kernel
theorem dX5_makeEmpty_6 : decode cX5_makeEmpty 6 = .ok (.iconst 0, 1) := by decide +kernel
theorem dX5_makeEmpty_7 : decode cX5_makeEmpty 7 = .ok (.putfield 32, 3) := by decide +kernel
theorem dX5_makeEmpty_10 : decode cX5_makeEmpty 10 = .ok (.return_, 1) := by decide +kernel
theorem dX5_addCode_0 : decode cX5_addCode 0 = .ok (.aload_n 0, 1) := by decide +kernel
theorem dX5_addCode_1 : decode cX5_addCode 1 = .ok (.getfield 28, 3) := by decide +kernel
theorem dX5_addCode_4 : decode cX5_addCode 4 = .ok (.sipush 600, 3) := by decide +kernel
theorem dX5_addCode_7 : decode cX5_addCode 7 = .ok (.if_icmp .ge 33, 3) := by decide +kernel
theorem dX5_addCode_10 : decode cX5_addCode 10 = .ok (.aload_n 0, 1) := by decide +kernel
theorem dX5_addCode_11 : decode cX5_addCode 11 = .ok (.getfield 9, 3) := by decide +kernel
theorem dX5_addCode_14 : decode cX5_addCode 14 = .ok (.aload_n 0, 1) := by decide +kernel
theorem dX5_addCode_15 : decode cX5_addCode 15 = .ok (.getfield 28, 3) := by decide +kernel
theorem dX5_addCode_18 : decode cX5_addCode 18 = .ok (.iload_n 1, 1) := by decide +kernel
theorem dX5_addCode_19 : decode cX5_addCode 19 = .ok (.iastore, 1) := by decide +kernel
theorem dX5_addCode_20 : decode cX5_addCode 20 = .ok (.aload_n 0, 1) := by decide +kernel
theorem dX5_addCode_21 : decode cX5_addCode 21 = .ok (.getfield 15, 3) := by decide +kernel
theorem dX5_addCode_24 : decode cX5_addCode 24 = .ok (.aload_n 0, 1) := by decide +kernel
theorem dX5_addCode_25 : decode cX5_addCode 25 = .ok (.getfield 28, 3) := by decide +kernel
theorem dX5_addCode_28 : decode cX5_addCode 28 = .ok (.iload_n 2, 1) := by decide +kernel
theorem dX5_addCode_29 : decode cX5_addCode 29 = .ok (.iastore, 1) := by decide +kernel
theorem dX5_addCode_30 : decode cX5_addCode 30 = .ok (.aload_n 0, 1) := by decide +kernel
theorem dX5_addCode_31 : decode cX5_addCode 31 = .ok (.dup, 1) := by decide +kernel
theorem dX5_addCode_32 : decode cX5_addCode 32 = .ok (.getfield 28, 3) := by decide +kernel
theorem dX5_addCode_35 : decode cX5_addCode 35 = .ok (.iconst 1, 1) := by decide +kernel
theorem dX5_addCode_36 : decode cX5_addCode 36 = .ok (.iadd, 1) := by decide +kernel
theorem dX5_addCode_37 : decode cX5_addCode 37 = .ok (.putfield 28, 3) := by decide +kernel
theorem dX5_addCode_40 : decode cX5_addCode 40 = .ok (.return_, 1) := by decide +kernel
theorem dX5_endLine_0 : decode cX5_endLine 0 = .ok (.aload_n 0, 1) := by decide +kernel
theorem dX5_endLine_1 : decode cX5_endLine 1 = .ok (.getfield 32, 3) := by decide +kernel
theorem dX5_endLine_4 : decode cX5_endLine 4 = .ok (.bipush 16, 2) := by decide +kernel
theorem dX5_endLine_6 : decode cX5_endLine 6 = .ok (.if_icmp .ge 36, 3) := by decide +kernel
theorem dX5_endLine_9 : decode cX5_endLine 9 = .ok (.aload_n 0, 1) := by decide +kernel
theorem dX5_endLine_10 : decode cX5_endLine 10 = .ok (.getfield 18, 3) := by decide +kernel
theorem dX5_endLine_13 : decode cX5_endLine 13 = .ok (.aload_n 0, 1) := by decide +kernel
theorem dX5_endLine_14 : decode cX5_endLine 14 = .ok (.getfield 32, 3) := by decide +kernel
theorem dX5_endLine_17 : decode cX5_endLine 17 = .ok (.aload_n 0, 1) := by decide +kernel
theorem dX5_endLine_18 : decode cX5_endLine 18 = .ok (.getfield 28, 3) := by decide +kernel
theorem dX5_endLine_21 : decode cX5_endLine 21 = .ok (.iastore, 1) := by decide +kernel
theorem dX5_endLine_22 : decode cX5_endLine 22 = .ok (.aload_n 0, 1) := by decide +kernel
theorem dX5_endLine_23 : decode cX5_endLine 23 = .ok (.getfield 21, 3) := by decide +kernel
theorem dX5_endLine_26 : decode cX5_endLine 26 = .ok (.aload_n 0, 1) := by decide +kernel
theorem dX5_endLine_27 : decode cX5_endLine 27 = .ok (.getfield 32, 3) := by decide +kernel
theorem dX5_endLine_30 : decode cX5_endLine 30 = .ok (.iload_n 1, 1) := by decide +kernel
theorem dX5_endLine_31 : decode cX5_endLine 31 = .ok (.bastore, 1) := by decide +kernel
theorem dX5_endLine_32 : decode cX5_endLine 32 = .ok (.aload_n 0, 1) := by decide +kernel
theorem dX5_endLine_33 : decode cX5_endLine 33 = .ok (.dup, 1) := by decide +kernel
theorem dX5_endLine_34 : decode cX5_endLine 34 = .ok (.getfield 32, 3) := by decide +kernel
theorem dX5_endLine_37 : decode cX5_endLine 37 = .ok (.iconst 1, 1) := by decide +kernel
theorem dX5_endLine_38 : decode cX5_endLine 38 = .ok (.iadd, 1) := by decide +kernel
theorem dX5_endLine_39 : decode cX5_endLine 39 = .ok (.putfield 32, 3) := by decide +kernel
theorem dX5_endLine_42 : decode cX5_endLine 42 = .ok (.return_, 1) := by decide +kernel
theorem dX5_permit_0 : decode cX5_permit 0 = .ok (.iconst 0, 1) := by decide +kernel
theorem dX5_permit_1 : decode cX5_permit 1 = .ok (.istore_n 2, 1) := by decide +kernel
theorem dX5_permit_2 : decode cX5_permit 2 = .ok (.iconst 0, 1) := by decide +kernel
theorem dX5_permit_3 : decode cX5_permit 3 = .ok (.istore_n 3, 1) := by decide +kernel
theorem dX5_permit_4 : decode cX5_permit 4 = .ok (.iload_n 3, 1) := by decide +kernel
theorem dX5_permit_5 : decode cX5_permit 5 = .ok (.aload_n 0, 1) := by decide +kernel
theorem dX5_permit_6 : decode cX5_permit 6 = .ok (.getfield 32, 3) := by decide +kernel
theorem dX5_permit_9 : decode cX5_permit 9 = .ok (.if_icmp .ge 38, 3) := by decide +kernel
theorem dX5_permit_12 : decode cX5_permit 12 = .ok (.aload_n 0, 1) := by decide +kernel
theorem dX5_permit_13 : decode cX5_permit 13 = .ok (.iload_n 2, 1) := by decide +kernel
theorem dX5_permit_14 : decode cX5_permit 14 = .ok (.aload_n 0, 1) := by decide +kernel
theorem dX5_permit_15 : decode cX5_permit 15 = .ok (.getfield 18, 3) := by decide +kernel
theorem dX5_permit_18 : decode cX5_permit 18 = .ok (.iload_n 3, 1) := by decide +kernel
theorem dX5_permit_19 : decode cX5_permit 19 = .ok (.iaload, 1) := by decide +kernel
theorem dX5_permit_20 : decode cX5_permit 20 = .ok (.aload_n 1, 1) := by decide +kernel
theorem dX5_permit_21 : decode cX5_permit 21 = .ok (.invokevirtual 35, 3) := by decide +kernel
theorem dX5_permit_24 : decode cX5_permit 24 = .ok (.ifCond .eq 10, 3) := by decide +kernel
theorem dX5_permit_27 : decode cX5_permit 27 = .ok (.aload_n 0, 1) := by decide +kernel
theorem dX5_permit_28 : decode cX5_permit 28 = .ok (.getfield 21, 3) := by decide +kernel
theorem dX5_permit_31 : decode cX5_permit 31 = .ok (.iload_n 3, 1) := by decide +kernel
theorem dX5_permit_32 : decode cX5_permit 32 = .ok (.baload, 1) := by decide +kernel
theorem dX5_permit_33 : decode cX5_permit 33 = .ok (.ireturn, 1) := by decide +kernel
theorem dX5_permit_34 : decode cX5_permit 34 = .ok (.aload_n 0, 1) := by decide +kernel
theorem dX5_permit_35 : decode cX5_permit 35 = .ok (.getfield 18, 3) := by decide +kernel
theorem dX5_permit_38 : decode cX5_permit 38 = .ok (.iload_n 3, 1) := by decide +kernel
theorem dX5_permit_39 : decode cX5_permit 39 = .ok (.iaload, 1) := by decide +kernel
theorem dX5_permit_40 : decode cX5_permit 40 = .ok (.istore_n 2, 1) := by decide +kernel
theorem dX5_permit_41 : decode cX5_permit 41 = .ok (.iinc 3 1, 3) := by decide +kernel
theorem dX5_permit_44 : decode cX5_permit 44 = .ok (.goto (-40), 3) := by decide +kernel
theorem dX5_permit_47 : decode cX5_permit 47 = .ok (.iconst 0, 1) := by decide +kernel
theorem dX5_permit_48 : decode cX5_permit 48 = .ok (.ireturn, 1) := by decide +kernel
theorem dX5_valueOf_0 : decode cX5_valueOf 0 = .ok (.aload_n 0, 1) := by decide +kernel
theorem dX5_valueOf_1 : decode cX5_valueOf 1 = .ok (.iconst 0, 1) := by decide +kernel
theorem dX5_valueOf_2 : decode cX5_valueOf 2 = .ok (.putfield 39, 3) := by decide +kernel
theorem dX5_valueOf_5 : decode cX5_valueOf 5 = .ok (.iload_n 1, 1) := by decide +kernel
theorem dX5_valueOf_6 : decode cX5_valueOf 6 = .ok (.istore 4, 2) := by decide +kernel
theorem dX5_valueOf_8 : decode cX5_valueOf 8 = .ok (.iload 4, 2) := by decide +kernel
theorem dX5_valueOf_10 : decode cX5_valueOf 10 = .ok (.iload_n 2, 1) := by decide +kernel
theorem dX5_valueOf_11 : decode cX5_valueOf 11 = .ok (.if_icmp .ge 93, 3) := by decide +kernel
theorem dX5_valueOf_14 : decode cX5_valueOf 14 = .ok (.aload_n 0, 1) := by decide +kernel
theorem dX5_valueOf_15 : decode cX5_valueOf 15 = .ok (.getfield 9, 3) := by decide +kernel
theorem dX5_valueOf_18 : decode cX5_valueOf 18 = .ok (.iload 4, 2) := by decide +kernel
theorem dX5_valueOf_20 : decode cX5_valueOf 20 = .ok (.iaload, 1) := by decide +kernel
theorem dX5_valueOf_21 : decode cX5_valueOf 21 = .ok (.bipush 7, 2) := by decide +kernel
theorem dX5_valueOf_23 : decode cX5_valueOf 23 = .ok (.if_icmp .ge 19, 3) := by decide +kernel
theorem dX5_valueOf_26 : decode cX5_valueOf 26 = .ok (.aload_n 0, 1) := by decide +kernel
theorem dX5_valueOf_27 : decode cX5_valueOf 27 = .ok (.aload_n 3, 1) := by decide +kernel
theorem dX5_valueOf_28 : decode cX5_valueOf 28 = .ok (.aload_n 0, 1) := by decide +kernel
theorem dX5_valueOf_29 : decode cX5_valueOf 29 = .ok (.getfield 9, 3) := by decide +kernel
theorem dX5_valueOf_32 : decode cX5_valueOf 32 = .ok (.iload 4, 2) := by decide +kernel
theorem dX5_valueOf_34 : decode cX5_valueOf 34 = .ok (.iaload, 1) := by decide +kernel
theorem dX5_valueOf_35 : decode cX5_valueOf 35 = .ok (.iaload, 1) := by decide +kernel
theorem dX5_valueOf_36 : decode cX5_valueOf 36 = .ok (.invokevirtual 42, 3) := by decide +kernel
theorem dX5_valueOf_39 : decode cX5_valueOf 39 = .ok (.goto 59, 3) := by decide +kernel
theorem dX5_valueOf_42 : decode cX5_valueOf 42 = .ok (.aload_n 0, 1) := by decide +kernel
theorem dX5_valueOf_43 : decode cX5_valueOf 43 = .ok (.getfield 9, 3) := by decide +kernel
theorem dX5_valueOf_46 : decode cX5_valueOf 46 = .ok (.iload 4, 2) := by decide +kernel
theorem dX5_valueOf_48 : decode cX5_valueOf 48 = .ok (.iaload, 1) := by decide +kernel
theorem dX5_valueOf_49 : decode cX5_valueOf 49 = .ok (.bipush 7, 2) := by decide +kernel
theorem dX5_valueOf_51 : decode cX5_valueOf 51 = .ok (.if_icmp .ne 17, 3) := by decide +kernel
theorem dX5_valueOf_54 : decode cX5_valueOf 54 = .ok (.aload_n 0, 1) := by decide +kernel
theorem dX5_valueOf_55 : decode cX5_valueOf 55 = .ok (.aload_n 0, 1) := by decide +kernel
theorem dX5_valueOf_56 : decode cX5_valueOf 56 = .ok (.getfield 15, 3) := by decide +kernel
theorem dX5_valueOf_59 : decode cX5_valueOf 59 = .ok (.iload 4, 2) := by decide +kernel
theorem dX5_valueOf_61 : decode cX5_valueOf 61 = .ok (.iaload, 1) := by decide +kernel
theorem dX5_valueOf_62 : decode cX5_valueOf 62 = .ok (.invokevirtual 42, 3) := by decide +kernel
theorem dX5_valueOf_65 : decode cX5_valueOf 65 = .ok (.goto 33, 3) := by decide +kernel
theorem dX5_valueOf_68 : decode cX5_valueOf 68 = .ok (.aload_n 0, 1) := by decide +kernel
theorem dX5_valueOf_69 : decode cX5_valueOf 69 = .ok (.invokevirtual 46, 3) := by decide +kernel
theorem dX5_valueOf_72 : decode cX5_valueOf 72 = .ok (.istore 5, 2) := by decide +kernel
theorem dX5_valueOf_74 : decode cX5_valueOf 74 = .ok (.aload_n 0, 1) := by decide +kernel
theorem dX5_valueOf_75 : decode cX5_valueOf 75 = .ok (.invokevirtual 46, 3) := by decide +kernel
theorem dX5_valueOf_78 : decode cX5_valueOf 78 = .ok (.istore 6, 2) := by decide +kernel
theorem dX5_valueOf_80 : decode cX5_valueOf 80 = .ok (.aload_n 0, 1) := by decide +kernel
theorem dX5_valueOf_81 : decode cX5_valueOf 81 = .ok (.aload_n 0, 1) := by decide +kernel
theorem dX5_valueOf_82 : decode cX5_valueOf 82 = .ok (.getfield 9, 3) := by decide +kernel
theorem dX5_valueOf_85 : decode cX5_valueOf 85 = .ok (.iload 4, 2) := by decide +kernel
theorem dX5_valueOf_87 : decode cX5_valueOf 87 = .ok (.iaload, 1) := by decide +kernel
theorem dX5_valueOf_88 : decode cX5_valueOf 88 = .ok (.iload 6, 2) := by decide +kernel
theorem dX5_valueOf_90 : decode cX5_valueOf 90 = .ok (.iload 5, 2) := by decide +kernel
theorem dX5_valueOf_92 : decode cX5_valueOf 92 = .ok (.invokestatic 50, 3) := by decide +kernel
theorem dX5_valueOf_95 : decode cX5_valueOf 95 = .ok (.invokevirtual 42, 3) := by decide +kernel
theorem dX5_valueOf_98 : decode cX5_valueOf 98 = .ok (.iinc 4 1, 3) := by decide +kernel
theorem dX5_valueOf_101 : decode cX5_valueOf 101 = .ok (.goto (-93), 3) := by decide +kernel
theorem dX5_valueOf_104 : decode cX5_valueOf 104 = .ok (.aload_n 0, 1) := by decide +kernel
theorem dX5_valueOf_105 : decode cX5_valueOf 105 = .ok (.invokevirtual 46, 3) := by decide +kernel
theorem dX5_valueOf_108 : decode cX5_valueOf 108 = .ok (.ireturn, 1) := by decide +kernel
theorem dX5_push_0 : decode cX5_push 0 = .ok (.aload_n 0, 1) := by decide +kernel
theorem dX5_push_1 : decode cX5_push 1 = .ok (.getfield 39, 3) := by decide +kernel
theorem dX5_push_4 : decode cX5_push 4 = .ok (.bipush 24, 2) := by decide +kernel
theorem dX5_push_6 : decode cX5_push 6 = .ok (.if_icmp .ge 23, 3) := by decide +kernel
theorem dX5_push_9 : decode cX5_push 9 = .ok (.aload_n 0, 1) := by decide +kernel
theorem dX5_push_10 : decode cX5_push 10 = .ok (.getfield 25, 3) := by decide +kernel
theorem dX5_push_13 : decode cX5_push 13 = .ok (.aload_n 0, 1) := by decide +kernel
theorem dX5_push_14 : decode cX5_push 14 = .ok (.getfield 39, 3) := by decide +kernel
theorem dX5_push_17 : decode cX5_push 17 = .ok (.iload_n 1, 1) := by decide +kernel
theorem dX5_push_18 : decode cX5_push 18 = .ok (.iastore, 1) := by decide +kernel
theorem dX5_push_19 : decode cX5_push 19 = .ok (.aload_n 0, 1) := by decide +kernel
theorem dX5_push_20 : decode cX5_push 20 = .ok (.dup, 1) := by decide +kernel
theorem dX5_push_21 : decode cX5_push 21 = .ok (.getfield 39, 3) := by decide +kernel
theorem dX5_push_24 : decode cX5_push 24 = .ok (.iconst 1, 1) := by decide +kernel
theorem dX5_push_25 : decode cX5_push 25 = .ok (.iadd, 1) := by decide +kernel
theorem dX5_push_26 : decode cX5_push 26 = .ok (.putfield 39, 3) := by decide +kernel
theorem dX5_push_29 : decode cX5_push 29 = .ok (.return_, 1) := by decide +kernel
theorem dX5_pop_0 : decode cX5_pop 0 = .ok (.aload_n 0, 1) := by decide +kernel
theorem dX5_pop_1 : decode cX5_pop 1 = .ok (.getfield 39, 3) := by decide +kernel
theorem dX5_pop_4 : decode cX5_pop 4 = .ok (.iconst 1, 1) := by decide +kernel
theorem dX5_pop_5 : decode cX5_pop 5 = .ok (.if_icmp .ge 5, 3) := by decide +kernel
theorem dX5_pop_8 : decode cX5_pop 8 = .ok (.iconst 0, 1) := by decide +kernel
theorem dX5_pop_9 : decode cX5_pop 9 = .ok (.ireturn, 1) := by decide +kernel
theorem dX5_pop_10 : decode cX5_pop 10 = .ok (.aload_n 0, 1) := by decide +kernel
theorem dX5_pop_11 : decode cX5_pop 11 = .ok (.dup, 1) := by decide +kernel
theorem dX5_pop_12 : decode cX5_pop 12 = .ok (.getfield 39, 3) := by decide +kernel
theorem dX5_pop_15 : decode cX5_pop 15 = .ok (.iconst 1, 1) := by decide +kernel
theorem dX5_pop_16 : decode cX5_pop 16 = .ok (.isub, 1) := by decide +kernel
theorem dX5_pop_17 : decode cX5_pop 17 = .ok (.putfield 39, 3) := by decide +kernel
theorem dX5_pop_20 : decode cX5_pop 20 = .ok (.aload_n 0, 1) := by decide +kernel
theorem dX5_pop_21 : decode cX5_pop 21 = .ok (.getfield 25, 3) := by decide +kernel
theorem dX5_pop_24 : decode cX5_pop 24 = .ok (.aload_n 0, 1) := by decide +kernel
theorem dX5_pop_25 : decode cX5_pop 25 = .ok (.getfield 39, 3) := by decide +kernel
theorem dX5_pop_28 : decode cX5_pop 28 = .ok (.iaload, 1) := by decide +kernel
theorem dX5_pop_29 : decode cX5_pop 29 = .ok (.ireturn, 1) := by decide +kernel
theorem dX5_joined_0 : decode cX5_joined 0 = .ok (.iload_n 0, 1) := by decide +kernel
theorem dX5_joined_1 : decode cX5_joined 1 = .ok (.tableswitch 61 10 13 #[39, 50, 31, 35], 31) := by decide +kernel
theorem dX5_joined_32 : decode cX5_joined 32 = .ok (.iload_n 1, 1) := by decide +kernel
theorem dX5_joined_33 : decode cX5_joined 33 = .ok (.iload_n 2, 1) := by decide +kernel
theorem dX5_joined_34 : decode cX5_joined 34 = .ok (.iadd, 1) := by decide +kernel
theorem dX5_joined_35 : decode cX5_joined 35 = .ok (.ireturn, 1) := by decide +kernel
theorem dX5_joined_36 : decode cX5_joined 36 = .ok (.iload_n 1, 1) := by decide +kernel
theorem dX5_joined_37 : decode cX5_joined 37 = .ok (.iload_n 2, 1) := by decide +kernel
theorem dX5_joined_38 : decode cX5_joined 38 = .ok (.isub, 1) := by decide +kernel
theorem dX5_joined_39 : decode cX5_joined 39 = .ok (.ireturn, 1) := by decide +kernel
theorem dX5_joined_40 : decode cX5_joined 40 = .ok (.iload_n 1, 1) := by decide +kernel
theorem dX5_joined_41 : decode cX5_joined 41 = .ok (.iload_n 2, 1) := by decide +kernel
theorem dX5_joined_42 : decode cX5_joined 42 = .ok (.if_icmp .ge 7, 3) := by decide +kernel
theorem dX5_joined_45 : decode cX5_joined 45 = .ok (.iconst 1, 1) := by decide +kernel
theorem dX5_joined_46 : decode cX5_joined 46 = .ok (.goto 4, 3) := by decide +kernel
theorem dX5_joined_49 : decode cX5_joined 49 = .ok (.iconst 0, 1) := by decide +kernel
theorem dX5_joined_50 : decode cX5_joined 50 = .ok (.ireturn, 1) := by decide +kernel
theorem dX5_joined_51 : decode cX5_joined 51 = .ok (.iload_n 1, 1) := by decide +kernel
theorem dX5_joined_52 : decode cX5_joined 52 = .ok (.iload_n 2, 1) := by decide +kernel
theorem dX5_joined_53 : decode cX5_joined 53 = .ok (.if_icmp .ne 7, 3) := by decide +kernel
theorem dX5_joined_56 : decode cX5_joined 56 = .ok (.iconst 1, 1) := by decide +kernel
theorem dX5_joined_57 : decode cX5_joined 57 = .ok (.goto 4, 3) := by decide +kernel
theorem dX5_joined_60 : decode cX5_joined 60 = .ok (.iconst 0, 1) := by decide +kernel
theorem dX5_joined_61 : decode cX5_joined 61 = .ok (.ireturn, 1) := by decide +kernel
theorem dX5_joined_62 : decode cX5_joined 62 = .ok (.iload_n 1, 1) := by decide +kernel
theorem dX5_joined_63 : decode cX5_joined 63 = .ok (.ifCond .eq 11, 3) := by decide +kernel
theorem dX5_joined_66 : decode cX5_joined 66 = .ok (.iload_n 2, 1) := by decide +kernel
theorem dX5_joined_67 : decode cX5_joined 67 = .ok (.ifCond .eq 7, 3) := by decide +kernel
theorem dX5_joined_70 : decode cX5_joined 70 = .ok (.iconst 1, 1) := by decide +kernel
theorem dX5_joined_71 : decode cX5_joined 71 = .ok (.goto 4, 3) := by decide +kernel
theorem dX5_joined_74 : decode cX5_joined 74 = .ok (.iconst 0, 1) := by decide +kernel
theorem dX5_joined_75 : decode cX5_joined 75 = .ok (.ireturn, 1) := by decide +kernel
theorem dX6_init_0 : decode cX6_init 0 = .ok (.aload_n 0, 1) := by decide +kernel
theorem dX6_init_1 : decode cX6_init 1 = .ok (.invokespecial 3, 3) := by decide +kernel
theorem dX6_init_4 : decode cX6_init 4 = .ok (.aload_n 0, 1) := by decide +kernel
theorem dX6_init_5 : decode cX6_init 5 = .ok (.sipush 400, 3) := by decide +kernel
theorem dX6_init_8 : decode cX6_init 8 = .ok (.newarray .int, 2) := by decide +kernel
theorem dX6_init_10 : decode cX6_init 10 = .ok (.putfield 11, 3) := by decide +kernel
theorem dX6_init_13 : decode cX6_init 13 = .ok (.return_, 1) := by decide +kernel
theorem dX6_write_0 : decode cX6_write 0 = .ok (.aload_n 0, 1) := by decide +kernel
theorem dX6_write_1 : decode cX6_write 1 = .ok (.getfield 15, 3) := by decide +kernel
theorem dX6_write_4 : decode cX6_write 4 = .ok (.bipush 100, 2) := by decide +kernel
theorem dX6_write_6 : decode cX6_write 6 = .ok (.if_icmp .lt 5, 3) := by decide +kernel
theorem dX6_write_9 : decode cX6_write 9 = .ok (.iconst 0, 1) := by decide +kernel
theorem dX6_write_10 : decode cX6_write 10 = .ok (.ireturn, 1) := by decide +kernel
theorem dX6_write_11 : decode cX6_write 11 = .ok (.iconst 4, 1) := by decide +kernel
theorem dX6_write_12 : decode cX6_write 12 = .ok (.aload_n 0, 1) := by decide +kernel
theorem dX6_write_13 : decode cX6_write 13 = .ok (.getfield 15, 3) := by decide +kernel
theorem dX6_write_16 : decode cX6_write 16 = .ok (.imul, 1) := by decide +kernel
theorem dX6_write_17 : decode cX6_write 17 = .ok (.istore 5, 2) := by decide +kernel
theorem dX6_write_19 : decode cX6_write 19 = .ok (.aload_n 0, 1) := by decide +kernel
theorem dX6_write_20 : decode cX6_write 20 = .ok (.getfield 11, 3) := by decide +kernel
theorem dX6_write_23 : decode cX6_write 23 = .ok (.iload 5, 2) := by decide +kernel
theorem dX6_write_25 : decode cX6_write 25 = .ok (.iload_n 1, 1) := by decide +kernel
theorem dX6_write_26 : decode cX6_write 26 = .ok (.iastore, 1) := by decide +kernel
theorem dX6_write_27 : decode cX6_write 27 = .ok (.aload_n 0, 1) := by decide +kernel
theorem dX6_write_28 : decode cX6_write 28 = .ok (.getfield 11, 3) := by decide +kernel
theorem dX6_write_31 : decode cX6_write 31 = .ok (.iload 5, 2) := by decide +kernel
theorem dX6_write_33 : decode cX6_write 33 = .ok (.iconst 1, 1) := by decide +kernel
theorem dX6_write_34 : decode cX6_write 34 = .ok (.iadd, 1) := by decide +kernel
theorem dX6_write_35 : decode cX6_write 35 = .ok (.iload_n 2, 1) := by decide +kernel
theorem dX6_write_36 : decode cX6_write 36 = .ok (.iastore, 1) := by decide +kernel
theorem dX6_write_37 : decode cX6_write 37 = .ok (.aload_n 0, 1) := by decide +kernel
theorem dX6_write_38 : decode cX6_write 38 = .ok (.getfield 11, 3) := by decide +kernel
theorem dX6_write_41 : decode cX6_write 41 = .ok (.iload 5, 2) := by decide +kernel
theorem dX6_write_43 : decode cX6_write 43 = .ok (.iconst 2, 1) := by decide +kernel
theorem dX6_write_44 : decode cX6_write 44 = .ok (.iadd, 1) := by decide +kernel
theorem dX6_write_45 : decode cX6_write 45 = .ok (.iload_n 3, 1) := by decide +kernel
theorem dX6_write_46 : decode cX6_write 46 = .ok (.iastore, 1) := by decide +kernel
theorem dX6_write_47 : decode cX6_write 47 = .ok (.aload_n 0, 1) := by decide +kernel
theorem dX6_write_48 : decode cX6_write 48 = .ok (.getfield 11, 3) := by decide +kernel
theorem dX6_write_51 : decode cX6_write 51 = .ok (.iload 5, 2) := by decide +kernel
theorem dX6_write_53 : decode cX6_write 53 = .ok (.iconst 3, 1) := by decide +kernel
theorem dX6_write_54 : decode cX6_write 54 = .ok (.iadd, 1) := by decide +kernel
theorem dX6_write_55 : decode cX6_write 55 = .ok (.iload 4, 2) := by decide +kernel
theorem dX6_write_57 : decode cX6_write 57 = .ok (.iastore, 1) := by decide +kernel
theorem dX6_write_58 : decode cX6_write 58 = .ok (.aload_n 0, 1) := by decide +kernel
theorem dX6_write_59 : decode cX6_write 59 = .ok (.dup, 1) := by decide +kernel
theorem dX6_write_60 : decode cX6_write 60 = .ok (.getfield 15, 3) := by decide +kernel
theorem dX6_write_63 : decode cX6_write 63 = .ok (.iconst 1, 1) := by decide +kernel
theorem dX6_write_64 : decode cX6_write 64 = .ok (.iadd, 1) := by decide +kernel
theorem dX6_write_65 : decode cX6_write 65 = .ok (.putfield 15, 3) := by decide +kernel
theorem dX6_write_68 : decode cX6_write 68 = .ok (.iconst 1, 1) := by decide +kernel
theorem dX6_write_69 : decode cX6_write 69 = .ok (.ireturn, 1) := by decide +kernel
theorem dX6_entry_0 : decode cX6_entry 0 = .ok (.iload_n 1, 1) := by decide +kernel
theorem dX6_entry_1 : decode cX6_entry 1 = .ok (.iconst 0, 1) := by decide +kernel
theorem dX6_entry_2 : decode cX6_entry 2 = .ok (.aload_n 0, 1) := by decide +kernel
theorem dX6_entry_3 : decode cX6_entry 3 = .ok (.getfield 15, 3) := by decide +kernel
theorem dX6_entry_6 : decode cX6_entry 6 = .ok (.iconst 1, 1) := by decide +kernel
theorem dX6_entry_7 : decode cX6_entry 7 = .ok (.isub, 1) := by decide +kernel
theorem dX6_entry_8 : decode cX6_entry 8 = .ok (.invokestatic 19, 3) := by decide +kernel
theorem dX6_entry_11 : decode cX6_entry 11 = .ok (.ifCond .eq 12, 3) := by decide +kernel
theorem dX6_entry_14 : decode cX6_entry 14 = .ok (.iload_n 2, 1) := by decide +kernel
theorem dX6_entry_15 : decode cX6_entry 15 = .ok (.iconst 0, 1) := by decide +kernel
theorem dX6_entry_16 : decode cX6_entry 16 = .ok (.iconst 3, 1) := by decide +kernel
theorem dX6_entry_17 : decode cX6_entry 17 = .ok (.invokestatic 19, 3) := by decide +kernel
theorem dX6_entry_20 : decode cX6_entry 20 = .ok (.ifCond .ne 5, 3) := by decide +kernel
theorem dX6_entry_23 : decode cX6_entry 23 = .ok (.iconst (-1), 1) := by decide +kernel
theorem dX6_entry_24 : decode cX6_entry 24 = .ok (.ireturn, 1) := by decide +kernel
theorem dX6_entry_25 : decode cX6_entry 25 = .ok (.aload_n 0, 1) := by decide +kernel
theorem dX6_entry_26 : decode cX6_entry 26 = .ok (.getfield 11, 3) := by decide +kernel
theorem dX6_entry_29 : decode cX6_entry 29 = .ok (.iconst 4, 1) := by decide +kernel
theorem dX6_entry_30 : decode cX6_entry 30 = .ok (.iload_n 1, 1) := by decide +kernel
theorem dX6_entry_31 : decode cX6_entry 31 = .ok (.imul, 1) := by decide +kernel
theorem dX6_entry_32 : decode cX6_entry 32 = .ok (.iload_n 2, 1) := by decide +kernel
theorem dX6_entry_33 : decode cX6_entry 33 = .ok (.iadd, 1) := by decide +kernel
theorem dX6_entry_34 : decode cX6_entry 34 = .ok (.iaload, 1) := by decide +kernel
theorem dX6_entry_35 : decode cX6_entry 35 = .ok (.ireturn, 1) := by decide +kernel
theorem dX7_init_0 : decode cX7_init 0 = .ok (.aload_n 0, 1) := by decide +kernel
theorem dX7_init_1 : decode cX7_init 1 = .ok (.invokespecial 3, 3) := by decide +kernel
theorem dX7_init_4 : decode cX7_init 4 = .ok (.aload_n 0, 1) := by decide +kernel
theorem dX7_init_5 : decode cX7_init 5 = .ok (.sipush 600, 3) := by decide +kernel
theorem dX7_init_8 : decode cX7_init 8 = .ok (.newarray .int, 2) := by decide +kernel
theorem dX7_init_10 : decode cX7_init 10 = .ok (.putfield 9, 3) := by decide +kernel
theorem dX7_init_13 : decode cX7_init 13 = .ok (.return_, 1) := by decide +kernel
theorem dX7_takeBytes_0 : decode cX7_takeBytes 0 = .ok (.bipush 56, 2) := by decide +kernel
theorem dX7_takeBytes_2 : decode cX7_takeBytes 2 = .ok (.istore_n 3, 1) := by decide +kernel
theorem dX7_takeBytes_3 : decode cX7_takeBytes 3 = .ok (.iload_n 3, 1) := by decide +kernel
theorem dX7_takeBytes_4 : decode cX7_takeBytes 4 = .ok (.ifCond .lt 81, 3) := by decide +kernel
theorem dX7_takeBytes_7 : decode cX7_takeBytes 7 = .ok (.lload_n 1, 1) := by decide +kernel
theorem dX7_takeBytes_8 : decode cX7_takeBytes 8 = .ok (.iload_n 3, 1) := by decide +kernel
theorem dX7_takeBytes_9 : decode cX7_takeBytes 9 = .ok (.lushr, 1) := by decide +kernel
theorem dX7_takeBytes_10 : decode cX7_takeBytes 10 = .ok (.l2i, 1) := by decide +kernel
theorem dX7_takeBytes_11 : decode cX7_takeBytes 11 = .ok (.sipush 255, 3) := by decide +kernel
theorem dX7_takeBytes_14 : decode cX7_takeBytes 14 = .ok (.iand, 1) := by decide +kernel
theorem dX7_takeBytes_15 : decode cX7_takeBytes 15 = .ok (.istore 4, 2) := by decide +kernel
theorem dX7_takeBytes_17 : decode cX7_takeBytes 17 = .ok (.iload 4, 2) := by decide +kernel
theorem dX7_takeBytes_19 : decode cX7_takeBytes 19 = .ok (.bipush 10, 2) := by decide +kernel
theorem dX7_takeBytes_21 : decode cX7_takeBytes 21 = .ok (.if_icmp .eq 15, 3) := by decide +kernel
theorem dX7_takeBytes_24 : decode cX7_takeBytes 24 = .ok (.iload 4, 2) := by decide +kernel
theorem dX7_takeBytes_26 : decode cX7_takeBytes 26 = .ok (.bipush 32, 2) := by decide +kernel
theorem dX7_takeBytes_28 : decode cX7_takeBytes 28 = .ok (.bipush 126, 2) := by decide +kernel
theorem dX7_takeBytes_30 : decode cX7_takeBytes 30 = .ok (.invokestatic 15, 3) := by decide +kernel
theorem dX7_takeBytes_33 : decode cX7_takeBytes 33 = .ok (.ifCond .eq 7, 3) := by decide +kernel
theorem dX7_takeBytes_36 : decode cX7_takeBytes 36 = .ok (.iconst 1, 1) := by decide +kernel
theorem dX7_takeBytes_37 : decode cX7_takeBytes 37 = .ok (.goto 4, 3) := by decide +kernel
theorem dX7_takeBytes_40 : decode cX7_takeBytes 40 = .ok (.iconst 0, 1) := by decide +kernel
theorem dX7_takeBytes_41 : decode cX7_takeBytes 41 = .ok (.istore 5, 2) := by decide +kernel
theorem dX7_takeBytes_43 : decode cX7_takeBytes 43 = .ok (.iload 5, 2) := by decide +kernel
theorem dX7_takeBytes_45 : decode cX7_takeBytes 45 = .ok (.ifCond .eq 34, 3) := by decide +kernel
theorem dX7_takeBytes_48 : decode cX7_takeBytes 48 = .ok (.aload_n 0, 1) := by decide +kernel
theorem dX7_takeBytes_49 : decode cX7_takeBytes 49 = .ok (.getfield 19, 3) := by decide +kernel
theorem dX7_takeBytes_52 : decode cX7_takeBytes 52 = .ok (.sipush 600, 3) := by decide +kernel
