theorem dX7_takeBytes_55 : decode cX7_takeBytes 55 = .ok (.if_icmp .ge 24, 3) := by decide +kernel
theorem dX7_takeBytes_58 : decode cX7_takeBytes 58 = .ok (.aload_n 0, 1) := by decide +kernel
theorem dX7_takeBytes_59 : decode cX7_takeBytes 59 = .ok (.getfield 9, 3) := by decide +kernel
theorem dX7_takeBytes_62 : decode cX7_takeBytes 62 = .ok (.aload_n 0, 1) := by decide +kernel
theorem dX7_takeBytes_63 : decode cX7_takeBytes 63 = .ok (.getfield 19, 3) := by decide +kernel
theorem dX7_takeBytes_66 : decode cX7_takeBytes 66 = .ok (.iload 4, 2) := by decide +kernel
theorem dX7_takeBytes_68 : decode cX7_takeBytes 68 = .ok (.iastore, 1) := by decide +kernel
theorem dX7_takeBytes_69 : decode cX7_takeBytes 69 = .ok (.aload_n 0, 1) := by decide +kernel
theorem dX7_takeBytes_70 : decode cX7_takeBytes 70 = .ok (.dup, 1) := by decide +kernel
theorem dX7_takeBytes_71 : decode cX7_takeBytes 71 = .ok (.getfield 19, 3) := by decide +kernel
theorem dX7_takeBytes_74 : decode cX7_takeBytes 74 = .ok (.iconst 1, 1) := by decide +kernel
theorem dX7_takeBytes_75 : decode cX7_takeBytes 75 = .ok (.iadd, 1) := by decide +kernel
theorem dX7_takeBytes_76 : decode cX7_takeBytes 76 = .ok (.putfield 19, 3) := by decide +kernel
theorem dX7_takeBytes_79 : decode cX7_takeBytes 79 = .ok (.iinc 3 (-8), 3) := by decide +kernel
theorem dX7_takeBytes_82 : decode cX7_takeBytes 82 = .ok (.goto (-79), 3) := by decide +kernel
theorem dX7_takeBytes_85 : decode cX7_takeBytes 85 = .ok (.return_, 1) := by decide +kernel
theorem dX7_endOfBlanks_0 : decode cX7_endOfBlanks 0 = .ok (.iload_n 1, 1) := by decide +kernel
theorem dX7_endOfBlanks_1 : decode cX7_endOfBlanks 1 = .ok (.istore_n 2, 1) := by decide +kernel
theorem dX7_endOfBlanks_2 : decode cX7_endOfBlanks 2 = .ok (.iload_n 2, 1) := by decide +kernel
theorem dX7_endOfBlanks_3 : decode cX7_endOfBlanks 3 = .ok (.aload_n 0, 1) := by decide +kernel
theorem dX7_endOfBlanks_4 : decode cX7_endOfBlanks 4 = .ok (.getfield 19, 3) := by decide +kernel
theorem dX7_endOfBlanks_7 : decode cX7_endOfBlanks 7 = .ok (.if_icmp .ge 31, 3) := by decide +kernel
theorem dX7_endOfBlanks_10 : decode cX7_endOfBlanks 10 = .ok (.aload_n 0, 1) := by decide +kernel
theorem dX7_endOfBlanks_11 : decode cX7_endOfBlanks 11 = .ok (.getfield 9, 3) := by decide +kernel
theorem dX7_endOfBlanks_14 : decode cX7_endOfBlanks 14 = .ok (.iload_n 2, 1) := by decide +kernel
theorem dX7_endOfBlanks_15 : decode cX7_endOfBlanks 15 = .ok (.iaload, 1) := by decide +kernel
theorem dX7_endOfBlanks_16 : decode cX7_endOfBlanks 16 = .ok (.bipush 10, 2) := by decide +kernel
theorem dX7_endOfBlanks_18 : decode cX7_endOfBlanks 18 = .ok (.if_icmp .eq 14, 3) := by decide +kernel
theorem dX7_endOfBlanks_21 : decode cX7_endOfBlanks 21 = .ok (.aload_n 0, 1) := by decide +kernel
theorem dX7_endOfBlanks_22 : decode cX7_endOfBlanks 22 = .ok (.getfield 9, 3) := by decide +kernel
theorem dX7_endOfBlanks_25 : decode cX7_endOfBlanks 25 = .ok (.iload_n 2, 1) := by decide +kernel
theorem dX7_endOfBlanks_26 : decode cX7_endOfBlanks 26 = .ok (.iaload, 1) := by decide +kernel
theorem dX7_endOfBlanks_27 : decode cX7_endOfBlanks 27 = .ok (.bipush 32, 2) := by decide +kernel
theorem dX7_endOfBlanks_29 : decode cX7_endOfBlanks 29 = .ok (.if_icmp .ne 9, 3) := by decide +kernel
theorem dX7_endOfBlanks_32 : decode cX7_endOfBlanks 32 = .ok (.iinc 2 1, 3) := by decide +kernel
theorem dX7_endOfBlanks_35 : decode cX7_endOfBlanks 35 = .ok (.goto (-33), 3) := by decide +kernel
theorem dX7_endOfBlanks_38 : decode cX7_endOfBlanks 38 = .ok (.iload_n 2, 1) := by decide +kernel
theorem dX7_endOfBlanks_39 : decode cX7_endOfBlanks 39 = .ok (.ireturn, 1) := by decide +kernel
theorem dX7_endOfLetters_0 : decode cX7_endOfLetters 0 = .ok (.iload_n 1, 1) := by decide +kernel
theorem dX7_endOfLetters_1 : decode cX7_endOfLetters 1 = .ok (.istore_n 2, 1) := by decide +kernel
theorem dX7_endOfLetters_2 : decode cX7_endOfLetters 2 = .ok (.iload_n 2, 1) := by decide +kernel
theorem dX7_endOfLetters_3 : decode cX7_endOfLetters 3 = .ok (.aload_n 0, 1) := by decide +kernel
theorem dX7_endOfLetters_4 : decode cX7_endOfLetters 4 = .ok (.getfield 19, 3) := by decide +kernel
theorem dX7_endOfLetters_7 : decode cX7_endOfLetters 7 = .ok (.if_icmp .ge 25, 3) := by decide +kernel
theorem dX7_endOfLetters_10 : decode cX7_endOfLetters 10 = .ok (.aload_n 0, 1) := by decide +kernel
theorem dX7_endOfLetters_11 : decode cX7_endOfLetters 11 = .ok (.getfield 9, 3) := by decide +kernel
theorem dX7_endOfLetters_14 : decode cX7_endOfLetters 14 = .ok (.iload_n 2, 1) := by decide +kernel
theorem dX7_endOfLetters_15 : decode cX7_endOfLetters 15 = .ok (.iaload, 1) := by decide +kernel
theorem dX7_endOfLetters_16 : decode cX7_endOfLetters 16 = .ok (.bipush 97, 2) := by decide +kernel
theorem dX7_endOfLetters_18 : decode cX7_endOfLetters 18 = .ok (.bipush 122, 2) := by decide +kernel
theorem dX7_endOfLetters_20 : decode cX7_endOfLetters 20 = .ok (.invokestatic 15, 3) := by decide +kernel
theorem dX7_endOfLetters_23 : decode cX7_endOfLetters 23 = .ok (.ifCond .eq 9, 3) := by decide +kernel
theorem dX7_endOfLetters_26 : decode cX7_endOfLetters 26 = .ok (.iinc 2 1, 3) := by decide +kernel
theorem dX7_endOfLetters_29 : decode cX7_endOfLetters 29 = .ok (.goto (-27), 3) := by decide +kernel
theorem dX7_endOfLetters_32 : decode cX7_endOfLetters 32 = .ok (.iload_n 2, 1) := by decide +kernel
theorem dX7_endOfLetters_33 : decode cX7_endOfLetters 33 = .ok (.ireturn, 1) := by decide +kernel
theorem dX7_endOfDigits_0 : decode cX7_endOfDigits 0 = .ok (.iload_n 1, 1) := by decide +kernel
theorem dX7_endOfDigits_1 : decode cX7_endOfDigits 1 = .ok (.istore_n 2, 1) := by decide +kernel
theorem dX7_endOfDigits_2 : decode cX7_endOfDigits 2 = .ok (.iload_n 2, 1) := by decide +kernel
theorem dX7_endOfDigits_3 : decode cX7_endOfDigits 3 = .ok (.aload_n 0, 1) := by decide +kernel
theorem dX7_endOfDigits_4 : decode cX7_endOfDigits 4 = .ok (.getfield 19, 3) := by decide +kernel
theorem dX7_endOfDigits_7 : decode cX7_endOfDigits 7 = .ok (.if_icmp .ge 25, 3) := by decide +kernel
theorem dX7_endOfDigits_10 : decode cX7_endOfDigits 10 = .ok (.aload_n 0, 1) := by decide +kernel
theorem dX7_endOfDigits_11 : decode cX7_endOfDigits 11 = .ok (.getfield 9, 3) := by decide +kernel
theorem dX7_endOfDigits_14 : decode cX7_endOfDigits 14 = .ok (.iload_n 2, 1) := by decide +kernel
theorem dX7_endOfDigits_15 : decode cX7_endOfDigits 15 = .ok (.iaload, 1) := by decide +kernel
theorem dX7_endOfDigits_16 : decode cX7_endOfDigits 16 = .ok (.bipush 48, 2) := by decide +kernel
theorem dX7_endOfDigits_18 : decode cX7_endOfDigits 18 = .ok (.bipush 57, 2) := by decide +kernel
theorem dX7_endOfDigits_20 : decode cX7_endOfDigits 20 = .ok (.invokestatic 15, 3) := by decide +kernel
theorem dX7_endOfDigits_23 : decode cX7_endOfDigits 23 = .ok (.ifCond .eq 9, 3) := by decide +kernel
theorem dX7_endOfDigits_26 : decode cX7_endOfDigits 26 = .ok (.iinc 2 1, 3) := by decide +kernel
theorem dX7_endOfDigits_29 : decode cX7_endOfDigits 29 = .ok (.goto (-27), 3) := by decide +kernel
theorem dX7_endOfDigits_32 : decode cX7_endOfDigits 32 = .ok (.iload_n 2, 1) := by decide +kernel
theorem dX7_endOfDigits_33 : decode cX7_endOfDigits 33 = .ok (.ireturn, 1) := by decide +kernel
theorem dX7_numberIn_0 : decode cX7_numberIn 0 = .ok (.iconst 0, 1) := by decide +kernel
theorem dX7_numberIn_1 : decode cX7_numberIn 1 = .ok (.istore_n 3, 1) := by decide +kernel
theorem dX7_numberIn_2 : decode cX7_numberIn 2 = .ok (.iload_n 1, 1) := by decide +kernel
theorem dX7_numberIn_3 : decode cX7_numberIn 3 = .ok (.istore 4, 2) := by decide +kernel
theorem dX7_numberIn_5 : decode cX7_numberIn 5 = .ok (.iload 4, 2) := by decide +kernel
theorem dX7_numberIn_7 : decode cX7_numberIn 7 = .ok (.iload_n 2, 1) := by decide +kernel
theorem dX7_numberIn_8 : decode cX7_numberIn 8 = .ok (.if_icmp .ge 25, 3) := by decide +kernel
theorem dX7_numberIn_11 : decode cX7_numberIn 11 = .ok (.iload_n 3, 1) := by decide +kernel
theorem dX7_numberIn_12 : decode cX7_numberIn 12 = .ok (.bipush 10, 2) := by decide +kernel
theorem dX7_numberIn_14 : decode cX7_numberIn 14 = .ok (.imul, 1) := by decide +kernel
theorem dX7_numberIn_15 : decode cX7_numberIn 15 = .ok (.aload_n 0, 1) := by decide +kernel
theorem dX7_numberIn_16 : decode cX7_numberIn 16 = .ok (.getfield 9, 3) := by decide +kernel
theorem dX7_numberIn_19 : decode cX7_numberIn 19 = .ok (.iload 4, 2) := by decide +kernel
theorem dX7_numberIn_21 : decode cX7_numberIn 21 = .ok (.iaload, 1) := by decide +kernel
theorem dX7_numberIn_22 : decode cX7_numberIn 22 = .ok (.bipush 48, 2) := by decide +kernel
theorem dX7_numberIn_24 : decode cX7_numberIn 24 = .ok (.isub, 1) := by decide +kernel
theorem dX7_numberIn_25 : decode cX7_numberIn 25 = .ok (.iadd, 1) := by decide +kernel
theorem dX7_numberIn_26 : decode cX7_numberIn 26 = .ok (.istore_n 3, 1) := by decide +kernel
theorem dX7_numberIn_27 : decode cX7_numberIn 27 = .ok (.iinc 4 1, 3) := by decide +kernel
theorem dX7_numberIn_30 : decode cX7_numberIn 30 = .ok (.goto (-25), 3) := by decide +kernel
theorem dX7_numberIn_33 : decode cX7_numberIn 33 = .ok (.iload_n 3, 1) := by decide +kernel
theorem dX7_numberIn_34 : decode cX7_numberIn 34 = .ok (.ireturn, 1) := by decide +kernel
theorem dX7_spells_0 : decode cX7_spells 0 = .ok (.iload_n 3, 1) := by decide +kernel
theorem dX7_spells_1 : decode cX7_spells 1 = .ok (.iload_n 2, 1) := by decide +kernel
theorem dX7_spells_2 : decode cX7_spells 2 = .ok (.isub, 1) := by decide +kernel
theorem dX7_spells_3 : decode cX7_spells 3 = .ok (.aload_n 1, 1) := by decide +kernel
theorem dX7_spells_4 : decode cX7_spells 4 = .ok (.invokevirtual 23, 3) := by decide +kernel
theorem dX7_spells_7 : decode cX7_spells 7 = .ok (.if_icmp .eq 5, 3) := by decide +kernel
theorem dX7_spells_10 : decode cX7_spells 10 = .ok (.iconst 0, 1) := by decide +kernel
theorem dX7_spells_11 : decode cX7_spells 11 = .ok (.ireturn, 1) := by decide +kernel
theorem dX7_spells_12 : decode cX7_spells 12 = .ok (.iload_n 2, 1) := by decide +kernel
theorem dX7_spells_13 : decode cX7_spells 13 = .ok (.istore 4, 2) := by decide +kernel
theorem dX7_spells_15 : decode cX7_spells 15 = .ok (.iload 4, 2) := by decide +kernel
theorem dX7_spells_17 : decode cX7_spells 17 = .ok (.iload_n 3, 1) := by decide +kernel
theorem dX7_spells_18 : decode cX7_spells 18 = .ok (.if_icmp .ge 29, 3) := by decide +kernel
theorem dX7_spells_21 : decode cX7_spells 21 = .ok (.aload_n 0, 1) := by decide +kernel
theorem dX7_spells_22 : decode cX7_spells 22 = .ok (.getfield 9, 3) := by decide +kernel
theorem dX7_spells_25 : decode cX7_spells 25 = .ok (.iload 4, 2) := by decide +kernel
theorem dX7_spells_27 : decode cX7_spells 27 = .ok (.iaload, 1) := by decide +kernel
theorem dX7_spells_28 : decode cX7_spells 28 = .ok (.aload_n 1, 1) := by decide +kernel
theorem dX7_spells_29 : decode cX7_spells 29 = .ok (.iload 4, 2) := by decide +kernel
theorem dX7_spells_31 : decode cX7_spells 31 = .ok (.iload_n 2, 1) := by decide +kernel
theorem dX7_spells_32 : decode cX7_spells 32 = .ok (.isub, 1) := by decide +kernel
theorem dX7_spells_33 : decode cX7_spells 33 = .ok (.invokevirtual 28, 3) := by decide +kernel
theorem dX7_spells_36 : decode cX7_spells 36 = .ok (.if_icmp .eq 5, 3) := by decide +kernel
theorem dX7_spells_39 : decode cX7_spells 39 = .ok (.iconst 0, 1) := by decide +kernel
theorem dX7_spells_40 : decode cX7_spells 40 = .ok (.ireturn, 1) := by decide +kernel
theorem dX7_spells_41 : decode cX7_spells 41 = .ok (.iinc 4 1, 3) := by decide +kernel
theorem dX7_spells_44 : decode cX7_spells 44 = .ok (.goto (-29), 3) := by decide +kernel
theorem dX7_spells_47 : decode cX7_spells 47 = .ok (.iconst 1, 1) := by decide +kernel
theorem dX7_spells_48 : decode cX7_spells 48 = .ok (.ireturn, 1) := by decide +kernel
theorem dX8_init_0 : decode cX8_init 0 = .ok (.aload_n 0, 1) := by decide +kernel
theorem dX8_init_1 : decode cX8_init 1 = .ok (.invokespecial 3, 3) := by decide +kernel
theorem dX8_init_4 : decode cX8_init 4 = .ok (.aload_n 0, 1) := by decide +kernel
theorem dX8_init_5 : decode cX8_init 5 = .ok (.sipush 601, 3) := by decide +kernel
theorem dX8_init_8 : decode cX8_init 8 = .ok (.newarray .int, 2) := by decide +kernel
theorem dX8_init_10 : decode cX8_init 10 = .ok (.putfield 11, 3) := by decide +kernel
theorem dX8_init_13 : decode cX8_init 13 = .ok (.aload_n 0, 1) := by decide +kernel
theorem dX8_init_14 : decode cX8_init 14 = .ok (.sipush 601, 3) := by decide +kernel
theorem dX8_init_17 : decode cX8_init 17 = .ok (.newarray .int, 2) := by decide +kernel
theorem dX8_init_19 : decode cX8_init 19 = .ok (.putfield 15, 3) := by decide +kernel
theorem dX8_init_22 : decode cX8_init 22 = .ok (.aload_n 0, 1) := by decide +kernel
theorem dX8_init_23 : decode cX8_init 23 = .ok (.sipush 601, 3) := by decide +kernel
theorem dX8_init_26 : decode cX8_init 26 = .ok (.newarray .int, 2) := by decide +kernel
theorem dX8_init_28 : decode cX8_init 28 = .ok (.putfield 18, 3) := by decide +kernel
theorem dX8_init_31 : decode cX8_init 31 = .ok (.return_, 1) := by decide +kernel
theorem dX8_scan_0 : decode cX8_scan 0 = .ok (.aload_n 0, 1) := by decide +kernel
theorem dX8_scan_1 : decode cX8_scan 1 = .ok (.iconst 0, 1) := by decide +kernel
theorem dX8_scan_2 : decode cX8_scan 2 = .ok (.putfield 21, 3) := by decide +kernel
theorem dX8_scan_5 : decode cX8_scan 5 = .ok (.aload_n 1, 1) := by decide +kernel
theorem dX8_scan_6 : decode cX8_scan 6 = .ok (.iconst 0, 1) := by decide +kernel
theorem dX8_scan_7 : decode cX8_scan 7 = .ok (.invokevirtual 25, 3) := by decide +kernel
theorem dX8_scan_10 : decode cX8_scan 10 = .ok (.istore_n 2, 1) := by decide +kernel
theorem dX8_scan_11 : decode cX8_scan 11 = .ok (.iconst 0, 1) := by decide +kernel
theorem dX8_scan_12 : decode cX8_scan 12 = .ok (.istore_n 3, 1) := by decide +kernel
theorem dX8_scan_13 : decode cX8_scan 13 = .ok (.iload_n 3, 1) := by decide +kernel
theorem dX8_scan_14 : decode cX8_scan 14 = .ok (.sipush 600, 3) := by decide +kernel
theorem dX8_scan_17 : decode cX8_scan 17 = .ok (.if_icmp .ge 28, 3) := by decide +kernel
theorem dX8_scan_20 : decode cX8_scan 20 = .ok (.iload_n 2, 1) := by decide +kernel
theorem dX8_scan_21 : decode cX8_scan 21 = .ok (.aload_n 1, 1) := by decide +kernel
theorem dX8_scan_22 : decode cX8_scan 22 = .ok (.getfield 31, 3) := by decide +kernel
theorem dX8_scan_25 : decode cX8_scan 25 = .ok (.if_icmp .ge 20, 3) := by decide +kernel
theorem dX8_scan_28 : decode cX8_scan 28 = .ok (.aload_n 1, 1) := by decide +kernel
theorem dX8_scan_29 : decode cX8_scan 29 = .ok (.aload_n 0, 1) := by decide +kernel
theorem dX8_scan_30 : decode cX8_scan 30 = .ok (.aload_n 1, 1) := by decide +kernel
theorem dX8_scan_31 : decode cX8_scan 31 = .ok (.iload_n 2, 1) := by decide +kernel
theorem dX8_scan_32 : decode cX8_scan 32 = .ok (.invokevirtual 32, 3) := by decide +kernel
theorem dX8_scan_35 : decode cX8_scan 35 = .ok (.invokevirtual 25, 3) := by decide +kernel
theorem dX8_scan_38 : decode cX8_scan 38 = .ok (.istore_n 2, 1) := by decide +kernel
theorem dX8_scan_39 : decode cX8_scan 39 = .ok (.iinc 3 1, 3) := by decide +kernel
theorem dX8_scan_42 : decode cX8_scan 42 = .ok (.goto (-29), 3) := by decide +kernel
theorem dX8_scan_45 : decode cX8_scan 45 = .ok (.aload_n 0, 1) := by decide +kernel
theorem dX8_scan_46 : decode cX8_scan 46 = .ok (.bipush 19, 2) := by decide +kernel
theorem dX8_scan_48 : decode cX8_scan 48 = .ok (.iload_n 2, 1) := by decide +kernel
theorem dX8_scan_49 : decode cX8_scan 49 = .ok (.iconst 0, 1) := by decide +kernel
theorem dX8_scan_50 : decode cX8_scan 50 = .ok (.invokevirtual 36, 3) := by decide +kernel
theorem dX8_scan_53 : decode cX8_scan 53 = .ok (.return_, 1) := by decide +kernel
theorem dX8_scanOne_0 : decode cX8_scanOne 0 = .ok (.aload_n 1, 1) := by decide +kernel
theorem dX8_scanOne_1 : decode cX8_scanOne 1 = .ok (.iload_n 2, 1) := by decide +kernel
theorem dX8_scanOne_2 : decode cX8_scanOne 2 = .ok (.invokevirtual 40, 3) := by decide +kernel
theorem dX8_scanOne_5 : decode cX8_scanOne 5 = .ok (.istore_n 3, 1) := by decide +kernel
theorem dX8_scanOne_6 : decode cX8_scanOne 6 = .ok (.iload_n 3, 1) := by decide +kernel
theorem dX8_scanOne_7 : decode cX8_scanOne 7 = .ok (.iload_n 2, 1) := by decide +kernel
theorem dX8_scanOne_8 : decode cX8_scanOne 8 = .ok (.if_icmp .le 30, 3) := by decide +kernel
theorem dX8_scanOne_11 : decode cX8_scanOne 11 = .ok (.aload_n 0, 1) := by decide +kernel
theorem dX8_scanOne_12 : decode cX8_scanOne 12 = .ok (.iload_n 3, 1) := by decide +kernel
theorem dX8_scanOne_13 : decode cX8_scanOne 13 = .ok (.iload_n 2, 1) := by decide +kernel
theorem dX8_scanOne_14 : decode cX8_scanOne 14 = .ok (.isub, 1) := by decide +kernel
theorem dX8_scanOne_15 : decode cX8_scanOne 15 = .ok (.bipush 8, 2) := by decide +kernel
theorem dX8_scanOne_17 : decode cX8_scanOne 17 = .ok (.if_icmp .le 8, 3) := by decide +kernel
theorem dX8_scanOne_20 : decode cX8_scanOne 20 = .ok (.bipush 20, 2) := by decide +kernel
theorem dX8_scanOne_22 : decode cX8_scanOne 22 = .ok (.goto 9, 3) := by decide +kernel
theorem dX8_scanOne_25 : decode cX8_scanOne 25 = .ok (.aload_n 1, 1) := by decide +kernel
theorem dX8_scanOne_26 : decode cX8_scanOne 26 = .ok (.iload_n 2, 1) := by decide +kernel
theorem dX8_scanOne_27 : decode cX8_scanOne 27 = .ok (.iload_n 3, 1) := by decide +kernel
theorem dX8_scanOne_28 : decode cX8_scanOne 28 = .ok (.invokestatic 43, 3) := by decide +kernel
theorem dX8_scanOne_31 : decode cX8_scanOne 31 = .ok (.iload_n 2, 1) := by decide +kernel
theorem dX8_scanOne_32 : decode cX8_scanOne 32 = .ok (.iconst 0, 1) := by decide +kernel
theorem dX8_scanOne_33 : decode cX8_scanOne 33 = .ok (.invokevirtual 36, 3) := by decide +kernel
theorem dX8_scanOne_36 : decode cX8_scanOne 36 = .ok (.iload_n 3, 1) := by decide +kernel
theorem dX8_scanOne_37 : decode cX8_scanOne 37 = .ok (.ireturn, 1) := by decide +kernel
theorem dX8_scanOne_38 : decode cX8_scanOne 38 = .ok (.aload_n 1, 1) := by decide +kernel
theorem dX8_scanOne_39 : decode cX8_scanOne 39 = .ok (.iload_n 2, 1) := by decide +kernel
theorem dX8_scanOne_40 : decode cX8_scanOne 40 = .ok (.invokevirtual 47, 3) := by decide +kernel
theorem dX8_scanOne_43 : decode cX8_scanOne 43 = .ok (.istore_n 3, 1) := by decide +kernel
theorem dX8_scanOne_44 : decode cX8_scanOne 44 = .ok (.iload_n 3, 1) := by decide +kernel
theorem dX8_scanOne_45 : decode cX8_scanOne 45 = .ok (.iload_n 2, 1) := by decide +kernel
theorem dX8_scanOne_46 : decode cX8_scanOne 46 = .ok (.if_icmp .le 51, 3) := by decide +kernel
theorem dX8_scanOne_49 : decode cX8_scanOne 49 = .ok (.iload_n 3, 1) := by decide +kernel
theorem dX8_scanOne_50 : decode cX8_scanOne 50 = .ok (.iload_n 2, 1) := by decide +kernel
theorem dX8_scanOne_51 : decode cX8_scanOne 51 = .ok (.isub, 1) := by decide +kernel
theorem dX8_scanOne_52 : decode cX8_scanOne 52 = .ok (.iconst 4, 1) := by decide +kernel
theorem dX8_scanOne_53 : decode cX8_scanOne 53 = .ok (.if_icmp .gt 7, 3) := by decide +kernel
theorem dX8_scanOne_56 : decode cX8_scanOne 56 = .ok (.iconst 1, 1) := by decide +kernel
theorem dX8_scanOne_57 : decode cX8_scanOne 57 = .ok (.goto 4, 3) := by decide +kernel
theorem dX8_scanOne_60 : decode cX8_scanOne 60 = .ok (.iconst 0, 1) := by decide +kernel
theorem dX8_scanOne_61 : decode cX8_scanOne 61 = .ok (.istore 4, 2) := by decide +kernel
theorem dX8_scanOne_63 : decode cX8_scanOne 63 = .ok (.aload_n 0, 1) := by decide +kernel
theorem dX8_scanOne_64 : decode cX8_scanOne 64 = .ok (.iload 4, 2) := by decide +kernel
theorem dX8_scanOne_66 : decode cX8_scanOne 66 = .ok (.ifCond .eq 8, 3) := by decide +kernel
theorem dX8_scanOne_69 : decode cX8_scanOne 69 = .ok (.bipush 7, 2) := by decide +kernel
theorem dX8_scanOne_71 : decode cX8_scanOne 71 = .ok (.goto 5, 3) := by decide +kernel
theorem dX8_scanOne_74 : decode cX8_scanOne 74 = .ok (.bipush 20, 2) := by decide +kernel
theorem dX8_scanOne_76 : decode cX8_scanOne 76 = .ok (.iload_n 2, 1) := by decide +kernel
theorem dX8_scanOne_77 : decode cX8_scanOne 77 = .ok (.iload 4, 2) := by decide +kernel
theorem dX8_scanOne_79 : decode cX8_scanOne 79 = .ok (.ifCond .eq 12, 3) := by decide +kernel
theorem dX8_scanOne_82 : decode cX8_scanOne 82 = .ok (.aload_n 1, 1) := by decide +kernel
theorem dX8_scanOne_83 : decode cX8_scanOne 83 = .ok (.iload_n 2, 1) := by decide +kernel
theorem dX8_scanOne_84 : decode cX8_scanOne 84 = .ok (.iload_n 3, 1) := by decide +kernel
theorem dX8_scanOne_85 : decode cX8_scanOne 85 = .ok (.invokevirtual 50, 3) := by decide +kernel
theorem dX8_scanOne_88 : decode cX8_scanOne 88 = .ok (.goto 4, 3) := by decide +kernel
theorem dX8_scanOne_91 : decode cX8_scanOne 91 = .ok (.iconst 0, 1) := by decide +kernel
theorem dX8_scanOne_92 : decode cX8_scanOne 92 = .ok (.invokevirtual 36, 3) := by decide +kernel
theorem dX8_scanOne_95 : decode cX8_scanOne 95 = .ok (.iload_n 3, 1) := by decide +kernel
theorem dX8_scanOne_96 : decode cX8_scanOne 96 = .ok (.ireturn, 1) := by decide +kernel
theorem dX8_scanOne_97 : decode cX8_scanOne 97 = .ok (.aload_n 0, 1) := by decide +kernel
theorem dX8_scanOne_98 : decode cX8_scanOne 98 = .ok (.aload_n 1, 1) := by decide +kernel
theorem dX8_scanOne_99 : decode cX8_scanOne 99 = .ok (.getfield 54, 3) := by decide +kernel
theorem dX8_scanOne_102 : decode cX8_scanOne 102 = .ok (.iload_n 2, 1) := by decide +kernel
theorem dX8_scanOne_103 : decode cX8_scanOne 103 = .ok (.iaload, 1) := by decide +kernel
theorem dX8_scanOne_104 : decode cX8_scanOne 104 = .ok (.invokestatic 57, 3) := by decide +kernel
theorem dX8_scanOne_107 : decode cX8_scanOne 107 = .ok (.iload_n 2, 1) := by decide +kernel
theorem dX8_scanOne_108 : decode cX8_scanOne 108 = .ok (.iconst 0, 1) := by decide +kernel
theorem dX8_scanOne_109 : decode cX8_scanOne 109 = .ok (.invokevirtual 36, 3) := by decide +kernel
theorem dX8_scanOne_112 : decode cX8_scanOne 112 = .ok (.iload_n 2, 1) := by decide +kernel
theorem dX8_scanOne_113 : decode cX8_scanOne 113 = .ok (.iconst 1, 1) := by decide +kernel
theorem dX8_scanOne_114 : decode cX8_scanOne 114 = .ok (.iadd, 1) := by decide +kernel
theorem dX8_scanOne_115 : decode cX8_scanOne 115 = .ok (.ireturn, 1) := by decide +kernel
theorem dX8_add_0 : decode cX8_add 0 = .ok (.aload_n 0, 1) := by decide +kernel
theorem dX8_add_1 : decode cX8_add 1 = .ok (.getfield 21, 3) := by decide +kernel
theorem dX8_add_4 : decode cX8_add 4 = .ok (.sipush 601, 3) := by decide +kernel
theorem dX8_add_7 : decode cX8_add 7 = .ok (.if_icmp .ge 43, 3) := by decide +kernel
theorem dX8_add_10 : decode cX8_add 10 = .ok (.aload_n 0, 1) := by decide +kernel
theorem dX8_add_11 : decode cX8_add 11 = .ok (.getfield 11, 3) := by decide +kernel
theorem dX8_add_14 : decode cX8_add 14 = .ok (.aload_n 0, 1) := by decide +kernel
theorem dX8_add_15 : decode cX8_add 15 = .ok (.getfield 21, 3) := by decide +kernel
theorem dX8_add_18 : decode cX8_add 18 = .ok (.iload_n 1, 1) := by decide +kernel
theorem dX8_add_19 : decode cX8_add 19 = .ok (.iastore, 1) := by decide +kernel
theorem dX8_add_20 : decode cX8_add 20 = .ok (.aload_n 0, 1) := by decide +kernel
theorem dX8_add_21 : decode cX8_add 21 = .ok (.getfield 15, 3) := by decide +kernel
theorem dX8_add_24 : decode cX8_add 24 = .ok (.aload_n 0, 1) := by decide +kernel
theorem dX8_add_25 : decode cX8_add 25 = .ok (.getfield 21, 3) := by decide +kernel
theorem dX8_add_28 : decode cX8_add 28 = .ok (.iload_n 2, 1) := by decide +kernel
theorem dX8_add_29 : decode cX8_add 29 = .ok (.iastore, 1) := by decide +kernel
theorem dX8_add_30 : decode cX8_add 30 = .ok (.aload_n 0, 1) := by decide +kernel
theorem dX8_add_31 : decode cX8_add 31 = .ok (.getfield 18, 3) := by decide +kernel
theorem dX8_add_34 : decode cX8_add 34 = .ok (.aload_n 0, 1) := by decide +kernel
theorem dX8_add_35 : decode cX8_add 35 = .ok (.getfield 21, 3) := by decide +kernel
theorem dX8_add_38 : decode cX8_add 38 = .ok (.iload_n 3, 1) := by decide +kernel
theorem dX8_add_39 : decode cX8_add 39 = .ok (.iastore, 1) := by decide +kernel
theorem dX8_add_40 : decode cX8_add 40 = .ok (.aload_n 0, 1) := by decide +kernel
theorem dX8_add_41 : decode cX8_add 41 = .ok (.dup, 1) := by decide +kernel
theorem dX8_add_42 : decode cX8_add 42 = .ok (.getfield 21, 3) := by decide +kernel
theorem dX8_add_45 : decode cX8_add 45 = .ok (.iconst 1, 1) := by decide +kernel
theorem dX8_add_46 : decode cX8_add 46 = .ok (.iadd, 1) := by decide +kernel
theorem dX8_add_47 : decode cX8_add 47 = .ok (.putfield 21, 3) := by decide +kernel
theorem dX8_add_50 : decode cX8_add 50 = .ok (.return_, 1) := by decide +kernel
theorem dX8_kindOfWord_0 : decode cX8_kindOfWord 0 = .ok (.aload_n 0, 1) := by decide +kernel
theorem dX8_kindOfWord_1 : decode cX8_kindOfWord 1 = .ok (.ldc 60, 2) := by decide +kernel
theorem dX8_kindOfWord_3 : decode cX8_kindOfWord 3 = .ok (.iload_n 1, 1) := by decide +kernel
theorem dX8_kindOfWord_4 : decode cX8_kindOfWord 4 = .ok (.iload_n 2, 1) := by decide +kernel
theorem dX8_kindOfWord_5 : decode cX8_kindOfWord 5 = .ok (.invokevirtual 62, 3) := by decide +kernel
theorem dX8_kindOfWord_8 : decode cX8_kindOfWord 8 = .ok (.ifCond .eq 5, 3) := by decide +kernel
theorem dX8_kindOfWord_11 : decode cX8_kindOfWord 11 = .ok (.iconst 0, 1) := by decide +kernel
theorem dX8_kindOfWord_12 : decode cX8_kindOfWord 12 = .ok (.ireturn, 1) := by decide +kernel
theorem dX8_kindOfWord_13 : decode cX8_kindOfWord 13 = .ok (.aload_n 0, 1) := by decide +kernel
theorem dX8_kindOfWord_14 : decode cX8_kindOfWord 14 = .ok (.ldc 66, 2) := by decide +kernel
theorem dX8_kindOfWord_16 : decode cX8_kindOfWord 16 = .ok (.iload_n 1, 1) := by decide +kernel
theorem dX8_kindOfWord_17 : decode cX8_kindOfWord 17 = .ok (.iload_n 2, 1) := by decide +kernel
theorem dX8_kindOfWord_18 : decode cX8_kindOfWord 18 = .ok (.invokevirtual 62, 3) := by decide +kernel
theorem dX8_kindOfWord_21 : decode cX8_kindOfWord 21 = .ok (.ifCond .eq 5, 3) := by decide +kernel
theorem dX8_kindOfWord_24 : decode cX8_kindOfWord 24 = .ok (.iconst 1, 1) := by decide +kernel
theorem dX8_kindOfWord_25 : decode cX8_kindOfWord 25 = .ok (.ireturn, 1) := by decide +kernel
theorem dX8_kindOfWord_26 : decode cX8_kindOfWord 26 = .ok (.aload_n 0, 1) := by decide +kernel
theorem dX8_kindOfWord_27 : decode cX8_kindOfWord 27 = .ok (.ldc 68, 2) := by decide +kernel
theorem dX8_kindOfWord_29 : decode cX8_kindOfWord 29 = .ok (.iload_n 1, 1) := by decide +kernel
theorem dX8_kindOfWord_30 : decode cX8_kindOfWord 30 = .ok (.iload_n 2, 1) := by decide +kernel
theorem dX8_kindOfWord_31 : decode cX8_kindOfWord 31 = .ok (.invokevirtual 62, 3) := by decide +kernel
theorem dX8_kindOfWord_34 : decode cX8_kindOfWord 34 = .ok (.ifCond .eq 5, 3) := by decide +kernel
theorem dX8_kindOfWord_37 : decode cX8_kindOfWord 37 = .ok (.iconst 2, 1) := by decide +kernel
theorem dX8_kindOfWord_38 : decode cX8_kindOfWord 38 = .ok (.ireturn, 1) := by decide +kernel
theorem dX8_kindOfWord_39 : decode cX8_kindOfWord 39 = .ok (.aload_n 0, 1) := by decide +kernel
theorem dX8_kindOfWord_40 : decode cX8_kindOfWord 40 = .ok (.ldc 70, 2) := by decide +kernel
theorem dX8_kindOfWord_42 : decode cX8_kindOfWord 42 = .ok (.iload_n 1, 1) := by decide +kernel
theorem dX8_kindOfWord_43 : decode cX8_kindOfWord 43 = .ok (.iload_n 2, 1) := by decide +kernel
theorem dX8_kindOfWord_44 : decode cX8_kindOfWord 44 = .ok (.invokevirtual 62, 3) := by decide +kernel
theorem dX8_kindOfWord_47 : decode cX8_kindOfWord 47 = .ok (.ifCond .eq 5, 3) := by decide +kernel
theorem dX8_kindOfWord_50 : decode cX8_kindOfWord 50 = .ok (.iconst 3, 1) := by decide +kernel
theorem dX8_kindOfWord_51 : decode cX8_kindOfWord 51 = .ok (.ireturn, 1) := by decide +kernel
theorem dX8_kindOfWord_52 : decode cX8_kindOfWord 52 = .ok (.aload_n 0, 1) := by decide +kernel
theorem dX8_kindOfWord_53 : decode cX8_kindOfWord 53 = .ok (.ldc 72, 2) := by decide +kernel
theorem dX8_kindOfWord_55 : decode cX8_kindOfWord 55 = .ok (.iload_n 1, 1) := by decide +kernel
theorem dX8_kindOfWord_56 : decode cX8_kindOfWord 56 = .ok (.iload_n 2, 1) := by decide +kernel
theorem dX8_kindOfWord_57 : decode cX8_kindOfWord 57 = .ok (.invokevirtual 62, 3) := by decide +kernel
theorem dX8_kindOfWord_60 : decode cX8_kindOfWord 60 = .ok (.ifCond .eq 5, 3) := by decide +kernel
theorem dX8_kindOfWord_63 : decode cX8_kindOfWord 63 = .ok (.iconst 4, 1) := by decide +kernel
theorem dX8_kindOfWord_64 : decode cX8_kindOfWord 64 = .ok (.ireturn, 1) := by decide +kernel
theorem dX8_kindOfWord_65 : decode cX8_kindOfWord 65 = .ok (.aload_n 0, 1) := by decide +kernel
theorem dX8_kindOfWord_66 : decode cX8_kindOfWord 66 = .ok (.ldc 74, 2) := by decide +kernel
theorem dX8_kindOfWord_68 : decode cX8_kindOfWord 68 = .ok (.iload_n 1, 1) := by decide +kernel
theorem dX8_kindOfWord_69 : decode cX8_kindOfWord 69 = .ok (.iload_n 2, 1) := by decide +kernel
theorem dX8_kindOfWord_70 : decode cX8_kindOfWord 70 = .ok (.invokevirtual 62, 3) := by decide +kernel
theorem dX8_kindOfWord_73 : decode cX8_kindOfWord 73 = .ok (.ifCond .eq 5, 3) := by decide +kernel
theorem dX8_kindOfWord_76 : decode cX8_kindOfWord 76 = .ok (.iconst 5, 1) := by decide +kernel
theorem dX8_kindOfWord_77 : decode cX8_kindOfWord 77 = .ok (.ireturn, 1) := by decide +kernel
theorem dX8_kindOfWord_78 : decode cX8_kindOfWord 78 = .ok (.aload_n 0, 1) := by decide +kernel
theorem dX8_kindOfWord_79 : decode cX8_kindOfWord 79 = .ok (.ldc 76, 2) := by decide +kernel
theorem dX8_kindOfWord_81 : decode cX8_kindOfWord 81 = .ok (.iload_n 1, 1) := by decide +kernel
theorem dX8_kindOfWord_82 : decode cX8_kindOfWord 82 = .ok (.iload_n 2, 1) := by decide +kernel
theorem dX8_kindOfWord_83 : decode cX8_kindOfWord 83 = .ok (.invokevirtual 62, 3) := by decide +kernel
theorem dX8_kindOfWord_86 : decode cX8_kindOfWord 86 = .ok (.ifCond .eq 6, 3) := by decide +kernel
theorem dX8_kindOfWord_89 : decode cX8_kindOfWord 89 = .ok (.bipush 6, 2) := by decide +kernel
theorem dX8_kindOfWord_91 : decode cX8_kindOfWord 91 = .ok (.ireturn, 1) := by decide +kernel
theorem dX8_kindOfWord_92 : decode cX8_kindOfWord 92 = .ok (.aload_n 0, 1) := by decide +kernel
theorem dX8_kindOfWord_93 : decode cX8_kindOfWord 93 = .ok (.ldc 78, 2) := by decide +kernel
theorem dX8_kindOfWord_95 : decode cX8_kindOfWord 95 = .ok (.iload_n 1, 1) := by decide +kernel
theorem dX8_kindOfWord_96 : decode cX8_kindOfWord 96 = .ok (.iload_n 2, 1) := by decide +kernel
theorem dX8_kindOfWord_97 : decode cX8_kindOfWord 97 = .ok (.invokevirtual 62, 3) := by decide +kernel
theorem dX8_kindOfWord_100 : decode cX8_kindOfWord 100 = .ok (.ifCond .eq 6, 3) := by decide +kernel
theorem dX8_kindOfWord_103 : decode cX8_kindOfWord 103 = .ok (.bipush 14, 2) := by decide +kernel
theorem dX8_kindOfWord_105 : decode cX8_kindOfWord 105 = .ok (.ireturn, 1) := by decide +kernel
theorem dX8_kindOfWord_106 : decode cX8_kindOfWord 106 = .ok (.aload_n 0, 1) := by decide +kernel
theorem dX8_kindOfWord_107 : decode cX8_kindOfWord 107 = .ok (.ldc 80, 2) := by decide +kernel
theorem dX8_kindOfWord_109 : decode cX8_kindOfWord 109 = .ok (.iload_n 1, 1) := by decide +kernel
theorem dX8_kindOfWord_110 : decode cX8_kindOfWord 110 = .ok (.iload_n 2, 1) := by decide +kernel
theorem dX8_kindOfWord_111 : decode cX8_kindOfWord 111 = .ok (.invokevirtual 62, 3) := by decide +kernel
theorem dX8_kindOfWord_114 : decode cX8_kindOfWord 114 = .ok (.ifCond .eq 6, 3) := by decide +kernel
theorem dX8_kindOfWord_117 : decode cX8_kindOfWord 117 = .ok (.bipush 16, 2) := by decide +kernel
theorem dX8_kindOfWord_119 : decode cX8_kindOfWord 119 = .ok (.ireturn, 1) := by decide +kernel
theorem dX8_kindOfWord_120 : decode cX8_kindOfWord 120 = .ok (.aload_n 0, 1) := by decide +kernel
theorem dX8_kindOfWord_121 : decode cX8_kindOfWord 121 = .ok (.ldc 82, 2) := by decide +kernel
theorem dX8_kindOfWord_123 : decode cX8_kindOfWord 123 = .ok (.iload_n 1, 1) := by decide +kernel
theorem dX8_kindOfWord_124 : decode cX8_kindOfWord 124 = .ok (.iload_n 2, 1) := by decide +kernel
theorem dX8_kindOfWord_125 : decode cX8_kindOfWord 125 = .ok (.invokevirtual 62, 3) := by decide +kernel
theorem dX8_kindOfWord_128 : decode cX8_kindOfWord 128 = .ok (.ifCond .eq 6, 3) := by decide +kernel
theorem dX8_kindOfWord_131 : decode cX8_kindOfWord 131 = .ok (.bipush 17, 2) := by decide +kernel
theorem dX8_kindOfWord_133 : decode cX8_kindOfWord 133 = .ok (.ireturn, 1) := by decide +kernel
theorem dX8_kindOfWord_134 : decode cX8_kindOfWord 134 = .ok (.aload_n 0, 1) := by decide +kernel
theorem dX8_kindOfWord_135 : decode cX8_kindOfWord 135 = .ok (.ldc 84, 2) := by decide +kernel
theorem dX8_kindOfWord_137 : decode cX8_kindOfWord 137 = .ok (.iload_n 1, 1) := by decide +kernel
theorem dX8_kindOfWord_138 : decode cX8_kindOfWord 138 = .ok (.iload_n 2, 1) := by decide +kernel
theorem dX8_kindOfWord_139 : decode cX8_kindOfWord 139 = .ok (.invokevirtual 62, 3) := by decide +kernel
theorem dX8_kindOfWord_142 : decode cX8_kindOfWord 142 = .ok (.ifCond .eq 6, 3) := by decide +kernel
theorem dX8_kindOfWord_145 : decode cX8_kindOfWord 145 = .ok (.bipush 18, 2) := by decide +kernel
theorem dX8_kindOfWord_147 : decode cX8_kindOfWord 147 = .ok (.ireturn, 1) := by decide +kernel
theorem dX8_kindOfWord_148 : decode cX8_kindOfWord 148 = .ok (.bipush 20, 2) := by decide +kernel
theorem dX8_kindOfWord_150 : decode cX8_kindOfWord 150 = .ok (.ireturn, 1) := by decide +kernel
theorem dX8_kindOfSign_0 : decode cX8_kindOfSign 0 = .ok (.iload_n 0, 1) := by decide +kernel
theorem dX8_kindOfSign_1 : decode cX8_kindOfSign 1 = .ok (.tableswitch 124 40 61 #[103, 106, 124, 115, 124, 118, 124, 124, 124, 124, 124, 124, 124, 124, 124, 124, 124, 124, 124, 121, 109, 112], 103) := by decide +kernel
theorem dX8_kindOfSign_104 : decode cX8_kindOfSign 104 = .ok (.bipush 8, 2) := by decide +kernel
theorem dX8_kindOfSign_106 : decode cX8_kindOfSign 106 = .ok (.ireturn, 1) := by decide +kernel
theorem dX8_kindOfSign_107 : decode cX8_kindOfSign 107 = .ok (.bipush 9, 2) := by decide +kernel
theorem dX8_kindOfSign_109 : decode cX8_kindOfSign 109 = .ok (.ireturn, 1) := by decide +kernel
theorem dX8_kindOfSign_110 : decode cX8_kindOfSign 110 = .ok (.bipush 10, 2) := by decide +kernel
theorem dX8_kindOfSign_112 : decode cX8_kindOfSign 112 = .ok (.ireturn, 1) := by decide +kernel
theorem dX8_kindOfSign_113 : decode cX8_kindOfSign 113 = .ok (.bipush 11, 2) := by decide +kernel
theorem dX8_kindOfSign_115 : decode cX8_kindOfSign 115 = .ok (.ireturn, 1) := by decide +kernel
theorem dX8_kindOfSign_116 : decode cX8_kindOfSign 116 = .ok (.bipush 12, 2) := by decide +kernel
theorem dX8_kindOfSign_118 : decode cX8_kindOfSign 118 = .ok (.ireturn, 1) := by decide +kernel
theorem dX8_kindOfSign_119 : decode cX8_kindOfSign 119 = .ok (.bipush 13, 2) := by decide +kernel
theorem dX8_kindOfSign_121 : decode cX8_kindOfSign 121 = .ok (.ireturn, 1) := by decide +kernel
theorem dX8_kindOfSign_122 : decode cX8_kindOfSign 122 = .ok (.bipush 15, 2) := by decide +kernel
theorem dX8_kindOfSign_124 : decode cX8_kindOfSign 124 = .ok (.ireturn, 1) := by decide +kernel
theorem dX8_kindOfSign_125 : decode cX8_kindOfSign 125 = .ok (.bipush 20, 2) := by decide +kernel
theorem dX8_kindOfSign_127 : decode cX8_kindOfSign 127 = .ok (.ireturn, 1) := by decide +kernel
