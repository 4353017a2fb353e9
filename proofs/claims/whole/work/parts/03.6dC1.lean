theorem dX10_fitsAs_81 : decode cX10_fitsAs 81 = .ok (.if_icmp .ne 21, 3) := by decide +kernel
theorem dX10_fitsAs_84 : decode cX10_fitsAs 84 = .ok (.iload 6, 2) := by decide +kernel
theorem dX10_fitsAs_86 : decode cX10_fitsAs 86 = .ok (.aload_n 0, 1) := by decide +kernel
theorem dX10_fitsAs_87 : decode cX10_fitsAs 87 = .ok (.iload 7, 2) := by decide +kernel
theorem dX10_fitsAs_89 : decode cX10_fitsAs 89 = .ok (.iload 4, 2) := by decide +kernel
theorem dX10_fitsAs_91 : decode cX10_fitsAs 91 = .ok (.iconst 1, 1) := by decide +kernel
theorem dX10_fitsAs_92 : decode cX10_fitsAs 92 = .ok (.invokevirtual 271, 3) := by decide +kernel
theorem dX10_fitsAs_95 : decode cX10_fitsAs 95 = .ok (.if_icmp .ne 7, 3) := by decide +kernel
theorem dX10_fitsAs_98 : decode cX10_fitsAs 98 = .ok (.iconst 1, 1) := by decide +kernel
theorem dX10_fitsAs_99 : decode cX10_fitsAs 99 = .ok (.goto 4, 3) := by decide +kernel
theorem dX10_fitsAs_102 : decode cX10_fitsAs 102 = .ok (.iconst 0, 1) := by decide +kernel
theorem dX10_fitsAs_103 : decode cX10_fitsAs 103 = .ok (.istore_n 3, 1) := by decide +kernel
theorem dX10_fitsAs_104 : decode cX10_fitsAs 104 = .ok (.goto 109, 3) := by decide +kernel
theorem dX10_fitsAs_107 : decode cX10_fitsAs 107 = .ok (.iload 8, 2) := by decide +kernel
theorem dX10_fitsAs_109 : decode cX10_fitsAs 109 = .ok (.ifCond .ge 42, 3) := by decide +kernel
theorem dX10_fitsAs_112 : decode cX10_fitsAs 112 = .ok (.iload_n 3, 1) := by decide +kernel
theorem dX10_fitsAs_113 : decode cX10_fitsAs 113 = .ok (.ifCond .eq 33, 3) := by decide +kernel
theorem dX10_fitsAs_116 : decode cX10_fitsAs 116 = .ok (.aload_n 0, 1) := by decide +kernel
theorem dX10_fitsAs_117 : decode cX10_fitsAs 117 = .ok (.iload 7, 2) := by decide +kernel
theorem dX10_fitsAs_119 : decode cX10_fitsAs 119 = .ok (.iload 4, 2) := by decide +kernel
theorem dX10_fitsAs_121 : decode cX10_fitsAs 121 = .ok (.iload 5, 2) := by decide +kernel
theorem dX10_fitsAs_123 : decode cX10_fitsAs 123 = .ok (.invokevirtual 275, 3) := by decide +kernel
theorem dX10_fitsAs_126 : decode cX10_fitsAs 126 = .ok (.ifCond .ne 16, 3) := by decide +kernel
theorem dX10_fitsAs_129 : decode cX10_fitsAs 129 = .ok (.aload_n 0, 1) := by decide +kernel
theorem dX10_fitsAs_130 : decode cX10_fitsAs 130 = .ok (.iload 7, 2) := by decide +kernel
theorem dX10_fitsAs_132 : decode cX10_fitsAs 132 = .ok (.iload 4, 2) := by decide +kernel
theorem dX10_fitsAs_134 : decode cX10_fitsAs 134 = .ok (.iload 6, 2) := by decide +kernel
theorem dX10_fitsAs_136 : decode cX10_fitsAs 136 = .ok (.invokevirtual 275, 3) := by decide +kernel
theorem dX10_fitsAs_139 : decode cX10_fitsAs 139 = .ok (.ifCond .eq 7, 3) := by decide +kernel
theorem dX10_fitsAs_142 : decode cX10_fitsAs 142 = .ok (.iconst 1, 1) := by decide +kernel
theorem dX10_fitsAs_143 : decode cX10_fitsAs 143 = .ok (.goto 4, 3) := by decide +kernel
theorem dX10_fitsAs_146 : decode cX10_fitsAs 146 = .ok (.iconst 0, 1) := by decide +kernel
theorem dX10_fitsAs_147 : decode cX10_fitsAs 147 = .ok (.istore_n 3, 1) := by decide +kernel
theorem dX10_fitsAs_148 : decode cX10_fitsAs 148 = .ok (.goto 65, 3) := by decide +kernel
theorem dX10_fitsAs_151 : decode cX10_fitsAs 151 = .ok (.iload_n 3, 1) := by decide +kernel
theorem dX10_fitsAs_152 : decode cX10_fitsAs 152 = .ok (.ifCond .eq 59, 3) := by decide +kernel
theorem dX10_fitsAs_155 : decode cX10_fitsAs 155 = .ok (.aload_n 0, 1) := by decide +kernel
theorem dX10_fitsAs_156 : decode cX10_fitsAs 156 = .ok (.iload 7, 2) := by decide +kernel
theorem dX10_fitsAs_158 : decode cX10_fitsAs 158 = .ok (.iload 4, 2) := by decide +kernel
theorem dX10_fitsAs_160 : decode cX10_fitsAs 160 = .ok (.iload 5, 2) := by decide +kernel
theorem dX10_fitsAs_162 : decode cX10_fitsAs 162 = .ok (.invokevirtual 275, 3) := by decide +kernel
theorem dX10_fitsAs_165 : decode cX10_fitsAs 165 = .ok (.ifCond .eq 16, 3) := by decide +kernel
theorem dX10_fitsAs_168 : decode cX10_fitsAs 168 = .ok (.aload_n 0, 1) := by decide +kernel
theorem dX10_fitsAs_169 : decode cX10_fitsAs 169 = .ok (.iload 8, 2) := by decide +kernel
theorem dX10_fitsAs_171 : decode cX10_fitsAs 171 = .ok (.iload 4, 2) := by decide +kernel
theorem dX10_fitsAs_173 : decode cX10_fitsAs 173 = .ok (.iload 6, 2) := by decide +kernel
theorem dX10_fitsAs_175 : decode cX10_fitsAs 175 = .ok (.invokevirtual 275, 3) := by decide +kernel
theorem dX10_fitsAs_178 : decode cX10_fitsAs 178 = .ok (.ifCond .ne 29, 3) := by decide +kernel
theorem dX10_fitsAs_181 : decode cX10_fitsAs 181 = .ok (.aload_n 0, 1) := by decide +kernel
theorem dX10_fitsAs_182 : decode cX10_fitsAs 182 = .ok (.iload 7, 2) := by decide +kernel
theorem dX10_fitsAs_184 : decode cX10_fitsAs 184 = .ok (.iload 4, 2) := by decide +kernel
theorem dX10_fitsAs_186 : decode cX10_fitsAs 186 = .ok (.iload 6, 2) := by decide +kernel
theorem dX10_fitsAs_188 : decode cX10_fitsAs 188 = .ok (.invokevirtual 275, 3) := by decide +kernel
theorem dX10_fitsAs_191 : decode cX10_fitsAs 191 = .ok (.ifCond .eq 20, 3) := by decide +kernel
theorem dX10_fitsAs_194 : decode cX10_fitsAs 194 = .ok (.aload_n 0, 1) := by decide +kernel
theorem dX10_fitsAs_195 : decode cX10_fitsAs 195 = .ok (.iload 8, 2) := by decide +kernel
theorem dX10_fitsAs_197 : decode cX10_fitsAs 197 = .ok (.iload 4, 2) := by decide +kernel
theorem dX10_fitsAs_199 : decode cX10_fitsAs 199 = .ok (.iload 5, 2) := by decide +kernel
theorem dX10_fitsAs_201 : decode cX10_fitsAs 201 = .ok (.invokevirtual 275, 3) := by decide +kernel
theorem dX10_fitsAs_204 : decode cX10_fitsAs 204 = .ok (.ifCond .eq 7, 3) := by decide +kernel
theorem dX10_fitsAs_207 : decode cX10_fitsAs 207 = .ok (.iconst 1, 1) := by decide +kernel
theorem dX10_fitsAs_208 : decode cX10_fitsAs 208 = .ok (.goto 4, 3) := by decide +kernel
theorem dX10_fitsAs_211 : decode cX10_fitsAs 211 = .ok (.iconst 0, 1) := by decide +kernel
theorem dX10_fitsAs_212 : decode cX10_fitsAs 212 = .ok (.istore_n 3, 1) := by decide +kernel
theorem dX10_fitsAs_213 : decode cX10_fitsAs 213 = .ok (.iinc 4 1, 3) := by decide +kernel
theorem dX10_fitsAs_216 : decode cX10_fitsAs 216 = .ok (.goto (-211), 3) := by decide +kernel
theorem dX10_fitsAs_219 : decode cX10_fitsAs 219 = .ok (.iload_n 3, 1) := by decide +kernel
theorem dX10_fitsAs_220 : decode cX10_fitsAs 220 = .ok (.ireturn, 1) := by decide +kernel
theorem dX10_fits_0 : decode cX10_fits 0 = .ok (.aload_n 0, 1) := by decide +kernel
theorem dX10_fits_1 : decode cX10_fits 1 = .ok (.iconst 0, 1) := by decide +kernel
theorem dX10_fits_2 : decode cX10_fits 2 = .ok (.putfield 1, 3) := by decide +kernel
theorem dX10_fits_5 : decode cX10_fits 5 = .ok (.aload_n 0, 1) := by decide +kernel
theorem dX10_fits_6 : decode cX10_fits 6 = .ok (.iload_n 1, 1) := by decide +kernel
theorem dX10_fits_7 : decode cX10_fits 7 = .ok (.invokevirtual 268, 3) := by decide +kernel
theorem dX10_fits_10 : decode cX10_fits 10 = .ok (.ifCond .ne 7, 3) := by decide +kernel
theorem dX10_fits_13 : decode cX10_fits 13 = .ok (.iconst (-1), 1) := by decide +kernel
theorem dX10_fits_14 : decode cX10_fits 14 = .ok (.goto 17, 3) := by decide +kernel
theorem dX10_fits_17 : decode cX10_fits 17 = .ok (.aload_n 0, 1) := by decide +kernel
theorem dX10_fits_18 : decode cX10_fits 18 = .ok (.iload_n 1, 1) := by decide +kernel
theorem dX10_fits_19 : decode cX10_fits 19 = .ok (.iload_n 1, 1) := by decide +kernel
theorem dX10_fits_20 : decode cX10_fits 20 = .ok (.invokevirtual 279, 3) := by decide +kernel
theorem dX10_fits_23 : decode cX10_fits 23 = .ok (.ifCond .eq 7, 3) := by decide +kernel
theorem dX10_fits_26 : decode cX10_fits 26 = .ok (.iconst 1, 1) := by decide +kernel
theorem dX10_fits_27 : decode cX10_fits 27 = .ok (.goto 4, 3) := by decide +kernel
theorem dX10_fits_30 : decode cX10_fits 30 = .ok (.iconst 0, 1) := by decide +kernel
theorem dX10_fits_31 : decode cX10_fits 31 = .ok (.ireturn, 1) := by decide +kernel
theorem dX10_changed_0 : decode cX10_changed 0 = .ok (.aload_n 0, 1) := by decide +kernel
theorem dX10_changed_1 : decode cX10_changed 1 = .ok (.iconst 0, 1) := by decide +kernel
theorem dX10_changed_2 : decode cX10_changed 2 = .ok (.putfield 1, 3) := by decide +kernel
theorem dX10_changed_5 : decode cX10_changed 5 = .ok (.aload_n 0, 1) := by decide +kernel
theorem dX10_changed_6 : decode cX10_changed 6 = .ok (.iload_n 1, 1) := by decide +kernel
theorem dX10_changed_7 : decode cX10_changed 7 = .ok (.invokevirtual 268, 3) := by decide +kernel
theorem dX10_changed_10 : decode cX10_changed 10 = .ok (.ifCond .eq 16, 3) := by decide +kernel
theorem dX10_changed_13 : decode cX10_changed 13 = .ok (.aload_n 0, 1) := by decide +kernel
theorem dX10_changed_14 : decode cX10_changed 14 = .ok (.iload_n 2, 1) := by decide +kernel
theorem dX10_changed_15 : decode cX10_changed 15 = .ok (.invokevirtual 268, 3) := by decide +kernel
theorem dX10_changed_18 : decode cX10_changed 18 = .ok (.ifCond .eq 8, 3) := by decide +kernel
theorem dX10_changed_21 : decode cX10_changed 21 = .ok (.iload_n 1, 1) := by decide +kernel
theorem dX10_changed_22 : decode cX10_changed 22 = .ok (.iload_n 2, 1) := by decide +kernel
theorem dX10_changed_23 : decode cX10_changed 23 = .ok (.if_icmp .ne 5, 3) := by decide +kernel
theorem dX10_changed_26 : decode cX10_changed 26 = .ok (.iconst (-1), 1) := by decide +kernel
theorem dX10_changed_27 : decode cX10_changed 27 = .ok (.ireturn, 1) := by decide +kernel
theorem dX10_changed_28 : decode cX10_changed 28 = .ok (.aload_n 0, 1) := by decide +kernel
theorem dX10_changed_29 : decode cX10_changed 29 = .ok (.iload_n 1, 1) := by decide +kernel
theorem dX10_changed_30 : decode cX10_changed 30 = .ok (.iload_n 1, 1) := by decide +kernel
theorem dX10_changed_31 : decode cX10_changed 31 = .ok (.invokevirtual 279, 3) := by decide +kernel
theorem dX10_changed_34 : decode cX10_changed 34 = .ok (.ifCond .ne 34, 3) := by decide +kernel
theorem dX10_changed_37 : decode cX10_changed 37 = .ok (.aload_n 0, 1) := by decide +kernel
theorem dX10_changed_38 : decode cX10_changed 38 = .ok (.iload_n 2, 1) := by decide +kernel
theorem dX10_changed_39 : decode cX10_changed 39 = .ok (.iload_n 2, 1) := by decide +kernel
theorem dX10_changed_40 : decode cX10_changed 40 = .ok (.invokevirtual 279, 3) := by decide +kernel
theorem dX10_changed_43 : decode cX10_changed 43 = .ok (.ifCond .ne 25, 3) := by decide +kernel
theorem dX10_changed_46 : decode cX10_changed 46 = .ok (.aload_n 0, 1) := by decide +kernel
theorem dX10_changed_47 : decode cX10_changed 47 = .ok (.iload_n 1, 1) := by decide +kernel
theorem dX10_changed_48 : decode cX10_changed 48 = .ok (.iload_n 2, 1) := by decide +kernel
theorem dX10_changed_49 : decode cX10_changed 49 = .ok (.invokevirtual 279, 3) := by decide +kernel
theorem dX10_changed_52 : decode cX10_changed 52 = .ok (.ifCond .eq 16, 3) := by decide +kernel
theorem dX10_changed_55 : decode cX10_changed 55 = .ok (.aload_n 0, 1) := by decide +kernel
theorem dX10_changed_56 : decode cX10_changed 56 = .ok (.iload_n 2, 1) := by decide +kernel
theorem dX10_changed_57 : decode cX10_changed 57 = .ok (.iload_n 1, 1) := by decide +kernel
theorem dX10_changed_58 : decode cX10_changed 58 = .ok (.invokevirtual 279, 3) := by decide +kernel
theorem dX10_changed_61 : decode cX10_changed 61 = .ok (.ifCond .eq 7, 3) := by decide +kernel
theorem dX10_changed_64 : decode cX10_changed 64 = .ok (.iconst 1, 1) := by decide +kernel
theorem dX10_changed_65 : decode cX10_changed 65 = .ok (.goto 4, 3) := by decide +kernel
theorem dX10_changed_68 : decode cX10_changed 68 = .ok (.iconst 0, 1) := by decide +kernel
theorem dX10_changed_69 : decode cX10_changed 69 = .ok (.ireturn, 1) := by decide +kernel
theorem dX10_isName_0 : decode cX10_isName 0 = .ok (.iload_n 0, 1) := by decide +kernel
theorem dX10_isName_1 : decode cX10_isName 1 = .ok (.iconst 1, 1) := by decide +kernel
theorem dX10_isName_2 : decode cX10_isName 2 = .ok (.if_icmp .lt 13, 3) := by decide +kernel
theorem dX10_isName_5 : decode cX10_isName 5 = .ok (.iload_n 0, 1) := by decide +kernel
theorem dX10_isName_6 : decode cX10_isName 6 = .ok (.bipush 50, 2) := by decide +kernel
theorem dX10_isName_8 : decode cX10_isName 8 = .ok (.if_icmp .gt 7, 3) := by decide +kernel
theorem dX10_isName_11 : decode cX10_isName 11 = .ok (.iconst 1, 1) := by decide +kernel
theorem dX10_isName_12 : decode cX10_isName 12 = .ok (.goto 4, 3) := by decide +kernel
theorem dX10_isName_15 : decode cX10_isName 15 = .ok (.iconst 0, 1) := by decide +kernel
theorem dX10_isName_16 : decode cX10_isName 16 = .ok (.ireturn, 1) := by decide +kernel
theorem dX10_name_0 : decode cX10_name 0 = .ok (.aload_n 0, 1) := by decide +kernel
theorem dX10_name_1 : decode cX10_name 1 = .ok (.iconst 0, 1) := by decide +kernel
theorem dX10_name_2 : decode cX10_name 2 = .ok (.putfield 1, 3) := by decide +kernel
theorem dX10_name_5 : decode cX10_name 5 = .ok (.aload_n 0, 1) := by decide +kernel
theorem dX10_name_6 : decode cX10_name 6 = .ok (.iload_n 1, 1) := by decide +kernel
theorem dX10_name_7 : decode cX10_name 7 = .ok (.invokevirtual 268, 3) := by decide +kernel
theorem dX10_name_10 : decode cX10_name 10 = .ok (.ifCond .eq 20, 3) := by decide +kernel
theorem dX10_name_13 : decode cX10_name 13 = .ok (.iload_n 2, 1) := by decide +kernel
theorem dX10_name_14 : decode cX10_name 14 = .ok (.invokestatic 283, 3) := by decide +kernel
theorem dX10_name_17 : decode cX10_name 17 = .ok (.ifCond .eq 13, 3) := by decide +kernel
theorem dX10_name_20 : decode cX10_name 20 = .ok (.aload_n 0, 1) := by decide +kernel
theorem dX10_name_21 : decode cX10_name 21 = .ok (.getfield 286, 3) := by decide +kernel
theorem dX10_name_24 : decode cX10_name 24 = .ok (.sipush 300, 3) := by decide +kernel
theorem dX10_name_27 : decode cX10_name 27 = .ok (.if_icmp .ne 5, 3) := by decide +kernel
theorem dX10_name_30 : decode cX10_name 30 = .ok (.iconst 0, 1) := by decide +kernel
theorem dX10_name_31 : decode cX10_name 31 = .ok (.ireturn, 1) := by decide +kernel
theorem dX10_name_32 : decode cX10_name 32 = .ok (.aload_n 0, 1) := by decide +kernel
theorem dX10_name_33 : decode cX10_name 33 = .ok (.getfield 123, 3) := by decide +kernel
theorem dX10_name_36 : decode cX10_name 36 = .ok (.aload_n 0, 1) := by decide +kernel
theorem dX10_name_37 : decode cX10_name 37 = .ok (.getfield 286, 3) := by decide +kernel
theorem dX10_name_40 : decode cX10_name 40 = .ok (.iload_n 1, 1) := by decide +kernel
theorem dX10_name_41 : decode cX10_name 41 = .ok (.iastore, 1) := by decide +kernel
theorem dX10_name_42 : decode cX10_name 42 = .ok (.aload_n 0, 1) := by decide +kernel
theorem dX10_name_43 : decode cX10_name 43 = .ok (.getfield 126, 3) := by decide +kernel
theorem dX10_name_46 : decode cX10_name 46 = .ok (.aload_n 0, 1) := by decide +kernel
theorem dX10_name_47 : decode cX10_name 47 = .ok (.getfield 286, 3) := by decide +kernel
theorem dX10_name_50 : decode cX10_name 50 = .ok (.iload_n 2, 1) := by decide +kernel
theorem dX10_name_51 : decode cX10_name 51 = .ok (.iastore, 1) := by decide +kernel
theorem dX10_name_52 : decode cX10_name 52 = .ok (.aload_n 0, 1) := by decide +kernel
theorem dX10_name_53 : decode cX10_name 53 = .ok (.getfield 129, 3) := by decide +kernel
theorem dX10_name_56 : decode cX10_name 56 = .ok (.aload_n 0, 1) := by decide +kernel
theorem dX10_name_57 : decode cX10_name 57 = .ok (.getfield 286, 3) := by decide +kernel
theorem dX10_name_60 : decode cX10_name 60 = .ok (.aload_n 0, 1) := by decide +kernel
theorem dX10_name_61 : decode cX10_name 61 = .ok (.getfield 255, 3) := by decide +kernel
theorem dX10_name_64 : decode cX10_name 64 = .ok (.iastore, 1) := by decide +kernel
theorem dX10_name_65 : decode cX10_name 65 = .ok (.aload_n 0, 1) := by decide +kernel
theorem dX10_name_66 : decode cX10_name 66 = .ok (.dup, 1) := by decide +kernel
theorem dX10_name_67 : decode cX10_name 67 = .ok (.getfield 286, 3) := by decide +kernel
theorem dX10_name_70 : decode cX10_name 70 = .ok (.iconst 1, 1) := by decide +kernel
theorem dX10_name_71 : decode cX10_name 71 = .ok (.iadd, 1) := by decide +kernel
theorem dX10_name_72 : decode cX10_name 72 = .ok (.putfield 286, 3) := by decide +kernel
theorem dX10_name_75 : decode cX10_name 75 = .ok (.iconst 1, 1) := by decide +kernel
theorem dX10_name_76 : decode cX10_name 76 = .ok (.ireturn, 1) := by decide +kernel
theorem dX10_leads_0 : decode cX10_leads 0 = .ok (.iload_n 1, 1) := by decide +kernel
theorem dX10_leads_1 : decode cX10_leads 1 = .ok (.istore_n 3, 1) := by decide +kernel
theorem dX10_leads_2 : decode cX10_leads 2 = .ok (.aload_n 0, 1) := by decide +kernel
theorem dX10_leads_3 : decode cX10_leads 3 = .ok (.iload_n 3, 1) := by decide +kernel
theorem dX10_leads_4 : decode cX10_leads 4 = .ok (.iload_n 2, 1) := by decide +kernel
theorem dX10_leads_5 : decode cX10_leads 5 = .ok (.invokevirtual 289, 3) := by decide +kernel
theorem dX10_leads_8 : decode cX10_leads 8 = .ok (.istore 4, 2) := by decide +kernel
theorem dX10_leads_10 : decode cX10_leads 10 = .ok (.iload 4, 2) := by decide +kernel
theorem dX10_leads_12 : decode cX10_leads 12 = .ok (.ifCond .le 17, 3) := by decide +kernel
theorem dX10_leads_15 : decode cX10_leads 15 = .ok (.iload 4, 2) := by decide +kernel
theorem dX10_leads_17 : decode cX10_leads 17 = .ok (.istore_n 3, 1) := by decide +kernel
theorem dX10_leads_18 : decode cX10_leads 18 = .ok (.aload_n 0, 1) := by decide +kernel
theorem dX10_leads_19 : decode cX10_leads 19 = .ok (.iload_n 3, 1) := by decide +kernel
theorem dX10_leads_20 : decode cX10_leads 20 = .ok (.iload_n 2, 1) := by decide +kernel
theorem dX10_leads_21 : decode cX10_leads 21 = .ok (.invokevirtual 289, 3) := by decide +kernel
theorem dX10_leads_24 : decode cX10_leads 24 = .ok (.istore 4, 2) := by decide +kernel
theorem dX10_leads_26 : decode cX10_leads 26 = .ok (.goto (-16), 3) := by decide +kernel
theorem dX10_leads_29 : decode cX10_leads 29 = .ok (.iload_n 3, 1) := by decide +kernel
theorem dX10_leads_30 : decode cX10_leads 30 = .ok (.ireturn, 1) := by decide +kernel
theorem dX10_joinedTo_0 : decode cX10_joinedTo 0 = .ok (.iconst 0, 1) := by decide +kernel
theorem dX10_joinedTo_1 : decode cX10_joinedTo 1 = .ok (.istore_n 3, 1) := by decide +kernel
theorem dX10_joinedTo_2 : decode cX10_joinedTo 2 = .ok (.iconst 0, 1) := by decide +kernel
theorem dX10_joinedTo_3 : decode cX10_joinedTo 3 = .ok (.istore 4, 2) := by decide +kernel
theorem dX10_joinedTo_5 : decode cX10_joinedTo 5 = .ok (.iload 4, 2) := by decide +kernel
theorem dX10_joinedTo_7 : decode cX10_joinedTo 7 = .ok (.aload_n 0, 1) := by decide +kernel
theorem dX10_joinedTo_8 : decode cX10_joinedTo 8 = .ok (.getfield 293, 3) := by decide +kernel
theorem dX10_joinedTo_11 : decode cX10_joinedTo 11 = .ok (.if_icmp .ge 43, 3) := by decide +kernel
theorem dX10_joinedTo_14 : decode cX10_joinedTo 14 = .ok (.aload_n 0, 1) := by decide +kernel
theorem dX10_joinedTo_15 : decode cX10_joinedTo 15 = .ok (.getfield 132, 3) := by decide +kernel
theorem dX10_joinedTo_18 : decode cX10_joinedTo 18 = .ok (.iload 4, 2) := by decide +kernel
theorem dX10_joinedTo_20 : decode cX10_joinedTo 20 = .ok (.iaload, 1) := by decide +kernel
theorem dX10_joinedTo_21 : decode cX10_joinedTo 21 = .ok (.iload_n 1, 1) := by decide +kernel
theorem dX10_joinedTo_22 : decode cX10_joinedTo 22 = .ok (.if_icmp .ne 24, 3) := by decide +kernel
theorem dX10_joinedTo_25 : decode cX10_joinedTo 25 = .ok (.aload_n 0, 1) := by decide +kernel
theorem dX10_joinedTo_26 : decode cX10_joinedTo 26 = .ok (.getfield 138, 3) := by decide +kernel
theorem dX10_joinedTo_29 : decode cX10_joinedTo 29 = .ok (.iload 4, 2) := by decide +kernel
theorem dX10_joinedTo_31 : decode cX10_joinedTo 31 = .ok (.iaload, 1) := by decide +kernel
theorem dX10_joinedTo_32 : decode cX10_joinedTo 32 = .ok (.iload_n 2, 1) := by decide +kernel
theorem dX10_joinedTo_33 : decode cX10_joinedTo 33 = .ok (.if_icmp .gt 13, 3) := by decide +kernel
theorem dX10_joinedTo_36 : decode cX10_joinedTo 36 = .ok (.aload_n 0, 1) := by decide +kernel
theorem dX10_joinedTo_37 : decode cX10_joinedTo 37 = .ok (.getfield 135, 3) := by decide +kernel
theorem dX10_joinedTo_40 : decode cX10_joinedTo 40 = .ok (.iload 4, 2) := by decide +kernel
theorem dX10_joinedTo_42 : decode cX10_joinedTo 42 = .ok (.iaload, 1) := by decide +kernel
theorem dX10_joinedTo_43 : decode cX10_joinedTo 43 = .ok (.goto 4, 3) := by decide +kernel
theorem dX10_joinedTo_46 : decode cX10_joinedTo 46 = .ok (.iload_n 3, 1) := by decide +kernel
theorem dX10_joinedTo_47 : decode cX10_joinedTo 47 = .ok (.istore_n 3, 1) := by decide +kernel
theorem dX10_joinedTo_48 : decode cX10_joinedTo 48 = .ok (.iinc 4 1, 3) := by decide +kernel
theorem dX10_joinedTo_51 : decode cX10_joinedTo 51 = .ok (.goto (-46), 3) := by decide +kernel
theorem dX10_joinedTo_54 : decode cX10_joinedTo 54 = .ok (.iload_n 3, 1) := by decide +kernel
theorem dX10_joinedTo_55 : decode cX10_joinedTo 55 = .ok (.ireturn, 1) := by decide +kernel
theorem dX10_leadsBack_0 : decode cX10_leadsBack 0 = .ok (.iload_n 1, 1) := by decide +kernel
theorem dX10_leadsBack_1 : decode cX10_leadsBack 1 = .ok (.istore_n 3, 1) := by decide +kernel
theorem dX10_leadsBack_2 : decode cX10_leadsBack 2 = .ok (.iload_n 3, 1) := by decide +kernel
theorem dX10_leadsBack_3 : decode cX10_leadsBack 3 = .ok (.ifCond .le 21, 3) := by decide +kernel
theorem dX10_leadsBack_6 : decode cX10_leadsBack 6 = .ok (.iload_n 3, 1) := by decide +kernel
theorem dX10_leadsBack_7 : decode cX10_leadsBack 7 = .ok (.iload_n 2, 1) := by decide +kernel
theorem dX10_leadsBack_8 : decode cX10_leadsBack 8 = .ok (.if_icmp .eq 16, 3) := by decide +kernel
theorem dX10_leadsBack_11 : decode cX10_leadsBack 11 = .ok (.aload_n 0, 1) := by decide +kernel
theorem dX10_leadsBack_12 : decode cX10_leadsBack 12 = .ok (.iload_n 3, 1) := by decide +kernel
theorem dX10_leadsBack_13 : decode cX10_leadsBack 13 = .ok (.aload_n 0, 1) := by decide +kernel
theorem dX10_leadsBack_14 : decode cX10_leadsBack 14 = .ok (.getfield 255, 3) := by decide +kernel
theorem dX10_leadsBack_17 : decode cX10_leadsBack 17 = .ok (.invokevirtual 289, 3) := by decide +kernel
theorem dX10_leadsBack_20 : decode cX10_leadsBack 20 = .ok (.istore_n 3, 1) := by decide +kernel
theorem dX10_leadsBack_21 : decode cX10_leadsBack 21 = .ok (.goto (-19), 3) := by decide +kernel
theorem dX10_leadsBack_24 : decode cX10_leadsBack 24 = .ok (.iload_n 3, 1) := by decide +kernel
theorem dX10_leadsBack_25 : decode cX10_leadsBack 25 = .ok (.iload_n 2, 1) := by decide +kernel
theorem dX10_leadsBack_26 : decode cX10_leadsBack 26 = .ok (.if_icmp .ne 7, 3) := by decide +kernel
theorem dX10_leadsBack_29 : decode cX10_leadsBack 29 = .ok (.iconst 1, 1) := by decide +kernel
theorem dX10_leadsBack_30 : decode cX10_leadsBack 30 = .ok (.goto 4, 3) := by decide +kernel
theorem dX10_leadsBack_33 : decode cX10_leadsBack 33 = .ok (.iconst 0, 1) := by decide +kernel
theorem dX10_leadsBack_34 : decode cX10_leadsBack 34 = .ok (.ireturn, 1) := by decide +kernel
theorem dX10_join_0 : decode cX10_join 0 = .ok (.aload_n 0, 1) := by decide +kernel
theorem dX10_join_1 : decode cX10_join 1 = .ok (.iconst 0, 1) := by decide +kernel
theorem dX10_join_2 : decode cX10_join 2 = .ok (.putfield 1, 3) := by decide +kernel
theorem dX10_join_5 : decode cX10_join 5 = .ok (.iload_n 1, 1) := by decide +kernel
theorem dX10_join_6 : decode cX10_join 6 = .ok (.invokestatic 283, 3) := by decide +kernel
theorem dX10_join_9 : decode cX10_join 9 = .ok (.ifCond .eq 41, 3) := by decide +kernel
theorem dX10_join_12 : decode cX10_join 12 = .ok (.iload_n 2, 1) := by decide +kernel
theorem dX10_join_13 : decode cX10_join 13 = .ok (.ifCond .eq 10, 3) := by decide +kernel
theorem dX10_join_16 : decode cX10_join 16 = .ok (.iload_n 2, 1) := by decide +kernel
theorem dX10_join_17 : decode cX10_join 17 = .ok (.invokestatic 283, 3) := by decide +kernel
theorem dX10_join_20 : decode cX10_join 20 = .ok (.ifCond .eq 30, 3) := by decide +kernel
theorem dX10_join_23 : decode cX10_join 23 = .ok (.iload_n 1, 1) := by decide +kernel
theorem dX10_join_24 : decode cX10_join 24 = .ok (.iload_n 2, 1) := by decide +kernel
theorem dX10_join_25 : decode cX10_join 25 = .ok (.if_icmp .eq 25, 3) := by decide +kernel
theorem dX10_join_28 : decode cX10_join 28 = .ok (.aload_n 0, 1) := by decide +kernel
theorem dX10_join_29 : decode cX10_join 29 = .ok (.getfield 293, 3) := by decide +kernel
theorem dX10_join_32 : decode cX10_join 32 = .ok (.bipush 100, 2) := by decide +kernel
theorem dX10_join_34 : decode cX10_join 34 = .ok (.if_icmp .eq 16, 3) := by decide +kernel
theorem dX10_join_37 : decode cX10_join 37 = .ok (.iload_n 2, 1) := by decide +kernel
theorem dX10_join_38 : decode cX10_join 38 = .ok (.ifCond .le 14, 3) := by decide +kernel
theorem dX10_join_41 : decode cX10_join 41 = .ok (.aload_n 0, 1) := by decide +kernel
theorem dX10_join_42 : decode cX10_join 42 = .ok (.iload_n 2, 1) := by decide +kernel
theorem dX10_join_43 : decode cX10_join 43 = .ok (.iload_n 1, 1) := by decide +kernel
theorem dX10_join_44 : decode cX10_join 44 = .ok (.invokevirtual 296, 3) := by decide +kernel
theorem dX10_join_47 : decode cX10_join 47 = .ok (.ifCond .eq 5, 3) := by decide +kernel
theorem dX10_join_50 : decode cX10_join 50 = .ok (.iconst 0, 1) := by decide +kernel
theorem dX10_join_51 : decode cX10_join 51 = .ok (.ireturn, 1) := by decide +kernel
theorem dX10_join_52 : decode cX10_join 52 = .ok (.aload_n 0, 1) := by decide +kernel
theorem dX10_join_53 : decode cX10_join 53 = .ok (.getfield 132, 3) := by decide +kernel
theorem dX10_join_56 : decode cX10_join 56 = .ok (.aload_n 0, 1) := by decide +kernel
theorem dX10_join_57 : decode cX10_join 57 = .ok (.getfield 293, 3) := by decide +kernel
theorem dX10_join_60 : decode cX10_join 60 = .ok (.iload_n 1, 1) := by decide +kernel
theorem dX10_join_61 : decode cX10_join 61 = .ok (.iastore, 1) := by decide +kernel
theorem dX10_join_62 : decode cX10_join 62 = .ok (.aload_n 0, 1) := by decide +kernel
theorem dX10_join_63 : decode cX10_join 63 = .ok (.getfield 135, 3) := by decide +kernel
theorem dX10_join_66 : decode cX10_join 66 = .ok (.aload_n 0, 1) := by decide +kernel
theorem dX10_join_67 : decode cX10_join 67 = .ok (.getfield 293, 3) := by decide +kernel
theorem dX10_join_70 : decode cX10_join 70 = .ok (.iload_n 2, 1) := by decide +kernel
theorem dX10_join_71 : decode cX10_join 71 = .ok (.iastore, 1) := by decide +kernel
theorem dX10_join_72 : decode cX10_join 72 = .ok (.aload_n 0, 1) := by decide +kernel
theorem dX10_join_73 : decode cX10_join 73 = .ok (.getfield 138, 3) := by decide +kernel
theorem dX10_join_76 : decode cX10_join 76 = .ok (.aload_n 0, 1) := by decide +kernel
theorem dX10_join_77 : decode cX10_join 77 = .ok (.getfield 293, 3) := by decide +kernel
theorem dX10_join_80 : decode cX10_join 80 = .ok (.aload_n 0, 1) := by decide +kernel
theorem dX10_join_81 : decode cX10_join 81 = .ok (.getfield 255, 3) := by decide +kernel
theorem dX10_join_84 : decode cX10_join 84 = .ok (.iastore, 1) := by decide +kernel
theorem dX10_join_85 : decode cX10_join 85 = .ok (.aload_n 0, 1) := by decide +kernel
theorem dX10_join_86 : decode cX10_join 86 = .ok (.dup, 1) := by decide +kernel
theorem dX10_join_87 : decode cX10_join 87 = .ok (.getfield 293, 3) := by decide +kernel
theorem dX10_join_90 : decode cX10_join 90 = .ok (.iconst 1, 1) := by decide +kernel
theorem dX10_join_91 : decode cX10_join 91 = .ok (.iadd, 1) := by decide +kernel
theorem dX10_join_92 : decode cX10_join 92 = .ok (.putfield 293, 3) := by decide +kernel
theorem dX10_join_95 : decode cX10_join 95 = .ok (.iconst 1, 1) := by decide +kernel
theorem dX10_join_96 : decode cX10_join 96 = .ok (.ireturn, 1) := by decide +kernel
theorem dX10_nameOf_0 : decode cX10_nameOf 0 = .ok (.iconst 0, 1) := by decide +kernel
theorem dX10_nameOf_1 : decode cX10_nameOf 1 = .ok (.istore 4, 2) := by decide +kernel
theorem dX10_nameOf_3 : decode cX10_nameOf 3 = .ok (.iconst 0, 1) := by decide +kernel
theorem dX10_nameOf_4 : decode cX10_nameOf 4 = .ok (.istore 5, 2) := by decide +kernel
theorem dX10_nameOf_6 : decode cX10_nameOf 6 = .ok (.iload 5, 2) := by decide +kernel
theorem dX10_nameOf_8 : decode cX10_nameOf 8 = .ok (.aload_n 0, 1) := by decide +kernel
theorem dX10_nameOf_9 : decode cX10_nameOf 9 = .ok (.getfield 286, 3) := by decide +kernel
theorem dX10_nameOf_12 : decode cX10_nameOf 12 = .ok (.if_icmp .ge 45, 3) := by decide +kernel
theorem dX10_nameOf_15 : decode cX10_nameOf 15 = .ok (.aload_n 0, 1) := by decide +kernel
theorem dX10_nameOf_16 : decode cX10_nameOf 16 = .ok (.getfield 123, 3) := by decide +kernel
theorem dX10_nameOf_19 : decode cX10_nameOf 19 = .ok (.iload 5, 2) := by decide +kernel
theorem dX10_nameOf_21 : decode cX10_nameOf 21 = .ok (.iaload, 1) := by decide +kernel
theorem dX10_nameOf_22 : decode cX10_nameOf 22 = .ok (.iload_n 1, 1) := by decide +kernel
theorem dX10_nameOf_23 : decode cX10_nameOf 23 = .ok (.if_icmp .ne 24, 3) := by decide +kernel
theorem dX10_nameOf_26 : decode cX10_nameOf 26 = .ok (.aload_n 0, 1) := by decide +kernel
theorem dX10_nameOf_27 : decode cX10_nameOf 27 = .ok (.getfield 129, 3) := by decide +kernel
theorem dX10_nameOf_30 : decode cX10_nameOf 30 = .ok (.iload 5, 2) := by decide +kernel
theorem dX10_nameOf_32 : decode cX10_nameOf 32 = .ok (.iaload, 1) := by decide +kernel
theorem dX10_nameOf_33 : decode cX10_nameOf 33 = .ok (.iload_n 2, 1) := by decide +kernel
theorem dX10_nameOf_34 : decode cX10_nameOf 34 = .ok (.if_icmp .gt 13, 3) := by decide +kernel
theorem dX10_nameOf_37 : decode cX10_nameOf 37 = .ok (.aload_n 0, 1) := by decide +kernel
theorem dX10_nameOf_38 : decode cX10_nameOf 38 = .ok (.getfield 126, 3) := by decide +kernel
theorem dX10_nameOf_41 : decode cX10_nameOf 41 = .ok (.iload 5, 2) := by decide +kernel
theorem dX10_nameOf_43 : decode cX10_nameOf 43 = .ok (.iaload, 1) := by decide +kernel
theorem dX10_nameOf_44 : decode cX10_nameOf 44 = .ok (.goto 5, 3) := by decide +kernel
theorem dX10_nameOf_47 : decode cX10_nameOf 47 = .ok (.iload 4, 2) := by decide +kernel
theorem dX10_nameOf_49 : decode cX10_nameOf 49 = .ok (.istore 4, 2) := by decide +kernel
theorem dX10_nameOf_51 : decode cX10_nameOf 51 = .ok (.iinc 5 1, 3) := by decide +kernel
theorem dX10_nameOf_54 : decode cX10_nameOf 54 = .ok (.goto (-48), 3) := by decide +kernel
theorem dX10_nameOf_57 : decode cX10_nameOf 57 = .ok (.iload 4, 2) := by decide +kernel
theorem dX10_nameOf_59 : decode cX10_nameOf 59 = .ok (.ifCond .ne 7, 3) := by decide +kernel
theorem dX10_nameOf_62 : decode cX10_nameOf 62 = .ok (.iconst 0, 1) := by decide +kernel
theorem dX10_nameOf_63 : decode cX10_nameOf 63 = .ok (.goto 10, 3) := by decide +kernel
theorem dX10_nameOf_66 : decode cX10_nameOf 66 = .ok (.aload_n 0, 1) := by decide +kernel
theorem dX10_nameOf_67 : decode cX10_nameOf 67 = .ok (.iload 4, 2) := by decide +kernel
theorem dX10_nameOf_69 : decode cX10_nameOf 69 = .ok (.iload_n 3, 1) := by decide +kernel
theorem dX10_nameOf_70 : decode cX10_nameOf 70 = .ok (.invokevirtual 299, 3) := by decide +kernel
theorem dX10_nameOf_73 : decode cX10_nameOf 73 = .ok (.ireturn, 1) := by decide +kernel
theorem dX10_named_0 : decode cX10_named 0 = .ok (.aload_n 0, 1) := by decide +kernel
theorem dX10_named_1 : decode cX10_named 1 = .ok (.aload_n 0, 1) := by decide +kernel
theorem dX10_named_2 : decode cX10_named 2 = .ok (.iload_n 1, 1) := by decide +kernel
theorem dX10_named_3 : decode cX10_named 3 = .ok (.invokevirtual 268, 3) := by decide +kernel
theorem dX10_named_6 : decode cX10_named 6 = .ok (.ifCond .eq 28, 3) := by decide +kernel
theorem dX10_named_9 : decode cX10_named 9 = .ok (.iload_n 2, 1) := by decide +kernel
theorem dX10_named_10 : decode cX10_named 10 = .ok (.ifCond .lt 24, 3) := by decide +kernel
theorem dX10_named_13 : decode cX10_named 13 = .ok (.iload_n 2, 1) := by decide +kernel
theorem dX10_named_14 : decode cX10_named 14 = .ok (.aload_n 0, 1) := by decide +kernel
theorem dX10_named_15 : decode cX10_named 15 = .ok (.getfield 255, 3) := by decide +kernel
theorem dX10_named_18 : decode cX10_named 18 = .ok (.if_icmp .gt 16, 3) := by decide +kernel
theorem dX10_named_21 : decode cX10_named 21 = .ok (.iload_n 3, 1) := by decide +kernel
theorem dX10_named_22 : decode cX10_named 22 = .ok (.ifCond .lt 12, 3) := by decide +kernel
theorem dX10_named_25 : decode cX10_named 25 = .ok (.iload_n 3, 1) := by decide +kernel
theorem dX10_named_26 : decode cX10_named 26 = .ok (.iconst 1, 1) := by decide +kernel
theorem dX10_named_27 : decode cX10_named 27 = .ok (.if_icmp .gt 7, 3) := by decide +kernel
theorem dX10_named_30 : decode cX10_named 30 = .ok (.iconst 0, 1) := by decide +kernel
theorem dX10_named_31 : decode cX10_named 31 = .ok (.goto 4, 3) := by decide +kernel
theorem dX10_named_34 : decode cX10_named 34 = .ok (.iconst 1, 1) := by decide +kernel
theorem dX10_named_35 : decode cX10_named 35 = .ok (.putfield 1, 3) := by decide +kernel
theorem dX10_named_38 : decode cX10_named 38 = .ok (.aload_n 0, 1) := by decide +kernel
theorem dX10_named_39 : decode cX10_named 39 = .ok (.getfield 1, 3) := by decide +kernel
theorem dX10_named_42 : decode cX10_named 42 = .ok (.ifCond .le 7, 3) := by decide +kernel
theorem dX10_named_45 : decode cX10_named 45 = .ok (.iconst 0, 1) := by decide +kernel
theorem dX10_named_46 : decode cX10_named 46 = .ok (.goto 21, 3) := by decide +kernel
theorem dX10_named_49 : decode cX10_named 49 = .ok (.aload_n 0, 1) := by decide +kernel
theorem dX10_named_50 : decode cX10_named 50 = .ok (.iload_n 1, 1) := by decide +kernel
theorem dX10_named_51 : decode cX10_named 51 = .ok (.iload_n 2, 1) := by decide +kernel
theorem dX10_named_52 : decode cX10_named 52 = .ok (.iload_n 3, 1) := by decide +kernel
theorem dX10_named_53 : decode cX10_named 53 = .ok (.ifCond .ne 7, 3) := by decide +kernel
theorem dX10_named_56 : decode cX10_named 56 = .ok (.iload_n 2, 1) := by decide +kernel
theorem dX10_named_57 : decode cX10_named 57 = .ok (.goto 7, 3) := by decide +kernel
theorem dX10_named_60 : decode cX10_named 60 = .ok (.aload_n 0, 1) := by decide +kernel
theorem dX10_named_61 : decode cX10_named 61 = .ok (.getfield 255, 3) := by decide +kernel
theorem dX10_named_64 : decode cX10_named 64 = .ok (.invokevirtual 302, 3) := by decide +kernel
theorem dX10_named_67 : decode cX10_named 67 = .ok (.ireturn, 1) := by decide +kernel
theorem dX10_isDigitNumber_0 : decode cX10_isDigitNumber 0 = .ok (.iload_n 0, 1) := by decide +kernel
theorem dX10_isDigitNumber_1 : decode cX10_isDigitNumber 1 = .ok (.ifCond .lt 13, 3) := by decide +kernel
theorem dX10_isDigitNumber_4 : decode cX10_isDigitNumber 4 = .ok (.iload_n 0, 1) := by decide +kernel
theorem dX10_isDigitNumber_5 : decode cX10_isDigitNumber 5 = .ok (.bipush 9, 2) := by decide +kernel
theorem dX10_isDigitNumber_7 : decode cX10_isDigitNumber 7 = .ok (.if_icmp .gt 7, 3) := by decide +kernel
theorem dX10_isDigitNumber_10 : decode cX10_isDigitNumber 10 = .ok (.iconst 1, 1) := by decide +kernel
theorem dX10_isDigitNumber_11 : decode cX10_isDigitNumber 11 = .ok (.goto 4, 3) := by decide +kernel
theorem dX10_isDigitNumber_14 : decode cX10_isDigitNumber 14 = .ok (.iconst 0, 1) := by decide +kernel
theorem dX10_isDigitNumber_15 : decode cX10_isDigitNumber 15 = .ok (.ireturn, 1) := by decide +kernel
theorem dX10_bed_0 : decode cX10_bed 0 = .ok (.aload_n 0, 1) := by decide +kernel
theorem dX10_bed_1 : decode cX10_bed 1 = .ok (.iconst 0, 1) := by decide +kernel
theorem dX10_bed_2 : decode cX10_bed 2 = .ok (.putfield 1, 3) := by decide +kernel
theorem dX10_bed_5 : decode cX10_bed 5 = .ok (.iload_n 1, 1) := by decide +kernel
theorem dX10_bed_6 : decode cX10_bed 6 = .ok (.invokestatic 305, 3) := by decide +kernel
theorem dX10_bed_9 : decode cX10_bed 9 = .ok (.ifCond .eq 30, 3) := by decide +kernel
theorem dX10_bed_12 : decode cX10_bed 12 = .ok (.iload_n 2, 1) := by decide +kernel
theorem dX10_bed_13 : decode cX10_bed 13 = .ok (.invokestatic 305, 3) := by decide +kernel
theorem dX10_bed_16 : decode cX10_bed 16 = .ok (.ifCond .eq 23, 3) := by decide +kernel
theorem dX10_bed_19 : decode cX10_bed 19 = .ok (.iload_n 3, 1) := by decide +kernel
theorem dX10_bed_20 : decode cX10_bed 20 = .ok (.iconst 1, 1) := by decide +kernel
theorem dX10_bed_21 : decode cX10_bed 21 = .ok (.if_icmp .lt 18, 3) := by decide +kernel
theorem dX10_bed_24 : decode cX10_bed 24 = .ok (.iload_n 3, 1) := by decide +kernel
theorem dX10_bed_25 : decode cX10_bed 25 = .ok (.bipush 40, 2) := by decide +kernel
theorem dX10_bed_27 : decode cX10_bed 27 = .ok (.if_icmp .gt 12, 3) := by decide +kernel
theorem dX10_bed_30 : decode cX10_bed 30 = .ok (.aload_n 0, 1) := by decide +kernel
theorem dX10_bed_31 : decode cX10_bed 31 = .ok (.getfield 308, 3) := by decide +kernel
theorem dX10_bed_34 : decode cX10_bed 34 = .ok (.bipush 8, 2) := by decide +kernel
theorem dX10_bed_36 : decode cX10_bed 36 = .ok (.if_icmp .ne 5, 3) := by decide +kernel
theorem dX10_bed_39 : decode cX10_bed 39 = .ok (.iconst (-1), 1) := by decide +kernel
theorem dX10_bed_40 : decode cX10_bed 40 = .ok (.ireturn, 1) := by decide +kernel
theorem dX10_bed_41 : decode cX10_bed 41 = .ok (.aload_n 0, 1) := by decide +kernel
theorem dX10_bed_42 : decode cX10_bed 42 = .ok (.getfield 141, 3) := by decide +kernel
theorem dX10_bed_45 : decode cX10_bed 45 = .ok (.aload_n 0, 1) := by decide +kernel
theorem dX10_bed_46 : decode cX10_bed 46 = .ok (.getfield 308, 3) := by decide +kernel
theorem dX10_bed_49 : decode cX10_bed 49 = .ok (.iload_n 1, 1) := by decide +kernel
theorem dX10_bed_50 : decode cX10_bed 50 = .ok (.iastore, 1) := by decide +kernel
theorem dX10_bed_51 : decode cX10_bed 51 = .ok (.aload_n 0, 1) := by decide +kernel
theorem dX10_bed_52 : decode cX10_bed 52 = .ok (.getfield 144, 3) := by decide +kernel
theorem dX10_bed_55 : decode cX10_bed 55 = .ok (.aload_n 0, 1) := by decide +kernel
theorem dX10_bed_56 : decode cX10_bed 56 = .ok (.getfield 308, 3) := by decide +kernel
theorem dX10_bed_59 : decode cX10_bed 59 = .ok (.iload_n 2, 1) := by decide +kernel
theorem dX10_bed_60 : decode cX10_bed 60 = .ok (.iastore, 1) := by decide +kernel
theorem dX10_bed_61 : decode cX10_bed 61 = .ok (.aload_n 0, 1) := by decide +kernel
theorem dX10_bed_62 : decode cX10_bed 62 = .ok (.getfield 147, 3) := by decide +kernel
theorem dX10_bed_65 : decode cX10_bed 65 = .ok (.aload_n 0, 1) := by decide +kernel
theorem dX10_bed_66 : decode cX10_bed 66 = .ok (.getfield 308, 3) := by decide +kernel
theorem dX10_bed_69 : decode cX10_bed 69 = .ok (.iload_n 3, 1) := by decide +kernel
theorem dX10_bed_70 : decode cX10_bed 70 = .ok (.iastore, 1) := by decide +kernel
theorem dX10_bed_71 : decode cX10_bed 71 = .ok (.aload_n 0, 1) := by decide +kernel
theorem dX10_bed_72 : decode cX10_bed 72 = .ok (.dup, 1) := by decide +kernel
theorem dX10_bed_73 : decode cX10_bed 73 = .ok (.getfield 308, 3) := by decide +kernel
theorem dX10_bed_76 : decode cX10_bed 76 = .ok (.iconst 1, 1) := by decide +kernel
theorem dX10_bed_77 : decode cX10_bed 77 = .ok (.iadd, 1) := by decide +kernel
theorem dX10_bed_78 : decode cX10_bed 78 = .ok (.putfield 308, 3) := by decide +kernel
theorem dX10_bed_81 : decode cX10_bed 81 = .ok (.aload_n 0, 1) := by decide +kernel
theorem dX10_bed_82 : decode cX10_bed 82 = .ok (.getfield 308, 3) := by decide +kernel
theorem dX10_bed_85 : decode cX10_bed 85 = .ok (.iconst 1, 1) := by decide +kernel
theorem dX10_bed_86 : decode cX10_bed 86 = .ok (.isub, 1) := by decide +kernel
theorem dX10_bed_87 : decode cX10_bed 87 = .ok (.ireturn, 1) := by decide +kernel
theorem dX10_isBed_0 : decode cX10_isBed 0 = .ok (.iload_n 1, 1) := by decide +kernel
theorem dX10_isBed_1 : decode cX10_isBed 1 = .ok (.ifCond .lt 15, 3) := by decide +kernel
theorem dX10_isBed_4 : decode cX10_isBed 4 = .ok (.iload_n 1, 1) := by decide +kernel
theorem dX10_isBed_5 : decode cX10_isBed 5 = .ok (.aload_n 0, 1) := by decide +kernel
theorem dX10_isBed_6 : decode cX10_isBed 6 = .ok (.getfield 308, 3) := by decide +kernel
theorem dX10_isBed_9 : decode cX10_isBed 9 = .ok (.if_icmp .ge 7, 3) := by decide +kernel
theorem dX10_isBed_12 : decode cX10_isBed 12 = .ok (.iconst 1, 1) := by decide +kernel
theorem dX10_isBed_13 : decode cX10_isBed 13 = .ok (.goto 4, 3) := by decide +kernel
theorem dX10_isBed_16 : decode cX10_isBed 16 = .ok (.iconst 0, 1) := by decide +kernel
theorem dX10_isBed_17 : decode cX10_isBed 17 = .ok (.ireturn, 1) := by decide +kernel
theorem dX10_change_0 : decode cX10_change 0 = .ok (.aload_n 0, 1) := by decide +kernel
theorem dX10_change_1 : decode cX10_change 1 = .ok (.iconst 0, 1) := by decide +kernel
theorem dX10_change_2 : decode cX10_change 2 = .ok (.putfield 1, 3) := by decide +kernel
theorem dX10_change_5 : decode cX10_change 5 = .ok (.aload_n 0, 1) := by decide +kernel
theorem dX10_change_6 : decode cX10_change 6 = .ok (.iload_n 1, 1) := by decide +kernel
theorem dX10_change_7 : decode cX10_change 7 = .ok (.invokevirtual 311, 3) := by decide +kernel
theorem dX10_change_10 : decode cX10_change 10 = .ok (.ifCond .eq 17, 3) := by decide +kernel
theorem dX10_change_13 : decode cX10_change 13 = .ok (.iload_n 2, 1) := by decide +kernel
theorem dX10_change_14 : decode cX10_change 14 = .ok (.invokestatic 305, 3) := by decide +kernel
theorem dX10_change_17 : decode cX10_change 17 = .ok (.ifCond .eq 10, 3) := by decide +kernel
theorem dX10_change_20 : decode cX10_change 20 = .ok (.iload_n 3, 1) := by decide +kernel
theorem dX10_change_21 : decode cX10_change 21 = .ok (.invokestatic 305, 3) := by decide +kernel
theorem dX10_change_24 : decode cX10_change 24 = .ok (.ifCond .ne 5, 3) := by decide +kernel
theorem dX10_change_27 : decode cX10_change 27 = .ok (.iconst 0, 1) := by decide +kernel
theorem dX10_change_28 : decode cX10_change 28 = .ok (.ireturn, 1) := by decide +kernel
theorem dX10_change_29 : decode cX10_change 29 = .ok (.aload_n 0, 1) := by decide +kernel
theorem dX10_change_30 : decode cX10_change 30 = .ok (.getfield 141, 3) := by decide +kernel
theorem dX10_change_33 : decode cX10_change 33 = .ok (.iload_n 1, 1) := by decide +kernel
theorem dX10_change_34 : decode cX10_change 34 = .ok (.iload_n 2, 1) := by decide +kernel
theorem dX10_change_35 : decode cX10_change 35 = .ok (.iastore, 1) := by decide +kernel
theorem dX10_change_36 : decode cX10_change 36 = .ok (.aload_n 0, 1) := by decide +kernel
theorem dX10_change_37 : decode cX10_change 37 = .ok (.getfield 144, 3) := by decide +kernel
theorem dX10_change_40 : decode cX10_change 40 = .ok (.iload_n 1, 1) := by decide +kernel
theorem dX10_change_41 : decode cX10_change 41 = .ok (.iload_n 3, 1) := by decide +kernel
theorem dX10_change_42 : decode cX10_change 42 = .ok (.iastore, 1) := by decide +kernel
theorem dX10_change_43 : decode cX10_change 43 = .ok (.iconst 1, 1) := by decide +kernel
theorem dX10_change_44 : decode cX10_change 44 = .ok (.ireturn, 1) := by decide +kernel
theorem dX10_needs_0 : decode cX10_needs 0 = .ok (.aload_n 0, 1) := by decide +kernel
theorem dX10_needs_1 : decode cX10_needs 1 = .ok (.iconst 0, 1) := by decide +kernel
theorem dX10_needs_2 : decode cX10_needs 2 = .ok (.putfield 1, 3) := by decide +kernel
theorem dX10_needs_5 : decode cX10_needs 5 = .ok (.aload_n 0, 1) := by decide +kernel
theorem dX10_needs_6 : decode cX10_needs 6 = .ok (.iload_n 1, 1) := by decide +kernel
theorem dX10_needs_7 : decode cX10_needs 7 = .ok (.invokevirtual 268, 3) := by decide +kernel
theorem dX10_needs_10 : decode cX10_needs 10 = .ok (.ifCond .eq 37, 3) := by decide +kernel
theorem dX10_needs_13 : decode cX10_needs 13 = .ok (.iload_n 2, 1) := by decide +kernel
theorem dX10_needs_14 : decode cX10_needs 14 = .ok (.ifCond .lt 33, 3) := by decide +kernel
theorem dX10_needs_17 : decode cX10_needs 17 = .ok (.iload_n 3, 1) := by decide +kernel
theorem dX10_needs_18 : decode cX10_needs 18 = .ok (.bipush 9, 2) := by decide +kernel
theorem dX10_needs_20 : decode cX10_needs 20 = .ok (.if_icmp .gt 27, 3) := by decide +kernel
theorem dX10_needs_23 : decode cX10_needs 23 = .ok (.iload_n 2, 1) := by decide +kernel
theorem dX10_needs_24 : decode cX10_needs 24 = .ok (.iload_n 3, 1) := by decide +kernel
theorem dX10_needs_25 : decode cX10_needs 25 = .ok (.if_icmp .gt 22, 3) := by decide +kernel
theorem dX10_needs_28 : decode cX10_needs 28 = .ok (.iload 4, 2) := by decide +kernel
theorem dX10_needs_30 : decode cX10_needs 30 = .ok (.ifCond .lt 17, 3) := by decide +kernel
theorem dX10_needs_33 : decode cX10_needs 33 = .ok (.iload 5, 2) := by decide +kernel
theorem dX10_needs_35 : decode cX10_needs 35 = .ok (.bipush 9, 2) := by decide +kernel
theorem dX10_needs_37 : decode cX10_needs 37 = .ok (.if_icmp .gt 10, 3) := by decide +kernel
theorem dX10_needs_40 : decode cX10_needs 40 = .ok (.iload 4, 2) := by decide +kernel
theorem dX10_needs_42 : decode cX10_needs 42 = .ok (.iload 5, 2) := by decide +kernel
theorem dX10_needs_44 : decode cX10_needs 44 = .ok (.if_icmp .le 5, 3) := by decide +kernel
theorem dX10_needs_47 : decode cX10_needs 47 = .ok (.iconst 0, 1) := by decide +kernel
theorem dX10_needs_48 : decode cX10_needs 48 = .ok (.ireturn, 1) := by decide +kernel
theorem dX10_needs_49 : decode cX10_needs 49 = .ok (.aload_n 0, 1) := by decide +kernel
theorem dX10_needs_50 : decode cX10_needs 50 = .ok (.getfield 105, 3) := by decide +kernel
theorem dX10_needs_53 : decode cX10_needs 53 = .ok (.iconst 4, 1) := by decide +kernel
theorem dX10_needs_54 : decode cX10_needs 54 = .ok (.iload_n 1, 1) := by decide +kernel
theorem dX10_needs_55 : decode cX10_needs 55 = .ok (.imul, 1) := by decide +kernel
theorem dX10_needs_56 : decode cX10_needs 56 = .ok (.iload_n 2, 1) := by decide +kernel
theorem dX10_needs_57 : decode cX10_needs 57 = .ok (.iastore, 1) := by decide +kernel
theorem dX10_needs_58 : decode cX10_needs 58 = .ok (.aload_n 0, 1) := by decide +kernel
theorem dX10_needs_59 : decode cX10_needs 59 = .ok (.getfield 105, 3) := by decide +kernel
theorem dX10_needs_62 : decode cX10_needs 62 = .ok (.iconst 4, 1) := by decide +kernel
theorem dX10_needs_63 : decode cX10_needs 63 = .ok (.iload_n 1, 1) := by decide +kernel
theorem dX10_needs_64 : decode cX10_needs 64 = .ok (.imul, 1) := by decide +kernel
theorem dX10_needs_65 : decode cX10_needs 65 = .ok (.iconst 1, 1) := by decide +kernel
theorem dX10_needs_66 : decode cX10_needs 66 = .ok (.iadd, 1) := by decide +kernel
theorem dX10_needs_67 : decode cX10_needs 67 = .ok (.iload_n 3, 1) := by decide +kernel
theorem dX10_needs_68 : decode cX10_needs 68 = .ok (.iastore, 1) := by decide +kernel
theorem dX10_needs_69 : decode cX10_needs 69 = .ok (.aload_n 0, 1) := by decide +kernel
theorem dX10_needs_70 : decode cX10_needs 70 = .ok (.getfield 105, 3) := by decide +kernel
theorem dX10_needs_73 : decode cX10_needs 73 = .ok (.iconst 4, 1) := by decide +kernel
theorem dX10_needs_74 : decode cX10_needs 74 = .ok (.iload_n 1, 1) := by decide +kernel
theorem dX10_needs_75 : decode cX10_needs 75 = .ok (.imul, 1) := by decide +kernel
theorem dX10_needs_76 : decode cX10_needs 76 = .ok (.iconst 2, 1) := by decide +kernel
theorem dX10_needs_77 : decode cX10_needs 77 = .ok (.iadd, 1) := by decide +kernel
theorem dX10_needs_78 : decode cX10_needs 78 = .ok (.iload 4, 2) := by decide +kernel
theorem dX10_needs_80 : decode cX10_needs 80 = .ok (.iastore, 1) := by decide +kernel
theorem dX10_needs_81 : decode cX10_needs 81 = .ok (.aload_n 0, 1) := by decide +kernel
theorem dX10_needs_82 : decode cX10_needs 82 = .ok (.getfield 105, 3) := by decide +kernel
theorem dX10_needs_85 : decode cX10_needs 85 = .ok (.iconst 4, 1) := by decide +kernel
theorem dX10_needs_86 : decode cX10_needs 86 = .ok (.iload_n 1, 1) := by decide +kernel
theorem dX10_needs_87 : decode cX10_needs 87 = .ok (.imul, 1) := by decide +kernel
theorem dX10_needs_88 : decode cX10_needs 88 = .ok (.iconst 3, 1) := by decide +kernel
theorem dX10_needs_89 : decode cX10_needs 89 = .ok (.iadd, 1) := by decide +kernel
theorem dX10_needs_90 : decode cX10_needs 90 = .ok (.iload 5, 2) := by decide +kernel
theorem dX10_needs_92 : decode cX10_needs 92 = .ok (.iastore, 1) := by decide +kernel
theorem dX10_needs_93 : decode cX10_needs 93 = .ok (.iconst 1, 1) := by decide +kernel
theorem dX10_needs_94 : decode cX10_needs 94 = .ok (.ireturn, 1) := by decide +kernel
theorem dX10_suits_0 : decode cX10_suits 0 = .ok (.aload_n 0, 1) := by decide +kernel
theorem dX10_suits_1 : decode cX10_suits 1 = .ok (.getfield 141, 3) := by decide +kernel
theorem dX10_suits_4 : decode cX10_suits 4 = .ok (.iload_n 2, 1) := by decide +kernel
theorem dX10_suits_5 : decode cX10_suits 5 = .ok (.iaload, 1) := by decide +kernel
theorem dX10_suits_6 : decode cX10_suits 6 = .ok (.aload_n 0, 1) := by decide +kernel
theorem dX10_suits_7 : decode cX10_suits 7 = .ok (.getfield 105, 3) := by decide +kernel
theorem dX10_suits_10 : decode cX10_suits 10 = .ok (.iconst 4, 1) := by decide +kernel
theorem dX10_suits_11 : decode cX10_suits 11 = .ok (.iload_n 1, 1) := by decide +kernel
theorem dX10_suits_12 : decode cX10_suits 12 = .ok (.imul, 1) := by decide +kernel
theorem dX10_suits_13 : decode cX10_suits 13 = .ok (.iaload, 1) := by decide +kernel
theorem dX10_suits_14 : decode cX10_suits 14 = .ok (.if_icmp .lt 64, 3) := by decide +kernel
theorem dX10_suits_17 : decode cX10_suits 17 = .ok (.aload_n 0, 1) := by decide +kernel
theorem dX10_suits_18 : decode cX10_suits 18 = .ok (.getfield 141, 3) := by decide +kernel
theorem dX10_suits_21 : decode cX10_suits 21 = .ok (.iload_n 2, 1) := by decide +kernel
theorem dX10_suits_22 : decode cX10_suits 22 = .ok (.iaload, 1) := by decide +kernel
theorem dX10_suits_23 : decode cX10_suits 23 = .ok (.aload_n 0, 1) := by decide +kernel
theorem dX10_suits_24 : decode cX10_suits 24 = .ok (.getfield 105, 3) := by decide +kernel
theorem dX10_suits_27 : decode cX10_suits 27 = .ok (.iconst 4, 1) := by decide +kernel
theorem dX10_suits_28 : decode cX10_suits 28 = .ok (.iload_n 1, 1) := by decide +kernel
theorem dX10_suits_29 : decode cX10_suits 29 = .ok (.imul, 1) := by decide +kernel
theorem dX10_suits_30 : decode cX10_suits 30 = .ok (.iconst 1, 1) := by decide +kernel
theorem dX10_suits_31 : decode cX10_suits 31 = .ok (.iadd, 1) := by decide +kernel
theorem dX10_suits_32 : decode cX10_suits 32 = .ok (.iaload, 1) := by decide +kernel
theorem dX10_suits_33 : decode cX10_suits 33 = .ok (.if_icmp .gt 45, 3) := by decide +kernel
theorem dX10_suits_36 : decode cX10_suits 36 = .ok (.aload_n 0, 1) := by decide +kernel
theorem dX10_suits_37 : decode cX10_suits 37 = .ok (.getfield 144, 3) := by decide +kernel
theorem dX10_suits_40 : decode cX10_suits 40 = .ok (.iload_n 2, 1) := by decide +kernel
theorem dX10_suits_41 : decode cX10_suits 41 = .ok (.iaload, 1) := by decide +kernel
theorem dX10_suits_42 : decode cX10_suits 42 = .ok (.aload_n 0, 1) := by decide +kernel
theorem dX10_suits_43 : decode cX10_suits 43 = .ok (.getfield 105, 3) := by decide +kernel
theorem dX10_suits_46 : decode cX10_suits 46 = .ok (.iconst 4, 1) := by decide +kernel
theorem dX10_suits_47 : decode cX10_suits 47 = .ok (.iload_n 1, 1) := by decide +kernel
theorem dX10_suits_48 : decode cX10_suits 48 = .ok (.imul, 1) := by decide +kernel
theorem dX10_suits_49 : decode cX10_suits 49 = .ok (.iconst 2, 1) := by decide +kernel
theorem dX10_suits_50 : decode cX10_suits 50 = .ok (.iadd, 1) := by decide +kernel
theorem dX10_suits_51 : decode cX10_suits 51 = .ok (.iaload, 1) := by decide +kernel
theorem dX10_suits_52 : decode cX10_suits 52 = .ok (.if_icmp .lt 26, 3) := by decide +kernel
theorem dX10_suits_55 : decode cX10_suits 55 = .ok (.aload_n 0, 1) := by decide +kernel
theorem dX10_suits_56 : decode cX10_suits 56 = .ok (.getfield 144, 3) := by decide +kernel
theorem dX10_suits_59 : decode cX10_suits 59 = .ok (.iload_n 2, 1) := by decide +kernel
theorem dX10_suits_60 : decode cX10_suits 60 = .ok (.iaload, 1) := by decide +kernel
theorem dX10_suits_61 : decode cX10_suits 61 = .ok (.aload_n 0, 1) := by decide +kernel
theorem dX10_suits_62 : decode cX10_suits 62 = .ok (.getfield 105, 3) := by decide +kernel
theorem dX10_suits_65 : decode cX10_suits 65 = .ok (.iconst 4, 1) := by decide +kernel
theorem dX10_suits_66 : decode cX10_suits 66 = .ok (.iload_n 1, 1) := by decide +kernel
theorem dX10_suits_67 : decode cX10_suits 67 = .ok (.imul, 1) := by decide +kernel
theorem dX10_suits_68 : decode cX10_suits 68 = .ok (.iconst 3, 1) := by decide +kernel
theorem dX10_suits_69 : decode cX10_suits 69 = .ok (.iadd, 1) := by decide +kernel
theorem dX10_suits_70 : decode cX10_suits 70 = .ok (.iaload, 1) := by decide +kernel
theorem dX10_suits_71 : decode cX10_suits 71 = .ok (.if_icmp .gt 7, 3) := by decide +kernel
theorem dX10_suits_74 : decode cX10_suits 74 = .ok (.iconst 1, 1) := by decide +kernel
theorem dX10_suits_75 : decode cX10_suits 75 = .ok (.goto 4, 3) := by decide +kernel
theorem dX10_suits_78 : decode cX10_suits 78 = .ok (.iconst 0, 1) := by decide +kernel
theorem dX10_suits_79 : decode cX10_suits 79 = .ok (.ireturn, 1) := by decide +kernel
theorem dX10_lay__0 : decode cX10_lay_ 0 = .ok (.aload_n 0, 1) := by decide +kernel
theorem dX10_lay__1 : decode cX10_lay_ 1 = .ok (.iconst 0, 1) := by decide +kernel
theorem dX10_lay__2 : decode cX10_lay_ 2 = .ok (.putfield 1, 3) := by decide +kernel
theorem dX10_lay__5 : decode cX10_lay_ 5 = .ok (.aload_n 0, 1) := by decide +kernel
theorem dX10_lay__6 : decode cX10_lay_ 6 = .ok (.iload_n 1, 1) := by decide +kernel
theorem dX10_lay__7 : decode cX10_lay_ 7 = .ok (.invokevirtual 268, 3) := by decide +kernel
theorem dX10_lay__10 : decode cX10_lay_ 10 = .ok (.ifCond .eq 25, 3) := by decide +kernel
theorem dX10_lay__13 : decode cX10_lay_ 13 = .ok (.iload_n 2, 1) := by decide +kernel
theorem dX10_lay__14 : decode cX10_lay_ 14 = .ok (.iconst (-1), 1) := by decide +kernel
theorem dX10_lay__15 : decode cX10_lay_ 15 = .ok (.if_icmp .eq 22, 3) := by decide +kernel
theorem dX10_lay__18 : decode cX10_lay_ 18 = .ok (.aload_n 0, 1) := by decide +kernel
theorem dX10_lay__19 : decode cX10_lay_ 19 = .ok (.iload_n 2, 1) := by decide +kernel
theorem dX10_lay__20 : decode cX10_lay_ 20 = .ok (.invokevirtual 311, 3) := by decide +kernel
theorem dX10_lay__23 : decode cX10_lay_ 23 = .ok (.ifCond .eq 12, 3) := by decide +kernel
theorem dX10_lay__26 : decode cX10_lay_ 26 = .ok (.aload_n 0, 1) := by decide +kernel
theorem dX10_lay__27 : decode cX10_lay_ 27 = .ok (.iload_n 1, 1) := by decide +kernel
theorem dX10_lay__28 : decode cX10_lay_ 28 = .ok (.iload_n 2, 1) := by decide +kernel
theorem dX10_lay__29 : decode cX10_lay_ 29 = .ok (.invokevirtual 314, 3) := by decide +kernel
theorem dX10_lay__32 : decode cX10_lay_ 32 = .ok (.ifCond .ne 5, 3) := by decide +kernel
theorem dX10_lay__35 : decode cX10_lay_ 35 = .ok (.iconst 0, 1) := by decide +kernel
theorem dX10_lay__36 : decode cX10_lay_ 36 = .ok (.ireturn, 1) := by decide +kernel
theorem dX10_lay__37 : decode cX10_lay_ 37 = .ok (.iconst 0, 1) := by decide +kernel
theorem dX10_lay__38 : decode cX10_lay_ 38 = .ok (.istore_n 3, 1) := by decide +kernel
theorem dX10_lay__39 : decode cX10_lay_ 39 = .ok (.iconst 0, 1) := by decide +kernel
theorem dX10_lay__40 : decode cX10_lay_ 40 = .ok (.istore 4, 2) := by decide +kernel
theorem dX10_lay__42 : decode cX10_lay_ 42 = .ok (.iload 4, 2) := by decide +kernel
theorem dX10_lay__44 : decode cX10_lay_ 44 = .ok (.aload_n 0, 1) := by decide +kernel
theorem dX10_lay__45 : decode cX10_lay_ 45 = .ok (.getfield 258, 3) := by decide +kernel
theorem dX10_lay__48 : decode cX10_lay_ 48 = .ok (.if_icmp .ge 38, 3) := by decide +kernel
theorem dX10_lay__51 : decode cX10_lay_ 51 = .ok (.iload_n 3, 1) := by decide +kernel
theorem dX10_lay__52 : decode cX10_lay_ 52 = .ok (.iload 4, 2) := by decide +kernel
theorem dX10_lay__54 : decode cX10_lay_ 54 = .ok (.iload_n 1, 1) := by decide +kernel
theorem dX10_lay__55 : decode cX10_lay_ 55 = .ok (.if_icmp .eq 22, 3) := by decide +kernel
theorem dX10_lay__58 : decode cX10_lay_ 58 = .ok (.iload_n 2, 1) := by decide +kernel
theorem dX10_lay__59 : decode cX10_lay_ 59 = .ok (.ifCond .lt 18, 3) := by decide +kernel
theorem dX10_lay__62 : decode cX10_lay_ 62 = .ok (.aload_n 0, 1) := by decide +kernel
theorem dX10_lay__63 : decode cX10_lay_ 63 = .ok (.getfield 108, 3) := by decide +kernel
theorem dX10_lay__66 : decode cX10_lay_ 66 = .ok (.iload 4, 2) := by decide +kernel
theorem dX10_lay__68 : decode cX10_lay_ 68 = .ok (.iaload, 1) := by decide +kernel
theorem dX10_lay__69 : decode cX10_lay_ 69 = .ok (.iload_n 2, 1) := by decide +kernel
theorem dX10_lay__70 : decode cX10_lay_ 70 = .ok (.if_icmp .ne 7, 3) := by decide +kernel
theorem dX10_lay__73 : decode cX10_lay_ 73 = .ok (.iconst 1, 1) := by decide +kernel
theorem dX10_lay__74 : decode cX10_lay_ 74 = .ok (.goto 4, 3) := by decide +kernel
theorem dX10_lay__77 : decode cX10_lay_ 77 = .ok (.iconst 0, 1) := by decide +kernel
theorem dX10_lay__78 : decode cX10_lay_ 78 = .ok (.iadd, 1) := by decide +kernel
theorem dX10_lay__79 : decode cX10_lay_ 79 = .ok (.istore_n 3, 1) := by decide +kernel
theorem dX10_lay__80 : decode cX10_lay_ 80 = .ok (.iinc 4 1, 3) := by decide +kernel
theorem dX10_lay__83 : decode cX10_lay_ 83 = .ok (.goto (-41), 3) := by decide +kernel
theorem dX10_lay__86 : decode cX10_lay_ 86 = .ok (.iload_n 2, 1) := by decide +kernel
theorem dX10_lay__87 : decode cX10_lay_ 87 = .ok (.ifCond .lt 15, 3) := by decide +kernel
theorem dX10_lay__90 : decode cX10_lay_ 90 = .ok (.iload_n 3, 1) := by decide +kernel
theorem dX10_lay__91 : decode cX10_lay_ 91 = .ok (.aload_n 0, 1) := by decide +kernel
theorem dX10_lay__92 : decode cX10_lay_ 92 = .ok (.getfield 147, 3) := by decide +kernel
theorem dX10_lay__95 : decode cX10_lay_ 95 = .ok (.iload_n 2, 1) := by decide +kernel
theorem dX10_lay__96 : decode cX10_lay_ 96 = .ok (.iaload, 1) := by decide +kernel
theorem dX10_lay__97 : decode cX10_lay_ 97 = .ok (.if_icmp .lt 5, 3) := by decide +kernel
theorem dX10_lay__100 : decode cX10_lay_ 100 = .ok (.iconst 0, 1) := by decide +kernel
theorem dX10_lay__101 : decode cX10_lay_ 101 = .ok (.ireturn, 1) := by decide +kernel
theorem dX10_lay__102 : decode cX10_lay_ 102 = .ok (.aload_n 0, 1) := by decide +kernel
theorem dX10_lay__103 : decode cX10_lay_ 103 = .ok (.getfield 108, 3) := by decide +kernel
theorem dX10_lay__106 : decode cX10_lay_ 106 = .ok (.iload_n 1, 1) := by decide +kernel
theorem dX10_lay__107 : decode cX10_lay_ 107 = .ok (.iload_n 2, 1) := by decide +kernel
theorem dX10_lay__108 : decode cX10_lay_ 108 = .ok (.iastore, 1) := by decide +kernel
theorem dX10_lay__109 : decode cX10_lay_ 109 = .ok (.aload_n 0, 1) := by decide +kernel
theorem dX10_lay__110 : decode cX10_lay_ 110 = .ok (.getfield 111, 3) := by decide +kernel
theorem dX10_lay__113 : decode cX10_lay_ 113 = .ok (.iload_n 1, 1) := by decide +kernel
theorem dX10_lay__114 : decode cX10_lay_ 114 = .ok (.iconst (-1), 1) := by decide +kernel
theorem dX10_lay__115 : decode cX10_lay_ 115 = .ok (.iastore, 1) := by decide +kernel
theorem dX10_lay__116 : decode cX10_lay_ 116 = .ok (.iconst 1, 1) := by decide +kernel
theorem dX10_lay__117 : decode cX10_lay_ 117 = .ok (.ireturn, 1) := by decide +kernel
theorem dX10_costOf_0 : decode cX10_costOf 0 = .ok (.aload_n 0, 1) := by decide +kernel
theorem dX10_costOf_1 : decode cX10_costOf 1 = .ok (.iload_n 1, 1) := by decide +kernel
theorem dX10_costOf_2 : decode cX10_costOf 2 = .ok (.iload_n 2, 1) := by decide +kernel
theorem dX10_costOf_3 : decode cX10_costOf 3 = .ok (.invokevirtual 314, 3) := by decide +kernel
theorem dX10_costOf_6 : decode cX10_costOf 6 = .ok (.ifCond .ne 9, 3) := by decide +kernel
theorem dX10_costOf_9 : decode cX10_costOf 9 = .ok (.ldc_w 317, 3) := by decide +kernel
theorem dX10_costOf_12 : decode cX10_costOf 12 = .ok (.goto 18, 3) := by decide +kernel
theorem dX10_costOf_15 : decode cX10_costOf 15 = .ok (.aload_n 0, 1) := by decide +kernel
theorem dX10_costOf_16 : decode cX10_costOf 16 = .ok (.getfield 108, 3) := by decide +kernel
theorem dX10_costOf_19 : decode cX10_costOf 19 = .ok (.iload_n 1, 1) := by decide +kernel
theorem dX10_costOf_20 : decode cX10_costOf 20 = .ok (.iaload, 1) := by decide +kernel
theorem dX10_costOf_21 : decode cX10_costOf 21 = .ok (.iload_n 2, 1) := by decide +kernel
theorem dX10_costOf_22 : decode cX10_costOf 22 = .ok (.if_icmp .ne 7, 3) := by decide +kernel
theorem dX10_costOf_25 : decode cX10_costOf 25 = .ok (.iconst 0, 1) := by decide +kernel
theorem dX10_costOf_26 : decode cX10_costOf 26 = .ok (.goto 4, 3) := by decide +kernel
theorem dX10_costOf_29 : decode cX10_costOf 29 = .ok (.iconst 1, 1) := by decide +kernel
theorem dX10_costOf_30 : decode cX10_costOf 30 = .ok (.ireturn, 1) := by decide +kernel
theorem dX10_begins_0 : decode cX10_begins 0 = .ok (.iconst 0, 1) := by decide +kernel
theorem dX10_begins_1 : decode cX10_begins 1 = .ok (.istore_n 2, 1) := by decide +kernel
theorem dX10_begins_2 : decode cX10_begins 2 = .ok (.iload_n 2, 1) := by decide +kernel
theorem dX10_begins_3 : decode cX10_begins 3 = .ok (.aload_n 0, 1) := by decide +kernel
theorem dX10_begins_4 : decode cX10_begins 4 = .ok (.getfield 308, 3) := by decide +kernel
theorem dX10_begins_7 : decode cX10_begins 7 = .ok (.if_icmp .ge 35, 3) := by decide +kernel
theorem dX10_begins_10 : decode cX10_begins 10 = .ok (.aload_n 0, 1) := by decide +kernel
theorem dX10_begins_11 : decode cX10_begins 11 = .ok (.getfield 156, 3) := by decide +kernel
theorem dX10_begins_14 : decode cX10_begins 14 = .ok (.iload_n 2, 1) := by decide +kernel
theorem dX10_begins_15 : decode cX10_begins 15 = .ok (.aload_n 0, 1) := by decide +kernel
theorem dX10_begins_16 : decode cX10_begins 16 = .ok (.iload_n 1, 1) := by decide +kernel
theorem dX10_begins_17 : decode cX10_begins 17 = .ok (.iload_n 2, 1) := by decide +kernel
theorem dX10_begins_18 : decode cX10_begins 18 = .ok (.invokevirtual 318, 3) := by decide +kernel
theorem dX10_begins_21 : decode cX10_begins 21 = .ok (.iastore, 1) := by decide +kernel
theorem dX10_begins_22 : decode cX10_begins 22 = .ok (.aload_n 0, 1) := by decide +kernel
theorem dX10_begins_23 : decode cX10_begins 23 = .ok (.getfield 159, 3) := by decide +kernel
theorem dX10_begins_26 : decode cX10_begins 26 = .ok (.iload_n 2, 1) := by decide +kernel
theorem dX10_begins_27 : decode cX10_begins 27 = .ok (.iload_n 1, 1) := by decide +kernel
theorem dX10_begins_28 : decode cX10_begins 28 = .ok (.iastore, 1) := by decide +kernel
theorem dX10_begins_29 : decode cX10_begins 29 = .ok (.aload_n 0, 1) := by decide +kernel
theorem dX10_begins_30 : decode cX10_begins 30 = .ok (.getfield 162, 3) := by decide +kernel
theorem dX10_begins_33 : decode cX10_begins 33 = .ok (.iload_n 2, 1) := by decide +kernel
theorem dX10_begins_34 : decode cX10_begins 34 = .ok (.iconst (-1), 1) := by decide +kernel
theorem dX10_begins_35 : decode cX10_begins 35 = .ok (.iastore, 1) := by decide +kernel
theorem dX10_begins_36 : decode cX10_begins 36 = .ok (.iinc 2 1, 3) := by decide +kernel
theorem dX10_begins_39 : decode cX10_begins 39 = .ok (.goto (-37), 3) := by decide +kernel
theorem dX10_begins_42 : decode cX10_begins 42 = .ok (.iconst 1, 1) := by decide +kernel
theorem dX10_begins_43 : decode cX10_begins 43 = .ok (.istore_n 2, 1) := by decide +kernel
theorem dX10_begins_44 : decode cX10_begins 44 = .ok (.iload_n 2, 1) := by decide +kernel
theorem dX10_begins_45 : decode cX10_begins 45 = .ok (.ifCond .eq 159, 3) := by decide +kernel
theorem dX10_begins_48 : decode cX10_begins 48 = .ok (.iconst 0, 1) := by decide +kernel
theorem dX10_begins_49 : decode cX10_begins 49 = .ok (.istore_n 2, 1) := by decide +kernel
theorem dX10_begins_50 : decode cX10_begins 50 = .ok (.iconst 0, 1) := by decide +kernel
theorem dX10_begins_51 : decode cX10_begins 51 = .ok (.istore_n 3, 1) := by decide +kernel
theorem dX10_begins_52 : decode cX10_begins 52 = .ok (.iload_n 3, 1) := by decide +kernel
theorem dX10_begins_53 : decode cX10_begins 53 = .ok (.aload_n 0, 1) := by decide +kernel
theorem dX10_begins_54 : decode cX10_begins 54 = .ok (.getfield 258, 3) := by decide +kernel
theorem dX10_begins_57 : decode cX10_begins 57 = .ok (.if_icmp .ge 144, 3) := by decide +kernel
theorem dX10_begins_60 : decode cX10_begins 60 = .ok (.aload_n 0, 1) := by decide +kernel
theorem dX10_begins_61 : decode cX10_begins 61 = .ok (.getfield 150, 3) := by decide +kernel
theorem dX10_begins_64 : decode cX10_begins 64 = .ok (.iload_n 3, 1) := by decide +kernel
theorem dX10_begins_65 : decode cX10_begins 65 = .ok (.iaload, 1) := by decide +kernel
theorem dX10_begins_66 : decode cX10_begins 66 = .ok (.istore 4, 2) := by decide +kernel
theorem dX10_begins_68 : decode cX10_begins 68 = .ok (.iconst 0, 1) := by decide +kernel
theorem dX10_begins_69 : decode cX10_begins 69 = .ok (.istore 5, 2) := by decide +kernel
theorem dX10_begins_71 : decode cX10_begins 71 = .ok (.iload 5, 2) := by decide +kernel
theorem dX10_begins_73 : decode cX10_begins 73 = .ok (.aload_n 0, 1) := by decide +kernel
theorem dX10_begins_74 : decode cX10_begins 74 = .ok (.getfield 308, 3) := by decide +kernel
theorem dX10_begins_77 : decode cX10_begins 77 = .ok (.if_icmp .ge 118, 3) := by decide +kernel
theorem dX10_begins_80 : decode cX10_begins 80 = .ok (.iload 4, 2) := by decide +kernel
theorem dX10_begins_82 : decode cX10_begins 82 = .ok (.ifCond .lt 113, 3) := by decide +kernel
theorem dX10_begins_85 : decode cX10_begins 85 = .ok (.aload_n 0, 1) := by decide +kernel
theorem dX10_begins_86 : decode cX10_begins 86 = .ok (.iload_n 3, 1) := by decide +kernel
theorem dX10_begins_87 : decode cX10_begins 87 = .ok (.iload 5, 2) := by decide +kernel
theorem dX10_begins_89 : decode cX10_begins 89 = .ok (.invokevirtual 318, 3) := by decide +kernel
theorem dX10_begins_92 : decode cX10_begins 92 = .ok (.ldc_w 317, 3) := by decide +kernel
theorem dX10_begins_95 : decode cX10_begins 95 = .ok (.if_icmp .eq 16, 3) := by decide +kernel
theorem dX10_begins_98 : decode cX10_begins 98 = .ok (.aload_n 0, 1) := by decide +kernel
theorem dX10_begins_99 : decode cX10_begins 99 = .ok (.getfield 156, 3) := by decide +kernel
theorem dX10_begins_102 : decode cX10_begins 102 = .ok (.iload 4, 2) := by decide +kernel
theorem dX10_begins_104 : decode cX10_begins 104 = .ok (.iaload, 1) := by decide +kernel
theorem dX10_begins_105 : decode cX10_begins 105 = .ok (.ldc_w 317, 3) := by decide +kernel
theorem dX10_begins_108 : decode cX10_begins 108 = .ok (.if_icmp .lt 9, 3) := by decide +kernel
theorem dX10_begins_111 : decode cX10_begins 111 = .ok (.ldc_w 317, 3) := by decide +kernel
theorem dX10_begins_114 : decode cX10_begins 114 = .ok (.goto 26, 3) := by decide +kernel
theorem dX10_begins_117 : decode cX10_begins 117 = .ok (.aload_n 0, 1) := by decide +kernel
theorem dX10_begins_118 : decode cX10_begins 118 = .ok (.getfield 156, 3) := by decide +kernel
theorem dX10_begins_121 : decode cX10_begins 121 = .ok (.iload 4, 2) := by decide +kernel
theorem dX10_begins_123 : decode cX10_begins 123 = .ok (.iaload, 1) := by decide +kernel
theorem dX10_begins_124 : decode cX10_begins 124 = .ok (.aload_n 0, 1) := by decide +kernel
theorem dX10_begins_125 : decode cX10_begins 125 = .ok (.iload_n 3, 1) := by decide +kernel
theorem dX10_begins_126 : decode cX10_begins 126 = .ok (.iload 5, 2) := by decide +kernel
theorem dX10_begins_128 : decode cX10_begins 128 = .ok (.invokevirtual 318, 3) := by decide +kernel
theorem dX10_begins_131 : decode cX10_begins 131 = .ok (.iadd, 1) := by decide +kernel
theorem dX10_begins_132 : decode cX10_begins 132 = .ok (.aload_n 0, 1) := by decide +kernel
theorem dX10_begins_133 : decode cX10_begins 133 = .ok (.iload_n 3, 1) := by decide +kernel
theorem dX10_begins_134 : decode cX10_begins 134 = .ok (.iload 4, 2) := by decide +kernel
theorem dX10_begins_136 : decode cX10_begins 136 = .ok (.invokevirtual 318, 3) := by decide +kernel
theorem dX10_begins_139 : decode cX10_begins 139 = .ok (.isub, 1) := by decide +kernel
theorem dX10_begins_140 : decode cX10_begins 140 = .ok (.istore 6, 2) := by decide +kernel
theorem dX10_begins_142 : decode cX10_begins 142 = .ok (.iload 5, 2) := by decide +kernel
theorem dX10_begins_144 : decode cX10_begins 144 = .ok (.iload 4, 2) := by decide +kernel
theorem dX10_begins_146 : decode cX10_begins 146 = .ok (.if_icmp .eq 43, 3) := by decide +kernel
theorem dX10_begins_149 : decode cX10_begins 149 = .ok (.iload 6, 2) := by decide +kernel
theorem dX10_begins_151 : decode cX10_begins 151 = .ok (.aload_n 0, 1) := by decide +kernel
theorem dX10_begins_152 : decode cX10_begins 152 = .ok (.getfield 156, 3) := by decide +kernel
theorem dX10_begins_155 : decode cX10_begins 155 = .ok (.iload 5, 2) := by decide +kernel
theorem dX10_begins_157 : decode cX10_begins 157 = .ok (.iaload, 1) := by decide +kernel
theorem dX10_begins_158 : decode cX10_begins 158 = .ok (.if_icmp .ge 31, 3) := by decide +kernel
theorem dX10_begins_161 : decode cX10_begins 161 = .ok (.aload_n 0, 1) := by decide +kernel
theorem dX10_begins_162 : decode cX10_begins 162 = .ok (.getfield 156, 3) := by decide +kernel
theorem dX10_begins_165 : decode cX10_begins 165 = .ok (.iload 5, 2) := by decide +kernel
theorem dX10_begins_167 : decode cX10_begins 167 = .ok (.iload 6, 2) := by decide +kernel
theorem dX10_begins_169 : decode cX10_begins 169 = .ok (.iastore, 1) := by decide +kernel
theorem dX10_begins_170 : decode cX10_begins 170 = .ok (.aload_n 0, 1) := by decide +kernel
theorem dX10_begins_171 : decode cX10_begins 171 = .ok (.getfield 159, 3) := by decide +kernel
theorem dX10_begins_174 : decode cX10_begins 174 = .ok (.iload 5, 2) := by decide +kernel
theorem dX10_begins_176 : decode cX10_begins 176 = .ok (.iload_n 3, 1) := by decide +kernel
theorem dX10_begins_177 : decode cX10_begins 177 = .ok (.iastore, 1) := by decide +kernel
theorem dX10_begins_178 : decode cX10_begins 178 = .ok (.aload_n 0, 1) := by decide +kernel
theorem dX10_begins_179 : decode cX10_begins 179 = .ok (.getfield 162, 3) := by decide +kernel
theorem dX10_begins_182 : decode cX10_begins 182 = .ok (.iload 5, 2) := by decide +kernel
theorem dX10_begins_184 : decode cX10_begins 184 = .ok (.iload 4, 2) := by decide +kernel
theorem dX10_begins_186 : decode cX10_begins 186 = .ok (.iastore, 1) := by decide +kernel
theorem dX10_begins_187 : decode cX10_begins 187 = .ok (.iconst 1, 1) := by decide +kernel
theorem dX10_begins_188 : decode cX10_begins 188 = .ok (.istore_n 2, 1) := by decide +kernel
theorem dX10_begins_189 : decode cX10_begins 189 = .ok (.iinc 5 1, 3) := by decide +kernel
theorem dX10_begins_192 : decode cX10_begins 192 = .ok (.goto (-121), 3) := by decide +kernel
theorem dX10_begins_195 : decode cX10_begins 195 = .ok (.iinc 3 1, 3) := by decide +kernel
theorem dX10_begins_198 : decode cX10_begins 198 = .ok (.goto (-146), 3) := by decide +kernel
theorem dX10_begins_201 : decode cX10_begins 201 = .ok (.goto (-157), 3) := by decide +kernel
theorem dX10_begins_204 : decode cX10_begins 204 = .ok (.return_, 1) := by decide +kernel
theorem dX10_comes_0 : decode cX10_comes 0 = .ok (.aload_n 0, 1) := by decide +kernel
theorem dX10_comes_1 : decode cX10_comes 1 = .ok (.iload_n 1, 1) := by decide +kernel
theorem dX10_comes_2 : decode cX10_comes 2 = .ok (.invokevirtual 321, 3) := by decide +kernel
theorem dX10_comes_5 : decode cX10_comes 5 = .ok (.iconst (-1), 1) := by decide +kernel
theorem dX10_comes_6 : decode cX10_comes 6 = .ok (.istore_n 2, 1) := by decide +kernel
theorem dX10_comes_7 : decode cX10_comes 7 = .ok (.iconst 0, 1) := by decide +kernel
theorem dX10_comes_8 : decode cX10_comes 8 = .ok (.istore_n 3, 1) := by decide +kernel
theorem dX10_comes_9 : decode cX10_comes 9 = .ok (.iload_n 3, 1) := by decide +kernel
theorem dX10_comes_10 : decode cX10_comes 10 = .ok (.aload_n 0, 1) := by decide +kernel
theorem dX10_comes_11 : decode cX10_comes 11 = .ok (.getfield 308, 3) := by decide +kernel
theorem dX10_comes_14 : decode cX10_comes 14 = .ok (.if_icmp .ge 61, 3) := by decide +kernel
theorem dX10_comes_17 : decode cX10_comes 17 = .ok (.aload_n 0, 1) := by decide +kernel
theorem dX10_comes_18 : decode cX10_comes 18 = .ok (.getfield 153, 3) := by decide +kernel
theorem dX10_comes_21 : decode cX10_comes 21 = .ok (.iload_n 3, 1) := by decide +kernel
theorem dX10_comes_22 : decode cX10_comes 22 = .ok (.iaload, 1) := by decide +kernel
theorem dX10_comes_23 : decode cX10_comes 23 = .ok (.aload_n 0, 1) := by decide +kernel
theorem dX10_comes_24 : decode cX10_comes 24 = .ok (.getfield 147, 3) := by decide +kernel
theorem dX10_comes_27 : decode cX10_comes 27 = .ok (.iload_n 3, 1) := by decide +kernel
theorem dX10_comes_28 : decode cX10_comes 28 = .ok (.iaload, 1) := by decide +kernel
theorem dX10_comes_29 : decode cX10_comes 29 = .ok (.if_icmp .ge 38, 3) := by decide +kernel
theorem dX10_comes_32 : decode cX10_comes 32 = .ok (.aload_n 0, 1) := by decide +kernel
theorem dX10_comes_33 : decode cX10_comes 33 = .ok (.getfield 156, 3) := by decide +kernel
theorem dX10_comes_36 : decode cX10_comes 36 = .ok (.iload_n 3, 1) := by decide +kernel
theorem dX10_comes_37 : decode cX10_comes 37 = .ok (.iaload, 1) := by decide +kernel
theorem dX10_comes_38 : decode cX10_comes 38 = .ok (.ldc_w 317, 3) := by decide +kernel
theorem dX10_comes_41 : decode cX10_comes 41 = .ok (.if_icmp .ge 26, 3) := by decide +kernel
theorem dX10_comes_44 : decode cX10_comes 44 = .ok (.iload_n 2, 1) := by decide +kernel
theorem dX10_comes_45 : decode cX10_comes 45 = .ok (.ifCond .lt 18, 3) := by decide +kernel
theorem dX10_comes_48 : decode cX10_comes 48 = .ok (.aload_n 0, 1) := by decide +kernel
theorem dX10_comes_49 : decode cX10_comes 49 = .ok (.getfield 156, 3) := by decide +kernel
theorem dX10_comes_52 : decode cX10_comes 52 = .ok (.iload_n 3, 1) := by decide +kernel
theorem dX10_comes_53 : decode cX10_comes 53 = .ok (.iaload, 1) := by decide +kernel
theorem dX10_comes_54 : decode cX10_comes 54 = .ok (.aload_n 0, 1) := by decide +kernel
theorem dX10_comes_55 : decode cX10_comes 55 = .ok (.getfield 156, 3) := by decide +kernel
theorem dX10_comes_58 : decode cX10_comes 58 = .ok (.iload_n 2, 1) := by decide +kernel
theorem dX10_comes_59 : decode cX10_comes 59 = .ok (.iaload, 1) := by decide +kernel
theorem dX10_comes_60 : decode cX10_comes 60 = .ok (.if_icmp .ge 7, 3) := by decide +kernel
theorem dX10_comes_63 : decode cX10_comes 63 = .ok (.iload_n 3, 1) := by decide +kernel
theorem dX10_comes_64 : decode cX10_comes 64 = .ok (.goto 4, 3) := by decide +kernel
theorem dX10_comes_67 : decode cX10_comes 67 = .ok (.iload_n 2, 1) := by decide +kernel
theorem dX10_comes_68 : decode cX10_comes 68 = .ok (.istore_n 2, 1) := by decide +kernel
theorem dX10_comes_69 : decode cX10_comes 69 = .ok (.iinc 3 1, 3) := by decide +kernel
theorem dX10_comes_72 : decode cX10_comes 72 = .ok (.goto (-63), 3) := by decide +kernel
theorem dX10_comes_75 : decode cX10_comes 75 = .ok (.iload_n 2, 1) := by decide +kernel
theorem dX10_comes_76 : decode cX10_comes 76 = .ok (.ifCond .ge 5, 3) := by decide +kernel
theorem dX10_comes_79 : decode cX10_comes 79 = .ok (.iconst 0, 1) := by decide +kernel
theorem dX10_comes_80 : decode cX10_comes 80 = .ok (.ireturn, 1) := by decide +kernel
theorem dX10_comes_81 : decode cX10_comes 81 = .ok (.aload_n 0, 1) := by decide +kernel
theorem dX10_comes_82 : decode cX10_comes 82 = .ok (.getfield 153, 3) := by decide +kernel
theorem dX10_comes_85 : decode cX10_comes 85 = .ok (.iload_n 2, 1) := by decide +kernel
theorem dX10_comes_86 : decode cX10_comes 86 = .ok (.dup2, 1) := by decide +kernel
theorem dX10_comes_87 : decode cX10_comes 87 = .ok (.iaload, 1) := by decide +kernel
theorem dX10_comes_88 : decode cX10_comes 88 = .ok (.iconst 1, 1) := by decide +kernel
theorem dX10_comes_89 : decode cX10_comes 89 = .ok (.iadd, 1) := by decide +kernel
theorem dX10_comes_90 : decode cX10_comes 90 = .ok (.iastore, 1) := by decide +kernel
theorem dX10_comes_91 : decode cX10_comes 91 = .ok (.iload_n 2, 1) := by decide +kernel
theorem dX10_comes_92 : decode cX10_comes 92 = .ok (.istore_n 3, 1) := by decide +kernel
theorem dX10_comes_93 : decode cX10_comes 93 = .ok (.iload_n 3, 1) := by decide +kernel
theorem dX10_comes_94 : decode cX10_comes 94 = .ok (.ifCond .lt 25, 3) := by decide +kernel
theorem dX10_comes_97 : decode cX10_comes 97 = .ok (.aload_n 0, 1) := by decide +kernel
theorem dX10_comes_98 : decode cX10_comes 98 = .ok (.getfield 150, 3) := by decide +kernel
theorem dX10_comes_101 : decode cX10_comes 101 = .ok (.aload_n 0, 1) := by decide +kernel
theorem dX10_comes_102 : decode cX10_comes 102 = .ok (.getfield 159, 3) := by decide +kernel
theorem dX10_comes_105 : decode cX10_comes 105 = .ok (.iload_n 3, 1) := by decide +kernel
theorem dX10_comes_106 : decode cX10_comes 106 = .ok (.iaload, 1) := by decide +kernel
theorem dX10_comes_107 : decode cX10_comes 107 = .ok (.iload_n 3, 1) := by decide +kernel
theorem dX10_comes_108 : decode cX10_comes 108 = .ok (.iastore, 1) := by decide +kernel
theorem dX10_comes_109 : decode cX10_comes 109 = .ok (.aload_n 0, 1) := by decide +kernel
theorem dX10_comes_110 : decode cX10_comes 110 = .ok (.getfield 162, 3) := by decide +kernel
theorem dX10_comes_113 : decode cX10_comes 113 = .ok (.iload_n 3, 1) := by decide +kernel
theorem dX10_comes_114 : decode cX10_comes 114 = .ok (.iaload, 1) := by decide +kernel
theorem dX10_comes_115 : decode cX10_comes 115 = .ok (.istore_n 3, 1) := by decide +kernel
theorem dX10_comes_116 : decode cX10_comes 116 = .ok (.goto (-23), 3) := by decide +kernel
theorem dX10_comes_119 : decode cX10_comes 119 = .ok (.iconst 1, 1) := by decide +kernel
theorem dX10_comes_120 : decode cX10_comes 120 = .ok (.ireturn, 1) := by decide +kernel
theorem dX10_moves_0 : decode cX10_moves 0 = .ok (.aload_n 0, 1) := by decide +kernel
theorem dX10_moves_1 : decode cX10_moves 1 = .ok (.iconst 0, 1) := by decide +kernel
theorem dX10_moves_2 : decode cX10_moves 2 = .ok (.putfield 1, 3) := by decide +kernel
theorem dX10_moves_5 : decode cX10_moves 5 = .ok (.iconst 0, 1) := by decide +kernel
theorem dX10_moves_6 : decode cX10_moves 6 = .ok (.istore_n 1, 1) := by decide +kernel
theorem dX10_moves_7 : decode cX10_moves 7 = .ok (.iload_n 1, 1) := by decide +kernel
theorem dX10_moves_8 : decode cX10_moves 8 = .ok (.aload_n 0, 1) := by decide +kernel
theorem dX10_moves_9 : decode cX10_moves 9 = .ok (.getfield 308, 3) := by decide +kernel
theorem dX10_moves_12 : decode cX10_moves 12 = .ok (.if_icmp .ge 16, 3) := by decide +kernel
theorem dX10_moves_15 : decode cX10_moves 15 = .ok (.aload_n 0, 1) := by decide +kernel
theorem dX10_moves_16 : decode cX10_moves 16 = .ok (.getfield 153, 3) := by decide +kernel
theorem dX10_moves_19 : decode cX10_moves 19 = .ok (.iload_n 1, 1) := by decide +kernel
theorem dX10_moves_20 : decode cX10_moves 20 = .ok (.iconst 0, 1) := by decide +kernel
theorem dX10_moves_21 : decode cX10_moves 21 = .ok (.iastore, 1) := by decide +kernel
theorem dX10_moves_22 : decode cX10_moves 22 = .ok (.iinc 1 1, 3) := by decide +kernel
theorem dX10_moves_25 : decode cX10_moves 25 = .ok (.goto (-18), 3) := by decide +kernel
theorem dX10_moves_28 : decode cX10_moves 28 = .ok (.iconst 0, 1) := by decide +kernel
theorem dX10_moves_29 : decode cX10_moves 29 = .ok (.istore_n 1, 1) := by decide +kernel
theorem dX10_moves_30 : decode cX10_moves 30 = .ok (.iload_n 1, 1) := by decide +kernel
theorem dX10_moves_31 : decode cX10_moves 31 = .ok (.aload_n 0, 1) := by decide +kernel
theorem dX10_moves_32 : decode cX10_moves 32 = .ok (.getfield 258, 3) := by decide +kernel
theorem dX10_moves_35 : decode cX10_moves 35 = .ok (.if_icmp .ge 16, 3) := by decide +kernel
theorem dX10_moves_38 : decode cX10_moves 38 = .ok (.aload_n 0, 1) := by decide +kernel
theorem dX10_moves_39 : decode cX10_moves 39 = .ok (.getfield 150, 3) := by decide +kernel
theorem dX10_moves_42 : decode cX10_moves 42 = .ok (.iload_n 1, 1) := by decide +kernel
theorem dX10_moves_43 : decode cX10_moves 43 = .ok (.iconst (-1), 1) := by decide +kernel
theorem dX10_moves_44 : decode cX10_moves 44 = .ok (.iastore, 1) := by decide +kernel
theorem dX10_moves_45 : decode cX10_moves 45 = .ok (.iinc 1 1, 3) := by decide +kernel
theorem dX10_moves_48 : decode cX10_moves 48 = .ok (.goto (-18), 3) := by decide +kernel
theorem dX10_moves_51 : decode cX10_moves 51 = .ok (.iconst 0, 1) := by decide +kernel
theorem dX10_moves_52 : decode cX10_moves 52 = .ok (.istore_n 1, 1) := by decide +kernel
theorem dX10_moves_53 : decode cX10_moves 53 = .ok (.iconst 0, 1) := by decide +kernel
theorem dX10_moves_54 : decode cX10_moves 54 = .ok (.istore_n 2, 1) := by decide +kernel
theorem dX10_moves_55 : decode cX10_moves 55 = .ok (.iload_n 2, 1) := by decide +kernel
theorem dX10_moves_56 : decode cX10_moves 56 = .ok (.aload_n 0, 1) := by decide +kernel
theorem dX10_moves_57 : decode cX10_moves 57 = .ok (.getfield 258, 3) := by decide +kernel
theorem dX10_moves_60 : decode cX10_moves 60 = .ok (.if_icmp .ge 28, 3) := by decide +kernel
theorem dX10_moves_63 : decode cX10_moves 63 = .ok (.aload_n 0, 1) := by decide +kernel
theorem dX10_moves_64 : decode cX10_moves 64 = .ok (.getfield 108, 3) := by decide +kernel
theorem dX10_moves_67 : decode cX10_moves 67 = .ok (.iload_n 2, 1) := by decide +kernel
theorem dX10_moves_68 : decode cX10_moves 68 = .ok (.iaload, 1) := by decide +kernel
theorem dX10_moves_69 : decode cX10_moves 69 = .ok (.ifCond .lt 13, 3) := by decide +kernel
theorem dX10_moves_72 : decode cX10_moves 72 = .ok (.aload_n 0, 1) := by decide +kernel
theorem dX10_moves_73 : decode cX10_moves 73 = .ok (.iload_n 2, 1) := by decide +kernel
theorem dX10_moves_74 : decode cX10_moves 74 = .ok (.invokevirtual 324, 3) := by decide +kernel
theorem dX10_moves_77 : decode cX10_moves 77 = .ok (.ifCond .ne 5, 3) := by decide +kernel
theorem dX10_moves_80 : decode cX10_moves 80 = .ok (.iconst (-1), 1) := by decide +kernel
theorem dX10_moves_81 : decode cX10_moves 81 = .ok (.ireturn, 1) := by decide +kernel
theorem dX10_moves_82 : decode cX10_moves 82 = .ok (.iinc 2 1, 3) := by decide +kernel
theorem dX10_moves_85 : decode cX10_moves 85 = .ok (.goto (-30), 3) := by decide +kernel
theorem dX10_moves_88 : decode cX10_moves 88 = .ok (.iconst 0, 1) := by decide +kernel
theorem dX10_moves_89 : decode cX10_moves 89 = .ok (.istore_n 2, 1) := by decide +kernel
theorem dX10_moves_90 : decode cX10_moves 90 = .ok (.iload_n 2, 1) := by decide +kernel
theorem dX10_moves_91 : decode cX10_moves 91 = .ok (.aload_n 0, 1) := by decide +kernel
theorem dX10_moves_92 : decode cX10_moves 92 = .ok (.getfield 258, 3) := by decide +kernel
theorem dX10_moves_95 : decode cX10_moves 95 = .ok (.if_icmp .ge 41, 3) := by decide +kernel
theorem dX10_moves_98 : decode cX10_moves 98 = .ok (.iload_n 1, 1) := by decide +kernel
theorem dX10_moves_99 : decode cX10_moves 99 = .ok (.aload_n 0, 1) := by decide +kernel
theorem dX10_moves_100 : decode cX10_moves 100 = .ok (.getfield 108, 3) := by decide +kernel
theorem dX10_moves_103 : decode cX10_moves 103 = .ok (.iload_n 2, 1) := by decide +kernel
theorem dX10_moves_104 : decode cX10_moves 104 = .ok (.iaload, 1) := by decide +kernel
theorem dX10_moves_105 : decode cX10_moves 105 = .ok (.ifCond .lt 22, 3) := by decide +kernel
theorem dX10_moves_108 : decode cX10_moves 108 = .ok (.aload_n 0, 1) := by decide +kernel
theorem dX10_moves_109 : decode cX10_moves 109 = .ok (.getfield 150, 3) := by decide +kernel
theorem dX10_moves_112 : decode cX10_moves 112 = .ok (.iload_n 2, 1) := by decide +kernel
theorem dX10_moves_113 : decode cX10_moves 113 = .ok (.iaload, 1) := by decide +kernel
theorem dX10_moves_114 : decode cX10_moves 114 = .ok (.aload_n 0, 1) := by decide +kernel
theorem dX10_moves_115 : decode cX10_moves 115 = .ok (.getfield 108, 3) := by decide +kernel
theorem dX10_moves_118 : decode cX10_moves 118 = .ok (.iload_n 2, 1) := by decide +kernel
theorem dX10_moves_119 : decode cX10_moves 119 = .ok (.iaload, 1) := by decide +kernel
theorem dX10_moves_120 : decode cX10_moves 120 = .ok (.if_icmp .eq 7, 3) := by decide +kernel
theorem dX10_moves_123 : decode cX10_moves 123 = .ok (.iconst 1, 1) := by decide +kernel
theorem dX10_moves_124 : decode cX10_moves 124 = .ok (.goto 4, 3) := by decide +kernel
theorem dX10_moves_127 : decode cX10_moves 127 = .ok (.iconst 0, 1) := by decide +kernel
theorem dX10_moves_128 : decode cX10_moves 128 = .ok (.iadd, 1) := by decide +kernel
theorem dX10_moves_129 : decode cX10_moves 129 = .ok (.istore_n 1, 1) := by decide +kernel
theorem dX10_moves_130 : decode cX10_moves 130 = .ok (.iinc 2 1, 3) := by decide +kernel
theorem dX10_moves_133 : decode cX10_moves 133 = .ok (.goto (-43), 3) := by decide +kernel
theorem dX10_moves_136 : decode cX10_moves 136 = .ok (.iload_n 1, 1) := by decide +kernel
theorem dX10_moves_137 : decode cX10_moves 137 = .ok (.ireturn, 1) := by decide +kernel
theorem dX10_lets_0 : decode cX10_lets 0 = .ok (.aload_n 0, 1) := by decide +kernel
theorem dX10_lets_1 : decode cX10_lets 1 = .ok (.getfield 84, 3) := by decide +kernel
theorem dX10_lets_4 : decode cX10_lets 4 = .ok (.iconst 0, 1) := by decide +kernel
theorem dX10_lets_5 : decode cX10_lets 5 = .ok (.aload_n 0, 1) := by decide +kernel
theorem dX10_lets_6 : decode cX10_lets 6 = .ok (.getfield 120, 3) := by decide +kernel
theorem dX10_lets_9 : decode cX10_lets 9 = .ok (.aload_n 0, 1) := by decide +kernel
theorem dX10_lets_10 : decode cX10_lets 10 = .ok (.iload_n 1, 1) := by decide +kernel
theorem dX10_lets_11 : decode cX10_lets 11 = .ok (.invokevirtual 327, 3) := by decide +kernel
theorem dX10_lets_14 : decode cX10_lets 14 = .ok (.iaload, 1) := by decide +kernel
theorem dX10_lets_15 : decode cX10_lets 15 = .ok (.iastore, 1) := by decide +kernel
theorem dX10_lets_16 : decode cX10_lets 16 = .ok (.aload_n 0, 1) := by decide +kernel
theorem dX10_lets_17 : decode cX10_lets 17 = .ok (.getfield 84, 3) := by decide +kernel
theorem dX10_lets_20 : decode cX10_lets 20 = .ok (.iconst 1, 1) := by decide +kernel
theorem dX10_lets_21 : decode cX10_lets 21 = .ok (.aload_n 0, 1) := by decide +kernel
theorem dX10_lets_22 : decode cX10_lets 22 = .ok (.iload_n 1, 1) := by decide +kernel
theorem dX10_lets_23 : decode cX10_lets 23 = .ok (.aload_n 0, 1) := by decide +kernel
theorem dX10_lets_24 : decode cX10_lets 24 = .ok (.getfield 255, 3) := by decide +kernel
theorem dX10_lets_27 : decode cX10_lets 27 = .ok (.aload_n 0, 1) := by decide +kernel
theorem dX10_lets_28 : decode cX10_lets 28 = .ok (.getfield 255, 3) := by decide +kernel
theorem dX10_lets_31 : decode cX10_lets 31 = .ok (.invokevirtual 302, 3) := by decide +kernel
theorem dX10_lets_34 : decode cX10_lets 34 = .ok (.iastore, 1) := by decide +kernel
theorem dX10_lets_35 : decode cX10_lets 35 = .ok (.aload_n 0, 1) := by decide +kernel
theorem dX10_lets_36 : decode cX10_lets 36 = .ok (.getfield 84, 3) := by decide +kernel
theorem dX10_lets_39 : decode cX10_lets 39 = .ok (.iconst 2, 1) := by decide +kernel
theorem dX10_lets_40 : decode cX10_lets 40 = .ok (.iload_n 2, 1) := by decide +kernel
theorem dX10_lets_41 : decode cX10_lets 41 = .ok (.iastore, 1) := by decide +kernel
theorem dX10_lets_42 : decode cX10_lets 42 = .ok (.aload_n 0, 1) := by decide +kernel
theorem dX10_lets_43 : decode cX10_lets 43 = .ok (.getfield 84, 3) := by decide +kernel
theorem dX10_lets_46 : decode cX10_lets 46 = .ok (.iconst 3, 1) := by decide +kernel
theorem dX10_lets_47 : decode cX10_lets 47 = .ok (.iload_n 3, 1) := by decide +kernel
theorem dX10_lets_48 : decode cX10_lets 48 = .ok (.iastore, 1) := by decide +kernel
theorem dX10_lets_49 : decode cX10_lets 49 = .ok (.aload_n 0, 1) := by decide +kernel
theorem dX10_lets_50 : decode cX10_lets 50 = .ok (.getfield 84, 3) := by decide +kernel
theorem dX10_lets_53 : decode cX10_lets 53 = .ok (.iconst 4, 1) := by decide +kernel
theorem dX10_lets_54 : decode cX10_lets 54 = .ok (.aload_n 0, 1) := by decide +kernel
theorem dX10_lets_55 : decode cX10_lets 55 = .ok (.iload_n 1, 1) := by decide +kernel
theorem dX10_lets_56 : decode cX10_lets 56 = .ok (.invokevirtual 330, 3) := by decide +kernel
theorem dX10_lets_59 : decode cX10_lets 59 = .ok (.ifCond .eq 7, 3) := by decide +kernel
theorem dX10_lets_62 : decode cX10_lets 62 = .ok (.iconst 1, 1) := by decide +kernel
theorem dX10_lets_63 : decode cX10_lets 63 = .ok (.goto 4, 3) := by decide +kernel
theorem dX10_lets_66 : decode cX10_lets 66 = .ok (.iconst 0, 1) := by decide +kernel
theorem dX10_lets_67 : decode cX10_lets 67 = .ok (.iastore, 1) := by decide +kernel
theorem dX10_lets_68 : decode cX10_lets 68 = .ok (.aload_n 0, 1) := by decide +kernel
theorem dX10_lets_69 : decode cX10_lets 69 = .ok (.getfield 84, 3) := by decide +kernel
theorem dX10_lets_72 : decode cX10_lets 72 = .ok (.iconst 5, 1) := by decide +kernel
theorem dX10_lets_73 : decode cX10_lets 73 = .ok (.aload_n 0, 1) := by decide +kernel
theorem dX10_lets_74 : decode cX10_lets 74 = .ok (.getfield 99, 3) := by decide +kernel
theorem dX10_lets_77 : decode cX10_lets 77 = .ok (.iload_n 1, 1) := by decide +kernel
theorem dX10_lets_78 : decode cX10_lets 78 = .ok (.iaload, 1) := by decide +kernel
theorem dX10_lets_79 : decode cX10_lets 79 = .ok (.iastore, 1) := by decide +kernel
theorem dX10_lets_80 : decode cX10_lets 80 = .ok (.aload_n 0, 1) := by decide +kernel
theorem dX10_lets_81 : decode cX10_lets 81 = .ok (.getfield 84, 3) := by decide +kernel
theorem dX10_lets_84 : decode cX10_lets 84 = .ok (.bipush 6, 2) := by decide +kernel
theorem dX10_lets_86 : decode cX10_lets 86 = .ok (.aload_n 0, 1) := by decide +kernel
theorem dX10_lets_87 : decode cX10_lets 87 = .ok (.getfield 255, 3) := by decide +kernel
theorem dX10_lets_90 : decode cX10_lets 90 = .ok (.iastore, 1) := by decide +kernel
theorem dX10_lets_91 : decode cX10_lets 91 = .ok (.bipush 16, 2) := by decide +kernel
theorem dX10_lets_93 : decode cX10_lets 93 = .ok (.aload_n 0, 1) := by decide +kernel
theorem dX10_lets_94 : decode cX10_lets 94 = .ok (.getfield 219, 3) := by decide +kernel
theorem dX10_lets_97 : decode cX10_lets 97 = .ok (.imul, 1) := by decide +kernel
theorem dX10_lets_98 : decode cX10_lets 98 = .ok (.istore 4, 2) := by decide +kernel
theorem dX10_lets_100 : decode cX10_lets 100 = .ok (.iload 4, 2) := by decide +kernel
theorem dX10_lets_102 : decode cX10_lets 102 = .ok (.bipush 16, 2) := by decide +kernel
theorem dX10_lets_104 : decode cX10_lets 104 = .ok (.aload_n 0, 1) := by decide +kernel
theorem dX10_lets_105 : decode cX10_lets 105 = .ok (.getfield 219, 3) := by decide +kernel
theorem dX10_lets_108 : decode cX10_lets 108 = .ok (.imul, 1) := by decide +kernel
theorem dX10_lets_109 : decode cX10_lets 109 = .ok (.aload_n 0, 1) := by decide +kernel
theorem dX10_lets_110 : decode cX10_lets 110 = .ok (.getfield 59, 3) := by decide +kernel
theorem dX10_lets_113 : decode cX10_lets 113 = .ok (.aload_n 0, 1) := by decide +kernel
theorem dX10_lets_114 : decode cX10_lets 114 = .ok (.getfield 219, 3) := by decide +kernel
theorem dX10_lets_117 : decode cX10_lets 117 = .ok (.iaload, 1) := by decide +kernel
theorem dX10_lets_118 : decode cX10_lets 118 = .ok (.iadd, 1) := by decide +kernel
theorem dX10_lets_119 : decode cX10_lets 119 = .ok (.if_icmp .ge 39, 3) := by decide +kernel
theorem dX10_lets_122 : decode cX10_lets 122 = .ok (.aload_n 0, 1) := by decide +kernel
theorem dX10_lets_123 : decode cX10_lets 123 = .ok (.aload_n 0, 1) := by decide +kernel
theorem dX10_lets_124 : decode cX10_lets 124 = .ok (.getfield 66, 3) := by decide +kernel
theorem dX10_lets_127 : decode cX10_lets 127 = .ok (.iload 4, 2) := by decide +kernel
theorem dX10_lets_129 : decode cX10_lets 129 = .ok (.iaload, 1) := by decide +kernel
theorem dX10_lets_130 : decode cX10_lets 130 = .ok (.invokevirtual 333, 3) := by decide +kernel
theorem dX10_lets_133 : decode cX10_lets 133 = .ok (.ifCond .eq 19, 3) := by decide +kernel
theorem dX10_lets_136 : decode cX10_lets 136 = .ok (.aload_n 0, 1) := by decide +kernel
theorem dX10_lets_137 : decode cX10_lets 137 = .ok (.getfield 62, 3) := by decide +kernel
theorem dX10_lets_140 : decode cX10_lets 140 = .ok (.iload 4, 2) := by decide +kernel
theorem dX10_lets_142 : decode cX10_lets 142 = .ok (.baload, 1) := by decide +kernel
theorem dX10_lets_143 : decode cX10_lets 143 = .ok (.ifCond .ne 7, 3) := by decide +kernel
theorem dX10_lets_146 : decode cX10_lets 146 = .ok (.iconst 1, 1) := by decide +kernel
theorem dX10_lets_147 : decode cX10_lets 147 = .ok (.goto 4, 3) := by decide +kernel
theorem dX10_lets_150 : decode cX10_lets 150 = .ok (.iconst 0, 1) := by decide +kernel
theorem dX10_lets_151 : decode cX10_lets 151 = .ok (.ireturn, 1) := by decide +kernel
theorem dX10_lets_152 : decode cX10_lets 152 = .ok (.iinc 4 1, 3) := by decide +kernel
theorem dX10_lets_155 : decode cX10_lets 155 = .ok (.goto (-55), 3) := by decide +kernel
theorem dX10_lets_158 : decode cX10_lets 158 = .ok (.iconst 0, 1) := by decide +kernel
theorem dX10_lets_159 : decode cX10_lets 159 = .ok (.ireturn, 1) := by decide +kernel
theorem dX10_isSending_0 : decode cX10_isSending 0 = .ok (.aload_n 0, 1) := by decide +kernel
theorem dX10_isSending_1 : decode cX10_isSending 1 = .ok (.iload_n 1, 1) := by decide +kernel
theorem dX10_isSending_2 : decode cX10_isSending 2 = .ok (.invokevirtual 268, 3) := by decide +kernel
theorem dX10_isSending_5 : decode cX10_isSending 5 = .ok (.ifCond .eq 27, 3) := by decide +kernel
theorem dX10_isSending_8 : decode cX10_isSending 8 = .ok (.iload_n 2, 1) := by decide +kernel
theorem dX10_isSending_9 : decode cX10_isSending 9 = .ok (.ifCond .lt 23, 3) := by decide +kernel
theorem dX10_isSending_12 : decode cX10_isSending 12 = .ok (.iload_n 2, 1) := by decide +kernel
theorem dX10_isSending_13 : decode cX10_isSending 13 = .ok (.bipush 99, 2) := by decide +kernel
theorem dX10_isSending_15 : decode cX10_isSending 15 = .ok (.if_icmp .gt 17, 3) := by decide +kernel
theorem dX10_isSending_18 : decode cX10_isSending 18 = .ok (.iload_n 3, 1) := by decide +kernel
theorem dX10_isSending_19 : decode cX10_isSending 19 = .ok (.ifCond .lt 13, 3) := by decide +kernel
theorem dX10_isSending_22 : decode cX10_isSending 22 = .ok (.iload_n 3, 1) := by decide +kernel
theorem dX10_isSending_23 : decode cX10_isSending 23 = .ok (.bipush 9, 2) := by decide +kernel
theorem dX10_isSending_25 : decode cX10_isSending 25 = .ok (.if_icmp .gt 7, 3) := by decide +kernel
theorem dX10_isSending_28 : decode cX10_isSending 28 = .ok (.iconst 1, 1) := by decide +kernel
theorem dX10_isSending_29 : decode cX10_isSending 29 = .ok (.goto 4, 3) := by decide +kernel
theorem dX10_isSending_32 : decode cX10_isSending 32 = .ok (.iconst 0, 1) := by decide +kernel
theorem dX10_isSending_33 : decode cX10_isSending 33 = .ok (.ireturn, 1) := by decide +kernel
theorem dX10_may_0 : decode cX10_may 0 = .ok (.aload_n 0, 1) := by decide +kernel
theorem dX10_may_1 : decode cX10_may 1 = .ok (.iconst 0, 1) := by decide +kernel
theorem dX10_may_2 : decode cX10_may 2 = .ok (.putfield 1, 3) := by decide +kernel
theorem dX10_may_5 : decode cX10_may 5 = .ok (.aload_n 0, 1) := by decide +kernel
theorem dX10_may_6 : decode cX10_may 6 = .ok (.iload_n 1, 1) := by decide +kernel
theorem dX10_may_7 : decode cX10_may 7 = .ok (.iload_n 2, 1) := by decide +kernel
theorem dX10_may_8 : decode cX10_may 8 = .ok (.iload_n 3, 1) := by decide +kernel
theorem dX10_may_9 : decode cX10_may 9 = .ok (.invokevirtual 336, 3) := by decide +kernel
theorem dX10_may_12 : decode cX10_may 12 = .ok (.ifCond .ne 7, 3) := by decide +kernel
theorem dX10_may_15 : decode cX10_may 15 = .ok (.iconst (-1), 1) := by decide +kernel
theorem dX10_may_16 : decode cX10_may 16 = .ok (.goto 18, 3) := by decide +kernel
theorem dX10_may_19 : decode cX10_may 19 = .ok (.aload_n 0, 1) := by decide +kernel
theorem dX10_may_20 : decode cX10_may 20 = .ok (.iload_n 1, 1) := by decide +kernel
theorem dX10_may_21 : decode cX10_may 21 = .ok (.iload_n 2, 1) := by decide +kernel
theorem dX10_may_22 : decode cX10_may 22 = .ok (.iload_n 3, 1) := by decide +kernel
theorem dX10_may_23 : decode cX10_may 23 = .ok (.invokevirtual 339, 3) := by decide +kernel
theorem dX10_may_26 : decode cX10_may 26 = .ok (.ifCond .eq 7, 3) := by decide +kernel
theorem dX10_may_29 : decode cX10_may 29 = .ok (.iconst 1, 1) := by decide +kernel
theorem dX10_may_30 : decode cX10_may 30 = .ok (.goto 4, 3) := by decide +kernel
theorem dX10_may_33 : decode cX10_may 33 = .ok (.iconst 0, 1) := by decide +kernel
theorem dX10_may_34 : decode cX10_may 34 = .ok (.ireturn, 1) := by decide +kernel
theorem dX10_send_0 : decode cX10_send 0 = .ok (.aload_n 0, 1) := by decide +kernel
theorem dX10_send_1 : decode cX10_send 1 = .ok (.iconst 0, 1) := by decide +kernel
theorem dX10_send_2 : decode cX10_send 2 = .ok (.putfield 1, 3) := by decide +kernel
theorem dX10_send_5 : decode cX10_send 5 = .ok (.aload_n 0, 1) := by decide +kernel
theorem dX10_send_6 : decode cX10_send 6 = .ok (.iload_n 1, 1) := by decide +kernel
theorem dX10_send_7 : decode cX10_send 7 = .ok (.iload_n 2, 1) := by decide +kernel
theorem dX10_send_8 : decode cX10_send 8 = .ok (.iload_n 3, 1) := by decide +kernel
theorem dX10_send_9 : decode cX10_send 9 = .ok (.invokevirtual 336, 3) := by decide +kernel
theorem dX10_send_12 : decode cX10_send 12 = .ok (.ifCond .eq 31, 3) := by decide +kernel
theorem dX10_send_15 : decode cX10_send 15 = .ok (.aload_n 0, 1) := by decide +kernel
theorem dX10_send_16 : decode cX10_send 16 = .ok (.getfield 99, 3) := by decide +kernel
theorem dX10_send_19 : decode cX10_send 19 = .ok (.iload_n 1, 1) := by decide +kernel
theorem dX10_send_20 : decode cX10_send 20 = .ok (.iaload, 1) := by decide +kernel
theorem dX10_send_21 : decode cX10_send 21 = .ok (.ifCond .eq 22, 3) := by decide +kernel
theorem dX10_send_24 : decode cX10_send 24 = .ok (.aload_n 0, 1) := by decide +kernel
theorem dX10_send_25 : decode cX10_send 25 = .ok (.getfield 342, 3) := by decide +kernel
theorem dX10_send_28 : decode cX10_send 28 = .ok (.bipush 100, 2) := by decide +kernel
theorem dX10_send_30 : decode cX10_send 30 = .ok (.if_icmp .eq 13, 3) := by decide +kernel
theorem dX10_send_33 : decode cX10_send 33 = .ok (.aload_n 0, 1) := by decide +kernel
theorem dX10_send_34 : decode cX10_send 34 = .ok (.iload_n 1, 1) := by decide +kernel
theorem dX10_send_35 : decode cX10_send 35 = .ok (.iload_n 2, 1) := by decide +kernel
theorem dX10_send_36 : decode cX10_send 36 = .ok (.iload_n 3, 1) := by decide +kernel
theorem dX10_send_37 : decode cX10_send 37 = .ok (.invokevirtual 339, 3) := by decide +kernel
theorem dX10_send_40 : decode cX10_send 40 = .ok (.ifCond .ne 5, 3) := by decide +kernel
theorem dX10_send_43 : decode cX10_send 43 = .ok (.iconst 0, 1) := by decide +kernel
theorem dX10_send_44 : decode cX10_send 44 = .ok (.ireturn, 1) := by decide +kernel
theorem dX10_send_45 : decode cX10_send 45 = .ok (.aload_n 0, 1) := by decide +kernel
theorem dX10_send_46 : decode cX10_send 46 = .ok (.getfield 99, 3) := by decide +kernel
theorem dX10_send_49 : decode cX10_send 49 = .ok (.iload_n 1, 1) := by decide +kernel
theorem dX10_send_50 : decode cX10_send 50 = .ok (.dup2, 1) := by decide +kernel
theorem dX10_send_51 : decode cX10_send 51 = .ok (.iaload, 1) := by decide +kernel
theorem dX10_send_52 : decode cX10_send 52 = .ok (.iconst 1, 1) := by decide +kernel
theorem dX10_send_53 : decode cX10_send 53 = .ok (.isub, 1) := by decide +kernel
theorem dX10_send_54 : decode cX10_send 54 = .ok (.iastore, 1) := by decide +kernel
theorem dX10_send_55 : decode cX10_send 55 = .ok (.aload_n 0, 1) := by decide +kernel
theorem dX10_send_56 : decode cX10_send 56 = .ok (.getfield 165, 3) := by decide +kernel
theorem dX10_send_59 : decode cX10_send 59 = .ok (.iconst 4, 1) := by decide +kernel
theorem dX10_send_60 : decode cX10_send 60 = .ok (.aload_n 0, 1) := by decide +kernel
theorem dX10_send_61 : decode cX10_send 61 = .ok (.getfield 342, 3) := by decide +kernel
theorem dX10_send_64 : decode cX10_send 64 = .ok (.imul, 1) := by decide +kernel
theorem dX10_send_65 : decode cX10_send 65 = .ok (.iload_n 1, 1) := by decide +kernel
theorem dX10_send_66 : decode cX10_send 66 = .ok (.iastore, 1) := by decide +kernel
theorem dX10_send_67 : decode cX10_send 67 = .ok (.aload_n 0, 1) := by decide +kernel
theorem dX10_send_68 : decode cX10_send 68 = .ok (.getfield 165, 3) := by decide +kernel
theorem dX10_send_71 : decode cX10_send 71 = .ok (.iconst 4, 1) := by decide +kernel
theorem dX10_send_72 : decode cX10_send 72 = .ok (.aload_n 0, 1) := by decide +kernel
theorem dX10_send_73 : decode cX10_send 73 = .ok (.getfield 342, 3) := by decide +kernel
theorem dX10_send_76 : decode cX10_send 76 = .ok (.imul, 1) := by decide +kernel
theorem dX10_send_77 : decode cX10_send 77 = .ok (.iconst 1, 1) := by decide +kernel
theorem dX10_send_78 : decode cX10_send 78 = .ok (.iadd, 1) := by decide +kernel
theorem dX10_send_79 : decode cX10_send 79 = .ok (.iload_n 2, 1) := by decide +kernel
theorem dX10_send_80 : decode cX10_send 80 = .ok (.iastore, 1) := by decide +kernel
theorem dX10_send_81 : decode cX10_send 81 = .ok (.aload_n 0, 1) := by decide +kernel
theorem dX10_send_82 : decode cX10_send 82 = .ok (.getfield 165, 3) := by decide +kernel
theorem dX10_send_85 : decode cX10_send 85 = .ok (.iconst 4, 1) := by decide +kernel
theorem dX10_send_86 : decode cX10_send 86 = .ok (.aload_n 0, 1) := by decide +kernel
theorem dX10_send_87 : decode cX10_send 87 = .ok (.getfield 342, 3) := by decide +kernel
theorem dX10_send_90 : decode cX10_send 90 = .ok (.imul, 1) := by decide +kernel
theorem dX10_send_91 : decode cX10_send 91 = .ok (.iconst 2, 1) := by decide +kernel
theorem dX10_send_92 : decode cX10_send 92 = .ok (.iadd, 1) := by decide +kernel
theorem dX10_send_93 : decode cX10_send 93 = .ok (.iload_n 3, 1) := by decide +kernel
theorem dX10_send_94 : decode cX10_send 94 = .ok (.iastore, 1) := by decide +kernel
theorem dX10_send_95 : decode cX10_send 95 = .ok (.aload_n 0, 1) := by decide +kernel
theorem dX10_send_96 : decode cX10_send 96 = .ok (.getfield 165, 3) := by decide +kernel
theorem dX10_send_99 : decode cX10_send 99 = .ok (.iconst 4, 1) := by decide +kernel
theorem dX10_send_100 : decode cX10_send 100 = .ok (.aload_n 0, 1) := by decide +kernel
theorem dX10_send_101 : decode cX10_send 101 = .ok (.getfield 342, 3) := by decide +kernel
theorem dX10_send_104 : decode cX10_send 104 = .ok (.imul, 1) := by decide +kernel
theorem dX10_send_105 : decode cX10_send 105 = .ok (.iconst 3, 1) := by decide +kernel
theorem dX10_send_106 : decode cX10_send 106 = .ok (.iadd, 1) := by decide +kernel
theorem dX10_send_107 : decode cX10_send 107 = .ok (.aload_n 0, 1) := by decide +kernel
theorem dX10_send_108 : decode cX10_send 108 = .ok (.getfield 255, 3) := by decide +kernel
theorem dX10_send_111 : decode cX10_send 111 = .ok (.iastore, 1) := by decide +kernel
theorem dX10_send_112 : decode cX10_send 112 = .ok (.aload_n 0, 1) := by decide +kernel
theorem dX10_send_113 : decode cX10_send 113 = .ok (.dup, 1) := by decide +kernel
theorem dX10_send_114 : decode cX10_send 114 = .ok (.getfield 342, 3) := by decide +kernel
theorem dX10_send_117 : decode cX10_send 117 = .ok (.iconst 1, 1) := by decide +kernel
theorem dX10_send_118 : decode cX10_send 118 = .ok (.iadd, 1) := by decide +kernel
theorem dX10_send_119 : decode cX10_send 119 = .ok (.putfield 342, 3) := by decide +kernel
theorem dX10_send_122 : decode cX10_send 122 = .ok (.iconst 1, 1) := by decide +kernel
theorem dX10_send_123 : decode cX10_send 123 = .ok (.ireturn, 1) := by decide +kernel
theorem dX10_sent_0 : decode cX10_sent 0 = .ok (.aload_n 0, 1) := by decide +kernel
theorem dX10_sent_1 : decode cX10_sent 1 = .ok (.iconst 0, 1) := by decide +kernel
theorem dX10_sent_2 : decode cX10_sent 2 = .ok (.putfield 1, 3) := by decide +kernel
theorem dX10_sent_5 : decode cX10_sent 5 = .ok (.iload_n 1, 1) := by decide +kernel
theorem dX10_sent_6 : decode cX10_sent 6 = .ok (.ifCond .lt 20, 3) := by decide +kernel
theorem dX10_sent_9 : decode cX10_sent 9 = .ok (.iload_n 1, 1) := by decide +kernel
theorem dX10_sent_10 : decode cX10_sent 10 = .ok (.aload_n 0, 1) := by decide +kernel
theorem dX10_sent_11 : decode cX10_sent 11 = .ok (.getfield 342, 3) := by decide +kernel
theorem dX10_sent_14 : decode cX10_sent 14 = .ok (.if_icmp .ge 12, 3) := by decide +kernel
theorem dX10_sent_17 : decode cX10_sent 17 = .ok (.iload_n 2, 1) := by decide +kernel
theorem dX10_sent_18 : decode cX10_sent 18 = .ok (.ifCond .lt 8, 3) := by decide +kernel
theorem dX10_sent_21 : decode cX10_sent 21 = .ok (.iload_n 2, 1) := by decide +kernel
theorem dX10_sent_22 : decode cX10_sent 22 = .ok (.iconst 3, 1) := by decide +kernel
theorem dX10_sent_23 : decode cX10_sent 23 = .ok (.if_icmp .le 7, 3) := by decide +kernel
theorem dX10_sent_26 : decode cX10_sent 26 = .ok (.iconst (-1), 1) := by decide +kernel
theorem dX10_sent_27 : decode cX10_sent 27 = .ok (.goto 13, 3) := by decide +kernel
theorem dX10_sent_30 : decode cX10_sent 30 = .ok (.aload_n 0, 1) := by decide +kernel
theorem dX10_sent_31 : decode cX10_sent 31 = .ok (.getfield 165, 3) := by decide +kernel
theorem dX10_sent_34 : decode cX10_sent 34 = .ok (.iconst 4, 1) := by decide +kernel
theorem dX10_sent_35 : decode cX10_sent 35 = .ok (.iload_n 1, 1) := by decide +kernel
theorem dX10_sent_36 : decode cX10_sent 36 = .ok (.imul, 1) := by decide +kernel
theorem dX10_sent_37 : decode cX10_sent 37 = .ok (.iload_n 2, 1) := by decide +kernel
theorem dX10_sent_38 : decode cX10_sent 38 = .ok (.iadd, 1) := by decide +kernel
theorem dX10_sent_39 : decode cX10_sent 39 = .ok (.iaload, 1) := by decide +kernel
theorem dX10_sent_40 : decode cX10_sent 40 = .ok (.ireturn, 1) := by decide +kernel
theorem dX10_seen_0 : decode cX10_seen 0 = .ok (.aload_n 0, 1) := by decide +kernel
theorem dX10_seen_1 : decode cX10_seen 1 = .ok (.iconst 0, 1) := by decide +kernel
theorem dX10_seen_2 : decode cX10_seen 2 = .ok (.putfield 1, 3) := by decide +kernel
theorem dX10_seen_5 : decode cX10_seen 5 = .ok (.aload_n 0, 1) := by decide +kernel
theorem dX10_seen_6 : decode cX10_seen 6 = .ok (.iload_n 1, 1) := by decide +kernel
theorem dX10_seen_7 : decode cX10_seen 7 = .ok (.invokevirtual 268, 3) := by decide +kernel
theorem dX10_seen_10 : decode cX10_seen 10 = .ok (.ifCond .eq 19, 3) := by decide +kernel
theorem dX10_seen_13 : decode cX10_seen 13 = .ok (.aload_n 0, 1) := by decide +kernel
theorem dX10_seen_14 : decode cX10_seen 14 = .ok (.getfield 108, 3) := by decide +kernel
theorem dX10_seen_17 : decode cX10_seen 17 = .ok (.iload_n 1, 1) := by decide +kernel
theorem dX10_seen_18 : decode cX10_seen 18 = .ok (.iaload, 1) := by decide +kernel
theorem dX10_seen_19 : decode cX10_seen 19 = .ok (.ifCond .lt 10, 3) := by decide +kernel
theorem dX10_seen_22 : decode cX10_seen 22 = .ok (.iload_n 2, 1) := by decide +kernel
theorem dX10_seen_23 : decode cX10_seen 23 = .ok (.invokestatic 261, 3) := by decide +kernel
theorem dX10_seen_26 : decode cX10_seen 26 = .ok (.ifCond .ne 5, 3) := by decide +kernel
theorem dX10_seen_29 : decode cX10_seen 29 = .ok (.iconst 0, 1) := by decide +kernel
theorem dX10_seen_30 : decode cX10_seen 30 = .ok (.ireturn, 1) := by decide +kernel
theorem dX10_seen_31 : decode cX10_seen 31 = .ok (.aload_n 0, 1) := by decide +kernel
theorem dX10_seen_32 : decode cX10_seen 32 = .ok (.getfield 111, 3) := by decide +kernel
theorem dX10_seen_35 : decode cX10_seen 35 = .ok (.iload_n 1, 1) := by decide +kernel
theorem dX10_seen_36 : decode cX10_seen 36 = .ok (.iload_n 2, 1) := by decide +kernel
theorem dX10_seen_37 : decode cX10_seen 37 = .ok (.iastore, 1) := by decide +kernel
theorem dX10_seen_38 : decode cX10_seen 38 = .ok (.iconst 1, 1) := by decide +kernel
theorem dX10_seen_39 : decode cX10_seen 39 = .ok (.ireturn, 1) := by decide +kernel
theorem dX10_close_0 : decode cX10_close 0 = .ok (.aload_n 0, 1) := by decide +kernel
theorem dX10_close_1 : decode cX10_close 1 = .ok (.iconst 0, 1) := by decide +kernel
theorem dX10_close_2 : decode cX10_close 2 = .ok (.putfield 1, 3) := by decide +kernel
theorem dX10_close_5 : decode cX10_close 5 = .ok (.aload_n 0, 1) := by decide +kernel
theorem dX10_close_6 : decode cX10_close 6 = .ok (.iload_n 1, 1) := by decide +kernel
theorem dX10_close_7 : decode cX10_close 7 = .ok (.invokevirtual 311, 3) := by decide +kernel
theorem dX10_close_10 : decode cX10_close 10 = .ok (.ifCond .ne 5, 3) := by decide +kernel
theorem dX10_close_13 : decode cX10_close 13 = .ok (.iconst (-1), 1) := by decide +kernel
theorem dX10_close_14 : decode cX10_close 14 = .ok (.ireturn, 1) := by decide +kernel
theorem dX10_close_15 : decode cX10_close 15 = .ok (.iconst 0, 1) := by decide +kernel
theorem dX10_close_16 : decode cX10_close 16 = .ok (.istore_n 2, 1) := by decide +kernel
theorem dX10_close_17 : decode cX10_close 17 = .ok (.iconst 0, 1) := by decide +kernel
theorem dX10_close_18 : decode cX10_close 18 = .ok (.istore_n 3, 1) := by decide +kernel
theorem dX10_close_19 : decode cX10_close 19 = .ok (.iload_n 3, 1) := by decide +kernel
theorem dX10_close_20 : decode cX10_close 20 = .ok (.aload_n 0, 1) := by decide +kernel
theorem dX10_close_21 : decode cX10_close 21 = .ok (.getfield 258, 3) := by decide +kernel
theorem dX10_close_24 : decode cX10_close 24 = .ok (.if_icmp .ge 35, 3) := by decide +kernel
theorem dX10_close_27 : decode cX10_close 27 = .ok (.aload_n 0, 1) := by decide +kernel
theorem dX10_close_28 : decode cX10_close 28 = .ok (.getfield 108, 3) := by decide +kernel
theorem dX10_close_31 : decode cX10_close 31 = .ok (.iload_n 3, 1) := by decide +kernel
theorem dX10_close_32 : decode cX10_close 32 = .ok (.iaload, 1) := by decide +kernel
theorem dX10_close_33 : decode cX10_close 33 = .ok (.iload_n 1, 1) := by decide +kernel
theorem dX10_close_34 : decode cX10_close 34 = .ok (.if_icmp .ne 19, 3) := by decide +kernel
theorem dX10_close_37 : decode cX10_close 37 = .ok (.iload_n 2, 1) := by decide +kernel
theorem dX10_close_38 : decode cX10_close 38 = .ok (.aload_n 0, 1) := by decide +kernel
theorem dX10_close_39 : decode cX10_close 39 = .ok (.iload_n 3, 1) := by decide +kernel
theorem dX10_close_40 : decode cX10_close 40 = .ok (.invokevirtual 345, 3) := by decide +kernel
theorem dX10_close_43 : decode cX10_close 43 = .ok (.ifCond .eq 7, 3) := by decide +kernel
theorem dX10_close_46 : decode cX10_close 46 = .ok (.iconst 1, 1) := by decide +kernel
theorem dX10_close_47 : decode cX10_close 47 = .ok (.goto 4, 3) := by decide +kernel
theorem dX10_close_50 : decode cX10_close 50 = .ok (.iconst 0, 1) := by decide +kernel
theorem dX10_close_51 : decode cX10_close 51 = .ok (.iadd, 1) := by decide +kernel
theorem dX10_close_52 : decode cX10_close 52 = .ok (.istore_n 2, 1) := by decide +kernel
theorem dX10_close_53 : decode cX10_close 53 = .ok (.iinc 3 1, 3) := by decide +kernel
theorem dX10_close_56 : decode cX10_close 56 = .ok (.goto (-37), 3) := by decide +kernel
theorem dX10_close_59 : decode cX10_close 59 = .ok (.iload_n 2, 1) := by decide +kernel
theorem dX10_close_60 : decode cX10_close 60 = .ok (.ireturn, 1) := by decide +kernel
theorem dX10_checks_0 : decode cX10_checks 0 = .ok (.aload_n 0, 1) := by decide +kernel
theorem dX10_checks_1 : decode cX10_checks 1 = .ok (.getfield 111, 3) := by decide +kernel
theorem dX10_checks_4 : decode cX10_checks 4 = .ok (.iload_n 1, 1) := by decide +kernel
theorem dX10_checks_5 : decode cX10_checks 5 = .ok (.iaload, 1) := by decide +kernel
theorem dX10_checks_6 : decode cX10_checks 6 = .ok (.ifCond .lt 38, 3) := by decide +kernel
theorem dX10_checks_9 : decode cX10_checks 9 = .ok (.aload_n 0, 1) := by decide +kernel
theorem dX10_checks_10 : decode cX10_checks 10 = .ok (.getfield 114, 3) := by decide +kernel
theorem dX10_checks_13 : decode cX10_checks 13 = .ok (.iload_n 1, 1) := by decide +kernel
theorem dX10_checks_14 : decode cX10_checks 14 = .ok (.iconst 0, 1) := by decide +kernel
theorem dX10_checks_15 : decode cX10_checks 15 = .ok (.iastore, 1) := by decide +kernel
theorem dX10_checks_16 : decode cX10_checks 16 = .ok (.aload_n 0, 1) := by decide +kernel
theorem dX10_checks_17 : decode cX10_checks 17 = .ok (.getfield 117, 3) := by decide +kernel
theorem dX10_checks_20 : decode cX10_checks 20 = .ok (.iload_n 1, 1) := by decide +kernel
theorem dX10_checks_21 : decode cX10_checks 21 = .ok (.iconst 0, 1) := by decide +kernel
theorem dX10_checks_22 : decode cX10_checks 22 = .ok (.bastore, 1) := by decide +kernel
theorem dX10_checks_23 : decode cX10_checks 23 = .ok (.aload_n 0, 1) := by decide +kernel
theorem dX10_checks_24 : decode cX10_checks 24 = .ok (.getfield 99, 3) := by decide +kernel
theorem dX10_checks_27 : decode cX10_checks 27 = .ok (.iload_n 1, 1) := by decide +kernel
theorem dX10_checks_28 : decode cX10_checks 28 = .ok (.aload_n 0, 1) := by decide +kernel
theorem dX10_checks_29 : decode cX10_checks 29 = .ok (.getfield 111, 3) := by decide +kernel
theorem dX10_checks_32 : decode cX10_checks 32 = .ok (.iload_n 1, 1) := by decide +kernel
theorem dX10_checks_33 : decode cX10_checks 33 = .ok (.iaload, 1) := by decide +kernel
theorem dX10_checks_34 : decode cX10_checks 34 = .ok (.iastore, 1) := by decide +kernel
theorem dX10_checks_35 : decode cX10_checks 35 = .ok (.aload_n 0, 1) := by decide +kernel
theorem dX10_checks_36 : decode cX10_checks 36 = .ok (.getfield 111, 3) := by decide +kernel
theorem dX10_checks_39 : decode cX10_checks 39 = .ok (.iload_n 1, 1) := by decide +kernel
theorem dX10_checks_40 : decode cX10_checks 40 = .ok (.iconst (-1), 1) := by decide +kernel
theorem dX10_checks_41 : decode cX10_checks 41 = .ok (.iastore, 1) := by decide +kernel
theorem dX10_checks_42 : decode cX10_checks 42 = .ok (.iconst 0, 1) := by decide +kernel
theorem dX10_checks_43 : decode cX10_checks 43 = .ok (.ireturn, 1) := by decide +kernel
theorem dX10_checks_44 : decode cX10_checks 44 = .ok (.aload_n 0, 1) := by decide +kernel
theorem dX10_checks_45 : decode cX10_checks 45 = .ok (.getfield 114, 3) := by decide +kernel
theorem dX10_checks_48 : decode cX10_checks 48 = .ok (.iload_n 1, 1) := by decide +kernel
theorem dX10_checks_49 : decode cX10_checks 49 = .ok (.dup2, 1) := by decide +kernel
theorem dX10_checks_50 : decode cX10_checks 50 = .ok (.iaload, 1) := by decide +kernel
theorem dX10_checks_51 : decode cX10_checks 51 = .ok (.iconst 1, 1) := by decide +kernel
theorem dX10_checks_52 : decode cX10_checks 52 = .ok (.iadd, 1) := by decide +kernel
theorem dX10_checks_53 : decode cX10_checks 53 = .ok (.iastore, 1) := by decide +kernel
theorem dX10_checks_54 : decode cX10_checks 54 = .ok (.aload_n 0, 1) := by decide +kernel
theorem dX10_checks_55 : decode cX10_checks 55 = .ok (.getfield 114, 3) := by decide +kernel
theorem dX10_checks_58 : decode cX10_checks 58 = .ok (.iload_n 1, 1) := by decide +kernel
theorem dX10_checks_59 : decode cX10_checks 59 = .ok (.iaload, 1) := by decide +kernel
theorem dX10_checks_60 : decode cX10_checks 60 = .ok (.iconst 2, 1) := by decide +kernel
theorem dX10_checks_61 : decode cX10_checks 61 = .ok (.if_icmp .lt 16, 3) := by decide +kernel
theorem dX10_checks_64 : decode cX10_checks 64 = .ok (.aload_n 0, 1) := by decide +kernel
theorem dX10_checks_65 : decode cX10_checks 65 = .ok (.getfield 117, 3) := by decide +kernel
theorem dX10_checks_68 : decode cX10_checks 68 = .ok (.iload_n 1, 1) := by decide +kernel
theorem dX10_checks_69 : decode cX10_checks 69 = .ok (.baload, 1) := by decide +kernel
theorem dX10_checks_70 : decode cX10_checks 70 = .ok (.ifCond .ne 7, 3) := by decide +kernel
theorem dX10_checks_73 : decode cX10_checks 73 = .ok (.iconst 1, 1) := by decide +kernel
theorem dX10_checks_74 : decode cX10_checks 74 = .ok (.goto 4, 3) := by decide +kernel
theorem dX10_checks_77 : decode cX10_checks 77 = .ok (.iconst 0, 1) := by decide +kernel
theorem dX10_checks_78 : decode cX10_checks 78 = .ok (.istore_n 2, 1) := by decide +kernel
theorem dX10_checks_79 : decode cX10_checks 79 = .ok (.aload_n 0, 1) := by decide +kernel
theorem dX10_checks_80 : decode cX10_checks 80 = .ok (.getfield 117, 3) := by decide +kernel
theorem dX10_checks_83 : decode cX10_checks 83 = .ok (.iload_n 1, 1) := by decide +kernel
theorem dX10_checks_84 : decode cX10_checks 84 = .ok (.aload_n 0, 1) := by decide +kernel
theorem dX10_checks_85 : decode cX10_checks 85 = .ok (.getfield 117, 3) := by decide +kernel
theorem dX10_checks_88 : decode cX10_checks 88 = .ok (.iload_n 1, 1) := by decide +kernel
theorem dX10_checks_89 : decode cX10_checks 89 = .ok (.baload, 1) := by decide +kernel
theorem dX10_checks_90 : decode cX10_checks 90 = .ok (.ifCond .ne 7, 3) := by decide +kernel
theorem dX10_checks_93 : decode cX10_checks 93 = .ok (.iload_n 2, 1) := by decide +kernel
theorem dX10_checks_94 : decode cX10_checks 94 = .ok (.ifCond .eq 7, 3) := by decide +kernel
theorem dX10_checks_97 : decode cX10_checks 97 = .ok (.iconst 1, 1) := by decide +kernel
theorem dX10_checks_98 : decode cX10_checks 98 = .ok (.goto 4, 3) := by decide +kernel
theorem dX10_checks_101 : decode cX10_checks 101 = .ok (.iconst 0, 1) := by decide +kernel
theorem dX10_checks_102 : decode cX10_checks 102 = .ok (.bastore, 1) := by decide +kernel
theorem dX10_checks_103 : decode cX10_checks 103 = .ok (.iload_n 2, 1) := by decide +kernel
theorem dX10_checks_104 : decode cX10_checks 104 = .ok (.ireturn, 1) := by decide +kernel
theorem dX10_look_0 : decode cX10_look 0 = .ok (.aload_n 0, 1) := by decide +kernel
theorem dX10_look_1 : decode cX10_look 1 = .ok (.aload_n 0, 1) := by decide +kernel
theorem dX10_look_2 : decode cX10_look 2 = .ok (.iload_n 1, 1) := by decide +kernel
theorem dX10_look_3 : decode cX10_look 3 = .ok (.invokevirtual 268, 3) := by decide +kernel
theorem dX10_look_6 : decode cX10_look 6 = .ok (.ifCond .eq 17, 3) := by decide +kernel
theorem dX10_look_9 : decode cX10_look 9 = .ok (.iload_n 2, 1) := by decide +kernel
theorem dX10_look_10 : decode cX10_look 10 = .ok (.ifCond .lt 13, 3) := by decide +kernel
theorem dX10_look_13 : decode cX10_look 13 = .ok (.iload_n 2, 1) := by decide +kernel
theorem dX10_look_14 : decode cX10_look 14 = .ok (.bipush 17, 2) := by decide +kernel
theorem dX10_look_16 : decode cX10_look 16 = .ok (.if_icmp .gt 7, 3) := by decide +kernel
theorem dX10_look_19 : decode cX10_look 19 = .ok (.iconst 0, 1) := by decide +kernel
theorem dX10_look_20 : decode cX10_look 20 = .ok (.goto 4, 3) := by decide +kernel
theorem dX10_look_23 : decode cX10_look 23 = .ok (.iconst 1, 1) := by decide +kernel
theorem dX10_look_24 : decode cX10_look 24 = .ok (.putfield 1, 3) := by decide +kernel
theorem dX10_look_27 : decode cX10_look 27 = .ok (.aload_n 0, 1) := by decide +kernel
theorem dX10_look_28 : decode cX10_look 28 = .ok (.getfield 1, 3) := by decide +kernel
theorem dX10_look_31 : decode cX10_look 31 = .ok (.ifCond .le 5, 3) := by decide +kernel
theorem dX10_look_34 : decode cX10_look 34 = .ok (.iconst 0, 1) := by decide +kernel
theorem dX10_look_35 : decode cX10_look 35 = .ok (.ireturn, 1) := by decide +kernel
theorem dX10_look_36 : decode cX10_look 36 = .ok (.iload_n 2, 1) := by decide +kernel
theorem dX10_look_37 : decode cX10_look 37 = .ok (.tableswitch 143 0 9 #[55, 62, 69, 76, 83, 94, 100, 114, 121, 128], 55) := by decide +kernel
theorem dX10_look_92 : decode cX10_look 92 = .ok (.aload_n 0, 1) := by decide +kernel
theorem dX10_look_93 : decode cX10_look 93 = .ok (.getfield 90, 3) := by decide +kernel
theorem dX10_look_96 : decode cX10_look 96 = .ok (.iload_n 1, 1) := by decide +kernel
theorem dX10_look_97 : decode cX10_look 97 = .ok (.iaload, 1) := by decide +kernel
theorem dX10_look_98 : decode cX10_look 98 = .ok (.ireturn, 1) := by decide +kernel
theorem dX10_look_99 : decode cX10_look 99 = .ok (.aload_n 0, 1) := by decide +kernel
theorem dX10_look_100 : decode cX10_look 100 = .ok (.getfield 93, 3) := by decide +kernel
theorem dX10_look_103 : decode cX10_look 103 = .ok (.iload_n 1, 1) := by decide +kernel
theorem dX10_look_104 : decode cX10_look 104 = .ok (.iaload, 1) := by decide +kernel
theorem dX10_look_105 : decode cX10_look 105 = .ok (.ireturn, 1) := by decide +kernel
theorem dX10_look_106 : decode cX10_look 106 = .ok (.aload_n 0, 1) := by decide +kernel
theorem dX10_look_107 : decode cX10_look 107 = .ok (.getfield 96, 3) := by decide +kernel
theorem dX10_look_110 : decode cX10_look 110 = .ok (.iload_n 1, 1) := by decide +kernel
theorem dX10_look_111 : decode cX10_look 111 = .ok (.iaload, 1) := by decide +kernel
theorem dX10_look_112 : decode cX10_look 112 = .ok (.ireturn, 1) := by decide +kernel
theorem dX10_look_113 : decode cX10_look 113 = .ok (.aload_n 0, 1) := by decide +kernel
theorem dX10_look_114 : decode cX10_look 114 = .ok (.getfield 99, 3) := by decide +kernel
theorem dX10_look_117 : decode cX10_look 117 = .ok (.iload_n 1, 1) := by decide +kernel
theorem dX10_look_118 : decode cX10_look 118 = .ok (.iaload, 1) := by decide +kernel
theorem dX10_look_119 : decode cX10_look 119 = .ok (.ireturn, 1) := by decide +kernel
theorem dX10_look_120 : decode cX10_look 120 = .ok (.aload_n 0, 1) := by decide +kernel
theorem dX10_look_121 : decode cX10_look 121 = .ok (.getfield 120, 3) := by decide +kernel
theorem dX10_look_124 : decode cX10_look 124 = .ok (.aload_n 0, 1) := by decide +kernel
theorem dX10_look_125 : decode cX10_look 125 = .ok (.iload_n 1, 1) := by decide +kernel
theorem dX10_look_126 : decode cX10_look 126 = .ok (.invokevirtual 327, 3) := by decide +kernel
theorem dX10_look_129 : decode cX10_look 129 = .ok (.iaload, 1) := by decide +kernel
theorem dX10_look_130 : decode cX10_look 130 = .ok (.ireturn, 1) := by decide +kernel
theorem dX10_look_131 : decode cX10_look 131 = .ok (.aload_n 0, 1) := by decide +kernel
theorem dX10_look_132 : decode cX10_look 132 = .ok (.iload_n 1, 1) := by decide +kernel
theorem dX10_look_133 : decode cX10_look 133 = .ok (.invokevirtual 327, 3) := by decide +kernel
theorem dX10_look_136 : decode cX10_look 136 = .ok (.ireturn, 1) := by decide +kernel
theorem dX10_look_137 : decode cX10_look 137 = .ok (.aload_n 0, 1) := by decide +kernel
theorem dX10_look_138 : decode cX10_look 138 = .ok (.iload_n 1, 1) := by decide +kernel
theorem dX10_look_139 : decode cX10_look 139 = .ok (.invokevirtual 330, 3) := by decide +kernel
theorem dX10_look_142 : decode cX10_look 142 = .ok (.ifCond .eq 7, 3) := by decide +kernel
theorem dX10_look_145 : decode cX10_look 145 = .ok (.iconst 1, 1) := by decide +kernel
theorem dX10_look_146 : decode cX10_look 146 = .ok (.goto 4, 3) := by decide +kernel
theorem dX10_look_149 : decode cX10_look 149 = .ok (.iconst 0, 1) := by decide +kernel
theorem dX10_look_150 : decode cX10_look 150 = .ok (.ireturn, 1) := by decide +kernel
theorem dX10_look_151 : decode cX10_look 151 = .ok (.aload_n 0, 1) := by decide +kernel
theorem dX10_look_152 : decode cX10_look 152 = .ok (.getfield 108, 3) := by decide +kernel
theorem dX10_look_155 : decode cX10_look 155 = .ok (.iload_n 1, 1) := by decide +kernel
theorem dX10_look_156 : decode cX10_look 156 = .ok (.iaload, 1) := by decide +kernel
theorem dX10_look_157 : decode cX10_look 157 = .ok (.ireturn, 1) := by decide +kernel
theorem dX10_look_158 : decode cX10_look 158 = .ok (.aload_n 0, 1) := by decide +kernel
theorem dX10_look_159 : decode cX10_look 159 = .ok (.getfield 114, 3) := by decide +kernel
theorem dX10_look_162 : decode cX10_look 162 = .ok (.iload_n 1, 1) := by decide +kernel
theorem dX10_look_163 : decode cX10_look 163 = .ok (.iaload, 1) := by decide +kernel
theorem dX10_look_164 : decode cX10_look 164 = .ok (.ireturn, 1) := by decide +kernel
theorem dX10_look_165 : decode cX10_look 165 = .ok (.aload_n 0, 1) := by decide +kernel
theorem dX10_look_166 : decode cX10_look 166 = .ok (.getfield 117, 3) := by decide +kernel
theorem dX10_look_169 : decode cX10_look 169 = .ok (.iload_n 1, 1) := by decide +kernel
theorem dX10_look_170 : decode cX10_look 170 = .ok (.baload, 1) := by decide +kernel
theorem dX10_look_171 : decode cX10_look 171 = .ok (.ifCond .eq 7, 3) := by decide +kernel
theorem dX10_look_174 : decode cX10_look 174 = .ok (.iconst 1, 1) := by decide +kernel
theorem dX10_look_175 : decode cX10_look 175 = .ok (.goto 4, 3) := by decide +kernel
theorem dX10_look_178 : decode cX10_look 178 = .ok (.iconst 0, 1) := by decide +kernel
theorem dX10_look_179 : decode cX10_look 179 = .ok (.ireturn, 1) := by decide +kernel
theorem dX10_look_180 : decode cX10_look 180 = .ok (.aload_n 0, 1) := by decide +kernel
theorem dX10_look_181 : decode cX10_look 181 = .ok (.iload_n 1, 1) := by decide +kernel
theorem dX10_look_182 : decode cX10_look 182 = .ok (.iload_n 2, 1) := by decide +kernel
theorem dX10_look_183 : decode cX10_look 183 = .ok (.bipush 10, 2) := by decide +kernel
theorem dX10_look_185 : decode cX10_look 185 = .ok (.isub, 1) := by decide +kernel
theorem dX10_look_186 : decode cX10_look 186 = .ok (.iconst 2, 1) := by decide +kernel
theorem dX10_look_187 : decode cX10_look 187 = .ok (.idiv, 1) := by decide +kernel
theorem dX10_look_188 : decode cX10_look 188 = .ok (.iload_n 2, 1) := by decide +kernel
theorem dX10_look_189 : decode cX10_look 189 = .ok (.iconst 2, 1) := by decide +kernel
theorem dX10_look_190 : decode cX10_look 190 = .ok (.irem, 1) := by decide +kernel
theorem dX10_look_191 : decode cX10_look 191 = .ok (.invokevirtual 271, 3) := by decide +kernel
theorem dX10_look_194 : decode cX10_look 194 = .ok (.ireturn, 1) := by decide +kernel
theorem dX10_count_0 : decode cX10_count 0 = .ok (.aload_n 0, 1) := by decide +kernel
theorem dX10_count_1 : decode cX10_count 1 = .ok (.iconst 0, 1) := by decide +kernel
theorem dX10_count_2 : decode cX10_count 2 = .ok (.putfield 1, 3) := by decide +kernel
theorem dX10_count_5 : decode cX10_count 5 = .ok (.iconst 0, 1) := by decide +kernel
theorem dX10_count_6 : decode cX10_count 6 = .ok (.istore_n 2, 1) := by decide +kernel
theorem dX10_count_7 : decode cX10_count 7 = .ok (.iconst 0, 1) := by decide +kernel
theorem dX10_count_8 : decode cX10_count 8 = .ok (.istore_n 3, 1) := by decide +kernel
theorem dX10_count_9 : decode cX10_count 9 = .ok (.iconst 0, 1) := by decide +kernel
theorem dX10_count_10 : decode cX10_count 10 = .ok (.istore 4, 2) := by decide +kernel
theorem dX10_count_12 : decode cX10_count 12 = .ok (.iload 4, 2) := by decide +kernel
theorem dX10_count_14 : decode cX10_count 14 = .ok (.aload_n 0, 1) := by decide +kernel
theorem dX10_count_15 : decode cX10_count 15 = .ok (.getfield 258, 3) := by decide +kernel
theorem dX10_count_18 : decode cX10_count 18 = .ok (.if_icmp .ge 45, 3) := by decide +kernel
theorem dX10_count_21 : decode cX10_count 21 = .ok (.iload_n 2, 1) := by decide +kernel
theorem dX10_count_22 : decode cX10_count 22 = .ok (.aload_n 0, 1) := by decide +kernel
theorem dX10_count_23 : decode cX10_count 23 = .ok (.getfield 117, 3) := by decide +kernel
theorem dX10_count_26 : decode cX10_count 26 = .ok (.iload 4, 2) := by decide +kernel
theorem dX10_count_28 : decode cX10_count 28 = .ok (.baload, 1) := by decide +kernel
theorem dX10_count_29 : decode cX10_count 29 = .ok (.ifCond .eq 7, 3) := by decide +kernel
theorem dX10_count_32 : decode cX10_count 32 = .ok (.iconst 1, 1) := by decide +kernel
theorem dX10_count_33 : decode cX10_count 33 = .ok (.goto 4, 3) := by decide +kernel
theorem dX10_count_36 : decode cX10_count 36 = .ok (.iconst 0, 1) := by decide +kernel
theorem dX10_count_37 : decode cX10_count 37 = .ok (.iadd, 1) := by decide +kernel
theorem dX10_count_38 : decode cX10_count 38 = .ok (.istore_n 2, 1) := by decide +kernel
theorem dX10_count_39 : decode cX10_count 39 = .ok (.iload_n 3, 1) := by decide +kernel
theorem dX10_count_40 : decode cX10_count 40 = .ok (.aload_n 0, 1) := by decide +kernel
theorem dX10_count_41 : decode cX10_count 41 = .ok (.getfield 108, 3) := by decide +kernel
theorem dX10_count_44 : decode cX10_count 44 = .ok (.iload 4, 2) := by decide +kernel
theorem dX10_count_46 : decode cX10_count 46 = .ok (.iaload, 1) := by decide +kernel
theorem dX10_count_47 : decode cX10_count 47 = .ok (.ifCond .lt 7, 3) := by decide +kernel
theorem dX10_count_50 : decode cX10_count 50 = .ok (.iconst 1, 1) := by decide +kernel
theorem dX10_count_51 : decode cX10_count 51 = .ok (.goto 4, 3) := by decide +kernel
theorem dX10_count_54 : decode cX10_count 54 = .ok (.iconst 0, 1) := by decide +kernel
theorem dX10_count_55 : decode cX10_count 55 = .ok (.iadd, 1) := by decide +kernel
theorem dX10_count_56 : decode cX10_count 56 = .ok (.istore_n 3, 1) := by decide +kernel
theorem dX10_count_57 : decode cX10_count 57 = .ok (.iinc 4 1, 3) := by decide +kernel
theorem dX10_count_60 : decode cX10_count 60 = .ok (.goto (-48), 3) := by decide +kernel
theorem dX10_count_63 : decode cX10_count 63 = .ok (.iload_n 1, 1) := by decide +kernel
theorem dX10_count_64 : decode cX10_count 64 = .ok (.tableswitch 105 0 9 #[56, 61, 66, 71, 76, 81, 86, 88, 98, 103], 56) := by decide +kernel
theorem dX10_count_120 : decode cX10_count 120 = .ok (.aload_n 0, 1) := by decide +kernel
theorem dX10_count_121 : decode cX10_count 121 = .ok (.getfield 258, 3) := by decide +kernel
theorem dX10_count_124 : decode cX10_count 124 = .ok (.ireturn, 1) := by decide +kernel
theorem dX10_count_125 : decode cX10_count 125 = .ok (.aload_n 0, 1) := by decide +kernel
theorem dX10_count_126 : decode cX10_count 126 = .ok (.getfield 255, 3) := by decide +kernel
theorem dX10_count_129 : decode cX10_count 129 = .ok (.ireturn, 1) := by decide +kernel
theorem dX10_count_130 : decode cX10_count 130 = .ok (.aload_n 0, 1) := by decide +kernel
theorem dX10_count_131 : decode cX10_count 131 = .ok (.getfield 308, 3) := by decide +kernel
theorem dX10_count_134 : decode cX10_count 134 = .ok (.ireturn, 1) := by decide +kernel
theorem dX10_count_135 : decode cX10_count 135 = .ok (.aload_n 0, 1) := by decide +kernel
theorem dX10_count_136 : decode cX10_count 136 = .ok (.getfield 286, 3) := by decide +kernel
theorem dX10_count_139 : decode cX10_count 139 = .ok (.ireturn, 1) := by decide +kernel
theorem dX10_count_140 : decode cX10_count 140 = .ok (.aload_n 0, 1) := by decide +kernel
theorem dX10_count_141 : decode cX10_count 141 = .ok (.getfield 293, 3) := by decide +kernel
theorem dX10_count_144 : decode cX10_count 144 = .ok (.ireturn, 1) := by decide +kernel
theorem dX10_count_145 : decode cX10_count 145 = .ok (.aload_n 0, 1) := by decide +kernel
theorem dX10_count_146 : decode cX10_count 146 = .ok (.getfield 342, 3) := by decide +kernel
theorem dX10_count_149 : decode cX10_count 149 = .ok (.ireturn, 1) := by decide +kernel
theorem dX10_count_150 : decode cX10_count 150 = .ok (.iload_n 2, 1) := by decide +kernel
theorem dX10_count_151 : decode cX10_count 151 = .ok (.ireturn, 1) := by decide +kernel
theorem dX10_count_152 : decode cX10_count 152 = .ok (.aload_n 0, 1) := by decide +kernel
theorem dX10_count_153 : decode cX10_count 153 = .ok (.getfield 59, 3) := by decide +kernel
theorem dX10_count_156 : decode cX10_count 156 = .ok (.aload_n 0, 1) := by decide +kernel
theorem dX10_count_157 : decode cX10_count 157 = .ok (.getfield 219, 3) := by decide +kernel
theorem dX10_count_160 : decode cX10_count 160 = .ok (.iaload, 1) := by decide +kernel
theorem dX10_count_161 : decode cX10_count 161 = .ok (.ireturn, 1) := by decide +kernel
theorem dX10_count_162 : decode cX10_count 162 = .ok (.aload_n 0, 1) := by decide +kernel
theorem dX10_count_163 : decode cX10_count 163 = .ok (.getfield 11, 3) := by decide +kernel
theorem dX10_count_166 : decode cX10_count 166 = .ok (.ireturn, 1) := by decide +kernel
theorem dX10_count_167 : decode cX10_count 167 = .ok (.iload_n 3, 1) := by decide +kernel
theorem dX10_count_168 : decode cX10_count 168 = .ok (.ireturn, 1) := by decide +kernel
theorem dX10_count_169 : decode cX10_count 169 = .ok (.iconst (-1), 1) := by decide +kernel
theorem dX10_count_170 : decode cX10_count 170 = .ok (.ireturn, 1) := by decide +kernel
