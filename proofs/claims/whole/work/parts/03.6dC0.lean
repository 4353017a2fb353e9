theorem dX10_thrown_0 : decode cX10_thrown 0 = .ok (.aload_n 0, 1) := by decide +kernel
theorem dX10_thrown_1 : decode cX10_thrown 1 = .ok (.getfield 1, 3) := by decide +kernel
theorem dX10_thrown_4 : decode cX10_thrown 4 = .ok (.ireturn, 1) := by decide +kernel
theorem dX10_feed_0 : decode cX10_feed 0 = .ok (.aload_n 0, 1) := by decide +kernel
theorem dX10_feed_1 : decode cX10_feed 1 = .ok (.iconst 0, 1) := by decide +kernel
theorem dX10_feed_2 : decode cX10_feed 2 = .ok (.putfield 1, 3) := by decide +kernel
theorem dX10_feed_5 : decode cX10_feed 5 = .ok (.aload_n 0, 1) := by decide +kernel
theorem dX10_feed_6 : decode cX10_feed 6 = .ok (.lload_n 1, 1) := by decide +kernel
theorem dX10_feed_7 : decode cX10_feed 7 = .ok (.invokevirtual 7, 3) := by decide +kernel
theorem dX10_feed_10 : decode cX10_feed 10 = .ok (.aload_n 0, 1) := by decide +kernel
theorem dX10_feed_11 : decode cX10_feed 11 = .ok (.lload_n 3, 1) := by decide +kernel
theorem dX10_feed_12 : decode cX10_feed 12 = .ok (.invokevirtual 7, 3) := by decide +kernel
theorem dX10_feed_15 : decode cX10_feed 15 = .ok (.aload_n 0, 1) := by decide +kernel
theorem dX10_feed_16 : decode cX10_feed 16 = .ok (.lload 5, 2) := by decide +kernel
theorem dX10_feed_18 : decode cX10_feed 18 = .ok (.invokevirtual 7, 3) := by decide +kernel
theorem dX10_feed_21 : decode cX10_feed 21 = .ok (.aload_n 0, 1) := by decide +kernel
theorem dX10_feed_22 : decode cX10_feed 22 = .ok (.getfield 11, 3) := by decide +kernel
theorem dX10_feed_25 : decode cX10_feed 25 = .ok (.ireturn, 1) := by decide +kernel
theorem dX10_lay_0 : decode cX10_lay 0 = .ok (.bipush 56, 2) := by decide +kernel
theorem dX10_lay_2 : decode cX10_lay 2 = .ok (.istore_n 3, 1) := by decide +kernel
theorem dX10_lay_3 : decode cX10_lay 3 = .ok (.iload_n 3, 1) := by decide +kernel
theorem dX10_lay_4 : decode cX10_lay 4 = .ok (.ifCond .lt 71, 3) := by decide +kernel
theorem dX10_lay_7 : decode cX10_lay 7 = .ok (.lload_n 1, 1) := by decide +kernel
theorem dX10_lay_8 : decode cX10_lay 8 = .ok (.iload_n 3, 1) := by decide +kernel
theorem dX10_lay_9 : decode cX10_lay 9 = .ok (.lshr, 1) := by decide +kernel
theorem dX10_lay_10 : decode cX10_lay 10 = .ok (.l2i, 1) := by decide +kernel
theorem dX10_lay_11 : decode cX10_lay 11 = .ok (.sipush 255, 3) := by decide +kernel
theorem dX10_lay_14 : decode cX10_lay 14 = .ok (.iand, 1) := by decide +kernel
theorem dX10_lay_15 : decode cX10_lay 15 = .ok (.istore 4, 2) := by decide +kernel
theorem dX10_lay_17 : decode cX10_lay 17 = .ok (.iload 4, 2) := by decide +kernel
theorem dX10_lay_19 : decode cX10_lay 19 = .ok (.bipush 10, 2) := by decide +kernel
theorem dX10_lay_21 : decode cX10_lay 21 = .ok (.if_icmp .eq 17, 3) := by decide +kernel
theorem dX10_lay_24 : decode cX10_lay 24 = .ok (.iload 4, 2) := by decide +kernel
theorem dX10_lay_26 : decode cX10_lay 26 = .ok (.bipush 32, 2) := by decide +kernel
theorem dX10_lay_28 : decode cX10_lay 28 = .ok (.if_icmp .lt 41, 3) := by decide +kernel
theorem dX10_lay_31 : decode cX10_lay 31 = .ok (.iload 4, 2) := by decide +kernel
theorem dX10_lay_33 : decode cX10_lay 33 = .ok (.bipush 126, 2) := by decide +kernel
theorem dX10_lay_35 : decode cX10_lay 35 = .ok (.if_icmp .gt 34, 3) := by decide +kernel
theorem dX10_lay_38 : decode cX10_lay 38 = .ok (.aload_n 0, 1) := by decide +kernel
theorem dX10_lay_39 : decode cX10_lay 39 = .ok (.getfield 11, 3) := by decide +kernel
theorem dX10_lay_42 : decode cX10_lay 42 = .ok (.sipush 600, 3) := by decide +kernel
theorem dX10_lay_45 : decode cX10_lay 45 = .ok (.if_icmp .ge 24, 3) := by decide +kernel
theorem dX10_lay_48 : decode cX10_lay 48 = .ok (.aload_n 0, 1) := by decide +kernel
theorem dX10_lay_49 : decode cX10_lay 49 = .ok (.getfield 14, 3) := by decide +kernel
theorem dX10_lay_52 : decode cX10_lay 52 = .ok (.aload_n 0, 1) := by decide +kernel
theorem dX10_lay_53 : decode cX10_lay 53 = .ok (.getfield 11, 3) := by decide +kernel
theorem dX10_lay_56 : decode cX10_lay 56 = .ok (.iload 4, 2) := by decide +kernel
theorem dX10_lay_58 : decode cX10_lay 58 = .ok (.iastore, 1) := by decide +kernel
theorem dX10_lay_59 : decode cX10_lay 59 = .ok (.aload_n 0, 1) := by decide +kernel
theorem dX10_lay_60 : decode cX10_lay 60 = .ok (.dup, 1) := by decide +kernel
theorem dX10_lay_61 : decode cX10_lay 61 = .ok (.getfield 11, 3) := by decide +kernel
theorem dX10_lay_64 : decode cX10_lay 64 = .ok (.iconst 1, 1) := by decide +kernel
theorem dX10_lay_65 : decode cX10_lay 65 = .ok (.iadd, 1) := by decide +kernel
theorem dX10_lay_66 : decode cX10_lay 66 = .ok (.putfield 11, 3) := by decide +kernel
theorem dX10_lay_69 : decode cX10_lay 69 = .ok (.iinc 3 (-8), 3) := by decide +kernel
theorem dX10_lay_72 : decode cX10_lay 72 = .ok (.goto (-69), 3) := by decide +kernel
theorem dX10_lay_75 : decode cX10_lay 75 = .ok (.return_, 1) := by decide +kernel
theorem dX10_init_0 : decode cX10_init 0 = .ok (.aload_n 0, 1) := by decide +kernel
theorem dX10_init_1 : decode cX10_init 1 = .ok (.invokespecial 18, 3) := by decide +kernel
theorem dX10_init_4 : decode cX10_init 4 = .ok (.aload_n 0, 1) := by decide +kernel
theorem dX10_init_5 : decode cX10_init 5 = .ok (.sipush 600, 3) := by decide +kernel
theorem dX10_init_8 : decode cX10_init 8 = .ok (.newarray .int, 2) := by decide +kernel
theorem dX10_init_10 : decode cX10_init 10 = .ok (.putfield 14, 3) := by decide +kernel
theorem dX10_init_13 : decode cX10_init 13 = .ok (.aload_n 0, 1) := by decide +kernel
theorem dX10_init_14 : decode cX10_init 14 = .ok (.sipush 602, 3) := by decide +kernel
theorem dX10_init_17 : decode cX10_init 17 = .ok (.newarray .int, 2) := by decide +kernel
theorem dX10_init_19 : decode cX10_init 19 = .ok (.putfield 24, 3) := by decide +kernel
theorem dX10_init_22 : decode cX10_init 22 = .ok (.aload_n 0, 1) := by decide +kernel
theorem dX10_init_23 : decode cX10_init 23 = .ok (.sipush 602, 3) := by decide +kernel
theorem dX10_init_26 : decode cX10_init 26 = .ok (.newarray .int, 2) := by decide +kernel
theorem dX10_init_28 : decode cX10_init 28 = .ok (.putfield 27, 3) := by decide +kernel
theorem dX10_init_31 : decode cX10_init 31 = .ok (.aload_n 0, 1) := by decide +kernel
theorem dX10_init_32 : decode cX10_init 32 = .ok (.sipush 602, 3) := by decide +kernel
theorem dX10_init_35 : decode cX10_init 35 = .ok (.newarray .long, 2) := by decide +kernel
theorem dX10_init_37 : decode cX10_init 37 = .ok (.putfield 30, 3) := by decide +kernel
theorem dX10_init_40 : decode cX10_init 40 = .ok (.aload_n 0, 1) := by decide +kernel
theorem dX10_init_41 : decode cX10_init 41 = .ok (.bipush 11, 2) := by decide +kernel
theorem dX10_init_43 : decode cX10_init 43 = .ok (.newarray .long, 2) := by decide +kernel
theorem dX10_init_45 : decode cX10_init 45 = .ok (.dup, 1) := by decide +kernel
theorem dX10_init_46 : decode cX10_init 46 = .ok (.iconst 0, 1) := by decide +kernel
theorem dX10_init_47 : decode cX10_init 47 = .ok (.ldc2_w 34, 3) := by decide +kernel
theorem dX10_init_50 : decode cX10_init 50 = .ok (.lastore, 1) := by decide +kernel
theorem dX10_init_51 : decode cX10_init 51 = .ok (.dup, 1) := by decide +kernel
theorem dX10_init_52 : decode cX10_init 52 = .ok (.iconst 1, 1) := by decide +kernel
theorem dX10_init_53 : decode cX10_init 53 = .ok (.ldc2_w 36, 3) := by decide +kernel
theorem dX10_init_56 : decode cX10_init 56 = .ok (.lastore, 1) := by decide +kernel
theorem dX10_init_57 : decode cX10_init 57 = .ok (.dup, 1) := by decide +kernel
theorem dX10_init_58 : decode cX10_init 58 = .ok (.iconst 2, 1) := by decide +kernel
theorem dX10_init_59 : decode cX10_init 59 = .ok (.ldc2_w 38, 3) := by decide +kernel
theorem dX10_init_62 : decode cX10_init 62 = .ok (.lastore, 1) := by decide +kernel
theorem dX10_init_63 : decode cX10_init 63 = .ok (.dup, 1) := by decide +kernel
theorem dX10_init_64 : decode cX10_init 64 = .ok (.iconst 3, 1) := by decide +kernel
theorem dX10_init_65 : decode cX10_init 65 = .ok (.ldc2_w 40, 3) := by decide +kernel
theorem dX10_init_68 : decode cX10_init 68 = .ok (.lastore, 1) := by decide +kernel
theorem dX10_init_69 : decode cX10_init 69 = .ok (.dup, 1) := by decide +kernel
theorem dX10_init_70 : decode cX10_init 70 = .ok (.iconst 4, 1) := by decide +kernel
theorem dX10_init_71 : decode cX10_init 71 = .ok (.ldc2_w 42, 3) := by decide +kernel
theorem dX10_init_74 : decode cX10_init 74 = .ok (.lastore, 1) := by decide +kernel
theorem dX10_init_75 : decode cX10_init 75 = .ok (.dup, 1) := by decide +kernel
theorem dX10_init_76 : decode cX10_init 76 = .ok (.iconst 5, 1) := by decide +kernel
theorem dX10_init_77 : decode cX10_init 77 = .ok (.ldc2_w 44, 3) := by decide +kernel
theorem dX10_init_80 : decode cX10_init 80 = .ok (.lastore, 1) := by decide +kernel
theorem dX10_init_81 : decode cX10_init 81 = .ok (.dup, 1) := by decide +kernel
theorem dX10_init_82 : decode cX10_init 82 = .ok (.bipush 6, 2) := by decide +kernel
theorem dX10_init_84 : decode cX10_init 84 = .ok (.ldc2_w 46, 3) := by decide +kernel
theorem dX10_init_87 : decode cX10_init 87 = .ok (.lastore, 1) := by decide +kernel
theorem dX10_init_88 : decode cX10_init 88 = .ok (.dup, 1) := by decide +kernel
theorem dX10_init_89 : decode cX10_init 89 = .ok (.bipush 7, 2) := by decide +kernel
theorem dX10_init_91 : decode cX10_init 91 = .ok (.ldc2_w 48, 3) := by decide +kernel
theorem dX10_init_94 : decode cX10_init 94 = .ok (.lastore, 1) := by decide +kernel
theorem dX10_init_95 : decode cX10_init 95 = .ok (.dup, 1) := by decide +kernel
theorem dX10_init_96 : decode cX10_init 96 = .ok (.bipush 8, 2) := by decide +kernel
theorem dX10_init_98 : decode cX10_init 98 = .ok (.ldc2_w 50, 3) := by decide +kernel
theorem dX10_init_101 : decode cX10_init 101 = .ok (.lastore, 1) := by decide +kernel
theorem dX10_init_102 : decode cX10_init 102 = .ok (.dup, 1) := by decide +kernel
theorem dX10_init_103 : decode cX10_init 103 = .ok (.bipush 9, 2) := by decide +kernel
theorem dX10_init_105 : decode cX10_init 105 = .ok (.ldc2_w 52, 3) := by decide +kernel
theorem dX10_init_108 : decode cX10_init 108 = .ok (.lastore, 1) := by decide +kernel
theorem dX10_init_109 : decode cX10_init 109 = .ok (.dup, 1) := by decide +kernel
theorem dX10_init_110 : decode cX10_init 110 = .ok (.bipush 10, 2) := by decide +kernel
theorem dX10_init_112 : decode cX10_init 112 = .ok (.ldc2_w 54, 3) := by decide +kernel
theorem dX10_init_115 : decode cX10_init 115 = .ok (.lastore, 1) := by decide +kernel
theorem dX10_init_116 : decode cX10_init 116 = .ok (.putfield 56, 3) := by decide +kernel
theorem dX10_init_119 : decode cX10_init 119 = .ok (.aload_n 0, 1) := by decide +kernel
theorem dX10_init_120 : decode cX10_init 120 = .ok (.iconst 2, 1) := by decide +kernel
theorem dX10_init_121 : decode cX10_init 121 = .ok (.newarray .int, 2) := by decide +kernel
theorem dX10_init_123 : decode cX10_init 123 = .ok (.putfield 59, 3) := by decide +kernel
theorem dX10_init_126 : decode cX10_init 126 = .ok (.aload_n 0, 1) := by decide +kernel
theorem dX10_init_127 : decode cX10_init 127 = .ok (.bipush 32, 2) := by decide +kernel
theorem dX10_init_129 : decode cX10_init 129 = .ok (.newarray .boolean, 2) := by decide +kernel
theorem dX10_init_131 : decode cX10_init 131 = .ok (.putfield 62, 3) := by decide +kernel
theorem dX10_init_134 : decode cX10_init 134 = .ok (.aload_n 0, 1) := by decide +kernel
theorem dX10_init_135 : decode cX10_init 135 = .ok (.bipush 32, 2) := by decide +kernel
theorem dX10_init_137 : decode cX10_init 137 = .ok (.newarray .int, 2) := by decide +kernel
theorem dX10_init_139 : decode cX10_init 139 = .ok (.putfield 66, 3) := by decide +kernel
theorem dX10_init_142 : decode cX10_init 142 = .ok (.aload_n 0, 1) := by decide +kernel
theorem dX10_init_143 : decode cX10_init 143 = .ok (.sipush 1320, 3) := by decide +kernel
theorem dX10_init_146 : decode cX10_init 146 = .ok (.newarray .int, 2) := by decide +kernel
theorem dX10_init_148 : decode cX10_init 148 = .ok (.putfield 69, 3) := by decide +kernel
theorem dX10_init_151 : decode cX10_init 151 = .ok (.aload_n 0, 1) := by decide +kernel
theorem dX10_init_152 : decode cX10_init 152 = .ok (.sipush 1320, 3) := by decide +kernel
theorem dX10_init_155 : decode cX10_init 155 = .ok (.newarray .int, 2) := by decide +kernel
theorem dX10_init_157 : decode cX10_init 157 = .ok (.putfield 72, 3) := by decide +kernel
theorem dX10_init_160 : decode cX10_init 160 = .ok (.aload_n 0, 1) := by decide +kernel
theorem dX10_init_161 : decode cX10_init 161 = .ok (.bipush 7, 2) := by decide +kernel
theorem dX10_init_163 : decode cX10_init 163 = .ok (.newarray .int, 2) := by decide +kernel
theorem dX10_init_165 : decode cX10_init 165 = .ok (.putfield 75, 3) := by decide +kernel
theorem dX10_init_168 : decode cX10_init 168 = .ok (.aload_n 0, 1) := by decide +kernel
theorem dX10_init_169 : decode cX10_init 169 = .ok (.bipush 7, 2) := by decide +kernel
theorem dX10_init_171 : decode cX10_init 171 = .ok (.newarray .int, 2) := by decide +kernel
theorem dX10_init_173 : decode cX10_init 173 = .ok (.putfield 78, 3) := by decide +kernel
theorem dX10_init_176 : decode cX10_init 176 = .ok (.aload_n 0, 1) := by decide +kernel
theorem dX10_init_177 : decode cX10_init 177 = .ok (.bipush 7, 2) := by decide +kernel
theorem dX10_init_179 : decode cX10_init 179 = .ok (.newarray .int, 2) := by decide +kernel
theorem dX10_init_181 : decode cX10_init 181 = .ok (.putfield 81, 3) := by decide +kernel
theorem dX10_init_184 : decode cX10_init 184 = .ok (.aload_n 0, 1) := by decide +kernel
theorem dX10_init_185 : decode cX10_init 185 = .ok (.bipush 7, 2) := by decide +kernel
theorem dX10_init_187 : decode cX10_init 187 = .ok (.newarray .int, 2) := by decide +kernel
theorem dX10_init_189 : decode cX10_init 189 = .ok (.putfield 84, 3) := by decide +kernel
theorem dX10_init_192 : decode cX10_init 192 = .ok (.aload_n 0, 1) := by decide +kernel
theorem dX10_init_193 : decode cX10_init 193 = .ok (.sipush 660, 3) := by decide +kernel
theorem dX10_init_196 : decode cX10_init 196 = .ok (.newarray .int, 2) := by decide +kernel
theorem dX10_init_198 : decode cX10_init 198 = .ok (.putfield 87, 3) := by decide +kernel
theorem dX10_init_201 : decode cX10_init 201 = .ok (.aload_n 0, 1) := by decide +kernel
theorem dX10_init_202 : decode cX10_init 202 = .ok (.bipush 40, 2) := by decide +kernel
theorem dX10_init_204 : decode cX10_init 204 = .ok (.newarray .int, 2) := by decide +kernel
theorem dX10_init_206 : decode cX10_init 206 = .ok (.putfield 90, 3) := by decide +kernel
theorem dX10_init_209 : decode cX10_init 209 = .ok (.aload_n 0, 1) := by decide +kernel
theorem dX10_init_210 : decode cX10_init 210 = .ok (.bipush 40, 2) := by decide +kernel
theorem dX10_init_212 : decode cX10_init 212 = .ok (.newarray .int, 2) := by decide +kernel
theorem dX10_init_214 : decode cX10_init 214 = .ok (.putfield 93, 3) := by decide +kernel
theorem dX10_init_217 : decode cX10_init 217 = .ok (.aload_n 0, 1) := by decide +kernel
theorem dX10_init_218 : decode cX10_init 218 = .ok (.bipush 40, 2) := by decide +kernel
theorem dX10_init_220 : decode cX10_init 220 = .ok (.newarray .int, 2) := by decide +kernel
theorem dX10_init_222 : decode cX10_init 222 = .ok (.putfield 96, 3) := by decide +kernel
theorem dX10_init_225 : decode cX10_init 225 = .ok (.aload_n 0, 1) := by decide +kernel
theorem dX10_init_226 : decode cX10_init 226 = .ok (.bipush 40, 2) := by decide +kernel
theorem dX10_init_228 : decode cX10_init 228 = .ok (.newarray .int, 2) := by decide +kernel
theorem dX10_init_230 : decode cX10_init 230 = .ok (.putfield 99, 3) := by decide +kernel
theorem dX10_init_233 : decode cX10_init 233 = .ok (.aload_n 0, 1) := by decide +kernel
theorem dX10_init_234 : decode cX10_init 234 = .ok (.sipush 320, 3) := by decide +kernel
theorem dX10_init_237 : decode cX10_init 237 = .ok (.newarray .int, 2) := by decide +kernel
theorem dX10_init_239 : decode cX10_init 239 = .ok (.putfield 102, 3) := by decide +kernel
theorem dX10_init_242 : decode cX10_init 242 = .ok (.aload_n 0, 1) := by decide +kernel
theorem dX10_init_243 : decode cX10_init 243 = .ok (.sipush 160, 3) := by decide +kernel
theorem dX10_init_246 : decode cX10_init 246 = .ok (.newarray .int, 2) := by decide +kernel
theorem dX10_init_248 : decode cX10_init 248 = .ok (.putfield 105, 3) := by decide +kernel
theorem dX10_init_251 : decode cX10_init 251 = .ok (.aload_n 0, 1) := by decide +kernel
theorem dX10_init_252 : decode cX10_init 252 = .ok (.bipush 40, 2) := by decide +kernel
theorem dX10_init_254 : decode cX10_init 254 = .ok (.newarray .int, 2) := by decide +kernel
theorem dX10_init_256 : decode cX10_init 256 = .ok (.putfield 108, 3) := by decide +kernel
theorem dX10_init_259 : decode cX10_init 259 = .ok (.aload_n 0, 1) := by decide +kernel
theorem dX10_init_260 : decode cX10_init 260 = .ok (.bipush 40, 2) := by decide +kernel
theorem dX10_init_262 : decode cX10_init 262 = .ok (.newarray .int, 2) := by decide +kernel
theorem dX10_init_264 : decode cX10_init 264 = .ok (.putfield 111, 3) := by decide +kernel
theorem dX10_init_267 : decode cX10_init 267 = .ok (.aload_n 0, 1) := by decide +kernel
theorem dX10_init_268 : decode cX10_init 268 = .ok (.bipush 40, 2) := by decide +kernel
theorem dX10_init_270 : decode cX10_init 270 = .ok (.newarray .int, 2) := by decide +kernel
theorem dX10_init_272 : decode cX10_init 272 = .ok (.putfield 114, 3) := by decide +kernel
theorem dX10_init_275 : decode cX10_init 275 = .ok (.aload_n 0, 1) := by decide +kernel
theorem dX10_init_276 : decode cX10_init 276 = .ok (.bipush 40, 2) := by decide +kernel
theorem dX10_init_278 : decode cX10_init 278 = .ok (.newarray .boolean, 2) := by decide +kernel
theorem dX10_init_280 : decode cX10_init 280 = .ok (.putfield 117, 3) := by decide +kernel
theorem dX10_init_283 : decode cX10_init 283 = .ok (.aload_n 0, 1) := by decide +kernel
theorem dX10_init_284 : decode cX10_init 284 = .ok (.bipush 40, 2) := by decide +kernel
theorem dX10_init_286 : decode cX10_init 286 = .ok (.newarray .int, 2) := by decide +kernel
theorem dX10_init_288 : decode cX10_init 288 = .ok (.putfield 120, 3) := by decide +kernel
theorem dX10_init_291 : decode cX10_init 291 = .ok (.aload_n 0, 1) := by decide +kernel
theorem dX10_init_292 : decode cX10_init 292 = .ok (.sipush 300, 3) := by decide +kernel
theorem dX10_init_295 : decode cX10_init 295 = .ok (.newarray .int, 2) := by decide +kernel
theorem dX10_init_297 : decode cX10_init 297 = .ok (.putfield 123, 3) := by decide +kernel
theorem dX10_init_300 : decode cX10_init 300 = .ok (.aload_n 0, 1) := by decide +kernel
theorem dX10_init_301 : decode cX10_init 301 = .ok (.sipush 300, 3) := by decide +kernel
theorem dX10_init_304 : decode cX10_init 304 = .ok (.newarray .int, 2) := by decide +kernel
theorem dX10_init_306 : decode cX10_init 306 = .ok (.putfield 126, 3) := by decide +kernel
theorem dX10_init_309 : decode cX10_init 309 = .ok (.aload_n 0, 1) := by decide +kernel
theorem dX10_init_310 : decode cX10_init 310 = .ok (.sipush 300, 3) := by decide +kernel
theorem dX10_init_313 : decode cX10_init 313 = .ok (.newarray .int, 2) := by decide +kernel
theorem dX10_init_315 : decode cX10_init 315 = .ok (.putfield 129, 3) := by decide +kernel
theorem dX10_init_318 : decode cX10_init 318 = .ok (.aload_n 0, 1) := by decide +kernel
theorem dX10_init_319 : decode cX10_init 319 = .ok (.bipush 100, 2) := by decide +kernel
theorem dX10_init_321 : decode cX10_init 321 = .ok (.newarray .int, 2) := by decide +kernel
theorem dX10_init_323 : decode cX10_init 323 = .ok (.putfield 132, 3) := by decide +kernel
theorem dX10_init_326 : decode cX10_init 326 = .ok (.aload_n 0, 1) := by decide +kernel
theorem dX10_init_327 : decode cX10_init 327 = .ok (.bipush 100, 2) := by decide +kernel
theorem dX10_init_329 : decode cX10_init 329 = .ok (.newarray .int, 2) := by decide +kernel
theorem dX10_init_331 : decode cX10_init 331 = .ok (.putfield 135, 3) := by decide +kernel
theorem dX10_init_334 : decode cX10_init 334 = .ok (.aload_n 0, 1) := by decide +kernel
theorem dX10_init_335 : decode cX10_init 335 = .ok (.bipush 100, 2) := by decide +kernel
theorem dX10_init_337 : decode cX10_init 337 = .ok (.newarray .int, 2) := by decide +kernel
theorem dX10_init_339 : decode cX10_init 339 = .ok (.putfield 138, 3) := by decide +kernel
theorem dX10_init_342 : decode cX10_init 342 = .ok (.aload_n 0, 1) := by decide +kernel
theorem dX10_init_343 : decode cX10_init 343 = .ok (.bipush 8, 2) := by decide +kernel
theorem dX10_init_345 : decode cX10_init 345 = .ok (.newarray .int, 2) := by decide +kernel
theorem dX10_init_347 : decode cX10_init 347 = .ok (.putfield 141, 3) := by decide +kernel
theorem dX10_init_350 : decode cX10_init 350 = .ok (.aload_n 0, 1) := by decide +kernel
theorem dX10_init_351 : decode cX10_init 351 = .ok (.bipush 8, 2) := by decide +kernel
theorem dX10_init_353 : decode cX10_init 353 = .ok (.newarray .int, 2) := by decide +kernel
theorem dX10_init_355 : decode cX10_init 355 = .ok (.putfield 144, 3) := by decide +kernel
theorem dX10_init_358 : decode cX10_init 358 = .ok (.aload_n 0, 1) := by decide +kernel
theorem dX10_init_359 : decode cX10_init 359 = .ok (.bipush 8, 2) := by decide +kernel
theorem dX10_init_361 : decode cX10_init 361 = .ok (.newarray .int, 2) := by decide +kernel
theorem dX10_init_363 : decode cX10_init 363 = .ok (.putfield 147, 3) := by decide +kernel
theorem dX10_init_366 : decode cX10_init 366 = .ok (.aload_n 0, 1) := by decide +kernel
theorem dX10_init_367 : decode cX10_init 367 = .ok (.bipush 40, 2) := by decide +kernel
theorem dX10_init_369 : decode cX10_init 369 = .ok (.newarray .int, 2) := by decide +kernel
theorem dX10_init_371 : decode cX10_init 371 = .ok (.putfield 150, 3) := by decide +kernel
theorem dX10_init_374 : decode cX10_init 374 = .ok (.aload_n 0, 1) := by decide +kernel
theorem dX10_init_375 : decode cX10_init 375 = .ok (.bipush 8, 2) := by decide +kernel
theorem dX10_init_377 : decode cX10_init 377 = .ok (.newarray .int, 2) := by decide +kernel
theorem dX10_init_379 : decode cX10_init 379 = .ok (.putfield 153, 3) := by decide +kernel
theorem dX10_init_382 : decode cX10_init 382 = .ok (.aload_n 0, 1) := by decide +kernel
theorem dX10_init_383 : decode cX10_init 383 = .ok (.bipush 8, 2) := by decide +kernel
theorem dX10_init_385 : decode cX10_init 385 = .ok (.newarray .int, 2) := by decide +kernel
theorem dX10_init_387 : decode cX10_init 387 = .ok (.putfield 156, 3) := by decide +kernel
theorem dX10_init_390 : decode cX10_init 390 = .ok (.aload_n 0, 1) := by decide +kernel
theorem dX10_init_391 : decode cX10_init 391 = .ok (.bipush 8, 2) := by decide +kernel
theorem dX10_init_393 : decode cX10_init 393 = .ok (.newarray .int, 2) := by decide +kernel
theorem dX10_init_395 : decode cX10_init 395 = .ok (.putfield 159, 3) := by decide +kernel
theorem dX10_init_398 : decode cX10_init 398 = .ok (.aload_n 0, 1) := by decide +kernel
theorem dX10_init_399 : decode cX10_init 399 = .ok (.bipush 8, 2) := by decide +kernel
theorem dX10_init_401 : decode cX10_init 401 = .ok (.newarray .int, 2) := by decide +kernel
theorem dX10_init_403 : decode cX10_init 403 = .ok (.putfield 162, 3) := by decide +kernel
theorem dX10_init_406 : decode cX10_init 406 = .ok (.aload_n 0, 1) := by decide +kernel
theorem dX10_init_407 : decode cX10_init 407 = .ok (.sipush 400, 3) := by decide +kernel
theorem dX10_init_410 : decode cX10_init 410 = .ok (.newarray .int, 2) := by decide +kernel
theorem dX10_init_412 : decode cX10_init 412 = .ok (.putfield 165, 3) := by decide +kernel
theorem dX10_init_415 : decode cX10_init 415 = .ok (.iconst 0, 1) := by decide +kernel
theorem dX10_init_416 : decode cX10_init 416 = .ok (.istore_n 1, 1) := by decide +kernel
theorem dX10_init_417 : decode cX10_init 417 = .ok (.iload_n 1, 1) := by decide +kernel
theorem dX10_init_418 : decode cX10_init 418 = .ok (.bipush 40, 2) := by decide +kernel
theorem dX10_init_420 : decode cX10_init 420 = .ok (.if_icmp .ge 23, 3) := by decide +kernel
theorem dX10_init_423 : decode cX10_init 423 = .ok (.aload_n 0, 1) := by decide +kernel
theorem dX10_init_424 : decode cX10_init 424 = .ok (.getfield 108, 3) := by decide +kernel
theorem dX10_init_427 : decode cX10_init 427 = .ok (.iload_n 1, 1) := by decide +kernel
theorem dX10_init_428 : decode cX10_init 428 = .ok (.iconst (-1), 1) := by decide +kernel
theorem dX10_init_429 : decode cX10_init 429 = .ok (.iastore, 1) := by decide +kernel
theorem dX10_init_430 : decode cX10_init 430 = .ok (.aload_n 0, 1) := by decide +kernel
theorem dX10_init_431 : decode cX10_init 431 = .ok (.getfield 111, 3) := by decide +kernel
theorem dX10_init_434 : decode cX10_init 434 = .ok (.iload_n 1, 1) := by decide +kernel
theorem dX10_init_435 : decode cX10_init 435 = .ok (.iconst (-1), 1) := by decide +kernel
theorem dX10_init_436 : decode cX10_init 436 = .ok (.iastore, 1) := by decide +kernel
theorem dX10_init_437 : decode cX10_init 437 = .ok (.iinc 1 1, 3) := by decide +kernel
theorem dX10_init_440 : decode cX10_init 440 = .ok (.goto (-23), 3) := by decide +kernel
theorem dX10_init_443 : decode cX10_init 443 = .ok (.return_, 1) := by decide +kernel
theorem dX10_isLetter_0 : decode cX10_isLetter 0 = .ok (.iload_n 0, 1) := by decide +kernel
theorem dX10_isLetter_1 : decode cX10_isLetter 1 = .ok (.bipush 97, 2) := by decide +kernel
theorem dX10_isLetter_3 : decode cX10_isLetter 3 = .ok (.if_icmp .lt 13, 3) := by decide +kernel
theorem dX10_isLetter_6 : decode cX10_isLetter 6 = .ok (.iload_n 0, 1) := by decide +kernel
theorem dX10_isLetter_7 : decode cX10_isLetter 7 = .ok (.bipush 122, 2) := by decide +kernel
theorem dX10_isLetter_9 : decode cX10_isLetter 9 = .ok (.if_icmp .gt 7, 3) := by decide +kernel
theorem dX10_isLetter_12 : decode cX10_isLetter 12 = .ok (.iconst 1, 1) := by decide +kernel
theorem dX10_isLetter_13 : decode cX10_isLetter 13 = .ok (.goto 4, 3) := by decide +kernel
theorem dX10_isLetter_16 : decode cX10_isLetter 16 = .ok (.iconst 0, 1) := by decide +kernel
theorem dX10_isLetter_17 : decode cX10_isLetter 17 = .ok (.ireturn, 1) := by decide +kernel
theorem dX10_isDigit_0 : decode cX10_isDigit 0 = .ok (.iload_n 0, 1) := by decide +kernel
theorem dX10_isDigit_1 : decode cX10_isDigit 1 = .ok (.bipush 48, 2) := by decide +kernel
theorem dX10_isDigit_3 : decode cX10_isDigit 3 = .ok (.if_icmp .lt 13, 3) := by decide +kernel
theorem dX10_isDigit_6 : decode cX10_isDigit 6 = .ok (.iload_n 0, 1) := by decide +kernel
theorem dX10_isDigit_7 : decode cX10_isDigit 7 = .ok (.bipush 57, 2) := by decide +kernel
theorem dX10_isDigit_9 : decode cX10_isDigit 9 = .ok (.if_icmp .gt 7, 3) := by decide +kernel
theorem dX10_isDigit_12 : decode cX10_isDigit 12 = .ok (.iconst 1, 1) := by decide +kernel
theorem dX10_isDigit_13 : decode cX10_isDigit 13 = .ok (.goto 4, 3) := by decide +kernel
theorem dX10_isDigit_16 : decode cX10_isDigit 16 = .ok (.iconst 0, 1) := by decide +kernel
theorem dX10_isDigit_17 : decode cX10_isDigit 17 = .ok (.ireturn, 1) := by decide +kernel
theorem dX10_rank_0 : decode cX10_rank 0 = .ok (.iload_n 0, 1) := by decide +kernel
theorem dX10_rank_1 : decode cX10_rank 1 = .ok (.invokestatic 168, 3) := by decide +kernel
theorem dX10_rank_4 : decode cX10_rank 4 = .ok (.ifCond .eq 10, 3) := by decide +kernel
theorem dX10_rank_7 : decode cX10_rank 7 = .ok (.iload_n 0, 1) := by decide +kernel
theorem dX10_rank_8 : decode cX10_rank 8 = .ok (.bipush 96, 2) := by decide +kernel
theorem dX10_rank_10 : decode cX10_rank 10 = .ok (.isub, 1) := by decide +kernel
theorem dX10_rank_11 : decode cX10_rank 11 = .ok (.goto 7, 3) := by decide +kernel
theorem dX10_rank_14 : decode cX10_rank 14 = .ok (.iload_n 0, 1) := by decide +kernel
theorem dX10_rank_15 : decode cX10_rank 15 = .ok (.bipush 21, 2) := by decide +kernel
theorem dX10_rank_17 : decode cX10_rank 17 = .ok (.isub, 1) := by decide +kernel
theorem dX10_rank_18 : decode cX10_rank 18 = .ok (.ireturn, 1) := by decide +kernel
theorem dX10_isSignOf_0 : decode cX10_isSignOf 0 = .ok (.iload_n 0, 1) := by decide +kernel
theorem dX10_isSignOf_1 : decode cX10_isSignOf 1 = .ok (.bipush 40, 2) := by decide +kernel
theorem dX10_isSignOf_3 : decode cX10_isSignOf 3 = .ok (.if_icmp .eq 39, 3) := by decide +kernel
theorem dX10_isSignOf_6 : decode cX10_isSignOf 6 = .ok (.iload_n 0, 1) := by decide +kernel
theorem dX10_isSignOf_7 : decode cX10_isSignOf 7 = .ok (.bipush 41, 2) := by decide +kernel
theorem dX10_isSignOf_9 : decode cX10_isSignOf 9 = .ok (.if_icmp .eq 33, 3) := by decide +kernel
theorem dX10_isSignOf_12 : decode cX10_isSignOf 12 = .ok (.iload_n 0, 1) := by decide +kernel
theorem dX10_isSignOf_13 : decode cX10_isSignOf 13 = .ok (.bipush 59, 2) := by decide +kernel
theorem dX10_isSignOf_15 : decode cX10_isSignOf 15 = .ok (.if_icmp .eq 27, 3) := by decide +kernel
theorem dX10_isSignOf_18 : decode cX10_isSignOf 18 = .ok (.iload_n 0, 1) := by decide +kernel
theorem dX10_isSignOf_19 : decode cX10_isSignOf 19 = .ok (.bipush 61, 2) := by decide +kernel
theorem dX10_isSignOf_21 : decode cX10_isSignOf 21 = .ok (.if_icmp .eq 21, 3) := by decide +kernel
theorem dX10_isSignOf_24 : decode cX10_isSignOf 24 = .ok (.iload_n 0, 1) := by decide +kernel
theorem dX10_isSignOf_25 : decode cX10_isSignOf 25 = .ok (.bipush 60, 2) := by decide +kernel
theorem dX10_isSignOf_27 : decode cX10_isSignOf 27 = .ok (.if_icmp .eq 15, 3) := by decide +kernel
theorem dX10_isSignOf_30 : decode cX10_isSignOf 30 = .ok (.iload_n 0, 1) := by decide +kernel
theorem dX10_isSignOf_31 : decode cX10_isSignOf 31 = .ok (.bipush 43, 2) := by decide +kernel
theorem dX10_isSignOf_33 : decode cX10_isSignOf 33 = .ok (.if_icmp .eq 9, 3) := by decide +kernel
theorem dX10_isSignOf_36 : decode cX10_isSignOf 36 = .ok (.iload_n 0, 1) := by decide +kernel
theorem dX10_isSignOf_37 : decode cX10_isSignOf 37 = .ok (.bipush 45, 2) := by decide +kernel
theorem dX10_isSignOf_39 : decode cX10_isSignOf 39 = .ok (.if_icmp .ne 7, 3) := by decide +kernel
theorem dX10_isSignOf_42 : decode cX10_isSignOf 42 = .ok (.iconst 1, 1) := by decide +kernel
theorem dX10_isSignOf_43 : decode cX10_isSignOf 43 = .ok (.goto 4, 3) := by decide +kernel
theorem dX10_isSignOf_46 : decode cX10_isSignOf 46 = .ok (.iconst 0, 1) := by decide +kernel
theorem dX10_isSignOf_47 : decode cX10_isSignOf 47 = .ok (.ireturn, 1) := by decide +kernel
theorem dX10_cutAll_0 : decode cX10_cutAll 0 = .ok (.aload_n 0, 1) := by decide +kernel
theorem dX10_cutAll_1 : decode cX10_cutAll 1 = .ok (.aload_n 0, 1) := by decide +kernel
theorem dX10_cutAll_2 : decode cX10_cutAll 2 = .ok (.getfield 11, 3) := by decide +kernel
theorem dX10_cutAll_5 : decode cX10_cutAll 5 = .ok (.putfield 172, 3) := by decide +kernel
theorem dX10_cutAll_8 : decode cX10_cutAll 8 = .ok (.aload_n 0, 1) := by decide +kernel
theorem dX10_cutAll_9 : decode cX10_cutAll 9 = .ok (.iconst 0, 1) := by decide +kernel
theorem dX10_cutAll_10 : decode cX10_cutAll 10 = .ok (.putfield 11, 3) := by decide +kernel
theorem dX10_cutAll_13 : decode cX10_cutAll 13 = .ok (.iconst 0, 1) := by decide +kernel
theorem dX10_cutAll_14 : decode cX10_cutAll 14 = .ok (.istore_n 1, 1) := by decide +kernel
theorem dX10_cutAll_15 : decode cX10_cutAll 15 = .ok (.iconst 0, 1) := by decide +kernel
theorem dX10_cutAll_16 : decode cX10_cutAll 16 = .ok (.istore_n 2, 1) := by decide +kernel
theorem dX10_cutAll_17 : decode cX10_cutAll 17 = .ok (.iload_n 2, 1) := by decide +kernel
theorem dX10_cutAll_18 : decode cX10_cutAll 18 = .ok (.aload_n 0, 1) := by decide +kernel
theorem dX10_cutAll_19 : decode cX10_cutAll 19 = .ok (.getfield 172, 3) := by decide +kernel
theorem dX10_cutAll_22 : decode cX10_cutAll 22 = .ok (.if_icmp .ge 257, 3) := by decide +kernel
theorem dX10_cutAll_25 : decode cX10_cutAll 25 = .ok (.aload_n 0, 1) := by decide +kernel
theorem dX10_cutAll_26 : decode cX10_cutAll 26 = .ok (.getfield 14, 3) := by decide +kernel
theorem dX10_cutAll_29 : decode cX10_cutAll 29 = .ok (.iload_n 2, 1) := by decide +kernel
theorem dX10_cutAll_30 : decode cX10_cutAll 30 = .ok (.iaload, 1) := by decide +kernel
theorem dX10_cutAll_31 : decode cX10_cutAll 31 = .ok (.istore_n 3, 1) := by decide +kernel
theorem dX10_cutAll_32 : decode cX10_cutAll 32 = .ok (.iload_n 3, 1) := by decide +kernel
theorem dX10_cutAll_33 : decode cX10_cutAll 33 = .ok (.bipush 10, 2) := by decide +kernel
theorem dX10_cutAll_35 : decode cX10_cutAll 35 = .ok (.if_icmp .eq 9, 3) := by decide +kernel
theorem dX10_cutAll_38 : decode cX10_cutAll 38 = .ok (.iload_n 3, 1) := by decide +kernel
theorem dX10_cutAll_39 : decode cX10_cutAll 39 = .ok (.bipush 32, 2) := by decide +kernel
theorem dX10_cutAll_41 : decode cX10_cutAll 41 = .ok (.if_icmp .ne 9, 3) := by decide +kernel
theorem dX10_cutAll_44 : decode cX10_cutAll 44 = .ok (.iinc 2 1, 3) := by decide +kernel
theorem dX10_cutAll_47 : decode cX10_cutAll 47 = .ok (.goto (-30), 3) := by decide +kernel
theorem dX10_cutAll_50 : decode cX10_cutAll 50 = .ok (.iload_n 2, 1) := by decide +kernel
theorem dX10_cutAll_51 : decode cX10_cutAll 51 = .ok (.istore 4, 2) := by decide +kernel
theorem dX10_cutAll_53 : decode cX10_cutAll 53 = .ok (.lconst 0, 1) := by decide +kernel
theorem dX10_cutAll_54 : decode cX10_cutAll 54 = .ok (.lstore 5, 2) := by decide +kernel
theorem dX10_cutAll_56 : decode cX10_cutAll 56 = .ok (.aload_n 0, 1) := by decide +kernel
theorem dX10_cutAll_57 : decode cX10_cutAll 57 = .ok (.getfield 27, 3) := by decide +kernel
theorem dX10_cutAll_60 : decode cX10_cutAll 60 = .ok (.iload_n 1, 1) := by decide +kernel
theorem dX10_cutAll_61 : decode cX10_cutAll 61 = .ok (.iload_n 2, 1) := by decide +kernel
theorem dX10_cutAll_62 : decode cX10_cutAll 62 = .ok (.iastore, 1) := by decide +kernel
theorem dX10_cutAll_63 : decode cX10_cutAll 63 = .ok (.iload_n 3, 1) := by decide +kernel
theorem dX10_cutAll_64 : decode cX10_cutAll 64 = .ok (.invokestatic 168, 3) := by decide +kernel
theorem dX10_cutAll_67 : decode cX10_cutAll 67 = .ok (.ifCond .eq 85, 3) := by decide +kernel
theorem dX10_cutAll_70 : decode cX10_cutAll 70 = .ok (.iload_n 2, 1) := by decide +kernel
theorem dX10_cutAll_71 : decode cX10_cutAll 71 = .ok (.aload_n 0, 1) := by decide +kernel
theorem dX10_cutAll_72 : decode cX10_cutAll 72 = .ok (.getfield 172, 3) := by decide +kernel
theorem dX10_cutAll_75 : decode cX10_cutAll 75 = .ok (.if_icmp .ge 54, 3) := by decide +kernel
theorem dX10_cutAll_78 : decode cX10_cutAll 78 = .ok (.aload_n 0, 1) := by decide +kernel
theorem dX10_cutAll_79 : decode cX10_cutAll 79 = .ok (.getfield 14, 3) := by decide +kernel
theorem dX10_cutAll_82 : decode cX10_cutAll 82 = .ok (.iload_n 2, 1) := by decide +kernel
theorem dX10_cutAll_83 : decode cX10_cutAll 83 = .ok (.iaload, 1) := by decide +kernel
theorem dX10_cutAll_84 : decode cX10_cutAll 84 = .ok (.invokestatic 168, 3) := by decide +kernel
theorem dX10_cutAll_87 : decode cX10_cutAll 87 = .ok (.ifCond .eq 42, 3) := by decide +kernel
theorem dX10_cutAll_90 : decode cX10_cutAll 90 = .ok (.iload_n 2, 1) := by decide +kernel
theorem dX10_cutAll_91 : decode cX10_cutAll 91 = .ok (.iload 4, 2) := by decide +kernel
theorem dX10_cutAll_93 : decode cX10_cutAll 93 = .ok (.isub, 1) := by decide +kernel
theorem dX10_cutAll_94 : decode cX10_cutAll 94 = .ok (.bipush 8, 2) := by decide +kernel
theorem dX10_cutAll_96 : decode cX10_cutAll 96 = .ok (.if_icmp .ge 23, 3) := by decide +kernel
theorem dX10_cutAll_99 : decode cX10_cutAll 99 = .ok (.ldc2_w 175, 3) := by decide +kernel
theorem dX10_cutAll_102 : decode cX10_cutAll 102 = .ok (.lload 5, 2) := by decide +kernel
theorem dX10_cutAll_104 : decode cX10_cutAll 104 = .ok (.lmul, 1) := by decide +kernel
theorem dX10_cutAll_105 : decode cX10_cutAll 105 = .ok (.aload_n 0, 1) := by decide +kernel
theorem dX10_cutAll_106 : decode cX10_cutAll 106 = .ok (.getfield 14, 3) := by decide +kernel
theorem dX10_cutAll_109 : decode cX10_cutAll 109 = .ok (.iload_n 2, 1) := by decide +kernel
theorem dX10_cutAll_110 : decode cX10_cutAll 110 = .ok (.iaload, 1) := by decide +kernel
theorem dX10_cutAll_111 : decode cX10_cutAll 111 = .ok (.invokestatic 177, 3) := by decide +kernel
theorem dX10_cutAll_114 : decode cX10_cutAll 114 = .ok (.i2l, 1) := by decide +kernel
theorem dX10_cutAll_115 : decode cX10_cutAll 115 = .ok (.ladd, 1) := by decide +kernel
theorem dX10_cutAll_116 : decode cX10_cutAll 116 = .ok (.goto 5, 3) := by decide +kernel
theorem dX10_cutAll_119 : decode cX10_cutAll 119 = .ok (.lload 5, 2) := by decide +kernel
theorem dX10_cutAll_121 : decode cX10_cutAll 121 = .ok (.lstore 5, 2) := by decide +kernel
theorem dX10_cutAll_123 : decode cX10_cutAll 123 = .ok (.iinc 2 1, 3) := by decide +kernel
theorem dX10_cutAll_126 : decode cX10_cutAll 126 = .ok (.goto (-56), 3) := by decide +kernel
theorem dX10_cutAll_129 : decode cX10_cutAll 129 = .ok (.aload_n 0, 1) := by decide +kernel
theorem dX10_cutAll_130 : decode cX10_cutAll 130 = .ok (.getfield 24, 3) := by decide +kernel
theorem dX10_cutAll_133 : decode cX10_cutAll 133 = .ok (.iload_n 1, 1) := by decide +kernel
theorem dX10_cutAll_134 : decode cX10_cutAll 134 = .ok (.iload_n 2, 1) := by decide +kernel
theorem dX10_cutAll_135 : decode cX10_cutAll 135 = .ok (.iload 4, 2) := by decide +kernel
theorem dX10_cutAll_137 : decode cX10_cutAll 137 = .ok (.isub, 1) := by decide +kernel
theorem dX10_cutAll_138 : decode cX10_cutAll 138 = .ok (.bipush 8, 2) := by decide +kernel
theorem dX10_cutAll_140 : decode cX10_cutAll 140 = .ok (.if_icmp .le 7, 3) := by decide +kernel
theorem dX10_cutAll_143 : decode cX10_cutAll 143 = .ok (.iconst 4, 1) := by decide +kernel
theorem dX10_cutAll_144 : decode cX10_cutAll 144 = .ok (.goto 4, 3) := by decide +kernel
theorem dX10_cutAll_147 : decode cX10_cutAll 147 = .ok (.iconst 1, 1) := by decide +kernel
theorem dX10_cutAll_148 : decode cX10_cutAll 148 = .ok (.iastore, 1) := by decide +kernel
theorem dX10_cutAll_149 : decode cX10_cutAll 149 = .ok (.goto 116, 3) := by decide +kernel
theorem dX10_cutAll_152 : decode cX10_cutAll 152 = .ok (.iload_n 3, 1) := by decide +kernel
theorem dX10_cutAll_153 : decode cX10_cutAll 153 = .ok (.invokestatic 181, 3) := by decide +kernel
theorem dX10_cutAll_156 : decode cX10_cutAll 156 = .ok (.ifCond .eq 84, 3) := by decide +kernel
theorem dX10_cutAll_159 : decode cX10_cutAll 159 = .ok (.iload_n 2, 1) := by decide +kernel
theorem dX10_cutAll_160 : decode cX10_cutAll 160 = .ok (.aload_n 0, 1) := by decide +kernel
theorem dX10_cutAll_161 : decode cX10_cutAll 161 = .ok (.getfield 172, 3) := by decide +kernel
theorem dX10_cutAll_164 : decode cX10_cutAll 164 = .ok (.if_icmp .ge 54, 3) := by decide +kernel
theorem dX10_cutAll_167 : decode cX10_cutAll 167 = .ok (.aload_n 0, 1) := by decide +kernel
theorem dX10_cutAll_168 : decode cX10_cutAll 168 = .ok (.getfield 14, 3) := by decide +kernel
theorem dX10_cutAll_171 : decode cX10_cutAll 171 = .ok (.iload_n 2, 1) := by decide +kernel
theorem dX10_cutAll_172 : decode cX10_cutAll 172 = .ok (.iaload, 1) := by decide +kernel
theorem dX10_cutAll_173 : decode cX10_cutAll 173 = .ok (.invokestatic 181, 3) := by decide +kernel
theorem dX10_cutAll_176 : decode cX10_cutAll 176 = .ok (.ifCond .eq 42, 3) := by decide +kernel
theorem dX10_cutAll_179 : decode cX10_cutAll 179 = .ok (.iload_n 2, 1) := by decide +kernel
theorem dX10_cutAll_180 : decode cX10_cutAll 180 = .ok (.iload 4, 2) := by decide +kernel
theorem dX10_cutAll_182 : decode cX10_cutAll 182 = .ok (.isub, 1) := by decide +kernel
theorem dX10_cutAll_183 : decode cX10_cutAll 183 = .ok (.iconst 4, 1) := by decide +kernel
theorem dX10_cutAll_184 : decode cX10_cutAll 184 = .ok (.if_icmp .ge 24, 3) := by decide +kernel
theorem dX10_cutAll_187 : decode cX10_cutAll 187 = .ok (.ldc2_w 184, 3) := by decide +kernel
theorem dX10_cutAll_190 : decode cX10_cutAll 190 = .ok (.lload 5, 2) := by decide +kernel
theorem dX10_cutAll_192 : decode cX10_cutAll 192 = .ok (.lmul, 1) := by decide +kernel
theorem dX10_cutAll_193 : decode cX10_cutAll 193 = .ok (.aload_n 0, 1) := by decide +kernel
theorem dX10_cutAll_194 : decode cX10_cutAll 194 = .ok (.getfield 14, 3) := by decide +kernel
theorem dX10_cutAll_197 : decode cX10_cutAll 197 = .ok (.iload_n 2, 1) := by decide +kernel
theorem dX10_cutAll_198 : decode cX10_cutAll 198 = .ok (.iaload, 1) := by decide +kernel
theorem dX10_cutAll_199 : decode cX10_cutAll 199 = .ok (.i2l, 1) := by decide +kernel
theorem dX10_cutAll_200 : decode cX10_cutAll 200 = .ok (.ladd, 1) := by decide +kernel
theorem dX10_cutAll_201 : decode cX10_cutAll 201 = .ok (.ldc2_w 186, 3) := by decide +kernel
theorem dX10_cutAll_204 : decode cX10_cutAll 204 = .ok (.lsub, 1) := by decide +kernel
theorem dX10_cutAll_205 : decode cX10_cutAll 205 = .ok (.goto 5, 3) := by decide +kernel
theorem dX10_cutAll_208 : decode cX10_cutAll 208 = .ok (.lload 5, 2) := by decide +kernel
theorem dX10_cutAll_210 : decode cX10_cutAll 210 = .ok (.lstore 5, 2) := by decide +kernel
theorem dX10_cutAll_212 : decode cX10_cutAll 212 = .ok (.iinc 2 1, 3) := by decide +kernel
theorem dX10_cutAll_215 : decode cX10_cutAll 215 = .ok (.goto (-56), 3) := by decide +kernel
theorem dX10_cutAll_218 : decode cX10_cutAll 218 = .ok (.aload_n 0, 1) := by decide +kernel
theorem dX10_cutAll_219 : decode cX10_cutAll 219 = .ok (.getfield 24, 3) := by decide +kernel
theorem dX10_cutAll_222 : decode cX10_cutAll 222 = .ok (.iload_n 1, 1) := by decide +kernel
theorem dX10_cutAll_223 : decode cX10_cutAll 223 = .ok (.iload_n 2, 1) := by decide +kernel
theorem dX10_cutAll_224 : decode cX10_cutAll 224 = .ok (.iload 4, 2) := by decide +kernel
theorem dX10_cutAll_226 : decode cX10_cutAll 226 = .ok (.isub, 1) := by decide +kernel
theorem dX10_cutAll_227 : decode cX10_cutAll 227 = .ok (.iconst 4, 1) := by decide +kernel
theorem dX10_cutAll_228 : decode cX10_cutAll 228 = .ok (.if_icmp .le 7, 3) := by decide +kernel
theorem dX10_cutAll_231 : decode cX10_cutAll 231 = .ok (.iconst 4, 1) := by decide +kernel
theorem dX10_cutAll_232 : decode cX10_cutAll 232 = .ok (.goto 4, 3) := by decide +kernel
theorem dX10_cutAll_235 : decode cX10_cutAll 235 = .ok (.iconst 2, 1) := by decide +kernel
theorem dX10_cutAll_236 : decode cX10_cutAll 236 = .ok (.iastore, 1) := by decide +kernel
theorem dX10_cutAll_237 : decode cX10_cutAll 237 = .ok (.goto 28, 3) := by decide +kernel
theorem dX10_cutAll_240 : decode cX10_cutAll 240 = .ok (.iload_n 3, 1) := by decide +kernel
theorem dX10_cutAll_241 : decode cX10_cutAll 241 = .ok (.i2l, 1) := by decide +kernel
theorem dX10_cutAll_242 : decode cX10_cutAll 242 = .ok (.lstore 5, 2) := by decide +kernel
theorem dX10_cutAll_244 : decode cX10_cutAll 244 = .ok (.aload_n 0, 1) := by decide +kernel
theorem dX10_cutAll_245 : decode cX10_cutAll 245 = .ok (.getfield 24, 3) := by decide +kernel
theorem dX10_cutAll_248 : decode cX10_cutAll 248 = .ok (.iload_n 1, 1) := by decide +kernel
theorem dX10_cutAll_249 : decode cX10_cutAll 249 = .ok (.iload_n 3, 1) := by decide +kernel
theorem dX10_cutAll_250 : decode cX10_cutAll 250 = .ok (.invokestatic 188, 3) := by decide +kernel
theorem dX10_cutAll_253 : decode cX10_cutAll 253 = .ok (.ifCond .eq 7, 3) := by decide +kernel
theorem dX10_cutAll_256 : decode cX10_cutAll 256 = .ok (.iconst 3, 1) := by decide +kernel
theorem dX10_cutAll_257 : decode cX10_cutAll 257 = .ok (.goto 4, 3) := by decide +kernel
theorem dX10_cutAll_260 : decode cX10_cutAll 260 = .ok (.iconst 4, 1) := by decide +kernel
theorem dX10_cutAll_261 : decode cX10_cutAll 261 = .ok (.iastore, 1) := by decide +kernel
theorem dX10_cutAll_262 : decode cX10_cutAll 262 = .ok (.iinc 2 1, 3) := by decide +kernel
theorem dX10_cutAll_265 : decode cX10_cutAll 265 = .ok (.aload_n 0, 1) := by decide +kernel
theorem dX10_cutAll_266 : decode cX10_cutAll 266 = .ok (.getfield 30, 3) := by decide +kernel
theorem dX10_cutAll_269 : decode cX10_cutAll 269 = .ok (.iload_n 1, 1) := by decide +kernel
theorem dX10_cutAll_270 : decode cX10_cutAll 270 = .ok (.lload 5, 2) := by decide +kernel
theorem dX10_cutAll_272 : decode cX10_cutAll 272 = .ok (.lastore, 1) := by decide +kernel
theorem dX10_cutAll_273 : decode cX10_cutAll 273 = .ok (.iinc 1 1, 3) := by decide +kernel
theorem dX10_cutAll_276 : decode cX10_cutAll 276 = .ok (.goto (-259), 3) := by decide +kernel
theorem dX10_cutAll_279 : decode cX10_cutAll 279 = .ok (.aload_n 0, 1) := by decide +kernel
theorem dX10_cutAll_280 : decode cX10_cutAll 280 = .ok (.getfield 24, 3) := by decide +kernel
theorem dX10_cutAll_283 : decode cX10_cutAll 283 = .ok (.iload_n 1, 1) := by decide +kernel
theorem dX10_cutAll_284 : decode cX10_cutAll 284 = .ok (.iconst 0, 1) := by decide +kernel
theorem dX10_cutAll_285 : decode cX10_cutAll 285 = .ok (.iastore, 1) := by decide +kernel
theorem dX10_cutAll_286 : decode cX10_cutAll 286 = .ok (.aload_n 0, 1) := by decide +kernel
theorem dX10_cutAll_287 : decode cX10_cutAll 287 = .ok (.getfield 27, 3) := by decide +kernel
theorem dX10_cutAll_290 : decode cX10_cutAll 290 = .ok (.iload_n 1, 1) := by decide +kernel
theorem dX10_cutAll_291 : decode cX10_cutAll 291 = .ok (.aload_n 0, 1) := by decide +kernel
theorem dX10_cutAll_292 : decode cX10_cutAll 292 = .ok (.getfield 172, 3) := by decide +kernel
theorem dX10_cutAll_295 : decode cX10_cutAll 295 = .ok (.iastore, 1) := by decide +kernel
theorem dX10_cutAll_296 : decode cX10_cutAll 296 = .ok (.aload_n 0, 1) := by decide +kernel
theorem dX10_cutAll_297 : decode cX10_cutAll 297 = .ok (.iconst 0, 1) := by decide +kernel
theorem dX10_cutAll_298 : decode cX10_cutAll 298 = .ok (.putfield 191, 3) := by decide +kernel
theorem dX10_cutAll_301 : decode cX10_cutAll 301 = .ok (.aload_n 0, 1) := by decide +kernel
theorem dX10_cutAll_302 : decode cX10_cutAll 302 = .ok (.iconst 0, 1) := by decide +kernel
theorem dX10_cutAll_303 : decode cX10_cutAll 303 = .ok (.putfield 194, 3) := by decide +kernel
theorem dX10_cutAll_306 : decode cX10_cutAll 306 = .ok (.return_, 1) := by decide +kernel
theorem dX10_wrong_0 : decode cX10_wrong 0 = .ok (.aload_n 0, 1) := by decide +kernel
theorem dX10_wrong_1 : decode cX10_wrong 1 = .ok (.getfield 194, 3) := by decide +kernel
theorem dX10_wrong_4 : decode cX10_wrong 4 = .ok (.ifCond .ne 21, 3) := by decide +kernel
theorem dX10_wrong_7 : decode cX10_wrong 7 = .ok (.aload_n 0, 1) := by decide +kernel
theorem dX10_wrong_8 : decode cX10_wrong 8 = .ok (.iload_n 1, 1) := by decide +kernel
theorem dX10_wrong_9 : decode cX10_wrong 9 = .ok (.bipush 16, 2) := by decide +kernel
theorem dX10_wrong_11 : decode cX10_wrong 11 = .ok (.aload_n 0, 1) := by decide +kernel
theorem dX10_wrong_12 : decode cX10_wrong 12 = .ok (.getfield 27, 3) := by decide +kernel
theorem dX10_wrong_15 : decode cX10_wrong 15 = .ok (.aload_n 0, 1) := by decide +kernel
theorem dX10_wrong_16 : decode cX10_wrong 16 = .ok (.getfield 191, 3) := by decide +kernel
theorem dX10_wrong_19 : decode cX10_wrong 19 = .ok (.iaload, 1) := by decide +kernel
theorem dX10_wrong_20 : decode cX10_wrong 20 = .ok (.imul, 1) := by decide +kernel
theorem dX10_wrong_21 : decode cX10_wrong 21 = .ok (.iadd, 1) := by decide +kernel
theorem dX10_wrong_22 : decode cX10_wrong 22 = .ok (.putfield 194, 3) := by decide +kernel
theorem dX10_wrong_25 : decode cX10_wrong 25 = .ok (.return_, 1) := by decide +kernel
theorem dX10_isSign_0 : decode cX10_isSign 0 = .ok (.aload_n 0, 1) := by decide +kernel
theorem dX10_isSign_1 : decode cX10_isSign 1 = .ok (.getfield 194, 3) := by decide +kernel
theorem dX10_isSign_4 : decode cX10_isSign 4 = .ok (.ifCond .ne 35, 3) := by decide +kernel
theorem dX10_isSign_7 : decode cX10_isSign 7 = .ok (.aload_n 0, 1) := by decide +kernel
theorem dX10_isSign_8 : decode cX10_isSign 8 = .ok (.getfield 24, 3) := by decide +kernel
theorem dX10_isSign_11 : decode cX10_isSign 11 = .ok (.aload_n 0, 1) := by decide +kernel
theorem dX10_isSign_12 : decode cX10_isSign 12 = .ok (.getfield 191, 3) := by decide +kernel
theorem dX10_isSign_15 : decode cX10_isSign 15 = .ok (.iaload, 1) := by decide +kernel
theorem dX10_isSign_16 : decode cX10_isSign 16 = .ok (.iconst 3, 1) := by decide +kernel
theorem dX10_isSign_17 : decode cX10_isSign 17 = .ok (.if_icmp .ne 22, 3) := by decide +kernel
theorem dX10_isSign_20 : decode cX10_isSign 20 = .ok (.aload_n 0, 1) := by decide +kernel
theorem dX10_isSign_21 : decode cX10_isSign 21 = .ok (.getfield 30, 3) := by decide +kernel
theorem dX10_isSign_24 : decode cX10_isSign 24 = .ok (.aload_n 0, 1) := by decide +kernel
theorem dX10_isSign_25 : decode cX10_isSign 25 = .ok (.getfield 191, 3) := by decide +kernel
theorem dX10_isSign_28 : decode cX10_isSign 28 = .ok (.laload, 1) := by decide +kernel
theorem dX10_isSign_29 : decode cX10_isSign 29 = .ok (.iload_n 1, 1) := by decide +kernel
theorem dX10_isSign_30 : decode cX10_isSign 30 = .ok (.i2l, 1) := by decide +kernel
theorem dX10_isSign_31 : decode cX10_isSign 31 = .ok (.lcmp, 1) := by decide +kernel
theorem dX10_isSign_32 : decode cX10_isSign 32 = .ok (.ifCond .ne 7, 3) := by decide +kernel
theorem dX10_isSign_35 : decode cX10_isSign 35 = .ok (.iconst 1, 1) := by decide +kernel
theorem dX10_isSign_36 : decode cX10_isSign 36 = .ok (.goto 4, 3) := by decide +kernel
theorem dX10_isSign_39 : decode cX10_isSign 39 = .ok (.iconst 0, 1) := by decide +kernel
theorem dX10_isSign_40 : decode cX10_isSign 40 = .ok (.ireturn, 1) := by decide +kernel
theorem dX10_isWord_0 : decode cX10_isWord 0 = .ok (.aload_n 0, 1) := by decide +kernel
theorem dX10_isWord_1 : decode cX10_isWord 1 = .ok (.getfield 194, 3) := by decide +kernel
theorem dX10_isWord_4 : decode cX10_isWord 4 = .ok (.ifCond .ne 39, 3) := by decide +kernel
theorem dX10_isWord_7 : decode cX10_isWord 7 = .ok (.aload_n 0, 1) := by decide +kernel
theorem dX10_isWord_8 : decode cX10_isWord 8 = .ok (.getfield 24, 3) := by decide +kernel
theorem dX10_isWord_11 : decode cX10_isWord 11 = .ok (.aload_n 0, 1) := by decide +kernel
theorem dX10_isWord_12 : decode cX10_isWord 12 = .ok (.getfield 191, 3) := by decide +kernel
theorem dX10_isWord_15 : decode cX10_isWord 15 = .ok (.iaload, 1) := by decide +kernel
theorem dX10_isWord_16 : decode cX10_isWord 16 = .ok (.iconst 1, 1) := by decide +kernel
theorem dX10_isWord_17 : decode cX10_isWord 17 = .ok (.if_icmp .ne 26, 3) := by decide +kernel
theorem dX10_isWord_20 : decode cX10_isWord 20 = .ok (.aload_n 0, 1) := by decide +kernel
theorem dX10_isWord_21 : decode cX10_isWord 21 = .ok (.getfield 30, 3) := by decide +kernel
theorem dX10_isWord_24 : decode cX10_isWord 24 = .ok (.aload_n 0, 1) := by decide +kernel
theorem dX10_isWord_25 : decode cX10_isWord 25 = .ok (.getfield 191, 3) := by decide +kernel
theorem dX10_isWord_28 : decode cX10_isWord 28 = .ok (.laload, 1) := by decide +kernel
theorem dX10_isWord_29 : decode cX10_isWord 29 = .ok (.aload_n 0, 1) := by decide +kernel
theorem dX10_isWord_30 : decode cX10_isWord 30 = .ok (.getfield 56, 3) := by decide +kernel
theorem dX10_isWord_33 : decode cX10_isWord 33 = .ok (.iload_n 1, 1) := by decide +kernel
theorem dX10_isWord_34 : decode cX10_isWord 34 = .ok (.laload, 1) := by decide +kernel
theorem dX10_isWord_35 : decode cX10_isWord 35 = .ok (.lcmp, 1) := by decide +kernel
theorem dX10_isWord_36 : decode cX10_isWord 36 = .ok (.ifCond .ne 7, 3) := by decide +kernel
theorem dX10_isWord_39 : decode cX10_isWord 39 = .ok (.iconst 1, 1) := by decide +kernel
theorem dX10_isWord_40 : decode cX10_isWord 40 = .ok (.goto 4, 3) := by decide +kernel
theorem dX10_isWord_43 : decode cX10_isWord 43 = .ok (.iconst 0, 1) := by decide +kernel
theorem dX10_isWord_44 : decode cX10_isWord 44 = .ok (.ireturn, 1) := by decide +kernel
theorem dX10_takeSign_0 : decode cX10_takeSign 0 = .ok (.aload_n 0, 1) := by decide +kernel
theorem dX10_takeSign_1 : decode cX10_takeSign 1 = .ok (.iload_n 1, 1) := by decide +kernel
theorem dX10_takeSign_2 : decode cX10_takeSign 2 = .ok (.invokevirtual 197, 3) := by decide +kernel
theorem dX10_takeSign_5 : decode cX10_takeSign 5 = .ok (.ifCond .eq 16, 3) := by decide +kernel
theorem dX10_takeSign_8 : decode cX10_takeSign 8 = .ok (.aload_n 0, 1) := by decide +kernel
theorem dX10_takeSign_9 : decode cX10_takeSign 9 = .ok (.dup, 1) := by decide +kernel
theorem dX10_takeSign_10 : decode cX10_takeSign 10 = .ok (.getfield 191, 3) := by decide +kernel
theorem dX10_takeSign_13 : decode cX10_takeSign 13 = .ok (.iconst 1, 1) := by decide +kernel
theorem dX10_takeSign_14 : decode cX10_takeSign 14 = .ok (.iadd, 1) := by decide +kernel
theorem dX10_takeSign_15 : decode cX10_takeSign 15 = .ok (.putfield 191, 3) := by decide +kernel
theorem dX10_takeSign_18 : decode cX10_takeSign 18 = .ok (.goto 8, 3) := by decide +kernel
theorem dX10_takeSign_21 : decode cX10_takeSign 21 = .ok (.aload_n 0, 1) := by decide +kernel
theorem dX10_takeSign_22 : decode cX10_takeSign 22 = .ok (.iconst 1, 1) := by decide +kernel
theorem dX10_takeSign_23 : decode cX10_takeSign 23 = .ok (.invokevirtual 200, 3) := by decide +kernel
theorem dX10_takeSign_26 : decode cX10_takeSign 26 = .ok (.return_, 1) := by decide +kernel
theorem dX10_hasSign_0 : decode cX10_hasSign 0 = .ok (.aload_n 0, 1) := by decide +kernel
theorem dX10_hasSign_1 : decode cX10_hasSign 1 = .ok (.iload_n 1, 1) := by decide +kernel
theorem dX10_hasSign_2 : decode cX10_hasSign 2 = .ok (.invokevirtual 197, 3) := by decide +kernel
theorem dX10_hasSign_5 : decode cX10_hasSign 5 = .ok (.istore_n 2, 1) := by decide +kernel
theorem dX10_hasSign_6 : decode cX10_hasSign 6 = .ok (.aload_n 0, 1) := by decide +kernel
theorem dX10_hasSign_7 : decode cX10_hasSign 7 = .ok (.dup, 1) := by decide +kernel
theorem dX10_hasSign_8 : decode cX10_hasSign 8 = .ok (.getfield 191, 3) := by decide +kernel
theorem dX10_hasSign_11 : decode cX10_hasSign 11 = .ok (.iload_n 2, 1) := by decide +kernel
theorem dX10_hasSign_12 : decode cX10_hasSign 12 = .ok (.ifCond .eq 7, 3) := by decide +kernel
theorem dX10_hasSign_15 : decode cX10_hasSign 15 = .ok (.iconst 1, 1) := by decide +kernel
theorem dX10_hasSign_16 : decode cX10_hasSign 16 = .ok (.goto 4, 3) := by decide +kernel
theorem dX10_hasSign_19 : decode cX10_hasSign 19 = .ok (.iconst 0, 1) := by decide +kernel
theorem dX10_hasSign_20 : decode cX10_hasSign 20 = .ok (.iadd, 1) := by decide +kernel
theorem dX10_hasSign_21 : decode cX10_hasSign 21 = .ok (.putfield 191, 3) := by decide +kernel
theorem dX10_hasSign_24 : decode cX10_hasSign 24 = .ok (.iload_n 2, 1) := by decide +kernel
theorem dX10_hasSign_25 : decode cX10_hasSign 25 = .ok (.ireturn, 1) := by decide +kernel
theorem dX10_hasWord_0 : decode cX10_hasWord 0 = .ok (.aload_n 0, 1) := by decide +kernel
theorem dX10_hasWord_1 : decode cX10_hasWord 1 = .ok (.iload_n 1, 1) := by decide +kernel
theorem dX10_hasWord_2 : decode cX10_hasWord 2 = .ok (.invokevirtual 204, 3) := by decide +kernel
theorem dX10_hasWord_5 : decode cX10_hasWord 5 = .ok (.istore_n 2, 1) := by decide +kernel
theorem dX10_hasWord_6 : decode cX10_hasWord 6 = .ok (.aload_n 0, 1) := by decide +kernel
theorem dX10_hasWord_7 : decode cX10_hasWord 7 = .ok (.dup, 1) := by decide +kernel
theorem dX10_hasWord_8 : decode cX10_hasWord 8 = .ok (.getfield 191, 3) := by decide +kernel
theorem dX10_hasWord_11 : decode cX10_hasWord 11 = .ok (.iload_n 2, 1) := by decide +kernel
theorem dX10_hasWord_12 : decode cX10_hasWord 12 = .ok (.ifCond .eq 7, 3) := by decide +kernel
theorem dX10_hasWord_15 : decode cX10_hasWord 15 = .ok (.iconst 1, 1) := by decide +kernel
theorem dX10_hasWord_16 : decode cX10_hasWord 16 = .ok (.goto 4, 3) := by decide +kernel
theorem dX10_hasWord_19 : decode cX10_hasWord 19 = .ok (.iconst 0, 1) := by decide +kernel
theorem dX10_hasWord_20 : decode cX10_hasWord 20 = .ok (.iadd, 1) := by decide +kernel
theorem dX10_hasWord_21 : decode cX10_hasWord 21 = .ok (.putfield 191, 3) := by decide +kernel
theorem dX10_hasWord_24 : decode cX10_hasWord 24 = .ok (.iload_n 2, 1) := by decide +kernel
theorem dX10_hasWord_25 : decode cX10_hasWord 25 = .ok (.ireturn, 1) := by decide +kernel
theorem dX10_takeWord_0 : decode cX10_takeWord 0 = .ok (.aload_n 0, 1) := by decide +kernel
theorem dX10_takeWord_1 : decode cX10_takeWord 1 = .ok (.iload_n 1, 1) := by decide +kernel
theorem dX10_takeWord_2 : decode cX10_takeWord 2 = .ok (.invokevirtual 207, 3) := by decide +kernel
theorem dX10_takeWord_5 : decode cX10_takeWord 5 = .ok (.ifCond .ne 8, 3) := by decide +kernel
theorem dX10_takeWord_8 : decode cX10_takeWord 8 = .ok (.aload_n 0, 1) := by decide +kernel
theorem dX10_takeWord_9 : decode cX10_takeWord 9 = .ok (.iconst 1, 1) := by decide +kernel
theorem dX10_takeWord_10 : decode cX10_takeWord 10 = .ok (.invokevirtual 200, 3) := by decide +kernel
theorem dX10_takeWord_13 : decode cX10_takeWord 13 = .ok (.return_, 1) := by decide +kernel
theorem dX10_emit_0 : decode cX10_emit 0 = .ok (.aload_n 0, 1) := by decide +kernel
theorem dX10_emit_1 : decode cX10_emit 1 = .ok (.getfield 69, 3) := by decide +kernel
theorem dX10_emit_4 : decode cX10_emit 4 = .ok (.sipush 660, 3) := by decide +kernel
theorem dX10_emit_7 : decode cX10_emit 7 = .ok (.aload_n 0, 1) := by decide +kernel
theorem dX10_emit_8 : decode cX10_emit 8 = .ok (.getfield 210, 3) := by decide +kernel
theorem dX10_emit_11 : decode cX10_emit 11 = .ok (.imul, 1) := by decide +kernel
theorem dX10_emit_12 : decode cX10_emit 12 = .ok (.aload_n 0, 1) := by decide +kernel
theorem dX10_emit_13 : decode cX10_emit 13 = .ok (.getfield 213, 3) := by decide +kernel
theorem dX10_emit_16 : decode cX10_emit 16 = .ok (.iadd, 1) := by decide +kernel
theorem dX10_emit_17 : decode cX10_emit 17 = .ok (.iload_n 1, 1) := by decide +kernel
theorem dX10_emit_18 : decode cX10_emit 18 = .ok (.iastore, 1) := by decide +kernel
theorem dX10_emit_19 : decode cX10_emit 19 = .ok (.aload_n 0, 1) := by decide +kernel
theorem dX10_emit_20 : decode cX10_emit 20 = .ok (.getfield 72, 3) := by decide +kernel
theorem dX10_emit_23 : decode cX10_emit 23 = .ok (.sipush 660, 3) := by decide +kernel
theorem dX10_emit_26 : decode cX10_emit 26 = .ok (.aload_n 0, 1) := by decide +kernel
theorem dX10_emit_27 : decode cX10_emit 27 = .ok (.getfield 210, 3) := by decide +kernel
theorem dX10_emit_30 : decode cX10_emit 30 = .ok (.imul, 1) := by decide +kernel
theorem dX10_emit_31 : decode cX10_emit 31 = .ok (.aload_n 0, 1) := by decide +kernel
theorem dX10_emit_32 : decode cX10_emit 32 = .ok (.getfield 213, 3) := by decide +kernel
theorem dX10_emit_35 : decode cX10_emit 35 = .ok (.iadd, 1) := by decide +kernel
theorem dX10_emit_36 : decode cX10_emit 36 = .ok (.iload_n 2, 1) := by decide +kernel
theorem dX10_emit_37 : decode cX10_emit 37 = .ok (.iastore, 1) := by decide +kernel
theorem dX10_emit_38 : decode cX10_emit 38 = .ok (.aload_n 0, 1) := by decide +kernel
theorem dX10_emit_39 : decode cX10_emit 39 = .ok (.dup, 1) := by decide +kernel
theorem dX10_emit_40 : decode cX10_emit 40 = .ok (.getfield 213, 3) := by decide +kernel
theorem dX10_emit_43 : decode cX10_emit 43 = .ok (.iconst 1, 1) := by decide +kernel
theorem dX10_emit_44 : decode cX10_emit 44 = .ok (.iadd, 1) := by decide +kernel
theorem dX10_emit_45 : decode cX10_emit 45 = .ok (.putfield 213, 3) := by decide +kernel
theorem dX10_emit_48 : decode cX10_emit 48 = .ok (.return_, 1) := by decide +kernel
theorem dX10_text_0 : decode cX10_text 0 = .ok (.aload_n 0, 1) := by decide +kernel
theorem dX10_text_1 : decode cX10_text 1 = .ok (.iconst 0, 1) := by decide +kernel
theorem dX10_text_2 : decode cX10_text 2 = .ok (.putfield 1, 3) := by decide +kernel
theorem dX10_text_5 : decode cX10_text 5 = .ok (.aload_n 0, 1) := by decide +kernel
theorem dX10_text_6 : decode cX10_text 6 = .ok (.invokevirtual 216, 3) := by decide +kernel
theorem dX10_text_9 : decode cX10_text 9 = .ok (.aload_n 0, 1) := by decide +kernel
theorem dX10_text_10 : decode cX10_text 10 = .ok (.iconst 1, 1) := by decide +kernel
theorem dX10_text_11 : decode cX10_text 11 = .ok (.aload_n 0, 1) := by decide +kernel
theorem dX10_text_12 : decode cX10_text 12 = .ok (.getfield 219, 3) := by decide +kernel
theorem dX10_text_15 : decode cX10_text 15 = .ok (.isub, 1) := by decide +kernel
theorem dX10_text_16 : decode cX10_text 16 = .ok (.putfield 210, 3) := by decide +kernel
theorem dX10_text_19 : decode cX10_text 19 = .ok (.aload_n 0, 1) := by decide +kernel
theorem dX10_text_20 : decode cX10_text 20 = .ok (.getfield 59, 3) := by decide +kernel
theorem dX10_text_23 : decode cX10_text 23 = .ok (.aload_n 0, 1) := by decide +kernel
theorem dX10_text_24 : decode cX10_text 24 = .ok (.getfield 210, 3) := by decide +kernel
theorem dX10_text_27 : decode cX10_text 27 = .ok (.iconst 0, 1) := by decide +kernel
theorem dX10_text_28 : decode cX10_text 28 = .ok (.iastore, 1) := by decide +kernel
theorem dX10_text_29 : decode cX10_text 29 = .ok (.aload_n 0, 1) := by decide +kernel
theorem dX10_text_30 : decode cX10_text 30 = .ok (.iconst 0, 1) := by decide +kernel
theorem dX10_text_31 : decode cX10_text 31 = .ok (.putfield 213, 3) := by decide +kernel
theorem dX10_text_34 : decode cX10_text 34 = .ok (.aload_n 0, 1) := by decide +kernel
theorem dX10_text_35 : decode cX10_text 35 = .ok (.getfield 194, 3) := by decide +kernel
theorem dX10_text_38 : decode cX10_text 38 = .ok (.ifCond .ne 22, 3) := by decide +kernel
theorem dX10_text_41 : decode cX10_text 41 = .ok (.aload_n 0, 1) := by decide +kernel
theorem dX10_text_42 : decode cX10_text 42 = .ok (.getfield 24, 3) := by decide +kernel
theorem dX10_text_45 : decode cX10_text 45 = .ok (.aload_n 0, 1) := by decide +kernel
theorem dX10_text_46 : decode cX10_text 46 = .ok (.getfield 191, 3) := by decide +kernel
theorem dX10_text_49 : decode cX10_text 49 = .ok (.iaload, 1) := by decide +kernel
theorem dX10_text_50 : decode cX10_text 50 = .ok (.ifCond .eq 10, 3) := by decide +kernel
theorem dX10_text_53 : decode cX10_text 53 = .ok (.aload_n 0, 1) := by decide +kernel
theorem dX10_text_54 : decode cX10_text 54 = .ok (.invokevirtual 222, 3) := by decide +kernel
theorem dX10_text_57 : decode cX10_text 57 = .ok (.goto (-23), 3) := by decide +kernel
theorem dX10_text_60 : decode cX10_text 60 = .ok (.aload_n 0, 1) := by decide +kernel
theorem dX10_text_61 : decode cX10_text 61 = .ok (.getfield 194, 3) := by decide +kernel
theorem dX10_text_64 : decode cX10_text 64 = .ok (.ifCond .ne 11, 3) := by decide +kernel
theorem dX10_text_67 : decode cX10_text 67 = .ok (.aload_n 0, 1) := by decide +kernel
theorem dX10_text_68 : decode cX10_text 68 = .ok (.aload_n 0, 1) := by decide +kernel
theorem dX10_text_69 : decode cX10_text 69 = .ok (.getfield 210, 3) := by decide +kernel
theorem dX10_text_72 : decode cX10_text 72 = .ok (.putfield 219, 3) := by decide +kernel
theorem dX10_text_75 : decode cX10_text 75 = .ok (.aload_n 0, 1) := by decide +kernel
theorem dX10_text_76 : decode cX10_text 76 = .ok (.getfield 194, 3) := by decide +kernel
theorem dX10_text_79 : decode cX10_text 79 = .ok (.ireturn, 1) := by decide +kernel
theorem dX10_line_0 : decode cX10_line 0 = .ok (.aload_n 0, 1) := by decide +kernel
theorem dX10_line_1 : decode cX10_line 1 = .ok (.iconst 1, 1) := by decide +kernel
theorem dX10_line_2 : decode cX10_line 2 = .ok (.invokevirtual 204, 3) := by decide +kernel
theorem dX10_line_5 : decode cX10_line 5 = .ok (.istore_n 1, 1) := by decide +kernel
theorem dX10_line_6 : decode cX10_line 6 = .ok (.iload_n 1, 1) := by decide +kernel
theorem dX10_line_7 : decode cX10_line 7 = .ok (.ifCond .ne 19, 3) := by decide +kernel
theorem dX10_line_10 : decode cX10_line 10 = .ok (.aload_n 0, 1) := by decide +kernel
theorem dX10_line_11 : decode cX10_line 11 = .ok (.iconst 0, 1) := by decide +kernel
theorem dX10_line_12 : decode cX10_line 12 = .ok (.invokevirtual 204, 3) := by decide +kernel
theorem dX10_line_15 : decode cX10_line 15 = .ok (.ifCond .ne 11, 3) := by decide +kernel
theorem dX10_line_18 : decode cX10_line 18 = .ok (.aload_n 0, 1) := by decide +kernel
theorem dX10_line_19 : decode cX10_line 19 = .ok (.iconst 1, 1) := by decide +kernel
theorem dX10_line_20 : decode cX10_line 20 = .ok (.invokevirtual 200, 3) := by decide +kernel
theorem dX10_line_23 : decode cX10_line 23 = .ok (.goto 22, 3) := by decide +kernel
theorem dX10_line_26 : decode cX10_line 26 = .ok (.aload_n 0, 1) := by decide +kernel
theorem dX10_line_27 : decode cX10_line 27 = .ok (.getfield 59, 3) := by decide +kernel
theorem dX10_line_30 : decode cX10_line 30 = .ok (.aload_n 0, 1) := by decide +kernel
theorem dX10_line_31 : decode cX10_line 31 = .ok (.getfield 210, 3) := by decide +kernel
theorem dX10_line_34 : decode cX10_line 34 = .ok (.iaload, 1) := by decide +kernel
theorem dX10_line_35 : decode cX10_line 35 = .ok (.bipush 16, 2) := by decide +kernel
theorem dX10_line_37 : decode cX10_line 37 = .ok (.if_icmp .ne 8, 3) := by decide +kernel
theorem dX10_line_40 : decode cX10_line 40 = .ok (.aload_n 0, 1) := by decide +kernel
theorem dX10_line_41 : decode cX10_line 41 = .ok (.iconst 5, 1) := by decide +kernel
theorem dX10_line_42 : decode cX10_line 42 = .ok (.invokevirtual 200, 3) := by decide +kernel
theorem dX10_line_45 : decode cX10_line 45 = .ok (.aload_n 0, 1) := by decide +kernel
theorem dX10_line_46 : decode cX10_line 46 = .ok (.getfield 194, 3) := by decide +kernel
theorem dX10_line_49 : decode cX10_line 49 = .ok (.ifCond .le 4, 3) := by decide +kernel
theorem dX10_line_52 : decode cX10_line 52 = .ok (.return_, 1) := by decide +kernel
theorem dX10_line_53 : decode cX10_line 53 = .ok (.aload_n 0, 1) := by decide +kernel
theorem dX10_line_54 : decode cX10_line 54 = .ok (.dup, 1) := by decide +kernel
theorem dX10_line_55 : decode cX10_line 55 = .ok (.getfield 191, 3) := by decide +kernel
theorem dX10_line_58 : decode cX10_line 58 = .ok (.iconst 1, 1) := by decide +kernel
theorem dX10_line_59 : decode cX10_line 59 = .ok (.iadd, 1) := by decide +kernel
theorem dX10_line_60 : decode cX10_line 60 = .ok (.putfield 191, 3) := by decide +kernel
theorem dX10_line_63 : decode cX10_line 63 = .ok (.bipush 16, 2) := by decide +kernel
theorem dX10_line_65 : decode cX10_line 65 = .ok (.aload_n 0, 1) := by decide +kernel
theorem dX10_line_66 : decode cX10_line 66 = .ok (.getfield 210, 3) := by decide +kernel
theorem dX10_line_69 : decode cX10_line 69 = .ok (.imul, 1) := by decide +kernel
theorem dX10_line_70 : decode cX10_line 70 = .ok (.aload_n 0, 1) := by decide +kernel
theorem dX10_line_71 : decode cX10_line 71 = .ok (.getfield 59, 3) := by decide +kernel
theorem dX10_line_74 : decode cX10_line 74 = .ok (.aload_n 0, 1) := by decide +kernel
theorem dX10_line_75 : decode cX10_line 75 = .ok (.getfield 210, 3) := by decide +kernel
theorem dX10_line_78 : decode cX10_line 78 = .ok (.iaload, 1) := by decide +kernel
theorem dX10_line_79 : decode cX10_line 79 = .ok (.iadd, 1) := by decide +kernel
theorem dX10_line_80 : decode cX10_line 80 = .ok (.istore_n 2, 1) := by decide +kernel
theorem dX10_line_81 : decode cX10_line 81 = .ok (.aload_n 0, 1) := by decide +kernel
theorem dX10_line_82 : decode cX10_line 82 = .ok (.getfield 62, 3) := by decide +kernel
theorem dX10_line_85 : decode cX10_line 85 = .ok (.iload_n 2, 1) := by decide +kernel
theorem dX10_line_86 : decode cX10_line 86 = .ok (.iload_n 1, 1) := by decide +kernel
theorem dX10_line_87 : decode cX10_line 87 = .ok (.bastore, 1) := by decide +kernel
theorem dX10_line_88 : decode cX10_line 88 = .ok (.aload_n 0, 1) := by decide +kernel
theorem dX10_line_89 : decode cX10_line 89 = .ok (.iconst 2, 1) := by decide +kernel
theorem dX10_line_90 : decode cX10_line 90 = .ok (.invokevirtual 225, 3) := by decide +kernel
theorem dX10_line_93 : decode cX10_line 93 = .ok (.aload_n 0, 1) := by decide +kernel
theorem dX10_line_94 : decode cX10_line 94 = .ok (.getfield 66, 3) := by decide +kernel
theorem dX10_line_97 : decode cX10_line 97 = .ok (.iload_n 2, 1) := by decide +kernel
theorem dX10_line_98 : decode cX10_line 98 = .ok (.sipush 660, 3) := by decide +kernel
theorem dX10_line_101 : decode cX10_line 101 = .ok (.aload_n 0, 1) := by decide +kernel
theorem dX10_line_102 : decode cX10_line 102 = .ok (.getfield 210, 3) := by decide +kernel
theorem dX10_line_105 : decode cX10_line 105 = .ok (.imul, 1) := by decide +kernel
theorem dX10_line_106 : decode cX10_line 106 = .ok (.aload_n 0, 1) := by decide +kernel
theorem dX10_line_107 : decode cX10_line 107 = .ok (.getfield 213, 3) := by decide +kernel
theorem dX10_line_110 : decode cX10_line 110 = .ok (.iadd, 1) := by decide +kernel
theorem dX10_line_111 : decode cX10_line 111 = .ok (.iastore, 1) := by decide +kernel
theorem dX10_line_112 : decode cX10_line 112 = .ok (.aload_n 0, 1) := by decide +kernel
theorem dX10_line_113 : decode cX10_line 113 = .ok (.iconst 0, 1) := by decide +kernel
theorem dX10_line_114 : decode cX10_line 114 = .ok (.putfield 228, 3) := by decide +kernel
theorem dX10_line_117 : decode cX10_line 117 = .ok (.aload_n 0, 1) := by decide +kernel
theorem dX10_line_118 : decode cX10_line 118 = .ok (.invokevirtual 231, 3) := by decide +kernel
theorem dX10_line_121 : decode cX10_line 121 = .ok (.iconst 1, 1) := by decide +kernel
theorem dX10_line_122 : decode cX10_line 122 = .ok (.istore_n 3, 1) := by decide +kernel
theorem dX10_line_123 : decode cX10_line 123 = .ok (.iload_n 3, 1) := by decide +kernel
theorem dX10_line_124 : decode cX10_line 124 = .ok (.ifCond .eq 33, 3) := by decide +kernel
theorem dX10_line_127 : decode cX10_line 127 = .ok (.aload_n 0, 1) := by decide +kernel
theorem dX10_line_128 : decode cX10_line 128 = .ok (.getfield 194, 3) := by decide +kernel
theorem dX10_line_131 : decode cX10_line 131 = .ok (.ifCond .ne 26, 3) := by decide +kernel
theorem dX10_line_134 : decode cX10_line 134 = .ok (.aload_n 0, 1) := by decide +kernel
theorem dX10_line_135 : decode cX10_line 135 = .ok (.invokevirtual 234, 3) := by decide +kernel
theorem dX10_line_138 : decode cX10_line 138 = .ok (.ifCond .ne 10, 3) := by decide +kernel
theorem dX10_line_141 : decode cX10_line 141 = .ok (.aload_n 0, 1) := by decide +kernel
theorem dX10_line_142 : decode cX10_line 142 = .ok (.invokevirtual 238, 3) := by decide +kernel
theorem dX10_line_145 : decode cX10_line 145 = .ok (.ifCond .eq 7, 3) := by decide +kernel
theorem dX10_line_148 : decode cX10_line 148 = .ok (.iconst 1, 1) := by decide +kernel
theorem dX10_line_149 : decode cX10_line 149 = .ok (.goto 4, 3) := by decide +kernel
theorem dX10_line_152 : decode cX10_line 152 = .ok (.iconst 0, 1) := by decide +kernel
theorem dX10_line_153 : decode cX10_line 153 = .ok (.istore_n 3, 1) := by decide +kernel
theorem dX10_line_154 : decode cX10_line 154 = .ok (.goto (-31), 3) := by decide +kernel
theorem dX10_line_157 : decode cX10_line 157 = .ok (.aload_n 0, 1) := by decide +kernel
theorem dX10_line_158 : decode cX10_line 158 = .ok (.iconst 0, 1) := by decide +kernel
theorem dX10_line_159 : decode cX10_line 159 = .ok (.iconst 0, 1) := by decide +kernel
theorem dX10_line_160 : decode cX10_line 160 = .ok (.invokevirtual 241, 3) := by decide +kernel
theorem dX10_line_163 : decode cX10_line 163 = .ok (.aload_n 0, 1) := by decide +kernel
theorem dX10_line_164 : decode cX10_line 164 = .ok (.bipush 59, 2) := by decide +kernel
theorem dX10_line_166 : decode cX10_line 166 = .ok (.invokevirtual 245, 3) := by decide +kernel
theorem dX10_line_169 : decode cX10_line 169 = .ok (.aload_n 0, 1) := by decide +kernel
theorem dX10_line_170 : decode cX10_line 170 = .ok (.getfield 59, 3) := by decide +kernel
theorem dX10_line_173 : decode cX10_line 173 = .ok (.aload_n 0, 1) := by decide +kernel
theorem dX10_line_174 : decode cX10_line 174 = .ok (.getfield 210, 3) := by decide +kernel
theorem dX10_line_177 : decode cX10_line 177 = .ok (.dup2, 1) := by decide +kernel
theorem dX10_line_178 : decode cX10_line 178 = .ok (.iaload, 1) := by decide +kernel
theorem dX10_line_179 : decode cX10_line 179 = .ok (.iconst 1, 1) := by decide +kernel
theorem dX10_line_180 : decode cX10_line 180 = .ok (.iadd, 1) := by decide +kernel
theorem dX10_line_181 : decode cX10_line 181 = .ok (.iastore, 1) := by decide +kernel
theorem dX10_line_182 : decode cX10_line 182 = .ok (.return_, 1) := by decide +kernel
theorem dX10_opens_0 : decode cX10_opens 0 = .ok (.aload_n 0, 1) := by decide +kernel
theorem dX10_opens_1 : decode cX10_opens 1 = .ok (.getfield 75, 3) := by decide +kernel
theorem dX10_opens_4 : decode cX10_opens 4 = .ok (.aload_n 0, 1) := by decide +kernel
theorem dX10_opens_5 : decode cX10_opens 5 = .ok (.getfield 228, 3) := by decide +kernel
theorem dX10_opens_8 : decode cX10_opens 8 = .ok (.iconst 0, 1) := by decide +kernel
theorem dX10_opens_9 : decode cX10_opens 9 = .ok (.iastore, 1) := by decide +kernel
theorem dX10_opens_10 : decode cX10_opens 10 = .ok (.aload_n 0, 1) := by decide +kernel
theorem dX10_opens_11 : decode cX10_opens 11 = .ok (.getfield 78, 3) := by decide +kernel
theorem dX10_opens_14 : decode cX10_opens 14 = .ok (.aload_n 0, 1) := by decide +kernel
theorem dX10_opens_15 : decode cX10_opens 15 = .ok (.getfield 228, 3) := by decide +kernel
theorem dX10_opens_18 : decode cX10_opens 18 = .ok (.iconst 0, 1) := by decide +kernel
theorem dX10_opens_19 : decode cX10_opens 19 = .ok (.iastore, 1) := by decide +kernel
theorem dX10_opens_20 : decode cX10_opens 20 = .ok (.aload_n 0, 1) := by decide +kernel
theorem dX10_opens_21 : decode cX10_opens 21 = .ok (.getfield 81, 3) := by decide +kernel
theorem dX10_opens_24 : decode cX10_opens 24 = .ok (.aload_n 0, 1) := by decide +kernel
theorem dX10_opens_25 : decode cX10_opens 25 = .ok (.getfield 228, 3) := by decide +kernel
theorem dX10_opens_28 : decode cX10_opens 28 = .ok (.iconst 0, 1) := by decide +kernel
theorem dX10_opens_29 : decode cX10_opens 29 = .ok (.iastore, 1) := by decide +kernel
theorem dX10_opens_30 : decode cX10_opens 30 = .ok (.return_, 1) := by decide +kernel
theorem dX10_partWord_0 : decode cX10_partWord 0 = .ok (.iconst 0, 1) := by decide +kernel
theorem dX10_partWord_1 : decode cX10_partWord 1 = .ok (.istore_n 1, 1) := by decide +kernel
theorem dX10_partWord_2 : decode cX10_partWord 2 = .ok (.iload_n 1, 1) := by decide +kernel
theorem dX10_partWord_3 : decode cX10_partWord 3 = .ok (.bipush 7, 2) := by decide +kernel
theorem dX10_partWord_5 : decode cX10_partWord 5 = .ok (.if_icmp .ge 21, 3) := by decide +kernel
theorem dX10_partWord_8 : decode cX10_partWord 8 = .ok (.aload_n 0, 1) := by decide +kernel
theorem dX10_partWord_9 : decode cX10_partWord 9 = .ok (.iconst 4, 1) := by decide +kernel
theorem dX10_partWord_10 : decode cX10_partWord 10 = .ok (.iload_n 1, 1) := by decide +kernel
theorem dX10_partWord_11 : decode cX10_partWord 11 = .ok (.iadd, 1) := by decide +kernel
theorem dX10_partWord_12 : decode cX10_partWord 12 = .ok (.invokevirtual 204, 3) := by decide +kernel
theorem dX10_partWord_15 : decode cX10_partWord 15 = .ok (.ifCond .eq 5, 3) := by decide +kernel
theorem dX10_partWord_18 : decode cX10_partWord 18 = .ok (.iload_n 1, 1) := by decide +kernel
theorem dX10_partWord_19 : decode cX10_partWord 19 = .ok (.ireturn, 1) := by decide +kernel
theorem dX10_partWord_20 : decode cX10_partWord 20 = .ok (.iinc 1 1, 3) := by decide +kernel
theorem dX10_partWord_23 : decode cX10_partWord 23 = .ok (.goto (-21), 3) := by decide +kernel
theorem dX10_partWord_26 : decode cX10_partWord 26 = .ok (.iconst (-1), 1) := by decide +kernel
theorem dX10_partWord_27 : decode cX10_partWord 27 = .ok (.ireturn, 1) := by decide +kernel
theorem dX10_part_0 : decode cX10_part 0 = .ok (.aload_n 0, 1) := by decide +kernel
theorem dX10_part_1 : decode cX10_part 1 = .ok (.invokevirtual 248, 3) := by decide +kernel
theorem dX10_part_4 : decode cX10_part 4 = .ok (.istore_n 1, 1) := by decide +kernel
theorem dX10_part_5 : decode cX10_part 5 = .ok (.aload_n 0, 1) := by decide +kernel
theorem dX10_part_6 : decode cX10_part 6 = .ok (.getfield 194, 3) := by decide +kernel
theorem dX10_part_9 : decode cX10_part 9 = .ok (.ifCond .ne 37, 3) := by decide +kernel
theorem dX10_part_12 : decode cX10_part 12 = .ok (.aload_n 0, 1) := by decide +kernel
theorem dX10_part_13 : decode cX10_part 13 = .ok (.getfield 24, 3) := by decide +kernel
theorem dX10_part_16 : decode cX10_part 16 = .ok (.aload_n 0, 1) := by decide +kernel
theorem dX10_part_17 : decode cX10_part 17 = .ok (.getfield 191, 3) := by decide +kernel
theorem dX10_part_20 : decode cX10_part 20 = .ok (.iaload, 1) := by decide +kernel
theorem dX10_part_21 : decode cX10_part 21 = .ok (.iconst 2, 1) := by decide +kernel
theorem dX10_part_22 : decode cX10_part 22 = .ok (.if_icmp .eq 24, 3) := by decide +kernel
theorem dX10_part_25 : decode cX10_part 25 = .ok (.aload_n 0, 1) := by decide +kernel
theorem dX10_part_26 : decode cX10_part 26 = .ok (.bipush 40, 2) := by decide +kernel
theorem dX10_part_28 : decode cX10_part 28 = .ok (.invokevirtual 197, 3) := by decide +kernel
theorem dX10_part_31 : decode cX10_part 31 = .ok (.ifCond .ne 15, 3) := by decide +kernel
theorem dX10_part_34 : decode cX10_part 34 = .ok (.iload_n 1, 1) := by decide +kernel
theorem dX10_part_35 : decode cX10_part 35 = .ok (.ifCond .ge 11, 3) := by decide +kernel
theorem dX10_part_38 : decode cX10_part 38 = .ok (.aload_n 0, 1) := by decide +kernel
theorem dX10_part_39 : decode cX10_part 39 = .ok (.iconst 1, 1) := by decide +kernel
theorem dX10_part_40 : decode cX10_part 40 = .ok (.invokevirtual 200, 3) := by decide +kernel
theorem dX10_part_43 : decode cX10_part 43 = .ok (.goto 16, 3) := by decide +kernel
theorem dX10_part_46 : decode cX10_part 46 = .ok (.aload_n 0, 1) := by decide +kernel
theorem dX10_part_47 : decode cX10_part 47 = .ok (.getfield 228, 3) := by decide +kernel
theorem dX10_part_50 : decode cX10_part 50 = .ok (.iconst 5, 1) := by decide +kernel
theorem dX10_part_51 : decode cX10_part 51 = .ok (.if_icmp .ne 8, 3) := by decide +kernel
theorem dX10_part_54 : decode cX10_part 54 = .ok (.aload_n 0, 1) := by decide +kernel
theorem dX10_part_55 : decode cX10_part 55 = .ok (.iconst 5, 1) := by decide +kernel
theorem dX10_part_56 : decode cX10_part 56 = .ok (.invokevirtual 200, 3) := by decide +kernel
theorem dX10_part_59 : decode cX10_part 59 = .ok (.aload_n 0, 1) := by decide +kernel
theorem dX10_part_60 : decode cX10_part 60 = .ok (.getfield 194, 3) := by decide +kernel
theorem dX10_part_63 : decode cX10_part 63 = .ok (.ifCond .le 5, 3) := by decide +kernel
theorem dX10_part_66 : decode cX10_part 66 = .ok (.iconst 0, 1) := by decide +kernel
theorem dX10_part_67 : decode cX10_part 67 = .ok (.ireturn, 1) := by decide +kernel
theorem dX10_part_68 : decode cX10_part 68 = .ok (.aload_n 0, 1) := by decide +kernel
theorem dX10_part_69 : decode cX10_part 69 = .ok (.bipush 40, 2) := by decide +kernel
theorem dX10_part_71 : decode cX10_part 71 = .ok (.invokevirtual 252, 3) := by decide +kernel
theorem dX10_part_74 : decode cX10_part 74 = .ok (.ifCond .eq 19, 3) := by decide +kernel
theorem dX10_part_77 : decode cX10_part 77 = .ok (.aload_n 0, 1) := by decide +kernel
theorem dX10_part_78 : decode cX10_part 78 = .ok (.dup, 1) := by decide +kernel
theorem dX10_part_79 : decode cX10_part 79 = .ok (.getfield 228, 3) := by decide +kernel
theorem dX10_part_82 : decode cX10_part 82 = .ok (.iconst 1, 1) := by decide +kernel
theorem dX10_part_83 : decode cX10_part 83 = .ok (.iadd, 1) := by decide +kernel
theorem dX10_part_84 : decode cX10_part 84 = .ok (.putfield 228, 3) := by decide +kernel
theorem dX10_part_87 : decode cX10_part 87 = .ok (.aload_n 0, 1) := by decide +kernel
theorem dX10_part_88 : decode cX10_part 88 = .ok (.invokevirtual 231, 3) := by decide +kernel
theorem dX10_part_91 : decode cX10_part 91 = .ok (.iconst 1, 1) := by decide +kernel
theorem dX10_part_92 : decode cX10_part 92 = .ok (.ireturn, 1) := by decide +kernel
theorem dX10_part_93 : decode cX10_part 93 = .ok (.aload_n 0, 1) := by decide +kernel
theorem dX10_part_94 : decode cX10_part 94 = .ok (.iload_n 1, 1) := by decide +kernel
theorem dX10_part_95 : decode cX10_part 95 = .ok (.ifCond .ge 7, 3) := by decide +kernel
theorem dX10_part_98 : decode cX10_part 98 = .ok (.iconst 1, 1) := by decide +kernel
theorem dX10_part_99 : decode cX10_part 99 = .ok (.goto 4, 3) := by decide +kernel
theorem dX10_part_102 : decode cX10_part 102 = .ok (.iconst 2, 1) := by decide +kernel
theorem dX10_part_103 : decode cX10_part 103 = .ok (.iload_n 1, 1) := by decide +kernel
theorem dX10_part_104 : decode cX10_part 104 = .ok (.ifCond .ge 16, 3) := by decide +kernel
theorem dX10_part_107 : decode cX10_part 107 = .ok (.aload_n 0, 1) := by decide +kernel
theorem dX10_part_108 : decode cX10_part 108 = .ok (.getfield 30, 3) := by decide +kernel
theorem dX10_part_111 : decode cX10_part 111 = .ok (.aload_n 0, 1) := by decide +kernel
theorem dX10_part_112 : decode cX10_part 112 = .ok (.getfield 191, 3) := by decide +kernel
theorem dX10_part_115 : decode cX10_part 115 = .ok (.laload, 1) := by decide +kernel
theorem dX10_part_116 : decode cX10_part 116 = .ok (.l2i, 1) := by decide +kernel
theorem dX10_part_117 : decode cX10_part 117 = .ok (.goto 4, 3) := by decide +kernel
theorem dX10_part_120 : decode cX10_part 120 = .ok (.iload_n 1, 1) := by decide +kernel
theorem dX10_part_121 : decode cX10_part 121 = .ok (.invokevirtual 241, 3) := by decide +kernel
theorem dX10_part_124 : decode cX10_part 124 = .ok (.aload_n 0, 1) := by decide +kernel
theorem dX10_part_125 : decode cX10_part 125 = .ok (.dup, 1) := by decide +kernel
theorem dX10_part_126 : decode cX10_part 126 = .ok (.getfield 191, 3) := by decide +kernel
theorem dX10_part_129 : decode cX10_part 129 = .ok (.iconst 1, 1) := by decide +kernel
theorem dX10_part_130 : decode cX10_part 130 = .ok (.iadd, 1) := by decide +kernel
theorem dX10_part_131 : decode cX10_part 131 = .ok (.putfield 191, 3) := by decide +kernel
theorem dX10_part_134 : decode cX10_part 134 = .ok (.iconst 0, 1) := by decide +kernel
theorem dX10_part_135 : decode cX10_part 135 = .ok (.ireturn, 1) := by decide +kernel
theorem dX10_goesOnBehind_0 : decode cX10_goesOnBehind 0 = .ok (.aload_n 0, 1) := by decide +kernel
theorem dX10_goesOnBehind_1 : decode cX10_goesOnBehind 1 = .ok (.getfield 194, 3) := by decide +kernel
theorem dX10_goesOnBehind_4 : decode cX10_goesOnBehind 4 = .ok (.ifCond .ne 273, 3) := by decide +kernel
theorem dX10_goesOnBehind_7 : decode cX10_goesOnBehind 7 = .ok (.aload_n 0, 1) := by decide +kernel
theorem dX10_goesOnBehind_8 : decode cX10_goesOnBehind 8 = .ok (.getfield 75, 3) := by decide +kernel
theorem dX10_goesOnBehind_11 : decode cX10_goesOnBehind 11 = .ok (.aload_n 0, 1) := by decide +kernel
theorem dX10_goesOnBehind_12 : decode cX10_goesOnBehind 12 = .ok (.getfield 228, 3) := by decide +kernel
theorem dX10_goesOnBehind_15 : decode cX10_goesOnBehind 15 = .ok (.iaload, 1) := by decide +kernel
theorem dX10_goesOnBehind_16 : decode cX10_goesOnBehind 16 = .ok (.ifCond .eq 27, 3) := by decide +kernel
theorem dX10_goesOnBehind_19 : decode cX10_goesOnBehind 19 = .ok (.aload_n 0, 1) := by decide +kernel
theorem dX10_goesOnBehind_20 : decode cX10_goesOnBehind 20 = .ok (.aload_n 0, 1) := by decide +kernel
theorem dX10_goesOnBehind_21 : decode cX10_goesOnBehind 21 = .ok (.getfield 75, 3) := by decide +kernel
theorem dX10_goesOnBehind_24 : decode cX10_goesOnBehind 24 = .ok (.aload_n 0, 1) := by decide +kernel
theorem dX10_goesOnBehind_25 : decode cX10_goesOnBehind 25 = .ok (.getfield 228, 3) := by decide +kernel
theorem dX10_goesOnBehind_28 : decode cX10_goesOnBehind 28 = .ok (.iaload, 1) := by decide +kernel
theorem dX10_goesOnBehind_29 : decode cX10_goesOnBehind 29 = .ok (.iconst 0, 1) := by decide +kernel
theorem dX10_goesOnBehind_30 : decode cX10_goesOnBehind 30 = .ok (.invokevirtual 241, 3) := by decide +kernel
theorem dX10_goesOnBehind_33 : decode cX10_goesOnBehind 33 = .ok (.aload_n 0, 1) := by decide +kernel
theorem dX10_goesOnBehind_34 : decode cX10_goesOnBehind 34 = .ok (.getfield 75, 3) := by decide +kernel
theorem dX10_goesOnBehind_37 : decode cX10_goesOnBehind 37 = .ok (.aload_n 0, 1) := by decide +kernel
theorem dX10_goesOnBehind_38 : decode cX10_goesOnBehind 38 = .ok (.getfield 228, 3) := by decide +kernel
theorem dX10_goesOnBehind_41 : decode cX10_goesOnBehind 41 = .ok (.iconst 0, 1) := by decide +kernel
theorem dX10_goesOnBehind_42 : decode cX10_goesOnBehind 42 = .ok (.iastore, 1) := by decide +kernel
theorem dX10_goesOnBehind_43 : decode cX10_goesOnBehind 43 = .ok (.aload_n 0, 1) := by decide +kernel
theorem dX10_goesOnBehind_44 : decode cX10_goesOnBehind 44 = .ok (.bipush 43, 2) := by decide +kernel
theorem dX10_goesOnBehind_46 : decode cX10_goesOnBehind 46 = .ok (.invokevirtual 197, 3) := by decide +kernel
theorem dX10_goesOnBehind_49 : decode cX10_goesOnBehind 49 = .ok (.ifCond .ne 12, 3) := by decide +kernel
theorem dX10_goesOnBehind_52 : decode cX10_goesOnBehind 52 = .ok (.aload_n 0, 1) := by decide +kernel
theorem dX10_goesOnBehind_53 : decode cX10_goesOnBehind 53 = .ok (.bipush 45, 2) := by decide +kernel
theorem dX10_goesOnBehind_55 : decode cX10_goesOnBehind 55 = .ok (.invokevirtual 197, 3) := by decide +kernel
theorem dX10_goesOnBehind_58 : decode cX10_goesOnBehind 58 = .ok (.ifCond .eq 38, 3) := by decide +kernel
theorem dX10_goesOnBehind_61 : decode cX10_goesOnBehind 61 = .ok (.aload_n 0, 1) := by decide +kernel
theorem dX10_goesOnBehind_62 : decode cX10_goesOnBehind 62 = .ok (.getfield 75, 3) := by decide +kernel
theorem dX10_goesOnBehind_65 : decode cX10_goesOnBehind 65 = .ok (.aload_n 0, 1) := by decide +kernel
theorem dX10_goesOnBehind_66 : decode cX10_goesOnBehind 66 = .ok (.getfield 228, 3) := by decide +kernel
theorem dX10_goesOnBehind_69 : decode cX10_goesOnBehind 69 = .ok (.aload_n 0, 1) := by decide +kernel
theorem dX10_goesOnBehind_70 : decode cX10_goesOnBehind 70 = .ok (.bipush 43, 2) := by decide +kernel
theorem dX10_goesOnBehind_72 : decode cX10_goesOnBehind 72 = .ok (.invokevirtual 197, 3) := by decide +kernel
theorem dX10_goesOnBehind_75 : decode cX10_goesOnBehind 75 = .ok (.ifCond .eq 7, 3) := by decide +kernel
theorem dX10_goesOnBehind_78 : decode cX10_goesOnBehind 78 = .ok (.iconst 3, 1) := by decide +kernel
theorem dX10_goesOnBehind_79 : decode cX10_goesOnBehind 79 = .ok (.goto 4, 3) := by decide +kernel
theorem dX10_goesOnBehind_82 : decode cX10_goesOnBehind 82 = .ok (.iconst 4, 1) := by decide +kernel
theorem dX10_goesOnBehind_83 : decode cX10_goesOnBehind 83 = .ok (.iastore, 1) := by decide +kernel
theorem dX10_goesOnBehind_84 : decode cX10_goesOnBehind 84 = .ok (.aload_n 0, 1) := by decide +kernel
theorem dX10_goesOnBehind_85 : decode cX10_goesOnBehind 85 = .ok (.dup, 1) := by decide +kernel
theorem dX10_goesOnBehind_86 : decode cX10_goesOnBehind 86 = .ok (.getfield 191, 3) := by decide +kernel
theorem dX10_goesOnBehind_89 : decode cX10_goesOnBehind 89 = .ok (.iconst 1, 1) := by decide +kernel
theorem dX10_goesOnBehind_90 : decode cX10_goesOnBehind 90 = .ok (.iadd, 1) := by decide +kernel
theorem dX10_goesOnBehind_91 : decode cX10_goesOnBehind 91 = .ok (.putfield 191, 3) := by decide +kernel
theorem dX10_goesOnBehind_94 : decode cX10_goesOnBehind 94 = .ok (.iconst 1, 1) := by decide +kernel
theorem dX10_goesOnBehind_95 : decode cX10_goesOnBehind 95 = .ok (.ireturn, 1) := by decide +kernel
theorem dX10_goesOnBehind_96 : decode cX10_goesOnBehind 96 = .ok (.aload_n 0, 1) := by decide +kernel
theorem dX10_goesOnBehind_97 : decode cX10_goesOnBehind 97 = .ok (.getfield 78, 3) := by decide +kernel
theorem dX10_goesOnBehind_100 : decode cX10_goesOnBehind 100 = .ok (.aload_n 0, 1) := by decide +kernel
theorem dX10_goesOnBehind_101 : decode cX10_goesOnBehind 101 = .ok (.getfield 228, 3) := by decide +kernel
theorem dX10_goesOnBehind_104 : decode cX10_goesOnBehind 104 = .ok (.iaload, 1) := by decide +kernel
theorem dX10_goesOnBehind_105 : decode cX10_goesOnBehind 105 = .ok (.ifCond .eq 30, 3) := by decide +kernel
theorem dX10_goesOnBehind_108 : decode cX10_goesOnBehind 108 = .ok (.aload_n 0, 1) := by decide +kernel
theorem dX10_goesOnBehind_109 : decode cX10_goesOnBehind 109 = .ok (.aload_n 0, 1) := by decide +kernel
theorem dX10_goesOnBehind_110 : decode cX10_goesOnBehind 110 = .ok (.getfield 78, 3) := by decide +kernel
theorem dX10_goesOnBehind_113 : decode cX10_goesOnBehind 113 = .ok (.aload_n 0, 1) := by decide +kernel
theorem dX10_goesOnBehind_114 : decode cX10_goesOnBehind 114 = .ok (.getfield 228, 3) := by decide +kernel
theorem dX10_goesOnBehind_117 : decode cX10_goesOnBehind 117 = .ok (.iaload, 1) := by decide +kernel
theorem dX10_goesOnBehind_118 : decode cX10_goesOnBehind 118 = .ok (.iconst 0, 1) := by decide +kernel
theorem dX10_goesOnBehind_119 : decode cX10_goesOnBehind 119 = .ok (.invokevirtual 241, 3) := by decide +kernel
theorem dX10_goesOnBehind_122 : decode cX10_goesOnBehind 122 = .ok (.aload_n 0, 1) := by decide +kernel
theorem dX10_goesOnBehind_123 : decode cX10_goesOnBehind 123 = .ok (.getfield 78, 3) := by decide +kernel
theorem dX10_goesOnBehind_126 : decode cX10_goesOnBehind 126 = .ok (.aload_n 0, 1) := by decide +kernel
theorem dX10_goesOnBehind_127 : decode cX10_goesOnBehind 127 = .ok (.getfield 228, 3) := by decide +kernel
theorem dX10_goesOnBehind_130 : decode cX10_goesOnBehind 130 = .ok (.iconst 0, 1) := by decide +kernel
theorem dX10_goesOnBehind_131 : decode cX10_goesOnBehind 131 = .ok (.iastore, 1) := by decide +kernel
theorem dX10_goesOnBehind_132 : decode cX10_goesOnBehind 132 = .ok (.goto 57, 3) := by decide +kernel
theorem dX10_goesOnBehind_135 : decode cX10_goesOnBehind 135 = .ok (.aload_n 0, 1) := by decide +kernel
theorem dX10_goesOnBehind_136 : decode cX10_goesOnBehind 136 = .ok (.bipush 60, 2) := by decide +kernel
theorem dX10_goesOnBehind_138 : decode cX10_goesOnBehind 138 = .ok (.invokevirtual 197, 3) := by decide +kernel
theorem dX10_goesOnBehind_141 : decode cX10_goesOnBehind 141 = .ok (.ifCond .ne 12, 3) := by decide +kernel
theorem dX10_goesOnBehind_144 : decode cX10_goesOnBehind 144 = .ok (.aload_n 0, 1) := by decide +kernel
theorem dX10_goesOnBehind_145 : decode cX10_goesOnBehind 145 = .ok (.bipush 61, 2) := by decide +kernel
theorem dX10_goesOnBehind_147 : decode cX10_goesOnBehind 147 = .ok (.invokevirtual 197, 3) := by decide +kernel
theorem dX10_goesOnBehind_150 : decode cX10_goesOnBehind 150 = .ok (.ifCond .eq 39, 3) := by decide +kernel
theorem dX10_goesOnBehind_153 : decode cX10_goesOnBehind 153 = .ok (.aload_n 0, 1) := by decide +kernel
theorem dX10_goesOnBehind_154 : decode cX10_goesOnBehind 154 = .ok (.getfield 78, 3) := by decide +kernel
theorem dX10_goesOnBehind_157 : decode cX10_goesOnBehind 157 = .ok (.aload_n 0, 1) := by decide +kernel
theorem dX10_goesOnBehind_158 : decode cX10_goesOnBehind 158 = .ok (.getfield 228, 3) := by decide +kernel
theorem dX10_goesOnBehind_161 : decode cX10_goesOnBehind 161 = .ok (.aload_n 0, 1) := by decide +kernel
theorem dX10_goesOnBehind_162 : decode cX10_goesOnBehind 162 = .ok (.bipush 60, 2) := by decide +kernel
theorem dX10_goesOnBehind_164 : decode cX10_goesOnBehind 164 = .ok (.invokevirtual 197, 3) := by decide +kernel
theorem dX10_goesOnBehind_167 : decode cX10_goesOnBehind 167 = .ok (.ifCond .eq 7, 3) := by decide +kernel
theorem dX10_goesOnBehind_170 : decode cX10_goesOnBehind 170 = .ok (.iconst 5, 1) := by decide +kernel
theorem dX10_goesOnBehind_171 : decode cX10_goesOnBehind 171 = .ok (.goto 5, 3) := by decide +kernel
theorem dX10_goesOnBehind_174 : decode cX10_goesOnBehind 174 = .ok (.bipush 6, 2) := by decide +kernel
theorem dX10_goesOnBehind_176 : decode cX10_goesOnBehind 176 = .ok (.iastore, 1) := by decide +kernel
theorem dX10_goesOnBehind_177 : decode cX10_goesOnBehind 177 = .ok (.aload_n 0, 1) := by decide +kernel
theorem dX10_goesOnBehind_178 : decode cX10_goesOnBehind 178 = .ok (.dup, 1) := by decide +kernel
theorem dX10_goesOnBehind_179 : decode cX10_goesOnBehind 179 = .ok (.getfield 191, 3) := by decide +kernel
theorem dX10_goesOnBehind_182 : decode cX10_goesOnBehind 182 = .ok (.iconst 1, 1) := by decide +kernel
theorem dX10_goesOnBehind_183 : decode cX10_goesOnBehind 183 = .ok (.iadd, 1) := by decide +kernel
theorem dX10_goesOnBehind_184 : decode cX10_goesOnBehind 184 = .ok (.putfield 191, 3) := by decide +kernel
theorem dX10_goesOnBehind_187 : decode cX10_goesOnBehind 187 = .ok (.iconst 1, 1) := by decide +kernel
theorem dX10_goesOnBehind_188 : decode cX10_goesOnBehind 188 = .ok (.ireturn, 1) := by decide +kernel
theorem dX10_goesOnBehind_189 : decode cX10_goesOnBehind 189 = .ok (.aload_n 0, 1) := by decide +kernel
theorem dX10_goesOnBehind_190 : decode cX10_goesOnBehind 190 = .ok (.getfield 81, 3) := by decide +kernel
theorem dX10_goesOnBehind_193 : decode cX10_goesOnBehind 193 = .ok (.aload_n 0, 1) := by decide +kernel
theorem dX10_goesOnBehind_194 : decode cX10_goesOnBehind 194 = .ok (.getfield 228, 3) := by decide +kernel
theorem dX10_goesOnBehind_197 : decode cX10_goesOnBehind 197 = .ok (.iaload, 1) := by decide +kernel
theorem dX10_goesOnBehind_198 : decode cX10_goesOnBehind 198 = .ok (.ifCond .eq 20, 3) := by decide +kernel
theorem dX10_goesOnBehind_201 : decode cX10_goesOnBehind 201 = .ok (.aload_n 0, 1) := by decide +kernel
theorem dX10_goesOnBehind_202 : decode cX10_goesOnBehind 202 = .ok (.bipush 7, 2) := by decide +kernel
theorem dX10_goesOnBehind_204 : decode cX10_goesOnBehind 204 = .ok (.iconst 0, 1) := by decide +kernel
theorem dX10_goesOnBehind_205 : decode cX10_goesOnBehind 205 = .ok (.invokevirtual 241, 3) := by decide +kernel
theorem dX10_goesOnBehind_208 : decode cX10_goesOnBehind 208 = .ok (.aload_n 0, 1) := by decide +kernel
theorem dX10_goesOnBehind_209 : decode cX10_goesOnBehind 209 = .ok (.getfield 81, 3) := by decide +kernel
theorem dX10_goesOnBehind_212 : decode cX10_goesOnBehind 212 = .ok (.aload_n 0, 1) := by decide +kernel
theorem dX10_goesOnBehind_213 : decode cX10_goesOnBehind 213 = .ok (.getfield 228, 3) := by decide +kernel
theorem dX10_goesOnBehind_216 : decode cX10_goesOnBehind 216 = .ok (.iconst 0, 1) := by decide +kernel
theorem dX10_goesOnBehind_217 : decode cX10_goesOnBehind 217 = .ok (.iastore, 1) := by decide +kernel
theorem dX10_goesOnBehind_218 : decode cX10_goesOnBehind 218 = .ok (.aload_n 0, 1) := by decide +kernel
theorem dX10_goesOnBehind_219 : decode cX10_goesOnBehind 219 = .ok (.iconst 3, 1) := by decide +kernel
theorem dX10_goesOnBehind_220 : decode cX10_goesOnBehind 220 = .ok (.invokevirtual 204, 3) := by decide +kernel
theorem dX10_goesOnBehind_223 : decode cX10_goesOnBehind 223 = .ok (.ifCond .eq 26, 3) := by decide +kernel
theorem dX10_goesOnBehind_226 : decode cX10_goesOnBehind 226 = .ok (.aload_n 0, 1) := by decide +kernel
theorem dX10_goesOnBehind_227 : decode cX10_goesOnBehind 227 = .ok (.getfield 81, 3) := by decide +kernel
theorem dX10_goesOnBehind_230 : decode cX10_goesOnBehind 230 = .ok (.aload_n 0, 1) := by decide +kernel
theorem dX10_goesOnBehind_231 : decode cX10_goesOnBehind 231 = .ok (.getfield 228, 3) := by decide +kernel
theorem dX10_goesOnBehind_234 : decode cX10_goesOnBehind 234 = .ok (.bipush 7, 2) := by decide +kernel
theorem dX10_goesOnBehind_236 : decode cX10_goesOnBehind 236 = .ok (.iastore, 1) := by decide +kernel
theorem dX10_goesOnBehind_237 : decode cX10_goesOnBehind 237 = .ok (.aload_n 0, 1) := by decide +kernel
theorem dX10_goesOnBehind_238 : decode cX10_goesOnBehind 238 = .ok (.dup, 1) := by decide +kernel
theorem dX10_goesOnBehind_239 : decode cX10_goesOnBehind 239 = .ok (.getfield 191, 3) := by decide +kernel
theorem dX10_goesOnBehind_242 : decode cX10_goesOnBehind 242 = .ok (.iconst 1, 1) := by decide +kernel
theorem dX10_goesOnBehind_243 : decode cX10_goesOnBehind 243 = .ok (.iadd, 1) := by decide +kernel
theorem dX10_goesOnBehind_244 : decode cX10_goesOnBehind 244 = .ok (.putfield 191, 3) := by decide +kernel
theorem dX10_goesOnBehind_247 : decode cX10_goesOnBehind 247 = .ok (.iconst 1, 1) := by decide +kernel
theorem dX10_goesOnBehind_248 : decode cX10_goesOnBehind 248 = .ok (.ireturn, 1) := by decide +kernel
theorem dX10_goesOnBehind_249 : decode cX10_goesOnBehind 249 = .ok (.aload_n 0, 1) := by decide +kernel
theorem dX10_goesOnBehind_250 : decode cX10_goesOnBehind 250 = .ok (.getfield 228, 3) := by decide +kernel
theorem dX10_goesOnBehind_253 : decode cX10_goesOnBehind 253 = .ok (.ifCond .ne 5, 3) := by decide +kernel
theorem dX10_goesOnBehind_256 : decode cX10_goesOnBehind 256 = .ok (.iconst 0, 1) := by decide +kernel
theorem dX10_goesOnBehind_257 : decode cX10_goesOnBehind 257 = .ok (.ireturn, 1) := by decide +kernel
theorem dX10_goesOnBehind_258 : decode cX10_goesOnBehind 258 = .ok (.aload_n 0, 1) := by decide +kernel
theorem dX10_goesOnBehind_259 : decode cX10_goesOnBehind 259 = .ok (.bipush 41, 2) := by decide +kernel
theorem dX10_goesOnBehind_261 : decode cX10_goesOnBehind 261 = .ok (.invokevirtual 245, 3) := by decide +kernel
theorem dX10_goesOnBehind_264 : decode cX10_goesOnBehind 264 = .ok (.aload_n 0, 1) := by decide +kernel
theorem dX10_goesOnBehind_265 : decode cX10_goesOnBehind 265 = .ok (.dup, 1) := by decide +kernel
theorem dX10_goesOnBehind_266 : decode cX10_goesOnBehind 266 = .ok (.getfield 228, 3) := by decide +kernel
theorem dX10_goesOnBehind_269 : decode cX10_goesOnBehind 269 = .ok (.iconst 1, 1) := by decide +kernel
theorem dX10_goesOnBehind_270 : decode cX10_goesOnBehind 270 = .ok (.isub, 1) := by decide +kernel
theorem dX10_goesOnBehind_271 : decode cX10_goesOnBehind 271 = .ok (.putfield 228, 3) := by decide +kernel
theorem dX10_goesOnBehind_274 : decode cX10_goesOnBehind 274 = .ok (.goto (-274), 3) := by decide +kernel
theorem dX10_goesOnBehind_277 : decode cX10_goesOnBehind 277 = .ok (.iconst 0, 1) := by decide +kernel
theorem dX10_goesOnBehind_278 : decode cX10_goesOnBehind 278 = .ok (.ireturn, 1) := by decide +kernel
theorem dX10_worth_0 : decode cX10_worth 0 = .ok (.iload_n 1, 1) := by decide +kernel
theorem dX10_worth_1 : decode cX10_worth 1 = .ok (.istore_n 2, 1) := by decide +kernel
theorem dX10_worth_2 : decode cX10_worth 2 = .ok (.iconst 0, 1) := by decide +kernel
theorem dX10_worth_3 : decode cX10_worth 3 = .ok (.istore_n 3, 1) := by decide +kernel
theorem dX10_worth_4 : decode cX10_worth 4 = .ok (.aload_n 0, 1) := by decide +kernel
theorem dX10_worth_5 : decode cX10_worth 5 = .ok (.getfield 69, 3) := by decide +kernel
theorem dX10_worth_8 : decode cX10_worth 8 = .ok (.iload_n 2, 1) := by decide +kernel
theorem dX10_worth_9 : decode cX10_worth 9 = .ok (.iaload, 1) := by decide +kernel
theorem dX10_worth_10 : decode cX10_worth 10 = .ok (.ifCond .eq 182, 3) := by decide +kernel
theorem dX10_worth_13 : decode cX10_worth 13 = .ok (.aload_n 0, 1) := by decide +kernel
theorem dX10_worth_14 : decode cX10_worth 14 = .ok (.getfield 69, 3) := by decide +kernel
theorem dX10_worth_17 : decode cX10_worth 17 = .ok (.iload_n 2, 1) := by decide +kernel
theorem dX10_worth_18 : decode cX10_worth 18 = .ok (.iaload, 1) := by decide +kernel
theorem dX10_worth_19 : decode cX10_worth 19 = .ok (.istore 4, 2) := by decide +kernel
theorem dX10_worth_21 : decode cX10_worth 21 = .ok (.iload 4, 2) := by decide +kernel
theorem dX10_worth_23 : decode cX10_worth 23 = .ok (.iconst 1, 1) := by decide +kernel
theorem dX10_worth_24 : decode cX10_worth 24 = .ok (.if_icmp .eq 9, 3) := by decide +kernel
theorem dX10_worth_27 : decode cX10_worth 27 = .ok (.iload 4, 2) := by decide +kernel
theorem dX10_worth_29 : decode cX10_worth 29 = .ok (.iconst 2, 1) := by decide +kernel
theorem dX10_worth_30 : decode cX10_worth 30 = .ok (.if_icmp .ne 41, 3) := by decide +kernel
theorem dX10_worth_33 : decode cX10_worth 33 = .ok (.aload_n 0, 1) := by decide +kernel
theorem dX10_worth_34 : decode cX10_worth 34 = .ok (.getfield 87, 3) := by decide +kernel
theorem dX10_worth_37 : decode cX10_worth 37 = .ok (.iload_n 3, 1) := by decide +kernel
theorem dX10_worth_38 : decode cX10_worth 38 = .ok (.iload 4, 2) := by decide +kernel
theorem dX10_worth_40 : decode cX10_worth 40 = .ok (.iconst 1, 1) := by decide +kernel
theorem dX10_worth_41 : decode cX10_worth 41 = .ok (.if_icmp .ne 12, 3) := by decide +kernel
theorem dX10_worth_44 : decode cX10_worth 44 = .ok (.aload_n 0, 1) := by decide +kernel
theorem dX10_worth_45 : decode cX10_worth 45 = .ok (.getfield 72, 3) := by decide +kernel
theorem dX10_worth_48 : decode cX10_worth 48 = .ok (.iload_n 2, 1) := by decide +kernel
theorem dX10_worth_49 : decode cX10_worth 49 = .ok (.iaload, 1) := by decide +kernel
theorem dX10_worth_50 : decode cX10_worth 50 = .ok (.goto 14, 3) := by decide +kernel
theorem dX10_worth_53 : decode cX10_worth 53 = .ok (.aload_n 0, 1) := by decide +kernel
theorem dX10_worth_54 : decode cX10_worth 54 = .ok (.getfield 84, 3) := by decide +kernel
theorem dX10_worth_57 : decode cX10_worth 57 = .ok (.aload_n 0, 1) := by decide +kernel
theorem dX10_worth_58 : decode cX10_worth 58 = .ok (.getfield 72, 3) := by decide +kernel
theorem dX10_worth_61 : decode cX10_worth 61 = .ok (.iload_n 2, 1) := by decide +kernel
theorem dX10_worth_62 : decode cX10_worth 62 = .ok (.iaload, 1) := by decide +kernel
theorem dX10_worth_63 : decode cX10_worth 63 = .ok (.iaload, 1) := by decide +kernel
theorem dX10_worth_64 : decode cX10_worth 64 = .ok (.iastore, 1) := by decide +kernel
theorem dX10_worth_65 : decode cX10_worth 65 = .ok (.iinc 3 1, 3) := by decide +kernel
theorem dX10_worth_68 : decode cX10_worth 68 = .ok (.goto 118, 3) := by decide +kernel
theorem dX10_worth_71 : decode cX10_worth 71 = .ok (.iinc 3 (-1), 3) := by decide +kernel
theorem dX10_worth_74 : decode cX10_worth 74 = .ok (.aload_n 0, 1) := by decide +kernel
theorem dX10_worth_75 : decode cX10_worth 75 = .ok (.getfield 87, 3) := by decide +kernel
theorem dX10_worth_78 : decode cX10_worth 78 = .ok (.iload_n 3, 1) := by decide +kernel
theorem dX10_worth_79 : decode cX10_worth 79 = .ok (.iaload, 1) := by decide +kernel
theorem dX10_worth_80 : decode cX10_worth 80 = .ok (.istore 5, 2) := by decide +kernel
theorem dX10_worth_82 : decode cX10_worth 82 = .ok (.aload_n 0, 1) := by decide +kernel
theorem dX10_worth_83 : decode cX10_worth 83 = .ok (.getfield 87, 3) := by decide +kernel
theorem dX10_worth_86 : decode cX10_worth 86 = .ok (.iload_n 3, 1) := by decide +kernel
theorem dX10_worth_87 : decode cX10_worth 87 = .ok (.iconst 1, 1) := by decide +kernel
theorem dX10_worth_88 : decode cX10_worth 88 = .ok (.isub, 1) := by decide +kernel
theorem dX10_worth_89 : decode cX10_worth 89 = .ok (.iaload, 1) := by decide +kernel
theorem dX10_worth_90 : decode cX10_worth 90 = .ok (.istore 6, 2) := by decide +kernel
theorem dX10_worth_92 : decode cX10_worth 92 = .ok (.aload_n 0, 1) := by decide +kernel
theorem dX10_worth_93 : decode cX10_worth 93 = .ok (.getfield 87, 3) := by decide +kernel
theorem dX10_worth_96 : decode cX10_worth 96 = .ok (.iload_n 3, 1) := by decide +kernel
theorem dX10_worth_97 : decode cX10_worth 97 = .ok (.iconst 1, 1) := by decide +kernel
theorem dX10_worth_98 : decode cX10_worth 98 = .ok (.isub, 1) := by decide +kernel
theorem dX10_worth_99 : decode cX10_worth 99 = .ok (.iload 4, 2) := by decide +kernel
theorem dX10_worth_101 : decode cX10_worth 101 = .ok (.iconst 3, 1) := by decide +kernel
theorem dX10_worth_102 : decode cX10_worth 102 = .ok (.if_icmp .ne 11, 3) := by decide +kernel
theorem dX10_worth_105 : decode cX10_worth 105 = .ok (.iload 6, 2) := by decide +kernel
theorem dX10_worth_107 : decode cX10_worth 107 = .ok (.iload 5, 2) := by decide +kernel
theorem dX10_worth_109 : decode cX10_worth 109 = .ok (.iadd, 1) := by decide +kernel
theorem dX10_worth_110 : decode cX10_worth 110 = .ok (.goto 75, 3) := by decide +kernel
theorem dX10_worth_113 : decode cX10_worth 113 = .ok (.iload 4, 2) := by decide +kernel
theorem dX10_worth_115 : decode cX10_worth 115 = .ok (.iconst 4, 1) := by decide +kernel
theorem dX10_worth_116 : decode cX10_worth 116 = .ok (.if_icmp .ne 11, 3) := by decide +kernel
theorem dX10_worth_119 : decode cX10_worth 119 = .ok (.iload 6, 2) := by decide +kernel
theorem dX10_worth_121 : decode cX10_worth 121 = .ok (.iload 5, 2) := by decide +kernel
theorem dX10_worth_123 : decode cX10_worth 123 = .ok (.isub, 1) := by decide +kernel
theorem dX10_worth_124 : decode cX10_worth 124 = .ok (.goto 61, 3) := by decide +kernel
theorem dX10_worth_127 : decode cX10_worth 127 = .ok (.iload 4, 2) := by decide +kernel
theorem dX10_worth_129 : decode cX10_worth 129 = .ok (.iconst 5, 1) := by decide +kernel
theorem dX10_worth_130 : decode cX10_worth 130 = .ok (.if_icmp .ne 18, 3) := by decide +kernel
theorem dX10_worth_133 : decode cX10_worth 133 = .ok (.iload 6, 2) := by decide +kernel
theorem dX10_worth_135 : decode cX10_worth 135 = .ok (.iload 5, 2) := by decide +kernel
theorem dX10_worth_137 : decode cX10_worth 137 = .ok (.if_icmp .ge 7, 3) := by decide +kernel
theorem dX10_worth_140 : decode cX10_worth 140 = .ok (.iconst 1, 1) := by decide +kernel
theorem dX10_worth_141 : decode cX10_worth 141 = .ok (.goto 44, 3) := by decide +kernel
theorem dX10_worth_144 : decode cX10_worth 144 = .ok (.iconst 0, 1) := by decide +kernel
theorem dX10_worth_145 : decode cX10_worth 145 = .ok (.goto 40, 3) := by decide +kernel
theorem dX10_worth_148 : decode cX10_worth 148 = .ok (.iload 4, 2) := by decide +kernel
theorem dX10_worth_150 : decode cX10_worth 150 = .ok (.bipush 6, 2) := by decide +kernel
theorem dX10_worth_152 : decode cX10_worth 152 = .ok (.if_icmp .ne 18, 3) := by decide +kernel
theorem dX10_worth_155 : decode cX10_worth 155 = .ok (.iload 6, 2) := by decide +kernel
theorem dX10_worth_157 : decode cX10_worth 157 = .ok (.iload 5, 2) := by decide +kernel
theorem dX10_worth_159 : decode cX10_worth 159 = .ok (.if_icmp .ne 7, 3) := by decide +kernel
theorem dX10_worth_162 : decode cX10_worth 162 = .ok (.iconst 1, 1) := by decide +kernel
theorem dX10_worth_163 : decode cX10_worth 163 = .ok (.goto 22, 3) := by decide +kernel
theorem dX10_worth_166 : decode cX10_worth 166 = .ok (.iconst 0, 1) := by decide +kernel
theorem dX10_worth_167 : decode cX10_worth 167 = .ok (.goto 18, 3) := by decide +kernel
theorem dX10_worth_170 : decode cX10_worth 170 = .ok (.iload 6, 2) := by decide +kernel
theorem dX10_worth_172 : decode cX10_worth 172 = .ok (.ifCond .eq 12, 3) := by decide +kernel
theorem dX10_worth_175 : decode cX10_worth 175 = .ok (.iload 5, 2) := by decide +kernel
theorem dX10_worth_177 : decode cX10_worth 177 = .ok (.ifCond .eq 7, 3) := by decide +kernel
theorem dX10_worth_180 : decode cX10_worth 180 = .ok (.iconst 1, 1) := by decide +kernel
theorem dX10_worth_181 : decode cX10_worth 181 = .ok (.goto 4, 3) := by decide +kernel
theorem dX10_worth_184 : decode cX10_worth 184 = .ok (.iconst 0, 1) := by decide +kernel
theorem dX10_worth_185 : decode cX10_worth 185 = .ok (.iastore, 1) := by decide +kernel
theorem dX10_worth_186 : decode cX10_worth 186 = .ok (.iinc 2 1, 3) := by decide +kernel
theorem dX10_worth_189 : decode cX10_worth 189 = .ok (.goto (-185), 3) := by decide +kernel
theorem dX10_worth_192 : decode cX10_worth 192 = .ok (.aload_n 0, 1) := by decide +kernel
theorem dX10_worth_193 : decode cX10_worth 193 = .ok (.getfield 87, 3) := by decide +kernel
theorem dX10_worth_196 : decode cX10_worth 196 = .ok (.iconst 0, 1) := by decide +kernel
theorem dX10_worth_197 : decode cX10_worth 197 = .ok (.iaload, 1) := by decide +kernel
theorem dX10_worth_198 : decode cX10_worth 198 = .ok (.ireturn, 1) := by decide +kernel
theorem dX10_days_0 : decode cX10_days 0 = .ok (.aload_n 0, 1) := by decide +kernel
theorem dX10_days_1 : decode cX10_days 1 = .ok (.iconst 0, 1) := by decide +kernel
theorem dX10_days_2 : decode cX10_days 2 = .ok (.putfield 1, 3) := by decide +kernel
theorem dX10_days_5 : decode cX10_days 5 = .ok (.iload_n 1, 1) := by decide +kernel
theorem dX10_days_6 : decode cX10_days 6 = .ok (.ifCond .lt 22, 3) := by decide +kernel
theorem dX10_days_9 : decode cX10_days 9 = .ok (.iload_n 1, 1) := by decide +kernel
theorem dX10_days_10 : decode cX10_days 10 = .ok (.sipush 1000, 3) := by decide +kernel
theorem dX10_days_13 : decode cX10_days 13 = .ok (.if_icmp .gt 15, 3) := by decide +kernel
theorem dX10_days_16 : decode cX10_days 16 = .ok (.aload_n 0, 1) := by decide +kernel
theorem dX10_days_17 : decode cX10_days 17 = .ok (.getfield 255, 3) := by decide +kernel
theorem dX10_days_20 : decode cX10_days 20 = .ok (.iload_n 1, 1) := by decide +kernel
theorem dX10_days_21 : decode cX10_days 21 = .ok (.iadd, 1) := by decide +kernel
theorem dX10_days_22 : decode cX10_days 22 = .ok (.sipush 9999, 3) := by decide +kernel
theorem dX10_days_25 : decode cX10_days 25 = .ok (.if_icmp .le 5, 3) := by decide +kernel
theorem dX10_days_28 : decode cX10_days 28 = .ok (.iconst (-1), 1) := by decide +kernel
theorem dX10_days_29 : decode cX10_days 29 = .ok (.ireturn, 1) := by decide +kernel
theorem dX10_days_30 : decode cX10_days 30 = .ok (.aload_n 0, 1) := by decide +kernel
theorem dX10_days_31 : decode cX10_days 31 = .ok (.dup, 1) := by decide +kernel
theorem dX10_days_32 : decode cX10_days 32 = .ok (.getfield 255, 3) := by decide +kernel
theorem dX10_days_35 : decode cX10_days 35 = .ok (.iload_n 1, 1) := by decide +kernel
theorem dX10_days_36 : decode cX10_days 36 = .ok (.iadd, 1) := by decide +kernel
theorem dX10_days_37 : decode cX10_days 37 = .ok (.putfield 255, 3) := by decide +kernel
theorem dX10_days_40 : decode cX10_days 40 = .ok (.aload_n 0, 1) := by decide +kernel
theorem dX10_days_41 : decode cX10_days 41 = .ok (.getfield 255, 3) := by decide +kernel
theorem dX10_days_44 : decode cX10_days 44 = .ok (.ireturn, 1) := by decide +kernel
theorem dX10_isPlant_0 : decode cX10_isPlant 0 = .ok (.iload_n 1, 1) := by decide +kernel
theorem dX10_isPlant_1 : decode cX10_isPlant 1 = .ok (.ifCond .lt 15, 3) := by decide +kernel
theorem dX10_isPlant_4 : decode cX10_isPlant 4 = .ok (.iload_n 1, 1) := by decide +kernel
theorem dX10_isPlant_5 : decode cX10_isPlant 5 = .ok (.aload_n 0, 1) := by decide +kernel
theorem dX10_isPlant_6 : decode cX10_isPlant 6 = .ok (.getfield 258, 3) := by decide +kernel
theorem dX10_isPlant_9 : decode cX10_isPlant 9 = .ok (.if_icmp .ge 7, 3) := by decide +kernel
theorem dX10_isPlant_12 : decode cX10_isPlant 12 = .ok (.iconst 1, 1) := by decide +kernel
theorem dX10_isPlant_13 : decode cX10_isPlant 13 = .ok (.goto 4, 3) := by decide +kernel
theorem dX10_isPlant_16 : decode cX10_isPlant 16 = .ok (.iconst 0, 1) := by decide +kernel
theorem dX10_isPlant_17 : decode cX10_isPlant 17 = .ok (.ireturn, 1) := by decide +kernel
theorem dX10_grows_0 : decode cX10_grows 0 = .ok (.aload_n 0, 1) := by decide +kernel
theorem dX10_grows_1 : decode cX10_grows 1 = .ok (.getfield 90, 3) := by decide +kernel
theorem dX10_grows_4 : decode cX10_grows 4 = .ok (.aload_n 0, 1) := by decide +kernel
theorem dX10_grows_5 : decode cX10_grows 5 = .ok (.getfield 258, 3) := by decide +kernel
theorem dX10_grows_8 : decode cX10_grows 8 = .ok (.iload_n 1, 1) := by decide +kernel
theorem dX10_grows_9 : decode cX10_grows 9 = .ok (.iastore, 1) := by decide +kernel
theorem dX10_grows_10 : decode cX10_grows 10 = .ok (.aload_n 0, 1) := by decide +kernel
theorem dX10_grows_11 : decode cX10_grows 11 = .ok (.getfield 93, 3) := by decide +kernel
theorem dX10_grows_14 : decode cX10_grows 14 = .ok (.aload_n 0, 1) := by decide +kernel
theorem dX10_grows_15 : decode cX10_grows 15 = .ok (.getfield 258, 3) := by decide +kernel
theorem dX10_grows_18 : decode cX10_grows 18 = .ok (.iload_n 2, 1) := by decide +kernel
theorem dX10_grows_19 : decode cX10_grows 19 = .ok (.iastore, 1) := by decide +kernel
theorem dX10_grows_20 : decode cX10_grows 20 = .ok (.aload_n 0, 1) := by decide +kernel
theorem dX10_grows_21 : decode cX10_grows 21 = .ok (.getfield 96, 3) := by decide +kernel
theorem dX10_grows_24 : decode cX10_grows 24 = .ok (.aload_n 0, 1) := by decide +kernel
theorem dX10_grows_25 : decode cX10_grows 25 = .ok (.getfield 258, 3) := by decide +kernel
theorem dX10_grows_28 : decode cX10_grows 28 = .ok (.iload_n 3, 1) := by decide +kernel
theorem dX10_grows_29 : decode cX10_grows 29 = .ok (.iastore, 1) := by decide +kernel
theorem dX10_grows_30 : decode cX10_grows 30 = .ok (.aload_n 0, 1) := by decide +kernel
theorem dX10_grows_31 : decode cX10_grows 31 = .ok (.getfield 99, 3) := by decide +kernel
theorem dX10_grows_34 : decode cX10_grows 34 = .ok (.aload_n 0, 1) := by decide +kernel
theorem dX10_grows_35 : decode cX10_grows 35 = .ok (.getfield 258, 3) := by decide +kernel
theorem dX10_grows_38 : decode cX10_grows 38 = .ok (.iload 4, 2) := by decide +kernel
theorem dX10_grows_40 : decode cX10_grows 40 = .ok (.iastore, 1) := by decide +kernel
theorem dX10_grows_41 : decode cX10_grows 41 = .ok (.iconst 0, 1) := by decide +kernel
theorem dX10_grows_42 : decode cX10_grows 42 = .ok (.istore 5, 2) := by decide +kernel
theorem dX10_grows_44 : decode cX10_grows 44 = .ok (.iload 5, 2) := by decide +kernel
theorem dX10_grows_46 : decode cX10_grows 46 = .ok (.bipush 8, 2) := by decide +kernel
theorem dX10_grows_48 : decode cX10_grows 48 = .ok (.if_icmp .ge 41, 3) := by decide +kernel
theorem dX10_grows_51 : decode cX10_grows 51 = .ok (.iload_n 1, 1) := by decide +kernel
theorem dX10_grows_52 : decode cX10_grows 52 = .ok (.iconst 2, 1) := by decide +kernel
theorem dX10_grows_53 : decode cX10_grows 53 = .ok (.if_icmp .lt 36, 3) := by decide +kernel
theorem dX10_grows_56 : decode cX10_grows 56 = .ok (.aload_n 0, 1) := by decide +kernel
theorem dX10_grows_57 : decode cX10_grows 57 = .ok (.getfield 102, 3) := by decide +kernel
theorem dX10_grows_60 : decode cX10_grows 60 = .ok (.bipush 8, 2) := by decide +kernel
theorem dX10_grows_62 : decode cX10_grows 62 = .ok (.aload_n 0, 1) := by decide +kernel
theorem dX10_grows_63 : decode cX10_grows 63 = .ok (.getfield 258, 3) := by decide +kernel
theorem dX10_grows_66 : decode cX10_grows 66 = .ok (.imul, 1) := by decide +kernel
theorem dX10_grows_67 : decode cX10_grows 67 = .ok (.iload 5, 2) := by decide +kernel
theorem dX10_grows_69 : decode cX10_grows 69 = .ok (.iadd, 1) := by decide +kernel
theorem dX10_grows_70 : decode cX10_grows 70 = .ok (.aload_n 0, 1) := by decide +kernel
theorem dX10_grows_71 : decode cX10_grows 71 = .ok (.getfield 102, 3) := by decide +kernel
theorem dX10_grows_74 : decode cX10_grows 74 = .ok (.bipush 8, 2) := by decide +kernel
theorem dX10_grows_76 : decode cX10_grows 76 = .ok (.iload_n 2, 1) := by decide +kernel
theorem dX10_grows_77 : decode cX10_grows 77 = .ok (.imul, 1) := by decide +kernel
theorem dX10_grows_78 : decode cX10_grows 78 = .ok (.iload 5, 2) := by decide +kernel
theorem dX10_grows_80 : decode cX10_grows 80 = .ok (.iadd, 1) := by decide +kernel
theorem dX10_grows_81 : decode cX10_grows 81 = .ok (.iaload, 1) := by decide +kernel
theorem dX10_grows_82 : decode cX10_grows 82 = .ok (.iastore, 1) := by decide +kernel
theorem dX10_grows_83 : decode cX10_grows 83 = .ok (.iinc 5 1, 3) := by decide +kernel
theorem dX10_grows_86 : decode cX10_grows 86 = .ok (.goto (-42), 3) := by decide +kernel
theorem dX10_grows_89 : decode cX10_grows 89 = .ok (.iconst 0, 1) := by decide +kernel
theorem dX10_grows_90 : decode cX10_grows 90 = .ok (.istore 5, 2) := by decide +kernel
theorem dX10_grows_92 : decode cX10_grows 92 = .ok (.iload 5, 2) := by decide +kernel
theorem dX10_grows_94 : decode cX10_grows 94 = .ok (.iconst 4, 1) := by decide +kernel
theorem dX10_grows_95 : decode cX10_grows 95 = .ok (.if_icmp .ge 36, 3) := by decide +kernel
theorem dX10_grows_98 : decode cX10_grows 98 = .ok (.aload_n 0, 1) := by decide +kernel
theorem dX10_grows_99 : decode cX10_grows 99 = .ok (.getfield 105, 3) := by decide +kernel
theorem dX10_grows_102 : decode cX10_grows 102 = .ok (.iconst 4, 1) := by decide +kernel
theorem dX10_grows_103 : decode cX10_grows 103 = .ok (.aload_n 0, 1) := by decide +kernel
theorem dX10_grows_104 : decode cX10_grows 104 = .ok (.getfield 258, 3) := by decide +kernel
theorem dX10_grows_107 : decode cX10_grows 107 = .ok (.imul, 1) := by decide +kernel
theorem dX10_grows_108 : decode cX10_grows 108 = .ok (.iload 5, 2) := by decide +kernel
theorem dX10_grows_110 : decode cX10_grows 110 = .ok (.iadd, 1) := by decide +kernel
theorem dX10_grows_111 : decode cX10_grows 111 = .ok (.iload 5, 2) := by decide +kernel
theorem dX10_grows_113 : decode cX10_grows 113 = .ok (.iconst 2, 1) := by decide +kernel
theorem dX10_grows_114 : decode cX10_grows 114 = .ok (.irem, 1) := by decide +kernel
theorem dX10_grows_115 : decode cX10_grows 115 = .ok (.ifCond .ne 7, 3) := by decide +kernel
theorem dX10_grows_118 : decode cX10_grows 118 = .ok (.iconst 0, 1) := by decide +kernel
theorem dX10_grows_119 : decode cX10_grows 119 = .ok (.goto 5, 3) := by decide +kernel
theorem dX10_grows_122 : decode cX10_grows 122 = .ok (.bipush 9, 2) := by decide +kernel
theorem dX10_grows_124 : decode cX10_grows 124 = .ok (.iastore, 1) := by decide +kernel
theorem dX10_grows_125 : decode cX10_grows 125 = .ok (.iinc 5 1, 3) := by decide +kernel
theorem dX10_grows_128 : decode cX10_grows 128 = .ok (.goto (-36), 3) := by decide +kernel
theorem dX10_grows_131 : decode cX10_grows 131 = .ok (.aload_n 0, 1) := by decide +kernel
theorem dX10_grows_132 : decode cX10_grows 132 = .ok (.dup, 1) := by decide +kernel
theorem dX10_grows_133 : decode cX10_grows 133 = .ok (.getfield 258, 3) := by decide +kernel
theorem dX10_grows_136 : decode cX10_grows 136 = .ok (.iconst 1, 1) := by decide +kernel
theorem dX10_grows_137 : decode cX10_grows 137 = .ok (.iadd, 1) := by decide +kernel
theorem dX10_grows_138 : decode cX10_grows 138 = .ok (.putfield 258, 3) := by decide +kernel
theorem dX10_grows_141 : decode cX10_grows 141 = .ok (.aload_n 0, 1) := by decide +kernel
theorem dX10_grows_142 : decode cX10_grows 142 = .ok (.getfield 258, 3) := by decide +kernel
theorem dX10_grows_145 : decode cX10_grows 145 = .ok (.iconst 1, 1) := by decide +kernel
theorem dX10_grows_146 : decode cX10_grows 146 = .ok (.isub, 1) := by decide +kernel
theorem dX10_grows_147 : decode cX10_grows 147 = .ok (.ireturn, 1) := by decide +kernel
theorem dX10_areMany_0 : decode cX10_areMany 0 = .ok (.iload_n 0, 1) := by decide +kernel
theorem dX10_areMany_1 : decode cX10_areMany 1 = .ok (.iconst 1, 1) := by decide +kernel
theorem dX10_areMany_2 : decode cX10_areMany 2 = .ok (.if_icmp .lt 13, 3) := by decide +kernel
theorem dX10_areMany_5 : decode cX10_areMany 5 = .ok (.iload_n 0, 1) := by decide +kernel
theorem dX10_areMany_6 : decode cX10_areMany 6 = .ok (.bipush 100, 2) := by decide +kernel
theorem dX10_areMany_8 : decode cX10_areMany 8 = .ok (.if_icmp .gt 7, 3) := by decide +kernel
theorem dX10_areMany_11 : decode cX10_areMany 11 = .ok (.iconst 1, 1) := by decide +kernel
theorem dX10_areMany_12 : decode cX10_areMany 12 = .ok (.goto 4, 3) := by decide +kernel
theorem dX10_areMany_15 : decode cX10_areMany 15 = .ok (.iconst 0, 1) := by decide +kernel
theorem dX10_areMany_16 : decode cX10_areMany 16 = .ok (.ireturn, 1) := by decide +kernel
theorem dX10_wild_0 : decode cX10_wild 0 = .ok (.aload_n 0, 1) := by decide +kernel
theorem dX10_wild_1 : decode cX10_wild 1 = .ok (.iconst 0, 1) := by decide +kernel
theorem dX10_wild_2 : decode cX10_wild 2 = .ok (.putfield 1, 3) := by decide +kernel
theorem dX10_wild_5 : decode cX10_wild 5 = .ok (.iload_n 1, 1) := by decide +kernel
theorem dX10_wild_6 : decode cX10_wild 6 = .ok (.ifCond .lt 25, 3) := by decide +kernel
theorem dX10_wild_9 : decode cX10_wild 9 = .ok (.iload_n 1, 1) := by decide +kernel
theorem dX10_wild_10 : decode cX10_wild 10 = .ok (.bipush 99, 2) := by decide +kernel
theorem dX10_wild_12 : decode cX10_wild 12 = .ok (.if_icmp .gt 19, 3) := by decide +kernel
theorem dX10_wild_15 : decode cX10_wild 15 = .ok (.iload_n 2, 1) := by decide +kernel
theorem dX10_wild_16 : decode cX10_wild 16 = .ok (.invokestatic 261, 3) := by decide +kernel
theorem dX10_wild_19 : decode cX10_wild 19 = .ok (.ifCond .eq 12, 3) := by decide +kernel
theorem dX10_wild_22 : decode cX10_wild 22 = .ok (.aload_n 0, 1) := by decide +kernel
theorem dX10_wild_23 : decode cX10_wild 23 = .ok (.getfield 258, 3) := by decide +kernel
theorem dX10_wild_26 : decode cX10_wild 26 = .ok (.bipush 40, 2) := by decide +kernel
theorem dX10_wild_28 : decode cX10_wild 28 = .ok (.if_icmp .ne 5, 3) := by decide +kernel
theorem dX10_wild_31 : decode cX10_wild 31 = .ok (.iconst (-1), 1) := by decide +kernel
theorem dX10_wild_32 : decode cX10_wild 32 = .ok (.ireturn, 1) := by decide +kernel
theorem dX10_wild_33 : decode cX10_wild 33 = .ok (.aload_n 0, 1) := by decide +kernel
theorem dX10_wild_34 : decode cX10_wild 34 = .ok (.getfield 120, 3) := by decide +kernel
theorem dX10_wild_37 : decode cX10_wild 37 = .ok (.aload_n 0, 1) := by decide +kernel
theorem dX10_wild_38 : decode cX10_wild 38 = .ok (.getfield 258, 3) := by decide +kernel
theorem dX10_wild_41 : decode cX10_wild 41 = .ok (.iload_n 1, 1) := by decide +kernel
theorem dX10_wild_42 : decode cX10_wild 42 = .ok (.iastore, 1) := by decide +kernel
theorem dX10_wild_43 : decode cX10_wild 43 = .ok (.aload_n 0, 1) := by decide +kernel
theorem dX10_wild_44 : decode cX10_wild 44 = .ok (.iconst 0, 1) := by decide +kernel
theorem dX10_wild_45 : decode cX10_wild 45 = .ok (.iconst (-1), 1) := by decide +kernel
theorem dX10_wild_46 : decode cX10_wild 46 = .ok (.iconst (-1), 1) := by decide +kernel
theorem dX10_wild_47 : decode cX10_wild 47 = .ok (.iload_n 2, 1) := by decide +kernel
theorem dX10_wild_48 : decode cX10_wild 48 = .ok (.invokevirtual 264, 3) := by decide +kernel
theorem dX10_wild_51 : decode cX10_wild 51 = .ok (.ireturn, 1) := by decide +kernel
theorem dX10_seed_0 : decode cX10_seed 0 = .ok (.aload_n 0, 1) := by decide +kernel
theorem dX10_seed_1 : decode cX10_seed 1 = .ok (.iconst 0, 1) := by decide +kernel
theorem dX10_seed_2 : decode cX10_seed 2 = .ok (.putfield 1, 3) := by decide +kernel
theorem dX10_seed_5 : decode cX10_seed 5 = .ok (.aload_n 0, 1) := by decide +kernel
theorem dX10_seed_6 : decode cX10_seed 6 = .ok (.iload_n 1, 1) := by decide +kernel
theorem dX10_seed_7 : decode cX10_seed 7 = .ok (.invokevirtual 268, 3) := by decide +kernel
theorem dX10_seed_10 : decode cX10_seed 10 = .ok (.ifCond .eq 32, 3) := by decide +kernel
theorem dX10_seed_13 : decode cX10_seed 13 = .ok (.iload_n 2, 1) := by decide +kernel
theorem dX10_seed_14 : decode cX10_seed 14 = .ok (.iconst (-1), 1) := by decide +kernel
theorem dX10_seed_15 : decode cX10_seed 15 = .ok (.if_icmp .eq 11, 3) := by decide +kernel
theorem dX10_seed_18 : decode cX10_seed 18 = .ok (.aload_n 0, 1) := by decide +kernel
theorem dX10_seed_19 : decode cX10_seed 19 = .ok (.iload_n 2, 1) := by decide +kernel
theorem dX10_seed_20 : decode cX10_seed 20 = .ok (.invokevirtual 268, 3) := by decide +kernel
theorem dX10_seed_23 : decode cX10_seed 23 = .ok (.ifCond .eq 19, 3) := by decide +kernel
theorem dX10_seed_26 : decode cX10_seed 26 = .ok (.iload_n 3, 1) := by decide +kernel
theorem dX10_seed_27 : decode cX10_seed 27 = .ok (.invokestatic 261, 3) := by decide +kernel
theorem dX10_seed_30 : decode cX10_seed 30 = .ok (.ifCond .eq 12, 3) := by decide +kernel
theorem dX10_seed_33 : decode cX10_seed 33 = .ok (.aload_n 0, 1) := by decide +kernel
theorem dX10_seed_34 : decode cX10_seed 34 = .ok (.getfield 258, 3) := by decide +kernel
theorem dX10_seed_37 : decode cX10_seed 37 = .ok (.bipush 40, 2) := by decide +kernel
theorem dX10_seed_39 : decode cX10_seed 39 = .ok (.if_icmp .ne 5, 3) := by decide +kernel
theorem dX10_seed_42 : decode cX10_seed 42 = .ok (.iconst (-1), 1) := by decide +kernel
theorem dX10_seed_43 : decode cX10_seed 43 = .ok (.ireturn, 1) := by decide +kernel
theorem dX10_seed_44 : decode cX10_seed 44 = .ok (.aload_n 0, 1) := by decide +kernel
theorem dX10_seed_45 : decode cX10_seed 45 = .ok (.iconst 1, 1) := by decide +kernel
theorem dX10_seed_46 : decode cX10_seed 46 = .ok (.iload_n 1, 1) := by decide +kernel
theorem dX10_seed_47 : decode cX10_seed 47 = .ok (.iload_n 2, 1) := by decide +kernel
theorem dX10_seed_48 : decode cX10_seed 48 = .ok (.iload_n 3, 1) := by decide +kernel
theorem dX10_seed_49 : decode cX10_seed 49 = .ok (.invokevirtual 264, 3) := by decide +kernel
theorem dX10_seed_52 : decode cX10_seed 52 = .ok (.ireturn, 1) := by decide +kernel
theorem dX10_cut_0 : decode cX10_cut 0 = .ok (.aload_n 0, 1) := by decide +kernel
theorem dX10_cut_1 : decode cX10_cut 1 = .ok (.iconst 0, 1) := by decide +kernel
theorem dX10_cut_2 : decode cX10_cut 2 = .ok (.putfield 1, 3) := by decide +kernel
theorem dX10_cut_5 : decode cX10_cut 5 = .ok (.aload_n 0, 1) := by decide +kernel
theorem dX10_cut_6 : decode cX10_cut 6 = .ok (.iload_n 1, 1) := by decide +kernel
theorem dX10_cut_7 : decode cX10_cut 7 = .ok (.invokevirtual 268, 3) := by decide +kernel
theorem dX10_cut_10 : decode cX10_cut 10 = .ok (.ifCond .eq 19, 3) := by decide +kernel
theorem dX10_cut_13 : decode cX10_cut 13 = .ok (.iload_n 2, 1) := by decide +kernel
theorem dX10_cut_14 : decode cX10_cut 14 = .ok (.invokestatic 261, 3) := by decide +kernel
theorem dX10_cut_17 : decode cX10_cut 17 = .ok (.ifCond .eq 12, 3) := by decide +kernel
theorem dX10_cut_20 : decode cX10_cut 20 = .ok (.aload_n 0, 1) := by decide +kernel
theorem dX10_cut_21 : decode cX10_cut 21 = .ok (.getfield 258, 3) := by decide +kernel
theorem dX10_cut_24 : decode cX10_cut 24 = .ok (.bipush 40, 2) := by decide +kernel
theorem dX10_cut_26 : decode cX10_cut 26 = .ok (.if_icmp .ne 7, 3) := by decide +kernel
theorem dX10_cut_29 : decode cX10_cut 29 = .ok (.iconst (-1), 1) := by decide +kernel
theorem dX10_cut_30 : decode cX10_cut 30 = .ok (.goto 11, 3) := by decide +kernel
theorem dX10_cut_33 : decode cX10_cut 33 = .ok (.aload_n 0, 1) := by decide +kernel
theorem dX10_cut_34 : decode cX10_cut 34 = .ok (.iconst 2, 1) := by decide +kernel
theorem dX10_cut_35 : decode cX10_cut 35 = .ok (.iload_n 1, 1) := by decide +kernel
theorem dX10_cut_36 : decode cX10_cut 36 = .ok (.iconst (-1), 1) := by decide +kernel
theorem dX10_cut_37 : decode cX10_cut 37 = .ok (.iload_n 2, 1) := by decide +kernel
theorem dX10_cut_38 : decode cX10_cut 38 = .ok (.invokevirtual 264, 3) := by decide +kernel
theorem dX10_cut_41 : decode cX10_cut 41 = .ok (.ireturn, 1) := by decide +kernel
theorem dX10_split_0 : decode cX10_split 0 = .ok (.aload_n 0, 1) := by decide +kernel
theorem dX10_split_1 : decode cX10_split 1 = .ok (.iconst 0, 1) := by decide +kernel
theorem dX10_split_2 : decode cX10_split 2 = .ok (.putfield 1, 3) := by decide +kernel
theorem dX10_split_5 : decode cX10_split 5 = .ok (.aload_n 0, 1) := by decide +kernel
theorem dX10_split_6 : decode cX10_split 6 = .ok (.iload_n 1, 1) := by decide +kernel
theorem dX10_split_7 : decode cX10_split 7 = .ok (.invokevirtual 268, 3) := by decide +kernel
theorem dX10_split_10 : decode cX10_split 10 = .ok (.ifCond .eq 27, 3) := by decide +kernel
theorem dX10_split_13 : decode cX10_split 13 = .ok (.iload_n 2, 1) := by decide +kernel
theorem dX10_split_14 : decode cX10_split 14 = .ok (.iconst 1, 1) := by decide +kernel
theorem dX10_split_15 : decode cX10_split 15 = .ok (.if_icmp .lt 22, 3) := by decide +kernel
theorem dX10_split_18 : decode cX10_split 18 = .ok (.iload_n 2, 1) := by decide +kernel
theorem dX10_split_19 : decode cX10_split 19 = .ok (.aload_n 0, 1) := by decide +kernel
theorem dX10_split_20 : decode cX10_split 20 = .ok (.getfield 99, 3) := by decide +kernel
theorem dX10_split_23 : decode cX10_split 23 = .ok (.iload_n 1, 1) := by decide +kernel
theorem dX10_split_24 : decode cX10_split 24 = .ok (.iaload, 1) := by decide +kernel
theorem dX10_split_25 : decode cX10_split 25 = .ok (.if_icmp .ge 12, 3) := by decide +kernel
theorem dX10_split_28 : decode cX10_split 28 = .ok (.aload_n 0, 1) := by decide +kernel
theorem dX10_split_29 : decode cX10_split 29 = .ok (.getfield 258, 3) := by decide +kernel
theorem dX10_split_32 : decode cX10_split 32 = .ok (.bipush 40, 2) := by decide +kernel
theorem dX10_split_34 : decode cX10_split 34 = .ok (.if_icmp .ne 5, 3) := by decide +kernel
theorem dX10_split_37 : decode cX10_split 37 = .ok (.iconst (-1), 1) := by decide +kernel
theorem dX10_split_38 : decode cX10_split 38 = .ok (.ireturn, 1) := by decide +kernel
theorem dX10_split_39 : decode cX10_split 39 = .ok (.aload_n 0, 1) := by decide +kernel
theorem dX10_split_40 : decode cX10_split 40 = .ok (.getfield 99, 3) := by decide +kernel
theorem dX10_split_43 : decode cX10_split 43 = .ok (.iload_n 1, 1) := by decide +kernel
theorem dX10_split_44 : decode cX10_split 44 = .ok (.dup2, 1) := by decide +kernel
theorem dX10_split_45 : decode cX10_split 45 = .ok (.iaload, 1) := by decide +kernel
theorem dX10_split_46 : decode cX10_split 46 = .ok (.iload_n 2, 1) := by decide +kernel
theorem dX10_split_47 : decode cX10_split 47 = .ok (.isub, 1) := by decide +kernel
theorem dX10_split_48 : decode cX10_split 48 = .ok (.iastore, 1) := by decide +kernel
theorem dX10_split_49 : decode cX10_split 49 = .ok (.aload_n 0, 1) := by decide +kernel
theorem dX10_split_50 : decode cX10_split 50 = .ok (.iconst 3, 1) := by decide +kernel
theorem dX10_split_51 : decode cX10_split 51 = .ok (.iload_n 1, 1) := by decide +kernel
theorem dX10_split_52 : decode cX10_split 52 = .ok (.iconst (-1), 1) := by decide +kernel
theorem dX10_split_53 : decode cX10_split 53 = .ok (.iload_n 2, 1) := by decide +kernel
theorem dX10_split_54 : decode cX10_split 54 = .ok (.invokevirtual 264, 3) := by decide +kernel
theorem dX10_split_57 : decode cX10_split 57 = .ok (.ireturn, 1) := by decide +kernel
theorem dX10_rootOf_0 : decode cX10_rootOf 0 = .ok (.iload_n 1, 1) := by decide +kernel
theorem dX10_rootOf_1 : decode cX10_rootOf 1 = .ok (.istore_n 2, 1) := by decide +kernel
theorem dX10_rootOf_2 : decode cX10_rootOf 2 = .ok (.aload_n 0, 1) := by decide +kernel
theorem dX10_rootOf_3 : decode cX10_rootOf 3 = .ok (.getfield 90, 3) := by decide +kernel
theorem dX10_rootOf_6 : decode cX10_rootOf 6 = .ok (.iload_n 2, 1) := by decide +kernel
theorem dX10_rootOf_7 : decode cX10_rootOf 7 = .ok (.iaload, 1) := by decide +kernel
theorem dX10_rootOf_8 : decode cX10_rootOf 8 = .ok (.ifCond .eq 13, 3) := by decide +kernel
theorem dX10_rootOf_11 : decode cX10_rootOf 11 = .ok (.aload_n 0, 1) := by decide +kernel
theorem dX10_rootOf_12 : decode cX10_rootOf 12 = .ok (.getfield 93, 3) := by decide +kernel
theorem dX10_rootOf_15 : decode cX10_rootOf 15 = .ok (.iload_n 2, 1) := by decide +kernel
theorem dX10_rootOf_16 : decode cX10_rootOf 16 = .ok (.iaload, 1) := by decide +kernel
theorem dX10_rootOf_17 : decode cX10_rootOf 17 = .ok (.istore_n 2, 1) := by decide +kernel
theorem dX10_rootOf_18 : decode cX10_rootOf 18 = .ok (.goto (-16), 3) := by decide +kernel
theorem dX10_rootOf_21 : decode cX10_rootOf 21 = .ok (.iload_n 2, 1) := by decide +kernel
theorem dX10_rootOf_22 : decode cX10_rootOf 22 = .ok (.ireturn, 1) := by decide +kernel
theorem dX10_isCut_0 : decode cX10_isCut 0 = .ok (.iload_n 1, 1) := by decide +kernel
theorem dX10_isCut_1 : decode cX10_isCut 1 = .ok (.istore_n 2, 1) := by decide +kernel
theorem dX10_isCut_2 : decode cX10_isCut 2 = .ok (.aload_n 0, 1) := by decide +kernel
theorem dX10_isCut_3 : decode cX10_isCut 3 = .ok (.getfield 90, 3) := by decide +kernel
theorem dX10_isCut_6 : decode cX10_isCut 6 = .ok (.iload_n 2, 1) := by decide +kernel
theorem dX10_isCut_7 : decode cX10_isCut 7 = .ok (.iaload, 1) := by decide +kernel
theorem dX10_isCut_8 : decode cX10_isCut 8 = .ok (.iconst 3, 1) := by decide +kernel
theorem dX10_isCut_9 : decode cX10_isCut 9 = .ok (.if_icmp .ne 13, 3) := by decide +kernel
theorem dX10_isCut_12 : decode cX10_isCut 12 = .ok (.aload_n 0, 1) := by decide +kernel
theorem dX10_isCut_13 : decode cX10_isCut 13 = .ok (.getfield 93, 3) := by decide +kernel
theorem dX10_isCut_16 : decode cX10_isCut 16 = .ok (.iload_n 2, 1) := by decide +kernel
theorem dX10_isCut_17 : decode cX10_isCut 17 = .ok (.iaload, 1) := by decide +kernel
theorem dX10_isCut_18 : decode cX10_isCut 18 = .ok (.istore_n 2, 1) := by decide +kernel
theorem dX10_isCut_19 : decode cX10_isCut 19 = .ok (.goto (-17), 3) := by decide +kernel
theorem dX10_isCut_22 : decode cX10_isCut 22 = .ok (.aload_n 0, 1) := by decide +kernel
theorem dX10_isCut_23 : decode cX10_isCut 23 = .ok (.getfield 90, 3) := by decide +kernel
theorem dX10_isCut_26 : decode cX10_isCut 26 = .ok (.iload_n 2, 1) := by decide +kernel
theorem dX10_isCut_27 : decode cX10_isCut 27 = .ok (.iaload, 1) := by decide +kernel
theorem dX10_isCut_28 : decode cX10_isCut 28 = .ok (.iconst 2, 1) := by decide +kernel
theorem dX10_isCut_29 : decode cX10_isCut 29 = .ok (.if_icmp .ne 7, 3) := by decide +kernel
theorem dX10_isCut_32 : decode cX10_isCut 32 = .ok (.iconst 1, 1) := by decide +kernel
theorem dX10_isCut_33 : decode cX10_isCut 33 = .ok (.goto 4, 3) := by decide +kernel
theorem dX10_isCut_36 : decode cX10_isCut 36 = .ok (.iconst 0, 1) := by decide +kernel
theorem dX10_isCut_37 : decode cX10_isCut 37 = .ok (.ireturn, 1) := by decide +kernel
theorem dX10_mark_0 : decode cX10_mark 0 = .ok (.aload_n 0, 1) := by decide +kernel
theorem dX10_mark_1 : decode cX10_mark 1 = .ok (.iconst 0, 1) := by decide +kernel
theorem dX10_mark_2 : decode cX10_mark 2 = .ok (.putfield 1, 3) := by decide +kernel
theorem dX10_mark_5 : decode cX10_mark 5 = .ok (.aload_n 0, 1) := by decide +kernel
theorem dX10_mark_6 : decode cX10_mark 6 = .ok (.iload_n 1, 1) := by decide +kernel
theorem dX10_mark_7 : decode cX10_mark 7 = .ok (.invokevirtual 268, 3) := by decide +kernel
theorem dX10_mark_10 : decode cX10_mark 10 = .ok (.ifCond .eq 34, 3) := by decide +kernel
theorem dX10_mark_13 : decode cX10_mark 13 = .ok (.iload_n 2, 1) := by decide +kernel
theorem dX10_mark_14 : decode cX10_mark 14 = .ok (.ifCond .lt 30, 3) := by decide +kernel
theorem dX10_mark_17 : decode cX10_mark 17 = .ok (.iload_n 2, 1) := by decide +kernel
theorem dX10_mark_18 : decode cX10_mark 18 = .ok (.iconst 3, 1) := by decide +kernel
theorem dX10_mark_19 : decode cX10_mark 19 = .ok (.if_icmp .gt 25, 3) := by decide +kernel
theorem dX10_mark_22 : decode cX10_mark 22 = .ok (.iload_n 3, 1) := by decide +kernel
theorem dX10_mark_23 : decode cX10_mark 23 = .ok (.ifCond .lt 21, 3) := by decide +kernel
theorem dX10_mark_26 : decode cX10_mark 26 = .ok (.iload_n 3, 1) := by decide +kernel
theorem dX10_mark_27 : decode cX10_mark 27 = .ok (.bipush 9, 2) := by decide +kernel
theorem dX10_mark_29 : decode cX10_mark 29 = .ok (.if_icmp .gt 15, 3) := by decide +kernel
theorem dX10_mark_32 : decode cX10_mark 32 = .ok (.iload 4, 2) := by decide +kernel
theorem dX10_mark_34 : decode cX10_mark 34 = .ok (.ifCond .lt 10, 3) := by decide +kernel
theorem dX10_mark_37 : decode cX10_mark 37 = .ok (.iload 4, 2) := by decide +kernel
theorem dX10_mark_39 : decode cX10_mark 39 = .ok (.bipush 9, 2) := by decide +kernel
theorem dX10_mark_41 : decode cX10_mark 41 = .ok (.if_icmp .le 5, 3) := by decide +kernel
theorem dX10_mark_44 : decode cX10_mark 44 = .ok (.iconst 0, 1) := by decide +kernel
theorem dX10_mark_45 : decode cX10_mark 45 = .ok (.ireturn, 1) := by decide +kernel
theorem dX10_mark_46 : decode cX10_mark 46 = .ok (.aload_n 0, 1) := by decide +kernel
theorem dX10_mark_47 : decode cX10_mark 47 = .ok (.getfield 102, 3) := by decide +kernel
theorem dX10_mark_50 : decode cX10_mark 50 = .ok (.bipush 8, 2) := by decide +kernel
theorem dX10_mark_52 : decode cX10_mark 52 = .ok (.iload_n 1, 1) := by decide +kernel
theorem dX10_mark_53 : decode cX10_mark 53 = .ok (.imul, 1) := by decide +kernel
theorem dX10_mark_54 : decode cX10_mark 54 = .ok (.iconst 2, 1) := by decide +kernel
theorem dX10_mark_55 : decode cX10_mark 55 = .ok (.iload_n 2, 1) := by decide +kernel
theorem dX10_mark_56 : decode cX10_mark 56 = .ok (.imul, 1) := by decide +kernel
theorem dX10_mark_57 : decode cX10_mark 57 = .ok (.iadd, 1) := by decide +kernel
theorem dX10_mark_58 : decode cX10_mark 58 = .ok (.iload_n 3, 1) := by decide +kernel
theorem dX10_mark_59 : decode cX10_mark 59 = .ok (.iload 4, 2) := by decide +kernel
theorem dX10_mark_61 : decode cX10_mark 61 = .ok (.if_icmp .ge 7, 3) := by decide +kernel
theorem dX10_mark_64 : decode cX10_mark 64 = .ok (.iload_n 3, 1) := by decide +kernel
theorem dX10_mark_65 : decode cX10_mark 65 = .ok (.goto 5, 3) := by decide +kernel
theorem dX10_mark_68 : decode cX10_mark 68 = .ok (.iload 4, 2) := by decide +kernel
theorem dX10_mark_70 : decode cX10_mark 70 = .ok (.iastore, 1) := by decide +kernel
theorem dX10_mark_71 : decode cX10_mark 71 = .ok (.aload_n 0, 1) := by decide +kernel
theorem dX10_mark_72 : decode cX10_mark 72 = .ok (.getfield 102, 3) := by decide +kernel
theorem dX10_mark_75 : decode cX10_mark 75 = .ok (.bipush 8, 2) := by decide +kernel
theorem dX10_mark_77 : decode cX10_mark 77 = .ok (.iload_n 1, 1) := by decide +kernel
theorem dX10_mark_78 : decode cX10_mark 78 = .ok (.imul, 1) := by decide +kernel
theorem dX10_mark_79 : decode cX10_mark 79 = .ok (.iconst 2, 1) := by decide +kernel
theorem dX10_mark_80 : decode cX10_mark 80 = .ok (.iload_n 2, 1) := by decide +kernel
theorem dX10_mark_81 : decode cX10_mark 81 = .ok (.imul, 1) := by decide +kernel
theorem dX10_mark_82 : decode cX10_mark 82 = .ok (.iadd, 1) := by decide +kernel
theorem dX10_mark_83 : decode cX10_mark 83 = .ok (.iconst 1, 1) := by decide +kernel
theorem dX10_mark_84 : decode cX10_mark 84 = .ok (.iadd, 1) := by decide +kernel
theorem dX10_mark_85 : decode cX10_mark 85 = .ok (.iload_n 3, 1) := by decide +kernel
theorem dX10_mark_86 : decode cX10_mark 86 = .ok (.iload 4, 2) := by decide +kernel
theorem dX10_mark_88 : decode cX10_mark 88 = .ok (.if_icmp .ge 8, 3) := by decide +kernel
theorem dX10_mark_91 : decode cX10_mark 91 = .ok (.iload 4, 2) := by decide +kernel
theorem dX10_mark_93 : decode cX10_mark 93 = .ok (.goto 4, 3) := by decide +kernel
theorem dX10_mark_96 : decode cX10_mark 96 = .ok (.iload_n 3, 1) := by decide +kernel
theorem dX10_mark_97 : decode cX10_mark 97 = .ok (.iastore, 1) := by decide +kernel
theorem dX10_mark_98 : decode cX10_mark 98 = .ok (.iconst 1, 1) := by decide +kernel
theorem dX10_mark_99 : decode cX10_mark 99 = .ok (.ireturn, 1) := by decide +kernel
theorem dX10_markOf_0 : decode cX10_markOf 0 = .ok (.aload_n 0, 1) := by decide +kernel
theorem dX10_markOf_1 : decode cX10_markOf 1 = .ok (.getfield 102, 3) := by decide +kernel
theorem dX10_markOf_4 : decode cX10_markOf 4 = .ok (.bipush 8, 2) := by decide +kernel
theorem dX10_markOf_6 : decode cX10_markOf 6 = .ok (.iload_n 1, 1) := by decide +kernel
theorem dX10_markOf_7 : decode cX10_markOf 7 = .ok (.imul, 1) := by decide +kernel
theorem dX10_markOf_8 : decode cX10_markOf 8 = .ok (.iconst 2, 1) := by decide +kernel
theorem dX10_markOf_9 : decode cX10_markOf 9 = .ok (.iload_n 2, 1) := by decide +kernel
theorem dX10_markOf_10 : decode cX10_markOf 10 = .ok (.imul, 1) := by decide +kernel
theorem dX10_markOf_11 : decode cX10_markOf 11 = .ok (.iadd, 1) := by decide +kernel
theorem dX10_markOf_12 : decode cX10_markOf 12 = .ok (.iload_n 3, 1) := by decide +kernel
theorem dX10_markOf_13 : decode cX10_markOf 13 = .ok (.iadd, 1) := by decide +kernel
theorem dX10_markOf_14 : decode cX10_markOf 14 = .ok (.iaload, 1) := by decide +kernel
theorem dX10_markOf_15 : decode cX10_markOf 15 = .ok (.ireturn, 1) := by decide +kernel
theorem dX10_hasMark_0 : decode cX10_hasMark 0 = .ok (.aload_n 0, 1) := by decide +kernel
theorem dX10_hasMark_1 : decode cX10_hasMark 1 = .ok (.iload_n 1, 1) := by decide +kernel
theorem dX10_hasMark_2 : decode cX10_hasMark 2 = .ok (.iload_n 2, 1) := by decide +kernel
theorem dX10_hasMark_3 : decode cX10_hasMark 3 = .ok (.iconst 0, 1) := by decide +kernel
theorem dX10_hasMark_4 : decode cX10_hasMark 4 = .ok (.invokevirtual 271, 3) := by decide +kernel
theorem dX10_hasMark_7 : decode cX10_hasMark 7 = .ok (.iload_n 3, 1) := by decide +kernel
theorem dX10_hasMark_8 : decode cX10_hasMark 8 = .ok (.if_icmp .eq 14, 3) := by decide +kernel
theorem dX10_hasMark_11 : decode cX10_hasMark 11 = .ok (.aload_n 0, 1) := by decide +kernel
theorem dX10_hasMark_12 : decode cX10_hasMark 12 = .ok (.iload_n 1, 1) := by decide +kernel
theorem dX10_hasMark_13 : decode cX10_hasMark 13 = .ok (.iload_n 2, 1) := by decide +kernel
theorem dX10_hasMark_14 : decode cX10_hasMark 14 = .ok (.iconst 1, 1) := by decide +kernel
theorem dX10_hasMark_15 : decode cX10_hasMark 15 = .ok (.invokevirtual 271, 3) := by decide +kernel
theorem dX10_hasMark_18 : decode cX10_hasMark 18 = .ok (.iload_n 3, 1) := by decide +kernel
theorem dX10_hasMark_19 : decode cX10_hasMark 19 = .ok (.if_icmp .ne 7, 3) := by decide +kernel
theorem dX10_hasMark_22 : decode cX10_hasMark 22 = .ok (.iconst 1, 1) := by decide +kernel
theorem dX10_hasMark_23 : decode cX10_hasMark 23 = .ok (.goto 4, 3) := by decide +kernel
theorem dX10_hasMark_26 : decode cX10_hasMark 26 = .ok (.iconst 0, 1) := by decide +kernel
theorem dX10_hasMark_27 : decode cX10_hasMark 27 = .ok (.ireturn, 1) := by decide +kernel
theorem dX10_fitsAs_0 : decode cX10_fitsAs 0 = .ok (.iconst 1, 1) := by decide +kernel
theorem dX10_fitsAs_1 : decode cX10_fitsAs 1 = .ok (.istore_n 3, 1) := by decide +kernel
theorem dX10_fitsAs_2 : decode cX10_fitsAs 2 = .ok (.iconst 0, 1) := by decide +kernel
theorem dX10_fitsAs_3 : decode cX10_fitsAs 3 = .ok (.istore 4, 2) := by decide +kernel
theorem dX10_fitsAs_5 : decode cX10_fitsAs 5 = .ok (.iload 4, 2) := by decide +kernel
theorem dX10_fitsAs_7 : decode cX10_fitsAs 7 = .ok (.iconst 4, 1) := by decide +kernel
theorem dX10_fitsAs_8 : decode cX10_fitsAs 8 = .ok (.if_icmp .ge 211, 3) := by decide +kernel
theorem dX10_fitsAs_11 : decode cX10_fitsAs 11 = .ok (.aload_n 0, 1) := by decide +kernel
theorem dX10_fitsAs_12 : decode cX10_fitsAs 12 = .ok (.getfield 90, 3) := by decide +kernel
theorem dX10_fitsAs_15 : decode cX10_fitsAs 15 = .ok (.iload_n 2, 1) := by decide +kernel
theorem dX10_fitsAs_16 : decode cX10_fitsAs 16 = .ok (.iaload, 1) := by decide +kernel
theorem dX10_fitsAs_17 : decode cX10_fitsAs 17 = .ok (.ifCond .eq 202, 3) := by decide +kernel
theorem dX10_fitsAs_20 : decode cX10_fitsAs 20 = .ok (.aload_n 0, 1) := by decide +kernel
theorem dX10_fitsAs_21 : decode cX10_fitsAs 21 = .ok (.iload_n 1, 1) := by decide +kernel
theorem dX10_fitsAs_22 : decode cX10_fitsAs 22 = .ok (.iload 4, 2) := by decide +kernel
theorem dX10_fitsAs_24 : decode cX10_fitsAs 24 = .ok (.iconst 0, 1) := by decide +kernel
theorem dX10_fitsAs_25 : decode cX10_fitsAs 25 = .ok (.invokevirtual 271, 3) := by decide +kernel
theorem dX10_fitsAs_28 : decode cX10_fitsAs 28 = .ok (.istore 5, 2) := by decide +kernel
theorem dX10_fitsAs_30 : decode cX10_fitsAs 30 = .ok (.aload_n 0, 1) := by decide +kernel
theorem dX10_fitsAs_31 : decode cX10_fitsAs 31 = .ok (.iload_n 1, 1) := by decide +kernel
theorem dX10_fitsAs_32 : decode cX10_fitsAs 32 = .ok (.iload 4, 2) := by decide +kernel
theorem dX10_fitsAs_34 : decode cX10_fitsAs 34 = .ok (.iconst 1, 1) := by decide +kernel
theorem dX10_fitsAs_35 : decode cX10_fitsAs 35 = .ok (.invokevirtual 271, 3) := by decide +kernel
theorem dX10_fitsAs_38 : decode cX10_fitsAs 38 = .ok (.istore 6, 2) := by decide +kernel
theorem dX10_fitsAs_40 : decode cX10_fitsAs 40 = .ok (.aload_n 0, 1) := by decide +kernel
theorem dX10_fitsAs_41 : decode cX10_fitsAs 41 = .ok (.getfield 93, 3) := by decide +kernel
theorem dX10_fitsAs_44 : decode cX10_fitsAs 44 = .ok (.iload_n 2, 1) := by decide +kernel
theorem dX10_fitsAs_45 : decode cX10_fitsAs 45 = .ok (.iaload, 1) := by decide +kernel
theorem dX10_fitsAs_46 : decode cX10_fitsAs 46 = .ok (.istore 7, 2) := by decide +kernel
theorem dX10_fitsAs_48 : decode cX10_fitsAs 48 = .ok (.aload_n 0, 1) := by decide +kernel
theorem dX10_fitsAs_49 : decode cX10_fitsAs 49 = .ok (.getfield 96, 3) := by decide +kernel
theorem dX10_fitsAs_52 : decode cX10_fitsAs 52 = .ok (.iload_n 2, 1) := by decide +kernel
theorem dX10_fitsAs_53 : decode cX10_fitsAs 53 = .ok (.iaload, 1) := by decide +kernel
theorem dX10_fitsAs_54 : decode cX10_fitsAs 54 = .ok (.istore 8, 2) := by decide +kernel
theorem dX10_fitsAs_56 : decode cX10_fitsAs 56 = .ok (.aload_n 0, 1) := by decide +kernel
theorem dX10_fitsAs_57 : decode cX10_fitsAs 57 = .ok (.getfield 90, 3) := by decide +kernel
theorem dX10_fitsAs_60 : decode cX10_fitsAs 60 = .ok (.iload_n 2, 1) := by decide +kernel
theorem dX10_fitsAs_61 : decode cX10_fitsAs 61 = .ok (.iaload, 1) := by decide +kernel
theorem dX10_fitsAs_62 : decode cX10_fitsAs 62 = .ok (.iconst 2, 1) := by decide +kernel
theorem dX10_fitsAs_63 : decode cX10_fitsAs 63 = .ok (.if_icmp .lt 44, 3) := by decide +kernel
theorem dX10_fitsAs_66 : decode cX10_fitsAs 66 = .ok (.iload_n 3, 1) := by decide +kernel
theorem dX10_fitsAs_67 : decode cX10_fitsAs 67 = .ok (.ifCond .eq 35, 3) := by decide +kernel
theorem dX10_fitsAs_70 : decode cX10_fitsAs 70 = .ok (.iload 5, 2) := by decide +kernel
theorem dX10_fitsAs_72 : decode cX10_fitsAs 72 = .ok (.aload_n 0, 1) := by decide +kernel
theorem dX10_fitsAs_73 : decode cX10_fitsAs 73 = .ok (.iload 7, 2) := by decide +kernel
theorem dX10_fitsAs_75 : decode cX10_fitsAs 75 = .ok (.iload 4, 2) := by decide +kernel
theorem dX10_fitsAs_77 : decode cX10_fitsAs 77 = .ok (.iconst 0, 1) := by decide +kernel
theorem dX10_fitsAs_78 : decode cX10_fitsAs 78 = .ok (.invokevirtual 271, 3) := by decide +kernel
