set_option maxRecDepth 100000 in
theorem fX2_11 : a_Fl RX2 11 2 0 0 true := ⟨by decide, by decide, rfl, List.mem_append_right _ (List.mem_of_getElem? (i := 40) (by decide +kernel)), rfl⟩
set_option maxRecDepth 100000 in
theorem fX2_15 : a_Fl RX2 15 2 1 1 true := ⟨by decide, by decide, rfl, List.mem_append_right _ (List.mem_of_getElem? (i := 41) (by decide +kernel)), rfl⟩
set_option maxRecDepth 100000 in
theorem fX2_18 : a_Fl RX2 18 2 2 2 true := ⟨by decide, by decide, rfl, List.mem_append_right _ (List.mem_of_getElem? (i := 42) (by decide +kernel)), rfl⟩
set_option maxRecDepth 100000 in
theorem fX2_21 : a_Fl RX2 21 2 3 3 true := ⟨by decide, by decide, rfl, List.mem_append_right _ (List.mem_of_getElem? (i := 43) (by decide +kernel)), rfl⟩
set_option maxRecDepth 100000 in
theorem fX2_24 : a_Fl RX2 24 2 4 4 true := ⟨by decide, by decide, rfl, List.mem_append_right _ (List.mem_of_getElem? (i := 44) (by decide +kernel)), rfl⟩
set_option maxRecDepth 100000 in
theorem fX2_27 : a_Fl RX2 27 2 5 5 true := ⟨by decide, by decide, rfl, List.mem_append_right _ (List.mem_of_getElem? (i := 45) (by decide +kernel)), rfl⟩
set_option maxRecDepth 100000 in
theorem fX2_30 : a_Fl RX2 30 2 6 6 false := ⟨by decide, by decide, rfl, List.mem_append_right _ (List.mem_of_getElem? (i := 46) (by decide +kernel)), rfl⟩
set_option maxRecDepth 100000 in
theorem fX9_245 : a_Fl RX9 245 2 6 6 false := ⟨by decide, by decide, rfl, List.mem_append_right _ (List.mem_of_getElem? (i := 47) (by decide +kernel)), rfl⟩
set_option maxRecDepth 100000 in
theorem fX2_34 : a_Fl RX2 34 2 7 7 false := ⟨by decide, by decide, rfl, List.mem_append_right _ (List.mem_of_getElem? (i := 48) (by decide +kernel)), rfl⟩
set_option maxRecDepth 100000 in
theorem fX9_248 : a_Fl RX9 248 2 7 7 false := ⟨by decide, by decide, rfl, List.mem_append_right _ (List.mem_of_getElem? (i := 49) (by decide +kernel)), rfl⟩
set_option maxRecDepth 100000 in
theorem fX1_9 : a_Fl RX1 9 1 0 0 true := ⟨by decide, by decide, rfl, List.mem_append_right _ (List.mem_of_getElem? (i := 74) (by decide +kernel)), rfl⟩
set_option maxRecDepth 100000 in
theorem fX1_15 : a_Fl RX1 15 1 1 1 true := ⟨by decide, by decide, rfl, List.mem_append_right _ (List.mem_of_getElem? (i := 75) (by decide +kernel)), rfl⟩
set_option maxRecDepth 100000 in
theorem fX1_18 : a_Fl RX1 18 1 2 2 true := ⟨by decide, by decide, rfl, List.mem_append_right _ (List.mem_of_getElem? (i := 76) (by decide +kernel)), rfl⟩
set_option maxRecDepth 100000 in
theorem fX1_21 : a_Fl RX1 21 1 3 3 true := ⟨by decide, by decide, rfl, List.mem_append_right _ (List.mem_of_getElem? (i := 77) (by decide +kernel)), rfl⟩
set_option maxRecDepth 100000 in
theorem fX1_24 : a_Fl RX1 24 1 4 4 true := ⟨by decide, by decide, rfl, List.mem_append_right _ (List.mem_of_getElem? (i := 78) (by decide +kernel)), rfl⟩
set_option maxRecDepth 100000 in
theorem fX1_27 : a_Fl RX1 27 1 5 5 false := ⟨by decide, by decide, rfl, List.mem_append_right _ (List.mem_of_getElem? (i := 79) (by decide +kernel)), rfl⟩
set_option maxRecDepth 100000 in
theorem fX1_31 : a_Fl RX1 31 1 6 6 false := ⟨by decide, by decide, rfl, List.mem_append_right _ (List.mem_of_getElem? (i := 80) (by decide +kernel)), rfl⟩
set_option maxRecDepth 100000 in
theorem fX7_9 : a_Fl RX7 9 7 0 0 true := ⟨by decide, by decide, rfl, List.mem_append_right _ (List.mem_of_getElem? (i := 102) (by decide +kernel)), rfl⟩
set_option maxRecDepth 100000 in
theorem fX8_54 : a_Fl RX8 54 7 0 0 true := ⟨by decide, by decide, rfl, List.mem_append_right _ (List.mem_of_getElem? (i := 103) (by decide +kernel)), rfl⟩
set_option maxRecDepth 100000 in
theorem fX8_31 : a_Fl RX8 31 7 1 1 false := ⟨by decide, by decide, rfl, List.mem_append_right _ (List.mem_of_getElem? (i := 104) (by decide +kernel)), rfl⟩
set_option maxRecDepth 100000 in
theorem fX7_19 : a_Fl RX7 19 7 1 1 false := ⟨by decide, by decide, rfl, List.mem_append_right _ (List.mem_of_getElem? (i := 105) (by decide +kernel)), rfl⟩
set_option maxRecDepth 100000 in
theorem fX9_193 : a_Fl RX9 193 7 1 1 false := ⟨by decide, by decide, rfl, List.mem_append_right _ (List.mem_of_getElem? (i := 106) (by decide +kernel)), rfl⟩
set_option maxRecDepth 100000 in
theorem fX8_11 : a_Fl RX8 11 8 0 0 true := ⟨by decide, by decide, rfl, List.mem_append_right _ (List.mem_of_getElem? (i := 124) (by decide +kernel)), rfl⟩
set_option maxRecDepth 100000 in
theorem fX4_39 : a_Fl RX4 39 8 0 0 true := ⟨by decide, by decide, rfl, List.mem_append_right _ (List.mem_of_getElem? (i := 125) (by decide +kernel)), rfl⟩
set_option maxRecDepth 100000 in
theorem fX8_15 : a_Fl RX8 15 8 1 1 true := ⟨by decide, by decide, rfl, List.mem_append_right _ (List.mem_of_getElem? (i := 126) (by decide +kernel)), rfl⟩
set_option maxRecDepth 100000 in
theorem fX4_86 : a_Fl RX4 86 8 1 1 true := ⟨by decide, by decide, rfl, List.mem_append_right _ (List.mem_of_getElem? (i := 127) (by decide +kernel)), rfl⟩
set_option maxRecDepth 100000 in
theorem fX8_18 : a_Fl RX8 18 8 2 2 true := ⟨by decide, by decide, rfl, List.mem_append_right _ (List.mem_of_getElem? (i := 128) (by decide +kernel)), rfl⟩
set_option maxRecDepth 100000 in
theorem fX4_83 : a_Fl RX4 83 8 2 2 true := ⟨by decide, by decide, rfl, List.mem_append_right _ (List.mem_of_getElem? (i := 129) (by decide +kernel)), rfl⟩
set_option maxRecDepth 100000 in
theorem fX8_21 : a_Fl RX8 21 8 3 3 false := ⟨by decide, by decide, rfl, List.mem_append_right _ (List.mem_of_getElem? (i := 130) (by decide +kernel)), rfl⟩
set_option maxRecDepth 100000 in
theorem fX5_9 : a_Fl RX5 9 5 0 0 true := ⟨by decide, by decide, rfl, List.mem_append_right _ (List.mem_of_getElem? (i := 146) (by decide +kernel)), rfl⟩
set_option maxRecDepth 100000 in
theorem fX5_15 : a_Fl RX5 15 5 1 1 true := ⟨by decide, by decide, rfl, List.mem_append_right _ (List.mem_of_getElem? (i := 147) (by decide +kernel)), rfl⟩
set_option maxRecDepth 100000 in
theorem fX5_18 : a_Fl RX5 18 5 2 2 true := ⟨by decide, by decide, rfl, List.mem_append_right _ (List.mem_of_getElem? (i := 148) (by decide +kernel)), rfl⟩
set_option maxRecDepth 100000 in
theorem fX5_21 : a_Fl RX5 21 5 3 3 true := ⟨by decide, by decide, rfl, List.mem_append_right _ (List.mem_of_getElem? (i := 149) (by decide +kernel)), rfl⟩
set_option maxRecDepth 100000 in
theorem fX5_25 : a_Fl RX5 25 5 4 4 true := ⟨by decide, by decide, rfl, List.mem_append_right _ (List.mem_of_getElem? (i := 150) (by decide +kernel)), rfl⟩
set_option maxRecDepth 100000 in
theorem fX5_39 : a_Fl RX5 39 5 5 5 false := ⟨by decide, by decide, rfl, List.mem_append_right _ (List.mem_of_getElem? (i := 151) (by decide +kernel)), rfl⟩
set_option maxRecDepth 100000 in
theorem fX5_28 : a_Fl RX5 28 5 6 6 false := ⟨by decide, by decide, rfl, List.mem_append_right _ (List.mem_of_getElem? (i := 152) (by decide +kernel)), rfl⟩
set_option maxRecDepth 100000 in
theorem fX5_32 : a_Fl RX5 32 5 7 7 false := ⟨by decide, by decide, rfl, List.mem_append_right _ (List.mem_of_getElem? (i := 153) (by decide +kernel)), rfl⟩
set_option maxRecDepth 100000 in
theorem fX9_255 : a_Fl RX9 255 5 7 7 false := ⟨by decide, by decide, rfl, List.mem_append_right _ (List.mem_of_getElem? (i := 154) (by decide +kernel)), rfl⟩
set_option maxRecDepth 100000 in
theorem fX4_12 : a_Fl RX4 12 4 0 0 true := ⟨by decide, by decide, rfl, List.mem_append_right _ (List.mem_of_getElem? (i := 173) (by decide +kernel)), rfl⟩
set_option maxRecDepth 100000 in
theorem fX4_21 : a_Fl RX4 21 4 1 1 true := ⟨by decide, by decide, rfl, List.mem_append_right _ (List.mem_of_getElem? (i := 174) (by decide +kernel)), rfl⟩
set_option maxRecDepth 100000 in
theorem fX4_36 : a_Fl RX4 36 4 2 2 false := ⟨by decide, by decide, rfl, List.mem_append_right _ (List.mem_of_getElem? (i := 175) (by decide +kernel)), rfl⟩
set_option maxRecDepth 100000 in
theorem fX4_43 : a_Fl RX4 43 4 3 3 false := ⟨by decide, by decide, rfl, List.mem_append_right _ (List.mem_of_getElem? (i := 176) (by decide +kernel)), rfl⟩
set_option maxRecDepth 100000 in
theorem fX4_32 : a_Fl RX4 32 4 4 4 false := ⟨by decide, by decide, rfl, List.mem_append_right _ (List.mem_of_getElem? (i := 177) (by decide +kernel)), rfl⟩
set_option maxRecDepth 100000 in
theorem fX6_11 : a_Fl RX6 11 6 0 0 true := ⟨by decide, by decide, rfl, List.mem_append_right _ (List.mem_of_getElem? (i := 195) (by decide +kernel)), rfl⟩
set_option maxRecDepth 100000 in
theorem fX6_15 : a_Fl RX6 15 6 1 1 false := ⟨by decide, by decide, rfl, List.mem_append_right _ (List.mem_of_getElem? (i := 196) (by decide +kernel)), rfl⟩
set_option maxRecDepth 100000 in
theorem fX9_251 : a_Fl RX9 251 6 1 1 false := ⟨by decide, by decide, rfl, List.mem_append_right _ (List.mem_of_getElem? (i := 197) (by decide +kernel)), rfl⟩
set_option maxRecDepth 100000 in
theorem fX9_11 : a_Fl RX9 11 9 0 0 true := ⟨by decide, by decide, rfl, List.mem_append_right _ (List.mem_of_getElem? (i := 205) (by decide +kernel)), rfl⟩
set_option maxRecDepth 100000 in
theorem fX9_17 : a_Fl RX9 17 9 1 1 true := ⟨by decide, by decide, rfl, List.mem_append_right _ (List.mem_of_getElem? (i := 206) (by decide +kernel)), rfl⟩
set_option maxRecDepth 100000 in
theorem fX9_24 : a_Fl RX9 24 9 2 2 true := ⟨by decide, by decide, rfl, List.mem_append_right _ (List.mem_of_getElem? (i := 207) (by decide +kernel)), rfl⟩
set_option maxRecDepth 100000 in
theorem fX9_31 : a_Fl RX9 31 9 3 3 true := ⟨by decide, by decide, rfl, List.mem_append_right _ (List.mem_of_getElem? (i := 208) (by decide +kernel)), rfl⟩
set_option maxRecDepth 100000 in
theorem fX9_38 : a_Fl RX9 38 9 4 4 true := ⟨by decide, by decide, rfl, List.mem_append_right _ (List.mem_of_getElem? (i := 209) (by decide +kernel)), rfl⟩
set_option maxRecDepth 100000 in
theorem fX9_45 : a_Fl RX9 45 9 5 5 true := ⟨by decide, by decide, rfl, List.mem_append_right _ (List.mem_of_getElem? (i := 210) (by decide +kernel)), rfl⟩
set_option maxRecDepth 100000 in
theorem fX9_52 : a_Fl RX9 52 9 6 6 true := ⟨by decide, by decide, rfl, List.mem_append_right _ (List.mem_of_getElem? (i := 211) (by decide +kernel)), rfl⟩
set_option maxRecDepth 100000 in
theorem fX9_56 : a_Fl RX9 56 9 7 7 true := ⟨by decide, by decide, rfl, List.mem_append_right _ (List.mem_of_getElem? (i := 212) (by decide +kernel)), rfl⟩
set_option maxRecDepth 100000 in
theorem fX9_63 : a_Fl RX9 63 9 8 8 true := ⟨by decide, by decide, rfl, List.mem_append_right _ (List.mem_of_getElem? (i := 213) (by decide +kernel)), rfl⟩
set_option maxRecDepth 100000 in
theorem fX9_79 : a_Fl RX9 79 9 9 9 false := ⟨by decide, by decide, rfl, List.mem_append_right _ (List.mem_of_getElem? (i := 214) (by decide +kernel)), rfl⟩
set_option maxRecDepth 100000 in
theorem fX9_131 : a_Fl RX9 131 9 10 10 false := ⟨by decide, by decide, rfl, List.mem_append_right _ (List.mem_of_getElem? (i := 215) (by decide +kernel)), rfl⟩
set_option maxRecDepth 100000 in
theorem fX9_71 : a_Fl RX9 71 9 11 11 false := ⟨by decide, by decide, rfl, List.mem_append_right _ (List.mem_of_getElem? (i := 216) (by decide +kernel)), rfl⟩
set_option maxRecDepth 100000 in
theorem fX3_25 : a_Fl RX3 25 3 0 0 false := ⟨by decide, by decide, rfl, List.mem_append_right _ (List.mem_of_getElem? (i := 262) (by decide +kernel)), rfl⟩
set_option maxRecDepth 100000 in
theorem fX9_283 : a_Fl RX9 283 3 0 0 false := ⟨by decide, by decide, rfl, List.mem_append_right _ (List.mem_of_getElem? (i := 263) (by decide +kernel)), rfl⟩
set_option maxRecDepth 100000 in
theorem fX3_28 : a_Fl RX3 28 3 1 1 false := ⟨by decide, by decide, rfl, List.mem_append_right _ (List.mem_of_getElem? (i := 264) (by decide +kernel)), rfl⟩
set_option maxRecDepth 100000 in
theorem fX9_261 : a_Fl RX9 261 3 1 1 false := ⟨by decide, by decide, rfl, List.mem_append_right _ (List.mem_of_getElem? (i := 265) (by decide +kernel)), rfl⟩
set_option maxRecDepth 100000 in
theorem fX3_31 : a_Fl RX3 31 3 2 2 true := ⟨by decide, by decide, rfl, List.mem_append_right _ (List.mem_of_getElem? (i := 266) (by decide +kernel)), rfl⟩
set_option maxRecDepth 100000 in
theorem fX9_264 : a_Fl RX9 264 3 2 2 true := ⟨by decide, by decide, rfl, List.mem_append_right _ (List.mem_of_getElem? (i := 267) (by decide +kernel)), rfl⟩
set_option maxRecDepth 100000 in
theorem fX3_35 : a_Fl RX3 35 3 3 3 true := ⟨by decide, by decide, rfl, List.mem_append_right _ (List.mem_of_getElem? (i := 268) (by decide +kernel)), rfl⟩
set_option maxRecDepth 100000 in
theorem fX9_271 : a_Fl RX9 271 3 3 3 true := ⟨by decide, by decide, rfl, List.mem_append_right _ (List.mem_of_getElem? (i := 269) (by decide +kernel)), rfl⟩
set_option maxRecDepth 100000 in
theorem fX3_38 : a_Fl RX3 38 3 4 4 false := ⟨by decide, by decide, rfl, List.mem_append_right _ (List.mem_of_getElem? (i := 270) (by decide +kernel)), rfl⟩
set_option maxRecDepth 100000 in
theorem fX9_274 : a_Fl RX9 274 3 4 4 false := ⟨by decide, by decide, rfl, List.mem_append_right _ (List.mem_of_getElem? (i := 271) (by decide +kernel)), rfl⟩
set_option maxRecDepth 100000 in
theorem fX3_41 : a_Fl RX3 41 3 5 5 false := ⟨by decide, by decide, rfl, List.mem_append_right _ (List.mem_of_getElem? (i := 272) (by decide +kernel)), rfl⟩
set_option maxRecDepth 100000 in
theorem fX9_204 : a_Fl RX9 204 3 5 5 false := ⟨by decide, by decide, rfl, List.mem_append_right _ (List.mem_of_getElem? (i := 273) (by decide +kernel)), rfl⟩
set_option maxRecDepth 100000 in
theorem fX3_44 : a_Fl RX3 44 3 6 6 false := ⟨by decide, by decide, rfl, List.mem_append_right _ (List.mem_of_getElem? (i := 274) (by decide +kernel)), rfl⟩
set_option maxRecDepth 100000 in
theorem fX9_207 : a_Fl RX9 207 3 6 6 false := ⟨by decide, by decide, rfl, List.mem_append_right _ (List.mem_of_getElem? (i := 275) (by decide +kernel)), rfl⟩
set_option maxRecDepth 100000 in
theorem fX3_9 : a_Fl RX3 9 3 7 7 true := ⟨by decide, by decide, rfl, List.mem_append_right _ (List.mem_of_getElem? (i := 276) (by decide +kernel)), rfl⟩
set_option maxRecDepth 100000 in
theorem fX9_235 : a_Fl RX9 235 3 7 7 true := ⟨by decide, by decide, rfl, List.mem_append_right _ (List.mem_of_getElem? (i := 277) (by decide +kernel)), rfl⟩
set_option maxRecDepth 100000 in
theorem fX3_48 : a_Fl RX3 48 3 8 8 false := ⟨by decide, by decide, rfl, List.mem_append_right _ (List.mem_of_getElem? (i := 278) (by decide +kernel)), rfl⟩
set_option maxRecDepth 100000 in
theorem fX9_96 : a_Fl RX9 96 3 8 8 false := ⟨by decide, by decide, rfl, List.mem_append_right _ (List.mem_of_getElem? (i := 279) (by decide +kernel)), rfl⟩
set_option maxRecDepth 100000 in
theorem fX3_62 : a_Fl RX3 62 3 9 9 false := ⟨by decide, by decide, rfl, List.mem_append_right _ (List.mem_of_getElem? (i := 280) (by decide +kernel)), rfl⟩
set_option maxRecDepth 100000 in
theorem fX9_149 : a_Fl RX9 149 3 9 9 false := ⟨by decide, by decide, rfl, List.mem_append_right _ (List.mem_of_getElem? (i := 281) (by decide +kernel)), rfl⟩
set_option maxRecDepth 100000 in
theorem fX3_15 : a_Fl RX3 15 3 10 10 false := ⟨by decide, by decide, rfl, List.mem_append_right _ (List.mem_of_getElem? (i := 282) (by decide +kernel)), rfl⟩
set_option maxRecDepth 100000 in
theorem fX9_152 : a_Fl RX9 152 3 10 10 false := ⟨by decide, by decide, rfl, List.mem_append_right _ (List.mem_of_getElem? (i := 283) (by decide +kernel)), rfl⟩
set_option maxRecDepth 100000 in
theorem fX3_72 : a_Fl RX3 72 3 11 11 false := ⟨by decide, by decide, rfl, List.mem_append_right _ (List.mem_of_getElem? (i := 284) (by decide +kernel)), rfl⟩
set_option maxRecDepth 100000 in
theorem fX9_155 : a_Fl RX9 155 3 11 11 false := ⟨by decide, by decide, rfl, List.mem_append_right _ (List.mem_of_getElem? (i := 285) (by decide +kernel)), rfl⟩
set_option maxRecDepth 100000 in
theorem fX3_19 : a_Fl RX3 19 3 12 12 false := ⟨by decide, by decide, rfl, List.mem_append_right _ (List.mem_of_getElem? (i := 286) (by decide +kernel)), rfl⟩
set_option maxRecDepth 100000 in
theorem fX9_158 : a_Fl RX9 158 3 12 12 false := ⟨by decide, by decide, rfl, List.mem_append_right _ (List.mem_of_getElem? (i := 287) (by decide +kernel)), rfl⟩
set_option maxRecDepth 100000 in
theorem fX3_22 : a_Fl RX3 22 3 13 13 false := ⟨by decide, by decide, rfl, List.mem_append_right _ (List.mem_of_getElem? (i := 288) (by decide +kernel)), rfl⟩
set_option maxRecDepth 100000 in
theorem fX1_40 : a_Fl RX1 40 3 13 13 false := ⟨by decide, by decide, rfl, List.mem_append_right _ (List.mem_of_getElem? (i := 289) (by decide +kernel)), rfl⟩
set_option maxRecDepth 100000 in
theorem fX9_165 : a_Fl RX9 165 3 13 13 false := ⟨by decide, by decide, rfl, List.mem_append_right _ (List.mem_of_getElem? (i := 290) (by decide +kernel)), rfl⟩
set_option maxRecDepth 100000 in
theorem fX3_81 : a_Fl RX3 81 3 14 14 false := ⟨by decide, by decide, rfl, List.mem_append_right _ (List.mem_of_getElem? (i := 291) (by decide +kernel)), rfl⟩
set_option maxRecDepth 100000 in
theorem fX9_277 : a_Fl RX9 277 3 14 14 false := ⟨by decide, by decide, rfl, List.mem_append_right _ (List.mem_of_getElem? (i := 292) (by decide +kernel)), rfl⟩
set_option maxRecDepth 100000 in
theorem fX3_75 : a_Fl RX3 75 3 15 15 false := ⟨by decide, by decide, rfl, List.mem_append_right _ (List.mem_of_getElem? (i := 293) (by decide +kernel)), rfl⟩
set_option maxRecDepth 100000 in
theorem fX9_280 : a_Fl RX9 280 3 15 15 false := ⟨by decide, by decide, rfl, List.mem_append_right _ (List.mem_of_getElem? (i := 294) (by decide +kernel)), rfl⟩
set_option maxRecDepth 100000 in
theorem fX3_78 : a_Fl RX3 78 3 16 16 false := ⟨by decide, by decide, rfl, List.mem_append_right _ (List.mem_of_getElem? (i := 295) (by decide +kernel)), rfl⟩
set_option maxRecDepth 100000 in
theorem fX9_168 : a_Fl RX9 168 3 16 16 false := ⟨by decide, by decide, rfl, List.mem_append_right _ (List.mem_of_getElem? (i := 296) (by decide +kernel)), rfl⟩
set_option maxRecDepth 100000 in
theorem fX0_7 : a_Fl RX0 7 0 0 0 false := ⟨by decide, by decide, rfl, List.mem_append_right _ (List.mem_of_getElem? (i := 408) (by decide +kernel)), rfl⟩
set_option maxRecDepth 100000 in
theorem fX3_57 : a_Fl RX3 57 0 0 0 false := ⟨by decide, by decide, rfl, List.mem_append_right _ (List.mem_of_getElem? (i := 409) (by decide +kernel)), rfl⟩
set_option maxRecDepth 100000 in
theorem fX9_139 : a_Fl RX9 139 0 0 0 false := ⟨by decide, by decide, rfl, List.mem_append_right _ (List.mem_of_getElem? (i := 410) (by decide +kernel)), rfl⟩
set_option maxRecDepth 100000 in
theorem fX0_13 : a_Fl RX0 13 0 1 1 false := ⟨by decide, by decide, rfl, List.mem_append_right _ (List.mem_of_getElem? (i := 411) (by decide +kernel)), rfl⟩
set_option maxRecDepth 100000 in
theorem fX3_69 : a_Fl RX3 69 0 1 1 false := ⟨by decide, by decide, rfl, List.mem_append_right _ (List.mem_of_getElem? (i := 412) (by decide +kernel)), rfl⟩
set_option maxRecDepth 100000 in
theorem fX9_142 : a_Fl RX9 142 0 1 1 false := ⟨by decide, by decide, rfl, List.mem_append_right _ (List.mem_of_getElem? (i := 413) (by decide +kernel)), rfl⟩
set_option maxRecDepth 100000 in
theorem fX0_16 : a_Fl RX0 16 0 2 2 false := ⟨by decide, by decide, rfl, List.mem_append_right _ (List.mem_of_getElem? (i := 414) (by decide +kernel)), rfl⟩
set_option maxRecDepth 100000 in
theorem fX9_174 : a_Fl RX9 174 0 2 2 false := ⟨by decide, by decide, rfl, List.mem_append_right _ (List.mem_of_getElem? (i := 415) (by decide +kernel)), rfl⟩
set_option maxRecDepth 100000 in
theorem fX10_1 : a_Fl RX10 1 10 0 0 false := ⟨by decide, by decide, rfl, List.mem_append_right _ (List.mem_of_getElem? (i := 879) (by decide +kernel)), rfl⟩
set_option maxRecDepth 100000 in
theorem fX10_14 : a_Fl RX10 14 10 1 1 true := ⟨by decide, by decide, rfl, List.mem_append_right _ (List.mem_of_getElem? (i := 880) (by decide +kernel)), rfl⟩
set_option maxRecDepth 100000 in
theorem fX10_11 : a_Fl RX10 11 10 2 2 false := ⟨by decide, by decide, rfl, List.mem_append_right _ (List.mem_of_getElem? (i := 881) (by decide +kernel)), rfl⟩
set_option maxRecDepth 100000 in
theorem fX10_172 : a_Fl RX10 172 10 3 3 false := ⟨by decide, by decide, rfl, List.mem_append_right _ (List.mem_of_getElem? (i := 882) (by decide +kernel)), rfl⟩
set_option maxRecDepth 100000 in
theorem fX10_24 : a_Fl RX10 24 10 4 4 true := ⟨by decide, by decide, rfl, List.mem_append_right _ (List.mem_of_getElem? (i := 883) (by decide +kernel)), rfl⟩
set_option maxRecDepth 100000 in
theorem fX10_27 : a_Fl RX10 27 10 5 5 true := ⟨by decide, by decide, rfl, List.mem_append_right _ (List.mem_of_getElem? (i := 884) (by decide +kernel)), rfl⟩
set_option maxRecDepth 100000 in
theorem fX10_30 : a_Fl RX10 30 10 6 6 true := ⟨by decide, by decide, rfl, List.mem_append_right _ (List.mem_of_getElem? (i := 885) (by decide +kernel)), rfl⟩
set_option maxRecDepth 100000 in
theorem fX10_191 : a_Fl RX10 191 10 7 7 false := ⟨by decide, by decide, rfl, List.mem_append_right _ (List.mem_of_getElem? (i := 886) (by decide +kernel)), rfl⟩
set_option maxRecDepth 100000 in
theorem fX10_194 : a_Fl RX10 194 10 8 8 false := ⟨by decide, by decide, rfl, List.mem_append_right _ (List.mem_of_getElem? (i := 887) (by decide +kernel)), rfl⟩
set_option maxRecDepth 100000 in
theorem fX10_56 : a_Fl RX10 56 10 9 9 true := ⟨by decide, by decide, rfl, List.mem_append_right _ (List.mem_of_getElem? (i := 888) (by decide +kernel)), rfl⟩
set_option maxRecDepth 100000 in
theorem fX10_59 : a_Fl RX10 59 10 10 10 true := ⟨by decide, by decide, rfl, List.mem_append_right _ (List.mem_of_getElem? (i := 889) (by decide +kernel)), rfl⟩
set_option maxRecDepth 100000 in
theorem fX10_62 : a_Fl RX10 62 10 11 11 true := ⟨by decide, by decide, rfl, List.mem_append_right _ (List.mem_of_getElem? (i := 890) (by decide +kernel)), rfl⟩
set_option maxRecDepth 100000 in
theorem fX10_66 : a_Fl RX10 66 10 12 12 true := ⟨by decide, by decide, rfl, List.mem_append_right _ (List.mem_of_getElem? (i := 891) (by decide +kernel)), rfl⟩
set_option maxRecDepth 100000 in
theorem fX10_69 : a_Fl RX10 69 10 13 13 true := ⟨by decide, by decide, rfl, List.mem_append_right _ (List.mem_of_getElem? (i := 892) (by decide +kernel)), rfl⟩
set_option maxRecDepth 100000 in
theorem fX10_72 : a_Fl RX10 72 10 14 14 true := ⟨by decide, by decide, rfl, List.mem_append_right _ (List.mem_of_getElem? (i := 893) (by decide +kernel)), rfl⟩
set_option maxRecDepth 100000 in
theorem fX10_219 : a_Fl RX10 219 10 15 15 false := ⟨by decide, by decide, rfl, List.mem_append_right _ (List.mem_of_getElem? (i := 894) (by decide +kernel)), rfl⟩
set_option maxRecDepth 100000 in
theorem fX10_210 : a_Fl RX10 210 10 16 16 false := ⟨by decide, by decide, rfl, List.mem_append_right _ (List.mem_of_getElem? (i := 895) (by decide +kernel)), rfl⟩
set_option maxRecDepth 100000 in
theorem fX10_213 : a_Fl RX10 213 10 17 17 false := ⟨by decide, by decide, rfl, List.mem_append_right _ (List.mem_of_getElem? (i := 896) (by decide +kernel)), rfl⟩
set_option maxRecDepth 100000 in
theorem fX10_228 : a_Fl RX10 228 10 18 18 false := ⟨by decide, by decide, rfl, List.mem_append_right _ (List.mem_of_getElem? (i := 897) (by decide +kernel)), rfl⟩
set_option maxRecDepth 100000 in
theorem fX10_75 : a_Fl RX10 75 10 19 19 true := ⟨by decide, by decide, rfl, List.mem_append_right _ (List.mem_of_getElem? (i := 898) (by decide +kernel)), rfl⟩
set_option maxRecDepth 100000 in
theorem fX10_78 : a_Fl RX10 78 10 20 20 true := ⟨by decide, by decide, rfl, List.mem_append_right _ (List.mem_of_getElem? (i := 899) (by decide +kernel)), rfl⟩
set_option maxRecDepth 100000 in
theorem fX10_81 : a_Fl RX10 81 10 21 21 true := ⟨by decide, by decide, rfl, List.mem_append_right _ (List.mem_of_getElem? (i := 900) (by decide +kernel)), rfl⟩
set_option maxRecDepth 100000 in
theorem fX10_84 : a_Fl RX10 84 10 22 22 true := ⟨by decide, by decide, rfl, List.mem_append_right _ (List.mem_of_getElem? (i := 901) (by decide +kernel)), rfl⟩
set_option maxRecDepth 100000 in
theorem fX10_87 : a_Fl RX10 87 10 23 23 true := ⟨by decide, by decide, rfl, List.mem_append_right _ (List.mem_of_getElem? (i := 902) (by decide +kernel)), rfl⟩
set_option maxRecDepth 100000 in
theorem fX10_255 : a_Fl RX10 255 10 24 24 false := ⟨by decide, by decide, rfl, List.mem_append_right _ (List.mem_of_getElem? (i := 903) (by decide +kernel)), rfl⟩
set_option maxRecDepth 100000 in
theorem fX10_258 : a_Fl RX10 258 10 25 25 false := ⟨by decide, by decide, rfl, List.mem_append_right _ (List.mem_of_getElem? (i := 904) (by decide +kernel)), rfl⟩
set_option maxRecDepth 100000 in
theorem fX10_90 : a_Fl RX10 90 10 26 26 true := ⟨by decide, by decide, rfl, List.mem_append_right _ (List.mem_of_getElem? (i := 905) (by decide +kernel)), rfl⟩
set_option maxRecDepth 100000 in
theorem fX10_93 : a_Fl RX10 93 10 27 27 true := ⟨by decide, by decide, rfl, List.mem_append_right _ (List.mem_of_getElem? (i := 906) (by decide +kernel)), rfl⟩
set_option maxRecDepth 100000 in
theorem fX10_96 : a_Fl RX10 96 10 28 28 true := ⟨by decide, by decide, rfl, List.mem_append_right _ (List.mem_of_getElem? (i := 907) (by decide +kernel)), rfl⟩
set_option maxRecDepth 100000 in
theorem fX10_99 : a_Fl RX10 99 10 29 29 true := ⟨by decide, by decide, rfl, List.mem_append_right _ (List.mem_of_getElem? (i := 908) (by decide +kernel)), rfl⟩
set_option maxRecDepth 100000 in
theorem fX10_102 : a_Fl RX10 102 10 30 30 true := ⟨by decide, by decide, rfl, List.mem_append_right _ (List.mem_of_getElem? (i := 909) (by decide +kernel)), rfl⟩
set_option maxRecDepth 100000 in
theorem fX10_105 : a_Fl RX10 105 10 31 31 true := ⟨by decide, by decide, rfl, List.mem_append_right _ (List.mem_of_getElem? (i := 910) (by decide +kernel)), rfl⟩
set_option maxRecDepth 100000 in
theorem fX10_108 : a_Fl RX10 108 10 32 32 true := ⟨by decide, by decide, rfl, List.mem_append_right _ (List.mem_of_getElem? (i := 911) (by decide +kernel)), rfl⟩
set_option maxRecDepth 100000 in
theorem fX10_111 : a_Fl RX10 111 10 33 33 true := ⟨by decide, by decide, rfl, List.mem_append_right _ (List.mem_of_getElem? (i := 912) (by decide +kernel)), rfl⟩
set_option maxRecDepth 100000 in
theorem fX10_114 : a_Fl RX10 114 10 34 34 true := ⟨by decide, by decide, rfl, List.mem_append_right _ (List.mem_of_getElem? (i := 913) (by decide +kernel)), rfl⟩
set_option maxRecDepth 100000 in
theorem fX10_117 : a_Fl RX10 117 10 35 35 true := ⟨by decide, by decide, rfl, List.mem_append_right _ (List.mem_of_getElem? (i := 914) (by decide +kernel)), rfl⟩
set_option maxRecDepth 100000 in
theorem fX10_120 : a_Fl RX10 120 10 36 36 true := ⟨by decide, by decide, rfl, List.mem_append_right _ (List.mem_of_getElem? (i := 915) (by decide +kernel)), rfl⟩
set_option maxRecDepth 100000 in
theorem fX10_286 : a_Fl RX10 286 10 37 37 false := ⟨by decide, by decide, rfl, List.mem_append_right _ (List.mem_of_getElem? (i := 916) (by decide +kernel)), rfl⟩
set_option maxRecDepth 100000 in
theorem fX10_123 : a_Fl RX10 123 10 38 38 true := ⟨by decide, by decide, rfl, List.mem_append_right _ (List.mem_of_getElem? (i := 917) (by decide +kernel)), rfl⟩
set_option maxRecDepth 100000 in
theorem fX10_126 : a_Fl RX10 126 10 39 39 true := ⟨by decide, by decide, rfl, List.mem_append_right _ (List.mem_of_getElem? (i := 918) (by decide +kernel)), rfl⟩
set_option maxRecDepth 100000 in
theorem fX10_129 : a_Fl RX10 129 10 40 40 true := ⟨by decide, by decide, rfl, List.mem_append_right _ (List.mem_of_getElem? (i := 919) (by decide +kernel)), rfl⟩
set_option maxRecDepth 100000 in
theorem fX10_293 : a_Fl RX10 293 10 41 41 false := ⟨by decide, by decide, rfl, List.mem_append_right _ (List.mem_of_getElem? (i := 920) (by decide +kernel)), rfl⟩
set_option maxRecDepth 100000 in
theorem fX10_132 : a_Fl RX10 132 10 42 42 true := ⟨by decide, by decide, rfl, List.mem_append_right _ (List.mem_of_getElem? (i := 921) (by decide +kernel)), rfl⟩
set_option maxRecDepth 100000 in
theorem fX10_135 : a_Fl RX10 135 10 43 43 true := ⟨by decide, by decide, rfl, List.mem_append_right _ (List.mem_of_getElem? (i := 922) (by decide +kernel)), rfl⟩
set_option maxRecDepth 100000 in
theorem fX10_138 : a_Fl RX10 138 10 44 44 true := ⟨by decide, by decide, rfl, List.mem_append_right _ (List.mem_of_getElem? (i := 923) (by decide +kernel)), rfl⟩
set_option maxRecDepth 100000 in
theorem fX10_308 : a_Fl RX10 308 10 45 45 false := ⟨by decide, by decide, rfl, List.mem_append_right _ (List.mem_of_getElem? (i := 924) (by decide +kernel)), rfl⟩
set_option maxRecDepth 100000 in
theorem fX10_141 : a_Fl RX10 141 10 46 46 true := ⟨by decide, by decide, rfl, List.mem_append_right _ (List.mem_of_getElem? (i := 925) (by decide +kernel)), rfl⟩
set_option maxRecDepth 100000 in
theorem fX10_144 : a_Fl RX10 144 10 47 47 true := ⟨by decide, by decide, rfl, List.mem_append_right _ (List.mem_of_getElem? (i := 926) (by decide +kernel)), rfl⟩
set_option maxRecDepth 100000 in
theorem fX10_147 : a_Fl RX10 147 10 48 48 true := ⟨by decide, by decide, rfl, List.mem_append_right _ (List.mem_of_getElem? (i := 927) (by decide +kernel)), rfl⟩
set_option maxRecDepth 100000 in
theorem fX10_150 : a_Fl RX10 150 10 49 49 true := ⟨by decide, by decide, rfl, List.mem_append_right _ (List.mem_of_getElem? (i := 928) (by decide +kernel)), rfl⟩
set_option maxRecDepth 100000 in
theorem fX10_153 : a_Fl RX10 153 10 50 50 true := ⟨by decide, by decide, rfl, List.mem_append_right _ (List.mem_of_getElem? (i := 929) (by decide +kernel)), rfl⟩
set_option maxRecDepth 100000 in
theorem fX10_156 : a_Fl RX10 156 10 51 51 true := ⟨by decide, by decide, rfl, List.mem_append_right _ (List.mem_of_getElem? (i := 930) (by decide +kernel)), rfl⟩
set_option maxRecDepth 100000 in
theorem fX10_159 : a_Fl RX10 159 10 52 52 true := ⟨by decide, by decide, rfl, List.mem_append_right _ (List.mem_of_getElem? (i := 931) (by decide +kernel)), rfl⟩
set_option maxRecDepth 100000 in
theorem fX10_162 : a_Fl RX10 162 10 53 53 true := ⟨by decide, by decide, rfl, List.mem_append_right _ (List.mem_of_getElem? (i := 932) (by decide +kernel)), rfl⟩
set_option maxRecDepth 100000 in
theorem fX10_342 : a_Fl RX10 342 10 54 54 false := ⟨by decide, by decide, rfl, List.mem_append_right _ (List.mem_of_getElem? (i := 933) (by decide +kernel)), rfl⟩
set_option maxRecDepth 100000 in
theorem fX10_165 : a_Fl RX10 165 10 55 55 true := ⟨by decide, by decide, rfl, List.mem_append_right _ (List.mem_of_getElem? (i := 934) (by decide +kernel)), rfl⟩
set_option maxRecDepth 100000 in
theorem lL_19 : Cond.methodLink RL 19 yX9_init ∈ lw_tbl := List.mem_append_right _ (List.mem_of_getElem? (i := 24) (by decide +kernel))
set_option maxRecDepth 100000 in
theorem oX9_1 : Cond.methodLink RX9 1 objectInit ∈ lw_tbl := List.mem_append_right _ (List.mem_of_getElem? (i := 27) (by decide +kernel))
set_option maxRecDepth 100000 in
theorem oX2_3 : Cond.methodLink RX2 3 objectInit ∈ lw_tbl := List.mem_append_right _ (List.mem_of_getElem? (i := 39) (by decide +kernel))
set_option maxRecDepth 100000 in
theorem oX1_3 : Cond.methodLink RX1 3 objectInit ∈ lw_tbl := List.mem_append_right _ (List.mem_of_getElem? (i := 73) (by decide +kernel))
set_option maxRecDepth 100000 in
theorem oX7_3 : Cond.methodLink RX7 3 objectInit ∈ lw_tbl := List.mem_append_right _ (List.mem_of_getElem? (i := 101) (by decide +kernel))
set_option maxRecDepth 100000 in
theorem oX4_3 : Cond.methodLink RX4 3 objectInit ∈ lw_tbl := List.mem_append_right _ (List.mem_of_getElem? (i := 117) (by decide +kernel))
set_option maxRecDepth 100000 in
theorem oX8_3 : Cond.methodLink RX8 3 objectInit ∈ lw_tbl := List.mem_append_right _ (List.mem_of_getElem? (i := 123) (by decide +kernel))
set_option maxRecDepth 100000 in
theorem oX5_3 : Cond.methodLink RX5 3 objectInit ∈ lw_tbl := List.mem_append_right _ (List.mem_of_getElem? (i := 145) (by decide +kernel))
set_option maxRecDepth 100000 in
theorem oX6_3 : Cond.methodLink RX6 3 objectInit ∈ lw_tbl := List.mem_append_right _ (List.mem_of_getElem? (i := 194) (by decide +kernel))
set_option maxRecDepth 100000 in
theorem lL_23 : Cond.methodLink RL 23 yX9_days ∈ lw_tbl := List.mem_append_right _ (List.mem_of_getElem? (i := 242) (by decide +kernel))
set_option maxRecDepth 100000 in
theorem lX9_67 : Cond.methodLink RX9 67 yX9_within ∈ lw_tbl := List.mem_append_right _ (List.mem_of_getElem? (i := 246) (by decide +kernel))
set_option maxRecDepth 100000 in
theorem lL_28 : Cond.methodLink RL 28 yX9_wild ∈ lw_tbl := List.mem_append_right _ (List.mem_of_getElem? (i := 249) (by decide +kernel))
set_option maxRecDepth 100000 in
theorem lX9_75 : Cond.methodLink RX9 75 yX9_canEnter ∈ lw_tbl := List.mem_append_right _ (List.mem_of_getElem? (i := 253) (by decide +kernel))
set_option maxRecDepth 100000 in
theorem lX9_82 : Cond.methodLink RX9 82 yX3_init ∈ lw_tbl := List.mem_append_right _ (List.mem_of_getElem? (i := 258) (by decide +kernel))
set_option maxRecDepth 100000 in
theorem oX3_3 : Cond.methodLink RX3 3 objectInit ∈ lw_tbl := List.mem_append_right _ (List.mem_of_getElem? (i := 261) (by decide +kernel))
set_option maxRecDepth 100000 in
theorem lX9_85 : Cond.methodLink RX9 85 yX9_enter ∈ lw_tbl := List.mem_append_right _ (List.mem_of_getElem? (i := 332) (by decide +kernel))
set_option maxRecDepth 100000 in
theorem lL_32 : Cond.methodLink RL 32 yX9_seed ∈ lw_tbl := List.mem_append_right _ (List.mem_of_getElem? (i := 336) (by decide +kernel))
set_option maxRecDepth 100000 in
theorem lX9_89 : Cond.methodLink RX9 89 yX9_plantAt ∈ lw_tbl := List.mem_append_right _ (List.mem_of_getElem? (i := 340) (by decide +kernel))
set_option maxRecDepth 100000 in
theorem lX9_93 : Cond.methodLink RX9 93 yX3_init_ ∈ lw_tbl := List.mem_append_right _ (List.mem_of_getElem? (i := 344) (by decide +kernel))
set_option maxRecDepth 100000 in
theorem lL_36 : Cond.methodLink RL 36 yX9_cut ∈ lw_tbl := List.mem_append_right _ (List.mem_of_getElem? (i := 350) (by decide +kernel))
set_option maxRecDepth 100000 in
theorem lL_40 : Cond.methodLink RL 40 yX9_split ∈ lw_tbl := List.mem_append_right _ (List.mem_of_getElem? (i := 354) (by decide +kernel))
set_option maxRecDepth 100000 in
theorem lL_44 : Cond.methodLink RL 44 yX9_mark ∈ lw_tbl := List.mem_append_right _ (List.mem_of_getElem? (i := 358) (by decide +kernel))
set_option maxRecDepth 100000 in
theorem lX9_99 : Cond.methodLink RX9 99 yX9_isDigit ∈ lw_tbl := List.mem_append_right _ (List.mem_of_getElem? (i := 362) (by decide +kernel))
set_option maxRecDepth 100000 in
theorem lX9_111 : Cond.methodLink RX9 111 yX3_setMarks ∈ lw_tbl := List.mem_append_right _ (List.mem_of_getElem? (i := 371) (by decide +kernel))
set_option maxRecDepth 100000 in
theorem lL_49 : Cond.methodLink RL 49 yX9_name ∈ lw_tbl := List.mem_append_right _ (List.mem_of_getElem? (i := 375) (by decide +kernel))
set_option maxRecDepth 100000 in
theorem lX9_114 : Cond.methodLink RX9 114 yX2_give ∈ lw_tbl := List.mem_append_right _ (List.mem_of_getElem? (i := 379) (by decide +kernel))
set_option maxRecDepth 100000 in
theorem lL_54 : Cond.methodLink RL 54 yX9_join ∈ lw_tbl := List.mem_append_right _ (List.mem_of_getElem? (i := 383) (by decide +kernel))
set_option maxRecDepth 100000 in
theorem lX9_117 : Cond.methodLink RX9 117 yX2_tie ∈ lw_tbl := List.mem_append_right _ (List.mem_of_getElem? (i := 387) (by decide +kernel))
set_option maxRecDepth 100000 in
theorem lX2_37 : Cond.methodLink RX2 37 yX2_leadsTo ∈ lw_tbl := List.mem_append_right _ (List.mem_of_getElem? (i := 391) (by decide +kernel))
set_option maxRecDepth 100000 in
theorem lX2_45 : Cond.methodLink RX2 45 yX2_tiedAsOf ∈ lw_tbl := List.mem_append_right _ (List.mem_of_getElem? (i := 395) (by decide +kernel))
set_option maxRecDepth 100000 in
theorem lL_68 : Cond.methodLink RL 68 yX9_bed ∈ lw_tbl := List.mem_append_right _ (List.mem_of_getElem? (i := 399) (by decide +kernel))
set_option maxRecDepth 100000 in
theorem lX9_134 : Cond.methodLink RX9 134 yX0_init ∈ lw_tbl := List.mem_append_right _ (List.mem_of_getElem? (i := 404) (by decide +kernel))
set_option maxRecDepth 100000 in
theorem oX0_1 : Cond.methodLink RX0 1 objectInit ∈ lw_tbl := List.mem_append_right _ (List.mem_of_getElem? (i := 407) (by decide +kernel))
set_option maxRecDepth 100000 in
theorem lL_72 : Cond.methodLink RL 72 yX9_change ∈ lw_tbl := List.mem_append_right _ (List.mem_of_getElem? (i := 423) (by decide +kernel))
set_option maxRecDepth 100000 in
theorem lX9_135 : Cond.methodLink RX9 135 yX9_bedAt ∈ lw_tbl := List.mem_append_right _ (List.mem_of_getElem? (i := 427) (by decide +kernel))
set_option maxRecDepth 100000 in
theorem lL_77 : Cond.methodLink RL 77 yX9_needs ∈ lw_tbl := List.mem_append_right _ (List.mem_of_getElem? (i := 431) (by decide +kernel))
set_option maxRecDepth 100000 in
theorem lX9_145 : Cond.methodLink RX9 145 yX9_isSpan ∈ lw_tbl := List.mem_append_right _ (List.mem_of_getElem? (i := 435) (by decide +kernel))
set_option maxRecDepth 100000 in
theorem lL_82 : Cond.methodLink RL 82 yX9_lay ∈ lw_tbl := List.mem_append_right _ (List.mem_of_getElem? (i := 438) (by decide +kernel))
set_option maxRecDepth 100000 in
theorem lX9_161 : Cond.methodLink RX9 161 yX9_hasPlaceFor ∈ lw_tbl := List.mem_append_right _ (List.mem_of_getElem? (i := 442) (by decide +kernel))
set_option maxRecDepth 100000 in
theorem lX9_286 : Cond.methodLink RX9 286 yX3_suits ∈ lw_tbl := List.mem_append_right _ (List.mem_of_getElem? (i := 446) (by decide +kernel))
set_option maxRecDepth 100000 in
theorem lL_86 : Cond.methodLink RL 86 yX9_moves ∈ lw_tbl := List.mem_append_right _ (List.mem_of_getElem? (i := 451) (by decide +kernel))
set_option maxRecDepth 100000 in
theorem lX9_171 : Cond.methodLink RX9 171 yX1_makeEmpty ∈ lw_tbl := List.mem_append_right _ (List.mem_of_getElem? (i := 455) (by decide +kernel))
set_option maxRecDepth 100000 in
theorem lX9_177 : Cond.methodLink RX9 177 yX1_addBed ∈ lw_tbl := List.mem_append_right _ (List.mem_of_getElem? (i := 459) (by decide +kernel))
set_option maxRecDepth 100000 in
theorem lX9_181 : Cond.methodLink RX9 181 yX1_addPlant ∈ lw_tbl := List.mem_append_right _ (List.mem_of_getElem? (i := 463) (by decide +kernel))
set_option maxRecDepth 100000 in
theorem lX1_34 : Cond.methodLink RX1 34 yX3_suits ∈ lw_tbl := List.mem_append_right _ (List.mem_of_getElem? (i := 467) (by decide +kernel))
set_option maxRecDepth 100000 in
theorem lX9_185 : Cond.methodLink RX9 185 yX1_fewest ∈ lw_tbl := List.mem_append_right _ (List.mem_of_getElem? (i := 468) (by decide +kernel))
set_option maxRecDepth 100000 in
theorem lX1_43 : Cond.methodLink RX1 43 yX1_bringIn ∈ lw_tbl := List.mem_append_right _ (List.mem_of_getElem? (i := 472) (by decide +kernel))
set_option maxRecDepth 100000 in
theorem lX1_47 : Cond.methodLink RX1 47 yX1_price ∈ lw_tbl := List.mem_append_right _ (List.mem_of_getElem? (i := 476) (by decide +kernel))
set_option maxRecDepth 100000 in
theorem lX1_51 : Cond.methodLink RX1 51 yX1_spreadCosts ∈ lw_tbl := List.mem_append_right _ (List.mem_of_getElem? (i := 480) (by decide +kernel))
set_option maxRecDepth 100000 in
theorem lX1_62 : Cond.methodLink RX1 62 yX1_spreadFrom ∈ lw_tbl := List.mem_append_right _ (List.mem_of_getElem? (i := 484) (by decide +kernel))
set_option maxRecDepth 100000 in
theorem lX1_54 : Cond.methodLink RX1 54 yX1_cheapestWithRoom ∈ lw_tbl := List.mem_append_right _ (List.mem_of_getElem? (i := 488) (by decide +kernel))
set_option maxRecDepth 100000 in
theorem lX1_58 : Cond.methodLink RX1 58 yX1_shiftAlong ∈ lw_tbl := List.mem_append_right _ (List.mem_of_getElem? (i := 492) (by decide +kernel))
set_option maxRecDepth 100000 in
theorem lL_92 : Cond.methodLink RL 92 yX9_feed ∈ lw_tbl := List.mem_append_right _ (List.mem_of_getElem? (i := 496) (by decide +kernel))
set_option maxRecDepth 100000 in
theorem lX9_189 : Cond.methodLink RX9 189 yX7_takeBytes ∈ lw_tbl := List.mem_append_right _ (List.mem_of_getElem? (i := 500) (by decide +kernel))
set_option maxRecDepth 100000 in
theorem lL_97 : Cond.methodLink RL 97 yX9_text ∈ lw_tbl := List.mem_append_right _ (List.mem_of_getElem? (i := 505) (by decide +kernel))
set_option maxRecDepth 100000 in
theorem lX9_196 : Cond.methodLink RX9 196 yX4_readText ∈ lw_tbl := List.mem_append_right _ (List.mem_of_getElem? (i := 509) (by decide +kernel))
set_option maxRecDepth 100000 in
theorem lX4_25 : Cond.methodLink RX4 25 yX8_scan ∈ lw_tbl := List.mem_append_right _ (List.mem_of_getElem? (i := 513) (by decide +kernel))
set_option maxRecDepth 100000 in
theorem lX8_25 : Cond.methodLink RX8 25 yX7_endOfBlanks ∈ lw_tbl := List.mem_append_right _ (List.mem_of_getElem? (i := 517) (by decide +kernel))
set_option maxRecDepth 100000 in
theorem lX8_32 : Cond.methodLink RX8 32 yX8_scanOne ∈ lw_tbl := List.mem_append_right _ (List.mem_of_getElem? (i := 521) (by decide +kernel))
set_option maxRecDepth 100000 in
theorem lX8_40 : Cond.methodLink RX8 40 yX7_endOfLetters ∈ lw_tbl := List.mem_append_right _ (List.mem_of_getElem? (i := 525) (by decide +kernel))
set_option maxRecDepth 100000 in
theorem lX8_43 : Cond.methodLink RX8 43 yX8_kindOfWord ∈ lw_tbl := List.mem_append_right _ (List.mem_of_getElem? (i := 529) (by decide +kernel))
set_option maxRecDepth 100000 in
theorem lX8_62 : Cond.methodLink RX8 62 yX7_spells ∈ lw_tbl := List.mem_append_right _ (List.mem_of_getElem? (i := 533) (by decide +kernel))
set_option maxRecDepth 100000 in
theorem lX8_36 : Cond.methodLink RX8 36 yX8_add ∈ lw_tbl := List.mem_append_right _ (List.mem_of_getElem? (i := 595) (by decide +kernel))
set_option maxRecDepth 100000 in
theorem lX8_47 : Cond.methodLink RX8 47 yX7_endOfDigits ∈ lw_tbl := List.mem_append_right _ (List.mem_of_getElem? (i := 599) (by decide +kernel))
set_option maxRecDepth 100000 in
theorem lX8_50 : Cond.methodLink RX8 50 yX7_numberIn ∈ lw_tbl := List.mem_append_right _ (List.mem_of_getElem? (i := 603) (by decide +kernel))
set_option maxRecDepth 100000 in
theorem lX8_57 : Cond.methodLink RX8 57 yX8_kindOfSign ∈ lw_tbl := List.mem_append_right _ (List.mem_of_getElem? (i := 607) (by decide +kernel))
set_option maxRecDepth 100000 in
theorem lX4_29 : Cond.methodLink RX4 29 yX5_makeEmpty ∈ lw_tbl := List.mem_append_right _ (List.mem_of_getElem? (i := 610) (by decide +kernel))
set_option maxRecDepth 100000 in
theorem lX4_46 : Cond.methodLink RX4 46 yX4_beginsLine ∈ lw_tbl := List.mem_append_right _ (List.mem_of_getElem? (i := 614) (by decide +kernel))
set_option maxRecDepth 100000 in
theorem lX4_50 : Cond.methodLink RX4 50 yX4_readLine ∈ lw_tbl := List.mem_append_right _ (List.mem_of_getElem? (i := 618) (by decide +kernel))
set_option maxRecDepth 100000 in
theorem lX4_57 : Cond.methodLink RX4 57 yX4_advance ∈ lw_tbl := List.mem_append_right _ (List.mem_of_getElem? (i := 622) (by decide +kernel))
set_option maxRecDepth 100000 in
theorem lX4_60 : Cond.methodLink RX4 60 yX4_expect ∈ lw_tbl := List.mem_append_right _ (List.mem_of_getElem? (i := 626) (by decide +kernel))
set_option maxRecDepth 100000 in
theorem lX4_53 : Cond.methodLink RX4 53 yX4_refuse ∈ lw_tbl := List.mem_append_right _ (List.mem_of_getElem? (i := 630) (by decide +kernel))
set_option maxRecDepth 100000 in
theorem lX4_63 : Cond.methodLink RX4 63 yX4_readAnds ∈ lw_tbl := List.mem_append_right _ (List.mem_of_getElem? (i := 634) (by decide +kernel))
set_option maxRecDepth 100000 in
theorem lX4_70 : Cond.methodLink RX4 70 yX4_readTest ∈ lw_tbl := List.mem_append_right _ (List.mem_of_getElem? (i := 638) (by decide +kernel))
set_option maxRecDepth 100000 in
theorem lX4_77 : Cond.methodLink RX4 77 yX4_readSum ∈ lw_tbl := List.mem_append_right _ (List.mem_of_getElem? (i := 642) (by decide +kernel))
set_option maxRecDepth 100000 in
theorem lX4_80 : Cond.methodLink RX4 80 yX4_readPart ∈ lw_tbl := List.mem_append_right _ (List.mem_of_getElem? (i := 646) (by decide +kernel))
set_option maxRecDepth 100000 in
theorem lX4_73 : Cond.methodLink RX4 73 yX5_addCode ∈ lw_tbl := List.mem_append_right _ (List.mem_of_getElem? (i := 650) (by decide +kernel))
set_option maxRecDepth 100000 in
theorem lX4_66 : Cond.methodLink RX4 66 yX5_endLine ∈ lw_tbl := List.mem_append_right _ (List.mem_of_getElem? (i := 654) (by decide +kernel))
set_option maxRecDepth 100000 in
theorem lX9_200 : Cond.methodLink RX9 200 yX4_exchangeDraft ∈ lw_tbl := List.mem_append_right _ (List.mem_of_getElem? (i := 658) (by decide +kernel))
set_option maxRecDepth 100000 in
theorem lL_101 : Cond.methodLink RL 101 yX9_may ∈ lw_tbl := List.mem_append_right _ (List.mem_of_getElem? (i := 663) (by decide +kernel))
set_option maxRecDepth 100000 in
theorem lX9_127 : Cond.methodLink RX9 127 yX2_nameOf ∈ lw_tbl := List.mem_append_right _ (List.mem_of_getElem? (i := 667) (by decide +kernel))
set_option maxRecDepth 100000 in
theorem lX2_41 : Cond.methodLink RX2 41 yX2_givenAsOf ∈ lw_tbl := List.mem_append_right _ (List.mem_of_getElem? (i := 671) (by decide +kernel))
set_option maxRecDepth 100000 in
theorem lX9_211 : Cond.methodLink RX9 211 yX5_permit ∈ lw_tbl := List.mem_append_right _ (List.mem_of_getElem? (i := 675) (by decide +kernel))
set_option maxRecDepth 100000 in
theorem lX5_35 : Cond.methodLink RX5 35 yX5_valueOf ∈ lw_tbl := List.mem_append_right _ (List.mem_of_getElem? (i := 679) (by decide +kernel))
set_option maxRecDepth 100000 in
theorem lX5_42 : Cond.methodLink RX5 42 yX5_push ∈ lw_tbl := List.mem_append_right _ (List.mem_of_getElem? (i := 683) (by decide +kernel))
set_option maxRecDepth 100000 in
theorem lX5_46 : Cond.methodLink RX5 46 yX5_pop ∈ lw_tbl := List.mem_append_right _ (List.mem_of_getElem? (i := 687) (by decide +kernel))
set_option maxRecDepth 100000 in
theorem lX5_50 : Cond.methodLink RX5 50 yX5_joined ∈ lw_tbl := List.mem_append_right _ (List.mem_of_getElem? (i := 691) (by decide +kernel))
set_option maxRecDepth 100000 in
theorem lL_105 : Cond.methodLink RL 105 yX9_send ∈ lw_tbl := List.mem_append_right _ (List.mem_of_getElem? (i := 694) (by decide +kernel))
set_option maxRecDepth 100000 in
theorem lX9_215 : Cond.methodLink RX9 215 yX9_may ∈ lw_tbl := List.mem_append_right _ (List.mem_of_getElem? (i := 698) (by decide +kernel))
set_option maxRecDepth 100000 in
theorem lX9_218 : Cond.methodLink RX9 218 yX6_write ∈ lw_tbl := List.mem_append_right _ (List.mem_of_getElem? (i := 699) (by decide +kernel))
set_option maxRecDepth 100000 in
theorem lL_109 : Cond.methodLink RL 109 yX9_sent ∈ lw_tbl := List.mem_append_right _ (List.mem_of_getElem? (i := 703) (by decide +kernel))
set_option maxRecDepth 100000 in
theorem lX9_222 : Cond.methodLink RX9 222 yX6_entry ∈ lw_tbl := List.mem_append_right _ (List.mem_of_getElem? (i := 707) (by decide +kernel))
set_option maxRecDepth 100000 in
theorem lL_113 : Cond.methodLink RL 113 yX9_seen ∈ lw_tbl := List.mem_append_right _ (List.mem_of_getElem? (i := 712) (by decide +kernel))
set_option maxRecDepth 100000 in
theorem lL_117 : Cond.methodLink RL 117 yX9_close ∈ lw_tbl := List.mem_append_right _ (List.mem_of_getElem? (i := 716) (by decide +kernel))
set_option maxRecDepth 100000 in
theorem lX9_225 : Cond.methodLink RX9 225 yX3_diesByCheck ∈ lw_tbl := List.mem_append_right _ (List.mem_of_getElem? (i := 720) (by decide +kernel))
set_option maxRecDepth 100000 in
theorem lL_121 : Cond.methodLink RL 121 yX9_fits ∈ lw_tbl := List.mem_append_right _ (List.mem_of_getElem? (i := 724) (by decide +kernel))
set_option maxRecDepth 100000 in
theorem lX9_229 : Cond.methodLink RX9 229 yX3_fitsOriginOf ∈ lw_tbl := List.mem_append_right _ (List.mem_of_getElem? (i := 728) (by decide +kernel))
set_option maxRecDepth 100000 in
theorem lX3_84 : Cond.methodLink RX3 84 yX3_fitsParents ∈ lw_tbl := List.mem_append_right _ (List.mem_of_getElem? (i := 732) (by decide +kernel))
set_option maxRecDepth 100000 in
theorem lX3_92 : Cond.methodLink RX3 92 yX3_bears ∈ lw_tbl := List.mem_append_right _ (List.mem_of_getElem? (i := 736) (by decide +kernel))
set_option maxRecDepth 100000 in
theorem lX3_88 : Cond.methodLink RX3 88 yX3_sameMarks ∈ lw_tbl := List.mem_append_right _ (List.mem_of_getElem? (i := 740) (by decide +kernel))
set_option maxRecDepth 100000 in
theorem lL_125 : Cond.methodLink RL 125 yX9_changed ∈ lw_tbl := List.mem_append_right _ (List.mem_of_getElem? (i := 744) (by decide +kernel))
set_option maxRecDepth 100000 in
theorem lL_133 : Cond.methodLink RL 133 yX9_count ∈ lw_tbl := List.mem_append_right _ (List.mem_of_getElem? (i := 748) (by decide +kernel))
set_option maxRecDepth 100000 in
theorem lX9_252 : Cond.methodLink RX9 252 yX9_countDead ∈ lw_tbl := List.mem_append_right _ (List.mem_of_getElem? (i := 752) (by decide +kernel))
set_option maxRecDepth 100000 in
theorem lX9_258 : Cond.methodLink RX9 258 yX9_countLying ∈ lw_tbl := List.mem_append_right _ (List.mem_of_getElem? (i := 756) (by decide +kernel))
set_option maxRecDepth 100000 in
theorem lL_58 : Cond.methodLink RL 58 yL_named ∈ lw_tbl := List.mem_append_right _ (List.mem_of_getElem? (i := 760) (by decide +kernel))
set_option maxRecDepth 100000 in
theorem lL_7 : Cond.methodLink RL 7 yX9_named ∈ lw_tbl := List.mem_append_right _ (List.mem_of_getElem? (i := 764) (by decide +kernel))
set_option maxRecDepth 100000 in
theorem lL_129 : Cond.methodLink RL 129 yL_look ∈ lw_tbl := List.mem_append_right _ (List.mem_of_getElem? (i := 833) (by decide +kernel))
set_option maxRecDepth 100000 in
theorem lL_15 : Cond.methodLink RL 15 yX9_look ∈ lw_tbl := List.mem_append_right _ (List.mem_of_getElem? (i := 836) (by decide +kernel))
set_option maxRecDepth 100000 in
theorem lX9_238 : Cond.methodLink RX9 238 yX9_lookAtOrigin ∈ lw_tbl := List.mem_append_right _ (List.mem_of_getElem? (i := 841) (by decide +kernel))
set_option maxRecDepth 100000 in
theorem lX9_268 : Cond.methodLink RX9 268 yX9_numberOf ∈ lw_tbl := List.mem_append_right _ (List.mem_of_getElem? (i := 844) (by decide +kernel))
set_option maxRecDepth 100000 in
theorem lX9_242 : Cond.methodLink RX9 242 yX9_lookAtState ∈ lw_tbl := List.mem_append_right _ (List.mem_of_getElem? (i := 847) (by decide +kernel))
set_option maxRecDepth 100000 in
theorem lL_64 : Cond.methodLink RL 64 yX10_thrown ∈ lw_tbl := List.mem_append_right _ (List.mem_of_getElem? (i := 850) (by decide +kernel))
set_option maxRecDepth 100000 in
theorem lL_96 : Cond.methodLink RL 96 yX10_feed ∈ lw_tbl := List.mem_append_right _ (List.mem_of_getElem? (i := 854) (by decide +kernel))
set_option maxRecDepth 100000 in
theorem lX10_7 : Cond.methodLink RX10 7 yX10_lay ∈ lw_tbl := List.mem_append_right _ (List.mem_of_getElem? (i := 858) (by decide +kernel))
set_option maxRecDepth 100000 in
theorem lL_22 : Cond.methodLink RL 22 yX10_init ∈ lw_tbl := List.mem_append_right _ (List.mem_of_getElem? (i := 864) (by decide +kernel))
set_option maxRecDepth 100000 in
theorem oX10_18 : Cond.methodLink RX10 18 objectInit ∈ lw_tbl := List.mem_append_right _ (List.mem_of_getElem? (i := 867) (by decide +kernel))
set_option maxRecDepth 100000 in
theorem lL_100 : Cond.methodLink RL 100 yX10_text ∈ lw_tbl := List.mem_append_right _ (List.mem_of_getElem? (i := 1049) (by decide +kernel))
set_option maxRecDepth 100000 in
theorem lX10_216 : Cond.methodLink RX10 216 yX10_cutAll ∈ lw_tbl := List.mem_append_right _ (List.mem_of_getElem? (i := 1053) (by decide +kernel))
set_option maxRecDepth 100000 in
theorem lX10_168 : Cond.methodLink RX10 168 yX10_isLetter ∈ lw_tbl := List.mem_append_right _ (List.mem_of_getElem? (i := 1057) (by decide +kernel))
set_option maxRecDepth 100000 in
theorem lX10_177 : Cond.methodLink RX10 177 yX10_rank ∈ lw_tbl := List.mem_append_right _ (List.mem_of_getElem? (i := 1061) (by decide +kernel))
set_option maxRecDepth 100000 in
theorem lX10_181 : Cond.methodLink RX10 181 yX10_isDigit ∈ lw_tbl := List.mem_append_right _ (List.mem_of_getElem? (i := 1064) (by decide +kernel))
set_option maxRecDepth 100000 in
theorem lX10_188 : Cond.methodLink RX10 188 yX10_isSignOf ∈ lw_tbl := List.mem_append_right _ (List.mem_of_getElem? (i := 1069) (by decide +kernel))
set_option maxRecDepth 100000 in
theorem lX10_222 : Cond.methodLink RX10 222 yX10_line ∈ lw_tbl := List.mem_append_right _ (List.mem_of_getElem? (i := 1072) (by decide +kernel))
set_option maxRecDepth 100000 in
theorem lX10_204 : Cond.methodLink RX10 204 yX10_isWord ∈ lw_tbl := List.mem_append_right _ (List.mem_of_getElem? (i := 1076) (by decide +kernel))
set_option maxRecDepth 100000 in
theorem lX10_200 : Cond.methodLink RX10 200 yX10_wrong ∈ lw_tbl := List.mem_append_right _ (List.mem_of_getElem? (i := 1080) (by decide +kernel))
set_option maxRecDepth 100000 in
theorem lX10_225 : Cond.methodLink RX10 225 yX10_takeWord ∈ lw_tbl := List.mem_append_right _ (List.mem_of_getElem? (i := 1084) (by decide +kernel))
set_option maxRecDepth 100000 in
theorem lX10_207 : Cond.methodLink RX10 207 yX10_hasWord ∈ lw_tbl := List.mem_append_right _ (List.mem_of_getElem? (i := 1088) (by decide +kernel))
set_option maxRecDepth 100000 in
theorem lX10_231 : Cond.methodLink RX10 231 yX10_opens ∈ lw_tbl := List.mem_append_right _ (List.mem_of_getElem? (i := 1092) (by decide +kernel))
set_option maxRecDepth 100000 in
theorem lX10_234 : Cond.methodLink RX10 234 yX10_part ∈ lw_tbl := List.mem_append_right _ (List.mem_of_getElem? (i := 1096) (by decide +kernel))
set_option maxRecDepth 100000 in
theorem lX10_248 : Cond.methodLink RX10 248 yX10_partWord ∈ lw_tbl := List.mem_append_right _ (List.mem_of_getElem? (i := 1100) (by decide +kernel))
set_option maxRecDepth 100000 in
theorem lX10_197 : Cond.methodLink RX10 197 yX10_isSign ∈ lw_tbl := List.mem_append_right _ (List.mem_of_getElem? (i := 1104) (by decide +kernel))
set_option maxRecDepth 100000 in
theorem lX10_252 : Cond.methodLink RX10 252 yX10_hasSign ∈ lw_tbl := List.mem_append_right _ (List.mem_of_getElem? (i := 1108) (by decide +kernel))
set_option maxRecDepth 100000 in
theorem lX10_241 : Cond.methodLink RX10 241 yX10_emit ∈ lw_tbl := List.mem_append_right _ (List.mem_of_getElem? (i := 1112) (by decide +kernel))
set_option maxRecDepth 100000 in
theorem lX10_238 : Cond.methodLink RX10 238 yX10_goesOnBehind ∈ lw_tbl := List.mem_append_right _ (List.mem_of_getElem? (i := 1116) (by decide +kernel))
set_option maxRecDepth 100000 in
theorem lX10_245 : Cond.methodLink RX10 245 yX10_takeSign ∈ lw_tbl := List.mem_append_right _ (List.mem_of_getElem? (i := 1120) (by decide +kernel))
set_option maxRecDepth 100000 in
theorem lL_27 : Cond.methodLink RL 27 yX10_days ∈ lw_tbl := List.mem_append_right _ (List.mem_of_getElem? (i := 1124) (by decide +kernel))
set_option maxRecDepth 100000 in
theorem lL_31 : Cond.methodLink RL 31 yX10_wild ∈ lw_tbl := List.mem_append_right _ (List.mem_of_getElem? (i := 1128) (by decide +kernel))
set_option maxRecDepth 100000 in
theorem lX10_261 : Cond.methodLink RX10 261 yX10_areMany ∈ lw_tbl := List.mem_append_right _ (List.mem_of_getElem? (i := 1132) (by decide +kernel))
set_option maxRecDepth 100000 in
theorem lX10_264 : Cond.methodLink RX10 264 yX10_grows ∈ lw_tbl := List.mem_append_right _ (List.mem_of_getElem? (i := 1135) (by decide +kernel))
set_option maxRecDepth 100000 in
theorem lL_35 : Cond.methodLink RL 35 yX10_seed ∈ lw_tbl := List.mem_append_right _ (List.mem_of_getElem? (i := 1139) (by decide +kernel))
set_option maxRecDepth 100000 in
theorem lX10_268 : Cond.methodLink RX10 268 yX10_isPlant ∈ lw_tbl := List.mem_append_right _ (List.mem_of_getElem? (i := 1143) (by decide +kernel))
set_option maxRecDepth 100000 in
theorem lL_39 : Cond.methodLink RL 39 yX10_cut ∈ lw_tbl := List.mem_append_right _ (List.mem_of_getElem? (i := 1147) (by decide +kernel))
set_option maxRecDepth 100000 in
theorem lL_43 : Cond.methodLink RL 43 yX10_split ∈ lw_tbl := List.mem_append_right _ (List.mem_of_getElem? (i := 1151) (by decide +kernel))
set_option maxRecDepth 100000 in
theorem lL_48 : Cond.methodLink RL 48 yX10_mark ∈ lw_tbl := List.mem_append_right _ (List.mem_of_getElem? (i := 1155) (by decide +kernel))
set_option maxRecDepth 100000 in
theorem lL_124 : Cond.methodLink RL 124 yX10_fits ∈ lw_tbl := List.mem_append_right _ (List.mem_of_getElem? (i := 1159) (by decide +kernel))
set_option maxRecDepth 100000 in
theorem lX10_279 : Cond.methodLink RX10 279 yX10_fitsAs ∈ lw_tbl := List.mem_append_right _ (List.mem_of_getElem? (i := 1163) (by decide +kernel))
set_option maxRecDepth 100000 in
theorem lX10_271 : Cond.methodLink RX10 271 yX10_markOf ∈ lw_tbl := List.mem_append_right _ (List.mem_of_getElem? (i := 1167) (by decide +kernel))
set_option maxRecDepth 100000 in
theorem lX10_275 : Cond.methodLink RX10 275 yX10_hasMark ∈ lw_tbl := List.mem_append_right _ (List.mem_of_getElem? (i := 1171) (by decide +kernel))
set_option maxRecDepth 100000 in
theorem lL_128 : Cond.methodLink RL 128 yX10_changed ∈ lw_tbl := List.mem_append_right _ (List.mem_of_getElem? (i := 1175) (by decide +kernel))
set_option maxRecDepth 100000 in
theorem lL_53 : Cond.methodLink RL 53 yX10_name ∈ lw_tbl := List.mem_append_right _ (List.mem_of_getElem? (i := 1179) (by decide +kernel))
set_option maxRecDepth 100000 in
theorem lX10_283 : Cond.methodLink RX10 283 yX10_isName ∈ lw_tbl := List.mem_append_right _ (List.mem_of_getElem? (i := 1183) (by decide +kernel))
set_option maxRecDepth 100000 in
theorem lL_57 : Cond.methodLink RL 57 yX10_join ∈ lw_tbl := List.mem_append_right _ (List.mem_of_getElem? (i := 1186) (by decide +kernel))
set_option maxRecDepth 100000 in
theorem lX10_296 : Cond.methodLink RX10 296 yX10_leadsBack ∈ lw_tbl := List.mem_append_right _ (List.mem_of_getElem? (i := 1190) (by decide +kernel))
set_option maxRecDepth 100000 in
theorem lX10_289 : Cond.methodLink RX10 289 yX10_joinedTo ∈ lw_tbl := List.mem_append_right _ (List.mem_of_getElem? (i := 1194) (by decide +kernel))
set_option maxRecDepth 100000 in
theorem lL_63 : Cond.methodLink RL 63 yX10_named ∈ lw_tbl := List.mem_append_right _ (List.mem_of_getElem? (i := 1198) (by decide +kernel))
set_option maxRecDepth 100000 in
theorem lX10_302 : Cond.methodLink RX10 302 yX10_nameOf ∈ lw_tbl := List.mem_append_right _ (List.mem_of_getElem? (i := 1202) (by decide +kernel))
set_option maxRecDepth 100000 in
theorem lX10_299 : Cond.methodLink RX10 299 yX10_leads ∈ lw_tbl := List.mem_append_right _ (List.mem_of_getElem? (i := 1206) (by decide +kernel))
set_option maxRecDepth 100000 in
theorem lL_71 : Cond.methodLink RL 71 yX10_bed ∈ lw_tbl := List.mem_append_right _ (List.mem_of_getElem? (i := 1210) (by decide +kernel))
set_option maxRecDepth 100000 in
theorem lX10_305 : Cond.methodLink RX10 305 yX10_isDigitNumber ∈ lw_tbl := List.mem_append_right _ (List.mem_of_getElem? (i := 1214) (by decide +kernel))
set_option maxRecDepth 100000 in
theorem lL_76 : Cond.methodLink RL 76 yX10_change ∈ lw_tbl := List.mem_append_right _ (List.mem_of_getElem? (i := 1217) (by decide +kernel))
set_option maxRecDepth 100000 in
theorem lX10_311 : Cond.methodLink RX10 311 yX10_isBed ∈ lw_tbl := List.mem_append_right _ (List.mem_of_getElem? (i := 1221) (by decide +kernel))
set_option maxRecDepth 100000 in
theorem lL_81 : Cond.methodLink RL 81 yX10_needs ∈ lw_tbl := List.mem_append_right _ (List.mem_of_getElem? (i := 1225) (by decide +kernel))
set_option maxRecDepth 100000 in
theorem lL_85 : Cond.methodLink RL 85 yX10_lay_ ∈ lw_tbl := List.mem_append_right _ (List.mem_of_getElem? (i := 1229) (by decide +kernel))
set_option maxRecDepth 100000 in
theorem lX10_314 : Cond.methodLink RX10 314 yX10_suits ∈ lw_tbl := List.mem_append_right _ (List.mem_of_getElem? (i := 1233) (by decide +kernel))
set_option maxRecDepth 100000 in
theorem lL_89 : Cond.methodLink RL 89 yX10_moves ∈ lw_tbl := List.mem_append_right _ (List.mem_of_getElem? (i := 1237) (by decide +kernel))
set_option maxRecDepth 100000 in
theorem lX10_324 : Cond.methodLink RX10 324 yX10_comes ∈ lw_tbl := List.mem_append_right _ (List.mem_of_getElem? (i := 1241) (by decide +kernel))
set_option maxRecDepth 100000 in
theorem lX10_321 : Cond.methodLink RX10 321 yX10_begins ∈ lw_tbl := List.mem_append_right _ (List.mem_of_getElem? (i := 1245) (by decide +kernel))
set_option maxRecDepth 100000 in
theorem lX10_318 : Cond.methodLink RX10 318 yX10_costOf ∈ lw_tbl := List.mem_append_right _ (List.mem_of_getElem? (i := 1249) (by decide +kernel))
set_option maxRecDepth 100000 in
theorem lL_104 : Cond.methodLink RL 104 yX10_may ∈ lw_tbl := List.mem_append_right _ (List.mem_of_getElem? (i := 1254) (by decide +kernel))
set_option maxRecDepth 100000 in
theorem lX10_336 : Cond.methodLink RX10 336 yX10_isSending ∈ lw_tbl := List.mem_append_right _ (List.mem_of_getElem? (i := 1258) (by decide +kernel))
set_option maxRecDepth 100000 in
theorem lX10_339 : Cond.methodLink RX10 339 yX10_lets ∈ lw_tbl := List.mem_append_right _ (List.mem_of_getElem? (i := 1262) (by decide +kernel))
set_option maxRecDepth 100000 in
theorem lX10_327 : Cond.methodLink RX10 327 yX10_rootOf ∈ lw_tbl := List.mem_append_right _ (List.mem_of_getElem? (i := 1266) (by decide +kernel))
set_option maxRecDepth 100000 in
theorem lX10_330 : Cond.methodLink RX10 330 yX10_isCut ∈ lw_tbl := List.mem_append_right _ (List.mem_of_getElem? (i := 1270) (by decide +kernel))
set_option maxRecDepth 100000 in
theorem lX10_333 : Cond.methodLink RX10 333 yX10_worth ∈ lw_tbl := List.mem_append_right _ (List.mem_of_getElem? (i := 1274) (by decide +kernel))
set_option maxRecDepth 100000 in
theorem lL_108 : Cond.methodLink RL 108 yX10_send ∈ lw_tbl := List.mem_append_right _ (List.mem_of_getElem? (i := 1278) (by decide +kernel))
set_option maxRecDepth 100000 in
theorem lL_112 : Cond.methodLink RL 112 yX10_sent ∈ lw_tbl := List.mem_append_right _ (List.mem_of_getElem? (i := 1282) (by decide +kernel))
set_option maxRecDepth 100000 in
theorem lL_116 : Cond.methodLink RL 116 yX10_seen ∈ lw_tbl := List.mem_append_right _ (List.mem_of_getElem? (i := 1286) (by decide +kernel))
set_option maxRecDepth 100000 in
theorem lL_120 : Cond.methodLink RL 120 yX10_close ∈ lw_tbl := List.mem_append_right _ (List.mem_of_getElem? (i := 1290) (by decide +kernel))
set_option maxRecDepth 100000 in
theorem lX10_345 : Cond.methodLink RX10 345 yX10_checks ∈ lw_tbl := List.mem_append_right _ (List.mem_of_getElem? (i := 1294) (by decide +kernel))
set_option maxRecDepth 100000 in
theorem lL_132 : Cond.methodLink RL 132 yX10_look ∈ lw_tbl := List.mem_append_right _ (List.mem_of_getElem? (i := 1298) (by decide +kernel))
set_option maxRecDepth 100000 in
theorem lL_136 : Cond.methodLink RL 136 yX10_count ∈ lw_tbl := List.mem_append_right _ (List.mem_of_getElem? (i := 1302) (by decide +kernel))
set_option maxRecDepth 100000 in
theorem sX9_within : Cond.static yX9_within ∈ lw_tbl := List.mem_append_right _ (List.mem_of_getElem? (i := 247) (by decide +kernel))
set_option maxRecDepth 100000 in
theorem sX9_isDigit : Cond.static yX9_isDigit ∈ lw_tbl := List.mem_append_right _ (List.mem_of_getElem? (i := 363) (by decide +kernel))
set_option maxRecDepth 100000 in
theorem sX9_isSpan : Cond.static yX9_isSpan ∈ lw_tbl := List.mem_append_right _ (List.mem_of_getElem? (i := 436) (by decide +kernel))
set_option maxRecDepth 100000 in
theorem sX8_kindOfWord : Cond.static yX8_kindOfWord ∈ lw_tbl := List.mem_append_right _ (List.mem_of_getElem? (i := 530) (by decide +kernel))
set_option maxRecDepth 100000 in
theorem sX8_kindOfSign : Cond.static yX8_kindOfSign ∈ lw_tbl := List.mem_append_right _ (List.mem_of_getElem? (i := 608) (by decide +kernel))
set_option maxRecDepth 100000 in
theorem sX5_joined : Cond.static yX5_joined ∈ lw_tbl := List.mem_append_right _ (List.mem_of_getElem? (i := 692) (by decide +kernel))
set_option maxRecDepth 100000 in
theorem sL_named : Cond.static yL_named ∈ lw_tbl := List.mem_append_right _ (List.mem_of_getElem? (i := 761) (by decide +kernel))
set_option maxRecDepth 100000 in
theorem sL_look : Cond.static yL_look ∈ lw_tbl := List.mem_append_right _ (List.mem_of_getElem? (i := 834) (by decide +kernel))
set_option maxRecDepth 100000 in
theorem sX9_lookAtOrigin : Cond.static yX9_lookAtOrigin ∈ lw_tbl := List.mem_append_right _ (List.mem_of_getElem? (i := 842) (by decide +kernel))
set_option maxRecDepth 100000 in
theorem sX9_numberOf : Cond.static yX9_numberOf ∈ lw_tbl := List.mem_append_right _ (List.mem_of_getElem? (i := 845) (by decide +kernel))
set_option maxRecDepth 100000 in
theorem sX9_lookAtState : Cond.static yX9_lookAtState ∈ lw_tbl := List.mem_append_right _ (List.mem_of_getElem? (i := 848) (by decide +kernel))
set_option maxRecDepth 100000 in
theorem sX10_isLetter : Cond.static yX10_isLetter ∈ lw_tbl := List.mem_append_right _ (List.mem_of_getElem? (i := 1058) (by decide +kernel))
set_option maxRecDepth 100000 in
theorem sX10_rank : Cond.static yX10_rank ∈ lw_tbl := List.mem_append_right _ (List.mem_of_getElem? (i := 1062) (by decide +kernel))
set_option maxRecDepth 100000 in
theorem sX10_isDigit : Cond.static yX10_isDigit ∈ lw_tbl := List.mem_append_right _ (List.mem_of_getElem? (i := 1065) (by decide +kernel))
set_option maxRecDepth 100000 in
theorem sX10_isSignOf : Cond.static yX10_isSignOf ∈ lw_tbl := List.mem_append_right _ (List.mem_of_getElem? (i := 1070) (by decide +kernel))
set_option maxRecDepth 100000 in
theorem sX10_areMany : Cond.static yX10_areMany ∈ lw_tbl := List.mem_append_right _ (List.mem_of_getElem? (i := 1133) (by decide +kernel))
set_option maxRecDepth 100000 in
theorem sX10_isName : Cond.static yX10_isName ∈ lw_tbl := List.mem_append_right _ (List.mem_of_getElem? (i := 1184) (by decide +kernel))
set_option maxRecDepth 100000 in
theorem sX10_isDigitNumber : Cond.static yX10_isDigitNumber ∈ lw_tbl := List.mem_append_right _ (List.mem_of_getElem? (i := 1215) (by decide +kernel))
set_option maxRecDepth 100000 in
theorem iX9_init : Cond.instanceMethod yX9_init ∈ lw_tbl := List.mem_append_right _ (List.mem_of_getElem? (i := 25) (by decide +kernel))
set_option maxRecDepth 100000 in
theorem iX2_init : Cond.instanceMethod yX2_init ∈ lw_tbl := List.mem_append_right _ (List.mem_of_getElem? (i := 37) (by decide +kernel))
set_option maxRecDepth 100000 in
theorem iX1_init : Cond.instanceMethod yX1_init ∈ lw_tbl := List.mem_append_right _ (List.mem_of_getElem? (i := 71) (by decide +kernel))
set_option maxRecDepth 100000 in
theorem iX7_init : Cond.instanceMethod yX7_init ∈ lw_tbl := List.mem_append_right _ (List.mem_of_getElem? (i := 99) (by decide +kernel))
set_option maxRecDepth 100000 in
theorem iX4_init : Cond.instanceMethod yX4_init ∈ lw_tbl := List.mem_append_right _ (List.mem_of_getElem? (i := 115) (by decide +kernel))
set_option maxRecDepth 100000 in
theorem iX8_init : Cond.instanceMethod yX8_init ∈ lw_tbl := List.mem_append_right _ (List.mem_of_getElem? (i := 121) (by decide +kernel))
set_option maxRecDepth 100000 in
theorem iX5_init : Cond.instanceMethod yX5_init ∈ lw_tbl := List.mem_append_right _ (List.mem_of_getElem? (i := 143) (by decide +kernel))
set_option maxRecDepth 100000 in
theorem iX6_init : Cond.instanceMethod yX6_init ∈ lw_tbl := List.mem_append_right _ (List.mem_of_getElem? (i := 192) (by decide +kernel))
set_option maxRecDepth 100000 in
theorem iX9_days : Cond.instanceMethod yX9_days ∈ lw_tbl := List.mem_append_right _ (List.mem_of_getElem? (i := 243) (by decide +kernel))
set_option maxRecDepth 100000 in
theorem iX9_wild : Cond.instanceMethod yX9_wild ∈ lw_tbl := List.mem_append_right _ (List.mem_of_getElem? (i := 250) (by decide +kernel))
set_option maxRecDepth 100000 in
theorem iX9_canEnter : Cond.instanceMethod yX9_canEnter ∈ lw_tbl := List.mem_append_right _ (List.mem_of_getElem? (i := 255) (by decide +kernel))
set_option maxRecDepth 100000 in
theorem iX3_init : Cond.instanceMethod yX3_init ∈ lw_tbl := List.mem_append_right _ (List.mem_of_getElem? (i := 259) (by decide +kernel))
set_option maxRecDepth 100000 in
theorem iX9_enter : Cond.instanceMethod yX9_enter ∈ lw_tbl := List.mem_append_right _ (List.mem_of_getElem? (i := 334) (by decide +kernel))
set_option maxRecDepth 100000 in
theorem iX9_seed : Cond.instanceMethod yX9_seed ∈ lw_tbl := List.mem_append_right _ (List.mem_of_getElem? (i := 337) (by decide +kernel))
set_option maxRecDepth 100000 in
theorem iX9_plantAt : Cond.instanceMethod yX9_plantAt ∈ lw_tbl := List.mem_append_right _ (List.mem_of_getElem? (i := 342) (by decide +kernel))
set_option maxRecDepth 100000 in
theorem iX3_init_ : Cond.instanceMethod yX3_init_ ∈ lw_tbl := List.mem_append_right _ (List.mem_of_getElem? (i := 345) (by decide +kernel))
set_option maxRecDepth 100000 in
theorem iX9_cut : Cond.instanceMethod yX9_cut ∈ lw_tbl := List.mem_append_right _ (List.mem_of_getElem? (i := 351) (by decide +kernel))
set_option maxRecDepth 100000 in
theorem iX9_split : Cond.instanceMethod yX9_split ∈ lw_tbl := List.mem_append_right _ (List.mem_of_getElem? (i := 355) (by decide +kernel))
set_option maxRecDepth 100000 in
theorem iX9_mark : Cond.instanceMethod yX9_mark ∈ lw_tbl := List.mem_append_right _ (List.mem_of_getElem? (i := 359) (by decide +kernel))
set_option maxRecDepth 100000 in
theorem iX3_setMarks : Cond.instanceMethod yX3_setMarks ∈ lw_tbl := List.mem_append_right _ (List.mem_of_getElem? (i := 372) (by decide +kernel))
set_option maxRecDepth 100000 in
theorem iX9_name : Cond.instanceMethod yX9_name ∈ lw_tbl := List.mem_append_right _ (List.mem_of_getElem? (i := 376) (by decide +kernel))
set_option maxRecDepth 100000 in
theorem iX2_give : Cond.instanceMethod yX2_give ∈ lw_tbl := List.mem_append_right _ (List.mem_of_getElem? (i := 380) (by decide +kernel))
set_option maxRecDepth 100000 in
theorem iX9_join : Cond.instanceMethod yX9_join ∈ lw_tbl := List.mem_append_right _ (List.mem_of_getElem? (i := 384) (by decide +kernel))
set_option maxRecDepth 100000 in
theorem iX2_tie : Cond.instanceMethod yX2_tie ∈ lw_tbl := List.mem_append_right _ (List.mem_of_getElem? (i := 388) (by decide +kernel))
set_option maxRecDepth 100000 in
theorem iX2_leadsTo : Cond.instanceMethod yX2_leadsTo ∈ lw_tbl := List.mem_append_right _ (List.mem_of_getElem? (i := 393) (by decide +kernel))
set_option maxRecDepth 100000 in
theorem iX2_tiedAsOf : Cond.instanceMethod yX2_tiedAsOf ∈ lw_tbl := List.mem_append_right _ (List.mem_of_getElem? (i := 397) (by decide +kernel))
set_option maxRecDepth 100000 in
theorem iX9_bed : Cond.instanceMethod yX9_bed ∈ lw_tbl := List.mem_append_right _ (List.mem_of_getElem? (i := 400) (by decide +kernel))
set_option maxRecDepth 100000 in
theorem iX0_init : Cond.instanceMethod yX0_init ∈ lw_tbl := List.mem_append_right _ (List.mem_of_getElem? (i := 405) (by decide +kernel))
set_option maxRecDepth 100000 in
theorem iX9_change : Cond.instanceMethod yX9_change ∈ lw_tbl := List.mem_append_right _ (List.mem_of_getElem? (i := 424) (by decide +kernel))
set_option maxRecDepth 100000 in
theorem iX9_bedAt : Cond.instanceMethod yX9_bedAt ∈ lw_tbl := List.mem_append_right _ (List.mem_of_getElem? (i := 429) (by decide +kernel))
set_option maxRecDepth 100000 in
theorem iX9_needs : Cond.instanceMethod yX9_needs ∈ lw_tbl := List.mem_append_right _ (List.mem_of_getElem? (i := 432) (by decide +kernel))
set_option maxRecDepth 100000 in
theorem iX9_lay : Cond.instanceMethod yX9_lay ∈ lw_tbl := List.mem_append_right _ (List.mem_of_getElem? (i := 439) (by decide +kernel))
set_option maxRecDepth 100000 in
theorem iX9_hasPlaceFor : Cond.instanceMethod yX9_hasPlaceFor ∈ lw_tbl := List.mem_append_right _ (List.mem_of_getElem? (i := 444) (by decide +kernel))
set_option maxRecDepth 100000 in
theorem iX3_suits : Cond.instanceMethod yX3_suits ∈ lw_tbl := List.mem_append_right _ (List.mem_of_getElem? (i := 447) (by decide +kernel))
set_option maxRecDepth 100000 in
theorem iX9_moves : Cond.instanceMethod yX9_moves ∈ lw_tbl := List.mem_append_right _ (List.mem_of_getElem? (i := 452) (by decide +kernel))
set_option maxRecDepth 100000 in
theorem iX1_makeEmpty : Cond.instanceMethod yX1_makeEmpty ∈ lw_tbl := List.mem_append_right _ (List.mem_of_getElem? (i := 456) (by decide +kernel))
set_option maxRecDepth 100000 in
theorem iX1_addBed : Cond.instanceMethod yX1_addBed ∈ lw_tbl := List.mem_append_right _ (List.mem_of_getElem? (i := 460) (by decide +kernel))
set_option maxRecDepth 100000 in
theorem iX1_addPlant : Cond.instanceMethod yX1_addPlant ∈ lw_tbl := List.mem_append_right _ (List.mem_of_getElem? (i := 464) (by decide +kernel))
set_option maxRecDepth 100000 in
theorem iX1_fewest : Cond.instanceMethod yX1_fewest ∈ lw_tbl := List.mem_append_right _ (List.mem_of_getElem? (i := 469) (by decide +kernel))
set_option maxRecDepth 100000 in
theorem iX1_bringIn : Cond.instanceMethod yX1_bringIn ∈ lw_tbl := List.mem_append_right _ (List.mem_of_getElem? (i := 474) (by decide +kernel))
set_option maxRecDepth 100000 in
theorem iX1_price : Cond.instanceMethod yX1_price ∈ lw_tbl := List.mem_append_right _ (List.mem_of_getElem? (i := 478) (by decide +kernel))
set_option maxRecDepth 100000 in
theorem iX1_spreadCosts : Cond.instanceMethod yX1_spreadCosts ∈ lw_tbl := List.mem_append_right _ (List.mem_of_getElem? (i := 482) (by decide +kernel))
set_option maxRecDepth 100000 in
theorem iX1_spreadFrom : Cond.instanceMethod yX1_spreadFrom ∈ lw_tbl := List.mem_append_right _ (List.mem_of_getElem? (i := 486) (by decide +kernel))
set_option maxRecDepth 100000 in
theorem iX1_cheapestWithRoom : Cond.instanceMethod yX1_cheapestWithRoom ∈ lw_tbl := List.mem_append_right _ (List.mem_of_getElem? (i := 490) (by decide +kernel))
set_option maxRecDepth 100000 in
theorem iX1_shiftAlong : Cond.instanceMethod yX1_shiftAlong ∈ lw_tbl := List.mem_append_right _ (List.mem_of_getElem? (i := 494) (by decide +kernel))
set_option maxRecDepth 100000 in
theorem iX9_feed : Cond.instanceMethod yX9_feed ∈ lw_tbl := List.mem_append_right _ (List.mem_of_getElem? (i := 497) (by decide +kernel))
set_option maxRecDepth 100000 in
theorem iX7_takeBytes : Cond.instanceMethod yX7_takeBytes ∈ lw_tbl := List.mem_append_right _ (List.mem_of_getElem? (i := 501) (by decide +kernel))
set_option maxRecDepth 100000 in
theorem iX9_text : Cond.instanceMethod yX9_text ∈ lw_tbl := List.mem_append_right _ (List.mem_of_getElem? (i := 506) (by decide +kernel))
set_option maxRecDepth 100000 in
theorem iX4_readText : Cond.instanceMethod yX4_readText ∈ lw_tbl := List.mem_append_right _ (List.mem_of_getElem? (i := 510) (by decide +kernel))
set_option maxRecDepth 100000 in
theorem iX8_scan : Cond.instanceMethod yX8_scan ∈ lw_tbl := List.mem_append_right _ (List.mem_of_getElem? (i := 514) (by decide +kernel))
set_option maxRecDepth 100000 in
theorem iX7_endOfBlanks : Cond.instanceMethod yX7_endOfBlanks ∈ lw_tbl := List.mem_append_right _ (List.mem_of_getElem? (i := 518) (by decide +kernel))
set_option maxRecDepth 100000 in
theorem iX8_scanOne : Cond.instanceMethod yX8_scanOne ∈ lw_tbl := List.mem_append_right _ (List.mem_of_getElem? (i := 523) (by decide +kernel))
set_option maxRecDepth 100000 in
theorem iX7_endOfLetters : Cond.instanceMethod yX7_endOfLetters ∈ lw_tbl := List.mem_append_right _ (List.mem_of_getElem? (i := 526) (by decide +kernel))
set_option maxRecDepth 100000 in
theorem iX7_spells : Cond.instanceMethod yX7_spells ∈ lw_tbl := List.mem_append_right _ (List.mem_of_getElem? (i := 534) (by decide +kernel))
set_option maxRecDepth 100000 in
theorem iX8_add : Cond.instanceMethod yX8_add ∈ lw_tbl := List.mem_append_right _ (List.mem_of_getElem? (i := 597) (by decide +kernel))
set_option maxRecDepth 100000 in
theorem iX7_endOfDigits : Cond.instanceMethod yX7_endOfDigits ∈ lw_tbl := List.mem_append_right _ (List.mem_of_getElem? (i := 600) (by decide +kernel))
set_option maxRecDepth 100000 in
theorem iX7_numberIn : Cond.instanceMethod yX7_numberIn ∈ lw_tbl := List.mem_append_right _ (List.mem_of_getElem? (i := 604) (by decide +kernel))
set_option maxRecDepth 100000 in
theorem iX5_makeEmpty : Cond.instanceMethod yX5_makeEmpty ∈ lw_tbl := List.mem_append_right _ (List.mem_of_getElem? (i := 611) (by decide +kernel))
set_option maxRecDepth 100000 in
theorem iX4_beginsLine : Cond.instanceMethod yX4_beginsLine ∈ lw_tbl := List.mem_append_right _ (List.mem_of_getElem? (i := 616) (by decide +kernel))
set_option maxRecDepth 100000 in
theorem iX4_readLine : Cond.instanceMethod yX4_readLine ∈ lw_tbl := List.mem_append_right _ (List.mem_of_getElem? (i := 620) (by decide +kernel))
set_option maxRecDepth 100000 in
theorem iX4_advance : Cond.instanceMethod yX4_advance ∈ lw_tbl := List.mem_append_right _ (List.mem_of_getElem? (i := 624) (by decide +kernel))
set_option maxRecDepth 100000 in
theorem iX4_expect : Cond.instanceMethod yX4_expect ∈ lw_tbl := List.mem_append_right _ (List.mem_of_getElem? (i := 628) (by decide +kernel))
set_option maxRecDepth 100000 in
theorem iX4_refuse : Cond.instanceMethod yX4_refuse ∈ lw_tbl := List.mem_append_right _ (List.mem_of_getElem? (i := 632) (by decide +kernel))
set_option maxRecDepth 100000 in
theorem iX4_readAnds : Cond.instanceMethod yX4_readAnds ∈ lw_tbl := List.mem_append_right _ (List.mem_of_getElem? (i := 636) (by decide +kernel))
set_option maxRecDepth 100000 in
theorem iX4_readTest : Cond.instanceMethod yX4_readTest ∈ lw_tbl := List.mem_append_right _ (List.mem_of_getElem? (i := 640) (by decide +kernel))
set_option maxRecDepth 100000 in
theorem iX4_readSum : Cond.instanceMethod yX4_readSum ∈ lw_tbl := List.mem_append_right _ (List.mem_of_getElem? (i := 644) (by decide +kernel))
set_option maxRecDepth 100000 in
theorem iX4_readPart : Cond.instanceMethod yX4_readPart ∈ lw_tbl := List.mem_append_right _ (List.mem_of_getElem? (i := 648) (by decide +kernel))
set_option maxRecDepth 100000 in
theorem iX5_addCode : Cond.instanceMethod yX5_addCode ∈ lw_tbl := List.mem_append_right _ (List.mem_of_getElem? (i := 651) (by decide +kernel))
set_option maxRecDepth 100000 in
theorem iX5_endLine : Cond.instanceMethod yX5_endLine ∈ lw_tbl := List.mem_append_right _ (List.mem_of_getElem? (i := 655) (by decide +kernel))
set_option maxRecDepth 100000 in
theorem iX4_exchangeDraft : Cond.instanceMethod yX4_exchangeDraft ∈ lw_tbl := List.mem_append_right _ (List.mem_of_getElem? (i := 659) (by decide +kernel))
set_option maxRecDepth 100000 in
theorem iX9_may : Cond.instanceMethod yX9_may ∈ lw_tbl := List.mem_append_right _ (List.mem_of_getElem? (i := 664) (by decide +kernel))
set_option maxRecDepth 100000 in
theorem iX2_nameOf : Cond.instanceMethod yX2_nameOf ∈ lw_tbl := List.mem_append_right _ (List.mem_of_getElem? (i := 668) (by decide +kernel))
set_option maxRecDepth 100000 in
theorem iX2_givenAsOf : Cond.instanceMethod yX2_givenAsOf ∈ lw_tbl := List.mem_append_right _ (List.mem_of_getElem? (i := 673) (by decide +kernel))
set_option maxRecDepth 100000 in
theorem iX5_permit : Cond.instanceMethod yX5_permit ∈ lw_tbl := List.mem_append_right _ (List.mem_of_getElem? (i := 676) (by decide +kernel))
set_option maxRecDepth 100000 in
theorem iX5_valueOf : Cond.instanceMethod yX5_valueOf ∈ lw_tbl := List.mem_append_right _ (List.mem_of_getElem? (i := 681) (by decide +kernel))
set_option maxRecDepth 100000 in
theorem iX5_push : Cond.instanceMethod yX5_push ∈ lw_tbl := List.mem_append_right _ (List.mem_of_getElem? (i := 685) (by decide +kernel))
set_option maxRecDepth 100000 in
theorem iX5_pop : Cond.instanceMethod yX5_pop ∈ lw_tbl := List.mem_append_right _ (List.mem_of_getElem? (i := 689) (by decide +kernel))
set_option maxRecDepth 100000 in
theorem iX9_send : Cond.instanceMethod yX9_send ∈ lw_tbl := List.mem_append_right _ (List.mem_of_getElem? (i := 695) (by decide +kernel))
set_option maxRecDepth 100000 in
theorem iX6_write : Cond.instanceMethod yX6_write ∈ lw_tbl := List.mem_append_right _ (List.mem_of_getElem? (i := 700) (by decide +kernel))
set_option maxRecDepth 100000 in
theorem iX9_sent : Cond.instanceMethod yX9_sent ∈ lw_tbl := List.mem_append_right _ (List.mem_of_getElem? (i := 704) (by decide +kernel))
set_option maxRecDepth 100000 in
theorem iX6_entry : Cond.instanceMethod yX6_entry ∈ lw_tbl := List.mem_append_right _ (List.mem_of_getElem? (i := 708) (by decide +kernel))
set_option maxRecDepth 100000 in
theorem iX9_seen : Cond.instanceMethod yX9_seen ∈ lw_tbl := List.mem_append_right _ (List.mem_of_getElem? (i := 713) (by decide +kernel))
set_option maxRecDepth 100000 in
theorem iX9_close : Cond.instanceMethod yX9_close ∈ lw_tbl := List.mem_append_right _ (List.mem_of_getElem? (i := 717) (by decide +kernel))
set_option maxRecDepth 100000 in
theorem iX3_diesByCheck : Cond.instanceMethod yX3_diesByCheck ∈ lw_tbl := List.mem_append_right _ (List.mem_of_getElem? (i := 721) (by decide +kernel))
set_option maxRecDepth 100000 in
theorem iX9_fits : Cond.instanceMethod yX9_fits ∈ lw_tbl := List.mem_append_right _ (List.mem_of_getElem? (i := 725) (by decide +kernel))
set_option maxRecDepth 100000 in
theorem iX3_fitsOriginOf : Cond.instanceMethod yX3_fitsOriginOf ∈ lw_tbl := List.mem_append_right _ (List.mem_of_getElem? (i := 729) (by decide +kernel))
set_option maxRecDepth 100000 in
theorem iX3_fitsParents : Cond.instanceMethod yX3_fitsParents ∈ lw_tbl := List.mem_append_right _ (List.mem_of_getElem? (i := 734) (by decide +kernel))
set_option maxRecDepth 100000 in
theorem iX3_bears : Cond.instanceMethod yX3_bears ∈ lw_tbl := List.mem_append_right _ (List.mem_of_getElem? (i := 738) (by decide +kernel))
set_option maxRecDepth 100000 in
theorem iX3_sameMarks : Cond.instanceMethod yX3_sameMarks ∈ lw_tbl := List.mem_append_right _ (List.mem_of_getElem? (i := 742) (by decide +kernel))
set_option maxRecDepth 100000 in
theorem iX9_changed : Cond.instanceMethod yX9_changed ∈ lw_tbl := List.mem_append_right _ (List.mem_of_getElem? (i := 745) (by decide +kernel))
set_option maxRecDepth 100000 in
theorem iX9_count : Cond.instanceMethod yX9_count ∈ lw_tbl := List.mem_append_right _ (List.mem_of_getElem? (i := 749) (by decide +kernel))
set_option maxRecDepth 100000 in
theorem iX9_countDead : Cond.instanceMethod yX9_countDead ∈ lw_tbl := List.mem_append_right _ (List.mem_of_getElem? (i := 754) (by decide +kernel))
set_option maxRecDepth 100000 in
theorem iX9_countLying : Cond.instanceMethod yX9_countLying ∈ lw_tbl := List.mem_append_right _ (List.mem_of_getElem? (i := 758) (by decide +kernel))
set_option maxRecDepth 100000 in
theorem iX9_named : Cond.instanceMethod yX9_named ∈ lw_tbl := List.mem_append_right _ (List.mem_of_getElem? (i := 765) (by decide +kernel))
set_option maxRecDepth 100000 in
theorem iX9_look : Cond.instanceMethod yX9_look ∈ lw_tbl := List.mem_append_right _ (List.mem_of_getElem? (i := 837) (by decide +kernel))
set_option maxRecDepth 100000 in
theorem iX10_thrown : Cond.instanceMethod yX10_thrown ∈ lw_tbl := List.mem_append_right _ (List.mem_of_getElem? (i := 851) (by decide +kernel))
set_option maxRecDepth 100000 in
theorem iX10_feed : Cond.instanceMethod yX10_feed ∈ lw_tbl := List.mem_append_right _ (List.mem_of_getElem? (i := 855) (by decide +kernel))
set_option maxRecDepth 100000 in
theorem iX10_lay : Cond.instanceMethod yX10_lay ∈ lw_tbl := List.mem_append_right _ (List.mem_of_getElem? (i := 860) (by decide +kernel))
set_option maxRecDepth 100000 in
theorem iX10_init : Cond.instanceMethod yX10_init ∈ lw_tbl := List.mem_append_right _ (List.mem_of_getElem? (i := 865) (by decide +kernel))
set_option maxRecDepth 100000 in
theorem iX10_text : Cond.instanceMethod yX10_text ∈ lw_tbl := List.mem_append_right _ (List.mem_of_getElem? (i := 1050) (by decide +kernel))
set_option maxRecDepth 100000 in
theorem iX10_cutAll : Cond.instanceMethod yX10_cutAll ∈ lw_tbl := List.mem_append_right _ (List.mem_of_getElem? (i := 1055) (by decide +kernel))
set_option maxRecDepth 100000 in
theorem iX10_line : Cond.instanceMethod yX10_line ∈ lw_tbl := List.mem_append_right _ (List.mem_of_getElem? (i := 1074) (by decide +kernel))
set_option maxRecDepth 100000 in
theorem iX10_isWord : Cond.instanceMethod yX10_isWord ∈ lw_tbl := List.mem_append_right _ (List.mem_of_getElem? (i := 1078) (by decide +kernel))
set_option maxRecDepth 100000 in
theorem iX10_wrong : Cond.instanceMethod yX10_wrong ∈ lw_tbl := List.mem_append_right _ (List.mem_of_getElem? (i := 1082) (by decide +kernel))
set_option maxRecDepth 100000 in
theorem iX10_takeWord : Cond.instanceMethod yX10_takeWord ∈ lw_tbl := List.mem_append_right _ (List.mem_of_getElem? (i := 1086) (by decide +kernel))
set_option maxRecDepth 100000 in
theorem iX10_hasWord : Cond.instanceMethod yX10_hasWord ∈ lw_tbl := List.mem_append_right _ (List.mem_of_getElem? (i := 1090) (by decide +kernel))
set_option maxRecDepth 100000 in
theorem iX10_opens : Cond.instanceMethod yX10_opens ∈ lw_tbl := List.mem_append_right _ (List.mem_of_getElem? (i := 1094) (by decide +kernel))
set_option maxRecDepth 100000 in
theorem iX10_part : Cond.instanceMethod yX10_part ∈ lw_tbl := List.mem_append_right _ (List.mem_of_getElem? (i := 1098) (by decide +kernel))
set_option maxRecDepth 100000 in
theorem iX10_partWord : Cond.instanceMethod yX10_partWord ∈ lw_tbl := List.mem_append_right _ (List.mem_of_getElem? (i := 1102) (by decide +kernel))
set_option maxRecDepth 100000 in
theorem iX10_isSign : Cond.instanceMethod yX10_isSign ∈ lw_tbl := List.mem_append_right _ (List.mem_of_getElem? (i := 1106) (by decide +kernel))
set_option maxRecDepth 100000 in
theorem iX10_hasSign : Cond.instanceMethod yX10_hasSign ∈ lw_tbl := List.mem_append_right _ (List.mem_of_getElem? (i := 1110) (by decide +kernel))
set_option maxRecDepth 100000 in
theorem iX10_emit : Cond.instanceMethod yX10_emit ∈ lw_tbl := List.mem_append_right _ (List.mem_of_getElem? (i := 1114) (by decide +kernel))
set_option maxRecDepth 100000 in
theorem iX10_goesOnBehind : Cond.instanceMethod yX10_goesOnBehind ∈ lw_tbl := List.mem_append_right _ (List.mem_of_getElem? (i := 1118) (by decide +kernel))
set_option maxRecDepth 100000 in
theorem iX10_takeSign : Cond.instanceMethod yX10_takeSign ∈ lw_tbl := List.mem_append_right _ (List.mem_of_getElem? (i := 1122) (by decide +kernel))
set_option maxRecDepth 100000 in
theorem iX10_days : Cond.instanceMethod yX10_days ∈ lw_tbl := List.mem_append_right _ (List.mem_of_getElem? (i := 1125) (by decide +kernel))
set_option maxRecDepth 100000 in
theorem iX10_wild : Cond.instanceMethod yX10_wild ∈ lw_tbl := List.mem_append_right _ (List.mem_of_getElem? (i := 1129) (by decide +kernel))
set_option maxRecDepth 100000 in
theorem iX10_grows : Cond.instanceMethod yX10_grows ∈ lw_tbl := List.mem_append_right _ (List.mem_of_getElem? (i := 1137) (by decide +kernel))
set_option maxRecDepth 100000 in
theorem iX10_seed : Cond.instanceMethod yX10_seed ∈ lw_tbl := List.mem_append_right _ (List.mem_of_getElem? (i := 1140) (by decide +kernel))
set_option maxRecDepth 100000 in
theorem iX10_isPlant : Cond.instanceMethod yX10_isPlant ∈ lw_tbl := List.mem_append_right _ (List.mem_of_getElem? (i := 1145) (by decide +kernel))
set_option maxRecDepth 100000 in
theorem iX10_cut : Cond.instanceMethod yX10_cut ∈ lw_tbl := List.mem_append_right _ (List.mem_of_getElem? (i := 1148) (by decide +kernel))
set_option maxRecDepth 100000 in
theorem iX10_split : Cond.instanceMethod yX10_split ∈ lw_tbl := List.mem_append_right _ (List.mem_of_getElem? (i := 1152) (by decide +kernel))
set_option maxRecDepth 100000 in
theorem iX10_mark : Cond.instanceMethod yX10_mark ∈ lw_tbl := List.mem_append_right _ (List.mem_of_getElem? (i := 1156) (by decide +kernel))
set_option maxRecDepth 100000 in
theorem iX10_fits : Cond.instanceMethod yX10_fits ∈ lw_tbl := List.mem_append_right _ (List.mem_of_getElem? (i := 1160) (by decide +kernel))
set_option maxRecDepth 100000 in
theorem iX10_fitsAs : Cond.instanceMethod yX10_fitsAs ∈ lw_tbl := List.mem_append_right _ (List.mem_of_getElem? (i := 1165) (by decide +kernel))
set_option maxRecDepth 100000 in
theorem iX10_markOf : Cond.instanceMethod yX10_markOf ∈ lw_tbl := List.mem_append_right _ (List.mem_of_getElem? (i := 1169) (by decide +kernel))
set_option maxRecDepth 100000 in
theorem iX10_hasMark : Cond.instanceMethod yX10_hasMark ∈ lw_tbl := List.mem_append_right _ (List.mem_of_getElem? (i := 1173) (by decide +kernel))
set_option maxRecDepth 100000 in
theorem iX10_changed : Cond.instanceMethod yX10_changed ∈ lw_tbl := List.mem_append_right _ (List.mem_of_getElem? (i := 1176) (by decide +kernel))
set_option maxRecDepth 100000 in
theorem iX10_name : Cond.instanceMethod yX10_name ∈ lw_tbl := List.mem_append_right _ (List.mem_of_getElem? (i := 1180) (by decide +kernel))
set_option maxRecDepth 100000 in
theorem iX10_join : Cond.instanceMethod yX10_join ∈ lw_tbl := List.mem_append_right _ (List.mem_of_getElem? (i := 1187) (by decide +kernel))
set_option maxRecDepth 100000 in
theorem iX10_leadsBack : Cond.instanceMethod yX10_leadsBack ∈ lw_tbl := List.mem_append_right _ (List.mem_of_getElem? (i := 1192) (by decide +kernel))
set_option maxRecDepth 100000 in
theorem iX10_joinedTo : Cond.instanceMethod yX10_joinedTo ∈ lw_tbl := List.mem_append_right _ (List.mem_of_getElem? (i := 1196) (by decide +kernel))
set_option maxRecDepth 100000 in
theorem iX10_named : Cond.instanceMethod yX10_named ∈ lw_tbl := List.mem_append_right _ (List.mem_of_getElem? (i := 1199) (by decide +kernel))
set_option maxRecDepth 100000 in
theorem iX10_nameOf : Cond.instanceMethod yX10_nameOf ∈ lw_tbl := List.mem_append_right _ (List.mem_of_getElem? (i := 1204) (by decide +kernel))
set_option maxRecDepth 100000 in
theorem iX10_leads : Cond.instanceMethod yX10_leads ∈ lw_tbl := List.mem_append_right _ (List.mem_of_getElem? (i := 1208) (by decide +kernel))
set_option maxRecDepth 100000 in
theorem iX10_bed : Cond.instanceMethod yX10_bed ∈ lw_tbl := List.mem_append_right _ (List.mem_of_getElem? (i := 1211) (by decide +kernel))
set_option maxRecDepth 100000 in
theorem iX10_change : Cond.instanceMethod yX10_change ∈ lw_tbl := List.mem_append_right _ (List.mem_of_getElem? (i := 1218) (by decide +kernel))
set_option maxRecDepth 100000 in
theorem iX10_isBed : Cond.instanceMethod yX10_isBed ∈ lw_tbl := List.mem_append_right _ (List.mem_of_getElem? (i := 1223) (by decide +kernel))
set_option maxRecDepth 100000 in
theorem iX10_needs : Cond.instanceMethod yX10_needs ∈ lw_tbl := List.mem_append_right _ (List.mem_of_getElem? (i := 1226) (by decide +kernel))
set_option maxRecDepth 100000 in
theorem iX10_lay_ : Cond.instanceMethod yX10_lay_ ∈ lw_tbl := List.mem_append_right _ (List.mem_of_getElem? (i := 1230) (by decide +kernel))
set_option maxRecDepth 100000 in
theorem iX10_suits : Cond.instanceMethod yX10_suits ∈ lw_tbl := List.mem_append_right _ (List.mem_of_getElem? (i := 1235) (by decide +kernel))
set_option maxRecDepth 100000 in
theorem iX10_moves : Cond.instanceMethod yX10_moves ∈ lw_tbl := List.mem_append_right _ (List.mem_of_getElem? (i := 1238) (by decide +kernel))
set_option maxRecDepth 100000 in
theorem iX10_comes : Cond.instanceMethod yX10_comes ∈ lw_tbl := List.mem_append_right _ (List.mem_of_getElem? (i := 1243) (by decide +kernel))
set_option maxRecDepth 100000 in
theorem iX10_begins : Cond.instanceMethod yX10_begins ∈ lw_tbl := List.mem_append_right _ (List.mem_of_getElem? (i := 1247) (by decide +kernel))
set_option maxRecDepth 100000 in
theorem iX10_costOf : Cond.instanceMethod yX10_costOf ∈ lw_tbl := List.mem_append_right _ (List.mem_of_getElem? (i := 1251) (by decide +kernel))
set_option maxRecDepth 100000 in
theorem iX10_may : Cond.instanceMethod yX10_may ∈ lw_tbl := List.mem_append_right _ (List.mem_of_getElem? (i := 1255) (by decide +kernel))
set_option maxRecDepth 100000 in
theorem iX10_isSending : Cond.instanceMethod yX10_isSending ∈ lw_tbl := List.mem_append_right _ (List.mem_of_getElem? (i := 1260) (by decide +kernel))
set_option maxRecDepth 100000 in
theorem iX10_lets : Cond.instanceMethod yX10_lets ∈ lw_tbl := List.mem_append_right _ (List.mem_of_getElem? (i := 1264) (by decide +kernel))
set_option maxRecDepth 100000 in
theorem iX10_rootOf : Cond.instanceMethod yX10_rootOf ∈ lw_tbl := List.mem_append_right _ (List.mem_of_getElem? (i := 1268) (by decide +kernel))
set_option maxRecDepth 100000 in
theorem iX10_isCut : Cond.instanceMethod yX10_isCut ∈ lw_tbl := List.mem_append_right _ (List.mem_of_getElem? (i := 1272) (by decide +kernel))
set_option maxRecDepth 100000 in
theorem iX10_worth : Cond.instanceMethod yX10_worth ∈ lw_tbl := List.mem_append_right _ (List.mem_of_getElem? (i := 1276) (by decide +kernel))
set_option maxRecDepth 100000 in
theorem iX10_send : Cond.instanceMethod yX10_send ∈ lw_tbl := List.mem_append_right _ (List.mem_of_getElem? (i := 1279) (by decide +kernel))
set_option maxRecDepth 100000 in
theorem iX10_sent : Cond.instanceMethod yX10_sent ∈ lw_tbl := List.mem_append_right _ (List.mem_of_getElem? (i := 1283) (by decide +kernel))
set_option maxRecDepth 100000 in
theorem iX10_seen : Cond.instanceMethod yX10_seen ∈ lw_tbl := List.mem_append_right _ (List.mem_of_getElem? (i := 1287) (by decide +kernel))
set_option maxRecDepth 100000 in
theorem iX10_close : Cond.instanceMethod yX10_close ∈ lw_tbl := List.mem_append_right _ (List.mem_of_getElem? (i := 1291) (by decide +kernel))
set_option maxRecDepth 100000 in
theorem iX10_checks : Cond.instanceMethod yX10_checks ∈ lw_tbl := List.mem_append_right _ (List.mem_of_getElem? (i := 1296) (by decide +kernel))
set_option maxRecDepth 100000 in
theorem iX10_look : Cond.instanceMethod yX10_look ∈ lw_tbl := List.mem_append_right _ (List.mem_of_getElem? (i := 1299) (by decide +kernel))
set_option maxRecDepth 100000 in
theorem iX10_count : Cond.instanceMethod yX10_count ∈ lw_tbl := List.mem_append_right _ (List.mem_of_getElem? (i := 1303) (by decide +kernel))
set_option maxRecDepth 100000 in
theorem eX10_bed : Cond.selects (a_Rn 10) yX10_bed yX10_bed ∈ lw_tbl := List.mem_append_right _ (List.mem_of_getElem? (i := 1212) (by decide +kernel))
set_option maxRecDepth 100000 in
theorem eX10_begins : Cond.selects (a_Rn 10) yX10_begins yX10_begins ∈ lw_tbl := List.mem_append_left _ (List.mem_of_getElem? (i := 61) (by decide +kernel))
set_option maxRecDepth 100000 in
theorem eX10_change : Cond.selects (a_Rn 10) yX10_change yX10_change ∈ lw_tbl := List.mem_append_right _ (List.mem_of_getElem? (i := 1219) (by decide +kernel))
set_option maxRecDepth 100000 in
theorem eX10_changed : Cond.selects (a_Rn 10) yX10_changed yX10_changed ∈ lw_tbl := List.mem_append_right _ (List.mem_of_getElem? (i := 1177) (by decide +kernel))
set_option maxRecDepth 100000 in
theorem eX10_checks : Cond.selects (a_Rn 10) yX10_checks yX10_checks ∈ lw_tbl := List.mem_append_left _ (List.mem_of_getElem? (i := 68) (by decide +kernel))
set_option maxRecDepth 100000 in
theorem eX10_close : Cond.selects (a_Rn 10) yX10_close yX10_close ∈ lw_tbl := List.mem_append_right _ (List.mem_of_getElem? (i := 1292) (by decide +kernel))
set_option maxRecDepth 100000 in
theorem eX10_comes : Cond.selects (a_Rn 10) yX10_comes yX10_comes ∈ lw_tbl := List.mem_append_left _ (List.mem_of_getElem? (i := 60) (by decide +kernel))
set_option maxRecDepth 100000 in
theorem eX10_costOf : Cond.selects (a_Rn 10) yX10_costOf yX10_costOf ∈ lw_tbl := List.mem_append_left _ (List.mem_of_getElem? (i := 62) (by decide +kernel))
set_option maxRecDepth 100000 in
theorem eX10_count : Cond.selects (a_Rn 10) yX10_count yX10_count ∈ lw_tbl := List.mem_append_right _ (List.mem_of_getElem? (i := 1304) (by decide +kernel))
set_option maxRecDepth 100000 in
theorem eX10_cut : Cond.selects (a_Rn 10) yX10_cut yX10_cut ∈ lw_tbl := List.mem_append_right _ (List.mem_of_getElem? (i := 1149) (by decide +kernel))
set_option maxRecDepth 100000 in
theorem eX10_cutAll : Cond.selects (a_Rn 10) yX10_cutAll yX10_cutAll ∈ lw_tbl := List.mem_append_left _ (List.mem_of_getElem? (i := 35) (by decide +kernel))
set_option maxRecDepth 100000 in
theorem eX10_days : Cond.selects (a_Rn 10) yX10_days yX10_days ∈ lw_tbl := List.mem_append_right _ (List.mem_of_getElem? (i := 1126) (by decide +kernel))
set_option maxRecDepth 100000 in
theorem eX10_emit : Cond.selects (a_Rn 10) yX10_emit yX10_emit ∈ lw_tbl := List.mem_append_left _ (List.mem_of_getElem? (i := 46) (by decide +kernel))
set_option maxRecDepth 100000 in
theorem eX10_feed : Cond.selects (a_Rn 10) yX10_feed yX10_feed ∈ lw_tbl := List.mem_append_right _ (List.mem_of_getElem? (i := 856) (by decide +kernel))
set_option maxRecDepth 100000 in
theorem eX10_fits : Cond.selects (a_Rn 10) yX10_fits yX10_fits ∈ lw_tbl := List.mem_append_right _ (List.mem_of_getElem? (i := 1161) (by decide +kernel))
set_option maxRecDepth 100000 in
theorem eX10_fitsAs : Cond.selects (a_Rn 10) yX10_fitsAs yX10_fitsAs ∈ lw_tbl := List.mem_append_left _ (List.mem_of_getElem? (i := 51) (by decide +kernel))
set_option maxRecDepth 100000 in
theorem eX10_goesOnBehind : Cond.selects (a_Rn 10) yX10_goesOnBehind yX10_goesOnBehind ∈ lw_tbl := List.mem_append_left _ (List.mem_of_getElem? (i := 47) (by decide +kernel))
set_option maxRecDepth 100000 in
theorem eX10_grows : Cond.selects (a_Rn 10) yX10_grows yX10_grows ∈ lw_tbl := List.mem_append_left _ (List.mem_of_getElem? (i := 49) (by decide +kernel))
set_option maxRecDepth 100000 in
theorem eX10_hasMark : Cond.selects (a_Rn 10) yX10_hasMark yX10_hasMark ∈ lw_tbl := List.mem_append_left _ (List.mem_of_getElem? (i := 53) (by decide +kernel))
set_option maxRecDepth 100000 in
theorem eX10_hasSign : Cond.selects (a_Rn 10) yX10_hasSign yX10_hasSign ∈ lw_tbl := List.mem_append_left _ (List.mem_of_getElem? (i := 45) (by decide +kernel))
set_option maxRecDepth 100000 in
theorem eX10_hasWord : Cond.selects (a_Rn 10) yX10_hasWord yX10_hasWord ∈ lw_tbl := List.mem_append_left _ (List.mem_of_getElem? (i := 40) (by decide +kernel))
set_option maxRecDepth 100000 in
theorem eX10_isBed : Cond.selects (a_Rn 10) yX10_isBed yX10_isBed ∈ lw_tbl := List.mem_append_left _ (List.mem_of_getElem? (i := 58) (by decide +kernel))
set_option maxRecDepth 100000 in
theorem eX10_isCut : Cond.selects (a_Rn 10) yX10_isCut yX10_isCut ∈ lw_tbl := List.mem_append_left _ (List.mem_of_getElem? (i := 66) (by decide +kernel))
set_option maxRecDepth 100000 in
theorem eX10_isPlant : Cond.selects (a_Rn 10) yX10_isPlant yX10_isPlant ∈ lw_tbl := List.mem_append_left _ (List.mem_of_getElem? (i := 50) (by decide +kernel))
set_option maxRecDepth 100000 in
theorem eX10_isSending : Cond.selects (a_Rn 10) yX10_isSending yX10_isSending ∈ lw_tbl := List.mem_append_left _ (List.mem_of_getElem? (i := 63) (by decide +kernel))
set_option maxRecDepth 100000 in
theorem eX10_isSign : Cond.selects (a_Rn 10) yX10_isSign yX10_isSign ∈ lw_tbl := List.mem_append_left _ (List.mem_of_getElem? (i := 44) (by decide +kernel))
set_option maxRecDepth 100000 in
theorem eX10_isWord : Cond.selects (a_Rn 10) yX10_isWord yX10_isWord ∈ lw_tbl := List.mem_append_left _ (List.mem_of_getElem? (i := 37) (by decide +kernel))
set_option maxRecDepth 100000 in
theorem eX10_join : Cond.selects (a_Rn 10) yX10_join yX10_join ∈ lw_tbl := List.mem_append_right _ (List.mem_of_getElem? (i := 1188) (by decide +kernel))
set_option maxRecDepth 100000 in
theorem eX10_joinedTo : Cond.selects (a_Rn 10) yX10_joinedTo yX10_joinedTo ∈ lw_tbl := List.mem_append_left _ (List.mem_of_getElem? (i := 55) (by decide +kernel))
set_option maxRecDepth 100000 in
theorem eX10_lay : Cond.selects (a_Rn 10) yX10_lay yX10_lay ∈ lw_tbl := List.mem_append_left _ (List.mem_of_getElem? (i := 34) (by decide +kernel))
set_option maxRecDepth 100000 in
theorem eX10_lay_ : Cond.selects (a_Rn 10) yX10_lay_ yX10_lay_ ∈ lw_tbl := List.mem_append_right _ (List.mem_of_getElem? (i := 1231) (by decide +kernel))
set_option maxRecDepth 100000 in
theorem eX10_leads : Cond.selects (a_Rn 10) yX10_leads yX10_leads ∈ lw_tbl := List.mem_append_left _ (List.mem_of_getElem? (i := 57) (by decide +kernel))
set_option maxRecDepth 100000 in
theorem eX10_leadsBack : Cond.selects (a_Rn 10) yX10_leadsBack yX10_leadsBack ∈ lw_tbl := List.mem_append_left _ (List.mem_of_getElem? (i := 54) (by decide +kernel))
set_option maxRecDepth 100000 in
theorem eX10_lets : Cond.selects (a_Rn 10) yX10_lets yX10_lets ∈ lw_tbl := List.mem_append_left _ (List.mem_of_getElem? (i := 64) (by decide +kernel))
set_option maxRecDepth 100000 in
theorem eX10_line : Cond.selects (a_Rn 10) yX10_line yX10_line ∈ lw_tbl := List.mem_append_left _ (List.mem_of_getElem? (i := 36) (by decide +kernel))
set_option maxRecDepth 100000 in
theorem eX10_look : Cond.selects (a_Rn 10) yX10_look yX10_look ∈ lw_tbl := List.mem_append_right _ (List.mem_of_getElem? (i := 1300) (by decide +kernel))
set_option maxRecDepth 100000 in
theorem eX10_mark : Cond.selects (a_Rn 10) yX10_mark yX10_mark ∈ lw_tbl := List.mem_append_right _ (List.mem_of_getElem? (i := 1157) (by decide +kernel))
set_option maxRecDepth 100000 in
theorem eX10_markOf : Cond.selects (a_Rn 10) yX10_markOf yX10_markOf ∈ lw_tbl := List.mem_append_left _ (List.mem_of_getElem? (i := 52) (by decide +kernel))
set_option maxRecDepth 100000 in
theorem eX10_may : Cond.selects (a_Rn 10) yX10_may yX10_may ∈ lw_tbl := List.mem_append_right _ (List.mem_of_getElem? (i := 1256) (by decide +kernel))
set_option maxRecDepth 100000 in
theorem eX10_moves : Cond.selects (a_Rn 10) yX10_moves yX10_moves ∈ lw_tbl := List.mem_append_right _ (List.mem_of_getElem? (i := 1239) (by decide +kernel))
set_option maxRecDepth 100000 in
theorem eX10_name : Cond.selects (a_Rn 10) yX10_name yX10_name ∈ lw_tbl := List.mem_append_right _ (List.mem_of_getElem? (i := 1181) (by decide +kernel))
set_option maxRecDepth 100000 in
theorem eX10_nameOf : Cond.selects (a_Rn 10) yX10_nameOf yX10_nameOf ∈ lw_tbl := List.mem_append_left _ (List.mem_of_getElem? (i := 56) (by decide +kernel))
set_option maxRecDepth 100000 in
theorem eX10_named : Cond.selects (a_Rn 10) yX10_named yX10_named ∈ lw_tbl := List.mem_append_right _ (List.mem_of_getElem? (i := 1200) (by decide +kernel))
set_option maxRecDepth 100000 in
theorem eX10_needs : Cond.selects (a_Rn 10) yX10_needs yX10_needs ∈ lw_tbl := List.mem_append_right _ (List.mem_of_getElem? (i := 1227) (by decide +kernel))
set_option maxRecDepth 100000 in
theorem eX10_opens : Cond.selects (a_Rn 10) yX10_opens yX10_opens ∈ lw_tbl := List.mem_append_left _ (List.mem_of_getElem? (i := 41) (by decide +kernel))
set_option maxRecDepth 100000 in
theorem eX10_part : Cond.selects (a_Rn 10) yX10_part yX10_part ∈ lw_tbl := List.mem_append_left _ (List.mem_of_getElem? (i := 42) (by decide +kernel))
set_option maxRecDepth 100000 in
theorem eX10_partWord : Cond.selects (a_Rn 10) yX10_partWord yX10_partWord ∈ lw_tbl := List.mem_append_left _ (List.mem_of_getElem? (i := 43) (by decide +kernel))
set_option maxRecDepth 100000 in
theorem eX10_rootOf : Cond.selects (a_Rn 10) yX10_rootOf yX10_rootOf ∈ lw_tbl := List.mem_append_left _ (List.mem_of_getElem? (i := 65) (by decide +kernel))
set_option maxRecDepth 100000 in
theorem eX10_seed : Cond.selects (a_Rn 10) yX10_seed yX10_seed ∈ lw_tbl := List.mem_append_right _ (List.mem_of_getElem? (i := 1141) (by decide +kernel))
set_option maxRecDepth 100000 in
theorem eX10_seen : Cond.selects (a_Rn 10) yX10_seen yX10_seen ∈ lw_tbl := List.mem_append_right _ (List.mem_of_getElem? (i := 1288) (by decide +kernel))
set_option maxRecDepth 100000 in
theorem eX10_send : Cond.selects (a_Rn 10) yX10_send yX10_send ∈ lw_tbl := List.mem_append_right _ (List.mem_of_getElem? (i := 1280) (by decide +kernel))
set_option maxRecDepth 100000 in
theorem eX10_sent : Cond.selects (a_Rn 10) yX10_sent yX10_sent ∈ lw_tbl := List.mem_append_right _ (List.mem_of_getElem? (i := 1284) (by decide +kernel))
set_option maxRecDepth 100000 in
theorem eX10_split : Cond.selects (a_Rn 10) yX10_split yX10_split ∈ lw_tbl := List.mem_append_right _ (List.mem_of_getElem? (i := 1153) (by decide +kernel))
set_option maxRecDepth 100000 in
theorem eX10_suits : Cond.selects (a_Rn 10) yX10_suits yX10_suits ∈ lw_tbl := List.mem_append_left _ (List.mem_of_getElem? (i := 59) (by decide +kernel))
set_option maxRecDepth 100000 in
theorem eX10_takeSign : Cond.selects (a_Rn 10) yX10_takeSign yX10_takeSign ∈ lw_tbl := List.mem_append_left _ (List.mem_of_getElem? (i := 48) (by decide +kernel))
set_option maxRecDepth 100000 in
theorem eX10_takeWord : Cond.selects (a_Rn 10) yX10_takeWord yX10_takeWord ∈ lw_tbl := List.mem_append_left _ (List.mem_of_getElem? (i := 39) (by decide +kernel))
set_option maxRecDepth 100000 in
theorem eX10_text : Cond.selects (a_Rn 10) yX10_text yX10_text ∈ lw_tbl := List.mem_append_right _ (List.mem_of_getElem? (i := 1051) (by decide +kernel))
set_option maxRecDepth 100000 in
theorem eX10_thrown : Cond.selects (a_Rn 10) yX10_thrown yX10_thrown ∈ lw_tbl := List.mem_append_right _ (List.mem_of_getElem? (i := 852) (by decide +kernel))
set_option maxRecDepth 100000 in
theorem eX10_wild : Cond.selects (a_Rn 10) yX10_wild yX10_wild ∈ lw_tbl := List.mem_append_right _ (List.mem_of_getElem? (i := 1130) (by decide +kernel))
set_option maxRecDepth 100000 in
theorem eX10_worth : Cond.selects (a_Rn 10) yX10_worth yX10_worth ∈ lw_tbl := List.mem_append_left _ (List.mem_of_getElem? (i := 67) (by decide +kernel))
set_option maxRecDepth 100000 in
theorem eX10_wrong : Cond.selects (a_Rn 10) yX10_wrong yX10_wrong ∈ lw_tbl := List.mem_append_left _ (List.mem_of_getElem? (i := 38) (by decide +kernel))
set_option maxRecDepth 100000 in
theorem eX1_addBed : Cond.selects (a_Rn 1) yX1_addBed yX1_addBed ∈ lw_tbl := List.mem_append_right _ (List.mem_of_getElem? (i := 461) (by decide +kernel))
set_option maxRecDepth 100000 in
theorem eX1_addPlant : Cond.selects (a_Rn 1) yX1_addPlant yX1_addPlant ∈ lw_tbl := List.mem_append_right _ (List.mem_of_getElem? (i := 465) (by decide +kernel))
set_option maxRecDepth 100000 in
theorem eX1_bringIn : Cond.selects (a_Rn 1) yX1_bringIn yX1_bringIn ∈ lw_tbl := List.mem_append_left _ (List.mem_of_getElem? (i := 7) (by decide +kernel))
set_option maxRecDepth 100000 in
theorem eX1_cheapestWithRoom : Cond.selects (a_Rn 1) yX1_cheapestWithRoom yX1_cheapestWithRoom ∈ lw_tbl := List.mem_append_left _ (List.mem_of_getElem? (i := 11) (by decide +kernel))
set_option maxRecDepth 100000 in
theorem eX1_fewest : Cond.selects (a_Rn 1) yX1_fewest yX1_fewest ∈ lw_tbl := List.mem_append_right _ (List.mem_of_getElem? (i := 470) (by decide +kernel))
set_option maxRecDepth 100000 in
theorem eX1_makeEmpty : Cond.selects (a_Rn 1) yX1_makeEmpty yX1_makeEmpty ∈ lw_tbl := List.mem_append_right _ (List.mem_of_getElem? (i := 457) (by decide +kernel))
set_option maxRecDepth 100000 in
theorem eX1_price : Cond.selects (a_Rn 1) yX1_price yX1_price ∈ lw_tbl := List.mem_append_left _ (List.mem_of_getElem? (i := 8) (by decide +kernel))
set_option maxRecDepth 100000 in
theorem eX1_shiftAlong : Cond.selects (a_Rn 1) yX1_shiftAlong yX1_shiftAlong ∈ lw_tbl := List.mem_append_left _ (List.mem_of_getElem? (i := 12) (by decide +kernel))
set_option maxRecDepth 100000 in
theorem eX1_spreadCosts : Cond.selects (a_Rn 1) yX1_spreadCosts yX1_spreadCosts ∈ lw_tbl := List.mem_append_left _ (List.mem_of_getElem? (i := 9) (by decide +kernel))
set_option maxRecDepth 100000 in
theorem eX1_spreadFrom : Cond.selects (a_Rn 1) yX1_spreadFrom yX1_spreadFrom ∈ lw_tbl := List.mem_append_left _ (List.mem_of_getElem? (i := 10) (by decide +kernel))
set_option maxRecDepth 100000 in
theorem eX2_give : Cond.selects (a_Rn 2) yX2_give yX2_give ∈ lw_tbl := List.mem_append_right _ (List.mem_of_getElem? (i := 381) (by decide +kernel))
set_option maxRecDepth 100000 in
theorem eX2_givenAsOf : Cond.selects (a_Rn 2) yX2_givenAsOf yX2_givenAsOf ∈ lw_tbl := List.mem_append_left _ (List.mem_of_getElem? (i := 24) (by decide +kernel))
set_option maxRecDepth 100000 in
theorem eX2_leadsTo : Cond.selects (a_Rn 2) yX2_leadsTo yX2_leadsTo ∈ lw_tbl := List.mem_append_left _ (List.mem_of_getElem? (i := 3) (by decide +kernel))
set_option maxRecDepth 100000 in
theorem eX2_nameOf : Cond.selects (a_Rn 2) yX2_nameOf yX2_nameOf ∈ lw_tbl := List.mem_append_right _ (List.mem_of_getElem? (i := 669) (by decide +kernel))
set_option maxRecDepth 100000 in
theorem eX2_tie : Cond.selects (a_Rn 2) yX2_tie yX2_tie ∈ lw_tbl := List.mem_append_right _ (List.mem_of_getElem? (i := 389) (by decide +kernel))
set_option maxRecDepth 100000 in
theorem eX2_tiedAsOf : Cond.selects (a_Rn 2) yX2_tiedAsOf yX2_tiedAsOf ∈ lw_tbl := List.mem_append_left _ (List.mem_of_getElem? (i := 4) (by decide +kernel))
set_option maxRecDepth 100000 in
theorem eX3_bears : Cond.selects (a_Rn 3) yX3_bears yX3_bears ∈ lw_tbl := List.mem_append_left _ (List.mem_of_getElem? (i := 29) (by decide +kernel))
set_option maxRecDepth 100000 in
theorem eX3_diesByCheck : Cond.selects (a_Rn 3) yX3_diesByCheck yX3_diesByCheck ∈ lw_tbl := List.mem_append_right _ (List.mem_of_getElem? (i := 722) (by decide +kernel))
set_option maxRecDepth 100000 in
theorem eX3_fitsOriginOf : Cond.selects (a_Rn 3) yX3_fitsOriginOf yX3_fitsOriginOf ∈ lw_tbl := List.mem_append_right _ (List.mem_of_getElem? (i := 730) (by decide +kernel))
set_option maxRecDepth 100000 in
theorem eX3_fitsParents : Cond.selects (a_Rn 3) yX3_fitsParents yX3_fitsParents ∈ lw_tbl := List.mem_append_left _ (List.mem_of_getElem? (i := 28) (by decide +kernel))
set_option maxRecDepth 100000 in
theorem eX3_sameMarks : Cond.selects (a_Rn 3) yX3_sameMarks yX3_sameMarks ∈ lw_tbl := List.mem_append_left _ (List.mem_of_getElem? (i := 30) (by decide +kernel))
set_option maxRecDepth 100000 in
theorem eX3_setMarks : Cond.selects (a_Rn 3) yX3_setMarks yX3_setMarks ∈ lw_tbl := List.mem_append_right _ (List.mem_of_getElem? (i := 373) (by decide +kernel))
set_option maxRecDepth 100000 in
theorem eX3_suits : Cond.selects (a_Rn 3) yX3_suits yX3_suits ∈ lw_tbl := List.mem_append_right _ (List.mem_of_getElem? (i := 448) (by decide +kernel))
set_option maxRecDepth 100000 in
theorem eX4_advance : Cond.selects (a_Rn 4) yX4_advance yX4_advance ∈ lw_tbl := List.mem_append_left _ (List.mem_of_getElem? (i := 17) (by decide +kernel))
set_option maxRecDepth 100000 in
theorem eX4_beginsLine : Cond.selects (a_Rn 4) yX4_beginsLine yX4_beginsLine ∈ lw_tbl := List.mem_append_left _ (List.mem_of_getElem? (i := 15) (by decide +kernel))
set_option maxRecDepth 100000 in
theorem eX4_exchangeDraft : Cond.selects (a_Rn 4) yX4_exchangeDraft yX4_exchangeDraft ∈ lw_tbl := List.mem_append_right _ (List.mem_of_getElem? (i := 660) (by decide +kernel))
set_option maxRecDepth 100000 in
theorem eX4_expect : Cond.selects (a_Rn 4) yX4_expect yX4_expect ∈ lw_tbl := List.mem_append_left _ (List.mem_of_getElem? (i := 18) (by decide +kernel))
set_option maxRecDepth 100000 in
theorem eX4_readAnds : Cond.selects (a_Rn 4) yX4_readAnds yX4_readAnds ∈ lw_tbl := List.mem_append_left _ (List.mem_of_getElem? (i := 20) (by decide +kernel))
set_option maxRecDepth 100000 in
theorem eX4_readLine : Cond.selects (a_Rn 4) yX4_readLine yX4_readLine ∈ lw_tbl := List.mem_append_left _ (List.mem_of_getElem? (i := 16) (by decide +kernel))
set_option maxRecDepth 100000 in
theorem eX4_readPart : Cond.selects (a_Rn 4) yX4_readPart yX4_readPart ∈ lw_tbl := List.mem_append_left _ (List.mem_of_getElem? (i := 23) (by decide +kernel))
set_option maxRecDepth 100000 in
theorem eX4_readSum : Cond.selects (a_Rn 4) yX4_readSum yX4_readSum ∈ lw_tbl := List.mem_append_left _ (List.mem_of_getElem? (i := 22) (by decide +kernel))
set_option maxRecDepth 100000 in
theorem eX4_readTest : Cond.selects (a_Rn 4) yX4_readTest yX4_readTest ∈ lw_tbl := List.mem_append_left _ (List.mem_of_getElem? (i := 21) (by decide +kernel))
set_option maxRecDepth 100000 in
theorem eX4_readText : Cond.selects (a_Rn 4) yX4_readText yX4_readText ∈ lw_tbl := List.mem_append_right _ (List.mem_of_getElem? (i := 511) (by decide +kernel))
set_option maxRecDepth 100000 in
theorem eX4_refuse : Cond.selects (a_Rn 4) yX4_refuse yX4_refuse ∈ lw_tbl := List.mem_append_left _ (List.mem_of_getElem? (i := 19) (by decide +kernel))
set_option maxRecDepth 100000 in
theorem eX5_addCode : Cond.selects (a_Rn 5) yX5_addCode yX5_addCode ∈ lw_tbl := List.mem_append_right _ (List.mem_of_getElem? (i := 652) (by decide +kernel))
set_option maxRecDepth 100000 in
theorem eX5_endLine : Cond.selects (a_Rn 5) yX5_endLine yX5_endLine ∈ lw_tbl := List.mem_append_right _ (List.mem_of_getElem? (i := 656) (by decide +kernel))
set_option maxRecDepth 100000 in
theorem eX5_makeEmpty : Cond.selects (a_Rn 5) yX5_makeEmpty yX5_makeEmpty ∈ lw_tbl := List.mem_append_right _ (List.mem_of_getElem? (i := 612) (by decide +kernel))
set_option maxRecDepth 100000 in
theorem eX5_permit : Cond.selects (a_Rn 5) yX5_permit yX5_permit ∈ lw_tbl := List.mem_append_right _ (List.mem_of_getElem? (i := 677) (by decide +kernel))
set_option maxRecDepth 100000 in
theorem eX5_pop : Cond.selects (a_Rn 5) yX5_pop yX5_pop ∈ lw_tbl := List.mem_append_left _ (List.mem_of_getElem? (i := 27) (by decide +kernel))
set_option maxRecDepth 100000 in
theorem eX5_push : Cond.selects (a_Rn 5) yX5_push yX5_push ∈ lw_tbl := List.mem_append_left _ (List.mem_of_getElem? (i := 26) (by decide +kernel))
set_option maxRecDepth 100000 in
theorem eX5_valueOf : Cond.selects (a_Rn 5) yX5_valueOf yX5_valueOf ∈ lw_tbl := List.mem_append_left _ (List.mem_of_getElem? (i := 25) (by decide +kernel))
set_option maxRecDepth 100000 in
theorem eX6_entry : Cond.selects (a_Rn 6) yX6_entry yX6_entry ∈ lw_tbl := List.mem_append_right _ (List.mem_of_getElem? (i := 709) (by decide +kernel))
set_option maxRecDepth 100000 in
theorem eX6_write : Cond.selects (a_Rn 6) yX6_write yX6_write ∈ lw_tbl := List.mem_append_right _ (List.mem_of_getElem? (i := 701) (by decide +kernel))
set_option maxRecDepth 100000 in
theorem eX7_endOfBlanks : Cond.selects (a_Rn 7) yX7_endOfBlanks yX7_endOfBlanks ∈ lw_tbl := List.mem_append_right _ (List.mem_of_getElem? (i := 519) (by decide +kernel))
set_option maxRecDepth 100000 in
theorem eX7_endOfDigits : Cond.selects (a_Rn 7) yX7_endOfDigits yX7_endOfDigits ∈ lw_tbl := List.mem_append_right _ (List.mem_of_getElem? (i := 601) (by decide +kernel))
set_option maxRecDepth 100000 in
theorem eX7_endOfLetters : Cond.selects (a_Rn 7) yX7_endOfLetters yX7_endOfLetters ∈ lw_tbl := List.mem_append_right _ (List.mem_of_getElem? (i := 527) (by decide +kernel))
set_option maxRecDepth 100000 in
theorem eX7_numberIn : Cond.selects (a_Rn 7) yX7_numberIn yX7_numberIn ∈ lw_tbl := List.mem_append_right _ (List.mem_of_getElem? (i := 605) (by decide +kernel))
set_option maxRecDepth 100000 in
theorem eX7_spells : Cond.selects (a_Rn 7) yX7_spells yX7_spells ∈ lw_tbl := List.mem_append_right _ (List.mem_of_getElem? (i := 535) (by decide +kernel))
set_option maxRecDepth 100000 in
theorem eX7_takeBytes : Cond.selects (a_Rn 7) yX7_takeBytes yX7_takeBytes ∈ lw_tbl := List.mem_append_right _ (List.mem_of_getElem? (i := 502) (by decide +kernel))
set_option maxRecDepth 100000 in
theorem eX8_add : Cond.selects (a_Rn 8) yX8_add yX8_add ∈ lw_tbl := List.mem_append_left _ (List.mem_of_getElem? (i := 14) (by decide +kernel))
set_option maxRecDepth 100000 in
theorem eX8_scan : Cond.selects (a_Rn 8) yX8_scan yX8_scan ∈ lw_tbl := List.mem_append_right _ (List.mem_of_getElem? (i := 515) (by decide +kernel))
set_option maxRecDepth 100000 in
theorem eX8_scanOne : Cond.selects (a_Rn 8) yX8_scanOne yX8_scanOne ∈ lw_tbl := List.mem_append_left _ (List.mem_of_getElem? (i := 13) (by decide +kernel))
set_option maxRecDepth 100000 in
theorem eX9_bed : Cond.selects (a_Rn 9) yX9_bed yX9_bed ∈ lw_tbl := List.mem_append_right _ (List.mem_of_getElem? (i := 401) (by decide +kernel))
set_option maxRecDepth 100000 in
theorem eX9_bedAt : Cond.selects (a_Rn 9) yX9_bedAt yX9_bedAt ∈ lw_tbl := List.mem_append_left _ (List.mem_of_getElem? (i := 5) (by decide +kernel))
set_option maxRecDepth 100000 in
theorem eX9_canEnter : Cond.selects (a_Rn 9) yX9_canEnter yX9_canEnter ∈ lw_tbl := List.mem_append_left _ (List.mem_of_getElem? (i := 0) (by decide +kernel))
set_option maxRecDepth 100000 in
theorem eX9_change : Cond.selects (a_Rn 9) yX9_change yX9_change ∈ lw_tbl := List.mem_append_right _ (List.mem_of_getElem? (i := 425) (by decide +kernel))
set_option maxRecDepth 100000 in
theorem eX9_changed : Cond.selects (a_Rn 9) yX9_changed yX9_changed ∈ lw_tbl := List.mem_append_right _ (List.mem_of_getElem? (i := 746) (by decide +kernel))
set_option maxRecDepth 100000 in
theorem eX9_close : Cond.selects (a_Rn 9) yX9_close yX9_close ∈ lw_tbl := List.mem_append_right _ (List.mem_of_getElem? (i := 718) (by decide +kernel))
set_option maxRecDepth 100000 in
theorem eX9_count : Cond.selects (a_Rn 9) yX9_count yX9_count ∈ lw_tbl := List.mem_append_right _ (List.mem_of_getElem? (i := 750) (by decide +kernel))
set_option maxRecDepth 100000 in
theorem eX9_countDead : Cond.selects (a_Rn 9) yX9_countDead yX9_countDead ∈ lw_tbl := List.mem_append_left _ (List.mem_of_getElem? (i := 31) (by decide +kernel))
set_option maxRecDepth 100000 in
theorem eX9_countLying : Cond.selects (a_Rn 9) yX9_countLying yX9_countLying ∈ lw_tbl := List.mem_append_left _ (List.mem_of_getElem? (i := 32) (by decide +kernel))
set_option maxRecDepth 100000 in
theorem eX9_cut : Cond.selects (a_Rn 9) yX9_cut yX9_cut ∈ lw_tbl := List.mem_append_right _ (List.mem_of_getElem? (i := 352) (by decide +kernel))
set_option maxRecDepth 100000 in
theorem eX9_days : Cond.selects (a_Rn 9) yX9_days yX9_days ∈ lw_tbl := List.mem_append_right _ (List.mem_of_getElem? (i := 244) (by decide +kernel))
set_option maxRecDepth 100000 in
theorem eX9_enter : Cond.selects (a_Rn 9) yX9_enter yX9_enter ∈ lw_tbl := List.mem_append_left _ (List.mem_of_getElem? (i := 1) (by decide +kernel))
set_option maxRecDepth 100000 in
theorem eX9_feed : Cond.selects (a_Rn 9) yX9_feed yX9_feed ∈ lw_tbl := List.mem_append_right _ (List.mem_of_getElem? (i := 498) (by decide +kernel))
set_option maxRecDepth 100000 in
theorem eX9_fits : Cond.selects (a_Rn 9) yX9_fits yX9_fits ∈ lw_tbl := List.mem_append_right _ (List.mem_of_getElem? (i := 726) (by decide +kernel))
set_option maxRecDepth 100000 in
theorem eX9_hasPlaceFor : Cond.selects (a_Rn 9) yX9_hasPlaceFor yX9_hasPlaceFor ∈ lw_tbl := List.mem_append_left _ (List.mem_of_getElem? (i := 6) (by decide +kernel))
set_option maxRecDepth 100000 in
theorem eX9_join : Cond.selects (a_Rn 9) yX9_join yX9_join ∈ lw_tbl := List.mem_append_right _ (List.mem_of_getElem? (i := 385) (by decide +kernel))
set_option maxRecDepth 100000 in
theorem eX9_lay : Cond.selects (a_Rn 9) yX9_lay yX9_lay ∈ lw_tbl := List.mem_append_right _ (List.mem_of_getElem? (i := 440) (by decide +kernel))
set_option maxRecDepth 100000 in
theorem eX9_look : Cond.selects (a_Rn 9) yX9_look yX9_look ∈ lw_tbl := List.mem_append_right _ (List.mem_of_getElem? (i := 838) (by decide +kernel))
set_option maxRecDepth 100000 in
theorem eX9_mark : Cond.selects (a_Rn 9) yX9_mark yX9_mark ∈ lw_tbl := List.mem_append_right _ (List.mem_of_getElem? (i := 360) (by decide +kernel))
set_option maxRecDepth 100000 in
theorem eX9_may : Cond.selects (a_Rn 9) yX9_may yX9_may ∈ lw_tbl := List.mem_append_right _ (List.mem_of_getElem? (i := 665) (by decide +kernel))
set_option maxRecDepth 100000 in
theorem eX9_moves : Cond.selects (a_Rn 9) yX9_moves yX9_moves ∈ lw_tbl := List.mem_append_right _ (List.mem_of_getElem? (i := 453) (by decide +kernel))
set_option maxRecDepth 100000 in
theorem eX9_name : Cond.selects (a_Rn 9) yX9_name yX9_name ∈ lw_tbl := List.mem_append_right _ (List.mem_of_getElem? (i := 377) (by decide +kernel))
set_option maxRecDepth 100000 in
theorem eX9_named : Cond.selects (a_Rn 9) yX9_named yX9_named ∈ lw_tbl := List.mem_append_right _ (List.mem_of_getElem? (i := 766) (by decide +kernel))
set_option maxRecDepth 100000 in
theorem eX9_needs : Cond.selects (a_Rn 9) yX9_needs yX9_needs ∈ lw_tbl := List.mem_append_right _ (List.mem_of_getElem? (i := 433) (by decide +kernel))
set_option maxRecDepth 100000 in
theorem eX9_plantAt : Cond.selects (a_Rn 9) yX9_plantAt yX9_plantAt ∈ lw_tbl := List.mem_append_left _ (List.mem_of_getElem? (i := 2) (by decide +kernel))
set_option maxRecDepth 100000 in
theorem eX9_seed : Cond.selects (a_Rn 9) yX9_seed yX9_seed ∈ lw_tbl := List.mem_append_right _ (List.mem_of_getElem? (i := 338) (by decide +kernel))
set_option maxRecDepth 100000 in
theorem eX9_seen : Cond.selects (a_Rn 9) yX9_seen yX9_seen ∈ lw_tbl := List.mem_append_right _ (List.mem_of_getElem? (i := 714) (by decide +kernel))
set_option maxRecDepth 100000 in
theorem eX9_send : Cond.selects (a_Rn 9) yX9_send yX9_send ∈ lw_tbl := List.mem_append_right _ (List.mem_of_getElem? (i := 696) (by decide +kernel))
set_option maxRecDepth 100000 in
theorem eX9_sent : Cond.selects (a_Rn 9) yX9_sent yX9_sent ∈ lw_tbl := List.mem_append_right _ (List.mem_of_getElem? (i := 705) (by decide +kernel))
set_option maxRecDepth 100000 in
theorem eX9_split : Cond.selects (a_Rn 9) yX9_split yX9_split ∈ lw_tbl := List.mem_append_right _ (List.mem_of_getElem? (i := 356) (by decide +kernel))
set_option maxRecDepth 100000 in
theorem eX9_text : Cond.selects (a_Rn 9) yX9_text yX9_text ∈ lw_tbl := List.mem_append_right _ (List.mem_of_getElem? (i := 507) (by decide +kernel))
set_option maxRecDepth 100000 in
theorem eX9_wild : Cond.selects (a_Rn 9) yX9_wild yX9_wild ∈ lw_tbl := List.mem_append_right _ (List.mem_of_getElem? (i := 251) (by decide +kernel))
set_option maxRecDepth 100000 in
theorem kX0_init : a_Ok mX0_init 3 := ⟨List.mem_append_right _ (List.mem_of_getElem? (i := 406) rfl), List.mem_append_right _ (List.mem_of_getElem? (i := 17) (by decide +kernel)), ⟨by decide, by decide⟩, by decide +kernel, by decide⟩
set_option maxRecDepth 100000 in
theorem kX1_init : a_Ok mX1_init 0 := ⟨List.mem_append_right _ (List.mem_of_getElem? (i := 72) rfl), List.mem_append_right _ (List.mem_of_getElem? (i := 3) (by decide +kernel)), ⟨by decide, by decide⟩, by decide +kernel, by decide⟩
set_option maxRecDepth 100000 in
theorem kX1_makeEmpty : a_Ok mX1_makeEmpty 0 := ⟨List.mem_append_right _ (List.mem_of_getElem? (i := 458) rfl), List.mem_append_right _ (List.mem_of_getElem? (i := 3) (by decide +kernel)), ⟨by decide, by decide⟩, by decide +kernel, by decide⟩
set_option maxRecDepth 100000 in
theorem kX1_addBed : a_Ok mX1_addBed 1 := ⟨List.mem_append_right _ (List.mem_of_getElem? (i := 462) rfl), List.mem_append_right _ (List.mem_of_getElem? (i := 3) (by decide +kernel)), ⟨by decide, by decide⟩, by decide +kernel, by decide⟩
set_option maxRecDepth 100000 in
theorem kX9_within : a_Ok mX9_within 3 := ⟨List.mem_append_right _ (List.mem_of_getElem? (i := 248) rfl), List.mem_append_right _ (List.mem_of_getElem? (i := 1) (by decide +kernel)), ⟨by decide, by decide⟩, by decide +kernel, by decide⟩
set_option maxRecDepth 100000 in
theorem kX3_suits : a_Ok mX3_suits 1 := ⟨List.mem_append_right _ (List.mem_of_getElem? (i := 449) rfl), List.mem_append_right _ (List.mem_of_getElem? (i := 10) (by decide +kernel)), ⟨by decide, by decide⟩, by decide +kernel, by decide⟩
set_option maxRecDepth 100000 in
theorem kX1_addPlant : a_Ok mX1_addPlant 2 := ⟨List.mem_append_right _ (List.mem_of_getElem? (i := 466) rfl), List.mem_append_right _ (List.mem_of_getElem? (i := 3) (by decide +kernel)), ⟨by decide, by decide⟩, by decide +kernel, by decide⟩
set_option maxRecDepth 100000 in
theorem kX1_price : a_Ok mX1_price 2 := ⟨List.mem_append_right _ (List.mem_of_getElem? (i := 479) rfl), List.mem_append_right _ (List.mem_of_getElem? (i := 3) (by decide +kernel)), ⟨by decide, by decide⟩, by decide +kernel, by decide⟩
set_option maxRecDepth 100000 in
theorem kX1_spreadFrom : a_Ok mX1_spreadFrom 1 := ⟨List.mem_append_right _ (List.mem_of_getElem? (i := 487) rfl), List.mem_append_right _ (List.mem_of_getElem? (i := 3) (by decide +kernel)), ⟨by decide, by decide⟩, by decide +kernel, by decide⟩
set_option maxRecDepth 100000 in
theorem kX1_spreadCosts : a_Ok mX1_spreadCosts 0 := ⟨List.mem_append_right _ (List.mem_of_getElem? (i := 483) rfl), List.mem_append_right _ (List.mem_of_getElem? (i := 3) (by decide +kernel)), ⟨by decide, by decide⟩, by decide +kernel, by decide⟩
set_option maxRecDepth 100000 in
theorem kX1_cheapestWithRoom : a_Ok mX1_cheapestWithRoom 0 := ⟨List.mem_append_right _ (List.mem_of_getElem? (i := 491) rfl), List.mem_append_right _ (List.mem_of_getElem? (i := 3) (by decide +kernel)), ⟨by decide, by decide⟩, by decide +kernel, by decide⟩
set_option maxRecDepth 100000 in
theorem kX1_shiftAlong : a_Ok mX1_shiftAlong 1 := ⟨List.mem_append_right _ (List.mem_of_getElem? (i := 495) rfl), List.mem_append_right _ (List.mem_of_getElem? (i := 3) (by decide +kernel)), ⟨by decide, by decide⟩, by decide +kernel, by decide⟩
set_option maxRecDepth 100000 in
theorem kX1_bringIn : a_Ok mX1_bringIn 1 := ⟨List.mem_append_right _ (List.mem_of_getElem? (i := 475) rfl), List.mem_append_right _ (List.mem_of_getElem? (i := 3) (by decide +kernel)), ⟨by decide, by decide⟩, by decide +kernel, by decide⟩
set_option maxRecDepth 100000 in
theorem kX1_fewest : a_Ok mX1_fewest 0 := ⟨List.mem_append_right _ (List.mem_of_getElem? (i := 471) rfl), List.mem_append_right _ (List.mem_of_getElem? (i := 3) (by decide +kernel)), ⟨by decide, by decide⟩, by decide +kernel, by decide⟩
set_option maxRecDepth 100000 in
theorem kX2_init : a_Ok mX2_init 0 := ⟨List.mem_append_right _ (List.mem_of_getElem? (i := 38) rfl), List.mem_append_right _ (List.mem_of_getElem? (i := 2) (by decide +kernel)), ⟨by decide, by decide⟩, by decide +kernel, by decide⟩
set_option maxRecDepth 100000 in
theorem kX2_give : a_Ok mX2_give 3 := ⟨List.mem_append_right _ (List.mem_of_getElem? (i := 382) rfl), List.mem_append_right _ (List.mem_of_getElem? (i := 2) (by decide +kernel)), ⟨by decide, by decide⟩, by decide +kernel, by decide⟩
set_option maxRecDepth 100000 in
theorem kX2_tiedAsOf : a_Ok mX2_tiedAsOf 2 := ⟨List.mem_append_right _ (List.mem_of_getElem? (i := 398) rfl), List.mem_append_right _ (List.mem_of_getElem? (i := 2) (by decide +kernel)), ⟨by decide, by decide⟩, by decide +kernel, by decide⟩
set_option maxRecDepth 100000 in
theorem kX2_leadsTo : a_Ok mX2_leadsTo 3 := ⟨List.mem_append_right _ (List.mem_of_getElem? (i := 394) rfl), List.mem_append_right _ (List.mem_of_getElem? (i := 2) (by decide +kernel)), ⟨by decide, by decide⟩, by decide +kernel, by decide⟩
set_option maxRecDepth 100000 in
theorem kX2_tie : a_Ok mX2_tie 3 := ⟨List.mem_append_right _ (List.mem_of_getElem? (i := 390) rfl), List.mem_append_right _ (List.mem_of_getElem? (i := 2) (by decide +kernel)), ⟨by decide, by decide⟩, by decide +kernel, by decide⟩
set_option maxRecDepth 100000 in
theorem kX2_givenAsOf : a_Ok mX2_givenAsOf 2 := ⟨List.mem_append_right _ (List.mem_of_getElem? (i := 674) rfl), List.mem_append_right _ (List.mem_of_getElem? (i := 2) (by decide +kernel)), ⟨by decide, by decide⟩, by decide +kernel, by decide⟩
set_option maxRecDepth 100000 in
theorem kX2_nameOf : a_Ok mX2_nameOf 3 := ⟨List.mem_append_right _ (List.mem_of_getElem? (i := 670) rfl), List.mem_append_right _ (List.mem_of_getElem? (i := 2) (by decide +kernel)), ⟨by decide, by decide⟩, by decide +kernel, by decide⟩
set_option maxRecDepth 100000 in
theorem kX3_init : a_Ok mX3_init 3 := ⟨List.mem_append_right _ (List.mem_of_getElem? (i := 260) rfl), List.mem_append_right _ (List.mem_of_getElem? (i := 10) (by decide +kernel)), ⟨by decide, by decide⟩, by decide +kernel, by decide⟩
set_option maxRecDepth 100000 in
theorem kX3_init_ : a_Ok mX3_init_ 5 := ⟨List.mem_append_right _ (List.mem_of_getElem? (i := 346) rfl), List.mem_append_right _ (List.mem_of_getElem? (i := 10) (by decide +kernel)), ⟨by decide, by decide⟩, by decide +kernel, by decide⟩
set_option maxRecDepth 100000 in
theorem kX3_setMarks : a_Ok mX3_setMarks 3 := ⟨List.mem_append_right _ (List.mem_of_getElem? (i := 374) rfl), List.mem_append_right _ (List.mem_of_getElem? (i := 10) (by decide +kernel)), ⟨by decide, by decide⟩, by decide +kernel, by decide⟩
set_option maxRecDepth 100000 in
theorem kX3_diesByCheck : a_Ok mX3_diesByCheck 0 := ⟨List.mem_append_right _ (List.mem_of_getElem? (i := 723) rfl), List.mem_append_right _ (List.mem_of_getElem? (i := 10) (by decide +kernel)), ⟨by decide, by decide⟩, by decide +kernel, by decide⟩
set_option maxRecDepth 100000 in
theorem kX3_bears : a_Ok mX3_bears 2 := ⟨List.mem_append_right _ (List.mem_of_getElem? (i := 739) rfl), List.mem_append_right _ (List.mem_of_getElem? (i := 10) (by decide +kernel)), ⟨by decide, by decide⟩, by decide +kernel, by decide⟩
set_option maxRecDepth 100000 in
theorem kX3_fitsParents : a_Ok mX3_fitsParents 3 := ⟨List.mem_append_right _ (List.mem_of_getElem? (i := 735) rfl), List.mem_append_right _ (List.mem_of_getElem? (i := 10) (by decide +kernel)), ⟨by decide, by decide⟩, by decide +kernel, by decide⟩
set_option maxRecDepth 100000 in
theorem kX3_sameMarks : a_Ok mX3_sameMarks 2 := ⟨List.mem_append_right _ (List.mem_of_getElem? (i := 743) rfl), List.mem_append_right _ (List.mem_of_getElem? (i := 10) (by decide +kernel)), ⟨by decide, by decide⟩, by decide +kernel, by decide⟩
set_option maxRecDepth 100000 in
theorem kX3_fitsOriginOf : a_Ok mX3_fitsOriginOf 1 := ⟨List.mem_append_right _ (List.mem_of_getElem? (i := 731) rfl), List.mem_append_right _ (List.mem_of_getElem? (i := 10) (by decide +kernel)), ⟨by decide, by decide⟩, by decide +kernel, by decide⟩
set_option maxRecDepth 100000 in
theorem kX8_init : a_Ok mX8_init 0 := ⟨List.mem_append_right _ (List.mem_of_getElem? (i := 122) rfl), List.mem_append_right _ (List.mem_of_getElem? (i := 6) (by decide +kernel)), ⟨by decide, by decide⟩, by decide +kernel, by decide⟩
set_option maxRecDepth 100000 in
theorem kX5_init : a_Ok mX5_init 0 := ⟨List.mem_append_right _ (List.mem_of_getElem? (i := 144) rfl), List.mem_append_right _ (List.mem_of_getElem? (i := 7) (by decide +kernel)), ⟨by decide, by decide⟩, by decide +kernel, by decide⟩
set_option maxRecDepth 100000 in
theorem kX4_init : a_Ok mX4_init 0 := ⟨List.mem_append_right _ (List.mem_of_getElem? (i := 116) rfl), List.mem_append_right _ (List.mem_of_getElem? (i := 5) (by decide +kernel)), ⟨by decide, by decide⟩, by decide +kernel, by decide⟩
set_option maxRecDepth 100000 in
theorem kX7_endOfBlanks : a_Ok mX7_endOfBlanks 1 := ⟨List.mem_append_right _ (List.mem_of_getElem? (i := 520) rfl), List.mem_append_right _ (List.mem_of_getElem? (i := 4) (by decide +kernel)), ⟨by decide, by decide⟩, by decide +kernel, by decide⟩
set_option maxRecDepth 100000 in
theorem kX7_endOfLetters : a_Ok mX7_endOfLetters 1 := ⟨List.mem_append_right _ (List.mem_of_getElem? (i := 528) rfl), List.mem_append_right _ (List.mem_of_getElem? (i := 4) (by decide +kernel)), ⟨by decide, by decide⟩, by decide +kernel, by decide⟩
set_option maxRecDepth 100000 in
theorem kX7_spells : a_Ok mX7_spells 3 := ⟨List.mem_append_right _ (List.mem_of_getElem? (i := 536) rfl), List.mem_append_right _ (List.mem_of_getElem? (i := 4) (by decide +kernel)), ⟨by decide, by decide⟩, by decide +kernel, by decide⟩
set_option maxRecDepth 100000 in
theorem kX8_kindOfWord : a_Ok mX8_kindOfWord 3 := ⟨List.mem_append_right _ (List.mem_of_getElem? (i := 531) rfl), List.mem_append_right _ (List.mem_of_getElem? (i := 6) (by decide +kernel)), ⟨by decide, by decide⟩, by decide +kernel, by decide⟩
set_option maxRecDepth 100000 in
theorem kX8_add : a_Ok mX8_add 3 := ⟨List.mem_append_right _ (List.mem_of_getElem? (i := 598) rfl), List.mem_append_right _ (List.mem_of_getElem? (i := 6) (by decide +kernel)), ⟨by decide, by decide⟩, by decide +kernel, by decide⟩
set_option maxRecDepth 100000 in
theorem kX7_endOfDigits : a_Ok mX7_endOfDigits 1 := ⟨List.mem_append_right _ (List.mem_of_getElem? (i := 602) rfl), List.mem_append_right _ (List.mem_of_getElem? (i := 4) (by decide +kernel)), ⟨by decide, by decide⟩, by decide +kernel, by decide⟩
set_option maxRecDepth 100000 in
theorem kX7_numberIn : a_Ok mX7_numberIn 2 := ⟨List.mem_append_right _ (List.mem_of_getElem? (i := 606) rfl), List.mem_append_right _ (List.mem_of_getElem? (i := 4) (by decide +kernel)), ⟨by decide, by decide⟩, by decide +kernel, by decide⟩
set_option maxRecDepth 100000 in
theorem kX8_kindOfSign : a_Ok mX8_kindOfSign 1 := ⟨List.mem_append_right _ (List.mem_of_getElem? (i := 609) rfl), List.mem_append_right _ (List.mem_of_getElem? (i := 6) (by decide +kernel)), ⟨by decide, by decide⟩, by decide +kernel, by decide⟩
set_option maxRecDepth 100000 in
theorem kX8_scanOne : a_Ok mX8_scanOne 2 := ⟨List.mem_append_right _ (List.mem_of_getElem? (i := 524) rfl), List.mem_append_right _ (List.mem_of_getElem? (i := 6) (by decide +kernel)), ⟨by decide, by decide⟩, by decide +kernel, by decide⟩
set_option maxRecDepth 100000 in
theorem kX8_scan : a_Ok mX8_scan 1 := ⟨List.mem_append_right _ (List.mem_of_getElem? (i := 516) rfl), List.mem_append_right _ (List.mem_of_getElem? (i := 6) (by decide +kernel)), ⟨by decide, by decide⟩, by decide +kernel, by decide⟩
set_option maxRecDepth 100000 in
theorem kX5_makeEmpty : a_Ok mX5_makeEmpty 0 := ⟨List.mem_append_right _ (List.mem_of_getElem? (i := 613) rfl), List.mem_append_right _ (List.mem_of_getElem? (i := 7) (by decide +kernel)), ⟨by decide, by decide⟩, by decide +kernel, by decide⟩
set_option maxRecDepth 100000 in
theorem kX4_beginsLine : a_Ok mX4_beginsLine 0 := ⟨List.mem_append_right _ (List.mem_of_getElem? (i := 617) rfl), List.mem_append_right _ (List.mem_of_getElem? (i := 5) (by decide +kernel)), ⟨by decide, by decide⟩, by decide +kernel, by decide⟩
set_option maxRecDepth 100000 in
theorem kX4_advance : a_Ok mX4_advance 0 := ⟨List.mem_append_right _ (List.mem_of_getElem? (i := 625) rfl), List.mem_append_right _ (List.mem_of_getElem? (i := 5) (by decide +kernel)), ⟨by decide, by decide⟩, by decide +kernel, by decide⟩
set_option maxRecDepth 100000 in
theorem kX4_refuse : a_Ok mX4_refuse 1 := ⟨List.mem_append_right _ (List.mem_of_getElem? (i := 633) rfl), List.mem_append_right _ (List.mem_of_getElem? (i := 5) (by decide +kernel)), ⟨by decide, by decide⟩, by decide +kernel, by decide⟩
set_option maxRecDepth 100000 in
theorem kX4_expect : a_Ok mX4_expect 1 := ⟨List.mem_append_right _ (List.mem_of_getElem? (i := 629) rfl), List.mem_append_right _ (List.mem_of_getElem? (i := 5) (by decide +kernel)), ⟨by decide, by decide⟩, by decide +kernel, by decide⟩
set_option maxRecDepth 100000 in
theorem kX5_addCode : a_Ok mX5_addCode 2 := ⟨List.mem_append_right _ (List.mem_of_getElem? (i := 653) rfl), List.mem_append_right _ (List.mem_of_getElem? (i := 7) (by decide +kernel)), ⟨by decide, by decide⟩, by decide +kernel, by decide⟩
set_option maxRecDepth 100000 in
theorem kX4_readAnds : a_Ok mX4_readAnds 1 := ⟨List.mem_append_right _ (List.mem_of_getElem? (i := 637) rfl), List.mem_append_right _ (List.mem_of_getElem? (i := 5) (by decide +kernel)), ⟨by decide, by decide⟩, by decide +kernel, by decide⟩
set_option maxRecDepth 100000 in
theorem kX4_readPart : a_Ok mX4_readPart 1 := ⟨List.mem_append_right _ (List.mem_of_getElem? (i := 649) rfl), List.mem_append_right _ (List.mem_of_getElem? (i := 5) (by decide +kernel)), ⟨by decide, by decide⟩, by decide +kernel, by decide⟩
set_option maxRecDepth 100000 in
theorem kX4_readSum : a_Ok mX4_readSum 1 := ⟨List.mem_append_right _ (List.mem_of_getElem? (i := 645) rfl), List.mem_append_right _ (List.mem_of_getElem? (i := 5) (by decide +kernel)), ⟨by decide, by decide⟩, by decide +kernel, by decide⟩
set_option maxRecDepth 100000 in
theorem kX4_readTest : a_Ok mX4_readTest 1 := ⟨List.mem_append_right _ (List.mem_of_getElem? (i := 641) rfl), List.mem_append_right _ (List.mem_of_getElem? (i := 5) (by decide +kernel)), ⟨by decide, by decide⟩, by decide +kernel, by decide⟩
set_option maxRecDepth 100000 in
theorem kX5_endLine : a_Ok mX5_endLine 1 := ⟨List.mem_append_right _ (List.mem_of_getElem? (i := 657) rfl), List.mem_append_right _ (List.mem_of_getElem? (i := 7) (by decide +kernel)), ⟨by decide, by decide⟩, by decide +kernel, by decide⟩
set_option maxRecDepth 100000 in
theorem kX4_readLine : a_Ok mX4_readLine 0 := ⟨List.mem_append_right _ (List.mem_of_getElem? (i := 621) rfl), List.mem_append_right _ (List.mem_of_getElem? (i := 5) (by decide +kernel)), ⟨by decide, by decide⟩, by decide +kernel, by decide⟩
set_option maxRecDepth 100000 in
theorem kX4_readText : a_Ok mX4_readText 1 := ⟨List.mem_append_right _ (List.mem_of_getElem? (i := 512) rfl), List.mem_append_right _ (List.mem_of_getElem? (i := 5) (by decide +kernel)), ⟨by decide, by decide⟩, by decide +kernel, by decide⟩
set_option maxRecDepth 100000 in
theorem kX4_exchangeDraft : a_Ok mX4_exchangeDraft 1 := ⟨List.mem_append_right _ (List.mem_of_getElem? (i := 661) rfl), List.mem_append_right _ (List.mem_of_getElem? (i := 5) (by decide +kernel)), ⟨by decide, by decide⟩, by decide +kernel, by decide⟩
set_option maxRecDepth 100000 in
theorem kX5_push : a_Ok mX5_push 1 := ⟨List.mem_append_right _ (List.mem_of_getElem? (i := 686) rfl), List.mem_append_right _ (List.mem_of_getElem? (i := 7) (by decide +kernel)), ⟨by decide, by decide⟩, by decide +kernel, by decide⟩
set_option maxRecDepth 100000 in
theorem kX5_pop : a_Ok mX5_pop 0 := ⟨List.mem_append_right _ (List.mem_of_getElem? (i := 690) rfl), List.mem_append_right _ (List.mem_of_getElem? (i := 7) (by decide +kernel)), ⟨by decide, by decide⟩, by decide +kernel, by decide⟩
set_option maxRecDepth 100000 in
theorem kX5_joined : a_Ok mX5_joined 3 := ⟨List.mem_append_right _ (List.mem_of_getElem? (i := 693) rfl), List.mem_append_right _ (List.mem_of_getElem? (i := 7) (by decide +kernel)), ⟨by decide, by decide⟩, by decide +kernel, by decide⟩
set_option maxRecDepth 100000 in
theorem kX5_valueOf : a_Ok mX5_valueOf 3 := ⟨List.mem_append_right _ (List.mem_of_getElem? (i := 682) rfl), List.mem_append_right _ (List.mem_of_getElem? (i := 7) (by decide +kernel)), ⟨by decide, by decide⟩, by decide +kernel, by decide⟩
set_option maxRecDepth 100000 in
theorem kX5_permit : a_Ok mX5_permit 1 := ⟨List.mem_append_right _ (List.mem_of_getElem? (i := 678) rfl), List.mem_append_right _ (List.mem_of_getElem? (i := 7) (by decide +kernel)), ⟨by decide, by decide⟩, by decide +kernel, by decide⟩
set_option maxRecDepth 100000 in
theorem kX6_init : a_Ok mX6_init 0 := ⟨List.mem_append_right _ (List.mem_of_getElem? (i := 193) rfl), List.mem_append_right _ (List.mem_of_getElem? (i := 8) (by decide +kernel)), ⟨by decide, by decide⟩, by decide +kernel, by decide⟩
set_option maxRecDepth 100000 in
theorem kX6_write : a_Ok mX6_write 4 := ⟨List.mem_append_right _ (List.mem_of_getElem? (i := 702) rfl), List.mem_append_right _ (List.mem_of_getElem? (i := 8) (by decide +kernel)), ⟨by decide, by decide⟩, by decide +kernel, by decide⟩
set_option maxRecDepth 100000 in
theorem kX6_entry : a_Ok mX6_entry 2 := ⟨List.mem_append_right _ (List.mem_of_getElem? (i := 710) rfl), List.mem_append_right _ (List.mem_of_getElem? (i := 8) (by decide +kernel)), ⟨by decide, by decide⟩, by decide +kernel, by decide⟩
set_option maxRecDepth 100000 in
theorem kX7_init : a_Ok mX7_init 0 := ⟨List.mem_append_right _ (List.mem_of_getElem? (i := 100) rfl), List.mem_append_right _ (List.mem_of_getElem? (i := 4) (by decide +kernel)), ⟨by decide, by decide⟩, by decide +kernel, by decide⟩
set_option maxRecDepth 100000 in
theorem kX7_takeBytes : a_Ok mX7_takeBytes 1 := ⟨List.mem_append_right _ (List.mem_of_getElem? (i := 503) rfl), List.mem_append_right _ (List.mem_of_getElem? (i := 4) (by decide +kernel)), ⟨by decide, by decide⟩, by decide +kernel, by decide⟩
set_option maxRecDepth 100000 in
theorem kX9_init : a_Ok mX9_init 0 := ⟨List.mem_append_right _ (List.mem_of_getElem? (i := 26) rfl), List.mem_append_right _ (List.mem_of_getElem? (i := 1) (by decide +kernel)), ⟨by decide, by decide⟩, by decide +kernel, by decide⟩
set_option maxRecDepth 100000 in
theorem kX9_days : a_Ok mX9_days 1 := ⟨List.mem_append_right _ (List.mem_of_getElem? (i := 245) rfl), List.mem_append_right _ (List.mem_of_getElem? (i := 1) (by decide +kernel)), ⟨by decide, by decide⟩, by decide +kernel, by decide⟩
set_option maxRecDepth 100000 in
theorem kX9_canEnter : a_Ok mX9_canEnter 1 := ⟨List.mem_append_right _ (List.mem_of_getElem? (i := 256) rfl), List.mem_append_right _ (List.mem_of_getElem? (i := 1) (by decide +kernel)), ⟨by decide, by decide⟩, by decide +kernel, by decide⟩
set_option maxRecDepth 100000 in
theorem kX9_enter : a_Ok mX9_enter 1 := ⟨List.mem_append_right _ (List.mem_of_getElem? (i := 335) rfl), List.mem_append_right _ (List.mem_of_getElem? (i := 1) (by decide +kernel)), ⟨by decide, by decide⟩, by decide +kernel, by decide⟩
set_option maxRecDepth 100000 in
theorem kX9_wild : a_Ok mX9_wild 2 := ⟨List.mem_append_right _ (List.mem_of_getElem? (i := 252) rfl), List.mem_append_right _ (List.mem_of_getElem? (i := 1) (by decide +kernel)), ⟨by decide, by decide⟩, by decide +kernel, by decide⟩
set_option maxRecDepth 100000 in
theorem kX9_plantAt : a_Ok mX9_plantAt 1 := ⟨List.mem_append_right _ (List.mem_of_getElem? (i := 343) rfl), List.mem_append_right _ (List.mem_of_getElem? (i := 1) (by decide +kernel)), ⟨by decide, by decide⟩, by decide +kernel, by decide⟩
set_option maxRecDepth 100000 in
theorem kX9_seed : a_Ok mX9_seed 3 := ⟨List.mem_append_right _ (List.mem_of_getElem? (i := 339) rfl), List.mem_append_right _ (List.mem_of_getElem? (i := 1) (by decide +kernel)), ⟨by decide, by decide⟩, by decide +kernel, by decide⟩
set_option maxRecDepth 100000 in
theorem kX9_cut : a_Ok mX9_cut 2 := ⟨List.mem_append_right _ (List.mem_of_getElem? (i := 353) rfl), List.mem_append_right _ (List.mem_of_getElem? (i := 1) (by decide +kernel)), ⟨by decide, by decide⟩, by decide +kernel, by decide⟩
set_option maxRecDepth 100000 in
theorem kX9_split : a_Ok mX9_split 2 := ⟨List.mem_append_right _ (List.mem_of_getElem? (i := 357) rfl), List.mem_append_right _ (List.mem_of_getElem? (i := 1) (by decide +kernel)), ⟨by decide, by decide⟩, by decide +kernel, by decide⟩
set_option maxRecDepth 100000 in
theorem kX9_isDigit : a_Ok mX9_isDigit 1 := ⟨List.mem_append_right _ (List.mem_of_getElem? (i := 364) rfl), List.mem_append_right _ (List.mem_of_getElem? (i := 1) (by decide +kernel)), ⟨by decide, by decide⟩, by decide +kernel, by decide⟩
set_option maxRecDepth 100000 in
theorem kX9_mark : a_Ok mX9_mark 4 := ⟨List.mem_append_right _ (List.mem_of_getElem? (i := 361) rfl), List.mem_append_right _ (List.mem_of_getElem? (i := 1) (by decide +kernel)), ⟨by decide, by decide⟩, by decide +kernel, by decide⟩
set_option maxRecDepth 100000 in
theorem kX9_name : a_Ok mX9_name 2 := ⟨List.mem_append_right _ (List.mem_of_getElem? (i := 378) rfl), List.mem_append_right _ (List.mem_of_getElem? (i := 1) (by decide +kernel)), ⟨by decide, by decide⟩, by decide +kernel, by decide⟩
set_option maxRecDepth 100000 in
theorem kX9_join : a_Ok mX9_join 2 := ⟨List.mem_append_right _ (List.mem_of_getElem? (i := 386) rfl), List.mem_append_right _ (List.mem_of_getElem? (i := 1) (by decide +kernel)), ⟨by decide, by decide⟩, by decide +kernel, by decide⟩
set_option maxRecDepth 100000 in
theorem kX9_named : a_Ok mX9_named 3 := ⟨List.mem_append_right _ (List.mem_of_getElem? (i := 767) rfl), List.mem_append_right _ (List.mem_of_getElem? (i := 1) (by decide +kernel)), ⟨by decide, by decide⟩, by decide +kernel, by decide⟩
set_option maxRecDepth 100000 in
theorem kX9_bed : a_Ok mX9_bed 3 := ⟨List.mem_append_right _ (List.mem_of_getElem? (i := 402) rfl), List.mem_append_right _ (List.mem_of_getElem? (i := 1) (by decide +kernel)), ⟨by decide, by decide⟩, by decide +kernel, by decide⟩
set_option maxRecDepth 100000 in
theorem kX9_bedAt : a_Ok mX9_bedAt 1 := ⟨List.mem_append_right _ (List.mem_of_getElem? (i := 430) rfl), List.mem_append_right _ (List.mem_of_getElem? (i := 1) (by decide +kernel)), ⟨by decide, by decide⟩, by decide +kernel, by decide⟩
set_option maxRecDepth 100000 in
theorem kX9_change : a_Ok mX9_change 3 := ⟨List.mem_append_right _ (List.mem_of_getElem? (i := 426) rfl), List.mem_append_right _ (List.mem_of_getElem? (i := 1) (by decide +kernel)), ⟨by decide, by decide⟩, by decide +kernel, by decide⟩
set_option maxRecDepth 100000 in
theorem kX9_isSpan : a_Ok mX9_isSpan 2 := ⟨List.mem_append_right _ (List.mem_of_getElem? (i := 437) rfl), List.mem_append_right _ (List.mem_of_getElem? (i := 1) (by decide +kernel)), ⟨by decide, by decide⟩, by decide +kernel, by decide⟩
set_option maxRecDepth 100000 in
theorem kX9_needs : a_Ok mX9_needs 5 := ⟨List.mem_append_right _ (List.mem_of_getElem? (i := 434) rfl), List.mem_append_right _ (List.mem_of_getElem? (i := 1) (by decide +kernel)), ⟨by decide, by decide⟩, by decide +kernel, by decide⟩
set_option maxRecDepth 100000 in
theorem kX9_hasPlaceFor : a_Ok mX9_hasPlaceFor 2 := ⟨List.mem_append_right _ (List.mem_of_getElem? (i := 445) rfl), List.mem_append_right _ (List.mem_of_getElem? (i := 1) (by decide +kernel)), ⟨by decide, by decide⟩, by decide +kernel, by decide⟩
set_option maxRecDepth 100000 in
theorem kX9_lay : a_Ok mX9_lay 2 := ⟨List.mem_append_right _ (List.mem_of_getElem? (i := 441) rfl), List.mem_append_right _ (List.mem_of_getElem? (i := 1) (by decide +kernel)), ⟨by decide, by decide⟩, by decide +kernel, by decide⟩
set_option maxRecDepth 100000 in
theorem kX9_moves : a_Ok mX9_moves 0 := ⟨List.mem_append_right _ (List.mem_of_getElem? (i := 454) rfl), List.mem_append_right _ (List.mem_of_getElem? (i := 1) (by decide +kernel)), ⟨by decide, by decide⟩, by decide +kernel, by decide⟩
set_option maxRecDepth 100000 in
theorem kX9_feed : a_Ok mX9_feed 3 := ⟨List.mem_append_right _ (List.mem_of_getElem? (i := 499) rfl), List.mem_append_right _ (List.mem_of_getElem? (i := 1) (by decide +kernel)), ⟨by decide, by decide⟩, by decide +kernel, by decide⟩
set_option maxRecDepth 100000 in
theorem kX9_text : a_Ok mX9_text 0 := ⟨List.mem_append_right _ (List.mem_of_getElem? (i := 508) rfl), List.mem_append_right _ (List.mem_of_getElem? (i := 1) (by decide +kernel)), ⟨by decide, by decide⟩, by decide +kernel, by decide⟩
set_option maxRecDepth 100000 in
theorem kX9_may : a_Ok mX9_may 3 := ⟨List.mem_append_right _ (List.mem_of_getElem? (i := 666) rfl), List.mem_append_right _ (List.mem_of_getElem? (i := 1) (by decide +kernel)), ⟨by decide, by decide⟩, by decide +kernel, by decide⟩
set_option maxRecDepth 100000 in
theorem kX9_send : a_Ok mX9_send 3 := ⟨List.mem_append_right _ (List.mem_of_getElem? (i := 697) rfl), List.mem_append_right _ (List.mem_of_getElem? (i := 1) (by decide +kernel)), ⟨by decide, by decide⟩, by decide +kernel, by decide⟩
set_option maxRecDepth 100000 in
theorem kX9_sent : a_Ok mX9_sent 2 := ⟨List.mem_append_right _ (List.mem_of_getElem? (i := 706) rfl), List.mem_append_right _ (List.mem_of_getElem? (i := 1) (by decide +kernel)), ⟨by decide, by decide⟩, by decide +kernel, by decide⟩
set_option maxRecDepth 100000 in
theorem kX9_seen : a_Ok mX9_seen 2 := ⟨List.mem_append_right _ (List.mem_of_getElem? (i := 715) rfl), List.mem_append_right _ (List.mem_of_getElem? (i := 1) (by decide +kernel)), ⟨by decide, by decide⟩, by decide +kernel, by decide⟩
set_option maxRecDepth 100000 in
theorem kX9_close : a_Ok mX9_close 1 := ⟨List.mem_append_right _ (List.mem_of_getElem? (i := 719) rfl), List.mem_append_right _ (List.mem_of_getElem? (i := 1) (by decide +kernel)), ⟨by decide, by decide⟩, by decide +kernel, by decide⟩
set_option maxRecDepth 100000 in
theorem kX9_fits : a_Ok mX9_fits 1 := ⟨List.mem_append_right _ (List.mem_of_getElem? (i := 727) rfl), List.mem_append_right _ (List.mem_of_getElem? (i := 1) (by decide +kernel)), ⟨by decide, by decide⟩, by decide +kernel, by decide⟩
set_option maxRecDepth 100000 in
theorem kX9_changed : a_Ok mX9_changed 2 := ⟨List.mem_append_right _ (List.mem_of_getElem? (i := 747) rfl), List.mem_append_right _ (List.mem_of_getElem? (i := 1) (by decide +kernel)), ⟨by decide, by decide⟩, by decide +kernel, by decide⟩
set_option maxRecDepth 100000 in
theorem kX9_numberOf : a_Ok mX9_numberOf 1 := ⟨List.mem_append_right _ (List.mem_of_getElem? (i := 846) rfl), List.mem_append_right _ (List.mem_of_getElem? (i := 1) (by decide +kernel)), ⟨by decide, by decide⟩, by decide +kernel, by decide⟩
set_option maxRecDepth 100000 in
theorem kX9_lookAtOrigin : a_Ok mX9_lookAtOrigin 2 := ⟨List.mem_append_right _ (List.mem_of_getElem? (i := 843) rfl), List.mem_append_right _ (List.mem_of_getElem? (i := 1) (by decide +kernel)), ⟨by decide, by decide⟩, by decide +kernel, by decide⟩
set_option maxRecDepth 100000 in
theorem kX9_lookAtState : a_Ok mX9_lookAtState 2 := ⟨List.mem_append_right _ (List.mem_of_getElem? (i := 849) rfl), List.mem_append_right _ (List.mem_of_getElem? (i := 1) (by decide +kernel)), ⟨by decide, by decide⟩, by decide +kernel, by decide⟩
set_option maxRecDepth 100000 in
theorem kX9_look : a_Ok mX9_look 2 := ⟨List.mem_append_right _ (List.mem_of_getElem? (i := 839) rfl), List.mem_append_right _ (List.mem_of_getElem? (i := 1) (by decide +kernel)), ⟨by decide, by decide⟩, by decide +kernel, by decide⟩
set_option maxRecDepth 100000 in
theorem kX9_countDead : a_Ok mX9_countDead 0 := ⟨List.mem_append_right _ (List.mem_of_getElem? (i := 755) rfl), List.mem_append_right _ (List.mem_of_getElem? (i := 1) (by decide +kernel)), ⟨by decide, by decide⟩, by decide +kernel, by decide⟩
set_option maxRecDepth 100000 in
theorem kX9_countLying : a_Ok mX9_countLying 0 := ⟨List.mem_append_right _ (List.mem_of_getElem? (i := 759) rfl), List.mem_append_right _ (List.mem_of_getElem? (i := 1) (by decide +kernel)), ⟨by decide, by decide⟩, by decide +kernel, by decide⟩
set_option maxRecDepth 100000 in
theorem kX9_count : a_Ok mX9_count 1 := ⟨List.mem_append_right _ (List.mem_of_getElem? (i := 751) rfl), List.mem_append_right _ (List.mem_of_getElem? (i := 1) (by decide +kernel)), ⟨by decide, by decide⟩, by decide +kernel, by decide⟩
set_option maxRecDepth 100000 in
theorem kX10_thrown : a_Ok mX10_thrown 0 := ⟨List.mem_append_right _ (List.mem_of_getElem? (i := 853) rfl), List.mem_append_right _ (List.mem_of_getElem? (i := 9) (by decide +kernel)), ⟨by decide, by decide⟩, by decide +kernel, by decide⟩
set_option maxRecDepth 100000 in
theorem kX10_lay : a_Ok mX10_lay 1 := ⟨List.mem_append_right _ (List.mem_of_getElem? (i := 862) rfl), List.mem_append_right _ (List.mem_of_getElem? (i := 9) (by decide +kernel)), ⟨by decide, by decide⟩, by decide +kernel, by decide⟩
set_option maxRecDepth 100000 in
theorem kX10_feed : a_Ok mX10_feed 3 := ⟨List.mem_append_right _ (List.mem_of_getElem? (i := 857) rfl), List.mem_append_right _ (List.mem_of_getElem? (i := 9) (by decide +kernel)), ⟨by decide, by decide⟩, by decide +kernel, by decide⟩
set_option maxRecDepth 100000 in
theorem kX10_init : a_Ok mX10_init 0 := ⟨List.mem_append_right _ (List.mem_of_getElem? (i := 866) rfl), List.mem_append_right _ (List.mem_of_getElem? (i := 9) (by decide +kernel)), ⟨by decide, by decide⟩, by decide +kernel, by decide⟩
set_option maxRecDepth 100000 in
theorem kX10_isLetter : a_Ok mX10_isLetter 1 := ⟨List.mem_append_right _ (List.mem_of_getElem? (i := 1059) rfl), List.mem_append_right _ (List.mem_of_getElem? (i := 9) (by decide +kernel)), ⟨by decide, by decide⟩, by decide +kernel, by decide⟩
set_option maxRecDepth 100000 in
theorem kX10_isDigit : a_Ok mX10_isDigit 1 := ⟨List.mem_append_right _ (List.mem_of_getElem? (i := 1066) rfl), List.mem_append_right _ (List.mem_of_getElem? (i := 9) (by decide +kernel)), ⟨by decide, by decide⟩, by decide +kernel, by decide⟩
set_option maxRecDepth 100000 in
theorem kX10_rank : a_Ok mX10_rank 1 := ⟨List.mem_append_right _ (List.mem_of_getElem? (i := 1063) rfl), List.mem_append_right _ (List.mem_of_getElem? (i := 9) (by decide +kernel)), ⟨by decide, by decide⟩, by decide +kernel, by decide⟩
set_option maxRecDepth 100000 in
theorem kX10_isSignOf : a_Ok mX10_isSignOf 1 := ⟨List.mem_append_right _ (List.mem_of_getElem? (i := 1071) rfl), List.mem_append_right _ (List.mem_of_getElem? (i := 9) (by decide +kernel)), ⟨by decide, by decide⟩, by decide +kernel, by decide⟩
set_option maxRecDepth 100000 in
theorem kX10_cutAll : a_Ok mX10_cutAll 0 := ⟨List.mem_append_right _ (List.mem_of_getElem? (i := 1056) rfl), List.mem_append_right _ (List.mem_of_getElem? (i := 9) (by decide +kernel)), ⟨by decide, by decide⟩, by decide +kernel, by decide⟩
set_option maxRecDepth 100000 in
theorem kX10_wrong : a_Ok mX10_wrong 1 := ⟨List.mem_append_right _ (List.mem_of_getElem? (i := 1083) rfl), List.mem_append_right _ (List.mem_of_getElem? (i := 9) (by decide +kernel)), ⟨by decide, by decide⟩, by decide +kernel, by decide⟩
set_option maxRecDepth 100000 in
theorem kX10_isSign : a_Ok mX10_isSign 1 := ⟨List.mem_append_right _ (List.mem_of_getElem? (i := 1107) rfl), List.mem_append_right _ (List.mem_of_getElem? (i := 9) (by decide +kernel)), ⟨by decide, by decide⟩, by decide +kernel, by decide⟩
set_option maxRecDepth 100000 in
theorem kX10_isWord : a_Ok mX10_isWord 1 := ⟨List.mem_append_right _ (List.mem_of_getElem? (i := 1079) rfl), List.mem_append_right _ (List.mem_of_getElem? (i := 9) (by decide +kernel)), ⟨by decide, by decide⟩, by decide +kernel, by decide⟩
set_option maxRecDepth 100000 in
theorem kX10_takeSign : a_Ok mX10_takeSign 1 := ⟨List.mem_append_right _ (List.mem_of_getElem? (i := 1123) rfl), List.mem_append_right _ (List.mem_of_getElem? (i := 9) (by decide +kernel)), ⟨by decide, by decide⟩, by decide +kernel, by decide⟩
set_option maxRecDepth 100000 in
theorem kX10_hasSign : a_Ok mX10_hasSign 1 := ⟨List.mem_append_right _ (List.mem_of_getElem? (i := 1111) rfl), List.mem_append_right _ (List.mem_of_getElem? (i := 9) (by decide +kernel)), ⟨by decide, by decide⟩, by decide +kernel, by decide⟩
set_option maxRecDepth 100000 in
theorem kX10_hasWord : a_Ok mX10_hasWord 1 := ⟨List.mem_append_right _ (List.mem_of_getElem? (i := 1091) rfl), List.mem_append_right _ (List.mem_of_getElem? (i := 9) (by decide +kernel)), ⟨by decide, by decide⟩, by decide +kernel, by decide⟩
set_option maxRecDepth 100000 in
theorem kX10_takeWord : a_Ok mX10_takeWord 1 := ⟨List.mem_append_right _ (List.mem_of_getElem? (i := 1087) rfl), List.mem_append_right _ (List.mem_of_getElem? (i := 9) (by decide +kernel)), ⟨by decide, by decide⟩, by decide +kernel, by decide⟩
set_option maxRecDepth 100000 in
theorem kX10_emit : a_Ok mX10_emit 2 := ⟨List.mem_append_right _ (List.mem_of_getElem? (i := 1115) rfl), List.mem_append_right _ (List.mem_of_getElem? (i := 9) (by decide +kernel)), ⟨by decide, by decide⟩, by decide +kernel, by decide⟩
set_option maxRecDepth 100000 in
theorem kX10_opens : a_Ok mX10_opens 0 := ⟨List.mem_append_right _ (List.mem_of_getElem? (i := 1095) rfl), List.mem_append_right _ (List.mem_of_getElem? (i := 9) (by decide +kernel)), ⟨by decide, by decide⟩, by decide +kernel, by decide⟩
set_option maxRecDepth 100000 in
theorem kX10_partWord : a_Ok mX10_partWord 0 := ⟨List.mem_append_right _ (List.mem_of_getElem? (i := 1103) rfl), List.mem_append_right _ (List.mem_of_getElem? (i := 9) (by decide +kernel)), ⟨by decide, by decide⟩, by decide +kernel, by decide⟩
set_option maxRecDepth 100000 in
theorem kX10_part : a_Ok mX10_part 0 := ⟨List.mem_append_right _ (List.mem_of_getElem? (i := 1099) rfl), List.mem_append_right _ (List.mem_of_getElem? (i := 9) (by decide +kernel)), ⟨by decide, by decide⟩, by decide +kernel, by decide⟩
set_option maxRecDepth 100000 in
theorem kX10_goesOnBehind : a_Ok mX10_goesOnBehind 0 := ⟨List.mem_append_right _ (List.mem_of_getElem? (i := 1119) rfl), List.mem_append_right _ (List.mem_of_getElem? (i := 9) (by decide +kernel)), ⟨by decide, by decide⟩, by decide +kernel, by decide⟩
set_option maxRecDepth 100000 in
theorem kX10_line : a_Ok mX10_line 0 := ⟨List.mem_append_right _ (List.mem_of_getElem? (i := 1075) rfl), List.mem_append_right _ (List.mem_of_getElem? (i := 9) (by decide +kernel)), ⟨by decide, by decide⟩, by decide +kernel, by decide⟩
set_option maxRecDepth 100000 in
theorem kX10_text : a_Ok mX10_text 0 := ⟨List.mem_append_right _ (List.mem_of_getElem? (i := 1052) rfl), List.mem_append_right _ (List.mem_of_getElem? (i := 9) (by decide +kernel)), ⟨by decide, by decide⟩, by decide +kernel, by decide⟩
set_option maxRecDepth 100000 in
theorem kX10_worth : a_Ok mX10_worth 1 := ⟨List.mem_append_right _ (List.mem_of_getElem? (i := 1277) rfl), List.mem_append_right _ (List.mem_of_getElem? (i := 9) (by decide +kernel)), ⟨by decide, by decide⟩, by decide +kernel, by decide⟩
set_option maxRecDepth 100000 in
theorem kX10_days : a_Ok mX10_days 1 := ⟨List.mem_append_right _ (List.mem_of_getElem? (i := 1127) rfl), List.mem_append_right _ (List.mem_of_getElem? (i := 9) (by decide +kernel)), ⟨by decide, by decide⟩, by decide +kernel, by decide⟩
set_option maxRecDepth 100000 in
theorem kX10_isPlant : a_Ok mX10_isPlant 1 := ⟨List.mem_append_right _ (List.mem_of_getElem? (i := 1146) rfl), List.mem_append_right _ (List.mem_of_getElem? (i := 9) (by decide +kernel)), ⟨by decide, by decide⟩, by decide +kernel, by decide⟩
set_option maxRecDepth 100000 in
theorem kX10_grows : a_Ok mX10_grows 4 := ⟨List.mem_append_right _ (List.mem_of_getElem? (i := 1138) rfl), List.mem_append_right _ (List.mem_of_getElem? (i := 9) (by decide +kernel)), ⟨by decide, by decide⟩, by decide +kernel, by decide⟩
set_option maxRecDepth 100000 in
theorem kX10_areMany : a_Ok mX10_areMany 1 := ⟨List.mem_append_right _ (List.mem_of_getElem? (i := 1134) rfl), List.mem_append_right _ (List.mem_of_getElem? (i := 9) (by decide +kernel)), ⟨by decide, by decide⟩, by decide +kernel, by decide⟩
set_option maxRecDepth 100000 in
theorem kX10_wild : a_Ok mX10_wild 2 := ⟨List.mem_append_right _ (List.mem_of_getElem? (i := 1131) rfl), List.mem_append_right _ (List.mem_of_getElem? (i := 9) (by decide +kernel)), ⟨by decide, by decide⟩, by decide +kernel, by decide⟩
set_option maxRecDepth 100000 in
theorem kX10_seed : a_Ok mX10_seed 3 := ⟨List.mem_append_right _ (List.mem_of_getElem? (i := 1142) rfl), List.mem_append_right _ (List.mem_of_getElem? (i := 9) (by decide +kernel)), ⟨by decide, by decide⟩, by decide +kernel, by decide⟩
set_option maxRecDepth 100000 in
theorem kX10_cut : a_Ok mX10_cut 2 := ⟨List.mem_append_right _ (List.mem_of_getElem? (i := 1150) rfl), List.mem_append_right _ (List.mem_of_getElem? (i := 9) (by decide +kernel)), ⟨by decide, by decide⟩, by decide +kernel, by decide⟩
set_option maxRecDepth 100000 in
theorem kX10_split : a_Ok mX10_split 2 := ⟨List.mem_append_right _ (List.mem_of_getElem? (i := 1154) rfl), List.mem_append_right _ (List.mem_of_getElem? (i := 9) (by decide +kernel)), ⟨by decide, by decide⟩, by decide +kernel, by decide⟩
set_option maxRecDepth 100000 in
theorem kX10_rootOf : a_Ok mX10_rootOf 1 := ⟨List.mem_append_right _ (List.mem_of_getElem? (i := 1269) rfl), List.mem_append_right _ (List.mem_of_getElem? (i := 9) (by decide +kernel)), ⟨by decide, by decide⟩, by decide +kernel, by decide⟩
set_option maxRecDepth 100000 in
theorem kX10_isCut : a_Ok mX10_isCut 1 := ⟨List.mem_append_right _ (List.mem_of_getElem? (i := 1273) rfl), List.mem_append_right _ (List.mem_of_getElem? (i := 9) (by decide +kernel)), ⟨by decide, by decide⟩, by decide +kernel, by decide⟩
set_option maxRecDepth 100000 in
theorem kX10_mark : a_Ok mX10_mark 4 := ⟨List.mem_append_right _ (List.mem_of_getElem? (i := 1158) rfl), List.mem_append_right _ (List.mem_of_getElem? (i := 9) (by decide +kernel)), ⟨by decide, by decide⟩, by decide +kernel, by decide⟩
set_option maxRecDepth 100000 in
theorem kX10_markOf : a_Ok mX10_markOf 3 := ⟨List.mem_append_right _ (List.mem_of_getElem? (i := 1170) rfl), List.mem_append_right _ (List.mem_of_getElem? (i := 9) (by decide +kernel)), ⟨by decide, by decide⟩, by decide +kernel, by decide⟩
set_option maxRecDepth 100000 in
theorem kX10_hasMark : a_Ok mX10_hasMark 3 := ⟨List.mem_append_right _ (List.mem_of_getElem? (i := 1174) rfl), List.mem_append_right _ (List.mem_of_getElem? (i := 9) (by decide +kernel)), ⟨by decide, by decide⟩, by decide +kernel, by decide⟩
set_option maxRecDepth 100000 in
theorem kX10_fitsAs : a_Ok mX10_fitsAs 2 := ⟨List.mem_append_right _ (List.mem_of_getElem? (i := 1166) rfl), List.mem_append_right _ (List.mem_of_getElem? (i := 9) (by decide +kernel)), ⟨by decide, by decide⟩, by decide +kernel, by decide⟩
set_option maxRecDepth 100000 in
theorem kX10_fits : a_Ok mX10_fits 1 := ⟨List.mem_append_right _ (List.mem_of_getElem? (i := 1162) rfl), List.mem_append_right _ (List.mem_of_getElem? (i := 9) (by decide +kernel)), ⟨by decide, by decide⟩, by decide +kernel, by decide⟩
set_option maxRecDepth 100000 in
theorem kX10_changed : a_Ok mX10_changed 2 := ⟨List.mem_append_right _ (List.mem_of_getElem? (i := 1178) rfl), List.mem_append_right _ (List.mem_of_getElem? (i := 9) (by decide +kernel)), ⟨by decide, by decide⟩, by decide +kernel, by decide⟩
set_option maxRecDepth 100000 in
theorem kX10_isName : a_Ok mX10_isName 1 := ⟨List.mem_append_right _ (List.mem_of_getElem? (i := 1185) rfl), List.mem_append_right _ (List.mem_of_getElem? (i := 9) (by decide +kernel)), ⟨by decide, by decide⟩, by decide +kernel, by decide⟩
set_option maxRecDepth 100000 in
theorem kX10_name : a_Ok mX10_name 2 := ⟨List.mem_append_right _ (List.mem_of_getElem? (i := 1182) rfl), List.mem_append_right _ (List.mem_of_getElem? (i := 9) (by decide +kernel)), ⟨by decide, by decide⟩, by decide +kernel, by decide⟩
set_option maxRecDepth 100000 in
theorem kX10_joinedTo : a_Ok mX10_joinedTo 2 := ⟨List.mem_append_right _ (List.mem_of_getElem? (i := 1197) rfl), List.mem_append_right _ (List.mem_of_getElem? (i := 9) (by decide +kernel)), ⟨by decide, by decide⟩, by decide +kernel, by decide⟩
set_option maxRecDepth 100000 in
theorem kX10_leads : a_Ok mX10_leads 2 := ⟨List.mem_append_right _ (List.mem_of_getElem? (i := 1209) rfl), List.mem_append_right _ (List.mem_of_getElem? (i := 9) (by decide +kernel)), ⟨by decide, by decide⟩, by decide +kernel, by decide⟩
set_option maxRecDepth 100000 in
theorem kX10_leadsBack : a_Ok mX10_leadsBack 2 := ⟨List.mem_append_right _ (List.mem_of_getElem? (i := 1193) rfl), List.mem_append_right _ (List.mem_of_getElem? (i := 9) (by decide +kernel)), ⟨by decide, by decide⟩, by decide +kernel, by decide⟩
set_option maxRecDepth 100000 in
theorem kX10_join : a_Ok mX10_join 2 := ⟨List.mem_append_right _ (List.mem_of_getElem? (i := 1189) rfl), List.mem_append_right _ (List.mem_of_getElem? (i := 9) (by decide +kernel)), ⟨by decide, by decide⟩, by decide +kernel, by decide⟩
set_option maxRecDepth 100000 in
theorem kX10_nameOf : a_Ok mX10_nameOf 3 := ⟨List.mem_append_right _ (List.mem_of_getElem? (i := 1205) rfl), List.mem_append_right _ (List.mem_of_getElem? (i := 9) (by decide +kernel)), ⟨by decide, by decide⟩, by decide +kernel, by decide⟩
set_option maxRecDepth 100000 in
theorem kX10_named : a_Ok mX10_named 3 := ⟨List.mem_append_right _ (List.mem_of_getElem? (i := 1201) rfl), List.mem_append_right _ (List.mem_of_getElem? (i := 9) (by decide +kernel)), ⟨by decide, by decide⟩, by decide +kernel, by decide⟩
set_option maxRecDepth 100000 in
theorem kX10_isDigitNumber : a_Ok mX10_isDigitNumber 1 := ⟨List.mem_append_right _ (List.mem_of_getElem? (i := 1216) rfl), List.mem_append_right _ (List.mem_of_getElem? (i := 9) (by decide +kernel)), ⟨by decide, by decide⟩, by decide +kernel, by decide⟩
set_option maxRecDepth 100000 in
theorem kX10_bed : a_Ok mX10_bed 3 := ⟨List.mem_append_right _ (List.mem_of_getElem? (i := 1213) rfl), List.mem_append_right _ (List.mem_of_getElem? (i := 9) (by decide +kernel)), ⟨by decide, by decide⟩, by decide +kernel, by decide⟩
set_option maxRecDepth 100000 in
theorem kX10_isBed : a_Ok mX10_isBed 1 := ⟨List.mem_append_right _ (List.mem_of_getElem? (i := 1224) rfl), List.mem_append_right _ (List.mem_of_getElem? (i := 9) (by decide +kernel)), ⟨by decide, by decide⟩, by decide +kernel, by decide⟩
set_option maxRecDepth 100000 in
theorem kX10_change : a_Ok mX10_change 3 := ⟨List.mem_append_right _ (List.mem_of_getElem? (i := 1220) rfl), List.mem_append_right _ (List.mem_of_getElem? (i := 9) (by decide +kernel)), ⟨by decide, by decide⟩, by decide +kernel, by decide⟩
set_option maxRecDepth 100000 in
theorem kX10_needs : a_Ok mX10_needs 5 := ⟨List.mem_append_right _ (List.mem_of_getElem? (i := 1228) rfl), List.mem_append_right _ (List.mem_of_getElem? (i := 9) (by decide +kernel)), ⟨by decide, by decide⟩, by decide +kernel, by decide⟩
set_option maxRecDepth 100000 in
theorem kX10_suits : a_Ok mX10_suits 2 := ⟨List.mem_append_right _ (List.mem_of_getElem? (i := 1236) rfl), List.mem_append_right _ (List.mem_of_getElem? (i := 9) (by decide +kernel)), ⟨by decide, by decide⟩, by decide +kernel, by decide⟩
set_option maxRecDepth 100000 in
theorem kX10_lay_ : a_Ok mX10_lay_ 2 := ⟨List.mem_append_right _ (List.mem_of_getElem? (i := 1232) rfl), List.mem_append_right _ (List.mem_of_getElem? (i := 9) (by decide +kernel)), ⟨by decide, by decide⟩, by decide +kernel, by decide⟩
set_option maxRecDepth 100000 in
theorem kX10_costOf : a_Ok mX10_costOf 2 := ⟨List.mem_append_right _ (List.mem_of_getElem? (i := 1252) rfl), List.mem_append_right _ (List.mem_of_getElem? (i := 9) (by decide +kernel)), ⟨by decide, by decide⟩, by decide +kernel, by decide⟩
set_option maxRecDepth 100000 in
theorem kX10_begins : a_Ok mX10_begins 1 := ⟨List.mem_append_right _ (List.mem_of_getElem? (i := 1248) rfl), List.mem_append_right _ (List.mem_of_getElem? (i := 9) (by decide +kernel)), ⟨by decide, by decide⟩, by decide +kernel, by decide⟩
set_option maxRecDepth 100000 in
theorem kX10_comes : a_Ok mX10_comes 1 := ⟨List.mem_append_right _ (List.mem_of_getElem? (i := 1244) rfl), List.mem_append_right _ (List.mem_of_getElem? (i := 9) (by decide +kernel)), ⟨by decide, by decide⟩, by decide +kernel, by decide⟩
set_option maxRecDepth 100000 in
theorem kX10_moves : a_Ok mX10_moves 0 := ⟨List.mem_append_right _ (List.mem_of_getElem? (i := 1240) rfl), List.mem_append_right _ (List.mem_of_getElem? (i := 9) (by decide +kernel)), ⟨by decide, by decide⟩, by decide +kernel, by decide⟩
set_option maxRecDepth 100000 in
theorem kX10_lets : a_Ok mX10_lets 3 := ⟨List.mem_append_right _ (List.mem_of_getElem? (i := 1265) rfl), List.mem_append_right _ (List.mem_of_getElem? (i := 9) (by decide +kernel)), ⟨by decide, by decide⟩, by decide +kernel, by decide⟩
set_option maxRecDepth 100000 in
theorem kX10_isSending : a_Ok mX10_isSending 3 := ⟨List.mem_append_right _ (List.mem_of_getElem? (i := 1261) rfl), List.mem_append_right _ (List.mem_of_getElem? (i := 9) (by decide +kernel)), ⟨by decide, by decide⟩, by decide +kernel, by decide⟩
set_option maxRecDepth 100000 in
theorem kX10_may : a_Ok mX10_may 3 := ⟨List.mem_append_right _ (List.mem_of_getElem? (i := 1257) rfl), List.mem_append_right _ (List.mem_of_getElem? (i := 9) (by decide +kernel)), ⟨by decide, by decide⟩, by decide +kernel, by decide⟩
set_option maxRecDepth 100000 in
theorem kX10_send : a_Ok mX10_send 3 := ⟨List.mem_append_right _ (List.mem_of_getElem? (i := 1281) rfl), List.mem_append_right _ (List.mem_of_getElem? (i := 9) (by decide +kernel)), ⟨by decide, by decide⟩, by decide +kernel, by decide⟩
set_option maxRecDepth 100000 in
theorem kX10_sent : a_Ok mX10_sent 2 := ⟨List.mem_append_right _ (List.mem_of_getElem? (i := 1285) rfl), List.mem_append_right _ (List.mem_of_getElem? (i := 9) (by decide +kernel)), ⟨by decide, by decide⟩, by decide +kernel, by decide⟩
set_option maxRecDepth 100000 in
theorem kX10_seen : a_Ok mX10_seen 2 := ⟨List.mem_append_right _ (List.mem_of_getElem? (i := 1289) rfl), List.mem_append_right _ (List.mem_of_getElem? (i := 9) (by decide +kernel)), ⟨by decide, by decide⟩, by decide +kernel, by decide⟩
set_option maxRecDepth 100000 in
theorem kX10_checks : a_Ok mX10_checks 1 := ⟨List.mem_append_right _ (List.mem_of_getElem? (i := 1297) rfl), List.mem_append_right _ (List.mem_of_getElem? (i := 9) (by decide +kernel)), ⟨by decide, by decide⟩, by decide +kernel, by decide⟩
set_option maxRecDepth 100000 in
theorem kX10_close : a_Ok mX10_close 1 := ⟨List.mem_append_right _ (List.mem_of_getElem? (i := 1293) rfl), List.mem_append_right _ (List.mem_of_getElem? (i := 9) (by decide +kernel)), ⟨by decide, by decide⟩, by decide +kernel, by decide⟩
set_option maxRecDepth 100000 in
theorem kX10_look : a_Ok mX10_look 2 := ⟨List.mem_append_right _ (List.mem_of_getElem? (i := 1301) rfl), List.mem_append_right _ (List.mem_of_getElem? (i := 9) (by decide +kernel)), ⟨by decide, by decide⟩, by decide +kernel, by decide⟩
set_option maxRecDepth 100000 in
theorem kX10_count : a_Ok mX10_count 1 := ⟨List.mem_append_right _ (List.mem_of_getElem? (i := 1305) rfl), List.mem_append_right _ (List.mem_of_getElem? (i := 9) (by decide +kernel)), ⟨by decide, by decide⟩, by decide +kernel, by decide⟩
set_option maxRecDepth 100000 in
theorem nL_8 : Cond.classLink RL 8 (a_Rn 9) ∈ lw_tbl := List.mem_append_right _ (List.mem_of_getElem? (i := 22) (by decide +kernel))
set_option maxRecDepth 100000 in
theorem nX9_9 : Cond.classLink RX9 9 (a_Rn 3) ∈ lw_tbl := List.mem_append_right _ (List.mem_of_getElem? (i := 30) (by decide +kernel))
set_option maxRecDepth 100000 in
theorem nX9_15 : Cond.classLink RX9 15 (a_Rn 0) ∈ lw_tbl := List.mem_append_right _ (List.mem_of_getElem? (i := 32) (by decide +kernel))
set_option maxRecDepth 100000 in
theorem nX9_21 : Cond.classLink RX9 21 (a_Rn 2) ∈ lw_tbl := List.mem_append_right _ (List.mem_of_getElem? (i := 34) (by decide +kernel))
set_option maxRecDepth 100000 in
theorem nX9_28 : Cond.classLink RX9 28 (a_Rn 1) ∈ lw_tbl := List.mem_append_right _ (List.mem_of_getElem? (i := 68) (by decide +kernel))
set_option maxRecDepth 100000 in
theorem nX9_35 : Cond.classLink RX9 35 (a_Rn 7) ∈ lw_tbl := List.mem_append_right _ (List.mem_of_getElem? (i := 96) (by decide +kernel))
set_option maxRecDepth 100000 in
theorem nX9_42 : Cond.classLink RX9 42 (a_Rn 4) ∈ lw_tbl := List.mem_append_right _ (List.mem_of_getElem? (i := 112) (by decide +kernel))
set_option maxRecDepth 100000 in
theorem nX4_9 : Cond.classLink RX4 9 (a_Rn 8) ∈ lw_tbl := List.mem_append_right _ (List.mem_of_getElem? (i := 118) (by decide +kernel))
set_option maxRecDepth 100000 in
theorem nX4_18 : Cond.classLink RX4 18 (a_Rn 5) ∈ lw_tbl := List.mem_append_right _ (List.mem_of_getElem? (i := 140) (by decide +kernel))
set_option maxRecDepth 100000 in
theorem nX9_49 : Cond.classLink RX9 49 (a_Rn 6) ∈ lw_tbl := List.mem_append_right _ (List.mem_of_getElem? (i := 189) (by decide +kernel))
set_option maxRecDepth 100000 in
theorem nX9_60 : Cond.classLink RX9 60 (a_Rn 5) ∈ lw_tbl := List.mem_append_right _ (List.mem_of_getElem? (i := 203) (by decide +kernel))
set_option maxRecDepth 100000 in
theorem nL_20 : Cond.classLink RL 20 (a_Rn 10) ∈ lw_tbl := List.mem_append_right _ (List.mem_of_getElem? (i := 863) (by decide +kernel))
set_option maxRecDepth 100000 in
theorem q0 : Cond.instantiable (a_Rn 0) (a_nf 0) ∈ lw_tbl := List.mem_append_right _ (List.mem_of_getElem? (i := 403) (by decide +kernel))
set_option maxRecDepth 100000 in
theorem qi0 : Cond.initialized (a_Rn 0) ∈ lw_tbl := List.mem_append_right _ (List.mem_of_getElem? (i := 17) (by decide +kernel))
set_option maxRecDepth 100000 in
theorem q1 : Cond.instantiable (a_Rn 1) (a_nf 1) ∈ lw_tbl := List.mem_append_right _ (List.mem_of_getElem? (i := 69) (by decide +kernel))
set_option maxRecDepth 100000 in
theorem qi1 : Cond.initialized (a_Rn 1) ∈ lw_tbl := List.mem_append_right _ (List.mem_of_getElem? (i := 3) (by decide +kernel))
set_option maxRecDepth 100000 in
theorem q2 : Cond.instantiable (a_Rn 2) (a_nf 2) ∈ lw_tbl := List.mem_append_right _ (List.mem_of_getElem? (i := 35) (by decide +kernel))
set_option maxRecDepth 100000 in
theorem qi2 : Cond.initialized (a_Rn 2) ∈ lw_tbl := List.mem_append_right _ (List.mem_of_getElem? (i := 2) (by decide +kernel))
set_option maxRecDepth 100000 in
theorem q3 : Cond.instantiable (a_Rn 3) (a_nf 3) ∈ lw_tbl := List.mem_append_right _ (List.mem_of_getElem? (i := 257) (by decide +kernel))
set_option maxRecDepth 100000 in
theorem qi3 : Cond.initialized (a_Rn 3) ∈ lw_tbl := List.mem_append_right _ (List.mem_of_getElem? (i := 10) (by decide +kernel))
set_option maxRecDepth 100000 in
theorem q4 : Cond.instantiable (a_Rn 4) (a_nf 4) ∈ lw_tbl := List.mem_append_right _ (List.mem_of_getElem? (i := 113) (by decide +kernel))
set_option maxRecDepth 100000 in
theorem qi4 : Cond.initialized (a_Rn 4) ∈ lw_tbl := List.mem_append_right _ (List.mem_of_getElem? (i := 5) (by decide +kernel))
set_option maxRecDepth 100000 in
theorem q5 : Cond.instantiable (a_Rn 5) (a_nf 5) ∈ lw_tbl := List.mem_append_right _ (List.mem_of_getElem? (i := 141) (by decide +kernel))
set_option maxRecDepth 100000 in
theorem qi5 : Cond.initialized (a_Rn 5) ∈ lw_tbl := List.mem_append_right _ (List.mem_of_getElem? (i := 7) (by decide +kernel))
set_option maxRecDepth 100000 in
theorem q6 : Cond.instantiable (a_Rn 6) (a_nf 6) ∈ lw_tbl := List.mem_append_right _ (List.mem_of_getElem? (i := 190) (by decide +kernel))
set_option maxRecDepth 100000 in
theorem qi6 : Cond.initialized (a_Rn 6) ∈ lw_tbl := List.mem_append_right _ (List.mem_of_getElem? (i := 8) (by decide +kernel))
set_option maxRecDepth 100000 in
theorem q7 : Cond.instantiable (a_Rn 7) (a_nf 7) ∈ lw_tbl := List.mem_append_right _ (List.mem_of_getElem? (i := 97) (by decide +kernel))
set_option maxRecDepth 100000 in
theorem qi7 : Cond.initialized (a_Rn 7) ∈ lw_tbl := List.mem_append_right _ (List.mem_of_getElem? (i := 4) (by decide +kernel))
set_option maxRecDepth 100000 in
theorem q8 : Cond.instantiable (a_Rn 8) (a_nf 8) ∈ lw_tbl := List.mem_append_right _ (List.mem_of_getElem? (i := 119) (by decide +kernel))
set_option maxRecDepth 100000 in
theorem qi8 : Cond.initialized (a_Rn 8) ∈ lw_tbl := List.mem_append_right _ (List.mem_of_getElem? (i := 6) (by decide +kernel))
set_option maxRecDepth 100000 in
theorem q9 : Cond.instantiable (a_Rn 9) (a_nf 9) ∈ lw_tbl := List.mem_append_right _ (List.mem_of_getElem? (i := 23) (by decide +kernel))
set_option maxRecDepth 100000 in
theorem qi9 : Cond.initialized (a_Rn 9) ∈ lw_tbl := List.mem_append_right _ (List.mem_of_getElem? (i := 1) (by decide +kernel))
set_option maxRecDepth 100000 in
theorem q10 : Cond.instantiable (a_Rn 10) (a_nf 10) ∈ lw_tbl := List.mem_append_right _ (List.mem_of_getElem? (i := 861) (by decide +kernel))
set_option maxRecDepth 100000 in
theorem qi10 : Cond.initialized (a_Rn 10) ∈ lw_tbl := List.mem_append_right _ (List.mem_of_getElem? (i := 9) (by decide +kernel))
