set_option maxRecDepth 100000 in
theorem fl_X9_10 : zfl RX9 10 9 0 3 := ⟨by decide, by decide +kernel, by decide +kernel, Or.inl ⟨List.mem_of_getElem? (i := 282) (by decide +kernel), by decide +kernel⟩⟩
set_option maxRecDepth 100000 in
theorem fl_X9_19 : zfl RX9 19 9 1 6 := ⟨by decide, by decide +kernel, by decide +kernel, Or.inl ⟨List.mem_of_getElem? (i := 283) (by decide +kernel), by decide +kernel⟩⟩
set_option maxRecDepth 100000 in
theorem fl_X9_26 : zfl RX9 26 9 2 15 := ⟨by decide, by decide +kernel, by decide +kernel, Or.inl ⟨List.mem_of_getElem? (i := 284) (by decide +kernel), by decide +kernel⟩⟩
set_option maxRecDepth 100000 in
theorem fl_X9_30 : zfl RX9 30 9 3 22 := ⟨by decide, by decide +kernel, by decide +kernel, Or.inl ⟨List.mem_of_getElem? (i := 285) (by decide +kernel), by decide +kernel⟩⟩
set_option maxRecDepth 100000 in
theorem fl_X9_33 : zfl RX9 33 9 4 31 := ⟨by decide, by decide +kernel, by decide +kernel, Or.inl ⟨List.mem_of_getElem? (i := 286) (by decide +kernel), by decide +kernel⟩⟩
set_option maxRecDepth 100000 in
theorem fl_X9_36 : zfl RX9 36 9 5 38 := ⟨by decide, by decide +kernel, by decide +kernel, Or.inl ⟨List.mem_of_getElem? (i := 287) (by decide +kernel), by decide +kernel⟩⟩
set_option maxRecDepth 100000 in
theorem fl_X9_42 : zfl RX9 42 9 6 47 := ⟨by decide, by decide +kernel, by decide +kernel, Or.inl ⟨List.mem_of_getElem? (i := 288) (by decide +kernel), by decide +kernel⟩⟩
set_option maxRecDepth 100000 in
theorem fl_X9_49 : zfl RX9 49 9 7 52 := ⟨by decide, by decide +kernel, by decide +kernel, Or.inl ⟨List.mem_of_getElem? (i := 289) (by decide +kernel), by decide +kernel⟩⟩
set_option maxRecDepth 100000 in
theorem fl_X9_56 : zfl RX9 56 9 8 103 := ⟨by decide, by decide +kernel, by decide +kernel, Or.inl ⟨List.mem_of_getElem? (i := 290) (by decide +kernel), by decide +kernel⟩⟩
set_option maxRecDepth 100000 in
theorem fl_X9_63 : zfl RX9 63 9 9 108 := ⟨by decide, by decide +kernel, by decide +kernel, Or.inl ⟨List.mem_of_getElem? (i := 291) (by decide +kernel), by decide +kernel⟩⟩
set_option maxRecDepth 100000 in
theorem fl_X9_70 : zfl RX9 70 9 10 109 := ⟨by decide, by decide +kernel, by decide +kernel, Or.inl ⟨List.mem_of_getElem? (i := 292) (by decide +kernel), by decide +kernel⟩⟩
set_option maxRecDepth 100000 in
theorem fl_X9_74 : zfl RX9 74 9 11 2 := ⟨by decide, by decide +kernel, by decide +kernel, Or.inl ⟨List.mem_of_getElem? (i := 293) (by decide +kernel), by decide +kernel⟩⟩
set_option maxRecDepth 100000 in
theorem fl_X9_78 : zfl RX9 78 9 12 0 := ⟨by decide, by decide +kernel, by decide +kernel, Or.inl ⟨List.mem_of_getElem? (i := 294) (by decide +kernel), by decide +kernel⟩⟩
set_option maxRecDepth 100000 in
theorem fl_X9_86 : zfl RX9 86 2 1 0 := ⟨by decide, by decide +kernel, by decide +kernel, Or.inr (List.mem_of_getElem? (i := 101) (by decide +kernel))⟩
set_option maxRecDepth 100000 in
theorem fl_X9_107 : zfl RX9 107 1 4 0 := ⟨by decide, by decide +kernel, by decide +kernel, Or.inr (List.mem_of_getElem? (i := 132) (by decide +kernel))⟩
set_option maxRecDepth 100000 in
theorem fl_X9_122 : zfl RX9 122 8 3 0 := ⟨by decide, by decide +kernel, by decide +kernel, Or.inr (List.mem_of_getElem? (i := 169) (by decide +kernel))⟩
set_option maxRecDepth 100000 in
theorem fl_X9_127 : zfl RX9 127 1 0 3 := ⟨by decide, by decide +kernel, by decide +kernel, Or.inr (List.mem_of_getElem? (i := 117) (by decide +kernel))⟩
set_option maxRecDepth 100000 in
theorem fl_X9_136 : zfl RX9 136 1 1 5 := ⟨by decide, by decide +kernel, by decide +kernel, Or.inr (List.mem_of_getElem? (i := 122) (by decide +kernel))⟩
set_option maxRecDepth 100000 in
theorem fl_X9_139 : zfl RX9 139 1 2 7 := ⟨by decide, by decide +kernel, by decide +kernel, Or.inr (List.mem_of_getElem? (i := 124) (by decide +kernel))⟩
set_option maxRecDepth 100000 in
theorem fl_X9_142 : zfl RX9 142 1 3 9 := ⟨by decide, by decide +kernel, by decide +kernel, Or.inr (List.mem_of_getElem? (i := 127) (by decide +kernel))⟩
set_option maxRecDepth 100000 in
theorem fl_X9_166 : zfl RX9 166 1 5 0 := ⟨by decide, by decide +kernel, by decide +kernel, Or.inr (List.mem_of_getElem? (i := 135) (by decide +kernel))⟩
set_option maxRecDepth 100000 in
theorem fl_X9_172 : zfl RX9 172 1 6 0 := ⟨by decide, by decide +kernel, by decide +kernel, Or.inr (List.mem_of_getElem? (i := 137) (by decide +kernel))⟩
set_option maxRecDepth 100000 in
theorem fl_X9_202 : zfl RX9 202 5 5 0 := ⟨by decide, by decide +kernel, by decide +kernel, Or.inr (List.mem_of_getElem? (i := 212) (by decide +kernel))⟩
set_option maxRecDepth 100000 in
theorem fl_X9_205 : zfl RX9 205 5 6 0 := ⟨by decide, by decide +kernel, by decide +kernel, Or.inr (List.mem_of_getElem? (i := 214) (by decide +kernel))⟩
set_option maxRecDepth 100000 in
theorem fl_X9_208 : zfl RX9 208 5 2 51 := ⟨by decide, by decide +kernel, by decide +kernel, Or.inr (List.mem_of_getElem? (i := 208) (by decide +kernel))⟩
set_option maxRecDepth 100000 in
theorem fl_X9_213 : zfl RX9 213 3 2 0 := ⟨by decide, by decide +kernel, by decide +kernel, Or.inr (List.mem_of_getElem? (i := 242) (by decide +kernel))⟩
set_option maxRecDepth 100000 in
theorem fl_X9_216 : zfl RX9 216 3 1 5 := ⟨by decide, by decide +kernel, by decide +kernel, Or.inr (List.mem_of_getElem? (i := 240) (by decide +kernel))⟩
set_option maxRecDepth 100000 in
theorem fl_X9_218 : zfl RX9 218 4 2 0 := ⟨by decide, by decide +kernel, by decide +kernel, Or.inr (List.mem_of_getElem? (i := 259) (by decide +kernel))⟩
set_option maxRecDepth 100000 in
theorem fl_X9_219 : zfl RX9 219 4 3 0 := ⟨by decide, by decide +kernel, by decide +kernel, Or.inr (List.mem_of_getElem? (i := 261) (by decide +kernel))⟩
set_option maxRecDepth 100000 in
theorem fl_X9_232 : zfl RX9 232 0 0 1 := ⟨by decide, by decide +kernel, by decide +kernel, Or.inr (List.mem_of_getElem? (i := 278) (by decide +kernel))⟩
set_option maxRecDepth 100000 in
theorem fl_X9_276 : zfl RX9 276 2 0 3 := ⟨by decide, by decide +kernel, by decide +kernel, Or.inr (List.mem_of_getElem? (i := 99) (by decide +kernel))⟩
set_option maxRecDepth 100000 in
theorem fl_X0_7 : zfl RX0 7 0 0 1 := ⟨by decide, by decide +kernel, by decide +kernel, Or.inl ⟨List.mem_of_getElem? (i := 277) (by decide +kernel), by decide +kernel⟩⟩
set_option maxRecDepth 100000 in
theorem fl_X1_14 : zfl RX1 14 1 0 3 := ⟨by decide, by decide +kernel, by decide +kernel, Or.inl ⟨List.mem_of_getElem? (i := 115) (by decide +kernel), by decide +kernel⟩⟩
set_option maxRecDepth 100000 in
theorem fl_X1_20 : zfl RX1 20 1 1 5 := ⟨by decide, by decide +kernel, by decide +kernel, Or.inl ⟨List.mem_of_getElem? (i := 118) (by decide +kernel), by decide +kernel⟩⟩
set_option maxRecDepth 100000 in
theorem fl_X1_23 : zfl RX1 23 1 2 7 := ⟨by decide, by decide +kernel, by decide +kernel, Or.inl ⟨List.mem_of_getElem? (i := 123) (by decide +kernel), by decide +kernel⟩⟩
set_option maxRecDepth 100000 in
theorem fl_X1_26 : zfl RX1 26 1 3 9 := ⟨by decide, by decide +kernel, by decide +kernel, Or.inl ⟨List.mem_of_getElem? (i := 125) (by decide +kernel), by decide +kernel⟩⟩
set_option maxRecDepth 100000 in
theorem fl_X1_29 : zfl RX1 29 1 4 0 := ⟨by decide, by decide +kernel, by decide +kernel, Or.inl ⟨List.mem_of_getElem? (i := 128) (by decide +kernel), by decide +kernel⟩⟩
set_option maxRecDepth 100000 in
theorem fl_X1_33 : zfl RX1 33 1 5 0 := ⟨by decide, by decide +kernel, by decide +kernel, Or.inl ⟨List.mem_of_getElem? (i := 133) (by decide +kernel), by decide +kernel⟩⟩
set_option maxRecDepth 100000 in
theorem fl_X1_36 : zfl RX1 36 1 6 0 := ⟨by decide, by decide +kernel, by decide +kernel, Or.inl ⟨List.mem_of_getElem? (i := 136) (by decide +kernel), by decide +kernel⟩⟩
set_option maxRecDepth 100000 in
theorem fl_X2_16 : zfl RX2 16 2 0 3 := ⟨by decide, by decide +kernel, by decide +kernel, Or.inl ⟨List.mem_of_getElem? (i := 98) (by decide +kernel), by decide +kernel⟩⟩
set_option maxRecDepth 100000 in
theorem fl_X2_20 : zfl RX2 20 2 1 0 := ⟨by decide, by decide +kernel, by decide +kernel, Or.inl ⟨List.mem_of_getElem? (i := 100) (by decide +kernel), by decide +kernel⟩⟩
set_option maxRecDepth 100000 in
theorem fl_X3_14 : zfl RX3 14 3 0 3 := ⟨by decide, by decide +kernel, by decide +kernel, Or.inl ⟨List.mem_of_getElem? (i := 238) (by decide +kernel), by decide +kernel⟩⟩
set_option maxRecDepth 100000 in
theorem fl_X3_20 : zfl RX3 20 3 1 5 := ⟨by decide, by decide +kernel, by decide +kernel, Or.inl ⟨List.mem_of_getElem? (i := 239) (by decide +kernel), by decide +kernel⟩⟩
set_option maxRecDepth 100000 in
theorem fl_X3_23 : zfl RX3 23 3 2 0 := ⟨by decide, by decide +kernel, by decide +kernel, Or.inl ⟨List.mem_of_getElem? (i := 241) (by decide +kernel), by decide +kernel⟩⟩
set_option maxRecDepth 100000 in
theorem fl_X3_30 : zfl RX3 30 1 4 0 := ⟨by decide, by decide +kernel, by decide +kernel, Or.inr (List.mem_of_getElem? (i := 129) (by decide +kernel))⟩
set_option maxRecDepth 100000 in
theorem fl_X3_62 : zfl RX3 62 1 1 5 := ⟨by decide, by decide +kernel, by decide +kernel, Or.inr (List.mem_of_getElem? (i := 121) (by decide +kernel))⟩
set_option maxRecDepth 100000 in
theorem fl_X4_9 : zfl RX4 9 4 2 0 := ⟨by decide, by decide +kernel, by decide +kernel, Or.inl ⟨List.mem_of_getElem? (i := 258) (by decide +kernel), by decide +kernel⟩⟩
set_option maxRecDepth 100000 in
theorem fl_X4_15 : zfl RX4 15 4 3 0 := ⟨by decide, by decide +kernel, by decide +kernel, Or.inl ⟨List.mem_of_getElem? (i := 260) (by decide +kernel), by decide +kernel⟩⟩
set_option maxRecDepth 100000 in
theorem fl_X4_18 : zfl RX4 18 4 0 0 := ⟨by decide, by decide +kernel, by decide +kernel, Or.inl ⟨List.mem_of_getElem? (i := 256) (by decide +kernel), by decide +kernel⟩⟩
set_option maxRecDepth 100000 in
theorem fl_X4_21 : zfl RX4 21 4 1 0 := ⟨by decide, by decide +kernel, by decide +kernel, Or.inl ⟨List.mem_of_getElem? (i := 257) (by decide +kernel), by decide +kernel⟩⟩
set_option maxRecDepth 100000 in
theorem fl_X4_28 : zfl RX4 28 1 4 0 := ⟨by decide, by decide +kernel, by decide +kernel, Or.inr (List.mem_of_getElem? (i := 130) (by decide +kernel))⟩
set_option maxRecDepth 100000 in
theorem fl_X4_37 : zfl RX4 37 1 1 5 := ⟨by decide, by decide +kernel, by decide +kernel, Or.inr (List.mem_of_getElem? (i := 119) (by decide +kernel))⟩
set_option maxRecDepth 100000 in
theorem fl_X5_11 : zfl RX5 11 5 0 3 := ⟨by decide, by decide +kernel, by decide +kernel, Or.inl ⟨List.mem_of_getElem? (i := 205) (by decide +kernel), by decide +kernel⟩⟩
set_option maxRecDepth 100000 in
theorem fl_X5_23 : zfl RX5 23 5 1 49 := ⟨by decide, by decide +kernel, by decide +kernel, Or.inl ⟨List.mem_of_getElem? (i := 206) (by decide +kernel), by decide +kernel⟩⟩
set_option maxRecDepth 100000 in
theorem fl_X5_27 : zfl RX5 27 5 2 51 := ⟨by decide, by decide +kernel, by decide +kernel, Or.inl ⟨List.mem_of_getElem? (i := 207) (by decide +kernel), by decide +kernel⟩⟩
set_option maxRecDepth 100000 in
theorem fl_X5_30 : zfl RX5 30 5 3 0 := ⟨by decide, by decide +kernel, by decide +kernel, Or.inl ⟨List.mem_of_getElem? (i := 209) (by decide +kernel), by decide +kernel⟩⟩
set_option maxRecDepth 100000 in
theorem fl_X5_34 : zfl RX5 34 5 4 0 := ⟨by decide, by decide +kernel, by decide +kernel, Or.inl ⟨List.mem_of_getElem? (i := 210) (by decide +kernel), by decide +kernel⟩⟩
set_option maxRecDepth 100000 in
theorem fl_X5_37 : zfl RX5 37 5 5 0 := ⟨by decide, by decide +kernel, by decide +kernel, Or.inl ⟨List.mem_of_getElem? (i := 211) (by decide +kernel), by decide +kernel⟩⟩
set_option maxRecDepth 100000 in
theorem fl_X5_40 : zfl RX5 40 5 6 0 := ⟨by decide, by decide +kernel, by decide +kernel, Or.inl ⟨List.mem_of_getElem? (i := 213) (by decide +kernel), by decide +kernel⟩⟩
set_option maxRecDepth 100000 in
theorem fl_X5_58 : zfl RX5 58 1 4 0 := ⟨by decide, by decide +kernel, by decide +kernel, Or.inr (List.mem_of_getElem? (i := 131) (by decide +kernel))⟩
set_option maxRecDepth 100000 in
theorem fl_X6_7 : zfl RX6 7 6 0 3 := ⟨by decide, by decide +kernel, by decide +kernel, Or.inl ⟨List.mem_of_getElem? (i := 93) (by decide +kernel), by decide +kernel⟩⟩
set_option maxRecDepth 100000 in
theorem fl_X7_16 : zfl RX7 16 7 0 3 := ⟨by decide, by decide +kernel, by decide +kernel, Or.inl ⟨List.mem_of_getElem? (i := 187) (by decide +kernel), by decide +kernel⟩⟩
set_option maxRecDepth 100000 in
theorem fl_X7_20 : zfl RX7 20 7 1 5 := ⟨by decide, by decide +kernel, by decide +kernel, Or.inl ⟨List.mem_of_getElem? (i := 188) (by decide +kernel), by decide +kernel⟩⟩
set_option maxRecDepth 100000 in
theorem fl_X7_39 : zfl RX7 39 1 0 3 := ⟨by decide, by decide +kernel, by decide +kernel, Or.inr (List.mem_of_getElem? (i := 116) (by decide +kernel))⟩
set_option maxRecDepth 100000 in
theorem fl_X7_48 : zfl RX7 48 1 1 5 := ⟨by decide, by decide +kernel, by decide +kernel, Or.inr (List.mem_of_getElem? (i := 120) (by decide +kernel))⟩
set_option maxRecDepth 100000 in
theorem fl_X7_51 : zfl RX7 51 1 3 9 := ⟨by decide, by decide +kernel, by decide +kernel, Or.inr (List.mem_of_getElem? (i := 126) (by decide +kernel))⟩
set_option maxRecDepth 100000 in
theorem fl_X7_54 : zfl RX7 54 1 5 0 := ⟨by decide, by decide +kernel, by decide +kernel, Or.inr (List.mem_of_getElem? (i := 134) (by decide +kernel))⟩
set_option maxRecDepth 100000 in
theorem fl_X7_66 : zfl RX7 66 8 3 0 := ⟨by decide, by decide +kernel, by decide +kernel, Or.inr (List.mem_of_getElem? (i := 168) (by decide +kernel))⟩
set_option maxRecDepth 100000 in
theorem fl_X7_71 : zfl RX7 71 8 1 5 := ⟨by decide, by decide +kernel, by decide +kernel, Or.inr (List.mem_of_getElem? (i := 164) (by decide +kernel))⟩
set_option maxRecDepth 100000 in
theorem fl_X7_74 : zfl RX7 74 8 0 3 := ⟨by decide, by decide +kernel, by decide +kernel, Or.inr (List.mem_of_getElem? (i := 162) (by decide +kernel))⟩
set_option maxRecDepth 100000 in
theorem fl_X7_77 : zfl RX7 77 8 2 7 := ⟨by decide, by decide +kernel, by decide +kernel, Or.inr (List.mem_of_getElem? (i := 166) (by decide +kernel))⟩
set_option maxRecDepth 100000 in
theorem fl_X8_14 : zfl RX8 14 8 0 3 := ⟨by decide, by decide +kernel, by decide +kernel, Or.inl ⟨List.mem_of_getElem? (i := 161) (by decide +kernel), by decide +kernel⟩⟩
set_option maxRecDepth 100000 in
theorem fl_X8_20 : zfl RX8 20 8 1 5 := ⟨by decide, by decide +kernel, by decide +kernel, Or.inl ⟨List.mem_of_getElem? (i := 163) (by decide +kernel), by decide +kernel⟩⟩
set_option maxRecDepth 100000 in
theorem fl_X8_23 : zfl RX8 23 8 2 7 := ⟨by decide, by decide +kernel, by decide +kernel, Or.inl ⟨List.mem_of_getElem? (i := 165) (by decide +kernel), by decide +kernel⟩⟩
set_option maxRecDepth 100000 in
theorem fl_X8_26 : zfl RX8 26 8 3 0 := ⟨by decide, by decide +kernel, by decide +kernel, Or.inl ⟨List.mem_of_getElem? (i := 167) (by decide +kernel), by decide +kernel⟩⟩
set_option maxRecDepth 100000 in
theorem fl_X10_7 : zfl RX10 7 10 2 3 := ⟨by decide, by decide +kernel, by decide +kernel, Or.inl ⟨List.mem_of_getElem? (i := 782) (by decide +kernel), by decide +kernel⟩⟩
set_option maxRecDepth 100000 in
theorem fl_X10_13 : zfl RX10 13 10 3 4 := ⟨by decide, by decide +kernel, by decide +kernel, Or.inl ⟨List.mem_of_getElem? (i := 783) (by decide +kernel), by decide +kernel⟩⟩
set_option maxRecDepth 100000 in
theorem fl_X10_16 : zfl RX10 16 10 4 5 := ⟨by decide, by decide +kernel, by decide +kernel, Or.inl ⟨List.mem_of_getElem? (i := 784) (by decide +kernel), by decide +kernel⟩⟩
set_option maxRecDepth 100000 in
theorem fl_X10_19 : zfl RX10 19 10 9 6 := ⟨by decide, by decide +kernel, by decide +kernel, Or.inl ⟨List.mem_of_getElem? (i := 789) (by decide +kernel), by decide +kernel⟩⟩
set_option maxRecDepth 100000 in
theorem fl_X10_22 : zfl RX10 22 10 10 7 := ⟨by decide, by decide +kernel, by decide +kernel, Or.inl ⟨List.mem_of_getElem? (i := 790) (by decide +kernel), by decide +kernel⟩⟩
set_option maxRecDepth 100000 in
theorem fl_X10_25 : zfl RX10 25 10 11 8 := ⟨by decide, by decide +kernel, by decide +kernel, Or.inl ⟨List.mem_of_getElem? (i := 791) (by decide +kernel), by decide +kernel⟩⟩
set_option maxRecDepth 100000 in
theorem fl_X10_28 : zfl RX10 28 10 13 9 := ⟨by decide, by decide +kernel, by decide +kernel, Or.inl ⟨List.mem_of_getElem? (i := 793) (by decide +kernel), by decide +kernel⟩⟩
set_option maxRecDepth 100000 in
theorem fl_X10_32 : zfl RX10 32 10 16 10 := ⟨by decide, by decide +kernel, by decide +kernel, Or.inl ⟨List.mem_of_getElem? (i := 796) (by decide +kernel), by decide +kernel⟩⟩
set_option maxRecDepth 100000 in
theorem fl_X10_35 : zfl RX10 35 10 17 11 := ⟨by decide, by decide +kernel, by decide +kernel, Or.inl ⟨List.mem_of_getElem? (i := 797) (by decide +kernel), by decide +kernel⟩⟩
set_option maxRecDepth 100000 in
theorem fl_X10_38 : zfl RX10 38 10 23 12 := ⟨by decide, by decide +kernel, by decide +kernel, Or.inl ⟨List.mem_of_getElem? (i := 803) (by decide +kernel), by decide +kernel⟩⟩
set_option maxRecDepth 100000 in
theorem fl_X10_41 : zfl RX10 41 10 24 13 := ⟨by decide, by decide +kernel, by decide +kernel, Or.inl ⟨List.mem_of_getElem? (i := 804) (by decide +kernel), by decide +kernel⟩⟩
set_option maxRecDepth 100000 in
theorem fl_X10_44 : zfl RX10 44 10 25 14 := ⟨by decide, by decide +kernel, by decide +kernel, Or.inl ⟨List.mem_of_getElem? (i := 805) (by decide +kernel), by decide +kernel⟩⟩
set_option maxRecDepth 100000 in
theorem fl_X10_47 : zfl RX10 47 10 26 15 := ⟨by decide, by decide +kernel, by decide +kernel, Or.inl ⟨List.mem_of_getElem? (i := 806) (by decide +kernel), by decide +kernel⟩⟩
set_option maxRecDepth 100000 in
theorem fl_X10_50 : zfl RX10 50 10 27 16 := ⟨by decide, by decide +kernel, by decide +kernel, Or.inl ⟨List.mem_of_getElem? (i := 807) (by decide +kernel), by decide +kernel⟩⟩
set_option maxRecDepth 100000 in
theorem fl_X10_53 : zfl RX10 53 10 35 17 := ⟨by decide, by decide +kernel, by decide +kernel, Or.inl ⟨List.mem_of_getElem? (i := 815) (by decide +kernel), by decide +kernel⟩⟩
set_option maxRecDepth 100000 in
theorem fl_X10_56 : zfl RX10 56 10 36 18 := ⟨by decide, by decide +kernel, by decide +kernel, Or.inl ⟨List.mem_of_getElem? (i := 816) (by decide +kernel), by decide +kernel⟩⟩
set_option maxRecDepth 100000 in
theorem fl_X10_59 : zfl RX10 59 10 37 19 := ⟨by decide, by decide +kernel, by decide +kernel, Or.inl ⟨List.mem_of_getElem? (i := 817) (by decide +kernel), by decide +kernel⟩⟩
set_option maxRecDepth 100000 in
theorem fl_X10_62 : zfl RX10 62 10 38 20 := ⟨by decide, by decide +kernel, by decide +kernel, Or.inl ⟨List.mem_of_getElem? (i := 818) (by decide +kernel), by decide +kernel⟩⟩
set_option maxRecDepth 100000 in
theorem fl_X10_65 : zfl RX10 65 10 39 21 := ⟨by decide, by decide +kernel, by decide +kernel, Or.inl ⟨List.mem_of_getElem? (i := 819) (by decide +kernel), by decide +kernel⟩⟩
set_option maxRecDepth 100000 in
theorem fl_X10_68 : zfl RX10 68 10 40 22 := ⟨by decide, by decide +kernel, by decide +kernel, Or.inl ⟨List.mem_of_getElem? (i := 820) (by decide +kernel), by decide +kernel⟩⟩
set_option maxRecDepth 100000 in
theorem fl_X10_75 : zfl RX10 75 10 12 0 := ⟨by decide, by decide +kernel, by decide +kernel, Or.inl ⟨List.mem_of_getElem? (i := 792) (by decide +kernel), by decide +kernel⟩⟩
set_option maxRecDepth 100000 in
theorem fl_X10_83 : zfl RX10 83 10 14 2 := ⟨by decide, by decide +kernel, by decide +kernel, Or.inl ⟨List.mem_of_getElem? (i := 794) (by decide +kernel), by decide +kernel⟩⟩
set_option maxRecDepth 100000 in
theorem fl_X10_87 : zfl RX10 87 10 15 0 := ⟨by decide, by decide +kernel, by decide +kernel, Or.inl ⟨List.mem_of_getElem? (i := 795) (by decide +kernel), by decide +kernel⟩⟩
set_option maxRecDepth 100000 in
theorem fl_X10_101 : zfl RX10 101 10 1 0 := ⟨by decide, by decide +kernel, by decide +kernel, Or.inl ⟨List.mem_of_getElem? (i := 781) (by decide +kernel), by decide +kernel⟩⟩
set_option maxRecDepth 100000 in
theorem fl_X10_104 : zfl RX10 104 10 5 0 := ⟨by decide, by decide +kernel, by decide +kernel, Or.inl ⟨List.mem_of_getElem? (i := 785) (by decide +kernel), by decide +kernel⟩⟩
set_option maxRecDepth 100000 in
theorem fl_X10_107 : zfl RX10 107 10 6 0 := ⟨by decide, by decide +kernel, by decide +kernel, Or.inl ⟨List.mem_of_getElem? (i := 786) (by decide +kernel), by decide +kernel⟩⟩
set_option maxRecDepth 100000 in
theorem fl_X10_110 : zfl RX10 110 10 7 0 := ⟨by decide, by decide +kernel, by decide +kernel, Or.inl ⟨List.mem_of_getElem? (i := 787) (by decide +kernel), by decide +kernel⟩⟩
set_option maxRecDepth 100000 in
theorem fl_X10_113 : zfl RX10 113 10 0 0 := ⟨by decide, by decide +kernel, by decide +kernel, Or.inl ⟨List.mem_of_getElem? (i := 780) (by decide +kernel), by decide +kernel⟩⟩
set_option maxRecDepth 100000 in
theorem fl_X10_116 : zfl RX10 116 10 8 0 := ⟨by decide, by decide +kernel, by decide +kernel, Or.inl ⟨List.mem_of_getElem? (i := 788) (by decide +kernel), by decide +kernel⟩⟩
set_option maxRecDepth 100000 in
theorem fl_X10_174 : zfl RX10 174 10 18 0 := ⟨by decide, by decide +kernel, by decide +kernel, Or.inl ⟨List.mem_of_getElem? (i := 798) (by decide +kernel), by decide +kernel⟩⟩
set_option maxRecDepth 100000 in
theorem fl_X10_177 : zfl RX10 177 10 19 0 := ⟨by decide, by decide +kernel, by decide +kernel, Or.inl ⟨List.mem_of_getElem? (i := 799) (by decide +kernel), by decide +kernel⟩⟩
set_option maxRecDepth 100000 in
theorem fl_X10_190 : zfl RX10 190 10 20 0 := ⟨by decide, by decide +kernel, by decide +kernel, Or.inl ⟨List.mem_of_getElem? (i := 800) (by decide +kernel), by decide +kernel⟩⟩
set_option maxRecDepth 100000 in
theorem fl_X10_193 : zfl RX10 193 10 21 0 := ⟨by decide, by decide +kernel, by decide +kernel, Or.inl ⟨List.mem_of_getElem? (i := 801) (by decide +kernel), by decide +kernel⟩⟩
set_option maxRecDepth 100000 in
theorem fl_X10_199 : zfl RX10 199 10 22 0 := ⟨by decide, by decide +kernel, by decide +kernel, Or.inl ⟨List.mem_of_getElem? (i := 802) (by decide +kernel), by decide +kernel⟩⟩
set_option maxRecDepth 100000 in
theorem fl_X10_245 : zfl RX10 245 10 28 1 := ⟨by decide, by decide +kernel, by decide +kernel, Or.inl ⟨List.mem_of_getElem? (i := 808) (by decide +kernel), by decide +kernel⟩⟩
set_option maxRecDepth 100000 in
theorem fl_X10_261 : zfl RX10 261 10 29 2 := ⟨by decide, by decide +kernel, by decide +kernel, Or.inl ⟨List.mem_of_getElem? (i := 809) (by decide +kernel), by decide +kernel⟩⟩
set_option maxRecDepth 100000 in
theorem fl_X10_264 : zfl RX10 264 10 30 0 := ⟨by decide, by decide +kernel, by decide +kernel, Or.inl ⟨List.mem_of_getElem? (i := 810) (by decide +kernel), by decide +kernel⟩⟩
set_option maxRecDepth 100000 in
theorem fl_X10_267 : zfl RX10 267 10 31 0 := ⟨by decide, by decide +kernel, by decide +kernel, Or.inl ⟨List.mem_of_getElem? (i := 811) (by decide +kernel), by decide +kernel⟩⟩
set_option maxRecDepth 100000 in
theorem fl_X10_270 : zfl RX10 270 10 32 0 := ⟨by decide, by decide +kernel, by decide +kernel, Or.inl ⟨List.mem_of_getElem? (i := 812) (by decide +kernel), by decide +kernel⟩⟩
set_option maxRecDepth 100000 in
theorem fl_X10_273 : zfl RX10 273 10 33 0 := ⟨by decide, by decide +kernel, by decide +kernel, Or.inl ⟨List.mem_of_getElem? (i := 813) (by decide +kernel), by decide +kernel⟩⟩
set_option maxRecDepth 100000 in
theorem fl_X10_276 : zfl RX10 276 10 34 0 := ⟨by decide, by decide +kernel, by decide +kernel, Or.inl ⟨List.mem_of_getElem? (i := 814) (by decide +kernel), by decide +kernel⟩⟩
set_option maxRecDepth 100000 in
theorem fl_X10_290 : zfl RX10 290 10 41 1 := ⟨by decide, by decide +kernel, by decide +kernel, Or.inl ⟨List.mem_of_getElem? (i := 821) (by decide +kernel), by decide +kernel⟩⟩
set_option maxRecDepth 100000 in
theorem ml_X9_9 : zml RX9 9 yX2_init := Or.inl ⟨List.mem_of_getElem? (i := 83) (by decide +kernel), by decide +kernel⟩
set_option maxRecDepth 100000 in
theorem ml_X9_18 : zml RX9 18 yX1_init := Or.inl ⟨List.mem_of_getElem? (i := 109) (by decide +kernel), by decide +kernel⟩
set_option maxRecDepth 100000 in
theorem ml_X9_25 : zml RX9 25 yX8_init := Or.inl ⟨List.mem_of_getElem? (i := 155) (by decide +kernel), by decide +kernel⟩
set_option maxRecDepth 100000 in
theorem ml_X9_41 : zml RX9 41 yX7_init := Or.inl ⟨List.mem_of_getElem? (i := 181) (by decide +kernel), by decide +kernel⟩
set_option maxRecDepth 100000 in
theorem ml_X9_48 : zml RX9 48 yX5_init := Or.inl ⟨List.mem_of_getElem? (i := 196) (by decide +kernel), by decide +kernel⟩
set_option maxRecDepth 100000 in
theorem ml_X9_55 : zml RX9 55 yX3_init := Or.inl ⟨List.mem_of_getElem? (i := 232) (by decide +kernel), by decide +kernel⟩
set_option maxRecDepth 100000 in
theorem ml_X9_62 : zml RX9 62 yX4_init := Or.inl ⟨List.mem_of_getElem? (i := 252) (by decide +kernel), by decide +kernel⟩
set_option maxRecDepth 100000 in
theorem ml_X9_69 : zml RX9 69 yX0_init := Or.inl ⟨List.mem_of_getElem? (i := 273) (by decide +kernel), by decide +kernel⟩
set_option maxRecDepth 100000 in
theorem ml_X9_82 : zml RX9 82 yX9_within := Or.inl ⟨List.mem_of_getElem? (i := 326) (by decide +kernel), by decide +kernel⟩
set_option maxRecDepth 100000 in
theorem ml_X9_89 : zml RX9 89 yX2_add := Or.inl ⟨List.mem_of_getElem? (i := 329) (by decide +kernel), by decide +kernel⟩
set_option maxRecDepth 100000 in
theorem ml_X9_93 : zml RX9 93 yX2_firstFault := Or.inl ⟨List.mem_of_getElem? (i := 345) (by decide +kernel), by decide +kernel⟩
set_option maxRecDepth 100000 in
theorem ml_X9_97 : zml RX9 97 yX2_isLane := Or.inl ⟨List.mem_of_getElem? (i := 413) (by decide +kernel), by decide +kernel⟩
set_option maxRecDepth 100000 in
theorem ml_X9_101 : zml RX9 101 yX2_housesTold := Or.inl ⟨List.mem_of_getElem? (i := 418) (by decide +kernel), by decide +kernel⟩
set_option maxRecDepth 100000 in
theorem ml_X9_104 : zml RX9 104 yX1_begin := Or.inl ⟨List.mem_of_getElem? (i := 422) (by decide +kernel), by decide +kernel⟩
set_option maxRecDepth 100000 in
theorem ml_X9_108 : zml RX9 108 yX2_kindTold := Or.inl ⟨List.mem_of_getElem? (i := 432) (by decide +kernel), by decide +kernel⟩
set_option maxRecDepth 100000 in
theorem ml_X9_112 : zml RX9 112 yX2_reedTold := Or.inl ⟨List.mem_of_getElem? (i := 436) (by decide +kernel), by decide +kernel⟩
set_option maxRecDepth 100000 in
theorem ml_X9_115 : zml RX9 115 yX2_worryTold := Or.inl ⟨List.mem_of_getElem? (i := 440) (by decide +kernel), by decide +kernel⟩
set_option maxRecDepth 100000 in
theorem ml_X9_118 : zml RX9 118 yX1_settle := Or.inl ⟨List.mem_of_getElem? (i := 444) (by decide +kernel), by decide +kernel⟩
set_option maxRecDepth 100000 in
theorem ml_X9_123 : zml RX9 123 yX1_has := Or.inl ⟨List.mem_of_getElem? (i := 453) (by decide +kernel), by decide +kernel⟩
set_option maxRecDepth 100000 in
theorem ml_X9_131 : zml RX9 131 yX6_at := Or.inl ⟨List.mem_of_getElem? (i := 457) (by decide +kernel), by decide +kernel⟩
set_option maxRecDepth 100000 in
theorem ml_X9_145 : zml RX9 145 yX1_reedBehindYear := Or.inl ⟨List.mem_of_getElem? (i := 458) (by decide +kernel), by decide +kernel⟩
set_option maxRecDepth 100000 in
theorem ml_X9_148 : zml RX9 148 yX7_worriesLeft := Or.inl ⟨List.mem_of_getElem? (i := 466) (by decide +kernel), by decide +kernel⟩
set_option maxRecDepth 100000 in
theorem ml_X9_152 : zml RX9 152 yX7_whenToLook := Or.inl ⟨List.mem_of_getElem? (i := 481) (by decide +kernel), by decide +kernel⟩
set_option maxRecDepth 100000 in
theorem ml_X9_155 : zml RX9 155 yX9_isOfKind := Or.inl ⟨List.mem_of_getElem? (i := 499) (by decide +kernel), by decide +kernel⟩
set_option maxRecDepth 100000 in
theorem ml_X9_159 : zml RX9 159 yX1_reachOf := Or.inl ⟨List.mem_of_getElem? (i := 506) (by decide +kernel), by decide +kernel⟩
set_option maxRecDepth 100000 in
theorem ml_X9_163 : zml RX9 163 yX1_wetBits := Or.inl ⟨List.mem_of_getElem? (i := 517) (by decide +kernel), by decide +kernel⟩
set_option maxRecDepth 100000 in
theorem ml_X9_169 : zml RX9 169 yX1_passYear := Or.inl ⟨List.mem_of_getElem? (i := 525) (by decide +kernel), by decide +kernel⟩
set_option maxRecDepth 100000 in
theorem ml_X9_175 : zml RX9 175 yX1_rainOn := Or.inl ⟨List.mem_of_getElem? (i := 533) (by decide +kernel), by decide +kernel⟩
set_option maxRecDepth 100000 in
theorem ml_X9_178 : zml RX9 178 yX1_cheerUp := Or.inl ⟨List.mem_of_getElem? (i := 542) (by decide +kernel), by decide +kernel⟩
set_option maxRecDepth 100000 in
theorem ml_X9_181 : zml RX9 181 yX1_canBeCombed := Or.inl ⟨List.mem_of_getElem? (i := 550) (by decide +kernel), by decide +kernel⟩
set_option maxRecDepth 100000 in
theorem ml_X9_184 : zml RX9 184 yX1_combOut := Or.inl ⟨List.mem_of_getElem? (i := 554) (by decide +kernel), by decide +kernel⟩
set_option maxRecDepth 100000 in
theorem ml_X9_187 : zml RX9 187 yX6_put := Or.inl ⟨List.mem_of_getElem? (i := 562) (by decide +kernel), by decide +kernel⟩
set_option maxRecDepth 100000 in
theorem ml_X9_191 : zml RX9 191 yX1_take := Or.inl ⟨List.mem_of_getElem? (i := 567) (by decide +kernel), by decide +kernel⟩
set_option maxRecDepth 100000 in
theorem ml_X9_195 : zml RX9 195 yX1_isWet := Or.inl ⟨List.mem_of_getElem? (i := 575) (by decide +kernel), by decide +kernel⟩
set_option maxRecDepth 100000 in
theorem ml_X9_198 : zml RX9 198 yX5_search := Or.inl ⟨List.mem_of_getElem? (i := 584) (by decide +kernel), by decide +kernel⟩
set_option maxRecDepth 100000 in
theorem ml_X9_211 : zml RX9 211 yX3_search := Or.inl ⟨List.mem_of_getElem? (i := 628) (by decide +kernel), by decide +kernel⟩
set_option maxRecDepth 100000 in
theorem ml_X9_217 : zml RX9 217 yX4_search := Or.inl ⟨List.mem_of_getElem? (i := 663) (by decide +kernel), by decide +kernel⟩
set_option maxRecDepth 100000 in
theorem ml_X9_222 : zml RX9 222 yX1_rainsBorne := Or.inl ⟨List.mem_of_getElem? (i := 685) (by decide +kernel), by decide +kernel⟩
set_option maxRecDepth 100000 in
theorem ml_X9_225 : zml RX9 225 yX9_inLowestTerms := Or.inl ⟨List.mem_of_getElem? (i := 690) (by decide +kernel), by decide +kernel⟩
set_option maxRecDepth 100000 in
theorem ml_X9_229 : zml RX9 229 yX8_add := Or.inl ⟨List.mem_of_getElem? (i := 697) (by decide +kernel), by decide +kernel⟩
set_option maxRecDepth 100000 in
theorem ml_X9_236 : zml RX9 236 yX9_oneAge := Or.inl ⟨List.mem_of_getElem? (i := 710) (by decide +kernel), by decide +kernel⟩
set_option maxRecDepth 100000 in
theorem ml_X9_239 : zml RX9 239 yX1_reedOfAll := Or.inl ⟨List.mem_of_getElem? (i := 722) (by decide +kernel), by decide +kernel⟩
set_option maxRecDepth 100000 in
theorem ml_X9_242 : zml RX9 242 yX8_take := Or.inl ⟨List.mem_of_getElem? (i := 727) (by decide +kernel), by decide +kernel⟩
set_option maxRecDepth 100000 in
theorem ml_X9_245 : zml RX9 245 yX1_worryOfAll := Or.inl ⟨List.mem_of_getElem? (i := 740) (by decide +kernel), by decide +kernel⟩
set_option maxRecDepth 100000 in
theorem ml_X9_248 : zml RX9 248 yX1_howManyCombed := Or.inl ⟨List.mem_of_getElem? (i := 744) (by decide +kernel), by decide +kernel⟩
set_option maxRecDepth 100000 in
theorem ml_X9_251 : zml RX9 251 yX1_howManyShelter := Or.inl ⟨List.mem_of_getElem? (i := 748) (by decide +kernel), by decide +kernel⟩
set_option maxRecDepth 100000 in
theorem ml_X9_256 : zml RX9 256 yX9_mixHouse := Or.inl ⟨List.mem_of_getElem? (i := 757) (by decide +kernel), by decide +kernel⟩
set_option maxRecDepth 100000 in
theorem ml_X9_260 : zml RX9 260 yX9_wet := Or.inl ⟨List.mem_of_getElem? (i := 769) (by decide +kernel), by decide +kernel⟩
set_option maxRecDepth 100000 in
theorem ml_X9_263 : zml RX9 263 yX9_mix := Or.inl ⟨List.mem_of_getElem? (i := 762) (by decide +kernel), by decide +kernel⟩
set_option maxRecDepth 100000 in
theorem ml_X9_267 : zml RX9 267 yX9_plan := Or.inl ⟨List.mem_of_getElem? (i := 770) (by decide +kernel), by decide +kernel⟩
set_option maxRecDepth 100000 in
theorem ml_X9_270 : zml RX9 270 yX9_twos := Or.inl ⟨List.mem_of_getElem? (i := 771) (by decide +kernel), by decide +kernel⟩
set_option maxRecDepth 100000 in
theorem ml_X9_273 : zml RX9 273 yX9_patch := Or.inl ⟨List.mem_of_getElem? (i := 772) (by decide +kernel), by decide +kernel⟩
set_option maxRecDepth 100000 in
theorem ml_X9_279 : zml RX9 279 yX9_count := Or.inl ⟨List.mem_of_getElem? (i := 773) (by decide +kernel), by decide +kernel⟩
set_option maxRecDepth 100000 in
theorem ml_X9_282 : zml RX9 282 yX9_house := Or.inl ⟨List.mem_of_getElem? (i := 761) (by decide +kernel), by decide +kernel⟩
set_option maxRecDepth 100000 in
theorem ml_X9_285 : zml RX9 285 yX9_reaches := Or.inl ⟨List.mem_of_getElem? (i := 766) (by decide +kernel), by decide +kernel⟩
set_option maxRecDepth 100000 in
theorem ml_X9_288 : zml RX9 288 yX9_dry := Or.inl ⟨List.mem_of_getElem? (i := 767) (by decide +kernel), by decide +kernel⟩
set_option maxRecDepth 100000 in
theorem ml_X9_291 : zml RX9 291 yX9_odds := Or.inl ⟨List.mem_of_getElem? (i := 768) (by decide +kernel), by decide +kernel⟩
set_option maxRecDepth 100000 in
theorem ml_X9_296 : zml RX9 296 yX0_next := Or.inl ⟨List.mem_of_getElem? (i := 714) (by decide +kernel), by decide +kernel⟩
