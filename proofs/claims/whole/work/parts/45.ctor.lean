set_option maxRecDepth 100000 in
theorem oW : zin (.instanceMethod Lib.objectInit) ∧ zin (.code Lib.objectInit ⟨#[0xb1]⟩ 1 none) := ⟨⟨List.mem_of_getElem? (i := 79) (by decide +kernel), by decide +kernel⟩, ⟨List.mem_of_getElem? (i := 80) (by decide +kernel), by decide +kernel⟩⟩
set_option maxRecDepth 100000 in
theorem aI : zin (.arrayClass .int) ∧ zin (.arrayClass .byte) := ⟨by decide +kernel, by decide +kernel⟩
set_option maxRecDepth 100000 in
theorem nW_0 : zin (.instantiable (zq 0).1 (zq 0).2.2) ∧ zin (.initialized (zq 0).1) := ⟨⟨List.mem_of_getElem? (i := 272) (by decide +kernel), by decide +kernel⟩, ⟨List.mem_of_getElem? (i := 65) (by decide +kernel), by decide +kernel⟩⟩
set_option maxRecDepth 100000 in
theorem nW_1 : zin (.instantiable (zq 1).1 (zq 1).2.2) ∧ zin (.initialized (zq 1).1) := ⟨⟨List.mem_of_getElem? (i := 108) (by decide +kernel), by decide +kernel⟩, ⟨List.mem_of_getElem? (i := 59) (by decide +kernel), by decide +kernel⟩⟩
set_option maxRecDepth 100000 in
theorem nW_2 : zin (.instantiable (zq 2).1 (zq 2).2.2) ∧ zin (.initialized (zq 2).1) := ⟨⟨List.mem_of_getElem? (i := 82) (by decide +kernel), by decide +kernel⟩, ⟨List.mem_of_getElem? (i := 57) (by decide +kernel), by decide +kernel⟩⟩
set_option maxRecDepth 100000 in
theorem nW_3 : zin (.instantiable (zq 3).1 (zq 3).2.2) ∧ zin (.initialized (zq 3).1) := ⟨⟨List.mem_of_getElem? (i := 231) (by decide +kernel), by decide +kernel⟩, ⟨List.mem_of_getElem? (i := 63) (by decide +kernel), by decide +kernel⟩⟩
set_option maxRecDepth 100000 in
theorem nW_4 : zin (.instantiable (zq 4).1 (zq 4).2.2) ∧ zin (.initialized (zq 4).1) := ⟨⟨List.mem_of_getElem? (i := 251) (by decide +kernel), by decide +kernel⟩, ⟨List.mem_of_getElem? (i := 64) (by decide +kernel), by decide +kernel⟩⟩
set_option maxRecDepth 100000 in
theorem nW_5 : zin (.instantiable (zq 5).1 (zq 5).2.2) ∧ zin (.initialized (zq 5).1) := ⟨⟨List.mem_of_getElem? (i := 195) (by decide +kernel), by decide +kernel⟩, ⟨List.mem_of_getElem? (i := 62) (by decide +kernel), by decide +kernel⟩⟩
set_option maxRecDepth 100000 in
theorem nW_6 : zin (.instantiable (zq 6).1 (zq 6).2.2) ∧ zin (.initialized (zq 6).1) := ⟨⟨List.mem_of_getElem? (i := 88) (by decide +kernel), by decide +kernel⟩, ⟨List.mem_of_getElem? (i := 58) (by decide +kernel), by decide +kernel⟩⟩
set_option maxRecDepth 100000 in
theorem nW_7 : zin (.instantiable (zq 7).1 (zq 7).2.2) ∧ zin (.initialized (zq 7).1) := ⟨⟨List.mem_of_getElem? (i := 180) (by decide +kernel), by decide +kernel⟩, ⟨List.mem_of_getElem? (i := 61) (by decide +kernel), by decide +kernel⟩⟩
set_option maxRecDepth 100000 in
theorem nW_8 : zin (.instantiable (zq 8).1 (zq 8).2.2) ∧ zin (.initialized (zq 8).1) := ⟨⟨List.mem_of_getElem? (i := 154) (by decide +kernel), by decide +kernel⟩, ⟨List.mem_of_getElem? (i := 60) (by decide +kernel), by decide +kernel⟩⟩
set_option maxRecDepth 100000 in
theorem nW_9 : zin (.instantiable (zq 9).1 (zq 9).2.2) ∧ zin (.initialized (zq 9).1) := ⟨⟨List.mem_of_getElem? (i := 74) (by decide +kernel), by decide +kernel⟩, ⟨List.mem_of_getElem? (i := 56) (by decide +kernel), by decide +kernel⟩⟩
set_option maxRecDepth 100000 in
theorem nW_10 : zin (.instantiable (zq 10).1 (zq 10).2.2) ∧ zin (.initialized (zq 10).1) := ⟨⟨List.mem_of_getElem? (i := 775) (by decide +kernel), by decide +kernel⟩, ⟨List.mem_of_getElem? (i := 66) (by decide +kernel), by decide +kernel⟩⟩
set_option maxRecDepth 100000 in
theorem oI_X1_3 : zin (.methodLink RX1 3 Lib.objectInit) := ⟨List.mem_of_getElem? (i := 112) (by decide +kernel), by decide +kernel⟩
set_option maxRecDepth 100000 in
theorem nC_X1_9 : zin (.classLink RX1 9 (zq 6).1) := ⟨List.mem_of_getElem? (i := 113) (by decide +kernel), by decide +kernel⟩
set_option maxRecDepth 100000 in
theorem fF_X1_14 : zin (.fieldLink RX1 14 ((zq 1).2.1 0).1 ((zq 1).2.1 0).2.1 ((zq 1).2.1 0).2.2.1) := ⟨List.mem_of_getElem? (i := 115) (by decide +kernel), by decide +kernel⟩
set_option maxRecDepth 100000 in
theorem fF_X1_20 : zin (.fieldLink RX1 20 ((zq 1).2.1 1).1 ((zq 1).2.1 1).2.1 ((zq 1).2.1 1).2.2.1) := ⟨List.mem_of_getElem? (i := 118) (by decide +kernel), by decide +kernel⟩
set_option maxRecDepth 100000 in
theorem fF_X1_23 : zin (.fieldLink RX1 23 ((zq 1).2.1 2).1 ((zq 1).2.1 2).2.1 ((zq 1).2.1 2).2.2.1) := ⟨List.mem_of_getElem? (i := 123) (by decide +kernel), by decide +kernel⟩
set_option maxRecDepth 100000 in
theorem fF_X1_26 : zin (.fieldLink RX1 26 ((zq 1).2.1 3).1 ((zq 1).2.1 3).2.1 ((zq 1).2.1 3).2.2.1) := ⟨List.mem_of_getElem? (i := 125) (by decide +kernel), by decide +kernel⟩
set_option maxRecDepth 100000 in
theorem oI_X8_3 : zin (.methodLink RX8 3 Lib.objectInit) := ⟨List.mem_of_getElem? (i := 158) (by decide +kernel), by decide +kernel⟩
set_option maxRecDepth 100000 in
theorem nC_X8_9 : zin (.classLink RX8 9 (zq 6).1) := ⟨List.mem_of_getElem? (i := 159) (by decide +kernel), by decide +kernel⟩
set_option maxRecDepth 100000 in
theorem fF_X8_14 : zin (.fieldLink RX8 14 ((zq 8).2.1 0).1 ((zq 8).2.1 0).2.1 ((zq 8).2.1 0).2.2.1) := ⟨List.mem_of_getElem? (i := 161) (by decide +kernel), by decide +kernel⟩
set_option maxRecDepth 100000 in
theorem fF_X8_20 : zin (.fieldLink RX8 20 ((zq 8).2.1 1).1 ((zq 8).2.1 1).2.1 ((zq 8).2.1 1).2.2.1) := ⟨List.mem_of_getElem? (i := 163) (by decide +kernel), by decide +kernel⟩
set_option maxRecDepth 100000 in
theorem fF_X8_23 : zin (.fieldLink RX8 23 ((zq 8).2.1 2).1 ((zq 8).2.1 2).2.1 ((zq 8).2.1 2).2.2.1) := ⟨List.mem_of_getElem? (i := 165) (by decide +kernel), by decide +kernel⟩
set_option maxRecDepth 100000 in
theorem oI_X2_5 : zin (.methodLink RX2 5 Lib.objectInit) := ⟨List.mem_of_getElem? (i := 86) (by decide +kernel), by decide +kernel⟩
set_option maxRecDepth 100000 in
theorem nC_X2_11 : zin (.classLink RX2 11 (zq 6).1) := ⟨List.mem_of_getElem? (i := 87) (by decide +kernel), by decide +kernel⟩
set_option maxRecDepth 100000 in
theorem fF_X2_16 : zin (.fieldLink RX2 16 ((zq 2).2.1 0).1 ((zq 2).2.1 0).2.1 ((zq 2).2.1 0).2.2.1) := ⟨List.mem_of_getElem? (i := 98) (by decide +kernel), by decide +kernel⟩
set_option maxRecDepth 100000 in
theorem oI_X3_3 : zin (.methodLink RX3 3 Lib.objectInit) := ⟨List.mem_of_getElem? (i := 235) (by decide +kernel), by decide +kernel⟩
set_option maxRecDepth 100000 in
theorem nC_X3_9 : zin (.classLink RX3 9 (zq 6).1) := ⟨List.mem_of_getElem? (i := 236) (by decide +kernel), by decide +kernel⟩
set_option maxRecDepth 100000 in
theorem fF_X3_14 : zin (.fieldLink RX3 14 ((zq 3).2.1 0).1 ((zq 3).2.1 0).2.1 ((zq 3).2.1 0).2.2.1) := ⟨List.mem_of_getElem? (i := 238) (by decide +kernel), by decide +kernel⟩
set_option maxRecDepth 100000 in
theorem fF_X3_20 : zin (.fieldLink RX3 20 ((zq 3).2.1 1).1 ((zq 3).2.1 1).2.1 ((zq 3).2.1 1).2.2.1) := ⟨List.mem_of_getElem? (i := 239) (by decide +kernel), by decide +kernel⟩
set_option maxRecDepth 100000 in
theorem oI_X7_3 : zin (.methodLink RX7 3 Lib.objectInit) := ⟨List.mem_of_getElem? (i := 184) (by decide +kernel), by decide +kernel⟩
set_option maxRecDepth 100000 in
theorem nC_X7_9 : zin (.classLink RX7 9 (zq 6).1) := ⟨List.mem_of_getElem? (i := 185) (by decide +kernel), by decide +kernel⟩
set_option maxRecDepth 100000 in
theorem fF_X7_16 : zin (.fieldLink RX7 16 ((zq 7).2.1 0).1 ((zq 7).2.1 0).2.1 ((zq 7).2.1 0).2.2.1) := ⟨List.mem_of_getElem? (i := 187) (by decide +kernel), by decide +kernel⟩
set_option maxRecDepth 100000 in
theorem fF_X7_20 : zin (.fieldLink RX7 20 ((zq 7).2.1 1).1 ((zq 7).2.1 1).2.1 ((zq 7).2.1 1).2.2.1) := ⟨List.mem_of_getElem? (i := 188) (by decide +kernel), by decide +kernel⟩
set_option maxRecDepth 100000 in
theorem oI_X4_3 : zin (.methodLink RX4 3 Lib.objectInit) := ⟨List.mem_of_getElem? (i := 255) (by decide +kernel), by decide +kernel⟩
set_option maxRecDepth 100000 in
theorem oI_X0_1 : zin (.methodLink RX0 1 Lib.objectInit) := ⟨List.mem_of_getElem? (i := 276) (by decide +kernel), by decide +kernel⟩
set_option maxRecDepth 100000 in
theorem oI_X5_3 : zin (.methodLink RX5 3 Lib.objectInit) := ⟨List.mem_of_getElem? (i := 199) (by decide +kernel), by decide +kernel⟩
set_option maxRecDepth 100000 in
theorem nC_X5_9 : zin (.classLink RX5 9 (zq 1).1) := ⟨List.mem_of_getElem? (i := 200) (by decide +kernel), by decide +kernel⟩
set_option maxRecDepth 100000 in
theorem fF_X5_11 : zin (.fieldLink RX5 11 ((zq 5).2.1 0).1 ((zq 5).2.1 0).2.1 ((zq 5).2.1 0).2.2.1) := ⟨List.mem_of_getElem? (i := 205) (by decide +kernel), by decide +kernel⟩
set_option maxRecDepth 100000 in
theorem nC_X5_18 : zin (.classLink RX5 18 (zq 6).1) := ⟨List.mem_of_getElem? (i := 203) (by decide +kernel), by decide +kernel⟩
set_option maxRecDepth 100000 in
theorem fF_X5_23 : zin (.fieldLink RX5 23 ((zq 5).2.1 1).1 ((zq 5).2.1 1).2.1 ((zq 5).2.1 1).2.2.1) := ⟨List.mem_of_getElem? (i := 206) (by decide +kernel), by decide +kernel⟩
set_option maxRecDepth 100000 in
theorem fF_X5_27 : zin (.fieldLink RX5 27 ((zq 5).2.1 2).1 ((zq 5).2.1 2).2.1 ((zq 5).2.1 2).2.2.1) := ⟨List.mem_of_getElem? (i := 207) (by decide +kernel), by decide +kernel⟩
set_option maxRecDepth 100000 in
theorem oI_X9_1 : zin (.methodLink RX9 1 Lib.objectInit) := ⟨List.mem_of_getElem? (i := 78) (by decide +kernel), by decide +kernel⟩
set_option maxRecDepth 100000 in
theorem nC_X9_7 : zin (.classLink RX9 7 (zq 2).1) := ⟨List.mem_of_getElem? (i := 81) (by decide +kernel), by decide +kernel⟩
set_option maxRecDepth 100000 in
theorem fF_X9_10 : zin (.fieldLink RX9 10 ((zq 9).2.1 0).1 ((zq 9).2.1 0).2.1 ((zq 9).2.1 0).2.2.1) := ⟨List.mem_of_getElem? (i := 282) (by decide +kernel), by decide +kernel⟩
set_option maxRecDepth 100000 in
theorem nC_X9_16 : zin (.classLink RX9 16 (zq 1).1) := ⟨List.mem_of_getElem? (i := 107) (by decide +kernel), by decide +kernel⟩
set_option maxRecDepth 100000 in
theorem fF_X9_19 : zin (.fieldLink RX9 19 ((zq 9).2.1 1).1 ((zq 9).2.1 1).2.1 ((zq 9).2.1 1).2.2.1) := ⟨List.mem_of_getElem? (i := 283) (by decide +kernel), by decide +kernel⟩
set_option maxRecDepth 100000 in
theorem nC_X9_23 : zin (.classLink RX9 23 (zq 8).1) := ⟨List.mem_of_getElem? (i := 153) (by decide +kernel), by decide +kernel⟩
set_option maxRecDepth 100000 in
theorem fF_X9_26 : zin (.fieldLink RX9 26 ((zq 9).2.1 2).1 ((zq 9).2.1 2).2.1 ((zq 9).2.1 2).2.2.1) := ⟨List.mem_of_getElem? (i := 284) (by decide +kernel), by decide +kernel⟩
set_option maxRecDepth 100000 in
theorem fF_X9_30 : zin (.fieldLink RX9 30 ((zq 9).2.1 3).1 ((zq 9).2.1 3).2.1 ((zq 9).2.1 3).2.2.1) := ⟨List.mem_of_getElem? (i := 285) (by decide +kernel), by decide +kernel⟩
set_option maxRecDepth 100000 in
theorem fF_X9_33 : zin (.fieldLink RX9 33 ((zq 9).2.1 4).1 ((zq 9).2.1 4).2.1 ((zq 9).2.1 4).2.2.1) := ⟨List.mem_of_getElem? (i := 286) (by decide +kernel), by decide +kernel⟩
set_option maxRecDepth 100000 in
theorem fF_X9_36 : zin (.fieldLink RX9 36 ((zq 9).2.1 5).1 ((zq 9).2.1 5).2.1 ((zq 9).2.1 5).2.2.1) := ⟨List.mem_of_getElem? (i := 287) (by decide +kernel), by decide +kernel⟩
set_option maxRecDepth 100000 in
theorem nC_X9_39 : zin (.classLink RX9 39 (zq 7).1) := ⟨List.mem_of_getElem? (i := 179) (by decide +kernel), by decide +kernel⟩
set_option maxRecDepth 100000 in
theorem fF_X9_42 : zin (.fieldLink RX9 42 ((zq 9).2.1 6).1 ((zq 9).2.1 6).2.1 ((zq 9).2.1 6).2.2.1) := ⟨List.mem_of_getElem? (i := 288) (by decide +kernel), by decide +kernel⟩
set_option maxRecDepth 100000 in
theorem nC_X9_46 : zin (.classLink RX9 46 (zq 5).1) := ⟨List.mem_of_getElem? (i := 194) (by decide +kernel), by decide +kernel⟩
set_option maxRecDepth 100000 in
theorem fF_X9_49 : zin (.fieldLink RX9 49 ((zq 9).2.1 7).1 ((zq 9).2.1 7).2.1 ((zq 9).2.1 7).2.2.1) := ⟨List.mem_of_getElem? (i := 289) (by decide +kernel), by decide +kernel⟩
set_option maxRecDepth 100000 in
theorem nC_X9_53 : zin (.classLink RX9 53 (zq 3).1) := ⟨List.mem_of_getElem? (i := 230) (by decide +kernel), by decide +kernel⟩
set_option maxRecDepth 100000 in
theorem fF_X9_56 : zin (.fieldLink RX9 56 ((zq 9).2.1 8).1 ((zq 9).2.1 8).2.1 ((zq 9).2.1 8).2.2.1) := ⟨List.mem_of_getElem? (i := 290) (by decide +kernel), by decide +kernel⟩
set_option maxRecDepth 100000 in
theorem nC_X9_60 : zin (.classLink RX9 60 (zq 4).1) := ⟨List.mem_of_getElem? (i := 250) (by decide +kernel), by decide +kernel⟩
set_option maxRecDepth 100000 in
theorem fF_X9_63 : zin (.fieldLink RX9 63 ((zq 9).2.1 9).1 ((zq 9).2.1 9).2.1 ((zq 9).2.1 9).2.2.1) := ⟨List.mem_of_getElem? (i := 291) (by decide +kernel), by decide +kernel⟩
set_option maxRecDepth 100000 in
theorem nC_X9_67 : zin (.classLink RX9 67 (zq 0).1) := ⟨List.mem_of_getElem? (i := 271) (by decide +kernel), by decide +kernel⟩
set_option maxRecDepth 100000 in
theorem fF_X9_70 : zin (.fieldLink RX9 70 ((zq 9).2.1 10).1 ((zq 9).2.1 10).2.1 ((zq 9).2.1 10).2.2.1) := ⟨List.mem_of_getElem? (i := 292) (by decide +kernel), by decide +kernel⟩
set_option maxRecDepth 100000 in
theorem oI_X10_1 : zin (.methodLink RX10 1 Lib.objectInit) := ⟨List.mem_of_getElem? (i := 779) (by decide +kernel), by decide +kernel⟩
set_option maxRecDepth 100000 in
theorem fF_X10_7 : zin (.fieldLink RX10 7 ((zq 10).2.1 2).1 ((zq 10).2.1 2).2.1 ((zq 10).2.1 2).2.2.1) := ⟨List.mem_of_getElem? (i := 782) (by decide +kernel), by decide +kernel⟩
set_option maxRecDepth 100000 in
theorem fF_X10_13 : zin (.fieldLink RX10 13 ((zq 10).2.1 3).1 ((zq 10).2.1 3).2.1 ((zq 10).2.1 3).2.2.1) := ⟨List.mem_of_getElem? (i := 783) (by decide +kernel), by decide +kernel⟩
set_option maxRecDepth 100000 in
theorem fF_X10_16 : zin (.fieldLink RX10 16 ((zq 10).2.1 4).1 ((zq 10).2.1 4).2.1 ((zq 10).2.1 4).2.2.1) := ⟨List.mem_of_getElem? (i := 784) (by decide +kernel), by decide +kernel⟩
set_option maxRecDepth 100000 in
theorem fF_X10_19 : zin (.fieldLink RX10 19 ((zq 10).2.1 9).1 ((zq 10).2.1 9).2.1 ((zq 10).2.1 9).2.2.1) := ⟨List.mem_of_getElem? (i := 789) (by decide +kernel), by decide +kernel⟩
set_option maxRecDepth 100000 in
theorem fF_X10_22 : zin (.fieldLink RX10 22 ((zq 10).2.1 10).1 ((zq 10).2.1 10).2.1 ((zq 10).2.1 10).2.2.1) := ⟨List.mem_of_getElem? (i := 790) (by decide +kernel), by decide +kernel⟩
set_option maxRecDepth 100000 in
theorem fF_X10_25 : zin (.fieldLink RX10 25 ((zq 10).2.1 11).1 ((zq 10).2.1 11).2.1 ((zq 10).2.1 11).2.2.1) := ⟨List.mem_of_getElem? (i := 791) (by decide +kernel), by decide +kernel⟩
set_option maxRecDepth 100000 in
theorem fF_X10_28 : zin (.fieldLink RX10 28 ((zq 10).2.1 13).1 ((zq 10).2.1 13).2.1 ((zq 10).2.1 13).2.2.1) := ⟨List.mem_of_getElem? (i := 793) (by decide +kernel), by decide +kernel⟩
set_option maxRecDepth 100000 in
theorem fF_X10_32 : zin (.fieldLink RX10 32 ((zq 10).2.1 16).1 ((zq 10).2.1 16).2.1 ((zq 10).2.1 16).2.2.1) := ⟨List.mem_of_getElem? (i := 796) (by decide +kernel), by decide +kernel⟩
set_option maxRecDepth 100000 in
theorem fF_X10_35 : zin (.fieldLink RX10 35 ((zq 10).2.1 17).1 ((zq 10).2.1 17).2.1 ((zq 10).2.1 17).2.2.1) := ⟨List.mem_of_getElem? (i := 797) (by decide +kernel), by decide +kernel⟩
set_option maxRecDepth 100000 in
theorem fF_X10_38 : zin (.fieldLink RX10 38 ((zq 10).2.1 23).1 ((zq 10).2.1 23).2.1 ((zq 10).2.1 23).2.2.1) := ⟨List.mem_of_getElem? (i := 803) (by decide +kernel), by decide +kernel⟩
set_option maxRecDepth 100000 in
theorem fF_X10_41 : zin (.fieldLink RX10 41 ((zq 10).2.1 24).1 ((zq 10).2.1 24).2.1 ((zq 10).2.1 24).2.2.1) := ⟨List.mem_of_getElem? (i := 804) (by decide +kernel), by decide +kernel⟩
set_option maxRecDepth 100000 in
theorem fF_X10_44 : zin (.fieldLink RX10 44 ((zq 10).2.1 25).1 ((zq 10).2.1 25).2.1 ((zq 10).2.1 25).2.2.1) := ⟨List.mem_of_getElem? (i := 805) (by decide +kernel), by decide +kernel⟩
set_option maxRecDepth 100000 in
theorem fF_X10_47 : zin (.fieldLink RX10 47 ((zq 10).2.1 26).1 ((zq 10).2.1 26).2.1 ((zq 10).2.1 26).2.2.1) := ⟨List.mem_of_getElem? (i := 806) (by decide +kernel), by decide +kernel⟩
set_option maxRecDepth 100000 in
theorem fF_X10_50 : zin (.fieldLink RX10 50 ((zq 10).2.1 27).1 ((zq 10).2.1 27).2.1 ((zq 10).2.1 27).2.2.1) := ⟨List.mem_of_getElem? (i := 807) (by decide +kernel), by decide +kernel⟩
set_option maxRecDepth 100000 in
theorem fF_X10_53 : zin (.fieldLink RX10 53 ((zq 10).2.1 35).1 ((zq 10).2.1 35).2.1 ((zq 10).2.1 35).2.2.1) := ⟨List.mem_of_getElem? (i := 815) (by decide +kernel), by decide +kernel⟩
set_option maxRecDepth 100000 in
theorem fF_X10_56 : zin (.fieldLink RX10 56 ((zq 10).2.1 36).1 ((zq 10).2.1 36).2.1 ((zq 10).2.1 36).2.2.1) := ⟨List.mem_of_getElem? (i := 816) (by decide +kernel), by decide +kernel⟩
set_option maxRecDepth 100000 in
theorem fF_X10_59 : zin (.fieldLink RX10 59 ((zq 10).2.1 37).1 ((zq 10).2.1 37).2.1 ((zq 10).2.1 37).2.2.1) := ⟨List.mem_of_getElem? (i := 817) (by decide +kernel), by decide +kernel⟩
set_option maxRecDepth 100000 in
theorem fF_X10_62 : zin (.fieldLink RX10 62 ((zq 10).2.1 38).1 ((zq 10).2.1 38).2.1 ((zq 10).2.1 38).2.2.1) := ⟨List.mem_of_getElem? (i := 818) (by decide +kernel), by decide +kernel⟩
set_option maxRecDepth 100000 in
theorem fF_X10_65 : zin (.fieldLink RX10 65 ((zq 10).2.1 39).1 ((zq 10).2.1 39).2.1 ((zq 10).2.1 39).2.2.1) := ⟨List.mem_of_getElem? (i := 819) (by decide +kernel), by decide +kernel⟩
set_option maxRecDepth 100000 in
theorem fF_X10_68 : zin (.fieldLink RX10 68 ((zq 10).2.1 40).1 ((zq 10).2.1 40).2.1 ((zq 10).2.1 40).2.2.1) := ⟨List.mem_of_getElem? (i := 820) (by decide +kernel), by decide +kernel⟩
set_option maxRecDepth 100000 in
theorem oI_X6_1 : zin (.methodLink RX6 1 Lib.objectInit) := ⟨List.mem_of_getElem? (i := 92) (by decide +kernel), by decide +kernel⟩
set_option maxRecDepth 100000 in
theorem fF_X6_7 : zin (.fieldLink RX6 7 ((zq 6).2.1 0).1 ((zq 6).2.1 0).2.1 ((zq 6).2.1 0).2.2.1) := ⟨List.mem_of_getElem? (i := 93) (by decide +kernel), by decide +kernel⟩
/-! what a constructor leaves: every reference set, all else as it was -/
def zRf (q k : Nat) : Prop := 3 ≤ (zt (zk q)).getD k 0 ∨ zk q = 13
def zOn (a b : Nat) (σ τ : zMem) : Prop := ∀ q k, ((a ≤ q ∧ q < b) ∧ zRf q k → τ q k = 1) ∧ (¬ ((a ≤ q ∧ q < b) ∧ zRf q k) → τ q k = σ q k)
def zSx (o j b : Nat) (σ τ : zMem) : Prop := ∀ q k, (((q = o ∧ k < j) ∨ (o < q ∧ q < b)) ∧ zRf q k → τ q k = 1) ∧ (¬ (((q = o ∧ k < j) ∨ (o < q ∧ q < b)) ∧ zRf q k) → τ q k = σ q k)
/-- made with nothing in it; a row of references has its far places set -/
def zZ (a b : Nat) (σ : zMem) : Prop := ∀ q, a ≤ q → q < b → ∀ k, σ q k = if zk q = 13 ∧ 5 ≤ k then 1 else 0
theorem zZ.z {a b q c : Nat} {σ : zMem} (h : zZ a b σ) (hq : zk q = c) (hc : c ≠ 13) (h1 : a ≤ q) (h2 : q < b) (k : Nat) : σ q k = 0 := by
  rw [h q h1 h2 k, if_neg (by omega)]
theorem zSx.b {o : Nat} {σ : zMem} : zSx o 0 (o + 1) σ σ := fun q k => ⟨fun h => by omega, fun _ => rfl⟩
theorem zSx.o {o j b q k : Nat} {σ τ : zMem} (h : zSx o j b σ τ) (hob : o < b) (hq : b ≤ q) : τ q k = σ q k := (h q k).2 (by omega)
theorem zSx.zz {o j b a c b2 : Nat} {σ τ : zMem} (h : zSx o j b σ τ) (hob : o < b) (hz : zZ a c σ) (h1 : a ≤ b) (h2 : b2 ≤ c) : zZ b b2 τ := fun q hq1 hq2 k => by
  rw [h.o hob hq1]; exact hz q (by omega) (by omega) k
theorem zSx.step {o j b b2 : Nat} {σ τ υ : zMem} (h : zSx o j b σ τ) (hob : o < b) (hb : b ≤ b2) (h2 : zOn b b2 τ υ) : zSx o j b2 σ υ := fun q k => by
  have h3 := h q k
  have h4 := h2 q k
  by_cases hr : zRf q k
  · by_cases hb1 : b ≤ q ∧ q < b2
    · exact ⟨fun _ => h4.1 ⟨hb1, hr⟩, fun q2 => absurd ⟨by omega, hr⟩ q2⟩
    · have e := h4.2 (fun z => hb1 z.1)
      exact ⟨fun z => by rw [e]; exact h3.1 ⟨by omega, hr⟩, fun z => by rw [e]; exact h3.2 (fun w => z ⟨by omega, hr⟩)⟩
  · have e := h4.2 (fun z => hr z.2)
    exact ⟨fun z => absurd z.2 hr, fun _ => by rw [e]; exact h3.2 (fun w => hr w.2)⟩
theorem zSx.arr {o j b : Nat} {σ τ : zMem} (h : zSx o j b σ τ) (hob : o < b) (hr : ∀ k, ¬ zRf b k) : zSx o j (b + 1) σ τ := h.step hob (Nat.le_succ b) (fun q k => ⟨fun z => by
  have : q = b := by omega
  subst this
  exact absurd z.2 (hr k), fun _ => rfl⟩)
theorem zSx.put {o j j0 b : Nat} {σ τ : zMem} (h : zSx o j b σ τ) (hj : ∀ k, j ≤ k → k < j0 → ¬ zRf o k) (hjj : j ≤ j0) (hr : zRf o j0) (υ : zMem) (e : υ = zU τ o j0 1) : zSx o (j0 + 1) b σ υ := fun q k => by
  subst e
  have h3 := h q k
  by_cases e1 : q = o ∧ k = j0
  · obtain ⟨rfl, rfl⟩ := e1
    rw [zU_at]
    exact ⟨fun _ => rfl, fun z => absurd ⟨Or.inl ⟨rfl, Nat.lt_succ_self _⟩, hr⟩ z⟩
  · have e2 : zU τ o j0 1 q k = τ q k := by unfold zU; rw [if_neg e1]
    rw [e2]
    refine ⟨fun z => h3.1 ⟨?_, z.2⟩, fun z => h3.2 (fun w => z ⟨by omega, w.2⟩)⟩
    rcases z.1 with ⟨rfl, w⟩ | w
    · by_cases hk : k < j
      · exact Or.inl ⟨rfl, hk⟩
      · exact absurd z.2 (hj k (by omega) (by omega))
    · exact Or.inr w
theorem zSx.put0 {o j k0 b : Nat} {σ τ : zMem} (h : zSx o j b σ τ) (hr : ¬ zRf o k0) (h0 : σ o k0 = 0) (υ : zMem) (e : υ = zU τ o k0 0) : zSx o j b σ υ := fun q k => by
  subst e
  have h3 := h q k
  by_cases e1 : q = o ∧ k = k0
  · obtain ⟨rfl, rfl⟩ := e1
    rw [zU_at]
    exact ⟨fun z => absurd z.2 hr, fun _ => h0.symm⟩
  · have e2 : zU τ o k0 0 q k = τ q k := by unfold zU; rw [if_neg e1]
    rw [e2]; exact h3
theorem zSx.fin {o j b : Nat} {σ τ : zMem} (h : zSx o j b σ τ) (hob : o < b) (hj : ∀ k, j ≤ k → ¬ zRf o k) : zOn o b σ τ := fun q k => by
  have h3 := h q k
  refine ⟨fun z => h3.1 ⟨?_, z.2⟩, fun z => h3.2 (fun w => z ⟨by omega, w.2⟩)⟩
  by_cases e : q = o
  · subst e
    by_cases hk : k < j
    · exact Or.inl ⟨rfl, hk⟩
    · exact absurd z.2 (hj k (by omega))
  · exact Or.inr (by omega)
theorem zNr {o c : Nat} {j j0 : Nat} (hk : zk o = c) (h : (∀ k, k < (zt c).length → j ≤ k → k < j0 → (zt c).getD k 0 < 3) ∧ c ≠ 13) : ∀ k, j ≤ k → k < j0 → ¬ zRf o k := fun k h1 h2 q => by
  unfold zRf at q
  rw [hk] at q
  by_cases hl : k < (zt c).length
  · have := h.1 k hl h1 h2; omega
  · rw [List.getD_eq_getElem?_getD, List.getElem?_eq_none (by omega)] at q
    have : (none : Option Nat).getD 0 = 0 := rfl
    omega
theorem zNe {o c : Nat} {j : Nat} (hk : zk o = c) (h : (∀ k, k < (zt c).length → j ≤ k → (zt c).getD k 0 < 3) ∧ c ≠ 13) : ∀ k, j ≤ k → ¬ zRf o k := fun k h1 => zNr (j0 := k + 1) hk ⟨fun i h2 h3 _ => h.1 i h2 h3, h.2⟩ k h1 (Nat.lt_succ_self k)
theorem zRr {o c k : Nat} (hk : zk o = c) (h : 3 ≤ (zt c).getD k 0) : zRf o k := Or.inl (by rw [hk]; exact h)
theorem zNk {o c k : Nat} (hk : zk o = c) (h : (zt c).getD k 0 < 3 ∧ c ≠ 13) : ¬ zRf o k := fun q => by
  unfold zRf at q
  rw [hk] at q
  omega
theorem zNa {o c : Nat} (hk : zk o = c) (h : 11 ≤ c ∧ c ≠ 13) : ∀ k, ¬ zRf o k := fun k q => by
  unfold zRf at q
  rw [hk, zt_big h.1] at q
  omega
section ZCT
variable (l : Launch) (G : zGt) (σ : zMem)
set_option maxHeartbeats 4000000 in
theorem c_X6_init (o n : Nat) (p : Int) (hp : p = n) (hr : zRow o n) (hn : n ≤ 1000) (hz : zZ o (o + 2) σ) : zM l G yX6_init cX6_init 2 none false 1 64 1 n (o + 1) (o + 2) [.ref (zB G + o), .int (zI p)] σ (zPv (fun τ => zOn o (o + 2) σ τ)) := by
  subst hp
  obtain ⟨k0, k1, k2, k3⟩ := hr
  have s0 : zSx o 0 (o + 1) σ σ := zSx.b
  refine zM.of (lv0 := [(0, _), (1, _)]) (by decide) (Nat.le_of_ble_eq_true rfl) rfl (fun X C => ?_)
  refine z_aload_n (pc := 0) C dX6_init_0 rfl 0 rfl ?_
  refine z_obj (pc := 1) C oI_X6_1 oW dX6_init_1 ⟨by decide, by decide⟩ ?_
  refine z_aload_n (pc := 4) C dX6_init_4 rfl 0 rfl ?_
  refine z_iload_n (pc := 5) C dX6_init_5 rfl 1 rfl ?_
  refine z_if_ge (pc := 6) (tgt := 13) C dX6_init_6 (by decide) (by omega) (fun c6 => ?_) (fun c6 => by exfalso; omega)
  refine z_iload_n (pc := 13) C dX6_init_13 rfl 1 rfl ?_
  refine z_newI (pc := 14) (n := n) C rfl hn aI.1 dX6_init_14 k1 k2 (fun k => hz.z k1 (by decide) (by omega) (by omega) k) ⟨by omega, by omega⟩ ?_
  refine z_putR (pc := 16) C (o + 1) fl_X6_7 fF_X6_7 dX6_init_16 k0 (by omega) rfl (by decide +kernel) (fun m16 e16 => ?_)
  refine z_widen (ce2 := 1) (sl2 := n) (by omega) (by omega) ?_
  refine z_vret (pc := 19) C dX6_init_19 ⟨rfl, ?_⟩
  exact (((s0.arr (by omega) (zNa k1 (by decide))).put (j0 := 0) (fun k _ h => by omega) (by omega) (zRr k0 (by decide)) _ e16).fin (by omega) (zNe k0 (by decide)))
set_option maxHeartbeats 4000000 in
theorem c_X1_init (o : Nat) (k0 : zk o = 1) (r1 : zRow (o + 1) 6) (r3 : zRow (o + 3) 6) (r5 : zRow (o + 5) 6) (r7 : zRow (o + 7) 6) (hz : zZ o (o + 9) σ) : zM l G yX1_init cX1_init 1 none false 2 128 8 28 (o + 1) (o + 9) [.ref (zB G + o)] σ (zPv (fun τ => zOn o (o + 9) σ τ)) := by
  have s0 : zSx o 0 (o + 1) σ σ := zSx.b
  refine zM.of (lv0 := [(0, _)]) (by decide) (Nat.le_of_ble_eq_true rfl) rfl (fun X C => ?_)
  refine z_aload_n (pc := 0) C dX1_init_0 rfl 0 rfl ?_
  refine z_obj (pc := 1) C oI_X1_3 oW dX1_init_1 ⟨by decide, by decide⟩ ?_
  refine z_aload_n (pc := 4) C dX1_init_4 rfl 0 rfl ?_
  refine z_new (pc := 5) (ci := 6) (n := 1) C (by decide) (by decide +kernel) nC_X1_9 nW_6.1 nW_6.2 dX1_init_5 r1.1 (fun k => (s0.o (by omega) (by omega)).trans (hz.z r1.1 (by decide) (by omega) (by omega) k)) ⟨by decide, by decide⟩ ?_
  refine z_dup (pc := 8) C dX1_init_8 rfl ?_
  refine z_bipush (pc := 9) C dX1_init_9 (by decide +kernel) ?_
  refine z_I (pc := 11) (rest := [.ref (zB G + (o + 1)), .ref (zB G + o)]) C (c_X6_init l G _ (o + 1) 6 _ rfl r1 (by decide) (s0.zz (by omega) hz (by omega) (by omega))) ml_X1_11 yi_X6_init dX1_init_11 rfl rfl rfl (Nat.le_of_ble_eq_true rfl) ⟨⟨by decide, by decide⟩, by decide, by decide⟩ (by omega) (fun v11 t11 q11 => ?_)
  obtain ⟨rfl, w11⟩ := q11
  have s11 : zSx o 0 (o + 3) σ t11 := s0.step (by omega) (by omega) w11
  refine z_putR (pc := 14) C (o + 1) fl_X1_14 fF_X1_14 dX1_init_14 k0 (by omega) rfl (by decide +kernel) (fun m14 e14 => ?_)
  have s14 : zSx o 1 (o + 3) σ m14 := s11.put (zNr k0 (by decide)) (by omega) (zRr k0 (by decide)) _ e14
  refine z_aload_n (pc := 17) C dX1_init_17 rfl 0 rfl ?_
  refine z_new (pc := 18) (ci := 6) (n := 1) C (by decide) (by decide +kernel) nC_X1_9 nW_6.1 nW_6.2 dX1_init_18 r3.1 (fun k => (s14.o (by omega) (by omega)).trans (hz.z r3.1 (by decide) (by omega) (by omega) k)) ⟨by decide, by decide⟩ ?_
  refine z_dup (pc := 21) C dX1_init_21 rfl ?_
  refine z_bipush (pc := 22) C dX1_init_22 (by decide +kernel) ?_
  refine z_I (pc := 24) (rest := [.ref (zB G + (o + 3)), .ref (zB G + o)]) C (c_X6_init l G _ (o + 3) 6 _ rfl r3 (by decide) (s14.zz (by omega) hz (by omega) (by omega))) ml_X1_11 yi_X6_init dX1_init_24 rfl rfl rfl (Nat.le_of_ble_eq_true rfl) ⟨⟨by decide, by decide⟩, by decide, by decide⟩ (by omega) (fun v24 t24 q24 => ?_)
  obtain ⟨rfl, w24⟩ := q24
  have s24 : zSx o 1 (o + 5) σ t24 := s14.step (by omega) (by omega) w24
  refine z_putR (pc := 27) C (o + 3) fl_X1_20 fF_X1_20 dX1_init_27 k0 (by omega) rfl (by decide +kernel) (fun m27 e27 => ?_)
  have s27 : zSx o 2 (o + 5) σ m27 := s24.put (zNr k0 (by decide)) (by omega) (zRr k0 (by decide)) _ e27
  refine z_aload_n (pc := 30) C dX1_init_30 rfl 0 rfl ?_
  refine z_new (pc := 31) (ci := 6) (n := 1) C (by decide) (by decide +kernel) nC_X1_9 nW_6.1 nW_6.2 dX1_init_31 r5.1 (fun k => (s27.o (by omega) (by omega)).trans (hz.z r5.1 (by decide) (by omega) (by omega) k)) ⟨by decide, by decide⟩ ?_
  refine z_dup (pc := 34) C dX1_init_34 rfl ?_
  refine z_bipush (pc := 35) C dX1_init_35 (by decide +kernel) ?_
  refine z_I (pc := 37) (rest := [.ref (zB G + (o + 5)), .ref (zB G + o)]) C (c_X6_init l G _ (o + 5) 6 _ rfl r5 (by decide) (s27.zz (by omega) hz (by omega) (by omega))) ml_X1_11 yi_X6_init dX1_init_37 rfl rfl rfl (Nat.le_of_ble_eq_true rfl) ⟨⟨by decide, by decide⟩, by decide, by decide⟩ (by omega) (fun v37 t37 q37 => ?_)
  obtain ⟨rfl, w37⟩ := q37
  have s37 : zSx o 2 (o + 7) σ t37 := s27.step (by omega) (by omega) w37
  refine z_putR (pc := 40) C (o + 5) fl_X1_23 fF_X1_23 dX1_init_40 k0 (by omega) rfl (by decide +kernel) (fun m40 e40 => ?_)
  have s40 : zSx o 3 (o + 7) σ m40 := s37.put (zNr k0 (by decide)) (by omega) (zRr k0 (by decide)) _ e40
  refine z_aload_n (pc := 43) C dX1_init_43 rfl 0 rfl ?_
  refine z_new (pc := 44) (ci := 6) (n := 1) C (by decide) (by decide +kernel) nC_X1_9 nW_6.1 nW_6.2 dX1_init_44 r7.1 (fun k => (s40.o (by omega) (by omega)).trans (hz.z r7.1 (by decide) (by omega) (by omega) k)) ⟨by decide, by decide⟩ ?_
  refine z_dup (pc := 47) C dX1_init_47 rfl ?_
  refine z_bipush (pc := 48) C dX1_init_48 (by decide +kernel) ?_
  refine z_I (pc := 50) (rest := [.ref (zB G + (o + 7)), .ref (zB G + o)]) C (c_X6_init l G _ (o + 7) 6 _ rfl r7 (by decide) (s40.zz (by omega) hz (by omega) (by omega))) ml_X1_11 yi_X6_init dX1_init_50 rfl rfl rfl (Nat.le_of_ble_eq_true rfl) ⟨⟨by decide, by decide⟩, by decide, by decide⟩ (by omega) (fun v50 t50 q50 => ?_)
  obtain ⟨rfl, w50⟩ := q50
  have s50 : zSx o 3 (o + 9) σ t50 := s40.step (by omega) (by omega) w50
  refine z_putR (pc := 53) C (o + 7) fl_X1_26 fF_X1_26 dX1_init_53 k0 (by omega) rfl (by decide +kernel) (fun m53 e53 => ?_)
  have s53 : zSx o 4 (o + 9) σ m53 := s50.put (zNr k0 (by decide)) (by omega) (zRr k0 (by decide)) _ e53
  refine z_aload_n (pc := 56) C dX1_init_56 rfl 0 rfl ?_
  refine z_iconst (pc := 57) C dX1_init_57 ?_
  refine z_putIe (pc := 58) C fl_X1_29 dX1_init_58 k0 (by omega) (by omega) (fun m58 e58 => ?_)
  have s58 : zSx o 4 (o + 9) σ m58 := s53.put0 (zNk k0 (by decide)) (hz.z k0 (by decide) (by omega) (by omega) _) _ e58
  refine z_aload_n (pc := 61) C dX1_init_61 rfl 0 rfl ?_
  refine z_iconst (pc := 62) C dX1_init_62 ?_
  refine z_putIe (pc := 63) C fl_X1_33 dX1_init_63 k0 (by omega) (by omega) (fun m63 e63 => ?_)
  have s63 : zSx o 4 (o + 9) σ m63 := s58.put0 (zNk k0 (by decide)) (hz.z k0 (by decide) (by omega) (by omega) _) _ e63
  refine z_aload_n (pc := 66) C dX1_init_66 rfl 0 rfl ?_
  refine z_iconst (pc := 67) C dX1_init_67 ?_
  refine z_putIe (pc := 68) C fl_X1_36 dX1_init_68 k0 (by omega) (by omega) (fun m68 e68 => ?_)
  have s68 : zSx o 4 (o + 9) σ m68 := s63.put0 (zNk k0 (by decide)) (hz.z k0 (by decide) (by omega) (by omega) _) _ e68
  refine z_widen (ce2 := 8) (sl2 := 28) (by decide) (by decide) ?_
  exact z_vret (pc := 71) C dX1_init_71 ⟨rfl, s68.fin (by omega) (zNe k0 (by decide))⟩
set_option maxHeartbeats 4000000 in
theorem c_X8_init (o : Nat) (k0 : zk o = 8) (r1 : zRow (o + 1) 6) (r3 : zRow (o + 3) 6) (r5 : zRow (o + 5) 6) (hz : zZ o (o + 7) σ) : zM l G yX8_init cX8_init 1 none false 2 128 6 21 (o + 1) (o + 7) [.ref (zB G + o)] σ (zPv (fun τ => zOn o (o + 7) σ τ)) := by
  have s0 : zSx o 0 (o + 1) σ σ := zSx.b
  refine zM.of (lv0 := [(0, _)]) (by decide) (Nat.le_of_ble_eq_true rfl) rfl (fun X C => ?_)
  refine z_aload_n (pc := 0) C dX8_init_0 rfl 0 rfl ?_
  refine z_obj (pc := 1) C oI_X8_3 oW dX8_init_1 ⟨by decide, by decide⟩ ?_
  refine z_aload_n (pc := 4) C dX8_init_4 rfl 0 rfl ?_
  refine z_new (pc := 5) (ci := 6) (n := 1) C (by decide) (by decide +kernel) nC_X8_9 nW_6.1 nW_6.2 dX8_init_5 r1.1 (fun k => (s0.o (by omega) (by omega)).trans (hz.z r1.1 (by decide) (by omega) (by omega) k)) ⟨by decide, by decide⟩ ?_
  refine z_dup (pc := 8) C dX8_init_8 rfl ?_
  refine z_bipush (pc := 9) C dX8_init_9 (by decide +kernel) ?_
  refine z_I (pc := 11) (rest := [.ref (zB G + (o + 1)), .ref (zB G + o)]) C (c_X6_init l G _ (o + 1) 6 _ rfl r1 (by decide) (s0.zz (by omega) hz (by omega) (by omega))) ml_X8_11 yi_X6_init dX8_init_11 rfl rfl rfl (Nat.le_of_ble_eq_true rfl) ⟨⟨by decide, by decide⟩, by decide, by decide⟩ (by omega) (fun v11 t11 q11 => ?_)
  obtain ⟨rfl, w11⟩ := q11
  have s11 : zSx o 0 (o + 3) σ t11 := s0.step (by omega) (by omega) w11
  refine z_putR (pc := 14) C (o + 1) fl_X8_14 fF_X8_14 dX8_init_14 k0 (by omega) rfl (by decide +kernel) (fun m14 e14 => ?_)
  have s14 : zSx o 1 (o + 3) σ m14 := s11.put (zNr k0 (by decide)) (by omega) (zRr k0 (by decide)) _ e14
  refine z_aload_n (pc := 17) C dX8_init_17 rfl 0 rfl ?_
  refine z_new (pc := 18) (ci := 6) (n := 1) C (by decide) (by decide +kernel) nC_X8_9 nW_6.1 nW_6.2 dX8_init_18 r3.1 (fun k => (s14.o (by omega) (by omega)).trans (hz.z r3.1 (by decide) (by omega) (by omega) k)) ⟨by decide, by decide⟩ ?_
  refine z_dup (pc := 21) C dX8_init_21 rfl ?_
  refine z_bipush (pc := 22) C dX8_init_22 (by decide +kernel) ?_
  refine z_I (pc := 24) (rest := [.ref (zB G + (o + 3)), .ref (zB G + o)]) C (c_X6_init l G _ (o + 3) 6 _ rfl r3 (by decide) (s14.zz (by omega) hz (by omega) (by omega))) ml_X8_11 yi_X6_init dX8_init_24 rfl rfl rfl (Nat.le_of_ble_eq_true rfl) ⟨⟨by decide, by decide⟩, by decide, by decide⟩ (by omega) (fun v24 t24 q24 => ?_)
  obtain ⟨rfl, w24⟩ := q24
  have s24 : zSx o 1 (o + 5) σ t24 := s14.step (by omega) (by omega) w24
  refine z_putR (pc := 27) C (o + 3) fl_X8_20 fF_X8_20 dX8_init_27 k0 (by omega) rfl (by decide +kernel) (fun m27 e27 => ?_)
  have s27 : zSx o 2 (o + 5) σ m27 := s24.put (zNr k0 (by decide)) (by omega) (zRr k0 (by decide)) _ e27
  refine z_aload_n (pc := 30) C dX8_init_30 rfl 0 rfl ?_
  refine z_new (pc := 31) (ci := 6) (n := 1) C (by decide) (by decide +kernel) nC_X8_9 nW_6.1 nW_6.2 dX8_init_31 r5.1 (fun k => (s27.o (by omega) (by omega)).trans (hz.z r5.1 (by decide) (by omega) (by omega) k)) ⟨by decide, by decide⟩ ?_
  refine z_dup (pc := 34) C dX8_init_34 rfl ?_
  refine z_bipush (pc := 35) C dX8_init_35 (by decide +kernel) ?_
  refine z_I (pc := 37) (rest := [.ref (zB G + (o + 5)), .ref (zB G + o)]) C (c_X6_init l G _ (o + 5) 6 _ rfl r5 (by decide) (s27.zz (by omega) hz (by omega) (by omega))) ml_X8_11 yi_X6_init dX8_init_37 rfl rfl rfl (Nat.le_of_ble_eq_true rfl) ⟨⟨by decide, by decide⟩, by decide, by decide⟩ (by omega) (fun v37 t37 q37 => ?_)
  obtain ⟨rfl, w37⟩ := q37
  have s37 : zSx o 2 (o + 7) σ t37 := s27.step (by omega) (by omega) w37
  refine z_putR (pc := 40) C (o + 5) fl_X8_23 fF_X8_23 dX8_init_40 k0 (by omega) rfl (by decide +kernel) (fun m40 e40 => ?_)
  have s40 : zSx o 3 (o + 7) σ m40 := s37.put (zNr k0 (by decide)) (by omega) (zRr k0 (by decide)) _ e40
  refine z_aload_n (pc := 43) C dX8_init_43 rfl 0 rfl ?_
  refine z_iconst (pc := 44) C dX8_init_44 ?_
  refine z_putIe (pc := 45) C fl_X8_26 dX8_init_45 k0 (by omega) (by omega) (fun m45 e45 => ?_)
  have s45 : zSx o 3 (o + 7) σ m45 := s40.put0 (zNk k0 (by decide)) (hz.z k0 (by decide) (by omega) (by omega) _) _ e45
  refine z_widen (ce2 := 6) (sl2 := 21) (by decide) (by decide) ?_
  exact z_vret (pc := 48) C dX8_init_48 ⟨rfl, s45.fin (by omega) (zNe k0 (by decide))⟩
set_option maxHeartbeats 4000000 in
theorem c_X2_init (o : Nat) (k0 : zk o = 2) (r1 : zRow (o + 1) 26) (hz : zZ o (o + 3) σ) : zM l G yX2_init cX2_init 1 none false 2 128 2 27 (o + 1) (o + 3) [.ref (zB G + o)] σ (zPv (fun τ => zOn o (o + 3) σ τ)) := by
  have s0 : zSx o 0 (o + 1) σ σ := zSx.b
  refine zM.of (lv0 := [(0, _)]) (by decide) (Nat.le_of_ble_eq_true rfl) rfl (fun X C => ?_)
  refine z_aload_n (pc := 0) C dX2_init_0 rfl 0 rfl ?_
  refine z_obj (pc := 1) C oI_X2_5 oW dX2_init_1 ⟨by decide, by decide⟩ ?_
  refine z_aload_n (pc := 4) C dX2_init_4 rfl 0 rfl ?_
  refine z_new (pc := 5) (ci := 6) (n := 1) C (by decide) (by decide +kernel) nC_X2_11 nW_6.1 nW_6.2 dX2_init_5 r1.1 (fun k => (s0.o (by omega) (by omega)).trans (hz.z r1.1 (by decide) (by omega) (by omega) k)) ⟨by decide, by decide⟩ ?_
  refine z_dup (pc := 8) C dX2_init_8 rfl ?_
  refine z_bipush (pc := 9) C dX2_init_9 (by decide +kernel) ?_
  refine z_I (pc := 11) (rest := [.ref (zB G + (o + 1)), .ref (zB G + o)]) C (c_X6_init l G _ (o + 1) 26 _ rfl r1 (by decide) (s0.zz (by omega) hz (by omega) (by omega))) ml_X2_13 yi_X6_init dX2_init_11 rfl rfl rfl (Nat.le_of_ble_eq_true rfl) ⟨⟨by decide, by decide⟩, by decide, by decide⟩ (by omega) (fun v11 t11 q11 => ?_)
  obtain ⟨rfl, w11⟩ := q11
  have s11 : zSx o 0 (o + 3) σ t11 := s0.step (by omega) (by omega) w11
  refine z_putR (pc := 14) C (o + 1) fl_X2_16 fF_X2_16 dX2_init_14 k0 (by omega) rfl (by decide +kernel) (fun m14 e14 => ?_)
  have s14 : zSx o 1 (o + 3) σ m14 := s11.put (zNr k0 (by decide)) (by omega) (zRr k0 (by decide)) _ e14
  refine z_aload_n (pc := 17) C dX2_init_17 rfl 0 rfl ?_
  refine z_iconst (pc := 18) C dX2_init_18 ?_
  refine z_putIe (pc := 19) C fl_X2_20 dX2_init_19 k0 (by omega) (by omega) (fun m19 e19 => ?_)
  have s19 : zSx o 1 (o + 3) σ m19 := s14.put0 (zNk k0 (by decide)) (hz.z k0 (by decide) (by omega) (by omega) _) _ e19
  refine z_widen (ce2 := 2) (sl2 := 27) (by decide) (by decide) ?_
  exact z_vret (pc := 22) C dX2_init_22 ⟨rfl, s19.fin (by omega) (zNe k0 (by decide))⟩
set_option maxHeartbeats 4000000 in
theorem c_X3_init (o : Nat) (k0 : zk o = 3) (r1 : zRow (o + 1) 6) (r3 : zRow (o + 3) 6) (hz : zZ o (o + 5) σ) : zM l G yX3_init cX3_init 1 none false 2 128 4 14 (o + 1) (o + 5) [.ref (zB G + o)] σ (zPv (fun τ => zOn o (o + 5) σ τ)) := by
  have s0 : zSx o 0 (o + 1) σ σ := zSx.b
  refine zM.of (lv0 := [(0, _)]) (by decide) (Nat.le_of_ble_eq_true rfl) rfl (fun X C => ?_)
  refine z_aload_n (pc := 0) C dX3_init_0 rfl 0 rfl ?_
  refine z_obj (pc := 1) C oI_X3_3 oW dX3_init_1 ⟨by decide, by decide⟩ ?_
  refine z_aload_n (pc := 4) C dX3_init_4 rfl 0 rfl ?_
  refine z_new (pc := 5) (ci := 6) (n := 1) C (by decide) (by decide +kernel) nC_X3_9 nW_6.1 nW_6.2 dX3_init_5 r1.1 (fun k => (s0.o (by omega) (by omega)).trans (hz.z r1.1 (by decide) (by omega) (by omega) k)) ⟨by decide, by decide⟩ ?_
  refine z_dup (pc := 8) C dX3_init_8 rfl ?_
  refine z_bipush (pc := 9) C dX3_init_9 (by decide +kernel) ?_
  refine z_I (pc := 11) (rest := [.ref (zB G + (o + 1)), .ref (zB G + o)]) C (c_X6_init l G _ (o + 1) 6 _ rfl r1 (by decide) (s0.zz (by omega) hz (by omega) (by omega))) ml_X3_11 yi_X6_init dX3_init_11 rfl rfl rfl (Nat.le_of_ble_eq_true rfl) ⟨⟨by decide, by decide⟩, by decide, by decide⟩ (by omega) (fun v11 t11 q11 => ?_)
  obtain ⟨rfl, w11⟩ := q11
  have s11 : zSx o 0 (o + 3) σ t11 := s0.step (by omega) (by omega) w11
  refine z_putR (pc := 14) C (o + 1) fl_X3_14 fF_X3_14 dX3_init_14 k0 (by omega) rfl (by decide +kernel) (fun m14 e14 => ?_)
  have s14 : zSx o 1 (o + 3) σ m14 := s11.put (zNr k0 (by decide)) (by omega) (zRr k0 (by decide)) _ e14
  refine z_aload_n (pc := 17) C dX3_init_17 rfl 0 rfl ?_
  refine z_new (pc := 18) (ci := 6) (n := 1) C (by decide) (by decide +kernel) nC_X3_9 nW_6.1 nW_6.2 dX3_init_18 r3.1 (fun k => (s14.o (by omega) (by omega)).trans (hz.z r3.1 (by decide) (by omega) (by omega) k)) ⟨by decide, by decide⟩ ?_
  refine z_dup (pc := 21) C dX3_init_21 rfl ?_
  refine z_bipush (pc := 22) C dX3_init_22 (by decide +kernel) ?_
  refine z_I (pc := 24) (rest := [.ref (zB G + (o + 3)), .ref (zB G + o)]) C (c_X6_init l G _ (o + 3) 6 _ rfl r3 (by decide) (s14.zz (by omega) hz (by omega) (by omega))) ml_X3_11 yi_X6_init dX3_init_24 rfl rfl rfl (Nat.le_of_ble_eq_true rfl) ⟨⟨by decide, by decide⟩, by decide, by decide⟩ (by omega) (fun v24 t24 q24 => ?_)
  obtain ⟨rfl, w24⟩ := q24
  have s24 : zSx o 1 (o + 5) σ t24 := s14.step (by omega) (by omega) w24
  refine z_putR (pc := 27) C (o + 3) fl_X3_20 fF_X3_20 dX3_init_27 k0 (by omega) rfl (by decide +kernel) (fun m27 e27 => ?_)
  have s27 : zSx o 2 (o + 5) σ m27 := s24.put (zNr k0 (by decide)) (by omega) (zRr k0 (by decide)) _ e27
  refine z_widen (ce2 := 4) (sl2 := 14) (by decide) (by decide) ?_
  exact z_vret (pc := 30) C dX3_init_30 ⟨rfl, s27.fin (by omega) (zNe k0 (by decide))⟩
set_option maxHeartbeats 4000000 in
theorem c_X7_init (o : Nat) (k0 : zk o = 7) (r1 : zRow (o + 1) 100) (r3 : zRow (o + 3) 21) (hz : zZ o (o + 5) σ) : zM l G yX7_init cX7_init 1 none false 2 128 4 123 (o + 1) (o + 5) [.ref (zB G + o)] σ (zPv (fun τ => zOn o (o + 5) σ τ)) := by
  have s0 : zSx o 0 (o + 1) σ σ := zSx.b
  refine zM.of (lv0 := [(0, _)]) (by decide) (Nat.le_of_ble_eq_true rfl) rfl (fun X C => ?_)
  refine z_aload_n (pc := 0) C dX7_init_0 rfl 0 rfl ?_
  refine z_obj (pc := 1) C oI_X7_3 oW dX7_init_1 ⟨by decide, by decide⟩ ?_
  refine z_aload_n (pc := 4) C dX7_init_4 rfl 0 rfl ?_
  refine z_new (pc := 5) (ci := 6) (n := 1) C (by decide) (by decide +kernel) nC_X7_9 nW_6.1 nW_6.2 dX7_init_5 r1.1 (fun k => (s0.o (by omega) (by omega)).trans (hz.z r1.1 (by decide) (by omega) (by omega) k)) ⟨by decide, by decide⟩ ?_
  refine z_dup (pc := 8) C dX7_init_8 rfl ?_
  refine z_bipush (pc := 9) C dX7_init_9 (by decide +kernel) ?_
  refine z_I (pc := 11) (rest := [.ref (zB G + (o + 1)), .ref (zB G + o)]) C (c_X6_init l G _ (o + 1) 100 _ rfl r1 (by decide) (s0.zz (by omega) hz (by omega) (by omega))) ml_X7_13 yi_X6_init dX7_init_11 rfl rfl rfl (Nat.le_of_ble_eq_true rfl) ⟨⟨by decide, by decide⟩, by decide, by decide⟩ (by omega) (fun v11 t11 q11 => ?_)
  obtain ⟨rfl, w11⟩ := q11
  have s11 : zSx o 0 (o + 3) σ t11 := s0.step (by omega) (by omega) w11
  refine z_putR (pc := 14) C (o + 1) fl_X7_16 fF_X7_16 dX7_init_14 k0 (by omega) rfl (by decide +kernel) (fun m14 e14 => ?_)
  have s14 : zSx o 1 (o + 3) σ m14 := s11.put (zNr k0 (by decide)) (by omega) (zRr k0 (by decide)) _ e14
  refine z_aload_n (pc := 17) C dX7_init_17 rfl 0 rfl ?_
  refine z_new (pc := 18) (ci := 6) (n := 1) C (by decide) (by decide +kernel) nC_X7_9 nW_6.1 nW_6.2 dX7_init_18 r3.1 (fun k => (s14.o (by omega) (by omega)).trans (hz.z r3.1 (by decide) (by omega) (by omega) k)) ⟨by decide, by decide⟩ ?_
  refine z_dup (pc := 21) C dX7_init_21 rfl ?_
  refine z_bipush (pc := 22) C dX7_init_22 (by decide +kernel) ?_
  refine z_I (pc := 24) (rest := [.ref (zB G + (o + 3)), .ref (zB G + o)]) C (c_X6_init l G _ (o + 3) 21 _ rfl r3 (by decide) (s14.zz (by omega) hz (by omega) (by omega))) ml_X7_13 yi_X6_init dX7_init_24 rfl rfl rfl (Nat.le_of_ble_eq_true rfl) ⟨⟨by decide, by decide⟩, by decide, by decide⟩ (by omega) (fun v24 t24 q24 => ?_)
  obtain ⟨rfl, w24⟩ := q24
  have s24 : zSx o 1 (o + 5) σ t24 := s14.step (by omega) (by omega) w24
  refine z_putR (pc := 27) C (o + 3) fl_X7_20 fF_X7_20 dX7_init_27 k0 (by omega) rfl (by decide +kernel) (fun m27 e27 => ?_)
  have s27 : zSx o 2 (o + 5) σ m27 := s24.put (zNr k0 (by decide)) (by omega) (zRr k0 (by decide)) _ e27
  refine z_widen (ce2 := 4) (sl2 := 123) (by decide) (by decide) ?_
  exact z_vret (pc := 30) C dX7_init_30 ⟨rfl, s27.fin (by omega) (zNe k0 (by decide))⟩
set_option maxHeartbeats 4000000 in
theorem c_X4_init (o : Nat) (k0 : zk o = 4) (hz : zZ o (o + 1) σ) : zM l G yX4_init cX4_init 1 none false 2 128 0 0 (o + 1) (o + 1) [.ref (zB G + o)] σ (zPv (fun τ => zOn o (o + 1) σ τ)) := by
  have s0 : zSx o 0 (o + 1) σ σ := zSx.b
  refine zM.of (lv0 := [(0, _)]) (by decide) (Nat.le_of_ble_eq_true rfl) rfl (fun X C => ?_)
  refine z_aload_n (pc := 0) C dX4_init_0 rfl 0 rfl ?_
  refine z_obj (pc := 1) C oI_X4_3 oW dX4_init_1 ⟨by decide, by decide⟩ ?_
  refine z_aload_n (pc := 4) C dX4_init_4 rfl 0 rfl ?_
  refine z_iconst (pc := 5) C dX4_init_5 ?_
  refine z_putIe (pc := 6) C fl_X4_9 dX4_init_6 k0 (by omega) (by omega) (fun m6 e6 => ?_)
  have s6 : zSx o 0 (o + 1) σ m6 := s0.put0 (zNk k0 (by decide)) (hz.z k0 (by decide) (by omega) (by omega) _) _ e6
  refine z_aload_n (pc := 9) C dX4_init_9 rfl 0 rfl ?_
  refine z_iconst (pc := 10) C dX4_init_10 ?_
  refine z_putIe (pc := 11) C fl_X4_15 dX4_init_11 k0 (by omega) (by omega) (fun m11 e11 => ?_)
  have s11 : zSx o 0 (o + 1) σ m11 := s6.put0 (zNk k0 (by decide)) (hz.z k0 (by decide) (by omega) (by omega) _) _ e11
  refine z_widen (ce2 := 0) (sl2 := 0) (by decide) (by decide) ?_
  exact z_vret (pc := 14) C dX4_init_14 ⟨rfl, s11.fin (by omega) (zNe k0 (by decide))⟩
set_option maxHeartbeats 4000000 in
theorem c_X0_init (o : Nat) (k0 : zk o = 0) (hz : zZ o (o + 1) σ) : zM l G yX0_init cX0_init 1 none false 2 128 0 0 (o + 1) (o + 1) [.ref (zB G + o)] σ (zPv (fun τ => zOn o (o + 1) σ τ)) := by
  have s0 : zSx o 0 (o + 1) σ σ := zSx.b
  refine zM.of (lv0 := [(0, _)]) (by decide) (Nat.le_of_ble_eq_true rfl) rfl (fun X C => ?_)
  refine z_aload_n (pc := 0) C dX0_init_0 rfl 0 rfl ?_
  refine z_obj (pc := 1) C oI_X0_1 oW dX0_init_1 ⟨by decide, by decide⟩ ?_
  refine z_aload_n (pc := 4) C dX0_init_4 rfl 0 rfl ?_
  refine z_lconst0 (pc := 5) C dX0_init_5 (by decide +kernel) ?_
  refine z_putJe (pc := 6) C fl_X0_7 dX0_init_6 k0 (by omega) (fun m6 e6 => ?_)
  have s6 : zSx o 0 (o + 1) σ m6 := s0.put0 (zNk k0 (by decide)) (hz.z k0 (by decide) (by omega) (by omega) _) _ e6
  refine z_widen (ce2 := 0) (sl2 := 0) (by decide) (by decide) ?_
  exact z_vret (pc := 9) C dX0_init_9 ⟨rfl, s6.fin (by omega) (zNe k0 (by decide))⟩
end ZCT
/-- the planner's steps, the first i made -/
def zPx (i b : Nat) (σ τ : zMem) : Prop := 52 ≤ b ∧ ∀ q k, ((q = 50 ∧ k = 0) ∨ (q = 51 ∧ k < i) ∨ ((52 ≤ q ∧ q < b) ∧ zRf q k) → τ q k = 1) ∧ (¬ ((q = 50 ∧ k = 0) ∨ (q = 51 ∧ k < i) ∨ ((52 ≤ q ∧ q < b) ∧ zRf q k)) → τ q k = σ q k)
theorem zPx.b {σ m : zMem} (e : m = zU σ 50 0 1) : zPx 0 52 σ m := by
  subst e
  refine ⟨Nat.le_refl _, fun q k => ?_⟩
  by_cases h : q = 50 ∧ k = 0
  · obtain ⟨rfl, rfl⟩ := h
    exact ⟨fun _ => zU_at, fun z => absurd (Or.inl ⟨rfl, rfl⟩) z⟩
  · have e2 : zU σ 50 0 1 q k = σ q k := by unfold zU; rw [if_neg h]
    exact ⟨fun z => by rcases z with z | z | z <;> omega, fun _ => e2⟩
theorem zPx.f {i b : Nat} {σ τ : zMem} (h : zPx i b σ τ) : τ 50 0 = 1 := (h.2 50 0).1 (Or.inl ⟨rfl, rfl⟩)
theorem zPx.o {i b q k : Nat} {σ τ : zMem} (h : zPx i b σ τ) (hq : b ≤ q) : τ q k = σ q k := (h.2 q k).2 (by have := h.1; omega)
theorem zPx.zz {i b b2 a c : Nat} {σ τ : zMem} (h : zPx i b σ τ) (hz : zZ a c σ) (h1 : a ≤ b ∧ b2 ≤ c) : zZ b b2 τ := fun q h2 h3 k => by rw [h.o h2]; exact hz q (by omega) (by omega) k
theorem zPx.step {i b b2 : Nat} {σ τ υ m : zMem} (h : zPx i b σ τ) (h2 : zOn b b2 τ υ) (e : m = zU υ 51 i 1) (hb : b ≤ b2 := by omega) : zPx (i + 1) b2 σ m := by
  subst e
  have hb0 := h.1
  refine ⟨by omega, fun q k => ?_⟩
  have h3 := h.2 q k
  have h4 := h2 q k
  by_cases e1 : q = 51 ∧ k = i
  · obtain ⟨rfl, rfl⟩ := e1
    exact ⟨fun _ => zU_at, fun z => absurd (Or.inr (Or.inl ⟨rfl, Nat.lt_succ_self _⟩)) z⟩
  · have e2 : zU υ 51 i 1 q k = υ q k := by unfold zU; rw [if_neg e1]
    rw [e2]
    by_cases hr : (b ≤ q ∧ q < b2) ∧ zRf q k
    · exact ⟨fun _ => h4.1 hr, fun z => absurd (Or.inr (Or.inr ⟨by omega, hr.2⟩)) z⟩
    · rw [h4.2 hr]
      refine ⟨fun z => h3.1 ?_, fun z => h3.2 (fun w => z ?_)⟩
      · rcases z with z | z | z
        · exact Or.inl z
        · exact Or.inr (Or.inl (by omega))
        · refine Or.inr (Or.inr ⟨?_, z.2⟩)
          by_cases hq : b ≤ q
          · exact absurd ⟨⟨hq, z.1.2⟩, z.2⟩ hr
          · omega
      · rcases w with w | w | w
        · exact Or.inl w
        · exact Or.inr (Or.inl (by omega))
        · exact Or.inr (Or.inr ⟨by omega, w.2⟩)
theorem zPx.sx {σ τ : zMem} {a c : Nat} (h : zPx 5 97 σ τ) (hz : zZ a c σ) (ha : a ≤ 51 ∧ 51 < c := by omega) : zSx 50 1 97 σ τ := fun q k => by
  have h3 := h.2 q k
  have k51 : zk 51 = 13 := by decide
  have k50 : zk 50 = 5 := by decide
  refine ⟨fun z => ?_, fun z => ?_⟩
  · rcases z.1 with w | w
    · exact h3.1 (Or.inl (by omega))
    · by_cases e : q = 51
      · subst e
        by_cases hk : k < 5
        · exact h3.1 (Or.inr (Or.inl ⟨rfl, hk⟩))
        · rw [h3.2 (by omega), hz 51 ha.1 ha.2 k, if_pos ⟨k51, by omega⟩]
      · exact h3.1 (Or.inr (Or.inr ⟨by omega, z.2⟩))
  · refine h3.2 (fun w => z ?_)
    rcases w with ⟨rfl, rfl⟩ | ⟨rfl, w⟩ | w
    · exact ⟨Or.inl ⟨rfl, by decide⟩, zRr k50 (by decide)⟩
    · exact ⟨Or.inr ⟨by decide, by decide⟩, Or.inr k51⟩
    · exact ⟨Or.inr (by omega), w.2⟩
section ZCT2
variable (l : Launch) (G : zGt) (σ : zMem)
set_option maxHeartbeats 4000000 in
theorem c_X5_init (hz : zZ 50 101 σ) : zM l G yX5_init cX5_init 2 none false 3 192 50 190 51 101 [.ref (zB G + 50)] σ (zPv (fun τ => zOn 50 101 σ τ)) := by
  have s0 : zSx 50 0 51 σ σ := zSx.b
  refine zM.of (lv0 := [(0, _)]) (by decide) (Nat.le_of_ble_eq_true rfl) rfl (fun X C => ?_)
  refine z_aload_n (pc := 0) C dX5_init_0 rfl 0 rfl ?_
  refine z_obj (pc := 1) C oI_X5_3 oW dX5_init_1 ⟨by decide, by decide⟩ ?_
  refine z_aload_n (pc := 4) C dX5_init_4 rfl 0 rfl ?_
  refine z_iconst (pc := 5) C dX5_init_5 ?_
  refine z_newR (pc := 6) (n := 5) C rfl (by decide) nC_X5_9 dX5_init_6 (by decide) (by decide) (fun k hk => by rw [hz 51 (by omega) (by omega) k, if_neg (by omega)]) ⟨by decide, by decide⟩ ?_
  refine z_putR (pc := 9) C 51 fl_X5_11 fF_X5_11 dX5_init_9 (by decide) (by omega) rfl (by decide +kernel) (fun m9 e9 => ?_)
  have p0 : zPx 0 52 σ m9 := zPx.b e9
  refine z_iconst (pc := 12) C dX5_init_12 ?_
  refine z_istore_n (pc := 13) (lv' := [(1, _), (0, _)]) C dX5_init_13 rfl (by decide) rfl ?_
  refine z_iload_n (pc := 14) C dX5_init_14 rfl 0 rfl ?_
  refine z_aload_n (pc := 15) C dX5_init_15 rfl 1 rfl ?_
  refine z_getR (pc := 16) C 51 fl_X5_11 dX5_init_16 (by decide) (by omega) rfl (Or.inr (by rw [p0.f]; decide)) ?_
  refine z_alen (pc := 19) (n := 5) C dX5_init_19 (Or.inr (by decide)) (by omega) (by decide +kernel) ?_
  refine z_icmp_ge (pc := 20) (a := 0) (b := 5) (tgt := 42) C dX5_init_20 (by decide) ⟨by omega, by omega⟩ (fun c20 => by exfalso; omega) (fun c20 => ?_)
  refine z_aload_n (pc := 23) C dX5_init_23 rfl 1 rfl ?_
  refine z_getR (pc := 24) C 51 fl_X5_11 dX5_init_24 (by decide) (by omega) rfl (Or.inr (by rw [p0.f]; decide)) ?_
  refine z_iload_n (pc := 27) C dX5_init_27 rfl 0 rfl ?_
  refine z_new (pc := 28) (ci := 1) (n := 7) C (by decide) (by decide +kernel) nC_X5_9 nW_1.1 nW_1.2 dX5_init_28 (by decide) (fun k => (p0.o (by omega)).trans (hz.z (c := 1) (by decide) (by decide) (by omega) (by omega) k)) ⟨by decide, by decide⟩ ?_
  refine z_dup (pc := 31) C dX5_init_31 rfl ?_
  refine z_I (pc := 32) (rest := [.ref (zB G + 52), .int (zI 0), .ref (zB G + 51)]) C (c_X1_init l G _ 52 (by decide) (by decide) (by decide) (by decide) (by decide) (p0.zz hz (by omega))) ml_X5_17 yi_X1_init dX5_init_32 rfl rfl rfl (Nat.le_of_ble_eq_true rfl) ⟨⟨by decide, by decide⟩, by decide, by decide⟩ (by omega) (fun v0 t0 q0 => ?_)
  obtain ⟨rfl, w0⟩ := q0
  refine z_aastore (pc := 35) (a := 0) C 0 dX5_init_35 (by decide) (by omega) rfl (by decide) rfl (by decide) (by omega) (fun m0a e0a => ?_)
  have p1 : zPx 1 61 σ m0a := p0.step w0 e0a
  refine z_iinc (pc := 36) (lv' := [(1, _), (0, _)]) C dX5_init_36 0 rfl (by decide) rfl ?_
  refine z_goto (pc := 39) (tgt := 14) C dX5_init_39 (by decide) ?_
  refine z_iload_n (pc := 14) C dX5_init_14 rfl 0 rfl ?_
  refine z_aload_n (pc := 15) C dX5_init_15 rfl 1 rfl ?_
  refine z_getR (pc := 16) C 51 fl_X5_11 dX5_init_16 (by decide) (by omega) rfl (Or.inr (by rw [p1.f]; decide)) ?_
  refine z_alen (pc := 19) (n := 5) C dX5_init_19 (Or.inr (by decide)) (by omega) (by decide +kernel) ?_
  refine z_icmp_ge (pc := 20) (a := 1) (b := 5) (tgt := 42) C dX5_init_20 (by decide) ⟨by omega, by omega⟩ (fun c20 => by exfalso; omega) (fun c20 => ?_)
  refine z_aload_n (pc := 23) C dX5_init_23 rfl 1 rfl ?_
  refine z_getR (pc := 24) C 51 fl_X5_11 dX5_init_24 (by decide) (by omega) rfl (Or.inr (by rw [p1.f]; decide)) ?_
  refine z_iload_n (pc := 27) C dX5_init_27 rfl 0 rfl ?_
  refine z_new (pc := 28) (ci := 1) (n := 7) C (by decide) (by decide +kernel) nC_X5_9 nW_1.1 nW_1.2 dX5_init_28 (by decide) (fun k => (p1.o (by omega)).trans (hz.z (c := 1) (by decide) (by decide) (by omega) (by omega) k)) ⟨by decide, by decide⟩ ?_
  refine z_dup (pc := 31) C dX5_init_31 rfl ?_
  refine z_I (pc := 32) (rest := [.ref (zB G + 61), .int (zI 1), .ref (zB G + 51)]) C (c_X1_init l G _ 61 (by decide) (by decide) (by decide) (by decide) (by decide) (p1.zz hz (by omega))) ml_X5_17 yi_X1_init dX5_init_32 rfl rfl rfl (Nat.le_of_ble_eq_true rfl) ⟨⟨by decide, by decide⟩, by decide, by decide⟩ (by omega) (fun v1 t1 q1 => ?_)
  obtain ⟨rfl, w1⟩ := q1
  refine z_aastore (pc := 35) (a := 1) C 1 dX5_init_35 (by decide) (by omega) rfl (by decide) rfl (by decide) (by omega) (fun m1a e1a => ?_)
  have p2 : zPx 2 70 σ m1a := p1.step w1 e1a
  refine z_iinc (pc := 36) (lv' := [(1, _), (0, _)]) C dX5_init_36 0 rfl (by decide) rfl ?_
  refine z_goto (pc := 39) (tgt := 14) C dX5_init_39 (by decide) ?_
  refine z_iload_n (pc := 14) C dX5_init_14 rfl 0 rfl ?_
  refine z_aload_n (pc := 15) C dX5_init_15 rfl 1 rfl ?_
  refine z_getR (pc := 16) C 51 fl_X5_11 dX5_init_16 (by decide) (by omega) rfl (Or.inr (by rw [p2.f]; decide)) ?_
  refine z_alen (pc := 19) (n := 5) C dX5_init_19 (Or.inr (by decide)) (by omega) (by decide +kernel) ?_
  refine z_icmp_ge (pc := 20) (a := 2) (b := 5) (tgt := 42) C dX5_init_20 (by decide) ⟨by omega, by omega⟩ (fun c20 => by exfalso; omega) (fun c20 => ?_)
  refine z_aload_n (pc := 23) C dX5_init_23 rfl 1 rfl ?_
  refine z_getR (pc := 24) C 51 fl_X5_11 dX5_init_24 (by decide) (by omega) rfl (Or.inr (by rw [p2.f]; decide)) ?_
  refine z_iload_n (pc := 27) C dX5_init_27 rfl 0 rfl ?_
  refine z_new (pc := 28) (ci := 1) (n := 7) C (by decide) (by decide +kernel) nC_X5_9 nW_1.1 nW_1.2 dX5_init_28 (by decide) (fun k => (p2.o (by omega)).trans (hz.z (c := 1) (by decide) (by decide) (by omega) (by omega) k)) ⟨by decide, by decide⟩ ?_
  refine z_dup (pc := 31) C dX5_init_31 rfl ?_
  refine z_I (pc := 32) (rest := [.ref (zB G + 70), .int (zI 2), .ref (zB G + 51)]) C (c_X1_init l G _ 70 (by decide) (by decide) (by decide) (by decide) (by decide) (p2.zz hz (by omega))) ml_X5_17 yi_X1_init dX5_init_32 rfl rfl rfl (Nat.le_of_ble_eq_true rfl) ⟨⟨by decide, by decide⟩, by decide, by decide⟩ (by omega) (fun v2 t2 q2 => ?_)
  obtain ⟨rfl, w2⟩ := q2
  refine z_aastore (pc := 35) (a := 2) C 2 dX5_init_35 (by decide) (by omega) rfl (by decide) rfl (by decide) (by omega) (fun m2a e2a => ?_)
  have p3 : zPx 3 79 σ m2a := p2.step w2 e2a
  refine z_iinc (pc := 36) (lv' := [(1, _), (0, _)]) C dX5_init_36 0 rfl (by decide) rfl ?_
  refine z_goto (pc := 39) (tgt := 14) C dX5_init_39 (by decide) ?_
  refine z_iload_n (pc := 14) C dX5_init_14 rfl 0 rfl ?_
  refine z_aload_n (pc := 15) C dX5_init_15 rfl 1 rfl ?_
  refine z_getR (pc := 16) C 51 fl_X5_11 dX5_init_16 (by decide) (by omega) rfl (Or.inr (by rw [p3.f]; decide)) ?_
  refine z_alen (pc := 19) (n := 5) C dX5_init_19 (Or.inr (by decide)) (by omega) (by decide +kernel) ?_
  refine z_icmp_ge (pc := 20) (a := 3) (b := 5) (tgt := 42) C dX5_init_20 (by decide) ⟨by omega, by omega⟩ (fun c20 => by exfalso; omega) (fun c20 => ?_)
  refine z_aload_n (pc := 23) C dX5_init_23 rfl 1 rfl ?_
  refine z_getR (pc := 24) C 51 fl_X5_11 dX5_init_24 (by decide) (by omega) rfl (Or.inr (by rw [p3.f]; decide)) ?_
  refine z_iload_n (pc := 27) C dX5_init_27 rfl 0 rfl ?_
  refine z_new (pc := 28) (ci := 1) (n := 7) C (by decide) (by decide +kernel) nC_X5_9 nW_1.1 nW_1.2 dX5_init_28 (by decide) (fun k => (p3.o (by omega)).trans (hz.z (c := 1) (by decide) (by decide) (by omega) (by omega) k)) ⟨by decide, by decide⟩ ?_
  refine z_dup (pc := 31) C dX5_init_31 rfl ?_
  refine z_I (pc := 32) (rest := [.ref (zB G + 79), .int (zI 3), .ref (zB G + 51)]) C (c_X1_init l G _ 79 (by decide) (by decide) (by decide) (by decide) (by decide) (p3.zz hz (by omega))) ml_X5_17 yi_X1_init dX5_init_32 rfl rfl rfl (Nat.le_of_ble_eq_true rfl) ⟨⟨by decide, by decide⟩, by decide, by decide⟩ (by omega) (fun v3 t3 q3 => ?_)
  obtain ⟨rfl, w3⟩ := q3
  refine z_aastore (pc := 35) (a := 3) C 3 dX5_init_35 (by decide) (by omega) rfl (by decide) rfl (by decide) (by omega) (fun m3a e3a => ?_)
  have p4 : zPx 4 88 σ m3a := p3.step w3 e3a
  refine z_iinc (pc := 36) (lv' := [(1, _), (0, _)]) C dX5_init_36 0 rfl (by decide) rfl ?_
  refine z_goto (pc := 39) (tgt := 14) C dX5_init_39 (by decide) ?_
  refine z_iload_n (pc := 14) C dX5_init_14 rfl 0 rfl ?_
  refine z_aload_n (pc := 15) C dX5_init_15 rfl 1 rfl ?_
  refine z_getR (pc := 16) C 51 fl_X5_11 dX5_init_16 (by decide) (by omega) rfl (Or.inr (by rw [p4.f]; decide)) ?_
  refine z_alen (pc := 19) (n := 5) C dX5_init_19 (Or.inr (by decide)) (by omega) (by decide +kernel) ?_
  refine z_icmp_ge (pc := 20) (a := 4) (b := 5) (tgt := 42) C dX5_init_20 (by decide) ⟨by omega, by omega⟩ (fun c20 => by exfalso; omega) (fun c20 => ?_)
  refine z_aload_n (pc := 23) C dX5_init_23 rfl 1 rfl ?_
  refine z_getR (pc := 24) C 51 fl_X5_11 dX5_init_24 (by decide) (by omega) rfl (Or.inr (by rw [p4.f]; decide)) ?_
  refine z_iload_n (pc := 27) C dX5_init_27 rfl 0 rfl ?_
  refine z_new (pc := 28) (ci := 1) (n := 7) C (by decide) (by decide +kernel) nC_X5_9 nW_1.1 nW_1.2 dX5_init_28 (by decide) (fun k => (p4.o (by omega)).trans (hz.z (c := 1) (by decide) (by decide) (by omega) (by omega) k)) ⟨by decide, by decide⟩ ?_
  refine z_dup (pc := 31) C dX5_init_31 rfl ?_
  refine z_I (pc := 32) (rest := [.ref (zB G + 88), .int (zI 4), .ref (zB G + 51)]) C (c_X1_init l G _ 88 (by decide) (by decide) (by decide) (by decide) (by decide) (p4.zz hz (by omega))) ml_X5_17 yi_X1_init dX5_init_32 rfl rfl rfl (Nat.le_of_ble_eq_true rfl) ⟨⟨by decide, by decide⟩, by decide, by decide⟩ (by omega) (fun v4 t4 q4 => ?_)
  obtain ⟨rfl, w4⟩ := q4
  refine z_aastore (pc := 35) (a := 4) C 4 dX5_init_35 (by decide) (by omega) rfl (by decide) rfl (by decide) (by omega) (fun m4a e4a => ?_)
  have p5 : zPx 5 97 σ m4a := p4.step w4 e4a
  refine z_iinc (pc := 36) (lv' := [(1, _), (0, _)]) C dX5_init_36 0 rfl (by decide) rfl ?_
  refine z_goto (pc := 39) (tgt := 14) C dX5_init_39 (by decide) ?_
  refine z_iload_n (pc := 14) C dX5_init_14 rfl 0 rfl ?_
  refine z_aload_n (pc := 15) C dX5_init_15 rfl 1 rfl ?_
  refine z_getR (pc := 16) C 51 fl_X5_11 dX5_init_16 (by decide) (by omega) rfl (Or.inr (by rw [p5.f]; decide)) ?_
  refine z_alen (pc := 19) (n := 5) C dX5_init_19 (Or.inr (by decide)) (by omega) (by decide +kernel) ?_
  refine z_icmp_ge (pc := 20) (a := 5) (b := 5) (tgt := 42) C dX5_init_20 (by decide) ⟨by omega, by omega⟩ (fun c20 => ?_) (fun c20 => by exfalso; omega)
  have s5 : zSx 50 1 97 σ m4a := p5.sx hz
  refine z_aload_n (pc := 42) C dX5_init_42 rfl 1 rfl ?_
  refine z_new (pc := 43) (ci := 6) (n := 1) C (by decide) (by decide +kernel) nC_X5_18 nW_6.1 nW_6.2 dX5_init_43 (by decide) (fun k => (s5.o (by omega) (by omega)).trans (hz.z (c := 6) (by decide) (by decide) (by omega) (by omega) k)) ⟨by decide, by decide⟩ ?_
  refine z_dup (pc := 46) C dX5_init_46 rfl ?_
  refine z_iconst (pc := 47) C dX5_init_47 ?_
  refine z_I (pc := 48) (rest := [.ref (zB G + 97), .ref (zB G + 50)]) C (c_X6_init l G _ 97 4 _ rfl (by decide) (by decide) (s5.zz (by omega) hz (by omega) (by omega))) ml_X5_20 yi_X6_init dX5_init_48 rfl rfl rfl (Nat.le_of_ble_eq_true rfl) ⟨⟨by decide, by decide⟩, by decide, by decide⟩ (by omega) (fun v48 t48 q48 => ?_)
  obtain ⟨rfl, w48⟩ := q48
  have s48 : zSx 50 1 99 σ t48 := s5.step (by omega) (by omega) w48
  refine z_putR (pc := 51) C 97 fl_X5_23 fF_X5_23 dX5_init_51 (by decide) (by omega) rfl (by decide +kernel) (fun m51 e51 => ?_)
  have s51 : zSx 50 2 99 σ m51 := s48.put (zNr (c := 5) (by decide) (by decide)) (by omega) (zRr (c := 5) (by decide) (by decide)) _ e51
  refine z_aload_n (pc := 54) C dX5_init_54 rfl 1 rfl ?_
  refine z_new (pc := 55) (ci := 6) (n := 1) C (by decide) (by decide +kernel) nC_X5_18 nW_6.1 nW_6.2 dX5_init_55 (by decide) (fun k => (s51.o (by omega) (by omega)).trans (hz.z (c := 6) (by decide) (by decide) (by omega) (by omega) k)) ⟨by decide, by decide⟩ ?_
  refine z_dup (pc := 58) C dX5_init_58 rfl ?_
  refine z_iconst (pc := 59) C dX5_init_59 ?_
  refine z_I (pc := 60) (rest := [.ref (zB G + 99), .ref (zB G + 50)]) C (c_X6_init l G _ 99 4 _ rfl (by decide) (by decide) (s51.zz (by omega) hz (by omega) (by omega))) ml_X5_20 yi_X6_init dX5_init_60 rfl rfl rfl (Nat.le_of_ble_eq_true rfl) ⟨⟨by decide, by decide⟩, by decide, by decide⟩ (by omega) (fun v60 t60 q60 => ?_)
  obtain ⟨rfl, w60⟩ := q60
  have s60 : zSx 50 2 101 σ t60 := s51.step (by omega) (by omega) w60
  refine z_putR (pc := 63) C 99 fl_X5_27 fF_X5_27 dX5_init_63 (by decide) (by omega) rfl (by decide +kernel) (fun m63 e63 => ?_)
  have s63 : zSx 50 3 101 σ m63 := s60.put (zNr (c := 5) (by decide) (by decide)) (by omega) (zRr (c := 5) (by decide) (by decide)) _ e63
  refine z_widen (ce2 := 50) (sl2 := 190) (by decide) (by decide) ?_
  exact z_vret (pc := 66) C dX5_init_66 ⟨rfl, s63.fin (by omega) (zNe (c := 5) (by decide) (by decide))⟩
set_option maxHeartbeats 4000000 in
theorem c_X9_init (hz : zZ 0 108 σ) : zM l G yX9_init cX9_init 1 none false 4 256 107 528 1 108 [.ref (zB G + 0)] σ (zPv (fun τ => zOn 0 108 σ τ)) := by
  have s0 : zSx 0 0 1 σ σ := zSx.b
  refine zM.of (lv0 := [(0, _)]) (by decide) (Nat.le_of_ble_eq_true rfl) rfl (fun X C => ?_)
  refine z_aload_n (pc := 0) C dX9_init_0 rfl 0 rfl ?_
  refine z_obj (pc := 1) C oI_X9_1 oW dX9_init_1 ⟨by decide, by decide⟩ ?_
  refine z_aload_n (pc := 4) C dX9_init_4 rfl 0 rfl ?_
  refine z_new (pc := 5) (ci := 2) (n := 2) C (by decide) (by decide +kernel) nC_X9_7 nW_2.1 nW_2.2 dX9_init_5 (show zk 1 = 2 by decide) (fun k => (s0.o (by omega) (by omega)).trans (hz.z (show zk 1 = 2 by decide) (by decide) (by omega) (by omega) k)) ⟨by decide, by decide⟩ ?_
  refine z_dup (pc := 8) C dX9_init_8 rfl ?_
  refine z_I (pc := 9) (rest := [.ref (zB G + 1), .ref (zB G + 0)]) C (c_X2_init l G _ 1 (by decide) (by decide) (s0.zz (by omega) hz (by omega) (by omega))) ml_X9_9 yi_X2_init dX9_init_9 rfl rfl rfl (Nat.le_of_ble_eq_true rfl) ⟨⟨by decide, by decide⟩, by decide, by decide⟩ (by omega) (fun v9 t9 q9 => ?_)
  obtain ⟨rfl, w9⟩ := q9
  have s9 : zSx 0 0 4 σ t9 := s0.step (by omega) (by omega) w9
  refine z_putR (pc := 12) C 1 fl_X9_10 fF_X9_10 dX9_init_12 (show zk 0 = 9 by decide) (by omega) rfl (by decide +kernel) (fun m12 e12 => ?_)
  have s12 : zSx 0 1 4 σ m12 := s9.put (zNr (show zk 0 = 9 by decide) (by decide)) (by omega) (zRr (show zk 0 = 9 by decide) (by decide)) _ e12
  refine z_aload_n (pc := 15) C dX9_init_15 rfl 0 rfl ?_
  refine z_new (pc := 16) (ci := 1) (n := 7) C (by decide) (by decide +kernel) nC_X9_16 nW_1.1 nW_1.2 dX9_init_16 (show zk 4 = 1 by decide) (fun k => (s12.o (by omega) (by omega)).trans (hz.z (show zk 4 = 1 by decide) (by decide) (by omega) (by omega) k)) ⟨by decide, by decide⟩ ?_
  refine z_dup (pc := 19) C dX9_init_19 rfl ?_
  refine z_I (pc := 20) (rest := [.ref (zB G + 4), .ref (zB G + 0)]) C (c_X1_init l G _ 4 (by decide) (by decide) (by decide) (by decide) (by decide) (s12.zz (by omega) hz (by omega) (by omega))) ml_X9_18 yi_X1_init dX9_init_20 rfl rfl rfl (Nat.le_of_ble_eq_true rfl) ⟨⟨by decide, by decide⟩, by decide, by decide⟩ (by omega) (fun v20 t20 q20 => ?_)
  obtain ⟨rfl, w20⟩ := q20
  have s20 : zSx 0 1 13 σ t20 := s12.step (by omega) (by omega) w20
  refine z_putR (pc := 23) C 4 fl_X9_19 fF_X9_19 dX9_init_23 (show zk 0 = 9 by decide) (by omega) rfl (by decide +kernel) (fun m23 e23 => ?_)
  have s23 : zSx 0 2 13 σ m23 := s20.put (zNr (show zk 0 = 9 by decide) (by decide)) (by omega) (zRr (show zk 0 = 9 by decide) (by decide)) _ e23
  refine z_aload_n (pc := 26) C dX9_init_26 rfl 0 rfl ?_
  refine z_new (pc := 27) (ci := 8) (n := 4) C (by decide) (by decide +kernel) nC_X9_23 nW_8.1 nW_8.2 dX9_init_27 (show zk 13 = 8 by decide) (fun k => (s23.o (by omega) (by omega)).trans (hz.z (show zk 13 = 8 by decide) (by decide) (by omega) (by omega) k)) ⟨by decide, by decide⟩ ?_
  refine z_dup (pc := 30) C dX9_init_30 rfl ?_
  refine z_I (pc := 31) (rest := [.ref (zB G + 13), .ref (zB G + 0)]) C (c_X8_init l G _ 13 (by decide) (by decide) (by decide) (by decide) (s23.zz (by omega) hz (by omega) (by omega))) ml_X9_25 yi_X8_init dX9_init_31 rfl rfl rfl (Nat.le_of_ble_eq_true rfl) ⟨⟨by decide, by decide⟩, by decide, by decide⟩ (by omega) (fun v31 t31 q31 => ?_)
  obtain ⟨rfl, w31⟩ := q31
  have s31 : zSx 0 2 20 σ t31 := s23.step (by omega) (by omega) w31
  refine z_putR (pc := 34) C 13 fl_X9_26 fF_X9_26 dX9_init_34 (show zk 0 = 9 by decide) (by omega) rfl (by decide +kernel) (fun m34 e34 => ?_)
  have s34 : zSx 0 3 20 σ m34 := s31.put (zNr (show zk 0 = 9 by decide) (by decide)) (by omega) (zRr (show zk 0 = 9 by decide) (by decide)) _ e34
  refine z_aload_n (pc := 37) C dX9_init_37 rfl 0 rfl ?_
  refine z_new (pc := 38) (ci := 1) (n := 7) C (by decide) (by decide +kernel) nC_X9_16 nW_1.1 nW_1.2 dX9_init_38 (show zk 20 = 1 by decide) (fun k => (s34.o (by omega) (by omega)).trans (hz.z (show zk 20 = 1 by decide) (by decide) (by omega) (by omega) k)) ⟨by decide, by decide⟩ ?_
  refine z_dup (pc := 41) C dX9_init_41 rfl ?_
  refine z_I (pc := 42) (rest := [.ref (zB G + 20), .ref (zB G + 0)]) C (c_X1_init l G _ 20 (by decide) (by decide) (by decide) (by decide) (by decide) (s34.zz (by omega) hz (by omega) (by omega))) ml_X9_18 yi_X1_init dX9_init_42 rfl rfl rfl (Nat.le_of_ble_eq_true rfl) ⟨⟨by decide, by decide⟩, by decide, by decide⟩ (by omega) (fun v42 t42 q42 => ?_)
  obtain ⟨rfl, w42⟩ := q42
  have s42 : zSx 0 3 29 σ t42 := s34.step (by omega) (by omega) w42
  refine z_putR (pc := 45) C 20 fl_X9_30 fF_X9_30 dX9_init_45 (show zk 0 = 9 by decide) (by omega) rfl (by decide +kernel) (fun m45 e45 => ?_)
  have s45 : zSx 0 4 29 σ m45 := s42.put (zNr (show zk 0 = 9 by decide) (by decide)) (by omega) (zRr (show zk 0 = 9 by decide) (by decide)) _ e45
  refine z_aload_n (pc := 48) C dX9_init_48 rfl 0 rfl ?_
  refine z_new (pc := 49) (ci := 8) (n := 4) C (by decide) (by decide +kernel) nC_X9_23 nW_8.1 nW_8.2 dX9_init_49 (show zk 29 = 8 by decide) (fun k => (s45.o (by omega) (by omega)).trans (hz.z (show zk 29 = 8 by decide) (by decide) (by omega) (by omega) k)) ⟨by decide, by decide⟩ ?_
  refine z_dup (pc := 52) C dX9_init_52 rfl ?_
  refine z_I (pc := 53) (rest := [.ref (zB G + 29), .ref (zB G + 0)]) C (c_X8_init l G _ 29 (by decide) (by decide) (by decide) (by decide) (s45.zz (by omega) hz (by omega) (by omega))) ml_X9_25 yi_X8_init dX9_init_53 rfl rfl rfl (Nat.le_of_ble_eq_true rfl) ⟨⟨by decide, by decide⟩, by decide, by decide⟩ (by omega) (fun v53 t53 q53 => ?_)
  obtain ⟨rfl, w53⟩ := q53
  have s53 : zSx 0 4 36 σ t53 := s45.step (by omega) (by omega) w53
  refine z_putR (pc := 56) C 29 fl_X9_33 fF_X9_33 dX9_init_56 (show zk 0 = 9 by decide) (by omega) rfl (by decide +kernel) (fun m56 e56 => ?_)
  have s56 : zSx 0 5 36 σ m56 := s53.put (zNr (show zk 0 = 9 by decide) (by decide)) (by omega) (zRr (show zk 0 = 9 by decide) (by decide)) _ e56
  refine z_aload_n (pc := 59) C dX9_init_59 rfl 0 rfl ?_
  refine z_new (pc := 60) (ci := 1) (n := 7) C (by decide) (by decide +kernel) nC_X9_16 nW_1.1 nW_1.2 dX9_init_60 (show zk 36 = 1 by decide) (fun k => (s56.o (by omega) (by omega)).trans (hz.z (show zk 36 = 1 by decide) (by decide) (by omega) (by omega) k)) ⟨by decide, by decide⟩ ?_
  refine z_dup (pc := 63) C dX9_init_63 rfl ?_
  refine z_I (pc := 64) (rest := [.ref (zB G + 36), .ref (zB G + 0)]) C (c_X1_init l G _ 36 (by decide) (by decide) (by decide) (by decide) (by decide) (s56.zz (by omega) hz (by omega) (by omega))) ml_X9_18 yi_X1_init dX9_init_64 rfl rfl rfl (Nat.le_of_ble_eq_true rfl) ⟨⟨by decide, by decide⟩, by decide, by decide⟩ (by omega) (fun v64 t64 q64 => ?_)
  obtain ⟨rfl, w64⟩ := q64
  have s64 : zSx 0 5 45 σ t64 := s56.step (by omega) (by omega) w64
  refine z_putR (pc := 67) C 36 fl_X9_36 fF_X9_36 dX9_init_67 (show zk 0 = 9 by decide) (by omega) rfl (by decide +kernel) (fun m67 e67 => ?_)
  have s67 : zSx 0 6 45 σ m67 := s64.put (zNr (show zk 0 = 9 by decide) (by decide)) (by omega) (zRr (show zk 0 = 9 by decide) (by decide)) _ e67
  refine z_aload_n (pc := 70) C dX9_init_70 rfl 0 rfl ?_
  refine z_new (pc := 71) (ci := 7) (n := 2) C (by decide) (by decide +kernel) nC_X9_39 nW_7.1 nW_7.2 dX9_init_71 (show zk 45 = 7 by decide) (fun k => (s67.o (by omega) (by omega)).trans (hz.z (show zk 45 = 7 by decide) (by decide) (by omega) (by omega) k)) ⟨by decide, by decide⟩ ?_
  refine z_dup (pc := 74) C dX9_init_74 rfl ?_
  refine z_I (pc := 75) (rest := [.ref (zB G + 45), .ref (zB G + 0)]) C (c_X7_init l G _ 45 (by decide) (by decide) (by decide) (s67.zz (by omega) hz (by omega) (by omega))) ml_X9_41 yi_X7_init dX9_init_75 rfl rfl rfl (Nat.le_of_ble_eq_true rfl) ⟨⟨by decide, by decide⟩, by decide, by decide⟩ (by omega) (fun v75 t75 q75 => ?_)
  obtain ⟨rfl, w75⟩ := q75
  have s75 : zSx 0 6 50 σ t75 := s67.step (by omega) (by omega) w75
  refine z_putR (pc := 78) C 45 fl_X9_42 fF_X9_42 dX9_init_78 (show zk 0 = 9 by decide) (by omega) rfl (by decide +kernel) (fun m78 e78 => ?_)
  have s78 : zSx 0 7 50 σ m78 := s75.put (zNr (show zk 0 = 9 by decide) (by decide)) (by omega) (zRr (show zk 0 = 9 by decide) (by decide)) _ e78
  refine z_aload_n (pc := 81) C dX9_init_81 rfl 0 rfl ?_
  refine z_new (pc := 82) (ci := 5) (n := 7) C (by decide) (by decide +kernel) nC_X9_46 nW_5.1 nW_5.2 dX9_init_82 (show zk 50 = 5 by decide) (fun k => (s78.o (by omega) (by omega)).trans (hz.z (show zk 50 = 5 by decide) (by decide) (by omega) (by omega) k)) ⟨by decide, by decide⟩ ?_
  refine z_dup (pc := 85) C dX9_init_85 rfl ?_
  refine z_I (pc := 86) (rest := [.ref (zB G + 50), .ref (zB G + 0)]) C (c_X5_init l G _ (s78.zz (by omega) hz (by omega) (by omega))) ml_X9_48 yi_X5_init dX9_init_86 rfl rfl rfl (Nat.le_of_ble_eq_true rfl) ⟨⟨by decide, by decide⟩, by decide, by decide⟩ (by omega) (fun v86 t86 q86 => ?_)
  obtain ⟨rfl, w86⟩ := q86
  have s86 : zSx 0 7 101 σ t86 := s78.step (by omega) (by omega) w86
  refine z_putR (pc := 89) C 50 fl_X9_49 fF_X9_49 dX9_init_89 (show zk 0 = 9 by decide) (by omega) rfl (by decide +kernel) (fun m89 e89 => ?_)
  have s89 : zSx 0 8 101 σ m89 := s86.put (zNr (show zk 0 = 9 by decide) (by decide)) (by omega) (zRr (show zk 0 = 9 by decide) (by decide)) _ e89
  refine z_aload_n (pc := 92) C dX9_init_92 rfl 0 rfl ?_
  refine z_new (pc := 93) (ci := 3) (n := 3) C (by decide) (by decide +kernel) nC_X9_53 nW_3.1 nW_3.2 dX9_init_93 (show zk 101 = 3 by decide) (fun k => (s89.o (by omega) (by omega)).trans (hz.z (show zk 101 = 3 by decide) (by decide) (by omega) (by omega) k)) ⟨by decide, by decide⟩ ?_
  refine z_dup (pc := 96) C dX9_init_96 rfl ?_
  refine z_I (pc := 97) (rest := [.ref (zB G + 101), .ref (zB G + 0)]) C (c_X3_init l G _ 101 (by decide) (by decide) (by decide) (s89.zz (by omega) hz (by omega) (by omega))) ml_X9_55 yi_X3_init dX9_init_97 rfl rfl rfl (Nat.le_of_ble_eq_true rfl) ⟨⟨by decide, by decide⟩, by decide, by decide⟩ (by omega) (fun v97 t97 q97 => ?_)
  obtain ⟨rfl, w97⟩ := q97
  have s97 : zSx 0 8 106 σ t97 := s89.step (by omega) (by omega) w97
  refine z_putR (pc := 100) C 101 fl_X9_56 fF_X9_56 dX9_init_100 (show zk 0 = 9 by decide) (by omega) rfl (by decide +kernel) (fun m100 e100 => ?_)
  have s100 : zSx 0 9 106 σ m100 := s97.put (zNr (show zk 0 = 9 by decide) (by decide)) (by omega) (zRr (show zk 0 = 9 by decide) (by decide)) _ e100
  refine z_aload_n (pc := 103) C dX9_init_103 rfl 0 rfl ?_
  refine z_new (pc := 104) (ci := 4) (n := 4) C (by decide) (by decide +kernel) nC_X9_60 nW_4.1 nW_4.2 dX9_init_104 (show zk 106 = 4 by decide) (fun k => (s100.o (by omega) (by omega)).trans (hz.z (show zk 106 = 4 by decide) (by decide) (by omega) (by omega) k)) ⟨by decide, by decide⟩ ?_
  refine z_dup (pc := 107) C dX9_init_107 rfl ?_
  refine z_I (pc := 108) (rest := [.ref (zB G + 106), .ref (zB G + 0)]) C (c_X4_init l G _ 106 (by decide) (s100.zz (by omega) hz (by omega) (by omega))) ml_X9_62 yi_X4_init dX9_init_108 rfl rfl rfl (Nat.le_of_ble_eq_true rfl) ⟨⟨by decide, by decide⟩, by decide, by decide⟩ (by omega) (fun v108 t108 q108 => ?_)
  obtain ⟨rfl, w108⟩ := q108
  have s108 : zSx 0 9 107 σ t108 := s100.step (by omega) (by omega) w108
  refine z_putR (pc := 111) C 106 fl_X9_63 fF_X9_63 dX9_init_111 (show zk 0 = 9 by decide) (by omega) rfl (by decide +kernel) (fun m111 e111 => ?_)
  have s111 : zSx 0 10 107 σ m111 := s108.put (zNr (show zk 0 = 9 by decide) (by decide)) (by omega) (zRr (show zk 0 = 9 by decide) (by decide)) _ e111
  refine z_aload_n (pc := 114) C dX9_init_114 rfl 0 rfl ?_
  refine z_new (pc := 115) (ci := 0) (n := 1) C (by decide) (by decide +kernel) nC_X9_67 nW_0.1 nW_0.2 dX9_init_115 (show zk 107 = 0 by decide) (fun k => (s111.o (by omega) (by omega)).trans (hz.z (show zk 107 = 0 by decide) (by decide) (by omega) (by omega) k)) ⟨by decide, by decide⟩ ?_
  refine z_dup (pc := 118) C dX9_init_118 rfl ?_
  refine z_I (pc := 119) (rest := [.ref (zB G + 107), .ref (zB G + 0)]) C (c_X0_init l G _ 107 (by decide) (s111.zz (by omega) hz (by omega) (by omega))) ml_X9_69 yi_X0_init dX9_init_119 rfl rfl rfl (Nat.le_of_ble_eq_true rfl) ⟨⟨by decide, by decide⟩, by decide, by decide⟩ (by omega) (fun v119 t119 q119 => ?_)
  obtain ⟨rfl, w119⟩ := q119
  have s119 : zSx 0 10 108 σ t119 := s111.step (by omega) (by omega) w119
  refine z_putR (pc := 122) C 107 fl_X9_70 fF_X9_70 dX9_init_122 (show zk 0 = 9 by decide) (by omega) rfl (by decide +kernel) (fun m122 e122 => ?_)
  have s122 : zSx 0 11 108 σ m122 := s119.put (zNr (show zk 0 = 9 by decide) (by decide)) (by omega) (zRr (show zk 0 = 9 by decide) (by decide)) _ e122
  refine z_aload_n (pc := 125) C dX9_init_125 rfl 0 rfl ?_
  refine z_iconst (pc := 126) C dX9_init_126 ?_
  refine z_putZe (pc := 127) C fl_X9_74 dX9_init_127 (show zk 0 = 9 by decide) (by omega) (by omega) (fun m127 e127 => ?_)
  have s127 : zSx 0 11 108 σ m127 := s122.put0 (zNk (show zk 0 = 9 by decide) (by decide)) (hz.z (show zk 0 = 9 by decide) (by decide) (by omega) (by omega) _) _ e127
  refine z_aload_n (pc := 130) C dX9_init_130 rfl 0 rfl ?_
  refine z_iconst (pc := 131) C dX9_init_131 ?_
  refine z_putIe (pc := 132) C fl_X9_78 dX9_init_132 (show zk 0 = 9 by decide) (by omega) (by omega) (fun m132 e132 => ?_)
  have s132 : zSx 0 11 108 σ m132 := s127.put0 (zNk (show zk 0 = 9 by decide) (by decide)) (hz.z (show zk 0 = 9 by decide) (by decide) (by omega) (by omega) _) _ e132
  refine z_widen (ce2 := 107) (sl2 := 528) (by decide) (by decide) ?_
  exact z_vret (pc := 135) C dX9_init_135 ⟨rfl, s132.fin (by omega) (zNe (show zk 0 = 9 by decide) (by decide))⟩
set_option maxHeartbeats 4000000 in
theorem c_X10_init (hz : zZ 108 129 σ) : zM l G yX10_init cX10_init 1 none false 1 64 20 299 109 129 [.ref (zB G + 108)] σ (zPv (fun τ => zOn 108 129 σ τ)) := by
  have s0 : zSx 108 0 109 σ σ := zSx.b
  refine zM.of (lv0 := [(0, _)]) (by decide) (Nat.le_of_ble_eq_true rfl) rfl (fun X C => ?_)
  refine z_aload_n (pc := 0) C dX10_init_0 rfl 0 rfl ?_
  refine z_obj (pc := 1) C oI_X10_1 oW dX10_init_1 ⟨by decide, by decide⟩ ?_
  refine z_aload_n (pc := 4) C dX10_init_4 rfl 0 rfl ?_
  refine z_bipush (pc := 5) C dX10_init_5 (by decide +kernel) ?_
  refine z_newI (pc := 7) (n := 6) C rfl (by decide) aI.1 dX10_init_7 (show zk 109 = 11 by decide) (by decide +kernel) (fun k => (s0.o (by omega) (by omega)).trans (hz.z (show zk 109 = 11 by decide) (by decide) (by omega) (by omega) k)) ⟨by decide, by decide⟩ ?_
  have s7 : zSx 108 0 110 σ _ := s0.arr (by omega) (zNa (show zk 109 = 11 by decide) (by decide))
  refine z_putR (pc := 9) C 109 fl_X10_7 fF_X10_7 dX10_init_9 (show zk 108 = 10 by decide) (by omega) rfl (by decide +kernel) (fun m9 e9 => ?_)
  have s9 : zSx 108 3 110 σ m9 := s7.put (zNr (show zk 108 = 10 by decide) (by decide)) (by omega) (zRr (show zk 108 = 10 by decide) (by decide)) _ e9
  refine z_aload_n (pc := 12) C dX10_init_12 rfl 0 rfl ?_
  refine z_bipush (pc := 13) C dX10_init_13 (by decide +kernel) ?_
  refine z_newI (pc := 15) (n := 6) C rfl (by decide) aI.1 dX10_init_15 (show zk 110 = 11 by decide) (by decide +kernel) (fun k => (s9.o (by omega) (by omega)).trans (hz.z (show zk 110 = 11 by decide) (by decide) (by omega) (by omega) k)) ⟨by decide, by decide⟩ ?_
  have s15 : zSx 108 3 111 σ _ := s9.arr (by omega) (zNa (show zk 110 = 11 by decide) (by decide))
  refine z_putR (pc := 17) C 110 fl_X10_13 fF_X10_13 dX10_init_17 (show zk 108 = 10 by decide) (by omega) rfl (by decide +kernel) (fun m17 e17 => ?_)
  have s17 : zSx 108 4 111 σ m17 := s15.put (zNr (show zk 108 = 10 by decide) (by decide)) (by omega) (zRr (show zk 108 = 10 by decide) (by decide)) _ e17
  refine z_aload_n (pc := 20) C dX10_init_20 rfl 0 rfl ?_
  refine z_bipush (pc := 21) C dX10_init_21 (by decide +kernel) ?_
  refine z_newI (pc := 23) (n := 6) C rfl (by decide) aI.1 dX10_init_23 (show zk 111 = 11 by decide) (by decide +kernel) (fun k => (s17.o (by omega) (by omega)).trans (hz.z (show zk 111 = 11 by decide) (by decide) (by omega) (by omega) k)) ⟨by decide, by decide⟩ ?_
  have s23 : zSx 108 4 112 σ _ := s17.arr (by omega) (zNa (show zk 111 = 11 by decide) (by decide))
  refine z_putR (pc := 25) C 111 fl_X10_16 fF_X10_16 dX10_init_25 (show zk 108 = 10 by decide) (by omega) rfl (by decide +kernel) (fun m25 e25 => ?_)
  have s25 : zSx 108 5 112 σ m25 := s23.put (zNr (show zk 108 = 10 by decide) (by decide)) (by omega) (zRr (show zk 108 = 10 by decide) (by decide)) _ e25
  refine z_aload_n (pc := 28) C dX10_init_28 rfl 0 rfl ?_
  refine z_bipush (pc := 29) C dX10_init_29 (by decide +kernel) ?_
  refine z_newI (pc := 31) (n := 6) C rfl (by decide) aI.1 dX10_init_31 (show zk 112 = 11 by decide) (by decide +kernel) (fun k => (s25.o (by omega) (by omega)).trans (hz.z (show zk 112 = 11 by decide) (by decide) (by omega) (by omega) k)) ⟨by decide, by decide⟩ ?_
  have s31 : zSx 108 5 113 σ _ := s25.arr (by omega) (zNa (show zk 112 = 11 by decide) (by decide))
  refine z_putR (pc := 33) C 112 fl_X10_19 fF_X10_19 dX10_init_33 (show zk 108 = 10 by decide) (by omega) rfl (by decide +kernel) (fun m33 e33 => ?_)
  have s33 : zSx 108 10 113 σ m33 := s31.put (zNr (show zk 108 = 10 by decide) (by decide)) (by omega) (zRr (show zk 108 = 10 by decide) (by decide)) _ e33
  refine z_aload_n (pc := 36) C dX10_init_36 rfl 0 rfl ?_
  refine z_bipush (pc := 37) C dX10_init_37 (by decide +kernel) ?_
  refine z_newI (pc := 39) (n := 6) C rfl (by decide) aI.1 dX10_init_39 (show zk 113 = 11 by decide) (by decide +kernel) (fun k => (s33.o (by omega) (by omega)).trans (hz.z (show zk 113 = 11 by decide) (by decide) (by omega) (by omega) k)) ⟨by decide, by decide⟩ ?_
  have s39 : zSx 108 10 114 σ _ := s33.arr (by omega) (zNa (show zk 113 = 11 by decide) (by decide))
  refine z_putR (pc := 41) C 113 fl_X10_22 fF_X10_22 dX10_init_41 (show zk 108 = 10 by decide) (by omega) rfl (by decide +kernel) (fun m41 e41 => ?_)
  have s41 : zSx 108 11 114 σ m41 := s39.put (zNr (show zk 108 = 10 by decide) (by decide)) (by omega) (zRr (show zk 108 = 10 by decide) (by decide)) _ e41
  refine z_aload_n (pc := 44) C dX10_init_44 rfl 0 rfl ?_
  refine z_bipush (pc := 45) C dX10_init_45 (by decide +kernel) ?_
  refine z_newI (pc := 47) (n := 6) C rfl (by decide) aI.1 dX10_init_47 (show zk 114 = 11 by decide) (by decide +kernel) (fun k => (s41.o (by omega) (by omega)).trans (hz.z (show zk 114 = 11 by decide) (by decide) (by omega) (by omega) k)) ⟨by decide, by decide⟩ ?_
  have s47 : zSx 108 11 115 σ _ := s41.arr (by omega) (zNa (show zk 114 = 11 by decide) (by decide))
  refine z_putR (pc := 49) C 114 fl_X10_25 fF_X10_25 dX10_init_49 (show zk 108 = 10 by decide) (by omega) rfl (by decide +kernel) (fun m49 e49 => ?_)
  have s49 : zSx 108 12 115 σ m49 := s47.put (zNr (show zk 108 = 10 by decide) (by decide)) (by omega) (zRr (show zk 108 = 10 by decide) (by decide)) _ e49
  refine z_aload_n (pc := 52) C dX10_init_52 rfl 0 rfl ?_
  refine z_bipush (pc := 53) C dX10_init_53 (by decide +kernel) ?_
  refine z_newB (pc := 55) (n := 26) C rfl (by decide) aI.2 dX10_init_55 (show zk 115 = 12 by decide) (by decide +kernel) (fun k => (s49.o (by omega) (by omega)).trans (hz.z (show zk 115 = 12 by decide) (by decide) (by omega) (by omega) k)) ⟨by decide, by decide⟩ ?_
  have s55 : zSx 108 12 116 σ _ := s49.arr (by omega) (zNa (show zk 115 = 12 by decide) (by decide))
  refine z_putR (pc := 57) C 115 fl_X10_28 fF_X10_28 dX10_init_57 (show zk 108 = 10 by decide) (by omega) rfl (by decide +kernel) (fun m57 e57 => ?_)
  have s57 : zSx 108 14 116 σ m57 := s55.put (zNr (show zk 108 = 10 by decide) (by decide)) (by omega) (zRr (show zk 108 = 10 by decide) (by decide)) _ e57
  refine z_aload_n (pc := 60) C dX10_init_60 rfl 0 rfl ?_
  refine z_bipush (pc := 61) C dX10_init_61 (by decide +kernel) ?_
  refine z_newI (pc := 63) (n := 6) C rfl (by decide) aI.1 dX10_init_63 (show zk 116 = 11 by decide) (by decide +kernel) (fun k => (s57.o (by omega) (by omega)).trans (hz.z (show zk 116 = 11 by decide) (by decide) (by omega) (by omega) k)) ⟨by decide, by decide⟩ ?_
  have s63 : zSx 108 14 117 σ _ := s57.arr (by omega) (zNa (show zk 116 = 11 by decide) (by decide))
  refine z_putR (pc := 65) C 116 fl_X10_32 fF_X10_32 dX10_init_65 (show zk 108 = 10 by decide) (by omega) rfl (by decide +kernel) (fun m65 e65 => ?_)
  have s65 : zSx 108 17 117 σ m65 := s63.put (zNr (show zk 108 = 10 by decide) (by decide)) (by omega) (zRr (show zk 108 = 10 by decide) (by decide)) _ e65
  refine z_aload_n (pc := 68) C dX10_init_68 rfl 0 rfl ?_
  refine z_bipush (pc := 69) C dX10_init_69 (by decide +kernel) ?_
  refine z_newI (pc := 71) (n := 6) C rfl (by decide) aI.1 dX10_init_71 (show zk 117 = 11 by decide) (by decide +kernel) (fun k => (s65.o (by omega) (by omega)).trans (hz.z (show zk 117 = 11 by decide) (by decide) (by omega) (by omega) k)) ⟨by decide, by decide⟩ ?_
  have s71 : zSx 108 17 118 σ _ := s65.arr (by omega) (zNa (show zk 117 = 11 by decide) (by decide))
  refine z_putR (pc := 73) C 117 fl_X10_35 fF_X10_35 dX10_init_73 (show zk 108 = 10 by decide) (by omega) rfl (by decide +kernel) (fun m73 e73 => ?_)
  have s73 : zSx 108 18 118 σ m73 := s71.put (zNr (show zk 108 = 10 by decide) (by decide)) (by omega) (zRr (show zk 108 = 10 by decide) (by decide)) _ e73
  refine z_aload_n (pc := 76) C dX10_init_76 rfl 0 rfl ?_
  refine z_bipush (pc := 77) C dX10_init_77 (by decide +kernel) ?_
  refine z_newI (pc := 79) (n := 64) C rfl (by decide) aI.1 dX10_init_79 (show zk 118 = 11 by decide) (by decide +kernel) (fun k => (s73.o (by omega) (by omega)).trans (hz.z (show zk 118 = 11 by decide) (by decide) (by omega) (by omega) k)) ⟨by decide, by decide⟩ ?_
  have s79 : zSx 108 18 119 σ _ := s73.arr (by omega) (zNa (show zk 118 = 11 by decide) (by decide))
  refine z_putR (pc := 81) C 118 fl_X10_38 fF_X10_38 dX10_init_81 (show zk 108 = 10 by decide) (by omega) rfl (by decide +kernel) (fun m81 e81 => ?_)
  have s81 : zSx 108 24 119 σ m81 := s79.put (zNr (show zk 108 = 10 by decide) (by decide)) (by omega) (zRr (show zk 108 = 10 by decide) (by decide)) _ e81
  refine z_aload_n (pc := 84) C dX10_init_84 rfl 0 rfl ?_
  refine z_bipush (pc := 85) C dX10_init_85 (by decide +kernel) ?_
  refine z_newI (pc := 87) (n := 6) C rfl (by decide) aI.1 dX10_init_87 (show zk 119 = 11 by decide) (by decide +kernel) (fun k => (s81.o (by omega) (by omega)).trans (hz.z (show zk 119 = 11 by decide) (by decide) (by omega) (by omega) k)) ⟨by decide, by decide⟩ ?_
  have s87 : zSx 108 24 120 σ _ := s81.arr (by omega) (zNa (show zk 119 = 11 by decide) (by decide))
  refine z_putR (pc := 89) C 119 fl_X10_41 fF_X10_41 dX10_init_89 (show zk 108 = 10 by decide) (by omega) rfl (by decide +kernel) (fun m89 e89 => ?_)
  have s89 : zSx 108 25 120 σ m89 := s87.put (zNr (show zk 108 = 10 by decide) (by decide)) (by omega) (zRr (show zk 108 = 10 by decide) (by decide)) _ e89
  refine z_aload_n (pc := 92) C dX10_init_92 rfl 0 rfl ?_
  refine z_bipush (pc := 93) C dX10_init_93 (by decide +kernel) ?_
  refine z_newI (pc := 95) (n := 49) C rfl (by decide) aI.1 dX10_init_95 (show zk 120 = 11 by decide) (by decide +kernel) (fun k => (s89.o (by omega) (by omega)).trans (hz.z (show zk 120 = 11 by decide) (by decide) (by omega) (by omega) k)) ⟨by decide, by decide⟩ ?_
  have s95 : zSx 108 25 121 σ _ := s89.arr (by omega) (zNa (show zk 120 = 11 by decide) (by decide))
  refine z_putR (pc := 97) C 120 fl_X10_44 fF_X10_44 dX10_init_97 (show zk 108 = 10 by decide) (by omega) rfl (by decide +kernel) (fun m97 e97 => ?_)
  have s97 : zSx 108 26 121 σ m97 := s95.put (zNr (show zk 108 = 10 by decide) (by decide)) (by omega) (zRr (show zk 108 = 10 by decide) (by decide)) _ e97
  refine z_aload_n (pc := 100) C dX10_init_100 rfl 0 rfl ?_
  refine z_bipush (pc := 101) C dX10_init_101 (by decide +kernel) ?_
  refine z_newI (pc := 103) (n := 49) C rfl (by decide) aI.1 dX10_init_103 (show zk 121 = 11 by decide) (by decide +kernel) (fun k => (s97.o (by omega) (by omega)).trans (hz.z (show zk 121 = 11 by decide) (by decide) (by omega) (by omega) k)) ⟨by decide, by decide⟩ ?_
  have s103 : zSx 108 26 122 σ _ := s97.arr (by omega) (zNa (show zk 121 = 11 by decide) (by decide))
  refine z_putR (pc := 105) C 121 fl_X10_47 fF_X10_47 dX10_init_105 (show zk 108 = 10 by decide) (by omega) rfl (by decide +kernel) (fun m105 e105 => ?_)
  have s105 : zSx 108 27 122 σ m105 := s103.put (zNr (show zk 108 = 10 by decide) (by decide)) (by omega) (zRr (show zk 108 = 10 by decide) (by decide)) _ e105
  refine z_aload_n (pc := 108) C dX10_init_108 rfl 0 rfl ?_
  refine z_bipush (pc := 109) C dX10_init_109 (by decide +kernel) ?_
  refine z_newI (pc := 111) (n := 21) C rfl (by decide) aI.1 dX10_init_111 (show zk 122 = 11 by decide) (by decide +kernel) (fun k => (s105.o (by omega) (by omega)).trans (hz.z (show zk 122 = 11 by decide) (by decide) (by omega) (by omega) k)) ⟨by decide, by decide⟩ ?_
  have s111 : zSx 108 27 123 σ _ := s105.arr (by omega) (zNa (show zk 122 = 11 by decide) (by decide))
  refine z_putR (pc := 113) C 122 fl_X10_50 fF_X10_50 dX10_init_113 (show zk 108 = 10 by decide) (by omega) rfl (by decide +kernel) (fun m113 e113 => ?_)
  have s113 : zSx 108 28 123 σ m113 := s111.put (zNr (show zk 108 = 10 by decide) (by decide)) (by omega) (zRr (show zk 108 = 10 by decide) (by decide)) _ e113
  refine z_aload_n (pc := 116) C dX10_init_116 rfl 0 rfl ?_
  refine z_bipush (pc := 117) C dX10_init_117 (by decide +kernel) ?_
  refine z_newI (pc := 119) (n := 6) C rfl (by decide) aI.1 dX10_init_119 (show zk 123 = 11 by decide) (by decide +kernel) (fun k => (s113.o (by omega) (by omega)).trans (hz.z (show zk 123 = 11 by decide) (by decide) (by omega) (by omega) k)) ⟨by decide, by decide⟩ ?_
  have s119 : zSx 108 28 124 σ _ := s113.arr (by omega) (zNa (show zk 123 = 11 by decide) (by decide))
  refine z_putR (pc := 121) C 123 fl_X10_53 fF_X10_53 dX10_init_121 (show zk 108 = 10 by decide) (by omega) rfl (by decide +kernel) (fun m121 e121 => ?_)
  have s121 : zSx 108 36 124 σ m121 := s119.put (zNr (show zk 108 = 10 by decide) (by decide)) (by omega) (zRr (show zk 108 = 10 by decide) (by decide)) _ e121
  refine z_aload_n (pc := 124) C dX10_init_124 rfl 0 rfl ?_
  refine z_bipush (pc := 125) C dX10_init_125 (by decide +kernel) ?_
  refine z_newI (pc := 127) (n := 6) C rfl (by decide) aI.1 dX10_init_127 (show zk 124 = 11 by decide) (by decide +kernel) (fun k => (s121.o (by omega) (by omega)).trans (hz.z (show zk 124 = 11 by decide) (by decide) (by omega) (by omega) k)) ⟨by decide, by decide⟩ ?_
  have s127 : zSx 108 36 125 σ _ := s121.arr (by omega) (zNa (show zk 124 = 11 by decide) (by decide))
  refine z_putR (pc := 129) C 124 fl_X10_56 fF_X10_56 dX10_init_129 (show zk 108 = 10 by decide) (by omega) rfl (by decide +kernel) (fun m129 e129 => ?_)
  have s129 : zSx 108 37 125 σ m129 := s127.put (zNr (show zk 108 = 10 by decide) (by decide)) (by omega) (zRr (show zk 108 = 10 by decide) (by decide)) _ e129
  refine z_aload_n (pc := 132) C dX10_init_132 rfl 0 rfl ?_
  refine z_bipush (pc := 133) C dX10_init_133 (by decide +kernel) ?_
  refine z_newI (pc := 135) (n := 6) C rfl (by decide) aI.1 dX10_init_135 (show zk 125 = 11 by decide) (by decide +kernel) (fun k => (s129.o (by omega) (by omega)).trans (hz.z (show zk 125 = 11 by decide) (by decide) (by omega) (by omega) k)) ⟨by decide, by decide⟩ ?_
  have s135 : zSx 108 37 126 σ _ := s129.arr (by omega) (zNa (show zk 125 = 11 by decide) (by decide))
  refine z_putR (pc := 137) C 125 fl_X10_59 fF_X10_59 dX10_init_137 (show zk 108 = 10 by decide) (by omega) rfl (by decide +kernel) (fun m137 e137 => ?_)
  have s137 : zSx 108 38 126 σ m137 := s135.put (zNr (show zk 108 = 10 by decide) (by decide)) (by omega) (zRr (show zk 108 = 10 by decide) (by decide)) _ e137
  refine z_aload_n (pc := 140) C dX10_init_140 rfl 0 rfl ?_
  refine z_bipush (pc := 141) C dX10_init_141 (by decide +kernel) ?_
  refine z_newI (pc := 143) (n := 6) C rfl (by decide) aI.1 dX10_init_143 (show zk 126 = 11 by decide) (by decide +kernel) (fun k => (s137.o (by omega) (by omega)).trans (hz.z (show zk 126 = 11 by decide) (by decide) (by omega) (by omega) k)) ⟨by decide, by decide⟩ ?_
  have s143 : zSx 108 38 127 σ _ := s137.arr (by omega) (zNa (show zk 126 = 11 by decide) (by decide))
  refine z_putR (pc := 145) C 126 fl_X10_62 fF_X10_62 dX10_init_145 (show zk 108 = 10 by decide) (by omega) rfl (by decide +kernel) (fun m145 e145 => ?_)
  have s145 : zSx 108 39 127 σ m145 := s143.put (zNr (show zk 108 = 10 by decide) (by decide)) (by omega) (zRr (show zk 108 = 10 by decide) (by decide)) _ e145
  refine z_aload_n (pc := 148) C dX10_init_148 rfl 0 rfl ?_
  refine z_bipush (pc := 149) C dX10_init_149 (by decide +kernel) ?_
  refine z_newI (pc := 151) (n := 6) C rfl (by decide) aI.1 dX10_init_151 (show zk 127 = 11 by decide) (by decide +kernel) (fun k => (s145.o (by omega) (by omega)).trans (hz.z (show zk 127 = 11 by decide) (by decide) (by omega) (by omega) k)) ⟨by decide, by decide⟩ ?_
  have s151 : zSx 108 39 128 σ _ := s145.arr (by omega) (zNa (show zk 127 = 11 by decide) (by decide))
  refine z_putR (pc := 153) C 127 fl_X10_65 fF_X10_65 dX10_init_153 (show zk 108 = 10 by decide) (by omega) rfl (by decide +kernel) (fun m153 e153 => ?_)
  have s153 : zSx 108 40 128 σ m153 := s151.put (zNr (show zk 108 = 10 by decide) (by decide)) (by omega) (zRr (show zk 108 = 10 by decide) (by decide)) _ e153
  refine z_aload_n (pc := 156) C dX10_init_156 rfl 0 rfl ?_
  refine z_bipush (pc := 157) C dX10_init_157 (by decide +kernel) ?_
  refine z_newI (pc := 159) (n := 6) C rfl (by decide) aI.1 dX10_init_159 (show zk 128 = 11 by decide) (by decide +kernel) (fun k => (s153.o (by omega) (by omega)).trans (hz.z (show zk 128 = 11 by decide) (by decide) (by omega) (by omega) k)) ⟨by decide, by decide⟩ ?_
  have s159 : zSx 108 40 129 σ _ := s153.arr (by omega) (zNa (show zk 128 = 11 by decide) (by decide))
  refine z_putR (pc := 161) C 128 fl_X10_68 fF_X10_68 dX10_init_161 (show zk 108 = 10 by decide) (by omega) rfl (by decide +kernel) (fun m161 e161 => ?_)
  have s161 : zSx 108 41 129 σ m161 := s159.put (zNr (show zk 108 = 10 by decide) (by decide)) (by omega) (zRr (show zk 108 = 10 by decide) (by decide)) _ e161
  refine z_widen (ce2 := 20) (sl2 := 299) (by decide) (by decide) ?_
  exact z_vret (pc := 164) C dX10_init_164 ⟨rfl, s161.fin (by omega) (zNe (show zk 108 = 10 by decide) (by decide))⟩
end ZCT2
