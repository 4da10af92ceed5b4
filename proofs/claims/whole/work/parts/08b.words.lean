set_option maxRecDepth 100000 in
theorem ml_X1_11 : zml RX1 11 yX6_init := Or.inl ⟨List.mem_of_getElem? (i := 114) (by decide +kernel), by decide +kernel⟩
set_option maxRecDepth 100000 in
theorem ml_X1_39 : zin (.methodLink RX1 39 Lib.Math.min.name) := by decide +kernel
set_option maxRecDepth 100000 in
theorem ml_X1_45 : zin (.methodLink RX1 45 Lib.Math.max.name) := by decide +kernel
set_option maxRecDepth 100000 in
theorem ml_X1_48 : zml RX1 48 yX6_put := Or.inl ⟨List.mem_of_getElem? (i := 448) (by decide +kernel), by decide +kernel⟩
set_option maxRecDepth 100000 in
theorem ml_X1_52 : zml RX1 52 yX6_take := Or.inl ⟨List.mem_of_getElem? (i := 571) (by decide +kernel), by decide +kernel⟩
set_option maxRecDepth 100000 in
theorem ml_X1_56 : zml RX1 56 yX6_at := Or.inl ⟨List.mem_of_getElem? (i := 462) (by decide +kernel), by decide +kernel⟩
set_option maxRecDepth 100000 in
theorem ml_X1_60 : zml RX1 60 yX9_grown := Or.inr (List.mem_of_getElem? (i := 463) (by decide +kernel))
set_option maxRecDepth 100000 in
theorem ml_X1_64 : zml RX1 64 yX9_rainBehind := Or.inr (List.mem_of_getElem? (i := 510) (by decide +kernel))
set_option maxRecDepth 100000 in
theorem ml_X1_67 : zml RX1 67 yX1_reachOf := Or.inl ⟨List.mem_of_getElem? (i := 579) (by decide +kernel), by decide +kernel⟩
set_option maxRecDepth 100000 in
theorem ml_X1_70 : zml RX1 70 yX1_wetBits := Or.inl ⟨List.mem_of_getElem? (i := 537) (by decide +kernel), by decide +kernel⟩
set_option maxRecDepth 100000 in
theorem ml_X1_73 : zml RX1 73 yX1_isWet := Or.inl ⟨List.mem_of_getElem? (i := 689) (by decide +kernel), by decide +kernel⟩
set_option maxRecDepth 100000 in
theorem ml_X1_77 : zml RX1 77 yX6_sumOfFirst := Or.inl ⟨List.mem_of_getElem? (i := 612) (by decide +kernel), by decide +kernel⟩
set_option maxRecDepth 100000 in
theorem ml_X2_13 : zml RX2 13 yX6_init := Or.inl ⟨List.mem_of_getElem? (i := 89) (by decide +kernel), by decide +kernel⟩
set_option maxRecDepth 100000 in
theorem ml_X2_24 : zml RX2 24 yX6_put := Or.inl ⟨List.mem_of_getElem? (i := 333) (by decide +kernel), by decide +kernel⟩
set_option maxRecDepth 100000 in
theorem ml_X2_28 : zml RX2 28 yX6_at := Or.inl ⟨List.mem_of_getElem? (i := 349) (by decide +kernel), by decide +kernel⟩
set_option maxRecDepth 100000 in
theorem ml_X2_32 : zml RX2 32 yX2_mayStand := Or.inl ⟨List.mem_of_getElem? (i := 353) (by decide +kernel), by decide +kernel⟩
set_option maxRecDepth 100000 in
theorem ml_X2_36 : zml RX2 36 yX2_firstFault := Or.inl ⟨List.mem_of_getElem? (i := 417) (by decide +kernel), by decide +kernel⟩
set_option maxRecDepth 100000 in
theorem ml_X2_40 : zml RX2 40 yX2_kindOf := Or.inl ⟨List.mem_of_getElem? (i := 356) (by decide +kernel), by decide +kernel⟩
set_option maxRecDepth 100000 in
theorem ml_X3_11 : zml RX3 11 yX6_init := Or.inl ⟨List.mem_of_getElem? (i := 237) (by decide +kernel), by decide +kernel⟩
set_option maxRecDepth 100000 in
theorem ml_X3_27 : zml RX3 27 yX6_fill := Or.inl ⟨List.mem_of_getElem? (i := 632) (by decide +kernel), by decide +kernel⟩
set_option maxRecDepth 100000 in
theorem ml_X3_35 : zml RX3 35 yX6_put := Or.inl ⟨List.mem_of_getElem? (i := 633) (by decide +kernel), by decide +kernel⟩
set_option maxRecDepth 100000 in
theorem ml_X3_39 : zml RX3 39 yX3_pairFrom := Or.inl ⟨List.mem_of_getElem? (i := 634) (by decide +kernel), by decide +kernel⟩
set_option maxRecDepth 100000 in
theorem ml_X3_43 : zml RX3 43 yX3_firstFree := Or.inl ⟨List.mem_of_getElem? (i := 638) (by decide +kernel), by decide +kernel⟩
set_option maxRecDepth 100000 in
theorem ml_X3_47 : zml RX3 47 yX3_weigh := Or.inl ⟨List.mem_of_getElem? (i := 643) (by decide +kernel), by decide +kernel⟩
set_option maxRecDepth 100000 in
theorem ml_X3_50 : zml RX3 50 yX3_leave := Or.inl ⟨List.mem_of_getElem? (i := 648) (by decide +kernel), by decide +kernel⟩
set_option maxRecDepth 100000 in
theorem ml_X3_54 : zml RX3 54 yX6_at := Or.inl ⟨List.mem_of_getElem? (i := 642) (by decide +kernel), by decide +kernel⟩
set_option maxRecDepth 100000 in
theorem ml_X3_58 : zml RX3 58 yX3_couple := Or.inl ⟨List.mem_of_getElem? (i := 652) (by decide +kernel), by decide +kernel⟩
set_option maxRecDepth 100000 in
theorem ml_X3_65 : zin (.methodLink RX3 65 Lib.Math.abs.name) := by decide +kernel
set_option maxRecDepth 100000 in
theorem ml_X3_70 : zml RX3 70 yX6_take := Or.inl ⟨List.mem_of_getElem? (i := 647) (by decide +kernel), by decide +kernel⟩
set_option maxRecDepth 100000 in
theorem ml_X4_24 : zml RX4 24 yX4_putOnFrom := Or.inl ⟨List.mem_of_getElem? (i := 667) (by decide +kernel), by decide +kernel⟩
set_option maxRecDepth 100000 in
theorem ml_X4_33 : zml RX4 33 yX4_weigh := Or.inl ⟨List.mem_of_getElem? (i := 671) (by decide +kernel), by decide +kernel⟩
set_option maxRecDepth 100000 in
theorem ml_X4_41 : zml RX4 41 yX6_at := Or.inl ⟨List.mem_of_getElem? (i := 675) (by decide +kernel), by decide +kernel⟩
set_option maxRecDepth 100000 in
theorem ml_X4_47 : zml RX4 47 yX9_rainBehind := Or.inr (List.mem_of_getElem? (i := 676) (by decide +kernel))
set_option maxRecDepth 100000 in
theorem ml_X4_51 : zml RX4 51 yX4_raise := Or.inl ⟨List.mem_of_getElem? (i := 677) (by decide +kernel), by decide +kernel⟩
set_option maxRecDepth 100000 in
theorem ml_X5_17 : zml RX5 17 yX1_init := Or.inl ⟨List.mem_of_getElem? (i := 202) (by decide +kernel), by decide +kernel⟩
set_option maxRecDepth 100000 in
theorem ml_X5_20 : zml RX5 20 yX6_init := Or.inl ⟨List.mem_of_getElem? (i := 204) (by decide +kernel), by decide +kernel⟩
set_option maxRecDepth 100000 in
theorem ml_X5_43 : zml RX5 43 yX5_stepAt := Or.inl ⟨List.mem_of_getElem? (i := 588) (by decide +kernel), by decide +kernel⟩
set_option maxRecDepth 100000 in
theorem ml_X5_47 : zml RX5 47 yX1_take := Or.inl ⟨List.mem_of_getElem? (i := 592) (by decide +kernel), by decide +kernel⟩
set_option maxRecDepth 100000 in
theorem ml_X5_51 : zml RX5 51 yX5_goOn := Or.inl ⟨List.mem_of_getElem? (i := 593) (by decide +kernel), by decide +kernel⟩
set_option maxRecDepth 100000 in
theorem ml_X5_55 : zml RX5 55 yX5_weigh := Or.inl ⟨List.mem_of_getElem? (i := 597) (by decide +kernel), by decide +kernel⟩
set_option maxRecDepth 100000 in
theorem ml_X5_61 : zml RX5 61 yX5_cheerAndGoOn := Or.inl ⟨List.mem_of_getElem? (i := 617) (by decide +kernel), by decide +kernel⟩
set_option maxRecDepth 100000 in
theorem ml_X5_65 : zml RX5 65 yX1_cheerUp := Or.inl ⟨List.mem_of_getElem? (i := 621) (by decide +kernel), by decide +kernel⟩
set_option maxRecDepth 100000 in
theorem ml_X5_68 : zml RX5 68 yX1_passYear := Or.inl ⟨List.mem_of_getElem? (i := 622) (by decide +kernel), by decide +kernel⟩
set_option maxRecDepth 100000 in
theorem ml_X5_71 : zml RX5 71 yX6_put := Or.inl ⟨List.mem_of_getElem? (i := 623) (by decide +kernel), by decide +kernel⟩
set_option maxRecDepth 100000 in
theorem ml_X5_75 : zml RX5 75 yX1_wetBits := Or.inl ⟨List.mem_of_getElem? (i := 601) (by decide +kernel), by decide +kernel⟩
set_option maxRecDepth 100000 in
theorem ml_X5_79 : zml RX5 79 yJ6_bitCount_0f7a4 := Or.inl ⟨List.mem_of_getElem? (i := 602) (by decide +kernel), by decide +kernel⟩
set_option maxRecDepth 100000 in
theorem ml_X5_84 : zml RX5 84 yX1_reedOfAll := Or.inl ⟨List.mem_of_getElem? (i := 608) (by decide +kernel), by decide +kernel⟩
set_option maxRecDepth 100000 in
theorem ml_X5_88 : zml RX5 88 yX6_take := Or.inl ⟨List.mem_of_getElem? (i := 616) (by decide +kernel), by decide +kernel⟩
set_option maxRecDepth 100000 in
theorem ml_X7_13 : zml RX7 13 yX6_init := Or.inl ⟨List.mem_of_getElem? (i := 186) (by decide +kernel), by decide +kernel⟩
set_option maxRecDepth 100000 in
theorem ml_X7_23 : zml RX7 23 yX7_foresee := Or.inl ⟨List.mem_of_getElem? (i := 470) (by decide +kernel), by decide +kernel⟩
set_option maxRecDepth 100000 in
theorem ml_X7_27 : zml RX7 27 yX7_fits := Or.inl ⟨List.mem_of_getElem? (i := 477) (by decide +kernel), by decide +kernel⟩
set_option maxRecDepth 100000 in
theorem ml_X7_31 : zml RX7 31 yX7_worriesLeft := Or.inl ⟨List.mem_of_getElem? (i := 485) (by decide +kernel), by decide +kernel⟩
set_option maxRecDepth 100000 in
theorem ml_X7_35 : zml RX7 35 yX7_mostLeft := Or.inl ⟨List.mem_of_getElem? (i := 486) (by decide +kernel), by decide +kernel⟩
set_option maxRecDepth 100000 in
theorem ml_X7_44 : zml RX7 44 yX6_at := Or.inl ⟨List.mem_of_getElem? (i := 474) (by decide +kernel), by decide +kernel⟩
set_option maxRecDepth 100000 in
theorem ml_X7_58 : zml RX7 58 yX9_grown := Or.inr (List.mem_of_getElem? (i := 475) (by decide +kernel))
set_option maxRecDepth 100000 in
theorem ml_X7_62 : zml RX7 62 yX6_put := Or.inl ⟨List.mem_of_getElem? (i := 476) (by decide +kernel), by decide +kernel⟩
set_option maxRecDepth 100000 in
theorem ml_X7_78 : zml RX7 78 yX6_fill := Or.inl ⟨List.mem_of_getElem? (i := 490) (by decide +kernel), by decide +kernel⟩
set_option maxRecDepth 100000 in
theorem ml_X7_81 : zin (.methodLink RX7 81 Lib.Math.max.name) := by decide +kernel
set_option maxRecDepth 100000 in
theorem ml_X8_11 : zml RX8 11 yX6_init := Or.inl ⟨List.mem_of_getElem? (i := 160) (by decide +kernel), by decide +kernel⟩
set_option maxRecDepth 100000 in
theorem ml_X8_30 : zml RX8 30 yX6_put := Or.inl ⟨List.mem_of_getElem? (i := 701) (by decide +kernel), by decide +kernel⟩
set_option maxRecDepth 100000 in
theorem ml_X8_34 : zml RX8 34 yX6_take := Or.inl ⟨List.mem_of_getElem? (i := 731) (by decide +kernel), by decide +kernel⟩
set_option maxRecDepth 100000 in
theorem ml_X10_71 : zml RX10 71 yX10_within := Or.inl ⟨List.mem_of_getElem? (i := 911) (by decide +kernel), by decide +kernel⟩
set_option maxRecDepth 100000 in
theorem ml_X10_79 : zml RX10 79 yX10_at := Or.inl ⟨List.mem_of_getElem? (i := 926) (by decide +kernel), by decide +kernel⟩
set_option maxRecDepth 100000 in
theorem ml_X10_90 : zml RX10 90 yX10_kindBy := Or.inl ⟨List.mem_of_getElem? (i := 930) (by decide +kernel), by decide +kernel⟩
set_option maxRecDepth 100000 in
theorem ml_X10_93 : zml RX10 93 yX10_isFigure := Or.inl ⟨List.mem_of_getElem? (i := 933) (by decide +kernel), by decide +kernel⟩
set_option maxRecDepth 100000 in
theorem ml_X10_97 : zml RX10 97 yX10_read := Or.inl ⟨List.mem_of_getElem? (i := 922) (by decide +kernel), by decide +kernel⟩
set_option maxRecDepth 100000 in
theorem ml_X10_119 : zml RX10 119 yX10_held := Or.inl ⟨List.mem_of_getElem? (i := 963) (by decide +kernel), by decide +kernel⟩
set_option maxRecDepth 100000 in
theorem ml_X10_122 : zml RX10 122 yX10_isIn := Or.inl ⟨List.mem_of_getElem? (i := 953) (by decide +kernel), by decide +kernel⟩
set_option maxRecDepth 100000 in
theorem ml_X10_126 : zml RX10 126 yX10_grown := Or.inl ⟨List.mem_of_getElem? (i := 960) (by decide +kernel), by decide +kernel⟩
set_option maxRecDepth 100000 in
theorem ml_X10_130 : zml RX10 130 yX10_grownOf := Or.inl ⟨List.mem_of_getElem? (i := 956) (by decide +kernel), by decide +kernel⟩
set_option maxRecDepth 100000 in
theorem ml_X10_133 : zml RX10 133 yX10_reachesTo := Or.inl ⟨List.mem_of_getElem? (i := 994) (by decide +kernel), by decide +kernel⟩
set_option maxRecDepth 100000 in
theorem ml_X10_137 : zml RX10 137 yX10_wetBy := Or.inl ⟨List.mem_of_getElem? (i := 1002) (by decide +kernel), by decide +kernel⟩
set_option maxRecDepth 100000 in
theorem ml_X10_140 : zml RX10 140 yX10_size := Or.inl ⟨List.mem_of_getElem? (i := 1022) (by decide +kernel), by decide +kernel⟩
set_option maxRecDepth 100000 in
theorem ml_X10_143 : zml RX10 143 yX10_worriesOf := Or.inl ⟨List.mem_of_getElem? (i := 966) (by decide +kernel), by decide +kernel⟩
set_option maxRecDepth 100000 in
theorem ml_X10_146 : zml RX10 146 yX10_lookFor := Or.inl ⟨List.mem_of_getElem? (i := 974) (by decide +kernel), by decide +kernel⟩
set_option maxRecDepth 100000 in
theorem ml_X10_149 : zml RX10 149 yX10_isHouse := Or.inl ⟨List.mem_of_getElem? (i := 945) (by decide +kernel), by decide +kernel⟩
set_option maxRecDepth 100000 in
theorem ml_X10_152 : zml RX10 152 yX10_houseNow := Or.inl ⟨List.mem_of_getElem? (i := 949) (by decide +kernel), by decide +kernel⟩
set_option maxRecDepth 100000 in
theorem ml_X10_155 : zml RX10 155 yX10_isRain := Or.inl ⟨List.mem_of_getElem? (i := 991) (by decide +kernel), by decide +kernel⟩
set_option maxRecDepth 100000 in
theorem ml_X10_158 : zml RX10 158 yX10_goYear := Or.inl ⟨List.mem_of_getElem? (i := 1010) (by decide +kernel), by decide +kernel⟩
set_option maxRecDepth 100000 in
theorem ml_X10_161 : zml RX10 161 yX10_goRain := Or.inl ⟨List.mem_of_getElem? (i := 1018) (by decide +kernel), by decide +kernel⟩
set_option maxRecDepth 100000 in
theorem ml_X10_164 : zml RX10 164 yX10_goCheer := Or.inl ⟨List.mem_of_getElem? (i := 1029) (by decide +kernel), by decide +kernel⟩
set_option maxRecDepth 100000 in
theorem ml_X10_168 : zml RX10 168 yX10_mayComb := Or.inl ⟨List.mem_of_getElem? (i := 1037) (by decide +kernel), by decide +kernel⟩
set_option maxRecDepth 100000 in
theorem ml_X10_171 : zml RX10 171 yX10_goComb := Or.inl ⟨List.mem_of_getElem? (i := 1041) (by decide +kernel), by decide +kernel⟩
set_option maxRecDepth 100000 in
theorem ml_X10_180 : zml RX10 180 yX10_save := Or.inl ⟨List.mem_of_getElem? (i := 1057) (by decide +kernel), by decide +kernel⟩
set_option maxRecDepth 100000 in
theorem ml_X10_183 : zml RX10 183 yX10_load := Or.inl ⟨List.mem_of_getElem? (i := 1061) (by decide +kernel), by decide +kernel⟩
set_option maxRecDepth 100000 in
theorem ml_X10_186 : zml RX10 186 yX10_dryNow := Or.inl ⟨List.mem_of_getElem? (i := 1053) (by decide +kernel), by decide +kernel⟩
set_option maxRecDepth 100000 in
theorem ml_X10_196 : zml RX10 196 yX10_reedAll := Or.inl ⟨List.mem_of_getElem? (i := 1073) (by decide +kernel), by decide +kernel⟩
set_option maxRecDepth 100000 in
theorem ml_X10_202 : zml RX10 202 yX10_layPlan := Or.inl ⟨List.mem_of_getElem? (i := 1069) (by decide +kernel), by decide +kernel⟩
set_option maxRecDepth 100000 in
theorem ml_X10_206 : zml RX10 206 yX10_planNow := Or.inl ⟨List.mem_of_getElem? (i := 1077) (by decide +kernel), by decide +kernel⟩
set_option maxRecDepth 100000 in
theorem ml_X10_209 : zml RX10 209 yX10_lowest := Or.inl ⟨List.mem_of_getElem? (i := 1093) (by decide +kernel), by decide +kernel⟩
set_option maxRecDepth 100000 in
theorem ml_X10_212 : zml RX10 212 yX10_apart := Or.inl ⟨List.mem_of_getElem? (i := 1096) (by decide +kernel), by decide +kernel⟩
set_option maxRecDepth 100000 in
theorem ml_X10_215 : zml RX10 215 yX10_leastOf := Or.inl ⟨List.mem_of_getElem? (i := 1089) (by decide +kernel), by decide +kernel⟩
set_option maxRecDepth 100000 in
theorem ml_X10_218 : zml RX10 218 yX10_partnerIn := Or.inl ⟨List.mem_of_getElem? (i := 1100) (by decide +kernel), by decide +kernel⟩
set_option maxRecDepth 100000 in
theorem ml_X10_221 : zml RX10 221 yX10_layTwos := Or.inl ⟨List.mem_of_getElem? (i := 1085) (by decide +kernel), by decide +kernel⟩
set_option maxRecDepth 100000 in
theorem ml_X10_224 : zml RX10 224 yX10_patchHouse := Or.inl ⟨List.mem_of_getElem? (i := 1112) (by decide +kernel), by decide +kernel⟩
set_option maxRecDepth 100000 in
theorem ml_X10_227 : zml RX10 227 yX10_patchNow := Or.inl ⟨List.mem_of_getElem? (i := 1108) (by decide +kernel), by decide +kernel⟩
set_option maxRecDepth 100000 in
theorem ml_X10_231 : zml RX10 231 yX10_divisor := Or.inl ⟨List.mem_of_getElem? (i := 1124) (by decide +kernel), by decide +kernel⟩
set_option maxRecDepth 100000 in
theorem ml_X10_234 : zml RX10 234 yX10_oddsNow := Or.inl ⟨List.mem_of_getElem? (i := 1120) (by decide +kernel), by decide +kernel⟩
set_option maxRecDepth 100000 in
theorem ml_X10_237 : zml RX10 237 yX10_reedBehind := Or.inl ⟨List.mem_of_getElem? (i := 970) (by decide +kernel), by decide +kernel⟩
set_option maxRecDepth 100000 in
theorem ml_X10_240 : zml RX10 240 yX10_worstBy := Or.inl ⟨List.mem_of_getElem? (i := 979) (by decide +kernel), by decide +kernel⟩
set_option maxRecDepth 100000 in
theorem ml_X10_255 : zml RX10 255 yX10_draw := Or.inl ⟨List.mem_of_getElem? (i := 1143) (by decide +kernel), by decide +kernel⟩
set_option maxRecDepth 100000 in
theorem ml_X10_258 : zml RX10 258 yX10_agesNow := Or.inl ⟨List.mem_of_getElem? (i := 1139) (by decide +kernel), by decide +kernel⟩
set_option maxRecDepth 100000 in
theorem ml_X10_279 : zml RX10 279 yX10_worryAll := Or.inl ⟨List.mem_of_getElem? (i := 1167) (by decide +kernel), by decide +kernel⟩
set_option maxRecDepth 100000 in
theorem ml_X10_282 : zml RX10 282 yX10_thick := Or.inl ⟨List.mem_of_getElem? (i := 1171) (by decide +kernel), by decide +kernel⟩
set_option maxRecDepth 100000 in
theorem ml_X10_285 : zml RX10 285 yX10_howMany := Or.inl ⟨List.mem_of_getElem? (i := 1163) (by decide +kernel), by decide +kernel⟩
set_option maxRecDepth 100000 in
theorem ml_X10_293 : zml RX10 293 yX10_mix := Or.inl ⟨List.mem_of_getElem? (i := 1184) (by decide +kernel), by decide +kernel⟩
set_option maxRecDepth 100000 in
theorem ml_X10_299 : zml RX10 299 yX10_mixHouse := Or.inl ⟨List.mem_of_getElem? (i := 1180) (by decide +kernel), by decide +kernel⟩
set_option maxRecDepth 100000 in
theorem ml_X10_302 : zml RX10 302 yX10_mixLane := Or.inl ⟨List.mem_of_getElem? (i := 1189) (by decide +kernel), by decide +kernel⟩
set_option maxRecDepth 100000 in
theorem ml_L_9 : zml RL 9 yX9_init := Or.inl ⟨List.mem_of_getElem? (i := 75) (by decide +kernel), by decide +kernel⟩
set_option maxRecDepth 100000 in
theorem ml_L_12 : zml RL 12 yX10_init := Or.inl ⟨List.mem_of_getElem? (i := 776) (by decide +kernel), by decide +kernel⟩
set_option maxRecDepth 100000 in
theorem ml_L_13 : zml RL 13 yX9_letter := Or.inl ⟨List.mem_of_getElem? (i := 322) (by decide +kernel), by decide +kernel⟩
set_option maxRecDepth 100000 in
theorem ml_L_17 : zml RL 17 yX10_letter := Or.inl ⟨List.mem_of_getElem? (i := 907) (by decide +kernel), by decide +kernel⟩
set_option maxRecDepth 100000 in
theorem ml_L_18 : zml RL 18 yX9_blank := Or.inl ⟨List.mem_of_getElem? (i := 337) (by decide +kernel), by decide +kernel⟩
set_option maxRecDepth 100000 in
theorem ml_L_22 : zml RL 22 yX10_blank := Or.inl ⟨List.mem_of_getElem? (i := 914) (by decide +kernel), by decide +kernel⟩
set_option maxRecDepth 100000 in
theorem ml_L_23 : zml RL 23 yX9_fault := Or.inl ⟨List.mem_of_getElem? (i := 341) (by decide +kernel), by decide +kernel⟩
set_option maxRecDepth 100000 in
theorem ml_L_26 : zml RL 26 yX10_fault := Or.inl ⟨List.mem_of_getElem? (i := 918) (by decide +kernel), by decide +kernel⟩
set_option maxRecDepth 100000 in
theorem ml_L_27 : zml RL 27 yX9_lane := Or.inl ⟨List.mem_of_getElem? (i := 409) (by decide +kernel), by decide +kernel⟩
set_option maxRecDepth 100000 in
theorem ml_L_30 : zml RL 30 yX10_lane := Or.inl ⟨List.mem_of_getElem? (i := 937) (by decide +kernel), by decide +kernel⟩
set_option maxRecDepth 100000 in
theorem ml_L_31 : zml RL 31 yX9_house := Or.inl ⟨List.mem_of_getElem? (i := 449) (by decide +kernel), by decide +kernel⟩
set_option maxRecDepth 100000 in
theorem ml_L_35 : zml RL 35 yX10_house := Or.inl ⟨List.mem_of_getElem? (i := 941) (by decide +kernel), by decide +kernel⟩
set_option maxRecDepth 100000 in
theorem ml_L_36 : zml RL 36 yX9_as := Or.inl ⟨List.mem_of_getElem? (i := 495) (by decide +kernel), by decide +kernel⟩
set_option maxRecDepth 100000 in
theorem ml_L_39 : zml RL 39 yX10_as := Or.inl ⟨List.mem_of_getElem? (i := 983) (by decide +kernel), by decide +kernel⟩
set_option maxRecDepth 100000 in
theorem ml_L_40 : zml RL 40 yX9_reaches := Or.inl ⟨List.mem_of_getElem? (i := 502) (by decide +kernel), by decide +kernel⟩
set_option maxRecDepth 100000 in
theorem ml_L_43 : zml RL 43 yX10_reaches := Or.inl ⟨List.mem_of_getElem? (i := 987) (by decide +kernel), by decide +kernel⟩
set_option maxRecDepth 100000 in
theorem ml_L_44 : zml RL 44 yX9_wet := Or.inl ⟨List.mem_of_getElem? (i := 513) (by decide +kernel), by decide +kernel⟩
set_option maxRecDepth 100000 in
theorem ml_L_47 : zml RL 47 yX10_wet := Or.inl ⟨List.mem_of_getElem? (i := 998) (by decide +kernel), by decide +kernel⟩
set_option maxRecDepth 100000 in
theorem ml_L_48 : zml RL 48 yX9_year := Or.inl ⟨List.mem_of_getElem? (i := 521) (by decide +kernel), by decide +kernel⟩
set_option maxRecDepth 100000 in
theorem ml_L_51 : zml RL 51 yX10_year := Or.inl ⟨List.mem_of_getElem? (i := 1006) (by decide +kernel), by decide +kernel⟩
set_option maxRecDepth 100000 in
theorem ml_L_52 : zml RL 52 yX9_rain := Or.inl ⟨List.mem_of_getElem? (i := 529) (by decide +kernel), by decide +kernel⟩
set_option maxRecDepth 100000 in
theorem ml_L_55 : zml RL 55 yX10_rain := Or.inl ⟨List.mem_of_getElem? (i := 1014) (by decide +kernel), by decide +kernel⟩
set_option maxRecDepth 100000 in
theorem ml_L_56 : zml RL 56 yX9_cheer := Or.inl ⟨List.mem_of_getElem? (i := 538) (by decide +kernel), by decide +kernel⟩
set_option maxRecDepth 100000 in
theorem ml_L_59 : zml RL 59 yX10_cheer := Or.inl ⟨List.mem_of_getElem? (i := 1025) (by decide +kernel), by decide +kernel⟩
set_option maxRecDepth 100000 in
theorem ml_L_60 : zml RL 60 yX9_comb := Or.inl ⟨List.mem_of_getElem? (i := 546) (by decide +kernel), by decide +kernel⟩
set_option maxRecDepth 100000 in
theorem ml_L_63 : zml RL 63 yX10_comb := Or.inl ⟨List.mem_of_getElem? (i := 1033) (by decide +kernel), by decide +kernel⟩
set_option maxRecDepth 100000 in
theorem ml_L_64 : zml RL 64 yX9_move := Or.inl ⟨List.mem_of_getElem? (i := 558) (by decide +kernel), by decide +kernel⟩
set_option maxRecDepth 100000 in
theorem ml_L_68 : zml RL 68 yX10_move := Or.inl ⟨List.mem_of_getElem? (i := 1045) (by decide +kernel), by decide +kernel⟩
set_option maxRecDepth 100000 in
theorem ml_L_69 : zml RL 69 yX9_dry := Or.inl ⟨List.mem_of_getElem? (i := 563) (by decide +kernel), by decide +kernel⟩
set_option maxRecDepth 100000 in
theorem ml_L_72 : zml RL 72 yX10_dry := Or.inl ⟨List.mem_of_getElem? (i := 1049) (by decide +kernel), by decide +kernel⟩
set_option maxRecDepth 100000 in
theorem ml_L_73 : zml RL 73 yX9_plan := Or.inl ⟨List.mem_of_getElem? (i := 580) (by decide +kernel), by decide +kernel⟩
set_option maxRecDepth 100000 in
theorem ml_L_76 : zml RL 76 yX10_plan := Or.inl ⟨List.mem_of_getElem? (i := 1065) (by decide +kernel), by decide +kernel⟩
set_option maxRecDepth 100000 in
theorem ml_L_77 : zml RL 77 yX9_twos := Or.inl ⟨List.mem_of_getElem? (i := 624) (by decide +kernel), by decide +kernel⟩
set_option maxRecDepth 100000 in
theorem ml_L_80 : zml RL 80 yX10_twos := Or.inl ⟨List.mem_of_getElem? (i := 1081) (by decide +kernel), by decide +kernel⟩
set_option maxRecDepth 100000 in
theorem ml_L_81 : zml RL 81 yX9_patch := Or.inl ⟨List.mem_of_getElem? (i := 659) (by decide +kernel), by decide +kernel⟩
set_option maxRecDepth 100000 in
theorem ml_L_84 : zml RL 84 yX10_patch := Or.inl ⟨List.mem_of_getElem? (i := 1104) (by decide +kernel), by decide +kernel⟩
set_option maxRecDepth 100000 in
theorem ml_L_85 : zml RL 85 yX9_odds := Or.inl ⟨List.mem_of_getElem? (i := 681) (by decide +kernel), by decide +kernel⟩
set_option maxRecDepth 100000 in
theorem ml_L_88 : zml RL 88 yX10_odds := Or.inl ⟨List.mem_of_getElem? (i := 1116) (by decide +kernel), by decide +kernel⟩
set_option maxRecDepth 100000 in
theorem ml_L_89 : zml RL 89 yX9_see := Or.inl ⟨List.mem_of_getElem? (i := 693) (by decide +kernel), by decide +kernel⟩
set_option maxRecDepth 100000 in
theorem ml_L_92 : zml RL 92 yX10_see := Or.inl ⟨List.mem_of_getElem? (i := 1127) (by decide +kernel), by decide +kernel⟩
set_option maxRecDepth 100000 in
theorem ml_L_93 : zml RL 93 yX9_forget := Or.inl ⟨List.mem_of_getElem? (i := 702) (by decide +kernel), by decide +kernel⟩
set_option maxRecDepth 100000 in
theorem ml_L_96 : zml RL 96 yX10_forget := Or.inl ⟨List.mem_of_getElem? (i := 1131) (by decide +kernel), by decide +kernel⟩
set_option maxRecDepth 100000 in
theorem ml_L_97 : zml RL 97 yX9_ages := Or.inl ⟨List.mem_of_getElem? (i := 706) (by decide +kernel), by decide +kernel⟩
set_option maxRecDepth 100000 in
theorem ml_L_100 : zml RL 100 yX10_ages := Or.inl ⟨List.mem_of_getElem? (i := 1135) (by decide +kernel), by decide +kernel⟩
set_option maxRecDepth 100000 in
theorem ml_L_101 : zml RL 101 yX9_image := Or.inl ⟨List.mem_of_getElem? (i := 723) (by decide +kernel), by decide +kernel⟩
set_option maxRecDepth 100000 in
theorem ml_L_104 : zml RL 104 yX10_image := Or.inl ⟨List.mem_of_getElem? (i := 1151) (by decide +kernel), by decide +kernel⟩
set_option maxRecDepth 100000 in
theorem ml_L_105 : zml RL 105 yX9_restore := Or.inl ⟨List.mem_of_getElem? (i := 732) (by decide +kernel), by decide +kernel⟩
set_option maxRecDepth 100000 in
theorem ml_L_108 : zml RL 108 yX10_restore := Or.inl ⟨List.mem_of_getElem? (i := 1155) (by decide +kernel), by decide +kernel⟩
set_option maxRecDepth 100000 in
theorem ml_L_109 : zml RL 109 yX9_count := Or.inl ⟨List.mem_of_getElem? (i := 736) (by decide +kernel), by decide +kernel⟩
set_option maxRecDepth 100000 in
theorem ml_L_112 : zml RL 112 yX10_count := Or.inl ⟨List.mem_of_getElem? (i := 1159) (by decide +kernel), by decide +kernel⟩
set_option maxRecDepth 100000 in
theorem ml_L_113 : zml RL 113 yX9_digest := Or.inl ⟨List.mem_of_getElem? (i := 752) (by decide +kernel), by decide +kernel⟩
set_option maxRecDepth 100000 in
theorem ml_L_117 : zml RL 117 yX10_digest := Or.inl ⟨List.mem_of_getElem? (i := 1175) (by decide +kernel), by decide +kernel⟩
set_option maxRecDepth 100000 in
theorem yi_X9_init : zci yX9_init 9 cX9_init 1 0 := ⟨⟨by decide, by decide +kernel⟩, ⟨List.mem_of_getElem? (i := 77) (by decide +kernel), by decide +kernel⟩, ⟨List.mem_of_getElem? (i := 56) (by decide +kernel), by decide +kernel⟩, ⟨List.mem_of_getElem? (i := 76) (by decide +kernel), by decide +kernel⟩, rfl, ⟨by decide +kernel, by decide +kernel, by decide +kernel⟩⟩
set_option maxRecDepth 100000 in
theorem yw_X9_ages : zcv yX9_ages 9 cX9_ages 6 (some .int) 3 := ⟨⟨by decide, by decide +kernel⟩, ⟨List.mem_of_getElem? (i := 709) (by decide +kernel), by decide +kernel⟩, ⟨List.mem_of_getElem? (i := 56) (by decide +kernel), by decide +kernel⟩, ⟨List.mem_of_getElem? (i := 707) (by decide +kernel), by decide +kernel⟩, ⟨List.mem_of_getElem? (i := 708) (by decide +kernel), by decide +kernel⟩, ⟨by decide +kernel, by decide +kernel, by decide +kernel⟩⟩
set_option maxRecDepth 100000 in
theorem yw_X9_as : zcv yX9_as 9 cX9_as 3 (some .int) 2 := ⟨⟨by decide, by decide +kernel⟩, ⟨List.mem_of_getElem? (i := 498) (by decide +kernel), by decide +kernel⟩, ⟨List.mem_of_getElem? (i := 56) (by decide +kernel), by decide +kernel⟩, ⟨List.mem_of_getElem? (i := 496) (by decide +kernel), by decide +kernel⟩, ⟨List.mem_of_getElem? (i := 497) (by decide +kernel), by decide +kernel⟩, ⟨by decide +kernel, by decide +kernel, by decide +kernel⟩⟩
set_option maxRecDepth 100000 in
theorem yw_X9_blank : zcv yX9_blank 9 cX9_blank 2 (some .int) 0 := ⟨⟨by decide, by decide +kernel⟩, ⟨List.mem_of_getElem? (i := 340) (by decide +kernel), by decide +kernel⟩, ⟨List.mem_of_getElem? (i := 56) (by decide +kernel), by decide +kernel⟩, ⟨List.mem_of_getElem? (i := 338) (by decide +kernel), by decide +kernel⟩, ⟨List.mem_of_getElem? (i := 339) (by decide +kernel), by decide +kernel⟩, ⟨by decide +kernel, by decide +kernel, by decide +kernel⟩⟩
set_option maxRecDepth 100000 in
theorem yw_X9_cheer : zcv yX9_cheer 9 cX9_cheer 2 (some .int) 1 := ⟨⟨by decide, by decide +kernel⟩, ⟨List.mem_of_getElem? (i := 541) (by decide +kernel), by decide +kernel⟩, ⟨List.mem_of_getElem? (i := 56) (by decide +kernel), by decide +kernel⟩, ⟨List.mem_of_getElem? (i := 539) (by decide +kernel), by decide +kernel⟩, ⟨List.mem_of_getElem? (i := 540) (by decide +kernel), by decide +kernel⟩, ⟨by decide +kernel, by decide +kernel, by decide +kernel⟩⟩
set_option maxRecDepth 100000 in
theorem yw_X9_comb : zcv yX9_comb 9 cX9_comb 2 (some .int) 1 := ⟨⟨by decide, by decide +kernel⟩, ⟨List.mem_of_getElem? (i := 549) (by decide +kernel), by decide +kernel⟩, ⟨List.mem_of_getElem? (i := 56) (by decide +kernel), by decide +kernel⟩, ⟨List.mem_of_getElem? (i := 547) (by decide +kernel), by decide +kernel⟩, ⟨List.mem_of_getElem? (i := 548) (by decide +kernel), by decide +kernel⟩, ⟨by decide +kernel, by decide +kernel, by decide +kernel⟩⟩
set_option maxRecDepth 100000 in
theorem yw_X9_count : zcv yX9_count 9 cX9_count 2 (some .int) 1 := ⟨⟨by decide, by decide +kernel⟩, ⟨List.mem_of_getElem? (i := 739) (by decide +kernel), by decide +kernel⟩, ⟨List.mem_of_getElem? (i := 56) (by decide +kernel), by decide +kernel⟩, ⟨List.mem_of_getElem? (i := 737) (by decide +kernel), by decide +kernel⟩, ⟨List.mem_of_getElem? (i := 738) (by decide +kernel), by decide +kernel⟩, ⟨by decide +kernel, by decide +kernel, by decide +kernel⟩⟩
set_option maxRecDepth 100000 in
theorem yw_X9_digest : zcv yX9_digest 9 cX9_digest 4 (some .long) 0 := ⟨⟨by decide, by decide +kernel⟩, ⟨List.mem_of_getElem? (i := 755) (by decide +kernel), by decide +kernel⟩, ⟨List.mem_of_getElem? (i := 56) (by decide +kernel), by decide +kernel⟩, ⟨List.mem_of_getElem? (i := 753) (by decide +kernel), by decide +kernel⟩, ⟨List.mem_of_getElem? (i := 754) (by decide +kernel), by decide +kernel⟩, ⟨by decide +kernel, by decide +kernel, by decide +kernel⟩⟩
set_option maxRecDepth 100000 in
theorem yw_X9_dry : zcv yX9_dry 9 cX9_dry 4 (some .int) 2 := ⟨⟨by decide, by decide +kernel⟩, ⟨List.mem_of_getElem? (i := 566) (by decide +kernel), by decide +kernel⟩, ⟨List.mem_of_getElem? (i := 56) (by decide +kernel), by decide +kernel⟩, ⟨List.mem_of_getElem? (i := 564) (by decide +kernel), by decide +kernel⟩, ⟨List.mem_of_getElem? (i := 565) (by decide +kernel), by decide +kernel⟩, ⟨by decide +kernel, by decide +kernel, by decide +kernel⟩⟩
set_option maxRecDepth 100000 in
theorem yw_X9_fault : zcv yX9_fault 9 cX9_fault 1 (some .int) 0 := ⟨⟨by decide, by decide +kernel⟩, ⟨List.mem_of_getElem? (i := 344) (by decide +kernel), by decide +kernel⟩, ⟨List.mem_of_getElem? (i := 56) (by decide +kernel), by decide +kernel⟩, ⟨List.mem_of_getElem? (i := 342) (by decide +kernel), by decide +kernel⟩, ⟨List.mem_of_getElem? (i := 343) (by decide +kernel), by decide +kernel⟩, ⟨by decide +kernel, by decide +kernel, by decide +kernel⟩⟩
set_option maxRecDepth 100000 in
theorem yw_X9_forget : zcv yX9_forget 9 cX9_forget 2 (some .int) 0 := ⟨⟨by decide, by decide +kernel⟩, ⟨List.mem_of_getElem? (i := 705) (by decide +kernel), by decide +kernel⟩, ⟨List.mem_of_getElem? (i := 56) (by decide +kernel), by decide +kernel⟩, ⟨List.mem_of_getElem? (i := 703) (by decide +kernel), by decide +kernel⟩, ⟨List.mem_of_getElem? (i := 704) (by decide +kernel), by decide +kernel⟩, ⟨by decide +kernel, by decide +kernel, by decide +kernel⟩⟩
set_option maxRecDepth 100000 in
theorem ys_X9_grown : zcs yX9_grown cX9_grown 8 (some .int) 5 := ⟨⟨List.mem_of_getElem? (i := 465) (by decide +kernel), by decide +kernel⟩, ⟨List.mem_of_getElem? (i := 56) (by decide +kernel), by decide +kernel⟩, ⟨List.mem_of_getElem? (i := 464) (by decide +kernel), by decide +kernel⟩, ⟨by decide +kernel, by decide +kernel, by decide +kernel⟩⟩
set_option maxRecDepth 100000 in
theorem yw_X9_house : zcv yX9_house 9 cX9_house 3 (some .int) 2 := ⟨⟨by decide, by decide +kernel⟩, ⟨List.mem_of_getElem? (i := 452) (by decide +kernel), by decide +kernel⟩, ⟨List.mem_of_getElem? (i := 56) (by decide +kernel), by decide +kernel⟩, ⟨List.mem_of_getElem? (i := 450) (by decide +kernel), by decide +kernel⟩, ⟨List.mem_of_getElem? (i := 451) (by decide +kernel), by decide +kernel⟩, ⟨by decide +kernel, by decide +kernel, by decide +kernel⟩⟩
set_option maxRecDepth 100000 in
theorem yw_X9_image : zcv yX9_image 9 cX9_image 1 (some .int) 0 := ⟨⟨by decide, by decide +kernel⟩, ⟨List.mem_of_getElem? (i := 726) (by decide +kernel), by decide +kernel⟩, ⟨List.mem_of_getElem? (i := 56) (by decide +kernel), by decide +kernel⟩, ⟨List.mem_of_getElem? (i := 724) (by decide +kernel), by decide +kernel⟩, ⟨List.mem_of_getElem? (i := 725) (by decide +kernel), by decide +kernel⟩, ⟨by decide +kernel, by decide +kernel, by decide +kernel⟩⟩
set_option maxRecDepth 100000 in
theorem ys_X9_inLowestTerms : zcs yX9_inLowestTerms cX9_inLowestTerms 6 (some .int) 3 := ⟨⟨List.mem_of_getElem? (i := 692) (by decide +kernel), by decide +kernel⟩, ⟨List.mem_of_getElem? (i := 56) (by decide +kernel), by decide +kernel⟩, ⟨List.mem_of_getElem? (i := 691) (by decide +kernel), by decide +kernel⟩, ⟨by decide +kernel, by decide +kernel, by decide +kernel⟩⟩
