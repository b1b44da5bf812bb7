theorem iv_cls_0 : iv_cls 0 = some 6 := rfl
theorem iv_ar_1 : iv_ar 1 = some (false, 5) := rfl
theorem iv_ar_2 : iv_ar 2 = some (false, 24) := rfl
theorem iv_cls_3 : iv_cls 3 = some 0 := rfl
theorem iv_cls_4 : iv_cls 4 = some 4 := rfl
theorem iv_ar_5 : iv_ar 5 = some (false, 6) := rfl
theorem iv_ar_6 : iv_ar 6 = some (false, 6) := rfl
theorem iv_ar_7 : iv_ar 7 = some (false, 6) := rfl
theorem iv_ar_8 : iv_ar 8 = some (false, 6) := rfl
theorem iv_ar_9 : iv_ar 9 = some (false, 6) := rfl
theorem iv_ar_10 : iv_ar 10 = some (false, 6) := rfl
theorem iv_ar_11 : iv_ar 11 = some (false, 6) := rfl
theorem iv_cls_12 : iv_cls 12 = some 3 := rfl
theorem iv_ar_13 : iv_ar 13 = some (false, 30) := rfl
theorem iv_ar_14 : iv_ar 14 = some (false, 30) := rfl
theorem iv_ar_15 : iv_ar 15 = some (true, 30) := rfl
theorem iv_ar_16 : iv_ar 16 = some (false, 30) := rfl
theorem iv_ar_17 : iv_ar 17 = some (false, 30) := rfl
theorem iv_cls_18 : iv_cls 18 = some 1 := rfl
theorem iv_ar_19 : iv_ar 19 = some (false, 12) := rfl
theorem iv_ar_20 : iv_ar 20 = some (false, 12) := rfl
theorem iv_ar_21 : iv_ar 21 = some (false, 12) := rfl
theorem iv_ar_22 : iv_ar 22 = some (false, 12) := rfl
theorem iv_ar_23 : iv_ar 23 = some (false, 12) := rfl
theorem iv_cls_24 : iv_cls 24 = some 5 := rfl
theorem iv_ar_25 : iv_ar 25 = some (false, 6) := rfl
theorem iv_ar_26 : iv_ar 26 = some (true, 6) := rfl
theorem iv_ar_27 : iv_ar 27 = some (false, 6) := rfl
theorem iv_ar_28 : iv_ar 28 = some (false, 6) := rfl
theorem iv_cls_29 : iv_cls 29 = some 2 := rfl
theorem iv_cls_30 : iv_cls 30 = some 4 := rfl
theorem iv_ar_31 : iv_ar 31 = some (false, 12) := rfl
theorem iv_ar_32 : iv_ar 32 = some (false, 12) := rfl
theorem iv_cls_33 : iv_cls 33 = some 4 := rfl
theorem iv_ar_34 : iv_ar 34 = some (false, 8) := rfl
theorem iv_ar_35 : iv_ar 35 = some (false, 8) := rfl
theorem iv_ar_36 : iv_ar 36 = some (false, 12) := rfl
theorem iv_cls_37 : iv_cls 37 = some 7 := rfl
theorem iv_ar_38 : iv_ar 38 = some (false, 42) := rfl
theorem iv_ar_39 : iv_ar 39 = some (false, 30) := rfl
theorem iv_ar_40 : iv_ar 40 = some (false, 30) := rfl
theorem iv_ar_41 : iv_ar 41 = some (false, 30) := rfl
theorem iv_ar_42 : iv_ar 42 = some (true, 30) := rfl
theorem iv_ar_43 : iv_ar 43 = some (false, 5) := rfl
theorem iv_ar_44 : iv_ar 44 = some (false, 24) := rfl
theorem iv_ar_45 : iv_ar 45 = some (false, 12) := rfl
theorem iv_ar_46 : iv_ar 46 = some (false, 12) := rfl
theorem iv_ar_47 : iv_ar 47 = some (false, 6) := rfl
theorem iv_ar_48 : iv_ar 48 = some (false, 12) := rfl
theorem iv_ar_49 : iv_ar 49 = some (false, 12) := rfl
theorem iv_ar_50 : iv_ar 50 = some (false, 8) := rfl
theorem iv_ar_51 : iv_ar 51 = some (false, 8) := rfl
theorem iv_ar_52 : iv_ar 52 = some (true, 30) := rfl
theorem iv_ar_53 : iv_ar 53 = some (false, 8) := rfl
theorem iv_ar_54 : iv_ar 54 = some (false, 3380) := rfl
theorem iv_ar_55 : iv_ar 55 = some (false, 6) := rfl
theorem iv_ar_56 : iv_ar 56 = some (false, 6) := rfl
theorem gfX0_14_3 : iv_gf tbX0.1 14 3 = some (some 4, 0) := rfl
theorem gfX0_20_3 : iv_gf tbX0.1 20 3 = some (some 7, 1) := rfl
theorem gfX0_24_3 : iv_gf tbX0.1 24 3 = some (some 8, 2) := rfl
theorem gfX0_27_3 : iv_gf tbX0.1 27 3 = some (some 9, 3) := rfl
theorem gfX0_30_3 : iv_gf tbX0.1 30 3 = some (some 10, 4) := rfl
theorem gfX0_33_3 : iv_gf tbX0.1 33 3 = some (some 11, 5) := rfl
theorem gfX0_36_4 : iv_gf tbX0.1 36 4 = some (none, 2) := rfl
theorem gfX0_36_30 : iv_gf tbX0.1 36 30 = some (none, 2) := rfl
theorem gfX0_36_33 : iv_gf tbX0.1 36 33 = some (none, 2) := rfl
theorem cvX0_40 : tbX0.2.2 40 = some (3, none, false, mX6_isWithin) := rfl
theorem cvX0_44 : tbX0.2.2 44 = some (3, some 4, false, mX4_add) := rfl
theorem gfX1_9_18 : iv_gf tbX1.1 9 18 = some (some 19, 0) := rfl
theorem gfX1_15_18 : iv_gf tbX1.1 15 18 = some (some 20, 1) := rfl
theorem gfX1_18_18 : iv_gf tbX1.1 18 18 = some (some 21, 2) := rfl
theorem gfX1_21_18 : iv_gf tbX1.1 21 18 = some (some 22, 3) := rfl
theorem gfX1_24_18 : iv_gf tbX1.1 24 18 = some (some 23, 4) := rfl
theorem gfX1_27_18 : iv_gf tbX1.1 27 18 = some (none, 5) := rfl
theorem gfX1_55_18 : iv_gf tbX1.1 55 18 = some (none, 6) := rfl
theorem cvX1_31 : tbX1.2.2 31 = some (3, some 1, true, mX1_begin) := rfl
theorem cvX1_35 : tbX1.2.2 35 = some (1, some 1, false, mX1_cheapestUnfilled) := rfl
theorem cvX1_39 : tbX1.2.2 39 = some (3, some 1, true, mX1_fill) := rfl
theorem cvX1_43 : tbX1.2.2 43 = some (1, some 1, false, mX1_keepDraft) := rfl
theorem cvX1_46 : tbX1.2.2 46 = some (2, none, false, mJ9_floorMod_7cf53) := rfl
theorem cvX1_52 : tbX1.2.2 52 = some (2, none, false, mJ9_min_7cf53) := rfl
theorem gfX2_14_29 : iv_gf tbX2.1 14 29 = some (some 30, 0) := rfl
theorem gfX2_20_29 : iv_gf tbX2.1 20 29 = some (some 33, 1) := rfl
theorem gfX2_23_29 : iv_gf tbX2.1 23 29 = some (some 36, 2) := rfl
theorem gfX2_31_4 : iv_gf tbX2.1 31 4 = some (none, 2) := rfl
theorem gfX2_31_30 : iv_gf tbX2.1 31 30 = some (none, 2) := rfl
theorem gfX2_31_33 : iv_gf tbX2.1 31 33 = some (none, 2) := rfl
theorem gfX2_48_29 : iv_gf tbX2.1 48 29 = some (none, 3) := rfl
theorem gfX2_51_4 : iv_gf tbX2.1 51 4 = some (some 5, 0) := rfl
theorem gfX2_51_30 : iv_gf tbX2.1 51 30 = some (some 31, 0) := rfl
theorem gfX2_51_33 : iv_gf tbX2.1 51 33 = some (some 34, 0) := rfl
theorem gfX2_54_4 : iv_gf tbX2.1 54 4 = some (some 6, 1) := rfl
theorem gfX2_54_30 : iv_gf tbX2.1 54 30 = some (some 32, 1) := rfl
theorem gfX2_54_33 : iv_gf tbX2.1 54 33 = some (some 35, 1) := rfl
theorem cvX2_27 : tbX2.2.2 27 = some (2, some 2, true, mX2_measureCabinetWays) := rfl
theorem cvX2_35 : tbX2.2.2 35 = some (1, none, false, mJ6_bitCount_0f7a4) := rfl
theorem cvX2_41 : tbX2.2.2 41 = some (2, some 2, false, mX2_sumOfWays) := rfl
theorem cvX2_44 : tbX2.2.2 44 = some (2, none, false, mX2_isFirstRow) := rfl
theorem cvX2_57 : tbX2.2.2 57 = some (4, some 4, false, mX4_distance) := rfl
theorem cvX2_61 : tbX2.2.2 61 = some (2, none, false, mJ9_min_7cf53) := rfl
theorem gfX3_9_12 : iv_gf tbX3.1 9 12 = some (some 13, 0) := rfl
theorem gfX3_15_12 : iv_gf tbX3.1 15 12 = some (some 14, 1) := rfl
theorem gfX3_18_12 : iv_gf tbX3.1 18 12 = some (some 15, 2) := rfl
theorem gfX3_22_12 : iv_gf tbX3.1 22 12 = some (some 16, 3) := rfl
theorem gfX3_25_12 : iv_gf tbX3.1 25 12 = some (some 17, 4) := rfl
theorem gfX3_28_12 : iv_gf tbX3.1 28 12 = some (none, 5) := rfl
theorem cvX3_32 : tbX3.2.2 32 = some (3, none, false, mX6_isWithin) := rfl
theorem cvX3_36 : tbX3.2.2 36 = some (2, none, false, mJ9_min_7cf53) := rfl
theorem gfX4_15_4 : iv_gf tbX4.1 15 4 = some (some 5, 0) := rfl
theorem gfX4_15_30 : iv_gf tbX4.1 15 30 = some (some 31, 0) := rfl
theorem gfX4_15_33 : iv_gf tbX4.1 15 33 = some (some 34, 0) := rfl
theorem gfX4_21_4 : iv_gf tbX4.1 21 4 = some (some 6, 1) := rfl
theorem gfX4_21_30 : iv_gf tbX4.1 21 30 = some (some 32, 1) := rfl
theorem gfX4_21_33 : iv_gf tbX4.1 21 33 = some (some 35, 1) := rfl
theorem gfX4_24_4 : iv_gf tbX4.1 24 4 = some (none, 2) := rfl
theorem gfX4_24_30 : iv_gf tbX4.1 24 30 = some (none, 2) := rfl
theorem gfX4_24_33 : iv_gf tbX4.1 24 33 = some (none, 2) := rfl
theorem cvX4_9 : tbX4.2.2 9 = some (2, none, false, mJ9_max_7cf53) := rfl
theorem cvX4_28 : tbX4.2.2 28 = some (1, none, false, mJ9_abs_0f7a4) := rfl
theorem gfX5_9_24 : iv_gf tbX5.1 9 24 = some (some 25, 0) := rfl
theorem gfX5_15_24 : iv_gf tbX5.1 15 24 = some (some 26, 1) := rfl
theorem gfX5_19_24 : iv_gf tbX5.1 19 24 = some (some 27, 2) := rfl
theorem gfX5_22_24 : iv_gf tbX5.1 22 24 = some (some 28, 3) := rfl
theorem gfX5_25_24 : iv_gf tbX5.1 25 24 = some (none, 5) := rfl
theorem gfX5_29_24 : iv_gf tbX5.1 29 24 = some (none, 6) := rfl
theorem gfX5_32_24 : iv_gf tbX5.1 32 24 = some (none, 7) := rfl
theorem gfX5_43_4 : iv_gf tbX5.1 43 4 = some (none, 2) := rfl
theorem gfX5_43_30 : iv_gf tbX5.1 43 30 = some (none, 2) := rfl
theorem gfX5_43_33 : iv_gf tbX5.1 43 33 = some (none, 2) := rfl
theorem gfX5_56_4 : iv_gf tbX5.1 56 4 = some (some 5, 0) := rfl
theorem gfX5_56_30 : iv_gf tbX5.1 56 30 = some (some 31, 0) := rfl
theorem gfX5_56_33 : iv_gf tbX5.1 56 33 = some (some 34, 0) := rfl
theorem gfX5_59_4 : iv_gf tbX5.1 59 4 = some (some 6, 1) := rfl
theorem gfX5_59_30 : iv_gf tbX5.1 59 30 = some (some 32, 1) := rfl
theorem gfX5_59_33 : iv_gf tbX5.1 59 33 = some (some 35, 1) := rfl
theorem gfX5_62_24 : iv_gf tbX5.1 62 24 = some (none, 4) := rfl
theorem cvX5_35 : tbX5.2.2 35 = some (7, some 5, true, mX5_extend) := rfl
theorem cvX5_39 : tbX5.2.2 39 = some (2, some 5, true, mX5_keepRow) := rfl
theorem cvX5_48 : tbX5.2.2 48 = some (3, none, false, mX6_isWithin) := rfl
theorem cvX5_52 : tbX5.2.2 52 = some (4, some 4, false, mX4_distance) := rfl
theorem gfX6_7_0 : iv_gf tbX6.1 7 0 = some (some 1, 0) := rfl
theorem gfX6_13_0 : iv_gf tbX6.1 13 0 = some (some 2, 1) := rfl
theorem gfX6_19_0 : iv_gf tbX6.1 19 0 = some (some 3, 2) := rfl
theorem gfX6_26_0 : iv_gf tbX6.1 26 0 = some (some 12, 3) := rfl
theorem gfX6_33_0 : iv_gf tbX6.1 33 0 = some (some 18, 4) := rfl
theorem gfX6_40_0 : iv_gf tbX6.1 40 0 = some (some 24, 5) := rfl
theorem gfX6_47_0 : iv_gf tbX6.1 47 0 = some (some 29, 6) := rfl
theorem gfX6_85_12 : iv_gf tbX6.1 85 12 = some (some 15, 2) := rfl
theorem gfX6_93_12 : iv_gf tbX6.1 93 12 = some (some 16, 3) := rfl
theorem gfX6_113_0 : iv_gf tbX6.1 113 0 = some (none, 7) := rfl
theorem gfX6_124_12 : iv_gf tbX6.1 124 12 = some (none, 5) := rfl
theorem gfX6_132_18 : iv_gf tbX6.1 132 18 = some (none, 5) := rfl
theorem gfX6_133_29 : iv_gf tbX6.1 133 29 = some (some 30, 0) := rfl
theorem gfX6_137_4 : iv_gf tbX6.1 137 4 = some (none, 2) := rfl
theorem gfX6_137_30 : iv_gf tbX6.1 137 30 = some (none, 2) := rfl
theorem gfX6_137_33 : iv_gf tbX6.1 137 33 = some (none, 2) := rfl
theorem gfX6_140_29 : iv_gf tbX6.1 140 29 = some (some 33, 1) := rfl
theorem gfX6_153_12 : iv_gf tbX6.1 153 12 = some (some 13, 0) := rfl
theorem gfX6_156_12 : iv_gf tbX6.1 156 12 = some (some 14, 1) := rfl
theorem gfX6_167_3 : iv_gf tbX6.1 167 3 = some (some 10, 4) := rfl
theorem gfX6_170_3 : iv_gf tbX6.1 170 3 = some (some 11, 5) := rfl
theorem gfX6_180_18 : iv_gf tbX6.1 180 18 = some (none, 6) := rfl
theorem gfX6_183_18 : iv_gf tbX6.1 183 18 = some (some 23, 4) := rfl
theorem gfX6_194_3 : iv_gf tbX6.1 194 3 = some (some 4, 0) := rfl
theorem gfX6_201_24 : iv_gf tbX6.1 201 24 = some (none, 4) := rfl
theorem gfX6_202_24 : iv_gf tbX6.1 202 24 = some (some 28, 3) := rfl
theorem gfX6_208_29 : iv_gf tbX6.1 208 29 = some (none, 3) := rfl
theorem gfX6_210_3 : iv_gf tbX6.1 210 3 = some (some 7, 1) := rfl
theorem gfX6_227_3 : iv_gf tbX6.1 227 3 = some (some 8, 2) := rfl
theorem gfX6_230_3 : iv_gf tbX6.1 230 3 = some (some 9, 3) := rfl
theorem gfX6_239_12 : iv_gf tbX6.1 239 12 = some (some 17, 4) := rfl
theorem cvX6_51 : tbX6.2.2 51 = some (2, none, true, mJ7_fill_53178) := rfl
theorem cvX6_57 : tbX6.2.2 57 = some (2, none, false, mX6_isInTown) := rfl
theorem cvX6_61 : tbX6.2.2 61 = some (3, none, false, mX6_isWithin) := rfl
theorem cvX6_65 : tbX6.2.2 65 = some (6, some 0, false, mX0_add) := rfl
theorem cvX6_69 : tbX6.2.2 69 = some (2, some 6, false, mX6_hasSlotLeft) := rfl
theorem cvX6_73 : tbX6.2.2 73 = some (3, some 3, false, mX3_add) := rfl
theorem cvX6_82 : tbX6.2.2 82 = some (2, some 3, false, mX3_has) := rfl
theorem cvX6_89 : tbX6.2.2 89 = some (2, some 6, false, mX6_givenIn) := rfl
theorem cvX6_96 : tbX6.2.2 96 = some (2, some 0, false, mX0_has) := rfl
theorem cvX6_97 : tbX6.2.2 97 = some (3, some 6, false, mX6_canComeBack) := rfl
theorem cvX6_100 : tbX6.2.2 100 = some (2, some 6, false, mX6_take) := rfl
theorem cvX6_103 : tbX6.2.2 103 = some (4, some 3, true, mX3_comeBack) := rfl
theorem cvX6_107 : tbX6.2.2 107 = some (2, some 3, false, mX3_countIn) := rfl
theorem cvX6_110 : tbX6.2.2 110 = some (2, some 3, false, mX3_isOut) := rfl
theorem cvX6_117 : tbX6.2.2 117 = some (1, some 6, true, mX6_passHour) := rfl
theorem cvX6_120 : tbX6.2.2 120 = some (1, some 0, false, mX0_size) := rfl
theorem cvX6_126 : tbX6.2.2 126 = some (1, some 3, false, mX3_countSick) := rfl
theorem cvX6_129 : tbX6.2.2 129 = some (2, some 3, false, mX3_countOld) := rfl
theorem cvX6_143 : tbX6.2.2 143 = some (1, some 6, false, mX6_priceNow) := rfl
theorem cvX6_159 : tbX6.2.2 159 = some (2, some 6, false, mX6_isReady) := rfl
theorem cvX6_164 : tbX6.2.2 164 = some (2, some 6, false, mX6_countReadyIn) := rfl
theorem cvX6_173 : tbX6.2.2 173 = some (2, some 1, false, mX1_addNeed) := rfl
theorem cvX6_176 : tbX6.2.2 176 = some (4, some 1, false, mX1_keepLeast) := rfl
theorem cvX6_186 : tbX6.2.2 186 = some (2, some 5, true, mX5_begin) := rfl
theorem cvX6_190 : tbX6.2.2 190 = some (3, some 5, true, mX5_addSurplus) := rfl
theorem cvX6_197 : tbX6.2.2 197 = some (2, some 5, false, mX5_keepShortest) := rfl
theorem cvX6_203 : tbX6.2.2 203 = some (3, some 4, false, mX4_add) := rfl
theorem cvX6_204 : tbX6.2.2 204 = some (3, some 2, false, mX2_keepBest) := rfl
theorem cvX6_213 : tbX6.2.2 213 = some (3, some 3, false, mX3_isFit) := rfl
theorem cvX6_216 : tbX6.2.2 216 = some (3, some 3, false, mX3_former) := rfl
theorem cvX6_219 : tbX6.2.2 219 = some (2, none, false, mJ9_floorMod_7cf53) := rfl
theorem cvX6_224 : tbX6.2.2 224 = some (3, some 6, true, mX6_chargeIn) := rfl
theorem cvX6_233 : tbX6.2.2 233 = some (2, some 6, false, mX6_nextToCharge) := rfl
theorem cvX6_236 : tbX6.2.2 236 = some (4, some 3, true, mX3_load) := rfl
theorem gfX7_9_37 : iv_gf tbX7.1 9 37 = some (some 38, 0) := rfl
theorem gfX7_13_37 : iv_gf tbX7.1 13 37 = some (some 39, 2) := rfl
theorem gfX7_16_37 : iv_gf tbX7.1 16 37 = some (some 40, 3) := rfl
theorem gfX7_19_37 : iv_gf tbX7.1 19 37 = some (some 41, 4) := rfl
theorem gfX7_22_37 : iv_gf tbX7.1 22 37 = some (some 42, 5) := rfl
theorem gfX7_26_37 : iv_gf tbX7.1 26 37 = some (some 43, 7) := rfl
theorem gfX7_29_37 : iv_gf tbX7.1 29 37 = some (some 44, 8) := rfl
theorem gfX7_32_37 : iv_gf tbX7.1 32 37 = some (some 45, 10) := rfl
theorem gfX7_35_37 : iv_gf tbX7.1 35 37 = some (some 46, 12) := rfl
theorem gfX7_38_37 : iv_gf tbX7.1 38 37 = some (some 47, 14) := rfl
theorem gfX7_41_37 : iv_gf tbX7.1 41 37 = some (some 48, 16) := rfl
theorem gfX7_44_37 : iv_gf tbX7.1 44 37 = some (some 49, 17) := rfl
theorem gfX7_47_37 : iv_gf tbX7.1 47 37 = some (some 50, 19) := rfl
theorem gfX7_50_37 : iv_gf tbX7.1 50 37 = some (some 51, 20) := rfl
theorem gfX7_53_37 : iv_gf tbX7.1 53 37 = some (some 52, 24) := rfl
theorem gfX7_56_37 : iv_gf tbX7.1 56 37 = some (some 53, 25) := rfl
theorem gfX7_59_37 : iv_gf tbX7.1 59 37 = some (some 54, 26) := rfl
theorem gfX7_62_37 : iv_gf tbX7.1 62 37 = some (some 55, 27) := rfl
theorem gfX7_65_37 : iv_gf tbX7.1 65 37 = some (some 56, 28) := rfl
theorem gfX7_68_37 : iv_gf tbX7.1 68 37 = some (none, 23) := rfl
theorem gfX7_72_37 : iv_gf tbX7.1 72 37 = some (none, 1) := rfl
theorem gfX7_79_37 : iv_gf tbX7.1 79 37 = some (none, 6) := rfl
theorem gfX7_119_37 : iv_gf tbX7.1 119 37 = some (none, 9) := rfl
theorem gfX7_137_37 : iv_gf tbX7.1 137 37 = some (none, 11) := rfl
theorem gfX7_140_37 : iv_gf tbX7.1 140 37 = some (none, 18) := rfl
theorem gfX7_143_37 : iv_gf tbX7.1 143 37 = some (none, 21) := rfl
theorem gfX7_147_37 : iv_gf tbX7.1 147 37 = some (none, 13) := rfl
theorem gfX7_153_37 : iv_gf tbX7.1 153 37 = some (none, 29) := rfl
theorem gfX7_169_37 : iv_gf tbX7.1 169 37 = some (none, 15) := rfl
theorem gfX7_181_37 : iv_gf tbX7.1 181 37 = some (none, 22) := rfl
theorem cvX7_75 : tbX7.2.2 75 = some (3, none, false, mX7_in) := rfl
theorem cvX7_82 : tbX7.2.2 82 = some (2, some 7, false, mX7_inside) := rfl
theorem cvX7_86 : tbX7.2.2 86 = some (2, some 7, false, mX7_isFit) := rfl
theorem cvX7_90 : tbX7.2.2 90 = some (2, some 7, false, mX7_isReady) := rfl
theorem cvX7_93 : tbX7.2.2 93 = some (3, some 7, false, mX7_isAhead) := rfl
theorem cvX7_97 : tbX7.2.2 97 = some (2, some 7, false, mX7_isCabinet) := rfl
theorem cvX7_100 : tbX7.2.2 100 = some (2, some 7, false, mX7_hasSlot) := rfl
theorem cvX7_104 : tbX7.2.2 104 = some (1, none, false, mX7_leastOf) := rfl
theorem cvX7_107 : tbX7.2.2 107 = some (1, none, false, mX7_mostOf) := rfl
theorem cvX7_110 : tbX7.2.2 110 = some (2, some 7, false, mX7_isPack) := rfl
theorem cvX7_113 : tbX7.2.2 113 = some (2, some 7, false, mX7_given) := rfl
theorem cvX7_116 : tbX7.2.2 116 = some (3, some 7, false, mX7_mayCome) := rfl
theorem cvX7_122 : tbX7.2.2 122 = some (2, some 7, false, mX7_line) := rfl
theorem cvX7_125 : tbX7.2.2 125 = some (2, some 7, false, mX7_readyIn) := rfl
theorem cvX7_128 : tbX7.2.2 128 = some (2, none, false, mJ9_min_7cf53) := rfl
theorem cvX7_134 : tbX7.2.2 134 = some (1, some 7, true, mX7_goHour) := rfl
theorem cvX7_150 : tbX7.2.2 150 = some (1, none, false, mJ9_abs_0f7a4) := rfl
theorem cvX7_156 : tbX7.2.2 156 = some (4, none, false, mX7_away) := rfl
theorem cvX7_160 : tbX7.2.2 160 = some (8, some 7, true, mX7_goOn) := rfl
theorem cvX7_164 : tbX7.2.2 164 = some (1, none, false, mJ6_bitCount_0f7a4) := rfl
theorem cvX7_172 : tbX7.2.2 172 = some (1, none, false, mJ6_numberOfTrailingZeros_0f7a4) := rfl
theorem cvX7_175 : tbX7.2.2 175 = some (2, some 7, false, mX7_sumOf) := rfl
theorem cvX7_178 : tbX7.2.2 178 = some (2, none, false, mX7_isFirst) := rfl
theorem csX7_103 : tbX7.2.1 103 = some 100000 := rfl
theorem csX7_146 : tbX7.2.1 146 = some 268435456 := rfl
theorem csJ6_264 : tbJ6.2.1 264 = some 65536 := rfl
theorem csJ6_265 : tbJ6.2.1 265 = some 1431655765 := rfl
theorem csJ6_266 : tbJ6.2.1 266 = some 858993459 := rfl
theorem csJ6_267 : tbJ6.2.1 267 = some 252645135 := rfl
theorem ie_p1 {x : Int32} {r : List iv_V} {f : Int32 → List iv_V → Prop} : iv_p1 (.inr x :: r) f = f x r := rfl
theorem ie_p2 {x y : Int32} {r : List iv_V} {f : Int32 → Int32 → List iv_V → Prop} : iv_p2 (.inr y :: .inr x :: r) f = f x y r := rfl
theorem ie_pr {k : Nat} {r : List iv_V} {f : Nat → List iv_V → Prop} : iv_pr (.inl k :: r) f = f k r := rfl
theorem ie_pa {k : Nat} {i : Int32} {r : List iv_V} {f : Nat → Int32 → List iv_V → Prop} : iv_pa (.inr i :: .inl k :: r) f = f k i r := rfl
theorem ie_ps {k : Nat} {i x : Int32} {r : List iv_V} {f : Nat → Int32 → Int32 → List iv_V → Prop} : iv_ps (.inr x :: .inr i :: .inl k :: r) f = f k i x r := rfl
theorem ie_d1 {v : iv_V} {r : List iv_V} {f : iv_V → List iv_V → Prop} : iv_d1 (v :: r) f = f v r := rfl
theorem ie_d2 {v w : iv_V} {r : List iv_V} {f : iv_V → iv_V → List iv_V → Prop} : iv_d2 (v :: w :: r) f = f v w r := rfl
theorem ie_r1 {x : Int32} {f : Int32 → Prop} : iv_r1 [.inr x] f = f x := rfl
theorem ie_o {α : Type} {x : α} {f : α → Prop} : iv_o (some x) f = f x := rfl
theorem ie_gr {σ : iv_S} {k q j : Nat} : iv_gv σ k (some q, j) = .inl q := rfl
theorem ie_gi {σ : iv_S} {k j : Nat} : iv_gv σ k (none, j) = .inr (σ k j) := rfl
theorem ie_pt {r : Int32} {st : List iv_V} : iv_push true r st = st := rfl
theorem ie_pf {r : Int32} {st : List iv_V} : iv_push false r st = .inr r :: st := rfl
theorem ie_ri {v : Int32} : iv_rk (some .int) v = True := rfl
theorem ie_rz {v : Int32} : iv_rk (some .boolean) v = (v = 0 ∨ v = 1) := rfl
theorem ie_br {c A B : Prop} : iv_br c A B = ((c → A) ∧ (¬ c → B)) := rfl
theorem ie_c1eq {x : Int32} : iv_c1 .eq x = (x = 0) := rfl
theorem ie_c1ne {x : Int32} : iv_c1 .ne x = (¬ x = 0) := rfl
theorem ie_c1lt {x : Int32} : iv_c1 .lt x = (x < 0) := rfl
theorem ie_c1ge {x : Int32} : iv_c1 .ge x = (0 ≤ x) := rfl
theorem ie_c1gt {x : Int32} : iv_c1 .gt x = (0 < x) := rfl
theorem ie_c1le {x : Int32} : iv_c1 .le x = (x ≤ 0) := rfl
theorem ie_c2eq {x y : Int32} : iv_c2 .eq x y = (x = y) := rfl
theorem ie_c2ne {x y : Int32} : iv_c2 .ne x y = (¬ x = y) := rfl
theorem ie_c2lt {x y : Int32} : iv_c2 .lt x y = (x < y) := rfl
theorem ie_c2ge {x y : Int32} : iv_c2 .ge x y = (y ≤ x) := rfl
theorem ie_c2gt {x y : Int32} : iv_c2 .gt x y = (y < x) := rfl
theorem ie_c2le {x y : Int32} : iv_c2 .le x y = (x ≤ y) := rfl
theorem ie_sw0 {x : Int32} {pc : Nat} {f : Nat → Prop} {lo : Int} : iv_sw x pc f lo [] = True := rfl
theorem ie_sw1 {x : Int32} {pc : Nat} {f : Nat → Prop} {lo o : Int} {os : List Int} : iv_sw x pc f lo (o :: os) = ((x = Int32.ofInt lo → iv_j pc o f) ∧ iv_sw x pc f (lo + 1) os) := rfl
theorem ie_li0 {x : Int32} {l : iv_Ls} {f : Int32 → Prop} : iv_li (some (.inr x) :: l) 0 f = f x := rfl
theorem ie_lr0 {x : Nat} {l : iv_Ls} {f : Nat → Prop} : iv_lr (some (.inl x) :: l) 0 f = f x := rfl
theorem ie_ls0 {w x : Option iv_V} {l : iv_Ls} : List.set (w :: l) 0 x = x :: l := rfl
theorem ie_li1 {v0 : Option iv_V} {x : Int32} {l : iv_Ls} {f : Int32 → Prop} : iv_li (v0 :: some (.inr x) :: l) 1 f = f x := rfl
theorem ie_lr1 {v0 : Option iv_V} {x : Nat} {l : iv_Ls} {f : Nat → Prop} : iv_lr (v0 :: some (.inl x) :: l) 1 f = f x := rfl
theorem ie_ls1 {v0 : Option iv_V} {w x : Option iv_V} {l : iv_Ls} : List.set (v0 :: w :: l) 1 x = v0 :: x :: l := rfl
theorem ie_li2 {v0 v1 : Option iv_V} {x : Int32} {l : iv_Ls} {f : Int32 → Prop} : iv_li (v0 :: v1 :: some (.inr x) :: l) 2 f = f x := rfl
theorem ie_lr2 {v0 v1 : Option iv_V} {x : Nat} {l : iv_Ls} {f : Nat → Prop} : iv_lr (v0 :: v1 :: some (.inl x) :: l) 2 f = f x := rfl
theorem ie_ls2 {v0 v1 : Option iv_V} {w x : Option iv_V} {l : iv_Ls} : List.set (v0 :: v1 :: w :: l) 2 x = v0 :: v1 :: x :: l := rfl
theorem ie_li3 {v0 v1 v2 : Option iv_V} {x : Int32} {l : iv_Ls} {f : Int32 → Prop} : iv_li (v0 :: v1 :: v2 :: some (.inr x) :: l) 3 f = f x := rfl
theorem ie_lr3 {v0 v1 v2 : Option iv_V} {x : Nat} {l : iv_Ls} {f : Nat → Prop} : iv_lr (v0 :: v1 :: v2 :: some (.inl x) :: l) 3 f = f x := rfl
theorem ie_ls3 {v0 v1 v2 : Option iv_V} {w x : Option iv_V} {l : iv_Ls} : List.set (v0 :: v1 :: v2 :: w :: l) 3 x = v0 :: v1 :: v2 :: x :: l := rfl
theorem ie_li4 {v0 v1 v2 v3 : Option iv_V} {x : Int32} {l : iv_Ls} {f : Int32 → Prop} : iv_li (v0 :: v1 :: v2 :: v3 :: some (.inr x) :: l) 4 f = f x := rfl
theorem ie_lr4 {v0 v1 v2 v3 : Option iv_V} {x : Nat} {l : iv_Ls} {f : Nat → Prop} : iv_lr (v0 :: v1 :: v2 :: v3 :: some (.inl x) :: l) 4 f = f x := rfl
theorem ie_ls4 {v0 v1 v2 v3 : Option iv_V} {w x : Option iv_V} {l : iv_Ls} : List.set (v0 :: v1 :: v2 :: v3 :: w :: l) 4 x = v0 :: v1 :: v2 :: v3 :: x :: l := rfl
theorem ie_li5 {v0 v1 v2 v3 v4 : Option iv_V} {x : Int32} {l : iv_Ls} {f : Int32 → Prop} : iv_li (v0 :: v1 :: v2 :: v3 :: v4 :: some (.inr x) :: l) 5 f = f x := rfl
theorem ie_lr5 {v0 v1 v2 v3 v4 : Option iv_V} {x : Nat} {l : iv_Ls} {f : Nat → Prop} : iv_lr (v0 :: v1 :: v2 :: v3 :: v4 :: some (.inl x) :: l) 5 f = f x := rfl
theorem ie_ls5 {v0 v1 v2 v3 v4 : Option iv_V} {w x : Option iv_V} {l : iv_Ls} : List.set (v0 :: v1 :: v2 :: v3 :: v4 :: w :: l) 5 x = v0 :: v1 :: v2 :: v3 :: v4 :: x :: l := rfl
theorem ie_li6 {v0 v1 v2 v3 v4 v5 : Option iv_V} {x : Int32} {l : iv_Ls} {f : Int32 → Prop} : iv_li (v0 :: v1 :: v2 :: v3 :: v4 :: v5 :: some (.inr x) :: l) 6 f = f x := rfl
theorem ie_lr6 {v0 v1 v2 v3 v4 v5 : Option iv_V} {x : Nat} {l : iv_Ls} {f : Nat → Prop} : iv_lr (v0 :: v1 :: v2 :: v3 :: v4 :: v5 :: some (.inl x) :: l) 6 f = f x := rfl
theorem ie_ls6 {v0 v1 v2 v3 v4 v5 : Option iv_V} {w x : Option iv_V} {l : iv_Ls} : List.set (v0 :: v1 :: v2 :: v3 :: v4 :: v5 :: w :: l) 6 x = v0 :: v1 :: v2 :: v3 :: v4 :: v5 :: x :: l := rfl
theorem ie_li7 {v0 v1 v2 v3 v4 v5 v6 : Option iv_V} {x : Int32} {l : iv_Ls} {f : Int32 → Prop} : iv_li (v0 :: v1 :: v2 :: v3 :: v4 :: v5 :: v6 :: some (.inr x) :: l) 7 f = f x := rfl
theorem ie_lr7 {v0 v1 v2 v3 v4 v5 v6 : Option iv_V} {x : Nat} {l : iv_Ls} {f : Nat → Prop} : iv_lr (v0 :: v1 :: v2 :: v3 :: v4 :: v5 :: v6 :: some (.inl x) :: l) 7 f = f x := rfl
theorem ie_ls7 {v0 v1 v2 v3 v4 v5 v6 : Option iv_V} {w x : Option iv_V} {l : iv_Ls} : List.set (v0 :: v1 :: v2 :: v3 :: v4 :: v5 :: v6 :: w :: l) 7 x = v0 :: v1 :: v2 :: v3 :: v4 :: v5 :: v6 :: x :: l := rfl
theorem ie_li8 {v0 v1 v2 v3 v4 v5 v6 v7 : Option iv_V} {x : Int32} {l : iv_Ls} {f : Int32 → Prop} : iv_li (v0 :: v1 :: v2 :: v3 :: v4 :: v5 :: v6 :: v7 :: some (.inr x) :: l) 8 f = f x := rfl
theorem ie_lr8 {v0 v1 v2 v3 v4 v5 v6 v7 : Option iv_V} {x : Nat} {l : iv_Ls} {f : Nat → Prop} : iv_lr (v0 :: v1 :: v2 :: v3 :: v4 :: v5 :: v6 :: v7 :: some (.inl x) :: l) 8 f = f x := rfl
theorem ie_ls8 {v0 v1 v2 v3 v4 v5 v6 v7 : Option iv_V} {w x : Option iv_V} {l : iv_Ls} : List.set (v0 :: v1 :: v2 :: v3 :: v4 :: v5 :: v6 :: v7 :: w :: l) 8 x = v0 :: v1 :: v2 :: v3 :: v4 :: v5 :: v6 :: v7 :: x :: l := rfl
theorem ie_li9 {v0 v1 v2 v3 v4 v5 v6 v7 v8 : Option iv_V} {x : Int32} {l : iv_Ls} {f : Int32 → Prop} : iv_li (v0 :: v1 :: v2 :: v3 :: v4 :: v5 :: v6 :: v7 :: v8 :: some (.inr x) :: l) 9 f = f x := rfl
theorem ie_lr9 {v0 v1 v2 v3 v4 v5 v6 v7 v8 : Option iv_V} {x : Nat} {l : iv_Ls} {f : Nat → Prop} : iv_lr (v0 :: v1 :: v2 :: v3 :: v4 :: v5 :: v6 :: v7 :: v8 :: some (.inl x) :: l) 9 f = f x := rfl
theorem ie_ls9 {v0 v1 v2 v3 v4 v5 v6 v7 v8 : Option iv_V} {w x : Option iv_V} {l : iv_Ls} : List.set (v0 :: v1 :: v2 :: v3 :: v4 :: v5 :: v6 :: v7 :: v8 :: w :: l) 9 x = v0 :: v1 :: v2 :: v3 :: v4 :: v5 :: v6 :: v7 :: v8 :: x :: l := rfl
theorem ie_li10 {v0 v1 v2 v3 v4 v5 v6 v7 v8 v9 : Option iv_V} {x : Int32} {l : iv_Ls} {f : Int32 → Prop} : iv_li (v0 :: v1 :: v2 :: v3 :: v4 :: v5 :: v6 :: v7 :: v8 :: v9 :: some (.inr x) :: l) 10 f = f x := rfl
theorem ie_lr10 {v0 v1 v2 v3 v4 v5 v6 v7 v8 v9 : Option iv_V} {x : Nat} {l : iv_Ls} {f : Nat → Prop} : iv_lr (v0 :: v1 :: v2 :: v3 :: v4 :: v5 :: v6 :: v7 :: v8 :: v9 :: some (.inl x) :: l) 10 f = f x := rfl
theorem ie_ls10 {v0 v1 v2 v3 v4 v5 v6 v7 v8 v9 : Option iv_V} {w x : Option iv_V} {l : iv_Ls} : List.set (v0 :: v1 :: v2 :: v3 :: v4 :: v5 :: v6 :: v7 :: v8 :: v9 :: w :: l) 10 x = v0 :: v1 :: v2 :: v3 :: v4 :: v5 :: v6 :: v7 :: v8 :: v9 :: x :: l := rfl
theorem ie_li11 {v0 v1 v2 v3 v4 v5 v6 v7 v8 v9 v10 : Option iv_V} {x : Int32} {l : iv_Ls} {f : Int32 → Prop} : iv_li (v0 :: v1 :: v2 :: v3 :: v4 :: v5 :: v6 :: v7 :: v8 :: v9 :: v10 :: some (.inr x) :: l) 11 f = f x := rfl
theorem ie_lr11 {v0 v1 v2 v3 v4 v5 v6 v7 v8 v9 v10 : Option iv_V} {x : Nat} {l : iv_Ls} {f : Nat → Prop} : iv_lr (v0 :: v1 :: v2 :: v3 :: v4 :: v5 :: v6 :: v7 :: v8 :: v9 :: v10 :: some (.inl x) :: l) 11 f = f x := rfl
theorem ie_ls11 {v0 v1 v2 v3 v4 v5 v6 v7 v8 v9 v10 : Option iv_V} {w x : Option iv_V} {l : iv_Ls} : List.set (v0 :: v1 :: v2 :: v3 :: v4 :: v5 :: v6 :: v7 :: v8 :: v9 :: v10 :: w :: l) 11 x = v0 :: v1 :: v2 :: v3 :: v4 :: v5 :: v6 :: v7 :: v8 :: v9 :: v10 :: x :: l := rfl
theorem ie_li12 {v0 v1 v2 v3 v4 v5 v6 v7 v8 v9 v10 v11 : Option iv_V} {x : Int32} {l : iv_Ls} {f : Int32 → Prop} : iv_li (v0 :: v1 :: v2 :: v3 :: v4 :: v5 :: v6 :: v7 :: v8 :: v9 :: v10 :: v11 :: some (.inr x) :: l) 12 f = f x := rfl
theorem ie_lr12 {v0 v1 v2 v3 v4 v5 v6 v7 v8 v9 v10 v11 : Option iv_V} {x : Nat} {l : iv_Ls} {f : Nat → Prop} : iv_lr (v0 :: v1 :: v2 :: v3 :: v4 :: v5 :: v6 :: v7 :: v8 :: v9 :: v10 :: v11 :: some (.inl x) :: l) 12 f = f x := rfl
theorem ie_ls12 {v0 v1 v2 v3 v4 v5 v6 v7 v8 v9 v10 v11 : Option iv_V} {w x : Option iv_V} {l : iv_Ls} : List.set (v0 :: v1 :: v2 :: v3 :: v4 :: v5 :: v6 :: v7 :: v8 :: v9 :: v10 :: v11 :: w :: l) 12 x = v0 :: v1 :: v2 :: v3 :: v4 :: v5 :: v6 :: v7 :: v8 :: v9 :: v10 :: v11 :: x :: l := rfl
theorem ie_li13 {v0 v1 v2 v3 v4 v5 v6 v7 v8 v9 v10 v11 v12 : Option iv_V} {x : Int32} {l : iv_Ls} {f : Int32 → Prop} : iv_li (v0 :: v1 :: v2 :: v3 :: v4 :: v5 :: v6 :: v7 :: v8 :: v9 :: v10 :: v11 :: v12 :: some (.inr x) :: l) 13 f = f x := rfl
theorem ie_lr13 {v0 v1 v2 v3 v4 v5 v6 v7 v8 v9 v10 v11 v12 : Option iv_V} {x : Nat} {l : iv_Ls} {f : Nat → Prop} : iv_lr (v0 :: v1 :: v2 :: v3 :: v4 :: v5 :: v6 :: v7 :: v8 :: v9 :: v10 :: v11 :: v12 :: some (.inl x) :: l) 13 f = f x := rfl
theorem ie_ls13 {v0 v1 v2 v3 v4 v5 v6 v7 v8 v9 v10 v11 v12 : Option iv_V} {w x : Option iv_V} {l : iv_Ls} : List.set (v0 :: v1 :: v2 :: v3 :: v4 :: v5 :: v6 :: v7 :: v8 :: v9 :: v10 :: v11 :: v12 :: w :: l) 13 x = v0 :: v1 :: v2 :: v3 :: v4 :: v5 :: v6 :: v7 :: v8 :: v9 :: v10 :: v11 :: v12 :: x :: l := rfl
theorem ie_li14 {v0 v1 v2 v3 v4 v5 v6 v7 v8 v9 v10 v11 v12 v13 : Option iv_V} {x : Int32} {l : iv_Ls} {f : Int32 → Prop} : iv_li (v0 :: v1 :: v2 :: v3 :: v4 :: v5 :: v6 :: v7 :: v8 :: v9 :: v10 :: v11 :: v12 :: v13 :: some (.inr x) :: l) 14 f = f x := rfl
theorem ie_lr14 {v0 v1 v2 v3 v4 v5 v6 v7 v8 v9 v10 v11 v12 v13 : Option iv_V} {x : Nat} {l : iv_Ls} {f : Nat → Prop} : iv_lr (v0 :: v1 :: v2 :: v3 :: v4 :: v5 :: v6 :: v7 :: v8 :: v9 :: v10 :: v11 :: v12 :: v13 :: some (.inl x) :: l) 14 f = f x := rfl
theorem ie_ls14 {v0 v1 v2 v3 v4 v5 v6 v7 v8 v9 v10 v11 v12 v13 : Option iv_V} {w x : Option iv_V} {l : iv_Ls} : List.set (v0 :: v1 :: v2 :: v3 :: v4 :: v5 :: v6 :: v7 :: v8 :: v9 :: v10 :: v11 :: v12 :: v13 :: w :: l) 14 x = v0 :: v1 :: v2 :: v3 :: v4 :: v5 :: v6 :: v7 :: v8 :: v9 :: v10 :: v11 :: v12 :: v13 :: x :: l := rfl
theorem ie_li15 {v0 v1 v2 v3 v4 v5 v6 v7 v8 v9 v10 v11 v12 v13 v14 : Option iv_V} {x : Int32} {l : iv_Ls} {f : Int32 → Prop} : iv_li (v0 :: v1 :: v2 :: v3 :: v4 :: v5 :: v6 :: v7 :: v8 :: v9 :: v10 :: v11 :: v12 :: v13 :: v14 :: some (.inr x) :: l) 15 f = f x := rfl
theorem ie_lr15 {v0 v1 v2 v3 v4 v5 v6 v7 v8 v9 v10 v11 v12 v13 v14 : Option iv_V} {x : Nat} {l : iv_Ls} {f : Nat → Prop} : iv_lr (v0 :: v1 :: v2 :: v3 :: v4 :: v5 :: v6 :: v7 :: v8 :: v9 :: v10 :: v11 :: v12 :: v13 :: v14 :: some (.inl x) :: l) 15 f = f x := rfl
theorem ie_ls15 {v0 v1 v2 v3 v4 v5 v6 v7 v8 v9 v10 v11 v12 v13 v14 : Option iv_V} {w x : Option iv_V} {l : iv_Ls} : List.set (v0 :: v1 :: v2 :: v3 :: v4 :: v5 :: v6 :: v7 :: v8 :: v9 :: v10 :: v11 :: v12 :: v13 :: v14 :: w :: l) 15 x = v0 :: v1 :: v2 :: v3 :: v4 :: v5 :: v6 :: v7 :: v8 :: v9 :: v10 :: v11 :: v12 :: v13 :: v14 :: x :: l := rfl
theorem ie_fn0 : ((0 : Fin 4) : Nat) = 0 := rfl
theorem ie_fn1 : ((1 : Fin 4) : Nat) = 1 := rfl
theorem ie_fn2 : ((2 : Fin 4) : Nat) = 2 := rfl
theorem ie_fn3 : ((3 : Fin 4) : Nat) = 3 := rfl
theorem ie_call1 {X : iv_X} {d : Nat} {ck : Option Nat} {vd : Bool} {ym : iv_M} {v0 : iv_V} {r : List iv_V} {σ : iv_S} {K : List iv_V → iv_S → Prop} : iv_call X d (1, ck, vd, ym) (v0 :: r) σ K = (r.length ≤ 8 ∧ ∃ Q : Int32 → iv_S → Prop, iv_Ct X ym d [v0] σ Q ∧ ∀ r1 σ1, Q r1 σ1 → K (iv_push vd r1 r) σ1) := by unfold iv_call; simp
theorem ie_rc1 {ck : Option Nat} {vd : Bool} {ym : iv_M} {k : Nat} {r : List iv_V} : iv_rc (1, ck, vd, ym) (.inl k :: r) = (iv_cls k = ck ∧ ck ≠ none) := rfl
theorem ie_call2 {X : iv_X} {d : Nat} {ck : Option Nat} {vd : Bool} {ym : iv_M} {v0 v1 : iv_V} {r : List iv_V} {σ : iv_S} {K : List iv_V → iv_S → Prop} : iv_call X d (2, ck, vd, ym) (v1 :: v0 :: r) σ K = (r.length ≤ 8 ∧ ∃ Q : Int32 → iv_S → Prop, iv_Ct X ym d [v0, v1] σ Q ∧ ∀ r1 σ1, Q r1 σ1 → K (iv_push vd r1 r) σ1) := by unfold iv_call; simp
theorem ie_rc2 {ck : Option Nat} {vd : Bool} {ym : iv_M} {v1 : iv_V} {k : Nat} {r : List iv_V} : iv_rc (2, ck, vd, ym) (v1 :: .inl k :: r) = (iv_cls k = ck ∧ ck ≠ none) := rfl
theorem ie_call3 {X : iv_X} {d : Nat} {ck : Option Nat} {vd : Bool} {ym : iv_M} {v0 v1 v2 : iv_V} {r : List iv_V} {σ : iv_S} {K : List iv_V → iv_S → Prop} : iv_call X d (3, ck, vd, ym) (v2 :: v1 :: v0 :: r) σ K = (r.length ≤ 8 ∧ ∃ Q : Int32 → iv_S → Prop, iv_Ct X ym d [v0, v1, v2] σ Q ∧ ∀ r1 σ1, Q r1 σ1 → K (iv_push vd r1 r) σ1) := by unfold iv_call; simp
theorem ie_rc3 {ck : Option Nat} {vd : Bool} {ym : iv_M} {v1 v2 : iv_V} {k : Nat} {r : List iv_V} : iv_rc (3, ck, vd, ym) (v2 :: v1 :: .inl k :: r) = (iv_cls k = ck ∧ ck ≠ none) := rfl
theorem ie_call4 {X : iv_X} {d : Nat} {ck : Option Nat} {vd : Bool} {ym : iv_M} {v0 v1 v2 v3 : iv_V} {r : List iv_V} {σ : iv_S} {K : List iv_V → iv_S → Prop} : iv_call X d (4, ck, vd, ym) (v3 :: v2 :: v1 :: v0 :: r) σ K = (r.length ≤ 8 ∧ ∃ Q : Int32 → iv_S → Prop, iv_Ct X ym d [v0, v1, v2, v3] σ Q ∧ ∀ r1 σ1, Q r1 σ1 → K (iv_push vd r1 r) σ1) := by unfold iv_call; simp
theorem ie_rc4 {ck : Option Nat} {vd : Bool} {ym : iv_M} {v1 v2 v3 : iv_V} {k : Nat} {r : List iv_V} : iv_rc (4, ck, vd, ym) (v3 :: v2 :: v1 :: .inl k :: r) = (iv_cls k = ck ∧ ck ≠ none) := rfl
theorem ie_call5 {X : iv_X} {d : Nat} {ck : Option Nat} {vd : Bool} {ym : iv_M} {v0 v1 v2 v3 v4 : iv_V} {r : List iv_V} {σ : iv_S} {K : List iv_V → iv_S → Prop} : iv_call X d (5, ck, vd, ym) (v4 :: v3 :: v2 :: v1 :: v0 :: r) σ K = (r.length ≤ 8 ∧ ∃ Q : Int32 → iv_S → Prop, iv_Ct X ym d [v0, v1, v2, v3, v4] σ Q ∧ ∀ r1 σ1, Q r1 σ1 → K (iv_push vd r1 r) σ1) := by unfold iv_call; simp
theorem ie_rc5 {ck : Option Nat} {vd : Bool} {ym : iv_M} {v1 v2 v3 v4 : iv_V} {k : Nat} {r : List iv_V} : iv_rc (5, ck, vd, ym) (v4 :: v3 :: v2 :: v1 :: .inl k :: r) = (iv_cls k = ck ∧ ck ≠ none) := rfl
theorem ie_call6 {X : iv_X} {d : Nat} {ck : Option Nat} {vd : Bool} {ym : iv_M} {v0 v1 v2 v3 v4 v5 : iv_V} {r : List iv_V} {σ : iv_S} {K : List iv_V → iv_S → Prop} : iv_call X d (6, ck, vd, ym) (v5 :: v4 :: v3 :: v2 :: v1 :: v0 :: r) σ K = (r.length ≤ 8 ∧ ∃ Q : Int32 → iv_S → Prop, iv_Ct X ym d [v0, v1, v2, v3, v4, v5] σ Q ∧ ∀ r1 σ1, Q r1 σ1 → K (iv_push vd r1 r) σ1) := by unfold iv_call; simp
theorem ie_rc6 {ck : Option Nat} {vd : Bool} {ym : iv_M} {v1 v2 v3 v4 v5 : iv_V} {k : Nat} {r : List iv_V} : iv_rc (6, ck, vd, ym) (v5 :: v4 :: v3 :: v2 :: v1 :: .inl k :: r) = (iv_cls k = ck ∧ ck ≠ none) := rfl
theorem ie_call7 {X : iv_X} {d : Nat} {ck : Option Nat} {vd : Bool} {ym : iv_M} {v0 v1 v2 v3 v4 v5 v6 : iv_V} {r : List iv_V} {σ : iv_S} {K : List iv_V → iv_S → Prop} : iv_call X d (7, ck, vd, ym) (v6 :: v5 :: v4 :: v3 :: v2 :: v1 :: v0 :: r) σ K = (r.length ≤ 8 ∧ ∃ Q : Int32 → iv_S → Prop, iv_Ct X ym d [v0, v1, v2, v3, v4, v5, v6] σ Q ∧ ∀ r1 σ1, Q r1 σ1 → K (iv_push vd r1 r) σ1) := by unfold iv_call; simp
theorem ie_rc7 {ck : Option Nat} {vd : Bool} {ym : iv_M} {v1 v2 v3 v4 v5 v6 : iv_V} {k : Nat} {r : List iv_V} : iv_rc (7, ck, vd, ym) (v6 :: v5 :: v4 :: v3 :: v2 :: v1 :: .inl k :: r) = (iv_cls k = ck ∧ ck ≠ none) := rfl
theorem ie_call8 {X : iv_X} {d : Nat} {ck : Option Nat} {vd : Bool} {ym : iv_M} {v0 v1 v2 v3 v4 v5 v6 v7 : iv_V} {r : List iv_V} {σ : iv_S} {K : List iv_V → iv_S → Prop} : iv_call X d (8, ck, vd, ym) (v7 :: v6 :: v5 :: v4 :: v3 :: v2 :: v1 :: v0 :: r) σ K = (r.length ≤ 8 ∧ ∃ Q : Int32 → iv_S → Prop, iv_Ct X ym d [v0, v1, v2, v3, v4, v5, v6, v7] σ Q ∧ ∀ r1 σ1, Q r1 σ1 → K (iv_push vd r1 r) σ1) := by unfold iv_call; simp
theorem ie_rc8 {ck : Option Nat} {vd : Bool} {ym : iv_M} {v1 v2 v3 v4 v5 v6 v7 : iv_V} {k : Nat} {r : List iv_V} : iv_rc (8, ck, vd, ym) (v7 :: v6 :: v5 :: v4 :: v3 :: v2 :: v1 :: .inl k :: r) = (iv_cls k = ck ∧ ck ≠ none) := rfl
theorem ie_im1 : Int32.ofInt (-1) = -1 := by decide +kernel
theorem ie_i0 : Int32.ofInt 0 = 0 := by decide +kernel
theorem ie_i1 : Int32.ofInt 1 = 1 := by decide +kernel
theorem ie_i2 : Int32.ofInt 2 = 2 := by decide +kernel
theorem ie_i3 : Int32.ofInt 3 = 3 := by decide +kernel
theorem ie_i4 : Int32.ofInt 4 = 4 := by decide +kernel
theorem ie_i5 : Int32.ofInt 5 = 5 := by decide +kernel
theorem ie_i6 : Int32.ofInt 6 = 6 := by decide +kernel
theorem ie_i7 : Int32.ofInt 7 = 7 := by decide +kernel
theorem ie_i8 : Int32.ofInt 8 = 8 := by decide +kernel
theorem ie_i9 : Int32.ofInt 9 = 9 := by decide +kernel
theorem ie_i16 : Int32.ofInt 16 = 16 := by decide +kernel
theorem ie_bm2 : (Int8.ofInt (-2)).toInt32 = -2 := by decide +kernel
theorem ie_b6 : (Int8.ofInt 6).toInt32 = 6 := by decide +kernel
theorem ie_b7 : (Int8.ofInt 7).toInt32 = 7 := by decide +kernel
theorem ie_b8 : (Int8.ofInt 8).toInt32 = 8 := by decide +kernel
theorem ie_b10 : (Int8.ofInt 10).toInt32 = 10 := by decide +kernel
theorem ie_b12 : (Int8.ofInt 12).toInt32 = 12 := by decide +kernel
theorem ie_b16 : (Int8.ofInt 16).toInt32 = 16 := by decide +kernel
theorem ie_b20 : (Int8.ofInt 20).toInt32 = 20 := by decide +kernel
theorem ie_b23 : (Int8.ofInt 23).toInt32 = 23 := by decide +kernel
theorem ie_b24 : (Int8.ofInt 24).toInt32 = 24 := by decide +kernel
theorem ie_b25 : (Int8.ofInt 25).toInt32 = 25 := by decide +kernel
theorem ie_b30 : (Int8.ofInt 30).toInt32 = 30 := by decide +kernel
theorem ie_b31 : (Int8.ofInt 31).toInt32 = 31 := by decide +kernel
theorem ie_b32 : (Int8.ofInt 32).toInt32 = 32 := by decide +kernel
theorem ie_b42 : (Int8.ofInt 42).toInt32 = 42 := by decide +kernel
theorem ie_b63 : (Int8.ofInt 63).toInt32 = 63 := by decide +kernel
theorem ie_b80 : (Int8.ofInt 80).toInt32 = 80 := by decide +kernel
theorem ie_b99 : (Int8.ofInt 99).toInt32 = 99 := by decide +kernel
theorem ie_b100 : (Int8.ofInt 100).toInt32 = 100 := by decide +kernel
theorem ie_s200 : (Int16.ofInt 200).toInt32 = 200 := by decide +kernel
theorem ie_s256 : (Int16.ofInt 256).toInt32 = 256 := by decide +kernel
theorem ie_s260 : (Int16.ofInt 260).toInt32 = 260 := by decide +kernel
theorem ie_s1000 : (Int16.ofInt 1000).toInt32 = 1000 := by decide +kernel
theorem ie_s2000 : (Int16.ofInt 2000).toInt32 = 2000 := by decide +kernel
theorem ie_s3380 : (Int16.ofInt 3380).toInt32 = 3380 := by decide +kernel
theorem ie_s10000 : (Int16.ofInt 10000).toInt32 = 10000 := by decide +kernel
theorem ie_nc {n : Nat} : ((OfNat.ofNat n : Nat) : Int) = OfNat.ofNat n := rfl
