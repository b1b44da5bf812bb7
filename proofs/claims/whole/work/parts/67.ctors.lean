def mX0_init : iv_M := (yX0_init, cX0_init, 1, none)
def mX1_init : iv_M := (yX1_init, cX1_init, 1, none)
def mX2_init : iv_M := (yX2_init, cX2_init, 1, none)
def mX3_init : iv_M := (yX3_init, cX3_init, 1, none)
def mX4_init : iv_M := (yX4_init, cX4_init, 3, none)
def mX5_init : iv_M := (yX5_init, cX5_init, 1, none)
def mX6_init : iv_M := (yX6_init, cX6_init, 1, none)
def mX7_init : iv_M := (yX7_init, cX7_init, 2, none)
theorem kw_0 : Cond.methodLink RX4 3 objectInit ∈ iv_g := iv_g_in (List.mem_of_getElem? (i := 67) (by decide +kernel)) (by decide +kernel)
theorem kw_1 : Cond.instanceMethod objectInit ∈ iv_g := iv_g_in (List.mem_of_getElem? (i := 54) (by decide +kernel)) (by decide +kernel)
theorem kw_2 : Cond.code objectInit ⟨#[0xb1]⟩ 1 none ∈ iv_g := iv_g_in (List.mem_of_getElem? (i := 55) (by decide +kernel)) (by decide +kernel)
theorem kw_3 : Cond.methodLink RX4 9 Lib.Math.max.name ∈ iv_g := iv_g_in (List.mem_of_getElem? (i := 68) (by decide +kernel)) (by decide +kernel)
theorem kw_4 : Cond.static Lib.Math.max.name ∈ iv_g := iv_g_in (List.mem_of_getElem? (i := 69) (by decide +kernel)) (by decide +kernel)
theorem kw_5 : Cond.initialized "java/lang/Math" ∈ iv_g := iv_g_in (List.mem_of_getElem? (i := 36) (by decide +kernel)) (by decide +kernel)
theorem kw_6 : Cond.code Lib.Math.max.name Lib.Math.max.code 2 (some .int) ∈ iv_g := iv_g_in (List.mem_of_getElem? (i := 70) (by decide +kernel)) (by decide +kernel)
theorem kw_7 : Cond.arrayClass (newarray.typeOf .int) ∈ iv_g := iv_g_in (List.mem_of_getElem? (i := 89) (by decide +kernel)) (by decide +kernel)
theorem kw_8 : Cond.fieldLink RX4 15 "SwapGo$Spots" "xs" "[I" ∈ iv_g := iv_g_in (List.mem_of_getElem? (i := 71) (by decide +kernel)) (by decide +kernel)
theorem kw_9 : Cond.fieldLink RX4 21 "SwapGo$Spots" "ys" "[I" ∈ iv_g := iv_g_in (List.mem_of_getElem? (i := 74) (by decide +kernel)) (by decide +kernel)
theorem kw_10 : Cond.methodLink RX0 3 objectInit ∈ iv_g := iv_g_in (List.mem_of_getElem? (i := 61) (by decide +kernel)) (by decide +kernel)
theorem kw_11 : Cond.classLink RX0 9 RX4 ∈ iv_g := iv_g_in (List.mem_of_getElem? (i := 62) (by decide +kernel)) (by decide +kernel)
theorem kw_12 : Cond.instantiable RX4 3 ∈ iv_g := iv_g_in (List.mem_of_getElem? (i := 63) (by decide +kernel)) (by decide +kernel)
theorem kw_13 : Cond.initialized RX4 ∈ iv_g := iv_g_in (List.mem_of_getElem? (i := 35) (by decide +kernel)) (by decide +kernel)
theorem kw_14 : Cond.code mX4_init.1 mX4_init.2.1 mX4_init.2.2.1 mX4_init.2.2.2 ∈ iv_g := iv_g_in (List.mem_of_getElem? (i := 66) (by decide +kernel)) (by decide +kernel)
theorem kw_15 : Cond.initialized mX4_init.1.cls ∈ iv_g := iv_g_in (List.mem_of_getElem? (i := 35) (by decide +kernel)) (by decide +kernel)
theorem kw_16 : Cond.methodLink RX0 11 mX4_init.1 ∈ iv_g := iv_g_in (List.mem_of_getElem? (i := 64) (by decide +kernel)) (by decide +kernel)
theorem kw_17 : Cond.instanceMethod mX4_init.1 ∈ iv_g := iv_g_in (List.mem_of_getElem? (i := 65) (by decide +kernel)) (by decide +kernel)
theorem kw_18 : Cond.fieldLink RX0 14 "SwapGo$Cabinets" "spots" "LSwapGo$Spots;" ∈ iv_g := iv_g_in (List.mem_of_getElem? (i := 90) (by decide +kernel)) (by decide +kernel)
theorem kw_19 : Cond.fieldLink RX0 20 "SwapGo$Cabinets" "slots" "[I" ∈ iv_g := iv_g_in (List.mem_of_getElem? (i := 92) (by decide +kernel)) (by decide +kernel)
theorem kw_20 : Cond.fieldLink RX0 24 "SwapGo$Cabinets" "lines" "[I" ∈ iv_g := iv_g_in (List.mem_of_getElem? (i := 94) (by decide +kernel)) (by decide +kernel)
theorem kw_21 : Cond.fieldLink RX0 27 "SwapGo$Cabinets" "needed" "[I" ∈ iv_g := iv_g_in (List.mem_of_getElem? (i := 96) (by decide +kernel)) (by decide +kernel)
theorem kw_22 : Cond.fieldLink RX0 30 "SwapGo$Cabinets" "bill" "[I" ∈ iv_g := iv_g_in (List.mem_of_getElem? (i := 98) (by decide +kernel)) (by decide +kernel)
theorem kw_23 : Cond.fieldLink RX0 33 "SwapGo$Cabinets" "wished" "[I" ∈ iv_g := iv_g_in (List.mem_of_getElem? (i := 100) (by decide +kernel)) (by decide +kernel)
theorem kw_24 : Cond.methodLink RX3 3 objectInit ∈ iv_g := iv_g_in (List.mem_of_getElem? (i := 120) (by decide +kernel)) (by decide +kernel)
theorem kw_25 : Cond.fieldLink RX3 9 "SwapGo$Packs" "charge" "[I" ∈ iv_g := iv_g_in (List.mem_of_getElem? (i := 121) (by decide +kernel)) (by decide +kernel)
theorem kw_26 : Cond.fieldLink RX3 15 "SwapGo$Packs" "age" "[I" ∈ iv_g := iv_g_in (List.mem_of_getElem? (i := 123) (by decide +kernel)) (by decide +kernel)
theorem kw_27 : Cond.arrayClass (newarray.typeOf .boolean) ∈ iv_g := iv_g_in (List.mem_of_getElem? (i := 146) (by decide +kernel)) (by decide +kernel)
theorem kw_28 : Cond.fieldLink RX3 18 "SwapGo$Packs" "sickness" "[Z" ∈ iv_g := iv_g_in (List.mem_of_getElem? (i := 125) (by decide +kernel)) (by decide +kernel)
theorem kw_29 : Cond.fieldLink RX3 22 "SwapGo$Packs" "home" "[I" ∈ iv_g := iv_g_in (List.mem_of_getElem? (i := 127) (by decide +kernel)) (by decide +kernel)
theorem kw_30 : Cond.fieldLink RX3 25 "SwapGo$Packs" "lastHour" "[I" ∈ iv_g := iv_g_in (List.mem_of_getElem? (i := 129) (by decide +kernel)) (by decide +kernel)
theorem kw_31 : Cond.methodLink RX1 3 objectInit ∈ iv_g := iv_g_in (List.mem_of_getElem? (i := 152) (by decide +kernel)) (by decide +kernel)
theorem kw_32 : Cond.fieldLink RX1 9 "SwapGo$ChargePlan" "needs" "[I" ∈ iv_g := iv_g_in (List.mem_of_getElem? (i := 153) (by decide +kernel)) (by decide +kernel)
theorem kw_33 : Cond.fieldLink RX1 15 "SwapGo$ChargePlan" "draft" "[I" ∈ iv_g := iv_g_in (List.mem_of_getElem? (i := 154) (by decide +kernel)) (by decide +kernel)
theorem kw_34 : Cond.fieldLink RX1 18 "SwapGo$ChargePlan" "unmet" "[I" ∈ iv_g := iv_g_in (List.mem_of_getElem? (i := 155) (by decide +kernel)) (by decide +kernel)
theorem kw_35 : Cond.fieldLink RX1 21 "SwapGo$ChargePlan" "hourPrices" "[I" ∈ iv_g := iv_g_in (List.mem_of_getElem? (i := 156) (by decide +kernel)) (by decide +kernel)
theorem kw_36 : Cond.fieldLink RX1 24 "SwapGo$ChargePlan" "kept" "[I" ∈ iv_g := iv_g_in (List.mem_of_getElem? (i := 157) (by decide +kernel)) (by decide +kernel)
theorem kw_37 : Cond.methodLink RX5 3 objectInit ∈ iv_g := iv_g_in (List.mem_of_getElem? (i := 183) (by decide +kernel)) (by decide +kernel)
theorem kw_38 : Cond.fieldLink RX5 9 "SwapGo$VanRound" "surplus" "[I" ∈ iv_g := iv_g_in (List.mem_of_getElem? (i := 184) (by decide +kernel)) (by decide +kernel)
theorem kw_39 : Cond.fieldLink RX5 15 "SwapGo$VanRound" "isVisited" "[Z" ∈ iv_g := iv_g_in (List.mem_of_getElem? (i := 185) (by decide +kernel)) (by decide +kernel)
theorem kw_40 : Cond.fieldLink RX5 19 "SwapGo$VanRound" "row" "[I" ∈ iv_g := iv_g_in (List.mem_of_getElem? (i := 186) (by decide +kernel)) (by decide +kernel)
theorem kw_41 : Cond.fieldLink RX5 22 "SwapGo$VanRound" "kept" "[I" ∈ iv_g := iv_g_in (List.mem_of_getElem? (i := 187) (by decide +kernel)) (by decide +kernel)
theorem kw_42 : Cond.methodLink RX2 3 objectInit ∈ iv_g := iv_g_in (List.mem_of_getElem? (i := 216) (by decide +kernel)) (by decide +kernel)
theorem kw_43 : Cond.classLink RX2 9 RX4 ∈ iv_g := iv_g_in (List.mem_of_getElem? (i := 217) (by decide +kernel)) (by decide +kernel)
theorem kw_44 : Cond.methodLink RX2 11 mX4_init.1 ∈ iv_g := iv_g_in (List.mem_of_getElem? (i := 218) (by decide +kernel)) (by decide +kernel)
theorem kw_45 : Cond.fieldLink RX2 14 "SwapGo$NewPlaces" "riders" "LSwapGo$Spots;" ∈ iv_g := iv_g_in (List.mem_of_getElem? (i := 219) (by decide +kernel)) (by decide +kernel)
theorem kw_46 : Cond.fieldLink RX2 20 "SwapGo$NewPlaces" "sites" "LSwapGo$Spots;" ∈ iv_g := iv_g_in (List.mem_of_getElem? (i := 221) (by decide +kernel)) (by decide +kernel)
theorem kw_47 : Cond.fieldLink RX2 23 "SwapGo$NewPlaces" "cabinetWays" "[I" ∈ iv_g := iv_g_in (List.mem_of_getElem? (i := 223) (by decide +kernel)) (by decide +kernel)
theorem kw_48 : Cond.methodLink RX6 1 objectInit ∈ iv_g := iv_g_in (List.mem_of_getElem? (i := 53) (by decide +kernel)) (by decide +kernel)
theorem kw_49 : Cond.fieldLink RX6 7 "SwapGo" "settings" "[I" ∈ iv_g := iv_g_in (List.mem_of_getElem? (i := 238) (by decide +kernel)) (by decide +kernel)
theorem kw_50 : Cond.fieldLink RX6 13 "SwapGo" "prices" "[I" ∈ iv_g := iv_g_in (List.mem_of_getElem? (i := 239) (by decide +kernel)) (by decide +kernel)
theorem kw_51 : Cond.classLink RX6 16 RX0 ∈ iv_g := iv_g_in (List.mem_of_getElem? (i := 56) (by decide +kernel)) (by decide +kernel)
theorem kw_52 : Cond.instantiable RX0 6 ∈ iv_g := iv_g_in (List.mem_of_getElem? (i := 57) (by decide +kernel)) (by decide +kernel)
theorem kw_53 : Cond.initialized RX0 ∈ iv_g := iv_g_in (List.mem_of_getElem? (i := 34) (by decide +kernel)) (by decide +kernel)
theorem kw_54 : Cond.code mX0_init.1 mX0_init.2.1 mX0_init.2.2.1 mX0_init.2.2.2 ∈ iv_g := iv_g_in (List.mem_of_getElem? (i := 60) (by decide +kernel)) (by decide +kernel)
theorem kw_55 : Cond.initialized mX0_init.1.cls ∈ iv_g := iv_g_in (List.mem_of_getElem? (i := 34) (by decide +kernel)) (by decide +kernel)
theorem kw_56 : Cond.instanceMethod mX0_init.1 ∈ iv_g := iv_g_in (List.mem_of_getElem? (i := 59) (by decide +kernel)) (by decide +kernel)
theorem kw_57 : Cond.fieldLink RX6 19 "SwapGo" "cabinets" "LSwapGo$Cabinets;" ∈ iv_g := iv_g_in (List.mem_of_getElem? (i := 240) (by decide +kernel)) (by decide +kernel)
theorem kw_58 : Cond.classLink RX6 23 RX3 ∈ iv_g := iv_g_in (List.mem_of_getElem? (i := 115) (by decide +kernel)) (by decide +kernel)
theorem kw_59 : Cond.instantiable RX3 6 ∈ iv_g := iv_g_in (List.mem_of_getElem? (i := 116) (by decide +kernel)) (by decide +kernel)
theorem kw_60 : Cond.initialized RX3 ∈ iv_g := iv_g_in (List.mem_of_getElem? (i := 37) (by decide +kernel)) (by decide +kernel)
theorem kw_61 : Cond.code mX3_init.1 mX3_init.2.1 mX3_init.2.2.1 mX3_init.2.2.2 ∈ iv_g := iv_g_in (List.mem_of_getElem? (i := 119) (by decide +kernel)) (by decide +kernel)
theorem kw_62 : Cond.initialized mX3_init.1.cls ∈ iv_g := iv_g_in (List.mem_of_getElem? (i := 37) (by decide +kernel)) (by decide +kernel)
theorem kw_63 : Cond.instanceMethod mX3_init.1 ∈ iv_g := iv_g_in (List.mem_of_getElem? (i := 118) (by decide +kernel)) (by decide +kernel)
theorem kw_64 : Cond.fieldLink RX6 26 "SwapGo" "packs" "LSwapGo$Packs;" ∈ iv_g := iv_g_in (List.mem_of_getElem? (i := 241) (by decide +kernel)) (by decide +kernel)
theorem kw_65 : Cond.classLink RX6 30 RX1 ∈ iv_g := iv_g_in (List.mem_of_getElem? (i := 147) (by decide +kernel)) (by decide +kernel)
theorem kw_66 : Cond.instantiable RX1 7 ∈ iv_g := iv_g_in (List.mem_of_getElem? (i := 148) (by decide +kernel)) (by decide +kernel)
theorem kw_67 : Cond.initialized RX1 ∈ iv_g := iv_g_in (List.mem_of_getElem? (i := 38) (by decide +kernel)) (by decide +kernel)
theorem kw_68 : Cond.code mX1_init.1 mX1_init.2.1 mX1_init.2.2.1 mX1_init.2.2.2 ∈ iv_g := iv_g_in (List.mem_of_getElem? (i := 151) (by decide +kernel)) (by decide +kernel)
theorem kw_69 : Cond.initialized mX1_init.1.cls ∈ iv_g := iv_g_in (List.mem_of_getElem? (i := 38) (by decide +kernel)) (by decide +kernel)
theorem kw_70 : Cond.instanceMethod mX1_init.1 ∈ iv_g := iv_g_in (List.mem_of_getElem? (i := 150) (by decide +kernel)) (by decide +kernel)
theorem kw_71 : Cond.fieldLink RX6 33 "SwapGo" "chargePlan" "LSwapGo$ChargePlan;" ∈ iv_g := iv_g_in (List.mem_of_getElem? (i := 242) (by decide +kernel)) (by decide +kernel)
theorem kw_72 : Cond.classLink RX6 37 RX5 ∈ iv_g := iv_g_in (List.mem_of_getElem? (i := 178) (by decide +kernel)) (by decide +kernel)
theorem kw_73 : Cond.instantiable RX5 8 ∈ iv_g := iv_g_in (List.mem_of_getElem? (i := 179) (by decide +kernel)) (by decide +kernel)
theorem kw_74 : Cond.initialized RX5 ∈ iv_g := iv_g_in (List.mem_of_getElem? (i := 39) (by decide +kernel)) (by decide +kernel)
theorem kw_75 : Cond.code mX5_init.1 mX5_init.2.1 mX5_init.2.2.1 mX5_init.2.2.2 ∈ iv_g := iv_g_in (List.mem_of_getElem? (i := 182) (by decide +kernel)) (by decide +kernel)
theorem kw_76 : Cond.initialized mX5_init.1.cls ∈ iv_g := iv_g_in (List.mem_of_getElem? (i := 39) (by decide +kernel)) (by decide +kernel)
theorem kw_77 : Cond.instanceMethod mX5_init.1 ∈ iv_g := iv_g_in (List.mem_of_getElem? (i := 181) (by decide +kernel)) (by decide +kernel)
theorem kw_78 : Cond.fieldLink RX6 40 "SwapGo" "vanRound" "LSwapGo$VanRound;" ∈ iv_g := iv_g_in (List.mem_of_getElem? (i := 243) (by decide +kernel)) (by decide +kernel)
theorem kw_79 : Cond.classLink RX6 44 RX2 ∈ iv_g := iv_g_in (List.mem_of_getElem? (i := 211) (by decide +kernel)) (by decide +kernel)
theorem kw_80 : Cond.instantiable RX2 4 ∈ iv_g := iv_g_in (List.mem_of_getElem? (i := 212) (by decide +kernel)) (by decide +kernel)
theorem kw_81 : Cond.initialized RX2 ∈ iv_g := iv_g_in (List.mem_of_getElem? (i := 40) (by decide +kernel)) (by decide +kernel)
theorem kw_82 : Cond.code mX2_init.1 mX2_init.2.1 mX2_init.2.2.1 mX2_init.2.2.2 ∈ iv_g := iv_g_in (List.mem_of_getElem? (i := 215) (by decide +kernel)) (by decide +kernel)
theorem kw_83 : Cond.initialized mX2_init.1.cls ∈ iv_g := iv_g_in (List.mem_of_getElem? (i := 40) (by decide +kernel)) (by decide +kernel)
theorem kw_84 : Cond.instanceMethod mX2_init.1 ∈ iv_g := iv_g_in (List.mem_of_getElem? (i := 214) (by decide +kernel)) (by decide +kernel)
theorem kw_85 : Cond.fieldLink RX6 47 "SwapGo" "newPlaces" "LSwapGo$NewPlaces;" ∈ iv_g := iv_g_in (List.mem_of_getElem? (i := 244) (by decide +kernel)) (by decide +kernel)
theorem kw_86 : Cond.code mJ7_fill_53178.1 mJ7_fill_53178.2.1 mJ7_fill_53178.2.2.1 mJ7_fill_53178.2.2.2 ∈ iv_g := iv_g_in (List.mem_of_getElem? (i := 237) (by decide +kernel)) (by decide +kernel)
theorem kw_87 : Cond.initialized mJ7_fill_53178.1.cls ∈ iv_g := iv_g_in (List.mem_of_getElem? (i := 41) (by decide +kernel)) (by decide +kernel)
theorem kw_88 : Cond.methodLink RX6 51 mJ7_fill_53178.1 ∈ iv_g := iv_g_in (List.mem_of_getElem? (i := 235) (by decide +kernel)) (by decide +kernel)
theorem kw_89 : Cond.static mJ7_fill_53178.1 ∈ iv_g := iv_g_in (List.mem_of_getElem? (i := 236) (by decide +kernel)) (by decide +kernel)
theorem kw_90 : Cond.methodLink RX7 1 objectInit ∈ iv_g := iv_g_in (List.mem_of_getElem? (i := 620) (by decide +kernel)) (by decide +kernel)
theorem kw_91 : Cond.fieldLink RX7 9 "SwapGoModel" "cabinets" "[I" ∈ iv_g := iv_g_in (List.mem_of_getElem? (i := 621) (by decide +kernel)) (by decide +kernel)
theorem kw_92 : Cond.fieldLink RX7 13 "SwapGoModel" "charge" "[I" ∈ iv_g := iv_g_in (List.mem_of_getElem? (i := 623) (by decide +kernel)) (by decide +kernel)
theorem kw_93 : Cond.fieldLink RX7 16 "SwapGoModel" "age" "[I" ∈ iv_g := iv_g_in (List.mem_of_getElem? (i := 624) (by decide +kernel)) (by decide +kernel)
theorem kw_94 : Cond.fieldLink RX7 19 "SwapGoModel" "where" "[I" ∈ iv_g := iv_g_in (List.mem_of_getElem? (i := 625) (by decide +kernel)) (by decide +kernel)
theorem kw_95 : Cond.fieldLink RX7 22 "SwapGoModel" "sick" "[Z" ∈ iv_g := iv_g_in (List.mem_of_getElem? (i := 626) (by decide +kernel)) (by decide +kernel)
theorem kw_96 : Cond.fieldLink RX7 26 "SwapGoModel" "numbers" "[I" ∈ iv_g := iv_g_in (List.mem_of_getElem? (i := 628) (by decide +kernel)) (by decide +kernel)
theorem kw_97 : Cond.fieldLink RX7 29 "SwapGoModel" "prices" "[I" ∈ iv_g := iv_g_in (List.mem_of_getElem? (i := 629) (by decide +kernel)) (by decide +kernel)
theorem kw_98 : Cond.fieldLink RX7 32 "SwapGoModel" "needs" "[I" ∈ iv_g := iv_g_in (List.mem_of_getElem? (i := 631) (by decide +kernel)) (by decide +kernel)
theorem kw_99 : Cond.fieldLink RX7 35 "SwapGoModel" "plan" "[I" ∈ iv_g := iv_g_in (List.mem_of_getElem? (i := 633) (by decide +kernel)) (by decide +kernel)
theorem kw_100 : Cond.fieldLink RX7 38 "SwapGoModel" "round" "[I" ∈ iv_g := iv_g_in (List.mem_of_getElem? (i := 635) (by decide +kernel)) (by decide +kernel)
theorem kw_101 : Cond.fieldLink RX7 41 "SwapGoModel" "px" "[I" ∈ iv_g := iv_g_in (List.mem_of_getElem? (i := 637) (by decide +kernel)) (by decide +kernel)
theorem kw_102 : Cond.fieldLink RX7 44 "SwapGoModel" "py" "[I" ∈ iv_g := iv_g_in (List.mem_of_getElem? (i := 638) (by decide +kernel)) (by decide +kernel)
theorem kw_103 : Cond.fieldLink RX7 47 "SwapGoModel" "qx" "[I" ∈ iv_g := iv_g_in (List.mem_of_getElem? (i := 640) (by decide +kernel)) (by decide +kernel)
theorem kw_104 : Cond.fieldLink RX7 50 "SwapGoModel" "qy" "[I" ∈ iv_g := iv_g_in (List.mem_of_getElem? (i := 641) (by decide +kernel)) (by decide +kernel)
theorem kw_105 : Cond.fieldLink RX7 53 "SwapGoModel" "isDone" "[Z" ∈ iv_g := iv_g_in (List.mem_of_getElem? (i := 645) (by decide +kernel)) (by decide +kernel)
theorem kw_106 : Cond.fieldLink RX7 56 "SwapGoModel" "row" "[I" ∈ iv_g := iv_g_in (List.mem_of_getElem? (i := 646) (by decide +kernel)) (by decide +kernel)
theorem kw_107 : Cond.fieldLink RX7 59 "SwapGoModel" "rest" "[I" ∈ iv_g := iv_g_in (List.mem_of_getElem? (i := 647) (by decide +kernel)) (by decide +kernel)
theorem kw_108 : Cond.fieldLink RX7 62 "SwapGoModel" "tryRow" "[I" ∈ iv_g := iv_g_in (List.mem_of_getElem? (i := 648) (by decide +kernel)) (by decide +kernel)
theorem kw_109 : Cond.fieldLink RX7 65 "SwapGoModel" "bestRow" "[I" ∈ iv_g := iv_g_in (List.mem_of_getElem? (i := 649) (by decide +kernel)) (by decide +kernel)
theorem dfX0 {a : Nat → Nat} {t0 t1 t2 t3 t4 t5 : Nat} : ∀ j, j < 6 → defaultValue (tyX0 j) = vp_V (ic_flds a (fun _ => 0) (fun _ => false) [some t0, some t1, some t2, some t3, some t4, some t5] 0) j := by
  intro j hj
  match j, hj with
  | 0, _ => rfl
  | 1, _ => rfl
  | 2, _ => rfl
  | 3, _ => rfl
  | 4, _ => rfl
  | 5, _ => rfl
  | j + 6, hj => omega
theorem dfX1 {a : Nat → Nat} {t0 t1 t2 t3 t4 : Nat} : ∀ j, j < 7 → defaultValue (tyX1 j) = vp_V (ic_flds a (fun _ => 0) (fun _ => false) [some t0, some t1, some t2, some t3, some t4, none, none] 0) j := by
  intro j hj
  match j, hj with
  | 0, _ => rfl
  | 1, _ => rfl
  | 2, _ => rfl
  | 3, _ => rfl
  | 4, _ => rfl
  | 5, _ => rfl
  | 6, _ => rfl
  | j + 7, hj => omega
theorem dfX2 {a : Nat → Nat} {t0 t1 t2 : Nat} : ∀ j, j < 4 → defaultValue (tyX2 j) = vp_V (ic_flds a (fun _ => 0) (fun _ => false) [some t0, some t1, some t2, none] 0) j := by
  intro j hj
  match j, hj with
  | 0, _ => rfl
  | 1, _ => rfl
  | 2, _ => rfl
  | 3, _ => rfl
  | j + 4, hj => omega
theorem dfX3 {a : Nat → Nat} {t0 t1 t2 t3 t4 : Nat} : ∀ j, j < 6 → defaultValue (tyX3 j) = vp_V (ic_flds a (fun _ => 0) (fun _ => false) [some t0, some t1, some t2, some t3, some t4, none] 0) j := by
  intro j hj
  match j, hj with
  | 0, _ => rfl
  | 1, _ => rfl
  | 2, _ => rfl
  | 3, _ => rfl
  | 4, _ => rfl
  | 5, _ => rfl
  | j + 6, hj => omega
theorem dfX4 {a : Nat → Nat} {t0 t1 : Nat} : ∀ j, j < 3 → defaultValue (tyX4 j) = vp_V (ic_flds a (fun _ => 0) (fun _ => false) [some t0, some t1, none] 0) j := by
  intro j hj
  match j, hj with
  | 0, _ => rfl
  | 1, _ => rfl
  | 2, _ => rfl
  | j + 3, hj => omega
theorem dfX5 {a : Nat → Nat} {t0 t1 t2 t3 : Nat} : ∀ j, j < 8 → defaultValue (tyX5 j) = vp_V (ic_flds a (fun _ => 0) (fun _ => false) [some t0, some t1, some t2, some t3, none, none, none, none] 0) j := by
  intro j hj
  match j, hj with
  | 0, _ => rfl
  | 1, _ => rfl
  | 2, _ => rfl
  | 3, _ => rfl
  | 4, _ => rfl
  | 5, _ => rfl
  | 6, _ => rfl
  | 7, _ => rfl
  | j + 8, hj => omega
theorem dfX6 {a : Nat → Nat} {t0 t1 t2 t3 t4 t5 t6 : Nat} : ∀ j, j < 8 → defaultValue (tyX6 j) = vp_V (ic_flds a (fun _ => 0) (fun _ => false) [some t0, some t1, some t2, some t3, some t4, some t5, some t6, none] 0) j := by
  intro j hj
  match j, hj with
  | 0, _ => rfl
  | 1, _ => rfl
  | 2, _ => rfl
  | 3, _ => rfl
  | 4, _ => rfl
  | 5, _ => rfl
  | 6, _ => rfl
  | 7, _ => rfl
  | j + 8, hj => omega
theorem dfX7 {a : Nat → Nat} {t0 t2 t3 t4 t5 t7 t8 t10 t12 t14 t16 t17 t19 t20 t24 t25 t26 t27 t28 : Nat} : ∀ j, j < 30 → defaultValue (tyX7 j) = vp_V (ic_flds a (fun _ => 0) (fun _ => false) [some t0, none, some t2, some t3, some t4, some t5, none, some t7, some t8, none, some t10, none, some t12, none, some t14, none, some t16, some t17, none, some t19, some t20, none, none, none, some t24, some t25, some t26, some t27, some t28, none] 0) j := by
  intro j hj
  match j, hj with
  | 0, _ => rfl
  | 1, _ => rfl
  | 2, _ => rfl
  | 3, _ => rfl
  | 4, _ => rfl
  | 5, _ => rfl
  | 6, _ => rfl
  | 7, _ => rfl
  | 8, _ => rfl
  | 9, _ => rfl
  | 10, _ => rfl
  | 11, _ => rfl
  | 12, _ => rfl
  | 13, _ => rfl
  | 14, _ => rfl
  | 15, _ => rfl
  | 16, _ => rfl
  | 17, _ => rfl
  | 18, _ => rfl
  | 19, _ => rfl
  | 20, _ => rfl
  | 21, _ => rfl
  | 22, _ => rfl
  | 23, _ => rfl
  | 24, _ => rfl
  | 25, _ => rfl
  | 26, _ => rfl
  | 27, _ => rfl
  | 28, _ => rfl
  | 29, _ => rfl
  | j + 30, hj => omega
def ic_fl (σ : iv_S) (q i : Nat) : iv_S := fun t => if t = q then (fun j => if j < i then 10 else σ q j) else σ t
theorem ic_fl_0 (σ : iv_S) (q : Nat) : ic_fl σ q 0 = σ := by
  funext t
  unfold ic_fl
  by_cases h : t = q
  · subst h; simp
  · simp [h]
theorem ic_fl_s (σ : iv_S) (q i : Nat) : iv_u (ic_fl σ q i) q i 10 = ic_fl σ q (i + 1) := by
  funext t
  by_cases h : t = q
  · subst h
    rw [iv_u_eq]
    unfold ic_fl
    funext j
    simp only [if_true]
    by_cases hj : j = i
    · subst hj; simp [upd]
    · rw [upd_ne hj]
      by_cases h2 : j < i
      · simp [h2, show j < i + 1 by omega]
      · simp [h2, show ¬ j < i + 1 by omega]
  · rw [iv_u_ne h]
    simp [ic_fl, h]
abbrev ic_fill (σ : iv_S) : iv_S := ic_fl σ 2 24
abbrev ic_fill7 (σ : iv_S) : iv_S := ic_fl σ 44 24
section ICL
variable {p : Program} {e : Env} {R : Room} {s : State} {m : MethodId} {args : Array Value} {below : List Frame} {meth : Method} {c : Code} {X : iv_X} {A : Nat → Prop} {Q : State → Prop} {cells slots n : Nat} {ρ : ic_R} {σ : iv_S} {H : Heap} {locs : List Loc} {cw : Cond} {ls : Array Slot}
set_option maxHeartbeats 4000000 in
theorem mk_fl (hx : p.tables.exec = Jvm.exec) (hb : c.code = cJ7_fill_53178) (hn : 2 < n) (hw : ic_Wo X n ρ σ A s H locs) (hl : lv_has ls 4 [(0, .ref (X.2.2.1 2)), (1, .int 10)])
    (kk : ∀ H1 locs1 ls1, ic_Wo X n ρ (ic_fl σ 2 24) A s H1 locs1 → W p X.1 e R s m args below meth c H1 locs1 cells slots Q (F0 m 20 ls1 [])) : W p X.1 e R s m args below meth c H locs cells slots Q (F0 m 0 ls []) := by
  have key := z_down (n := 24) (P := fun i => ∀ (H : Heap) (locs : List Loc) (ls : Array Slot), ic_Wo X n ρ (ic_fl σ 2 i) A s H locs → lv_has ls 4 [(2, .int (nI i)), (3, .int (nI 24)), (0, .ref (X.2.2.1 2)), (1, .int 10)] → W p X.1 e R s m args below meth c H locs cells slots Q (F0 m 5 ls [])) ?_ ?_
  · refine lv_iconst (v := 0) hx hb dJ7_fill_53178_0 (by decide) ?_
    refine lv_istore_n (lv' := [(2, .int 0), (0, .ref (X.2.2.1 2)), (1, .int 10)]) hx hb dJ7_fill_53178_1 rfl hl (by decide) rfl (fun ls hl => ?_)
    refine lv_aload_n hx hb dJ7_fill_53178_2 rfl (lv_at hl 1 rfl) ?_
    have hent : (ic_w X σ ρ n)[2]? = some (X.2.2.1 2, .inl (X.2.2.2.1, 24, .inl (σ 2))) := by
      rw [ic_w_get hn]
      rfl
    refine va_alen hx hb hw.1 hw.2.1 2 0 hent rfl (ty := .int) rfl dJ7_fill_53178_3 ?_
    refine lv_istore_n (lv' := [(3, .int (nI 24)), (2, .int 0), (0, .ref (X.2.2.1 2)), (1, .int 10)]) hx hb dJ7_fill_53178_4 rfl hl (by decide) rfl (fun ls hl => ?_)
    exact key H locs ls (by rw [ic_fl_0]; exact hw) (lv_sub hl [1, 0, 2, 3] rfl)
  · intro H locs ls hw hl
    refine lv_iload_n hx hb dJ7_fill_53178_5 rfl (lv_at hl 0 rfl) ?_
    refine lv_iload_n hx hb dJ7_fill_53178_6 rfl (lv_at hl 1 rfl) ?_
    exact lv_icmp_ge (tgt := 20) hx hb dJ7_fill_53178_7 rfl (fun _ => kk H locs ls hw) (fun h => absurd (z_nn (by decide)) h)
  · intro i hi ih H locs ls hw hl
    refine lv_iload_n hx hb dJ7_fill_53178_5 rfl (lv_at hl 0 rfl) ?_
    refine lv_iload_n hx hb dJ7_fill_53178_6 rfl (lv_at hl 1 rfl) ?_
    refine lv_icmp_ge (tgt := 20) hx hb dJ7_fill_53178_7 rfl (fun h => absurd h (nI_ge hi (by decide))) (fun _ => ?_)
    refine lv_aload_n hx hb dJ7_fill_53178_10 rfl (lv_at hl 2 rfl) ?_
    refine lv_iload_n hx hb dJ7_fill_53178_11 rfl (lv_at hl 0 rfl) ?_
    refine lv_iload_n hx hb dJ7_fill_53178_12 rfl (lv_at hl 3 rfl) ?_
    refine ic_iast (q := 2) hx hb hn rfl (z_in hi (by decide)) hw dJ7_fill_53178_13 (fun H1 locs1 hw => ?_)
    rw [z_cl (by omega), ic_fl_s] at hw
    refine lv_iinc (v := nI (i + 1)) (lv' := [(2, .int (nI (i + 1))), (3, .int (nI 24)), (0, .ref (X.2.2.1 2)), (1, .int 10)]) hx hb dJ7_fill_53178_14 hl (k := 0) rfl (nI_1 i) (by decide) rfl (fun ls hl => ?_)
    exact lv_goto (tgt := 5) hx hb dJ7_fill_53178_17 rfl (ih H1 locs1 ls hw hl)
theorem mk_fl7 (hx : p.tables.exec = Jvm.exec) (hb : c.code = cX7_init) (hts : ∀ w ∈ cw :: iv_g, w.before args s = true) (hown : s.vm.findClass RX7 = some m.cls) (hr : ρ 37 8 = true) (hw : ic_Wo X 57 ρ σ A s H locs) (hl : lv_has ls 2 [(0, .ref (X.2.2.1 37))])
    (kk : ∀ H1 locs1 ls1, ic_Wo X 57 ρ (ic_fl σ 44 24) A s H1 locs1 → W p X.1 e R s m args below meth c H1 locs1 cells slots Q (F0 m 205 ls1 [])) : W p X.1 e R s m args below meth c H locs cells slots Q (F0 m 183 ls []) := by
  have key := z_down (n := 24) (P := fun i => ∀ (H : Heap) (locs : List Loc) (ls : Array Slot), ic_Wo X 57 ρ (ic_fl σ 44 i) A s H locs → lv_has ls 2 [(1, .int (nI i)), (0, .ref (X.2.2.1 37))] → W p X.1 e R s m args below meth c H locs cells slots Q (F0 m 185 ls [])) ?_ ?_
  · refine lv_iconst (v := 0) hx hb dX7_init_183 (by decide) ?_
    refine lv_istore_n (lv' := [(1, .int 0), (0, .ref (X.2.2.1 37))]) hx hb dX7_init_184 rfl hl (by decide) rfl (fun ls hl => ?_)
    exact key H locs ls (by rw [ic_fl_0]; exact hw) hl
  · intro H locs ls hw hl
    refine lv_iload_n hx hb dX7_init_185 rfl (lv_at hl 0 rfl) ?_
    refine lv_bipush (v := nI 24) hx hb dX7_init_186 (by decide) ?_
    exact lv_icmp_ge (tgt := 205) hx hb dX7_init_188 rfl (fun _ => kk H locs ls hw) (fun h => absurd (z_nn (by decide)) h)
  · intro i hi ih H locs ls hw hl
    refine lv_iload_n hx hb dX7_init_185 rfl (lv_at hl 0 rfl) ?_
    refine lv_bipush (v := nI 24) hx hb dX7_init_186 (by decide) ?_
    refine lv_icmp_ge (tgt := 205) hx hb dX7_init_188 rfl (fun h => absurd h (nI_ge hi (by decide))) (fun _ => ?_)
    refine lv_aload_n hx hb dX7_init_191 rfl (lv_at hl 1 rfl) ?_
    refine ic_get (q := 37) (j := 8) (v := 44) (ci := 7) (C := RX7) (T := TX7) (N := 30) hx hb hts hown (by decide) rfl rfl hr rfl (by decide) kw_97 rfl iv_cX7 hw dX7_init_192 ?_
    refine lv_iload_n hx hb dX7_init_195 rfl (lv_at hl 0 rfl) ?_
    refine lv_bipush (v := 10) hx hb dX7_init_196 (by decide) ?_
    refine ic_iast (q := 44) hx hb (by decide) rfl (z_in hi (by decide)) hw dX7_init_198 (fun H1 locs1 hw => ?_)
    rw [z_cl (by omega), ic_fl_s] at hw
    refine lv_iinc (v := nI (i + 1)) (lv' := [(1, .int (nI (i + 1))), (0, .ref (X.2.2.1 37))]) hx hb dX7_init_199 hl (k := 0) rfl (nI_1 i) (by decide) rfl (fun ls hl => ?_)
    exact lv_goto (tgt := 185) hx hb dX7_init_202 rfl (ih H1 locs1 ls hw hl)
end ICL
theorem mk_fill {X : iv_X} {base n : Nat} {ρ : ic_R} {σ : iv_S} (hn : 2 < n) : ic_Ct X base mJ7_fill_53178 1 [.inl 2, .inr 10] n ρ σ n ρ (ic_fill σ) 0 0 := by
  refine iv_ofW (cc := cJ7_fill_53178) (maxL := 4) (ret := none) (by decide +kernel) rfl ?_
  intro p e s m args below meth c s₁ B hml hv
  obtain ⟨rfl, hsz, hP, hK, hD0, hN⟩ := hv
  have hw : ic_Wo X n ρ σ (ic_A X base n ρ σ) s s.heap [] := ⟨hK, hP, hD0.self, va_S.rf, hN⟩
  have hl := lv_entry ([.ref (X.2.2.1 2), .int 10]) (n := 4) (Nat.le_of_ble_eq_true rfl)
  show W _ _ _ _ _ _ _ _ _ _ _ _ _ _ _ (entryFrame m ([.ref (X.2.2.1 2), .int 10] : List Value).toArray 4)
  rw [lg_entry_eq]
  generalize (lg_sl ([.ref (X.2.2.1 2), .int 10]) ++ List.replicate (4 - (lg_sl ([.ref (X.2.2.1 2), .int 10])).length) Slot.unset).toArray = ls at hl ⊢
  refine mk_fl B.exec B.bytes hn hw hl (fun H1 locs1 ls1 hw => ?_)
  exact W.vret B.exec B.bytes B.returns (fun t ht hW => ⟨⟨rfl, by rw [ht]; exact hw.2.1, va_K.moved hW.alike hw.1, hw.2.2.1⟩, hw.2.2.2.1.F ht⟩) hw.2.2.2.1.2.2 dJ7_fill_53178_20 B.notSynchronized
set_option maxHeartbeats 4000000 in
set_option maxRecDepth 100000 in
theorem mk_X4_4 {X : iv_X} {base : Nat} (ha : ∀ k, k < 57 → X.2.2.1 k = base + k) {ρ : ic_R} {σ : iv_S} (hρ : ∀ k, 4 ≤ k → ρ k = fun _ => false) (hσ : ∀ k, 4 ≤ k → σ k = fun _ => 0) : ic_Ct X base mX4_init 2 [.inl 4, .inr (nI 6)] 5 ρ σ 7 (ic_r (ic_r ρ 4 0) 4 1) (σ) 2 12 := by
  refine iv_ofW (cc := cX4_init) (maxL := 3) (ret := none) (plainFor_of_name (by decide)) rfl ?_
  intro p e s m args below meth c s₁ B hml hv
  obtain ⟨rfl, hsz, hP, hK, hD0, hN⟩ := hv
  have hx := B.exec
  have hb := B.bytes
  have hr := B.returns
  have hts := atoms_spec (ws := .code yX4_init cX4_init 3 none :: iv_g) B.pre
  have hg := fun w h => hts w (List.mem_cons_of_mem _ h)
  have hown : s.vm.findClass RX4 = some m.cls := findClass_of_methodNamed B.named
  have hin2 : meth.name = "<init>" := (name_of_methodNamed B.named B.method).1
  have hA : ∀ q : Nat, s.heap.size ≤ q → ic_A X base 5 ρ σ q := fun q h => Or.inr (by omega)
  have hw : ic_Wo X 5 ρ σ (ic_A X base 5 ρ σ) s s.heap [] := ⟨hK, hP, hD0.self, va_S.rf, hN⟩
  have hl := lv_entry ([.ref (X.2.2.1 4), .int (nI 6)]) (n := 3) (Nat.le_of_ble_eq_true rfl)
  show W _ _ _ _ _ _ _ _ _ _ _ _ _ _ _ (entryFrame m ([.ref (X.2.2.1 4), .int (nI 6)] : List Value).toArray 3)
  rw [lg_entry_eq]
  generalize (lg_sl ([.ref (X.2.2.1 4), .int (nI 6)]) ++ List.replicate (3 - (lg_sl ([.ref (X.2.2.1 4), .int (nI 6)])).length) Slot.unset).toArray = ls at hl ⊢
  have hl : lv_has ls 3 [(0, .ref (X.2.2.1 4)), (1, .int (nI 6))] := hl
  refine lv_aload_n hx hb dX4_init_0 rfl (lv_at hl 0 rfl) ?_
  refine W.objInit hx hb hown (hg _ kw_0) (hg _ kw_1) (hg _ kw_2) rfl (by rw [hml]; exact hl.1) rfl dX4_init_1 (Nat.le_of_ble_eq_true rfl) (Nat.le_of_ble_eq_true rfl) ?_
  refine W.eq (g2 := F0 m 4 ls []) rfl ?_
  refine lv_iload_n hx hb dX4_init_4 rfl (lv_at hl 1 rfl) ?_
  refine lv_iconst (v := 0) hx hb dX4_init_5 (by decide) ?_
  refine va_mmax hx hb (by rw [hml]; exact hl.1.symm) hown (hg _ kw_3) (hg _ kw_4) (hg _ kw_5) (hg _ kw_6) (Nat.le_of_ble_eq_true rfl) (Nat.le_of_ble_eq_true rfl) (Nat.zero_le _) (Nat.zero_le _) dX4_init_6 ?_
  rw [show (if (nI 6 : Int32) < 0 then (0 : Int32) else nI 6) = nI 6 by decide]
  refine lv_istore_n (lv' := [(2, .int (nI 6)), (0, .ref (X.2.2.1 4)), (1, .int (nI 6))]) hx hb dX4_init_9 rfl hl (by decide) rfl (fun ls hl => ?_)
  refine lv_aload_n hx hb dX4_init_10 rfl (lv_at hl 1 rfl) ?_
  refine lv_iload_n hx hb dX4_init_11 rfl (lv_at hl 0 rfl) ?_
  refine ic_newarr (base := base) (n := 5) hx hb hts hA (z := false) (N := 6) rfl kw_7 rfl (by decide) (by simp [iv_u, hσ]) (by omega) (Or.inl (by decide)) ha (by decide) hw (Nat.le_of_ble_eq_true rfl) (Nat.le_of_ble_eq_true rfl) (by decide) dX4_init_12 (fun H1 hw => ?_)
  refine ic_put (q := 4) (j := 0) (v := 5) (ci := 4) (C := RX4) (T := TX4) (N := 3) hx hb hts hown (by decide) rfl rfl rfl (by decide) kw_8 rfl tyX4 tyX4_ok nmX4 iv_cX4 rfl hin2 rfl rfl rfl hw dX4_init_14 (fun H1 locs1 hw => ?_)
  refine lv_aload_n hx hb dX4_init_17 rfl (lv_at hl 1 rfl) ?_
  refine lv_iload_n hx hb dX4_init_18 rfl (lv_at hl 0 rfl) ?_
  refine ic_newarr (base := base) (n := 6) hx hb hts hA (z := false) (N := 6) rfl kw_7 rfl (by decide) (by simp [iv_u, hσ]) (by omega) (Or.inl (by decide)) ha (by decide) hw (Nat.le_of_ble_eq_true rfl) (Nat.le_of_ble_eq_true rfl) (by decide) dX4_init_19 (fun H1 hw => ?_)
  refine ic_put (q := 4) (j := 1) (v := 6) (ci := 4) (C := RX4) (T := TX4) (N := 3) hx hb hts hown (by decide) rfl rfl rfl (by decide) kw_9 rfl tyX4 tyX4_ok nmX4 iv_cX4 rfl hin2 rfl rfl rfl hw dX4_init_21 (fun H1 locs1 hw => ?_)
  exact W.vret hx hb hr (fun t ht hW => ⟨⟨rfl, by rw [ht]; exact hw.2.1, va_K.moved hW.alike hw.1, hw.2.2.1⟩, hw.2.2.2.1.F ht⟩) hw.2.2.2.1.2.2 dX4_init_24 B.notSynchronized
set_option maxHeartbeats 4000000 in
set_option maxRecDepth 100000 in
theorem mk_X0_3 {X : iv_X} {base : Nat} (ha : ∀ k, k < 57 → X.2.2.1 k = base + k) {ρ : ic_R} {σ : iv_S} (hρ : ∀ k, 3 ≤ k → ρ k = fun _ => false) (hσ : ∀ k, 3 ≤ k → σ k = fun _ => 0) : ic_Ct X base mX0_init 4 [.inl 3] 4 ρ σ 12 (ic_r (ic_r (ic_r (ic_r (ic_r (ic_r (ic_r (ic_r ρ 4 0) 4 1) 3 0) 3 1) 3 2) 3 3) 3 4) 3 5) (σ) 8 45 := by
  refine iv_ofW (cc := cX0_init) (maxL := 1) (ret := none) (plainFor_of_name (by decide)) rfl ?_
  intro p e s m args below meth c s₁ B hml hv
  obtain ⟨rfl, hsz, hP, hK, hD0, hN⟩ := hv
  have hx := B.exec
  have hb := B.bytes
  have hr := B.returns
  have hts := atoms_spec (ws := .code yX0_init cX0_init 1 none :: iv_g) B.pre
  have hg := fun w h => hts w (List.mem_cons_of_mem _ h)
  have hown : s.vm.findClass RX0 = some m.cls := findClass_of_methodNamed B.named
  have hin2 : meth.name = "<init>" := (name_of_methodNamed B.named B.method).1
  have hA : ∀ q : Nat, s.heap.size ≤ q → ic_A X base 4 ρ σ q := fun q h => Or.inr (by omega)
  have hw : ic_Wo X 4 ρ σ (ic_A X base 4 ρ σ) s s.heap [] := ⟨hK, hP, hD0.self, va_S.rf, hN⟩
  have hl := lv_entry ([.ref (X.2.2.1 3)]) (n := 1) (Nat.le_of_ble_eq_true rfl)
  show W _ _ _ _ _ _ _ _ _ _ _ _ _ _ _ (entryFrame m ([.ref (X.2.2.1 3)] : List Value).toArray 1)
  rw [lg_entry_eq]
  generalize (lg_sl ([.ref (X.2.2.1 3)]) ++ List.replicate (1 - (lg_sl ([.ref (X.2.2.1 3)])).length) Slot.unset).toArray = ls at hl ⊢
  have hl : lv_has ls 1 [(0, .ref (X.2.2.1 3))] := hl
  refine lv_aload_n hx hb dX0_init_0 rfl (lv_at hl 0 rfl) ?_
  refine W.objInit hx hb hown (hg _ kw_10) (hg _ kw_1) (hg _ kw_2) rfl (by rw [hml]; exact hl.1) rfl dX0_init_1 (Nat.le_of_ble_eq_true rfl) (Nat.le_of_ble_eq_true rfl) ?_
  refine W.eq (g2 := F0 m 4 ls []) rfl ?_
  refine lv_aload_n hx hb dX0_init_4 rfl (lv_at hl 0 rfl) ?_
  refine ic_new (base := base) (n := 4) (ci := 4) (C := RX4) (T := TX4) (N := 3) hx hb hts hA hown rfl rfl kw_11 kw_12 kw_13 tyX4 tyX4_ok iv_cX4 dfX4 (by simp [iv_u, hσ]) (by simp [ic_r, hρ]) (by omega) (Or.inl (by decide)) ha (by decide) hw (Nat.le_of_ble_eq_true rfl) (Nat.le_of_ble_eq_true rfl) dX0_init_5 (fun H1 hw => ?_)
  refine lv_dup hx hb dX0_init_8 rfl ?_
  refine lv_bipush (v := 6) hx hb dX0_init_9 (by decide) ?_
  refine ic_ctor (base := base) (n := 5) hx hb hml hown hts hA (mk_X4_4 ha (fun k hk => by simp [ic_r, hρ, show 3 ≤ k by omega, hρ]) (fun k hk => by simp [iv_u, hσ, show 3 ≤ k by omega])) rfl rfl kw_14 kw_15 (Or.inl kw_16) kw_17 (by decide +kernel) ⟨Nat.le_of_ble_eq_true rfl, Nat.le_of_ble_eq_true rfl⟩ ⟨Nat.le_of_ble_eq_true rfl, Nat.le_of_ble_eq_true rfl⟩ hl.1 (Nat.le_of_ble_eq_true rfl) rfl (by omega) (Or.inl (by decide)) ha (by decide) hw dX0_init_11 (fun H1 locs1 hw => ?_)
  refine ic_put (q := 3) (j := 0) (v := 4) (ci := 0) (C := RX0) (T := TX0) (N := 6) hx hb hts hown (by decide) rfl rfl rfl (by decide) kw_18 rfl tyX0 tyX0_ok nmX0 iv_cX0 rfl hin2 rfl rfl rfl hw dX0_init_14 (fun H1 locs1 hw => ?_)
  refine lv_aload_n hx hb dX0_init_17 rfl (lv_at hl 0 rfl) ?_
  refine lv_bipush (v := 6) hx hb dX0_init_18 (by decide) ?_
  refine ic_newarr (base := base) (n := 7) hx hb hts hA (z := false) (N := 6) rfl kw_7 rfl (by decide) (by simp [iv_u, hσ]) (by omega) (Or.inl (by decide)) ha (by decide) hw (Nat.le_of_ble_eq_true rfl) (Nat.le_of_ble_eq_true rfl) (by decide) dX0_init_20 (fun H1 hw => ?_)
  refine ic_put (q := 3) (j := 1) (v := 7) (ci := 0) (C := RX0) (T := TX0) (N := 6) hx hb hts hown (by decide) rfl rfl rfl (by decide) kw_19 rfl tyX0 tyX0_ok nmX0 iv_cX0 rfl hin2 rfl rfl rfl hw dX0_init_22 (fun H1 locs1 hw => ?_)
  refine lv_aload_n hx hb dX0_init_25 rfl (lv_at hl 0 rfl) ?_
  refine lv_bipush (v := 6) hx hb dX0_init_26 (by decide) ?_
  refine ic_newarr (base := base) (n := 8) hx hb hts hA (z := false) (N := 6) rfl kw_7 rfl (by decide) (by simp [iv_u, hσ]) (by omega) (Or.inl (by decide)) ha (by decide) hw (Nat.le_of_ble_eq_true rfl) (Nat.le_of_ble_eq_true rfl) (by decide) dX0_init_28 (fun H1 hw => ?_)
  refine ic_put (q := 3) (j := 2) (v := 8) (ci := 0) (C := RX0) (T := TX0) (N := 6) hx hb hts hown (by decide) rfl rfl rfl (by decide) kw_20 rfl tyX0 tyX0_ok nmX0 iv_cX0 rfl hin2 rfl rfl rfl hw dX0_init_30 (fun H1 locs1 hw => ?_)
  refine lv_aload_n hx hb dX0_init_33 rfl (lv_at hl 0 rfl) ?_
  refine lv_bipush (v := 6) hx hb dX0_init_34 (by decide) ?_
  refine ic_newarr (base := base) (n := 9) hx hb hts hA (z := false) (N := 6) rfl kw_7 rfl (by decide) (by simp [iv_u, hσ]) (by omega) (Or.inl (by decide)) ha (by decide) hw (Nat.le_of_ble_eq_true rfl) (Nat.le_of_ble_eq_true rfl) (by decide) dX0_init_36 (fun H1 hw => ?_)
  refine ic_put (q := 3) (j := 3) (v := 9) (ci := 0) (C := RX0) (T := TX0) (N := 6) hx hb hts hown (by decide) rfl rfl rfl (by decide) kw_21 rfl tyX0 tyX0_ok nmX0 iv_cX0 rfl hin2 rfl rfl rfl hw dX0_init_38 (fun H1 locs1 hw => ?_)
  refine lv_aload_n hx hb dX0_init_41 rfl (lv_at hl 0 rfl) ?_
  refine lv_bipush (v := 6) hx hb dX0_init_42 (by decide) ?_
  refine ic_newarr (base := base) (n := 10) hx hb hts hA (z := false) (N := 6) rfl kw_7 rfl (by decide) (by simp [iv_u, hσ]) (by omega) (Or.inl (by decide)) ha (by decide) hw (Nat.le_of_ble_eq_true rfl) (Nat.le_of_ble_eq_true rfl) (by decide) dX0_init_44 (fun H1 hw => ?_)
  refine ic_put (q := 3) (j := 4) (v := 10) (ci := 0) (C := RX0) (T := TX0) (N := 6) hx hb hts hown (by decide) rfl rfl rfl (by decide) kw_22 rfl tyX0 tyX0_ok nmX0 iv_cX0 rfl hin2 rfl rfl rfl hw dX0_init_46 (fun H1 locs1 hw => ?_)
  refine lv_aload_n hx hb dX0_init_49 rfl (lv_at hl 0 rfl) ?_
  refine lv_bipush (v := 6) hx hb dX0_init_50 (by decide) ?_
  refine ic_newarr (base := base) (n := 11) hx hb hts hA (z := false) (N := 6) rfl kw_7 rfl (by decide) (by simp [iv_u, hσ]) (by omega) (Or.inl (by decide)) ha (by decide) hw (Nat.le_of_ble_eq_true rfl) (Nat.le_of_ble_eq_true rfl) (by decide) dX0_init_52 (fun H1 hw => ?_)
  refine ic_put (q := 3) (j := 5) (v := 11) (ci := 0) (C := RX0) (T := TX0) (N := 6) hx hb hts hown (by decide) rfl rfl rfl (by decide) kw_23 rfl tyX0 tyX0_ok nmX0 iv_cX0 rfl hin2 rfl rfl rfl hw dX0_init_54 (fun H1 locs1 hw => ?_)
  exact W.vret hx hb hr (fun t ht hW => ⟨⟨rfl, by rw [ht]; exact hw.2.1, va_K.moved hW.alike hw.1, hw.2.2.1⟩, hw.2.2.2.1.F ht⟩) hw.2.2.2.1.2.2 dX0_init_57 B.notSynchronized
set_option maxHeartbeats 4000000 in
set_option maxRecDepth 100000 in
theorem mk_X3_12 {X : iv_X} {base : Nat} (ha : ∀ k, k < 57 → X.2.2.1 k = base + k) {ρ : ic_R} {σ : iv_S} (hρ : ∀ k, 12 ≤ k → ρ k = fun _ => false) (hσ : ∀ k, 12 ≤ k → σ k = fun _ => 0) : ic_Ct X base mX3_init 2 [.inl 12] 13 ρ σ 18 (ic_r (ic_r (ic_r (ic_r (ic_r ρ 12 0) 12 1) 12 2) 12 3) 12 4) (σ) 5 150 := by
  refine iv_ofW (cc := cX3_init) (maxL := 1) (ret := none) (plainFor_of_name (by decide)) rfl ?_
  intro p e s m args below meth c s₁ B hml hv
  obtain ⟨rfl, hsz, hP, hK, hD0, hN⟩ := hv
  have hx := B.exec
  have hb := B.bytes
  have hr := B.returns
  have hts := atoms_spec (ws := .code yX3_init cX3_init 1 none :: iv_g) B.pre
  have hg := fun w h => hts w (List.mem_cons_of_mem _ h)
  have hown : s.vm.findClass RX3 = some m.cls := findClass_of_methodNamed B.named
  have hin2 : meth.name = "<init>" := (name_of_methodNamed B.named B.method).1
  have hA : ∀ q : Nat, s.heap.size ≤ q → ic_A X base 13 ρ σ q := fun q h => Or.inr (by omega)
  have hw : ic_Wo X 13 ρ σ (ic_A X base 13 ρ σ) s s.heap [] := ⟨hK, hP, hD0.self, va_S.rf, hN⟩
  have hl := lv_entry ([.ref (X.2.2.1 12)]) (n := 1) (Nat.le_of_ble_eq_true rfl)
  show W _ _ _ _ _ _ _ _ _ _ _ _ _ _ _ (entryFrame m ([.ref (X.2.2.1 12)] : List Value).toArray 1)
  rw [lg_entry_eq]
  generalize (lg_sl ([.ref (X.2.2.1 12)]) ++ List.replicate (1 - (lg_sl ([.ref (X.2.2.1 12)])).length) Slot.unset).toArray = ls at hl ⊢
  have hl : lv_has ls 1 [(0, .ref (X.2.2.1 12))] := hl
  refine lv_aload_n hx hb dX3_init_0 rfl (lv_at hl 0 rfl) ?_
  refine W.objInit hx hb hown (hg _ kw_24) (hg _ kw_1) (hg _ kw_2) rfl (by rw [hml]; exact hl.1) rfl dX3_init_1 (Nat.le_of_ble_eq_true rfl) (Nat.le_of_ble_eq_true rfl) ?_
  refine W.eq (g2 := F0 m 4 ls []) rfl ?_
  refine lv_aload_n hx hb dX3_init_4 rfl (lv_at hl 0 rfl) ?_
  refine lv_bipush (v := 30) hx hb dX3_init_5 (by decide) ?_
  refine ic_newarr (base := base) (n := 13) hx hb hts hA (z := false) (N := 30) rfl kw_7 rfl (by decide) (by simp [iv_u, hσ]) (by omega) (Or.inl (by decide)) ha (by decide) hw (Nat.le_of_ble_eq_true rfl) (Nat.le_of_ble_eq_true rfl) (by decide) dX3_init_7 (fun H1 hw => ?_)
  refine ic_put (q := 12) (j := 0) (v := 13) (ci := 3) (C := RX3) (T := TX3) (N := 6) hx hb hts hown (by decide) rfl rfl rfl (by decide) kw_25 rfl tyX3 tyX3_ok nmX3 iv_cX3 rfl hin2 rfl rfl rfl hw dX3_init_9 (fun H1 locs1 hw => ?_)
  refine lv_aload_n hx hb dX3_init_12 rfl (lv_at hl 0 rfl) ?_
  refine lv_bipush (v := 30) hx hb dX3_init_13 (by decide) ?_
  refine ic_newarr (base := base) (n := 14) hx hb hts hA (z := false) (N := 30) rfl kw_7 rfl (by decide) (by simp [iv_u, hσ]) (by omega) (Or.inl (by decide)) ha (by decide) hw (Nat.le_of_ble_eq_true rfl) (Nat.le_of_ble_eq_true rfl) (by decide) dX3_init_15 (fun H1 hw => ?_)
  refine ic_put (q := 12) (j := 1) (v := 14) (ci := 3) (C := RX3) (T := TX3) (N := 6) hx hb hts hown (by decide) rfl rfl rfl (by decide) kw_26 rfl tyX3 tyX3_ok nmX3 iv_cX3 rfl hin2 rfl rfl rfl hw dX3_init_17 (fun H1 locs1 hw => ?_)
  refine lv_aload_n hx hb dX3_init_20 rfl (lv_at hl 0 rfl) ?_
  refine lv_bipush (v := 30) hx hb dX3_init_21 (by decide) ?_
  refine ic_newarr (base := base) (n := 15) hx hb hts hA (z := true) (N := 30) rfl kw_27 rfl (by decide) (by simp [iv_u, hσ]) (by omega) (Or.inl (by decide)) ha (by decide) hw (Nat.le_of_ble_eq_true rfl) (Nat.le_of_ble_eq_true rfl) (by decide) dX3_init_23 (fun H1 hw => ?_)
  refine ic_put (q := 12) (j := 2) (v := 15) (ci := 3) (C := RX3) (T := TX3) (N := 6) hx hb hts hown (by decide) rfl rfl rfl (by decide) kw_28 rfl tyX3 tyX3_ok nmX3 iv_cX3 rfl hin2 rfl rfl rfl hw dX3_init_25 (fun H1 locs1 hw => ?_)
  refine lv_aload_n hx hb dX3_init_28 rfl (lv_at hl 0 rfl) ?_
  refine lv_bipush (v := 30) hx hb dX3_init_29 (by decide) ?_
  refine ic_newarr (base := base) (n := 16) hx hb hts hA (z := false) (N := 30) rfl kw_7 rfl (by decide) (by simp [iv_u, hσ]) (by omega) (Or.inl (by decide)) ha (by decide) hw (Nat.le_of_ble_eq_true rfl) (Nat.le_of_ble_eq_true rfl) (by decide) dX3_init_31 (fun H1 hw => ?_)
  refine ic_put (q := 12) (j := 3) (v := 16) (ci := 3) (C := RX3) (T := TX3) (N := 6) hx hb hts hown (by decide) rfl rfl rfl (by decide) kw_29 rfl tyX3 tyX3_ok nmX3 iv_cX3 rfl hin2 rfl rfl rfl hw dX3_init_33 (fun H1 locs1 hw => ?_)
  refine lv_aload_n hx hb dX3_init_36 rfl (lv_at hl 0 rfl) ?_
  refine lv_bipush (v := 30) hx hb dX3_init_37 (by decide) ?_
  refine ic_newarr (base := base) (n := 17) hx hb hts hA (z := false) (N := 30) rfl kw_7 rfl (by decide) (by simp [iv_u, hσ]) (by omega) (Or.inl (by decide)) ha (by decide) hw (Nat.le_of_ble_eq_true rfl) (Nat.le_of_ble_eq_true rfl) (by decide) dX3_init_39 (fun H1 hw => ?_)
  refine ic_put (q := 12) (j := 4) (v := 17) (ci := 3) (C := RX3) (T := TX3) (N := 6) hx hb hts hown (by decide) rfl rfl rfl (by decide) kw_30 rfl tyX3 tyX3_ok nmX3 iv_cX3 rfl hin2 rfl rfl rfl hw dX3_init_41 (fun H1 locs1 hw => ?_)
  exact W.vret hx hb hr (fun t ht hW => ⟨⟨rfl, by rw [ht]; exact hw.2.1, va_K.moved hW.alike hw.1, hw.2.2.1⟩, hw.2.2.2.1.F ht⟩) hw.2.2.2.1.2.2 dX3_init_44 B.notSynchronized
set_option maxHeartbeats 4000000 in
set_option maxRecDepth 100000 in
theorem mk_X1_18 {X : iv_X} {base : Nat} (ha : ∀ k, k < 57 → X.2.2.1 k = base + k) {ρ : ic_R} {σ : iv_S} (hρ : ∀ k, 18 ≤ k → ρ k = fun _ => false) (hσ : ∀ k, 18 ≤ k → σ k = fun _ => 0) : ic_Ct X base mX1_init 2 [.inl 18] 19 ρ σ 24 (ic_r (ic_r (ic_r (ic_r (ic_r ρ 18 0) 18 1) 18 2) 18 3) 18 4) (σ) 5 60 := by
  refine iv_ofW (cc := cX1_init) (maxL := 1) (ret := none) (plainFor_of_name (by decide)) rfl ?_
  intro p e s m args below meth c s₁ B hml hv
  obtain ⟨rfl, hsz, hP, hK, hD0, hN⟩ := hv
  have hx := B.exec
  have hb := B.bytes
  have hr := B.returns
  have hts := atoms_spec (ws := .code yX1_init cX1_init 1 none :: iv_g) B.pre
  have hg := fun w h => hts w (List.mem_cons_of_mem _ h)
  have hown : s.vm.findClass RX1 = some m.cls := findClass_of_methodNamed B.named
  have hin2 : meth.name = "<init>" := (name_of_methodNamed B.named B.method).1
  have hA : ∀ q : Nat, s.heap.size ≤ q → ic_A X base 19 ρ σ q := fun q h => Or.inr (by omega)
  have hw : ic_Wo X 19 ρ σ (ic_A X base 19 ρ σ) s s.heap [] := ⟨hK, hP, hD0.self, va_S.rf, hN⟩
  have hl := lv_entry ([.ref (X.2.2.1 18)]) (n := 1) (Nat.le_of_ble_eq_true rfl)
  show W _ _ _ _ _ _ _ _ _ _ _ _ _ _ _ (entryFrame m ([.ref (X.2.2.1 18)] : List Value).toArray 1)
  rw [lg_entry_eq]
  generalize (lg_sl ([.ref (X.2.2.1 18)]) ++ List.replicate (1 - (lg_sl ([.ref (X.2.2.1 18)])).length) Slot.unset).toArray = ls at hl ⊢
  have hl : lv_has ls 1 [(0, .ref (X.2.2.1 18))] := hl
  refine lv_aload_n hx hb dX1_init_0 rfl (lv_at hl 0 rfl) ?_
  refine W.objInit hx hb hown (hg _ kw_31) (hg _ kw_1) (hg _ kw_2) rfl (by rw [hml]; exact hl.1) rfl dX1_init_1 (Nat.le_of_ble_eq_true rfl) (Nat.le_of_ble_eq_true rfl) ?_
  refine W.eq (g2 := F0 m 4 ls []) rfl ?_
  refine lv_aload_n hx hb dX1_init_4 rfl (lv_at hl 0 rfl) ?_
  refine lv_bipush (v := 12) hx hb dX1_init_5 (by decide) ?_
  refine ic_newarr (base := base) (n := 19) hx hb hts hA (z := false) (N := 12) rfl kw_7 rfl (by decide) (by simp [iv_u, hσ]) (by omega) (Or.inl (by decide)) ha (by decide) hw (Nat.le_of_ble_eq_true rfl) (Nat.le_of_ble_eq_true rfl) (by decide) dX1_init_7 (fun H1 hw => ?_)
  refine ic_put (q := 18) (j := 0) (v := 19) (ci := 1) (C := RX1) (T := TX1) (N := 7) hx hb hts hown (by decide) rfl rfl rfl (by decide) kw_32 rfl tyX1 tyX1_ok nmX1 iv_cX1 rfl hin2 rfl rfl rfl hw dX1_init_9 (fun H1 locs1 hw => ?_)
  refine lv_aload_n hx hb dX1_init_12 rfl (lv_at hl 0 rfl) ?_
  refine lv_bipush (v := 12) hx hb dX1_init_13 (by decide) ?_
  refine ic_newarr (base := base) (n := 20) hx hb hts hA (z := false) (N := 12) rfl kw_7 rfl (by decide) (by simp [iv_u, hσ]) (by omega) (Or.inl (by decide)) ha (by decide) hw (Nat.le_of_ble_eq_true rfl) (Nat.le_of_ble_eq_true rfl) (by decide) dX1_init_15 (fun H1 hw => ?_)
  refine ic_put (q := 18) (j := 1) (v := 20) (ci := 1) (C := RX1) (T := TX1) (N := 7) hx hb hts hown (by decide) rfl rfl rfl (by decide) kw_33 rfl tyX1 tyX1_ok nmX1 iv_cX1 rfl hin2 rfl rfl rfl hw dX1_init_17 (fun H1 locs1 hw => ?_)
  refine lv_aload_n hx hb dX1_init_20 rfl (lv_at hl 0 rfl) ?_
  refine lv_bipush (v := 12) hx hb dX1_init_21 (by decide) ?_
  refine ic_newarr (base := base) (n := 21) hx hb hts hA (z := false) (N := 12) rfl kw_7 rfl (by decide) (by simp [iv_u, hσ]) (by omega) (Or.inl (by decide)) ha (by decide) hw (Nat.le_of_ble_eq_true rfl) (Nat.le_of_ble_eq_true rfl) (by decide) dX1_init_23 (fun H1 hw => ?_)
  refine ic_put (q := 18) (j := 2) (v := 21) (ci := 1) (C := RX1) (T := TX1) (N := 7) hx hb hts hown (by decide) rfl rfl rfl (by decide) kw_34 rfl tyX1 tyX1_ok nmX1 iv_cX1 rfl hin2 rfl rfl rfl hw dX1_init_25 (fun H1 locs1 hw => ?_)
  refine lv_aload_n hx hb dX1_init_28 rfl (lv_at hl 0 rfl) ?_
  refine lv_bipush (v := 12) hx hb dX1_init_29 (by decide) ?_
  refine ic_newarr (base := base) (n := 22) hx hb hts hA (z := false) (N := 12) rfl kw_7 rfl (by decide) (by simp [iv_u, hσ]) (by omega) (Or.inl (by decide)) ha (by decide) hw (Nat.le_of_ble_eq_true rfl) (Nat.le_of_ble_eq_true rfl) (by decide) dX1_init_31 (fun H1 hw => ?_)
  refine ic_put (q := 18) (j := 3) (v := 22) (ci := 1) (C := RX1) (T := TX1) (N := 7) hx hb hts hown (by decide) rfl rfl rfl (by decide) kw_35 rfl tyX1 tyX1_ok nmX1 iv_cX1 rfl hin2 rfl rfl rfl hw dX1_init_33 (fun H1 locs1 hw => ?_)
  refine lv_aload_n hx hb dX1_init_36 rfl (lv_at hl 0 rfl) ?_
  refine lv_bipush (v := 12) hx hb dX1_init_37 (by decide) ?_
  refine ic_newarr (base := base) (n := 23) hx hb hts hA (z := false) (N := 12) rfl kw_7 rfl (by decide) (by simp [iv_u, hσ]) (by omega) (Or.inl (by decide)) ha (by decide) hw (Nat.le_of_ble_eq_true rfl) (Nat.le_of_ble_eq_true rfl) (by decide) dX1_init_39 (fun H1 hw => ?_)
  refine ic_put (q := 18) (j := 4) (v := 23) (ci := 1) (C := RX1) (T := TX1) (N := 7) hx hb hts hown (by decide) rfl rfl rfl (by decide) kw_36 rfl tyX1 tyX1_ok nmX1 iv_cX1 rfl hin2 rfl rfl rfl hw dX1_init_41 (fun H1 locs1 hw => ?_)
  exact W.vret hx hb hr (fun t ht hW => ⟨⟨rfl, by rw [ht]; exact hw.2.1, va_K.moved hW.alike hw.1, hw.2.2.1⟩, hw.2.2.2.1.F ht⟩) hw.2.2.2.1.2.2 dX1_init_44 B.notSynchronized
set_option maxHeartbeats 4000000 in
set_option maxRecDepth 100000 in
theorem mk_X5_24 {X : iv_X} {base : Nat} (ha : ∀ k, k < 57 → X.2.2.1 k = base + k) {ρ : ic_R} {σ : iv_S} (hρ : ∀ k, 24 ≤ k → ρ k = fun _ => false) (hσ : ∀ k, 24 ≤ k → σ k = fun _ => 0) : ic_Ct X base mX5_init 2 [.inl 24] 25 ρ σ 29 (ic_r (ic_r (ic_r (ic_r ρ 24 0) 24 1) 24 2) 24 3) (σ) 4 24 := by
  refine iv_ofW (cc := cX5_init) (maxL := 1) (ret := none) (plainFor_of_name (by decide)) rfl ?_
  intro p e s m args below meth c s₁ B hml hv
  obtain ⟨rfl, hsz, hP, hK, hD0, hN⟩ := hv
  have hx := B.exec
  have hb := B.bytes
  have hr := B.returns
  have hts := atoms_spec (ws := .code yX5_init cX5_init 1 none :: iv_g) B.pre
  have hg := fun w h => hts w (List.mem_cons_of_mem _ h)
  have hown : s.vm.findClass RX5 = some m.cls := findClass_of_methodNamed B.named
  have hin2 : meth.name = "<init>" := (name_of_methodNamed B.named B.method).1
  have hA : ∀ q : Nat, s.heap.size ≤ q → ic_A X base 25 ρ σ q := fun q h => Or.inr (by omega)
  have hw : ic_Wo X 25 ρ σ (ic_A X base 25 ρ σ) s s.heap [] := ⟨hK, hP, hD0.self, va_S.rf, hN⟩
  have hl := lv_entry ([.ref (X.2.2.1 24)]) (n := 1) (Nat.le_of_ble_eq_true rfl)
  show W _ _ _ _ _ _ _ _ _ _ _ _ _ _ _ (entryFrame m ([.ref (X.2.2.1 24)] : List Value).toArray 1)
  rw [lg_entry_eq]
  generalize (lg_sl ([.ref (X.2.2.1 24)]) ++ List.replicate (1 - (lg_sl ([.ref (X.2.2.1 24)])).length) Slot.unset).toArray = ls at hl ⊢
  have hl : lv_has ls 1 [(0, .ref (X.2.2.1 24))] := hl
  refine lv_aload_n hx hb dX5_init_0 rfl (lv_at hl 0 rfl) ?_
  refine W.objInit hx hb hown (hg _ kw_37) (hg _ kw_1) (hg _ kw_2) rfl (by rw [hml]; exact hl.1) rfl dX5_init_1 (Nat.le_of_ble_eq_true rfl) (Nat.le_of_ble_eq_true rfl) ?_
  refine W.eq (g2 := F0 m 4 ls []) rfl ?_
  refine lv_aload_n hx hb dX5_init_4 rfl (lv_at hl 0 rfl) ?_
  refine lv_bipush (v := 6) hx hb dX5_init_5 (by decide) ?_
  refine ic_newarr (base := base) (n := 25) hx hb hts hA (z := false) (N := 6) rfl kw_7 rfl (by decide) (by simp [iv_u, hσ]) (by omega) (Or.inl (by decide)) ha (by decide) hw (Nat.le_of_ble_eq_true rfl) (Nat.le_of_ble_eq_true rfl) (by decide) dX5_init_7 (fun H1 hw => ?_)
  refine ic_put (q := 24) (j := 0) (v := 25) (ci := 5) (C := RX5) (T := TX5) (N := 8) hx hb hts hown (by decide) rfl rfl rfl (by decide) kw_38 rfl tyX5 tyX5_ok nmX5 iv_cX5 rfl hin2 rfl rfl rfl hw dX5_init_9 (fun H1 locs1 hw => ?_)
  refine lv_aload_n hx hb dX5_init_12 rfl (lv_at hl 0 rfl) ?_
  refine lv_bipush (v := 6) hx hb dX5_init_13 (by decide) ?_
  refine ic_newarr (base := base) (n := 26) hx hb hts hA (z := true) (N := 6) rfl kw_27 rfl (by decide) (by simp [iv_u, hσ]) (by omega) (Or.inl (by decide)) ha (by decide) hw (Nat.le_of_ble_eq_true rfl) (Nat.le_of_ble_eq_true rfl) (by decide) dX5_init_15 (fun H1 hw => ?_)
  refine ic_put (q := 24) (j := 1) (v := 26) (ci := 5) (C := RX5) (T := TX5) (N := 8) hx hb hts hown (by decide) rfl rfl rfl (by decide) kw_39 rfl tyX5 tyX5_ok nmX5 iv_cX5 rfl hin2 rfl rfl rfl hw dX5_init_17 (fun H1 locs1 hw => ?_)
  refine lv_aload_n hx hb dX5_init_20 rfl (lv_at hl 0 rfl) ?_
  refine lv_bipush (v := 6) hx hb dX5_init_21 (by decide) ?_
  refine ic_newarr (base := base) (n := 27) hx hb hts hA (z := false) (N := 6) rfl kw_7 rfl (by decide) (by simp [iv_u, hσ]) (by omega) (Or.inl (by decide)) ha (by decide) hw (Nat.le_of_ble_eq_true rfl) (Nat.le_of_ble_eq_true rfl) (by decide) dX5_init_23 (fun H1 hw => ?_)
  refine ic_put (q := 24) (j := 2) (v := 27) (ci := 5) (C := RX5) (T := TX5) (N := 8) hx hb hts hown (by decide) rfl rfl rfl (by decide) kw_40 rfl tyX5 tyX5_ok nmX5 iv_cX5 rfl hin2 rfl rfl rfl hw dX5_init_25 (fun H1 locs1 hw => ?_)
  refine lv_aload_n hx hb dX5_init_28 rfl (lv_at hl 0 rfl) ?_
  refine lv_bipush (v := 6) hx hb dX5_init_29 (by decide) ?_
  refine ic_newarr (base := base) (n := 28) hx hb hts hA (z := false) (N := 6) rfl kw_7 rfl (by decide) (by simp [iv_u, hσ]) (by omega) (Or.inl (by decide)) ha (by decide) hw (Nat.le_of_ble_eq_true rfl) (Nat.le_of_ble_eq_true rfl) (by decide) dX5_init_31 (fun H1 hw => ?_)
  refine ic_put (q := 24) (j := 3) (v := 28) (ci := 5) (C := RX5) (T := TX5) (N := 8) hx hb hts hown (by decide) rfl rfl rfl (by decide) kw_41 rfl tyX5 tyX5_ok nmX5 iv_cX5 rfl hin2 rfl rfl rfl hw dX5_init_33 (fun H1 locs1 hw => ?_)
  exact W.vret hx hb hr (fun t ht hW => ⟨⟨rfl, by rw [ht]; exact hw.2.1, va_K.moved hW.alike hw.1, hw.2.2.1⟩, hw.2.2.2.1.F ht⟩) hw.2.2.2.1.2.2 dX5_init_36 B.notSynchronized
set_option maxHeartbeats 4000000 in
set_option maxRecDepth 100000 in
theorem mk_X4_30 {X : iv_X} {base : Nat} (ha : ∀ k, k < 57 → X.2.2.1 k = base + k) {ρ : ic_R} {σ : iv_S} (hρ : ∀ k, 30 ≤ k → ρ k = fun _ => false) (hσ : ∀ k, 30 ≤ k → σ k = fun _ => 0) : ic_Ct X base mX4_init 2 [.inl 30, .inr (nI 12)] 31 ρ σ 33 (ic_r (ic_r ρ 30 0) 30 1) (σ) 2 24 := by
  refine iv_ofW (cc := cX4_init) (maxL := 3) (ret := none) (plainFor_of_name (by decide)) rfl ?_
  intro p e s m args below meth c s₁ B hml hv
  obtain ⟨rfl, hsz, hP, hK, hD0, hN⟩ := hv
  have hx := B.exec
  have hb := B.bytes
  have hr := B.returns
  have hts := atoms_spec (ws := .code yX4_init cX4_init 3 none :: iv_g) B.pre
  have hg := fun w h => hts w (List.mem_cons_of_mem _ h)
  have hown : s.vm.findClass RX4 = some m.cls := findClass_of_methodNamed B.named
  have hin2 : meth.name = "<init>" := (name_of_methodNamed B.named B.method).1
  have hA : ∀ q : Nat, s.heap.size ≤ q → ic_A X base 31 ρ σ q := fun q h => Or.inr (by omega)
  have hw : ic_Wo X 31 ρ σ (ic_A X base 31 ρ σ) s s.heap [] := ⟨hK, hP, hD0.self, va_S.rf, hN⟩
  have hl := lv_entry ([.ref (X.2.2.1 30), .int (nI 12)]) (n := 3) (Nat.le_of_ble_eq_true rfl)
  show W _ _ _ _ _ _ _ _ _ _ _ _ _ _ _ (entryFrame m ([.ref (X.2.2.1 30), .int (nI 12)] : List Value).toArray 3)
  rw [lg_entry_eq]
  generalize (lg_sl ([.ref (X.2.2.1 30), .int (nI 12)]) ++ List.replicate (3 - (lg_sl ([.ref (X.2.2.1 30), .int (nI 12)])).length) Slot.unset).toArray = ls at hl ⊢
  have hl : lv_has ls 3 [(0, .ref (X.2.2.1 30)), (1, .int (nI 12))] := hl
  refine lv_aload_n hx hb dX4_init_0 rfl (lv_at hl 0 rfl) ?_
  refine W.objInit hx hb hown (hg _ kw_0) (hg _ kw_1) (hg _ kw_2) rfl (by rw [hml]; exact hl.1) rfl dX4_init_1 (Nat.le_of_ble_eq_true rfl) (Nat.le_of_ble_eq_true rfl) ?_
  refine W.eq (g2 := F0 m 4 ls []) rfl ?_
  refine lv_iload_n hx hb dX4_init_4 rfl (lv_at hl 1 rfl) ?_
  refine lv_iconst (v := 0) hx hb dX4_init_5 (by decide) ?_
  refine va_mmax hx hb (by rw [hml]; exact hl.1.symm) hown (hg _ kw_3) (hg _ kw_4) (hg _ kw_5) (hg _ kw_6) (Nat.le_of_ble_eq_true rfl) (Nat.le_of_ble_eq_true rfl) (Nat.zero_le _) (Nat.zero_le _) dX4_init_6 ?_
  rw [show (if (nI 12 : Int32) < 0 then (0 : Int32) else nI 12) = nI 12 by decide]
  refine lv_istore_n (lv' := [(2, .int (nI 12)), (0, .ref (X.2.2.1 30)), (1, .int (nI 12))]) hx hb dX4_init_9 rfl hl (by decide) rfl (fun ls hl => ?_)
  refine lv_aload_n hx hb dX4_init_10 rfl (lv_at hl 1 rfl) ?_
  refine lv_iload_n hx hb dX4_init_11 rfl (lv_at hl 0 rfl) ?_
  refine ic_newarr (base := base) (n := 31) hx hb hts hA (z := false) (N := 12) rfl kw_7 rfl (by decide) (by simp [iv_u, hσ]) (by omega) (Or.inl (by decide)) ha (by decide) hw (Nat.le_of_ble_eq_true rfl) (Nat.le_of_ble_eq_true rfl) (by decide) dX4_init_12 (fun H1 hw => ?_)
  refine ic_put (q := 30) (j := 0) (v := 31) (ci := 4) (C := RX4) (T := TX4) (N := 3) hx hb hts hown (by decide) rfl rfl rfl (by decide) kw_8 rfl tyX4 tyX4_ok nmX4 iv_cX4 rfl hin2 rfl rfl rfl hw dX4_init_14 (fun H1 locs1 hw => ?_)
  refine lv_aload_n hx hb dX4_init_17 rfl (lv_at hl 1 rfl) ?_
  refine lv_iload_n hx hb dX4_init_18 rfl (lv_at hl 0 rfl) ?_
  refine ic_newarr (base := base) (n := 32) hx hb hts hA (z := false) (N := 12) rfl kw_7 rfl (by decide) (by simp [iv_u, hσ]) (by omega) (Or.inl (by decide)) ha (by decide) hw (Nat.le_of_ble_eq_true rfl) (Nat.le_of_ble_eq_true rfl) (by decide) dX4_init_19 (fun H1 hw => ?_)
  refine ic_put (q := 30) (j := 1) (v := 32) (ci := 4) (C := RX4) (T := TX4) (N := 3) hx hb hts hown (by decide) rfl rfl rfl (by decide) kw_9 rfl tyX4 tyX4_ok nmX4 iv_cX4 rfl hin2 rfl rfl rfl hw dX4_init_21 (fun H1 locs1 hw => ?_)
  exact W.vret hx hb hr (fun t ht hW => ⟨⟨rfl, by rw [ht]; exact hw.2.1, va_K.moved hW.alike hw.1, hw.2.2.1⟩, hw.2.2.2.1.F ht⟩) hw.2.2.2.1.2.2 dX4_init_24 B.notSynchronized
set_option maxHeartbeats 4000000 in
set_option maxRecDepth 100000 in
theorem mk_X4_33 {X : iv_X} {base : Nat} (ha : ∀ k, k < 57 → X.2.2.1 k = base + k) {ρ : ic_R} {σ : iv_S} (hρ : ∀ k, 33 ≤ k → ρ k = fun _ => false) (hσ : ∀ k, 33 ≤ k → σ k = fun _ => 0) : ic_Ct X base mX4_init 2 [.inl 33, .inr (nI 8)] 34 ρ σ 36 (ic_r (ic_r ρ 33 0) 33 1) (σ) 2 16 := by
  refine iv_ofW (cc := cX4_init) (maxL := 3) (ret := none) (plainFor_of_name (by decide)) rfl ?_
  intro p e s m args below meth c s₁ B hml hv
  obtain ⟨rfl, hsz, hP, hK, hD0, hN⟩ := hv
  have hx := B.exec
  have hb := B.bytes
  have hr := B.returns
  have hts := atoms_spec (ws := .code yX4_init cX4_init 3 none :: iv_g) B.pre
  have hg := fun w h => hts w (List.mem_cons_of_mem _ h)
  have hown : s.vm.findClass RX4 = some m.cls := findClass_of_methodNamed B.named
  have hin2 : meth.name = "<init>" := (name_of_methodNamed B.named B.method).1
  have hA : ∀ q : Nat, s.heap.size ≤ q → ic_A X base 34 ρ σ q := fun q h => Or.inr (by omega)
  have hw : ic_Wo X 34 ρ σ (ic_A X base 34 ρ σ) s s.heap [] := ⟨hK, hP, hD0.self, va_S.rf, hN⟩
  have hl := lv_entry ([.ref (X.2.2.1 33), .int (nI 8)]) (n := 3) (Nat.le_of_ble_eq_true rfl)
  show W _ _ _ _ _ _ _ _ _ _ _ _ _ _ _ (entryFrame m ([.ref (X.2.2.1 33), .int (nI 8)] : List Value).toArray 3)
  rw [lg_entry_eq]
  generalize (lg_sl ([.ref (X.2.2.1 33), .int (nI 8)]) ++ List.replicate (3 - (lg_sl ([.ref (X.2.2.1 33), .int (nI 8)])).length) Slot.unset).toArray = ls at hl ⊢
  have hl : lv_has ls 3 [(0, .ref (X.2.2.1 33)), (1, .int (nI 8))] := hl
  refine lv_aload_n hx hb dX4_init_0 rfl (lv_at hl 0 rfl) ?_
  refine W.objInit hx hb hown (hg _ kw_0) (hg _ kw_1) (hg _ kw_2) rfl (by rw [hml]; exact hl.1) rfl dX4_init_1 (Nat.le_of_ble_eq_true rfl) (Nat.le_of_ble_eq_true rfl) ?_
  refine W.eq (g2 := F0 m 4 ls []) rfl ?_
  refine lv_iload_n hx hb dX4_init_4 rfl (lv_at hl 1 rfl) ?_
  refine lv_iconst (v := 0) hx hb dX4_init_5 (by decide) ?_
  refine va_mmax hx hb (by rw [hml]; exact hl.1.symm) hown (hg _ kw_3) (hg _ kw_4) (hg _ kw_5) (hg _ kw_6) (Nat.le_of_ble_eq_true rfl) (Nat.le_of_ble_eq_true rfl) (Nat.zero_le _) (Nat.zero_le _) dX4_init_6 ?_
  rw [show (if (nI 8 : Int32) < 0 then (0 : Int32) else nI 8) = nI 8 by decide]
  refine lv_istore_n (lv' := [(2, .int (nI 8)), (0, .ref (X.2.2.1 33)), (1, .int (nI 8))]) hx hb dX4_init_9 rfl hl (by decide) rfl (fun ls hl => ?_)
  refine lv_aload_n hx hb dX4_init_10 rfl (lv_at hl 1 rfl) ?_
  refine lv_iload_n hx hb dX4_init_11 rfl (lv_at hl 0 rfl) ?_
  refine ic_newarr (base := base) (n := 34) hx hb hts hA (z := false) (N := 8) rfl kw_7 rfl (by decide) (by simp [iv_u, hσ]) (by omega) (Or.inl (by decide)) ha (by decide) hw (Nat.le_of_ble_eq_true rfl) (Nat.le_of_ble_eq_true rfl) (by decide) dX4_init_12 (fun H1 hw => ?_)
  refine ic_put (q := 33) (j := 0) (v := 34) (ci := 4) (C := RX4) (T := TX4) (N := 3) hx hb hts hown (by decide) rfl rfl rfl (by decide) kw_8 rfl tyX4 tyX4_ok nmX4 iv_cX4 rfl hin2 rfl rfl rfl hw dX4_init_14 (fun H1 locs1 hw => ?_)
  refine lv_aload_n hx hb dX4_init_17 rfl (lv_at hl 1 rfl) ?_
  refine lv_iload_n hx hb dX4_init_18 rfl (lv_at hl 0 rfl) ?_
  refine ic_newarr (base := base) (n := 35) hx hb hts hA (z := false) (N := 8) rfl kw_7 rfl (by decide) (by simp [iv_u, hσ]) (by omega) (Or.inl (by decide)) ha (by decide) hw (Nat.le_of_ble_eq_true rfl) (Nat.le_of_ble_eq_true rfl) (by decide) dX4_init_19 (fun H1 hw => ?_)
  refine ic_put (q := 33) (j := 1) (v := 35) (ci := 4) (C := RX4) (T := TX4) (N := 3) hx hb hts hown (by decide) rfl rfl rfl (by decide) kw_9 rfl tyX4 tyX4_ok nmX4 iv_cX4 rfl hin2 rfl rfl rfl hw dX4_init_21 (fun H1 locs1 hw => ?_)
  exact W.vret hx hb hr (fun t ht hW => ⟨⟨rfl, by rw [ht]; exact hw.2.1, va_K.moved hW.alike hw.1, hw.2.2.1⟩, hw.2.2.2.1.F ht⟩) hw.2.2.2.1.2.2 dX4_init_24 B.notSynchronized
set_option maxHeartbeats 4000000 in
set_option maxRecDepth 100000 in
theorem mk_X2_29 {X : iv_X} {base : Nat} (ha : ∀ k, k < 57 → X.2.2.1 k = base + k) {ρ : ic_R} {σ : iv_S} (hρ : ∀ k, 29 ≤ k → ρ k = fun _ => false) (hσ : ∀ k, 29 ≤ k → σ k = fun _ => 0) : ic_Ct X base mX2_init 4 [.inl 29] 30 ρ σ 37 (ic_r (ic_r (ic_r (ic_r (ic_r (ic_r (ic_r ρ 30 0) 30 1) 29 0) 33 0) 33 1) 29 1) 29 2) (σ) 7 58 := by
  refine iv_ofW (cc := cX2_init) (maxL := 1) (ret := none) (plainFor_of_name (by decide)) rfl ?_
  intro p e s m args below meth c s₁ B hml hv
  obtain ⟨rfl, hsz, hP, hK, hD0, hN⟩ := hv
  have hx := B.exec
  have hb := B.bytes
  have hr := B.returns
  have hts := atoms_spec (ws := .code yX2_init cX2_init 1 none :: iv_g) B.pre
  have hg := fun w h => hts w (List.mem_cons_of_mem _ h)
  have hown : s.vm.findClass RX2 = some m.cls := findClass_of_methodNamed B.named
  have hin2 : meth.name = "<init>" := (name_of_methodNamed B.named B.method).1
  have hA : ∀ q : Nat, s.heap.size ≤ q → ic_A X base 30 ρ σ q := fun q h => Or.inr (by omega)
  have hw : ic_Wo X 30 ρ σ (ic_A X base 30 ρ σ) s s.heap [] := ⟨hK, hP, hD0.self, va_S.rf, hN⟩
  have hl := lv_entry ([.ref (X.2.2.1 29)]) (n := 1) (Nat.le_of_ble_eq_true rfl)
  show W _ _ _ _ _ _ _ _ _ _ _ _ _ _ _ (entryFrame m ([.ref (X.2.2.1 29)] : List Value).toArray 1)
  rw [lg_entry_eq]
  generalize (lg_sl ([.ref (X.2.2.1 29)]) ++ List.replicate (1 - (lg_sl ([.ref (X.2.2.1 29)])).length) Slot.unset).toArray = ls at hl ⊢
  have hl : lv_has ls 1 [(0, .ref (X.2.2.1 29))] := hl
  refine lv_aload_n hx hb dX2_init_0 rfl (lv_at hl 0 rfl) ?_
  refine W.objInit hx hb hown (hg _ kw_42) (hg _ kw_1) (hg _ kw_2) rfl (by rw [hml]; exact hl.1) rfl dX2_init_1 (Nat.le_of_ble_eq_true rfl) (Nat.le_of_ble_eq_true rfl) ?_
  refine W.eq (g2 := F0 m 4 ls []) rfl ?_
  refine lv_aload_n hx hb dX2_init_4 rfl (lv_at hl 0 rfl) ?_
  refine ic_new (base := base) (n := 30) (ci := 4) (C := RX4) (T := TX4) (N := 3) hx hb hts hA hown rfl rfl kw_43 kw_12 kw_13 tyX4 tyX4_ok iv_cX4 dfX4 (by simp [iv_u, hσ]) (by simp [ic_r, hρ]) (by omega) (Or.inl (by decide)) ha (by decide) hw (Nat.le_of_ble_eq_true rfl) (Nat.le_of_ble_eq_true rfl) dX2_init_5 (fun H1 hw => ?_)
  refine lv_dup hx hb dX2_init_8 rfl ?_
  refine lv_bipush (v := 12) hx hb dX2_init_9 (by decide) ?_
  refine ic_ctor (base := base) (n := 31) hx hb hml hown hts hA (mk_X4_30 ha (fun k hk => by simp [ic_r, hρ, show 29 ≤ k by omega, hρ]) (fun k hk => by simp [iv_u, hσ, show 29 ≤ k by omega])) rfl rfl kw_14 kw_15 (Or.inl kw_44) kw_17 (by decide +kernel) ⟨Nat.le_of_ble_eq_true rfl, Nat.le_of_ble_eq_true rfl⟩ ⟨Nat.le_of_ble_eq_true rfl, Nat.le_of_ble_eq_true rfl⟩ hl.1 (Nat.le_of_ble_eq_true rfl) rfl (by omega) (Or.inl (by decide)) ha (by decide) hw dX2_init_11 (fun H1 locs1 hw => ?_)
  refine ic_put (q := 29) (j := 0) (v := 30) (ci := 2) (C := RX2) (T := TX2) (N := 4) hx hb hts hown (by decide) rfl rfl rfl (by decide) kw_45 rfl tyX2 tyX2_ok nmX2 iv_cX2 rfl hin2 rfl rfl rfl hw dX2_init_14 (fun H1 locs1 hw => ?_)
  refine lv_aload_n hx hb dX2_init_17 rfl (lv_at hl 0 rfl) ?_
  refine ic_new (base := base) (n := 33) (ci := 4) (C := RX4) (T := TX4) (N := 3) hx hb hts hA hown rfl rfl kw_43 kw_12 kw_13 tyX4 tyX4_ok iv_cX4 dfX4 (by simp [iv_u, hσ]) (by simp [ic_r, hρ]) (by omega) (Or.inl (by decide)) ha (by decide) hw (Nat.le_of_ble_eq_true rfl) (Nat.le_of_ble_eq_true rfl) dX2_init_18 (fun H1 hw => ?_)
  refine lv_dup hx hb dX2_init_21 rfl ?_
  refine lv_bipush (v := 8) hx hb dX2_init_22 (by decide) ?_
  refine ic_ctor (base := base) (n := 34) hx hb hml hown hts hA (mk_X4_33 ha (fun k hk => by simp [ic_r, hρ, show 29 ≤ k by omega, show k ≠ 29 by omega, show k ≠ 30 by omega]) (fun k hk => by simp [iv_u, hσ, show 29 ≤ k by omega])) rfl rfl kw_14 kw_15 (Or.inl kw_44) kw_17 (by decide +kernel) ⟨Nat.le_of_ble_eq_true rfl, Nat.le_of_ble_eq_true rfl⟩ ⟨Nat.le_of_ble_eq_true rfl, Nat.le_of_ble_eq_true rfl⟩ hl.1 (Nat.le_of_ble_eq_true rfl) rfl (by omega) (Or.inl (by decide)) ha (by decide) hw dX2_init_24 (fun H1 locs1 hw => ?_)
  refine ic_put (q := 29) (j := 1) (v := 33) (ci := 2) (C := RX2) (T := TX2) (N := 4) hx hb hts hown (by decide) rfl rfl rfl (by decide) kw_46 rfl tyX2 tyX2_ok nmX2 iv_cX2 rfl hin2 rfl rfl rfl hw dX2_init_27 (fun H1 locs1 hw => ?_)
  refine lv_aload_n hx hb dX2_init_30 rfl (lv_at hl 0 rfl) ?_
  refine lv_bipush (v := 12) hx hb dX2_init_31 (by decide) ?_
  refine ic_newarr (base := base) (n := 36) hx hb hts hA (z := false) (N := 12) rfl kw_7 rfl (by decide) (by simp [iv_u, hσ]) (by omega) (Or.inl (by decide)) ha (by decide) hw (Nat.le_of_ble_eq_true rfl) (Nat.le_of_ble_eq_true rfl) (by decide) dX2_init_33 (fun H1 hw => ?_)
  refine ic_put (q := 29) (j := 2) (v := 36) (ci := 2) (C := RX2) (T := TX2) (N := 4) hx hb hts hown (by decide) rfl rfl rfl (by decide) kw_47 rfl tyX2 tyX2_ok nmX2 iv_cX2 rfl hin2 rfl rfl rfl hw dX2_init_35 (fun H1 locs1 hw => ?_)
  exact W.vret hx hb hr (fun t ht hW => ⟨⟨rfl, by rw [ht]; exact hw.2.1, va_K.moved hW.alike hw.1, hw.2.2.1⟩, hw.2.2.2.1.F ht⟩) hw.2.2.2.1.2.2 dX2_init_38 B.notSynchronized
set_option maxHeartbeats 4000000 in
set_option maxRecDepth 100000 in
theorem mk_X6_0 {X : iv_X} {base : Nat} (ha : ∀ k, k < 57 → X.2.2.1 k = base + k) {ρ : ic_R} {σ : iv_S} (hρ : ∀ k, 0 ≤ k → ρ k = fun _ => false) (hσ : ∀ k, 0 ≤ k → σ k = fun _ => 0) : ic_Ct X base mX6_init 6 [.inl 0] 1 ρ σ 37 (ic_r (ic_r (ic_r (ic_r (ic_r (ic_r (ic_r (ic_r (ic_r (ic_r (ic_r (ic_r (ic_r (ic_r (ic_r (ic_r (ic_r (ic_r (ic_r (ic_r (ic_r (ic_r (ic_r (ic_r (ic_r (ic_r (ic_r (ic_r (ic_r (ic_r (ic_r (ic_r (ic_r (ic_r (ic_r (ic_r ρ 0 0) 0 1) 4 0) 4 1) 3 0) 3 1) 3 2) 3 3) 3 4) 3 5) 0 2) 12 0) 12 1) 12 2) 12 3) 12 4) 0 3) 18 0) 18 1) 18 2) 18 3) 18 4) 0 4) 24 0) 24 1) 24 2) 24 3) 0 5) 30 0) 30 1) 29 0) 33 0) 33 1) 29 1) 29 2) 0 6) (ic_fill (iv_u (iv_u (iv_u (iv_u (iv_u σ 1 0 2000) 1 1 80) 1 2 1000) 1 3 25) 1 4 10)) 36 397 := by
  refine iv_ofW (cc := cX6_init) (maxL := 1) (ret := none) (plainFor_of_name (by decide)) rfl ?_
  intro p e s m args below meth c s₁ B hml hv
  obtain ⟨rfl, hsz, hP, hK, hD0, hN⟩ := hv
  have hx := B.exec
  have hb := B.bytes
  have hr := B.returns
  have hts := atoms_spec (ws := .code yX6_init cX6_init 1 none :: iv_g) B.pre
  have hg := fun w h => hts w (List.mem_cons_of_mem _ h)
  have hown : s.vm.findClass RX6 = some m.cls := findClass_of_methodNamed B.named
  have hin2 : meth.name = "<init>" := (name_of_methodNamed B.named B.method).1
  have hA : ∀ q : Nat, s.heap.size ≤ q → ic_A X base 1 ρ σ q := fun q h => Or.inr (by omega)
  have hw : ic_Wo X 1 ρ σ (ic_A X base 1 ρ σ) s s.heap [] := ⟨hK, hP, hD0.self, va_S.rf, hN⟩
  have hl := lv_entry ([.ref (X.2.2.1 0)]) (n := 1) (Nat.le_of_ble_eq_true rfl)
  show W _ _ _ _ _ _ _ _ _ _ _ _ _ _ _ (entryFrame m ([.ref (X.2.2.1 0)] : List Value).toArray 1)
  rw [lg_entry_eq]
  generalize (lg_sl ([.ref (X.2.2.1 0)]) ++ List.replicate (1 - (lg_sl ([.ref (X.2.2.1 0)])).length) Slot.unset).toArray = ls at hl ⊢
  have hl : lv_has ls 1 [(0, .ref (X.2.2.1 0))] := hl
  refine lv_aload_n hx hb dX6_init_0 rfl (lv_at hl 0 rfl) ?_
  refine W.objInit hx hb hown (hg _ kw_48) (hg _ kw_1) (hg _ kw_2) rfl (by rw [hml]; exact hl.1) rfl dX6_init_1 (Nat.le_of_ble_eq_true rfl) (Nat.le_of_ble_eq_true rfl) ?_
  refine W.eq (g2 := F0 m 4 ls []) rfl ?_
  refine lv_aload_n hx hb dX6_init_4 rfl (lv_at hl 0 rfl) ?_
  refine lv_iconst (v := 5) hx hb dX6_init_5 (by decide) ?_
  refine ic_newarr (base := base) (n := 1) hx hb hts hA (z := false) (N := 5) rfl kw_7 rfl (by decide) (by simp [iv_u, hσ]) (by omega) (Or.inl (by decide)) ha (by decide) hw (Nat.le_of_ble_eq_true rfl) (Nat.le_of_ble_eq_true rfl) (by decide) dX6_init_6 (fun H1 hw => ?_)
  refine lv_dup hx hb dX6_init_8 rfl ?_
  refine lv_iconst (v := 0) hx hb dX6_init_9 (by decide) ?_
  refine lv_sipush (v := 2000) hx hb dX6_init_10 (by decide) ?_
  refine ic_iast (q := 1) hx hb (by decide) rfl (z_in (j := 0) (by decide) (by decide)) hw dX6_init_13 (fun H1 locs1 hw => ?_)
  rw [ie_cl0] at hw
  refine lv_dup hx hb dX6_init_14 rfl ?_
  refine lv_iconst (v := 1) hx hb dX6_init_15 (by decide) ?_
  refine lv_bipush (v := 80) hx hb dX6_init_16 (by decide) ?_
  refine ic_iast (q := 1) hx hb (by decide) rfl (z_in (j := 1) (by decide) (by decide)) hw dX6_init_18 (fun H1 locs1 hw => ?_)
  rw [ie_cl1] at hw
  refine lv_dup hx hb dX6_init_19 rfl ?_
  refine lv_iconst (v := 2) hx hb dX6_init_20 (by decide) ?_
  refine lv_sipush (v := 1000) hx hb dX6_init_21 (by decide) ?_
  refine ic_iast (q := 1) hx hb (by decide) rfl (z_in (j := 2) (by decide) (by decide)) hw dX6_init_24 (fun H1 locs1 hw => ?_)
  rw [ie_cl2] at hw
  refine lv_dup hx hb dX6_init_25 rfl ?_
  refine lv_iconst (v := 3) hx hb dX6_init_26 (by decide) ?_
  refine lv_bipush (v := 25) hx hb dX6_init_27 (by decide) ?_
  refine ic_iast (q := 1) hx hb (by decide) rfl (z_in (j := 3) (by decide) (by decide)) hw dX6_init_29 (fun H1 locs1 hw => ?_)
  rw [ie_cl3] at hw
  refine lv_dup hx hb dX6_init_30 rfl ?_
  refine lv_iconst (v := 4) hx hb dX6_init_31 (by decide) ?_
  refine lv_bipush (v := 10) hx hb dX6_init_32 (by decide) ?_
  refine ic_iast (q := 1) hx hb (by decide) rfl (z_in (j := 4) (by decide) (by decide)) hw dX6_init_34 (fun H1 locs1 hw => ?_)
  rw [ie_cl4] at hw
  refine ic_put (q := 0) (j := 0) (v := 1) (ci := 6) (C := RX6) (T := TX6) (N := 8) hx hb hts hown (by decide) rfl rfl rfl (by decide) kw_49 rfl tyX6 tyX6_ok nmX6 iv_cX6 rfl hin2 rfl rfl rfl hw dX6_init_35 (fun H1 locs1 hw => ?_)
  refine lv_aload_n hx hb dX6_init_38 rfl (lv_at hl 0 rfl) ?_
  refine lv_bipush (v := 24) hx hb dX6_init_39 (by decide) ?_
  refine ic_newarr (base := base) (n := 2) hx hb hts hA (z := false) (N := 24) rfl kw_7 rfl (by decide) (by simp [iv_u, hσ]) (by omega) (Or.inl (by decide)) ha (by decide) hw (Nat.le_of_ble_eq_true rfl) (Nat.le_of_ble_eq_true rfl) (by decide) dX6_init_41 (fun H1 hw => ?_)
  refine ic_put (q := 0) (j := 1) (v := 2) (ci := 6) (C := RX6) (T := TX6) (N := 8) hx hb hts hown (by decide) rfl rfl rfl (by decide) kw_50 rfl tyX6 tyX6_ok nmX6 iv_cX6 rfl hin2 rfl rfl rfl hw dX6_init_43 (fun H1 locs1 hw => ?_)
  refine lv_aload_n hx hb dX6_init_46 rfl (lv_at hl 0 rfl) ?_
  refine ic_new (base := base) (n := 3) (ci := 0) (C := RX0) (T := TX0) (N := 6) hx hb hts hA hown rfl rfl kw_51 kw_52 kw_53 tyX0 tyX0_ok iv_cX0 dfX0 (by simp [iv_u, hσ]) (by simp [ic_r, hρ]) (by omega) (Or.inl (by decide)) ha (by decide) hw (Nat.le_of_ble_eq_true rfl) (Nat.le_of_ble_eq_true rfl) dX6_init_47 (fun H1 hw => ?_)
  refine lv_dup hx hb dX6_init_50 rfl ?_
  refine ic_ctor (base := base) (n := 4) hx hb hml hown hts hA (mk_X0_3 ha (fun k hk => by simp [ic_r, hρ, show 0 ≤ k by omega, show k ≠ 0 by omega]) (fun k hk => by simp [iv_u, hσ, show 0 ≤ k by omega, show k ≠ 1 by omega])) rfl rfl kw_54 kw_55 (Or.inr (List.mem_of_getElem? (i := 0) rfl)) kw_56 (by decide +kernel) ⟨Nat.le_of_ble_eq_true rfl, Nat.le_of_ble_eq_true rfl⟩ ⟨Nat.le_of_ble_eq_true rfl, Nat.le_of_ble_eq_true rfl⟩ hl.1 (Nat.le_of_ble_eq_true rfl) rfl (by omega) (Or.inl (by decide)) ha (by decide) hw dX6_init_51 (fun H1 locs1 hw => ?_)
  refine ic_put (q := 0) (j := 2) (v := 3) (ci := 6) (C := RX6) (T := TX6) (N := 8) hx hb hts hown (by decide) rfl rfl rfl (by decide) kw_57 rfl tyX6 tyX6_ok nmX6 iv_cX6 rfl hin2 rfl rfl rfl hw dX6_init_54 (fun H1 locs1 hw => ?_)
  refine lv_aload_n hx hb dX6_init_57 rfl (lv_at hl 0 rfl) ?_
  refine ic_new (base := base) (n := 12) (ci := 3) (C := RX3) (T := TX3) (N := 6) hx hb hts hA hown rfl rfl kw_58 kw_59 kw_60 tyX3 tyX3_ok iv_cX3 dfX3 (by simp [iv_u, hσ]) (by simp [ic_r, hρ]) (by omega) (Or.inl (by decide)) ha (by decide) hw (Nat.le_of_ble_eq_true rfl) (Nat.le_of_ble_eq_true rfl) dX6_init_58 (fun H1 hw => ?_)
  refine lv_dup hx hb dX6_init_61 rfl ?_
  refine ic_ctor (base := base) (n := 13) hx hb hml hown hts hA (mk_X3_12 ha (fun k hk => by simp [ic_r, hρ, show 0 ≤ k by omega, show k ≠ 0 by omega, show k ≠ 3 by omega, show k ≠ 4 by omega]) (fun k hk => by simp [iv_u, hσ, show 0 ≤ k by omega, show k ≠ 1 by omega])) rfl rfl kw_61 kw_62 (Or.inr (List.mem_of_getElem? (i := 1) rfl)) kw_63 (by decide +kernel) ⟨Nat.le_of_ble_eq_true rfl, Nat.le_of_ble_eq_true rfl⟩ ⟨Nat.le_of_ble_eq_true rfl, Nat.le_of_ble_eq_true rfl⟩ hl.1 (Nat.le_of_ble_eq_true rfl) rfl (by omega) (Or.inl (by decide)) ha (by decide) hw dX6_init_62 (fun H1 locs1 hw => ?_)
  refine ic_put (q := 0) (j := 3) (v := 12) (ci := 6) (C := RX6) (T := TX6) (N := 8) hx hb hts hown (by decide) rfl rfl rfl (by decide) kw_64 rfl tyX6 tyX6_ok nmX6 iv_cX6 rfl hin2 rfl rfl rfl hw dX6_init_65 (fun H1 locs1 hw => ?_)
  refine lv_aload_n hx hb dX6_init_68 rfl (lv_at hl 0 rfl) ?_
  refine ic_new (base := base) (n := 18) (ci := 1) (C := RX1) (T := TX1) (N := 7) hx hb hts hA hown rfl rfl kw_65 kw_66 kw_67 tyX1 tyX1_ok iv_cX1 dfX1 (by simp [iv_u, hσ]) (by simp [ic_r, hρ]) (by omega) (Or.inl (by decide)) ha (by decide) hw (Nat.le_of_ble_eq_true rfl) (Nat.le_of_ble_eq_true rfl) dX6_init_69 (fun H1 hw => ?_)
  refine lv_dup hx hb dX6_init_72 rfl ?_
  refine ic_ctor (base := base) (n := 19) hx hb hml hown hts hA (mk_X1_18 ha (fun k hk => by simp [ic_r, hρ, show 0 ≤ k by omega, show k ≠ 0 by omega, show k ≠ 3 by omega, show k ≠ 4 by omega, show k ≠ 12 by omega]) (fun k hk => by simp [iv_u, hσ, show 0 ≤ k by omega, show k ≠ 1 by omega])) rfl rfl kw_68 kw_69 (Or.inr (List.mem_of_getElem? (i := 2) rfl)) kw_70 (by decide +kernel) ⟨Nat.le_of_ble_eq_true rfl, Nat.le_of_ble_eq_true rfl⟩ ⟨Nat.le_of_ble_eq_true rfl, Nat.le_of_ble_eq_true rfl⟩ hl.1 (Nat.le_of_ble_eq_true rfl) rfl (by omega) (Or.inl (by decide)) ha (by decide) hw dX6_init_73 (fun H1 locs1 hw => ?_)
  refine ic_put (q := 0) (j := 4) (v := 18) (ci := 6) (C := RX6) (T := TX6) (N := 8) hx hb hts hown (by decide) rfl rfl rfl (by decide) kw_71 rfl tyX6 tyX6_ok nmX6 iv_cX6 rfl hin2 rfl rfl rfl hw dX6_init_76 (fun H1 locs1 hw => ?_)
  refine lv_aload_n hx hb dX6_init_79 rfl (lv_at hl 0 rfl) ?_
  refine ic_new (base := base) (n := 24) (ci := 5) (C := RX5) (T := TX5) (N := 8) hx hb hts hA hown rfl rfl kw_72 kw_73 kw_74 tyX5 tyX5_ok iv_cX5 dfX5 (by simp [iv_u, hσ]) (by simp [ic_r, hρ]) (by omega) (Or.inl (by decide)) ha (by decide) hw (Nat.le_of_ble_eq_true rfl) (Nat.le_of_ble_eq_true rfl) dX6_init_80 (fun H1 hw => ?_)
  refine lv_dup hx hb dX6_init_83 rfl ?_
  refine ic_ctor (base := base) (n := 25) hx hb hml hown hts hA (mk_X5_24 ha (fun k hk => by simp [ic_r, hρ, show 0 ≤ k by omega, show k ≠ 0 by omega, show k ≠ 3 by omega, show k ≠ 4 by omega, show k ≠ 12 by omega, show k ≠ 18 by omega]) (fun k hk => by simp [iv_u, hσ, show 0 ≤ k by omega, show k ≠ 1 by omega])) rfl rfl kw_75 kw_76 (Or.inr (List.mem_of_getElem? (i := 3) rfl)) kw_77 (by decide +kernel) ⟨Nat.le_of_ble_eq_true rfl, Nat.le_of_ble_eq_true rfl⟩ ⟨Nat.le_of_ble_eq_true rfl, Nat.le_of_ble_eq_true rfl⟩ hl.1 (Nat.le_of_ble_eq_true rfl) rfl (by omega) (Or.inl (by decide)) ha (by decide) hw dX6_init_84 (fun H1 locs1 hw => ?_)
  refine ic_put (q := 0) (j := 5) (v := 24) (ci := 6) (C := RX6) (T := TX6) (N := 8) hx hb hts hown (by decide) rfl rfl rfl (by decide) kw_78 rfl tyX6 tyX6_ok nmX6 iv_cX6 rfl hin2 rfl rfl rfl hw dX6_init_87 (fun H1 locs1 hw => ?_)
  refine lv_aload_n hx hb dX6_init_90 rfl (lv_at hl 0 rfl) ?_
  refine ic_new (base := base) (n := 29) (ci := 2) (C := RX2) (T := TX2) (N := 4) hx hb hts hA hown rfl rfl kw_79 kw_80 kw_81 tyX2 tyX2_ok iv_cX2 dfX2 (by simp [iv_u, hσ]) (by simp [ic_r, hρ]) (by omega) (Or.inl (by decide)) ha (by decide) hw (Nat.le_of_ble_eq_true rfl) (Nat.le_of_ble_eq_true rfl) dX6_init_91 (fun H1 hw => ?_)
  refine lv_dup hx hb dX6_init_94 rfl ?_
  refine ic_ctor (base := base) (n := 30) hx hb hml hown hts hA (mk_X2_29 ha (fun k hk => by simp [ic_r, hρ, show 0 ≤ k by omega, show k ≠ 0 by omega, show k ≠ 3 by omega, show k ≠ 4 by omega, show k ≠ 12 by omega, show k ≠ 18 by omega, show k ≠ 24 by omega]) (fun k hk => by simp [iv_u, hσ, show 0 ≤ k by omega, show k ≠ 1 by omega])) rfl rfl kw_82 kw_83 (Or.inr (List.mem_of_getElem? (i := 4) rfl)) kw_84 (by decide +kernel) ⟨Nat.le_of_ble_eq_true rfl, Nat.le_of_ble_eq_true rfl⟩ ⟨Nat.le_of_ble_eq_true rfl, Nat.le_of_ble_eq_true rfl⟩ hl.1 (Nat.le_of_ble_eq_true rfl) rfl (by omega) (Or.inl (by decide)) ha (by decide) hw dX6_init_95 (fun H1 locs1 hw => ?_)
  refine ic_put (q := 0) (j := 6) (v := 29) (ci := 6) (C := RX6) (T := TX6) (N := 8) hx hb hts hown (by decide) rfl rfl rfl (by decide) kw_85 rfl tyX6 tyX6_ok nmX6 iv_cX6 rfl hin2 rfl rfl rfl hw dX6_init_98 (fun H1 locs1 hw => ?_)
  refine lv_aload_n hx hb dX6_init_101 rfl (lv_at hl 0 rfl) ?_
  refine ic_get (q := 0) (j := 1) (v := 2) (ci := 6) (C := RX6) (T := TX6) (N := 8) hx hb hts hown (by decide) rfl rfl (by simp [ic_r]) rfl (by decide) kw_50 rfl iv_cX6 hw dX6_init_102 ?_
  refine lv_bipush (v := 10) hx hb dX6_init_105 (by decide) ?_
  refine ic_stat (base := base) (n := 37) hx hb hml hown hts hA (mk_fill (by decide)) rfl kw_86 kw_87 kw_88 kw_89 (by decide +kernel) ⟨Nat.le_of_ble_eq_true rfl, Nat.le_of_ble_eq_true rfl⟩ ⟨Nat.le_of_ble_eq_true rfl, Nat.le_of_ble_eq_true rfl⟩ hl.1 (Nat.le_of_ble_eq_true rfl) rfl (by omega) (Or.inl (by decide)) ha (by decide) hw dX6_init_107 (fun H1 locs1 hw => ?_)
  exact W.vret hx hb hr (fun t ht hW => ⟨⟨rfl, by rw [ht]; exact hw.2.1, va_K.moved hW.alike hw.1, hw.2.2.1⟩, hw.2.2.2.1.F ht⟩) hw.2.2.2.1.2.2 dX6_init_110 B.notSynchronized
set_option maxHeartbeats 4000000 in
set_option maxRecDepth 100000 in
theorem mk_X7_37 {X : iv_X} {base : Nat} (ha : ∀ k, k < 57 → X.2.2.1 k = base + k) {ρ : ic_R} {σ : iv_S} (hρ : ∀ k, 37 ≤ k → ρ k = fun _ => false) (hσ : ∀ k, 37 ≤ k → σ k = fun _ => 0) : ic_Ct X base mX7_init 2 [.inl 37] 38 ρ σ 57 (ic_r (ic_r (ic_r (ic_r (ic_r (ic_r (ic_r (ic_r (ic_r (ic_r (ic_r (ic_r (ic_r (ic_r (ic_r (ic_r (ic_r (ic_r (ic_r ρ 37 0) 37 2) 37 3) 37 4) 37 5) 37 7) 37 8) 37 10) 37 12) 37 14) 37 16) 37 17) 37 19) 37 20) 37 24) 37 25) 37 26) 37 27) 37 28) (ic_fill7 (iv_u (iv_u (iv_u (iv_u (iv_u σ 43 0 2000) 43 1 80) 43 2 1000) 43 3 25) 43 4 10)) 19 3691 := by
  refine iv_ofW (cc := cX7_init) (maxL := 2) (ret := none) (plainFor_of_name (by decide)) rfl ?_
  intro p e s m args below meth c s₁ B hml hv
  obtain ⟨rfl, hsz, hP, hK, hD0, hN⟩ := hv
  have hx := B.exec
  have hb := B.bytes
  have hr := B.returns
  have hts := atoms_spec (ws := .code yX7_init cX7_init 2 none :: iv_g) B.pre
  have hg := fun w h => hts w (List.mem_cons_of_mem _ h)
  have hown : s.vm.findClass RX7 = some m.cls := findClass_of_methodNamed B.named
  have hin2 : meth.name = "<init>" := (name_of_methodNamed B.named B.method).1
  have hA : ∀ q : Nat, s.heap.size ≤ q → ic_A X base 38 ρ σ q := fun q h => Or.inr (by omega)
  have hw : ic_Wo X 38 ρ σ (ic_A X base 38 ρ σ) s s.heap [] := ⟨hK, hP, hD0.self, va_S.rf, hN⟩
  have hl := lv_entry ([.ref (X.2.2.1 37)]) (n := 2) (Nat.le_of_ble_eq_true rfl)
  show W _ _ _ _ _ _ _ _ _ _ _ _ _ _ _ (entryFrame m ([.ref (X.2.2.1 37)] : List Value).toArray 2)
  rw [lg_entry_eq]
  generalize (lg_sl ([.ref (X.2.2.1 37)]) ++ List.replicate (2 - (lg_sl ([.ref (X.2.2.1 37)])).length) Slot.unset).toArray = ls at hl ⊢
  have hl : lv_has ls 2 [(0, .ref (X.2.2.1 37))] := hl
  refine lv_aload_n hx hb dX7_init_0 rfl (lv_at hl 0 rfl) ?_
  refine W.objInit hx hb hown (hg _ kw_90) (hg _ kw_1) (hg _ kw_2) rfl (by rw [hml]; exact hl.1) rfl dX7_init_1 (Nat.le_of_ble_eq_true rfl) (Nat.le_of_ble_eq_true rfl) ?_
  refine W.eq (g2 := F0 m 4 ls []) rfl ?_
  refine lv_aload_n hx hb dX7_init_4 rfl (lv_at hl 0 rfl) ?_
  refine lv_bipush (v := 42) hx hb dX7_init_5 (by decide) ?_
  refine ic_newarr (base := base) (n := 38) hx hb hts hA (z := false) (N := 42) rfl kw_7 rfl (by decide) (by simp [iv_u, hσ]) (by omega) (Or.inl (by decide)) ha (by decide) hw (Nat.le_of_ble_eq_true rfl) (Nat.le_of_ble_eq_true rfl) (by decide) dX7_init_7 (fun H1 hw => ?_)
  refine ic_put (q := 37) (j := 0) (v := 38) (ci := 7) (C := RX7) (T := TX7) (N := 30) hx hb hts hown (by decide) rfl rfl rfl (by decide) kw_91 rfl tyX7 tyX7_ok nmX7 iv_cX7 rfl hin2 rfl rfl rfl hw dX7_init_9 (fun H1 locs1 hw => ?_)
  refine lv_aload_n hx hb dX7_init_12 rfl (lv_at hl 0 rfl) ?_
  refine lv_bipush (v := 30) hx hb dX7_init_13 (by decide) ?_
  refine ic_newarr (base := base) (n := 39) hx hb hts hA (z := false) (N := 30) rfl kw_7 rfl (by decide) (by simp [iv_u, hσ]) (by omega) (Or.inl (by decide)) ha (by decide) hw (Nat.le_of_ble_eq_true rfl) (Nat.le_of_ble_eq_true rfl) (by decide) dX7_init_15 (fun H1 hw => ?_)
  refine ic_put (q := 37) (j := 2) (v := 39) (ci := 7) (C := RX7) (T := TX7) (N := 30) hx hb hts hown (by decide) rfl rfl rfl (by decide) kw_92 rfl tyX7 tyX7_ok nmX7 iv_cX7 rfl hin2 rfl rfl rfl hw dX7_init_17 (fun H1 locs1 hw => ?_)
  refine lv_aload_n hx hb dX7_init_20 rfl (lv_at hl 0 rfl) ?_
  refine lv_bipush (v := 30) hx hb dX7_init_21 (by decide) ?_
  refine ic_newarr (base := base) (n := 40) hx hb hts hA (z := false) (N := 30) rfl kw_7 rfl (by decide) (by simp [iv_u, hσ]) (by omega) (Or.inl (by decide)) ha (by decide) hw (Nat.le_of_ble_eq_true rfl) (Nat.le_of_ble_eq_true rfl) (by decide) dX7_init_23 (fun H1 hw => ?_)
  refine ic_put (q := 37) (j := 3) (v := 40) (ci := 7) (C := RX7) (T := TX7) (N := 30) hx hb hts hown (by decide) rfl rfl rfl (by decide) kw_93 rfl tyX7 tyX7_ok nmX7 iv_cX7 rfl hin2 rfl rfl rfl hw dX7_init_25 (fun H1 locs1 hw => ?_)
  refine lv_aload_n hx hb dX7_init_28 rfl (lv_at hl 0 rfl) ?_
  refine lv_bipush (v := 30) hx hb dX7_init_29 (by decide) ?_
  refine ic_newarr (base := base) (n := 41) hx hb hts hA (z := false) (N := 30) rfl kw_7 rfl (by decide) (by simp [iv_u, hσ]) (by omega) (Or.inl (by decide)) ha (by decide) hw (Nat.le_of_ble_eq_true rfl) (Nat.le_of_ble_eq_true rfl) (by decide) dX7_init_31 (fun H1 hw => ?_)
  refine ic_put (q := 37) (j := 4) (v := 41) (ci := 7) (C := RX7) (T := TX7) (N := 30) hx hb hts hown (by decide) rfl rfl rfl (by decide) kw_94 rfl tyX7 tyX7_ok nmX7 iv_cX7 rfl hin2 rfl rfl rfl hw dX7_init_33 (fun H1 locs1 hw => ?_)
  refine lv_aload_n hx hb dX7_init_36 rfl (lv_at hl 0 rfl) ?_
  refine lv_bipush (v := 30) hx hb dX7_init_37 (by decide) ?_
  refine ic_newarr (base := base) (n := 42) hx hb hts hA (z := true) (N := 30) rfl kw_27 rfl (by decide) (by simp [iv_u, hσ]) (by omega) (Or.inl (by decide)) ha (by decide) hw (Nat.le_of_ble_eq_true rfl) (Nat.le_of_ble_eq_true rfl) (by decide) dX7_init_39 (fun H1 hw => ?_)
  refine ic_put (q := 37) (j := 5) (v := 42) (ci := 7) (C := RX7) (T := TX7) (N := 30) hx hb hts hown (by decide) rfl rfl rfl (by decide) kw_95 rfl tyX7 tyX7_ok nmX7 iv_cX7 rfl hin2 rfl rfl rfl hw dX7_init_41 (fun H1 locs1 hw => ?_)
  refine lv_aload_n hx hb dX7_init_44 rfl (lv_at hl 0 rfl) ?_
  refine lv_iconst (v := 5) hx hb dX7_init_45 (by decide) ?_
  refine ic_newarr (base := base) (n := 43) hx hb hts hA (z := false) (N := 5) rfl kw_7 rfl (by decide) (by simp [iv_u, hσ]) (by omega) (Or.inl (by decide)) ha (by decide) hw (Nat.le_of_ble_eq_true rfl) (Nat.le_of_ble_eq_true rfl) (by decide) dX7_init_46 (fun H1 hw => ?_)
  refine lv_dup hx hb dX7_init_48 rfl ?_
  refine lv_iconst (v := 0) hx hb dX7_init_49 (by decide) ?_
  refine lv_sipush (v := 2000) hx hb dX7_init_50 (by decide) ?_
  refine ic_iast (q := 43) hx hb (by decide) rfl (z_in (j := 0) (by decide) (by decide)) hw dX7_init_53 (fun H1 locs1 hw => ?_)
  rw [ie_cl0] at hw
  refine lv_dup hx hb dX7_init_54 rfl ?_
  refine lv_iconst (v := 1) hx hb dX7_init_55 (by decide) ?_
  refine lv_bipush (v := 80) hx hb dX7_init_56 (by decide) ?_
  refine ic_iast (q := 43) hx hb (by decide) rfl (z_in (j := 1) (by decide) (by decide)) hw dX7_init_58 (fun H1 locs1 hw => ?_)
  rw [ie_cl1] at hw
  refine lv_dup hx hb dX7_init_59 rfl ?_
  refine lv_iconst (v := 2) hx hb dX7_init_60 (by decide) ?_
  refine lv_sipush (v := 1000) hx hb dX7_init_61 (by decide) ?_
  refine ic_iast (q := 43) hx hb (by decide) rfl (z_in (j := 2) (by decide) (by decide)) hw dX7_init_64 (fun H1 locs1 hw => ?_)
  rw [ie_cl2] at hw
  refine lv_dup hx hb dX7_init_65 rfl ?_
  refine lv_iconst (v := 3) hx hb dX7_init_66 (by decide) ?_
  refine lv_bipush (v := 25) hx hb dX7_init_67 (by decide) ?_
  refine ic_iast (q := 43) hx hb (by decide) rfl (z_in (j := 3) (by decide) (by decide)) hw dX7_init_69 (fun H1 locs1 hw => ?_)
  rw [ie_cl3] at hw
  refine lv_dup hx hb dX7_init_70 rfl ?_
  refine lv_iconst (v := 4) hx hb dX7_init_71 (by decide) ?_
  refine lv_bipush (v := 10) hx hb dX7_init_72 (by decide) ?_
  refine ic_iast (q := 43) hx hb (by decide) rfl (z_in (j := 4) (by decide) (by decide)) hw dX7_init_74 (fun H1 locs1 hw => ?_)
  rw [ie_cl4] at hw
  refine ic_put (q := 37) (j := 7) (v := 43) (ci := 7) (C := RX7) (T := TX7) (N := 30) hx hb hts hown (by decide) rfl rfl rfl (by decide) kw_96 rfl tyX7 tyX7_ok nmX7 iv_cX7 rfl hin2 rfl rfl rfl hw dX7_init_75 (fun H1 locs1 hw => ?_)
  refine lv_aload_n hx hb dX7_init_78 rfl (lv_at hl 0 rfl) ?_
  refine lv_bipush (v := 24) hx hb dX7_init_79 (by decide) ?_
  refine ic_newarr (base := base) (n := 44) hx hb hts hA (z := false) (N := 24) rfl kw_7 rfl (by decide) (by simp [iv_u, hσ]) (by omega) (Or.inl (by decide)) ha (by decide) hw (Nat.le_of_ble_eq_true rfl) (Nat.le_of_ble_eq_true rfl) (by decide) dX7_init_81 (fun H1 hw => ?_)
  refine ic_put (q := 37) (j := 8) (v := 44) (ci := 7) (C := RX7) (T := TX7) (N := 30) hx hb hts hown (by decide) rfl rfl rfl (by decide) kw_97 rfl tyX7 tyX7_ok nmX7 iv_cX7 rfl hin2 rfl rfl rfl hw dX7_init_83 (fun H1 locs1 hw => ?_)
  refine lv_aload_n hx hb dX7_init_86 rfl (lv_at hl 0 rfl) ?_
  refine lv_bipush (v := 12) hx hb dX7_init_87 (by decide) ?_
  refine ic_newarr (base := base) (n := 45) hx hb hts hA (z := false) (N := 12) rfl kw_7 rfl (by decide) (by simp [iv_u, hσ]) (by omega) (Or.inl (by decide)) ha (by decide) hw (Nat.le_of_ble_eq_true rfl) (Nat.le_of_ble_eq_true rfl) (by decide) dX7_init_89 (fun H1 hw => ?_)
  refine ic_put (q := 37) (j := 10) (v := 45) (ci := 7) (C := RX7) (T := TX7) (N := 30) hx hb hts hown (by decide) rfl rfl rfl (by decide) kw_98 rfl tyX7 tyX7_ok nmX7 iv_cX7 rfl hin2 rfl rfl rfl hw dX7_init_91 (fun H1 locs1 hw => ?_)
  refine lv_aload_n hx hb dX7_init_94 rfl (lv_at hl 0 rfl) ?_
  refine lv_bipush (v := 12) hx hb dX7_init_95 (by decide) ?_
  refine ic_newarr (base := base) (n := 46) hx hb hts hA (z := false) (N := 12) rfl kw_7 rfl (by decide) (by simp [iv_u, hσ]) (by omega) (Or.inl (by decide)) ha (by decide) hw (Nat.le_of_ble_eq_true rfl) (Nat.le_of_ble_eq_true rfl) (by decide) dX7_init_97 (fun H1 hw => ?_)
  refine ic_put (q := 37) (j := 12) (v := 46) (ci := 7) (C := RX7) (T := TX7) (N := 30) hx hb hts hown (by decide) rfl rfl rfl (by decide) kw_99 rfl tyX7 tyX7_ok nmX7 iv_cX7 rfl hin2 rfl rfl rfl hw dX7_init_99 (fun H1 locs1 hw => ?_)
  refine lv_aload_n hx hb dX7_init_102 rfl (lv_at hl 0 rfl) ?_
  refine lv_bipush (v := 6) hx hb dX7_init_103 (by decide) ?_
  refine ic_newarr (base := base) (n := 47) hx hb hts hA (z := false) (N := 6) rfl kw_7 rfl (by decide) (by simp [iv_u, hσ]) (by omega) (Or.inl (by decide)) ha (by decide) hw (Nat.le_of_ble_eq_true rfl) (Nat.le_of_ble_eq_true rfl) (by decide) dX7_init_105 (fun H1 hw => ?_)
  refine ic_put (q := 37) (j := 14) (v := 47) (ci := 7) (C := RX7) (T := TX7) (N := 30) hx hb hts hown (by decide) rfl rfl rfl (by decide) kw_100 rfl tyX7 tyX7_ok nmX7 iv_cX7 rfl hin2 rfl rfl rfl hw dX7_init_107 (fun H1 locs1 hw => ?_)
  refine lv_aload_n hx hb dX7_init_110 rfl (lv_at hl 0 rfl) ?_
  refine lv_bipush (v := 12) hx hb dX7_init_111 (by decide) ?_
  refine ic_newarr (base := base) (n := 48) hx hb hts hA (z := false) (N := 12) rfl kw_7 rfl (by decide) (by simp [iv_u, hσ]) (by omega) (Or.inl (by decide)) ha (by decide) hw (Nat.le_of_ble_eq_true rfl) (Nat.le_of_ble_eq_true rfl) (by decide) dX7_init_113 (fun H1 hw => ?_)
  refine ic_put (q := 37) (j := 16) (v := 48) (ci := 7) (C := RX7) (T := TX7) (N := 30) hx hb hts hown (by decide) rfl rfl rfl (by decide) kw_101 rfl tyX7 tyX7_ok nmX7 iv_cX7 rfl hin2 rfl rfl rfl hw dX7_init_115 (fun H1 locs1 hw => ?_)
  refine lv_aload_n hx hb dX7_init_118 rfl (lv_at hl 0 rfl) ?_
  refine lv_bipush (v := 12) hx hb dX7_init_119 (by decide) ?_
  refine ic_newarr (base := base) (n := 49) hx hb hts hA (z := false) (N := 12) rfl kw_7 rfl (by decide) (by simp [iv_u, hσ]) (by omega) (Or.inl (by decide)) ha (by decide) hw (Nat.le_of_ble_eq_true rfl) (Nat.le_of_ble_eq_true rfl) (by decide) dX7_init_121 (fun H1 hw => ?_)
  refine ic_put (q := 37) (j := 17) (v := 49) (ci := 7) (C := RX7) (T := TX7) (N := 30) hx hb hts hown (by decide) rfl rfl rfl (by decide) kw_102 rfl tyX7 tyX7_ok nmX7 iv_cX7 rfl hin2 rfl rfl rfl hw dX7_init_123 (fun H1 locs1 hw => ?_)
  refine lv_aload_n hx hb dX7_init_126 rfl (lv_at hl 0 rfl) ?_
  refine lv_bipush (v := 8) hx hb dX7_init_127 (by decide) ?_
  refine ic_newarr (base := base) (n := 50) hx hb hts hA (z := false) (N := 8) rfl kw_7 rfl (by decide) (by simp [iv_u, hσ]) (by omega) (Or.inl (by decide)) ha (by decide) hw (Nat.le_of_ble_eq_true rfl) (Nat.le_of_ble_eq_true rfl) (by decide) dX7_init_129 (fun H1 hw => ?_)
  refine ic_put (q := 37) (j := 19) (v := 50) (ci := 7) (C := RX7) (T := TX7) (N := 30) hx hb hts hown (by decide) rfl rfl rfl (by decide) kw_103 rfl tyX7 tyX7_ok nmX7 iv_cX7 rfl hin2 rfl rfl rfl hw dX7_init_131 (fun H1 locs1 hw => ?_)
  refine lv_aload_n hx hb dX7_init_134 rfl (lv_at hl 0 rfl) ?_
  refine lv_bipush (v := 8) hx hb dX7_init_135 (by decide) ?_
  refine ic_newarr (base := base) (n := 51) hx hb hts hA (z := false) (N := 8) rfl kw_7 rfl (by decide) (by simp [iv_u, hσ]) (by omega) (Or.inl (by decide)) ha (by decide) hw (Nat.le_of_ble_eq_true rfl) (Nat.le_of_ble_eq_true rfl) (by decide) dX7_init_137 (fun H1 hw => ?_)
  refine ic_put (q := 37) (j := 20) (v := 51) (ci := 7) (C := RX7) (T := TX7) (N := 30) hx hb hts hown (by decide) rfl rfl rfl (by decide) kw_104 rfl tyX7 tyX7_ok nmX7 iv_cX7 rfl hin2 rfl rfl rfl hw dX7_init_139 (fun H1 locs1 hw => ?_)
  refine lv_aload_n hx hb dX7_init_142 rfl (lv_at hl 0 rfl) ?_
  refine lv_bipush (v := 30) hx hb dX7_init_143 (by decide) ?_
  refine ic_newarr (base := base) (n := 52) hx hb hts hA (z := true) (N := 30) rfl kw_27 rfl (by decide) (by simp [iv_u, hσ]) (by omega) (Or.inl (by decide)) ha (by decide) hw (Nat.le_of_ble_eq_true rfl) (Nat.le_of_ble_eq_true rfl) (by decide) dX7_init_145 (fun H1 hw => ?_)
  refine ic_put (q := 37) (j := 24) (v := 52) (ci := 7) (C := RX7) (T := TX7) (N := 30) hx hb hts hown (by decide) rfl rfl rfl (by decide) kw_105 rfl tyX7 tyX7_ok nmX7 iv_cX7 rfl hin2 rfl rfl rfl hw dX7_init_147 (fun H1 locs1 hw => ?_)
  refine lv_aload_n hx hb dX7_init_150 rfl (lv_at hl 0 rfl) ?_
  refine lv_bipush (v := 8) hx hb dX7_init_151 (by decide) ?_
  refine ic_newarr (base := base) (n := 53) hx hb hts hA (z := false) (N := 8) rfl kw_7 rfl (by decide) (by simp [iv_u, hσ]) (by omega) (Or.inl (by decide)) ha (by decide) hw (Nat.le_of_ble_eq_true rfl) (Nat.le_of_ble_eq_true rfl) (by decide) dX7_init_153 (fun H1 hw => ?_)
  refine ic_put (q := 37) (j := 25) (v := 53) (ci := 7) (C := RX7) (T := TX7) (N := 30) hx hb hts hown (by decide) rfl rfl rfl (by decide) kw_106 rfl tyX7 tyX7_ok nmX7 iv_cX7 rfl hin2 rfl rfl rfl hw dX7_init_155 (fun H1 locs1 hw => ?_)
  refine lv_aload_n hx hb dX7_init_158 rfl (lv_at hl 0 rfl) ?_
  refine lv_sipush (v := 3380) hx hb dX7_init_159 (by decide) ?_
  refine ic_newarr (base := base) (n := 54) hx hb hts hA (z := false) (N := 3380) rfl kw_7 rfl (by decide) (by simp [iv_u, hσ]) (by omega) (Or.inl (by decide)) ha (by decide) hw (Nat.le_of_ble_eq_true rfl) (Nat.le_of_ble_eq_true rfl) (by decide) dX7_init_162 (fun H1 hw => ?_)
  refine ic_put (q := 37) (j := 26) (v := 54) (ci := 7) (C := RX7) (T := TX7) (N := 30) hx hb hts hown (by decide) rfl rfl rfl (by decide) kw_107 rfl tyX7 tyX7_ok nmX7 iv_cX7 rfl hin2 rfl rfl rfl hw dX7_init_164 (fun H1 locs1 hw => ?_)
  refine lv_aload_n hx hb dX7_init_167 rfl (lv_at hl 0 rfl) ?_
  refine lv_bipush (v := 6) hx hb dX7_init_168 (by decide) ?_
  refine ic_newarr (base := base) (n := 55) hx hb hts hA (z := false) (N := 6) rfl kw_7 rfl (by decide) (by simp [iv_u, hσ]) (by omega) (Or.inl (by decide)) ha (by decide) hw (Nat.le_of_ble_eq_true rfl) (Nat.le_of_ble_eq_true rfl) (by decide) dX7_init_170 (fun H1 hw => ?_)
  refine ic_put (q := 37) (j := 27) (v := 55) (ci := 7) (C := RX7) (T := TX7) (N := 30) hx hb hts hown (by decide) rfl rfl rfl (by decide) kw_108 rfl tyX7 tyX7_ok nmX7 iv_cX7 rfl hin2 rfl rfl rfl hw dX7_init_172 (fun H1 locs1 hw => ?_)
  refine lv_aload_n hx hb dX7_init_175 rfl (lv_at hl 0 rfl) ?_
  refine lv_bipush (v := 6) hx hb dX7_init_176 (by decide) ?_
  refine ic_newarr (base := base) (n := 56) hx hb hts hA (z := false) (N := 6) rfl kw_7 rfl (by decide) (by simp [iv_u, hσ]) (by omega) (Or.inl (by decide)) ha (by decide) hw (Nat.le_of_ble_eq_true rfl) (Nat.le_of_ble_eq_true rfl) (by decide) dX7_init_178 (fun H1 hw => ?_)
  refine ic_put (q := 37) (j := 28) (v := 56) (ci := 7) (C := RX7) (T := TX7) (N := 30) hx hb hts hown (by decide) rfl rfl rfl (by decide) kw_109 rfl tyX7 tyX7_ok nmX7 iv_cX7 rfl hin2 rfl rfl rfl hw dX7_init_180 (fun H1 locs1 hw => ?_)
  refine mk_fl7 hx hb hts hown (by simp [ic_r]) hw hl (fun H1 locs1 ls1 hw => ?_)
  exact W.vret hx hb hr (fun t ht hW => ⟨⟨rfl, by rw [ht]; exact hw.2.1, va_K.moved hW.alike hw.1, hw.2.2.1⟩, hw.2.2.2.1.F ht⟩) hw.2.2.2.1.2.2 dX7_init_205 B.notSynchronized
