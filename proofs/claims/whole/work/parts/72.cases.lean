theorem lk_0 : Cond.code mX6_cabinet.1 mX6_cabinet.2.1 mX6_cabinet.2.2.1 mX6_cabinet.2.2.2 ∈ iv_g := iv_g_in (List.mem_of_getElem? (i := 266) (by decide +kernel)) (by decide +kernel)
theorem lk_1 : Cond.initialized mX6_cabinet.1.cls ∈ iv_g := iv_g_in (List.mem_of_getElem? (i := 33) (by decide +kernel)) (by decide +kernel)
theorem lk_2 : Cond.instanceMethod mX6_cabinet.1 ∈ iv_g := iv_g_in (List.mem_of_getElem? (i := 264) (by decide +kernel)) (by decide +kernel)
theorem lk_3 : Cond.selects mX6_cabinet.1.cls mX6_cabinet.1 mX6_cabinet.1 ∈ iv_g := iv_g_in (List.mem_of_getElem? (i := 265) (by decide +kernel)) (by decide +kernel)
theorem lk_4 : Cond.methodLink RL 19 mX6_cabinet.1 ∈ iv_g := iv_g_in (List.mem_of_getElem? (i := 263) (by decide +kernel)) (by decide +kernel)
theorem ck_19 : iv_cokB RL 19 6 (some 6) false mX6_cabinet = true := iv_cok_V (own := RL) (idx := 19) (n := 6) (ci := 6) (vd := false) (ym := mX6_cabinet) (by decide) (by decide) (by decide) lk_0 lk_1 (by decide) (by decide +kernel) lk_2 lk_3 lk_4 rfl
theorem lk_6 : Cond.code mX7_cabinet.1 mX7_cabinet.2.1 mX7_cabinet.2.2.1 mX7_cabinet.2.2.2 ∈ iv_g := iv_g_in (List.mem_of_getElem? (i := 719) (by decide +kernel)) (by decide +kernel)
theorem lk_7 : Cond.initialized mX7_cabinet.1.cls ∈ iv_g := iv_g_in (List.mem_of_getElem? (i := 42) (by decide +kernel)) (by decide +kernel)
theorem lk_8 : Cond.instanceMethod mX7_cabinet.1 ∈ iv_g := iv_g_in (List.mem_of_getElem? (i := 717) (by decide +kernel)) (by decide +kernel)
theorem lk_9 : Cond.selects mX7_cabinet.1.cls mX7_cabinet.1 mX7_cabinet.1 ∈ iv_g := iv_g_in (List.mem_of_getElem? (i := 718) (by decide +kernel)) (by decide +kernel)
theorem lk_10 : Cond.methodLink RL 23 mX7_cabinet.1 ∈ iv_g := iv_g_in (List.mem_of_getElem? (i := 716) (by decide +kernel)) (by decide +kernel)
theorem ck_23 : iv_cokB RL 23 6 (some 7) false mX7_cabinet = true := iv_cok_V (own := RL) (idx := 23) (n := 6) (ci := 7) (vd := false) (ym := mX7_cabinet) (by decide) (by decide) (by decide) lk_6 lk_7 (by decide) (by decide +kernel) lk_8 lk_9 lk_10 rfl
theorem lk_12 : Cond.code mX6_pack.1 mX6_pack.2.1 mX6_pack.2.2.1 mX6_pack.2.2.2 ∈ iv_g := iv_g_in (List.mem_of_getElem? (i := 284) (by decide +kernel)) (by decide +kernel)
theorem lk_13 : Cond.initialized mX6_pack.1.cls ∈ iv_g := iv_g_in (List.mem_of_getElem? (i := 33) (by decide +kernel)) (by decide +kernel)
theorem lk_14 : Cond.instanceMethod mX6_pack.1 ∈ iv_g := iv_g_in (List.mem_of_getElem? (i := 282) (by decide +kernel)) (by decide +kernel)
theorem lk_15 : Cond.selects mX6_pack.1.cls mX6_pack.1 mX6_pack.1 ∈ iv_g := iv_g_in (List.mem_of_getElem? (i := 283) (by decide +kernel)) (by decide +kernel)
theorem lk_16 : Cond.methodLink RL 24 mX6_pack.1 ∈ iv_g := iv_g_in (List.mem_of_getElem? (i := 281) (by decide +kernel)) (by decide +kernel)
theorem ck_24 : iv_cokB RL 24 3 (some 6) false mX6_pack = true := iv_cok_V (own := RL) (idx := 24) (n := 3) (ci := 6) (vd := false) (ym := mX6_pack) (by decide) (by decide) (by decide) lk_12 lk_13 (by decide) (by decide +kernel) lk_14 lk_15 lk_16 rfl
theorem lk_18 : Cond.code mX7_pack.1 mX7_pack.2.1 mX7_pack.2.2.1 mX7_pack.2.2.2 ∈ iv_g := iv_g_in (List.mem_of_getElem? (i := 726) (by decide +kernel)) (by decide +kernel)
theorem lk_19 : Cond.initialized mX7_pack.1.cls ∈ iv_g := iv_g_in (List.mem_of_getElem? (i := 42) (by decide +kernel)) (by decide +kernel)
theorem lk_20 : Cond.instanceMethod mX7_pack.1 ∈ iv_g := iv_g_in (List.mem_of_getElem? (i := 724) (by decide +kernel)) (by decide +kernel)
theorem lk_21 : Cond.selects mX7_pack.1.cls mX7_pack.1 mX7_pack.1 ∈ iv_g := iv_g_in (List.mem_of_getElem? (i := 725) (by decide +kernel)) (by decide +kernel)
theorem lk_22 : Cond.methodLink RL 27 mX7_pack.1 ∈ iv_g := iv_g_in (List.mem_of_getElem? (i := 723) (by decide +kernel)) (by decide +kernel)
theorem ck_27 : iv_cokB RL 27 3 (some 7) false mX7_pack = true := iv_cok_V (own := RL) (idx := 27) (n := 3) (ci := 7) (vd := false) (ym := mX7_pack) (by decide) (by decide) (by decide) lk_18 lk_19 (by decide) (by decide +kernel) lk_20 lk_21 lk_22 rfl
theorem lk_24 : Cond.code mX6_set.1 mX6_set.2.1 mX6_set.2.2.1 mX6_set.2.2.2 ∈ iv_g := iv_g_in (List.mem_of_getElem? (i := 305) (by decide +kernel)) (by decide +kernel)
theorem lk_25 : Cond.initialized mX6_set.1.cls ∈ iv_g := iv_g_in (List.mem_of_getElem? (i := 33) (by decide +kernel)) (by decide +kernel)
theorem lk_26 : Cond.instanceMethod mX6_set.1 ∈ iv_g := iv_g_in (List.mem_of_getElem? (i := 303) (by decide +kernel)) (by decide +kernel)
theorem lk_27 : Cond.selects mX6_set.1.cls mX6_set.1 mX6_set.1 ∈ iv_g := iv_g_in (List.mem_of_getElem? (i := 304) (by decide +kernel)) (by decide +kernel)
theorem lk_28 : Cond.methodLink RL 28 mX6_set.1 ∈ iv_g := iv_g_in (List.mem_of_getElem? (i := 302) (by decide +kernel)) (by decide +kernel)
theorem ck_28 : iv_cokB RL 28 3 (some 6) false mX6_set = true := iv_cok_V (own := RL) (idx := 28) (n := 3) (ci := 6) (vd := false) (ym := mX6_set) (by decide) (by decide) (by decide) lk_24 lk_25 (by decide) (by decide +kernel) lk_26 lk_27 lk_28 rfl
theorem lk_30 : Cond.code mX7_set.1 mX7_set.2.1 mX7_set.2.2.1 mX7_set.2.2.2 ∈ iv_g := iv_g_in (List.mem_of_getElem? (i := 742) (by decide +kernel)) (by decide +kernel)
theorem lk_31 : Cond.initialized mX7_set.1.cls ∈ iv_g := iv_g_in (List.mem_of_getElem? (i := 42) (by decide +kernel)) (by decide +kernel)
theorem lk_32 : Cond.instanceMethod mX7_set.1 ∈ iv_g := iv_g_in (List.mem_of_getElem? (i := 740) (by decide +kernel)) (by decide +kernel)
theorem lk_33 : Cond.selects mX7_set.1.cls mX7_set.1 mX7_set.1 ∈ iv_g := iv_g_in (List.mem_of_getElem? (i := 741) (by decide +kernel)) (by decide +kernel)
theorem lk_34 : Cond.methodLink RL 31 mX7_set.1 ∈ iv_g := iv_g_in (List.mem_of_getElem? (i := 739) (by decide +kernel)) (by decide +kernel)
theorem ck_31 : iv_cokB RL 31 3 (some 7) false mX7_set = true := iv_cok_V (own := RL) (idx := 31) (n := 3) (ci := 7) (vd := false) (ym := mX7_set) (by decide) (by decide) (by decide) lk_30 lk_31 (by decide) (by decide +kernel) lk_32 lk_33 lk_34 rfl
theorem lk_36 : Cond.code mX6_price.1 mX6_price.2.1 mX6_price.2.2.1 mX6_price.2.2.2 ∈ iv_g := iv_g_in (List.mem_of_getElem? (i := 313) (by decide +kernel)) (by decide +kernel)
theorem lk_37 : Cond.initialized mX6_price.1.cls ∈ iv_g := iv_g_in (List.mem_of_getElem? (i := 33) (by decide +kernel)) (by decide +kernel)
theorem lk_38 : Cond.instanceMethod mX6_price.1 ∈ iv_g := iv_g_in (List.mem_of_getElem? (i := 311) (by decide +kernel)) (by decide +kernel)
theorem lk_39 : Cond.selects mX6_price.1.cls mX6_price.1 mX6_price.1 ∈ iv_g := iv_g_in (List.mem_of_getElem? (i := 312) (by decide +kernel)) (by decide +kernel)
theorem lk_40 : Cond.methodLink RL 32 mX6_price.1 ∈ iv_g := iv_g_in (List.mem_of_getElem? (i := 310) (by decide +kernel)) (by decide +kernel)
theorem ck_32 : iv_cokB RL 32 3 (some 6) false mX6_price = true := iv_cok_V (own := RL) (idx := 32) (n := 3) (ci := 6) (vd := false) (ym := mX6_price) (by decide) (by decide) (by decide) lk_36 lk_37 (by decide) (by decide +kernel) lk_38 lk_39 lk_40 rfl
theorem lk_42 : Cond.code mX7_price.1 mX7_price.2.1 mX7_price.2.2.1 mX7_price.2.2.2 ∈ iv_g := iv_g_in (List.mem_of_getElem? (i := 753) (by decide +kernel)) (by decide +kernel)
theorem lk_43 : Cond.initialized mX7_price.1.cls ∈ iv_g := iv_g_in (List.mem_of_getElem? (i := 42) (by decide +kernel)) (by decide +kernel)
theorem lk_44 : Cond.instanceMethod mX7_price.1 ∈ iv_g := iv_g_in (List.mem_of_getElem? (i := 751) (by decide +kernel)) (by decide +kernel)
theorem lk_45 : Cond.selects mX7_price.1.cls mX7_price.1 mX7_price.1 ∈ iv_g := iv_g_in (List.mem_of_getElem? (i := 752) (by decide +kernel)) (by decide +kernel)
theorem lk_46 : Cond.methodLink RL 36 mX7_price.1 ∈ iv_g := iv_g_in (List.mem_of_getElem? (i := 750) (by decide +kernel)) (by decide +kernel)
theorem ck_36 : iv_cokB RL 36 3 (some 7) false mX7_price = true := iv_cok_V (own := RL) (idx := 36) (n := 3) (ci := 7) (vd := false) (ym := mX7_price) (by decide) (by decide) (by decide) lk_42 lk_43 (by decide) (by decide +kernel) lk_44 lk_45 lk_46 rfl
theorem lk_48 : Cond.code mX6_sick.1 mX6_sick.2.1 mX6_sick.2.2.1 mX6_sick.2.2.2 ∈ iv_g := iv_g_in (List.mem_of_getElem? (i := 317) (by decide +kernel)) (by decide +kernel)
theorem lk_49 : Cond.initialized mX6_sick.1.cls ∈ iv_g := iv_g_in (List.mem_of_getElem? (i := 33) (by decide +kernel)) (by decide +kernel)
theorem lk_50 : Cond.instanceMethod mX6_sick.1 ∈ iv_g := iv_g_in (List.mem_of_getElem? (i := 315) (by decide +kernel)) (by decide +kernel)
theorem lk_51 : Cond.selects mX6_sick.1.cls mX6_sick.1 mX6_sick.1 ∈ iv_g := iv_g_in (List.mem_of_getElem? (i := 316) (by decide +kernel)) (by decide +kernel)
theorem lk_52 : Cond.methodLink RL 37 mX6_sick.1 ∈ iv_g := iv_g_in (List.mem_of_getElem? (i := 314) (by decide +kernel)) (by decide +kernel)
theorem ck_37 : iv_cokB RL 37 3 (some 6) false mX6_sick = true := iv_cok_V (own := RL) (idx := 37) (n := 3) (ci := 6) (vd := false) (ym := mX6_sick) (by decide) (by decide) (by decide) lk_48 lk_49 (by decide) (by decide +kernel) lk_50 lk_51 lk_52 rfl
theorem lk_54 : Cond.code mX7_sick.1 mX7_sick.2.1 mX7_sick.2.2.1 mX7_sick.2.2.2 ∈ iv_g := iv_g_in (List.mem_of_getElem? (i := 757) (by decide +kernel)) (by decide +kernel)
theorem lk_55 : Cond.initialized mX7_sick.1.cls ∈ iv_g := iv_g_in (List.mem_of_getElem? (i := 42) (by decide +kernel)) (by decide +kernel)
theorem lk_56 : Cond.instanceMethod mX7_sick.1 ∈ iv_g := iv_g_in (List.mem_of_getElem? (i := 755) (by decide +kernel)) (by decide +kernel)
theorem lk_57 : Cond.selects mX7_sick.1.cls mX7_sick.1 mX7_sick.1 ∈ iv_g := iv_g_in (List.mem_of_getElem? (i := 756) (by decide +kernel)) (by decide +kernel)
theorem lk_58 : Cond.methodLink RL 41 mX7_sick.1 ∈ iv_g := iv_g_in (List.mem_of_getElem? (i := 754) (by decide +kernel)) (by decide +kernel)
theorem ck_41 : iv_cokB RL 41 3 (some 7) false mX7_sick = true := iv_cok_V (own := RL) (idx := 41) (n := 3) (ci := 7) (vd := false) (ym := mX7_sick) (by decide) (by decide) (by decide) lk_54 lk_55 (by decide) (by decide +kernel) lk_56 lk_57 lk_58 rfl
theorem lk_60 : Cond.code mX6_take.1 mX6_take.2.1 mX6_take.2.2.1 mX6_take.2.2.2 ∈ iv_g := iv_g_in (List.mem_of_getElem? (i := 326) (by decide +kernel)) (by decide +kernel)
theorem lk_61 : Cond.initialized mX6_take.1.cls ∈ iv_g := iv_g_in (List.mem_of_getElem? (i := 33) (by decide +kernel)) (by decide +kernel)
theorem lk_62 : Cond.instanceMethod mX6_take.1 ∈ iv_g := iv_g_in (List.mem_of_getElem? (i := 324) (by decide +kernel)) (by decide +kernel)
theorem lk_63 : Cond.selects mX6_take.1.cls mX6_take.1 mX6_take.1 ∈ iv_g := iv_g_in (List.mem_of_getElem? (i := 325) (by decide +kernel)) (by decide +kernel)
theorem lk_64 : Cond.methodLink RL 42 mX6_take.1 ∈ iv_g := iv_g_in (List.mem_of_getElem? (i := 323) (by decide +kernel)) (by decide +kernel)
theorem ck_42 : iv_cokB RL 42 2 (some 6) false mX6_take = true := iv_cok_V (own := RL) (idx := 42) (n := 2) (ci := 6) (vd := false) (ym := mX6_take) (by decide) (by decide) (by decide) lk_60 lk_61 (by decide) (by decide +kernel) lk_62 lk_63 lk_64 rfl
theorem lk_66 : Cond.code mX7_take.1 mX7_take.2.1 mX7_take.2.2.1 mX7_take.2.2.2 ∈ iv_g := iv_g_in (List.mem_of_getElem? (i := 765) (by decide +kernel)) (by decide +kernel)
theorem lk_67 : Cond.initialized mX7_take.1.cls ∈ iv_g := iv_g_in (List.mem_of_getElem? (i := 42) (by decide +kernel)) (by decide +kernel)
theorem lk_68 : Cond.instanceMethod mX7_take.1 ∈ iv_g := iv_g_in (List.mem_of_getElem? (i := 763) (by decide +kernel)) (by decide +kernel)
theorem lk_69 : Cond.selects mX7_take.1.cls mX7_take.1 mX7_take.1 ∈ iv_g := iv_g_in (List.mem_of_getElem? (i := 764) (by decide +kernel)) (by decide +kernel)
theorem lk_70 : Cond.methodLink RL 46 mX7_take.1 ∈ iv_g := iv_g_in (List.mem_of_getElem? (i := 762) (by decide +kernel)) (by decide +kernel)
theorem ck_46 : iv_cokB RL 46 2 (some 7) false mX7_take = true := iv_cok_V (own := RL) (idx := 46) (n := 2) (ci := 7) (vd := false) (ym := mX7_take) (by decide) (by decide) (by decide) lk_66 lk_67 (by decide) (by decide +kernel) lk_68 lk_69 lk_70 rfl
theorem lk_72 : Cond.code mX6_swap.1 mX6_swap.2.1 mX6_swap.2.2.1 mX6_swap.2.2.2 ∈ iv_g := iv_g_in (List.mem_of_getElem? (i := 350) (by decide +kernel)) (by decide +kernel)
theorem lk_73 : Cond.initialized mX6_swap.1.cls ∈ iv_g := iv_g_in (List.mem_of_getElem? (i := 33) (by decide +kernel)) (by decide +kernel)
theorem lk_74 : Cond.instanceMethod mX6_swap.1 ∈ iv_g := iv_g_in (List.mem_of_getElem? (i := 348) (by decide +kernel)) (by decide +kernel)
theorem lk_75 : Cond.selects mX6_swap.1.cls mX6_swap.1 mX6_swap.1 ∈ iv_g := iv_g_in (List.mem_of_getElem? (i := 349) (by decide +kernel)) (by decide +kernel)
theorem lk_76 : Cond.methodLink RL 47 mX6_swap.1 ∈ iv_g := iv_g_in (List.mem_of_getElem? (i := 347) (by decide +kernel)) (by decide +kernel)
theorem ck_47 : iv_cokB RL 47 4 (some 6) false mX6_swap = true := iv_cok_V (own := RL) (idx := 47) (n := 4) (ci := 6) (vd := false) (ym := mX6_swap) (by decide) (by decide) (by decide) lk_72 lk_73 (by decide) (by decide +kernel) lk_74 lk_75 lk_76 rfl
theorem lk_78 : Cond.code mX7_swap.1 mX7_swap.2.1 mX7_swap.2.2.1 mX7_swap.2.2.2 ∈ iv_g := iv_g_in (List.mem_of_getElem? (i := 785) (by decide +kernel)) (by decide +kernel)
theorem lk_79 : Cond.initialized mX7_swap.1.cls ∈ iv_g := iv_g_in (List.mem_of_getElem? (i := 42) (by decide +kernel)) (by decide +kernel)
theorem lk_80 : Cond.instanceMethod mX7_swap.1 ∈ iv_g := iv_g_in (List.mem_of_getElem? (i := 783) (by decide +kernel)) (by decide +kernel)
theorem lk_81 : Cond.selects mX7_swap.1.cls mX7_swap.1 mX7_swap.1 ∈ iv_g := iv_g_in (List.mem_of_getElem? (i := 784) (by decide +kernel)) (by decide +kernel)
theorem lk_82 : Cond.methodLink RL 51 mX7_swap.1 ∈ iv_g := iv_g_in (List.mem_of_getElem? (i := 782) (by decide +kernel)) (by decide +kernel)
theorem ck_51 : iv_cokB RL 51 4 (some 7) false mX7_swap = true := iv_cok_V (own := RL) (idx := 51) (n := 4) (ci := 7) (vd := false) (ym := mX7_swap) (by decide) (by decide) (by decide) lk_78 lk_79 (by decide) (by decide +kernel) lk_80 lk_81 lk_82 rfl
theorem lk_84 : Cond.code mX6_bring.1 mX6_bring.2.1 mX6_bring.2.2.1 mX6_bring.2.2.2 ∈ iv_g := iv_g_in (List.mem_of_getElem? (i := 363) (by decide +kernel)) (by decide +kernel)
theorem lk_85 : Cond.initialized mX6_bring.1.cls ∈ iv_g := iv_g_in (List.mem_of_getElem? (i := 33) (by decide +kernel)) (by decide +kernel)
theorem lk_86 : Cond.instanceMethod mX6_bring.1 ∈ iv_g := iv_g_in (List.mem_of_getElem? (i := 361) (by decide +kernel)) (by decide +kernel)
theorem lk_87 : Cond.selects mX6_bring.1.cls mX6_bring.1 mX6_bring.1 ∈ iv_g := iv_g_in (List.mem_of_getElem? (i := 362) (by decide +kernel)) (by decide +kernel)
theorem lk_88 : Cond.methodLink RL 52 mX6_bring.1 ∈ iv_g := iv_g_in (List.mem_of_getElem? (i := 360) (by decide +kernel)) (by decide +kernel)
theorem ck_52 : iv_cokB RL 52 4 (some 6) false mX6_bring = true := iv_cok_V (own := RL) (idx := 52) (n := 4) (ci := 6) (vd := false) (ym := mX6_bring) (by decide) (by decide) (by decide) lk_84 lk_85 (by decide) (by decide +kernel) lk_86 lk_87 lk_88 rfl
theorem lk_90 : Cond.code mX7_bring.1 mX7_bring.2.1 mX7_bring.2.2.1 mX7_bring.2.2.2 ∈ iv_g := iv_g_in (List.mem_of_getElem? (i := 793) (by decide +kernel)) (by decide +kernel)
theorem lk_91 : Cond.initialized mX7_bring.1.cls ∈ iv_g := iv_g_in (List.mem_of_getElem? (i := 42) (by decide +kernel)) (by decide +kernel)
theorem lk_92 : Cond.instanceMethod mX7_bring.1 ∈ iv_g := iv_g_in (List.mem_of_getElem? (i := 791) (by decide +kernel)) (by decide +kernel)
theorem lk_93 : Cond.selects mX7_bring.1.cls mX7_bring.1 mX7_bring.1 ∈ iv_g := iv_g_in (List.mem_of_getElem? (i := 792) (by decide +kernel)) (by decide +kernel)
theorem lk_94 : Cond.methodLink RL 55 mX7_bring.1 ∈ iv_g := iv_g_in (List.mem_of_getElem? (i := 790) (by decide +kernel)) (by decide +kernel)
theorem ck_55 : iv_cokB RL 55 4 (some 7) false mX7_bring = true := iv_cok_V (own := RL) (idx := 55) (n := 4) (ci := 7) (vd := false) (ym := mX7_bring) (by decide) (by decide) (by decide) lk_90 lk_91 (by decide) (by decide +kernel) lk_92 lk_93 lk_94 rfl
theorem lk_96 : Cond.code mX6_move.1 mX6_move.2.1 mX6_move.2.2.1 mX6_move.2.2.2 ∈ iv_g := iv_g_in (List.mem_of_getElem? (i := 367) (by decide +kernel)) (by decide +kernel)
theorem lk_97 : Cond.initialized mX6_move.1.cls ∈ iv_g := iv_g_in (List.mem_of_getElem? (i := 33) (by decide +kernel)) (by decide +kernel)
theorem lk_98 : Cond.instanceMethod mX6_move.1 ∈ iv_g := iv_g_in (List.mem_of_getElem? (i := 365) (by decide +kernel)) (by decide +kernel)
theorem lk_99 : Cond.selects mX6_move.1.cls mX6_move.1 mX6_move.1 ∈ iv_g := iv_g_in (List.mem_of_getElem? (i := 366) (by decide +kernel)) (by decide +kernel)
theorem lk_100 : Cond.methodLink RL 56 mX6_move.1 ∈ iv_g := iv_g_in (List.mem_of_getElem? (i := 364) (by decide +kernel)) (by decide +kernel)
theorem ck_56 : iv_cokB RL 56 3 (some 6) false mX6_move = true := iv_cok_V (own := RL) (idx := 56) (n := 3) (ci := 6) (vd := false) (ym := mX6_move) (by decide) (by decide) (by decide) lk_96 lk_97 (by decide) (by decide +kernel) lk_98 lk_99 lk_100 rfl
theorem lk_102 : Cond.code mX7_move.1 mX7_move.2.1 mX7_move.2.2.1 mX7_move.2.2.2 ∈ iv_g := iv_g_in (List.mem_of_getElem? (i := 797) (by decide +kernel)) (by decide +kernel)
theorem lk_103 : Cond.initialized mX7_move.1.cls ∈ iv_g := iv_g_in (List.mem_of_getElem? (i := 42) (by decide +kernel)) (by decide +kernel)
theorem lk_104 : Cond.instanceMethod mX7_move.1 ∈ iv_g := iv_g_in (List.mem_of_getElem? (i := 795) (by decide +kernel)) (by decide +kernel)
theorem lk_105 : Cond.selects mX7_move.1.cls mX7_move.1 mX7_move.1 ∈ iv_g := iv_g_in (List.mem_of_getElem? (i := 796) (by decide +kernel)) (by decide +kernel)
theorem lk_106 : Cond.methodLink RL 59 mX7_move.1 ∈ iv_g := iv_g_in (List.mem_of_getElem? (i := 794) (by decide +kernel)) (by decide +kernel)
theorem ck_59 : iv_cokB RL 59 3 (some 7) false mX7_move = true := iv_cok_V (own := RL) (idx := 59) (n := 3) (ci := 7) (vd := false) (ym := mX7_move) (by decide) (by decide) (by decide) lk_102 lk_103 (by decide) (by decide +kernel) lk_104 lk_105 lk_106 rfl
theorem lk_108 : Cond.code mX6_run.1 mX6_run.2.1 mX6_run.2.2.1 mX6_run.2.2.2 ∈ iv_g := iv_g_in (List.mem_of_getElem? (i := 371) (by decide +kernel)) (by decide +kernel)
theorem lk_109 : Cond.initialized mX6_run.1.cls ∈ iv_g := iv_g_in (List.mem_of_getElem? (i := 33) (by decide +kernel)) (by decide +kernel)
theorem lk_110 : Cond.instanceMethod mX6_run.1 ∈ iv_g := iv_g_in (List.mem_of_getElem? (i := 369) (by decide +kernel)) (by decide +kernel)
theorem lk_111 : Cond.selects mX6_run.1.cls mX6_run.1 mX6_run.1 ∈ iv_g := iv_g_in (List.mem_of_getElem? (i := 370) (by decide +kernel)) (by decide +kernel)
theorem lk_112 : Cond.methodLink RL 60 mX6_run.1 ∈ iv_g := iv_g_in (List.mem_of_getElem? (i := 368) (by decide +kernel)) (by decide +kernel)
theorem ck_60 : iv_cokB RL 60 2 (some 6) false mX6_run = true := iv_cok_V (own := RL) (idx := 60) (n := 2) (ci := 6) (vd := false) (ym := mX6_run) (by decide) (by decide) (by decide) lk_108 lk_109 (by decide) (by decide +kernel) lk_110 lk_111 lk_112 rfl
theorem lk_114 : Cond.code mX7_run.1 mX7_run.2.1 mX7_run.2.2.1 mX7_run.2.2.2 ∈ iv_g := iv_g_in (List.mem_of_getElem? (i := 801) (by decide +kernel)) (by decide +kernel)
theorem lk_115 : Cond.initialized mX7_run.1.cls ∈ iv_g := iv_g_in (List.mem_of_getElem? (i := 42) (by decide +kernel)) (by decide +kernel)
theorem lk_116 : Cond.instanceMethod mX7_run.1 ∈ iv_g := iv_g_in (List.mem_of_getElem? (i := 799) (by decide +kernel)) (by decide +kernel)
theorem lk_117 : Cond.selects mX7_run.1.cls mX7_run.1 mX7_run.1 ∈ iv_g := iv_g_in (List.mem_of_getElem? (i := 800) (by decide +kernel)) (by decide +kernel)
theorem lk_118 : Cond.methodLink RL 63 mX7_run.1 ∈ iv_g := iv_g_in (List.mem_of_getElem? (i := 798) (by decide +kernel)) (by decide +kernel)
theorem ck_63 : iv_cokB RL 63 2 (some 7) false mX7_run = true := iv_cok_V (own := RL) (idx := 63) (n := 2) (ci := 7) (vd := false) (ym := mX7_run) (by decide) (by decide) (by decide) lk_114 lk_115 (by decide) (by decide +kernel) lk_116 lk_117 lk_118 rfl
theorem lk_120 : Cond.code mX6_count.1 mX6_count.2.1 mX6_count.2.2.1 mX6_count.2.2.2 ∈ iv_g := iv_g_in (List.mem_of_getElem? (i := 409) (by decide +kernel)) (by decide +kernel)
theorem lk_121 : Cond.initialized mX6_count.1.cls ∈ iv_g := iv_g_in (List.mem_of_getElem? (i := 33) (by decide +kernel)) (by decide +kernel)
theorem lk_122 : Cond.instanceMethod mX6_count.1 ∈ iv_g := iv_g_in (List.mem_of_getElem? (i := 407) (by decide +kernel)) (by decide +kernel)
theorem lk_123 : Cond.selects mX6_count.1.cls mX6_count.1 mX6_count.1 ∈ iv_g := iv_g_in (List.mem_of_getElem? (i := 408) (by decide +kernel)) (by decide +kernel)
theorem lk_124 : Cond.methodLink RL 64 mX6_count.1 ∈ iv_g := iv_g_in (List.mem_of_getElem? (i := 406) (by decide +kernel)) (by decide +kernel)
theorem ck_64 : iv_cokB RL 64 2 (some 6) false mX6_count = true := iv_cok_V (own := RL) (idx := 64) (n := 2) (ci := 6) (vd := false) (ym := mX6_count) (by decide) (by decide) (by decide) lk_120 lk_121 (by decide) (by decide +kernel) lk_122 lk_123 lk_124 rfl
theorem lk_126 : Cond.code mX7_count.1 mX7_count.2.1 mX7_count.2.2.1 mX7_count.2.2.2 ∈ iv_g := iv_g_in (List.mem_of_getElem? (i := 818) (by decide +kernel)) (by decide +kernel)
theorem lk_127 : Cond.initialized mX7_count.1.cls ∈ iv_g := iv_g_in (List.mem_of_getElem? (i := 42) (by decide +kernel)) (by decide +kernel)
theorem lk_128 : Cond.instanceMethod mX7_count.1 ∈ iv_g := iv_g_in (List.mem_of_getElem? (i := 816) (by decide +kernel)) (by decide +kernel)
theorem lk_129 : Cond.selects mX7_count.1.cls mX7_count.1 mX7_count.1 ∈ iv_g := iv_g_in (List.mem_of_getElem? (i := 817) (by decide +kernel)) (by decide +kernel)
theorem lk_130 : Cond.methodLink RL 67 mX7_count.1 ∈ iv_g := iv_g_in (List.mem_of_getElem? (i := 815) (by decide +kernel)) (by decide +kernel)
theorem ck_67 : iv_cokB RL 67 2 (some 7) false mX7_count = true := iv_cok_V (own := RL) (idx := 67) (n := 2) (ci := 7) (vd := false) (ym := mX7_count) (by decide) (by decide) (by decide) lk_126 lk_127 (by decide) (by decide +kernel) lk_128 lk_129 lk_130 rfl
theorem lk_132 : Cond.code mX6_in.1 mX6_in.2.1 mX6_in.2.2.1 mX6_in.2.2.2 ∈ iv_g := iv_g_in (List.mem_of_getElem? (i := 421) (by decide +kernel)) (by decide +kernel)
theorem lk_133 : Cond.initialized mX6_in.1.cls ∈ iv_g := iv_g_in (List.mem_of_getElem? (i := 33) (by decide +kernel)) (by decide +kernel)
theorem lk_134 : Cond.instanceMethod mX6_in.1 ∈ iv_g := iv_g_in (List.mem_of_getElem? (i := 419) (by decide +kernel)) (by decide +kernel)
theorem lk_135 : Cond.selects mX6_in.1.cls mX6_in.1 mX6_in.1 ∈ iv_g := iv_g_in (List.mem_of_getElem? (i := 420) (by decide +kernel)) (by decide +kernel)
theorem lk_136 : Cond.methodLink RL 78 mX6_in.1 ∈ iv_g := iv_g_in (List.mem_of_getElem? (i := 418) (by decide +kernel)) (by decide +kernel)
theorem ck_78 : iv_cokB RL 78 3 (some 6) false mX6_in = true := iv_cok_V (own := RL) (idx := 78) (n := 3) (ci := 6) (vd := false) (ym := mX6_in) (by decide) (by decide) (by decide) lk_132 lk_133 (by decide) (by decide +kernel) lk_134 lk_135 lk_136 rfl
theorem lk_138 : Cond.code mX7_in_.1 mX7_in_.2.1 mX7_in_.2.2.1 mX7_in_.2.2.2 ∈ iv_g := iv_g_in (List.mem_of_getElem? (i := 826) (by decide +kernel)) (by decide +kernel)
theorem lk_139 : Cond.initialized mX7_in_.1.cls ∈ iv_g := iv_g_in (List.mem_of_getElem? (i := 42) (by decide +kernel)) (by decide +kernel)
theorem lk_140 : Cond.instanceMethod mX7_in_.1 ∈ iv_g := iv_g_in (List.mem_of_getElem? (i := 824) (by decide +kernel)) (by decide +kernel)
theorem lk_141 : Cond.selects mX7_in_.1.cls mX7_in_.1 mX7_in_.1 ∈ iv_g := iv_g_in (List.mem_of_getElem? (i := 825) (by decide +kernel)) (by decide +kernel)
theorem lk_142 : Cond.methodLink RL 81 mX7_in_.1 ∈ iv_g := iv_g_in (List.mem_of_getElem? (i := 823) (by decide +kernel)) (by decide +kernel)
theorem ck_81 : iv_cokB RL 81 3 (some 7) false mX7_in_ = true := iv_cok_V (own := RL) (idx := 81) (n := 3) (ci := 7) (vd := false) (ym := mX7_in_) (by decide) (by decide) (by decide) lk_138 lk_139 (by decide) (by decide +kernel) lk_140 lk_141 lk_142 rfl
theorem lk_144 : Cond.code mX6_need.1 mX6_need.2.1 mX6_need.2.2.1 mX6_need.2.2.2 ∈ iv_g := iv_g_in (List.mem_of_getElem? (i := 425) (by decide +kernel)) (by decide +kernel)
theorem lk_145 : Cond.initialized mX6_need.1.cls ∈ iv_g := iv_g_in (List.mem_of_getElem? (i := 33) (by decide +kernel)) (by decide +kernel)
theorem lk_146 : Cond.instanceMethod mX6_need.1 ∈ iv_g := iv_g_in (List.mem_of_getElem? (i := 423) (by decide +kernel)) (by decide +kernel)
theorem lk_147 : Cond.selects mX6_need.1.cls mX6_need.1 mX6_need.1 ∈ iv_g := iv_g_in (List.mem_of_getElem? (i := 424) (by decide +kernel)) (by decide +kernel)
theorem lk_148 : Cond.methodLink RL 82 mX6_need.1 ∈ iv_g := iv_g_in (List.mem_of_getElem? (i := 422) (by decide +kernel)) (by decide +kernel)
theorem ck_82 : iv_cokB RL 82 2 (some 6) false mX6_need = true := iv_cok_V (own := RL) (idx := 82) (n := 2) (ci := 6) (vd := false) (ym := mX6_need) (by decide) (by decide) (by decide) lk_144 lk_145 (by decide) (by decide +kernel) lk_146 lk_147 lk_148 rfl
theorem lk_150 : Cond.code mX7_need.1 mX7_need.2.1 mX7_need.2.2.1 mX7_need.2.2.2 ∈ iv_g := iv_g_in (List.mem_of_getElem? (i := 830) (by decide +kernel)) (by decide +kernel)
theorem lk_151 : Cond.initialized mX7_need.1.cls ∈ iv_g := iv_g_in (List.mem_of_getElem? (i := 42) (by decide +kernel)) (by decide +kernel)
theorem lk_152 : Cond.instanceMethod mX7_need.1 ∈ iv_g := iv_g_in (List.mem_of_getElem? (i := 828) (by decide +kernel)) (by decide +kernel)
theorem lk_153 : Cond.selects mX7_need.1.cls mX7_need.1 mX7_need.1 ∈ iv_g := iv_g_in (List.mem_of_getElem? (i := 829) (by decide +kernel)) (by decide +kernel)
theorem lk_154 : Cond.methodLink RL 85 mX7_need.1 ∈ iv_g := iv_g_in (List.mem_of_getElem? (i := 827) (by decide +kernel)) (by decide +kernel)
theorem ck_85 : iv_cokB RL 85 2 (some 7) false mX7_need = true := iv_cok_V (own := RL) (idx := 85) (n := 2) (ci := 7) (vd := false) (ym := mX7_need) (by decide) (by decide) (by decide) lk_150 lk_151 (by decide) (by decide +kernel) lk_152 lk_153 lk_154 rfl
theorem lk_156 : Cond.code mX6_clear.1 mX6_clear.2.1 mX6_clear.2.2.1 mX6_clear.2.2.2 ∈ iv_g := iv_g_in (List.mem_of_getElem? (i := 433) (by decide +kernel)) (by decide +kernel)
theorem lk_157 : Cond.initialized mX6_clear.1.cls ∈ iv_g := iv_g_in (List.mem_of_getElem? (i := 33) (by decide +kernel)) (by decide +kernel)
theorem lk_158 : Cond.instanceMethod mX6_clear.1 ∈ iv_g := iv_g_in (List.mem_of_getElem? (i := 431) (by decide +kernel)) (by decide +kernel)
theorem lk_159 : Cond.selects mX6_clear.1.cls mX6_clear.1 mX6_clear.1 ∈ iv_g := iv_g_in (List.mem_of_getElem? (i := 432) (by decide +kernel)) (by decide +kernel)
theorem lk_160 : Cond.methodLink RL 86 mX6_clear.1 ∈ iv_g := iv_g_in (List.mem_of_getElem? (i := 430) (by decide +kernel)) (by decide +kernel)
theorem ck_86 : iv_cokB RL 86 1 (some 6) false mX6_clear = true := iv_cok_V (own := RL) (idx := 86) (n := 1) (ci := 6) (vd := false) (ym := mX6_clear) (by decide) (by decide) (by decide) lk_156 lk_157 (by decide) (by decide +kernel) lk_158 lk_159 lk_160 rfl
theorem lk_162 : Cond.code mX7_clear.1 mX7_clear.2.1 mX7_clear.2.2.1 mX7_clear.2.2.2 ∈ iv_g := iv_g_in (List.mem_of_getElem? (i := 834) (by decide +kernel)) (by decide +kernel)
theorem lk_163 : Cond.initialized mX7_clear.1.cls ∈ iv_g := iv_g_in (List.mem_of_getElem? (i := 42) (by decide +kernel)) (by decide +kernel)
theorem lk_164 : Cond.instanceMethod mX7_clear.1 ∈ iv_g := iv_g_in (List.mem_of_getElem? (i := 832) (by decide +kernel)) (by decide +kernel)
theorem lk_165 : Cond.selects mX7_clear.1.cls mX7_clear.1 mX7_clear.1 ∈ iv_g := iv_g_in (List.mem_of_getElem? (i := 833) (by decide +kernel)) (by decide +kernel)
theorem lk_166 : Cond.methodLink RL 89 mX7_clear.1 ∈ iv_g := iv_g_in (List.mem_of_getElem? (i := 831) (by decide +kernel)) (by decide +kernel)
theorem ck_89 : iv_cokB RL 89 1 (some 7) false mX7_clear = true := iv_cok_V (own := RL) (idx := 89) (n := 1) (ci := 7) (vd := false) (ym := mX7_clear) (by decide) (by decide) (by decide) lk_162 lk_163 (by decide) (by decide +kernel) lk_164 lk_165 lk_166 rfl
theorem lk_168 : Cond.code mX6_plan.1 mX6_plan.2.1 mX6_plan.2.2.1 mX6_plan.2.2.2 ∈ iv_g := iv_g_in (List.mem_of_getElem? (i := 437) (by decide +kernel)) (by decide +kernel)
theorem lk_169 : Cond.initialized mX6_plan.1.cls ∈ iv_g := iv_g_in (List.mem_of_getElem? (i := 33) (by decide +kernel)) (by decide +kernel)
theorem lk_170 : Cond.instanceMethod mX6_plan.1 ∈ iv_g := iv_g_in (List.mem_of_getElem? (i := 435) (by decide +kernel)) (by decide +kernel)
theorem lk_171 : Cond.selects mX6_plan.1.cls mX6_plan.1 mX6_plan.1 ∈ iv_g := iv_g_in (List.mem_of_getElem? (i := 436) (by decide +kernel)) (by decide +kernel)
theorem lk_172 : Cond.methodLink RL 90 mX6_plan.1 ∈ iv_g := iv_g_in (List.mem_of_getElem? (i := 434) (by decide +kernel)) (by decide +kernel)
theorem ck_90 : iv_cokB RL 90 2 (some 6) false mX6_plan = true := iv_cok_V (own := RL) (idx := 90) (n := 2) (ci := 6) (vd := false) (ym := mX6_plan) (by decide) (by decide) (by decide) lk_168 lk_169 (by decide) (by decide +kernel) lk_170 lk_171 lk_172 rfl
theorem lk_174 : Cond.code mX7_plan.1 mX7_plan.2.1 mX7_plan.2.2.1 mX7_plan.2.2.2 ∈ iv_g := iv_g_in (List.mem_of_getElem? (i := 838) (by decide +kernel)) (by decide +kernel)
theorem lk_175 : Cond.initialized mX7_plan.1.cls ∈ iv_g := iv_g_in (List.mem_of_getElem? (i := 42) (by decide +kernel)) (by decide +kernel)
theorem lk_176 : Cond.instanceMethod mX7_plan.1 ∈ iv_g := iv_g_in (List.mem_of_getElem? (i := 836) (by decide +kernel)) (by decide +kernel)
theorem lk_177 : Cond.selects mX7_plan.1.cls mX7_plan.1 mX7_plan.1 ∈ iv_g := iv_g_in (List.mem_of_getElem? (i := 837) (by decide +kernel)) (by decide +kernel)
theorem lk_178 : Cond.methodLink RL 93 mX7_plan.1 ∈ iv_g := iv_g_in (List.mem_of_getElem? (i := 835) (by decide +kernel)) (by decide +kernel)
theorem ck_93 : iv_cokB RL 93 2 (some 7) false mX7_plan = true := iv_cok_V (own := RL) (idx := 93) (n := 2) (ci := 7) (vd := false) (ym := mX7_plan) (by decide) (by decide) (by decide) lk_174 lk_175 (by decide) (by decide +kernel) lk_176 lk_177 lk_178 rfl
theorem lk_180 : Cond.code mX6_planned.1 mX6_planned.2.1 mX6_planned.2.2.1 mX6_planned.2.2.2 ∈ iv_g := iv_g_in (List.mem_of_getElem? (i := 463) (by decide +kernel)) (by decide +kernel)
theorem lk_181 : Cond.initialized mX6_planned.1.cls ∈ iv_g := iv_g_in (List.mem_of_getElem? (i := 33) (by decide +kernel)) (by decide +kernel)
theorem lk_182 : Cond.instanceMethod mX6_planned.1 ∈ iv_g := iv_g_in (List.mem_of_getElem? (i := 461) (by decide +kernel)) (by decide +kernel)
theorem lk_183 : Cond.selects mX6_planned.1.cls mX6_planned.1 mX6_planned.1 ∈ iv_g := iv_g_in (List.mem_of_getElem? (i := 462) (by decide +kernel)) (by decide +kernel)
theorem lk_184 : Cond.methodLink RL 94 mX6_planned.1 ∈ iv_g := iv_g_in (List.mem_of_getElem? (i := 460) (by decide +kernel)) (by decide +kernel)
theorem ck_94 : iv_cokB RL 94 2 (some 6) false mX6_planned = true := iv_cok_V (own := RL) (idx := 94) (n := 2) (ci := 6) (vd := false) (ym := mX6_planned) (by decide) (by decide) (by decide) lk_180 lk_181 (by decide) (by decide +kernel) lk_182 lk_183 lk_184 rfl
theorem lk_186 : Cond.code mX7_planned.1 mX7_planned.2.1 mX7_planned.2.2.1 mX7_planned.2.2.2 ∈ iv_g := iv_g_in (List.mem_of_getElem? (i := 843) (by decide +kernel)) (by decide +kernel)
theorem lk_187 : Cond.initialized mX7_planned.1.cls ∈ iv_g := iv_g_in (List.mem_of_getElem? (i := 42) (by decide +kernel)) (by decide +kernel)
theorem lk_188 : Cond.instanceMethod mX7_planned.1 ∈ iv_g := iv_g_in (List.mem_of_getElem? (i := 841) (by decide +kernel)) (by decide +kernel)
theorem lk_189 : Cond.selects mX7_planned.1.cls mX7_planned.1 mX7_planned.1 ∈ iv_g := iv_g_in (List.mem_of_getElem? (i := 842) (by decide +kernel)) (by decide +kernel)
theorem lk_190 : Cond.methodLink RL 97 mX7_planned.1 ∈ iv_g := iv_g_in (List.mem_of_getElem? (i := 840) (by decide +kernel)) (by decide +kernel)
theorem ck_97 : iv_cokB RL 97 2 (some 7) false mX7_planned = true := iv_cok_V (own := RL) (idx := 97) (n := 2) (ci := 7) (vd := false) (ym := mX7_planned) (by decide) (by decide) (by decide) lk_186 lk_187 (by decide) (by decide +kernel) lk_188 lk_189 lk_190 rfl
theorem lk_192 : Cond.code mX6_wish.1 mX6_wish.2.1 mX6_wish.2.2.1 mX6_wish.2.2.2 ∈ iv_g := iv_g_in (List.mem_of_getElem? (i := 467) (by decide +kernel)) (by decide +kernel)
theorem lk_193 : Cond.initialized mX6_wish.1.cls ∈ iv_g := iv_g_in (List.mem_of_getElem? (i := 33) (by decide +kernel)) (by decide +kernel)
theorem lk_194 : Cond.instanceMethod mX6_wish.1 ∈ iv_g := iv_g_in (List.mem_of_getElem? (i := 465) (by decide +kernel)) (by decide +kernel)
theorem lk_195 : Cond.selects mX6_wish.1.cls mX6_wish.1 mX6_wish.1 ∈ iv_g := iv_g_in (List.mem_of_getElem? (i := 466) (by decide +kernel)) (by decide +kernel)
theorem lk_196 : Cond.methodLink RL 98 mX6_wish.1 ∈ iv_g := iv_g_in (List.mem_of_getElem? (i := 464) (by decide +kernel)) (by decide +kernel)
theorem ck_98 : iv_cokB RL 98 3 (some 6) false mX6_wish = true := iv_cok_V (own := RL) (idx := 98) (n := 3) (ci := 6) (vd := false) (ym := mX6_wish) (by decide) (by decide) (by decide) lk_192 lk_193 (by decide) (by decide +kernel) lk_194 lk_195 lk_196 rfl
theorem lk_198 : Cond.code mX7_wish.1 mX7_wish.2.1 mX7_wish.2.2.1 mX7_wish.2.2.2 ∈ iv_g := iv_g_in (List.mem_of_getElem? (i := 847) (by decide +kernel)) (by decide +kernel)
theorem lk_199 : Cond.initialized mX7_wish.1.cls ∈ iv_g := iv_g_in (List.mem_of_getElem? (i := 42) (by decide +kernel)) (by decide +kernel)
theorem lk_200 : Cond.instanceMethod mX7_wish.1 ∈ iv_g := iv_g_in (List.mem_of_getElem? (i := 845) (by decide +kernel)) (by decide +kernel)
theorem lk_201 : Cond.selects mX7_wish.1.cls mX7_wish.1 mX7_wish.1 ∈ iv_g := iv_g_in (List.mem_of_getElem? (i := 846) (by decide +kernel)) (by decide +kernel)
theorem lk_202 : Cond.methodLink RL 101 mX7_wish.1 ∈ iv_g := iv_g_in (List.mem_of_getElem? (i := 844) (by decide +kernel)) (by decide +kernel)
theorem ck_101 : iv_cokB RL 101 3 (some 7) false mX7_wish = true := iv_cok_V (own := RL) (idx := 101) (n := 3) (ci := 7) (vd := false) (ym := mX7_wish) (by decide) (by decide) (by decide) lk_198 lk_199 (by decide) (by decide +kernel) lk_200 lk_201 lk_202 rfl
theorem lk_204 : Cond.code mX6_round.1 mX6_round.2.1 mX6_round.2.2.1 mX6_round.2.2.2 ∈ iv_g := iv_g_in (List.mem_of_getElem? (i := 471) (by decide +kernel)) (by decide +kernel)
theorem lk_205 : Cond.initialized mX6_round.1.cls ∈ iv_g := iv_g_in (List.mem_of_getElem? (i := 33) (by decide +kernel)) (by decide +kernel)
theorem lk_206 : Cond.instanceMethod mX6_round.1 ∈ iv_g := iv_g_in (List.mem_of_getElem? (i := 469) (by decide +kernel)) (by decide +kernel)
theorem lk_207 : Cond.selects mX6_round.1.cls mX6_round.1 mX6_round.1 ∈ iv_g := iv_g_in (List.mem_of_getElem? (i := 470) (by decide +kernel)) (by decide +kernel)
theorem lk_208 : Cond.methodLink RL 102 mX6_round.1 ∈ iv_g := iv_g_in (List.mem_of_getElem? (i := 468) (by decide +kernel)) (by decide +kernel)
theorem ck_102 : iv_cokB RL 102 1 (some 6) false mX6_round = true := iv_cok_V (own := RL) (idx := 102) (n := 1) (ci := 6) (vd := false) (ym := mX6_round) (by decide) (by decide) (by decide) lk_204 lk_205 (by decide) (by decide +kernel) lk_206 lk_207 lk_208 rfl
theorem lk_210 : Cond.code mX7_round.1 mX7_round.2.1 mX7_round.2.2.1 mX7_round.2.2.2 ∈ iv_g := iv_g_in (List.mem_of_getElem? (i := 851) (by decide +kernel)) (by decide +kernel)
theorem lk_211 : Cond.initialized mX7_round.1.cls ∈ iv_g := iv_g_in (List.mem_of_getElem? (i := 42) (by decide +kernel)) (by decide +kernel)
theorem lk_212 : Cond.instanceMethod mX7_round.1 ∈ iv_g := iv_g_in (List.mem_of_getElem? (i := 849) (by decide +kernel)) (by decide +kernel)
theorem lk_213 : Cond.selects mX7_round.1.cls mX7_round.1 mX7_round.1 ∈ iv_g := iv_g_in (List.mem_of_getElem? (i := 850) (by decide +kernel)) (by decide +kernel)
theorem lk_214 : Cond.methodLink RL 105 mX7_round.1 ∈ iv_g := iv_g_in (List.mem_of_getElem? (i := 848) (by decide +kernel)) (by decide +kernel)
theorem ck_105 : iv_cokB RL 105 1 (some 7) false mX7_round = true := iv_cok_V (own := RL) (idx := 105) (n := 1) (ci := 7) (vd := false) (ym := mX7_round) (by decide) (by decide) (by decide) lk_210 lk_211 (by decide) (by decide +kernel) lk_212 lk_213 lk_214 rfl
theorem lk_216 : Cond.code mX6_stop.1 mX6_stop.2.1 mX6_stop.2.2.1 mX6_stop.2.2.2 ∈ iv_g := iv_g_in (List.mem_of_getElem? (i := 503) (by decide +kernel)) (by decide +kernel)
theorem lk_217 : Cond.initialized mX6_stop.1.cls ∈ iv_g := iv_g_in (List.mem_of_getElem? (i := 33) (by decide +kernel)) (by decide +kernel)
theorem lk_218 : Cond.instanceMethod mX6_stop.1 ∈ iv_g := iv_g_in (List.mem_of_getElem? (i := 501) (by decide +kernel)) (by decide +kernel)
theorem lk_219 : Cond.selects mX6_stop.1.cls mX6_stop.1 mX6_stop.1 ∈ iv_g := iv_g_in (List.mem_of_getElem? (i := 502) (by decide +kernel)) (by decide +kernel)
theorem lk_220 : Cond.methodLink RL 106 mX6_stop.1 ∈ iv_g := iv_g_in (List.mem_of_getElem? (i := 500) (by decide +kernel)) (by decide +kernel)
theorem ck_106 : iv_cokB RL 106 2 (some 6) false mX6_stop = true := iv_cok_V (own := RL) (idx := 106) (n := 2) (ci := 6) (vd := false) (ym := mX6_stop) (by decide) (by decide) (by decide) lk_216 lk_217 (by decide) (by decide +kernel) lk_218 lk_219 lk_220 rfl
theorem lk_222 : Cond.code mX7_stop.1 mX7_stop.2.1 mX7_stop.2.2.1 mX7_stop.2.2.2 ∈ iv_g := iv_g_in (List.mem_of_getElem? (i := 864) (by decide +kernel)) (by decide +kernel)
theorem lk_223 : Cond.initialized mX7_stop.1.cls ∈ iv_g := iv_g_in (List.mem_of_getElem? (i := 42) (by decide +kernel)) (by decide +kernel)
theorem lk_224 : Cond.instanceMethod mX7_stop.1 ∈ iv_g := iv_g_in (List.mem_of_getElem? (i := 862) (by decide +kernel)) (by decide +kernel)
theorem lk_225 : Cond.selects mX7_stop.1.cls mX7_stop.1 mX7_stop.1 ∈ iv_g := iv_g_in (List.mem_of_getElem? (i := 863) (by decide +kernel)) (by decide +kernel)
theorem lk_226 : Cond.methodLink RL 109 mX7_stop.1 ∈ iv_g := iv_g_in (List.mem_of_getElem? (i := 861) (by decide +kernel)) (by decide +kernel)
theorem ck_109 : iv_cokB RL 109 2 (some 7) false mX7_stop = true := iv_cok_V (own := RL) (idx := 109) (n := 2) (ci := 7) (vd := false) (ym := mX7_stop) (by decide) (by decide) (by decide) lk_222 lk_223 (by decide) (by decide +kernel) lk_224 lk_225 lk_226 rfl
theorem lk_228 : Cond.code mX6_point.1 mX6_point.2.1 mX6_point.2.2.1 mX6_point.2.2.2 ∈ iv_g := iv_g_in (List.mem_of_getElem? (i := 507) (by decide +kernel)) (by decide +kernel)
theorem lk_229 : Cond.initialized mX6_point.1.cls ∈ iv_g := iv_g_in (List.mem_of_getElem? (i := 33) (by decide +kernel)) (by decide +kernel)
theorem lk_230 : Cond.instanceMethod mX6_point.1 ∈ iv_g := iv_g_in (List.mem_of_getElem? (i := 505) (by decide +kernel)) (by decide +kernel)
theorem lk_231 : Cond.selects mX6_point.1.cls mX6_point.1 mX6_point.1 ∈ iv_g := iv_g_in (List.mem_of_getElem? (i := 506) (by decide +kernel)) (by decide +kernel)
theorem lk_232 : Cond.methodLink RL 110 mX6_point.1 ∈ iv_g := iv_g_in (List.mem_of_getElem? (i := 504) (by decide +kernel)) (by decide +kernel)
theorem ck_110 : iv_cokB RL 110 4 (some 6) false mX6_point = true := iv_cok_V (own := RL) (idx := 110) (n := 4) (ci := 6) (vd := false) (ym := mX6_point) (by decide) (by decide) (by decide) lk_228 lk_229 (by decide) (by decide +kernel) lk_230 lk_231 lk_232 rfl
theorem lk_234 : Cond.code mX7_point.1 mX7_point.2.1 mX7_point.2.2.1 mX7_point.2.2.2 ∈ iv_g := iv_g_in (List.mem_of_getElem? (i := 868) (by decide +kernel)) (by decide +kernel)
theorem lk_235 : Cond.initialized mX7_point.1.cls ∈ iv_g := iv_g_in (List.mem_of_getElem? (i := 42) (by decide +kernel)) (by decide +kernel)
theorem lk_236 : Cond.instanceMethod mX7_point.1 ∈ iv_g := iv_g_in (List.mem_of_getElem? (i := 866) (by decide +kernel)) (by decide +kernel)
theorem lk_237 : Cond.selects mX7_point.1.cls mX7_point.1 mX7_point.1 ∈ iv_g := iv_g_in (List.mem_of_getElem? (i := 867) (by decide +kernel)) (by decide +kernel)
theorem lk_238 : Cond.methodLink RL 113 mX7_point.1 ∈ iv_g := iv_g_in (List.mem_of_getElem? (i := 865) (by decide +kernel)) (by decide +kernel)
theorem ck_113 : iv_cokB RL 113 4 (some 7) false mX7_point = true := iv_cok_V (own := RL) (idx := 113) (n := 4) (ci := 7) (vd := false) (ym := mX7_point) (by decide) (by decide) (by decide) lk_234 lk_235 (by decide) (by decide +kernel) lk_236 lk_237 lk_238 rfl
theorem lk_240 : Cond.code mX6_places.1 mX6_places.2.1 mX6_places.2.2.1 mX6_places.2.2.2 ∈ iv_g := iv_g_in (List.mem_of_getElem? (i := 512) (by decide +kernel)) (by decide +kernel)
theorem lk_241 : Cond.initialized mX6_places.1.cls ∈ iv_g := iv_g_in (List.mem_of_getElem? (i := 33) (by decide +kernel)) (by decide +kernel)
theorem lk_242 : Cond.instanceMethod mX6_places.1 ∈ iv_g := iv_g_in (List.mem_of_getElem? (i := 510) (by decide +kernel)) (by decide +kernel)
theorem lk_243 : Cond.selects mX6_places.1.cls mX6_places.1 mX6_places.1 ∈ iv_g := iv_g_in (List.mem_of_getElem? (i := 511) (by decide +kernel)) (by decide +kernel)
theorem lk_244 : Cond.methodLink RL 114 mX6_places.1 ∈ iv_g := iv_g_in (List.mem_of_getElem? (i := 509) (by decide +kernel)) (by decide +kernel)
theorem ck_114 : iv_cokB RL 114 2 (some 6) false mX6_places = true := iv_cok_V (own := RL) (idx := 114) (n := 2) (ci := 6) (vd := false) (ym := mX6_places) (by decide) (by decide) (by decide) lk_240 lk_241 (by decide) (by decide +kernel) lk_242 lk_243 lk_244 rfl
theorem lk_246 : Cond.code mX7_places.1 mX7_places.2.1 mX7_places.2.2.1 mX7_places.2.2.2 ∈ iv_g := iv_g_in (List.mem_of_getElem? (i := 872) (by decide +kernel)) (by decide +kernel)
theorem lk_247 : Cond.initialized mX7_places.1.cls ∈ iv_g := iv_g_in (List.mem_of_getElem? (i := 42) (by decide +kernel)) (by decide +kernel)
theorem lk_248 : Cond.instanceMethod mX7_places.1 ∈ iv_g := iv_g_in (List.mem_of_getElem? (i := 870) (by decide +kernel)) (by decide +kernel)
theorem lk_249 : Cond.selects mX7_places.1.cls mX7_places.1 mX7_places.1 ∈ iv_g := iv_g_in (List.mem_of_getElem? (i := 871) (by decide +kernel)) (by decide +kernel)
theorem lk_250 : Cond.methodLink RL 117 mX7_places.1 ∈ iv_g := iv_g_in (List.mem_of_getElem? (i := 869) (by decide +kernel)) (by decide +kernel)
theorem ck_117 : iv_cokB RL 117 2 (some 7) false mX7_places = true := iv_cok_V (own := RL) (idx := 117) (n := 2) (ci := 7) (vd := false) (ym := mX7_places) (by decide) (by decide) (by decide) lk_246 lk_247 (by decide) (by decide +kernel) lk_248 lk_249 lk_250 rfl
theorem lk_252 : Cond.code mX6_chosen.1 mX6_chosen.2.1 mX6_chosen.2.2.1 mX6_chosen.2.2.2 ∈ iv_g := iv_g_in (List.mem_of_getElem? (i := 539) (by decide +kernel)) (by decide +kernel)
theorem lk_253 : Cond.initialized mX6_chosen.1.cls ∈ iv_g := iv_g_in (List.mem_of_getElem? (i := 33) (by decide +kernel)) (by decide +kernel)
theorem lk_254 : Cond.instanceMethod mX6_chosen.1 ∈ iv_g := iv_g_in (List.mem_of_getElem? (i := 537) (by decide +kernel)) (by decide +kernel)
theorem lk_255 : Cond.selects mX6_chosen.1.cls mX6_chosen.1 mX6_chosen.1 ∈ iv_g := iv_g_in (List.mem_of_getElem? (i := 538) (by decide +kernel)) (by decide +kernel)
theorem lk_256 : Cond.methodLink RL 118 mX6_chosen.1 ∈ iv_g := iv_g_in (List.mem_of_getElem? (i := 536) (by decide +kernel)) (by decide +kernel)
theorem ck_118 : iv_cokB RL 118 1 (some 6) false mX6_chosen = true := iv_cok_V (own := RL) (idx := 118) (n := 1) (ci := 6) (vd := false) (ym := mX6_chosen) (by decide) (by decide) (by decide) lk_252 lk_253 (by decide) (by decide +kernel) lk_254 lk_255 lk_256 rfl
theorem lk_258 : Cond.code mX7_chosen.1 mX7_chosen.2.1 mX7_chosen.2.2.1 mX7_chosen.2.2.2 ∈ iv_g := iv_g_in (List.mem_of_getElem? (i := 887) (by decide +kernel)) (by decide +kernel)
theorem lk_259 : Cond.initialized mX7_chosen.1.cls ∈ iv_g := iv_g_in (List.mem_of_getElem? (i := 42) (by decide +kernel)) (by decide +kernel)
theorem lk_260 : Cond.instanceMethod mX7_chosen.1 ∈ iv_g := iv_g_in (List.mem_of_getElem? (i := 885) (by decide +kernel)) (by decide +kernel)
theorem lk_261 : Cond.selects mX7_chosen.1.cls mX7_chosen.1 mX7_chosen.1 ∈ iv_g := iv_g_in (List.mem_of_getElem? (i := 886) (by decide +kernel)) (by decide +kernel)
theorem lk_262 : Cond.methodLink RL 121 mX7_chosen.1 ∈ iv_g := iv_g_in (List.mem_of_getElem? (i := 884) (by decide +kernel)) (by decide +kernel)
theorem ck_121 : iv_cokB RL 121 1 (some 7) false mX7_chosen = true := iv_cok_V (own := RL) (idx := 121) (n := 1) (ci := 7) (vd := false) (ym := mX7_chosen) (by decide) (by decide) (by decide) lk_258 lk_259 (by decide) (by decide +kernel) lk_260 lk_261 lk_262 rfl
theorem lk_264 : Cond.code mX7_of.1 mX7_of.2.1 mX7_of.2.2.1 mX7_of.2.2.2 ∈ iv_g := iv_g_in (List.mem_of_getElem? (i := 822) (by decide +kernel)) (by decide +kernel)
theorem lk_265 : Cond.initialized mX7_of.1.cls ∈ iv_g := iv_g_in (List.mem_of_getElem? (i := 42) (by decide +kernel)) (by decide +kernel)
theorem lk_266 : Cond.instanceMethod mX7_of.1 ∈ iv_g := iv_g_in (List.mem_of_getElem? (i := 820) (by decide +kernel)) (by decide +kernel)
theorem lk_267 : Cond.selects mX7_of.1.cls mX7_of.1 mX7_of.1 ∈ iv_g := iv_g_in (List.mem_of_getElem? (i := 821) (by decide +kernel)) (by decide +kernel)
theorem lk_268 : Cond.methodLink RL 73 mX7_of.1 ∈ iv_g := iv_g_in (List.mem_of_getElem? (i := 819) (by decide +kernel)) (by decide +kernel)
theorem ck_73 : iv_cokB RL 73 3 (some 7) false mX7_of = true := iv_cok_V (own := RL) (idx := 73) (n := 3) (ci := 7) (vd := false) (ym := mX7_of) (by decide) (by decide) (by decide) lk_264 lk_265 (by decide) (by decide +kernel) lk_266 lk_267 lk_268 rfl
theorem lk_270 : Cond.code mX7_thrown.1 mX7_thrown.2.1 mX7_thrown.2.2.1 mX7_thrown.2.2.2 ∈ iv_g := iv_g_in (List.mem_of_getElem? (i := 715) (by decide +kernel)) (by decide +kernel)
theorem lk_271 : Cond.initialized mX7_thrown.1.cls ∈ iv_g := iv_g_in (List.mem_of_getElem? (i := 42) (by decide +kernel)) (by decide +kernel)
theorem lk_272 : Cond.instanceMethod mX7_thrown.1 ∈ iv_g := iv_g_in (List.mem_of_getElem? (i := 713) (by decide +kernel)) (by decide +kernel)
theorem lk_273 : Cond.selects mX7_thrown.1.cls mX7_thrown.1 mX7_thrown.1 ∈ iv_g := iv_g_in (List.mem_of_getElem? (i := 714) (by decide +kernel)) (by decide +kernel)
theorem lk_274 : Cond.methodLink RL 74 mX7_thrown.1 ∈ iv_g := iv_g_in (List.mem_of_getElem? (i := 712) (by decide +kernel)) (by decide +kernel)
theorem ck_74 : iv_cokB RL 74 1 (some 7) false mX7_thrown = true := iv_cok_V (own := RL) (idx := 74) (n := 1) (ci := 7) (vd := false) (ym := mX7_thrown) (by decide) (by decide) (by decide) lk_270 lk_271 (by decide) (by decide +kernel) lk_272 lk_273 lk_274 rfl
section ILC
variable {p : Program} {e : Env} {R : Room} {s : State} {m : MethodId} {args : Array Value} {below : List Frame} {meth : Method} {c : Code} {X : iv_X} {A : Nat → Prop} {QM : State → Prop} {cells slots : Nat} {cJ : ClassId} {o : Nat} {f : Nat → Int64} {σ : iv_S} {H : Heap} {locs : List Loc} {ls : Array Slot} {b L i sa sb : Nat} {xs : Nat → Int32}
theorem lc_0 (C : lc_C p s m c args X A R b L xs sa sb) (hRc : cells + 1 ≤ R.cells ∧ slots + 6 ≤ R.slots) (hw : il_Wo X cJ o A s σ f H locs) (hI : iInv σ) (hl : lv_has ls 7 (lc_lv X b o i)) (hi : i + 6 ≤ L)
    (kk : ∀ (σ' : iv_S) (f' : Nat → Int64) (H1 : Heap) (locs1 : List Loc) (ls1 : Array Slot), il_Wo X cJ o A s σ' f' H1 locs1 → iInv σ' → lv_has ls1 7 (lc_lv X b o i) → W p X.1 e R s m args below meth c H1 locs1 (cells + 1) (slots + 6) QM (F0 m 950 ls1 [])) : W p X.1 e R s m args below meth c H locs cells slots QM (F0 m 148 ls []) := by
  have C' := C
  obtain ⟨hx, hb, hml, hown, hts, hA, hX, hbl, hbA, hL, hSx, hZ, hst, hRf, hRl⟩ := C
  have h0 : ls[0]? = some (.val (.ref b)) := lv_at hl 1 rfl
  have h4 : ls[4]? = some (.val (.int (nI i))) := lv_at hl 0 rfl
  have hRm : 20 + 1 ≤ R.frames ∧ 40 * (20 + 1) ≤ R.locals ∧ cells ≤ R.cells ∧ slots ≤ R.slots := ⟨by omega, by omega, by omega, by omega⟩
  refine lv_aload_n hx hb dL_law_148 rfl (lv_at hl 2 rfl) ?_
  refine il_arg (j := 1) hx hb hX hbl hbA hw.1.2.2.2.1 hL (by omega) h0 h4 (by decide) dL_law_149 dL_law_150 dL_law_152 dL_law_153 dL_law_154 ?_
  refine il_arg (j := 2) hx hb hX hbl hbA hw.1.2.2.2.1 hL (by omega) h0 h4 (by decide) dL_law_155 dL_law_156 dL_law_158 dL_law_159 dL_law_160 ?_
  refine il_arg (j := 3) hx hb hX hbl hbA hw.1.2.2.2.1 hL (by omega) h0 h4 (by decide) dL_law_161 dL_law_162 dL_law_164 dL_law_165 dL_law_166 ?_
  refine il_arg (j := 4) hx hb hX hbl hbA hw.1.2.2.2.1 hL (by omega) h0 h4 (by decide) dL_law_167 dL_law_168 dL_law_170 dL_law_171 dL_law_172 ?_
  refine il_arg (j := 5) hx hb hX hbl hbA hw.1.2.2.2.1 hL (by omega) h0 h4 (by decide) dL_law_173 dL_law_174 dL_law_176 dL_law_177 dL_law_178 ?_
  obtain ⟨Q, hC, hM⟩ := rl_cabinet (X := X) hI (xs (i + 1)) (xs (i + 2)) (xs (i + 3)) (xs (i + 4)) (xs (i + 5))
  refine il_call (ym := mX6_cabinet) (ci := 6) (k := 0) (d := 20) (ty := .int) (av := [.inr (xs (i + 1)), .inr (xs (i + 2)), .inr (xs (i + 3)), .inr (xs (i + 4)), .inr (xs (i + 5))]) (rest := []) hx hb hml hown hts hA ck_19 rfl rfl hC hRm (Nat.zero_le _) hl.1 dL_law_179 rfl hw (fun r σ1 H1 locs1 hq hw => ?_)
  obtain ⟨Q', hC', hM'⟩ := hM r σ1 hq
  refine lv_aload_n hx hb dL_law_182 rfl (lv_at hl 3 rfl) ?_
  refine il_arg (j := 1) hx hb hX hbl hbA hw.1.2.2.2.1 hL (by omega) h0 h4 (by decide) dL_law_183 dL_law_184 dL_law_186 dL_law_187 dL_law_188 ?_
  refine il_arg (j := 2) hx hb hX hbl hbA hw.1.2.2.2.1 hL (by omega) h0 h4 (by decide) dL_law_189 dL_law_190 dL_law_192 dL_law_193 dL_law_194 ?_
  refine il_arg (j := 3) hx hb hX hbl hbA hw.1.2.2.2.1 hL (by omega) h0 h4 (by decide) dL_law_195 dL_law_196 dL_law_198 dL_law_199 dL_law_200 ?_
  refine il_arg (j := 4) hx hb hX hbl hbA hw.1.2.2.2.1 hL (by omega) h0 h4 (by decide) dL_law_201 dL_law_202 dL_law_204 dL_law_205 dL_law_206 ?_
  refine il_arg (j := 5) hx hb hX hbl hbA hw.1.2.2.2.1 hL (by omega) h0 h4 (by decide) dL_law_207 dL_law_208 dL_law_210 dL_law_211 dL_law_212 ?_
  refine il_call (ym := mX7_cabinet) (ci := 7) (k := 37) (d := 20) (ty := .int) (av := [.inr (xs (i + 1)), .inr (xs (i + 2)), .inr (xs (i + 3)), .inr (xs (i + 4)), .inr (xs (i + 5))]) (rest := [.inr r]) hx hb hml hown hts hA ck_23 rfl rfl hC' hRm (Nat.le_of_ble_eq_true rfl) hl.1 dL_law_213 rfl hw (fun r' σ2 H2 locs2 hq' hw => ?_)
  obtain ⟨rfl, hI'⟩ := hM' r' σ2 hq'
  refine lv_icmp_eq (tgt := 950) hx hb dL_law_216 rfl (fun _ => ?_) (fun h => absurd rfl h)
  exact W.widen (by omega) (by omega) (kk σ2 f H2 locs2 ls hw hI' hl)
theorem lc_1 (C : lc_C p s m c args X A R b L xs sa sb) (hRc : cells + 1 ≤ R.cells ∧ slots + 6 ≤ R.slots) (hw : il_Wo X cJ o A s σ f H locs) (hI : iInv σ) (hl : lv_has ls 7 (lc_lv X b o i)) (hi : i + 6 ≤ L)
    (kk : ∀ (σ' : iv_S) (f' : Nat → Int64) (H1 : Heap) (locs1 : List Loc) (ls1 : Array Slot), il_Wo X cJ o A s σ' f' H1 locs1 → iInv σ' → lv_has ls1 7 (lc_lv X b o i) → W p X.1 e R s m args below meth c H1 locs1 (cells + 1) (slots + 6) QM (F0 m 950 ls1 [])) : W p X.1 e R s m args below meth c H locs cells slots QM (F0 m 221 ls []) := by
  have C' := C
  obtain ⟨hx, hb, hml, hown, hts, hA, hX, hbl, hbA, hL, hSx, hZ, hst, hRf, hRl⟩ := C
  have h0 : ls[0]? = some (.val (.ref b)) := lv_at hl 1 rfl
  have h4 : ls[4]? = some (.val (.int (nI i))) := lv_at hl 0 rfl
  have hRm : 20 + 1 ≤ R.frames ∧ 40 * (20 + 1) ≤ R.locals ∧ cells ≤ R.cells ∧ slots ≤ R.slots := ⟨by omega, by omega, by omega, by omega⟩
  refine lv_aload_n hx hb dL_law_221 rfl (lv_at hl 2 rfl) ?_
  refine il_arg (j := 1) hx hb hX hbl hbA hw.1.2.2.2.1 hL (by omega) h0 h4 (by decide) dL_law_222 dL_law_223 dL_law_225 dL_law_226 dL_law_227 ?_
  refine il_arg (j := 2) hx hb hX hbl hbA hw.1.2.2.2.1 hL (by omega) h0 h4 (by decide) dL_law_228 dL_law_229 dL_law_231 dL_law_232 dL_law_233 ?_
  obtain ⟨Q, hC, hM⟩ := rl_pack (X := X) hI (xs (i + 1)) (xs (i + 2))
  refine il_call (ym := mX6_pack) (ci := 6) (k := 0) (d := 20) (ty := .int) (av := [.inr (xs (i + 1)), .inr (xs (i + 2))]) (rest := []) hx hb hml hown hts hA ck_24 rfl rfl hC hRm (Nat.zero_le _) hl.1 dL_law_234 rfl hw (fun r σ1 H1 locs1 hq hw => ?_)
  obtain ⟨Q', hC', hM'⟩ := hM r σ1 hq
  refine lv_aload_n hx hb dL_law_237 rfl (lv_at hl 3 rfl) ?_
  refine il_arg (j := 1) hx hb hX hbl hbA hw.1.2.2.2.1 hL (by omega) h0 h4 (by decide) dL_law_238 dL_law_239 dL_law_241 dL_law_242 dL_law_243 ?_
  refine il_arg (j := 2) hx hb hX hbl hbA hw.1.2.2.2.1 hL (by omega) h0 h4 (by decide) dL_law_244 dL_law_245 dL_law_247 dL_law_248 dL_law_249 ?_
  refine il_call (ym := mX7_pack) (ci := 7) (k := 37) (d := 20) (ty := .int) (av := [.inr (xs (i + 1)), .inr (xs (i + 2))]) (rest := [.inr r]) hx hb hml hown hts hA ck_27 rfl rfl hC' hRm (Nat.le_of_ble_eq_true rfl) hl.1 dL_law_250 rfl hw (fun r' σ2 H2 locs2 hq' hw => ?_)
  obtain ⟨rfl, hI'⟩ := hM' r' σ2 hq'
  refine lv_icmp_eq (tgt := 950) hx hb dL_law_253 rfl (fun _ => ?_) (fun h => absurd rfl h)
  exact W.widen (by omega) (by omega) (kk σ2 f H2 locs2 ls hw hI' hl)
theorem lc_2 (C : lc_C p s m c args X A R b L xs sa sb) (hRc : cells + 1 ≤ R.cells ∧ slots + 6 ≤ R.slots) (hw : il_Wo X cJ o A s σ f H locs) (hI : iInv σ) (hl : lv_has ls 7 (lc_lv X b o i)) (hi : i + 6 ≤ L)
    (kk : ∀ (σ' : iv_S) (f' : Nat → Int64) (H1 : Heap) (locs1 : List Loc) (ls1 : Array Slot), il_Wo X cJ o A s σ' f' H1 locs1 → iInv σ' → lv_has ls1 7 (lc_lv X b o i) → W p X.1 e R s m args below meth c H1 locs1 (cells + 1) (slots + 6) QM (F0 m 950 ls1 [])) : W p X.1 e R s m args below meth c H locs cells slots QM (F0 m 258 ls []) := by
  have C' := C
  obtain ⟨hx, hb, hml, hown, hts, hA, hX, hbl, hbA, hL, hSx, hZ, hst, hRf, hRl⟩ := C
  have h0 : ls[0]? = some (.val (.ref b)) := lv_at hl 1 rfl
  have h4 : ls[4]? = some (.val (.int (nI i))) := lv_at hl 0 rfl
  have hRm : 20 + 1 ≤ R.frames ∧ 40 * (20 + 1) ≤ R.locals ∧ cells ≤ R.cells ∧ slots ≤ R.slots := ⟨by omega, by omega, by omega, by omega⟩
  refine lv_aload_n hx hb dL_law_258 rfl (lv_at hl 2 rfl) ?_
  refine il_arg (j := 1) hx hb hX hbl hbA hw.1.2.2.2.1 hL (by omega) h0 h4 (by decide) dL_law_259 dL_law_260 dL_law_262 dL_law_263 dL_law_264 ?_
  refine il_arg (j := 2) hx hb hX hbl hbA hw.1.2.2.2.1 hL (by omega) h0 h4 (by decide) dL_law_265 dL_law_266 dL_law_268 dL_law_269 dL_law_270 ?_
  refine il_callS (ym := mX6_set) (ci := 6) (k := 0) (d := 20) (ty := .int) (av := [.inr (xs (i + 1)), .inr (xs (i + 2))]) (rest := []) hx hb hml hown hts hA hSx ck_28 rfl rfl (ct_set (xs (i + 1)) (xs (i + 2))) hRm (Nat.zero_le _) hl.1 dL_law_271 rfl hw (fun r σ1 H1 locs1 hq hw => ?_)
  obtain ⟨Q', hC', hM'⟩ := rl_set (X := X) hI (xs (i + 1)) (xs (i + 2)) r σ1 hq
  refine lv_aload_n hx hb dL_law_274 rfl (lv_at hl 3 rfl) ?_
  refine il_arg (j := 1) hx hb hX hbl hbA hw.1.2.2.2.1 hL (by omega) h0 h4 (by decide) dL_law_275 dL_law_276 dL_law_278 dL_law_279 dL_law_280 ?_
  refine il_arg (j := 2) hx hb hX hbl hbA hw.1.2.2.2.1 hL (by omega) h0 h4 (by decide) dL_law_281 dL_law_282 dL_law_284 dL_law_285 dL_law_286 ?_
  refine il_call (ym := mX7_set) (ci := 7) (k := 37) (d := 20) (ty := .int) (av := [.inr (xs (i + 1)), .inr (xs (i + 2))]) (rest := [.inr r]) hx hb hml hown hts hA ck_31 rfl rfl hC' hRm (Nat.le_of_ble_eq_true rfl) hl.1 dL_law_287 rfl hw (fun r' σ2 H2 locs2 hq' hw => ?_)
  obtain ⟨rfl, hI'⟩ := hM' r' σ2 hq'
  refine lv_icmp_eq (tgt := 950) hx hb dL_law_290 rfl (fun _ => ?_) (fun h => absurd rfl h)
  exact W.widen (by omega) (by omega) (kk σ2 f H2 locs2 ls hw hI' hl)
theorem lc_3 (C : lc_C p s m c args X A R b L xs sa sb) (hRc : cells + 1 ≤ R.cells ∧ slots + 6 ≤ R.slots) (hw : il_Wo X cJ o A s σ f H locs) (hI : iInv σ) (hl : lv_has ls 7 (lc_lv X b o i)) (hi : i + 6 ≤ L)
    (kk : ∀ (σ' : iv_S) (f' : Nat → Int64) (H1 : Heap) (locs1 : List Loc) (ls1 : Array Slot), il_Wo X cJ o A s σ' f' H1 locs1 → iInv σ' → lv_has ls1 7 (lc_lv X b o i) → W p X.1 e R s m args below meth c H1 locs1 (cells + 1) (slots + 6) QM (F0 m 950 ls1 [])) : W p X.1 e R s m args below meth c H locs cells slots QM (F0 m 295 ls []) := by
  have C' := C
  obtain ⟨hx, hb, hml, hown, hts, hA, hX, hbl, hbA, hL, hSx, hZ, hst, hRf, hRl⟩ := C
  have h0 : ls[0]? = some (.val (.ref b)) := lv_at hl 1 rfl
  have h4 : ls[4]? = some (.val (.int (nI i))) := lv_at hl 0 rfl
  have hRm : 20 + 1 ≤ R.frames ∧ 40 * (20 + 1) ≤ R.locals ∧ cells ≤ R.cells ∧ slots ≤ R.slots := ⟨by omega, by omega, by omega, by omega⟩
  refine lv_aload_n hx hb dL_law_295 rfl (lv_at hl 2 rfl) ?_
  refine il_arg (j := 1) hx hb hX hbl hbA hw.1.2.2.2.1 hL (by omega) h0 h4 (by decide) dL_law_296 dL_law_297 dL_law_299 dL_law_300 dL_law_301 ?_
  refine il_arg (j := 2) hx hb hX hbl hbA hw.1.2.2.2.1 hL (by omega) h0 h4 (by decide) dL_law_302 dL_law_303 dL_law_305 dL_law_306 dL_law_307 ?_
  obtain ⟨Q, hC, hM⟩ := rl_price (X := X) hI (xs (i + 1)) (xs (i + 2))
  refine il_call (ym := mX6_price) (ci := 6) (k := 0) (d := 20) (ty := .boolean) (av := [.inr (xs (i + 1)), .inr (xs (i + 2))]) (rest := []) hx hb hml hown hts hA ck_32 rfl rfl hC hRm (Nat.zero_le _) hl.1 dL_law_308 rfl hw (fun r σ1 H1 locs1 hq hw => ?_)
  obtain ⟨Q', hC', hM'⟩ := hM r σ1 hq
  refine lv_aload_n hx hb dL_law_311 rfl (lv_at hl 3 rfl) ?_
  refine il_arg (j := 1) hx hb hX hbl hbA hw.1.2.2.2.1 hL (by omega) h0 h4 (by decide) dL_law_312 dL_law_313 dL_law_315 dL_law_316 dL_law_317 ?_
  refine il_arg (j := 2) hx hb hX hbl hbA hw.1.2.2.2.1 hL (by omega) h0 h4 (by decide) dL_law_318 dL_law_319 dL_law_321 dL_law_322 dL_law_323 ?_
  refine il_call (ym := mX7_price) (ci := 7) (k := 37) (d := 20) (ty := .boolean) (av := [.inr (xs (i + 1)), .inr (xs (i + 2))]) (rest := [.inr r]) hx hb hml hown hts hA ck_36 rfl rfl hC' hRm (Nat.le_of_ble_eq_true rfl) hl.1 dL_law_324 rfl hw (fun r' σ2 H2 locs2 hq' hw => ?_)
  obtain ⟨rfl, hI'⟩ := hM' r' σ2 hq'
  refine lv_icmp_eq (tgt := 950) hx hb dL_law_327 rfl (fun _ => ?_) (fun h => absurd rfl h)
  exact W.widen (by omega) (by omega) (kk σ2 f H2 locs2 ls hw hI' hl)
theorem lc_4 (C : lc_C p s m c args X A R b L xs sa sb) (hRc : cells + 1 ≤ R.cells ∧ slots + 6 ≤ R.slots) (hw : il_Wo X cJ o A s σ f H locs) (hI : iInv σ) (hl : lv_has ls 7 (lc_lv X b o i)) (hi : i + 6 ≤ L)
    (kk : ∀ (σ' : iv_S) (f' : Nat → Int64) (H1 : Heap) (locs1 : List Loc) (ls1 : Array Slot), il_Wo X cJ o A s σ' f' H1 locs1 → iInv σ' → lv_has ls1 7 (lc_lv X b o i) → W p X.1 e R s m args below meth c H1 locs1 (cells + 1) (slots + 6) QM (F0 m 950 ls1 [])) : W p X.1 e R s m args below meth c H locs cells slots QM (F0 m 332 ls []) := by
  have C' := C
  obtain ⟨hx, hb, hml, hown, hts, hA, hX, hbl, hbA, hL, hSx, hZ, hst, hRf, hRl⟩ := C
  have h0 : ls[0]? = some (.val (.ref b)) := lv_at hl 1 rfl
  have h4 : ls[4]? = some (.val (.int (nI i))) := lv_at hl 0 rfl
  have hRm : 20 + 1 ≤ R.frames ∧ 40 * (20 + 1) ≤ R.locals ∧ cells ≤ R.cells ∧ slots ≤ R.slots := ⟨by omega, by omega, by omega, by omega⟩
  by_cases hbb : xs (i + 2) = 0
  · refine lv_aload_n hx hb dL_law_332 rfl (lv_at hl 2 rfl) ?_
    refine il_arg (j := 1) hx hb hX hbl hbA hw.1.2.2.2.1 hL (by omega) h0 h4 (by decide) dL_law_333 dL_law_334 dL_law_336 dL_law_337 dL_law_338 ?_
    refine il_arg (j := 2) hx hb hX hbl hbA hw.1.2.2.2.1 hL (by omega) h0 h4 (by decide) dL_law_339 dL_law_340 dL_law_342 dL_law_343 dL_law_344 ?_
    refine lv_if_eq (tgt := 352) hx hb dL_law_345 rfl (fun _ => ?_) (fun h => absurd hbb h)
    refine lv_iconst (v := 0) hx hb dL_law_352 (by decide) ?_
    obtain ⟨Q, hC, hM⟩ := rl_sick (X := X) hI (xs (i + 1)) (0)
    refine il_call (ym := mX6_sick) (ci := 6) (k := 0) (d := 20) (ty := .boolean) (av := [.inr (xs (i + 1)), .inr (0)]) (rest := []) hx hb hml hown hts hA ck_37 rfl rfl hC hRm (Nat.zero_le _) hl.1 dL_law_353 rfl hw (fun r σ1 H1 locs1 hq hw => ?_)
    obtain ⟨Q', hC', hM'⟩ := hM r σ1 hq
    refine lv_aload_n hx hb dL_law_356 rfl (lv_at hl 3 rfl) ?_
    refine il_arg (j := 1) hx hb hX hbl hbA hw.1.2.2.2.1 hL (by omega) h0 h4 (by decide) dL_law_357 dL_law_358 dL_law_360 dL_law_361 dL_law_362 ?_
    refine il_arg (j := 2) hx hb hX hbl hbA hw.1.2.2.2.1 hL (by omega) h0 h4 (by decide) dL_law_363 dL_law_364 dL_law_366 dL_law_367 dL_law_368 ?_
    refine lv_if_eq (tgt := 376) hx hb dL_law_369 rfl (fun _ => ?_) (fun h => absurd hbb h)
    refine lv_iconst (v := 0) hx hb dL_law_376 (by decide) ?_
    refine il_call (ym := mX7_sick) (ci := 7) (k := 37) (d := 20) (ty := .boolean) (av := [.inr (xs (i + 1)), .inr (0)]) (rest := [.inr r]) hx hb hml hown hts hA ck_41 rfl rfl hC' hRm (Nat.le_of_ble_eq_true rfl) hl.1 dL_law_377 rfl hw (fun r' σ2 H2 locs2 hq' hw => ?_)
    obtain ⟨rfl, hI'⟩ := hM' r' σ2 hq'
    refine lv_icmp_eq (tgt := 950) hx hb dL_law_380 rfl (fun _ => ?_) (fun h => absurd rfl h)
    exact W.widen (by omega) (by omega) (kk σ2 f H2 locs2 ls hw hI' hl)
  · refine lv_aload_n hx hb dL_law_332 rfl (lv_at hl 2 rfl) ?_
    refine il_arg (j := 1) hx hb hX hbl hbA hw.1.2.2.2.1 hL (by omega) h0 h4 (by decide) dL_law_333 dL_law_334 dL_law_336 dL_law_337 dL_law_338 ?_
    refine il_arg (j := 2) hx hb hX hbl hbA hw.1.2.2.2.1 hL (by omega) h0 h4 (by decide) dL_law_339 dL_law_340 dL_law_342 dL_law_343 dL_law_344 ?_
    refine lv_if_eq (tgt := 352) hx hb dL_law_345 rfl (fun h => absurd h hbb) (fun _ => ?_)
    refine lv_iconst (v := 1) hx hb dL_law_348 (by decide) ?_
    refine lv_goto (tgt := 353) hx hb dL_law_349 rfl ?_
    obtain ⟨Q, hC, hM⟩ := rl_sick (X := X) hI (xs (i + 1)) (1)
    refine il_call (ym := mX6_sick) (ci := 6) (k := 0) (d := 20) (ty := .boolean) (av := [.inr (xs (i + 1)), .inr (1)]) (rest := []) hx hb hml hown hts hA ck_37 rfl rfl hC hRm (Nat.zero_le _) hl.1 dL_law_353 rfl hw (fun r σ1 H1 locs1 hq hw => ?_)
    obtain ⟨Q', hC', hM'⟩ := hM r σ1 hq
    refine lv_aload_n hx hb dL_law_356 rfl (lv_at hl 3 rfl) ?_
    refine il_arg (j := 1) hx hb hX hbl hbA hw.1.2.2.2.1 hL (by omega) h0 h4 (by decide) dL_law_357 dL_law_358 dL_law_360 dL_law_361 dL_law_362 ?_
    refine il_arg (j := 2) hx hb hX hbl hbA hw.1.2.2.2.1 hL (by omega) h0 h4 (by decide) dL_law_363 dL_law_364 dL_law_366 dL_law_367 dL_law_368 ?_
    refine lv_if_eq (tgt := 376) hx hb dL_law_369 rfl (fun h => absurd h hbb) (fun _ => ?_)
    refine lv_iconst (v := 1) hx hb dL_law_372 (by decide) ?_
    refine lv_goto (tgt := 377) hx hb dL_law_373 rfl ?_
    refine il_call (ym := mX7_sick) (ci := 7) (k := 37) (d := 20) (ty := .boolean) (av := [.inr (xs (i + 1)), .inr (1)]) (rest := [.inr r]) hx hb hml hown hts hA ck_41 rfl rfl hC' hRm (Nat.le_of_ble_eq_true rfl) hl.1 dL_law_377 rfl hw (fun r' σ2 H2 locs2 hq' hw => ?_)
    obtain ⟨rfl, hI'⟩ := hM' r' σ2 hq'
    refine lv_icmp_eq (tgt := 950) hx hb dL_law_380 rfl (fun _ => ?_) (fun h => absurd rfl h)
    exact W.widen (by omega) (by omega) (kk σ2 f H2 locs2 ls hw hI' hl)
theorem lc_5 (C : lc_C p s m c args X A R b L xs sa sb) (hRc : cells + 1 ≤ R.cells ∧ slots + 6 ≤ R.slots) (hw : il_Wo X cJ o A s σ f H locs) (hI : iInv σ) (hl : lv_has ls 7 (lc_lv X b o i)) (hi : i + 6 ≤ L)
    (kk : ∀ (σ' : iv_S) (f' : Nat → Int64) (H1 : Heap) (locs1 : List Loc) (ls1 : Array Slot), il_Wo X cJ o A s σ' f' H1 locs1 → iInv σ' → lv_has ls1 7 (lc_lv X b o i) → W p X.1 e R s m args below meth c H1 locs1 (cells + 1) (slots + 6) QM (F0 m 950 ls1 [])) : W p X.1 e R s m args below meth c H locs cells slots QM (F0 m 385 ls []) := by
  have C' := C
  obtain ⟨hx, hb, hml, hown, hts, hA, hX, hbl, hbA, hL, hSx, hZ, hst, hRf, hRl⟩ := C
  have h0 : ls[0]? = some (.val (.ref b)) := lv_at hl 1 rfl
  have h4 : ls[4]? = some (.val (.int (nI i))) := lv_at hl 0 rfl
  have hRm : 20 + 1 ≤ R.frames ∧ 40 * (20 + 1) ≤ R.locals ∧ cells ≤ R.cells ∧ slots ≤ R.slots := ⟨by omega, by omega, by omega, by omega⟩
  refine lv_aload_n hx hb dL_law_385 rfl (lv_at hl 2 rfl) ?_
  refine il_arg (j := 1) hx hb hX hbl hbA hw.1.2.2.2.1 hL (by omega) h0 h4 (by decide) dL_law_386 dL_law_387 dL_law_389 dL_law_390 dL_law_391 ?_
  obtain ⟨Q, hC, hM⟩ := rl_take (X := X) hI (xs (i + 1))
  refine il_call (ym := mX6_take) (ci := 6) (k := 0) (d := 20) (ty := .int) (av := [.inr (xs (i + 1))]) (rest := []) hx hb hml hown hts hA ck_42 rfl rfl hC hRm (Nat.zero_le _) hl.1 dL_law_392 rfl hw (fun r σ1 H1 locs1 hq hw => ?_)
  obtain ⟨Q', hC', hM'⟩ := hM r σ1 hq
  refine lv_aload_n hx hb dL_law_395 rfl (lv_at hl 3 rfl) ?_
  refine il_arg (j := 1) hx hb hX hbl hbA hw.1.2.2.2.1 hL (by omega) h0 h4 (by decide) dL_law_396 dL_law_397 dL_law_399 dL_law_400 dL_law_401 ?_
  refine il_call (ym := mX7_take) (ci := 7) (k := 37) (d := 20) (ty := .int) (av := [.inr (xs (i + 1))]) (rest := [.inr r]) hx hb hml hown hts hA ck_46 rfl rfl hC' hRm (Nat.le_of_ble_eq_true rfl) hl.1 dL_law_402 rfl hw (fun r' σ2 H2 locs2 hq' hw => ?_)
  obtain ⟨rfl, hI'⟩ := hM' r' σ2 hq'
  refine lv_icmp_eq (tgt := 950) hx hb dL_law_405 rfl (fun _ => ?_) (fun h => absurd rfl h)
  exact W.widen (by omega) (by omega) (kk σ2 f H2 locs2 ls hw hI' hl)
theorem lc_6 (C : lc_C p s m c args X A R b L xs sa sb) (hRc : cells + 1 ≤ R.cells ∧ slots + 6 ≤ R.slots) (hw : il_Wo X cJ o A s σ f H locs) (hI : iInv σ) (hl : lv_has ls 7 (lc_lv X b o i)) (hi : i + 6 ≤ L)
    (kk : ∀ (σ' : iv_S) (f' : Nat → Int64) (H1 : Heap) (locs1 : List Loc) (ls1 : Array Slot), il_Wo X cJ o A s σ' f' H1 locs1 → iInv σ' → lv_has ls1 7 (lc_lv X b o i) → W p X.1 e R s m args below meth c H1 locs1 (cells + 1) (slots + 6) QM (F0 m 950 ls1 [])) : W p X.1 e R s m args below meth c H locs cells slots QM (F0 m 410 ls []) := by
  have C' := C
  obtain ⟨hx, hb, hml, hown, hts, hA, hX, hbl, hbA, hL, hSx, hZ, hst, hRf, hRl⟩ := C
  have h0 : ls[0]? = some (.val (.ref b)) := lv_at hl 1 rfl
  have h4 : ls[4]? = some (.val (.int (nI i))) := lv_at hl 0 rfl
  have hRm : 20 + 1 ≤ R.frames ∧ 40 * (20 + 1) ≤ R.locals ∧ cells ≤ R.cells ∧ slots ≤ R.slots := ⟨by omega, by omega, by omega, by omega⟩
  refine lv_aload_n hx hb dL_law_410 rfl (lv_at hl 2 rfl) ?_
  refine il_arg (j := 1) hx hb hX hbl hbA hw.1.2.2.2.1 hL (by omega) h0 h4 (by decide) dL_law_411 dL_law_412 dL_law_414 dL_law_415 dL_law_416 ?_
  refine il_arg (j := 2) hx hb hX hbl hbA hw.1.2.2.2.1 hL (by omega) h0 h4 (by decide) dL_law_417 dL_law_418 dL_law_420 dL_law_421 dL_law_422 ?_
  refine il_arg (j := 3) hx hb hX hbl hbA hw.1.2.2.2.1 hL (by omega) h0 h4 (by decide) dL_law_423 dL_law_424 dL_law_426 dL_law_427 dL_law_428 ?_
  obtain ⟨Q, hC, hM⟩ := rl_swap (X := X) hI (xs (i + 1)) (xs (i + 2)) (xs (i + 3))
  refine il_call (ym := mX6_swap) (ci := 6) (k := 0) (d := 20) (ty := .int) (av := [.inr (xs (i + 1)), .inr (xs (i + 2)), .inr (xs (i + 3))]) (rest := []) hx hb hml hown hts hA ck_47 rfl rfl hC hRm (Nat.zero_le _) hl.1 dL_law_429 rfl hw (fun r σ1 H1 locs1 hq hw => ?_)
  obtain ⟨Q', hC', hM'⟩ := hM r σ1 hq
  refine lv_aload_n hx hb dL_law_432 rfl (lv_at hl 3 rfl) ?_
  refine il_arg (j := 1) hx hb hX hbl hbA hw.1.2.2.2.1 hL (by omega) h0 h4 (by decide) dL_law_433 dL_law_434 dL_law_436 dL_law_437 dL_law_438 ?_
  refine il_arg (j := 2) hx hb hX hbl hbA hw.1.2.2.2.1 hL (by omega) h0 h4 (by decide) dL_law_439 dL_law_440 dL_law_442 dL_law_443 dL_law_444 ?_
  refine il_arg (j := 3) hx hb hX hbl hbA hw.1.2.2.2.1 hL (by omega) h0 h4 (by decide) dL_law_445 dL_law_446 dL_law_448 dL_law_449 dL_law_450 ?_
  refine il_call (ym := mX7_swap) (ci := 7) (k := 37) (d := 20) (ty := .int) (av := [.inr (xs (i + 1)), .inr (xs (i + 2)), .inr (xs (i + 3))]) (rest := [.inr r]) hx hb hml hown hts hA ck_51 rfl rfl hC' hRm (Nat.le_of_ble_eq_true rfl) hl.1 dL_law_451 rfl hw (fun r' σ2 H2 locs2 hq' hw => ?_)
  obtain ⟨rfl, hI'⟩ := hM' r' σ2 hq'
  refine lv_icmp_eq (tgt := 950) hx hb dL_law_454 rfl (fun _ => ?_) (fun h => absurd rfl h)
  exact W.widen (by omega) (by omega) (kk σ2 f H2 locs2 ls hw hI' hl)
theorem lc_7 (C : lc_C p s m c args X A R b L xs sa sb) (hRc : cells + 1 ≤ R.cells ∧ slots + 6 ≤ R.slots) (hw : il_Wo X cJ o A s σ f H locs) (hI : iInv σ) (hl : lv_has ls 7 (lc_lv X b o i)) (hi : i + 6 ≤ L)
    (kk : ∀ (σ' : iv_S) (f' : Nat → Int64) (H1 : Heap) (locs1 : List Loc) (ls1 : Array Slot), il_Wo X cJ o A s σ' f' H1 locs1 → iInv σ' → lv_has ls1 7 (lc_lv X b o i) → W p X.1 e R s m args below meth c H1 locs1 (cells + 1) (slots + 6) QM (F0 m 950 ls1 [])) : W p X.1 e R s m args below meth c H locs cells slots QM (F0 m 459 ls []) := by
  have C' := C
  obtain ⟨hx, hb, hml, hown, hts, hA, hX, hbl, hbA, hL, hSx, hZ, hst, hRf, hRl⟩ := C
  have h0 : ls[0]? = some (.val (.ref b)) := lv_at hl 1 rfl
  have h4 : ls[4]? = some (.val (.int (nI i))) := lv_at hl 0 rfl
  have hRm : 20 + 1 ≤ R.frames ∧ 40 * (20 + 1) ≤ R.locals ∧ cells ≤ R.cells ∧ slots ≤ R.slots := ⟨by omega, by omega, by omega, by omega⟩
  refine lv_aload_n hx hb dL_law_459 rfl (lv_at hl 2 rfl) ?_
  refine il_arg (j := 1) hx hb hX hbl hbA hw.1.2.2.2.1 hL (by omega) h0 h4 (by decide) dL_law_460 dL_law_461 dL_law_463 dL_law_464 dL_law_465 ?_
  refine il_arg (j := 2) hx hb hX hbl hbA hw.1.2.2.2.1 hL (by omega) h0 h4 (by decide) dL_law_466 dL_law_467 dL_law_469 dL_law_470 dL_law_471 ?_
  refine il_arg (j := 3) hx hb hX hbl hbA hw.1.2.2.2.1 hL (by omega) h0 h4 (by decide) dL_law_472 dL_law_473 dL_law_475 dL_law_476 dL_law_477 ?_
  obtain ⟨Q, hC, hM⟩ := rl_bring (X := X) hI (xs (i + 1)) (xs (i + 2)) (xs (i + 3))
  refine il_call (ym := mX6_bring) (ci := 6) (k := 0) (d := 20) (ty := .int) (av := [.inr (xs (i + 1)), .inr (xs (i + 2)), .inr (xs (i + 3))]) (rest := []) hx hb hml hown hts hA ck_52 rfl rfl hC hRm (Nat.zero_le _) hl.1 dL_law_478 rfl hw (fun r σ1 H1 locs1 hq hw => ?_)
  obtain ⟨Q', hC', hM'⟩ := hM r σ1 hq
  refine lv_aload_n hx hb dL_law_481 rfl (lv_at hl 3 rfl) ?_
  refine il_arg (j := 1) hx hb hX hbl hbA hw.1.2.2.2.1 hL (by omega) h0 h4 (by decide) dL_law_482 dL_law_483 dL_law_485 dL_law_486 dL_law_487 ?_
  refine il_arg (j := 2) hx hb hX hbl hbA hw.1.2.2.2.1 hL (by omega) h0 h4 (by decide) dL_law_488 dL_law_489 dL_law_491 dL_law_492 dL_law_493 ?_
  refine il_arg (j := 3) hx hb hX hbl hbA hw.1.2.2.2.1 hL (by omega) h0 h4 (by decide) dL_law_494 dL_law_495 dL_law_497 dL_law_498 dL_law_499 ?_
  refine il_call (ym := mX7_bring) (ci := 7) (k := 37) (d := 20) (ty := .int) (av := [.inr (xs (i + 1)), .inr (xs (i + 2)), .inr (xs (i + 3))]) (rest := [.inr r]) hx hb hml hown hts hA ck_55 rfl rfl hC' hRm (Nat.le_of_ble_eq_true rfl) hl.1 dL_law_500 rfl hw (fun r' σ2 H2 locs2 hq' hw => ?_)
  obtain ⟨rfl, hI'⟩ := hM' r' σ2 hq'
  refine lv_icmp_eq (tgt := 950) hx hb dL_law_503 rfl (fun _ => ?_) (fun h => absurd rfl h)
  exact W.widen (by omega) (by omega) (kk σ2 f H2 locs2 ls hw hI' hl)
theorem lc_8 (C : lc_C p s m c args X A R b L xs sa sb) (hRc : cells + 1 ≤ R.cells ∧ slots + 6 ≤ R.slots) (hw : il_Wo X cJ o A s σ f H locs) (hI : iInv σ) (hl : lv_has ls 7 (lc_lv X b o i)) (hi : i + 6 ≤ L)
    (kk : ∀ (σ' : iv_S) (f' : Nat → Int64) (H1 : Heap) (locs1 : List Loc) (ls1 : Array Slot), il_Wo X cJ o A s σ' f' H1 locs1 → iInv σ' → lv_has ls1 7 (lc_lv X b o i) → W p X.1 e R s m args below meth c H1 locs1 (cells + 1) (slots + 6) QM (F0 m 950 ls1 [])) : W p X.1 e R s m args below meth c H locs cells slots QM (F0 m 508 ls []) := by
  have C' := C
  obtain ⟨hx, hb, hml, hown, hts, hA, hX, hbl, hbA, hL, hSx, hZ, hst, hRf, hRl⟩ := C
  have h0 : ls[0]? = some (.val (.ref b)) := lv_at hl 1 rfl
  have h4 : ls[4]? = some (.val (.int (nI i))) := lv_at hl 0 rfl
  have hRm : 20 + 1 ≤ R.frames ∧ 40 * (20 + 1) ≤ R.locals ∧ cells ≤ R.cells ∧ slots ≤ R.slots := ⟨by omega, by omega, by omega, by omega⟩
  refine lv_aload_n hx hb dL_law_508 rfl (lv_at hl 2 rfl) ?_
  refine il_arg (j := 1) hx hb hX hbl hbA hw.1.2.2.2.1 hL (by omega) h0 h4 (by decide) dL_law_509 dL_law_510 dL_law_512 dL_law_513 dL_law_514 ?_
  refine il_arg (j := 2) hx hb hX hbl hbA hw.1.2.2.2.1 hL (by omega) h0 h4 (by decide) dL_law_515 dL_law_516 dL_law_518 dL_law_519 dL_law_520 ?_
  obtain ⟨Q, hC, hM⟩ := rl_move (X := X) hI (xs (i + 1)) (xs (i + 2))
  refine il_call (ym := mX6_move) (ci := 6) (k := 0) (d := 20) (ty := .boolean) (av := [.inr (xs (i + 1)), .inr (xs (i + 2))]) (rest := []) hx hb hml hown hts hA ck_56 rfl rfl hC hRm (Nat.zero_le _) hl.1 dL_law_521 rfl hw (fun r σ1 H1 locs1 hq hw => ?_)
  obtain ⟨Q', hC', hM'⟩ := hM r σ1 hq
  refine lv_aload_n hx hb dL_law_524 rfl (lv_at hl 3 rfl) ?_
  refine il_arg (j := 1) hx hb hX hbl hbA hw.1.2.2.2.1 hL (by omega) h0 h4 (by decide) dL_law_525 dL_law_526 dL_law_528 dL_law_529 dL_law_530 ?_
  refine il_arg (j := 2) hx hb hX hbl hbA hw.1.2.2.2.1 hL (by omega) h0 h4 (by decide) dL_law_531 dL_law_532 dL_law_534 dL_law_535 dL_law_536 ?_
  refine il_call (ym := mX7_move) (ci := 7) (k := 37) (d := 20) (ty := .boolean) (av := [.inr (xs (i + 1)), .inr (xs (i + 2))]) (rest := [.inr r]) hx hb hml hown hts hA ck_59 rfl rfl hC' hRm (Nat.le_of_ble_eq_true rfl) hl.1 dL_law_537 rfl hw (fun r' σ2 H2 locs2 hq' hw => ?_)
  obtain ⟨rfl, hI'⟩ := hM' r' σ2 hq'
  refine lv_icmp_eq (tgt := 950) hx hb dL_law_540 rfl (fun _ => ?_) (fun h => absurd rfl h)
  exact W.widen (by omega) (by omega) (kk σ2 f H2 locs2 ls hw hI' hl)
theorem lc_9 (C : lc_C p s m c args X A R b L xs sa sb) (hRc : cells + 1 ≤ R.cells ∧ slots + 6 ≤ R.slots) (hw : il_Wo X cJ o A s σ f H locs) (hI : iInv σ) (hl : lv_has ls 7 (lc_lv X b o i)) (hi : i + 6 ≤ L)
    (kk : ∀ (σ' : iv_S) (f' : Nat → Int64) (H1 : Heap) (locs1 : List Loc) (ls1 : Array Slot), il_Wo X cJ o A s σ' f' H1 locs1 → iInv σ' → lv_has ls1 7 (lc_lv X b o i) → W p X.1 e R s m args below meth c H1 locs1 (cells + 1) (slots + 6) QM (F0 m 950 ls1 [])) : W p X.1 e R s m args below meth c H locs cells slots QM (F0 m 545 ls []) := by
  have C' := C
  obtain ⟨hx, hb, hml, hown, hts, hA, hX, hbl, hbA, hL, hSx, hZ, hst, hRf, hRl⟩ := C
  have h0 : ls[0]? = some (.val (.ref b)) := lv_at hl 1 rfl
  have h4 : ls[4]? = some (.val (.int (nI i))) := lv_at hl 0 rfl
  have hRm : 20 + 1 ≤ R.frames ∧ 40 * (20 + 1) ≤ R.locals ∧ cells ≤ R.cells ∧ slots ≤ R.slots := ⟨by omega, by omega, by omega, by omega⟩
  refine lv_aload_n hx hb dL_law_545 rfl (lv_at hl 2 rfl) ?_
  refine il_arg (j := 1) hx hb hX hbl hbA hw.1.2.2.2.1 hL (by omega) h0 h4 (by decide) dL_law_546 dL_law_547 dL_law_549 dL_law_550 dL_law_551 ?_
  obtain ⟨Q, hC, hM⟩ := rl_run (X := X) hI (xs (i + 1))
  refine il_call (ym := mX6_run) (ci := 6) (k := 0) (d := 20) (ty := .int) (av := [.inr (xs (i + 1))]) (rest := []) hx hb hml hown hts hA ck_60 rfl rfl hC hRm (Nat.zero_le _) hl.1 dL_law_552 rfl hw (fun r σ1 H1 locs1 hq hw => ?_)
  obtain ⟨Q', hC', hM'⟩ := hM r σ1 hq
  refine lv_aload_n hx hb dL_law_555 rfl (lv_at hl 3 rfl) ?_
  refine il_arg (j := 1) hx hb hX hbl hbA hw.1.2.2.2.1 hL (by omega) h0 h4 (by decide) dL_law_556 dL_law_557 dL_law_559 dL_law_560 dL_law_561 ?_
  refine il_call (ym := mX7_run) (ci := 7) (k := 37) (d := 20) (ty := .int) (av := [.inr (xs (i + 1))]) (rest := [.inr r]) hx hb hml hown hts hA ck_63 rfl rfl hC' hRm (Nat.le_of_ble_eq_true rfl) hl.1 dL_law_562 rfl hw (fun r' σ2 H2 locs2 hq' hw => ?_)
  obtain ⟨rfl, hI'⟩ := hM' r' σ2 hq'
  refine lv_icmp_eq (tgt := 950) hx hb dL_law_565 rfl (fun _ => ?_) (fun h => absurd rfl h)
  exact W.widen (by omega) (by omega) (kk σ2 f H2 locs2 ls hw hI' hl)
theorem lc_10 (C : lc_C p s m c args X A R b L xs sa sb) (hRc : cells + 1 ≤ R.cells ∧ slots + 6 ≤ R.slots) (hw : il_Wo X cJ o A s σ f H locs) (hI : iInv σ) (hl : lv_has ls 7 (lc_lv X b o i)) (hi : i + 6 ≤ L)
    (kk : ∀ (σ' : iv_S) (f' : Nat → Int64) (H1 : Heap) (locs1 : List Loc) (ls1 : Array Slot), il_Wo X cJ o A s σ' f' H1 locs1 → iInv σ' → lv_has ls1 7 (lc_lv X b o i) → W p X.1 e R s m args below meth c H1 locs1 (cells + 1) (slots + 6) QM (F0 m 950 ls1 [])) : W p X.1 e R s m args below meth c H locs cells slots QM (F0 m 570 ls []) := by
  have C' := C
  obtain ⟨hx, hb, hml, hown, hts, hA, hX, hbl, hbA, hL, hSx, hZ, hst, hRf, hRl⟩ := C
  have h0 : ls[0]? = some (.val (.ref b)) := lv_at hl 1 rfl
  have h4 : ls[4]? = some (.val (.int (nI i))) := lv_at hl 0 rfl
  have hRm : 20 + 1 ≤ R.frames ∧ 40 * (20 + 1) ≤ R.locals ∧ cells ≤ R.cells ∧ slots ≤ R.slots := ⟨by omega, by omega, by omega, by omega⟩
  refine lv_aload_n hx hb dL_law_570 rfl (lv_at hl 2 rfl) ?_
  refine il_arg (j := 1) hx hb hX hbl hbA hw.1.2.2.2.1 hL (by omega) h0 h4 (by decide) dL_law_571 dL_law_572 dL_law_574 dL_law_575 dL_law_576 ?_
  obtain ⟨Q, hC, hM⟩ := rl_count (X := X) hI (xs (i + 1))
  refine il_call (ym := mX6_count) (ci := 6) (k := 0) (d := 20) (ty := .int) (av := [.inr (xs (i + 1))]) (rest := []) hx hb hml hown hts hA ck_64 rfl rfl hC hRm (Nat.zero_le _) hl.1 dL_law_577 rfl hw (fun r σ1 H1 locs1 hq hw => ?_)
  obtain ⟨Q', hC', hM'⟩ := hM r σ1 hq
  refine lv_aload_n hx hb dL_law_580 rfl (lv_at hl 3 rfl) ?_
  refine il_arg (j := 1) hx hb hX hbl hbA hw.1.2.2.2.1 hL (by omega) h0 h4 (by decide) dL_law_581 dL_law_582 dL_law_584 dL_law_585 dL_law_586 ?_
  refine il_call (ym := mX7_count) (ci := 7) (k := 37) (d := 20) (ty := .int) (av := [.inr (xs (i + 1))]) (rest := [.inr r]) hx hb hml hown hts hA ck_67 rfl rfl hC' hRm (Nat.le_of_ble_eq_true rfl) hl.1 dL_law_587 rfl hw (fun r' σ2 H2 locs2 hq' hw => ?_)
  obtain ⟨rfl, hI'⟩ := hM' r' σ2 hq'
  refine lv_icmp_eq (tgt := 950) hx hb dL_law_590 rfl (fun _ => ?_) (fun h => absurd rfl h)
  exact W.widen (by omega) (by omega) (kk σ2 f H2 locs2 ls hw hI' hl)
theorem lc_12 (C : lc_C p s m c args X A R b L xs sa sb) (hRc : cells + 1 ≤ R.cells ∧ slots + 6 ≤ R.slots) (hw : il_Wo X cJ o A s σ f H locs) (hI : iInv σ) (hl : lv_has ls 7 (lc_lv X b o i)) (hi : i + 6 ≤ L)
    (kk : ∀ (σ' : iv_S) (f' : Nat → Int64) (H1 : Heap) (locs1 : List Loc) (ls1 : Array Slot), il_Wo X cJ o A s σ' f' H1 locs1 → iInv σ' → lv_has ls1 7 (lc_lv X b o i) → W p X.1 e R s m args below meth c H1 locs1 (cells + 1) (slots + 6) QM (F0 m 950 ls1 [])) : W p X.1 e R s m args below meth c H locs cells slots QM (F0 m 663 ls []) := by
  have C' := C
  obtain ⟨hx, hb, hml, hown, hts, hA, hX, hbl, hbA, hL, hSx, hZ, hst, hRf, hRl⟩ := C
  have h0 : ls[0]? = some (.val (.ref b)) := lv_at hl 1 rfl
  have h4 : ls[4]? = some (.val (.int (nI i))) := lv_at hl 0 rfl
  have hRm : 20 + 1 ≤ R.frames ∧ 40 * (20 + 1) ≤ R.locals ∧ cells ≤ R.cells ∧ slots ≤ R.slots := ⟨by omega, by omega, by omega, by omega⟩
  refine lv_aload_n hx hb dL_law_663 rfl (lv_at hl 2 rfl) ?_
  refine il_arg (j := 1) hx hb hX hbl hbA hw.1.2.2.2.1 hL (by omega) h0 h4 (by decide) dL_law_664 dL_law_665 dL_law_667 dL_law_668 dL_law_669 ?_
  refine il_arg (j := 2) hx hb hX hbl hbA hw.1.2.2.2.1 hL (by omega) h0 h4 (by decide) dL_law_670 dL_law_671 dL_law_673 dL_law_674 dL_law_675 ?_
  obtain ⟨Q, hC, hM⟩ := rl_in (X := X) hI (xs (i + 1)) (xs (i + 2))
  refine il_call (ym := mX6_in) (ci := 6) (k := 0) (d := 20) (ty := .int) (av := [.inr (xs (i + 1)), .inr (xs (i + 2))]) (rest := []) hx hb hml hown hts hA ck_78 rfl rfl hC hRm (Nat.zero_le _) hl.1 dL_law_676 rfl hw (fun r σ1 H1 locs1 hq hw => ?_)
  obtain ⟨Q', hC', hM'⟩ := hM r σ1 hq
  refine lv_aload_n hx hb dL_law_679 rfl (lv_at hl 3 rfl) ?_
  refine il_arg (j := 1) hx hb hX hbl hbA hw.1.2.2.2.1 hL (by omega) h0 h4 (by decide) dL_law_680 dL_law_681 dL_law_683 dL_law_684 dL_law_685 ?_
  refine il_arg (j := 2) hx hb hX hbl hbA hw.1.2.2.2.1 hL (by omega) h0 h4 (by decide) dL_law_686 dL_law_687 dL_law_689 dL_law_690 dL_law_691 ?_
  refine il_call (ym := mX7_in_) (ci := 7) (k := 37) (d := 20) (ty := .int) (av := [.inr (xs (i + 1)), .inr (xs (i + 2))]) (rest := [.inr r]) hx hb hml hown hts hA ck_81 rfl rfl hC' hRm (Nat.le_of_ble_eq_true rfl) hl.1 dL_law_692 rfl hw (fun r' σ2 H2 locs2 hq' hw => ?_)
  obtain ⟨rfl, hI'⟩ := hM' r' σ2 hq'
  refine lv_icmp_eq (tgt := 950) hx hb dL_law_695 rfl (fun _ => ?_) (fun h => absurd rfl h)
  exact W.widen (by omega) (by omega) (kk σ2 f H2 locs2 ls hw hI' hl)
theorem lc_13 (C : lc_C p s m c args X A R b L xs sa sb) (hRc : cells + 1 ≤ R.cells ∧ slots + 6 ≤ R.slots) (hw : il_Wo X cJ o A s σ f H locs) (hI : iInv σ) (hl : lv_has ls 7 (lc_lv X b o i)) (hi : i + 6 ≤ L)
    (kk : ∀ (σ' : iv_S) (f' : Nat → Int64) (H1 : Heap) (locs1 : List Loc) (ls1 : Array Slot), il_Wo X cJ o A s σ' f' H1 locs1 → iInv σ' → lv_has ls1 7 (lc_lv X b o i) → W p X.1 e R s m args below meth c H1 locs1 (cells + 1) (slots + 6) QM (F0 m 950 ls1 [])) : W p X.1 e R s m args below meth c H locs cells slots QM (F0 m 700 ls []) := by
  have C' := C
  obtain ⟨hx, hb, hml, hown, hts, hA, hX, hbl, hbA, hL, hSx, hZ, hst, hRf, hRl⟩ := C
  have h0 : ls[0]? = some (.val (.ref b)) := lv_at hl 1 rfl
  have h4 : ls[4]? = some (.val (.int (nI i))) := lv_at hl 0 rfl
  have hRm : 20 + 1 ≤ R.frames ∧ 40 * (20 + 1) ≤ R.locals ∧ cells ≤ R.cells ∧ slots ≤ R.slots := ⟨by omega, by omega, by omega, by omega⟩
  refine lv_aload_n hx hb dL_law_700 rfl (lv_at hl 2 rfl) ?_
  refine il_arg (j := 1) hx hb hX hbl hbA hw.1.2.2.2.1 hL (by omega) h0 h4 (by decide) dL_law_701 dL_law_702 dL_law_704 dL_law_705 dL_law_706 ?_
  obtain ⟨Q, hC, hM⟩ := rl_need (X := X) hI (xs (i + 1))
  refine il_call (ym := mX6_need) (ci := 6) (k := 0) (d := 20) (ty := .int) (av := [.inr (xs (i + 1))]) (rest := []) hx hb hml hown hts hA ck_82 rfl rfl hC hRm (Nat.zero_le _) hl.1 dL_law_707 rfl hw (fun r σ1 H1 locs1 hq hw => ?_)
  obtain ⟨Q', hC', hM'⟩ := hM r σ1 hq
  refine lv_aload_n hx hb dL_law_710 rfl (lv_at hl 3 rfl) ?_
  refine il_arg (j := 1) hx hb hX hbl hbA hw.1.2.2.2.1 hL (by omega) h0 h4 (by decide) dL_law_711 dL_law_712 dL_law_714 dL_law_715 dL_law_716 ?_
  refine il_call (ym := mX7_need) (ci := 7) (k := 37) (d := 20) (ty := .int) (av := [.inr (xs (i + 1))]) (rest := [.inr r]) hx hb hml hown hts hA ck_85 rfl rfl hC' hRm (Nat.le_of_ble_eq_true rfl) hl.1 dL_law_717 rfl hw (fun r' σ2 H2 locs2 hq' hw => ?_)
  obtain ⟨rfl, hI'⟩ := hM' r' σ2 hq'
  refine lv_icmp_eq (tgt := 950) hx hb dL_law_720 rfl (fun _ => ?_) (fun h => absurd rfl h)
  exact W.widen (by omega) (by omega) (kk σ2 f H2 locs2 ls hw hI' hl)
theorem lc_14 (C : lc_C p s m c args X A R b L xs sa sb) (hRc : cells + 1 ≤ R.cells ∧ slots + 6 ≤ R.slots) (hw : il_Wo X cJ o A s σ f H locs) (hI : iInv σ) (hl : lv_has ls 7 (lc_lv X b o i)) (hi : i + 6 ≤ L)
    (kk : ∀ (σ' : iv_S) (f' : Nat → Int64) (H1 : Heap) (locs1 : List Loc) (ls1 : Array Slot), il_Wo X cJ o A s σ' f' H1 locs1 → iInv σ' → lv_has ls1 7 (lc_lv X b o i) → W p X.1 e R s m args below meth c H1 locs1 (cells + 1) (slots + 6) QM (F0 m 950 ls1 [])) : W p X.1 e R s m args below meth c H locs cells slots QM (F0 m 725 ls []) := by
  have C' := C
  obtain ⟨hx, hb, hml, hown, hts, hA, hX, hbl, hbA, hL, hSx, hZ, hst, hRf, hRl⟩ := C
  have h0 : ls[0]? = some (.val (.ref b)) := lv_at hl 1 rfl
  have h4 : ls[4]? = some (.val (.int (nI i))) := lv_at hl 0 rfl
  have hRm : 20 + 1 ≤ R.frames ∧ 40 * (20 + 1) ≤ R.locals ∧ cells ≤ R.cells ∧ slots ≤ R.slots := ⟨by omega, by omega, by omega, by omega⟩
  refine lv_aload_n hx hb dL_law_725 rfl (lv_at hl 2 rfl) ?_
  obtain ⟨Q, hC, hM⟩ := rl_clear (X := X) hI 
  refine il_call (ym := mX6_clear) (ci := 6) (k := 0) (d := 20) (ty := .int) (av := []) (rest := []) hx hb hml hown hts hA ck_86 rfl rfl hC hRm (Nat.zero_le _) hl.1 dL_law_726 rfl hw (fun r σ1 H1 locs1 hq hw => ?_)
  obtain ⟨Q', hC', hM'⟩ := hM r σ1 hq
  refine lv_aload_n hx hb dL_law_729 rfl (lv_at hl 3 rfl) ?_
  refine il_call (ym := mX7_clear) (ci := 7) (k := 37) (d := 20) (ty := .int) (av := []) (rest := [.inr r]) hx hb hml hown hts hA ck_89 rfl rfl hC' hRm (Nat.le_of_ble_eq_true rfl) hl.1 dL_law_730 rfl hw (fun r' σ2 H2 locs2 hq' hw => ?_)
  obtain ⟨rfl, hI'⟩ := hM' r' σ2 hq'
  refine lv_icmp_eq (tgt := 950) hx hb dL_law_733 rfl (fun _ => ?_) (fun h => absurd rfl h)
  exact W.widen (by omega) (by omega) (kk σ2 f H2 locs2 ls hw hI' hl)
theorem lc_15 (C : lc_C p s m c args X A R b L xs sa sb) (hRc : cells + 1 ≤ R.cells ∧ slots + 6 ≤ R.slots) (hw : il_Wo X cJ o A s σ f H locs) (hI : iInv σ) (hl : lv_has ls 7 (lc_lv X b o i)) (hi : i + 6 ≤ L)
    (kk : ∀ (σ' : iv_S) (f' : Nat → Int64) (H1 : Heap) (locs1 : List Loc) (ls1 : Array Slot), il_Wo X cJ o A s σ' f' H1 locs1 → iInv σ' → lv_has ls1 7 (lc_lv X b o i) → W p X.1 e R s m args below meth c H1 locs1 (cells + 1) (slots + 6) QM (F0 m 950 ls1 [])) : W p X.1 e R s m args below meth c H locs cells slots QM (F0 m 738 ls []) := by
  have C' := C
  obtain ⟨hx, hb, hml, hown, hts, hA, hX, hbl, hbA, hL, hSx, hZ, hst, hRf, hRl⟩ := C
  have h0 : ls[0]? = some (.val (.ref b)) := lv_at hl 1 rfl
  have h4 : ls[4]? = some (.val (.int (nI i))) := lv_at hl 0 rfl
  have hRm : 20 + 1 ≤ R.frames ∧ 40 * (20 + 1) ≤ R.locals ∧ cells ≤ R.cells ∧ slots ≤ R.slots := ⟨by omega, by omega, by omega, by omega⟩
  refine lv_aload_n hx hb dL_law_738 rfl (lv_at hl 2 rfl) ?_
  refine il_arg (j := 1) hx hb hX hbl hbA hw.1.2.2.2.1 hL (by omega) h0 h4 (by decide) dL_law_739 dL_law_740 dL_law_742 dL_law_743 dL_law_744 ?_
  obtain ⟨Q, hC, hM⟩ := rl_plan (X := X) hI (xs (i + 1))
  refine il_call (ym := mX6_plan) (ci := 6) (k := 0) (d := 20) (ty := .int) (av := [.inr (xs (i + 1))]) (rest := []) hx hb hml hown hts hA ck_90 rfl rfl hC hRm (Nat.zero_le _) hl.1 dL_law_745 rfl hw (fun r σ1 H1 locs1 hq hw => ?_)
  obtain ⟨Q', hC', hM'⟩ := hM r σ1 hq
  refine lv_aload_n hx hb dL_law_748 rfl (lv_at hl 3 rfl) ?_
  refine il_arg (j := 1) hx hb hX hbl hbA hw.1.2.2.2.1 hL (by omega) h0 h4 (by decide) dL_law_749 dL_law_750 dL_law_752 dL_law_753 dL_law_754 ?_
  refine il_call (ym := mX7_plan) (ci := 7) (k := 37) (d := 20) (ty := .int) (av := [.inr (xs (i + 1))]) (rest := [.inr r]) hx hb hml hown hts hA ck_93 rfl rfl hC' hRm (Nat.le_of_ble_eq_true rfl) hl.1 dL_law_755 rfl hw (fun r' σ2 H2 locs2 hq' hw => ?_)
  obtain ⟨rfl, hI'⟩ := hM' r' σ2 hq'
  refine lv_icmp_eq (tgt := 950) hx hb dL_law_758 rfl (fun _ => ?_) (fun h => absurd rfl h)
  exact W.widen (by omega) (by omega) (kk σ2 f H2 locs2 ls hw hI' hl)
theorem lc_16 (C : lc_C p s m c args X A R b L xs sa sb) (hRc : cells + 1 ≤ R.cells ∧ slots + 6 ≤ R.slots) (hw : il_Wo X cJ o A s σ f H locs) (hI : iInv σ) (hl : lv_has ls 7 (lc_lv X b o i)) (hi : i + 6 ≤ L)
    (kk : ∀ (σ' : iv_S) (f' : Nat → Int64) (H1 : Heap) (locs1 : List Loc) (ls1 : Array Slot), il_Wo X cJ o A s σ' f' H1 locs1 → iInv σ' → lv_has ls1 7 (lc_lv X b o i) → W p X.1 e R s m args below meth c H1 locs1 (cells + 1) (slots + 6) QM (F0 m 950 ls1 [])) : W p X.1 e R s m args below meth c H locs cells slots QM (F0 m 763 ls []) := by
  have C' := C
  obtain ⟨hx, hb, hml, hown, hts, hA, hX, hbl, hbA, hL, hSx, hZ, hst, hRf, hRl⟩ := C
  have h0 : ls[0]? = some (.val (.ref b)) := lv_at hl 1 rfl
  have h4 : ls[4]? = some (.val (.int (nI i))) := lv_at hl 0 rfl
  have hRm : 20 + 1 ≤ R.frames ∧ 40 * (20 + 1) ≤ R.locals ∧ cells ≤ R.cells ∧ slots ≤ R.slots := ⟨by omega, by omega, by omega, by omega⟩
  refine lv_aload_n hx hb dL_law_763 rfl (lv_at hl 2 rfl) ?_
  refine il_arg (j := 1) hx hb hX hbl hbA hw.1.2.2.2.1 hL (by omega) h0 h4 (by decide) dL_law_764 dL_law_765 dL_law_767 dL_law_768 dL_law_769 ?_
  obtain ⟨Q, hC, hM⟩ := rl_planned (X := X) hI (xs (i + 1))
  refine il_call (ym := mX6_planned) (ci := 6) (k := 0) (d := 20) (ty := .int) (av := [.inr (xs (i + 1))]) (rest := []) hx hb hml hown hts hA ck_94 rfl rfl hC hRm (Nat.zero_le _) hl.1 dL_law_770 rfl hw (fun r σ1 H1 locs1 hq hw => ?_)
  obtain ⟨Q', hC', hM'⟩ := hM r σ1 hq
  refine lv_aload_n hx hb dL_law_773 rfl (lv_at hl 3 rfl) ?_
  refine il_arg (j := 1) hx hb hX hbl hbA hw.1.2.2.2.1 hL (by omega) h0 h4 (by decide) dL_law_774 dL_law_775 dL_law_777 dL_law_778 dL_law_779 ?_
  refine il_call (ym := mX7_planned) (ci := 7) (k := 37) (d := 20) (ty := .int) (av := [.inr (xs (i + 1))]) (rest := [.inr r]) hx hb hml hown hts hA ck_97 rfl rfl hC' hRm (Nat.le_of_ble_eq_true rfl) hl.1 dL_law_780 rfl hw (fun r' σ2 H2 locs2 hq' hw => ?_)
  obtain ⟨rfl, hI'⟩ := hM' r' σ2 hq'
  refine lv_icmp_eq (tgt := 950) hx hb dL_law_783 rfl (fun _ => ?_) (fun h => absurd rfl h)
  exact W.widen (by omega) (by omega) (kk σ2 f H2 locs2 ls hw hI' hl)
theorem lc_17 (C : lc_C p s m c args X A R b L xs sa sb) (hRc : cells + 1 ≤ R.cells ∧ slots + 6 ≤ R.slots) (hw : il_Wo X cJ o A s σ f H locs) (hI : iInv σ) (hl : lv_has ls 7 (lc_lv X b o i)) (hi : i + 6 ≤ L)
    (kk : ∀ (σ' : iv_S) (f' : Nat → Int64) (H1 : Heap) (locs1 : List Loc) (ls1 : Array Slot), il_Wo X cJ o A s σ' f' H1 locs1 → iInv σ' → lv_has ls1 7 (lc_lv X b o i) → W p X.1 e R s m args below meth c H1 locs1 (cells + 1) (slots + 6) QM (F0 m 950 ls1 [])) : W p X.1 e R s m args below meth c H locs cells slots QM (F0 m 788 ls []) := by
  have C' := C
  obtain ⟨hx, hb, hml, hown, hts, hA, hX, hbl, hbA, hL, hSx, hZ, hst, hRf, hRl⟩ := C
  have h0 : ls[0]? = some (.val (.ref b)) := lv_at hl 1 rfl
  have h4 : ls[4]? = some (.val (.int (nI i))) := lv_at hl 0 rfl
  have hRm : 20 + 1 ≤ R.frames ∧ 40 * (20 + 1) ≤ R.locals ∧ cells ≤ R.cells ∧ slots ≤ R.slots := ⟨by omega, by omega, by omega, by omega⟩
  refine lv_aload_n hx hb dL_law_788 rfl (lv_at hl 2 rfl) ?_
  refine il_arg (j := 1) hx hb hX hbl hbA hw.1.2.2.2.1 hL (by omega) h0 h4 (by decide) dL_law_789 dL_law_790 dL_law_792 dL_law_793 dL_law_794 ?_
  refine il_arg (j := 2) hx hb hX hbl hbA hw.1.2.2.2.1 hL (by omega) h0 h4 (by decide) dL_law_795 dL_law_796 dL_law_798 dL_law_799 dL_law_800 ?_
  obtain ⟨Q, hC, hM⟩ := rl_wish (X := X) hI (xs (i + 1)) (xs (i + 2))
  refine il_call (ym := mX6_wish) (ci := 6) (k := 0) (d := 20) (ty := .boolean) (av := [.inr (xs (i + 1)), .inr (xs (i + 2))]) (rest := []) hx hb hml hown hts hA ck_98 rfl rfl hC hRm (Nat.zero_le _) hl.1 dL_law_801 rfl hw (fun r σ1 H1 locs1 hq hw => ?_)
  obtain ⟨Q', hC', hM'⟩ := hM r σ1 hq
  refine lv_aload_n hx hb dL_law_804 rfl (lv_at hl 3 rfl) ?_
  refine il_arg (j := 1) hx hb hX hbl hbA hw.1.2.2.2.1 hL (by omega) h0 h4 (by decide) dL_law_805 dL_law_806 dL_law_808 dL_law_809 dL_law_810 ?_
  refine il_arg (j := 2) hx hb hX hbl hbA hw.1.2.2.2.1 hL (by omega) h0 h4 (by decide) dL_law_811 dL_law_812 dL_law_814 dL_law_815 dL_law_816 ?_
  refine il_call (ym := mX7_wish) (ci := 7) (k := 37) (d := 20) (ty := .boolean) (av := [.inr (xs (i + 1)), .inr (xs (i + 2))]) (rest := [.inr r]) hx hb hml hown hts hA ck_101 rfl rfl hC' hRm (Nat.le_of_ble_eq_true rfl) hl.1 dL_law_817 rfl hw (fun r' σ2 H2 locs2 hq' hw => ?_)
  obtain ⟨rfl, hI'⟩ := hM' r' σ2 hq'
  refine lv_icmp_eq (tgt := 950) hx hb dL_law_820 rfl (fun _ => ?_) (fun h => absurd rfl h)
  exact W.widen (by omega) (by omega) (kk σ2 f H2 locs2 ls hw hI' hl)
theorem lc_18 (C : lc_C p s m c args X A R b L xs sa sb) (hRc : cells + 1 ≤ R.cells ∧ slots + 6 ≤ R.slots) (hw : il_Wo X cJ o A s σ f H locs) (hI : iInv σ) (hl : lv_has ls 7 (lc_lv X b o i)) (hi : i + 6 ≤ L)
    (kk : ∀ (σ' : iv_S) (f' : Nat → Int64) (H1 : Heap) (locs1 : List Loc) (ls1 : Array Slot), il_Wo X cJ o A s σ' f' H1 locs1 → iInv σ' → lv_has ls1 7 (lc_lv X b o i) → W p X.1 e R s m args below meth c H1 locs1 (cells + 1) (slots + 6) QM (F0 m 950 ls1 [])) : W p X.1 e R s m args below meth c H locs cells slots QM (F0 m 825 ls []) := by
  have C' := C
  obtain ⟨hx, hb, hml, hown, hts, hA, hX, hbl, hbA, hL, hSx, hZ, hst, hRf, hRl⟩ := C
  have h0 : ls[0]? = some (.val (.ref b)) := lv_at hl 1 rfl
  have h4 : ls[4]? = some (.val (.int (nI i))) := lv_at hl 0 rfl
  have hRm : 20 + 1 ≤ R.frames ∧ 40 * (20 + 1) ≤ R.locals ∧ cells ≤ R.cells ∧ slots ≤ R.slots := ⟨by omega, by omega, by omega, by omega⟩
  refine lv_aload_n hx hb dL_law_825 rfl (lv_at hl 2 rfl) ?_
  obtain ⟨Q, hC, hM⟩ := rl_round (X := X) hI 
  refine il_call (ym := mX6_round) (ci := 6) (k := 0) (d := 20) (ty := .int) (av := []) (rest := []) hx hb hml hown hts hA ck_102 rfl rfl hC hRm (Nat.zero_le _) hl.1 dL_law_826 rfl hw (fun r σ1 H1 locs1 hq hw => ?_)
  obtain ⟨Q', hC', hM'⟩ := hM r σ1 hq
  refine lv_aload_n hx hb dL_law_829 rfl (lv_at hl 3 rfl) ?_
  refine il_call (ym := mX7_round) (ci := 7) (k := 37) (d := 20) (ty := .int) (av := []) (rest := [.inr r]) hx hb hml hown hts hA ck_105 rfl rfl hC' hRm (Nat.le_of_ble_eq_true rfl) hl.1 dL_law_830 rfl hw (fun r' σ2 H2 locs2 hq' hw => ?_)
  obtain ⟨rfl, hI'⟩ := hM' r' σ2 hq'
  refine lv_icmp_eq (tgt := 950) hx hb dL_law_833 rfl (fun _ => ?_) (fun h => absurd rfl h)
  exact W.widen (by omega) (by omega) (kk σ2 f H2 locs2 ls hw hI' hl)
theorem lc_19 (C : lc_C p s m c args X A R b L xs sa sb) (hRc : cells + 1 ≤ R.cells ∧ slots + 6 ≤ R.slots) (hw : il_Wo X cJ o A s σ f H locs) (hI : iInv σ) (hl : lv_has ls 7 (lc_lv X b o i)) (hi : i + 6 ≤ L)
    (kk : ∀ (σ' : iv_S) (f' : Nat → Int64) (H1 : Heap) (locs1 : List Loc) (ls1 : Array Slot), il_Wo X cJ o A s σ' f' H1 locs1 → iInv σ' → lv_has ls1 7 (lc_lv X b o i) → W p X.1 e R s m args below meth c H1 locs1 (cells + 1) (slots + 6) QM (F0 m 950 ls1 [])) : W p X.1 e R s m args below meth c H locs cells slots QM (F0 m 838 ls []) := by
  have C' := C
  obtain ⟨hx, hb, hml, hown, hts, hA, hX, hbl, hbA, hL, hSx, hZ, hst, hRf, hRl⟩ := C
  have h0 : ls[0]? = some (.val (.ref b)) := lv_at hl 1 rfl
  have h4 : ls[4]? = some (.val (.int (nI i))) := lv_at hl 0 rfl
  have hRm : 20 + 1 ≤ R.frames ∧ 40 * (20 + 1) ≤ R.locals ∧ cells ≤ R.cells ∧ slots ≤ R.slots := ⟨by omega, by omega, by omega, by omega⟩
  refine lv_aload_n hx hb dL_law_838 rfl (lv_at hl 2 rfl) ?_
  refine il_arg (j := 1) hx hb hX hbl hbA hw.1.2.2.2.1 hL (by omega) h0 h4 (by decide) dL_law_839 dL_law_840 dL_law_842 dL_law_843 dL_law_844 ?_
  obtain ⟨Q, hC, hM⟩ := rl_stop (X := X) hI (xs (i + 1))
  refine il_call (ym := mX6_stop) (ci := 6) (k := 0) (d := 20) (ty := .int) (av := [.inr (xs (i + 1))]) (rest := []) hx hb hml hown hts hA ck_106 rfl rfl hC hRm (Nat.zero_le _) hl.1 dL_law_845 rfl hw (fun r σ1 H1 locs1 hq hw => ?_)
  obtain ⟨Q', hC', hM'⟩ := hM r σ1 hq
  refine lv_aload_n hx hb dL_law_848 rfl (lv_at hl 3 rfl) ?_
  refine il_arg (j := 1) hx hb hX hbl hbA hw.1.2.2.2.1 hL (by omega) h0 h4 (by decide) dL_law_849 dL_law_850 dL_law_852 dL_law_853 dL_law_854 ?_
  refine il_call (ym := mX7_stop) (ci := 7) (k := 37) (d := 20) (ty := .int) (av := [.inr (xs (i + 1))]) (rest := [.inr r]) hx hb hml hown hts hA ck_109 rfl rfl hC' hRm (Nat.le_of_ble_eq_true rfl) hl.1 dL_law_855 rfl hw (fun r' σ2 H2 locs2 hq' hw => ?_)
  obtain ⟨rfl, hI'⟩ := hM' r' σ2 hq'
  refine lv_icmp_eq (tgt := 950) hx hb dL_law_858 rfl (fun _ => ?_) (fun h => absurd rfl h)
  exact W.widen (by omega) (by omega) (kk σ2 f H2 locs2 ls hw hI' hl)
theorem lc_20 (C : lc_C p s m c args X A R b L xs sa sb) (hRc : cells + 1 ≤ R.cells ∧ slots + 6 ≤ R.slots) (hw : il_Wo X cJ o A s σ f H locs) (hI : iInv σ) (hl : lv_has ls 7 (lc_lv X b o i)) (hi : i + 6 ≤ L)
    (kk : ∀ (σ' : iv_S) (f' : Nat → Int64) (H1 : Heap) (locs1 : List Loc) (ls1 : Array Slot), il_Wo X cJ o A s σ' f' H1 locs1 → iInv σ' → lv_has ls1 7 (lc_lv X b o i) → W p X.1 e R s m args below meth c H1 locs1 (cells + 1) (slots + 6) QM (F0 m 950 ls1 [])) : W p X.1 e R s m args below meth c H locs cells slots QM (F0 m 863 ls []) := by
  have C' := C
  obtain ⟨hx, hb, hml, hown, hts, hA, hX, hbl, hbA, hL, hSx, hZ, hst, hRf, hRl⟩ := C
  have h0 : ls[0]? = some (.val (.ref b)) := lv_at hl 1 rfl
  have h4 : ls[4]? = some (.val (.int (nI i))) := lv_at hl 0 rfl
  have hRm : 20 + 1 ≤ R.frames ∧ 40 * (20 + 1) ≤ R.locals ∧ cells ≤ R.cells ∧ slots ≤ R.slots := ⟨by omega, by omega, by omega, by omega⟩
  refine lv_aload_n hx hb dL_law_863 rfl (lv_at hl 2 rfl) ?_
  refine il_arg (j := 1) hx hb hX hbl hbA hw.1.2.2.2.1 hL (by omega) h0 h4 (by decide) dL_law_864 dL_law_865 dL_law_867 dL_law_868 dL_law_869 ?_
  refine il_arg (j := 2) hx hb hX hbl hbA hw.1.2.2.2.1 hL (by omega) h0 h4 (by decide) dL_law_870 dL_law_871 dL_law_873 dL_law_874 dL_law_875 ?_
  refine il_arg (j := 3) hx hb hX hbl hbA hw.1.2.2.2.1 hL (by omega) h0 h4 (by decide) dL_law_876 dL_law_877 dL_law_879 dL_law_880 dL_law_881 ?_
  obtain ⟨Q, hC, hM⟩ := rl_point (X := X) hI (xs (i + 1)) (xs (i + 2)) (xs (i + 3))
  refine il_call (ym := mX6_point) (ci := 6) (k := 0) (d := 20) (ty := .int) (av := [.inr (xs (i + 1)), .inr (xs (i + 2)), .inr (xs (i + 3))]) (rest := []) hx hb hml hown hts hA ck_110 rfl rfl hC hRm (Nat.zero_le _) hl.1 dL_law_882 rfl hw (fun r σ1 H1 locs1 hq hw => ?_)
  obtain ⟨Q', hC', hM'⟩ := hM r σ1 hq
  refine lv_aload_n hx hb dL_law_885 rfl (lv_at hl 3 rfl) ?_
  refine il_arg (j := 1) hx hb hX hbl hbA hw.1.2.2.2.1 hL (by omega) h0 h4 (by decide) dL_law_886 dL_law_887 dL_law_889 dL_law_890 dL_law_891 ?_
  refine il_arg (j := 2) hx hb hX hbl hbA hw.1.2.2.2.1 hL (by omega) h0 h4 (by decide) dL_law_892 dL_law_893 dL_law_895 dL_law_896 dL_law_897 ?_
  refine il_arg (j := 3) hx hb hX hbl hbA hw.1.2.2.2.1 hL (by omega) h0 h4 (by decide) dL_law_898 dL_law_899 dL_law_901 dL_law_902 dL_law_903 ?_
  refine il_call (ym := mX7_point) (ci := 7) (k := 37) (d := 20) (ty := .int) (av := [.inr (xs (i + 1)), .inr (xs (i + 2)), .inr (xs (i + 3))]) (rest := [.inr r]) hx hb hml hown hts hA ck_113 rfl rfl hC' hRm (Nat.le_of_ble_eq_true rfl) hl.1 dL_law_904 rfl hw (fun r' σ2 H2 locs2 hq' hw => ?_)
  obtain ⟨rfl, hI'⟩ := hM' r' σ2 hq'
  refine lv_icmp_eq (tgt := 950) hx hb dL_law_907 rfl (fun _ => ?_) (fun h => absurd rfl h)
  exact W.widen (by omega) (by omega) (kk σ2 f H2 locs2 ls hw hI' hl)
theorem lc_21 (C : lc_C p s m c args X A R b L xs sa sb) (hRc : cells + 1 ≤ R.cells ∧ slots + 6 ≤ R.slots) (hw : il_Wo X cJ o A s σ f H locs) (hI : iInv σ) (hl : lv_has ls 7 (lc_lv X b o i)) (hi : i + 6 ≤ L)
    (kk : ∀ (σ' : iv_S) (f' : Nat → Int64) (H1 : Heap) (locs1 : List Loc) (ls1 : Array Slot), il_Wo X cJ o A s σ' f' H1 locs1 → iInv σ' → lv_has ls1 7 (lc_lv X b o i) → W p X.1 e R s m args below meth c H1 locs1 (cells + 1) (slots + 6) QM (F0 m 950 ls1 [])) : W p X.1 e R s m args below meth c H locs cells slots QM (F0 m 912 ls []) := by
  have C' := C
  obtain ⟨hx, hb, hml, hown, hts, hA, hX, hbl, hbA, hL, hSx, hZ, hst, hRf, hRl⟩ := C
  have h0 : ls[0]? = some (.val (.ref b)) := lv_at hl 1 rfl
  have h4 : ls[4]? = some (.val (.int (nI i))) := lv_at hl 0 rfl
  have hRm : 20 + 1 ≤ R.frames ∧ 40 * (20 + 1) ≤ R.locals ∧ cells ≤ R.cells ∧ slots ≤ R.slots := ⟨by omega, by omega, by omega, by omega⟩
  refine lv_aload_n hx hb dL_law_912 rfl (lv_at hl 2 rfl) ?_
  refine il_arg (j := 1) hx hb hX hbl hbA hw.1.2.2.2.1 hL (by omega) h0 h4 (by decide) dL_law_913 dL_law_914 dL_law_916 dL_law_917 dL_law_918 ?_
  obtain ⟨Q, hC, hM⟩ := rl_places (X := X) hI (xs (i + 1))
  refine il_call (ym := mX6_places) (ci := 6) (k := 0) (d := 20) (ty := .int) (av := [.inr (xs (i + 1))]) (rest := []) hx hb hml hown hts hA ck_114 rfl rfl hC hRm (Nat.zero_le _) hl.1 dL_law_919 rfl hw (fun r σ1 H1 locs1 hq hw => ?_)
  obtain ⟨Q', hC', hM'⟩ := hM r σ1 hq
  refine lv_aload_n hx hb dL_law_922 rfl (lv_at hl 3 rfl) ?_
  refine il_arg (j := 1) hx hb hX hbl hbA hw.1.2.2.2.1 hL (by omega) h0 h4 (by decide) dL_law_923 dL_law_924 dL_law_926 dL_law_927 dL_law_928 ?_
  refine il_call (ym := mX7_places) (ci := 7) (k := 37) (d := 20) (ty := .int) (av := [.inr (xs (i + 1))]) (rest := [.inr r]) hx hb hml hown hts hA ck_117 rfl rfl hC' hRm (Nat.le_of_ble_eq_true rfl) hl.1 dL_law_929 rfl hw (fun r' σ2 H2 locs2 hq' hw => ?_)
  obtain ⟨rfl, hI'⟩ := hM' r' σ2 hq'
  refine lv_icmp_eq (tgt := 950) hx hb dL_law_932 rfl (fun _ => ?_) (fun h => absurd rfl h)
  exact W.widen (by omega) (by omega) (kk σ2 f H2 locs2 ls hw hI' hl)
theorem lc_22 (C : lc_C p s m c args X A R b L xs sa sb) (hRc : cells + 1 ≤ R.cells ∧ slots + 6 ≤ R.slots) (hw : il_Wo X cJ o A s σ f H locs) (hI : iInv σ) (hl : lv_has ls 7 (lc_lv X b o i)) (hi : i + 6 ≤ L)
    (kk : ∀ (σ' : iv_S) (f' : Nat → Int64) (H1 : Heap) (locs1 : List Loc) (ls1 : Array Slot), il_Wo X cJ o A s σ' f' H1 locs1 → iInv σ' → lv_has ls1 7 (lc_lv X b o i) → W p X.1 e R s m args below meth c H1 locs1 (cells + 1) (slots + 6) QM (F0 m 950 ls1 [])) : W p X.1 e R s m args below meth c H locs cells slots QM (F0 m 937 ls []) := by
  have C' := C
  obtain ⟨hx, hb, hml, hown, hts, hA, hX, hbl, hbA, hL, hSx, hZ, hst, hRf, hRl⟩ := C
  have h0 : ls[0]? = some (.val (.ref b)) := lv_at hl 1 rfl
  have h4 : ls[4]? = some (.val (.int (nI i))) := lv_at hl 0 rfl
  have hRm : 20 + 1 ≤ R.frames ∧ 40 * (20 + 1) ≤ R.locals ∧ cells ≤ R.cells ∧ slots ≤ R.slots := ⟨by omega, by omega, by omega, by omega⟩
  refine lv_aload_n hx hb dL_law_937 rfl (lv_at hl 2 rfl) ?_
  obtain ⟨Q, hC, hM⟩ := rl_chosen (X := X) hI 
  refine il_call (ym := mX6_chosen) (ci := 6) (k := 0) (d := 20) (ty := .int) (av := []) (rest := []) hx hb hml hown hts hA ck_118 rfl rfl hC hRm (Nat.zero_le _) hl.1 dL_law_938 rfl hw (fun r σ1 H1 locs1 hq hw => ?_)
  obtain ⟨Q', hC', hM'⟩ := hM r σ1 hq
  refine lv_aload_n hx hb dL_law_941 rfl (lv_at hl 3 rfl) ?_
  refine il_call (ym := mX7_chosen) (ci := 7) (k := 37) (d := 20) (ty := .int) (av := []) (rest := [.inr r]) hx hb hml hown hts hA ck_121 rfl rfl hC' hRm (Nat.le_of_ble_eq_true rfl) hl.1 dL_law_942 rfl hw (fun r' σ2 H2 locs2 hq' hw => ?_)
  obtain ⟨rfl, hI'⟩ := hM' r' σ2 hq'
  refine lv_icmp_eq (tgt := 950) hx hb dL_law_945 rfl (fun _ => ?_) (fun h => absurd rfl h)
  exact W.widen (by omega) (by omega) (kk σ2 f H2 locs2 ls hw hI' hl)
theorem lc_11 (C : lc_C p s m c args X A R b L xs sa sb) (hRc : cells + 1 ≤ R.cells ∧ slots + 6 ≤ R.slots) (hw : il_Wo X cJ o A s σ f H locs) (hI : iInv σ) (hl : lv_has ls 7 (lc_lv X b o i)) (hi : i + 6 ≤ L)
    (kk : ∀ (σ' : iv_S) (f' : Nat → Int64) (H1 : Heap) (locs1 : List Loc) (ls1 : Array Slot), il_Wo X cJ o A s σ' f' H1 locs1 → iInv σ' → lv_has ls1 7 (lc_lv X b o i) → W p X.1 e R s m args below meth c H1 locs1 (cells + 1) (slots + 6) QM (F0 m 950 ls1 [])) : W p X.1 e R s m args below meth c H locs cells slots QM (F0 m 595 ls []) := by
  have C' := C
  obtain ⟨hx, hb, hml, hown, hts, hA, hX, hbl, hbA, hL, hSx, hZ, hst, hRf, hRl⟩ := C
  have h0 : ls[0]? = some (.val (.ref b)) := lv_at hl 1 rfl
  have h4 : ls[4]? = some (.val (.int (nI i))) := lv_at hl 0 rfl
  have hRm : 20 + 1 ≤ R.frames ∧ 40 * (20 + 1) ≤ R.locals ∧ cells ≤ R.cells ∧ slots ≤ R.slots := ⟨by omega, by omega, by omega, by omega⟩
  refine lv_aload_n hx hb dL_law_595 rfl (lv_at hl 2 rfl) ?_
  refine il_arg (j := 1) hx hb hX hbl hbA hw.1.2.2.2.1 hL (by omega) h0 h4 (by decide) dL_law_596 dL_law_597 dL_law_599 dL_law_600 dL_law_601 ?_
  refine il_arg (j := 2) hx hb hX hbl hbA hw.1.2.2.2.1 hL (by omega) h0 h4 (by decide) dL_law_602 dL_law_603 dL_law_605 dL_law_606 dL_law_607 ?_
  refine lv_aload_n hx hb dL_law_608 rfl (lv_at hl 4 rfl) ?_
  obtain ⟨nc, np, hr, nn, nk, nq, nr, ns, ⟨b1, b2, b3, b4, b5, b6, b7, b8⟩, ⟨c1, c2, c3, c4, c5, c6, c7, c8⟩, ⟨m1, m2, m3, m4, m5, m6, m7, m8, m9⟩, ⟨f1, f2, f3, f4, f5, f6, f7, f8, f9, f10, f11⟩, k1, ⟨p1, p2⟩, ⟨w1, w2, w3, w4, w5, w6, w7⟩⟩ := id hI
  refine il_cof (n := np) C' hRc c2 b2 (xs (i + 1)) (xs (i + 2)) hl.1 dL_law_609 hw (fun r g H1 locs1 hq hw => ?_)
  refine lv_istore (lv' := (5, .int r) :: lc_lv X b o i) hx hb dL_law_612 hl (by decide) rfl (fun ls hl => ?_)
  have h0 : ls[0]? = some (.val (.ref b)) := lv_at hl 2 rfl
  have h4 : ls[4]? = some (.val (.int (nI i))) := lv_at hl 1 rfl
  refine lv_aload_n hx hb dL_law_614 rfl (lv_at hl 4 rfl) ?_
  refine il_arg (j := 1) hx hb hX hbl hbA hw.1.2.2.2.1 hL (by omega) h0 h4 (by decide) dL_law_615 dL_law_616 dL_law_618 dL_law_619 dL_law_620 ?_
  refine il_arg (j := 2) hx hb hX hbl hbA hw.1.2.2.2.1 hL (by omega) h0 h4 (by decide) dL_law_621 dL_law_622 dL_law_624 dL_law_625 dL_law_626 ?_
  have hRm2 : 20 + 1 ≤ R.frames ∧ 40 * (20 + 1) ≤ R.locals ∧ cells + 1 ≤ R.cells ∧ slots + 6 ≤ R.slots := ⟨by omega, by omega, hRc.1, hRc.2⟩
  refine il_call (ym := mX7_of) (ci := 7) (k := 37) (d := 20) (ty := .int) (av := [.inr (xs (i + 1)), .inr (xs (i + 2))]) (rest := []) hx hb hml hown hts hA ck_73 rfl rfl (ct_m_of (n := np) rfl (by simpa [iv_u, upd] using m2) b2 (xs (i + 1)) (xs (i + 2))) hRm2 (Nat.zero_le _) hl.1 dL_law_627 rfl hw (fun r1 σ1 H2 locs2 hq1 hw => ?_)
  refine lv_istore (lv' := (6, .int r1) :: (5, .int r) :: lc_lv X b o i) hx hb dL_law_630 hl (by decide) rfl (fun ls hl => ?_)
  refine lv_aload_n hx hb dL_law_632 rfl (lv_at hl 5 rfl) ?_
  refine il_call (ym := mX7_thrown) (ci := 7) (k := 37) (d := 20) (ty := .int) (av := []) (rest := []) hx hb hml hown hts hA ck_74 rfl rfl ct_m_thrown hRm2 (Nat.zero_le _) hl.1 dL_law_633 rfl hw (fun r2 σ2 H3 locs3 hq2 hw3 => ?_)
  obtain ⟨rfl, hs2⟩ := hq2
  subst hs2
  refine lv_iload hx hb dL_law_636 (lv_at hl 1 rfl) ?_
  have hl9 := lv_sub hl [2, 3, 4, 5, 6] (l' := lc_lv X b o i) rfl
  cases hok : io_ok np (xs (i + 1)) (xs (i + 2)) with
  | false =>
    have hr1 := hq.2 hok
    subst hr1
    obtain ⟨rfl, rfl⟩ := hq1.2 hok
    refine lv_icmp_eq (tgt := 643) hx hb dL_law_638 rfl (fun _ => ?_) (fun h => absurd (by rw [iv_u_eq, upd_same]) h)
    refine lv_iload hx hb dL_law_643 (lv_at hl 1 rfl) ?_
    refine lv_if_ne (tgt := 660) hx hb dL_law_645 rfl (fun _ => ?_) (fun h => absurd h (by decide))
    refine lv_goto (tgt := 950) hx hb dL_law_660 rfl ?_
    exact kk _ g H3 locs3 ls hw3 (iInv_thr (iInv_thr hI _) _) hl9
  | true =>
    obtain ⟨hr1, hg⟩ := hq.1 hok
    subst hr1
    obtain ⟨rfl, rfl⟩ := hq1.1 hok
    refine lv_icmp_eq (tgt := 643) hx hb dL_law_638 rfl (fun _ => ?_) (fun h => absurd (by rw [iv_u_eq, upd_same]) h)
    refine lv_iload hx hb dL_law_643 (lv_at hl 1 rfl) ?_
    refine lv_if_ne (tgt := 660) hx hb dL_law_645 rfl (fun h => absurd rfl h) (fun _ => ?_)
    refine lv_aload_n hx hb dL_law_648 rfl (lv_at hl 6 rfl) ?_
    refine lv_iconst (v := 0) hx hb dL_law_649 (by decide) ?_
    refine va_lald hx hb (il_KT hw3) (il_P hw3.1.2.1 hw3.2.1) 57 2 il_get rfl (z_in0 (by decide) (by decide)) dL_law_650 ?_
    rw [ie_cl0, hg]
    refine lv_iload hx hb dL_law_651 (lv_at hl 0 rfl) ?_
    refine lv_i2l hx hb dL_law_653 rfl ?_
    refine W.lcmp hx hb dL_law_654 ?_
    have hv : zK4 (xs (i + 2)) (iv_u σ 37 23 0 39 (xs (i + 1)).toNatClampNeg) (iv_u σ 37 23 0 40 (xs (i + 1)).toNatClampNeg) (iv_u σ 37 23 0 41 (xs (i + 1)).toNatClampNeg) (zb (zR (iv_u σ 37 23 0 39) (iv_u σ 37 23 0 40) (iv_u σ 37 23 0 42) (iv_u σ 37 23 0 41) (iv_u σ 37 23 0 43) (xs (i + 1)).toNatClampNeg)) = io_v σ (xs (i + 1)) (xs (i + 2)) := by
      unfold io_v
      simp only [iv_u_ne, ne_eq, Nat.reduceEqDiff, not_false_eq_true, f1, f3, f4, f5, f6]
    rw [hv, show lg_cmp (io_v σ (xs (i + 1)) (xs (i + 2))).toInt64 (io_v σ (xs (i + 1)) (xs (i + 2))).toInt64 = 0 by simp [lg_cmp]]
    refine lv_if_eq (tgt := 660) hx hb dL_law_655 rfl (fun _ => ?_) (fun h => absurd rfl h)
    refine lv_goto (tgt := 950) hx hb dL_law_660 rfl ?_
    exact kk _ g H3 locs3 ls hw3 (iInv_thr hI _) hl9
end ILC
