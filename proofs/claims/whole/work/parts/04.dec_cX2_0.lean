theorem dX2_init_0 : decode cX2_init 0 = .ok (.aload_n 0, 1) := by decide +kernel
theorem dX2_init_1 : decode cX2_init 1 = .ok (.invokespecial 3, 3) := by decide +kernel
theorem dX2_init_4 : decode cX2_init 4 = .ok (.aload_n 0, 1) := by decide +kernel
theorem dX2_init_5 : decode cX2_init 5 = .ok (.new 9, 3) := by decide +kernel
theorem dX2_init_8 : decode cX2_init 8 = .ok (.dup, 1) := by decide +kernel
theorem dX2_init_9 : decode cX2_init 9 = .ok (.bipush 12, 2) := by decide +kernel
theorem dX2_init_11 : decode cX2_init 11 = .ok (.invokespecial 11, 3) := by decide +kernel
theorem dX2_init_14 : decode cX2_init 14 = .ok (.putfield 14, 3) := by decide +kernel
theorem dX2_init_17 : decode cX2_init 17 = .ok (.aload_n 0, 1) := by decide +kernel
theorem dX2_init_18 : decode cX2_init 18 = .ok (.new 9, 3) := by decide +kernel
theorem dX2_init_21 : decode cX2_init 21 = .ok (.dup, 1) := by decide +kernel
theorem dX2_init_22 : decode cX2_init 22 = .ok (.bipush 8, 2) := by decide +kernel
theorem dX2_init_24 : decode cX2_init 24 = .ok (.invokespecial 11, 3) := by decide +kernel
theorem dX2_init_27 : decode cX2_init 27 = .ok (.putfield 20, 3) := by decide +kernel
theorem dX2_init_30 : decode cX2_init 30 = .ok (.aload_n 0, 1) := by decide +kernel
theorem dX2_init_31 : decode cX2_init 31 = .ok (.bipush 12, 2) := by decide +kernel
theorem dX2_init_33 : decode cX2_init 33 = .ok (.newarray .int, 2) := by decide +kernel
theorem dX2_init_35 : decode cX2_init 35 = .ok (.putfield 23, 3) := by decide +kernel
theorem dX2_init_38 : decode cX2_init 38 = .ok (.return_, 1) := by decide +kernel
theorem dX2_keepBest_0 : decode cX2_keepBest 0 = .ok (.aload_n 0, 1) := by decide +kernel
theorem dX2_keepBest_1 : decode cX2_keepBest 1 = .ok (.aload_n 2, 1) := by decide +kernel
theorem dX2_keepBest_2 : decode cX2_keepBest 2 = .ok (.invokevirtual 27, 3) := by decide +kernel
theorem dX2_keepBest_5 : decode cX2_keepBest 5 = .ok (.iconst (-1), 1) := by decide +kernel
theorem dX2_keepBest_6 : decode cX2_keepBest 6 = .ok (.istore_n 3, 1) := by decide +kernel
theorem dX2_keepBest_7 : decode cX2_keepBest 7 = .ok (.iconst (-1), 1) := by decide +kernel
theorem dX2_keepBest_8 : decode cX2_keepBest 8 = .ok (.istore 4, 2) := by decide +kernel
theorem dX2_keepBest_10 : decode cX2_keepBest 10 = .ok (.iconst 0, 1) := by decide +kernel
theorem dX2_keepBest_11 : decode cX2_keepBest 11 = .ok (.istore 5, 2) := by decide +kernel
theorem dX2_keepBest_13 : decode cX2_keepBest 13 = .ok (.iload 5, 2) := by decide +kernel
theorem dX2_keepBest_15 : decode cX2_keepBest 15 = .ok (.iconst 1, 1) := by decide +kernel
theorem dX2_keepBest_16 : decode cX2_keepBest 16 = .ok (.aload_n 0, 1) := by decide +kernel
theorem dX2_keepBest_17 : decode cX2_keepBest 17 = .ok (.getfield 20, 3) := by decide +kernel
theorem dX2_keepBest_20 : decode cX2_keepBest 20 = .ok (.getfield 31, 3) := by decide +kernel
theorem dX2_keepBest_23 : decode cX2_keepBest 23 = .ok (.ishl, 1) := by decide +kernel
theorem dX2_keepBest_24 : decode cX2_keepBest 24 = .ok (.if_icmp .ge 61, 3) := by decide +kernel
theorem dX2_keepBest_27 : decode cX2_keepBest 27 = .ok (.iload 5, 2) := by decide +kernel
theorem dX2_keepBest_29 : decode cX2_keepBest 29 = .ok (.invokestatic 35, 3) := by decide +kernel
theorem dX2_keepBest_32 : decode cX2_keepBest 32 = .ok (.iload_n 1, 1) := by decide +kernel
theorem dX2_keepBest_33 : decode cX2_keepBest 33 = .ok (.if_icmp .ne 46, 3) := by decide +kernel
theorem dX2_keepBest_36 : decode cX2_keepBest 36 = .ok (.aload_n 0, 1) := by decide +kernel
theorem dX2_keepBest_37 : decode cX2_keepBest 37 = .ok (.iload 5, 2) := by decide +kernel
theorem dX2_keepBest_39 : decode cX2_keepBest 39 = .ok (.invokevirtual 41, 3) := by decide +kernel
theorem dX2_keepBest_42 : decode cX2_keepBest 42 = .ok (.istore 6, 2) := by decide +kernel
theorem dX2_keepBest_44 : decode cX2_keepBest 44 = .ok (.iload_n 3, 1) := by decide +kernel
theorem dX2_keepBest_45 : decode cX2_keepBest 45 = .ok (.iconst (-1), 1) := by decide +kernel
theorem dX2_keepBest_46 : decode cX2_keepBest 46 = .ok (.if_icmp .eq 26, 3) := by decide +kernel
theorem dX2_keepBest_49 : decode cX2_keepBest 49 = .ok (.iload 6, 2) := by decide +kernel
theorem dX2_keepBest_51 : decode cX2_keepBest 51 = .ok (.iload 4, 2) := by decide +kernel
theorem dX2_keepBest_53 : decode cX2_keepBest 53 = .ok (.if_icmp .lt 19, 3) := by decide +kernel
theorem dX2_keepBest_56 : decode cX2_keepBest 56 = .ok (.iload 6, 2) := by decide +kernel
theorem dX2_keepBest_58 : decode cX2_keepBest 58 = .ok (.iload 4, 2) := by decide +kernel
theorem dX2_keepBest_60 : decode cX2_keepBest 60 = .ok (.if_icmp .ne 19, 3) := by decide +kernel
theorem dX2_keepBest_63 : decode cX2_keepBest 63 = .ok (.iload 5, 2) := by decide +kernel
theorem dX2_keepBest_65 : decode cX2_keepBest 65 = .ok (.iload_n 3, 1) := by decide +kernel
theorem dX2_keepBest_66 : decode cX2_keepBest 66 = .ok (.invokestatic 44, 3) := by decide +kernel
theorem dX2_keepBest_69 : decode cX2_keepBest 69 = .ok (.ifCond .eq 10, 3) := by decide +kernel
theorem dX2_keepBest_72 : decode cX2_keepBest 72 = .ok (.iload 5, 2) := by decide +kernel
theorem dX2_keepBest_74 : decode cX2_keepBest 74 = .ok (.istore_n 3, 1) := by decide +kernel
theorem dX2_keepBest_75 : decode cX2_keepBest 75 = .ok (.iload 6, 2) := by decide +kernel
theorem dX2_keepBest_77 : decode cX2_keepBest 77 = .ok (.istore 4, 2) := by decide +kernel
theorem dX2_keepBest_79 : decode cX2_keepBest 79 = .ok (.iinc 5 1, 3) := by decide +kernel
theorem dX2_keepBest_82 : decode cX2_keepBest 82 = .ok (.goto (-69), 3) := by decide +kernel
theorem dX2_keepBest_85 : decode cX2_keepBest 85 = .ok (.aload_n 0, 1) := by decide +kernel
theorem dX2_keepBest_86 : decode cX2_keepBest 86 = .ok (.iload_n 3, 1) := by decide +kernel
theorem dX2_keepBest_87 : decode cX2_keepBest 87 = .ok (.putfield 48, 3) := by decide +kernel
theorem dX2_keepBest_90 : decode cX2_keepBest 90 = .ok (.iload 4, 2) := by decide +kernel
theorem dX2_keepBest_92 : decode cX2_keepBest 92 = .ok (.ireturn, 1) := by decide +kernel
theorem dX2_isFirstRow_0 : decode cX2_isFirstRow 0 = .ok (.iload_n 0, 1) := by decide +kernel
theorem dX2_isFirstRow_1 : decode cX2_isFirstRow 1 = .ok (.iload_n 1, 1) := by decide +kernel
theorem dX2_isFirstRow_2 : decode cX2_isFirstRow 2 = .ok (.ixor, 1) := by decide +kernel
theorem dX2_isFirstRow_3 : decode cX2_isFirstRow 3 = .ok (.istore_n 2, 1) := by decide +kernel
theorem dX2_isFirstRow_4 : decode cX2_isFirstRow 4 = .ok (.iload_n 2, 1) := by decide +kernel
theorem dX2_isFirstRow_5 : decode cX2_isFirstRow 5 = .ok (.iload_n 2, 1) := by decide +kernel
theorem dX2_isFirstRow_6 : decode cX2_isFirstRow 6 = .ok (.ineg, 1) := by decide +kernel
theorem dX2_isFirstRow_7 : decode cX2_isFirstRow 7 = .ok (.iand, 1) := by decide +kernel
theorem dX2_isFirstRow_8 : decode cX2_isFirstRow 8 = .ok (.istore_n 3, 1) := by decide +kernel
theorem dX2_isFirstRow_9 : decode cX2_isFirstRow 9 = .ok (.iload_n 0, 1) := by decide +kernel
theorem dX2_isFirstRow_10 : decode cX2_isFirstRow 10 = .ok (.iload_n 3, 1) := by decide +kernel
theorem dX2_isFirstRow_11 : decode cX2_isFirstRow 11 = .ok (.iand, 1) := by decide +kernel
theorem dX2_isFirstRow_12 : decode cX2_isFirstRow 12 = .ok (.ifCond .eq 7, 3) := by decide +kernel
theorem dX2_isFirstRow_15 : decode cX2_isFirstRow 15 = .ok (.iconst 1, 1) := by decide +kernel
theorem dX2_isFirstRow_16 : decode cX2_isFirstRow 16 = .ok (.goto 4, 3) := by decide +kernel
theorem dX2_isFirstRow_19 : decode cX2_isFirstRow 19 = .ok (.iconst 0, 1) := by decide +kernel
theorem dX2_isFirstRow_20 : decode cX2_isFirstRow 20 = .ok (.ireturn, 1) := by decide +kernel
theorem dX2_measureCabinetWays_0 : decode cX2_measureCabinetWays 0 = .ok (.iconst 0, 1) := by decide +kernel
theorem dX2_measureCabinetWays_1 : decode cX2_measureCabinetWays 1 = .ok (.istore_n 2, 1) := by decide +kernel
theorem dX2_measureCabinetWays_2 : decode cX2_measureCabinetWays 2 = .ok (.iload_n 2, 1) := by decide +kernel
theorem dX2_measureCabinetWays_3 : decode cX2_measureCabinetWays 3 = .ok (.aload_n 0, 1) := by decide +kernel
theorem dX2_measureCabinetWays_4 : decode cX2_measureCabinetWays 4 = .ok (.getfield 14, 3) := by decide +kernel
theorem dX2_measureCabinetWays_7 : decode cX2_measureCabinetWays 7 = .ok (.getfield 31, 3) := by decide +kernel
theorem dX2_measureCabinetWays_10 : decode cX2_measureCabinetWays 10 = .ok (.if_icmp .ge 67, 3) := by decide +kernel
theorem dX2_measureCabinetWays_13 : decode cX2_measureCabinetWays 13 = .ok (.sipush 1000, 3) := by decide +kernel
theorem dX2_measureCabinetWays_16 : decode cX2_measureCabinetWays 16 = .ok (.istore_n 3, 1) := by decide +kernel
theorem dX2_measureCabinetWays_17 : decode cX2_measureCabinetWays 17 = .ok (.iconst 0, 1) := by decide +kernel
theorem dX2_measureCabinetWays_18 : decode cX2_measureCabinetWays 18 = .ok (.istore 4, 2) := by decide +kernel
theorem dX2_measureCabinetWays_20 : decode cX2_measureCabinetWays 20 = .ok (.iload 4, 2) := by decide +kernel
theorem dX2_measureCabinetWays_22 : decode cX2_measureCabinetWays 22 = .ok (.aload_n 1, 1) := by decide +kernel
theorem dX2_measureCabinetWays_23 : decode cX2_measureCabinetWays 23 = .ok (.getfield 31, 3) := by decide +kernel
theorem dX2_measureCabinetWays_26 : decode cX2_measureCabinetWays 26 = .ok (.if_icmp .ge 38, 3) := by decide +kernel
theorem dX2_measureCabinetWays_29 : decode cX2_measureCabinetWays 29 = .ok (.iload_n 3, 1) := by decide +kernel
theorem dX2_measureCabinetWays_30 : decode cX2_measureCabinetWays 30 = .ok (.aload_n 1, 1) := by decide +kernel
theorem dX2_measureCabinetWays_31 : decode cX2_measureCabinetWays 31 = .ok (.iload 4, 2) := by decide +kernel
theorem dX2_measureCabinetWays_33 : decode cX2_measureCabinetWays 33 = .ok (.aload_n 0, 1) := by decide +kernel
theorem dX2_measureCabinetWays_34 : decode cX2_measureCabinetWays 34 = .ok (.getfield 14, 3) := by decide +kernel
theorem dX2_measureCabinetWays_37 : decode cX2_measureCabinetWays 37 = .ok (.getfield 51, 3) := by decide +kernel
theorem dX2_measureCabinetWays_40 : decode cX2_measureCabinetWays 40 = .ok (.iload_n 2, 1) := by decide +kernel
theorem dX2_measureCabinetWays_41 : decode cX2_measureCabinetWays 41 = .ok (.iaload, 1) := by decide +kernel
theorem dX2_measureCabinetWays_42 : decode cX2_measureCabinetWays 42 = .ok (.aload_n 0, 1) := by decide +kernel
theorem dX2_measureCabinetWays_43 : decode cX2_measureCabinetWays 43 = .ok (.getfield 14, 3) := by decide +kernel
theorem dX2_measureCabinetWays_46 : decode cX2_measureCabinetWays 46 = .ok (.getfield 54, 3) := by decide +kernel
theorem dX2_measureCabinetWays_49 : decode cX2_measureCabinetWays 49 = .ok (.iload_n 2, 1) := by decide +kernel
theorem dX2_measureCabinetWays_50 : decode cX2_measureCabinetWays 50 = .ok (.iaload, 1) := by decide +kernel
theorem dX2_measureCabinetWays_51 : decode cX2_measureCabinetWays 51 = .ok (.invokevirtual 57, 3) := by decide +kernel
theorem dX2_measureCabinetWays_54 : decode cX2_measureCabinetWays 54 = .ok (.invokestatic 61, 3) := by decide +kernel
theorem dX2_measureCabinetWays_57 : decode cX2_measureCabinetWays 57 = .ok (.istore_n 3, 1) := by decide +kernel
theorem dX2_measureCabinetWays_58 : decode cX2_measureCabinetWays 58 = .ok (.iinc 4 1, 3) := by decide +kernel
theorem dX2_measureCabinetWays_61 : decode cX2_measureCabinetWays 61 = .ok (.goto (-41), 3) := by decide +kernel
theorem dX2_measureCabinetWays_64 : decode cX2_measureCabinetWays 64 = .ok (.aload_n 0, 1) := by decide +kernel
theorem dX2_measureCabinetWays_65 : decode cX2_measureCabinetWays 65 = .ok (.getfield 23, 3) := by decide +kernel
theorem dX2_measureCabinetWays_68 : decode cX2_measureCabinetWays 68 = .ok (.iload_n 2, 1) := by decide +kernel
theorem dX2_measureCabinetWays_69 : decode cX2_measureCabinetWays 69 = .ok (.iload_n 3, 1) := by decide +kernel
theorem dX2_measureCabinetWays_70 : decode cX2_measureCabinetWays 70 = .ok (.iastore, 1) := by decide +kernel
theorem dX2_measureCabinetWays_71 : decode cX2_measureCabinetWays 71 = .ok (.iinc 2 1, 3) := by decide +kernel
theorem dX2_measureCabinetWays_74 : decode cX2_measureCabinetWays 74 = .ok (.goto (-72), 3) := by decide +kernel
theorem dX2_measureCabinetWays_77 : decode cX2_measureCabinetWays 77 = .ok (.return_, 1) := by decide +kernel
theorem dX2_sumOfWays_0 : decode cX2_sumOfWays 0 = .ok (.iconst 0, 1) := by decide +kernel
theorem dX2_sumOfWays_1 : decode cX2_sumOfWays 1 = .ok (.istore_n 2, 1) := by decide +kernel
theorem dX2_sumOfWays_2 : decode cX2_sumOfWays 2 = .ok (.iconst 0, 1) := by decide +kernel
theorem dX2_sumOfWays_3 : decode cX2_sumOfWays 3 = .ok (.istore_n 3, 1) := by decide +kernel
theorem dX2_sumOfWays_4 : decode cX2_sumOfWays 4 = .ok (.iload_n 3, 1) := by decide +kernel
theorem dX2_sumOfWays_5 : decode cX2_sumOfWays 5 = .ok (.aload_n 0, 1) := by decide +kernel
theorem dX2_sumOfWays_6 : decode cX2_sumOfWays 6 = .ok (.getfield 14, 3) := by decide +kernel
theorem dX2_sumOfWays_9 : decode cX2_sumOfWays 9 = .ok (.getfield 31, 3) := by decide +kernel
theorem dX2_sumOfWays_12 : decode cX2_sumOfWays 12 = .ok (.if_icmp .ge 86, 3) := by decide +kernel
theorem dX2_sumOfWays_15 : decode cX2_sumOfWays 15 = .ok (.aload_n 0, 1) := by decide +kernel
theorem dX2_sumOfWays_16 : decode cX2_sumOfWays 16 = .ok (.getfield 23, 3) := by decide +kernel
theorem dX2_sumOfWays_19 : decode cX2_sumOfWays 19 = .ok (.iload_n 3, 1) := by decide +kernel
theorem dX2_sumOfWays_20 : decode cX2_sumOfWays 20 = .ok (.iaload, 1) := by decide +kernel
theorem dX2_sumOfWays_21 : decode cX2_sumOfWays 21 = .ok (.istore 4, 2) := by decide +kernel
theorem dX2_sumOfWays_23 : decode cX2_sumOfWays 23 = .ok (.iconst 0, 1) := by decide +kernel
theorem dX2_sumOfWays_24 : decode cX2_sumOfWays 24 = .ok (.istore 5, 2) := by decide +kernel
theorem dX2_sumOfWays_26 : decode cX2_sumOfWays 26 = .ok (.iload 5, 2) := by decide +kernel
theorem dX2_sumOfWays_28 : decode cX2_sumOfWays 28 = .ok (.aload_n 0, 1) := by decide +kernel
theorem dX2_sumOfWays_29 : decode cX2_sumOfWays 29 = .ok (.getfield 20, 3) := by decide +kernel
theorem dX2_sumOfWays_32 : decode cX2_sumOfWays 32 = .ok (.getfield 31, 3) := by decide +kernel
theorem dX2_sumOfWays_35 : decode cX2_sumOfWays 35 = .ok (.if_icmp .ge 52, 3) := by decide +kernel
theorem dX2_sumOfWays_38 : decode cX2_sumOfWays 38 = .ok (.iload_n 1, 1) := by decide +kernel
theorem dX2_sumOfWays_39 : decode cX2_sumOfWays 39 = .ok (.iload 5, 2) := by decide +kernel
theorem dX2_sumOfWays_41 : decode cX2_sumOfWays 41 = .ok (.ishr, 1) := by decide +kernel
theorem dX2_sumOfWays_42 : decode cX2_sumOfWays 42 = .ok (.iconst 1, 1) := by decide +kernel
theorem dX2_sumOfWays_43 : decode cX2_sumOfWays 43 = .ok (.iand, 1) := by decide +kernel
theorem dX2_sumOfWays_44 : decode cX2_sumOfWays 44 = .ok (.ifCond .eq 37, 3) := by decide +kernel
theorem dX2_sumOfWays_47 : decode cX2_sumOfWays 47 = .ok (.iload 4, 2) := by decide +kernel
theorem dX2_sumOfWays_49 : decode cX2_sumOfWays 49 = .ok (.aload_n 0, 1) := by decide +kernel
theorem dX2_sumOfWays_50 : decode cX2_sumOfWays 50 = .ok (.getfield 20, 3) := by decide +kernel
theorem dX2_sumOfWays_53 : decode cX2_sumOfWays 53 = .ok (.iload 5, 2) := by decide +kernel
theorem dX2_sumOfWays_55 : decode cX2_sumOfWays 55 = .ok (.aload_n 0, 1) := by decide +kernel
theorem dX2_sumOfWays_56 : decode cX2_sumOfWays 56 = .ok (.getfield 14, 3) := by decide +kernel
theorem dX2_sumOfWays_59 : decode cX2_sumOfWays 59 = .ok (.getfield 51, 3) := by decide +kernel
theorem dX2_sumOfWays_62 : decode cX2_sumOfWays 62 = .ok (.iload_n 3, 1) := by decide +kernel
theorem dX2_sumOfWays_63 : decode cX2_sumOfWays 63 = .ok (.iaload, 1) := by decide +kernel
theorem dX2_sumOfWays_64 : decode cX2_sumOfWays 64 = .ok (.aload_n 0, 1) := by decide +kernel
theorem dX2_sumOfWays_65 : decode cX2_sumOfWays 65 = .ok (.getfield 14, 3) := by decide +kernel
theorem dX2_sumOfWays_68 : decode cX2_sumOfWays 68 = .ok (.getfield 54, 3) := by decide +kernel
theorem dX2_sumOfWays_71 : decode cX2_sumOfWays 71 = .ok (.iload_n 3, 1) := by decide +kernel
theorem dX2_sumOfWays_72 : decode cX2_sumOfWays 72 = .ok (.iaload, 1) := by decide +kernel
theorem dX2_sumOfWays_73 : decode cX2_sumOfWays 73 = .ok (.invokevirtual 57, 3) := by decide +kernel
theorem dX2_sumOfWays_76 : decode cX2_sumOfWays 76 = .ok (.invokestatic 61, 3) := by decide +kernel
theorem dX2_sumOfWays_79 : decode cX2_sumOfWays 79 = .ok (.istore 4, 2) := by decide +kernel
theorem dX2_sumOfWays_81 : decode cX2_sumOfWays 81 = .ok (.iinc 5 1, 3) := by decide +kernel
theorem dX2_sumOfWays_84 : decode cX2_sumOfWays 84 = .ok (.goto (-58), 3) := by decide +kernel
theorem dX2_sumOfWays_87 : decode cX2_sumOfWays 87 = .ok (.iload_n 2, 1) := by decide +kernel
theorem dX2_sumOfWays_88 : decode cX2_sumOfWays 88 = .ok (.iload 4, 2) := by decide +kernel
theorem dX2_sumOfWays_90 : decode cX2_sumOfWays 90 = .ok (.iadd, 1) := by decide +kernel
theorem dX2_sumOfWays_91 : decode cX2_sumOfWays 91 = .ok (.istore_n 2, 1) := by decide +kernel
theorem dX2_sumOfWays_92 : decode cX2_sumOfWays 92 = .ok (.iinc 3 1, 3) := by decide +kernel
theorem dX2_sumOfWays_95 : decode cX2_sumOfWays 95 = .ok (.goto (-91), 3) := by decide +kernel
theorem dX2_sumOfWays_98 : decode cX2_sumOfWays 98 = .ok (.iload_n 2, 1) := by decide +kernel
theorem dX2_sumOfWays_99 : decode cX2_sumOfWays 99 = .ok (.ireturn, 1) := by decide +kernel
