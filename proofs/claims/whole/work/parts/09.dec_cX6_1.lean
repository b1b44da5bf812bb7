theorem dX6_isReady_43 : decode cX6_isReady 43 = .ok (.if_icmp .lt 7, 3) := by decide +kernel
theorem dX6_isReady_46 : decode cX6_isReady 46 = .ok (.iconst 1, 1) := by decide +kernel
theorem dX6_isReady_47 : decode cX6_isReady 47 = .ok (.goto 4, 3) := by decide +kernel
theorem dX6_isReady_50 : decode cX6_isReady 50 = .ok (.iconst 0, 1) := by decide +kernel
theorem dX6_isReady_51 : decode cX6_isReady 51 = .ok (.ireturn, 1) := by decide +kernel
theorem dX6_countReadyIn_0 : decode cX6_countReadyIn 0 = .ok (.iconst 0, 1) := by decide +kernel
theorem dX6_countReadyIn_1 : decode cX6_countReadyIn 1 = .ok (.istore_n 2, 1) := by decide +kernel
theorem dX6_countReadyIn_2 : decode cX6_countReadyIn 2 = .ok (.iconst 0, 1) := by decide +kernel
theorem dX6_countReadyIn_3 : decode cX6_countReadyIn 3 = .ok (.istore_n 3, 1) := by decide +kernel
theorem dX6_countReadyIn_4 : decode cX6_countReadyIn 4 = .ok (.iload_n 3, 1) := by decide +kernel
theorem dX6_countReadyIn_5 : decode cX6_countReadyIn 5 = .ok (.aload_n 0, 1) := by decide +kernel
theorem dX6_countReadyIn_6 : decode cX6_countReadyIn 6 = .ok (.getfield 26, 3) := by decide +kernel
theorem dX6_countReadyIn_9 : decode cX6_countReadyIn 9 = .ok (.getfield 124, 3) := by decide +kernel
theorem dX6_countReadyIn_12 : decode cX6_countReadyIn 12 = .ok (.if_icmp .ge 33, 3) := by decide +kernel
theorem dX6_countReadyIn_15 : decode cX6_countReadyIn 15 = .ok (.aload_n 0, 1) := by decide +kernel
theorem dX6_countReadyIn_16 : decode cX6_countReadyIn 16 = .ok (.getfield 26, 3) := by decide +kernel
theorem dX6_countReadyIn_19 : decode cX6_countReadyIn 19 = .ok (.getfield 93, 3) := by decide +kernel
theorem dX6_countReadyIn_22 : decode cX6_countReadyIn 22 = .ok (.iload_n 3, 1) := by decide +kernel
theorem dX6_countReadyIn_23 : decode cX6_countReadyIn 23 = .ok (.iaload, 1) := by decide +kernel
theorem dX6_countReadyIn_24 : decode cX6_countReadyIn 24 = .ok (.iload_n 1, 1) := by decide +kernel
theorem dX6_countReadyIn_25 : decode cX6_countReadyIn 25 = .ok (.if_icmp .ne 14, 3) := by decide +kernel
theorem dX6_countReadyIn_28 : decode cX6_countReadyIn 28 = .ok (.aload_n 0, 1) := by decide +kernel
theorem dX6_countReadyIn_29 : decode cX6_countReadyIn 29 = .ok (.iload_n 3, 1) := by decide +kernel
theorem dX6_countReadyIn_30 : decode cX6_countReadyIn 30 = .ok (.invokevirtual 159, 3) := by decide +kernel
theorem dX6_countReadyIn_33 : decode cX6_countReadyIn 33 = .ok (.ifCond .eq 6, 3) := by decide +kernel
theorem dX6_countReadyIn_36 : decode cX6_countReadyIn 36 = .ok (.iinc 2 1, 3) := by decide +kernel
theorem dX6_countReadyIn_39 : decode cX6_countReadyIn 39 = .ok (.iinc 3 1, 3) := by decide +kernel
theorem dX6_countReadyIn_42 : decode cX6_countReadyIn 42 = .ok (.goto (-38), 3) := by decide +kernel
theorem dX6_countReadyIn_45 : decode cX6_countReadyIn 45 = .ok (.iload_n 2, 1) := by decide +kernel
theorem dX6_countReadyIn_46 : decode cX6_countReadyIn 46 = .ok (.ireturn, 1) := by decide +kernel
theorem dX6_givenIn_0 : decode cX6_givenIn 0 = .ok (.iconst (-1), 1) := by decide +kernel
theorem dX6_givenIn_1 : decode cX6_givenIn 1 = .ok (.istore_n 2, 1) := by decide +kernel
theorem dX6_givenIn_2 : decode cX6_givenIn 2 = .ok (.aload_n 0, 1) := by decide +kernel
theorem dX6_givenIn_3 : decode cX6_givenIn 3 = .ok (.getfield 19, 3) := by decide +kernel
theorem dX6_givenIn_6 : decode cX6_givenIn 6 = .ok (.iload_n 1, 1) := by decide +kernel
theorem dX6_givenIn_7 : decode cX6_givenIn 7 = .ok (.invokevirtual 96, 3) := by decide +kernel
theorem dX6_givenIn_10 : decode cX6_givenIn 10 = .ok (.ifCond .ne 5, 3) := by decide +kernel
theorem dX6_givenIn_13 : decode cX6_givenIn 13 = .ok (.iload_n 2, 1) := by decide +kernel
theorem dX6_givenIn_14 : decode cX6_givenIn 14 = .ok (.ireturn, 1) := by decide +kernel
theorem dX6_givenIn_15 : decode cX6_givenIn 15 = .ok (.iconst 0, 1) := by decide +kernel
theorem dX6_givenIn_16 : decode cX6_givenIn 16 = .ok (.istore_n 3, 1) := by decide +kernel
theorem dX6_givenIn_17 : decode cX6_givenIn 17 = .ok (.iload_n 3, 1) := by decide +kernel
theorem dX6_givenIn_18 : decode cX6_givenIn 18 = .ok (.aload_n 0, 1) := by decide +kernel
theorem dX6_givenIn_19 : decode cX6_givenIn 19 = .ok (.getfield 26, 3) := by decide +kernel
theorem dX6_givenIn_22 : decode cX6_givenIn 22 = .ok (.getfield 124, 3) := by decide +kernel
theorem dX6_givenIn_25 : decode cX6_givenIn 25 = .ok (.if_icmp .ge 40, 3) := by decide +kernel
theorem dX6_givenIn_28 : decode cX6_givenIn 28 = .ok (.aload_n 0, 1) := by decide +kernel
theorem dX6_givenIn_29 : decode cX6_givenIn 29 = .ok (.getfield 26, 3) := by decide +kernel
theorem dX6_givenIn_32 : decode cX6_givenIn 32 = .ok (.getfield 93, 3) := by decide +kernel
theorem dX6_givenIn_35 : decode cX6_givenIn 35 = .ok (.iload_n 3, 1) := by decide +kernel
theorem dX6_givenIn_36 : decode cX6_givenIn 36 = .ok (.iaload, 1) := by decide +kernel
theorem dX6_givenIn_37 : decode cX6_givenIn 37 = .ok (.iload_n 1, 1) := by decide +kernel
theorem dX6_givenIn_38 : decode cX6_givenIn 38 = .ok (.if_icmp .ne 21, 3) := by decide +kernel
theorem dX6_givenIn_41 : decode cX6_givenIn 41 = .ok (.aload_n 0, 1) := by decide +kernel
theorem dX6_givenIn_42 : decode cX6_givenIn 42 = .ok (.iload_n 3, 1) := by decide +kernel
theorem dX6_givenIn_43 : decode cX6_givenIn 43 = .ok (.invokevirtual 159, 3) := by decide +kernel
theorem dX6_givenIn_46 : decode cX6_givenIn 46 = .ok (.ifCond .eq 13, 3) := by decide +kernel
theorem dX6_givenIn_49 : decode cX6_givenIn 49 = .ok (.aload_n 0, 1) := by decide +kernel
theorem dX6_givenIn_50 : decode cX6_givenIn 50 = .ok (.getfield 26, 3) := by decide +kernel
theorem dX6_givenIn_53 : decode cX6_givenIn 53 = .ok (.iload_n 2, 1) := by decide +kernel
theorem dX6_givenIn_54 : decode cX6_givenIn 54 = .ok (.iload_n 3, 1) := by decide +kernel
theorem dX6_givenIn_55 : decode cX6_givenIn 55 = .ok (.invokevirtual 216, 3) := by decide +kernel
theorem dX6_givenIn_58 : decode cX6_givenIn 58 = .ok (.istore_n 2, 1) := by decide +kernel
theorem dX6_givenIn_59 : decode cX6_givenIn 59 = .ok (.iinc 3 1, 3) := by decide +kernel
theorem dX6_givenIn_62 : decode cX6_givenIn 62 = .ok (.goto (-45), 3) := by decide +kernel
theorem dX6_givenIn_65 : decode cX6_givenIn 65 = .ok (.iload_n 2, 1) := by decide +kernel
theorem dX6_givenIn_66 : decode cX6_givenIn 66 = .ok (.ireturn, 1) := by decide +kernel
theorem dX6_priceNow_0 : decode cX6_priceNow 0 = .ok (.aload_n 0, 1) := by decide +kernel
theorem dX6_priceNow_1 : decode cX6_priceNow 1 = .ok (.getfield 13, 3) := by decide +kernel
theorem dX6_priceNow_4 : decode cX6_priceNow 4 = .ok (.aload_n 0, 1) := by decide +kernel
theorem dX6_priceNow_5 : decode cX6_priceNow 5 = .ok (.getfield 113, 3) := by decide +kernel
theorem dX6_priceNow_8 : decode cX6_priceNow 8 = .ok (.bipush 24, 2) := by decide +kernel
theorem dX6_priceNow_10 : decode cX6_priceNow 10 = .ok (.invokestatic 219, 3) := by decide +kernel
theorem dX6_priceNow_13 : decode cX6_priceNow 13 = .ok (.iaload, 1) := by decide +kernel
theorem dX6_priceNow_14 : decode cX6_priceNow 14 = .ok (.ireturn, 1) := by decide +kernel
theorem dX6_passHour_0 : decode cX6_passHour 0 = .ok (.aload_n 0, 1) := by decide +kernel
theorem dX6_passHour_1 : decode cX6_passHour 1 = .ok (.invokevirtual 143, 3) := by decide +kernel
theorem dX6_passHour_4 : decode cX6_passHour 4 = .ok (.istore_n 1, 1) := by decide +kernel
theorem dX6_passHour_5 : decode cX6_passHour 5 = .ok (.iconst 0, 1) := by decide +kernel
theorem dX6_passHour_6 : decode cX6_passHour 6 = .ok (.istore_n 2, 1) := by decide +kernel
theorem dX6_passHour_7 : decode cX6_passHour 7 = .ok (.iload_n 2, 1) := by decide +kernel
theorem dX6_passHour_8 : decode cX6_passHour 8 = .ok (.aload_n 0, 1) := by decide +kernel
theorem dX6_passHour_9 : decode cX6_passHour 9 = .ok (.getfield 19, 3) := by decide +kernel
theorem dX6_passHour_12 : decode cX6_passHour 12 = .ok (.invokevirtual 120, 3) := by decide +kernel
theorem dX6_passHour_15 : decode cX6_passHour 15 = .ok (.if_icmp .ge 15, 3) := by decide +kernel
theorem dX6_passHour_18 : decode cX6_passHour 18 = .ok (.aload_n 0, 1) := by decide +kernel
theorem dX6_passHour_19 : decode cX6_passHour 19 = .ok (.iload_n 2, 1) := by decide +kernel
theorem dX6_passHour_20 : decode cX6_passHour 20 = .ok (.iload_n 1, 1) := by decide +kernel
theorem dX6_passHour_21 : decode cX6_passHour 21 = .ok (.invokevirtual 224, 3) := by decide +kernel
theorem dX6_passHour_24 : decode cX6_passHour 24 = .ok (.iinc 2 1, 3) := by decide +kernel
theorem dX6_passHour_27 : decode cX6_passHour 27 = .ok (.goto (-20), 3) := by decide +kernel
theorem dX6_passHour_30 : decode cX6_passHour 30 = .ok (.aload_n 0, 1) := by decide +kernel
theorem dX6_passHour_31 : decode cX6_passHour 31 = .ok (.dup, 1) := by decide +kernel
theorem dX6_passHour_32 : decode cX6_passHour 32 = .ok (.getfield 113, 3) := by decide +kernel
theorem dX6_passHour_35 : decode cX6_passHour 35 = .ok (.iconst 1, 1) := by decide +kernel
theorem dX6_passHour_36 : decode cX6_passHour 36 = .ok (.iadd, 1) := by decide +kernel
theorem dX6_passHour_37 : decode cX6_passHour 37 = .ok (.putfield 113, 3) := by decide +kernel
theorem dX6_passHour_40 : decode cX6_passHour 40 = .ok (.return_, 1) := by decide +kernel
theorem dX6_chargeIn_0 : decode cX6_chargeIn 0 = .ok (.iconst 0, 1) := by decide +kernel
theorem dX6_chargeIn_1 : decode cX6_chargeIn 1 = .ok (.istore_n 3, 1) := by decide +kernel
theorem dX6_chargeIn_2 : decode cX6_chargeIn 2 = .ok (.iload_n 3, 1) := by decide +kernel
theorem dX6_chargeIn_3 : decode cX6_chargeIn 3 = .ok (.aload_n 0, 1) := by decide +kernel
theorem dX6_chargeIn_4 : decode cX6_chargeIn 4 = .ok (.getfield 19, 3) := by decide +kernel
theorem dX6_chargeIn_7 : decode cX6_chargeIn 7 = .ok (.getfield 227, 3) := by decide +kernel
theorem dX6_chargeIn_10 : decode cX6_chargeIn 10 = .ok (.iload_n 1, 1) := by decide +kernel
theorem dX6_chargeIn_11 : decode cX6_chargeIn 11 = .ok (.iaload, 1) := by decide +kernel
theorem dX6_chargeIn_12 : decode cX6_chargeIn 12 = .ok (.if_icmp .ge 95, 3) := by decide +kernel
theorem dX6_chargeIn_15 : decode cX6_chargeIn 15 = .ok (.iload_n 2, 1) := by decide +kernel
theorem dX6_chargeIn_16 : decode cX6_chargeIn 16 = .ok (.aload_n 0, 1) := by decide +kernel
theorem dX6_chargeIn_17 : decode cX6_chargeIn 17 = .ok (.getfield 7, 3) := by decide +kernel
theorem dX6_chargeIn_20 : decode cX6_chargeIn 20 = .ok (.iconst 2, 1) := by decide +kernel
theorem dX6_chargeIn_21 : decode cX6_chargeIn 21 = .ok (.iaload, 1) := by decide +kernel
theorem dX6_chargeIn_22 : decode cX6_chargeIn 22 = .ok (.if_icmp .le 7, 3) := by decide +kernel
theorem dX6_chargeIn_25 : decode cX6_chargeIn 25 = .ok (.iconst 1, 1) := by decide +kernel
theorem dX6_chargeIn_26 : decode cX6_chargeIn 26 = .ok (.goto 4, 3) := by decide +kernel
theorem dX6_chargeIn_29 : decode cX6_chargeIn 29 = .ok (.iconst 0, 1) := by decide +kernel
theorem dX6_chargeIn_30 : decode cX6_chargeIn 30 = .ok (.istore 4, 2) := by decide +kernel
theorem dX6_chargeIn_32 : decode cX6_chargeIn 32 = .ok (.iload 4, 2) := by decide +kernel
theorem dX6_chargeIn_34 : decode cX6_chargeIn 34 = .ok (.ifCond .eq 21, 3) := by decide +kernel
theorem dX6_chargeIn_37 : decode cX6_chargeIn 37 = .ok (.aload_n 0, 1) := by decide +kernel
theorem dX6_chargeIn_38 : decode cX6_chargeIn 38 = .ok (.iload_n 1, 1) := by decide +kernel
theorem dX6_chargeIn_39 : decode cX6_chargeIn 39 = .ok (.invokevirtual 164, 3) := by decide +kernel
theorem dX6_chargeIn_42 : decode cX6_chargeIn 42 = .ok (.aload_n 0, 1) := by decide +kernel
theorem dX6_chargeIn_43 : decode cX6_chargeIn 43 = .ok (.getfield 19, 3) := by decide +kernel
theorem dX6_chargeIn_46 : decode cX6_chargeIn 46 = .ok (.getfield 230, 3) := by decide +kernel
theorem dX6_chargeIn_49 : decode cX6_chargeIn 49 = .ok (.iload_n 1, 1) := by decide +kernel
theorem dX6_chargeIn_50 : decode cX6_chargeIn 50 = .ok (.iaload, 1) := by decide +kernel
theorem dX6_chargeIn_51 : decode cX6_chargeIn 51 = .ok (.if_icmp .lt 4, 3) := by decide +kernel
theorem dX6_chargeIn_54 : decode cX6_chargeIn 54 = .ok (.return_, 1) := by decide +kernel
theorem dX6_chargeIn_55 : decode cX6_chargeIn 55 = .ok (.aload_n 0, 1) := by decide +kernel
theorem dX6_chargeIn_56 : decode cX6_chargeIn 56 = .ok (.iload_n 1, 1) := by decide +kernel
theorem dX6_chargeIn_57 : decode cX6_chargeIn 57 = .ok (.invokevirtual 233, 3) := by decide +kernel
theorem dX6_chargeIn_60 : decode cX6_chargeIn 60 = .ok (.istore 5, 2) := by decide +kernel
theorem dX6_chargeIn_62 : decode cX6_chargeIn 62 = .ok (.iload 5, 2) := by decide +kernel
theorem dX6_chargeIn_64 : decode cX6_chargeIn 64 = .ok (.iconst (-1), 1) := by decide +kernel
theorem dX6_chargeIn_65 : decode cX6_chargeIn 65 = .ok (.if_icmp .ne 4, 3) := by decide +kernel
theorem dX6_chargeIn_68 : decode cX6_chargeIn 68 = .ok (.return_, 1) := by decide +kernel
theorem dX6_chargeIn_69 : decode cX6_chargeIn 69 = .ok (.aload_n 0, 1) := by decide +kernel
theorem dX6_chargeIn_70 : decode cX6_chargeIn 70 = .ok (.getfield 26, 3) := by decide +kernel
theorem dX6_chargeIn_73 : decode cX6_chargeIn 73 = .ok (.iload 5, 2) := by decide +kernel
theorem dX6_chargeIn_75 : decode cX6_chargeIn 75 = .ok (.aload_n 0, 1) := by decide +kernel
theorem dX6_chargeIn_76 : decode cX6_chargeIn 76 = .ok (.getfield 7, 3) := by decide +kernel
theorem dX6_chargeIn_79 : decode cX6_chargeIn 79 = .ok (.iconst 3, 1) := by decide +kernel
theorem dX6_chargeIn_80 : decode cX6_chargeIn 80 = .ok (.iaload, 1) := by decide +kernel
theorem dX6_chargeIn_81 : decode cX6_chargeIn 81 = .ok (.aload_n 0, 1) := by decide +kernel
theorem dX6_chargeIn_82 : decode cX6_chargeIn 82 = .ok (.getfield 113, 3) := by decide +kernel
theorem dX6_chargeIn_85 : decode cX6_chargeIn 85 = .ok (.invokevirtual 236, 3) := by decide +kernel
theorem dX6_chargeIn_88 : decode cX6_chargeIn 88 = .ok (.aload_n 0, 1) := by decide +kernel
theorem dX6_chargeIn_89 : decode cX6_chargeIn 89 = .ok (.getfield 19, 3) := by decide +kernel
theorem dX6_chargeIn_92 : decode cX6_chargeIn 92 = .ok (.getfield 167, 3) := by decide +kernel
theorem dX6_chargeIn_95 : decode cX6_chargeIn 95 = .ok (.iload_n 1, 1) := by decide +kernel
theorem dX6_chargeIn_96 : decode cX6_chargeIn 96 = .ok (.dup2, 1) := by decide +kernel
theorem dX6_chargeIn_97 : decode cX6_chargeIn 97 = .ok (.iaload, 1) := by decide +kernel
theorem dX6_chargeIn_98 : decode cX6_chargeIn 98 = .ok (.iload_n 2, 1) := by decide +kernel
theorem dX6_chargeIn_99 : decode cX6_chargeIn 99 = .ok (.iadd, 1) := by decide +kernel
theorem dX6_chargeIn_100 : decode cX6_chargeIn 100 = .ok (.iastore, 1) := by decide +kernel
theorem dX6_chargeIn_101 : decode cX6_chargeIn 101 = .ok (.iinc 3 1, 3) := by decide +kernel
theorem dX6_chargeIn_104 : decode cX6_chargeIn 104 = .ok (.goto (-102), 3) := by decide +kernel
theorem dX6_chargeIn_107 : decode cX6_chargeIn 107 = .ok (.return_, 1) := by decide +kernel
theorem dX6_nextToCharge_0 : decode cX6_nextToCharge 0 = .ok (.iconst (-1), 1) := by decide +kernel
theorem dX6_nextToCharge_1 : decode cX6_nextToCharge 1 = .ok (.istore_n 2, 1) := by decide +kernel
theorem dX6_nextToCharge_2 : decode cX6_nextToCharge 2 = .ok (.iconst 0, 1) := by decide +kernel
theorem dX6_nextToCharge_3 : decode cX6_nextToCharge 3 = .ok (.istore_n 3, 1) := by decide +kernel
theorem dX6_nextToCharge_4 : decode cX6_nextToCharge 4 = .ok (.iload_n 3, 1) := by decide +kernel
theorem dX6_nextToCharge_5 : decode cX6_nextToCharge 5 = .ok (.aload_n 0, 1) := by decide +kernel
theorem dX6_nextToCharge_6 : decode cX6_nextToCharge 6 = .ok (.getfield 26, 3) := by decide +kernel
theorem dX6_nextToCharge_9 : decode cX6_nextToCharge 9 = .ok (.getfield 124, 3) := by decide +kernel
theorem dX6_nextToCharge_12 : decode cX6_nextToCharge 12 = .ok (.if_icmp .ge 79, 3) := by decide +kernel
theorem dX6_nextToCharge_15 : decode cX6_nextToCharge 15 = .ok (.aload_n 0, 1) := by decide +kernel
theorem dX6_nextToCharge_16 : decode cX6_nextToCharge 16 = .ok (.getfield 26, 3) := by decide +kernel
theorem dX6_nextToCharge_19 : decode cX6_nextToCharge 19 = .ok (.getfield 93, 3) := by decide +kernel
theorem dX6_nextToCharge_22 : decode cX6_nextToCharge 22 = .ok (.iload_n 3, 1) := by decide +kernel
theorem dX6_nextToCharge_23 : decode cX6_nextToCharge 23 = .ok (.iaload, 1) := by decide +kernel
theorem dX6_nextToCharge_24 : decode cX6_nextToCharge 24 = .ok (.iload_n 1, 1) := by decide +kernel
theorem dX6_nextToCharge_25 : decode cX6_nextToCharge 25 = .ok (.if_icmp .ne 60, 3) := by decide +kernel
theorem dX6_nextToCharge_28 : decode cX6_nextToCharge 28 = .ok (.aload_n 0, 1) := by decide +kernel
theorem dX6_nextToCharge_29 : decode cX6_nextToCharge 29 = .ok (.getfield 26, 3) := by decide +kernel
theorem dX6_nextToCharge_32 : decode cX6_nextToCharge 32 = .ok (.iload_n 3, 1) := by decide +kernel
theorem dX6_nextToCharge_33 : decode cX6_nextToCharge 33 = .ok (.aload_n 0, 1) := by decide +kernel
theorem dX6_nextToCharge_34 : decode cX6_nextToCharge 34 = .ok (.getfield 7, 3) := by decide +kernel
theorem dX6_nextToCharge_37 : decode cX6_nextToCharge 37 = .ok (.iconst 0, 1) := by decide +kernel
theorem dX6_nextToCharge_38 : decode cX6_nextToCharge 38 = .ok (.iaload, 1) := by decide +kernel
theorem dX6_nextToCharge_39 : decode cX6_nextToCharge 39 = .ok (.invokevirtual 213, 3) := by decide +kernel
theorem dX6_nextToCharge_42 : decode cX6_nextToCharge 42 = .ok (.ifCond .eq 43, 3) := by decide +kernel
theorem dX6_nextToCharge_45 : decode cX6_nextToCharge 45 = .ok (.aload_n 0, 1) := by decide +kernel
theorem dX6_nextToCharge_46 : decode cX6_nextToCharge 46 = .ok (.getfield 26, 3) := by decide +kernel
theorem dX6_nextToCharge_49 : decode cX6_nextToCharge 49 = .ok (.getfield 153, 3) := by decide +kernel
theorem dX6_nextToCharge_52 : decode cX6_nextToCharge 52 = .ok (.iload_n 3, 1) := by decide +kernel
theorem dX6_nextToCharge_53 : decode cX6_nextToCharge 53 = .ok (.iaload, 1) := by decide +kernel
theorem dX6_nextToCharge_54 : decode cX6_nextToCharge 54 = .ok (.bipush 100, 2) := by decide +kernel
theorem dX6_nextToCharge_56 : decode cX6_nextToCharge 56 = .ok (.if_icmp .ge 29, 3) := by decide +kernel
theorem dX6_nextToCharge_59 : decode cX6_nextToCharge 59 = .ok (.aload_n 0, 1) := by decide +kernel
theorem dX6_nextToCharge_60 : decode cX6_nextToCharge 60 = .ok (.getfield 26, 3) := by decide +kernel
theorem dX6_nextToCharge_63 : decode cX6_nextToCharge 63 = .ok (.getfield 239, 3) := by decide +kernel
theorem dX6_nextToCharge_66 : decode cX6_nextToCharge 66 = .ok (.iload_n 3, 1) := by decide +kernel
theorem dX6_nextToCharge_67 : decode cX6_nextToCharge 67 = .ok (.iaload, 1) := by decide +kernel
theorem dX6_nextToCharge_68 : decode cX6_nextToCharge 68 = .ok (.aload_n 0, 1) := by decide +kernel
theorem dX6_nextToCharge_69 : decode cX6_nextToCharge 69 = .ok (.getfield 113, 3) := by decide +kernel
theorem dX6_nextToCharge_72 : decode cX6_nextToCharge 72 = .ok (.if_icmp .eq 13, 3) := by decide +kernel
theorem dX6_nextToCharge_75 : decode cX6_nextToCharge 75 = .ok (.aload_n 0, 1) := by decide +kernel
theorem dX6_nextToCharge_76 : decode cX6_nextToCharge 76 = .ok (.getfield 26, 3) := by decide +kernel
theorem dX6_nextToCharge_79 : decode cX6_nextToCharge 79 = .ok (.iload_n 2, 1) := by decide +kernel
theorem dX6_nextToCharge_80 : decode cX6_nextToCharge 80 = .ok (.iload_n 3, 1) := by decide +kernel
theorem dX6_nextToCharge_81 : decode cX6_nextToCharge 81 = .ok (.invokevirtual 216, 3) := by decide +kernel
theorem dX6_nextToCharge_84 : decode cX6_nextToCharge 84 = .ok (.istore_n 2, 1) := by decide +kernel
theorem dX6_nextToCharge_85 : decode cX6_nextToCharge 85 = .ok (.iinc 3 1, 3) := by decide +kernel
theorem dX6_nextToCharge_88 : decode cX6_nextToCharge 88 = .ok (.goto (-84), 3) := by decide +kernel
theorem dX6_nextToCharge_91 : decode cX6_nextToCharge 91 = .ok (.iload_n 2, 1) := by decide +kernel
theorem dX6_nextToCharge_92 : decode cX6_nextToCharge 92 = .ok (.ireturn, 1) := by decide +kernel
