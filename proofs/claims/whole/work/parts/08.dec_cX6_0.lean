theorem dX6_init_0 : decode cX6_init 0 = .ok (.aload_n 0, 1) := by decide +kernel
theorem dX6_init_1 : decode cX6_init 1 = .ok (.invokespecial 1, 3) := by decide +kernel
theorem dX6_init_4 : decode cX6_init 4 = .ok (.aload_n 0, 1) := by decide +kernel
theorem dX6_init_5 : decode cX6_init 5 = .ok (.iconst 5, 1) := by decide +kernel
theorem dX6_init_6 : decode cX6_init 6 = .ok (.newarray .int, 2) := by decide +kernel
theorem dX6_init_8 : decode cX6_init 8 = .ok (.dup, 1) := by decide +kernel
theorem dX6_init_9 : decode cX6_init 9 = .ok (.iconst 0, 1) := by decide +kernel
theorem dX6_init_10 : decode cX6_init 10 = .ok (.sipush 2000, 3) := by decide +kernel
theorem dX6_init_13 : decode cX6_init 13 = .ok (.iastore, 1) := by decide +kernel
theorem dX6_init_14 : decode cX6_init 14 = .ok (.dup, 1) := by decide +kernel
theorem dX6_init_15 : decode cX6_init 15 = .ok (.iconst 1, 1) := by decide +kernel
theorem dX6_init_16 : decode cX6_init 16 = .ok (.bipush 80, 2) := by decide +kernel
theorem dX6_init_18 : decode cX6_init 18 = .ok (.iastore, 1) := by decide +kernel
theorem dX6_init_19 : decode cX6_init 19 = .ok (.dup, 1) := by decide +kernel
theorem dX6_init_20 : decode cX6_init 20 = .ok (.iconst 2, 1) := by decide +kernel
theorem dX6_init_21 : decode cX6_init 21 = .ok (.sipush 1000, 3) := by decide +kernel
theorem dX6_init_24 : decode cX6_init 24 = .ok (.iastore, 1) := by decide +kernel
theorem dX6_init_25 : decode cX6_init 25 = .ok (.dup, 1) := by decide +kernel
theorem dX6_init_26 : decode cX6_init 26 = .ok (.iconst 3, 1) := by decide +kernel
theorem dX6_init_27 : decode cX6_init 27 = .ok (.bipush 25, 2) := by decide +kernel
theorem dX6_init_29 : decode cX6_init 29 = .ok (.iastore, 1) := by decide +kernel
theorem dX6_init_30 : decode cX6_init 30 = .ok (.dup, 1) := by decide +kernel
theorem dX6_init_31 : decode cX6_init 31 = .ok (.iconst 4, 1) := by decide +kernel
theorem dX6_init_32 : decode cX6_init 32 = .ok (.bipush 10, 2) := by decide +kernel
theorem dX6_init_34 : decode cX6_init 34 = .ok (.iastore, 1) := by decide +kernel
theorem dX6_init_35 : decode cX6_init 35 = .ok (.putfield 7, 3) := by decide +kernel
theorem dX6_init_38 : decode cX6_init 38 = .ok (.aload_n 0, 1) := by decide +kernel
theorem dX6_init_39 : decode cX6_init 39 = .ok (.bipush 24, 2) := by decide +kernel
theorem dX6_init_41 : decode cX6_init 41 = .ok (.newarray .int, 2) := by decide +kernel
theorem dX6_init_43 : decode cX6_init 43 = .ok (.putfield 13, 3) := by decide +kernel
theorem dX6_init_46 : decode cX6_init 46 = .ok (.aload_n 0, 1) := by decide +kernel
theorem dX6_init_47 : decode cX6_init 47 = .ok (.new 16, 3) := by decide +kernel
theorem dX6_init_50 : decode cX6_init 50 = .ok (.dup, 1) := by decide +kernel
theorem dX6_init_51 : decode cX6_init 51 = .ok (.invokespecial 18, 3) := by decide +kernel
theorem dX6_init_54 : decode cX6_init 54 = .ok (.putfield 19, 3) := by decide +kernel
theorem dX6_init_57 : decode cX6_init 57 = .ok (.aload_n 0, 1) := by decide +kernel
theorem dX6_init_58 : decode cX6_init 58 = .ok (.new 23, 3) := by decide +kernel
theorem dX6_init_61 : decode cX6_init 61 = .ok (.dup, 1) := by decide +kernel
theorem dX6_init_62 : decode cX6_init 62 = .ok (.invokespecial 25, 3) := by decide +kernel
theorem dX6_init_65 : decode cX6_init 65 = .ok (.putfield 26, 3) := by decide +kernel
theorem dX6_init_68 : decode cX6_init 68 = .ok (.aload_n 0, 1) := by decide +kernel
theorem dX6_init_69 : decode cX6_init 69 = .ok (.new 30, 3) := by decide +kernel
theorem dX6_init_72 : decode cX6_init 72 = .ok (.dup, 1) := by decide +kernel
theorem dX6_init_73 : decode cX6_init 73 = .ok (.invokespecial 32, 3) := by decide +kernel
theorem dX6_init_76 : decode cX6_init 76 = .ok (.putfield 33, 3) := by decide +kernel
theorem dX6_init_79 : decode cX6_init 79 = .ok (.aload_n 0, 1) := by decide +kernel
theorem dX6_init_80 : decode cX6_init 80 = .ok (.new 37, 3) := by decide +kernel
theorem dX6_init_83 : decode cX6_init 83 = .ok (.dup, 1) := by decide +kernel
theorem dX6_init_84 : decode cX6_init 84 = .ok (.invokespecial 39, 3) := by decide +kernel
theorem dX6_init_87 : decode cX6_init 87 = .ok (.putfield 40, 3) := by decide +kernel
theorem dX6_init_90 : decode cX6_init 90 = .ok (.aload_n 0, 1) := by decide +kernel
theorem dX6_init_91 : decode cX6_init 91 = .ok (.new 44, 3) := by decide +kernel
theorem dX6_init_94 : decode cX6_init 94 = .ok (.dup, 1) := by decide +kernel
theorem dX6_init_95 : decode cX6_init 95 = .ok (.invokespecial 46, 3) := by decide +kernel
theorem dX6_init_98 : decode cX6_init 98 = .ok (.putfield 47, 3) := by decide +kernel
theorem dX6_init_101 : decode cX6_init 101 = .ok (.aload_n 0, 1) := by decide +kernel
theorem dX6_init_102 : decode cX6_init 102 = .ok (.getfield 13, 3) := by decide +kernel
theorem dX6_init_105 : decode cX6_init 105 = .ok (.bipush 10, 2) := by decide +kernel
theorem dX6_init_107 : decode cX6_init 107 = .ok (.invokestatic 51, 3) := by decide +kernel
theorem dX6_init_110 : decode cX6_init 110 = .ok (.return_, 1) := by decide +kernel
theorem dX6_cabinet_0 : decode cX6_cabinet 0 = .ok (.iload_n 1, 1) := by decide +kernel
theorem dX6_cabinet_1 : decode cX6_cabinet 1 = .ok (.iload_n 2, 1) := by decide +kernel
theorem dX6_cabinet_2 : decode cX6_cabinet 2 = .ok (.invokestatic 57, 3) := by decide +kernel
theorem dX6_cabinet_5 : decode cX6_cabinet 5 = .ok (.ifCond .eq 35, 3) := by decide +kernel
theorem dX6_cabinet_8 : decode cX6_cabinet 8 = .ok (.iload_n 3, 1) := by decide +kernel
theorem dX6_cabinet_9 : decode cX6_cabinet 9 = .ok (.iconst 1, 1) := by decide +kernel
theorem dX6_cabinet_10 : decode cX6_cabinet 10 = .ok (.bipush 8, 2) := by decide +kernel
theorem dX6_cabinet_12 : decode cX6_cabinet 12 = .ok (.invokestatic 61, 3) := by decide +kernel
theorem dX6_cabinet_15 : decode cX6_cabinet 15 = .ok (.ifCond .eq 25, 3) := by decide +kernel
theorem dX6_cabinet_18 : decode cX6_cabinet 18 = .ok (.iload 4, 2) := by decide +kernel
theorem dX6_cabinet_20 : decode cX6_cabinet 20 = .ok (.iconst 0, 1) := by decide +kernel
theorem dX6_cabinet_21 : decode cX6_cabinet 21 = .ok (.bipush 8, 2) := by decide +kernel
theorem dX6_cabinet_23 : decode cX6_cabinet 23 = .ok (.invokestatic 61, 3) := by decide +kernel
theorem dX6_cabinet_26 : decode cX6_cabinet 26 = .ok (.ifCond .eq 14, 3) := by decide +kernel
theorem dX6_cabinet_29 : decode cX6_cabinet 29 = .ok (.iload 5, 2) := by decide +kernel
theorem dX6_cabinet_31 : decode cX6_cabinet 31 = .ok (.iconst 0, 1) := by decide +kernel
theorem dX6_cabinet_32 : decode cX6_cabinet 32 = .ok (.bipush 8, 2) := by decide +kernel
theorem dX6_cabinet_34 : decode cX6_cabinet 34 = .ok (.invokestatic 61, 3) := by decide +kernel
theorem dX6_cabinet_37 : decode cX6_cabinet 37 = .ok (.ifCond .ne 5, 3) := by decide +kernel
theorem dX6_cabinet_40 : decode cX6_cabinet 40 = .ok (.iconst (-1), 1) := by decide +kernel
theorem dX6_cabinet_41 : decode cX6_cabinet 41 = .ok (.ireturn, 1) := by decide +kernel
theorem dX6_cabinet_42 : decode cX6_cabinet 42 = .ok (.aload_n 0, 1) := by decide +kernel
theorem dX6_cabinet_43 : decode cX6_cabinet 43 = .ok (.getfield 19, 3) := by decide +kernel
theorem dX6_cabinet_46 : decode cX6_cabinet 46 = .ok (.iload_n 1, 1) := by decide +kernel
theorem dX6_cabinet_47 : decode cX6_cabinet 47 = .ok (.iload_n 2, 1) := by decide +kernel
theorem dX6_cabinet_48 : decode cX6_cabinet 48 = .ok (.iload_n 3, 1) := by decide +kernel
theorem dX6_cabinet_49 : decode cX6_cabinet 49 = .ok (.iload 4, 2) := by decide +kernel
theorem dX6_cabinet_51 : decode cX6_cabinet 51 = .ok (.iload 5, 2) := by decide +kernel
theorem dX6_cabinet_53 : decode cX6_cabinet 53 = .ok (.invokevirtual 65, 3) := by decide +kernel
theorem dX6_cabinet_56 : decode cX6_cabinet 56 = .ok (.ireturn, 1) := by decide +kernel
theorem dX6_pack_0 : decode cX6_pack 0 = .ok (.aload_n 0, 1) := by decide +kernel
theorem dX6_pack_1 : decode cX6_pack 1 = .ok (.iload_n 1, 1) := by decide +kernel
theorem dX6_pack_2 : decode cX6_pack 2 = .ok (.invokevirtual 69, 3) := by decide +kernel
theorem dX6_pack_5 : decode cX6_pack 5 = .ok (.ifCond .eq 13, 3) := by decide +kernel
theorem dX6_pack_8 : decode cX6_pack 8 = .ok (.iload_n 2, 1) := by decide +kernel
theorem dX6_pack_9 : decode cX6_pack 9 = .ok (.iconst 0, 1) := by decide +kernel
theorem dX6_pack_10 : decode cX6_pack 10 = .ok (.bipush 100, 2) := by decide +kernel
theorem dX6_pack_12 : decode cX6_pack 12 = .ok (.invokestatic 61, 3) := by decide +kernel
theorem dX6_pack_15 : decode cX6_pack 15 = .ok (.ifCond .ne 5, 3) := by decide +kernel
theorem dX6_pack_18 : decode cX6_pack 18 = .ok (.iconst (-1), 1) := by decide +kernel
theorem dX6_pack_19 : decode cX6_pack 19 = .ok (.ireturn, 1) := by decide +kernel
theorem dX6_pack_20 : decode cX6_pack 20 = .ok (.aload_n 0, 1) := by decide +kernel
theorem dX6_pack_21 : decode cX6_pack 21 = .ok (.getfield 26, 3) := by decide +kernel
theorem dX6_pack_24 : decode cX6_pack 24 = .ok (.iload_n 1, 1) := by decide +kernel
theorem dX6_pack_25 : decode cX6_pack 25 = .ok (.iload_n 2, 1) := by decide +kernel
theorem dX6_pack_26 : decode cX6_pack 26 = .ok (.invokevirtual 73, 3) := by decide +kernel
theorem dX6_pack_29 : decode cX6_pack 29 = .ok (.ireturn, 1) := by decide +kernel
theorem dX6_set_0 : decode cX6_set 0 = .ok (.iload_n 1, 1) := by decide +kernel
theorem dX6_set_1 : decode cX6_set 1 = .ok (.iconst 0, 1) := by decide +kernel
theorem dX6_set_2 : decode cX6_set 2 = .ok (.iconst 4, 1) := by decide +kernel
theorem dX6_set_3 : decode cX6_set 3 = .ok (.invokestatic 61, 3) := by decide +kernel
theorem dX6_set_6 : decode cX6_set 6 = .ok (.ifCond .eq 20, 3) := by decide +kernel
theorem dX6_set_9 : decode cX6_set 9 = .ok (.iload_n 2, 1) := by decide +kernel
theorem dX6_set_10 : decode cX6_set 10 = .ok (.getstatic 76, 3) := by decide +kernel
theorem dX6_set_13 : decode cX6_set 13 = .ok (.iload_n 1, 1) := by decide +kernel
theorem dX6_set_14 : decode cX6_set 14 = .ok (.iaload, 1) := by decide +kernel
theorem dX6_set_15 : decode cX6_set 15 = .ok (.getstatic 79, 3) := by decide +kernel
theorem dX6_set_18 : decode cX6_set 18 = .ok (.iload_n 1, 1) := by decide +kernel
theorem dX6_set_19 : decode cX6_set 19 = .ok (.iaload, 1) := by decide +kernel
theorem dX6_set_20 : decode cX6_set 20 = .ok (.invokestatic 61, 3) := by decide +kernel
theorem dX6_set_23 : decode cX6_set 23 = .ok (.ifCond .ne 5, 3) := by decide +kernel
theorem dX6_set_26 : decode cX6_set 26 = .ok (.iconst (-1), 1) := by decide +kernel
theorem dX6_set_27 : decode cX6_set 27 = .ok (.ireturn, 1) := by decide +kernel
theorem dX6_set_28 : decode cX6_set 28 = .ok (.aload_n 0, 1) := by decide +kernel
theorem dX6_set_29 : decode cX6_set 29 = .ok (.getfield 7, 3) := by decide +kernel
theorem dX6_set_32 : decode cX6_set 32 = .ok (.iload_n 1, 1) := by decide +kernel
theorem dX6_set_33 : decode cX6_set 33 = .ok (.iaload, 1) := by decide +kernel
theorem dX6_set_34 : decode cX6_set 34 = .ok (.istore_n 3, 1) := by decide +kernel
theorem dX6_set_35 : decode cX6_set 35 = .ok (.aload_n 0, 1) := by decide +kernel
theorem dX6_set_36 : decode cX6_set 36 = .ok (.getfield 7, 3) := by decide +kernel
theorem dX6_set_39 : decode cX6_set 39 = .ok (.iload_n 1, 1) := by decide +kernel
theorem dX6_set_40 : decode cX6_set 40 = .ok (.iload_n 2, 1) := by decide +kernel
theorem dX6_set_41 : decode cX6_set 41 = .ok (.iastore, 1) := by decide +kernel
theorem dX6_set_42 : decode cX6_set 42 = .ok (.iload_n 3, 1) := by decide +kernel
theorem dX6_set_43 : decode cX6_set 43 = .ok (.ireturn, 1) := by decide +kernel
theorem dX6_price_0 : decode cX6_price 0 = .ok (.iload_n 1, 1) := by decide +kernel
theorem dX6_price_1 : decode cX6_price 1 = .ok (.iconst 0, 1) := by decide +kernel
theorem dX6_price_2 : decode cX6_price 2 = .ok (.bipush 23, 2) := by decide +kernel
theorem dX6_price_4 : decode cX6_price 4 = .ok (.invokestatic 61, 3) := by decide +kernel
theorem dX6_price_7 : decode cX6_price 7 = .ok (.ifCond .eq 14, 3) := by decide +kernel
theorem dX6_price_10 : decode cX6_price 10 = .ok (.iload_n 2, 1) := by decide +kernel
theorem dX6_price_11 : decode cX6_price 11 = .ok (.iconst 0, 1) := by decide +kernel
theorem dX6_price_12 : decode cX6_price 12 = .ok (.sipush 1000, 3) := by decide +kernel
theorem dX6_price_15 : decode cX6_price 15 = .ok (.invokestatic 61, 3) := by decide +kernel
theorem dX6_price_18 : decode cX6_price 18 = .ok (.ifCond .ne 5, 3) := by decide +kernel
theorem dX6_price_21 : decode cX6_price 21 = .ok (.iconst 0, 1) := by decide +kernel
theorem dX6_price_22 : decode cX6_price 22 = .ok (.ireturn, 1) := by decide +kernel
theorem dX6_price_23 : decode cX6_price 23 = .ok (.aload_n 0, 1) := by decide +kernel
theorem dX6_price_24 : decode cX6_price 24 = .ok (.getfield 13, 3) := by decide +kernel
theorem dX6_price_27 : decode cX6_price 27 = .ok (.iload_n 1, 1) := by decide +kernel
theorem dX6_price_28 : decode cX6_price 28 = .ok (.iload_n 2, 1) := by decide +kernel
theorem dX6_price_29 : decode cX6_price 29 = .ok (.iastore, 1) := by decide +kernel
theorem dX6_price_30 : decode cX6_price 30 = .ok (.iconst 1, 1) := by decide +kernel
theorem dX6_price_31 : decode cX6_price 31 = .ok (.ireturn, 1) := by decide +kernel
theorem dX6_sick_0 : decode cX6_sick 0 = .ok (.aload_n 0, 1) := by decide +kernel
theorem dX6_sick_1 : decode cX6_sick 1 = .ok (.getfield 26, 3) := by decide +kernel
theorem dX6_sick_4 : decode cX6_sick 4 = .ok (.iload_n 1, 1) := by decide +kernel
theorem dX6_sick_5 : decode cX6_sick 5 = .ok (.invokevirtual 82, 3) := by decide +kernel
theorem dX6_sick_8 : decode cX6_sick 8 = .ok (.ifCond .ne 5, 3) := by decide +kernel
theorem dX6_sick_11 : decode cX6_sick 11 = .ok (.iconst 0, 1) := by decide +kernel
theorem dX6_sick_12 : decode cX6_sick 12 = .ok (.ireturn, 1) := by decide +kernel
theorem dX6_sick_13 : decode cX6_sick 13 = .ok (.aload_n 0, 1) := by decide +kernel
theorem dX6_sick_14 : decode cX6_sick 14 = .ok (.getfield 26, 3) := by decide +kernel
theorem dX6_sick_17 : decode cX6_sick 17 = .ok (.getfield 85, 3) := by decide +kernel
theorem dX6_sick_20 : decode cX6_sick 20 = .ok (.iload_n 1, 1) := by decide +kernel
theorem dX6_sick_21 : decode cX6_sick 21 = .ok (.iload_n 2, 1) := by decide +kernel
theorem dX6_sick_22 : decode cX6_sick 22 = .ok (.bastore, 1) := by decide +kernel
theorem dX6_sick_23 : decode cX6_sick 23 = .ok (.iconst 1, 1) := by decide +kernel
theorem dX6_sick_24 : decode cX6_sick 24 = .ok (.ireturn, 1) := by decide +kernel
theorem dX6_take_0 : decode cX6_take 0 = .ok (.aload_n 0, 1) := by decide +kernel
theorem dX6_take_1 : decode cX6_take 1 = .ok (.iload_n 1, 1) := by decide +kernel
theorem dX6_take_2 : decode cX6_take 2 = .ok (.invokevirtual 89, 3) := by decide +kernel
theorem dX6_take_5 : decode cX6_take 5 = .ok (.istore_n 2, 1) := by decide +kernel
theorem dX6_take_6 : decode cX6_take 6 = .ok (.iload_n 2, 1) := by decide +kernel
theorem dX6_take_7 : decode cX6_take 7 = .ok (.iconst (-1), 1) := by decide +kernel
theorem dX6_take_8 : decode cX6_take 8 = .ok (.if_icmp .eq 13, 3) := by decide +kernel
theorem dX6_take_11 : decode cX6_take 11 = .ok (.aload_n 0, 1) := by decide +kernel
theorem dX6_take_12 : decode cX6_take 12 = .ok (.getfield 26, 3) := by decide +kernel
theorem dX6_take_15 : decode cX6_take 15 = .ok (.getfield 93, 3) := by decide +kernel
theorem dX6_take_18 : decode cX6_take 18 = .ok (.iload_n 2, 1) := by decide +kernel
theorem dX6_take_19 : decode cX6_take 19 = .ok (.iconst (-1), 1) := by decide +kernel
theorem dX6_take_20 : decode cX6_take 20 = .ok (.iastore, 1) := by decide +kernel
theorem dX6_take_21 : decode cX6_take 21 = .ok (.iload_n 2, 1) := by decide +kernel
theorem dX6_take_22 : decode cX6_take 22 = .ok (.ireturn, 1) := by decide +kernel
theorem dX6_swap_0 : decode cX6_swap 0 = .ok (.aload_n 0, 1) := by decide +kernel
theorem dX6_swap_1 : decode cX6_swap 1 = .ok (.getfield 19, 3) := by decide +kernel
theorem dX6_swap_4 : decode cX6_swap 4 = .ok (.iload_n 1, 1) := by decide +kernel
theorem dX6_swap_5 : decode cX6_swap 5 = .ok (.invokevirtual 96, 3) := by decide +kernel
theorem dX6_swap_8 : decode cX6_swap 8 = .ok (.ifCond .eq 12, 3) := by decide +kernel
theorem dX6_swap_11 : decode cX6_swap 11 = .ok (.aload_n 0, 1) := by decide +kernel
theorem dX6_swap_12 : decode cX6_swap 12 = .ok (.iload_n 2, 1) := by decide +kernel
theorem dX6_swap_13 : decode cX6_swap 13 = .ok (.iload_n 3, 1) := by decide +kernel
theorem dX6_swap_14 : decode cX6_swap 14 = .ok (.invokevirtual 97, 3) := by decide +kernel
theorem dX6_swap_17 : decode cX6_swap 17 = .ok (.ifCond .ne 5, 3) := by decide +kernel
theorem dX6_swap_20 : decode cX6_swap 20 = .ok (.iconst (-1), 1) := by decide +kernel
theorem dX6_swap_21 : decode cX6_swap 21 = .ok (.ireturn, 1) := by decide +kernel
theorem dX6_swap_22 : decode cX6_swap 22 = .ok (.aload_n 0, 1) := by decide +kernel
theorem dX6_swap_23 : decode cX6_swap 23 = .ok (.iload_n 1, 1) := by decide +kernel
theorem dX6_swap_24 : decode cX6_swap 24 = .ok (.invokevirtual 100, 3) := by decide +kernel
theorem dX6_swap_27 : decode cX6_swap 27 = .ok (.istore 4, 2) := by decide +kernel
theorem dX6_swap_29 : decode cX6_swap 29 = .ok (.iload 4, 2) := by decide +kernel
theorem dX6_swap_31 : decode cX6_swap 31 = .ok (.iconst (-1), 1) := by decide +kernel
theorem dX6_swap_32 : decode cX6_swap 32 = .ok (.if_icmp .eq 13, 3) := by decide +kernel
theorem dX6_swap_35 : decode cX6_swap 35 = .ok (.aload_n 0, 1) := by decide +kernel
theorem dX6_swap_36 : decode cX6_swap 36 = .ok (.getfield 26, 3) := by decide +kernel
theorem dX6_swap_39 : decode cX6_swap 39 = .ok (.iload_n 2, 1) := by decide +kernel
theorem dX6_swap_40 : decode cX6_swap 40 = .ok (.iload_n 1, 1) := by decide +kernel
theorem dX6_swap_41 : decode cX6_swap 41 = .ok (.iload_n 3, 1) := by decide +kernel
theorem dX6_swap_42 : decode cX6_swap 42 = .ok (.invokevirtual 103, 3) := by decide +kernel
theorem dX6_swap_45 : decode cX6_swap 45 = .ok (.iload 4, 2) := by decide +kernel
theorem dX6_swap_47 : decode cX6_swap 47 = .ok (.ireturn, 1) := by decide +kernel
theorem dX6_bring_0 : decode cX6_bring 0 = .ok (.aload_n 0, 1) := by decide +kernel
theorem dX6_bring_1 : decode cX6_bring 1 = .ok (.iload_n 1, 1) := by decide +kernel
theorem dX6_bring_2 : decode cX6_bring 2 = .ok (.invokevirtual 69, 3) := by decide +kernel
theorem dX6_bring_5 : decode cX6_bring 5 = .ok (.ifCond .eq 12, 3) := by decide +kernel
theorem dX6_bring_8 : decode cX6_bring 8 = .ok (.aload_n 0, 1) := by decide +kernel
theorem dX6_bring_9 : decode cX6_bring 9 = .ok (.iload_n 2, 1) := by decide +kernel
theorem dX6_bring_10 : decode cX6_bring 10 = .ok (.iload_n 3, 1) := by decide +kernel
theorem dX6_bring_11 : decode cX6_bring 11 = .ok (.invokevirtual 97, 3) := by decide +kernel
theorem dX6_bring_14 : decode cX6_bring 14 = .ok (.ifCond .ne 5, 3) := by decide +kernel
theorem dX6_bring_17 : decode cX6_bring 17 = .ok (.iconst (-1), 1) := by decide +kernel
theorem dX6_bring_18 : decode cX6_bring 18 = .ok (.ireturn, 1) := by decide +kernel
theorem dX6_bring_19 : decode cX6_bring 19 = .ok (.aload_n 0, 1) := by decide +kernel
theorem dX6_bring_20 : decode cX6_bring 20 = .ok (.getfield 26, 3) := by decide +kernel
theorem dX6_bring_23 : decode cX6_bring 23 = .ok (.iload_n 2, 1) := by decide +kernel
theorem dX6_bring_24 : decode cX6_bring 24 = .ok (.iload_n 1, 1) := by decide +kernel
theorem dX6_bring_25 : decode cX6_bring 25 = .ok (.iload_n 3, 1) := by decide +kernel
theorem dX6_bring_26 : decode cX6_bring 26 = .ok (.invokevirtual 103, 3) := by decide +kernel
theorem dX6_bring_29 : decode cX6_bring 29 = .ok (.aload_n 0, 1) := by decide +kernel
theorem dX6_bring_30 : decode cX6_bring 30 = .ok (.getfield 26, 3) := by decide +kernel
theorem dX6_bring_33 : decode cX6_bring 33 = .ok (.iload_n 1, 1) := by decide +kernel
theorem dX6_bring_34 : decode cX6_bring 34 = .ok (.invokevirtual 107, 3) := by decide +kernel
theorem dX6_bring_37 : decode cX6_bring 37 = .ok (.ireturn, 1) := by decide +kernel
theorem dX6_move_0 : decode cX6_move 0 = .ok (.aload_n 0, 1) := by decide +kernel
theorem dX6_move_1 : decode cX6_move 1 = .ok (.getfield 26, 3) := by decide +kernel
theorem dX6_move_4 : decode cX6_move 4 = .ok (.iload_n 1, 1) := by decide +kernel
theorem dX6_move_5 : decode cX6_move 5 = .ok (.invokevirtual 82, 3) := by decide +kernel
theorem dX6_move_8 : decode cX6_move 8 = .ok (.ifCond .eq 35, 3) := by decide +kernel
theorem dX6_move_11 : decode cX6_move 11 = .ok (.aload_n 0, 1) := by decide +kernel
theorem dX6_move_12 : decode cX6_move 12 = .ok (.getfield 26, 3) := by decide +kernel
theorem dX6_move_15 : decode cX6_move 15 = .ok (.iload_n 1, 1) := by decide +kernel
theorem dX6_move_16 : decode cX6_move 16 = .ok (.invokevirtual 110, 3) := by decide +kernel
theorem dX6_move_19 : decode cX6_move 19 = .ok (.ifCond .ne 24, 3) := by decide +kernel
theorem dX6_move_22 : decode cX6_move 22 = .ok (.aload_n 0, 1) := by decide +kernel
theorem dX6_move_23 : decode cX6_move 23 = .ok (.getfield 26, 3) := by decide +kernel
theorem dX6_move_26 : decode cX6_move 26 = .ok (.getfield 93, 3) := by decide +kernel
theorem dX6_move_29 : decode cX6_move 29 = .ok (.iload_n 1, 1) := by decide +kernel
theorem dX6_move_30 : decode cX6_move 30 = .ok (.iaload, 1) := by decide +kernel
theorem dX6_move_31 : decode cX6_move 31 = .ok (.iload_n 2, 1) := by decide +kernel
theorem dX6_move_32 : decode cX6_move 32 = .ok (.if_icmp .eq 11, 3) := by decide +kernel
theorem dX6_move_35 : decode cX6_move 35 = .ok (.aload_n 0, 1) := by decide +kernel
theorem dX6_move_36 : decode cX6_move 36 = .ok (.iload_n 2, 1) := by decide +kernel
theorem dX6_move_37 : decode cX6_move 37 = .ok (.invokevirtual 69, 3) := by decide +kernel
theorem dX6_move_40 : decode cX6_move 40 = .ok (.ifCond .ne 5, 3) := by decide +kernel
theorem dX6_move_43 : decode cX6_move 43 = .ok (.iconst 0, 1) := by decide +kernel
theorem dX6_move_44 : decode cX6_move 44 = .ok (.ireturn, 1) := by decide +kernel
theorem dX6_move_45 : decode cX6_move 45 = .ok (.aload_n 0, 1) := by decide +kernel
theorem dX6_move_46 : decode cX6_move 46 = .ok (.getfield 26, 3) := by decide +kernel
theorem dX6_move_49 : decode cX6_move 49 = .ok (.getfield 93, 3) := by decide +kernel
theorem dX6_move_52 : decode cX6_move 52 = .ok (.iload_n 1, 1) := by decide +kernel
theorem dX6_move_53 : decode cX6_move 53 = .ok (.iload_n 2, 1) := by decide +kernel
theorem dX6_move_54 : decode cX6_move 54 = .ok (.iastore, 1) := by decide +kernel
theorem dX6_move_55 : decode cX6_move 55 = .ok (.iconst 1, 1) := by decide +kernel
theorem dX6_move_56 : decode cX6_move 56 = .ok (.ireturn, 1) := by decide +kernel
theorem dX6_run_0 : decode cX6_run 0 = .ok (.iload_n 1, 1) := by decide +kernel
theorem dX6_run_1 : decode cX6_run 1 = .ok (.iconst 0, 1) := by decide +kernel
theorem dX6_run_2 : decode cX6_run 2 = .ok (.sipush 200, 3) := by decide +kernel
theorem dX6_run_5 : decode cX6_run 5 = .ok (.invokestatic 61, 3) := by decide +kernel
theorem dX6_run_8 : decode cX6_run 8 = .ok (.ifCond .eq 15, 3) := by decide +kernel
theorem dX6_run_11 : decode cX6_run 11 = .ok (.aload_n 0, 1) := by decide +kernel
theorem dX6_run_12 : decode cX6_run 12 = .ok (.getfield 113, 3) := by decide +kernel
theorem dX6_run_15 : decode cX6_run 15 = .ok (.iload_n 1, 1) := by decide +kernel
theorem dX6_run_16 : decode cX6_run 16 = .ok (.iadd, 1) := by decide +kernel
theorem dX6_run_17 : decode cX6_run 17 = .ok (.sipush 10000, 3) := by decide +kernel
theorem dX6_run_20 : decode cX6_run 20 = .ok (.if_icmp .le 5, 3) := by decide +kernel
theorem dX6_run_23 : decode cX6_run 23 = .ok (.iconst (-1), 1) := by decide +kernel
theorem dX6_run_24 : decode cX6_run 24 = .ok (.ireturn, 1) := by decide +kernel
theorem dX6_run_25 : decode cX6_run 25 = .ok (.iconst 0, 1) := by decide +kernel
theorem dX6_run_26 : decode cX6_run 26 = .ok (.istore_n 2, 1) := by decide +kernel
theorem dX6_run_27 : decode cX6_run 27 = .ok (.iload_n 2, 1) := by decide +kernel
theorem dX6_run_28 : decode cX6_run 28 = .ok (.iload_n 1, 1) := by decide +kernel
theorem dX6_run_29 : decode cX6_run 29 = .ok (.if_icmp .ge 13, 3) := by decide +kernel
theorem dX6_run_32 : decode cX6_run 32 = .ok (.aload_n 0, 1) := by decide +kernel
theorem dX6_run_33 : decode cX6_run 33 = .ok (.invokevirtual 117, 3) := by decide +kernel
theorem dX6_run_36 : decode cX6_run 36 = .ok (.iinc 2 1, 3) := by decide +kernel
theorem dX6_run_39 : decode cX6_run 39 = .ok (.goto (-12), 3) := by decide +kernel
theorem dX6_run_42 : decode cX6_run 42 = .ok (.aload_n 0, 1) := by decide +kernel
theorem dX6_run_43 : decode cX6_run 43 = .ok (.getfield 113, 3) := by decide +kernel
theorem dX6_run_46 : decode cX6_run 46 = .ok (.ireturn, 1) := by decide +kernel
theorem dX6_count_0 : decode cX6_count 0 = .ok (.iload_n 1, 1) := by decide +kernel
theorem dX6_count_1 : decode cX6_count 1 = .ok (.tableswitch 142 0 9 #[55, 63, 71, 76, 85, 93, 107, 115, 126, 137], 55) := by decide +kernel
theorem dX6_count_56 : decode cX6_count 56 = .ok (.aload_n 0, 1) := by decide +kernel
theorem dX6_count_57 : decode cX6_count 57 = .ok (.getfield 19, 3) := by decide +kernel
theorem dX6_count_60 : decode cX6_count 60 = .ok (.invokevirtual 120, 3) := by decide +kernel
theorem dX6_count_63 : decode cX6_count 63 = .ok (.ireturn, 1) := by decide +kernel
theorem dX6_count_64 : decode cX6_count 64 = .ok (.aload_n 0, 1) := by decide +kernel
theorem dX6_count_65 : decode cX6_count 65 = .ok (.getfield 26, 3) := by decide +kernel
theorem dX6_count_68 : decode cX6_count 68 = .ok (.getfield 124, 3) := by decide +kernel
theorem dX6_count_71 : decode cX6_count 71 = .ok (.ireturn, 1) := by decide +kernel
theorem dX6_count_72 : decode cX6_count 72 = .ok (.aload_n 0, 1) := by decide +kernel
theorem dX6_count_73 : decode cX6_count 73 = .ok (.getfield 113, 3) := by decide +kernel
theorem dX6_count_76 : decode cX6_count 76 = .ok (.ireturn, 1) := by decide +kernel
theorem dX6_count_77 : decode cX6_count 77 = .ok (.aload_n 0, 1) := by decide +kernel
theorem dX6_count_78 : decode cX6_count 78 = .ok (.getfield 26, 3) := by decide +kernel
theorem dX6_count_81 : decode cX6_count 81 = .ok (.iconst (-1), 1) := by decide +kernel
theorem dX6_count_82 : decode cX6_count 82 = .ok (.invokevirtual 107, 3) := by decide +kernel
theorem dX6_count_85 : decode cX6_count 85 = .ok (.ireturn, 1) := by decide +kernel
theorem dX6_count_86 : decode cX6_count 86 = .ok (.aload_n 0, 1) := by decide +kernel
theorem dX6_count_87 : decode cX6_count 87 = .ok (.getfield 26, 3) := by decide +kernel
theorem dX6_count_90 : decode cX6_count 90 = .ok (.invokevirtual 126, 3) := by decide +kernel
theorem dX6_count_93 : decode cX6_count 93 = .ok (.ireturn, 1) := by decide +kernel
theorem dX6_count_94 : decode cX6_count 94 = .ok (.aload_n 0, 1) := by decide +kernel
theorem dX6_count_95 : decode cX6_count 95 = .ok (.getfield 26, 3) := by decide +kernel
theorem dX6_count_98 : decode cX6_count 98 = .ok (.aload_n 0, 1) := by decide +kernel
theorem dX6_count_99 : decode cX6_count 99 = .ok (.getfield 7, 3) := by decide +kernel
theorem dX6_count_102 : decode cX6_count 102 = .ok (.iconst 0, 1) := by decide +kernel
theorem dX6_count_103 : decode cX6_count 103 = .ok (.iaload, 1) := by decide +kernel
theorem dX6_count_104 : decode cX6_count 104 = .ok (.invokevirtual 129, 3) := by decide +kernel
theorem dX6_count_107 : decode cX6_count 107 = .ok (.ireturn, 1) := by decide +kernel
theorem dX6_count_108 : decode cX6_count 108 = .ok (.aload_n 0, 1) := by decide +kernel
theorem dX6_count_109 : decode cX6_count 109 = .ok (.getfield 33, 3) := by decide +kernel
theorem dX6_count_112 : decode cX6_count 112 = .ok (.getfield 132, 3) := by decide +kernel
theorem dX6_count_115 : decode cX6_count 115 = .ok (.ireturn, 1) := by decide +kernel
theorem dX6_count_116 : decode cX6_count 116 = .ok (.aload_n 0, 1) := by decide +kernel
theorem dX6_count_117 : decode cX6_count 117 = .ok (.getfield 47, 3) := by decide +kernel
theorem dX6_count_120 : decode cX6_count 120 = .ok (.getfield 133, 3) := by decide +kernel
theorem dX6_count_123 : decode cX6_count 123 = .ok (.getfield 137, 3) := by decide +kernel
theorem dX6_count_126 : decode cX6_count 126 = .ok (.ireturn, 1) := by decide +kernel
theorem dX6_count_127 : decode cX6_count 127 = .ok (.aload_n 0, 1) := by decide +kernel
theorem dX6_count_128 : decode cX6_count 128 = .ok (.getfield 47, 3) := by decide +kernel
theorem dX6_count_131 : decode cX6_count 131 = .ok (.getfield 140, 3) := by decide +kernel
theorem dX6_count_134 : decode cX6_count 134 = .ok (.getfield 137, 3) := by decide +kernel
theorem dX6_count_137 : decode cX6_count 137 = .ok (.ireturn, 1) := by decide +kernel
theorem dX6_count_138 : decode cX6_count 138 = .ok (.aload_n 0, 1) := by decide +kernel
theorem dX6_count_139 : decode cX6_count 139 = .ok (.invokevirtual 143, 3) := by decide +kernel
theorem dX6_count_142 : decode cX6_count 142 = .ok (.ireturn, 1) := by decide +kernel
theorem dX6_count_143 : decode cX6_count 143 = .ok (.iconst (-1), 1) := by decide +kernel
theorem dX6_count_144 : decode cX6_count 144 = .ok (.ireturn, 1) := by decide +kernel
theorem dX6_of_0 : decode cX6_of 0 = .ok (.aload_n 0, 1) := by decide +kernel
theorem dX6_of_1 : decode cX6_of 1 = .ok (.getfield 26, 3) := by decide +kernel
theorem dX6_of_4 : decode cX6_of 4 = .ok (.iload_n 1, 1) := by decide +kernel
theorem dX6_of_5 : decode cX6_of 5 = .ok (.invokevirtual 82, 3) := by decide +kernel
theorem dX6_of_8 : decode cX6_of 8 = .ok (.ifCond .ne 13, 3) := by decide +kernel
theorem dX6_of_11 : decode cX6_of 11 = .ok (.new 146, 3) := by decide +kernel
theorem dX6_of_14 : decode cX6_of 14 = .ok (.dup, 1) := by decide +kernel
theorem dX6_of_15 : decode cX6_of 15 = .ok (.ldc 148, 2) := by decide +kernel
theorem dX6_of_17 : decode cX6_of 17 = .ok (.invokespecial 150, 3) := by decide +kernel
theorem dX6_of_20 : decode cX6_of 20 = .ok (.athrow, 1) := by decide +kernel
theorem dX6_of_21 : decode cX6_of 21 = .ok (.iload_n 2, 1) := by decide +kernel
theorem dX6_of_22 : decode cX6_of 22 = .ok (.tableswitch 74 0 3 #[30, 40, 50, 60], 30) := by decide +kernel
theorem dX6_of_52 : decode cX6_of 52 = .ok (.aload_n 0, 1) := by decide +kernel
theorem dX6_of_53 : decode cX6_of 53 = .ok (.getfield 26, 3) := by decide +kernel
theorem dX6_of_56 : decode cX6_of 56 = .ok (.getfield 153, 3) := by decide +kernel
theorem dX6_of_59 : decode cX6_of 59 = .ok (.iload_n 1, 1) := by decide +kernel
theorem dX6_of_60 : decode cX6_of 60 = .ok (.iaload, 1) := by decide +kernel
theorem dX6_of_61 : decode cX6_of 61 = .ok (.ireturn, 1) := by decide +kernel
theorem dX6_of_62 : decode cX6_of 62 = .ok (.aload_n 0, 1) := by decide +kernel
theorem dX6_of_63 : decode cX6_of 63 = .ok (.getfield 26, 3) := by decide +kernel
theorem dX6_of_66 : decode cX6_of 66 = .ok (.getfield 156, 3) := by decide +kernel
theorem dX6_of_69 : decode cX6_of 69 = .ok (.iload_n 1, 1) := by decide +kernel
theorem dX6_of_70 : decode cX6_of 70 = .ok (.iaload, 1) := by decide +kernel
theorem dX6_of_71 : decode cX6_of 71 = .ok (.ireturn, 1) := by decide +kernel
theorem dX6_of_72 : decode cX6_of 72 = .ok (.aload_n 0, 1) := by decide +kernel
theorem dX6_of_73 : decode cX6_of 73 = .ok (.getfield 26, 3) := by decide +kernel
theorem dX6_of_76 : decode cX6_of 76 = .ok (.getfield 93, 3) := by decide +kernel
theorem dX6_of_79 : decode cX6_of 79 = .ok (.iload_n 1, 1) := by decide +kernel
theorem dX6_of_80 : decode cX6_of 80 = .ok (.iaload, 1) := by decide +kernel
theorem dX6_of_81 : decode cX6_of 81 = .ok (.ireturn, 1) := by decide +kernel
theorem dX6_of_82 : decode cX6_of 82 = .ok (.aload_n 0, 1) := by decide +kernel
theorem dX6_of_83 : decode cX6_of 83 = .ok (.iload_n 1, 1) := by decide +kernel
theorem dX6_of_84 : decode cX6_of 84 = .ok (.invokevirtual 159, 3) := by decide +kernel
theorem dX6_of_87 : decode cX6_of 87 = .ok (.ifCond .eq 7, 3) := by decide +kernel
theorem dX6_of_90 : decode cX6_of 90 = .ok (.iconst 1, 1) := by decide +kernel
theorem dX6_of_91 : decode cX6_of 91 = .ok (.goto 4, 3) := by decide +kernel
theorem dX6_of_94 : decode cX6_of 94 = .ok (.iconst 0, 1) := by decide +kernel
theorem dX6_of_95 : decode cX6_of 95 = .ok (.ireturn, 1) := by decide +kernel
theorem dX6_of_96 : decode cX6_of 96 = .ok (.new 146, 3) := by decide +kernel
theorem dX6_of_99 : decode cX6_of 99 = .ok (.dup, 1) := by decide +kernel
theorem dX6_of_100 : decode cX6_of 100 = .ok (.ldc 162, 2) := by decide +kernel
theorem dX6_of_102 : decode cX6_of 102 = .ok (.invokespecial 150, 3) := by decide +kernel
theorem dX6_of_105 : decode cX6_of 105 = .ok (.athrow, 1) := by decide +kernel
theorem dX6_in_0 : decode cX6_in 0 = .ok (.aload_n 0, 1) := by decide +kernel
theorem dX6_in_1 : decode cX6_in 1 = .ok (.getfield 19, 3) := by decide +kernel
theorem dX6_in_4 : decode cX6_in 4 = .ok (.iload_n 1, 1) := by decide +kernel
theorem dX6_in_5 : decode cX6_in 5 = .ok (.invokevirtual 96, 3) := by decide +kernel
theorem dX6_in_8 : decode cX6_in 8 = .ok (.ifCond .ne 5, 3) := by decide +kernel
theorem dX6_in_11 : decode cX6_in 11 = .ok (.iconst (-1), 1) := by decide +kernel
theorem dX6_in_12 : decode cX6_in 12 = .ok (.ireturn, 1) := by decide +kernel
theorem dX6_in_13 : decode cX6_in 13 = .ok (.iload_n 2, 1) := by decide +kernel
theorem dX6_in_14 : decode cX6_in 14 = .ok (.tableswitch 75 0 4 #[34, 43, 49, 55, 65], 34) := by decide +kernel
theorem dX6_in_48 : decode cX6_in 48 = .ok (.aload_n 0, 1) := by decide +kernel
theorem dX6_in_49 : decode cX6_in 49 = .ok (.getfield 26, 3) := by decide +kernel
theorem dX6_in_52 : decode cX6_in 52 = .ok (.iload_n 1, 1) := by decide +kernel
theorem dX6_in_53 : decode cX6_in 53 = .ok (.invokevirtual 107, 3) := by decide +kernel
theorem dX6_in_56 : decode cX6_in 56 = .ok (.ireturn, 1) := by decide +kernel
theorem dX6_in_57 : decode cX6_in 57 = .ok (.aload_n 0, 1) := by decide +kernel
theorem dX6_in_58 : decode cX6_in 58 = .ok (.iload_n 1, 1) := by decide +kernel
theorem dX6_in_59 : decode cX6_in 59 = .ok (.invokevirtual 164, 3) := by decide +kernel
theorem dX6_in_62 : decode cX6_in 62 = .ok (.ireturn, 1) := by decide +kernel
theorem dX6_in_63 : decode cX6_in 63 = .ok (.aload_n 0, 1) := by decide +kernel
theorem dX6_in_64 : decode cX6_in 64 = .ok (.iload_n 1, 1) := by decide +kernel
theorem dX6_in_65 : decode cX6_in 65 = .ok (.invokevirtual 89, 3) := by decide +kernel
theorem dX6_in_68 : decode cX6_in 68 = .ok (.ireturn, 1) := by decide +kernel
theorem dX6_in_69 : decode cX6_in 69 = .ok (.aload_n 0, 1) := by decide +kernel
theorem dX6_in_70 : decode cX6_in 70 = .ok (.getfield 19, 3) := by decide +kernel
theorem dX6_in_73 : decode cX6_in 73 = .ok (.getfield 167, 3) := by decide +kernel
theorem dX6_in_76 : decode cX6_in 76 = .ok (.iload_n 1, 1) := by decide +kernel
theorem dX6_in_77 : decode cX6_in 77 = .ok (.iaload, 1) := by decide +kernel
theorem dX6_in_78 : decode cX6_in 78 = .ok (.ireturn, 1) := by decide +kernel
theorem dX6_in_79 : decode cX6_in 79 = .ok (.aload_n 0, 1) := by decide +kernel
theorem dX6_in_80 : decode cX6_in 80 = .ok (.getfield 19, 3) := by decide +kernel
theorem dX6_in_83 : decode cX6_in 83 = .ok (.getfield 170, 3) := by decide +kernel
theorem dX6_in_86 : decode cX6_in 86 = .ok (.iload_n 1, 1) := by decide +kernel
theorem dX6_in_87 : decode cX6_in 87 = .ok (.iaload, 1) := by decide +kernel
theorem dX6_in_88 : decode cX6_in 88 = .ok (.ireturn, 1) := by decide +kernel
theorem dX6_in_89 : decode cX6_in 89 = .ok (.iconst (-1), 1) := by decide +kernel
theorem dX6_in_90 : decode cX6_in 90 = .ok (.ireturn, 1) := by decide +kernel
theorem dX6_need_0 : decode cX6_need 0 = .ok (.iload_n 1, 1) := by decide +kernel
theorem dX6_need_1 : decode cX6_need 1 = .ok (.iconst 0, 1) := by decide +kernel
theorem dX6_need_2 : decode cX6_need 2 = .ok (.bipush 20, 2) := by decide +kernel
theorem dX6_need_4 : decode cX6_need 4 = .ok (.invokestatic 61, 3) := by decide +kernel
theorem dX6_need_7 : decode cX6_need 7 = .ok (.ifCond .eq 14, 3) := by decide +kernel
theorem dX6_need_10 : decode cX6_need 10 = .ok (.aload_n 0, 1) := by decide +kernel
theorem dX6_need_11 : decode cX6_need 11 = .ok (.getfield 33, 3) := by decide +kernel
theorem dX6_need_14 : decode cX6_need 14 = .ok (.iload_n 1, 1) := by decide +kernel
theorem dX6_need_15 : decode cX6_need 15 = .ok (.invokevirtual 173, 3) := by decide +kernel
theorem dX6_need_18 : decode cX6_need 18 = .ok (.goto 4, 3) := by decide +kernel
theorem dX6_need_21 : decode cX6_need 21 = .ok (.iconst (-1), 1) := by decide +kernel
theorem dX6_need_22 : decode cX6_need 22 = .ok (.ireturn, 1) := by decide +kernel
theorem dX6_clear_0 : decode cX6_clear 0 = .ok (.aload_n 0, 1) := by decide +kernel
theorem dX6_clear_1 : decode cX6_clear 1 = .ok (.getfield 33, 3) := by decide +kernel
theorem dX6_clear_4 : decode cX6_clear 4 = .ok (.getfield 132, 3) := by decide +kernel
theorem dX6_clear_7 : decode cX6_clear 7 = .ok (.istore_n 1, 1) := by decide +kernel
theorem dX6_clear_8 : decode cX6_clear 8 = .ok (.aload_n 0, 1) := by decide +kernel
theorem dX6_clear_9 : decode cX6_clear 9 = .ok (.getfield 33, 3) := by decide +kernel
theorem dX6_clear_12 : decode cX6_clear 12 = .ok (.iconst 0, 1) := by decide +kernel
theorem dX6_clear_13 : decode cX6_clear 13 = .ok (.putfield 132, 3) := by decide +kernel
theorem dX6_clear_16 : decode cX6_clear 16 = .ok (.aload_n 0, 1) := by decide +kernel
theorem dX6_clear_17 : decode cX6_clear 17 = .ok (.getfield 47, 3) := by decide +kernel
theorem dX6_clear_20 : decode cX6_clear 20 = .ok (.getfield 133, 3) := by decide +kernel
theorem dX6_clear_23 : decode cX6_clear 23 = .ok (.iconst 0, 1) := by decide +kernel
theorem dX6_clear_24 : decode cX6_clear 24 = .ok (.putfield 137, 3) := by decide +kernel
theorem dX6_clear_27 : decode cX6_clear 27 = .ok (.aload_n 0, 1) := by decide +kernel
theorem dX6_clear_28 : decode cX6_clear 28 = .ok (.getfield 47, 3) := by decide +kernel
theorem dX6_clear_31 : decode cX6_clear 31 = .ok (.getfield 140, 3) := by decide +kernel
theorem dX6_clear_34 : decode cX6_clear 34 = .ok (.iconst 0, 1) := by decide +kernel
theorem dX6_clear_35 : decode cX6_clear 35 = .ok (.putfield 137, 3) := by decide +kernel
theorem dX6_clear_38 : decode cX6_clear 38 = .ok (.iload_n 1, 1) := by decide +kernel
theorem dX6_clear_39 : decode cX6_clear 39 = .ok (.ireturn, 1) := by decide +kernel
theorem dX6_plan_0 : decode cX6_plan 0 = .ok (.iload_n 1, 1) := by decide +kernel
theorem dX6_plan_1 : decode cX6_plan 1 = .ok (.iconst 0, 1) := by decide +kernel
theorem dX6_plan_2 : decode cX6_plan 2 = .ok (.bipush 20, 2) := by decide +kernel
theorem dX6_plan_4 : decode cX6_plan 4 = .ok (.invokestatic 61, 3) := by decide +kernel
theorem dX6_plan_7 : decode cX6_plan 7 = .ok (.ifCond .eq 22, 3) := by decide +kernel
theorem dX6_plan_10 : decode cX6_plan 10 = .ok (.aload_n 0, 1) := by decide +kernel
theorem dX6_plan_11 : decode cX6_plan 11 = .ok (.getfield 33, 3) := by decide +kernel
theorem dX6_plan_14 : decode cX6_plan 14 = .ok (.aload_n 0, 1) := by decide +kernel
theorem dX6_plan_15 : decode cX6_plan 15 = .ok (.getfield 13, 3) := by decide +kernel
theorem dX6_plan_18 : decode cX6_plan 18 = .ok (.aload_n 0, 1) := by decide +kernel
theorem dX6_plan_19 : decode cX6_plan 19 = .ok (.getfield 113, 3) := by decide +kernel
theorem dX6_plan_22 : decode cX6_plan 22 = .ok (.iload_n 1, 1) := by decide +kernel
theorem dX6_plan_23 : decode cX6_plan 23 = .ok (.invokevirtual 176, 3) := by decide +kernel
theorem dX6_plan_26 : decode cX6_plan 26 = .ok (.goto 4, 3) := by decide +kernel
theorem dX6_plan_29 : decode cX6_plan 29 = .ok (.iconst (-1), 1) := by decide +kernel
theorem dX6_plan_30 : decode cX6_plan 30 = .ok (.ireturn, 1) := by decide +kernel
theorem dX6_planned_0 : decode cX6_planned 0 = .ok (.iload_n 1, 1) := by decide +kernel
theorem dX6_planned_1 : decode cX6_planned 1 = .ok (.iconst 0, 1) := by decide +kernel
theorem dX6_planned_2 : decode cX6_planned 2 = .ok (.aload_n 0, 1) := by decide +kernel
theorem dX6_planned_3 : decode cX6_planned 3 = .ok (.getfield 33, 3) := by decide +kernel
theorem dX6_planned_6 : decode cX6_planned 6 = .ok (.getfield 180, 3) := by decide +kernel
theorem dX6_planned_9 : decode cX6_planned 9 = .ok (.iconst 1, 1) := by decide +kernel
theorem dX6_planned_10 : decode cX6_planned 10 = .ok (.isub, 1) := by decide +kernel
theorem dX6_planned_11 : decode cX6_planned 11 = .ok (.invokestatic 61, 3) := by decide +kernel
theorem dX6_planned_14 : decode cX6_planned 14 = .ok (.ifCond .eq 15, 3) := by decide +kernel
theorem dX6_planned_17 : decode cX6_planned 17 = .ok (.aload_n 0, 1) := by decide +kernel
theorem dX6_planned_18 : decode cX6_planned 18 = .ok (.getfield 33, 3) := by decide +kernel
theorem dX6_planned_21 : decode cX6_planned 21 = .ok (.getfield 183, 3) := by decide +kernel
theorem dX6_planned_24 : decode cX6_planned 24 = .ok (.iload_n 1, 1) := by decide +kernel
theorem dX6_planned_25 : decode cX6_planned 25 = .ok (.iaload, 1) := by decide +kernel
theorem dX6_planned_26 : decode cX6_planned 26 = .ok (.goto 4, 3) := by decide +kernel
theorem dX6_planned_29 : decode cX6_planned 29 = .ok (.iconst (-1), 1) := by decide +kernel
theorem dX6_planned_30 : decode cX6_planned 30 = .ok (.ireturn, 1) := by decide +kernel
theorem dX6_wish_0 : decode cX6_wish 0 = .ok (.aload_n 0, 1) := by decide +kernel
theorem dX6_wish_1 : decode cX6_wish 1 = .ok (.getfield 19, 3) := by decide +kernel
theorem dX6_wish_4 : decode cX6_wish 4 = .ok (.iload_n 1, 1) := by decide +kernel
theorem dX6_wish_5 : decode cX6_wish 5 = .ok (.invokevirtual 96, 3) := by decide +kernel
theorem dX6_wish_8 : decode cX6_wish 8 = .ok (.ifCond .eq 13, 3) := by decide +kernel
theorem dX6_wish_11 : decode cX6_wish 11 = .ok (.iload_n 2, 1) := by decide +kernel
theorem dX6_wish_12 : decode cX6_wish 12 = .ok (.iconst 0, 1) := by decide +kernel
theorem dX6_wish_13 : decode cX6_wish 13 = .ok (.bipush 8, 2) := by decide +kernel
theorem dX6_wish_15 : decode cX6_wish 15 = .ok (.invokestatic 61, 3) := by decide +kernel
theorem dX6_wish_18 : decode cX6_wish 18 = .ok (.ifCond .ne 5, 3) := by decide +kernel
theorem dX6_wish_21 : decode cX6_wish 21 = .ok (.iconst 0, 1) := by decide +kernel
theorem dX6_wish_22 : decode cX6_wish 22 = .ok (.ireturn, 1) := by decide +kernel
theorem dX6_wish_23 : decode cX6_wish 23 = .ok (.aload_n 0, 1) := by decide +kernel
theorem dX6_wish_24 : decode cX6_wish 24 = .ok (.getfield 19, 3) := by decide +kernel
theorem dX6_wish_27 : decode cX6_wish 27 = .ok (.getfield 170, 3) := by decide +kernel
theorem dX6_wish_30 : decode cX6_wish 30 = .ok (.iload_n 1, 1) := by decide +kernel
theorem dX6_wish_31 : decode cX6_wish 31 = .ok (.iload_n 2, 1) := by decide +kernel
theorem dX6_wish_32 : decode cX6_wish 32 = .ok (.iastore, 1) := by decide +kernel
theorem dX6_wish_33 : decode cX6_wish 33 = .ok (.iconst 1, 1) := by decide +kernel
theorem dX6_wish_34 : decode cX6_wish 34 = .ok (.ireturn, 1) := by decide +kernel
theorem dX6_round_0 : decode cX6_round 0 = .ok (.aload_n 0, 1) := by decide +kernel
theorem dX6_round_1 : decode cX6_round 1 = .ok (.getfield 40, 3) := by decide +kernel
theorem dX6_round_4 : decode cX6_round 4 = .ok (.aload_n 0, 1) := by decide +kernel
theorem dX6_round_5 : decode cX6_round 5 = .ok (.getfield 7, 3) := by decide +kernel
theorem dX6_round_8 : decode cX6_round 8 = .ok (.iconst 4, 1) := by decide +kernel
theorem dX6_round_9 : decode cX6_round 9 = .ok (.iaload, 1) := by decide +kernel
theorem dX6_round_10 : decode cX6_round 10 = .ok (.invokevirtual 186, 3) := by decide +kernel
theorem dX6_round_13 : decode cX6_round 13 = .ok (.iconst 0, 1) := by decide +kernel
theorem dX6_round_14 : decode cX6_round 14 = .ok (.istore_n 1, 1) := by decide +kernel
theorem dX6_round_15 : decode cX6_round 15 = .ok (.iload_n 1, 1) := by decide +kernel
theorem dX6_round_16 : decode cX6_round 16 = .ok (.aload_n 0, 1) := by decide +kernel
theorem dX6_round_17 : decode cX6_round 17 = .ok (.getfield 19, 3) := by decide +kernel
theorem dX6_round_20 : decode cX6_round 20 = .ok (.invokevirtual 120, 3) := by decide +kernel
theorem dX6_round_23 : decode cX6_round 23 = .ok (.if_icmp .ge 35, 3) := by decide +kernel
theorem dX6_round_26 : decode cX6_round 26 = .ok (.aload_n 0, 1) := by decide +kernel
theorem dX6_round_27 : decode cX6_round 27 = .ok (.getfield 40, 3) := by decide +kernel
theorem dX6_round_30 : decode cX6_round 30 = .ok (.iload_n 1, 1) := by decide +kernel
theorem dX6_round_31 : decode cX6_round 31 = .ok (.aload_n 0, 1) := by decide +kernel
theorem dX6_round_32 : decode cX6_round 32 = .ok (.getfield 26, 3) := by decide +kernel
theorem dX6_round_35 : decode cX6_round 35 = .ok (.iload_n 1, 1) := by decide +kernel
theorem dX6_round_36 : decode cX6_round 36 = .ok (.invokevirtual 107, 3) := by decide +kernel
theorem dX6_round_39 : decode cX6_round 39 = .ok (.aload_n 0, 1) := by decide +kernel
theorem dX6_round_40 : decode cX6_round 40 = .ok (.getfield 19, 3) := by decide +kernel
theorem dX6_round_43 : decode cX6_round 43 = .ok (.getfield 170, 3) := by decide +kernel
theorem dX6_round_46 : decode cX6_round 46 = .ok (.iload_n 1, 1) := by decide +kernel
theorem dX6_round_47 : decode cX6_round 47 = .ok (.iaload, 1) := by decide +kernel
theorem dX6_round_48 : decode cX6_round 48 = .ok (.isub, 1) := by decide +kernel
theorem dX6_round_49 : decode cX6_round 49 = .ok (.invokevirtual 190, 3) := by decide +kernel
theorem dX6_round_52 : decode cX6_round 52 = .ok (.iinc 1 1, 3) := by decide +kernel
theorem dX6_round_55 : decode cX6_round 55 = .ok (.goto (-40), 3) := by decide +kernel
theorem dX6_round_58 : decode cX6_round 58 = .ok (.aload_n 0, 1) := by decide +kernel
theorem dX6_round_59 : decode cX6_round 59 = .ok (.getfield 40, 3) := by decide +kernel
theorem dX6_round_62 : decode cX6_round 62 = .ok (.aload_n 0, 1) := by decide +kernel
theorem dX6_round_63 : decode cX6_round 63 = .ok (.getfield 19, 3) := by decide +kernel
theorem dX6_round_66 : decode cX6_round 66 = .ok (.getfield 194, 3) := by decide +kernel
theorem dX6_round_69 : decode cX6_round 69 = .ok (.invokevirtual 197, 3) := by decide +kernel
theorem dX6_round_72 : decode cX6_round 72 = .ok (.ireturn, 1) := by decide +kernel
theorem dX6_stop_0 : decode cX6_stop 0 = .ok (.iload_n 1, 1) := by decide +kernel
theorem dX6_stop_1 : decode cX6_stop 1 = .ok (.iconst 0, 1) := by decide +kernel
theorem dX6_stop_2 : decode cX6_stop 2 = .ok (.aload_n 0, 1) := by decide +kernel
theorem dX6_stop_3 : decode cX6_stop 3 = .ok (.getfield 40, 3) := by decide +kernel
theorem dX6_stop_6 : decode cX6_stop 6 = .ok (.getfield 201, 3) := by decide +kernel
theorem dX6_stop_9 : decode cX6_stop 9 = .ok (.iconst 1, 1) := by decide +kernel
theorem dX6_stop_10 : decode cX6_stop 10 = .ok (.isub, 1) := by decide +kernel
theorem dX6_stop_11 : decode cX6_stop 11 = .ok (.invokestatic 61, 3) := by decide +kernel
theorem dX6_stop_14 : decode cX6_stop 14 = .ok (.ifCond .eq 15, 3) := by decide +kernel
theorem dX6_stop_17 : decode cX6_stop 17 = .ok (.aload_n 0, 1) := by decide +kernel
theorem dX6_stop_18 : decode cX6_stop 18 = .ok (.getfield 40, 3) := by decide +kernel
theorem dX6_stop_21 : decode cX6_stop 21 = .ok (.getfield 202, 3) := by decide +kernel
theorem dX6_stop_24 : decode cX6_stop 24 = .ok (.iload_n 1, 1) := by decide +kernel
theorem dX6_stop_25 : decode cX6_stop 25 = .ok (.iaload, 1) := by decide +kernel
theorem dX6_stop_26 : decode cX6_stop 26 = .ok (.goto 4, 3) := by decide +kernel
theorem dX6_stop_29 : decode cX6_stop 29 = .ok (.iconst (-1), 1) := by decide +kernel
theorem dX6_stop_30 : decode cX6_stop 30 = .ok (.ireturn, 1) := by decide +kernel
theorem dX6_point_0 : decode cX6_point 0 = .ok (.iload_n 1, 1) := by decide +kernel
theorem dX6_point_1 : decode cX6_point 1 = .ok (.iconst 0, 1) := by decide +kernel
theorem dX6_point_2 : decode cX6_point 2 = .ok (.iconst 1, 1) := by decide +kernel
theorem dX6_point_3 : decode cX6_point 3 = .ok (.invokestatic 61, 3) := by decide +kernel
theorem dX6_point_6 : decode cX6_point 6 = .ok (.ifCond .eq 11, 3) := by decide +kernel
theorem dX6_point_9 : decode cX6_point 9 = .ok (.iload_n 2, 1) := by decide +kernel
theorem dX6_point_10 : decode cX6_point 10 = .ok (.iload_n 3, 1) := by decide +kernel
theorem dX6_point_11 : decode cX6_point 11 = .ok (.invokestatic 57, 3) := by decide +kernel
theorem dX6_point_14 : decode cX6_point 14 = .ok (.ifCond .ne 5, 3) := by decide +kernel
theorem dX6_point_17 : decode cX6_point 17 = .ok (.iconst (-1), 1) := by decide +kernel
theorem dX6_point_18 : decode cX6_point 18 = .ok (.ireturn, 1) := by decide +kernel
theorem dX6_point_19 : decode cX6_point 19 = .ok (.iload_n 1, 1) := by decide +kernel
theorem dX6_point_20 : decode cX6_point 20 = .ok (.ifCond .ne 18, 3) := by decide +kernel
theorem dX6_point_23 : decode cX6_point 23 = .ok (.aload_n 0, 1) := by decide +kernel
theorem dX6_point_24 : decode cX6_point 24 = .ok (.getfield 47, 3) := by decide +kernel
theorem dX6_point_27 : decode cX6_point 27 = .ok (.getfield 133, 3) := by decide +kernel
theorem dX6_point_30 : decode cX6_point 30 = .ok (.iload_n 2, 1) := by decide +kernel
theorem dX6_point_31 : decode cX6_point 31 = .ok (.iload_n 3, 1) := by decide +kernel
theorem dX6_point_32 : decode cX6_point 32 = .ok (.invokevirtual 203, 3) := by decide +kernel
theorem dX6_point_35 : decode cX6_point 35 = .ok (.goto 15, 3) := by decide +kernel
theorem dX6_point_38 : decode cX6_point 38 = .ok (.aload_n 0, 1) := by decide +kernel
theorem dX6_point_39 : decode cX6_point 39 = .ok (.getfield 47, 3) := by decide +kernel
theorem dX6_point_42 : decode cX6_point 42 = .ok (.getfield 140, 3) := by decide +kernel
theorem dX6_point_45 : decode cX6_point 45 = .ok (.iload_n 2, 1) := by decide +kernel
theorem dX6_point_46 : decode cX6_point 46 = .ok (.iload_n 3, 1) := by decide +kernel
theorem dX6_point_47 : decode cX6_point 47 = .ok (.invokevirtual 203, 3) := by decide +kernel
theorem dX6_point_50 : decode cX6_point 50 = .ok (.ireturn, 1) := by decide +kernel
theorem dX6_places_0 : decode cX6_places 0 = .ok (.iload_n 1, 1) := by decide +kernel
theorem dX6_places_1 : decode cX6_places 1 = .ok (.iconst 0, 1) := by decide +kernel
theorem dX6_places_2 : decode cX6_places 2 = .ok (.aload_n 0, 1) := by decide +kernel
theorem dX6_places_3 : decode cX6_places 3 = .ok (.getfield 47, 3) := by decide +kernel
theorem dX6_places_6 : decode cX6_places 6 = .ok (.getfield 140, 3) := by decide +kernel
theorem dX6_places_9 : decode cX6_places 9 = .ok (.getfield 137, 3) := by decide +kernel
theorem dX6_places_12 : decode cX6_places 12 = .ok (.invokestatic 61, 3) := by decide +kernel
theorem dX6_places_15 : decode cX6_places 15 = .ok (.ifCond .eq 17, 3) := by decide +kernel
theorem dX6_places_18 : decode cX6_places 18 = .ok (.iload_n 1, 1) := by decide +kernel
theorem dX6_places_19 : decode cX6_places 19 = .ok (.ifCond .ne 15, 3) := by decide +kernel
theorem dX6_places_22 : decode cX6_places 22 = .ok (.aload_n 0, 1) := by decide +kernel
theorem dX6_places_23 : decode cX6_places 23 = .ok (.getfield 19, 3) := by decide +kernel
theorem dX6_places_26 : decode cX6_places 26 = .ok (.invokevirtual 120, 3) := by decide +kernel
theorem dX6_places_29 : decode cX6_places 29 = .ok (.ifCond .ne 5, 3) := by decide +kernel
theorem dX6_places_32 : decode cX6_places 32 = .ok (.iconst (-1), 1) := by decide +kernel
theorem dX6_places_33 : decode cX6_places 33 = .ok (.ireturn, 1) := by decide +kernel
theorem dX6_places_34 : decode cX6_places 34 = .ok (.aload_n 0, 1) := by decide +kernel
theorem dX6_places_35 : decode cX6_places 35 = .ok (.getfield 47, 3) := by decide +kernel
theorem dX6_places_38 : decode cX6_places 38 = .ok (.iload_n 1, 1) := by decide +kernel
theorem dX6_places_39 : decode cX6_places 39 = .ok (.aload_n 0, 1) := by decide +kernel
theorem dX6_places_40 : decode cX6_places 40 = .ok (.getfield 19, 3) := by decide +kernel
theorem dX6_places_43 : decode cX6_places 43 = .ok (.getfield 194, 3) := by decide +kernel
theorem dX6_places_46 : decode cX6_places 46 = .ok (.invokevirtual 204, 3) := by decide +kernel
theorem dX6_places_49 : decode cX6_places 49 = .ok (.ireturn, 1) := by decide +kernel
theorem dX6_chosen_0 : decode cX6_chosen 0 = .ok (.aload_n 0, 1) := by decide +kernel
theorem dX6_chosen_1 : decode cX6_chosen 1 = .ok (.getfield 47, 3) := by decide +kernel
theorem dX6_chosen_4 : decode cX6_chosen 4 = .ok (.getfield 208, 3) := by decide +kernel
theorem dX6_chosen_7 : decode cX6_chosen 7 = .ok (.ireturn, 1) := by decide +kernel
theorem dX6_isWithin_0 : decode cX6_isWithin 0 = .ok (.iload_n 0, 1) := by decide +kernel
theorem dX6_isWithin_1 : decode cX6_isWithin 1 = .ok (.iload_n 1, 1) := by decide +kernel
theorem dX6_isWithin_2 : decode cX6_isWithin 2 = .ok (.if_icmp .lt 12, 3) := by decide +kernel
theorem dX6_isWithin_5 : decode cX6_isWithin 5 = .ok (.iload_n 0, 1) := by decide +kernel
theorem dX6_isWithin_6 : decode cX6_isWithin 6 = .ok (.iload_n 2, 1) := by decide +kernel
theorem dX6_isWithin_7 : decode cX6_isWithin 7 = .ok (.if_icmp .gt 7, 3) := by decide +kernel
theorem dX6_isWithin_10 : decode cX6_isWithin 10 = .ok (.iconst 1, 1) := by decide +kernel
theorem dX6_isWithin_11 : decode cX6_isWithin 11 = .ok (.goto 4, 3) := by decide +kernel
theorem dX6_isWithin_14 : decode cX6_isWithin 14 = .ok (.iconst 0, 1) := by decide +kernel
theorem dX6_isWithin_15 : decode cX6_isWithin 15 = .ok (.ireturn, 1) := by decide +kernel
theorem dX6_isInTown_0 : decode cX6_isInTown 0 = .ok (.iload_n 0, 1) := by decide +kernel
theorem dX6_isInTown_1 : decode cX6_isInTown 1 = .ok (.iconst 0, 1) := by decide +kernel
theorem dX6_isInTown_2 : decode cX6_isInTown 2 = .ok (.bipush 99, 2) := by decide +kernel
theorem dX6_isInTown_4 : decode cX6_isInTown 4 = .ok (.invokestatic 61, 3) := by decide +kernel
theorem dX6_isInTown_7 : decode cX6_isInTown 7 = .ok (.ifCond .eq 17, 3) := by decide +kernel
theorem dX6_isInTown_10 : decode cX6_isInTown 10 = .ok (.iload_n 1, 1) := by decide +kernel
theorem dX6_isInTown_11 : decode cX6_isInTown 11 = .ok (.iconst 0, 1) := by decide +kernel
theorem dX6_isInTown_12 : decode cX6_isInTown 12 = .ok (.bipush 99, 2) := by decide +kernel
theorem dX6_isInTown_14 : decode cX6_isInTown 14 = .ok (.invokestatic 61, 3) := by decide +kernel
theorem dX6_isInTown_17 : decode cX6_isInTown 17 = .ok (.ifCond .eq 7, 3) := by decide +kernel
theorem dX6_isInTown_20 : decode cX6_isInTown 20 = .ok (.iconst 1, 1) := by decide +kernel
theorem dX6_isInTown_21 : decode cX6_isInTown 21 = .ok (.goto 4, 3) := by decide +kernel
theorem dX6_isInTown_24 : decode cX6_isInTown 24 = .ok (.iconst 0, 1) := by decide +kernel
theorem dX6_isInTown_25 : decode cX6_isInTown 25 = .ok (.ireturn, 1) := by decide +kernel
theorem dX6_hasSlotLeft_0 : decode cX6_hasSlotLeft 0 = .ok (.aload_n 0, 1) := by decide +kernel
theorem dX6_hasSlotLeft_1 : decode cX6_hasSlotLeft 1 = .ok (.getfield 19, 3) := by decide +kernel
theorem dX6_hasSlotLeft_4 : decode cX6_hasSlotLeft 4 = .ok (.iload_n 1, 1) := by decide +kernel
theorem dX6_hasSlotLeft_5 : decode cX6_hasSlotLeft 5 = .ok (.invokevirtual 96, 3) := by decide +kernel
theorem dX6_hasSlotLeft_8 : decode cX6_hasSlotLeft 8 = .ok (.ifCond .eq 27, 3) := by decide +kernel
theorem dX6_hasSlotLeft_11 : decode cX6_hasSlotLeft 11 = .ok (.aload_n 0, 1) := by decide +kernel
theorem dX6_hasSlotLeft_12 : decode cX6_hasSlotLeft 12 = .ok (.getfield 26, 3) := by decide +kernel
theorem dX6_hasSlotLeft_15 : decode cX6_hasSlotLeft 15 = .ok (.iload_n 1, 1) := by decide +kernel
theorem dX6_hasSlotLeft_16 : decode cX6_hasSlotLeft 16 = .ok (.invokevirtual 107, 3) := by decide +kernel
theorem dX6_hasSlotLeft_19 : decode cX6_hasSlotLeft 19 = .ok (.aload_n 0, 1) := by decide +kernel
theorem dX6_hasSlotLeft_20 : decode cX6_hasSlotLeft 20 = .ok (.getfield 19, 3) := by decide +kernel
theorem dX6_hasSlotLeft_23 : decode cX6_hasSlotLeft 23 = .ok (.getfield 210, 3) := by decide +kernel
theorem dX6_hasSlotLeft_26 : decode cX6_hasSlotLeft 26 = .ok (.iload_n 1, 1) := by decide +kernel
theorem dX6_hasSlotLeft_27 : decode cX6_hasSlotLeft 27 = .ok (.iaload, 1) := by decide +kernel
theorem dX6_hasSlotLeft_28 : decode cX6_hasSlotLeft 28 = .ok (.if_icmp .ge 7, 3) := by decide +kernel
theorem dX6_hasSlotLeft_31 : decode cX6_hasSlotLeft 31 = .ok (.iconst 1, 1) := by decide +kernel
theorem dX6_hasSlotLeft_32 : decode cX6_hasSlotLeft 32 = .ok (.goto 4, 3) := by decide +kernel
theorem dX6_hasSlotLeft_35 : decode cX6_hasSlotLeft 35 = .ok (.iconst 0, 1) := by decide +kernel
theorem dX6_hasSlotLeft_36 : decode cX6_hasSlotLeft 36 = .ok (.ireturn, 1) := by decide +kernel
theorem dX6_canComeBack_0 : decode cX6_canComeBack 0 = .ok (.aload_n 0, 1) := by decide +kernel
theorem dX6_canComeBack_1 : decode cX6_canComeBack 1 = .ok (.getfield 26, 3) := by decide +kernel
theorem dX6_canComeBack_4 : decode cX6_canComeBack 4 = .ok (.iload_n 1, 1) := by decide +kernel
theorem dX6_canComeBack_5 : decode cX6_canComeBack 5 = .ok (.invokevirtual 82, 3) := by decide +kernel
theorem dX6_canComeBack_8 : decode cX6_canComeBack 8 = .ok (.ifCond .eq 35, 3) := by decide +kernel
theorem dX6_canComeBack_11 : decode cX6_canComeBack 11 = .ok (.aload_n 0, 1) := by decide +kernel
theorem dX6_canComeBack_12 : decode cX6_canComeBack 12 = .ok (.getfield 26, 3) := by decide +kernel
theorem dX6_canComeBack_15 : decode cX6_canComeBack 15 = .ok (.iload_n 1, 1) := by decide +kernel
theorem dX6_canComeBack_16 : decode cX6_canComeBack 16 = .ok (.invokevirtual 110, 3) := by decide +kernel
theorem dX6_canComeBack_19 : decode cX6_canComeBack 19 = .ok (.ifCond .eq 24, 3) := by decide +kernel
theorem dX6_canComeBack_22 : decode cX6_canComeBack 22 = .ok (.iload_n 2, 1) := by decide +kernel
theorem dX6_canComeBack_23 : decode cX6_canComeBack 23 = .ok (.iconst 0, 1) := by decide +kernel
theorem dX6_canComeBack_24 : decode cX6_canComeBack 24 = .ok (.aload_n 0, 1) := by decide +kernel
theorem dX6_canComeBack_25 : decode cX6_canComeBack 25 = .ok (.getfield 26, 3) := by decide +kernel
theorem dX6_canComeBack_28 : decode cX6_canComeBack 28 = .ok (.getfield 153, 3) := by decide +kernel
theorem dX6_canComeBack_31 : decode cX6_canComeBack 31 = .ok (.iload_n 1, 1) := by decide +kernel
theorem dX6_canComeBack_32 : decode cX6_canComeBack 32 = .ok (.iaload, 1) := by decide +kernel
theorem dX6_canComeBack_33 : decode cX6_canComeBack 33 = .ok (.invokestatic 61, 3) := by decide +kernel
theorem dX6_canComeBack_36 : decode cX6_canComeBack 36 = .ok (.ifCond .eq 7, 3) := by decide +kernel
theorem dX6_canComeBack_39 : decode cX6_canComeBack 39 = .ok (.iconst 1, 1) := by decide +kernel
theorem dX6_canComeBack_40 : decode cX6_canComeBack 40 = .ok (.goto 4, 3) := by decide +kernel
theorem dX6_canComeBack_43 : decode cX6_canComeBack 43 = .ok (.iconst 0, 1) := by decide +kernel
theorem dX6_canComeBack_44 : decode cX6_canComeBack 44 = .ok (.ireturn, 1) := by decide +kernel
theorem dX6_isReady_0 : decode cX6_isReady 0 = .ok (.aload_n 0, 1) := by decide +kernel
theorem dX6_isReady_1 : decode cX6_isReady 1 = .ok (.getfield 26, 3) := by decide +kernel
theorem dX6_isReady_4 : decode cX6_isReady 4 = .ok (.iload_n 1, 1) := by decide +kernel
theorem dX6_isReady_5 : decode cX6_isReady 5 = .ok (.invokevirtual 110, 3) := by decide +kernel
theorem dX6_isReady_8 : decode cX6_isReady 8 = .ok (.ifCond .ne 42, 3) := by decide +kernel
theorem dX6_isReady_11 : decode cX6_isReady 11 = .ok (.aload_n 0, 1) := by decide +kernel
theorem dX6_isReady_12 : decode cX6_isReady 12 = .ok (.getfield 26, 3) := by decide +kernel
theorem dX6_isReady_15 : decode cX6_isReady 15 = .ok (.iload_n 1, 1) := by decide +kernel
theorem dX6_isReady_16 : decode cX6_isReady 16 = .ok (.aload_n 0, 1) := by decide +kernel
theorem dX6_isReady_17 : decode cX6_isReady 17 = .ok (.getfield 7, 3) := by decide +kernel
theorem dX6_isReady_20 : decode cX6_isReady 20 = .ok (.iconst 0, 1) := by decide +kernel
theorem dX6_isReady_21 : decode cX6_isReady 21 = .ok (.iaload, 1) := by decide +kernel
theorem dX6_isReady_22 : decode cX6_isReady 22 = .ok (.invokevirtual 213, 3) := by decide +kernel
theorem dX6_isReady_25 : decode cX6_isReady 25 = .ok (.ifCond .eq 25, 3) := by decide +kernel
theorem dX6_isReady_28 : decode cX6_isReady 28 = .ok (.aload_n 0, 1) := by decide +kernel
theorem dX6_isReady_29 : decode cX6_isReady 29 = .ok (.getfield 26, 3) := by decide +kernel
theorem dX6_isReady_32 : decode cX6_isReady 32 = .ok (.getfield 153, 3) := by decide +kernel
theorem dX6_isReady_35 : decode cX6_isReady 35 = .ok (.iload_n 1, 1) := by decide +kernel
theorem dX6_isReady_36 : decode cX6_isReady 36 = .ok (.iaload, 1) := by decide +kernel
theorem dX6_isReady_37 : decode cX6_isReady 37 = .ok (.aload_n 0, 1) := by decide +kernel
theorem dX6_isReady_38 : decode cX6_isReady 38 = .ok (.getfield 7, 3) := by decide +kernel
theorem dX6_isReady_41 : decode cX6_isReady 41 = .ok (.iconst 1, 1) := by decide +kernel
theorem dX6_isReady_42 : decode cX6_isReady 42 = .ok (.iaload, 1) := by decide +kernel
