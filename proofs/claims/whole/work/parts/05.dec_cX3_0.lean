theorem dX3_init_0 : decode cX3_init 0 = .ok (.aload_n 0, 1) := by decide +kernel
theorem dX3_init_1 : decode cX3_init 1 = .ok (.invokespecial 3, 3) := by decide +kernel
theorem dX3_init_4 : decode cX3_init 4 = .ok (.aload_n 0, 1) := by decide +kernel
theorem dX3_init_5 : decode cX3_init 5 = .ok (.bipush 30, 2) := by decide +kernel
theorem dX3_init_7 : decode cX3_init 7 = .ok (.newarray .int, 2) := by decide +kernel
theorem dX3_init_9 : decode cX3_init 9 = .ok (.putfield 9, 3) := by decide +kernel
theorem dX3_init_12 : decode cX3_init 12 = .ok (.aload_n 0, 1) := by decide +kernel
theorem dX3_init_13 : decode cX3_init 13 = .ok (.bipush 30, 2) := by decide +kernel
theorem dX3_init_15 : decode cX3_init 15 = .ok (.newarray .int, 2) := by decide +kernel
theorem dX3_init_17 : decode cX3_init 17 = .ok (.putfield 15, 3) := by decide +kernel
theorem dX3_init_20 : decode cX3_init 20 = .ok (.aload_n 0, 1) := by decide +kernel
theorem dX3_init_21 : decode cX3_init 21 = .ok (.bipush 30, 2) := by decide +kernel
theorem dX3_init_23 : decode cX3_init 23 = .ok (.newarray .boolean, 2) := by decide +kernel
theorem dX3_init_25 : decode cX3_init 25 = .ok (.putfield 18, 3) := by decide +kernel
theorem dX3_init_28 : decode cX3_init 28 = .ok (.aload_n 0, 1) := by decide +kernel
theorem dX3_init_29 : decode cX3_init 29 = .ok (.bipush 30, 2) := by decide +kernel
theorem dX3_init_31 : decode cX3_init 31 = .ok (.newarray .int, 2) := by decide +kernel
theorem dX3_init_33 : decode cX3_init 33 = .ok (.putfield 22, 3) := by decide +kernel
theorem dX3_init_36 : decode cX3_init 36 = .ok (.aload_n 0, 1) := by decide +kernel
theorem dX3_init_37 : decode cX3_init 37 = .ok (.bipush 30, 2) := by decide +kernel
theorem dX3_init_39 : decode cX3_init 39 = .ok (.newarray .int, 2) := by decide +kernel
theorem dX3_init_41 : decode cX3_init 41 = .ok (.putfield 25, 3) := by decide +kernel
theorem dX3_init_44 : decode cX3_init 44 = .ok (.return_, 1) := by decide +kernel
theorem dX3_has_0 : decode cX3_has 0 = .ok (.iload_n 1, 1) := by decide +kernel
theorem dX3_has_1 : decode cX3_has 1 = .ok (.iconst 0, 1) := by decide +kernel
theorem dX3_has_2 : decode cX3_has 2 = .ok (.aload_n 0, 1) := by decide +kernel
theorem dX3_has_3 : decode cX3_has 3 = .ok (.getfield 28, 3) := by decide +kernel
theorem dX3_has_6 : decode cX3_has 6 = .ok (.iconst 1, 1) := by decide +kernel
theorem dX3_has_7 : decode cX3_has 7 = .ok (.isub, 1) := by decide +kernel
theorem dX3_has_8 : decode cX3_has 8 = .ok (.invokestatic 32, 3) := by decide +kernel
theorem dX3_has_11 : decode cX3_has 11 = .ok (.ireturn, 1) := by decide +kernel
theorem dX3_add_0 : decode cX3_add 0 = .ok (.aload_n 0, 1) := by decide +kernel
theorem dX3_add_1 : decode cX3_add 1 = .ok (.getfield 28, 3) := by decide +kernel
theorem dX3_add_4 : decode cX3_add 4 = .ok (.bipush 30, 2) := by decide +kernel
theorem dX3_add_6 : decode cX3_add 6 = .ok (.if_icmp .lt 5, 3) := by decide +kernel
theorem dX3_add_9 : decode cX3_add 9 = .ok (.iconst (-1), 1) := by decide +kernel
theorem dX3_add_10 : decode cX3_add 10 = .ok (.ireturn, 1) := by decide +kernel
theorem dX3_add_11 : decode cX3_add 11 = .ok (.aload_n 0, 1) := by decide +kernel
theorem dX3_add_12 : decode cX3_add 12 = .ok (.getfield 9, 3) := by decide +kernel
theorem dX3_add_15 : decode cX3_add 15 = .ok (.aload_n 0, 1) := by decide +kernel
theorem dX3_add_16 : decode cX3_add 16 = .ok (.getfield 28, 3) := by decide +kernel
theorem dX3_add_19 : decode cX3_add 19 = .ok (.iload_n 2, 1) := by decide +kernel
theorem dX3_add_20 : decode cX3_add 20 = .ok (.iastore, 1) := by decide +kernel
theorem dX3_add_21 : decode cX3_add 21 = .ok (.aload_n 0, 1) := by decide +kernel
theorem dX3_add_22 : decode cX3_add 22 = .ok (.getfield 22, 3) := by decide +kernel
theorem dX3_add_25 : decode cX3_add 25 = .ok (.aload_n 0, 1) := by decide +kernel
theorem dX3_add_26 : decode cX3_add 26 = .ok (.getfield 28, 3) := by decide +kernel
theorem dX3_add_29 : decode cX3_add 29 = .ok (.iload_n 1, 1) := by decide +kernel
theorem dX3_add_30 : decode cX3_add 30 = .ok (.iastore, 1) := by decide +kernel
theorem dX3_add_31 : decode cX3_add 31 = .ok (.aload_n 0, 1) := by decide +kernel
theorem dX3_add_32 : decode cX3_add 32 = .ok (.getfield 25, 3) := by decide +kernel
theorem dX3_add_35 : decode cX3_add 35 = .ok (.aload_n 0, 1) := by decide +kernel
theorem dX3_add_36 : decode cX3_add 36 = .ok (.getfield 28, 3) := by decide +kernel
theorem dX3_add_39 : decode cX3_add 39 = .ok (.iconst (-1), 1) := by decide +kernel
theorem dX3_add_40 : decode cX3_add 40 = .ok (.iastore, 1) := by decide +kernel
theorem dX3_add_41 : decode cX3_add 41 = .ok (.aload_n 0, 1) := by decide +kernel
theorem dX3_add_42 : decode cX3_add 42 = .ok (.dup, 1) := by decide +kernel
theorem dX3_add_43 : decode cX3_add 43 = .ok (.getfield 28, 3) := by decide +kernel
theorem dX3_add_46 : decode cX3_add 46 = .ok (.iconst 1, 1) := by decide +kernel
theorem dX3_add_47 : decode cX3_add 47 = .ok (.iadd, 1) := by decide +kernel
theorem dX3_add_48 : decode cX3_add 48 = .ok (.putfield 28, 3) := by decide +kernel
theorem dX3_add_51 : decode cX3_add 51 = .ok (.aload_n 0, 1) := by decide +kernel
theorem dX3_add_52 : decode cX3_add 52 = .ok (.getfield 28, 3) := by decide +kernel
theorem dX3_add_55 : decode cX3_add 55 = .ok (.iconst 1, 1) := by decide +kernel
theorem dX3_add_56 : decode cX3_add 56 = .ok (.isub, 1) := by decide +kernel
theorem dX3_add_57 : decode cX3_add 57 = .ok (.ireturn, 1) := by decide +kernel
theorem dX3_isOut_0 : decode cX3_isOut 0 = .ok (.aload_n 0, 1) := by decide +kernel
theorem dX3_isOut_1 : decode cX3_isOut 1 = .ok (.getfield 22, 3) := by decide +kernel
theorem dX3_isOut_4 : decode cX3_isOut 4 = .ok (.iload_n 1, 1) := by decide +kernel
theorem dX3_isOut_5 : decode cX3_isOut 5 = .ok (.iaload, 1) := by decide +kernel
theorem dX3_isOut_6 : decode cX3_isOut 6 = .ok (.iconst (-1), 1) := by decide +kernel
theorem dX3_isOut_7 : decode cX3_isOut 7 = .ok (.if_icmp .ne 7, 3) := by decide +kernel
theorem dX3_isOut_10 : decode cX3_isOut 10 = .ok (.iconst 1, 1) := by decide +kernel
theorem dX3_isOut_11 : decode cX3_isOut 11 = .ok (.goto 4, 3) := by decide +kernel
theorem dX3_isOut_14 : decode cX3_isOut 14 = .ok (.iconst 0, 1) := by decide +kernel
theorem dX3_isOut_15 : decode cX3_isOut 15 = .ok (.ireturn, 1) := by decide +kernel
theorem dX3_isFit_0 : decode cX3_isFit 0 = .ok (.aload_n 0, 1) := by decide +kernel
theorem dX3_isFit_1 : decode cX3_isFit 1 = .ok (.getfield 18, 3) := by decide +kernel
theorem dX3_isFit_4 : decode cX3_isFit 4 = .ok (.iload_n 1, 1) := by decide +kernel
theorem dX3_isFit_5 : decode cX3_isFit 5 = .ok (.baload, 1) := by decide +kernel
theorem dX3_isFit_6 : decode cX3_isFit 6 = .ok (.ifCond .ne 17, 3) := by decide +kernel
theorem dX3_isFit_9 : decode cX3_isFit 9 = .ok (.aload_n 0, 1) := by decide +kernel
theorem dX3_isFit_10 : decode cX3_isFit 10 = .ok (.getfield 15, 3) := by decide +kernel
theorem dX3_isFit_13 : decode cX3_isFit 13 = .ok (.iload_n 1, 1) := by decide +kernel
theorem dX3_isFit_14 : decode cX3_isFit 14 = .ok (.iaload, 1) := by decide +kernel
theorem dX3_isFit_15 : decode cX3_isFit 15 = .ok (.iload_n 2, 1) := by decide +kernel
theorem dX3_isFit_16 : decode cX3_isFit 16 = .ok (.if_icmp .ge 7, 3) := by decide +kernel
theorem dX3_isFit_19 : decode cX3_isFit 19 = .ok (.iconst 1, 1) := by decide +kernel
theorem dX3_isFit_20 : decode cX3_isFit 20 = .ok (.goto 4, 3) := by decide +kernel
theorem dX3_isFit_23 : decode cX3_isFit 23 = .ok (.iconst 0, 1) := by decide +kernel
theorem dX3_isFit_24 : decode cX3_isFit 24 = .ok (.ireturn, 1) := by decide +kernel
theorem dX3_former_0 : decode cX3_former 0 = .ok (.iload_n 1, 1) := by decide +kernel
theorem dX3_former_1 : decode cX3_former 1 = .ok (.iconst (-1), 1) := by decide +kernel
theorem dX3_former_2 : decode cX3_former 2 = .ok (.if_icmp .eq 18, 3) := by decide +kernel
theorem dX3_former_5 : decode cX3_former 5 = .ok (.aload_n 0, 1) := by decide +kernel
theorem dX3_former_6 : decode cX3_former 6 = .ok (.getfield 9, 3) := by decide +kernel
theorem dX3_former_9 : decode cX3_former 9 = .ok (.iload_n 2, 1) := by decide +kernel
theorem dX3_former_10 : decode cX3_former 10 = .ok (.iaload, 1) := by decide +kernel
theorem dX3_former_11 : decode cX3_former 11 = .ok (.aload_n 0, 1) := by decide +kernel
theorem dX3_former_12 : decode cX3_former 12 = .ok (.getfield 9, 3) := by decide +kernel
theorem dX3_former_15 : decode cX3_former 15 = .ok (.iload_n 1, 1) := by decide +kernel
theorem dX3_former_16 : decode cX3_former 16 = .ok (.iaload, 1) := by decide +kernel
theorem dX3_former_17 : decode cX3_former 17 = .ok (.if_icmp .le 5, 3) := by decide +kernel
theorem dX3_former_20 : decode cX3_former 20 = .ok (.iload_n 2, 1) := by decide +kernel
theorem dX3_former_21 : decode cX3_former 21 = .ok (.ireturn, 1) := by decide +kernel
theorem dX3_former_22 : decode cX3_former 22 = .ok (.aload_n 0, 1) := by decide +kernel
theorem dX3_former_23 : decode cX3_former 23 = .ok (.getfield 9, 3) := by decide +kernel
theorem dX3_former_26 : decode cX3_former 26 = .ok (.iload_n 2, 1) := by decide +kernel
theorem dX3_former_27 : decode cX3_former 27 = .ok (.iaload, 1) := by decide +kernel
theorem dX3_former_28 : decode cX3_former 28 = .ok (.aload_n 0, 1) := by decide +kernel
theorem dX3_former_29 : decode cX3_former 29 = .ok (.getfield 9, 3) := by decide +kernel
theorem dX3_former_32 : decode cX3_former 32 = .ok (.iload_n 1, 1) := by decide +kernel
theorem dX3_former_33 : decode cX3_former 33 = .ok (.iaload, 1) := by decide +kernel
theorem dX3_former_34 : decode cX3_former 34 = .ok (.if_icmp .ne 22, 3) := by decide +kernel
theorem dX3_former_37 : decode cX3_former 37 = .ok (.aload_n 0, 1) := by decide +kernel
theorem dX3_former_38 : decode cX3_former 38 = .ok (.getfield 15, 3) := by decide +kernel
theorem dX3_former_41 : decode cX3_former 41 = .ok (.iload_n 2, 1) := by decide +kernel
theorem dX3_former_42 : decode cX3_former 42 = .ok (.iaload, 1) := by decide +kernel
theorem dX3_former_43 : decode cX3_former 43 = .ok (.aload_n 0, 1) := by decide +kernel
theorem dX3_former_44 : decode cX3_former 44 = .ok (.getfield 15, 3) := by decide +kernel
theorem dX3_former_47 : decode cX3_former 47 = .ok (.iload_n 1, 1) := by decide +kernel
theorem dX3_former_48 : decode cX3_former 48 = .ok (.iaload, 1) := by decide +kernel
theorem dX3_former_49 : decode cX3_former 49 = .ok (.if_icmp .ge 7, 3) := by decide +kernel
theorem dX3_former_52 : decode cX3_former 52 = .ok (.iconst 1, 1) := by decide +kernel
theorem dX3_former_53 : decode cX3_former 53 = .ok (.goto 4, 3) := by decide +kernel
theorem dX3_former_56 : decode cX3_former 56 = .ok (.iconst 0, 1) := by decide +kernel
theorem dX3_former_57 : decode cX3_former 57 = .ok (.istore_n 3, 1) := by decide +kernel
theorem dX3_former_58 : decode cX3_former 58 = .ok (.iload_n 3, 1) := by decide +kernel
theorem dX3_former_59 : decode cX3_former 59 = .ok (.ifCond .eq 7, 3) := by decide +kernel
theorem dX3_former_62 : decode cX3_former 62 = .ok (.iload_n 2, 1) := by decide +kernel
theorem dX3_former_63 : decode cX3_former 63 = .ok (.goto 4, 3) := by decide +kernel
theorem dX3_former_66 : decode cX3_former 66 = .ok (.iload_n 1, 1) := by decide +kernel
theorem dX3_former_67 : decode cX3_former 67 = .ok (.ireturn, 1) := by decide +kernel
theorem dX3_comeBack_0 : decode cX3_comeBack 0 = .ok (.aload_n 0, 1) := by decide +kernel
theorem dX3_comeBack_1 : decode cX3_comeBack 1 = .ok (.getfield 22, 3) := by decide +kernel
theorem dX3_comeBack_4 : decode cX3_comeBack 4 = .ok (.iload_n 1, 1) := by decide +kernel
theorem dX3_comeBack_5 : decode cX3_comeBack 5 = .ok (.iload_n 2, 1) := by decide +kernel
theorem dX3_comeBack_6 : decode cX3_comeBack 6 = .ok (.iastore, 1) := by decide +kernel
theorem dX3_comeBack_7 : decode cX3_comeBack 7 = .ok (.aload_n 0, 1) := by decide +kernel
theorem dX3_comeBack_8 : decode cX3_comeBack 8 = .ok (.getfield 9, 3) := by decide +kernel
theorem dX3_comeBack_11 : decode cX3_comeBack 11 = .ok (.iload_n 1, 1) := by decide +kernel
theorem dX3_comeBack_12 : decode cX3_comeBack 12 = .ok (.iload_n 3, 1) := by decide +kernel
theorem dX3_comeBack_13 : decode cX3_comeBack 13 = .ok (.iastore, 1) := by decide +kernel
theorem dX3_comeBack_14 : decode cX3_comeBack 14 = .ok (.return_, 1) := by decide +kernel
theorem dX3_load_0 : decode cX3_load 0 = .ok (.iload_n 2, 1) := by decide +kernel
theorem dX3_load_1 : decode cX3_load 1 = .ok (.bipush 100, 2) := by decide +kernel
theorem dX3_load_3 : decode cX3_load 3 = .ok (.aload_n 0, 1) := by decide +kernel
theorem dX3_load_4 : decode cX3_load 4 = .ok (.getfield 9, 3) := by decide +kernel
theorem dX3_load_7 : decode cX3_load 7 = .ok (.iload_n 1, 1) := by decide +kernel
theorem dX3_load_8 : decode cX3_load 8 = .ok (.iaload, 1) := by decide +kernel
theorem dX3_load_9 : decode cX3_load 9 = .ok (.isub, 1) := by decide +kernel
theorem dX3_load_10 : decode cX3_load 10 = .ok (.invokestatic 36, 3) := by decide +kernel
theorem dX3_load_13 : decode cX3_load 13 = .ok (.istore 4, 2) := by decide +kernel
theorem dX3_load_15 : decode cX3_load 15 = .ok (.aload_n 0, 1) := by decide +kernel
theorem dX3_load_16 : decode cX3_load 16 = .ok (.getfield 9, 3) := by decide +kernel
theorem dX3_load_19 : decode cX3_load 19 = .ok (.iload_n 1, 1) := by decide +kernel
theorem dX3_load_20 : decode cX3_load 20 = .ok (.dup2, 1) := by decide +kernel
theorem dX3_load_21 : decode cX3_load 21 = .ok (.iaload, 1) := by decide +kernel
theorem dX3_load_22 : decode cX3_load 22 = .ok (.iload 4, 2) := by decide +kernel
theorem dX3_load_24 : decode cX3_load 24 = .ok (.iadd, 1) := by decide +kernel
theorem dX3_load_25 : decode cX3_load 25 = .ok (.iastore, 1) := by decide +kernel
theorem dX3_load_26 : decode cX3_load 26 = .ok (.aload_n 0, 1) := by decide +kernel
theorem dX3_load_27 : decode cX3_load 27 = .ok (.getfield 15, 3) := by decide +kernel
theorem dX3_load_30 : decode cX3_load 30 = .ok (.iload_n 1, 1) := by decide +kernel
theorem dX3_load_31 : decode cX3_load 31 = .ok (.dup2, 1) := by decide +kernel
theorem dX3_load_32 : decode cX3_load 32 = .ok (.iaload, 1) := by decide +kernel
theorem dX3_load_33 : decode cX3_load 33 = .ok (.iload 4, 2) := by decide +kernel
theorem dX3_load_35 : decode cX3_load 35 = .ok (.iadd, 1) := by decide +kernel
theorem dX3_load_36 : decode cX3_load 36 = .ok (.iastore, 1) := by decide +kernel
theorem dX3_load_37 : decode cX3_load 37 = .ok (.aload_n 0, 1) := by decide +kernel
theorem dX3_load_38 : decode cX3_load 38 = .ok (.getfield 25, 3) := by decide +kernel
theorem dX3_load_41 : decode cX3_load 41 = .ok (.iload_n 1, 1) := by decide +kernel
theorem dX3_load_42 : decode cX3_load 42 = .ok (.iload_n 3, 1) := by decide +kernel
theorem dX3_load_43 : decode cX3_load 43 = .ok (.iastore, 1) := by decide +kernel
theorem dX3_load_44 : decode cX3_load 44 = .ok (.return_, 1) := by decide +kernel
theorem dX3_countIn_0 : decode cX3_countIn 0 = .ok (.iconst 0, 1) := by decide +kernel
theorem dX3_countIn_1 : decode cX3_countIn 1 = .ok (.istore_n 2, 1) := by decide +kernel
theorem dX3_countIn_2 : decode cX3_countIn 2 = .ok (.iconst 0, 1) := by decide +kernel
theorem dX3_countIn_3 : decode cX3_countIn 3 = .ok (.istore_n 3, 1) := by decide +kernel
theorem dX3_countIn_4 : decode cX3_countIn 4 = .ok (.iload_n 3, 1) := by decide +kernel
theorem dX3_countIn_5 : decode cX3_countIn 5 = .ok (.aload_n 0, 1) := by decide +kernel
theorem dX3_countIn_6 : decode cX3_countIn 6 = .ok (.getfield 28, 3) := by decide +kernel
theorem dX3_countIn_9 : decode cX3_countIn 9 = .ok (.if_icmp .ge 22, 3) := by decide +kernel
theorem dX3_countIn_12 : decode cX3_countIn 12 = .ok (.aload_n 0, 1) := by decide +kernel
theorem dX3_countIn_13 : decode cX3_countIn 13 = .ok (.getfield 22, 3) := by decide +kernel
theorem dX3_countIn_16 : decode cX3_countIn 16 = .ok (.iload_n 3, 1) := by decide +kernel
theorem dX3_countIn_17 : decode cX3_countIn 17 = .ok (.iaload, 1) := by decide +kernel
theorem dX3_countIn_18 : decode cX3_countIn 18 = .ok (.iload_n 1, 1) := by decide +kernel
theorem dX3_countIn_19 : decode cX3_countIn 19 = .ok (.if_icmp .ne 6, 3) := by decide +kernel
theorem dX3_countIn_22 : decode cX3_countIn 22 = .ok (.iinc 2 1, 3) := by decide +kernel
theorem dX3_countIn_25 : decode cX3_countIn 25 = .ok (.iinc 3 1, 3) := by decide +kernel
theorem dX3_countIn_28 : decode cX3_countIn 28 = .ok (.goto (-24), 3) := by decide +kernel
theorem dX3_countIn_31 : decode cX3_countIn 31 = .ok (.iload_n 2, 1) := by decide +kernel
theorem dX3_countIn_32 : decode cX3_countIn 32 = .ok (.ireturn, 1) := by decide +kernel
theorem dX3_countSick_0 : decode cX3_countSick 0 = .ok (.iconst 0, 1) := by decide +kernel
theorem dX3_countSick_1 : decode cX3_countSick 1 = .ok (.istore_n 1, 1) := by decide +kernel
theorem dX3_countSick_2 : decode cX3_countSick 2 = .ok (.iconst 0, 1) := by decide +kernel
theorem dX3_countSick_3 : decode cX3_countSick 3 = .ok (.istore_n 2, 1) := by decide +kernel
theorem dX3_countSick_4 : decode cX3_countSick 4 = .ok (.iload_n 2, 1) := by decide +kernel
theorem dX3_countSick_5 : decode cX3_countSick 5 = .ok (.aload_n 0, 1) := by decide +kernel
theorem dX3_countSick_6 : decode cX3_countSick 6 = .ok (.getfield 28, 3) := by decide +kernel
theorem dX3_countSick_9 : decode cX3_countSick 9 = .ok (.if_icmp .ge 21, 3) := by decide +kernel
theorem dX3_countSick_12 : decode cX3_countSick 12 = .ok (.aload_n 0, 1) := by decide +kernel
theorem dX3_countSick_13 : decode cX3_countSick 13 = .ok (.getfield 18, 3) := by decide +kernel
theorem dX3_countSick_16 : decode cX3_countSick 16 = .ok (.iload_n 2, 1) := by decide +kernel
theorem dX3_countSick_17 : decode cX3_countSick 17 = .ok (.baload, 1) := by decide +kernel
theorem dX3_countSick_18 : decode cX3_countSick 18 = .ok (.ifCond .eq 6, 3) := by decide +kernel
theorem dX3_countSick_21 : decode cX3_countSick 21 = .ok (.iinc 1 1, 3) := by decide +kernel
theorem dX3_countSick_24 : decode cX3_countSick 24 = .ok (.iinc 2 1, 3) := by decide +kernel
theorem dX3_countSick_27 : decode cX3_countSick 27 = .ok (.goto (-23), 3) := by decide +kernel
theorem dX3_countSick_30 : decode cX3_countSick 30 = .ok (.iload_n 1, 1) := by decide +kernel
theorem dX3_countSick_31 : decode cX3_countSick 31 = .ok (.ireturn, 1) := by decide +kernel
theorem dX3_countOld_0 : decode cX3_countOld 0 = .ok (.iconst 0, 1) := by decide +kernel
theorem dX3_countOld_1 : decode cX3_countOld 1 = .ok (.istore_n 2, 1) := by decide +kernel
theorem dX3_countOld_2 : decode cX3_countOld 2 = .ok (.iconst 0, 1) := by decide +kernel
theorem dX3_countOld_3 : decode cX3_countOld 3 = .ok (.istore_n 3, 1) := by decide +kernel
theorem dX3_countOld_4 : decode cX3_countOld 4 = .ok (.iload_n 3, 1) := by decide +kernel
theorem dX3_countOld_5 : decode cX3_countOld 5 = .ok (.aload_n 0, 1) := by decide +kernel
theorem dX3_countOld_6 : decode cX3_countOld 6 = .ok (.getfield 28, 3) := by decide +kernel
theorem dX3_countOld_9 : decode cX3_countOld 9 = .ok (.if_icmp .ge 22, 3) := by decide +kernel
theorem dX3_countOld_12 : decode cX3_countOld 12 = .ok (.aload_n 0, 1) := by decide +kernel
theorem dX3_countOld_13 : decode cX3_countOld 13 = .ok (.getfield 15, 3) := by decide +kernel
theorem dX3_countOld_16 : decode cX3_countOld 16 = .ok (.iload_n 3, 1) := by decide +kernel
theorem dX3_countOld_17 : decode cX3_countOld 17 = .ok (.iaload, 1) := by decide +kernel
theorem dX3_countOld_18 : decode cX3_countOld 18 = .ok (.iload_n 1, 1) := by decide +kernel
theorem dX3_countOld_19 : decode cX3_countOld 19 = .ok (.if_icmp .lt 6, 3) := by decide +kernel
theorem dX3_countOld_22 : decode cX3_countOld 22 = .ok (.iinc 2 1, 3) := by decide +kernel
theorem dX3_countOld_25 : decode cX3_countOld 25 = .ok (.iinc 3 1, 3) := by decide +kernel
theorem dX3_countOld_28 : decode cX3_countOld 28 = .ok (.goto (-24), 3) := by decide +kernel
theorem dX3_countOld_31 : decode cX3_countOld 31 = .ok (.iload_n 2, 1) := by decide +kernel
theorem dX3_countOld_32 : decode cX3_countOld 32 = .ok (.ireturn, 1) := by decide +kernel
