theorem dX1_init_0 : decode cX1_init 0 = .ok (.aload_n 0, 1) := by decide +kernel
theorem dX1_init_1 : decode cX1_init 1 = .ok (.invokespecial 3, 3) := by decide +kernel
theorem dX1_init_4 : decode cX1_init 4 = .ok (.aload_n 0, 1) := by decide +kernel
theorem dX1_init_5 : decode cX1_init 5 = .ok (.bipush 12, 2) := by decide +kernel
theorem dX1_init_7 : decode cX1_init 7 = .ok (.newarray .int, 2) := by decide +kernel
theorem dX1_init_9 : decode cX1_init 9 = .ok (.putfield 9, 3) := by decide +kernel
theorem dX1_init_12 : decode cX1_init 12 = .ok (.aload_n 0, 1) := by decide +kernel
theorem dX1_init_13 : decode cX1_init 13 = .ok (.bipush 12, 2) := by decide +kernel
theorem dX1_init_15 : decode cX1_init 15 = .ok (.newarray .int, 2) := by decide +kernel
theorem dX1_init_17 : decode cX1_init 17 = .ok (.putfield 15, 3) := by decide +kernel
theorem dX1_init_20 : decode cX1_init 20 = .ok (.aload_n 0, 1) := by decide +kernel
theorem dX1_init_21 : decode cX1_init 21 = .ok (.bipush 12, 2) := by decide +kernel
theorem dX1_init_23 : decode cX1_init 23 = .ok (.newarray .int, 2) := by decide +kernel
theorem dX1_init_25 : decode cX1_init 25 = .ok (.putfield 18, 3) := by decide +kernel
theorem dX1_init_28 : decode cX1_init 28 = .ok (.aload_n 0, 1) := by decide +kernel
theorem dX1_init_29 : decode cX1_init 29 = .ok (.bipush 12, 2) := by decide +kernel
theorem dX1_init_31 : decode cX1_init 31 = .ok (.newarray .int, 2) := by decide +kernel
theorem dX1_init_33 : decode cX1_init 33 = .ok (.putfield 21, 3) := by decide +kernel
theorem dX1_init_36 : decode cX1_init 36 = .ok (.aload_n 0, 1) := by decide +kernel
theorem dX1_init_37 : decode cX1_init 37 = .ok (.bipush 12, 2) := by decide +kernel
theorem dX1_init_39 : decode cX1_init 39 = .ok (.newarray .int, 2) := by decide +kernel
theorem dX1_init_41 : decode cX1_init 41 = .ok (.putfield 24, 3) := by decide +kernel
theorem dX1_init_44 : decode cX1_init 44 = .ok (.return_, 1) := by decide +kernel
theorem dX1_addNeed_0 : decode cX1_addNeed 0 = .ok (.aload_n 0, 1) := by decide +kernel
theorem dX1_addNeed_1 : decode cX1_addNeed 1 = .ok (.getfield 27, 3) := by decide +kernel
theorem dX1_addNeed_4 : decode cX1_addNeed 4 = .ok (.bipush 12, 2) := by decide +kernel
theorem dX1_addNeed_6 : decode cX1_addNeed 6 = .ok (.if_icmp .lt 5, 3) := by decide +kernel
theorem dX1_addNeed_9 : decode cX1_addNeed 9 = .ok (.iconst (-1), 1) := by decide +kernel
theorem dX1_addNeed_10 : decode cX1_addNeed 10 = .ok (.ireturn, 1) := by decide +kernel
theorem dX1_addNeed_11 : decode cX1_addNeed 11 = .ok (.aload_n 0, 1) := by decide +kernel
theorem dX1_addNeed_12 : decode cX1_addNeed 12 = .ok (.getfield 9, 3) := by decide +kernel
theorem dX1_addNeed_15 : decode cX1_addNeed 15 = .ok (.aload_n 0, 1) := by decide +kernel
theorem dX1_addNeed_16 : decode cX1_addNeed 16 = .ok (.getfield 27, 3) := by decide +kernel
theorem dX1_addNeed_19 : decode cX1_addNeed 19 = .ok (.iload_n 1, 1) := by decide +kernel
theorem dX1_addNeed_20 : decode cX1_addNeed 20 = .ok (.iastore, 1) := by decide +kernel
theorem dX1_addNeed_21 : decode cX1_addNeed 21 = .ok (.aload_n 0, 1) := by decide +kernel
theorem dX1_addNeed_22 : decode cX1_addNeed 22 = .ok (.dup, 1) := by decide +kernel
theorem dX1_addNeed_23 : decode cX1_addNeed 23 = .ok (.getfield 27, 3) := by decide +kernel
theorem dX1_addNeed_26 : decode cX1_addNeed 26 = .ok (.iconst 1, 1) := by decide +kernel
theorem dX1_addNeed_27 : decode cX1_addNeed 27 = .ok (.iadd, 1) := by decide +kernel
theorem dX1_addNeed_28 : decode cX1_addNeed 28 = .ok (.putfield 27, 3) := by decide +kernel
theorem dX1_addNeed_31 : decode cX1_addNeed 31 = .ok (.aload_n 0, 1) := by decide +kernel
theorem dX1_addNeed_32 : decode cX1_addNeed 32 = .ok (.getfield 27, 3) := by decide +kernel
theorem dX1_addNeed_35 : decode cX1_addNeed 35 = .ok (.ireturn, 1) := by decide +kernel
theorem dX1_keepLeast_0 : decode cX1_keepLeast 0 = .ok (.aload_n 0, 1) := by decide +kernel
theorem dX1_keepLeast_1 : decode cX1_keepLeast 1 = .ok (.aload_n 1, 1) := by decide +kernel
theorem dX1_keepLeast_2 : decode cX1_keepLeast 2 = .ok (.iload_n 2, 1) := by decide +kernel
theorem dX1_keepLeast_3 : decode cX1_keepLeast 3 = .ok (.invokevirtual 31, 3) := by decide +kernel
theorem dX1_keepLeast_6 : decode cX1_keepLeast 6 = .ok (.iconst 0, 1) := by decide +kernel
theorem dX1_keepLeast_7 : decode cX1_keepLeast 7 = .ok (.istore 4, 2) := by decide +kernel
theorem dX1_keepLeast_9 : decode cX1_keepLeast 9 = .ok (.iload 4, 2) := by decide +kernel
theorem dX1_keepLeast_11 : decode cX1_keepLeast 11 = .ok (.aload_n 0, 1) := by decide +kernel
theorem dX1_keepLeast_12 : decode cX1_keepLeast 12 = .ok (.getfield 27, 3) := by decide +kernel
theorem dX1_keepLeast_15 : decode cX1_keepLeast 15 = .ok (.if_icmp .ge 28, 3) := by decide +kernel
theorem dX1_keepLeast_18 : decode cX1_keepLeast 18 = .ok (.aload_n 0, 1) := by decide +kernel
theorem dX1_keepLeast_19 : decode cX1_keepLeast 19 = .ok (.invokevirtual 35, 3) := by decide +kernel
theorem dX1_keepLeast_22 : decode cX1_keepLeast 22 = .ok (.istore 5, 2) := by decide +kernel
theorem dX1_keepLeast_24 : decode cX1_keepLeast 24 = .ok (.iload 5, 2) := by decide +kernel
theorem dX1_keepLeast_26 : decode cX1_keepLeast 26 = .ok (.iconst (-1), 1) := by decide +kernel
theorem dX1_keepLeast_27 : decode cX1_keepLeast 27 = .ok (.if_icmp .eq 10, 3) := by decide +kernel
theorem dX1_keepLeast_30 : decode cX1_keepLeast 30 = .ok (.aload_n 0, 1) := by decide +kernel
theorem dX1_keepLeast_31 : decode cX1_keepLeast 31 = .ok (.iload 5, 2) := by decide +kernel
theorem dX1_keepLeast_33 : decode cX1_keepLeast 33 = .ok (.iload_n 3, 1) := by decide +kernel
theorem dX1_keepLeast_34 : decode cX1_keepLeast 34 = .ok (.invokevirtual 39, 3) := by decide +kernel
theorem dX1_keepLeast_37 : decode cX1_keepLeast 37 = .ok (.iinc 4 1, 3) := by decide +kernel
theorem dX1_keepLeast_40 : decode cX1_keepLeast 40 = .ok (.goto (-31), 3) := by decide +kernel
theorem dX1_keepLeast_43 : decode cX1_keepLeast 43 = .ok (.aload_n 0, 1) := by decide +kernel
theorem dX1_keepLeast_44 : decode cX1_keepLeast 44 = .ok (.getfield 27, 3) := by decide +kernel
theorem dX1_keepLeast_47 : decode cX1_keepLeast 47 = .ok (.ifCond .le 15, 3) := by decide +kernel
theorem dX1_keepLeast_50 : decode cX1_keepLeast 50 = .ok (.aload_n 0, 1) := by decide +kernel
theorem dX1_keepLeast_51 : decode cX1_keepLeast 51 = .ok (.getfield 18, 3) := by decide +kernel
theorem dX1_keepLeast_54 : decode cX1_keepLeast 54 = .ok (.iconst 0, 1) := by decide +kernel
theorem dX1_keepLeast_55 : decode cX1_keepLeast 55 = .ok (.iaload, 1) := by decide +kernel
theorem dX1_keepLeast_56 : decode cX1_keepLeast 56 = .ok (.ifCond .le 6, 3) := by decide +kernel
theorem dX1_keepLeast_59 : decode cX1_keepLeast 59 = .ok (.bipush (-2), 2) := by decide +kernel
theorem dX1_keepLeast_61 : decode cX1_keepLeast 61 = .ok (.ireturn, 1) := by decide +kernel
theorem dX1_keepLeast_62 : decode cX1_keepLeast 62 = .ok (.aload_n 0, 1) := by decide +kernel
theorem dX1_keepLeast_63 : decode cX1_keepLeast 63 = .ok (.invokevirtual 43, 3) := by decide +kernel
theorem dX1_keepLeast_66 : decode cX1_keepLeast 66 = .ok (.ireturn, 1) := by decide +kernel
theorem dX1_begin_0 : decode cX1_begin 0 = .ok (.iconst 0, 1) := by decide +kernel
theorem dX1_begin_1 : decode cX1_begin 1 = .ok (.istore_n 3, 1) := by decide +kernel
theorem dX1_begin_2 : decode cX1_begin 2 = .ok (.aload_n 0, 1) := by decide +kernel
theorem dX1_begin_3 : decode cX1_begin 3 = .ok (.getfield 27, 3) := by decide +kernel
theorem dX1_begin_6 : decode cX1_begin 6 = .ok (.iconst 1, 1) := by decide +kernel
theorem dX1_begin_7 : decode cX1_begin 7 = .ok (.isub, 1) := by decide +kernel
theorem dX1_begin_8 : decode cX1_begin 8 = .ok (.istore 4, 2) := by decide +kernel
theorem dX1_begin_10 : decode cX1_begin 10 = .ok (.iload 4, 2) := by decide +kernel
theorem dX1_begin_12 : decode cX1_begin 12 = .ok (.ifCond .lt 53, 3) := by decide +kernel
theorem dX1_begin_15 : decode cX1_begin 15 = .ok (.iload_n 3, 1) := by decide +kernel
theorem dX1_begin_16 : decode cX1_begin 16 = .ok (.aload_n 0, 1) := by decide +kernel
theorem dX1_begin_17 : decode cX1_begin 17 = .ok (.getfield 9, 3) := by decide +kernel
theorem dX1_begin_20 : decode cX1_begin 20 = .ok (.iload 4, 2) := by decide +kernel
theorem dX1_begin_22 : decode cX1_begin 22 = .ok (.iaload, 1) := by decide +kernel
theorem dX1_begin_23 : decode cX1_begin 23 = .ok (.iadd, 1) := by decide +kernel
theorem dX1_begin_24 : decode cX1_begin 24 = .ok (.istore_n 3, 1) := by decide +kernel
theorem dX1_begin_25 : decode cX1_begin 25 = .ok (.aload_n 0, 1) := by decide +kernel
theorem dX1_begin_26 : decode cX1_begin 26 = .ok (.getfield 18, 3) := by decide +kernel
theorem dX1_begin_29 : decode cX1_begin 29 = .ok (.iload 4, 2) := by decide +kernel
theorem dX1_begin_31 : decode cX1_begin 31 = .ok (.iload_n 3, 1) := by decide +kernel
theorem dX1_begin_32 : decode cX1_begin 32 = .ok (.iastore, 1) := by decide +kernel
theorem dX1_begin_33 : decode cX1_begin 33 = .ok (.aload_n 0, 1) := by decide +kernel
theorem dX1_begin_34 : decode cX1_begin 34 = .ok (.getfield 15, 3) := by decide +kernel
theorem dX1_begin_37 : decode cX1_begin 37 = .ok (.iload 4, 2) := by decide +kernel
theorem dX1_begin_39 : decode cX1_begin 39 = .ok (.iconst (-1), 1) := by decide +kernel
theorem dX1_begin_40 : decode cX1_begin 40 = .ok (.iastore, 1) := by decide +kernel
theorem dX1_begin_41 : decode cX1_begin 41 = .ok (.aload_n 0, 1) := by decide +kernel
theorem dX1_begin_42 : decode cX1_begin 42 = .ok (.getfield 21, 3) := by decide +kernel
theorem dX1_begin_45 : decode cX1_begin 45 = .ok (.iload 4, 2) := by decide +kernel
theorem dX1_begin_47 : decode cX1_begin 47 = .ok (.aload_n 1, 1) := by decide +kernel
theorem dX1_begin_48 : decode cX1_begin 48 = .ok (.iload_n 2, 1) := by decide +kernel
theorem dX1_begin_49 : decode cX1_begin 49 = .ok (.iload 4, 2) := by decide +kernel
theorem dX1_begin_51 : decode cX1_begin 51 = .ok (.iadd, 1) := by decide +kernel
theorem dX1_begin_52 : decode cX1_begin 52 = .ok (.bipush 24, 2) := by decide +kernel
theorem dX1_begin_54 : decode cX1_begin 54 = .ok (.invokestatic 46, 3) := by decide +kernel
theorem dX1_begin_57 : decode cX1_begin 57 = .ok (.iaload, 1) := by decide +kernel
theorem dX1_begin_58 : decode cX1_begin 58 = .ok (.iastore, 1) := by decide +kernel
theorem dX1_begin_59 : decode cX1_begin 59 = .ok (.iinc 4 (-1), 3) := by decide +kernel
theorem dX1_begin_62 : decode cX1_begin 62 = .ok (.goto (-52), 3) := by decide +kernel
theorem dX1_begin_65 : decode cX1_begin 65 = .ok (.return_, 1) := by decide +kernel
theorem dX1_cheapestUnfilled_0 : decode cX1_cheapestUnfilled 0 = .ok (.iconst (-1), 1) := by decide +kernel
theorem dX1_cheapestUnfilled_1 : decode cX1_cheapestUnfilled 1 = .ok (.istore_n 1, 1) := by decide +kernel
theorem dX1_cheapestUnfilled_2 : decode cX1_cheapestUnfilled 2 = .ok (.iconst 0, 1) := by decide +kernel
theorem dX1_cheapestUnfilled_3 : decode cX1_cheapestUnfilled 3 = .ok (.istore_n 2, 1) := by decide +kernel
theorem dX1_cheapestUnfilled_4 : decode cX1_cheapestUnfilled 4 = .ok (.iload_n 2, 1) := by decide +kernel
theorem dX1_cheapestUnfilled_5 : decode cX1_cheapestUnfilled 5 = .ok (.aload_n 0, 1) := by decide +kernel
theorem dX1_cheapestUnfilled_6 : decode cX1_cheapestUnfilled 6 = .ok (.getfield 27, 3) := by decide +kernel
theorem dX1_cheapestUnfilled_9 : decode cX1_cheapestUnfilled 9 = .ok (.if_icmp .ge 41, 3) := by decide +kernel
theorem dX1_cheapestUnfilled_12 : decode cX1_cheapestUnfilled 12 = .ok (.aload_n 0, 1) := by decide +kernel
theorem dX1_cheapestUnfilled_13 : decode cX1_cheapestUnfilled 13 = .ok (.getfield 15, 3) := by decide +kernel
theorem dX1_cheapestUnfilled_16 : decode cX1_cheapestUnfilled 16 = .ok (.iload_n 2, 1) := by decide +kernel
theorem dX1_cheapestUnfilled_17 : decode cX1_cheapestUnfilled 17 = .ok (.iaload, 1) := by decide +kernel
theorem dX1_cheapestUnfilled_18 : decode cX1_cheapestUnfilled 18 = .ok (.iconst (-1), 1) := by decide +kernel
theorem dX1_cheapestUnfilled_19 : decode cX1_cheapestUnfilled 19 = .ok (.if_icmp .ne 25, 3) := by decide +kernel
theorem dX1_cheapestUnfilled_22 : decode cX1_cheapestUnfilled 22 = .ok (.iload_n 1, 1) := by decide +kernel
theorem dX1_cheapestUnfilled_23 : decode cX1_cheapestUnfilled 23 = .ok (.iconst (-1), 1) := by decide +kernel
theorem dX1_cheapestUnfilled_24 : decode cX1_cheapestUnfilled 24 = .ok (.if_icmp .eq 18, 3) := by decide +kernel
theorem dX1_cheapestUnfilled_27 : decode cX1_cheapestUnfilled 27 = .ok (.aload_n 0, 1) := by decide +kernel
theorem dX1_cheapestUnfilled_28 : decode cX1_cheapestUnfilled 28 = .ok (.getfield 21, 3) := by decide +kernel
theorem dX1_cheapestUnfilled_31 : decode cX1_cheapestUnfilled 31 = .ok (.iload_n 2, 1) := by decide +kernel
theorem dX1_cheapestUnfilled_32 : decode cX1_cheapestUnfilled 32 = .ok (.iaload, 1) := by decide +kernel
theorem dX1_cheapestUnfilled_33 : decode cX1_cheapestUnfilled 33 = .ok (.aload_n 0, 1) := by decide +kernel
theorem dX1_cheapestUnfilled_34 : decode cX1_cheapestUnfilled 34 = .ok (.getfield 21, 3) := by decide +kernel
theorem dX1_cheapestUnfilled_37 : decode cX1_cheapestUnfilled 37 = .ok (.iload_n 1, 1) := by decide +kernel
theorem dX1_cheapestUnfilled_38 : decode cX1_cheapestUnfilled 38 = .ok (.iaload, 1) := by decide +kernel
theorem dX1_cheapestUnfilled_39 : decode cX1_cheapestUnfilled 39 = .ok (.if_icmp .ge 5, 3) := by decide +kernel
theorem dX1_cheapestUnfilled_42 : decode cX1_cheapestUnfilled 42 = .ok (.iload_n 2, 1) := by decide +kernel
theorem dX1_cheapestUnfilled_43 : decode cX1_cheapestUnfilled 43 = .ok (.istore_n 1, 1) := by decide +kernel
theorem dX1_cheapestUnfilled_44 : decode cX1_cheapestUnfilled 44 = .ok (.iinc 2 1, 3) := by decide +kernel
theorem dX1_cheapestUnfilled_47 : decode cX1_cheapestUnfilled 47 = .ok (.goto (-43), 3) := by decide +kernel
theorem dX1_cheapestUnfilled_50 : decode cX1_cheapestUnfilled 50 = .ok (.iload_n 1, 1) := by decide +kernel
theorem dX1_cheapestUnfilled_51 : decode cX1_cheapestUnfilled 51 = .ok (.ireturn, 1) := by decide +kernel
theorem dX1_fill_0 : decode cX1_fill 0 = .ok (.iload_n 2, 1) := by decide +kernel
theorem dX1_fill_1 : decode cX1_fill 1 = .ok (.istore_n 3, 1) := by decide +kernel
theorem dX1_fill_2 : decode cX1_fill 2 = .ok (.iconst 0, 1) := by decide +kernel
theorem dX1_fill_3 : decode cX1_fill 3 = .ok (.istore 4, 2) := by decide +kernel
theorem dX1_fill_5 : decode cX1_fill 5 = .ok (.iload 4, 2) := by decide +kernel
theorem dX1_fill_7 : decode cX1_fill 7 = .ok (.iload_n 1, 1) := by decide +kernel
theorem dX1_fill_8 : decode cX1_fill 8 = .ok (.if_icmp .gt 21, 3) := by decide +kernel
theorem dX1_fill_11 : decode cX1_fill 11 = .ok (.iload_n 3, 1) := by decide +kernel
theorem dX1_fill_12 : decode cX1_fill 12 = .ok (.aload_n 0, 1) := by decide +kernel
theorem dX1_fill_13 : decode cX1_fill 13 = .ok (.getfield 18, 3) := by decide +kernel
theorem dX1_fill_16 : decode cX1_fill 16 = .ok (.iload 4, 2) := by decide +kernel
theorem dX1_fill_18 : decode cX1_fill 18 = .ok (.iaload, 1) := by decide +kernel
theorem dX1_fill_19 : decode cX1_fill 19 = .ok (.invokestatic 52, 3) := by decide +kernel
theorem dX1_fill_22 : decode cX1_fill 22 = .ok (.istore_n 3, 1) := by decide +kernel
theorem dX1_fill_23 : decode cX1_fill 23 = .ok (.iinc 4 1, 3) := by decide +kernel
theorem dX1_fill_26 : decode cX1_fill 26 = .ok (.goto (-21), 3) := by decide +kernel
theorem dX1_fill_29 : decode cX1_fill 29 = .ok (.iconst 0, 1) := by decide +kernel
theorem dX1_fill_30 : decode cX1_fill 30 = .ok (.istore 4, 2) := by decide +kernel
theorem dX1_fill_32 : decode cX1_fill 32 = .ok (.iload 4, 2) := by decide +kernel
theorem dX1_fill_34 : decode cX1_fill 34 = .ok (.iload_n 1, 1) := by decide +kernel
theorem dX1_fill_35 : decode cX1_fill 35 = .ok (.if_icmp .gt 20, 3) := by decide +kernel
theorem dX1_fill_38 : decode cX1_fill 38 = .ok (.aload_n 0, 1) := by decide +kernel
theorem dX1_fill_39 : decode cX1_fill 39 = .ok (.getfield 18, 3) := by decide +kernel
theorem dX1_fill_42 : decode cX1_fill 42 = .ok (.iload 4, 2) := by decide +kernel
theorem dX1_fill_44 : decode cX1_fill 44 = .ok (.dup2, 1) := by decide +kernel
theorem dX1_fill_45 : decode cX1_fill 45 = .ok (.iaload, 1) := by decide +kernel
theorem dX1_fill_46 : decode cX1_fill 46 = .ok (.iload_n 3, 1) := by decide +kernel
theorem dX1_fill_47 : decode cX1_fill 47 = .ok (.isub, 1) := by decide +kernel
theorem dX1_fill_48 : decode cX1_fill 48 = .ok (.iastore, 1) := by decide +kernel
theorem dX1_fill_49 : decode cX1_fill 49 = .ok (.iinc 4 1, 3) := by decide +kernel
theorem dX1_fill_52 : decode cX1_fill 52 = .ok (.goto (-20), 3) := by decide +kernel
theorem dX1_fill_55 : decode cX1_fill 55 = .ok (.aload_n 0, 1) := by decide +kernel
theorem dX1_fill_56 : decode cX1_fill 56 = .ok (.getfield 15, 3) := by decide +kernel
theorem dX1_fill_59 : decode cX1_fill 59 = .ok (.iload_n 1, 1) := by decide +kernel
theorem dX1_fill_60 : decode cX1_fill 60 = .ok (.iload_n 3, 1) := by decide +kernel
theorem dX1_fill_61 : decode cX1_fill 61 = .ok (.iastore, 1) := by decide +kernel
theorem dX1_fill_62 : decode cX1_fill 62 = .ok (.return_, 1) := by decide +kernel
theorem dX1_keepDraft_0 : decode cX1_keepDraft 0 = .ok (.iconst 0, 1) := by decide +kernel
theorem dX1_keepDraft_1 : decode cX1_keepDraft 1 = .ok (.istore_n 1, 1) := by decide +kernel
theorem dX1_keepDraft_2 : decode cX1_keepDraft 2 = .ok (.iconst 0, 1) := by decide +kernel
theorem dX1_keepDraft_3 : decode cX1_keepDraft 3 = .ok (.istore_n 2, 1) := by decide +kernel
theorem dX1_keepDraft_4 : decode cX1_keepDraft 4 = .ok (.iload_n 2, 1) := by decide +kernel
theorem dX1_keepDraft_5 : decode cX1_keepDraft 5 = .ok (.aload_n 0, 1) := by decide +kernel
theorem dX1_keepDraft_6 : decode cX1_keepDraft 6 = .ok (.getfield 27, 3) := by decide +kernel
theorem dX1_keepDraft_9 : decode cX1_keepDraft 9 = .ok (.if_icmp .ge 37, 3) := by decide +kernel
theorem dX1_keepDraft_12 : decode cX1_keepDraft 12 = .ok (.aload_n 0, 1) := by decide +kernel
theorem dX1_keepDraft_13 : decode cX1_keepDraft 13 = .ok (.getfield 24, 3) := by decide +kernel
theorem dX1_keepDraft_16 : decode cX1_keepDraft 16 = .ok (.iload_n 2, 1) := by decide +kernel
theorem dX1_keepDraft_17 : decode cX1_keepDraft 17 = .ok (.aload_n 0, 1) := by decide +kernel
theorem dX1_keepDraft_18 : decode cX1_keepDraft 18 = .ok (.getfield 15, 3) := by decide +kernel
theorem dX1_keepDraft_21 : decode cX1_keepDraft 21 = .ok (.iload_n 2, 1) := by decide +kernel
theorem dX1_keepDraft_22 : decode cX1_keepDraft 22 = .ok (.iaload, 1) := by decide +kernel
theorem dX1_keepDraft_23 : decode cX1_keepDraft 23 = .ok (.iastore, 1) := by decide +kernel
theorem dX1_keepDraft_24 : decode cX1_keepDraft 24 = .ok (.iload_n 1, 1) := by decide +kernel
theorem dX1_keepDraft_25 : decode cX1_keepDraft 25 = .ok (.aload_n 0, 1) := by decide +kernel
theorem dX1_keepDraft_26 : decode cX1_keepDraft 26 = .ok (.getfield 15, 3) := by decide +kernel
theorem dX1_keepDraft_29 : decode cX1_keepDraft 29 = .ok (.iload_n 2, 1) := by decide +kernel
theorem dX1_keepDraft_30 : decode cX1_keepDraft 30 = .ok (.iaload, 1) := by decide +kernel
theorem dX1_keepDraft_31 : decode cX1_keepDraft 31 = .ok (.aload_n 0, 1) := by decide +kernel
theorem dX1_keepDraft_32 : decode cX1_keepDraft 32 = .ok (.getfield 21, 3) := by decide +kernel
theorem dX1_keepDraft_35 : decode cX1_keepDraft 35 = .ok (.iload_n 2, 1) := by decide +kernel
theorem dX1_keepDraft_36 : decode cX1_keepDraft 36 = .ok (.iaload, 1) := by decide +kernel
theorem dX1_keepDraft_37 : decode cX1_keepDraft 37 = .ok (.imul, 1) := by decide +kernel
theorem dX1_keepDraft_38 : decode cX1_keepDraft 38 = .ok (.iadd, 1) := by decide +kernel
theorem dX1_keepDraft_39 : decode cX1_keepDraft 39 = .ok (.istore_n 1, 1) := by decide +kernel
theorem dX1_keepDraft_40 : decode cX1_keepDraft 40 = .ok (.iinc 2 1, 3) := by decide +kernel
theorem dX1_keepDraft_43 : decode cX1_keepDraft 43 = .ok (.goto (-39), 3) := by decide +kernel
theorem dX1_keepDraft_46 : decode cX1_keepDraft 46 = .ok (.aload_n 0, 1) := by decide +kernel
theorem dX1_keepDraft_47 : decode cX1_keepDraft 47 = .ok (.aload_n 0, 1) := by decide +kernel
theorem dX1_keepDraft_48 : decode cX1_keepDraft 48 = .ok (.getfield 27, 3) := by decide +kernel
theorem dX1_keepDraft_51 : decode cX1_keepDraft 51 = .ok (.putfield 55, 3) := by decide +kernel
theorem dX1_keepDraft_54 : decode cX1_keepDraft 54 = .ok (.iload_n 1, 1) := by decide +kernel
theorem dX1_keepDraft_55 : decode cX1_keepDraft 55 = .ok (.ireturn, 1) := by decide +kernel
