theorem dX5_init_0 : decode cX5_init 0 = .ok (.aload_n 0, 1) := by decide +kernel
theorem dX5_init_1 : decode cX5_init 1 = .ok (.invokespecial 3, 3) := by decide +kernel
theorem dX5_init_4 : decode cX5_init 4 = .ok (.aload_n 0, 1) := by decide +kernel
theorem dX5_init_5 : decode cX5_init 5 = .ok (.bipush 6, 2) := by decide +kernel
theorem dX5_init_7 : decode cX5_init 7 = .ok (.newarray .int, 2) := by decide +kernel
theorem dX5_init_9 : decode cX5_init 9 = .ok (.putfield 9, 3) := by decide +kernel
theorem dX5_init_12 : decode cX5_init 12 = .ok (.aload_n 0, 1) := by decide +kernel
theorem dX5_init_13 : decode cX5_init 13 = .ok (.bipush 6, 2) := by decide +kernel
theorem dX5_init_15 : decode cX5_init 15 = .ok (.newarray .boolean, 2) := by decide +kernel
theorem dX5_init_17 : decode cX5_init 17 = .ok (.putfield 15, 3) := by decide +kernel
theorem dX5_init_20 : decode cX5_init 20 = .ok (.aload_n 0, 1) := by decide +kernel
theorem dX5_init_21 : decode cX5_init 21 = .ok (.bipush 6, 2) := by decide +kernel
theorem dX5_init_23 : decode cX5_init 23 = .ok (.newarray .int, 2) := by decide +kernel
theorem dX5_init_25 : decode cX5_init 25 = .ok (.putfield 19, 3) := by decide +kernel
theorem dX5_init_28 : decode cX5_init 28 = .ok (.aload_n 0, 1) := by decide +kernel
theorem dX5_init_29 : decode cX5_init 29 = .ok (.bipush 6, 2) := by decide +kernel
theorem dX5_init_31 : decode cX5_init 31 = .ok (.newarray .int, 2) := by decide +kernel
theorem dX5_init_33 : decode cX5_init 33 = .ok (.putfield 22, 3) := by decide +kernel
theorem dX5_init_36 : decode cX5_init 36 = .ok (.return_, 1) := by decide +kernel
theorem dX5_begin_0 : decode cX5_begin 0 = .ok (.aload_n 0, 1) := by decide +kernel
theorem dX5_begin_1 : decode cX5_begin 1 = .ok (.iload_n 1, 1) := by decide +kernel
theorem dX5_begin_2 : decode cX5_begin 2 = .ok (.putfield 25, 3) := by decide +kernel
theorem dX5_begin_5 : decode cX5_begin 5 = .ok (.aload_n 0, 1) := by decide +kernel
theorem dX5_begin_6 : decode cX5_begin 6 = .ok (.iconst 0, 1) := by decide +kernel
theorem dX5_begin_7 : decode cX5_begin 7 = .ok (.putfield 29, 3) := by decide +kernel
theorem dX5_begin_10 : decode cX5_begin 10 = .ok (.aload_n 0, 1) := by decide +kernel
theorem dX5_begin_11 : decode cX5_begin 11 = .ok (.bipush (-2), 2) := by decide +kernel
theorem dX5_begin_13 : decode cX5_begin 13 = .ok (.putfield 32, 3) := by decide +kernel
theorem dX5_begin_16 : decode cX5_begin 16 = .ok (.return_, 1) := by decide +kernel
theorem dX5_addSurplus_0 : decode cX5_addSurplus 0 = .ok (.aload_n 0, 1) := by decide +kernel
theorem dX5_addSurplus_1 : decode cX5_addSurplus 1 = .ok (.getfield 9, 3) := by decide +kernel
theorem dX5_addSurplus_4 : decode cX5_addSurplus 4 = .ok (.iload_n 1, 1) := by decide +kernel
theorem dX5_addSurplus_5 : decode cX5_addSurplus 5 = .ok (.iload_n 2, 1) := by decide +kernel
theorem dX5_addSurplus_6 : decode cX5_addSurplus 6 = .ok (.iastore, 1) := by decide +kernel
theorem dX5_addSurplus_7 : decode cX5_addSurplus 7 = .ok (.iload_n 2, 1) := by decide +kernel
theorem dX5_addSurplus_8 : decode cX5_addSurplus 8 = .ok (.ifCond .eq 13, 3) := by decide +kernel
theorem dX5_addSurplus_11 : decode cX5_addSurplus 11 = .ok (.aload_n 0, 1) := by decide +kernel
theorem dX5_addSurplus_12 : decode cX5_addSurplus 12 = .ok (.dup, 1) := by decide +kernel
theorem dX5_addSurplus_13 : decode cX5_addSurplus 13 = .ok (.getfield 29, 3) := by decide +kernel
theorem dX5_addSurplus_16 : decode cX5_addSurplus 16 = .ok (.iconst 1, 1) := by decide +kernel
theorem dX5_addSurplus_17 : decode cX5_addSurplus 17 = .ok (.iadd, 1) := by decide +kernel
theorem dX5_addSurplus_18 : decode cX5_addSurplus 18 = .ok (.putfield 29, 3) := by decide +kernel
theorem dX5_addSurplus_21 : decode cX5_addSurplus 21 = .ok (.return_, 1) := by decide +kernel
theorem dX5_keepShortest_0 : decode cX5_keepShortest 0 = .ok (.aload_n 0, 1) := by decide +kernel
theorem dX5_keepShortest_1 : decode cX5_keepShortest 1 = .ok (.aload_n 1, 1) := by decide +kernel
theorem dX5_keepShortest_2 : decode cX5_keepShortest 2 = .ok (.iconst 0, 1) := by decide +kernel
theorem dX5_keepShortest_3 : decode cX5_keepShortest 3 = .ok (.iconst 0, 1) := by decide +kernel
theorem dX5_keepShortest_4 : decode cX5_keepShortest 4 = .ok (.iconst 0, 1) := by decide +kernel
theorem dX5_keepShortest_5 : decode cX5_keepShortest 5 = .ok (.iconst 0, 1) := by decide +kernel
theorem dX5_keepShortest_6 : decode cX5_keepShortest 6 = .ok (.iconst 0, 1) := by decide +kernel
theorem dX5_keepShortest_7 : decode cX5_keepShortest 7 = .ok (.invokevirtual 35, 3) := by decide +kernel
theorem dX5_keepShortest_10 : decode cX5_keepShortest 10 = .ok (.aload_n 0, 1) := by decide +kernel
theorem dX5_keepShortest_11 : decode cX5_keepShortest 11 = .ok (.getfield 32, 3) := by decide +kernel
theorem dX5_keepShortest_14 : decode cX5_keepShortest 14 = .ok (.ireturn, 1) := by decide +kernel
theorem dX5_extend_0 : decode cX5_extend 0 = .ok (.iload 6, 2) := by decide +kernel
theorem dX5_extend_2 : decode cX5_extend 2 = .ok (.iload_n 3, 1) := by decide +kernel
theorem dX5_extend_3 : decode cX5_extend 3 = .ok (.iadd, 1) := by decide +kernel
theorem dX5_extend_4 : decode cX5_extend 4 = .ok (.iload 4, 2) := by decide +kernel
theorem dX5_extend_6 : decode cX5_extend 6 = .ok (.iadd, 1) := by decide +kernel
theorem dX5_extend_7 : decode cX5_extend 7 = .ok (.istore 7, 2) := by decide +kernel
theorem dX5_extend_9 : decode cX5_extend 9 = .ok (.aload_n 0, 1) := by decide +kernel
theorem dX5_extend_10 : decode cX5_extend 10 = .ok (.getfield 32, 3) := by decide +kernel
theorem dX5_extend_13 : decode cX5_extend 13 = .ok (.bipush (-2), 2) := by decide +kernel
theorem dX5_extend_15 : decode cX5_extend 15 = .ok (.if_icmp .eq 13, 3) := by decide +kernel
theorem dX5_extend_18 : decode cX5_extend 18 = .ok (.iload 7, 2) := by decide +kernel
theorem dX5_extend_20 : decode cX5_extend 20 = .ok (.aload_n 0, 1) := by decide +kernel
theorem dX5_extend_21 : decode cX5_extend 21 = .ok (.getfield 32, 3) := by decide +kernel
theorem dX5_extend_24 : decode cX5_extend 24 = .ok (.if_icmp .lt 4, 3) := by decide +kernel
theorem dX5_extend_27 : decode cX5_extend 27 = .ok (.return_, 1) := by decide +kernel
theorem dX5_extend_28 : decode cX5_extend 28 = .ok (.iload_n 2, 1) := by decide +kernel
theorem dX5_extend_29 : decode cX5_extend 29 = .ok (.aload_n 0, 1) := by decide +kernel
theorem dX5_extend_30 : decode cX5_extend 30 = .ok (.getfield 29, 3) := by decide +kernel
theorem dX5_extend_33 : decode cX5_extend 33 = .ok (.if_icmp .lt 10, 3) := by decide +kernel
theorem dX5_extend_36 : decode cX5_extend 36 = .ok (.aload_n 0, 1) := by decide +kernel
theorem dX5_extend_37 : decode cX5_extend 37 = .ok (.iload 7, 2) := by decide +kernel
theorem dX5_extend_39 : decode cX5_extend 39 = .ok (.invokevirtual 39, 3) := by decide +kernel
theorem dX5_extend_42 : decode cX5_extend 42 = .ok (.return_, 1) := by decide +kernel
theorem dX5_extend_43 : decode cX5_extend 43 = .ok (.iconst 0, 1) := by decide +kernel
theorem dX5_extend_44 : decode cX5_extend 44 = .ok (.istore 8, 2) := by decide +kernel
theorem dX5_extend_46 : decode cX5_extend 46 = .ok (.iload 8, 2) := by decide +kernel
theorem dX5_extend_48 : decode cX5_extend 48 = .ok (.aload_n 1, 1) := by decide +kernel
theorem dX5_extend_49 : decode cX5_extend 49 = .ok (.getfield 43, 3) := by decide +kernel
theorem dX5_extend_52 : decode cX5_extend 52 = .ok (.if_icmp .ge 118, 3) := by decide +kernel
theorem dX5_extend_55 : decode cX5_extend 55 = .ok (.iload 5, 2) := by decide +kernel
theorem dX5_extend_57 : decode cX5_extend 57 = .ok (.aload_n 0, 1) := by decide +kernel
theorem dX5_extend_58 : decode cX5_extend 58 = .ok (.getfield 9, 3) := by decide +kernel
theorem dX5_extend_61 : decode cX5_extend 61 = .ok (.iload 8, 2) := by decide +kernel
theorem dX5_extend_63 : decode cX5_extend 63 = .ok (.iaload, 1) := by decide +kernel
theorem dX5_extend_64 : decode cX5_extend 64 = .ok (.iadd, 1) := by decide +kernel
theorem dX5_extend_65 : decode cX5_extend 65 = .ok (.istore 9, 2) := by decide +kernel
theorem dX5_extend_67 : decode cX5_extend 67 = .ok (.aload_n 0, 1) := by decide +kernel
theorem dX5_extend_68 : decode cX5_extend 68 = .ok (.getfield 9, 3) := by decide +kernel
theorem dX5_extend_71 : decode cX5_extend 71 = .ok (.iload 8, 2) := by decide +kernel
theorem dX5_extend_73 : decode cX5_extend 73 = .ok (.iaload, 1) := by decide +kernel
theorem dX5_extend_74 : decode cX5_extend 74 = .ok (.ifCond .eq 90, 3) := by decide +kernel
theorem dX5_extend_77 : decode cX5_extend 77 = .ok (.aload_n 0, 1) := by decide +kernel
theorem dX5_extend_78 : decode cX5_extend 78 = .ok (.getfield 15, 3) := by decide +kernel
theorem dX5_extend_81 : decode cX5_extend 81 = .ok (.iload 8, 2) := by decide +kernel
theorem dX5_extend_83 : decode cX5_extend 83 = .ok (.baload, 1) := by decide +kernel
theorem dX5_extend_84 : decode cX5_extend 84 = .ok (.ifCond .ne 80, 3) := by decide +kernel
theorem dX5_extend_87 : decode cX5_extend 87 = .ok (.iload 9, 2) := by decide +kernel
theorem dX5_extend_89 : decode cX5_extend 89 = .ok (.iconst 0, 1) := by decide +kernel
theorem dX5_extend_90 : decode cX5_extend 90 = .ok (.aload_n 0, 1) := by decide +kernel
theorem dX5_extend_91 : decode cX5_extend 91 = .ok (.getfield 25, 3) := by decide +kernel
theorem dX5_extend_94 : decode cX5_extend 94 = .ok (.invokestatic 48, 3) := by decide +kernel
theorem dX5_extend_97 : decode cX5_extend 97 = .ok (.ifCond .eq 67, 3) := by decide +kernel
theorem dX5_extend_100 : decode cX5_extend 100 = .ok (.aload_n 0, 1) := by decide +kernel
theorem dX5_extend_101 : decode cX5_extend 101 = .ok (.getfield 15, 3) := by decide +kernel
theorem dX5_extend_104 : decode cX5_extend 104 = .ok (.iload 8, 2) := by decide +kernel
theorem dX5_extend_106 : decode cX5_extend 106 = .ok (.iconst 1, 1) := by decide +kernel
theorem dX5_extend_107 : decode cX5_extend 107 = .ok (.bastore, 1) := by decide +kernel
theorem dX5_extend_108 : decode cX5_extend 108 = .ok (.aload_n 0, 1) := by decide +kernel
theorem dX5_extend_109 : decode cX5_extend 109 = .ok (.getfield 19, 3) := by decide +kernel
theorem dX5_extend_112 : decode cX5_extend 112 = .ok (.iload_n 2, 1) := by decide +kernel
theorem dX5_extend_113 : decode cX5_extend 113 = .ok (.iload 8, 2) := by decide +kernel
theorem dX5_extend_115 : decode cX5_extend 115 = .ok (.iastore, 1) := by decide +kernel
theorem dX5_extend_116 : decode cX5_extend 116 = .ok (.iload 6, 2) := by decide +kernel
theorem dX5_extend_118 : decode cX5_extend 118 = .ok (.aload_n 1, 1) := by decide +kernel
theorem dX5_extend_119 : decode cX5_extend 119 = .ok (.iload 8, 2) := by decide +kernel
theorem dX5_extend_121 : decode cX5_extend 121 = .ok (.iload_n 3, 1) := by decide +kernel
theorem dX5_extend_122 : decode cX5_extend 122 = .ok (.iload 4, 2) := by decide +kernel
theorem dX5_extend_124 : decode cX5_extend 124 = .ok (.invokevirtual 52, 3) := by decide +kernel
theorem dX5_extend_127 : decode cX5_extend 127 = .ok (.iadd, 1) := by decide +kernel
theorem dX5_extend_128 : decode cX5_extend 128 = .ok (.istore 10, 2) := by decide +kernel
theorem dX5_extend_130 : decode cX5_extend 130 = .ok (.aload_n 0, 1) := by decide +kernel
theorem dX5_extend_131 : decode cX5_extend 131 = .ok (.aload_n 1, 1) := by decide +kernel
theorem dX5_extend_132 : decode cX5_extend 132 = .ok (.iload_n 2, 1) := by decide +kernel
theorem dX5_extend_133 : decode cX5_extend 133 = .ok (.iconst 1, 1) := by decide +kernel
theorem dX5_extend_134 : decode cX5_extend 134 = .ok (.iadd, 1) := by decide +kernel
theorem dX5_extend_135 : decode cX5_extend 135 = .ok (.aload_n 1, 1) := by decide +kernel
theorem dX5_extend_136 : decode cX5_extend 136 = .ok (.getfield 56, 3) := by decide +kernel
theorem dX5_extend_139 : decode cX5_extend 139 = .ok (.iload 8, 2) := by decide +kernel
theorem dX5_extend_141 : decode cX5_extend 141 = .ok (.iaload, 1) := by decide +kernel
theorem dX5_extend_142 : decode cX5_extend 142 = .ok (.aload_n 1, 1) := by decide +kernel
theorem dX5_extend_143 : decode cX5_extend 143 = .ok (.getfield 59, 3) := by decide +kernel
theorem dX5_extend_146 : decode cX5_extend 146 = .ok (.iload 8, 2) := by decide +kernel
theorem dX5_extend_148 : decode cX5_extend 148 = .ok (.iaload, 1) := by decide +kernel
theorem dX5_extend_149 : decode cX5_extend 149 = .ok (.iload 9, 2) := by decide +kernel
theorem dX5_extend_151 : decode cX5_extend 151 = .ok (.iload 10, 2) := by decide +kernel
theorem dX5_extend_153 : decode cX5_extend 153 = .ok (.invokevirtual 35, 3) := by decide +kernel
theorem dX5_extend_156 : decode cX5_extend 156 = .ok (.aload_n 0, 1) := by decide +kernel
theorem dX5_extend_157 : decode cX5_extend 157 = .ok (.getfield 15, 3) := by decide +kernel
theorem dX5_extend_160 : decode cX5_extend 160 = .ok (.iload 8, 2) := by decide +kernel
theorem dX5_extend_162 : decode cX5_extend 162 = .ok (.iconst 0, 1) := by decide +kernel
theorem dX5_extend_163 : decode cX5_extend 163 = .ok (.bastore, 1) := by decide +kernel
theorem dX5_extend_164 : decode cX5_extend 164 = .ok (.iinc 8 1, 3) := by decide +kernel
theorem dX5_extend_167 : decode cX5_extend 167 = .ok (.goto (-121), 3) := by decide +kernel
theorem dX5_extend_170 : decode cX5_extend 170 = .ok (.return_, 1) := by decide +kernel
theorem dX5_keepRow_0 : decode cX5_keepRow 0 = .ok (.aload_n 0, 1) := by decide +kernel
theorem dX5_keepRow_1 : decode cX5_keepRow 1 = .ok (.iload_n 1, 1) := by decide +kernel
theorem dX5_keepRow_2 : decode cX5_keepRow 2 = .ok (.putfield 32, 3) := by decide +kernel
theorem dX5_keepRow_5 : decode cX5_keepRow 5 = .ok (.aload_n 0, 1) := by decide +kernel
theorem dX5_keepRow_6 : decode cX5_keepRow 6 = .ok (.aload_n 0, 1) := by decide +kernel
theorem dX5_keepRow_7 : decode cX5_keepRow 7 = .ok (.getfield 29, 3) := by decide +kernel
theorem dX5_keepRow_10 : decode cX5_keepRow 10 = .ok (.putfield 62, 3) := by decide +kernel
theorem dX5_keepRow_13 : decode cX5_keepRow 13 = .ok (.iconst 0, 1) := by decide +kernel
theorem dX5_keepRow_14 : decode cX5_keepRow 14 = .ok (.istore_n 2, 1) := by decide +kernel
theorem dX5_keepRow_15 : decode cX5_keepRow 15 = .ok (.iload_n 2, 1) := by decide +kernel
theorem dX5_keepRow_16 : decode cX5_keepRow 16 = .ok (.aload_n 0, 1) := by decide +kernel
theorem dX5_keepRow_17 : decode cX5_keepRow 17 = .ok (.getfield 29, 3) := by decide +kernel
theorem dX5_keepRow_20 : decode cX5_keepRow 20 = .ok (.if_icmp .ge 21, 3) := by decide +kernel
theorem dX5_keepRow_23 : decode cX5_keepRow 23 = .ok (.aload_n 0, 1) := by decide +kernel
theorem dX5_keepRow_24 : decode cX5_keepRow 24 = .ok (.getfield 22, 3) := by decide +kernel
theorem dX5_keepRow_27 : decode cX5_keepRow 27 = .ok (.iload_n 2, 1) := by decide +kernel
theorem dX5_keepRow_28 : decode cX5_keepRow 28 = .ok (.aload_n 0, 1) := by decide +kernel
theorem dX5_keepRow_29 : decode cX5_keepRow 29 = .ok (.getfield 19, 3) := by decide +kernel
theorem dX5_keepRow_32 : decode cX5_keepRow 32 = .ok (.iload_n 2, 1) := by decide +kernel
theorem dX5_keepRow_33 : decode cX5_keepRow 33 = .ok (.iaload, 1) := by decide +kernel
theorem dX5_keepRow_34 : decode cX5_keepRow 34 = .ok (.iastore, 1) := by decide +kernel
theorem dX5_keepRow_35 : decode cX5_keepRow 35 = .ok (.iinc 2 1, 3) := by decide +kernel
theorem dX5_keepRow_38 : decode cX5_keepRow 38 = .ok (.goto (-23), 3) := by decide +kernel
theorem dX5_keepRow_41 : decode cX5_keepRow 41 = .ok (.return_, 1) := by decide +kernel
