theorem dX7_init_0 : decode cX7_init 0 = .ok (.aload_n 0, 1) := by decide +kernel
theorem dX7_init_1 : decode cX7_init 1 = .ok (.invokespecial 1, 3) := by decide +kernel
theorem dX7_init_4 : decode cX7_init 4 = .ok (.aload_n 0, 1) := by decide +kernel
theorem dX7_init_5 : decode cX7_init 5 = .ok (.bipush 42, 2) := by decide +kernel
theorem dX7_init_7 : decode cX7_init 7 = .ok (.newarray .int, 2) := by decide +kernel
theorem dX7_init_9 : decode cX7_init 9 = .ok (.putfield 9, 3) := by decide +kernel
theorem dX7_init_12 : decode cX7_init 12 = .ok (.aload_n 0, 1) := by decide +kernel
theorem dX7_init_13 : decode cX7_init 13 = .ok (.bipush 30, 2) := by decide +kernel
theorem dX7_init_15 : decode cX7_init 15 = .ok (.newarray .int, 2) := by decide +kernel
theorem dX7_init_17 : decode cX7_init 17 = .ok (.putfield 13, 3) := by decide +kernel
theorem dX7_init_20 : decode cX7_init 20 = .ok (.aload_n 0, 1) := by decide +kernel
theorem dX7_init_21 : decode cX7_init 21 = .ok (.bipush 30, 2) := by decide +kernel
theorem dX7_init_23 : decode cX7_init 23 = .ok (.newarray .int, 2) := by decide +kernel
theorem dX7_init_25 : decode cX7_init 25 = .ok (.putfield 16, 3) := by decide +kernel
theorem dX7_init_28 : decode cX7_init 28 = .ok (.aload_n 0, 1) := by decide +kernel
theorem dX7_init_29 : decode cX7_init 29 = .ok (.bipush 30, 2) := by decide +kernel
theorem dX7_init_31 : decode cX7_init 31 = .ok (.newarray .int, 2) := by decide +kernel
theorem dX7_init_33 : decode cX7_init 33 = .ok (.putfield 19, 3) := by decide +kernel
theorem dX7_init_36 : decode cX7_init 36 = .ok (.aload_n 0, 1) := by decide +kernel
theorem dX7_init_37 : decode cX7_init 37 = .ok (.bipush 30, 2) := by decide +kernel
theorem dX7_init_39 : decode cX7_init 39 = .ok (.newarray .boolean, 2) := by decide +kernel
theorem dX7_init_41 : decode cX7_init 41 = .ok (.putfield 22, 3) := by decide +kernel
theorem dX7_init_44 : decode cX7_init 44 = .ok (.aload_n 0, 1) := by decide +kernel
theorem dX7_init_45 : decode cX7_init 45 = .ok (.iconst 5, 1) := by decide +kernel
theorem dX7_init_46 : decode cX7_init 46 = .ok (.newarray .int, 2) := by decide +kernel
theorem dX7_init_48 : decode cX7_init 48 = .ok (.dup, 1) := by decide +kernel
theorem dX7_init_49 : decode cX7_init 49 = .ok (.iconst 0, 1) := by decide +kernel
theorem dX7_init_50 : decode cX7_init 50 = .ok (.sipush 2000, 3) := by decide +kernel
theorem dX7_init_53 : decode cX7_init 53 = .ok (.iastore, 1) := by decide +kernel
theorem dX7_init_54 : decode cX7_init 54 = .ok (.dup, 1) := by decide +kernel
theorem dX7_init_55 : decode cX7_init 55 = .ok (.iconst 1, 1) := by decide +kernel
theorem dX7_init_56 : decode cX7_init 56 = .ok (.bipush 80, 2) := by decide +kernel
theorem dX7_init_58 : decode cX7_init 58 = .ok (.iastore, 1) := by decide +kernel
theorem dX7_init_59 : decode cX7_init 59 = .ok (.dup, 1) := by decide +kernel
theorem dX7_init_60 : decode cX7_init 60 = .ok (.iconst 2, 1) := by decide +kernel
theorem dX7_init_61 : decode cX7_init 61 = .ok (.sipush 1000, 3) := by decide +kernel
theorem dX7_init_64 : decode cX7_init 64 = .ok (.iastore, 1) := by decide +kernel
theorem dX7_init_65 : decode cX7_init 65 = .ok (.dup, 1) := by decide +kernel
theorem dX7_init_66 : decode cX7_init 66 = .ok (.iconst 3, 1) := by decide +kernel
theorem dX7_init_67 : decode cX7_init 67 = .ok (.bipush 25, 2) := by decide +kernel
theorem dX7_init_69 : decode cX7_init 69 = .ok (.iastore, 1) := by decide +kernel
theorem dX7_init_70 : decode cX7_init 70 = .ok (.dup, 1) := by decide +kernel
theorem dX7_init_71 : decode cX7_init 71 = .ok (.iconst 4, 1) := by decide +kernel
theorem dX7_init_72 : decode cX7_init 72 = .ok (.bipush 10, 2) := by decide +kernel
theorem dX7_init_74 : decode cX7_init 74 = .ok (.iastore, 1) := by decide +kernel
theorem dX7_init_75 : decode cX7_init 75 = .ok (.putfield 26, 3) := by decide +kernel
theorem dX7_init_78 : decode cX7_init 78 = .ok (.aload_n 0, 1) := by decide +kernel
theorem dX7_init_79 : decode cX7_init 79 = .ok (.bipush 24, 2) := by decide +kernel
theorem dX7_init_81 : decode cX7_init 81 = .ok (.newarray .int, 2) := by decide +kernel
theorem dX7_init_83 : decode cX7_init 83 = .ok (.putfield 29, 3) := by decide +kernel
theorem dX7_init_86 : decode cX7_init 86 = .ok (.aload_n 0, 1) := by decide +kernel
theorem dX7_init_87 : decode cX7_init 87 = .ok (.bipush 12, 2) := by decide +kernel
theorem dX7_init_89 : decode cX7_init 89 = .ok (.newarray .int, 2) := by decide +kernel
theorem dX7_init_91 : decode cX7_init 91 = .ok (.putfield 32, 3) := by decide +kernel
theorem dX7_init_94 : decode cX7_init 94 = .ok (.aload_n 0, 1) := by decide +kernel
theorem dX7_init_95 : decode cX7_init 95 = .ok (.bipush 12, 2) := by decide +kernel
theorem dX7_init_97 : decode cX7_init 97 = .ok (.newarray .int, 2) := by decide +kernel
theorem dX7_init_99 : decode cX7_init 99 = .ok (.putfield 35, 3) := by decide +kernel
theorem dX7_init_102 : decode cX7_init 102 = .ok (.aload_n 0, 1) := by decide +kernel
theorem dX7_init_103 : decode cX7_init 103 = .ok (.bipush 6, 2) := by decide +kernel
theorem dX7_init_105 : decode cX7_init 105 = .ok (.newarray .int, 2) := by decide +kernel
theorem dX7_init_107 : decode cX7_init 107 = .ok (.putfield 38, 3) := by decide +kernel
theorem dX7_init_110 : decode cX7_init 110 = .ok (.aload_n 0, 1) := by decide +kernel
theorem dX7_init_111 : decode cX7_init 111 = .ok (.bipush 12, 2) := by decide +kernel
theorem dX7_init_113 : decode cX7_init 113 = .ok (.newarray .int, 2) := by decide +kernel
theorem dX7_init_115 : decode cX7_init 115 = .ok (.putfield 41, 3) := by decide +kernel
theorem dX7_init_118 : decode cX7_init 118 = .ok (.aload_n 0, 1) := by decide +kernel
theorem dX7_init_119 : decode cX7_init 119 = .ok (.bipush 12, 2) := by decide +kernel
theorem dX7_init_121 : decode cX7_init 121 = .ok (.newarray .int, 2) := by decide +kernel
theorem dX7_init_123 : decode cX7_init 123 = .ok (.putfield 44, 3) := by decide +kernel
theorem dX7_init_126 : decode cX7_init 126 = .ok (.aload_n 0, 1) := by decide +kernel
theorem dX7_init_127 : decode cX7_init 127 = .ok (.bipush 8, 2) := by decide +kernel
theorem dX7_init_129 : decode cX7_init 129 = .ok (.newarray .int, 2) := by decide +kernel
theorem dX7_init_131 : decode cX7_init 131 = .ok (.putfield 47, 3) := by decide +kernel
theorem dX7_init_134 : decode cX7_init 134 = .ok (.aload_n 0, 1) := by decide +kernel
theorem dX7_init_135 : decode cX7_init 135 = .ok (.bipush 8, 2) := by decide +kernel
theorem dX7_init_137 : decode cX7_init 137 = .ok (.newarray .int, 2) := by decide +kernel
theorem dX7_init_139 : decode cX7_init 139 = .ok (.putfield 50, 3) := by decide +kernel
theorem dX7_init_142 : decode cX7_init 142 = .ok (.aload_n 0, 1) := by decide +kernel
theorem dX7_init_143 : decode cX7_init 143 = .ok (.bipush 30, 2) := by decide +kernel
theorem dX7_init_145 : decode cX7_init 145 = .ok (.newarray .boolean, 2) := by decide +kernel
theorem dX7_init_147 : decode cX7_init 147 = .ok (.putfield 53, 3) := by decide +kernel
theorem dX7_init_150 : decode cX7_init 150 = .ok (.aload_n 0, 1) := by decide +kernel
theorem dX7_init_151 : decode cX7_init 151 = .ok (.bipush 8, 2) := by decide +kernel
theorem dX7_init_153 : decode cX7_init 153 = .ok (.newarray .int, 2) := by decide +kernel
theorem dX7_init_155 : decode cX7_init 155 = .ok (.putfield 56, 3) := by decide +kernel
theorem dX7_init_158 : decode cX7_init 158 = .ok (.aload_n 0, 1) := by decide +kernel
theorem dX7_init_159 : decode cX7_init 159 = .ok (.sipush 3380, 3) := by decide +kernel
theorem dX7_init_162 : decode cX7_init 162 = .ok (.newarray .int, 2) := by decide +kernel
theorem dX7_init_164 : decode cX7_init 164 = .ok (.putfield 59, 3) := by decide +kernel
theorem dX7_init_167 : decode cX7_init 167 = .ok (.aload_n 0, 1) := by decide +kernel
theorem dX7_init_168 : decode cX7_init 168 = .ok (.bipush 6, 2) := by decide +kernel
theorem dX7_init_170 : decode cX7_init 170 = .ok (.newarray .int, 2) := by decide +kernel
theorem dX7_init_172 : decode cX7_init 172 = .ok (.putfield 62, 3) := by decide +kernel
theorem dX7_init_175 : decode cX7_init 175 = .ok (.aload_n 0, 1) := by decide +kernel
theorem dX7_init_176 : decode cX7_init 176 = .ok (.bipush 6, 2) := by decide +kernel
theorem dX7_init_178 : decode cX7_init 178 = .ok (.newarray .int, 2) := by decide +kernel
theorem dX7_init_180 : decode cX7_init 180 = .ok (.putfield 65, 3) := by decide +kernel
theorem dX7_init_183 : decode cX7_init 183 = .ok (.iconst 0, 1) := by decide +kernel
theorem dX7_init_184 : decode cX7_init 184 = .ok (.istore_n 1, 1) := by decide +kernel
theorem dX7_init_185 : decode cX7_init 185 = .ok (.iload_n 1, 1) := by decide +kernel
theorem dX7_init_186 : decode cX7_init 186 = .ok (.bipush 24, 2) := by decide +kernel
theorem dX7_init_188 : decode cX7_init 188 = .ok (.if_icmp .ge 17, 3) := by decide +kernel
theorem dX7_init_191 : decode cX7_init 191 = .ok (.aload_n 0, 1) := by decide +kernel
theorem dX7_init_192 : decode cX7_init 192 = .ok (.getfield 29, 3) := by decide +kernel
theorem dX7_init_195 : decode cX7_init 195 = .ok (.iload_n 1, 1) := by decide +kernel
theorem dX7_init_196 : decode cX7_init 196 = .ok (.bipush 10, 2) := by decide +kernel
theorem dX7_init_198 : decode cX7_init 198 = .ok (.iastore, 1) := by decide +kernel
theorem dX7_init_199 : decode cX7_init 199 = .ok (.iinc 1 1, 3) := by decide +kernel
theorem dX7_init_202 : decode cX7_init 202 = .ok (.goto (-17), 3) := by decide +kernel
theorem dX7_init_205 : decode cX7_init 205 = .ok (.return_, 1) := by decide +kernel
theorem dX7_thrown_0 : decode cX7_thrown 0 = .ok (.aload_n 0, 1) := by decide +kernel
theorem dX7_thrown_1 : decode cX7_thrown 1 = .ok (.getfield 68, 3) := by decide +kernel
theorem dX7_thrown_4 : decode cX7_thrown 4 = .ok (.ireturn, 1) := by decide +kernel
theorem dX7_in_0 : decode cX7_in 0 = .ok (.iload_n 0, 1) := by decide +kernel
theorem dX7_in_1 : decode cX7_in 1 = .ok (.iload_n 1, 1) := by decide +kernel
theorem dX7_in_2 : decode cX7_in 2 = .ok (.if_icmp .lt 12, 3) := by decide +kernel
theorem dX7_in_5 : decode cX7_in 5 = .ok (.iload_n 0, 1) := by decide +kernel
theorem dX7_in_6 : decode cX7_in 6 = .ok (.iload_n 2, 1) := by decide +kernel
theorem dX7_in_7 : decode cX7_in 7 = .ok (.if_icmp .gt 7, 3) := by decide +kernel
theorem dX7_in_10 : decode cX7_in 10 = .ok (.iconst 1, 1) := by decide +kernel
theorem dX7_in_11 : decode cX7_in 11 = .ok (.goto 4, 3) := by decide +kernel
theorem dX7_in_14 : decode cX7_in 14 = .ok (.iconst 0, 1) := by decide +kernel
theorem dX7_in_15 : decode cX7_in 15 = .ok (.ireturn, 1) := by decide +kernel
theorem dX7_isCabinet_0 : decode cX7_isCabinet 0 = .ok (.iload_n 1, 1) := by decide +kernel
theorem dX7_isCabinet_1 : decode cX7_isCabinet 1 = .ok (.iconst 0, 1) := by decide +kernel
theorem dX7_isCabinet_2 : decode cX7_isCabinet 2 = .ok (.aload_n 0, 1) := by decide +kernel
theorem dX7_isCabinet_3 : decode cX7_isCabinet 3 = .ok (.getfield 72, 3) := by decide +kernel
theorem dX7_isCabinet_6 : decode cX7_isCabinet 6 = .ok (.iconst 1, 1) := by decide +kernel
theorem dX7_isCabinet_7 : decode cX7_isCabinet 7 = .ok (.isub, 1) := by decide +kernel
theorem dX7_isCabinet_8 : decode cX7_isCabinet 8 = .ok (.invokestatic 75, 3) := by decide +kernel
theorem dX7_isCabinet_11 : decode cX7_isCabinet 11 = .ok (.ireturn, 1) := by decide +kernel
theorem dX7_isPack_0 : decode cX7_isPack 0 = .ok (.iload_n 1, 1) := by decide +kernel
theorem dX7_isPack_1 : decode cX7_isPack 1 = .ok (.iconst 0, 1) := by decide +kernel
theorem dX7_isPack_2 : decode cX7_isPack 2 = .ok (.aload_n 0, 1) := by decide +kernel
theorem dX7_isPack_3 : decode cX7_isPack 3 = .ok (.getfield 79, 3) := by decide +kernel
theorem dX7_isPack_6 : decode cX7_isPack 6 = .ok (.iconst 1, 1) := by decide +kernel
theorem dX7_isPack_7 : decode cX7_isPack 7 = .ok (.isub, 1) := by decide +kernel
theorem dX7_isPack_8 : decode cX7_isPack 8 = .ok (.invokestatic 75, 3) := by decide +kernel
theorem dX7_isPack_11 : decode cX7_isPack 11 = .ok (.ireturn, 1) := by decide +kernel
theorem dX7_inside_0 : decode cX7_inside 0 = .ok (.iconst 0, 1) := by decide +kernel
theorem dX7_inside_1 : decode cX7_inside 1 = .ok (.istore_n 2, 1) := by decide +kernel
theorem dX7_inside_2 : decode cX7_inside 2 = .ok (.iconst 0, 1) := by decide +kernel
theorem dX7_inside_3 : decode cX7_inside 3 = .ok (.istore_n 3, 1) := by decide +kernel
theorem dX7_inside_4 : decode cX7_inside 4 = .ok (.iload_n 3, 1) := by decide +kernel
theorem dX7_inside_5 : decode cX7_inside 5 = .ok (.aload_n 0, 1) := by decide +kernel
theorem dX7_inside_6 : decode cX7_inside 6 = .ok (.getfield 79, 3) := by decide +kernel
theorem dX7_inside_9 : decode cX7_inside 9 = .ok (.if_icmp .ge 22, 3) := by decide +kernel
theorem dX7_inside_12 : decode cX7_inside 12 = .ok (.aload_n 0, 1) := by decide +kernel
theorem dX7_inside_13 : decode cX7_inside 13 = .ok (.getfield 19, 3) := by decide +kernel
theorem dX7_inside_16 : decode cX7_inside 16 = .ok (.iload_n 3, 1) := by decide +kernel
theorem dX7_inside_17 : decode cX7_inside 17 = .ok (.iaload, 1) := by decide +kernel
theorem dX7_inside_18 : decode cX7_inside 18 = .ok (.iload_n 1, 1) := by decide +kernel
theorem dX7_inside_19 : decode cX7_inside 19 = .ok (.if_icmp .ne 6, 3) := by decide +kernel
theorem dX7_inside_22 : decode cX7_inside 22 = .ok (.iinc 2 1, 3) := by decide +kernel
theorem dX7_inside_25 : decode cX7_inside 25 = .ok (.iinc 3 1, 3) := by decide +kernel
theorem dX7_inside_28 : decode cX7_inside 28 = .ok (.goto (-24), 3) := by decide +kernel
theorem dX7_inside_31 : decode cX7_inside 31 = .ok (.iload_n 2, 1) := by decide +kernel
theorem dX7_inside_32 : decode cX7_inside 32 = .ok (.ireturn, 1) := by decide +kernel
theorem dX7_hasSlot_0 : decode cX7_hasSlot 0 = .ok (.aload_n 0, 1) := by decide +kernel
theorem dX7_hasSlot_1 : decode cX7_hasSlot 1 = .ok (.iload_n 1, 1) := by decide +kernel
theorem dX7_hasSlot_2 : decode cX7_hasSlot 2 = .ok (.invokevirtual 82, 3) := by decide +kernel
theorem dX7_hasSlot_5 : decode cX7_hasSlot 5 = .ok (.aload_n 0, 1) := by decide +kernel
theorem dX7_hasSlot_6 : decode cX7_hasSlot 6 = .ok (.getfield 9, 3) := by decide +kernel
theorem dX7_hasSlot_9 : decode cX7_hasSlot 9 = .ok (.bipush 7, 2) := by decide +kernel
theorem dX7_hasSlot_11 : decode cX7_hasSlot 11 = .ok (.iload_n 1, 1) := by decide +kernel
theorem dX7_hasSlot_12 : decode cX7_hasSlot 12 = .ok (.imul, 1) := by decide +kernel
theorem dX7_hasSlot_13 : decode cX7_hasSlot 13 = .ok (.iconst 2, 1) := by decide +kernel
theorem dX7_hasSlot_14 : decode cX7_hasSlot 14 = .ok (.iadd, 1) := by decide +kernel
theorem dX7_hasSlot_15 : decode cX7_hasSlot 15 = .ok (.iaload, 1) := by decide +kernel
theorem dX7_hasSlot_16 : decode cX7_hasSlot 16 = .ok (.if_icmp .ge 7, 3) := by decide +kernel
theorem dX7_hasSlot_19 : decode cX7_hasSlot 19 = .ok (.iconst 1, 1) := by decide +kernel
theorem dX7_hasSlot_20 : decode cX7_hasSlot 20 = .ok (.goto 4, 3) := by decide +kernel
theorem dX7_hasSlot_23 : decode cX7_hasSlot 23 = .ok (.iconst 0, 1) := by decide +kernel
theorem dX7_hasSlot_24 : decode cX7_hasSlot 24 = .ok (.ireturn, 1) := by decide +kernel
theorem dX7_isFit_0 : decode cX7_isFit 0 = .ok (.aload_n 0, 1) := by decide +kernel
theorem dX7_isFit_1 : decode cX7_isFit 1 = .ok (.getfield 22, 3) := by decide +kernel
theorem dX7_isFit_4 : decode cX7_isFit 4 = .ok (.iload_n 1, 1) := by decide +kernel
theorem dX7_isFit_5 : decode cX7_isFit 5 = .ok (.baload, 1) := by decide +kernel
theorem dX7_isFit_6 : decode cX7_isFit 6 = .ok (.ifCond .ne 22, 3) := by decide +kernel
theorem dX7_isFit_9 : decode cX7_isFit 9 = .ok (.aload_n 0, 1) := by decide +kernel
theorem dX7_isFit_10 : decode cX7_isFit 10 = .ok (.getfield 16, 3) := by decide +kernel
theorem dX7_isFit_13 : decode cX7_isFit 13 = .ok (.iload_n 1, 1) := by decide +kernel
theorem dX7_isFit_14 : decode cX7_isFit 14 = .ok (.iaload, 1) := by decide +kernel
theorem dX7_isFit_15 : decode cX7_isFit 15 = .ok (.aload_n 0, 1) := by decide +kernel
theorem dX7_isFit_16 : decode cX7_isFit 16 = .ok (.getfield 26, 3) := by decide +kernel
theorem dX7_isFit_19 : decode cX7_isFit 19 = .ok (.iconst 0, 1) := by decide +kernel
theorem dX7_isFit_20 : decode cX7_isFit 20 = .ok (.iaload, 1) := by decide +kernel
theorem dX7_isFit_21 : decode cX7_isFit 21 = .ok (.if_icmp .ge 7, 3) := by decide +kernel
theorem dX7_isFit_24 : decode cX7_isFit 24 = .ok (.iconst 1, 1) := by decide +kernel
theorem dX7_isFit_25 : decode cX7_isFit 25 = .ok (.goto 4, 3) := by decide +kernel
theorem dX7_isFit_28 : decode cX7_isFit 28 = .ok (.iconst 0, 1) := by decide +kernel
theorem dX7_isFit_29 : decode cX7_isFit 29 = .ok (.ireturn, 1) := by decide +kernel
theorem dX7_isReady_0 : decode cX7_isReady 0 = .ok (.aload_n 0, 1) := by decide +kernel
theorem dX7_isReady_1 : decode cX7_isReady 1 = .ok (.getfield 19, 3) := by decide +kernel
theorem dX7_isReady_4 : decode cX7_isReady 4 = .ok (.iload_n 1, 1) := by decide +kernel
theorem dX7_isReady_5 : decode cX7_isReady 5 = .ok (.iaload, 1) := by decide +kernel
theorem dX7_isReady_6 : decode cX7_isReady 6 = .ok (.iconst (-1), 1) := by decide +kernel
theorem dX7_isReady_7 : decode cX7_isReady 7 = .ok (.if_icmp .eq 30, 3) := by decide +kernel
theorem dX7_isReady_10 : decode cX7_isReady 10 = .ok (.aload_n 0, 1) := by decide +kernel
theorem dX7_isReady_11 : decode cX7_isReady 11 = .ok (.iload_n 1, 1) := by decide +kernel
theorem dX7_isReady_12 : decode cX7_isReady 12 = .ok (.invokevirtual 86, 3) := by decide +kernel
theorem dX7_isReady_15 : decode cX7_isReady 15 = .ok (.ifCond .eq 22, 3) := by decide +kernel
theorem dX7_isReady_18 : decode cX7_isReady 18 = .ok (.aload_n 0, 1) := by decide +kernel
theorem dX7_isReady_19 : decode cX7_isReady 19 = .ok (.getfield 13, 3) := by decide +kernel
theorem dX7_isReady_22 : decode cX7_isReady 22 = .ok (.iload_n 1, 1) := by decide +kernel
theorem dX7_isReady_23 : decode cX7_isReady 23 = .ok (.iaload, 1) := by decide +kernel
theorem dX7_isReady_24 : decode cX7_isReady 24 = .ok (.aload_n 0, 1) := by decide +kernel
theorem dX7_isReady_25 : decode cX7_isReady 25 = .ok (.getfield 26, 3) := by decide +kernel
theorem dX7_isReady_28 : decode cX7_isReady 28 = .ok (.iconst 1, 1) := by decide +kernel
theorem dX7_isReady_29 : decode cX7_isReady 29 = .ok (.iaload, 1) := by decide +kernel
theorem dX7_isReady_30 : decode cX7_isReady 30 = .ok (.if_icmp .lt 7, 3) := by decide +kernel
theorem dX7_isReady_33 : decode cX7_isReady 33 = .ok (.iconst 1, 1) := by decide +kernel
theorem dX7_isReady_34 : decode cX7_isReady 34 = .ok (.goto 4, 3) := by decide +kernel
theorem dX7_isReady_37 : decode cX7_isReady 37 = .ok (.iconst 0, 1) := by decide +kernel
theorem dX7_isReady_38 : decode cX7_isReady 38 = .ok (.ireturn, 1) := by decide +kernel
theorem dX7_readyIn_0 : decode cX7_readyIn 0 = .ok (.iconst 0, 1) := by decide +kernel
theorem dX7_readyIn_1 : decode cX7_readyIn 1 = .ok (.istore_n 2, 1) := by decide +kernel
theorem dX7_readyIn_2 : decode cX7_readyIn 2 = .ok (.iconst 0, 1) := by decide +kernel
theorem dX7_readyIn_3 : decode cX7_readyIn 3 = .ok (.istore_n 3, 1) := by decide +kernel
theorem dX7_readyIn_4 : decode cX7_readyIn 4 = .ok (.iload_n 3, 1) := by decide +kernel
theorem dX7_readyIn_5 : decode cX7_readyIn 5 = .ok (.aload_n 0, 1) := by decide +kernel
theorem dX7_readyIn_6 : decode cX7_readyIn 6 = .ok (.getfield 79, 3) := by decide +kernel
theorem dX7_readyIn_9 : decode cX7_readyIn 9 = .ok (.if_icmp .ge 30, 3) := by decide +kernel
theorem dX7_readyIn_12 : decode cX7_readyIn 12 = .ok (.aload_n 0, 1) := by decide +kernel
theorem dX7_readyIn_13 : decode cX7_readyIn 13 = .ok (.getfield 19, 3) := by decide +kernel
theorem dX7_readyIn_16 : decode cX7_readyIn 16 = .ok (.iload_n 3, 1) := by decide +kernel
theorem dX7_readyIn_17 : decode cX7_readyIn 17 = .ok (.iaload, 1) := by decide +kernel
theorem dX7_readyIn_18 : decode cX7_readyIn 18 = .ok (.iload_n 1, 1) := by decide +kernel
theorem dX7_readyIn_19 : decode cX7_readyIn 19 = .ok (.if_icmp .ne 14, 3) := by decide +kernel
theorem dX7_readyIn_22 : decode cX7_readyIn 22 = .ok (.aload_n 0, 1) := by decide +kernel
theorem dX7_readyIn_23 : decode cX7_readyIn 23 = .ok (.iload_n 3, 1) := by decide +kernel
theorem dX7_readyIn_24 : decode cX7_readyIn 24 = .ok (.invokevirtual 90, 3) := by decide +kernel
theorem dX7_readyIn_27 : decode cX7_readyIn 27 = .ok (.ifCond .eq 6, 3) := by decide +kernel
theorem dX7_readyIn_30 : decode cX7_readyIn 30 = .ok (.iinc 2 1, 3) := by decide +kernel
theorem dX7_readyIn_33 : decode cX7_readyIn 33 = .ok (.iinc 3 1, 3) := by decide +kernel
theorem dX7_readyIn_36 : decode cX7_readyIn 36 = .ok (.goto (-32), 3) := by decide +kernel
theorem dX7_readyIn_39 : decode cX7_readyIn 39 = .ok (.iload_n 2, 1) := by decide +kernel
theorem dX7_readyIn_40 : decode cX7_readyIn 40 = .ok (.ireturn, 1) := by decide +kernel
theorem dX7_isAhead_0 : decode cX7_isAhead 0 = .ok (.aload_n 0, 1) := by decide +kernel
theorem dX7_isAhead_1 : decode cX7_isAhead 1 = .ok (.getfield 13, 3) := by decide +kernel
theorem dX7_isAhead_4 : decode cX7_isAhead 4 = .ok (.iload_n 1, 1) := by decide +kernel
theorem dX7_isAhead_5 : decode cX7_isAhead 5 = .ok (.iaload, 1) := by decide +kernel
theorem dX7_isAhead_6 : decode cX7_isAhead 6 = .ok (.aload_n 0, 1) := by decide +kernel
theorem dX7_isAhead_7 : decode cX7_isAhead 7 = .ok (.getfield 13, 3) := by decide +kernel
theorem dX7_isAhead_10 : decode cX7_isAhead 10 = .ok (.iload_n 2, 1) := by decide +kernel
theorem dX7_isAhead_11 : decode cX7_isAhead 11 = .ok (.iaload, 1) := by decide +kernel
theorem dX7_isAhead_12 : decode cX7_isAhead 12 = .ok (.if_icmp .eq 24, 3) := by decide +kernel
theorem dX7_isAhead_15 : decode cX7_isAhead 15 = .ok (.aload_n 0, 1) := by decide +kernel
theorem dX7_isAhead_16 : decode cX7_isAhead 16 = .ok (.getfield 13, 3) := by decide +kernel
theorem dX7_isAhead_19 : decode cX7_isAhead 19 = .ok (.iload_n 1, 1) := by decide +kernel
theorem dX7_isAhead_20 : decode cX7_isAhead 20 = .ok (.iaload, 1) := by decide +kernel
theorem dX7_isAhead_21 : decode cX7_isAhead 21 = .ok (.aload_n 0, 1) := by decide +kernel
theorem dX7_isAhead_22 : decode cX7_isAhead 22 = .ok (.getfield 13, 3) := by decide +kernel
theorem dX7_isAhead_25 : decode cX7_isAhead 25 = .ok (.iload_n 2, 1) := by decide +kernel
theorem dX7_isAhead_26 : decode cX7_isAhead 26 = .ok (.iaload, 1) := by decide +kernel
theorem dX7_isAhead_27 : decode cX7_isAhead 27 = .ok (.if_icmp .le 7, 3) := by decide +kernel
theorem dX7_isAhead_30 : decode cX7_isAhead 30 = .ok (.iconst 1, 1) := by decide +kernel
theorem dX7_isAhead_31 : decode cX7_isAhead 31 = .ok (.goto 4, 3) := by decide +kernel
theorem dX7_isAhead_34 : decode cX7_isAhead 34 = .ok (.iconst 0, 1) := by decide +kernel
theorem dX7_isAhead_35 : decode cX7_isAhead 35 = .ok (.ireturn, 1) := by decide +kernel
theorem dX7_isAhead_36 : decode cX7_isAhead 36 = .ok (.aload_n 0, 1) := by decide +kernel
theorem dX7_isAhead_37 : decode cX7_isAhead 37 = .ok (.getfield 16, 3) := by decide +kernel
theorem dX7_isAhead_40 : decode cX7_isAhead 40 = .ok (.iload_n 1, 1) := by decide +kernel
theorem dX7_isAhead_41 : decode cX7_isAhead 41 = .ok (.iaload, 1) := by decide +kernel
theorem dX7_isAhead_42 : decode cX7_isAhead 42 = .ok (.aload_n 0, 1) := by decide +kernel
theorem dX7_isAhead_43 : decode cX7_isAhead 43 = .ok (.getfield 16, 3) := by decide +kernel
theorem dX7_isAhead_46 : decode cX7_isAhead 46 = .ok (.iload_n 2, 1) := by decide +kernel
theorem dX7_isAhead_47 : decode cX7_isAhead 47 = .ok (.iaload, 1) := by decide +kernel
theorem dX7_isAhead_48 : decode cX7_isAhead 48 = .ok (.if_icmp .eq 24, 3) := by decide +kernel
theorem dX7_isAhead_51 : decode cX7_isAhead 51 = .ok (.aload_n 0, 1) := by decide +kernel
theorem dX7_isAhead_52 : decode cX7_isAhead 52 = .ok (.getfield 16, 3) := by decide +kernel
theorem dX7_isAhead_55 : decode cX7_isAhead 55 = .ok (.iload_n 1, 1) := by decide +kernel
theorem dX7_isAhead_56 : decode cX7_isAhead 56 = .ok (.iaload, 1) := by decide +kernel
theorem dX7_isAhead_57 : decode cX7_isAhead 57 = .ok (.aload_n 0, 1) := by decide +kernel
theorem dX7_isAhead_58 : decode cX7_isAhead 58 = .ok (.getfield 16, 3) := by decide +kernel
theorem dX7_isAhead_61 : decode cX7_isAhead 61 = .ok (.iload_n 2, 1) := by decide +kernel
theorem dX7_isAhead_62 : decode cX7_isAhead 62 = .ok (.iaload, 1) := by decide +kernel
theorem dX7_isAhead_63 : decode cX7_isAhead 63 = .ok (.if_icmp .ge 7, 3) := by decide +kernel
theorem dX7_isAhead_66 : decode cX7_isAhead 66 = .ok (.iconst 1, 1) := by decide +kernel
theorem dX7_isAhead_67 : decode cX7_isAhead 67 = .ok (.goto 4, 3) := by decide +kernel
theorem dX7_isAhead_70 : decode cX7_isAhead 70 = .ok (.iconst 0, 1) := by decide +kernel
theorem dX7_isAhead_71 : decode cX7_isAhead 71 = .ok (.ireturn, 1) := by decide +kernel
theorem dX7_isAhead_72 : decode cX7_isAhead 72 = .ok (.iload_n 1, 1) := by decide +kernel
theorem dX7_isAhead_73 : decode cX7_isAhead 73 = .ok (.iload_n 2, 1) := by decide +kernel
theorem dX7_isAhead_74 : decode cX7_isAhead 74 = .ok (.if_icmp .ge 7, 3) := by decide +kernel
theorem dX7_isAhead_77 : decode cX7_isAhead 77 = .ok (.iconst 1, 1) := by decide +kernel
theorem dX7_isAhead_78 : decode cX7_isAhead 78 = .ok (.goto 4, 3) := by decide +kernel
theorem dX7_isAhead_81 : decode cX7_isAhead 81 = .ok (.iconst 0, 1) := by decide +kernel
theorem dX7_isAhead_82 : decode cX7_isAhead 82 = .ok (.ireturn, 1) := by decide +kernel
theorem dX7_given_0 : decode cX7_given 0 = .ok (.iconst (-1), 1) := by decide +kernel
theorem dX7_given_1 : decode cX7_given 1 = .ok (.istore_n 2, 1) := by decide +kernel
theorem dX7_given_2 : decode cX7_given 2 = .ok (.iconst 0, 1) := by decide +kernel
theorem dX7_given_3 : decode cX7_given 3 = .ok (.istore_n 3, 1) := by decide +kernel
theorem dX7_given_4 : decode cX7_given 4 = .ok (.iload_n 3, 1) := by decide +kernel
theorem dX7_given_5 : decode cX7_given 5 = .ok (.aload_n 0, 1) := by decide +kernel
theorem dX7_given_6 : decode cX7_given 6 = .ok (.getfield 79, 3) := by decide +kernel
theorem dX7_given_9 : decode cX7_given 9 = .ok (.if_icmp .ge 43, 3) := by decide +kernel
theorem dX7_given_12 : decode cX7_given 12 = .ok (.aload_n 0, 1) := by decide +kernel
theorem dX7_given_13 : decode cX7_given 13 = .ok (.getfield 19, 3) := by decide +kernel
theorem dX7_given_16 : decode cX7_given 16 = .ok (.iload_n 3, 1) := by decide +kernel
theorem dX7_given_17 : decode cX7_given 17 = .ok (.iaload, 1) := by decide +kernel
theorem dX7_given_18 : decode cX7_given 18 = .ok (.iload_n 1, 1) := by decide +kernel
theorem dX7_given_19 : decode cX7_given 19 = .ok (.if_icmp .ne 27, 3) := by decide +kernel
theorem dX7_given_22 : decode cX7_given 22 = .ok (.aload_n 0, 1) := by decide +kernel
theorem dX7_given_23 : decode cX7_given 23 = .ok (.iload_n 3, 1) := by decide +kernel
theorem dX7_given_24 : decode cX7_given 24 = .ok (.invokevirtual 90, 3) := by decide +kernel
theorem dX7_given_27 : decode cX7_given 27 = .ok (.ifCond .eq 19, 3) := by decide +kernel
theorem dX7_given_30 : decode cX7_given 30 = .ok (.iload_n 2, 1) := by decide +kernel
theorem dX7_given_31 : decode cX7_given 31 = .ok (.iconst (-1), 1) := by decide +kernel
theorem dX7_given_32 : decode cX7_given 32 = .ok (.if_icmp .eq 12, 3) := by decide +kernel
theorem dX7_given_35 : decode cX7_given 35 = .ok (.aload_n 0, 1) := by decide +kernel
theorem dX7_given_36 : decode cX7_given 36 = .ok (.iload_n 3, 1) := by decide +kernel
theorem dX7_given_37 : decode cX7_given 37 = .ok (.iload_n 2, 1) := by decide +kernel
theorem dX7_given_38 : decode cX7_given 38 = .ok (.invokevirtual 93, 3) := by decide +kernel
theorem dX7_given_41 : decode cX7_given 41 = .ok (.ifCond .eq 5, 3) := by decide +kernel
theorem dX7_given_44 : decode cX7_given 44 = .ok (.iload_n 3, 1) := by decide +kernel
theorem dX7_given_45 : decode cX7_given 45 = .ok (.istore_n 2, 1) := by decide +kernel
theorem dX7_given_46 : decode cX7_given 46 = .ok (.iinc 3 1, 3) := by decide +kernel
theorem dX7_given_49 : decode cX7_given 49 = .ok (.goto (-45), 3) := by decide +kernel
theorem dX7_given_52 : decode cX7_given 52 = .ok (.iload_n 2, 1) := by decide +kernel
theorem dX7_given_53 : decode cX7_given 53 = .ok (.ireturn, 1) := by decide +kernel
theorem dX7_cabinet_0 : decode cX7_cabinet 0 = .ok (.aload_n 0, 1) := by decide +kernel
theorem dX7_cabinet_1 : decode cX7_cabinet 1 = .ok (.iconst 0, 1) := by decide +kernel
theorem dX7_cabinet_2 : decode cX7_cabinet 2 = .ok (.putfield 68, 3) := by decide +kernel
theorem dX7_cabinet_5 : decode cX7_cabinet 5 = .ok (.iload_n 1, 1) := by decide +kernel
theorem dX7_cabinet_6 : decode cX7_cabinet 6 = .ok (.iconst 0, 1) := by decide +kernel
theorem dX7_cabinet_7 : decode cX7_cabinet 7 = .ok (.bipush 99, 2) := by decide +kernel
theorem dX7_cabinet_9 : decode cX7_cabinet 9 = .ok (.invokestatic 75, 3) := by decide +kernel
theorem dX7_cabinet_12 : decode cX7_cabinet 12 = .ok (.ifCond .eq 54, 3) := by decide +kernel
theorem dX7_cabinet_15 : decode cX7_cabinet 15 = .ok (.iload_n 2, 1) := by decide +kernel
theorem dX7_cabinet_16 : decode cX7_cabinet 16 = .ok (.iconst 0, 1) := by decide +kernel
theorem dX7_cabinet_17 : decode cX7_cabinet 17 = .ok (.bipush 99, 2) := by decide +kernel
theorem dX7_cabinet_19 : decode cX7_cabinet 19 = .ok (.invokestatic 75, 3) := by decide +kernel
theorem dX7_cabinet_22 : decode cX7_cabinet 22 = .ok (.ifCond .eq 44, 3) := by decide +kernel
theorem dX7_cabinet_25 : decode cX7_cabinet 25 = .ok (.iload_n 3, 1) := by decide +kernel
theorem dX7_cabinet_26 : decode cX7_cabinet 26 = .ok (.iconst 1, 1) := by decide +kernel
theorem dX7_cabinet_27 : decode cX7_cabinet 27 = .ok (.bipush 8, 2) := by decide +kernel
theorem dX7_cabinet_29 : decode cX7_cabinet 29 = .ok (.invokestatic 75, 3) := by decide +kernel
theorem dX7_cabinet_32 : decode cX7_cabinet 32 = .ok (.ifCond .eq 34, 3) := by decide +kernel
theorem dX7_cabinet_35 : decode cX7_cabinet 35 = .ok (.iload 4, 2) := by decide +kernel
theorem dX7_cabinet_37 : decode cX7_cabinet 37 = .ok (.iconst 0, 1) := by decide +kernel
theorem dX7_cabinet_38 : decode cX7_cabinet 38 = .ok (.bipush 8, 2) := by decide +kernel
theorem dX7_cabinet_40 : decode cX7_cabinet 40 = .ok (.invokestatic 75, 3) := by decide +kernel
theorem dX7_cabinet_43 : decode cX7_cabinet 43 = .ok (.ifCond .eq 23, 3) := by decide +kernel
theorem dX7_cabinet_46 : decode cX7_cabinet 46 = .ok (.iload 5, 2) := by decide +kernel
theorem dX7_cabinet_48 : decode cX7_cabinet 48 = .ok (.iconst 0, 1) := by decide +kernel
theorem dX7_cabinet_49 : decode cX7_cabinet 49 = .ok (.bipush 8, 2) := by decide +kernel
theorem dX7_cabinet_51 : decode cX7_cabinet 51 = .ok (.invokestatic 75, 3) := by decide +kernel
theorem dX7_cabinet_54 : decode cX7_cabinet 54 = .ok (.ifCond .eq 12, 3) := by decide +kernel
theorem dX7_cabinet_57 : decode cX7_cabinet 57 = .ok (.aload_n 0, 1) := by decide +kernel
theorem dX7_cabinet_58 : decode cX7_cabinet 58 = .ok (.getfield 72, 3) := by decide +kernel
theorem dX7_cabinet_61 : decode cX7_cabinet 61 = .ok (.bipush 6, 2) := by decide +kernel
theorem dX7_cabinet_63 : decode cX7_cabinet 63 = .ok (.if_icmp .ne 5, 3) := by decide +kernel
theorem dX7_cabinet_66 : decode cX7_cabinet 66 = .ok (.iconst (-1), 1) := by decide +kernel
theorem dX7_cabinet_67 : decode cX7_cabinet 67 = .ok (.ireturn, 1) := by decide +kernel
theorem dX7_cabinet_68 : decode cX7_cabinet 68 = .ok (.bipush 7, 2) := by decide +kernel
theorem dX7_cabinet_70 : decode cX7_cabinet 70 = .ok (.aload_n 0, 1) := by decide +kernel
theorem dX7_cabinet_71 : decode cX7_cabinet 71 = .ok (.getfield 72, 3) := by decide +kernel
theorem dX7_cabinet_74 : decode cX7_cabinet 74 = .ok (.imul, 1) := by decide +kernel
theorem dX7_cabinet_75 : decode cX7_cabinet 75 = .ok (.istore 6, 2) := by decide +kernel
theorem dX7_cabinet_77 : decode cX7_cabinet 77 = .ok (.aload_n 0, 1) := by decide +kernel
theorem dX7_cabinet_78 : decode cX7_cabinet 78 = .ok (.getfield 9, 3) := by decide +kernel
theorem dX7_cabinet_81 : decode cX7_cabinet 81 = .ok (.iload 6, 2) := by decide +kernel
theorem dX7_cabinet_83 : decode cX7_cabinet 83 = .ok (.iload_n 1, 1) := by decide +kernel
theorem dX7_cabinet_84 : decode cX7_cabinet 84 = .ok (.iastore, 1) := by decide +kernel
theorem dX7_cabinet_85 : decode cX7_cabinet 85 = .ok (.aload_n 0, 1) := by decide +kernel
theorem dX7_cabinet_86 : decode cX7_cabinet 86 = .ok (.getfield 9, 3) := by decide +kernel
theorem dX7_cabinet_89 : decode cX7_cabinet 89 = .ok (.iload 6, 2) := by decide +kernel
theorem dX7_cabinet_91 : decode cX7_cabinet 91 = .ok (.iconst 1, 1) := by decide +kernel
theorem dX7_cabinet_92 : decode cX7_cabinet 92 = .ok (.iadd, 1) := by decide +kernel
theorem dX7_cabinet_93 : decode cX7_cabinet 93 = .ok (.iload_n 2, 1) := by decide +kernel
theorem dX7_cabinet_94 : decode cX7_cabinet 94 = .ok (.iastore, 1) := by decide +kernel
theorem dX7_cabinet_95 : decode cX7_cabinet 95 = .ok (.aload_n 0, 1) := by decide +kernel
theorem dX7_cabinet_96 : decode cX7_cabinet 96 = .ok (.getfield 9, 3) := by decide +kernel
theorem dX7_cabinet_99 : decode cX7_cabinet 99 = .ok (.iload 6, 2) := by decide +kernel
theorem dX7_cabinet_101 : decode cX7_cabinet 101 = .ok (.iconst 2, 1) := by decide +kernel
theorem dX7_cabinet_102 : decode cX7_cabinet 102 = .ok (.iadd, 1) := by decide +kernel
theorem dX7_cabinet_103 : decode cX7_cabinet 103 = .ok (.iload_n 3, 1) := by decide +kernel
theorem dX7_cabinet_104 : decode cX7_cabinet 104 = .ok (.iastore, 1) := by decide +kernel
theorem dX7_cabinet_105 : decode cX7_cabinet 105 = .ok (.aload_n 0, 1) := by decide +kernel
theorem dX7_cabinet_106 : decode cX7_cabinet 106 = .ok (.getfield 9, 3) := by decide +kernel
theorem dX7_cabinet_109 : decode cX7_cabinet 109 = .ok (.iload 6, 2) := by decide +kernel
theorem dX7_cabinet_111 : decode cX7_cabinet 111 = .ok (.iconst 3, 1) := by decide +kernel
theorem dX7_cabinet_112 : decode cX7_cabinet 112 = .ok (.iadd, 1) := by decide +kernel
theorem dX7_cabinet_113 : decode cX7_cabinet 113 = .ok (.iload 4, 2) := by decide +kernel
theorem dX7_cabinet_115 : decode cX7_cabinet 115 = .ok (.iastore, 1) := by decide +kernel
theorem dX7_cabinet_116 : decode cX7_cabinet 116 = .ok (.aload_n 0, 1) := by decide +kernel
theorem dX7_cabinet_117 : decode cX7_cabinet 117 = .ok (.getfield 9, 3) := by decide +kernel
theorem dX7_cabinet_120 : decode cX7_cabinet 120 = .ok (.iload 6, 2) := by decide +kernel
theorem dX7_cabinet_122 : decode cX7_cabinet 122 = .ok (.iconst 4, 1) := by decide +kernel
theorem dX7_cabinet_123 : decode cX7_cabinet 123 = .ok (.iadd, 1) := by decide +kernel
theorem dX7_cabinet_124 : decode cX7_cabinet 124 = .ok (.iload 5, 2) := by decide +kernel
theorem dX7_cabinet_126 : decode cX7_cabinet 126 = .ok (.iastore, 1) := by decide +kernel
theorem dX7_cabinet_127 : decode cX7_cabinet 127 = .ok (.aload_n 0, 1) := by decide +kernel
theorem dX7_cabinet_128 : decode cX7_cabinet 128 = .ok (.dup, 1) := by decide +kernel
theorem dX7_cabinet_129 : decode cX7_cabinet 129 = .ok (.getfield 72, 3) := by decide +kernel
theorem dX7_cabinet_132 : decode cX7_cabinet 132 = .ok (.iconst 1, 1) := by decide +kernel
theorem dX7_cabinet_133 : decode cX7_cabinet 133 = .ok (.iadd, 1) := by decide +kernel
theorem dX7_cabinet_134 : decode cX7_cabinet 134 = .ok (.putfield 72, 3) := by decide +kernel
theorem dX7_cabinet_137 : decode cX7_cabinet 137 = .ok (.aload_n 0, 1) := by decide +kernel
theorem dX7_cabinet_138 : decode cX7_cabinet 138 = .ok (.getfield 72, 3) := by decide +kernel
theorem dX7_cabinet_141 : decode cX7_cabinet 141 = .ok (.iconst 1, 1) := by decide +kernel
theorem dX7_cabinet_142 : decode cX7_cabinet 142 = .ok (.isub, 1) := by decide +kernel
theorem dX7_cabinet_143 : decode cX7_cabinet 143 = .ok (.ireturn, 1) := by decide +kernel
theorem dX7_pack_0 : decode cX7_pack 0 = .ok (.aload_n 0, 1) := by decide +kernel
theorem dX7_pack_1 : decode cX7_pack 1 = .ok (.iconst 0, 1) := by decide +kernel
theorem dX7_pack_2 : decode cX7_pack 2 = .ok (.putfield 68, 3) := by decide +kernel
theorem dX7_pack_5 : decode cX7_pack 5 = .ok (.aload_n 0, 1) := by decide +kernel
theorem dX7_pack_6 : decode cX7_pack 6 = .ok (.iload_n 1, 1) := by decide +kernel
theorem dX7_pack_7 : decode cX7_pack 7 = .ok (.invokevirtual 97, 3) := by decide +kernel
theorem dX7_pack_10 : decode cX7_pack 10 = .ok (.ifCond .eq 30, 3) := by decide +kernel
theorem dX7_pack_13 : decode cX7_pack 13 = .ok (.iload_n 2, 1) := by decide +kernel
theorem dX7_pack_14 : decode cX7_pack 14 = .ok (.iconst 0, 1) := by decide +kernel
theorem dX7_pack_15 : decode cX7_pack 15 = .ok (.bipush 100, 2) := by decide +kernel
theorem dX7_pack_17 : decode cX7_pack 17 = .ok (.invokestatic 75, 3) := by decide +kernel
theorem dX7_pack_20 : decode cX7_pack 20 = .ok (.ifCond .eq 20, 3) := by decide +kernel
theorem dX7_pack_23 : decode cX7_pack 23 = .ok (.aload_n 0, 1) := by decide +kernel
theorem dX7_pack_24 : decode cX7_pack 24 = .ok (.getfield 79, 3) := by decide +kernel
theorem dX7_pack_27 : decode cX7_pack 27 = .ok (.bipush 30, 2) := by decide +kernel
theorem dX7_pack_29 : decode cX7_pack 29 = .ok (.if_icmp .eq 11, 3) := by decide +kernel
theorem dX7_pack_32 : decode cX7_pack 32 = .ok (.aload_n 0, 1) := by decide +kernel
theorem dX7_pack_33 : decode cX7_pack 33 = .ok (.iload_n 1, 1) := by decide +kernel
theorem dX7_pack_34 : decode cX7_pack 34 = .ok (.invokevirtual 100, 3) := by decide +kernel
theorem dX7_pack_37 : decode cX7_pack 37 = .ok (.ifCond .ne 5, 3) := by decide +kernel
theorem dX7_pack_40 : decode cX7_pack 40 = .ok (.iconst (-1), 1) := by decide +kernel
theorem dX7_pack_41 : decode cX7_pack 41 = .ok (.ireturn, 1) := by decide +kernel
theorem dX7_pack_42 : decode cX7_pack 42 = .ok (.aload_n 0, 1) := by decide +kernel
theorem dX7_pack_43 : decode cX7_pack 43 = .ok (.getfield 19, 3) := by decide +kernel
theorem dX7_pack_46 : decode cX7_pack 46 = .ok (.aload_n 0, 1) := by decide +kernel
theorem dX7_pack_47 : decode cX7_pack 47 = .ok (.getfield 79, 3) := by decide +kernel
theorem dX7_pack_50 : decode cX7_pack 50 = .ok (.iload_n 1, 1) := by decide +kernel
theorem dX7_pack_51 : decode cX7_pack 51 = .ok (.iastore, 1) := by decide +kernel
theorem dX7_pack_52 : decode cX7_pack 52 = .ok (.aload_n 0, 1) := by decide +kernel
theorem dX7_pack_53 : decode cX7_pack 53 = .ok (.getfield 13, 3) := by decide +kernel
theorem dX7_pack_56 : decode cX7_pack 56 = .ok (.aload_n 0, 1) := by decide +kernel
theorem dX7_pack_57 : decode cX7_pack 57 = .ok (.getfield 79, 3) := by decide +kernel
theorem dX7_pack_60 : decode cX7_pack 60 = .ok (.iload_n 2, 1) := by decide +kernel
theorem dX7_pack_61 : decode cX7_pack 61 = .ok (.iastore, 1) := by decide +kernel
theorem dX7_pack_62 : decode cX7_pack 62 = .ok (.aload_n 0, 1) := by decide +kernel
theorem dX7_pack_63 : decode cX7_pack 63 = .ok (.dup, 1) := by decide +kernel
theorem dX7_pack_64 : decode cX7_pack 64 = .ok (.getfield 79, 3) := by decide +kernel
theorem dX7_pack_67 : decode cX7_pack 67 = .ok (.iconst 1, 1) := by decide +kernel
theorem dX7_pack_68 : decode cX7_pack 68 = .ok (.iadd, 1) := by decide +kernel
theorem dX7_pack_69 : decode cX7_pack 69 = .ok (.putfield 79, 3) := by decide +kernel
theorem dX7_pack_72 : decode cX7_pack 72 = .ok (.aload_n 0, 1) := by decide +kernel
theorem dX7_pack_73 : decode cX7_pack 73 = .ok (.getfield 79, 3) := by decide +kernel
theorem dX7_pack_76 : decode cX7_pack 76 = .ok (.iconst 1, 1) := by decide +kernel
theorem dX7_pack_77 : decode cX7_pack 77 = .ok (.isub, 1) := by decide +kernel
theorem dX7_pack_78 : decode cX7_pack 78 = .ok (.ireturn, 1) := by decide +kernel
theorem dX7_leastOf_0 : decode cX7_leastOf 0 = .ok (.iload_n 0, 1) := by decide +kernel
theorem dX7_leastOf_1 : decode cX7_leastOf 1 = .ok (.iconst 2, 1) := by decide +kernel
theorem dX7_leastOf_2 : decode cX7_leastOf 2 = .ok (.if_icmp .ne 7, 3) := by decide +kernel
theorem dX7_leastOf_5 : decode cX7_leastOf 5 = .ok (.iconst 0, 1) := by decide +kernel
theorem dX7_leastOf_6 : decode cX7_leastOf 6 = .ok (.goto 4, 3) := by decide +kernel
theorem dX7_leastOf_9 : decode cX7_leastOf 9 = .ok (.iconst 1, 1) := by decide +kernel
theorem dX7_leastOf_10 : decode cX7_leastOf 10 = .ok (.ireturn, 1) := by decide +kernel
theorem dX7_mostOf_0 : decode cX7_mostOf 0 = .ok (.iload_n 0, 1) := by decide +kernel
theorem dX7_mostOf_1 : decode cX7_mostOf 1 = .ok (.tableswitch 45 0 4 #[35, 45, 38, 45, 42], 35) := by decide +kernel
theorem dX7_mostOf_36 : decode cX7_mostOf 36 = .ok (.ldc 103, 2) := by decide +kernel
theorem dX7_mostOf_38 : decode cX7_mostOf 38 = .ok (.ireturn, 1) := by decide +kernel
theorem dX7_mostOf_39 : decode cX7_mostOf 39 = .ok (.sipush 1000, 3) := by decide +kernel
theorem dX7_mostOf_42 : decode cX7_mostOf 42 = .ok (.ireturn, 1) := by decide +kernel
theorem dX7_mostOf_43 : decode cX7_mostOf 43 = .ok (.bipush 30, 2) := by decide +kernel
theorem dX7_mostOf_45 : decode cX7_mostOf 45 = .ok (.ireturn, 1) := by decide +kernel
theorem dX7_mostOf_46 : decode cX7_mostOf 46 = .ok (.bipush 100, 2) := by decide +kernel
theorem dX7_mostOf_48 : decode cX7_mostOf 48 = .ok (.ireturn, 1) := by decide +kernel
theorem dX7_set_0 : decode cX7_set 0 = .ok (.aload_n 0, 1) := by decide +kernel
theorem dX7_set_1 : decode cX7_set 1 = .ok (.iconst 0, 1) := by decide +kernel
theorem dX7_set_2 : decode cX7_set 2 = .ok (.putfield 68, 3) := by decide +kernel
theorem dX7_set_5 : decode cX7_set 5 = .ok (.iload_n 1, 1) := by decide +kernel
theorem dX7_set_6 : decode cX7_set 6 = .ok (.iconst 0, 1) := by decide +kernel
theorem dX7_set_7 : decode cX7_set 7 = .ok (.iconst 4, 1) := by decide +kernel
theorem dX7_set_8 : decode cX7_set 8 = .ok (.invokestatic 75, 3) := by decide +kernel
theorem dX7_set_11 : decode cX7_set 11 = .ok (.ifCond .eq 18, 3) := by decide +kernel
theorem dX7_set_14 : decode cX7_set 14 = .ok (.iload_n 2, 1) := by decide +kernel
theorem dX7_set_15 : decode cX7_set 15 = .ok (.iload_n 1, 1) := by decide +kernel
theorem dX7_set_16 : decode cX7_set 16 = .ok (.invokestatic 104, 3) := by decide +kernel
theorem dX7_set_19 : decode cX7_set 19 = .ok (.iload_n 1, 1) := by decide +kernel
theorem dX7_set_20 : decode cX7_set 20 = .ok (.invokestatic 107, 3) := by decide +kernel
theorem dX7_set_23 : decode cX7_set 23 = .ok (.invokestatic 75, 3) := by decide +kernel
theorem dX7_set_26 : decode cX7_set 26 = .ok (.ifCond .ne 5, 3) := by decide +kernel
theorem dX7_set_29 : decode cX7_set 29 = .ok (.iconst (-1), 1) := by decide +kernel
theorem dX7_set_30 : decode cX7_set 30 = .ok (.ireturn, 1) := by decide +kernel
theorem dX7_set_31 : decode cX7_set 31 = .ok (.aload_n 0, 1) := by decide +kernel
theorem dX7_set_32 : decode cX7_set 32 = .ok (.getfield 26, 3) := by decide +kernel
theorem dX7_set_35 : decode cX7_set 35 = .ok (.iload_n 1, 1) := by decide +kernel
theorem dX7_set_36 : decode cX7_set 36 = .ok (.iaload, 1) := by decide +kernel
theorem dX7_set_37 : decode cX7_set 37 = .ok (.istore_n 3, 1) := by decide +kernel
theorem dX7_set_38 : decode cX7_set 38 = .ok (.aload_n 0, 1) := by decide +kernel
theorem dX7_set_39 : decode cX7_set 39 = .ok (.getfield 26, 3) := by decide +kernel
theorem dX7_set_42 : decode cX7_set 42 = .ok (.iload_n 1, 1) := by decide +kernel
theorem dX7_set_43 : decode cX7_set 43 = .ok (.iload_n 2, 1) := by decide +kernel
theorem dX7_set_44 : decode cX7_set 44 = .ok (.iastore, 1) := by decide +kernel
theorem dX7_set_45 : decode cX7_set 45 = .ok (.iload_n 3, 1) := by decide +kernel
theorem dX7_set_46 : decode cX7_set 46 = .ok (.ireturn, 1) := by decide +kernel
theorem dX7_price_0 : decode cX7_price 0 = .ok (.aload_n 0, 1) := by decide +kernel
theorem dX7_price_1 : decode cX7_price 1 = .ok (.iconst 0, 1) := by decide +kernel
theorem dX7_price_2 : decode cX7_price 2 = .ok (.putfield 68, 3) := by decide +kernel
theorem dX7_price_5 : decode cX7_price 5 = .ok (.iload_n 1, 1) := by decide +kernel
theorem dX7_price_6 : decode cX7_price 6 = .ok (.iconst 0, 1) := by decide +kernel
theorem dX7_price_7 : decode cX7_price 7 = .ok (.bipush 23, 2) := by decide +kernel
theorem dX7_price_9 : decode cX7_price 9 = .ok (.invokestatic 75, 3) := by decide +kernel
theorem dX7_price_12 : decode cX7_price 12 = .ok (.ifCond .eq 14, 3) := by decide +kernel
theorem dX7_price_15 : decode cX7_price 15 = .ok (.iload_n 2, 1) := by decide +kernel
theorem dX7_price_16 : decode cX7_price 16 = .ok (.iconst 0, 1) := by decide +kernel
theorem dX7_price_17 : decode cX7_price 17 = .ok (.sipush 1000, 3) := by decide +kernel
theorem dX7_price_20 : decode cX7_price 20 = .ok (.invokestatic 75, 3) := by decide +kernel
theorem dX7_price_23 : decode cX7_price 23 = .ok (.ifCond .ne 5, 3) := by decide +kernel
theorem dX7_price_26 : decode cX7_price 26 = .ok (.iconst 0, 1) := by decide +kernel
theorem dX7_price_27 : decode cX7_price 27 = .ok (.ireturn, 1) := by decide +kernel
theorem dX7_price_28 : decode cX7_price 28 = .ok (.aload_n 0, 1) := by decide +kernel
theorem dX7_price_29 : decode cX7_price 29 = .ok (.getfield 29, 3) := by decide +kernel
theorem dX7_price_32 : decode cX7_price 32 = .ok (.iload_n 1, 1) := by decide +kernel
theorem dX7_price_33 : decode cX7_price 33 = .ok (.iload_n 2, 1) := by decide +kernel
theorem dX7_price_34 : decode cX7_price 34 = .ok (.iastore, 1) := by decide +kernel
theorem dX7_price_35 : decode cX7_price 35 = .ok (.iconst 1, 1) := by decide +kernel
theorem dX7_price_36 : decode cX7_price 36 = .ok (.ireturn, 1) := by decide +kernel
theorem dX7_sick_0 : decode cX7_sick 0 = .ok (.aload_n 0, 1) := by decide +kernel
theorem dX7_sick_1 : decode cX7_sick 1 = .ok (.iconst 0, 1) := by decide +kernel
theorem dX7_sick_2 : decode cX7_sick 2 = .ok (.putfield 68, 3) := by decide +kernel
theorem dX7_sick_5 : decode cX7_sick 5 = .ok (.aload_n 0, 1) := by decide +kernel
theorem dX7_sick_6 : decode cX7_sick 6 = .ok (.iload_n 1, 1) := by decide +kernel
theorem dX7_sick_7 : decode cX7_sick 7 = .ok (.invokevirtual 110, 3) := by decide +kernel
theorem dX7_sick_10 : decode cX7_sick 10 = .ok (.ifCond .ne 5, 3) := by decide +kernel
theorem dX7_sick_13 : decode cX7_sick 13 = .ok (.iconst 0, 1) := by decide +kernel
theorem dX7_sick_14 : decode cX7_sick 14 = .ok (.ireturn, 1) := by decide +kernel
theorem dX7_sick_15 : decode cX7_sick 15 = .ok (.aload_n 0, 1) := by decide +kernel
theorem dX7_sick_16 : decode cX7_sick 16 = .ok (.getfield 22, 3) := by decide +kernel
theorem dX7_sick_19 : decode cX7_sick 19 = .ok (.iload_n 1, 1) := by decide +kernel
theorem dX7_sick_20 : decode cX7_sick 20 = .ok (.iload_n 2, 1) := by decide +kernel
theorem dX7_sick_21 : decode cX7_sick 21 = .ok (.bastore, 1) := by decide +kernel
theorem dX7_sick_22 : decode cX7_sick 22 = .ok (.iconst 1, 1) := by decide +kernel
theorem dX7_sick_23 : decode cX7_sick 23 = .ok (.ireturn, 1) := by decide +kernel
theorem dX7_take_0 : decode cX7_take 0 = .ok (.aload_n 0, 1) := by decide +kernel
theorem dX7_take_1 : decode cX7_take 1 = .ok (.iconst 0, 1) := by decide +kernel
theorem dX7_take_2 : decode cX7_take 2 = .ok (.putfield 68, 3) := by decide +kernel
theorem dX7_take_5 : decode cX7_take 5 = .ok (.aload_n 0, 1) := by decide +kernel
theorem dX7_take_6 : decode cX7_take 6 = .ok (.iload_n 1, 1) := by decide +kernel
theorem dX7_take_7 : decode cX7_take 7 = .ok (.invokevirtual 97, 3) := by decide +kernel
theorem dX7_take_10 : decode cX7_take 10 = .ok (.ifCond .ne 5, 3) := by decide +kernel
theorem dX7_take_13 : decode cX7_take 13 = .ok (.iconst (-1), 1) := by decide +kernel
theorem dX7_take_14 : decode cX7_take 14 = .ok (.ireturn, 1) := by decide +kernel
theorem dX7_take_15 : decode cX7_take 15 = .ok (.aload_n 0, 1) := by decide +kernel
theorem dX7_take_16 : decode cX7_take 16 = .ok (.iload_n 1, 1) := by decide +kernel
theorem dX7_take_17 : decode cX7_take 17 = .ok (.invokevirtual 113, 3) := by decide +kernel
theorem dX7_take_20 : decode cX7_take 20 = .ok (.istore_n 2, 1) := by decide +kernel
theorem dX7_take_21 : decode cX7_take 21 = .ok (.iload_n 2, 1) := by decide +kernel
theorem dX7_take_22 : decode cX7_take 22 = .ok (.iconst (-1), 1) := by decide +kernel
theorem dX7_take_23 : decode cX7_take 23 = .ok (.if_icmp .eq 10, 3) := by decide +kernel
theorem dX7_take_26 : decode cX7_take 26 = .ok (.aload_n 0, 1) := by decide +kernel
theorem dX7_take_27 : decode cX7_take 27 = .ok (.getfield 19, 3) := by decide +kernel
theorem dX7_take_30 : decode cX7_take 30 = .ok (.iload_n 2, 1) := by decide +kernel
theorem dX7_take_31 : decode cX7_take 31 = .ok (.iconst (-1), 1) := by decide +kernel
theorem dX7_take_32 : decode cX7_take 32 = .ok (.iastore, 1) := by decide +kernel
theorem dX7_take_33 : decode cX7_take 33 = .ok (.iload_n 2, 1) := by decide +kernel
theorem dX7_take_34 : decode cX7_take 34 = .ok (.ireturn, 1) := by decide +kernel
theorem dX7_mayCome_0 : decode cX7_mayCome 0 = .ok (.aload_n 0, 1) := by decide +kernel
theorem dX7_mayCome_1 : decode cX7_mayCome 1 = .ok (.iload_n 1, 1) := by decide +kernel
theorem dX7_mayCome_2 : decode cX7_mayCome 2 = .ok (.invokevirtual 110, 3) := by decide +kernel
theorem dX7_mayCome_5 : decode cX7_mayCome 5 = .ok (.ifCond .eq 31, 3) := by decide +kernel
theorem dX7_mayCome_8 : decode cX7_mayCome 8 = .ok (.aload_n 0, 1) := by decide +kernel
theorem dX7_mayCome_9 : decode cX7_mayCome 9 = .ok (.getfield 19, 3) := by decide +kernel
theorem dX7_mayCome_12 : decode cX7_mayCome 12 = .ok (.iload_n 1, 1) := by decide +kernel
theorem dX7_mayCome_13 : decode cX7_mayCome 13 = .ok (.iaload, 1) := by decide +kernel
theorem dX7_mayCome_14 : decode cX7_mayCome 14 = .ok (.iconst (-1), 1) := by decide +kernel
theorem dX7_mayCome_15 : decode cX7_mayCome 15 = .ok (.if_icmp .ne 21, 3) := by decide +kernel
theorem dX7_mayCome_18 : decode cX7_mayCome 18 = .ok (.iload_n 2, 1) := by decide +kernel
theorem dX7_mayCome_19 : decode cX7_mayCome 19 = .ok (.iconst 0, 1) := by decide +kernel
theorem dX7_mayCome_20 : decode cX7_mayCome 20 = .ok (.aload_n 0, 1) := by decide +kernel
theorem dX7_mayCome_21 : decode cX7_mayCome 21 = .ok (.getfield 13, 3) := by decide +kernel
theorem dX7_mayCome_24 : decode cX7_mayCome 24 = .ok (.iload_n 1, 1) := by decide +kernel
theorem dX7_mayCome_25 : decode cX7_mayCome 25 = .ok (.iaload, 1) := by decide +kernel
theorem dX7_mayCome_26 : decode cX7_mayCome 26 = .ok (.invokestatic 75, 3) := by decide +kernel
theorem dX7_mayCome_29 : decode cX7_mayCome 29 = .ok (.ifCond .eq 7, 3) := by decide +kernel
theorem dX7_mayCome_32 : decode cX7_mayCome 32 = .ok (.iconst 1, 1) := by decide +kernel
theorem dX7_mayCome_33 : decode cX7_mayCome 33 = .ok (.goto 4, 3) := by decide +kernel
theorem dX7_mayCome_36 : decode cX7_mayCome 36 = .ok (.iconst 0, 1) := by decide +kernel
theorem dX7_mayCome_37 : decode cX7_mayCome 37 = .ok (.ireturn, 1) := by decide +kernel
theorem dX7_swap_0 : decode cX7_swap 0 = .ok (.aload_n 0, 1) := by decide +kernel
theorem dX7_swap_1 : decode cX7_swap 1 = .ok (.iconst 0, 1) := by decide +kernel
theorem dX7_swap_2 : decode cX7_swap 2 = .ok (.putfield 68, 3) := by decide +kernel
theorem dX7_swap_5 : decode cX7_swap 5 = .ok (.aload_n 0, 1) := by decide +kernel
theorem dX7_swap_6 : decode cX7_swap 6 = .ok (.iload_n 1, 1) := by decide +kernel
theorem dX7_swap_7 : decode cX7_swap 7 = .ok (.invokevirtual 97, 3) := by decide +kernel
theorem dX7_swap_10 : decode cX7_swap 10 = .ok (.ifCond .eq 12, 3) := by decide +kernel
theorem dX7_swap_13 : decode cX7_swap 13 = .ok (.aload_n 0, 1) := by decide +kernel
theorem dX7_swap_14 : decode cX7_swap 14 = .ok (.iload_n 2, 1) := by decide +kernel
theorem dX7_swap_15 : decode cX7_swap 15 = .ok (.iload_n 3, 1) := by decide +kernel
theorem dX7_swap_16 : decode cX7_swap 16 = .ok (.invokevirtual 116, 3) := by decide +kernel
theorem dX7_swap_19 : decode cX7_swap 19 = .ok (.ifCond .ne 5, 3) := by decide +kernel
theorem dX7_swap_22 : decode cX7_swap 22 = .ok (.iconst (-1), 1) := by decide +kernel
theorem dX7_swap_23 : decode cX7_swap 23 = .ok (.ireturn, 1) := by decide +kernel
theorem dX7_swap_24 : decode cX7_swap 24 = .ok (.aload_n 0, 1) := by decide +kernel
theorem dX7_swap_25 : decode cX7_swap 25 = .ok (.iload_n 1, 1) := by decide +kernel
theorem dX7_swap_26 : decode cX7_swap 26 = .ok (.invokevirtual 113, 3) := by decide +kernel
theorem dX7_swap_29 : decode cX7_swap 29 = .ok (.istore 4, 2) := by decide +kernel
theorem dX7_swap_31 : decode cX7_swap 31 = .ok (.iload 4, 2) := by decide +kernel
theorem dX7_swap_33 : decode cX7_swap 33 = .ok (.iconst (-1), 1) := by decide +kernel
theorem dX7_swap_34 : decode cX7_swap 34 = .ok (.if_icmp .ne 5, 3) := by decide +kernel
theorem dX7_swap_37 : decode cX7_swap 37 = .ok (.iconst (-1), 1) := by decide +kernel
theorem dX7_swap_38 : decode cX7_swap 38 = .ok (.ireturn, 1) := by decide +kernel
theorem dX7_swap_39 : decode cX7_swap 39 = .ok (.aload_n 0, 1) := by decide +kernel
theorem dX7_swap_40 : decode cX7_swap 40 = .ok (.getfield 19, 3) := by decide +kernel
theorem dX7_swap_43 : decode cX7_swap 43 = .ok (.iload 4, 2) := by decide +kernel
theorem dX7_swap_45 : decode cX7_swap 45 = .ok (.iconst (-1), 1) := by decide +kernel
theorem dX7_swap_46 : decode cX7_swap 46 = .ok (.iastore, 1) := by decide +kernel
theorem dX7_swap_47 : decode cX7_swap 47 = .ok (.aload_n 0, 1) := by decide +kernel
theorem dX7_swap_48 : decode cX7_swap 48 = .ok (.getfield 19, 3) := by decide +kernel
theorem dX7_swap_51 : decode cX7_swap 51 = .ok (.iload_n 2, 1) := by decide +kernel
theorem dX7_swap_52 : decode cX7_swap 52 = .ok (.iload_n 1, 1) := by decide +kernel
theorem dX7_swap_53 : decode cX7_swap 53 = .ok (.iastore, 1) := by decide +kernel
theorem dX7_swap_54 : decode cX7_swap 54 = .ok (.aload_n 0, 1) := by decide +kernel
theorem dX7_swap_55 : decode cX7_swap 55 = .ok (.getfield 13, 3) := by decide +kernel
theorem dX7_swap_58 : decode cX7_swap 58 = .ok (.iload_n 2, 1) := by decide +kernel
theorem dX7_swap_59 : decode cX7_swap 59 = .ok (.iload_n 3, 1) := by decide +kernel
theorem dX7_swap_60 : decode cX7_swap 60 = .ok (.iastore, 1) := by decide +kernel
theorem dX7_swap_61 : decode cX7_swap 61 = .ok (.iload 4, 2) := by decide +kernel
theorem dX7_swap_63 : decode cX7_swap 63 = .ok (.ireturn, 1) := by decide +kernel
theorem dX7_bring_0 : decode cX7_bring 0 = .ok (.aload_n 0, 1) := by decide +kernel
theorem dX7_bring_1 : decode cX7_bring 1 = .ok (.iconst 0, 1) := by decide +kernel
theorem dX7_bring_2 : decode cX7_bring 2 = .ok (.putfield 68, 3) := by decide +kernel
theorem dX7_bring_5 : decode cX7_bring 5 = .ok (.aload_n 0, 1) := by decide +kernel
theorem dX7_bring_6 : decode cX7_bring 6 = .ok (.iload_n 1, 1) := by decide +kernel
theorem dX7_bring_7 : decode cX7_bring 7 = .ok (.invokevirtual 97, 3) := by decide +kernel
theorem dX7_bring_10 : decode cX7_bring 10 = .ok (.ifCond .eq 20, 3) := by decide +kernel
theorem dX7_bring_13 : decode cX7_bring 13 = .ok (.aload_n 0, 1) := by decide +kernel
theorem dX7_bring_14 : decode cX7_bring 14 = .ok (.iload_n 2, 1) := by decide +kernel
theorem dX7_bring_15 : decode cX7_bring 15 = .ok (.iload_n 3, 1) := by decide +kernel
theorem dX7_bring_16 : decode cX7_bring 16 = .ok (.invokevirtual 116, 3) := by decide +kernel
theorem dX7_bring_19 : decode cX7_bring 19 = .ok (.ifCond .eq 11, 3) := by decide +kernel
theorem dX7_bring_22 : decode cX7_bring 22 = .ok (.aload_n 0, 1) := by decide +kernel
theorem dX7_bring_23 : decode cX7_bring 23 = .ok (.iload_n 1, 1) := by decide +kernel
theorem dX7_bring_24 : decode cX7_bring 24 = .ok (.invokevirtual 100, 3) := by decide +kernel
theorem dX7_bring_27 : decode cX7_bring 27 = .ok (.ifCond .ne 5, 3) := by decide +kernel
theorem dX7_bring_30 : decode cX7_bring 30 = .ok (.iconst (-1), 1) := by decide +kernel
theorem dX7_bring_31 : decode cX7_bring 31 = .ok (.ireturn, 1) := by decide +kernel
theorem dX7_bring_32 : decode cX7_bring 32 = .ok (.aload_n 0, 1) := by decide +kernel
theorem dX7_bring_33 : decode cX7_bring 33 = .ok (.getfield 19, 3) := by decide +kernel
theorem dX7_bring_36 : decode cX7_bring 36 = .ok (.iload_n 2, 1) := by decide +kernel
theorem dX7_bring_37 : decode cX7_bring 37 = .ok (.iload_n 1, 1) := by decide +kernel
theorem dX7_bring_38 : decode cX7_bring 38 = .ok (.iastore, 1) := by decide +kernel
theorem dX7_bring_39 : decode cX7_bring 39 = .ok (.aload_n 0, 1) := by decide +kernel
theorem dX7_bring_40 : decode cX7_bring 40 = .ok (.getfield 13, 3) := by decide +kernel
theorem dX7_bring_43 : decode cX7_bring 43 = .ok (.iload_n 2, 1) := by decide +kernel
theorem dX7_bring_44 : decode cX7_bring 44 = .ok (.iload_n 3, 1) := by decide +kernel
theorem dX7_bring_45 : decode cX7_bring 45 = .ok (.iastore, 1) := by decide +kernel
theorem dX7_bring_46 : decode cX7_bring 46 = .ok (.aload_n 0, 1) := by decide +kernel
theorem dX7_bring_47 : decode cX7_bring 47 = .ok (.iload_n 1, 1) := by decide +kernel
theorem dX7_bring_48 : decode cX7_bring 48 = .ok (.invokevirtual 82, 3) := by decide +kernel
theorem dX7_bring_51 : decode cX7_bring 51 = .ok (.ireturn, 1) := by decide +kernel
theorem dX7_move_0 : decode cX7_move 0 = .ok (.aload_n 0, 1) := by decide +kernel
theorem dX7_move_1 : decode cX7_move 1 = .ok (.iconst 0, 1) := by decide +kernel
theorem dX7_move_2 : decode cX7_move 2 = .ok (.putfield 68, 3) := by decide +kernel
theorem dX7_move_5 : decode cX7_move 5 = .ok (.aload_n 0, 1) := by decide +kernel
theorem dX7_move_6 : decode cX7_move 6 = .ok (.iload_n 1, 1) := by decide +kernel
theorem dX7_move_7 : decode cX7_move 7 = .ok (.invokevirtual 110, 3) := by decide +kernel
theorem dX7_move_10 : decode cX7_move 10 = .ok (.ifCond .eq 39, 3) := by decide +kernel
theorem dX7_move_13 : decode cX7_move 13 = .ok (.aload_n 0, 1) := by decide +kernel
theorem dX7_move_14 : decode cX7_move 14 = .ok (.iload_n 2, 1) := by decide +kernel
theorem dX7_move_15 : decode cX7_move 15 = .ok (.invokevirtual 97, 3) := by decide +kernel
theorem dX7_move_18 : decode cX7_move 18 = .ok (.ifCond .eq 31, 3) := by decide +kernel
theorem dX7_move_21 : decode cX7_move 21 = .ok (.aload_n 0, 1) := by decide +kernel
theorem dX7_move_22 : decode cX7_move 22 = .ok (.getfield 19, 3) := by decide +kernel
theorem dX7_move_25 : decode cX7_move 25 = .ok (.iload_n 1, 1) := by decide +kernel
theorem dX7_move_26 : decode cX7_move 26 = .ok (.iaload, 1) := by decide +kernel
theorem dX7_move_27 : decode cX7_move 27 = .ok (.iconst (-1), 1) := by decide +kernel
theorem dX7_move_28 : decode cX7_move 28 = .ok (.if_icmp .eq 21, 3) := by decide +kernel
theorem dX7_move_31 : decode cX7_move 31 = .ok (.aload_n 0, 1) := by decide +kernel
theorem dX7_move_32 : decode cX7_move 32 = .ok (.getfield 19, 3) := by decide +kernel
theorem dX7_move_35 : decode cX7_move 35 = .ok (.iload_n 1, 1) := by decide +kernel
theorem dX7_move_36 : decode cX7_move 36 = .ok (.iaload, 1) := by decide +kernel
theorem dX7_move_37 : decode cX7_move 37 = .ok (.iload_n 2, 1) := by decide +kernel
theorem dX7_move_38 : decode cX7_move 38 = .ok (.if_icmp .eq 11, 3) := by decide +kernel
theorem dX7_move_41 : decode cX7_move 41 = .ok (.aload_n 0, 1) := by decide +kernel
theorem dX7_move_42 : decode cX7_move 42 = .ok (.iload_n 2, 1) := by decide +kernel
theorem dX7_move_43 : decode cX7_move 43 = .ok (.invokevirtual 100, 3) := by decide +kernel
theorem dX7_move_46 : decode cX7_move 46 = .ok (.ifCond .ne 5, 3) := by decide +kernel
theorem dX7_move_49 : decode cX7_move 49 = .ok (.iconst 0, 1) := by decide +kernel
theorem dX7_move_50 : decode cX7_move 50 = .ok (.ireturn, 1) := by decide +kernel
theorem dX7_move_51 : decode cX7_move 51 = .ok (.aload_n 0, 1) := by decide +kernel
theorem dX7_move_52 : decode cX7_move 52 = .ok (.getfield 19, 3) := by decide +kernel
theorem dX7_move_55 : decode cX7_move 55 = .ok (.iload_n 1, 1) := by decide +kernel
theorem dX7_move_56 : decode cX7_move 56 = .ok (.iload_n 2, 1) := by decide +kernel
theorem dX7_move_57 : decode cX7_move 57 = .ok (.iastore, 1) := by decide +kernel
theorem dX7_move_58 : decode cX7_move 58 = .ok (.iconst 1, 1) := by decide +kernel
theorem dX7_move_59 : decode cX7_move 59 = .ok (.ireturn, 1) := by decide +kernel
theorem dX7_line_0 : decode cX7_line 0 = .ok (.iconst 0, 1) := by decide +kernel
theorem dX7_line_1 : decode cX7_line 1 = .ok (.istore_n 2, 1) := by decide +kernel
theorem dX7_line_2 : decode cX7_line 2 = .ok (.iload_n 2, 1) := by decide +kernel
theorem dX7_line_3 : decode cX7_line 3 = .ok (.aload_n 0, 1) := by decide +kernel
theorem dX7_line_4 : decode cX7_line 4 = .ok (.getfield 79, 3) := by decide +kernel
theorem dX7_line_7 : decode cX7_line 7 = .ok (.if_icmp .ge 16, 3) := by decide +kernel
theorem dX7_line_10 : decode cX7_line 10 = .ok (.aload_n 0, 1) := by decide +kernel
theorem dX7_line_11 : decode cX7_line 11 = .ok (.getfield 53, 3) := by decide +kernel
theorem dX7_line_14 : decode cX7_line 14 = .ok (.iload_n 2, 1) := by decide +kernel
theorem dX7_line_15 : decode cX7_line 15 = .ok (.iconst 0, 1) := by decide +kernel
theorem dX7_line_16 : decode cX7_line 16 = .ok (.bastore, 1) := by decide +kernel
theorem dX7_line_17 : decode cX7_line 17 = .ok (.iinc 2 1, 3) := by decide +kernel
theorem dX7_line_20 : decode cX7_line 20 = .ok (.goto (-18), 3) := by decide +kernel
