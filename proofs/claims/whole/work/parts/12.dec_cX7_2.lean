theorem dX7_goOn_13 : decode cX7_goOn 13 = .ok (.istore 8, 2) := by decide +kernel
theorem dX7_goOn_15 : decode cX7_goOn 15 = .ok (.aload_n 0, 1) := by decide +kernel
theorem dX7_goOn_16 : decode cX7_goOn 16 = .ok (.getfield 153, 3) := by decide +kernel
theorem dX7_goOn_19 : decode cX7_goOn 19 = .ok (.ifCond .lt 13, 3) := by decide +kernel
theorem dX7_goOn_22 : decode cX7_goOn 22 = .ok (.iload 8, 2) := by decide +kernel
theorem dX7_goOn_24 : decode cX7_goOn 24 = .ok (.aload_n 0, 1) := by decide +kernel
theorem dX7_goOn_25 : decode cX7_goOn 25 = .ok (.getfield 153, 3) := by decide +kernel
theorem dX7_goOn_28 : decode cX7_goOn 28 = .ok (.if_icmp .lt 4, 3) := by decide +kernel
theorem dX7_goOn_31 : decode cX7_goOn 31 = .ok (.return_, 1) := by decide +kernel
theorem dX7_goOn_32 : decode cX7_goOn 32 = .ok (.aload_n 0, 1) := by decide +kernel
theorem dX7_goOn_33 : decode cX7_goOn 33 = .ok (.iload 8, 2) := by decide +kernel
theorem dX7_goOn_35 : decode cX7_goOn 35 = .ok (.putfield 153, 3) := by decide +kernel
theorem dX7_goOn_38 : decode cX7_goOn 38 = .ok (.iconst 0, 1) := by decide +kernel
theorem dX7_goOn_39 : decode cX7_goOn 39 = .ok (.istore 9, 2) := by decide +kernel
theorem dX7_goOn_41 : decode cX7_goOn 41 = .ok (.iload 9, 2) := by decide +kernel
theorem dX7_goOn_43 : decode cX7_goOn 43 = .ok (.iload_n 1, 1) := by decide +kernel
theorem dX7_goOn_44 : decode cX7_goOn 44 = .ok (.if_icmp .ge 23, 3) := by decide +kernel
theorem dX7_goOn_47 : decode cX7_goOn 47 = .ok (.aload_n 0, 1) := by decide +kernel
theorem dX7_goOn_48 : decode cX7_goOn 48 = .ok (.getfield 65, 3) := by decide +kernel
theorem dX7_goOn_51 : decode cX7_goOn 51 = .ok (.iload 9, 2) := by decide +kernel
theorem dX7_goOn_53 : decode cX7_goOn 53 = .ok (.aload_n 0, 1) := by decide +kernel
theorem dX7_goOn_54 : decode cX7_goOn 54 = .ok (.getfield 62, 3) := by decide +kernel
theorem dX7_goOn_57 : decode cX7_goOn 57 = .ok (.iload 9, 2) := by decide +kernel
theorem dX7_goOn_59 : decode cX7_goOn 59 = .ok (.iaload, 1) := by decide +kernel
theorem dX7_goOn_60 : decode cX7_goOn 60 = .ok (.iastore, 1) := by decide +kernel
theorem dX7_goOn_61 : decode cX7_goOn 61 = .ok (.iinc 9 1, 3) := by decide +kernel
theorem dX7_goOn_64 : decode cX7_goOn 64 = .ok (.goto (-23), 3) := by decide +kernel
theorem dX7_goOn_67 : decode cX7_goOn 67 = .ok (.return_, 1) := by decide +kernel
theorem dX7_goOn_68 : decode cX7_goOn 68 = .ok (.iconst 0, 1) := by decide +kernel
theorem dX7_goOn_69 : decode cX7_goOn 69 = .ok (.istore 8, 2) := by decide +kernel
theorem dX7_goOn_71 : decode cX7_goOn 71 = .ok (.iload 8, 2) := by decide +kernel
theorem dX7_goOn_73 : decode cX7_goOn 73 = .ok (.aload_n 0, 1) := by decide +kernel
theorem dX7_goOn_74 : decode cX7_goOn 74 = .ok (.getfield 72, 3) := by decide +kernel
theorem dX7_goOn_77 : decode cX7_goOn 77 = .ok (.if_icmp .ge 143, 3) := by decide +kernel
theorem dX7_goOn_80 : decode cX7_goOn 80 = .ok (.iload 7, 2) := by decide +kernel
theorem dX7_goOn_82 : decode cX7_goOn 82 = .ok (.iload 8, 2) := by decide +kernel
theorem dX7_goOn_84 : decode cX7_goOn 84 = .ok (.ishr, 1) := by decide +kernel
theorem dX7_goOn_85 : decode cX7_goOn 85 = .ok (.iconst 1, 1) := by decide +kernel
theorem dX7_goOn_86 : decode cX7_goOn 86 = .ok (.iand, 1) := by decide +kernel
theorem dX7_goOn_87 : decode cX7_goOn 87 = .ok (.ifCond .eq 127, 3) := by decide +kernel
theorem dX7_goOn_90 : decode cX7_goOn 90 = .ok (.iload_n 2, 1) := by decide +kernel
theorem dX7_goOn_91 : decode cX7_goOn 91 = .ok (.iload 8, 2) := by decide +kernel
theorem dX7_goOn_93 : decode cX7_goOn 93 = .ok (.ishr, 1) := by decide +kernel
theorem dX7_goOn_94 : decode cX7_goOn 94 = .ok (.iconst 1, 1) := by decide +kernel
theorem dX7_goOn_95 : decode cX7_goOn 95 = .ok (.iand, 1) := by decide +kernel
theorem dX7_goOn_96 : decode cX7_goOn 96 = .ok (.iconst 1, 1) := by decide +kernel
theorem dX7_goOn_97 : decode cX7_goOn 97 = .ok (.if_icmp .ne 6, 3) := by decide +kernel
theorem dX7_goOn_100 : decode cX7_goOn 100 = .ok (.goto 114, 3) := by decide +kernel
theorem dX7_goOn_103 : decode cX7_goOn 103 = .ok (.iload 5, 2) := by decide +kernel
theorem dX7_goOn_105 : decode cX7_goOn 105 = .ok (.aload_n 0, 1) := by decide +kernel
theorem dX7_goOn_106 : decode cX7_goOn 106 = .ok (.iload 8, 2) := by decide +kernel
theorem dX7_goOn_108 : decode cX7_goOn 108 = .ok (.invokevirtual 82, 3) := by decide +kernel
theorem dX7_goOn_111 : decode cX7_goOn 111 = .ok (.iadd, 1) := by decide +kernel
theorem dX7_goOn_112 : decode cX7_goOn 112 = .ok (.aload_n 0, 1) := by decide +kernel
theorem dX7_goOn_113 : decode cX7_goOn 113 = .ok (.getfield 9, 3) := by decide +kernel
theorem dX7_goOn_116 : decode cX7_goOn 116 = .ok (.bipush 7, 2) := by decide +kernel
theorem dX7_goOn_118 : decode cX7_goOn 118 = .ok (.iload 8, 2) := by decide +kernel
theorem dX7_goOn_120 : decode cX7_goOn 120 = .ok (.imul, 1) := by decide +kernel
theorem dX7_goOn_121 : decode cX7_goOn 121 = .ok (.bipush 6, 2) := by decide +kernel
theorem dX7_goOn_123 : decode cX7_goOn 123 = .ok (.iadd, 1) := by decide +kernel
theorem dX7_goOn_124 : decode cX7_goOn 124 = .ok (.iaload, 1) := by decide +kernel
theorem dX7_goOn_125 : decode cX7_goOn 125 = .ok (.isub, 1) := by decide +kernel
theorem dX7_goOn_126 : decode cX7_goOn 126 = .ok (.istore 9, 2) := by decide +kernel
theorem dX7_goOn_128 : decode cX7_goOn 128 = .ok (.iload 9, 2) := by decide +kernel
theorem dX7_goOn_130 : decode cX7_goOn 130 = .ok (.iconst 0, 1) := by decide +kernel
theorem dX7_goOn_131 : decode cX7_goOn 131 = .ok (.aload_n 0, 1) := by decide +kernel
theorem dX7_goOn_132 : decode cX7_goOn 132 = .ok (.getfield 26, 3) := by decide +kernel
theorem dX7_goOn_135 : decode cX7_goOn 135 = .ok (.iconst 4, 1) := by decide +kernel
theorem dX7_goOn_136 : decode cX7_goOn 136 = .ok (.iaload, 1) := by decide +kernel
theorem dX7_goOn_137 : decode cX7_goOn 137 = .ok (.invokestatic 75, 3) := by decide +kernel
theorem dX7_goOn_140 : decode cX7_goOn 140 = .ok (.ifCond .ne 6, 3) := by decide +kernel
theorem dX7_goOn_143 : decode cX7_goOn 143 = .ok (.goto 71, 3) := by decide +kernel
theorem dX7_goOn_146 : decode cX7_goOn 146 = .ok (.aload_n 0, 1) := by decide +kernel
theorem dX7_goOn_147 : decode cX7_goOn 147 = .ok (.getfield 62, 3) := by decide +kernel
theorem dX7_goOn_150 : decode cX7_goOn 150 = .ok (.iload_n 1, 1) := by decide +kernel
theorem dX7_goOn_151 : decode cX7_goOn 151 = .ok (.iload 8, 2) := by decide +kernel
theorem dX7_goOn_153 : decode cX7_goOn 153 = .ok (.iastore, 1) := by decide +kernel
theorem dX7_goOn_154 : decode cX7_goOn 154 = .ok (.aload_n 0, 1) := by decide +kernel
theorem dX7_goOn_155 : decode cX7_goOn 155 = .ok (.getfield 9, 3) := by decide +kernel
theorem dX7_goOn_158 : decode cX7_goOn 158 = .ok (.bipush 7, 2) := by decide +kernel
theorem dX7_goOn_160 : decode cX7_goOn 160 = .ok (.iload 8, 2) := by decide +kernel
theorem dX7_goOn_162 : decode cX7_goOn 162 = .ok (.imul, 1) := by decide +kernel
theorem dX7_goOn_163 : decode cX7_goOn 163 = .ok (.iaload, 1) := by decide +kernel
theorem dX7_goOn_164 : decode cX7_goOn 164 = .ok (.istore 10, 2) := by decide +kernel
theorem dX7_goOn_166 : decode cX7_goOn 166 = .ok (.aload_n 0, 1) := by decide +kernel
theorem dX7_goOn_167 : decode cX7_goOn 167 = .ok (.getfield 9, 3) := by decide +kernel
theorem dX7_goOn_170 : decode cX7_goOn 170 = .ok (.bipush 7, 2) := by decide +kernel
theorem dX7_goOn_172 : decode cX7_goOn 172 = .ok (.iload 8, 2) := by decide +kernel
theorem dX7_goOn_174 : decode cX7_goOn 174 = .ok (.imul, 1) := by decide +kernel
theorem dX7_goOn_175 : decode cX7_goOn 175 = .ok (.iconst 1, 1) := by decide +kernel
theorem dX7_goOn_176 : decode cX7_goOn 176 = .ok (.iadd, 1) := by decide +kernel
theorem dX7_goOn_177 : decode cX7_goOn 177 = .ok (.iaload, 1) := by decide +kernel
theorem dX7_goOn_178 : decode cX7_goOn 178 = .ok (.istore 11, 2) := by decide +kernel
theorem dX7_goOn_180 : decode cX7_goOn 180 = .ok (.aload_n 0, 1) := by decide +kernel
theorem dX7_goOn_181 : decode cX7_goOn 181 = .ok (.iload_n 1, 1) := by decide +kernel
theorem dX7_goOn_182 : decode cX7_goOn 182 = .ok (.iconst 1, 1) := by decide +kernel
theorem dX7_goOn_183 : decode cX7_goOn 183 = .ok (.iadd, 1) := by decide +kernel
theorem dX7_goOn_184 : decode cX7_goOn 184 = .ok (.iload_n 2, 1) := by decide +kernel
theorem dX7_goOn_185 : decode cX7_goOn 185 = .ok (.iconst 1, 1) := by decide +kernel
theorem dX7_goOn_186 : decode cX7_goOn 186 = .ok (.iload 8, 2) := by decide +kernel
theorem dX7_goOn_188 : decode cX7_goOn 188 = .ok (.ishl, 1) := by decide +kernel
theorem dX7_goOn_189 : decode cX7_goOn 189 = .ok (.ior, 1) := by decide +kernel
theorem dX7_goOn_190 : decode cX7_goOn 190 = .ok (.iload 10, 2) := by decide +kernel
theorem dX7_goOn_192 : decode cX7_goOn 192 = .ok (.iload 11, 2) := by decide +kernel
theorem dX7_goOn_194 : decode cX7_goOn 194 = .ok (.iload 9, 2) := by decide +kernel
theorem dX7_goOn_196 : decode cX7_goOn 196 = .ok (.iload 6, 2) := by decide +kernel
theorem dX7_goOn_198 : decode cX7_goOn 198 = .ok (.iload_n 3, 1) := by decide +kernel
theorem dX7_goOn_199 : decode cX7_goOn 199 = .ok (.iload 4, 2) := by decide +kernel
theorem dX7_goOn_201 : decode cX7_goOn 201 = .ok (.iload 10, 2) := by decide +kernel
theorem dX7_goOn_203 : decode cX7_goOn 203 = .ok (.iload 11, 2) := by decide +kernel
theorem dX7_goOn_205 : decode cX7_goOn 205 = .ok (.invokestatic 156, 3) := by decide +kernel
theorem dX7_goOn_208 : decode cX7_goOn 208 = .ok (.iadd, 1) := by decide +kernel
theorem dX7_goOn_209 : decode cX7_goOn 209 = .ok (.iload 7, 2) := by decide +kernel
theorem dX7_goOn_211 : decode cX7_goOn 211 = .ok (.invokevirtual 160, 3) := by decide +kernel
theorem dX7_goOn_214 : decode cX7_goOn 214 = .ok (.iinc 8 1, 3) := by decide +kernel
theorem dX7_goOn_217 : decode cX7_goOn 217 = .ok (.goto (-146), 3) := by decide +kernel
theorem dX7_goOn_220 : decode cX7_goOn 220 = .ok (.return_, 1) := by decide +kernel
theorem dX7_round_0 : decode cX7_round 0 = .ok (.aload_n 0, 1) := by decide +kernel
theorem dX7_round_1 : decode cX7_round 1 = .ok (.iconst 0, 1) := by decide +kernel
theorem dX7_round_2 : decode cX7_round 2 = .ok (.putfield 68, 3) := by decide +kernel
theorem dX7_round_5 : decode cX7_round 5 = .ok (.iconst 0, 1) := by decide +kernel
theorem dX7_round_6 : decode cX7_round 6 = .ok (.istore_n 1, 1) := by decide +kernel
theorem dX7_round_7 : decode cX7_round 7 = .ok (.iconst 0, 1) := by decide +kernel
theorem dX7_round_8 : decode cX7_round 8 = .ok (.istore_n 2, 1) := by decide +kernel
theorem dX7_round_9 : decode cX7_round 9 = .ok (.iload_n 2, 1) := by decide +kernel
theorem dX7_round_10 : decode cX7_round 10 = .ok (.aload_n 0, 1) := by decide +kernel
theorem dX7_round_11 : decode cX7_round 11 = .ok (.getfield 72, 3) := by decide +kernel
theorem dX7_round_14 : decode cX7_round 14 = .ok (.if_icmp .ge 35, 3) := by decide +kernel
theorem dX7_round_17 : decode cX7_round 17 = .ok (.aload_n 0, 1) := by decide +kernel
theorem dX7_round_18 : decode cX7_round 18 = .ok (.iload_n 2, 1) := by decide +kernel
theorem dX7_round_19 : decode cX7_round 19 = .ok (.invokevirtual 82, 3) := by decide +kernel
theorem dX7_round_22 : decode cX7_round 22 = .ok (.aload_n 0, 1) := by decide +kernel
theorem dX7_round_23 : decode cX7_round 23 = .ok (.getfield 9, 3) := by decide +kernel
theorem dX7_round_26 : decode cX7_round 26 = .ok (.bipush 7, 2) := by decide +kernel
theorem dX7_round_28 : decode cX7_round 28 = .ok (.iload_n 2, 1) := by decide +kernel
theorem dX7_round_29 : decode cX7_round 29 = .ok (.imul, 1) := by decide +kernel
theorem dX7_round_30 : decode cX7_round 30 = .ok (.bipush 6, 2) := by decide +kernel
theorem dX7_round_32 : decode cX7_round 32 = .ok (.iadd, 1) := by decide +kernel
theorem dX7_round_33 : decode cX7_round 33 = .ok (.iaload, 1) := by decide +kernel
theorem dX7_round_34 : decode cX7_round 34 = .ok (.if_icmp .eq 9, 3) := by decide +kernel
theorem dX7_round_37 : decode cX7_round 37 = .ok (.iload_n 1, 1) := by decide +kernel
theorem dX7_round_38 : decode cX7_round 38 = .ok (.iconst 1, 1) := by decide +kernel
theorem dX7_round_39 : decode cX7_round 39 = .ok (.iload_n 2, 1) := by decide +kernel
theorem dX7_round_40 : decode cX7_round 40 = .ok (.ishl, 1) := by decide +kernel
theorem dX7_round_41 : decode cX7_round 41 = .ok (.ior, 1) := by decide +kernel
theorem dX7_round_42 : decode cX7_round 42 = .ok (.istore_n 1, 1) := by decide +kernel
theorem dX7_round_43 : decode cX7_round 43 = .ok (.iinc 2 1, 3) := by decide +kernel
theorem dX7_round_46 : decode cX7_round 46 = .ok (.goto (-37), 3) := by decide +kernel
theorem dX7_round_49 : decode cX7_round 49 = .ok (.aload_n 0, 1) := by decide +kernel
theorem dX7_round_50 : decode cX7_round 50 = .ok (.iconst (-1), 1) := by decide +kernel
theorem dX7_round_51 : decode cX7_round 51 = .ok (.putfield 153, 3) := by decide +kernel
theorem dX7_round_54 : decode cX7_round 54 = .ok (.aload_n 0, 1) := by decide +kernel
theorem dX7_round_55 : decode cX7_round 55 = .ok (.iconst 0, 1) := by decide +kernel
theorem dX7_round_56 : decode cX7_round 56 = .ok (.iconst 0, 1) := by decide +kernel
theorem dX7_round_57 : decode cX7_round 57 = .ok (.iconst 0, 1) := by decide +kernel
theorem dX7_round_58 : decode cX7_round 58 = .ok (.iconst 0, 1) := by decide +kernel
theorem dX7_round_59 : decode cX7_round 59 = .ok (.iconst 0, 1) := by decide +kernel
theorem dX7_round_60 : decode cX7_round 60 = .ok (.iconst 0, 1) := by decide +kernel
theorem dX7_round_61 : decode cX7_round 61 = .ok (.iload_n 1, 1) := by decide +kernel
theorem dX7_round_62 : decode cX7_round 62 = .ok (.invokevirtual 160, 3) := by decide +kernel
theorem dX7_round_65 : decode cX7_round 65 = .ok (.aload_n 0, 1) := by decide +kernel
theorem dX7_round_66 : decode cX7_round 66 = .ok (.getfield 153, 3) := by decide +kernel
theorem dX7_round_69 : decode cX7_round 69 = .ok (.ifCond .ge 6, 3) := by decide +kernel
theorem dX7_round_72 : decode cX7_round 72 = .ok (.bipush (-2), 2) := by decide +kernel
theorem dX7_round_74 : decode cX7_round 74 = .ok (.ireturn, 1) := by decide +kernel
theorem dX7_round_75 : decode cX7_round 75 = .ok (.aload_n 0, 1) := by decide +kernel
theorem dX7_round_76 : decode cX7_round 76 = .ok (.iload_n 1, 1) := by decide +kernel
theorem dX7_round_77 : decode cX7_round 77 = .ok (.invokestatic 164, 3) := by decide +kernel
theorem dX7_round_80 : decode cX7_round 80 = .ok (.putfield 169, 3) := by decide +kernel
theorem dX7_round_83 : decode cX7_round 83 = .ok (.iconst 0, 1) := by decide +kernel
theorem dX7_round_84 : decode cX7_round 84 = .ok (.istore_n 2, 1) := by decide +kernel
theorem dX7_round_85 : decode cX7_round 85 = .ok (.iload_n 2, 1) := by decide +kernel
theorem dX7_round_86 : decode cX7_round 86 = .ok (.aload_n 0, 1) := by decide +kernel
theorem dX7_round_87 : decode cX7_round 87 = .ok (.getfield 169, 3) := by decide +kernel
theorem dX7_round_90 : decode cX7_round 90 = .ok (.if_icmp .ge 21, 3) := by decide +kernel
theorem dX7_round_93 : decode cX7_round 93 = .ok (.aload_n 0, 1) := by decide +kernel
theorem dX7_round_94 : decode cX7_round 94 = .ok (.getfield 38, 3) := by decide +kernel
theorem dX7_round_97 : decode cX7_round 97 = .ok (.iload_n 2, 1) := by decide +kernel
theorem dX7_round_98 : decode cX7_round 98 = .ok (.aload_n 0, 1) := by decide +kernel
theorem dX7_round_99 : decode cX7_round 99 = .ok (.getfield 65, 3) := by decide +kernel
theorem dX7_round_102 : decode cX7_round 102 = .ok (.iload_n 2, 1) := by decide +kernel
theorem dX7_round_103 : decode cX7_round 103 = .ok (.iaload, 1) := by decide +kernel
theorem dX7_round_104 : decode cX7_round 104 = .ok (.iastore, 1) := by decide +kernel
theorem dX7_round_105 : decode cX7_round 105 = .ok (.iinc 2 1, 3) := by decide +kernel
theorem dX7_round_108 : decode cX7_round 108 = .ok (.goto (-23), 3) := by decide +kernel
theorem dX7_round_111 : decode cX7_round 111 = .ok (.aload_n 0, 1) := by decide +kernel
theorem dX7_round_112 : decode cX7_round 112 = .ok (.getfield 153, 3) := by decide +kernel
theorem dX7_round_115 : decode cX7_round 115 = .ok (.ireturn, 1) := by decide +kernel
theorem dX7_stop_0 : decode cX7_stop 0 = .ok (.aload_n 0, 1) := by decide +kernel
theorem dX7_stop_1 : decode cX7_stop 1 = .ok (.iconst 0, 1) := by decide +kernel
theorem dX7_stop_2 : decode cX7_stop 2 = .ok (.putfield 68, 3) := by decide +kernel
theorem dX7_stop_5 : decode cX7_stop 5 = .ok (.iload_n 1, 1) := by decide +kernel
theorem dX7_stop_6 : decode cX7_stop 6 = .ok (.iconst 0, 1) := by decide +kernel
theorem dX7_stop_7 : decode cX7_stop 7 = .ok (.aload_n 0, 1) := by decide +kernel
theorem dX7_stop_8 : decode cX7_stop 8 = .ok (.getfield 169, 3) := by decide +kernel
theorem dX7_stop_11 : decode cX7_stop 11 = .ok (.iconst 1, 1) := by decide +kernel
theorem dX7_stop_12 : decode cX7_stop 12 = .ok (.isub, 1) := by decide +kernel
theorem dX7_stop_13 : decode cX7_stop 13 = .ok (.invokestatic 75, 3) := by decide +kernel
theorem dX7_stop_16 : decode cX7_stop 16 = .ok (.ifCond .eq 12, 3) := by decide +kernel
theorem dX7_stop_19 : decode cX7_stop 19 = .ok (.aload_n 0, 1) := by decide +kernel
theorem dX7_stop_20 : decode cX7_stop 20 = .ok (.getfield 38, 3) := by decide +kernel
theorem dX7_stop_23 : decode cX7_stop 23 = .ok (.iload_n 1, 1) := by decide +kernel
theorem dX7_stop_24 : decode cX7_stop 24 = .ok (.iaload, 1) := by decide +kernel
theorem dX7_stop_25 : decode cX7_stop 25 = .ok (.goto 4, 3) := by decide +kernel
theorem dX7_stop_28 : decode cX7_stop 28 = .ok (.iconst (-1), 1) := by decide +kernel
theorem dX7_stop_29 : decode cX7_stop 29 = .ok (.ireturn, 1) := by decide +kernel
theorem dX7_point_0 : decode cX7_point 0 = .ok (.aload_n 0, 1) := by decide +kernel
theorem dX7_point_1 : decode cX7_point 1 = .ok (.iconst 0, 1) := by decide +kernel
theorem dX7_point_2 : decode cX7_point 2 = .ok (.putfield 68, 3) := by decide +kernel
theorem dX7_point_5 : decode cX7_point 5 = .ok (.iload_n 1, 1) := by decide +kernel
theorem dX7_point_6 : decode cX7_point 6 = .ok (.iconst 0, 1) := by decide +kernel
theorem dX7_point_7 : decode cX7_point 7 = .ok (.iconst 1, 1) := by decide +kernel
theorem dX7_point_8 : decode cX7_point 8 = .ok (.invokestatic 75, 3) := by decide +kernel
theorem dX7_point_11 : decode cX7_point 11 = .ok (.ifCond .eq 48, 3) := by decide +kernel
theorem dX7_point_14 : decode cX7_point 14 = .ok (.iload_n 2, 1) := by decide +kernel
theorem dX7_point_15 : decode cX7_point 15 = .ok (.iconst 0, 1) := by decide +kernel
theorem dX7_point_16 : decode cX7_point 16 = .ok (.bipush 99, 2) := by decide +kernel
theorem dX7_point_18 : decode cX7_point 18 = .ok (.invokestatic 75, 3) := by decide +kernel
theorem dX7_point_21 : decode cX7_point 21 = .ok (.ifCond .eq 38, 3) := by decide +kernel
theorem dX7_point_24 : decode cX7_point 24 = .ok (.iload_n 3, 1) := by decide +kernel
theorem dX7_point_25 : decode cX7_point 25 = .ok (.iconst 0, 1) := by decide +kernel
theorem dX7_point_26 : decode cX7_point 26 = .ok (.bipush 99, 2) := by decide +kernel
theorem dX7_point_28 : decode cX7_point 28 = .ok (.invokestatic 75, 3) := by decide +kernel
theorem dX7_point_31 : decode cX7_point 31 = .ok (.ifCond .eq 28, 3) := by decide +kernel
theorem dX7_point_34 : decode cX7_point 34 = .ok (.iload_n 1, 1) := by decide +kernel
theorem dX7_point_35 : decode cX7_point 35 = .ok (.ifCond .ne 15, 3) := by decide +kernel
theorem dX7_point_38 : decode cX7_point 38 = .ok (.aload_n 0, 1) := by decide +kernel
theorem dX7_point_39 : decode cX7_point 39 = .ok (.getfield 140, 3) := by decide +kernel
theorem dX7_point_42 : decode cX7_point 42 = .ok (.bipush 12, 2) := by decide +kernel
theorem dX7_point_44 : decode cX7_point 44 = .ok (.if_icmp .ne 17, 3) := by decide +kernel
theorem dX7_point_47 : decode cX7_point 47 = .ok (.goto 12, 3) := by decide +kernel
theorem dX7_point_50 : decode cX7_point 50 = .ok (.aload_n 0, 1) := by decide +kernel
theorem dX7_point_51 : decode cX7_point 51 = .ok (.getfield 143, 3) := by decide +kernel
theorem dX7_point_54 : decode cX7_point 54 = .ok (.bipush 8, 2) := by decide +kernel
theorem dX7_point_56 : decode cX7_point 56 = .ok (.if_icmp .ne 5, 3) := by decide +kernel
theorem dX7_point_59 : decode cX7_point 59 = .ok (.iconst (-1), 1) := by decide +kernel
theorem dX7_point_60 : decode cX7_point 60 = .ok (.ireturn, 1) := by decide +kernel
theorem dX7_point_61 : decode cX7_point 61 = .ok (.iload_n 1, 1) := by decide +kernel
theorem dX7_point_62 : decode cX7_point 62 = .ok (.ifCond .ne 40, 3) := by decide +kernel
theorem dX7_point_65 : decode cX7_point 65 = .ok (.aload_n 0, 1) := by decide +kernel
theorem dX7_point_66 : decode cX7_point 66 = .ok (.getfield 41, 3) := by decide +kernel
theorem dX7_point_69 : decode cX7_point 69 = .ok (.aload_n 0, 1) := by decide +kernel
theorem dX7_point_70 : decode cX7_point 70 = .ok (.getfield 140, 3) := by decide +kernel
theorem dX7_point_73 : decode cX7_point 73 = .ok (.iload_n 2, 1) := by decide +kernel
theorem dX7_point_74 : decode cX7_point 74 = .ok (.iastore, 1) := by decide +kernel
theorem dX7_point_75 : decode cX7_point 75 = .ok (.aload_n 0, 1) := by decide +kernel
theorem dX7_point_76 : decode cX7_point 76 = .ok (.getfield 44, 3) := by decide +kernel
theorem dX7_point_79 : decode cX7_point 79 = .ok (.aload_n 0, 1) := by decide +kernel
theorem dX7_point_80 : decode cX7_point 80 = .ok (.getfield 140, 3) := by decide +kernel
theorem dX7_point_83 : decode cX7_point 83 = .ok (.iload_n 3, 1) := by decide +kernel
theorem dX7_point_84 : decode cX7_point 84 = .ok (.iastore, 1) := by decide +kernel
theorem dX7_point_85 : decode cX7_point 85 = .ok (.aload_n 0, 1) := by decide +kernel
theorem dX7_point_86 : decode cX7_point 86 = .ok (.dup, 1) := by decide +kernel
theorem dX7_point_87 : decode cX7_point 87 = .ok (.getfield 140, 3) := by decide +kernel
theorem dX7_point_90 : decode cX7_point 90 = .ok (.iconst 1, 1) := by decide +kernel
theorem dX7_point_91 : decode cX7_point 91 = .ok (.iadd, 1) := by decide +kernel
theorem dX7_point_92 : decode cX7_point 92 = .ok (.putfield 140, 3) := by decide +kernel
theorem dX7_point_95 : decode cX7_point 95 = .ok (.aload_n 0, 1) := by decide +kernel
theorem dX7_point_96 : decode cX7_point 96 = .ok (.getfield 140, 3) := by decide +kernel
theorem dX7_point_99 : decode cX7_point 99 = .ok (.iconst 1, 1) := by decide +kernel
theorem dX7_point_100 : decode cX7_point 100 = .ok (.isub, 1) := by decide +kernel
theorem dX7_point_101 : decode cX7_point 101 = .ok (.ireturn, 1) := by decide +kernel
theorem dX7_point_102 : decode cX7_point 102 = .ok (.aload_n 0, 1) := by decide +kernel
theorem dX7_point_103 : decode cX7_point 103 = .ok (.getfield 47, 3) := by decide +kernel
theorem dX7_point_106 : decode cX7_point 106 = .ok (.aload_n 0, 1) := by decide +kernel
theorem dX7_point_107 : decode cX7_point 107 = .ok (.getfield 143, 3) := by decide +kernel
theorem dX7_point_110 : decode cX7_point 110 = .ok (.iload_n 2, 1) := by decide +kernel
theorem dX7_point_111 : decode cX7_point 111 = .ok (.iastore, 1) := by decide +kernel
theorem dX7_point_112 : decode cX7_point 112 = .ok (.aload_n 0, 1) := by decide +kernel
theorem dX7_point_113 : decode cX7_point 113 = .ok (.getfield 50, 3) := by decide +kernel
theorem dX7_point_116 : decode cX7_point 116 = .ok (.aload_n 0, 1) := by decide +kernel
theorem dX7_point_117 : decode cX7_point 117 = .ok (.getfield 143, 3) := by decide +kernel
theorem dX7_point_120 : decode cX7_point 120 = .ok (.iload_n 3, 1) := by decide +kernel
theorem dX7_point_121 : decode cX7_point 121 = .ok (.iastore, 1) := by decide +kernel
theorem dX7_point_122 : decode cX7_point 122 = .ok (.aload_n 0, 1) := by decide +kernel
theorem dX7_point_123 : decode cX7_point 123 = .ok (.dup, 1) := by decide +kernel
theorem dX7_point_124 : decode cX7_point 124 = .ok (.getfield 143, 3) := by decide +kernel
theorem dX7_point_127 : decode cX7_point 127 = .ok (.iconst 1, 1) := by decide +kernel
theorem dX7_point_128 : decode cX7_point 128 = .ok (.iadd, 1) := by decide +kernel
theorem dX7_point_129 : decode cX7_point 129 = .ok (.putfield 143, 3) := by decide +kernel
theorem dX7_point_132 : decode cX7_point 132 = .ok (.aload_n 0, 1) := by decide +kernel
theorem dX7_point_133 : decode cX7_point 133 = .ok (.getfield 143, 3) := by decide +kernel
theorem dX7_point_136 : decode cX7_point 136 = .ok (.iconst 1, 1) := by decide +kernel
theorem dX7_point_137 : decode cX7_point 137 = .ok (.isub, 1) := by decide +kernel
theorem dX7_point_138 : decode cX7_point 138 = .ok (.ireturn, 1) := by decide +kernel
theorem dX7_sumOf_0 : decode cX7_sumOf 0 = .ok (.iconst 0, 1) := by decide +kernel
theorem dX7_sumOf_1 : decode cX7_sumOf 1 = .ok (.istore_n 2, 1) := by decide +kernel
theorem dX7_sumOf_2 : decode cX7_sumOf 2 = .ok (.iconst 0, 1) := by decide +kernel
theorem dX7_sumOf_3 : decode cX7_sumOf 3 = .ok (.istore_n 3, 1) := by decide +kernel
theorem dX7_sumOf_4 : decode cX7_sumOf 4 = .ok (.iload_n 3, 1) := by decide +kernel
theorem dX7_sumOf_5 : decode cX7_sumOf 5 = .ok (.aload_n 0, 1) := by decide +kernel
theorem dX7_sumOf_6 : decode cX7_sumOf 6 = .ok (.getfield 140, 3) := by decide +kernel
theorem dX7_sumOf_9 : decode cX7_sumOf 9 = .ok (.if_icmp .ge 144, 3) := by decide +kernel
theorem dX7_sumOf_12 : decode cX7_sumOf 12 = .ok (.ldc 146, 2) := by decide +kernel
theorem dX7_sumOf_14 : decode cX7_sumOf 14 = .ok (.istore 4, 2) := by decide +kernel
theorem dX7_sumOf_16 : decode cX7_sumOf 16 = .ok (.iconst 0, 1) := by decide +kernel
theorem dX7_sumOf_17 : decode cX7_sumOf 17 = .ok (.istore 5, 2) := by decide +kernel
theorem dX7_sumOf_19 : decode cX7_sumOf 19 = .ok (.iload 5, 2) := by decide +kernel
theorem dX7_sumOf_21 : decode cX7_sumOf 21 = .ok (.aload_n 0, 1) := by decide +kernel
theorem dX7_sumOf_22 : decode cX7_sumOf 22 = .ok (.getfield 72, 3) := by decide +kernel
theorem dX7_sumOf_25 : decode cX7_sumOf 25 = .ok (.if_icmp .ge 53, 3) := by decide +kernel
theorem dX7_sumOf_28 : decode cX7_sumOf 28 = .ok (.iload 4, 2) := by decide +kernel
theorem dX7_sumOf_30 : decode cX7_sumOf 30 = .ok (.aload_n 0, 1) := by decide +kernel
theorem dX7_sumOf_31 : decode cX7_sumOf 31 = .ok (.getfield 41, 3) := by decide +kernel
theorem dX7_sumOf_34 : decode cX7_sumOf 34 = .ok (.iload_n 3, 1) := by decide +kernel
theorem dX7_sumOf_35 : decode cX7_sumOf 35 = .ok (.iaload, 1) := by decide +kernel
theorem dX7_sumOf_36 : decode cX7_sumOf 36 = .ok (.aload_n 0, 1) := by decide +kernel
theorem dX7_sumOf_37 : decode cX7_sumOf 37 = .ok (.getfield 44, 3) := by decide +kernel
theorem dX7_sumOf_40 : decode cX7_sumOf 40 = .ok (.iload_n 3, 1) := by decide +kernel
theorem dX7_sumOf_41 : decode cX7_sumOf 41 = .ok (.iaload, 1) := by decide +kernel
theorem dX7_sumOf_42 : decode cX7_sumOf 42 = .ok (.aload_n 0, 1) := by decide +kernel
theorem dX7_sumOf_43 : decode cX7_sumOf 43 = .ok (.getfield 9, 3) := by decide +kernel
theorem dX7_sumOf_46 : decode cX7_sumOf 46 = .ok (.bipush 7, 2) := by decide +kernel
theorem dX7_sumOf_48 : decode cX7_sumOf 48 = .ok (.iload 5, 2) := by decide +kernel
theorem dX7_sumOf_50 : decode cX7_sumOf 50 = .ok (.imul, 1) := by decide +kernel
theorem dX7_sumOf_51 : decode cX7_sumOf 51 = .ok (.iaload, 1) := by decide +kernel
theorem dX7_sumOf_52 : decode cX7_sumOf 52 = .ok (.aload_n 0, 1) := by decide +kernel
theorem dX7_sumOf_53 : decode cX7_sumOf 53 = .ok (.getfield 9, 3) := by decide +kernel
theorem dX7_sumOf_56 : decode cX7_sumOf 56 = .ok (.bipush 7, 2) := by decide +kernel
theorem dX7_sumOf_58 : decode cX7_sumOf 58 = .ok (.iload 5, 2) := by decide +kernel
theorem dX7_sumOf_60 : decode cX7_sumOf 60 = .ok (.imul, 1) := by decide +kernel
theorem dX7_sumOf_61 : decode cX7_sumOf 61 = .ok (.iconst 1, 1) := by decide +kernel
theorem dX7_sumOf_62 : decode cX7_sumOf 62 = .ok (.iadd, 1) := by decide +kernel
theorem dX7_sumOf_63 : decode cX7_sumOf 63 = .ok (.iaload, 1) := by decide +kernel
theorem dX7_sumOf_64 : decode cX7_sumOf 64 = .ok (.invokestatic 156, 3) := by decide +kernel
theorem dX7_sumOf_67 : decode cX7_sumOf 67 = .ok (.invokestatic 128, 3) := by decide +kernel
theorem dX7_sumOf_70 : decode cX7_sumOf 70 = .ok (.istore 4, 2) := by decide +kernel
theorem dX7_sumOf_72 : decode cX7_sumOf 72 = .ok (.iinc 5 1, 3) := by decide +kernel
theorem dX7_sumOf_75 : decode cX7_sumOf 75 = .ok (.goto (-56), 3) := by decide +kernel
theorem dX7_sumOf_78 : decode cX7_sumOf 78 = .ok (.iconst 0, 1) := by decide +kernel
theorem dX7_sumOf_79 : decode cX7_sumOf 79 = .ok (.istore 5, 2) := by decide +kernel
theorem dX7_sumOf_81 : decode cX7_sumOf 81 = .ok (.iload 5, 2) := by decide +kernel
theorem dX7_sumOf_83 : decode cX7_sumOf 83 = .ok (.aload_n 0, 1) := by decide +kernel
theorem dX7_sumOf_84 : decode cX7_sumOf 84 = .ok (.getfield 143, 3) := by decide +kernel
theorem dX7_sumOf_87 : decode cX7_sumOf 87 = .ok (.if_icmp .ge 55, 3) := by decide +kernel
theorem dX7_sumOf_90 : decode cX7_sumOf 90 = .ok (.iload_n 1, 1) := by decide +kernel
theorem dX7_sumOf_91 : decode cX7_sumOf 91 = .ok (.iload 5, 2) := by decide +kernel
theorem dX7_sumOf_93 : decode cX7_sumOf 93 = .ok (.ishr, 1) := by decide +kernel
theorem dX7_sumOf_94 : decode cX7_sumOf 94 = .ok (.iconst 1, 1) := by decide +kernel
theorem dX7_sumOf_95 : decode cX7_sumOf 95 = .ok (.iand, 1) := by decide +kernel
theorem dX7_sumOf_96 : decode cX7_sumOf 96 = .ok (.iconst 1, 1) := by decide +kernel
theorem dX7_sumOf_97 : decode cX7_sumOf 97 = .ok (.if_icmp .ne 39, 3) := by decide +kernel
theorem dX7_sumOf_100 : decode cX7_sumOf 100 = .ok (.iload 4, 2) := by decide +kernel
theorem dX7_sumOf_102 : decode cX7_sumOf 102 = .ok (.aload_n 0, 1) := by decide +kernel
theorem dX7_sumOf_103 : decode cX7_sumOf 103 = .ok (.getfield 41, 3) := by decide +kernel
theorem dX7_sumOf_106 : decode cX7_sumOf 106 = .ok (.iload_n 3, 1) := by decide +kernel
theorem dX7_sumOf_107 : decode cX7_sumOf 107 = .ok (.iaload, 1) := by decide +kernel
theorem dX7_sumOf_108 : decode cX7_sumOf 108 = .ok (.aload_n 0, 1) := by decide +kernel
theorem dX7_sumOf_109 : decode cX7_sumOf 109 = .ok (.getfield 44, 3) := by decide +kernel
theorem dX7_sumOf_112 : decode cX7_sumOf 112 = .ok (.iload_n 3, 1) := by decide +kernel
theorem dX7_sumOf_113 : decode cX7_sumOf 113 = .ok (.iaload, 1) := by decide +kernel
theorem dX7_sumOf_114 : decode cX7_sumOf 114 = .ok (.aload_n 0, 1) := by decide +kernel
theorem dX7_sumOf_115 : decode cX7_sumOf 115 = .ok (.getfield 47, 3) := by decide +kernel
theorem dX7_sumOf_118 : decode cX7_sumOf 118 = .ok (.iload 5, 2) := by decide +kernel
theorem dX7_sumOf_120 : decode cX7_sumOf 120 = .ok (.iaload, 1) := by decide +kernel
theorem dX7_sumOf_121 : decode cX7_sumOf 121 = .ok (.aload_n 0, 1) := by decide +kernel
theorem dX7_sumOf_122 : decode cX7_sumOf 122 = .ok (.getfield 50, 3) := by decide +kernel
theorem dX7_sumOf_125 : decode cX7_sumOf 125 = .ok (.iload 5, 2) := by decide +kernel
theorem dX7_sumOf_127 : decode cX7_sumOf 127 = .ok (.iaload, 1) := by decide +kernel
theorem dX7_sumOf_128 : decode cX7_sumOf 128 = .ok (.invokestatic 156, 3) := by decide +kernel
theorem dX7_sumOf_131 : decode cX7_sumOf 131 = .ok (.invokestatic 128, 3) := by decide +kernel
theorem dX7_sumOf_134 : decode cX7_sumOf 134 = .ok (.istore 4, 2) := by decide +kernel
theorem dX7_sumOf_136 : decode cX7_sumOf 136 = .ok (.iinc 5 1, 3) := by decide +kernel
theorem dX7_sumOf_139 : decode cX7_sumOf 139 = .ok (.goto (-58), 3) := by decide +kernel
theorem dX7_sumOf_142 : decode cX7_sumOf 142 = .ok (.iload_n 2, 1) := by decide +kernel
theorem dX7_sumOf_143 : decode cX7_sumOf 143 = .ok (.iload 4, 2) := by decide +kernel
theorem dX7_sumOf_145 : decode cX7_sumOf 145 = .ok (.iadd, 1) := by decide +kernel
theorem dX7_sumOf_146 : decode cX7_sumOf 146 = .ok (.istore_n 2, 1) := by decide +kernel
theorem dX7_sumOf_147 : decode cX7_sumOf 147 = .ok (.iinc 3 1, 3) := by decide +kernel
theorem dX7_sumOf_150 : decode cX7_sumOf 150 = .ok (.goto (-146), 3) := by decide +kernel
theorem dX7_sumOf_153 : decode cX7_sumOf 153 = .ok (.iload_n 2, 1) := by decide +kernel
theorem dX7_sumOf_154 : decode cX7_sumOf 154 = .ok (.ireturn, 1) := by decide +kernel
theorem dX7_isFirst_0 : decode cX7_isFirst 0 = .ok (.iload_n 0, 1) := by decide +kernel
theorem dX7_isFirst_1 : decode cX7_isFirst 1 = .ok (.iload_n 0, 1) := by decide +kernel
theorem dX7_isFirst_2 : decode cX7_isFirst 2 = .ok (.iload_n 1, 1) := by decide +kernel
theorem dX7_isFirst_3 : decode cX7_isFirst 3 = .ok (.ixor, 1) := by decide +kernel
theorem dX7_isFirst_4 : decode cX7_isFirst 4 = .ok (.invokestatic 172, 3) := by decide +kernel
theorem dX7_isFirst_7 : decode cX7_isFirst 7 = .ok (.ishr, 1) := by decide +kernel
theorem dX7_isFirst_8 : decode cX7_isFirst 8 = .ok (.iconst 1, 1) := by decide +kernel
theorem dX7_isFirst_9 : decode cX7_isFirst 9 = .ok (.iand, 1) := by decide +kernel
theorem dX7_isFirst_10 : decode cX7_isFirst 10 = .ok (.iconst 1, 1) := by decide +kernel
theorem dX7_isFirst_11 : decode cX7_isFirst 11 = .ok (.if_icmp .ne 7, 3) := by decide +kernel
theorem dX7_isFirst_14 : decode cX7_isFirst 14 = .ok (.iconst 1, 1) := by decide +kernel
theorem dX7_isFirst_15 : decode cX7_isFirst 15 = .ok (.goto 4, 3) := by decide +kernel
theorem dX7_isFirst_18 : decode cX7_isFirst 18 = .ok (.iconst 0, 1) := by decide +kernel
theorem dX7_isFirst_19 : decode cX7_isFirst 19 = .ok (.ireturn, 1) := by decide +kernel
theorem dX7_places_0 : decode cX7_places 0 = .ok (.aload_n 0, 1) := by decide +kernel
theorem dX7_places_1 : decode cX7_places 1 = .ok (.iconst 0, 1) := by decide +kernel
theorem dX7_places_2 : decode cX7_places 2 = .ok (.putfield 68, 3) := by decide +kernel
theorem dX7_places_5 : decode cX7_places 5 = .ok (.iload_n 1, 1) := by decide +kernel
theorem dX7_places_6 : decode cX7_places 6 = .ok (.iconst 0, 1) := by decide +kernel
theorem dX7_places_7 : decode cX7_places 7 = .ok (.aload_n 0, 1) := by decide +kernel
theorem dX7_places_8 : decode cX7_places 8 = .ok (.getfield 143, 3) := by decide +kernel
theorem dX7_places_11 : decode cX7_places 11 = .ok (.invokestatic 75, 3) := by decide +kernel
theorem dX7_places_14 : decode cX7_places 14 = .ok (.ifCond .eq 14, 3) := by decide +kernel
theorem dX7_places_17 : decode cX7_places 17 = .ok (.iload_n 1, 1) := by decide +kernel
theorem dX7_places_18 : decode cX7_places 18 = .ok (.ifCond .ne 12, 3) := by decide +kernel
theorem dX7_places_21 : decode cX7_places 21 = .ok (.aload_n 0, 1) := by decide +kernel
theorem dX7_places_22 : decode cX7_places 22 = .ok (.getfield 72, 3) := by decide +kernel
theorem dX7_places_25 : decode cX7_places 25 = .ok (.ifCond .ne 5, 3) := by decide +kernel
theorem dX7_places_28 : decode cX7_places 28 = .ok (.iconst (-1), 1) := by decide +kernel
theorem dX7_places_29 : decode cX7_places 29 = .ok (.ireturn, 1) := by decide +kernel
theorem dX7_places_30 : decode cX7_places 30 = .ok (.iconst (-1), 1) := by decide +kernel
theorem dX7_places_31 : decode cX7_places 31 = .ok (.istore_n 2, 1) := by decide +kernel
theorem dX7_places_32 : decode cX7_places 32 = .ok (.iconst 0, 1) := by decide +kernel
theorem dX7_places_33 : decode cX7_places 33 = .ok (.istore_n 3, 1) := by decide +kernel
theorem dX7_places_34 : decode cX7_places 34 = .ok (.iconst 0, 1) := by decide +kernel
theorem dX7_places_35 : decode cX7_places 35 = .ok (.istore 4, 2) := by decide +kernel
theorem dX7_places_37 : decode cX7_places 37 = .ok (.iload 4, 2) := by decide +kernel
theorem dX7_places_39 : decode cX7_places 39 = .ok (.iconst 1, 1) := by decide +kernel
theorem dX7_places_40 : decode cX7_places 40 = .ok (.aload_n 0, 1) := by decide +kernel
theorem dX7_places_41 : decode cX7_places 41 = .ok (.getfield 143, 3) := by decide +kernel
theorem dX7_places_44 : decode cX7_places 44 = .ok (.ishl, 1) := by decide +kernel
theorem dX7_places_45 : decode cX7_places 45 = .ok (.if_icmp .ge 64, 3) := by decide +kernel
theorem dX7_places_48 : decode cX7_places 48 = .ok (.iload 4, 2) := by decide +kernel
theorem dX7_places_50 : decode cX7_places 50 = .ok (.invokestatic 164, 3) := by decide +kernel
theorem dX7_places_53 : decode cX7_places 53 = .ok (.iload_n 1, 1) := by decide +kernel
theorem dX7_places_54 : decode cX7_places 54 = .ok (.if_icmp .eq 6, 3) := by decide +kernel
theorem dX7_places_57 : decode cX7_places 57 = .ok (.goto 46, 3) := by decide +kernel
theorem dX7_places_60 : decode cX7_places 60 = .ok (.aload_n 0, 1) := by decide +kernel
theorem dX7_places_61 : decode cX7_places 61 = .ok (.iload 4, 2) := by decide +kernel
theorem dX7_places_63 : decode cX7_places 63 = .ok (.invokevirtual 175, 3) := by decide +kernel
theorem dX7_places_66 : decode cX7_places 66 = .ok (.istore 5, 2) := by decide +kernel
theorem dX7_places_68 : decode cX7_places 68 = .ok (.iload_n 2, 1) := by decide +kernel
theorem dX7_places_69 : decode cX7_places 69 = .ok (.iconst (-1), 1) := by decide +kernel
theorem dX7_places_70 : decode cX7_places 70 = .ok (.if_icmp .eq 27, 3) := by decide +kernel
theorem dX7_places_73 : decode cX7_places 73 = .ok (.iload 5, 2) := by decide +kernel
theorem dX7_places_75 : decode cX7_places 75 = .ok (.iload_n 3, 1) := by decide +kernel
theorem dX7_places_76 : decode cX7_places 76 = .ok (.if_icmp .gt 27, 3) := by decide +kernel
theorem dX7_places_79 : decode cX7_places 79 = .ok (.iload 5, 2) := by decide +kernel
theorem dX7_places_81 : decode cX7_places 81 = .ok (.iload_n 3, 1) := by decide +kernel
theorem dX7_places_82 : decode cX7_places 82 = .ok (.if_icmp .ne 15, 3) := by decide +kernel
theorem dX7_places_85 : decode cX7_places 85 = .ok (.iload 4, 2) := by decide +kernel
theorem dX7_places_87 : decode cX7_places 87 = .ok (.iload_n 2, 1) := by decide +kernel
theorem dX7_places_88 : decode cX7_places 88 = .ok (.invokestatic 178, 3) := by decide +kernel
theorem dX7_places_91 : decode cX7_places 91 = .ok (.ifCond .ne 6, 3) := by decide +kernel
theorem dX7_places_94 : decode cX7_places 94 = .ok (.goto 9, 3) := by decide +kernel
theorem dX7_places_97 : decode cX7_places 97 = .ok (.iload 4, 2) := by decide +kernel
theorem dX7_places_99 : decode cX7_places 99 = .ok (.istore_n 2, 1) := by decide +kernel
theorem dX7_places_100 : decode cX7_places 100 = .ok (.iload 5, 2) := by decide +kernel
theorem dX7_places_102 : decode cX7_places 102 = .ok (.istore_n 3, 1) := by decide +kernel
theorem dX7_places_103 : decode cX7_places 103 = .ok (.iinc 4 1, 3) := by decide +kernel
theorem dX7_places_106 : decode cX7_places 106 = .ok (.goto (-69), 3) := by decide +kernel
theorem dX7_places_109 : decode cX7_places 109 = .ok (.aload_n 0, 1) := by decide +kernel
theorem dX7_places_110 : decode cX7_places 110 = .ok (.iload_n 2, 1) := by decide +kernel
theorem dX7_places_111 : decode cX7_places 111 = .ok (.putfield 181, 3) := by decide +kernel
theorem dX7_places_114 : decode cX7_places 114 = .ok (.iload_n 3, 1) := by decide +kernel
theorem dX7_places_115 : decode cX7_places 115 = .ok (.ireturn, 1) := by decide +kernel
theorem dX7_chosen_0 : decode cX7_chosen 0 = .ok (.aload_n 0, 1) := by decide +kernel
theorem dX7_chosen_1 : decode cX7_chosen 1 = .ok (.iconst 0, 1) := by decide +kernel
theorem dX7_chosen_2 : decode cX7_chosen 2 = .ok (.putfield 68, 3) := by decide +kernel
theorem dX7_chosen_5 : decode cX7_chosen 5 = .ok (.aload_n 0, 1) := by decide +kernel
theorem dX7_chosen_6 : decode cX7_chosen 6 = .ok (.getfield 181, 3) := by decide +kernel
theorem dX7_chosen_9 : decode cX7_chosen 9 = .ok (.ireturn, 1) := by decide +kernel
