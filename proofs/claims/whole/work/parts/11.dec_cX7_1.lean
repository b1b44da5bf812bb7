theorem dX7_line_23 : decode cX7_line 23 = .ok (.iconst 0, 1) := by decide +kernel
theorem dX7_line_24 : decode cX7_line 24 = .ok (.istore_n 2, 1) := by decide +kernel
theorem dX7_line_25 : decode cX7_line 25 = .ok (.iload_n 2, 1) := by decide +kernel
theorem dX7_line_26 : decode cX7_line 26 = .ok (.aload_n 0, 1) := by decide +kernel
theorem dX7_line_27 : decode cX7_line 27 = .ok (.getfield 9, 3) := by decide +kernel
theorem dX7_line_30 : decode cX7_line 30 = .ok (.bipush 7, 2) := by decide +kernel
theorem dX7_line_32 : decode cX7_line 32 = .ok (.iload_n 1, 1) := by decide +kernel
theorem dX7_line_33 : decode cX7_line 33 = .ok (.imul, 1) := by decide +kernel
theorem dX7_line_34 : decode cX7_line 34 = .ok (.iconst 3, 1) := by decide +kernel
theorem dX7_line_35 : decode cX7_line 35 = .ok (.iadd, 1) := by decide +kernel
theorem dX7_line_36 : decode cX7_line 36 = .ok (.iaload, 1) := by decide +kernel
theorem dX7_line_37 : decode cX7_line 37 = .ok (.if_icmp .ge 113, 3) := by decide +kernel
theorem dX7_line_40 : decode cX7_line 40 = .ok (.iconst (-1), 1) := by decide +kernel
theorem dX7_line_41 : decode cX7_line 41 = .ok (.istore_n 3, 1) := by decide +kernel
theorem dX7_line_42 : decode cX7_line 42 = .ok (.iconst 0, 1) := by decide +kernel
theorem dX7_line_43 : decode cX7_line 43 = .ok (.istore 4, 2) := by decide +kernel
theorem dX7_line_45 : decode cX7_line 45 = .ok (.iload 4, 2) := by decide +kernel
theorem dX7_line_47 : decode cX7_line 47 = .ok (.aload_n 0, 1) := by decide +kernel
theorem dX7_line_48 : decode cX7_line 48 = .ok (.getfield 79, 3) := by decide +kernel
theorem dX7_line_51 : decode cX7_line 51 = .ok (.if_icmp .ge 72, 3) := by decide +kernel
theorem dX7_line_54 : decode cX7_line 54 = .ok (.aload_n 0, 1) := by decide +kernel
theorem dX7_line_55 : decode cX7_line 55 = .ok (.getfield 19, 3) := by decide +kernel
theorem dX7_line_58 : decode cX7_line 58 = .ok (.iload 4, 2) := by decide +kernel
theorem dX7_line_60 : decode cX7_line 60 = .ok (.iaload, 1) := by decide +kernel
theorem dX7_line_61 : decode cX7_line 61 = .ok (.iload_n 1, 1) := by decide +kernel
theorem dX7_line_62 : decode cX7_line 62 = .ok (.if_icmp .ne 55, 3) := by decide +kernel
theorem dX7_line_65 : decode cX7_line 65 = .ok (.aload_n 0, 1) := by decide +kernel
theorem dX7_line_66 : decode cX7_line 66 = .ok (.getfield 53, 3) := by decide +kernel
theorem dX7_line_69 : decode cX7_line 69 = .ok (.iload 4, 2) := by decide +kernel
theorem dX7_line_71 : decode cX7_line 71 = .ok (.baload, 1) := by decide +kernel
theorem dX7_line_72 : decode cX7_line 72 = .ok (.ifCond .ne 45, 3) := by decide +kernel
theorem dX7_line_75 : decode cX7_line 75 = .ok (.aload_n 0, 1) := by decide +kernel
theorem dX7_line_76 : decode cX7_line 76 = .ok (.iload 4, 2) := by decide +kernel
theorem dX7_line_78 : decode cX7_line 78 = .ok (.invokevirtual 86, 3) := by decide +kernel
theorem dX7_line_81 : decode cX7_line 81 = .ok (.ifCond .eq 36, 3) := by decide +kernel
theorem dX7_line_84 : decode cX7_line 84 = .ok (.aload_n 0, 1) := by decide +kernel
theorem dX7_line_85 : decode cX7_line 85 = .ok (.getfield 13, 3) := by decide +kernel
theorem dX7_line_88 : decode cX7_line 88 = .ok (.iload 4, 2) := by decide +kernel
theorem dX7_line_90 : decode cX7_line 90 = .ok (.iaload, 1) := by decide +kernel
theorem dX7_line_91 : decode cX7_line 91 = .ok (.bipush 100, 2) := by decide +kernel
theorem dX7_line_93 : decode cX7_line 93 = .ok (.if_icmp .lt 6, 3) := by decide +kernel
theorem dX7_line_96 : decode cX7_line 96 = .ok (.goto 21, 3) := by decide +kernel
theorem dX7_line_99 : decode cX7_line 99 = .ok (.iload_n 3, 1) := by decide +kernel
theorem dX7_line_100 : decode cX7_line 100 = .ok (.iconst (-1), 1) := by decide +kernel
theorem dX7_line_101 : decode cX7_line 101 = .ok (.if_icmp .eq 13, 3) := by decide +kernel
theorem dX7_line_104 : decode cX7_line 104 = .ok (.aload_n 0, 1) := by decide +kernel
theorem dX7_line_105 : decode cX7_line 105 = .ok (.iload 4, 2) := by decide +kernel
theorem dX7_line_107 : decode cX7_line 107 = .ok (.iload_n 3, 1) := by decide +kernel
theorem dX7_line_108 : decode cX7_line 108 = .ok (.invokevirtual 93, 3) := by decide +kernel
theorem dX7_line_111 : decode cX7_line 111 = .ok (.ifCond .eq 6, 3) := by decide +kernel
theorem dX7_line_114 : decode cX7_line 114 = .ok (.iload 4, 2) := by decide +kernel
theorem dX7_line_116 : decode cX7_line 116 = .ok (.istore_n 3, 1) := by decide +kernel
theorem dX7_line_117 : decode cX7_line 117 = .ok (.iinc 4 1, 3) := by decide +kernel
theorem dX7_line_120 : decode cX7_line 120 = .ok (.goto (-75), 3) := by decide +kernel
theorem dX7_line_123 : decode cX7_line 123 = .ok (.iload_n 3, 1) := by decide +kernel
theorem dX7_line_124 : decode cX7_line 124 = .ok (.iconst (-1), 1) := by decide +kernel
theorem dX7_line_125 : decode cX7_line 125 = .ok (.if_icmp .ne 5, 3) := by decide +kernel
theorem dX7_line_128 : decode cX7_line 128 = .ok (.iload_n 2, 1) := by decide +kernel
theorem dX7_line_129 : decode cX7_line 129 = .ok (.ireturn, 1) := by decide +kernel
theorem dX7_line_130 : decode cX7_line 130 = .ok (.aload_n 0, 1) := by decide +kernel
theorem dX7_line_131 : decode cX7_line 131 = .ok (.getfield 53, 3) := by decide +kernel
theorem dX7_line_134 : decode cX7_line 134 = .ok (.iload_n 3, 1) := by decide +kernel
theorem dX7_line_135 : decode cX7_line 135 = .ok (.iconst 1, 1) := by decide +kernel
theorem dX7_line_136 : decode cX7_line 136 = .ok (.bastore, 1) := by decide +kernel
theorem dX7_line_137 : decode cX7_line 137 = .ok (.aload_n 0, 1) := by decide +kernel
theorem dX7_line_138 : decode cX7_line 138 = .ok (.getfield 56, 3) := by decide +kernel
theorem dX7_line_141 : decode cX7_line 141 = .ok (.iload_n 2, 1) := by decide +kernel
theorem dX7_line_142 : decode cX7_line 142 = .ok (.iload_n 3, 1) := by decide +kernel
theorem dX7_line_143 : decode cX7_line 143 = .ok (.iastore, 1) := by decide +kernel
theorem dX7_line_144 : decode cX7_line 144 = .ok (.iinc 2 1, 3) := by decide +kernel
theorem dX7_line_147 : decode cX7_line 147 = .ok (.goto (-122), 3) := by decide +kernel
theorem dX7_line_150 : decode cX7_line 150 = .ok (.iload_n 2, 1) := by decide +kernel
theorem dX7_line_151 : decode cX7_line 151 = .ok (.ireturn, 1) := by decide +kernel
theorem dX7_goHour_0 : decode cX7_goHour 0 = .ok (.aload_n 0, 1) := by decide +kernel
theorem dX7_goHour_1 : decode cX7_goHour 1 = .ok (.getfield 29, 3) := by decide +kernel
theorem dX7_goHour_4 : decode cX7_goHour 4 = .ok (.aload_n 0, 1) := by decide +kernel
theorem dX7_goHour_5 : decode cX7_goHour 5 = .ok (.getfield 119, 3) := by decide +kernel
theorem dX7_goHour_8 : decode cX7_goHour 8 = .ok (.bipush 24, 2) := by decide +kernel
theorem dX7_goHour_10 : decode cX7_goHour 10 = .ok (.irem, 1) := by decide +kernel
theorem dX7_goHour_11 : decode cX7_goHour 11 = .ok (.iaload, 1) := by decide +kernel
theorem dX7_goHour_12 : decode cX7_goHour 12 = .ok (.istore_n 1, 1) := by decide +kernel
theorem dX7_goHour_13 : decode cX7_goHour 13 = .ok (.iconst 0, 1) := by decide +kernel
theorem dX7_goHour_14 : decode cX7_goHour 14 = .ok (.istore_n 2, 1) := by decide +kernel
theorem dX7_goHour_15 : decode cX7_goHour 15 = .ok (.iload_n 2, 1) := by decide +kernel
theorem dX7_goHour_16 : decode cX7_goHour 16 = .ok (.aload_n 0, 1) := by decide +kernel
theorem dX7_goHour_17 : decode cX7_goHour 17 = .ok (.getfield 72, 3) := by decide +kernel
theorem dX7_goHour_20 : decode cX7_goHour 20 = .ok (.if_icmp .ge 131, 3) := by decide +kernel
theorem dX7_goHour_23 : decode cX7_goHour 23 = .ok (.aload_n 0, 1) := by decide +kernel
theorem dX7_goHour_24 : decode cX7_goHour 24 = .ok (.iload_n 2, 1) := by decide +kernel
theorem dX7_goHour_25 : decode cX7_goHour 25 = .ok (.invokevirtual 122, 3) := by decide +kernel
theorem dX7_goHour_28 : decode cX7_goHour 28 = .ok (.istore_n 3, 1) := by decide +kernel
theorem dX7_goHour_29 : decode cX7_goHour 29 = .ok (.iconst 0, 1) := by decide +kernel
theorem dX7_goHour_30 : decode cX7_goHour 30 = .ok (.istore 4, 2) := by decide +kernel
theorem dX7_goHour_32 : decode cX7_goHour 32 = .ok (.iload 4, 2) := by decide +kernel
theorem dX7_goHour_34 : decode cX7_goHour 34 = .ok (.iload_n 3, 1) := by decide +kernel
theorem dX7_goHour_35 : decode cX7_goHour 35 = .ok (.if_icmp .ge 110, 3) := by decide +kernel
theorem dX7_goHour_38 : decode cX7_goHour 38 = .ok (.iload_n 1, 1) := by decide +kernel
theorem dX7_goHour_39 : decode cX7_goHour 39 = .ok (.aload_n 0, 1) := by decide +kernel
theorem dX7_goHour_40 : decode cX7_goHour 40 = .ok (.getfield 26, 3) := by decide +kernel
theorem dX7_goHour_43 : decode cX7_goHour 43 = .ok (.iconst 2, 1) := by decide +kernel
theorem dX7_goHour_44 : decode cX7_goHour 44 = .ok (.iaload, 1) := by decide +kernel
theorem dX7_goHour_45 : decode cX7_goHour 45 = .ok (.if_icmp .le 25, 3) := by decide +kernel
theorem dX7_goHour_48 : decode cX7_goHour 48 = .ok (.aload_n 0, 1) := by decide +kernel
theorem dX7_goHour_49 : decode cX7_goHour 49 = .ok (.iload_n 2, 1) := by decide +kernel
theorem dX7_goHour_50 : decode cX7_goHour 50 = .ok (.invokevirtual 125, 3) := by decide +kernel
theorem dX7_goHour_53 : decode cX7_goHour 53 = .ok (.aload_n 0, 1) := by decide +kernel
theorem dX7_goHour_54 : decode cX7_goHour 54 = .ok (.getfield 9, 3) := by decide +kernel
theorem dX7_goHour_57 : decode cX7_goHour 57 = .ok (.bipush 7, 2) := by decide +kernel
theorem dX7_goHour_59 : decode cX7_goHour 59 = .ok (.iload_n 2, 1) := by decide +kernel
theorem dX7_goHour_60 : decode cX7_goHour 60 = .ok (.imul, 1) := by decide +kernel
theorem dX7_goHour_61 : decode cX7_goHour 61 = .ok (.iconst 4, 1) := by decide +kernel
theorem dX7_goHour_62 : decode cX7_goHour 62 = .ok (.iadd, 1) := by decide +kernel
theorem dX7_goHour_63 : decode cX7_goHour 63 = .ok (.iaload, 1) := by decide +kernel
theorem dX7_goHour_64 : decode cX7_goHour 64 = .ok (.if_icmp .lt 6, 3) := by decide +kernel
theorem dX7_goHour_67 : decode cX7_goHour 67 = .ok (.goto 78, 3) := by decide +kernel
theorem dX7_goHour_70 : decode cX7_goHour 70 = .ok (.aload_n 0, 1) := by decide +kernel
theorem dX7_goHour_71 : decode cX7_goHour 71 = .ok (.getfield 56, 3) := by decide +kernel
theorem dX7_goHour_74 : decode cX7_goHour 74 = .ok (.iload 4, 2) := by decide +kernel
theorem dX7_goHour_76 : decode cX7_goHour 76 = .ok (.iaload, 1) := by decide +kernel
theorem dX7_goHour_77 : decode cX7_goHour 77 = .ok (.istore 5, 2) := by decide +kernel
theorem dX7_goHour_79 : decode cX7_goHour 79 = .ok (.aload_n 0, 1) := by decide +kernel
theorem dX7_goHour_80 : decode cX7_goHour 80 = .ok (.getfield 26, 3) := by decide +kernel
theorem dX7_goHour_83 : decode cX7_goHour 83 = .ok (.iconst 3, 1) := by decide +kernel
theorem dX7_goHour_84 : decode cX7_goHour 84 = .ok (.iaload, 1) := by decide +kernel
theorem dX7_goHour_85 : decode cX7_goHour 85 = .ok (.bipush 100, 2) := by decide +kernel
theorem dX7_goHour_87 : decode cX7_goHour 87 = .ok (.aload_n 0, 1) := by decide +kernel
theorem dX7_goHour_88 : decode cX7_goHour 88 = .ok (.getfield 13, 3) := by decide +kernel
theorem dX7_goHour_91 : decode cX7_goHour 91 = .ok (.iload 5, 2) := by decide +kernel
theorem dX7_goHour_93 : decode cX7_goHour 93 = .ok (.iaload, 1) := by decide +kernel
theorem dX7_goHour_94 : decode cX7_goHour 94 = .ok (.isub, 1) := by decide +kernel
theorem dX7_goHour_95 : decode cX7_goHour 95 = .ok (.invokestatic 128, 3) := by decide +kernel
theorem dX7_goHour_98 : decode cX7_goHour 98 = .ok (.istore 6, 2) := by decide +kernel
theorem dX7_goHour_100 : decode cX7_goHour 100 = .ok (.aload_n 0, 1) := by decide +kernel
theorem dX7_goHour_101 : decode cX7_goHour 101 = .ok (.getfield 13, 3) := by decide +kernel
theorem dX7_goHour_104 : decode cX7_goHour 104 = .ok (.iload 5, 2) := by decide +kernel
theorem dX7_goHour_106 : decode cX7_goHour 106 = .ok (.dup2, 1) := by decide +kernel
theorem dX7_goHour_107 : decode cX7_goHour 107 = .ok (.iaload, 1) := by decide +kernel
theorem dX7_goHour_108 : decode cX7_goHour 108 = .ok (.iload 6, 2) := by decide +kernel
theorem dX7_goHour_110 : decode cX7_goHour 110 = .ok (.iadd, 1) := by decide +kernel
theorem dX7_goHour_111 : decode cX7_goHour 111 = .ok (.iastore, 1) := by decide +kernel
theorem dX7_goHour_112 : decode cX7_goHour 112 = .ok (.aload_n 0, 1) := by decide +kernel
theorem dX7_goHour_113 : decode cX7_goHour 113 = .ok (.getfield 16, 3) := by decide +kernel
theorem dX7_goHour_116 : decode cX7_goHour 116 = .ok (.iload 5, 2) := by decide +kernel
theorem dX7_goHour_118 : decode cX7_goHour 118 = .ok (.dup2, 1) := by decide +kernel
theorem dX7_goHour_119 : decode cX7_goHour 119 = .ok (.iaload, 1) := by decide +kernel
theorem dX7_goHour_120 : decode cX7_goHour 120 = .ok (.iload 6, 2) := by decide +kernel
theorem dX7_goHour_122 : decode cX7_goHour 122 = .ok (.iadd, 1) := by decide +kernel
theorem dX7_goHour_123 : decode cX7_goHour 123 = .ok (.iastore, 1) := by decide +kernel
theorem dX7_goHour_124 : decode cX7_goHour 124 = .ok (.aload_n 0, 1) := by decide +kernel
theorem dX7_goHour_125 : decode cX7_goHour 125 = .ok (.getfield 9, 3) := by decide +kernel
theorem dX7_goHour_128 : decode cX7_goHour 128 = .ok (.bipush 7, 2) := by decide +kernel
theorem dX7_goHour_130 : decode cX7_goHour 130 = .ok (.iload_n 2, 1) := by decide +kernel
theorem dX7_goHour_131 : decode cX7_goHour 131 = .ok (.imul, 1) := by decide +kernel
theorem dX7_goHour_132 : decode cX7_goHour 132 = .ok (.iconst 5, 1) := by decide +kernel
theorem dX7_goHour_133 : decode cX7_goHour 133 = .ok (.iadd, 1) := by decide +kernel
theorem dX7_goHour_134 : decode cX7_goHour 134 = .ok (.dup2, 1) := by decide +kernel
theorem dX7_goHour_135 : decode cX7_goHour 135 = .ok (.iaload, 1) := by decide +kernel
theorem dX7_goHour_136 : decode cX7_goHour 136 = .ok (.iload_n 1, 1) := by decide +kernel
theorem dX7_goHour_137 : decode cX7_goHour 137 = .ok (.iadd, 1) := by decide +kernel
theorem dX7_goHour_138 : decode cX7_goHour 138 = .ok (.iastore, 1) := by decide +kernel
theorem dX7_goHour_139 : decode cX7_goHour 139 = .ok (.iinc 4 1, 3) := by decide +kernel
theorem dX7_goHour_142 : decode cX7_goHour 142 = .ok (.goto (-110), 3) := by decide +kernel
theorem dX7_goHour_145 : decode cX7_goHour 145 = .ok (.iinc 2 1, 3) := by decide +kernel
theorem dX7_goHour_148 : decode cX7_goHour 148 = .ok (.goto (-133), 3) := by decide +kernel
theorem dX7_goHour_151 : decode cX7_goHour 151 = .ok (.aload_n 0, 1) := by decide +kernel
theorem dX7_goHour_152 : decode cX7_goHour 152 = .ok (.dup, 1) := by decide +kernel
theorem dX7_goHour_153 : decode cX7_goHour 153 = .ok (.getfield 119, 3) := by decide +kernel
theorem dX7_goHour_156 : decode cX7_goHour 156 = .ok (.iconst 1, 1) := by decide +kernel
theorem dX7_goHour_157 : decode cX7_goHour 157 = .ok (.iadd, 1) := by decide +kernel
theorem dX7_goHour_158 : decode cX7_goHour 158 = .ok (.putfield 119, 3) := by decide +kernel
theorem dX7_goHour_161 : decode cX7_goHour 161 = .ok (.return_, 1) := by decide +kernel
theorem dX7_run_0 : decode cX7_run 0 = .ok (.aload_n 0, 1) := by decide +kernel
theorem dX7_run_1 : decode cX7_run 1 = .ok (.iconst 0, 1) := by decide +kernel
theorem dX7_run_2 : decode cX7_run 2 = .ok (.putfield 68, 3) := by decide +kernel
theorem dX7_run_5 : decode cX7_run 5 = .ok (.iload_n 1, 1) := by decide +kernel
theorem dX7_run_6 : decode cX7_run 6 = .ok (.iconst 0, 1) := by decide +kernel
theorem dX7_run_7 : decode cX7_run 7 = .ok (.sipush 200, 3) := by decide +kernel
theorem dX7_run_10 : decode cX7_run 10 = .ok (.invokestatic 75, 3) := by decide +kernel
theorem dX7_run_13 : decode cX7_run 13 = .ok (.ifCond .eq 15, 3) := by decide +kernel
theorem dX7_run_16 : decode cX7_run 16 = .ok (.aload_n 0, 1) := by decide +kernel
theorem dX7_run_17 : decode cX7_run 17 = .ok (.getfield 119, 3) := by decide +kernel
theorem dX7_run_20 : decode cX7_run 20 = .ok (.iload_n 1, 1) := by decide +kernel
theorem dX7_run_21 : decode cX7_run 21 = .ok (.iadd, 1) := by decide +kernel
theorem dX7_run_22 : decode cX7_run 22 = .ok (.sipush 10000, 3) := by decide +kernel
theorem dX7_run_25 : decode cX7_run 25 = .ok (.if_icmp .le 5, 3) := by decide +kernel
theorem dX7_run_28 : decode cX7_run 28 = .ok (.iconst (-1), 1) := by decide +kernel
theorem dX7_run_29 : decode cX7_run 29 = .ok (.ireturn, 1) := by decide +kernel
theorem dX7_run_30 : decode cX7_run 30 = .ok (.iconst 0, 1) := by decide +kernel
theorem dX7_run_31 : decode cX7_run 31 = .ok (.istore_n 2, 1) := by decide +kernel
theorem dX7_run_32 : decode cX7_run 32 = .ok (.iload_n 2, 1) := by decide +kernel
theorem dX7_run_33 : decode cX7_run 33 = .ok (.iload_n 1, 1) := by decide +kernel
theorem dX7_run_34 : decode cX7_run 34 = .ok (.if_icmp .ge 13, 3) := by decide +kernel
theorem dX7_run_37 : decode cX7_run 37 = .ok (.aload_n 0, 1) := by decide +kernel
theorem dX7_run_38 : decode cX7_run 38 = .ok (.invokevirtual 134, 3) := by decide +kernel
theorem dX7_run_41 : decode cX7_run 41 = .ok (.iinc 2 1, 3) := by decide +kernel
theorem dX7_run_44 : decode cX7_run 44 = .ok (.goto (-12), 3) := by decide +kernel
theorem dX7_run_47 : decode cX7_run 47 = .ok (.aload_n 0, 1) := by decide +kernel
theorem dX7_run_48 : decode cX7_run 48 = .ok (.getfield 119, 3) := by decide +kernel
theorem dX7_run_51 : decode cX7_run 51 = .ok (.ireturn, 1) := by decide +kernel
theorem dX7_count_0 : decode cX7_count 0 = .ok (.aload_n 0, 1) := by decide +kernel
theorem dX7_count_1 : decode cX7_count 1 = .ok (.iconst 0, 1) := by decide +kernel
theorem dX7_count_2 : decode cX7_count 2 = .ok (.putfield 68, 3) := by decide +kernel
theorem dX7_count_5 : decode cX7_count 5 = .ok (.iconst 0, 1) := by decide +kernel
theorem dX7_count_6 : decode cX7_count 6 = .ok (.istore_n 2, 1) := by decide +kernel
theorem dX7_count_7 : decode cX7_count 7 = .ok (.iload_n 1, 1) := by decide +kernel
theorem dX7_count_8 : decode cX7_count 8 = .ok (.tableswitch 196 0 9 #[56, 61, 66, 71, 102, 132, 168, 173, 178, 183], 56) := by decide +kernel
theorem dX7_count_64 : decode cX7_count 64 = .ok (.aload_n 0, 1) := by decide +kernel
theorem dX7_count_65 : decode cX7_count 65 = .ok (.getfield 72, 3) := by decide +kernel
theorem dX7_count_68 : decode cX7_count 68 = .ok (.ireturn, 1) := by decide +kernel
theorem dX7_count_69 : decode cX7_count 69 = .ok (.aload_n 0, 1) := by decide +kernel
theorem dX7_count_70 : decode cX7_count 70 = .ok (.getfield 79, 3) := by decide +kernel
theorem dX7_count_73 : decode cX7_count 73 = .ok (.ireturn, 1) := by decide +kernel
theorem dX7_count_74 : decode cX7_count 74 = .ok (.aload_n 0, 1) := by decide +kernel
theorem dX7_count_75 : decode cX7_count 75 = .ok (.getfield 119, 3) := by decide +kernel
theorem dX7_count_78 : decode cX7_count 78 = .ok (.ireturn, 1) := by decide +kernel
theorem dX7_count_79 : decode cX7_count 79 = .ok (.iconst 0, 1) := by decide +kernel
theorem dX7_count_80 : decode cX7_count 80 = .ok (.istore_n 3, 1) := by decide +kernel
theorem dX7_count_81 : decode cX7_count 81 = .ok (.iload_n 3, 1) := by decide +kernel
theorem dX7_count_82 : decode cX7_count 82 = .ok (.aload_n 0, 1) := by decide +kernel
theorem dX7_count_83 : decode cX7_count 83 = .ok (.getfield 79, 3) := by decide +kernel
theorem dX7_count_86 : decode cX7_count 86 = .ok (.if_icmp .ge 22, 3) := by decide +kernel
theorem dX7_count_89 : decode cX7_count 89 = .ok (.aload_n 0, 1) := by decide +kernel
theorem dX7_count_90 : decode cX7_count 90 = .ok (.getfield 19, 3) := by decide +kernel
theorem dX7_count_93 : decode cX7_count 93 = .ok (.iload_n 3, 1) := by decide +kernel
theorem dX7_count_94 : decode cX7_count 94 = .ok (.iaload, 1) := by decide +kernel
theorem dX7_count_95 : decode cX7_count 95 = .ok (.iconst (-1), 1) := by decide +kernel
theorem dX7_count_96 : decode cX7_count 96 = .ok (.if_icmp .ne 6, 3) := by decide +kernel
theorem dX7_count_99 : decode cX7_count 99 = .ok (.iinc 2 1, 3) := by decide +kernel
theorem dX7_count_102 : decode cX7_count 102 = .ok (.iinc 3 1, 3) := by decide +kernel
theorem dX7_count_105 : decode cX7_count 105 = .ok (.goto (-24), 3) := by decide +kernel
theorem dX7_count_108 : decode cX7_count 108 = .ok (.iload_n 2, 1) := by decide +kernel
theorem dX7_count_109 : decode cX7_count 109 = .ok (.ireturn, 1) := by decide +kernel
theorem dX7_count_110 : decode cX7_count 110 = .ok (.iconst 0, 1) := by decide +kernel
theorem dX7_count_111 : decode cX7_count 111 = .ok (.istore_n 3, 1) := by decide +kernel
theorem dX7_count_112 : decode cX7_count 112 = .ok (.iload_n 3, 1) := by decide +kernel
theorem dX7_count_113 : decode cX7_count 113 = .ok (.aload_n 0, 1) := by decide +kernel
theorem dX7_count_114 : decode cX7_count 114 = .ok (.getfield 79, 3) := by decide +kernel
theorem dX7_count_117 : decode cX7_count 117 = .ok (.if_icmp .ge 21, 3) := by decide +kernel
theorem dX7_count_120 : decode cX7_count 120 = .ok (.aload_n 0, 1) := by decide +kernel
theorem dX7_count_121 : decode cX7_count 121 = .ok (.getfield 22, 3) := by decide +kernel
theorem dX7_count_124 : decode cX7_count 124 = .ok (.iload_n 3, 1) := by decide +kernel
theorem dX7_count_125 : decode cX7_count 125 = .ok (.baload, 1) := by decide +kernel
theorem dX7_count_126 : decode cX7_count 126 = .ok (.ifCond .eq 6, 3) := by decide +kernel
theorem dX7_count_129 : decode cX7_count 129 = .ok (.iinc 2 1, 3) := by decide +kernel
theorem dX7_count_132 : decode cX7_count 132 = .ok (.iinc 3 1, 3) := by decide +kernel
theorem dX7_count_135 : decode cX7_count 135 = .ok (.goto (-23), 3) := by decide +kernel
theorem dX7_count_138 : decode cX7_count 138 = .ok (.iload_n 2, 1) := by decide +kernel
theorem dX7_count_139 : decode cX7_count 139 = .ok (.ireturn, 1) := by decide +kernel
theorem dX7_count_140 : decode cX7_count 140 = .ok (.iconst 0, 1) := by decide +kernel
theorem dX7_count_141 : decode cX7_count 141 = .ok (.istore_n 3, 1) := by decide +kernel
theorem dX7_count_142 : decode cX7_count 142 = .ok (.iload_n 3, 1) := by decide +kernel
theorem dX7_count_143 : decode cX7_count 143 = .ok (.aload_n 0, 1) := by decide +kernel
theorem dX7_count_144 : decode cX7_count 144 = .ok (.getfield 79, 3) := by decide +kernel
theorem dX7_count_147 : decode cX7_count 147 = .ok (.if_icmp .ge 27, 3) := by decide +kernel
theorem dX7_count_150 : decode cX7_count 150 = .ok (.aload_n 0, 1) := by decide +kernel
theorem dX7_count_151 : decode cX7_count 151 = .ok (.getfield 16, 3) := by decide +kernel
theorem dX7_count_154 : decode cX7_count 154 = .ok (.iload_n 3, 1) := by decide +kernel
theorem dX7_count_155 : decode cX7_count 155 = .ok (.iaload, 1) := by decide +kernel
theorem dX7_count_156 : decode cX7_count 156 = .ok (.aload_n 0, 1) := by decide +kernel
theorem dX7_count_157 : decode cX7_count 157 = .ok (.getfield 26, 3) := by decide +kernel
theorem dX7_count_160 : decode cX7_count 160 = .ok (.iconst 0, 1) := by decide +kernel
theorem dX7_count_161 : decode cX7_count 161 = .ok (.iaload, 1) := by decide +kernel
theorem dX7_count_162 : decode cX7_count 162 = .ok (.if_icmp .lt 6, 3) := by decide +kernel
theorem dX7_count_165 : decode cX7_count 165 = .ok (.iinc 2 1, 3) := by decide +kernel
theorem dX7_count_168 : decode cX7_count 168 = .ok (.iinc 3 1, 3) := by decide +kernel
theorem dX7_count_171 : decode cX7_count 171 = .ok (.goto (-29), 3) := by decide +kernel
theorem dX7_count_174 : decode cX7_count 174 = .ok (.iload_n 2, 1) := by decide +kernel
theorem dX7_count_175 : decode cX7_count 175 = .ok (.ireturn, 1) := by decide +kernel
theorem dX7_count_176 : decode cX7_count 176 = .ok (.aload_n 0, 1) := by decide +kernel
theorem dX7_count_177 : decode cX7_count 177 = .ok (.getfield 137, 3) := by decide +kernel
theorem dX7_count_180 : decode cX7_count 180 = .ok (.ireturn, 1) := by decide +kernel
theorem dX7_count_181 : decode cX7_count 181 = .ok (.aload_n 0, 1) := by decide +kernel
theorem dX7_count_182 : decode cX7_count 182 = .ok (.getfield 140, 3) := by decide +kernel
theorem dX7_count_185 : decode cX7_count 185 = .ok (.ireturn, 1) := by decide +kernel
theorem dX7_count_186 : decode cX7_count 186 = .ok (.aload_n 0, 1) := by decide +kernel
theorem dX7_count_187 : decode cX7_count 187 = .ok (.getfield 143, 3) := by decide +kernel
theorem dX7_count_190 : decode cX7_count 190 = .ok (.ireturn, 1) := by decide +kernel
theorem dX7_count_191 : decode cX7_count 191 = .ok (.aload_n 0, 1) := by decide +kernel
theorem dX7_count_192 : decode cX7_count 192 = .ok (.getfield 29, 3) := by decide +kernel
theorem dX7_count_195 : decode cX7_count 195 = .ok (.aload_n 0, 1) := by decide +kernel
theorem dX7_count_196 : decode cX7_count 196 = .ok (.getfield 119, 3) := by decide +kernel
theorem dX7_count_199 : decode cX7_count 199 = .ok (.bipush 24, 2) := by decide +kernel
theorem dX7_count_201 : decode cX7_count 201 = .ok (.irem, 1) := by decide +kernel
theorem dX7_count_202 : decode cX7_count 202 = .ok (.iaload, 1) := by decide +kernel
theorem dX7_count_203 : decode cX7_count 203 = .ok (.ireturn, 1) := by decide +kernel
theorem dX7_count_204 : decode cX7_count 204 = .ok (.iconst (-1), 1) := by decide +kernel
theorem dX7_count_205 : decode cX7_count 205 = .ok (.ireturn, 1) := by decide +kernel
theorem dX7_of_0 : decode cX7_of 0 = .ok (.aload_n 0, 1) := by decide +kernel
theorem dX7_of_1 : decode cX7_of 1 = .ok (.iconst 0, 1) := by decide +kernel
theorem dX7_of_2 : decode cX7_of 2 = .ok (.putfield 68, 3) := by decide +kernel
theorem dX7_of_5 : decode cX7_of 5 = .ok (.aload_n 0, 1) := by decide +kernel
theorem dX7_of_6 : decode cX7_of 6 = .ok (.iload_n 1, 1) := by decide +kernel
theorem dX7_of_7 : decode cX7_of 7 = .ok (.invokevirtual 110, 3) := by decide +kernel
theorem dX7_of_10 : decode cX7_of 10 = .ok (.ifCond .eq 12, 3) := by decide +kernel
theorem dX7_of_13 : decode cX7_of 13 = .ok (.iload_n 2, 1) := by decide +kernel
theorem dX7_of_14 : decode cX7_of 14 = .ok (.iconst 0, 1) := by decide +kernel
theorem dX7_of_15 : decode cX7_of 15 = .ok (.iconst 3, 1) := by decide +kernel
theorem dX7_of_16 : decode cX7_of 16 = .ok (.invokestatic 75, 3) := by decide +kernel
theorem dX7_of_19 : decode cX7_of 19 = .ok (.ifCond .ne 10, 3) := by decide +kernel
theorem dX7_of_22 : decode cX7_of 22 = .ok (.aload_n 0, 1) := by decide +kernel
theorem dX7_of_23 : decode cX7_of 23 = .ok (.iconst 1, 1) := by decide +kernel
theorem dX7_of_24 : decode cX7_of 24 = .ok (.putfield 68, 3) := by decide +kernel
theorem dX7_of_27 : decode cX7_of 27 = .ok (.iconst 0, 1) := by decide +kernel
theorem dX7_of_28 : decode cX7_of 28 = .ok (.ireturn, 1) := by decide +kernel
theorem dX7_of_29 : decode cX7_of 29 = .ok (.iload_n 2, 1) := by decide +kernel
theorem dX7_of_30 : decode cX7_of 30 = .ok (.ifCond .ne 12, 3) := by decide +kernel
theorem dX7_of_33 : decode cX7_of 33 = .ok (.aload_n 0, 1) := by decide +kernel
theorem dX7_of_34 : decode cX7_of 34 = .ok (.getfield 13, 3) := by decide +kernel
theorem dX7_of_37 : decode cX7_of 37 = .ok (.iload_n 1, 1) := by decide +kernel
theorem dX7_of_38 : decode cX7_of 38 = .ok (.iaload, 1) := by decide +kernel
theorem dX7_of_39 : decode cX7_of 39 = .ok (.goto 44, 3) := by decide +kernel
theorem dX7_of_42 : decode cX7_of 42 = .ok (.iload_n 2, 1) := by decide +kernel
theorem dX7_of_43 : decode cX7_of 43 = .ok (.iconst 1, 1) := by decide +kernel
theorem dX7_of_44 : decode cX7_of 44 = .ok (.if_icmp .ne 12, 3) := by decide +kernel
theorem dX7_of_47 : decode cX7_of 47 = .ok (.aload_n 0, 1) := by decide +kernel
theorem dX7_of_48 : decode cX7_of 48 = .ok (.getfield 16, 3) := by decide +kernel
theorem dX7_of_51 : decode cX7_of 51 = .ok (.iload_n 1, 1) := by decide +kernel
theorem dX7_of_52 : decode cX7_of 52 = .ok (.iaload, 1) := by decide +kernel
theorem dX7_of_53 : decode cX7_of 53 = .ok (.goto 30, 3) := by decide +kernel
theorem dX7_of_56 : decode cX7_of 56 = .ok (.iload_n 2, 1) := by decide +kernel
theorem dX7_of_57 : decode cX7_of 57 = .ok (.iconst 2, 1) := by decide +kernel
theorem dX7_of_58 : decode cX7_of 58 = .ok (.if_icmp .ne 12, 3) := by decide +kernel
theorem dX7_of_61 : decode cX7_of 61 = .ok (.aload_n 0, 1) := by decide +kernel
theorem dX7_of_62 : decode cX7_of 62 = .ok (.getfield 19, 3) := by decide +kernel
theorem dX7_of_65 : decode cX7_of 65 = .ok (.iload_n 1, 1) := by decide +kernel
theorem dX7_of_66 : decode cX7_of 66 = .ok (.iaload, 1) := by decide +kernel
theorem dX7_of_67 : decode cX7_of 67 = .ok (.goto 16, 3) := by decide +kernel
theorem dX7_of_70 : decode cX7_of 70 = .ok (.aload_n 0, 1) := by decide +kernel
theorem dX7_of_71 : decode cX7_of 71 = .ok (.iload_n 1, 1) := by decide +kernel
theorem dX7_of_72 : decode cX7_of 72 = .ok (.invokevirtual 90, 3) := by decide +kernel
theorem dX7_of_75 : decode cX7_of 75 = .ok (.ifCond .eq 7, 3) := by decide +kernel
theorem dX7_of_78 : decode cX7_of 78 = .ok (.iconst 1, 1) := by decide +kernel
theorem dX7_of_79 : decode cX7_of 79 = .ok (.goto 4, 3) := by decide +kernel
theorem dX7_of_82 : decode cX7_of 82 = .ok (.iconst 0, 1) := by decide +kernel
theorem dX7_of_83 : decode cX7_of 83 = .ok (.ireturn, 1) := by decide +kernel
theorem dX7_in__0 : decode cX7_in_ 0 = .ok (.aload_n 0, 1) := by decide +kernel
theorem dX7_in__1 : decode cX7_in_ 1 = .ok (.iconst 0, 1) := by decide +kernel
theorem dX7_in__2 : decode cX7_in_ 2 = .ok (.putfield 68, 3) := by decide +kernel
theorem dX7_in__5 : decode cX7_in_ 5 = .ok (.aload_n 0, 1) := by decide +kernel
theorem dX7_in__6 : decode cX7_in_ 6 = .ok (.iload_n 1, 1) := by decide +kernel
theorem dX7_in__7 : decode cX7_in_ 7 = .ok (.invokevirtual 97, 3) := by decide +kernel
theorem dX7_in__10 : decode cX7_in_ 10 = .ok (.ifCond .ne 5, 3) := by decide +kernel
theorem dX7_in__13 : decode cX7_in_ 13 = .ok (.iconst (-1), 1) := by decide +kernel
theorem dX7_in__14 : decode cX7_in_ 14 = .ok (.ireturn, 1) := by decide +kernel
theorem dX7_in__15 : decode cX7_in_ 15 = .ok (.iload_n 2, 1) := by decide +kernel
theorem dX7_in__16 : decode cX7_in_ 16 = .ok (.tableswitch 79 0 4 #[36, 42, 48, 54, 66], 36) := by decide +kernel
theorem dX7_in__52 : decode cX7_in_ 52 = .ok (.aload_n 0, 1) := by decide +kernel
theorem dX7_in__53 : decode cX7_in_ 53 = .ok (.iload_n 1, 1) := by decide +kernel
theorem dX7_in__54 : decode cX7_in_ 54 = .ok (.invokevirtual 82, 3) := by decide +kernel
theorem dX7_in__57 : decode cX7_in_ 57 = .ok (.ireturn, 1) := by decide +kernel
theorem dX7_in__58 : decode cX7_in_ 58 = .ok (.aload_n 0, 1) := by decide +kernel
theorem dX7_in__59 : decode cX7_in_ 59 = .ok (.iload_n 1, 1) := by decide +kernel
theorem dX7_in__60 : decode cX7_in_ 60 = .ok (.invokevirtual 125, 3) := by decide +kernel
theorem dX7_in__63 : decode cX7_in_ 63 = .ok (.ireturn, 1) := by decide +kernel
theorem dX7_in__64 : decode cX7_in_ 64 = .ok (.aload_n 0, 1) := by decide +kernel
theorem dX7_in__65 : decode cX7_in_ 65 = .ok (.iload_n 1, 1) := by decide +kernel
theorem dX7_in__66 : decode cX7_in_ 66 = .ok (.invokevirtual 113, 3) := by decide +kernel
theorem dX7_in__69 : decode cX7_in_ 69 = .ok (.ireturn, 1) := by decide +kernel
theorem dX7_in__70 : decode cX7_in_ 70 = .ok (.aload_n 0, 1) := by decide +kernel
theorem dX7_in__71 : decode cX7_in_ 71 = .ok (.getfield 9, 3) := by decide +kernel
theorem dX7_in__74 : decode cX7_in_ 74 = .ok (.bipush 7, 2) := by decide +kernel
theorem dX7_in__76 : decode cX7_in_ 76 = .ok (.iload_n 1, 1) := by decide +kernel
theorem dX7_in__77 : decode cX7_in_ 77 = .ok (.imul, 1) := by decide +kernel
theorem dX7_in__78 : decode cX7_in_ 78 = .ok (.iconst 5, 1) := by decide +kernel
theorem dX7_in__79 : decode cX7_in_ 79 = .ok (.iadd, 1) := by decide +kernel
theorem dX7_in__80 : decode cX7_in_ 80 = .ok (.iaload, 1) := by decide +kernel
theorem dX7_in__81 : decode cX7_in_ 81 = .ok (.ireturn, 1) := by decide +kernel
theorem dX7_in__82 : decode cX7_in_ 82 = .ok (.aload_n 0, 1) := by decide +kernel
theorem dX7_in__83 : decode cX7_in_ 83 = .ok (.getfield 9, 3) := by decide +kernel
theorem dX7_in__86 : decode cX7_in_ 86 = .ok (.bipush 7, 2) := by decide +kernel
theorem dX7_in__88 : decode cX7_in_ 88 = .ok (.iload_n 1, 1) := by decide +kernel
theorem dX7_in__89 : decode cX7_in_ 89 = .ok (.imul, 1) := by decide +kernel
theorem dX7_in__90 : decode cX7_in_ 90 = .ok (.bipush 6, 2) := by decide +kernel
theorem dX7_in__92 : decode cX7_in_ 92 = .ok (.iadd, 1) := by decide +kernel
theorem dX7_in__93 : decode cX7_in_ 93 = .ok (.iaload, 1) := by decide +kernel
theorem dX7_in__94 : decode cX7_in_ 94 = .ok (.ireturn, 1) := by decide +kernel
theorem dX7_in__95 : decode cX7_in_ 95 = .ok (.iconst (-1), 1) := by decide +kernel
theorem dX7_in__96 : decode cX7_in_ 96 = .ok (.ireturn, 1) := by decide +kernel
theorem dX7_need_0 : decode cX7_need 0 = .ok (.aload_n 0, 1) := by decide +kernel
theorem dX7_need_1 : decode cX7_need 1 = .ok (.iconst 0, 1) := by decide +kernel
theorem dX7_need_2 : decode cX7_need 2 = .ok (.putfield 68, 3) := by decide +kernel
theorem dX7_need_5 : decode cX7_need 5 = .ok (.iload_n 1, 1) := by decide +kernel
theorem dX7_need_6 : decode cX7_need 6 = .ok (.iconst 0, 1) := by decide +kernel
theorem dX7_need_7 : decode cX7_need 7 = .ok (.bipush 20, 2) := by decide +kernel
theorem dX7_need_9 : decode cX7_need 9 = .ok (.invokestatic 75, 3) := by decide +kernel
theorem dX7_need_12 : decode cX7_need 12 = .ok (.ifCond .eq 12, 3) := by decide +kernel
theorem dX7_need_15 : decode cX7_need 15 = .ok (.aload_n 0, 1) := by decide +kernel
theorem dX7_need_16 : decode cX7_need 16 = .ok (.getfield 137, 3) := by decide +kernel
theorem dX7_need_19 : decode cX7_need 19 = .ok (.bipush 12, 2) := by decide +kernel
theorem dX7_need_21 : decode cX7_need 21 = .ok (.if_icmp .ne 5, 3) := by decide +kernel
theorem dX7_need_24 : decode cX7_need 24 = .ok (.iconst (-1), 1) := by decide +kernel
theorem dX7_need_25 : decode cX7_need 25 = .ok (.ireturn, 1) := by decide +kernel
theorem dX7_need_26 : decode cX7_need 26 = .ok (.aload_n 0, 1) := by decide +kernel
theorem dX7_need_27 : decode cX7_need 27 = .ok (.getfield 32, 3) := by decide +kernel
theorem dX7_need_30 : decode cX7_need 30 = .ok (.aload_n 0, 1) := by decide +kernel
theorem dX7_need_31 : decode cX7_need 31 = .ok (.getfield 137, 3) := by decide +kernel
theorem dX7_need_34 : decode cX7_need 34 = .ok (.iload_n 1, 1) := by decide +kernel
theorem dX7_need_35 : decode cX7_need 35 = .ok (.iastore, 1) := by decide +kernel
theorem dX7_need_36 : decode cX7_need 36 = .ok (.aload_n 0, 1) := by decide +kernel
theorem dX7_need_37 : decode cX7_need 37 = .ok (.dup, 1) := by decide +kernel
theorem dX7_need_38 : decode cX7_need 38 = .ok (.getfield 137, 3) := by decide +kernel
theorem dX7_need_41 : decode cX7_need 41 = .ok (.iconst 1, 1) := by decide +kernel
theorem dX7_need_42 : decode cX7_need 42 = .ok (.iadd, 1) := by decide +kernel
theorem dX7_need_43 : decode cX7_need 43 = .ok (.putfield 137, 3) := by decide +kernel
theorem dX7_need_46 : decode cX7_need 46 = .ok (.aload_n 0, 1) := by decide +kernel
theorem dX7_need_47 : decode cX7_need 47 = .ok (.getfield 137, 3) := by decide +kernel
theorem dX7_need_50 : decode cX7_need 50 = .ok (.ireturn, 1) := by decide +kernel
theorem dX7_clear_0 : decode cX7_clear 0 = .ok (.aload_n 0, 1) := by decide +kernel
theorem dX7_clear_1 : decode cX7_clear 1 = .ok (.iconst 0, 1) := by decide +kernel
theorem dX7_clear_2 : decode cX7_clear 2 = .ok (.putfield 68, 3) := by decide +kernel
theorem dX7_clear_5 : decode cX7_clear 5 = .ok (.aload_n 0, 1) := by decide +kernel
theorem dX7_clear_6 : decode cX7_clear 6 = .ok (.getfield 137, 3) := by decide +kernel
theorem dX7_clear_9 : decode cX7_clear 9 = .ok (.istore_n 1, 1) := by decide +kernel
theorem dX7_clear_10 : decode cX7_clear 10 = .ok (.aload_n 0, 1) := by decide +kernel
theorem dX7_clear_11 : decode cX7_clear 11 = .ok (.iconst 0, 1) := by decide +kernel
theorem dX7_clear_12 : decode cX7_clear 12 = .ok (.putfield 137, 3) := by decide +kernel
theorem dX7_clear_15 : decode cX7_clear 15 = .ok (.aload_n 0, 1) := by decide +kernel
theorem dX7_clear_16 : decode cX7_clear 16 = .ok (.iconst 0, 1) := by decide +kernel
theorem dX7_clear_17 : decode cX7_clear 17 = .ok (.putfield 140, 3) := by decide +kernel
theorem dX7_clear_20 : decode cX7_clear 20 = .ok (.aload_n 0, 1) := by decide +kernel
theorem dX7_clear_21 : decode cX7_clear 21 = .ok (.iconst 0, 1) := by decide +kernel
theorem dX7_clear_22 : decode cX7_clear 22 = .ok (.putfield 143, 3) := by decide +kernel
theorem dX7_clear_25 : decode cX7_clear 25 = .ok (.iload_n 1, 1) := by decide +kernel
theorem dX7_clear_26 : decode cX7_clear 26 = .ok (.ireturn, 1) := by decide +kernel
theorem dX7_plan_0 : decode cX7_plan 0 = .ok (.aload_n 0, 1) := by decide +kernel
theorem dX7_plan_1 : decode cX7_plan 1 = .ok (.iconst 0, 1) := by decide +kernel
theorem dX7_plan_2 : decode cX7_plan 2 = .ok (.putfield 68, 3) := by decide +kernel
theorem dX7_plan_5 : decode cX7_plan 5 = .ok (.iload_n 1, 1) := by decide +kernel
theorem dX7_plan_6 : decode cX7_plan 6 = .ok (.iconst 0, 1) := by decide +kernel
theorem dX7_plan_7 : decode cX7_plan 7 = .ok (.bipush 20, 2) := by decide +kernel
theorem dX7_plan_9 : decode cX7_plan 9 = .ok (.invokestatic 75, 3) := by decide +kernel
theorem dX7_plan_12 : decode cX7_plan 12 = .ok (.ifCond .ne 5, 3) := by decide +kernel
theorem dX7_plan_15 : decode cX7_plan 15 = .ok (.iconst (-1), 1) := by decide +kernel
theorem dX7_plan_16 : decode cX7_plan 16 = .ok (.ireturn, 1) := by decide +kernel
theorem dX7_plan_17 : decode cX7_plan 17 = .ok (.iconst 0, 1) := by decide +kernel
theorem dX7_plan_18 : decode cX7_plan 18 = .ok (.istore_n 2, 1) := by decide +kernel
theorem dX7_plan_19 : decode cX7_plan 19 = .ok (.iconst 0, 1) := by decide +kernel
theorem dX7_plan_20 : decode cX7_plan 20 = .ok (.istore_n 3, 1) := by decide +kernel
theorem dX7_plan_21 : decode cX7_plan 21 = .ok (.iload_n 3, 1) := by decide +kernel
theorem dX7_plan_22 : decode cX7_plan 22 = .ok (.aload_n 0, 1) := by decide +kernel
theorem dX7_plan_23 : decode cX7_plan 23 = .ok (.getfield 137, 3) := by decide +kernel
theorem dX7_plan_26 : decode cX7_plan 26 = .ok (.if_icmp .ge 18, 3) := by decide +kernel
theorem dX7_plan_29 : decode cX7_plan 29 = .ok (.iload_n 2, 1) := by decide +kernel
theorem dX7_plan_30 : decode cX7_plan 30 = .ok (.aload_n 0, 1) := by decide +kernel
theorem dX7_plan_31 : decode cX7_plan 31 = .ok (.getfield 32, 3) := by decide +kernel
theorem dX7_plan_34 : decode cX7_plan 34 = .ok (.iload_n 3, 1) := by decide +kernel
theorem dX7_plan_35 : decode cX7_plan 35 = .ok (.iaload, 1) := by decide +kernel
theorem dX7_plan_36 : decode cX7_plan 36 = .ok (.iadd, 1) := by decide +kernel
theorem dX7_plan_37 : decode cX7_plan 37 = .ok (.istore_n 2, 1) := by decide +kernel
theorem dX7_plan_38 : decode cX7_plan 38 = .ok (.iinc 3 1, 3) := by decide +kernel
theorem dX7_plan_41 : decode cX7_plan 41 = .ok (.goto (-20), 3) := by decide +kernel
theorem dX7_plan_44 : decode cX7_plan 44 = .ok (.iconst 0, 1) := by decide +kernel
theorem dX7_plan_45 : decode cX7_plan 45 = .ok (.istore_n 3, 1) := by decide +kernel
theorem dX7_plan_46 : decode cX7_plan 46 = .ok (.iload_n 3, 1) := by decide +kernel
theorem dX7_plan_47 : decode cX7_plan 47 = .ok (.sipush 260, 3) := by decide +kernel
theorem dX7_plan_50 : decode cX7_plan 50 = .ok (.if_icmp .ge 35, 3) := by decide +kernel
theorem dX7_plan_53 : decode cX7_plan 53 = .ok (.aload_n 0, 1) := by decide +kernel
theorem dX7_plan_54 : decode cX7_plan 54 = .ok (.getfield 59, 3) := by decide +kernel
theorem dX7_plan_57 : decode cX7_plan 57 = .ok (.sipush 260, 3) := by decide +kernel
theorem dX7_plan_60 : decode cX7_plan 60 = .ok (.aload_n 0, 1) := by decide +kernel
theorem dX7_plan_61 : decode cX7_plan 61 = .ok (.getfield 137, 3) := by decide +kernel
theorem dX7_plan_64 : decode cX7_plan 64 = .ok (.imul, 1) := by decide +kernel
theorem dX7_plan_65 : decode cX7_plan 65 = .ok (.iload_n 3, 1) := by decide +kernel
theorem dX7_plan_66 : decode cX7_plan 66 = .ok (.iadd, 1) := by decide +kernel
theorem dX7_plan_67 : decode cX7_plan 67 = .ok (.iload_n 3, 1) := by decide +kernel
theorem dX7_plan_68 : decode cX7_plan 68 = .ok (.iload_n 2, 1) := by decide +kernel
theorem dX7_plan_69 : decode cX7_plan 69 = .ok (.if_icmp .ne 7, 3) := by decide +kernel
theorem dX7_plan_72 : decode cX7_plan 72 = .ok (.iconst 0, 1) := by decide +kernel
theorem dX7_plan_73 : decode cX7_plan 73 = .ok (.goto 5, 3) := by decide +kernel
theorem dX7_plan_76 : decode cX7_plan 76 = .ok (.ldc 146, 2) := by decide +kernel
theorem dX7_plan_78 : decode cX7_plan 78 = .ok (.iastore, 1) := by decide +kernel
theorem dX7_plan_79 : decode cX7_plan 79 = .ok (.iinc 3 1, 3) := by decide +kernel
theorem dX7_plan_82 : decode cX7_plan 82 = .ok (.goto (-36), 3) := by decide +kernel
theorem dX7_plan_85 : decode cX7_plan 85 = .ok (.aload_n 0, 1) := by decide +kernel
theorem dX7_plan_86 : decode cX7_plan 86 = .ok (.getfield 137, 3) := by decide +kernel
theorem dX7_plan_89 : decode cX7_plan 89 = .ok (.iconst 1, 1) := by decide +kernel
theorem dX7_plan_90 : decode cX7_plan 90 = .ok (.isub, 1) := by decide +kernel
theorem dX7_plan_91 : decode cX7_plan 91 = .ok (.istore_n 3, 1) := by decide +kernel
theorem dX7_plan_92 : decode cX7_plan 92 = .ok (.iload_n 3, 1) := by decide +kernel
theorem dX7_plan_93 : decode cX7_plan 93 = .ok (.ifCond .lt 126, 3) := by decide +kernel
theorem dX7_plan_96 : decode cX7_plan 96 = .ok (.aload_n 0, 1) := by decide +kernel
theorem dX7_plan_97 : decode cX7_plan 97 = .ok (.getfield 29, 3) := by decide +kernel
theorem dX7_plan_100 : decode cX7_plan 100 = .ok (.aload_n 0, 1) := by decide +kernel
theorem dX7_plan_101 : decode cX7_plan 101 = .ok (.getfield 119, 3) := by decide +kernel
theorem dX7_plan_104 : decode cX7_plan 104 = .ok (.iload_n 3, 1) := by decide +kernel
theorem dX7_plan_105 : decode cX7_plan 105 = .ok (.iadd, 1) := by decide +kernel
theorem dX7_plan_106 : decode cX7_plan 106 = .ok (.bipush 24, 2) := by decide +kernel
theorem dX7_plan_108 : decode cX7_plan 108 = .ok (.irem, 1) := by decide +kernel
theorem dX7_plan_109 : decode cX7_plan 109 = .ok (.iaload, 1) := by decide +kernel
theorem dX7_plan_110 : decode cX7_plan 110 = .ok (.istore 4, 2) := by decide +kernel
theorem dX7_plan_112 : decode cX7_plan 112 = .ok (.iconst 0, 1) := by decide +kernel
theorem dX7_plan_113 : decode cX7_plan 113 = .ok (.istore 5, 2) := by decide +kernel
theorem dX7_plan_115 : decode cX7_plan 115 = .ok (.iload 5, 2) := by decide +kernel
theorem dX7_plan_117 : decode cX7_plan 117 = .ok (.bipush 20, 2) := by decide +kernel
theorem dX7_plan_119 : decode cX7_plan 119 = .ok (.iload_n 3, 1) := by decide +kernel
theorem dX7_plan_120 : decode cX7_plan 120 = .ok (.imul, 1) := by decide +kernel
theorem dX7_plan_121 : decode cX7_plan 121 = .ok (.if_icmp .gt 83, 3) := by decide +kernel
theorem dX7_plan_124 : decode cX7_plan 124 = .ok (.ldc 146, 2) := by decide +kernel
theorem dX7_plan_126 : decode cX7_plan 126 = .ok (.istore 6, 2) := by decide +kernel
theorem dX7_plan_128 : decode cX7_plan 128 = .ok (.iconst 0, 1) := by decide +kernel
theorem dX7_plan_129 : decode cX7_plan 129 = .ok (.istore 7, 2) := by decide +kernel
theorem dX7_plan_131 : decode cX7_plan 131 = .ok (.iload 7, 2) := by decide +kernel
theorem dX7_plan_133 : decode cX7_plan 133 = .ok (.iload_n 1, 1) := by decide +kernel
theorem dX7_plan_134 : decode cX7_plan 134 = .ok (.if_icmp .gt 49, 3) := by decide +kernel
theorem dX7_plan_137 : decode cX7_plan 137 = .ok (.iload 5, 2) := by decide +kernel
theorem dX7_plan_139 : decode cX7_plan 139 = .ok (.iload 7, 2) := by decide +kernel
theorem dX7_plan_141 : decode cX7_plan 141 = .ok (.iadd, 1) := by decide +kernel
theorem dX7_plan_142 : decode cX7_plan 142 = .ok (.iload_n 2, 1) := by decide +kernel
theorem dX7_plan_143 : decode cX7_plan 143 = .ok (.if_icmp .lt 34, 3) := by decide +kernel
theorem dX7_plan_146 : decode cX7_plan 146 = .ok (.iload 6, 2) := by decide +kernel
theorem dX7_plan_148 : decode cX7_plan 148 = .ok (.iload 7, 2) := by decide +kernel
theorem dX7_plan_150 : decode cX7_plan 150 = .ok (.iload 4, 2) := by decide +kernel
theorem dX7_plan_152 : decode cX7_plan 152 = .ok (.imul, 1) := by decide +kernel
theorem dX7_plan_153 : decode cX7_plan 153 = .ok (.aload_n 0, 1) := by decide +kernel
theorem dX7_plan_154 : decode cX7_plan 154 = .ok (.getfield 59, 3) := by decide +kernel
theorem dX7_plan_157 : decode cX7_plan 157 = .ok (.sipush 260, 3) := by decide +kernel
theorem dX7_plan_160 : decode cX7_plan 160 = .ok (.iload_n 3, 1) := by decide +kernel
theorem dX7_plan_161 : decode cX7_plan 161 = .ok (.iconst 1, 1) := by decide +kernel
theorem dX7_plan_162 : decode cX7_plan 162 = .ok (.iadd, 1) := by decide +kernel
theorem dX7_plan_163 : decode cX7_plan 163 = .ok (.imul, 1) := by decide +kernel
theorem dX7_plan_164 : decode cX7_plan 164 = .ok (.iload 5, 2) := by decide +kernel
theorem dX7_plan_166 : decode cX7_plan 166 = .ok (.iadd, 1) := by decide +kernel
theorem dX7_plan_167 : decode cX7_plan 167 = .ok (.iload 7, 2) := by decide +kernel
theorem dX7_plan_169 : decode cX7_plan 169 = .ok (.iadd, 1) := by decide +kernel
theorem dX7_plan_170 : decode cX7_plan 170 = .ok (.iaload, 1) := by decide +kernel
theorem dX7_plan_171 : decode cX7_plan 171 = .ok (.iadd, 1) := by decide +kernel
theorem dX7_plan_172 : decode cX7_plan 172 = .ok (.invokestatic 128, 3) := by decide +kernel
theorem dX7_plan_175 : decode cX7_plan 175 = .ok (.istore 6, 2) := by decide +kernel
theorem dX7_plan_177 : decode cX7_plan 177 = .ok (.iinc 7 1, 3) := by decide +kernel
theorem dX7_plan_180 : decode cX7_plan 180 = .ok (.goto (-49), 3) := by decide +kernel
theorem dX7_plan_183 : decode cX7_plan 183 = .ok (.aload_n 0, 1) := by decide +kernel
theorem dX7_plan_184 : decode cX7_plan 184 = .ok (.getfield 59, 3) := by decide +kernel
theorem dX7_plan_187 : decode cX7_plan 187 = .ok (.sipush 260, 3) := by decide +kernel
theorem dX7_plan_190 : decode cX7_plan 190 = .ok (.iload_n 3, 1) := by decide +kernel
theorem dX7_plan_191 : decode cX7_plan 191 = .ok (.imul, 1) := by decide +kernel
theorem dX7_plan_192 : decode cX7_plan 192 = .ok (.iload 5, 2) := by decide +kernel
theorem dX7_plan_194 : decode cX7_plan 194 = .ok (.iadd, 1) := by decide +kernel
theorem dX7_plan_195 : decode cX7_plan 195 = .ok (.iload 6, 2) := by decide +kernel
theorem dX7_plan_197 : decode cX7_plan 197 = .ok (.iastore, 1) := by decide +kernel
theorem dX7_plan_198 : decode cX7_plan 198 = .ok (.iinc 5 1, 3) := by decide +kernel
theorem dX7_plan_201 : decode cX7_plan 201 = .ok (.goto (-86), 3) := by decide +kernel
theorem dX7_plan_204 : decode cX7_plan 204 = .ok (.iload_n 2, 1) := by decide +kernel
theorem dX7_plan_205 : decode cX7_plan 205 = .ok (.aload_n 0, 1) := by decide +kernel
theorem dX7_plan_206 : decode cX7_plan 206 = .ok (.getfield 32, 3) := by decide +kernel
theorem dX7_plan_209 : decode cX7_plan 209 = .ok (.iload_n 3, 1) := by decide +kernel
theorem dX7_plan_210 : decode cX7_plan 210 = .ok (.iaload, 1) := by decide +kernel
theorem dX7_plan_211 : decode cX7_plan 211 = .ok (.isub, 1) := by decide +kernel
theorem dX7_plan_212 : decode cX7_plan 212 = .ok (.istore_n 2, 1) := by decide +kernel
theorem dX7_plan_213 : decode cX7_plan 213 = .ok (.iinc 3 (-1), 3) := by decide +kernel
theorem dX7_plan_216 : decode cX7_plan 216 = .ok (.goto (-124), 3) := by decide +kernel
theorem dX7_plan_219 : decode cX7_plan 219 = .ok (.aload_n 0, 1) := by decide +kernel
theorem dX7_plan_220 : decode cX7_plan 220 = .ok (.getfield 59, 3) := by decide +kernel
theorem dX7_plan_223 : decode cX7_plan 223 = .ok (.iconst 0, 1) := by decide +kernel
theorem dX7_plan_224 : decode cX7_plan 224 = .ok (.iaload, 1) := by decide +kernel
theorem dX7_plan_225 : decode cX7_plan 225 = .ok (.ldc 146, 2) := by decide +kernel
theorem dX7_plan_227 : decode cX7_plan 227 = .ok (.if_icmp .lt 6, 3) := by decide +kernel
theorem dX7_plan_230 : decode cX7_plan 230 = .ok (.bipush (-2), 2) := by decide +kernel
theorem dX7_plan_232 : decode cX7_plan 232 = .ok (.ireturn, 1) := by decide +kernel
theorem dX7_plan_233 : decode cX7_plan 233 = .ok (.iconst 0, 1) := by decide +kernel
theorem dX7_plan_234 : decode cX7_plan 234 = .ok (.istore_n 3, 1) := by decide +kernel
theorem dX7_plan_235 : decode cX7_plan 235 = .ok (.iconst 0, 1) := by decide +kernel
theorem dX7_plan_236 : decode cX7_plan 236 = .ok (.istore 4, 2) := by decide +kernel
theorem dX7_plan_238 : decode cX7_plan 238 = .ok (.iconst 0, 1) := by decide +kernel
theorem dX7_plan_239 : decode cX7_plan 239 = .ok (.istore 5, 2) := by decide +kernel
theorem dX7_plan_241 : decode cX7_plan 241 = .ok (.iload 5, 2) := by decide +kernel
theorem dX7_plan_243 : decode cX7_plan 243 = .ok (.aload_n 0, 1) := by decide +kernel
theorem dX7_plan_244 : decode cX7_plan 244 = .ok (.getfield 137, 3) := by decide +kernel
theorem dX7_plan_247 : decode cX7_plan 247 = .ok (.if_icmp .ge 110, 3) := by decide +kernel
theorem dX7_plan_250 : decode cX7_plan 250 = .ok (.aload_n 0, 1) := by decide +kernel
theorem dX7_plan_251 : decode cX7_plan 251 = .ok (.getfield 29, 3) := by decide +kernel
theorem dX7_plan_254 : decode cX7_plan 254 = .ok (.aload_n 0, 1) := by decide +kernel
theorem dX7_plan_255 : decode cX7_plan 255 = .ok (.getfield 119, 3) := by decide +kernel
theorem dX7_plan_258 : decode cX7_plan 258 = .ok (.iload 5, 2) := by decide +kernel
theorem dX7_plan_260 : decode cX7_plan 260 = .ok (.iadd, 1) := by decide +kernel
theorem dX7_plan_261 : decode cX7_plan 261 = .ok (.bipush 24, 2) := by decide +kernel
theorem dX7_plan_263 : decode cX7_plan 263 = .ok (.irem, 1) := by decide +kernel
theorem dX7_plan_264 : decode cX7_plan 264 = .ok (.iaload, 1) := by decide +kernel
theorem dX7_plan_265 : decode cX7_plan 265 = .ok (.istore 6, 2) := by decide +kernel
theorem dX7_plan_267 : decode cX7_plan 267 = .ok (.iload 4, 2) := by decide +kernel
theorem dX7_plan_269 : decode cX7_plan 269 = .ok (.aload_n 0, 1) := by decide +kernel
theorem dX7_plan_270 : decode cX7_plan 270 = .ok (.getfield 32, 3) := by decide +kernel
theorem dX7_plan_273 : decode cX7_plan 273 = .ok (.iload 5, 2) := by decide +kernel
theorem dX7_plan_275 : decode cX7_plan 275 = .ok (.iaload, 1) := by decide +kernel
theorem dX7_plan_276 : decode cX7_plan 276 = .ok (.iadd, 1) := by decide +kernel
theorem dX7_plan_277 : decode cX7_plan 277 = .ok (.istore 4, 2) := by decide +kernel
theorem dX7_plan_279 : decode cX7_plan 279 = .ok (.iload_n 1, 1) := by decide +kernel
theorem dX7_plan_280 : decode cX7_plan 280 = .ok (.istore 7, 2) := by decide +kernel
theorem dX7_plan_282 : decode cX7_plan 282 = .ok (.iload_n 3, 1) := by decide +kernel
theorem dX7_plan_283 : decode cX7_plan 283 = .ok (.iload 7, 2) := by decide +kernel
theorem dX7_plan_285 : decode cX7_plan 285 = .ok (.iadd, 1) := by decide +kernel
theorem dX7_plan_286 : decode cX7_plan 286 = .ok (.iload 4, 2) := by decide +kernel
theorem dX7_plan_288 : decode cX7_plan 288 = .ok (.if_icmp .lt 43, 3) := by decide +kernel
theorem dX7_plan_291 : decode cX7_plan 291 = .ok (.iload 7, 2) := by decide +kernel
theorem dX7_plan_293 : decode cX7_plan 293 = .ok (.iload 6, 2) := by decide +kernel
theorem dX7_plan_295 : decode cX7_plan 295 = .ok (.imul, 1) := by decide +kernel
theorem dX7_plan_296 : decode cX7_plan 296 = .ok (.aload_n 0, 1) := by decide +kernel
theorem dX7_plan_297 : decode cX7_plan 297 = .ok (.getfield 59, 3) := by decide +kernel
theorem dX7_plan_300 : decode cX7_plan 300 = .ok (.sipush 260, 3) := by decide +kernel
theorem dX7_plan_303 : decode cX7_plan 303 = .ok (.iload 5, 2) := by decide +kernel
theorem dX7_plan_305 : decode cX7_plan 305 = .ok (.iconst 1, 1) := by decide +kernel
theorem dX7_plan_306 : decode cX7_plan 306 = .ok (.iadd, 1) := by decide +kernel
theorem dX7_plan_307 : decode cX7_plan 307 = .ok (.imul, 1) := by decide +kernel
theorem dX7_plan_308 : decode cX7_plan 308 = .ok (.iload_n 3, 1) := by decide +kernel
theorem dX7_plan_309 : decode cX7_plan 309 = .ok (.iadd, 1) := by decide +kernel
theorem dX7_plan_310 : decode cX7_plan 310 = .ok (.iload 7, 2) := by decide +kernel
theorem dX7_plan_312 : decode cX7_plan 312 = .ok (.iadd, 1) := by decide +kernel
theorem dX7_plan_313 : decode cX7_plan 313 = .ok (.iaload, 1) := by decide +kernel
theorem dX7_plan_314 : decode cX7_plan 314 = .ok (.iadd, 1) := by decide +kernel
theorem dX7_plan_315 : decode cX7_plan 315 = .ok (.aload_n 0, 1) := by decide +kernel
theorem dX7_plan_316 : decode cX7_plan 316 = .ok (.getfield 59, 3) := by decide +kernel
theorem dX7_plan_319 : decode cX7_plan 319 = .ok (.sipush 260, 3) := by decide +kernel
theorem dX7_plan_322 : decode cX7_plan 322 = .ok (.iload 5, 2) := by decide +kernel
theorem dX7_plan_324 : decode cX7_plan 324 = .ok (.imul, 1) := by decide +kernel
theorem dX7_plan_325 : decode cX7_plan 325 = .ok (.iload_n 3, 1) := by decide +kernel
theorem dX7_plan_326 : decode cX7_plan 326 = .ok (.iadd, 1) := by decide +kernel
theorem dX7_plan_327 : decode cX7_plan 327 = .ok (.iaload, 1) := by decide +kernel
theorem dX7_plan_328 : decode cX7_plan 328 = .ok (.if_icmp .eq 9, 3) := by decide +kernel
theorem dX7_plan_331 : decode cX7_plan 331 = .ok (.iinc 7 (-1), 3) := by decide +kernel
theorem dX7_plan_334 : decode cX7_plan 334 = .ok (.goto (-52), 3) := by decide +kernel
theorem dX7_plan_337 : decode cX7_plan 337 = .ok (.aload_n 0, 1) := by decide +kernel
theorem dX7_plan_338 : decode cX7_plan 338 = .ok (.getfield 35, 3) := by decide +kernel
theorem dX7_plan_341 : decode cX7_plan 341 = .ok (.iload 5, 2) := by decide +kernel
theorem dX7_plan_343 : decode cX7_plan 343 = .ok (.iload 7, 2) := by decide +kernel
theorem dX7_plan_345 : decode cX7_plan 345 = .ok (.iastore, 1) := by decide +kernel
theorem dX7_plan_346 : decode cX7_plan 346 = .ok (.iload_n 3, 1) := by decide +kernel
theorem dX7_plan_347 : decode cX7_plan 347 = .ok (.iload 7, 2) := by decide +kernel
theorem dX7_plan_349 : decode cX7_plan 349 = .ok (.iadd, 1) := by decide +kernel
theorem dX7_plan_350 : decode cX7_plan 350 = .ok (.istore_n 3, 1) := by decide +kernel
theorem dX7_plan_351 : decode cX7_plan 351 = .ok (.iinc 5 1, 3) := by decide +kernel
theorem dX7_plan_354 : decode cX7_plan 354 = .ok (.goto (-113), 3) := by decide +kernel
theorem dX7_plan_357 : decode cX7_plan 357 = .ok (.aload_n 0, 1) := by decide +kernel
theorem dX7_plan_358 : decode cX7_plan 358 = .ok (.aload_n 0, 1) := by decide +kernel
theorem dX7_plan_359 : decode cX7_plan 359 = .ok (.getfield 137, 3) := by decide +kernel
theorem dX7_plan_362 : decode cX7_plan 362 = .ok (.putfield 147, 3) := by decide +kernel
theorem dX7_plan_365 : decode cX7_plan 365 = .ok (.aload_n 0, 1) := by decide +kernel
theorem dX7_plan_366 : decode cX7_plan 366 = .ok (.getfield 59, 3) := by decide +kernel
theorem dX7_plan_369 : decode cX7_plan 369 = .ok (.iconst 0, 1) := by decide +kernel
theorem dX7_plan_370 : decode cX7_plan 370 = .ok (.iaload, 1) := by decide +kernel
theorem dX7_plan_371 : decode cX7_plan 371 = .ok (.ireturn, 1) := by decide +kernel
theorem dX7_planned_0 : decode cX7_planned 0 = .ok (.aload_n 0, 1) := by decide +kernel
theorem dX7_planned_1 : decode cX7_planned 1 = .ok (.iconst 0, 1) := by decide +kernel
theorem dX7_planned_2 : decode cX7_planned 2 = .ok (.putfield 68, 3) := by decide +kernel
theorem dX7_planned_5 : decode cX7_planned 5 = .ok (.iload_n 1, 1) := by decide +kernel
theorem dX7_planned_6 : decode cX7_planned 6 = .ok (.iconst 0, 1) := by decide +kernel
theorem dX7_planned_7 : decode cX7_planned 7 = .ok (.aload_n 0, 1) := by decide +kernel
theorem dX7_planned_8 : decode cX7_planned 8 = .ok (.getfield 147, 3) := by decide +kernel
theorem dX7_planned_11 : decode cX7_planned 11 = .ok (.iconst 1, 1) := by decide +kernel
theorem dX7_planned_12 : decode cX7_planned 12 = .ok (.isub, 1) := by decide +kernel
theorem dX7_planned_13 : decode cX7_planned 13 = .ok (.invokestatic 75, 3) := by decide +kernel
theorem dX7_planned_16 : decode cX7_planned 16 = .ok (.ifCond .eq 12, 3) := by decide +kernel
theorem dX7_planned_19 : decode cX7_planned 19 = .ok (.aload_n 0, 1) := by decide +kernel
theorem dX7_planned_20 : decode cX7_planned 20 = .ok (.getfield 35, 3) := by decide +kernel
theorem dX7_planned_23 : decode cX7_planned 23 = .ok (.iload_n 1, 1) := by decide +kernel
theorem dX7_planned_24 : decode cX7_planned 24 = .ok (.iaload, 1) := by decide +kernel
theorem dX7_planned_25 : decode cX7_planned 25 = .ok (.goto 4, 3) := by decide +kernel
theorem dX7_planned_28 : decode cX7_planned 28 = .ok (.iconst (-1), 1) := by decide +kernel
theorem dX7_planned_29 : decode cX7_planned 29 = .ok (.ireturn, 1) := by decide +kernel
theorem dX7_wish_0 : decode cX7_wish 0 = .ok (.aload_n 0, 1) := by decide +kernel
theorem dX7_wish_1 : decode cX7_wish 1 = .ok (.iconst 0, 1) := by decide +kernel
theorem dX7_wish_2 : decode cX7_wish 2 = .ok (.putfield 68, 3) := by decide +kernel
theorem dX7_wish_5 : decode cX7_wish 5 = .ok (.aload_n 0, 1) := by decide +kernel
theorem dX7_wish_6 : decode cX7_wish 6 = .ok (.iload_n 1, 1) := by decide +kernel
theorem dX7_wish_7 : decode cX7_wish 7 = .ok (.invokevirtual 97, 3) := by decide +kernel
theorem dX7_wish_10 : decode cX7_wish 10 = .ok (.ifCond .eq 13, 3) := by decide +kernel
theorem dX7_wish_13 : decode cX7_wish 13 = .ok (.iload_n 2, 1) := by decide +kernel
theorem dX7_wish_14 : decode cX7_wish 14 = .ok (.iconst 0, 1) := by decide +kernel
theorem dX7_wish_15 : decode cX7_wish 15 = .ok (.bipush 8, 2) := by decide +kernel
theorem dX7_wish_17 : decode cX7_wish 17 = .ok (.invokestatic 75, 3) := by decide +kernel
theorem dX7_wish_20 : decode cX7_wish 20 = .ok (.ifCond .ne 5, 3) := by decide +kernel
theorem dX7_wish_23 : decode cX7_wish 23 = .ok (.iconst 0, 1) := by decide +kernel
theorem dX7_wish_24 : decode cX7_wish 24 = .ok (.ireturn, 1) := by decide +kernel
theorem dX7_wish_25 : decode cX7_wish 25 = .ok (.aload_n 0, 1) := by decide +kernel
theorem dX7_wish_26 : decode cX7_wish 26 = .ok (.getfield 9, 3) := by decide +kernel
theorem dX7_wish_29 : decode cX7_wish 29 = .ok (.bipush 7, 2) := by decide +kernel
theorem dX7_wish_31 : decode cX7_wish 31 = .ok (.iload_n 1, 1) := by decide +kernel
theorem dX7_wish_32 : decode cX7_wish 32 = .ok (.imul, 1) := by decide +kernel
theorem dX7_wish_33 : decode cX7_wish 33 = .ok (.bipush 6, 2) := by decide +kernel
theorem dX7_wish_35 : decode cX7_wish 35 = .ok (.iadd, 1) := by decide +kernel
theorem dX7_wish_36 : decode cX7_wish 36 = .ok (.iload_n 2, 1) := by decide +kernel
theorem dX7_wish_37 : decode cX7_wish 37 = .ok (.iastore, 1) := by decide +kernel
theorem dX7_wish_38 : decode cX7_wish 38 = .ok (.iconst 1, 1) := by decide +kernel
theorem dX7_wish_39 : decode cX7_wish 39 = .ok (.ireturn, 1) := by decide +kernel
theorem dX7_away_0 : decode cX7_away 0 = .ok (.iload_n 0, 1) := by decide +kernel
theorem dX7_away_1 : decode cX7_away 1 = .ok (.iload_n 2, 1) := by decide +kernel
theorem dX7_away_2 : decode cX7_away 2 = .ok (.isub, 1) := by decide +kernel
theorem dX7_away_3 : decode cX7_away 3 = .ok (.invokestatic 150, 3) := by decide +kernel
theorem dX7_away_6 : decode cX7_away 6 = .ok (.iload_n 1, 1) := by decide +kernel
theorem dX7_away_7 : decode cX7_away 7 = .ok (.iload_n 3, 1) := by decide +kernel
theorem dX7_away_8 : decode cX7_away 8 = .ok (.isub, 1) := by decide +kernel
theorem dX7_away_9 : decode cX7_away 9 = .ok (.invokestatic 150, 3) := by decide +kernel
theorem dX7_away_12 : decode cX7_away 12 = .ok (.iadd, 1) := by decide +kernel
theorem dX7_away_13 : decode cX7_away 13 = .ok (.ireturn, 1) := by decide +kernel
theorem dX7_goOn_0 : decode cX7_goOn 0 = .ok (.iload_n 2, 1) := by decide +kernel
theorem dX7_goOn_1 : decode cX7_goOn 1 = .ok (.iload 7, 2) := by decide +kernel
theorem dX7_goOn_3 : decode cX7_goOn 3 = .ok (.if_icmp .ne 65, 3) := by decide +kernel
theorem dX7_goOn_6 : decode cX7_goOn 6 = .ok (.iload 6, 2) := by decide +kernel
theorem dX7_goOn_8 : decode cX7_goOn 8 = .ok (.iload_n 3, 1) := by decide +kernel
theorem dX7_goOn_9 : decode cX7_goOn 9 = .ok (.iadd, 1) := by decide +kernel
theorem dX7_goOn_10 : decode cX7_goOn 10 = .ok (.iload 4, 2) := by decide +kernel
theorem dX7_goOn_12 : decode cX7_goOn 12 = .ok (.iadd, 1) := by decide +kernel
