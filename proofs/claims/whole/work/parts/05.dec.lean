theorem dm_97_77 : decode cm_97 77 = .ok (.iaload, 1) := by decide +kernel
theorem dm_97_78 : decode cm_97 78 = .ok (.iconst 4, 1) := by decide +kernel
theorem dm_97_79 : decode cm_97 79 = .ok (.if_icmp .le 5, 3) := by decide +kernel
theorem dm_97_82 : decode cm_97 82 = .ok (.iconst 0, 1) := by decide +kernel
theorem dm_97_83 : decode cm_97 83 = .ok (.ireturn, 1) := by decide +kernel
theorem dm_97_84 : decode cm_97 84 = .ok (.iload_n 2, 1) := by decide +kernel
theorem dm_97_85 : decode cm_97 85 = .ok (.bipush 10, 2) := by decide +kernel
theorem dm_97_87 : decode cm_97 87 = .ok (.bipush 12, 2) := by decide +kernel
theorem dm_97_89 : decode cm_97 89 = .ok (.invokestatic 83, 3) := by decide +kernel
theorem dm_97_92 : decode cm_97 92 = .ok (.ifCond .ne 9, 3) := by decide +kernel
theorem dm_97_95 : decode cm_97 95 = .ok (.iload_n 2, 1) := by decide +kernel
theorem dm_97_96 : decode cm_97 96 = .ok (.bipush 15, 2) := by decide +kernel
theorem dm_97_98 : decode cm_97 98 = .ok (.if_icmp .ne 28, 3) := by decide +kernel
theorem dm_97_101 : decode cm_97 101 = .ok (.iload_n 3, 1) := by decide +kernel
theorem dm_97_102 : decode cm_97 102 = .ok (.iconst 0, 1) := by decide +kernel
theorem dm_97_103 : decode cm_97 103 = .ok (.bipush 7, 2) := by decide +kernel
theorem dm_97_105 : decode cm_97 105 = .ok (.invokestatic 83, 3) := by decide +kernel
theorem dm_97_108 : decode cm_97 108 = .ok (.ifCond .eq 16, 3) := by decide +kernel
theorem dm_97_111 : decode cm_97 111 = .ok (.aload_n 0, 1) := by decide +kernel
theorem dm_97_112 : decode cm_97 112 = .ok (.getfield 64, 3) := by decide +kernel
theorem dm_97_115 : decode cm_97 115 = .ok (.iload_n 3, 1) := by decide +kernel
theorem dm_97_116 : decode cm_97 116 = .ok (.baload, 1) := by decide +kernel
theorem dm_97_117 : decode cm_97 117 = .ok (.ifCond .eq 7, 3) := by decide +kernel
theorem dm_97_120 : decode cm_97 120 = .ok (.iconst 1, 1) := by decide +kernel
theorem dm_97_121 : decode cm_97 121 = .ok (.goto 4, 3) := by decide +kernel
theorem dm_97_124 : decode cm_97 124 = .ok (.iconst 0, 1) := by decide +kernel
theorem dm_97_125 : decode cm_97 125 = .ok (.ireturn, 1) := by decide +kernel
theorem dm_97_126 : decode cm_97 126 = .ok (.iload_n 2, 1) := by decide +kernel
theorem dm_97_127 : decode cm_97 127 = .ok (.bipush 14, 2) := by decide +kernel
theorem dm_97_129 : decode cm_97 129 = .ok (.if_icmp .ne 13, 3) := by decide +kernel
theorem dm_97_132 : decode cm_97 132 = .ok (.iload_n 3, 1) := by decide +kernel
theorem dm_97_133 : decode cm_97 133 = .ok (.iconst 0, 1) := by decide +kernel
theorem dm_97_134 : decode cm_97 134 = .ok (.bipush 6, 2) := by decide +kernel
theorem dm_97_136 : decode cm_97 136 = .ok (.invokestatic 83, 3) := by decide +kernel
theorem dm_97_139 : decode cm_97 139 = .ok (.ifCond .eq 7, 3) := by decide +kernel
theorem dm_97_142 : decode cm_97 142 = .ok (.iconst 1, 1) := by decide +kernel
theorem dm_97_143 : decode cm_97 143 = .ok (.goto 4, 3) := by decide +kernel
theorem dm_97_146 : decode cm_97 146 = .ok (.iconst 0, 1) := by decide +kernel
theorem dm_97_147 : decode cm_97 147 = .ok (.ireturn, 1) := by decide +kernel
theorem dm_98_0 : decode cm_98 0 = .ok (.iconst 0, 1) := by decide +kernel
theorem dm_98_1 : decode cm_98 1 = .ok (.istore_n 1, 1) := by decide +kernel
theorem dm_98_2 : decode cm_98 2 = .ok (.iload_n 1, 1) := by decide +kernel
theorem dm_98_3 : decode cm_98 3 = .ok (.aload_n 0, 1) := by decide +kernel
theorem dm_98_4 : decode cm_98 4 = .ok (.getfield 89, 3) := by decide +kernel
theorem dm_98_7 : decode cm_98 7 = .ok (.if_icmp .ge 19, 3) := by decide +kernel
theorem dm_98_10 : decode cm_98 10 = .ok (.aload_n 0, 1) := by decide +kernel
theorem dm_98_11 : decode cm_98 11 = .ok (.iload_n 1, 1) := by decide +kernel
theorem dm_98_12 : decode cm_98 12 = .ok (.invokevirtual 96, 3) := by decide +kernel
theorem dm_98_15 : decode cm_98 15 = .ok (.ifCond .ne 5, 3) := by decide +kernel
theorem dm_98_18 : decode cm_98 18 = .ok (.iconst 0, 1) := by decide +kernel
theorem dm_98_19 : decode cm_98 19 = .ok (.ireturn, 1) := by decide +kernel
theorem dm_98_20 : decode cm_98 20 = .ok (.iinc 1 1, 3) := by decide +kernel
theorem dm_98_23 : decode cm_98 23 = .ok (.goto (-21), 3) := by decide +kernel
theorem dm_98_26 : decode cm_98 26 = .ok (.aload_n 0, 1) := by decide +kernel
theorem dm_98_27 : decode cm_98 27 = .ok (.aload_n 0, 1) := by decide +kernel
theorem dm_98_28 : decode cm_98 28 = .ok (.getfield 89, 3) := by decide +kernel
theorem dm_98_31 : decode cm_98 31 = .ok (.invokevirtual 100, 3) := by decide +kernel
theorem dm_98_34 : decode cm_98 34 = .ok (.iconst 1, 1) := by decide +kernel
theorem dm_98_35 : decode cm_98 35 = .ok (.iadd, 1) := by decide +kernel
theorem dm_98_36 : decode cm_98 36 = .ok (.bipush 31, 2) := by decide +kernel
theorem dm_98_38 : decode cm_98 38 = .ok (.if_icmp .gt 7, 3) := by decide +kernel
theorem dm_98_41 : decode cm_98 41 = .ok (.iconst 1, 1) := by decide +kernel
theorem dm_98_42 : decode cm_98 42 = .ok (.goto 4, 3) := by decide +kernel
theorem dm_98_45 : decode cm_98 45 = .ok (.iconst 0, 1) := by decide +kernel
theorem dm_98_46 : decode cm_98 46 = .ok (.ireturn, 1) := by decide +kernel
theorem dm_99_0 : decode cm_99 0 = .ok (.iload_n 0, 1) := by decide +kernel
theorem dm_99_1 : decode cm_99 1 = .ok (.iload_n 1, 1) := by decide +kernel
theorem dm_99_2 : decode cm_99 2 = .ok (.iconst 4, 1) := by decide +kernel
theorem dm_99_3 : decode cm_99 3 = .ok (.ishl, 1) := by decide +kernel
theorem dm_99_4 : decode cm_99 4 = .ok (.ior, 1) := by decide +kernel
theorem dm_99_5 : decode cm_99 5 = .ok (.iload_n 2, 1) := by decide +kernel
theorem dm_99_6 : decode cm_99 6 = .ok (.bipush 7, 2) := by decide +kernel
theorem dm_99_8 : decode cm_99 8 = .ok (.ishl, 1) := by decide +kernel
theorem dm_99_9 : decode cm_99 9 = .ok (.ior, 1) := by decide +kernel
theorem dm_99_10 : decode cm_99 10 = .ok (.iload_n 3, 1) := by decide +kernel
theorem dm_99_11 : decode cm_99 11 = .ok (.bipush 10, 2) := by decide +kernel
theorem dm_99_13 : decode cm_99 13 = .ok (.ishl, 1) := by decide +kernel
theorem dm_99_14 : decode cm_99 14 = .ok (.ior, 1) := by decide +kernel
theorem dm_99_15 : decode cm_99 15 = .ok (.ireturn, 1) := by decide +kernel
theorem dm_100_0 : decode cm_100 0 = .ok (.aload_n 0, 1) := by decide +kernel
theorem dm_100_1 : decode cm_100 1 = .ok (.getfield 71, 3) := by decide +kernel
theorem dm_100_4 : decode cm_100 4 = .ok (.aload_n 0, 1) := by decide +kernel
theorem dm_100_5 : decode cm_100 5 = .ok (.getfield 93, 3) := by decide +kernel
theorem dm_100_8 : decode cm_100 8 = .ok (.iload_n 1, 1) := by decide +kernel
theorem dm_100_9 : decode cm_100 9 = .ok (.iastore, 1) := by decide +kernel
theorem dm_100_10 : decode cm_100 10 = .ok (.aload_n 0, 1) := by decide +kernel
theorem dm_100_11 : decode cm_100 11 = .ok (.dup, 1) := by decide +kernel
theorem dm_100_12 : decode cm_100 12 = .ok (.getfield 93, 3) := by decide +kernel
theorem dm_100_15 : decode cm_100 15 = .ok (.iconst 1, 1) := by decide +kernel
theorem dm_100_16 : decode cm_100 16 = .ok (.iadd, 1) := by decide +kernel
theorem dm_100_17 : decode cm_100 17 = .ok (.putfield 93, 3) := by decide +kernel
theorem dm_100_20 : decode cm_100 20 = .ok (.return_, 1) := by decide +kernel
theorem dm_101_0 : decode cm_101 0 = .ok (.aload_n 0, 1) := by decide +kernel
theorem dm_101_1 : decode cm_101 1 = .ok (.aload_n 0, 1) := by decide +kernel
theorem dm_101_2 : decode cm_101 2 = .ok (.getfield 68, 3) := by decide +kernel
theorem dm_101_5 : decode cm_101 5 = .ok (.iload_n 1, 1) := by decide +kernel
theorem dm_101_6 : decode cm_101 6 = .ok (.iaload, 1) := by decide +kernel
theorem dm_101_7 : decode cm_101 7 = .ok (.invokevirtual 100, 3) := by decide +kernel
theorem dm_101_10 : decode cm_101 10 = .ok (.ireturn, 1) := by decide +kernel
theorem dm_102_0 : decode cm_102 0 = .ok (.iload_n 1, 1) := by decide +kernel
theorem dm_102_1 : decode cm_102 1 = .ok (.iconst 0, 1) := by decide +kernel
theorem dm_102_2 : decode cm_102 2 = .ok (.iconst 2, 1) := by decide +kernel
theorem dm_102_3 : decode cm_102 3 = .ok (.invokestatic 83, 3) := by decide +kernel
theorem dm_102_6 : decode cm_102 6 = .ok (.ifCond .eq 10, 3) := by decide +kernel
theorem dm_102_9 : decode cm_102 9 = .ok (.aload_n 0, 1) := by decide +kernel
theorem dm_102_10 : decode cm_102 10 = .ok (.invokevirtual 104, 3) := by decide +kernel
theorem dm_102_13 : decode cm_102 13 = .ok (.ifCond .ne 5, 3) := by decide +kernel
theorem dm_102_16 : decode cm_102 16 = .ok (.iconst (-1), 1) := by decide +kernel
theorem dm_102_17 : decode cm_102 17 = .ok (.ireturn, 1) := by decide +kernel
theorem dm_102_18 : decode cm_102 18 = .ok (.aload_n 0, 1) := by decide +kernel
theorem dm_102_19 : decode cm_102 19 = .ok (.iconst 0, 1) := by decide +kernel
theorem dm_102_20 : decode cm_102 20 = .ok (.putfield 93, 3) := by decide +kernel
theorem dm_102_23 : decode cm_102 23 = .ok (.iconst 0, 1) := by decide +kernel
theorem dm_102_24 : decode cm_102 24 = .ok (.istore_n 2, 1) := by decide +kernel
theorem dm_102_25 : decode cm_102 25 = .ok (.iload_n 2, 1) := by decide +kernel
theorem dm_102_26 : decode cm_102 26 = .ok (.aload_n 0, 1) := by decide +kernel
theorem dm_102_27 : decode cm_102 27 = .ok (.getfield 89, 3) := by decide +kernel
theorem dm_102_30 : decode cm_102 30 = .ok (.if_icmp .ge 15, 3) := by decide +kernel
theorem dm_102_33 : decode cm_102 33 = .ok (.aload_n 0, 1) := by decide +kernel
theorem dm_102_34 : decode cm_102 34 = .ok (.iload_n 2, 1) := by decide +kernel
theorem dm_102_35 : decode cm_102 35 = .ok (.iload_n 1, 1) := by decide +kernel
theorem dm_102_36 : decode cm_102 36 = .ok (.invokevirtual 108, 3) := by decide +kernel
theorem dm_102_39 : decode cm_102 39 = .ok (.iinc 2 1, 3) := by decide +kernel
theorem dm_102_42 : decode cm_102 42 = .ok (.goto (-17), 3) := by decide +kernel
theorem dm_102_45 : decode cm_102 45 = .ok (.aload_n 0, 1) := by decide +kernel
theorem dm_102_46 : decode cm_102 46 = .ok (.iconst 0, 1) := by decide +kernel
theorem dm_102_47 : decode cm_102 47 = .ok (.invokevirtual 112, 3) := by decide +kernel
theorem dm_102_50 : decode cm_102 50 = .ok (.aload_n 0, 1) := by decide +kernel
theorem dm_102_51 : decode cm_102 51 = .ok (.getfield 93, 3) := by decide +kernel
theorem dm_102_54 : decode cm_102 54 = .ok (.ireturn, 1) := by decide +kernel
theorem dm_103_0 : decode cm_103 0 = .ok (.aload_n 0, 1) := by decide +kernel
theorem dm_103_1 : decode cm_103 1 = .ok (.getfield 52, 3) := by decide +kernel
theorem dm_103_4 : decode cm_103 4 = .ok (.iload_n 1, 1) := by decide +kernel
theorem dm_103_5 : decode cm_103 5 = .ok (.iaload, 1) := by decide +kernel
theorem dm_103_6 : decode cm_103 6 = .ok (.istore_n 3, 1) := by decide +kernel
theorem dm_103_7 : decode cm_103 7 = .ok (.aload_n 0, 1) := by decide +kernel
theorem dm_103_8 : decode cm_103 8 = .ok (.getfield 55, 3) := by decide +kernel
theorem dm_103_11 : decode cm_103 11 = .ok (.iload_n 1, 1) := by decide +kernel
theorem dm_103_12 : decode cm_103 12 = .ok (.iaload, 1) := by decide +kernel
theorem dm_103_13 : decode cm_103 13 = .ok (.istore 4, 2) := by decide +kernel
theorem dm_103_15 : decode cm_103 15 = .ok (.aload_n 0, 1) := by decide +kernel
theorem dm_103_16 : decode cm_103 16 = .ok (.getfield 58, 3) := by decide +kernel
theorem dm_103_19 : decode cm_103 19 = .ok (.iload_n 1, 1) := by decide +kernel
theorem dm_103_20 : decode cm_103 20 = .ok (.iaload, 1) := by decide +kernel
theorem dm_103_21 : decode cm_103 21 = .ok (.istore 5, 2) := by decide +kernel
theorem dm_103_23 : decode cm_103 23 = .ok (.aload_n 0, 1) := by decide +kernel
theorem dm_103_24 : decode cm_103 24 = .ok (.getfield 61, 3) := by decide +kernel
theorem dm_103_27 : decode cm_103 27 = .ok (.iload_n 1, 1) := by decide +kernel
theorem dm_103_28 : decode cm_103 28 = .ok (.iaload, 1) := by decide +kernel
theorem dm_103_29 : decode cm_103 29 = .ok (.istore 6, 2) := by decide +kernel
theorem dm_103_31 : decode cm_103 31 = .ok (.iload_n 3, 1) := by decide +kernel
theorem dm_103_32 : decode cm_103 32 = .ok (.bipush 8, 2) := by decide +kernel
theorem dm_103_34 : decode cm_103 34 = .ok (.if_icmp .eq 9, 3) := by decide +kernel
theorem dm_103_37 : decode cm_103 37 = .ok (.iload_n 3, 1) := by decide +kernel
theorem dm_103_38 : decode cm_103 38 = .ok (.bipush 9, 2) := by decide +kernel
theorem dm_103_40 : decode cm_103 40 = .ok (.if_icmp .ne 63, 3) := by decide +kernel
theorem dm_103_43 : decode cm_103 43 = .ok (.aload_n 0, 1) := by decide +kernel
theorem dm_103_44 : decode cm_103 44 = .ok (.iconst 2, 1) := by decide +kernel
theorem dm_103_45 : decode cm_103 45 = .ok (.iconst 5, 1) := by decide +kernel
theorem dm_103_46 : decode cm_103 46 = .ok (.iload 5, 2) := by decide +kernel
theorem dm_103_48 : decode cm_103 48 = .ok (.iload 6, 2) := by decide +kernel
theorem dm_103_50 : decode cm_103 50 = .ok (.invokestatic 116, 3) := by decide +kernel
theorem dm_103_53 : decode cm_103 53 = .ok (.invokevirtual 112, 3) := by decide +kernel
theorem dm_103_56 : decode cm_103 56 = .ok (.aload_n 0, 1) := by decide +kernel
theorem dm_103_57 : decode cm_103 57 = .ok (.bipush 6, 2) := by decide +kernel
theorem dm_103_59 : decode cm_103 59 = .ok (.bipush 6, 2) := by decide +kernel
theorem dm_103_61 : decode cm_103 61 = .ok (.iconst 5, 1) := by decide +kernel
theorem dm_103_62 : decode cm_103 62 = .ok (.bipush 15, 2) := by decide +kernel
theorem dm_103_64 : decode cm_103 64 = .ok (.invokestatic 116, 3) := by decide +kernel
theorem dm_103_67 : decode cm_103 67 = .ok (.invokevirtual 112, 3) := by decide +kernel
theorem dm_103_70 : decode cm_103 70 = .ok (.aload_n 0, 1) := by decide +kernel
theorem dm_103_71 : decode cm_103 71 = .ok (.bipush 7, 2) := by decide +kernel
theorem dm_103_73 : decode cm_103 73 = .ok (.bipush 6, 2) := by decide +kernel
theorem dm_103_75 : decode cm_103 75 = .ok (.bipush 6, 2) := by decide +kernel
theorem dm_103_77 : decode cm_103 77 = .ok (.bipush 16, 2) := by decide +kernel
theorem dm_103_79 : decode cm_103 79 = .ok (.iload_n 2, 1) := by decide +kernel
theorem dm_103_80 : decode cm_103 80 = .ok (.imul, 1) := by decide +kernel
theorem dm_103_81 : decode cm_103 81 = .ok (.invokestatic 116, 3) := by decide +kernel
theorem dm_103_84 : decode cm_103 84 = .ok (.invokevirtual 112, 3) := by decide +kernel
theorem dm_103_87 : decode cm_103 87 = .ok (.aload_n 0, 1) := by decide +kernel
theorem dm_103_88 : decode cm_103 88 = .ok (.iload_n 3, 1) := by decide +kernel
theorem dm_103_89 : decode cm_103 89 = .ok (.iload 4, 2) := by decide +kernel
theorem dm_103_91 : decode cm_103 91 = .ok (.bipush 6, 2) := by decide +kernel
theorem dm_103_93 : decode cm_103 93 = .ok (.iconst 0, 1) := by decide +kernel
theorem dm_103_94 : decode cm_103 94 = .ok (.invokestatic 116, 3) := by decide +kernel
theorem dm_103_97 : decode cm_103 97 = .ok (.invokevirtual 112, 3) := by decide +kernel
theorem dm_103_100 : decode cm_103 100 = .ok (.goto 241, 3) := by decide +kernel
theorem dm_103_103 : decode cm_103 103 = .ok (.iload_n 3, 1) := by decide +kernel
theorem dm_103_104 : decode cm_103 104 = .ok (.bipush 13, 2) := by decide +kernel
theorem dm_103_106 : decode cm_103 106 = .ok (.if_icmp .ne 54, 3) := by decide +kernel
theorem dm_103_109 : decode cm_103 109 = .ok (.aload_n 0, 1) := by decide +kernel
theorem dm_103_110 : decode cm_103 110 = .ok (.bipush 6, 2) := by decide +kernel
theorem dm_103_112 : decode cm_103 112 = .ok (.bipush 7, 2) := by decide +kernel
theorem dm_103_114 : decode cm_103 114 = .ok (.iload 4, 2) := by decide +kernel
theorem dm_103_116 : decode cm_103 116 = .ok (.bipush 31, 2) := by decide +kernel
theorem dm_103_118 : decode cm_103 118 = .ok (.invokestatic 116, 3) := by decide +kernel
theorem dm_103_121 : decode cm_103 121 = .ok (.invokevirtual 112, 3) := by decide +kernel
theorem dm_103_124 : decode cm_103 124 = .ok (.aload_n 0, 1) := by decide +kernel
theorem dm_103_125 : decode cm_103 125 = .ok (.bipush 7, 2) := by decide +kernel
theorem dm_103_127 : decode cm_103 127 = .ok (.bipush 7, 2) := by decide +kernel
theorem dm_103_129 : decode cm_103 129 = .ok (.bipush 7, 2) := by decide +kernel
theorem dm_103_131 : decode cm_103 131 = .ok (.bipush 64, 2) := by decide +kernel
theorem dm_103_133 : decode cm_103 133 = .ok (.bipush 32, 2) := by decide +kernel
theorem dm_103_135 : decode cm_103 135 = .ok (.iload_n 2, 1) := by decide +kernel
theorem dm_103_136 : decode cm_103 136 = .ok (.imul, 1) := by decide +kernel
theorem dm_103_137 : decode cm_103 137 = .ok (.iadd, 1) := by decide +kernel
theorem dm_103_138 : decode cm_103 138 = .ok (.invokestatic 116, 3) := by decide +kernel
theorem dm_103_141 : decode cm_103 141 = .ok (.invokevirtual 112, 3) := by decide +kernel
theorem dm_103_144 : decode cm_103 144 = .ok (.aload_n 0, 1) := by decide +kernel
theorem dm_103_145 : decode cm_103 145 = .ok (.bipush 13, 2) := by decide +kernel
theorem dm_103_147 : decode cm_103 147 = .ok (.bipush 7, 2) := by decide +kernel
theorem dm_103_149 : decode cm_103 149 = .ok (.iconst 0, 1) := by decide +kernel
theorem dm_103_150 : decode cm_103 150 = .ok (.iconst 0, 1) := by decide +kernel
theorem dm_103_151 : decode cm_103 151 = .ok (.invokestatic 116, 3) := by decide +kernel
theorem dm_103_154 : decode cm_103 154 = .ok (.invokevirtual 112, 3) := by decide +kernel
theorem dm_103_157 : decode cm_103 157 = .ok (.goto 184, 3) := by decide +kernel
theorem dm_103_160 : decode cm_103 160 = .ok (.iload_n 3, 1) := by decide +kernel
theorem dm_103_161 : decode cm_103 161 = .ok (.bipush 15, 2) := by decide +kernel
theorem dm_103_163 : decode cm_103 163 = .ok (.if_icmp .ne 35, 3) := by decide +kernel
theorem dm_103_166 : decode cm_103 166 = .ok (.aload_n 0, 1) := by decide +kernel
theorem dm_103_167 : decode cm_103 167 = .ok (.iload 6, 2) := by decide +kernel
theorem dm_103_169 : decode cm_103 169 = .ok (.invokevirtual 120, 3) := by decide +kernel
theorem dm_103_172 : decode cm_103 172 = .ok (.istore 7, 2) := by decide +kernel
theorem dm_103_174 : decode cm_103 174 = .ok (.aload_n 0, 1) := by decide +kernel
theorem dm_103_175 : decode cm_103 175 = .ok (.iconst 1, 1) := by decide +kernel
theorem dm_103_176 : decode cm_103 176 = .ok (.iload 4, 2) := by decide +kernel
theorem dm_103_178 : decode cm_103 178 = .ok (.iconst 0, 1) := by decide +kernel
theorem dm_103_179 : decode cm_103 179 = .ok (.bipush 64, 2) := by decide +kernel
theorem dm_103_181 : decode cm_103 181 = .ok (.bipush 32, 2) := by decide +kernel
theorem dm_103_183 : decode cm_103 183 = .ok (.iload_n 2, 1) := by decide +kernel
theorem dm_103_184 : decode cm_103 184 = .ok (.imul, 1) := by decide +kernel
theorem dm_103_185 : decode cm_103 185 = .ok (.iadd, 1) := by decide +kernel
theorem dm_103_186 : decode cm_103 186 = .ok (.iload 7, 2) := by decide +kernel
theorem dm_103_188 : decode cm_103 188 = .ok (.iadd, 1) := by decide +kernel
theorem dm_103_189 : decode cm_103 189 = .ok (.invokestatic 116, 3) := by decide +kernel
theorem dm_103_192 : decode cm_103 192 = .ok (.invokevirtual 112, 3) := by decide +kernel
theorem dm_103_195 : decode cm_103 195 = .ok (.goto 146, 3) := by decide +kernel
theorem dm_103_198 : decode cm_103 198 = .ok (.iload_n 3, 1) := by decide +kernel
theorem dm_103_199 : decode cm_103 199 = .ok (.bipush 10, 2) := by decide +kernel
theorem dm_103_201 : decode cm_103 201 = .ok (.bipush 12, 2) := by decide +kernel
theorem dm_103_203 : decode cm_103 203 = .ok (.invokestatic 83, 3) := by decide +kernel
theorem dm_103_206 : decode cm_103 206 = .ok (.ifCond .eq 53, 3) := by decide +kernel
theorem dm_103_209 : decode cm_103 209 = .ok (.aload_n 0, 1) := by decide +kernel
theorem dm_103_210 : decode cm_103 210 = .ok (.iload 6, 2) := by decide +kernel
theorem dm_103_212 : decode cm_103 212 = .ok (.invokevirtual 120, 3) := by decide +kernel
theorem dm_103_215 : decode cm_103 215 = .ok (.aload_n 0, 1) := by decide +kernel
theorem dm_103_216 : decode cm_103 216 = .ok (.getfield 93, 3) := by decide +kernel
theorem dm_103_219 : decode cm_103 219 = .ok (.isub, 1) := by decide +kernel
theorem dm_103_220 : decode cm_103 220 = .ok (.iconst 1, 1) := by decide +kernel
theorem dm_103_221 : decode cm_103 221 = .ok (.isub, 1) := by decide +kernel
theorem dm_103_222 : decode cm_103 222 = .ok (.istore 7, 2) := by decide +kernel
theorem dm_103_224 : decode cm_103 224 = .ok (.aload_n 0, 1) := by decide +kernel
theorem dm_103_225 : decode cm_103 225 = .ok (.iload_n 3, 1) := by decide +kernel
theorem dm_103_226 : decode cm_103 226 = .ok (.bipush 12, 2) := by decide +kernel
theorem dm_103_228 : decode cm_103 228 = .ok (.if_icmp .ne 15, 3) := by decide +kernel
theorem dm_103_231 : decode cm_103 231 = .ok (.bipush 12, 2) := by decide +kernel
theorem dm_103_233 : decode cm_103 233 = .ok (.iconst 0, 1) := by decide +kernel
theorem dm_103_234 : decode cm_103 234 = .ok (.iconst 0, 1) := by decide +kernel
theorem dm_103_235 : decode cm_103 235 = .ok (.iload 7, 2) := by decide +kernel
theorem dm_103_237 : decode cm_103 237 = .ok (.invokestatic 116, 3) := by decide +kernel
theorem dm_103_240 : decode cm_103 240 = .ok (.goto 13, 3) := by decide +kernel
theorem dm_103_243 : decode cm_103 243 = .ok (.iload_n 3, 1) := by decide +kernel
theorem dm_103_244 : decode cm_103 244 = .ok (.iload 4, 2) := by decide +kernel
theorem dm_103_246 : decode cm_103 246 = .ok (.iload 5, 2) := by decide +kernel
theorem dm_103_248 : decode cm_103 248 = .ok (.iload 7, 2) := by decide +kernel
theorem dm_103_250 : decode cm_103 250 = .ok (.invokestatic 116, 3) := by decide +kernel
theorem dm_103_253 : decode cm_103 253 = .ok (.invokevirtual 112, 3) := by decide +kernel
theorem dm_103_256 : decode cm_103 256 = .ok (.goto 85, 3) := by decide +kernel
theorem dm_103_259 : decode cm_103 259 = .ok (.iload_n 3, 1) := by decide +kernel
theorem dm_103_260 : decode cm_103 260 = .ok (.ifCond .ne 11, 3) := by decide +kernel
theorem dm_103_263 : decode cm_103 263 = .ok (.aload_n 0, 1) := by decide +kernel
theorem dm_103_264 : decode cm_103 264 = .ok (.iconst 0, 1) := by decide +kernel
theorem dm_103_265 : decode cm_103 265 = .ok (.invokevirtual 112, 3) := by decide +kernel
theorem dm_103_268 : decode cm_103 268 = .ok (.goto 73, 3) := by decide +kernel
theorem dm_103_271 : decode cm_103 271 = .ok (.iload_n 3, 1) := by decide +kernel
theorem dm_103_272 : decode cm_103 272 = .ok (.bipush 14, 2) := by decide +kernel
theorem dm_103_274 : decode cm_103 274 = .ok (.if_icmp .ne 19, 3) := by decide +kernel
theorem dm_103_277 : decode cm_103 277 = .ok (.aload_n 0, 1) := by decide +kernel
theorem dm_103_278 : decode cm_103 278 = .ok (.bipush 14, 2) := by decide +kernel
theorem dm_103_280 : decode cm_103 280 = .ok (.iconst 0, 1) := by decide +kernel
theorem dm_103_281 : decode cm_103 281 = .ok (.iconst 0, 1) := by decide +kernel
theorem dm_103_282 : decode cm_103 282 = .ok (.iload 6, 2) := by decide +kernel
theorem dm_103_284 : decode cm_103 284 = .ok (.invokestatic 116, 3) := by decide +kernel
theorem dm_103_287 : decode cm_103 287 = .ok (.invokevirtual 112, 3) := by decide +kernel
theorem dm_103_290 : decode cm_103 290 = .ok (.goto 51, 3) := by decide +kernel
theorem dm_103_293 : decode cm_103 293 = .ok (.iload_n 3, 1) := by decide +kernel
theorem dm_103_294 : decode cm_103 294 = .ok (.iconst 1, 1) := by decide +kernel
theorem dm_103_295 : decode cm_103 295 = .ok (.if_icmp .ne 19, 3) := by decide +kernel
theorem dm_103_298 : decode cm_103 298 = .ok (.aload_n 0, 1) := by decide +kernel
theorem dm_103_299 : decode cm_103 299 = .ok (.iconst 1, 1) := by decide +kernel
theorem dm_103_300 : decode cm_103 300 = .ok (.iload 4, 2) := by decide +kernel
theorem dm_103_302 : decode cm_103 302 = .ok (.iconst 0, 1) := by decide +kernel
theorem dm_103_303 : decode cm_103 303 = .ok (.iload 6, 2) := by decide +kernel
theorem dm_103_305 : decode cm_103 305 = .ok (.invokestatic 116, 3) := by decide +kernel
theorem dm_103_308 : decode cm_103 308 = .ok (.invokevirtual 112, 3) := by decide +kernel
theorem dm_103_311 : decode cm_103 311 = .ok (.goto 30, 3) := by decide +kernel
theorem dm_103_314 : decode cm_103 314 = .ok (.aload_n 0, 1) := by decide +kernel
theorem dm_103_315 : decode cm_103 315 = .ok (.iload_n 3, 1) := by decide +kernel
theorem dm_103_316 : decode cm_103 316 = .ok (.iload 4, 2) := by decide +kernel
theorem dm_103_318 : decode cm_103 318 = .ok (.iload 5, 2) := by decide +kernel
theorem dm_103_320 : decode cm_103 320 = .ok (.iload_n 3, 1) := by decide +kernel
theorem dm_103_321 : decode cm_103 321 = .ok (.iconst 3, 1) := by decide +kernel
theorem dm_103_322 : decode cm_103 322 = .ok (.iconst 5, 1) := by decide +kernel
theorem dm_103_323 : decode cm_103 323 = .ok (.invokestatic 83, 3) := by decide +kernel
theorem dm_103_326 : decode cm_103 326 = .ok (.ifCond .eq 7, 3) := by decide +kernel
theorem dm_103_329 : decode cm_103 329 = .ok (.iconst 0, 1) := by decide +kernel
theorem dm_103_330 : decode cm_103 330 = .ok (.goto 5, 3) := by decide +kernel
theorem dm_103_333 : decode cm_103 333 = .ok (.iload 6, 2) := by decide +kernel
theorem dm_103_335 : decode cm_103 335 = .ok (.invokestatic 116, 3) := by decide +kernel
theorem dm_103_338 : decode cm_103 338 = .ok (.invokevirtual 112, 3) := by decide +kernel
theorem dm_103_341 : decode cm_103 341 = .ok (.return_, 1) := by decide +kernel
theorem dm_104_0 : decode cm_104 0 = .ok (.aload_n 0, 1) := by decide +kernel
theorem dm_104_1 : decode cm_104 1 = .ok (.getfield 93, 3) := by decide +kernel
theorem dm_104_4 : decode cm_104 4 = .ok (.bipush 31, 2) := by decide +kernel
theorem dm_104_6 : decode cm_104 6 = .ok (.if_icmp .ne 5, 3) := by decide +kernel
theorem dm_104_9 : decode cm_104 9 = .ok (.iconst 0, 1) := by decide +kernel
theorem dm_104_10 : decode cm_104 10 = .ok (.ireturn, 1) := by decide +kernel
theorem dm_104_11 : decode cm_104 11 = .ok (.aload_n 0, 1) := by decide +kernel
theorem dm_104_12 : decode cm_104 12 = .ok (.iload_n 1, 1) := by decide +kernel
theorem dm_104_13 : decode cm_104 13 = .ok (.invokevirtual 112, 3) := by decide +kernel
theorem dm_104_16 : decode cm_104 16 = .ok (.iconst 1, 1) := by decide +kernel
theorem dm_104_17 : decode cm_104 17 = .ok (.ireturn, 1) := by decide +kernel
theorem dm_105_0 : decode cm_105 0 = .ok (.iload_n 1, 1) := by decide +kernel
theorem dm_105_1 : decode cm_105 1 = .ok (.iconst (-1), 1) := by decide +kernel
theorem dm_105_2 : decode cm_105 2 = .ok (.if_icmp .ne 10, 3) := by decide +kernel
theorem dm_105_5 : decode cm_105 5 = .ok (.aload_n 0, 1) := by decide +kernel
theorem dm_105_6 : decode cm_105 6 = .ok (.getfield 93, 3) := by decide +kernel
theorem dm_105_9 : decode cm_105 9 = .ok (.goto 27, 3) := by decide +kernel
theorem dm_105_12 : decode cm_105 12 = .ok (.iload_n 1, 1) := by decide +kernel
theorem dm_105_13 : decode cm_105 13 = .ok (.iconst 0, 1) := by decide +kernel
theorem dm_105_14 : decode cm_105 14 = .ok (.aload_n 0, 1) := by decide +kernel
theorem dm_105_15 : decode cm_105 15 = .ok (.getfield 93, 3) := by decide +kernel
theorem dm_105_18 : decode cm_105 18 = .ok (.iconst 1, 1) := by decide +kernel
theorem dm_105_19 : decode cm_105 19 = .ok (.isub, 1) := by decide +kernel
theorem dm_105_20 : decode cm_105 20 = .ok (.invokestatic 83, 3) := by decide +kernel
theorem dm_105_23 : decode cm_105 23 = .ok (.ifCond .eq 12, 3) := by decide +kernel
theorem dm_105_26 : decode cm_105 26 = .ok (.aload_n 0, 1) := by decide +kernel
theorem dm_105_27 : decode cm_105 27 = .ok (.getfield 71, 3) := by decide +kernel
theorem dm_105_30 : decode cm_105 30 = .ok (.iload_n 1, 1) := by decide +kernel
theorem dm_105_31 : decode cm_105 31 = .ok (.iaload, 1) := by decide +kernel
theorem dm_105_32 : decode cm_105 32 = .ok (.goto 4, 3) := by decide +kernel
theorem dm_105_35 : decode cm_105 35 = .ok (.iconst 0, 1) := by decide +kernel
theorem dm_105_36 : decode cm_105 36 = .ok (.ireturn, 1) := by decide +kernel
theorem dm_106_0 : decode cm_106 0 = .ok (.iload_n 1, 1) := by decide +kernel
theorem dm_106_1 : decode cm_106 1 = .ok (.aload_n 0, 1) := by decide +kernel
theorem dm_106_2 : decode cm_106 2 = .ok (.getfield 93, 3) := by decide +kernel
theorem dm_106_5 : decode cm_106 5 = .ok (.if_icmp .ge 25, 3) := by decide +kernel
theorem dm_106_8 : decode cm_106 8 = .ok (.aload_n 0, 1) := by decide +kernel
theorem dm_106_9 : decode cm_106 9 = .ok (.getfield 71, 3) := by decide +kernel
theorem dm_106_12 : decode cm_106 12 = .ok (.iload_n 1, 1) := by decide +kernel
theorem dm_106_13 : decode cm_106 13 = .ok (.iaload, 1) := by decide +kernel
theorem dm_106_14 : decode cm_106 14 = .ok (.iload_n 2, 1) := by decide +kernel
theorem dm_106_15 : decode cm_106 15 = .ok (.iload_n 3, 1) := by decide +kernel
theorem dm_106_16 : decode cm_106 16 = .ok (.iload 4, 2) := by decide +kernel
theorem dm_106_18 : decode cm_106 18 = .ok (.iload 5, 2) := by decide +kernel
theorem dm_106_20 : decode cm_106 20 = .ok (.invokestatic 116, 3) := by decide +kernel
theorem dm_106_23 : decode cm_106 23 = .ok (.if_icmp .ne 7, 3) := by decide +kernel
theorem dm_106_26 : decode cm_106 26 = .ok (.iconst 1, 1) := by decide +kernel
theorem dm_106_27 : decode cm_106 27 = .ok (.goto 4, 3) := by decide +kernel
theorem dm_106_30 : decode cm_106 30 = .ok (.iconst 0, 1) := by decide +kernel
theorem dm_106_31 : decode cm_106 31 = .ok (.ireturn, 1) := by decide +kernel
theorem dm_107_0 : decode cm_107 0 = .ok (.aload_n 0, 1) := by decide +kernel
theorem dm_107_1 : decode cm_107 1 = .ok (.getfield 71, 3) := by decide +kernel
theorem dm_107_4 : decode cm_107 4 = .ok (.iload_n 1, 1) := by decide +kernel
theorem dm_107_5 : decode cm_107 5 = .ok (.iaload, 1) := by decide +kernel
theorem dm_107_6 : decode cm_107 6 = .ok (.istore 5, 2) := by decide +kernel
theorem dm_107_8 : decode cm_107 8 = .ok (.iload 5, 2) := by decide +kernel
theorem dm_107_10 : decode cm_107 10 = .ok (.bipush 15, 2) := by decide +kernel
theorem dm_107_12 : decode cm_107 12 = .ok (.iand, 1) := by decide +kernel
theorem dm_107_13 : decode cm_107 13 = .ok (.iconst 1, 1) := by decide +kernel
theorem dm_107_14 : decode cm_107 14 = .ok (.bipush 8, 2) := by decide +kernel
theorem dm_107_16 : decode cm_107 16 = .ok (.invokestatic 83, 3) := by decide +kernel
theorem dm_107_19 : decode cm_107 19 = .ok (.ifCond .eq 14, 3) := by decide +kernel
theorem dm_107_22 : decode cm_107 22 = .ok (.iload 5, 2) := by decide +kernel
theorem dm_107_24 : decode cm_107 24 = .ok (.iconst 4, 1) := by decide +kernel
theorem dm_107_25 : decode cm_107 25 = .ok (.ishr, 1) := by decide +kernel
theorem dm_107_26 : decode cm_107 26 = .ok (.bipush 7, 2) := by decide +kernel
theorem dm_107_28 : decode cm_107 28 = .ok (.iand, 1) := by decide +kernel
theorem dm_107_29 : decode cm_107 29 = .ok (.iload_n 2, 1) := by decide +kernel
theorem dm_107_30 : decode cm_107 30 = .ok (.if_icmp .eq 5, 3) := by decide +kernel
theorem dm_107_33 : decode cm_107 33 = .ok (.iconst 1, 1) := by decide +kernel
theorem dm_107_34 : decode cm_107 34 = .ok (.ireturn, 1) := by decide +kernel
theorem dm_107_35 : decode cm_107 35 = .ok (.iload 5, 2) := by decide +kernel
theorem dm_107_37 : decode cm_107 37 = .ok (.bipush 15, 2) := by decide +kernel
theorem dm_107_39 : decode cm_107 39 = .ok (.iand, 1) := by decide +kernel
theorem dm_107_40 : decode cm_107 40 = .ok (.bipush 6, 2) := by decide +kernel
theorem dm_107_42 : decode cm_107 42 = .ok (.if_icmp .ne 17, 3) := by decide +kernel
theorem dm_107_45 : decode cm_107 45 = .ok (.iload 5, 2) := by decide +kernel
theorem dm_107_47 : decode cm_107 47 = .ok (.bipush 10, 2) := by decide +kernel
theorem dm_107_49 : decode cm_107 49 = .ok (.ishr, 1) := by decide +kernel
theorem dm_107_50 : decode cm_107 50 = .ok (.iload 4, 2) := by decide +kernel
theorem dm_107_52 : decode cm_107 52 = .ok (.if_icmp .ne 7, 3) := by decide +kernel
theorem dm_107_55 : decode cm_107 55 = .ok (.iconst 1, 1) := by decide +kernel
theorem dm_107_56 : decode cm_107 56 = .ok (.goto 4, 3) := by decide +kernel
theorem dm_107_59 : decode cm_107 59 = .ok (.iconst 0, 1) := by decide +kernel
theorem dm_107_60 : decode cm_107 60 = .ok (.istore 6, 2) := by decide +kernel
theorem dm_107_62 : decode cm_107 62 = .ok (.aload_n 0, 1) := by decide +kernel
theorem dm_107_63 : decode cm_107 63 = .ok (.iload_n 1, 1) := by decide +kernel
theorem dm_107_64 : decode cm_107 64 = .ok (.bipush 7, 2) := by decide +kernel
theorem dm_107_66 : decode cm_107 66 = .ok (.iload_n 2, 1) := by decide +kernel
theorem dm_107_67 : decode cm_107 67 = .ok (.iload_n 2, 1) := by decide +kernel
theorem dm_107_68 : decode cm_107 68 = .ok (.iload_n 3, 1) := by decide +kernel
theorem dm_107_69 : decode cm_107 69 = .ok (.invokevirtual 123, 3) := by decide +kernel
theorem dm_107_72 : decode cm_107 72 = .ok (.ifCond .ne 23, 3) := by decide +kernel
theorem dm_107_75 : decode cm_107 75 = .ok (.iload 6, 2) := by decide +kernel
theorem dm_107_77 : decode cm_107 77 = .ok (.ifCond .eq 22, 3) := by decide +kernel
theorem dm_107_80 : decode cm_107 80 = .ok (.aload_n 0, 1) := by decide +kernel
theorem dm_107_81 : decode cm_107 81 = .ok (.iload_n 1, 1) := by decide +kernel
theorem dm_107_82 : decode cm_107 82 = .ok (.iconst 1, 1) := by decide +kernel
theorem dm_107_83 : decode cm_107 83 = .ok (.iadd, 1) := by decide +kernel
theorem dm_107_84 : decode cm_107 84 = .ok (.bipush 7, 2) := by decide +kernel
theorem dm_107_86 : decode cm_107 86 = .ok (.iload_n 2, 1) := by decide +kernel
theorem dm_107_87 : decode cm_107 87 = .ok (.iload_n 2, 1) := by decide +kernel
theorem dm_107_88 : decode cm_107 88 = .ok (.iload_n 3, 1) := by decide +kernel
theorem dm_107_89 : decode cm_107 89 = .ok (.invokevirtual 123, 3) := by decide +kernel
theorem dm_107_92 : decode cm_107 92 = .ok (.ifCond .eq 7, 3) := by decide +kernel
theorem dm_107_95 : decode cm_107 95 = .ok (.iconst 1, 1) := by decide +kernel
theorem dm_107_96 : decode cm_107 96 = .ok (.goto 4, 3) := by decide +kernel
theorem dm_107_99 : decode cm_107 99 = .ok (.iconst 0, 1) := by decide +kernel
theorem dm_107_100 : decode cm_107 100 = .ok (.ireturn, 1) := by decide +kernel
theorem dm_108_0 : decode cm_108 0 = .ok (.aload_n 0, 1) := by decide +kernel
theorem dm_108_1 : decode cm_108 1 = .ok (.getfield 71, 3) := by decide +kernel
theorem dm_108_4 : decode cm_108 4 = .ok (.iload_n 1, 1) := by decide +kernel
theorem dm_108_5 : decode cm_108 5 = .ok (.iaload, 1) := by decide +kernel
theorem dm_108_6 : decode cm_108 6 = .ok (.istore_n 3, 1) := by decide +kernel
theorem dm_108_7 : decode cm_108 7 = .ok (.iload_n 3, 1) := by decide +kernel
theorem dm_108_8 : decode cm_108 8 = .ok (.bipush 15, 2) := by decide +kernel
theorem dm_108_10 : decode cm_108 10 = .ok (.iand, 1) := by decide +kernel
theorem dm_108_11 : decode cm_108 11 = .ok (.istore 4, 2) := by decide +kernel
theorem dm_108_13 : decode cm_108 13 = .ok (.iload_n 3, 1) := by decide +kernel
theorem dm_108_14 : decode cm_108 14 = .ok (.bipush 10, 2) := by decide +kernel
theorem dm_108_16 : decode cm_108 16 = .ok (.ishr, 1) := by decide +kernel
theorem dm_108_17 : decode cm_108 17 = .ok (.istore 5, 2) := by decide +kernel
theorem dm_108_19 : decode cm_108 19 = .ok (.iload 4, 2) := by decide +kernel
theorem dm_108_21 : decode cm_108 21 = .ok (.bipush 15, 2) := by decide +kernel
theorem dm_108_23 : decode cm_108 23 = .ok (.if_icmp .eq 7, 3) := by decide +kernel
theorem dm_108_26 : decode cm_108 26 = .ok (.iconst 1, 1) := by decide +kernel
theorem dm_108_27 : decode cm_108 27 = .ok (.goto 4, 3) := by decide +kernel
theorem dm_108_30 : decode cm_108 30 = .ok (.iconst 0, 1) := by decide +kernel
theorem dm_108_31 : decode cm_108 31 = .ok (.istore 6, 2) := by decide +kernel
theorem dm_108_33 : decode cm_108 33 = .ok (.iload 4, 2) := by decide +kernel
theorem dm_108_35 : decode cm_108 35 = .ok (.bipush 10, 2) := by decide +kernel
theorem dm_108_37 : decode cm_108 37 = .ok (.bipush 12, 2) := by decide +kernel
theorem dm_108_39 : decode cm_108 39 = .ok (.invokestatic 83, 3) := by decide +kernel
theorem dm_108_42 : decode cm_108 42 = .ok (.ifCond .eq 21, 3) := by decide +kernel
theorem dm_108_45 : decode cm_108 45 = .ok (.iload_n 1, 1) := by decide +kernel
theorem dm_108_46 : decode cm_108 46 = .ok (.iconst 1, 1) := by decide +kernel
theorem dm_108_47 : decode cm_108 47 = .ok (.iadd, 1) := by decide +kernel
theorem dm_108_48 : decode cm_108 48 = .ok (.iload 5, 2) := by decide +kernel
theorem dm_108_50 : decode cm_108 50 = .ok (.iadd, 1) := by decide +kernel
theorem dm_108_51 : decode cm_108 51 = .ok (.iconst 0, 1) := by decide +kernel
theorem dm_108_52 : decode cm_108 52 = .ok (.aload_n 0, 1) := by decide +kernel
theorem dm_108_53 : decode cm_108 53 = .ok (.getfield 93, 3) := by decide +kernel
theorem dm_108_56 : decode cm_108 56 = .ok (.iconst 1, 1) := by decide +kernel
theorem dm_108_57 : decode cm_108 57 = .ok (.isub, 1) := by decide +kernel
theorem dm_108_58 : decode cm_108 58 = .ok (.invokestatic 83, 3) := by decide +kernel
theorem dm_108_61 : decode cm_108 61 = .ok (.istore 6, 2) := by decide +kernel
theorem dm_108_63 : decode cm_108 63 = .ok (.iload 4, 2) := by decide +kernel
theorem dm_108_65 : decode cm_108 65 = .ok (.bipush 13, 2) := by decide +kernel
theorem dm_108_67 : decode cm_108 67 = .ok (.if_icmp .ne 21, 3) := by decide +kernel
theorem dm_108_70 : decode cm_108 70 = .ok (.iload_n 3, 1) := by decide +kernel
theorem dm_108_71 : decode cm_108 71 = .ok (.iconst 4, 1) := by decide +kernel
theorem dm_108_72 : decode cm_108 72 = .ok (.ishr, 1) := by decide +kernel
theorem dm_108_73 : decode cm_108 73 = .ok (.bipush 7, 2) := by decide +kernel
theorem dm_108_75 : decode cm_108 75 = .ok (.iand, 1) := by decide +kernel
theorem dm_108_76 : decode cm_108 76 = .ok (.bipush 7, 2) := by decide +kernel
theorem dm_108_78 : decode cm_108 78 = .ok (.if_icmp .ne 7, 3) := by decide +kernel
theorem dm_108_81 : decode cm_108 81 = .ok (.iconst 1, 1) := by decide +kernel
theorem dm_108_82 : decode cm_108 82 = .ok (.goto 4, 3) := by decide +kernel
theorem dm_108_85 : decode cm_108 85 = .ok (.iconst 0, 1) := by decide +kernel
theorem dm_108_86 : decode cm_108 86 = .ok (.istore 6, 2) := by decide +kernel
theorem dm_108_88 : decode cm_108 88 = .ok (.iload 4, 2) := by decide +kernel
theorem dm_108_90 : decode cm_108 90 = .ok (.bipush 14, 2) := by decide +kernel
theorem dm_108_92 : decode cm_108 92 = .ok (.if_icmp .ne 13, 3) := by decide +kernel
theorem dm_108_95 : decode cm_108 95 = .ok (.iload 5, 2) := by decide +kernel
theorem dm_108_97 : decode cm_108 97 = .ok (.iconst 0, 1) := by decide +kernel
theorem dm_108_98 : decode cm_108 98 = .ok (.bipush 6, 2) := by decide +kernel
theorem dm_108_100 : decode cm_108 100 = .ok (.invokestatic 83, 3) := by decide +kernel
theorem dm_108_103 : decode cm_108 103 = .ok (.istore 6, 2) := by decide +kernel
theorem dm_108_105 : decode cm_108 105 = .ok (.iload 4, 2) := by decide +kernel
theorem dm_108_107 : decode cm_108 107 = .ok (.bipush 8, 2) := by decide +kernel
theorem dm_108_109 : decode cm_108 109 = .ok (.if_icmp .eq 10, 3) := by decide +kernel
theorem dm_108_112 : decode cm_108 112 = .ok (.iload 4, 2) := by decide +kernel
theorem dm_108_114 : decode cm_108 114 = .ok (.bipush 9, 2) := by decide +kernel
theorem dm_108_116 : decode cm_108 116 = .ok (.if_icmp .ne 27, 3) := by decide +kernel
theorem dm_108_119 : decode cm_108 119 = .ok (.iload_n 3, 1) := by decide +kernel
theorem dm_108_120 : decode cm_108 120 = .ok (.bipush 7, 2) := by decide +kernel
theorem dm_108_122 : decode cm_108 122 = .ok (.ishr, 1) := by decide +kernel
theorem dm_108_123 : decode cm_108 123 = .ok (.bipush 7, 2) := by decide +kernel
theorem dm_108_125 : decode cm_108 125 = .ok (.iand, 1) := by decide +kernel
theorem dm_108_126 : decode cm_108 126 = .ok (.bipush 6, 2) := by decide +kernel
theorem dm_108_128 : decode cm_108 128 = .ok (.if_icmp .ne 12, 3) := by decide +kernel
theorem dm_108_131 : decode cm_108 131 = .ok (.iload 5, 2) := by decide +kernel
theorem dm_108_133 : decode cm_108 133 = .ok (.ifCond .ne 7, 3) := by decide +kernel
theorem dm_108_136 : decode cm_108 136 = .ok (.iconst 1, 1) := by decide +kernel
theorem dm_108_137 : decode cm_108 137 = .ok (.goto 4, 3) := by decide +kernel
theorem dm_108_140 : decode cm_108 140 = .ok (.iconst 0, 1) := by decide +kernel
theorem dm_108_141 : decode cm_108 141 = .ok (.istore 6, 2) := by decide +kernel
theorem dm_108_143 : decode cm_108 143 = .ok (.iload 6, 2) := by decide +kernel
theorem dm_108_145 : decode cm_108 145 = .ok (.ifCond .eq 42, 3) := by decide +kernel
theorem dm_108_148 : decode cm_108 148 = .ok (.aload_n 0, 1) := by decide +kernel
theorem dm_108_149 : decode cm_108 149 = .ok (.iload_n 1, 1) := by decide +kernel
theorem dm_108_150 : decode cm_108 150 = .ok (.bipush 6, 2) := by decide +kernel
theorem dm_108_152 : decode cm_108 152 = .ok (.bipush 16, 2) := by decide +kernel
theorem dm_108_154 : decode cm_108 154 = .ok (.iload_n 2, 1) := by decide +kernel
theorem dm_108_155 : decode cm_108 155 = .ok (.imul, 1) := by decide +kernel
theorem dm_108_156 : decode cm_108 156 = .ok (.bipush 15, 2) := by decide +kernel
theorem dm_108_158 : decode cm_108 158 = .ok (.invokevirtual 127, 3) := by decide +kernel
theorem dm_108_161 : decode cm_108 161 = .ok (.ifCond .eq 26, 3) := by decide +kernel
theorem dm_108_164 : decode cm_108 164 = .ok (.aload_n 0, 1) := by decide +kernel
theorem dm_108_165 : decode cm_108 165 = .ok (.iload_n 1, 1) := by decide +kernel
theorem dm_108_166 : decode cm_108 166 = .ok (.bipush 7, 2) := by decide +kernel
theorem dm_108_168 : decode cm_108 168 = .ok (.bipush 64, 2) := by decide +kernel
theorem dm_108_170 : decode cm_108 170 = .ok (.bipush 32, 2) := by decide +kernel
theorem dm_108_172 : decode cm_108 172 = .ok (.iload_n 2, 1) := by decide +kernel
theorem dm_108_173 : decode cm_108 173 = .ok (.imul, 1) := by decide +kernel
theorem dm_108_174 : decode cm_108 174 = .ok (.iadd, 1) := by decide +kernel
theorem dm_108_175 : decode cm_108 175 = .ok (.bipush 31, 2) := by decide +kernel
theorem dm_108_177 : decode cm_108 177 = .ok (.invokevirtual 127, 3) := by decide +kernel
theorem dm_108_180 : decode cm_108 180 = .ok (.ifCond .eq 7, 3) := by decide +kernel
theorem dm_108_183 : decode cm_108 183 = .ok (.iconst 1, 1) := by decide +kernel
theorem dm_108_184 : decode cm_108 184 = .ok (.goto 4, 3) := by decide +kernel
theorem dm_108_187 : decode cm_108 187 = .ok (.iconst 0, 1) := by decide +kernel
theorem dm_108_188 : decode cm_108 188 = .ok (.ireturn, 1) := by decide +kernel
theorem dm_109_0 : decode cm_109 0 = .ok (.iload_n 1, 1) := by decide +kernel
theorem dm_109_1 : decode cm_109 1 = .ok (.iconst 0, 1) := by decide +kernel
theorem dm_109_2 : decode cm_109 2 = .ok (.iconst 2, 1) := by decide +kernel
theorem dm_109_3 : decode cm_109 3 = .ok (.invokestatic 83, 3) := by decide +kernel
theorem dm_109_6 : decode cm_109 6 = .ok (.ifCond .ne 6, 3) := by decide +kernel
theorem dm_109_9 : decode cm_109 9 = .ok (.bipush (-2), 2) := by decide +kernel
theorem dm_109_11 : decode cm_109 11 = .ok (.ireturn, 1) := by decide +kernel
theorem dm_109_12 : decode cm_109 12 = .ok (.iconst 0, 1) := by decide +kernel
theorem dm_109_13 : decode cm_109 13 = .ok (.istore_n 2, 1) := by decide +kernel
theorem dm_109_14 : decode cm_109 14 = .ok (.iload_n 2, 1) := by decide +kernel
theorem dm_109_15 : decode cm_109 15 = .ok (.aload_n 0, 1) := by decide +kernel
theorem dm_109_16 : decode cm_109 16 = .ok (.getfield 93, 3) := by decide +kernel
theorem dm_109_19 : decode cm_109 19 = .ok (.if_icmp .ge 20, 3) := by decide +kernel
theorem dm_109_22 : decode cm_109 22 = .ok (.aload_n 0, 1) := by decide +kernel
theorem dm_109_23 : decode cm_109 23 = .ok (.iload_n 2, 1) := by decide +kernel
theorem dm_109_24 : decode cm_109 24 = .ok (.iload_n 1, 1) := by decide +kernel
theorem dm_109_25 : decode cm_109 25 = .ok (.invokevirtual 131, 3) := by decide +kernel
theorem dm_109_28 : decode cm_109 28 = .ok (.ifCond .ne 5, 3) := by decide +kernel
theorem dm_109_31 : decode cm_109 31 = .ok (.iload_n 2, 1) := by decide +kernel
theorem dm_109_32 : decode cm_109 32 = .ok (.ireturn, 1) := by decide +kernel
theorem dm_109_33 : decode cm_109 33 = .ok (.iinc 2 1, 3) := by decide +kernel
theorem dm_109_36 : decode cm_109 36 = .ok (.goto (-22), 3) := by decide +kernel
theorem dm_109_39 : decode cm_109 39 = .ok (.iconst (-1), 1) := by decide +kernel
theorem dm_109_40 : decode cm_109 40 = .ok (.ireturn, 1) := by decide +kernel
theorem dm_110_0 : decode cm_110 0 = .ok (.aload_n 0, 1) := by decide +kernel
theorem dm_110_1 : decode cm_110 1 = .ok (.iload_n 1, 1) := by decide +kernel
theorem dm_110_2 : decode cm_110 2 = .ok (.invokevirtual 135, 3) := by decide +kernel
theorem dm_110_5 : decode cm_110 5 = .ok (.istore_n 2, 1) := by decide +kernel
theorem dm_110_6 : decode cm_110 6 = .ok (.iload_n 2, 1) := by decide +kernel
theorem dm_110_7 : decode cm_110 7 = .ok (.iconst (-1), 1) := by decide +kernel
theorem dm_110_8 : decode cm_110 8 = .ok (.if_icmp .eq 5, 3) := by decide +kernel
theorem dm_110_11 : decode cm_110 11 = .ok (.iconst 0, 1) := by decide +kernel
theorem dm_110_12 : decode cm_110 12 = .ok (.ireturn, 1) := by decide +kernel
theorem dm_110_13 : decode cm_110 13 = .ok (.iconst 0, 1) := by decide +kernel
theorem dm_110_14 : decode cm_110 14 = .ok (.istore_n 3, 1) := by decide +kernel
theorem dm_110_15 : decode cm_110 15 = .ok (.iload_n 3, 1) := by decide +kernel
theorem dm_110_16 : decode cm_110 16 = .ok (.bipush 32, 2) := by decide +kernel
theorem dm_110_18 : decode cm_110 18 = .ok (.if_icmp .ge 41, 3) := by decide +kernel
theorem dm_110_21 : decode cm_110 21 = .ok (.aload_n 0, 1) := by decide +kernel
theorem dm_110_22 : decode cm_110 22 = .ok (.getfield 7, 3) := by decide +kernel
theorem dm_110_25 : decode cm_110 25 = .ok (.bipush 64, 2) := by decide +kernel
theorem dm_110_27 : decode cm_110 27 = .ok (.bipush 32, 2) := by decide +kernel
theorem dm_110_29 : decode cm_110 29 = .ok (.iload_n 1, 1) := by decide +kernel
theorem dm_110_30 : decode cm_110 30 = .ok (.imul, 1) := by decide +kernel
theorem dm_110_31 : decode cm_110 31 = .ok (.iadd, 1) := by decide +kernel
theorem dm_110_32 : decode cm_110 32 = .ok (.iload_n 3, 1) := by decide +kernel
theorem dm_110_33 : decode cm_110 33 = .ok (.iadd, 1) := by decide +kernel
theorem dm_110_34 : decode cm_110 34 = .ok (.iload_n 3, 1) := by decide +kernel
theorem dm_110_35 : decode cm_110 35 = .ok (.aload_n 0, 1) := by decide +kernel
theorem dm_110_36 : decode cm_110 36 = .ok (.getfield 93, 3) := by decide +kernel
theorem dm_110_39 : decode cm_110 39 = .ok (.if_icmp .ge 12, 3) := by decide +kernel
theorem dm_110_42 : decode cm_110 42 = .ok (.aload_n 0, 1) := by decide +kernel
theorem dm_110_43 : decode cm_110 43 = .ok (.getfield 71, 3) := by decide +kernel
theorem dm_110_46 : decode cm_110 46 = .ok (.iload_n 3, 1) := by decide +kernel
theorem dm_110_47 : decode cm_110 47 = .ok (.iaload, 1) := by decide +kernel
theorem dm_110_48 : decode cm_110 48 = .ok (.goto 4, 3) := by decide +kernel
theorem dm_110_51 : decode cm_110 51 = .ok (.iconst 0, 1) := by decide +kernel
theorem dm_110_52 : decode cm_110 52 = .ok (.iastore, 1) := by decide +kernel
theorem dm_110_53 : decode cm_110 53 = .ok (.iinc 3 1, 3) := by decide +kernel
theorem dm_110_56 : decode cm_110 56 = .ok (.goto (-41), 3) := by decide +kernel
theorem dm_110_59 : decode cm_110 59 = .ok (.iconst 0, 1) := by decide +kernel
theorem dm_110_60 : decode cm_110 60 = .ok (.istore_n 3, 1) := by decide +kernel
theorem dm_110_61 : decode cm_110 61 = .ok (.iload_n 3, 1) := by decide +kernel
theorem dm_110_62 : decode cm_110 62 = .ok (.bipush 16, 2) := by decide +kernel
theorem dm_110_64 : decode cm_110 64 = .ok (.if_icmp .ge 21, 3) := by decide +kernel
theorem dm_110_67 : decode cm_110 67 = .ok (.aload_n 0, 1) := by decide +kernel
theorem dm_110_68 : decode cm_110 68 = .ok (.getfield 7, 3) := by decide +kernel
theorem dm_110_71 : decode cm_110 71 = .ok (.bipush 16, 2) := by decide +kernel
theorem dm_110_73 : decode cm_110 73 = .ok (.iload_n 1, 1) := by decide +kernel
theorem dm_110_74 : decode cm_110 74 = .ok (.imul, 1) := by decide +kernel
theorem dm_110_75 : decode cm_110 75 = .ok (.iload_n 3, 1) := by decide +kernel
theorem dm_110_76 : decode cm_110 76 = .ok (.iadd, 1) := by decide +kernel
theorem dm_110_77 : decode cm_110 77 = .ok (.iconst 0, 1) := by decide +kernel
theorem dm_110_78 : decode cm_110 78 = .ok (.iastore, 1) := by decide +kernel
theorem dm_110_79 : decode cm_110 79 = .ok (.iinc 3 1, 3) := by decide +kernel
theorem dm_110_82 : decode cm_110 82 = .ok (.goto (-21), 3) := by decide +kernel
theorem dm_110_85 : decode cm_110 85 = .ok (.iconst 0, 1) := by decide +kernel
theorem dm_110_86 : decode cm_110 86 = .ok (.istore_n 3, 1) := by decide +kernel
theorem dm_110_87 : decode cm_110 87 = .ok (.iload_n 3, 1) := by decide +kernel
theorem dm_110_88 : decode cm_110 88 = .ok (.bipush 8, 2) := by decide +kernel
theorem dm_110_90 : decode cm_110 90 = .ok (.if_icmp .ge 50, 3) := by decide +kernel
theorem dm_110_93 : decode cm_110 93 = .ok (.aload_n 0, 1) := by decide +kernel
theorem dm_110_94 : decode cm_110 94 = .ok (.getfield 16, 3) := by decide +kernel
theorem dm_110_97 : decode cm_110 97 = .ok (.bipush 8, 2) := by decide +kernel
theorem dm_110_99 : decode cm_110 99 = .ok (.iload_n 1, 1) := by decide +kernel
theorem dm_110_100 : decode cm_110 100 = .ok (.imul, 1) := by decide +kernel
theorem dm_110_101 : decode cm_110 101 = .ok (.iload_n 3, 1) := by decide +kernel
theorem dm_110_102 : decode cm_110 102 = .ok (.iadd, 1) := by decide +kernel
theorem dm_110_103 : decode cm_110 103 = .ok (.iload_n 3, 1) := by decide +kernel
theorem dm_110_104 : decode cm_110 104 = .ok (.bipush 6, 2) := by decide +kernel
theorem dm_110_106 : decode cm_110 106 = .ok (.if_icmp .ne 10, 3) := by decide +kernel
theorem dm_110_109 : decode cm_110 109 = .ok (.bipush 16, 2) := by decide +kernel
theorem dm_110_111 : decode cm_110 111 = .ok (.iload_n 1, 1) := by decide +kernel
theorem dm_110_112 : decode cm_110 112 = .ok (.imul, 1) := by decide +kernel
theorem dm_110_113 : decode cm_110 113 = .ok (.goto 20, 3) := by decide +kernel
theorem dm_110_116 : decode cm_110 116 = .ok (.iload_n 3, 1) := by decide +kernel
theorem dm_110_117 : decode cm_110 117 = .ok (.bipush 7, 2) := by decide +kernel
theorem dm_110_119 : decode cm_110 119 = .ok (.if_icmp .ne 13, 3) := by decide +kernel
theorem dm_110_122 : decode cm_110 122 = .ok (.bipush 64, 2) := by decide +kernel
theorem dm_110_124 : decode cm_110 124 = .ok (.bipush 32, 2) := by decide +kernel
theorem dm_110_126 : decode cm_110 126 = .ok (.iload_n 1, 1) := by decide +kernel
theorem dm_110_127 : decode cm_110 127 = .ok (.imul, 1) := by decide +kernel
theorem dm_110_128 : decode cm_110 128 = .ok (.iadd, 1) := by decide +kernel
theorem dm_110_129 : decode cm_110 129 = .ok (.goto 4, 3) := by decide +kernel
theorem dm_110_132 : decode cm_110 132 = .ok (.iconst 0, 1) := by decide +kernel
theorem dm_110_133 : decode cm_110 133 = .ok (.iastore, 1) := by decide +kernel
theorem dm_110_134 : decode cm_110 134 = .ok (.iinc 3 1, 3) := by decide +kernel
theorem dm_110_137 : decode cm_110 137 = .ok (.goto (-50), 3) := by decide +kernel
theorem dm_110_140 : decode cm_110 140 = .ok (.aload_n 0, 1) := by decide +kernel
theorem dm_110_141 : decode cm_110 141 = .ok (.getfield 19, 3) := by decide +kernel
theorem dm_110_144 : decode cm_110 144 = .ok (.iload_n 1, 1) := by decide +kernel
theorem dm_110_145 : decode cm_110 145 = .ok (.bipush 64, 2) := by decide +kernel
theorem dm_110_147 : decode cm_110 147 = .ok (.bipush 32, 2) := by decide +kernel
theorem dm_110_149 : decode cm_110 149 = .ok (.iload_n 1, 1) := by decide +kernel
theorem dm_110_150 : decode cm_110 150 = .ok (.imul, 1) := by decide +kernel
theorem dm_110_151 : decode cm_110 151 = .ok (.iadd, 1) := by decide +kernel
theorem dm_110_152 : decode cm_110 152 = .ok (.iastore, 1) := by decide +kernel
theorem dm_110_153 : decode cm_110 153 = .ok (.aload_n 0, 1) := by decide +kernel
theorem dm_110_154 : decode cm_110 154 = .ok (.getfield 22, 3) := by decide +kernel
theorem dm_110_157 : decode cm_110 157 = .ok (.iload_n 1, 1) := by decide +kernel
theorem dm_110_158 : decode cm_110 158 = .ok (.iconst 0, 1) := by decide +kernel
theorem dm_110_159 : decode cm_110 159 = .ok (.iastore, 1) := by decide +kernel
theorem dm_110_160 : decode cm_110 160 = .ok (.aload_n 0, 1) := by decide +kernel
theorem dm_110_161 : decode cm_110 161 = .ok (.getfield 28, 3) := by decide +kernel
theorem dm_110_164 : decode cm_110 164 = .ok (.iload_n 1, 1) := by decide +kernel
theorem dm_110_165 : decode cm_110 165 = .ok (.iconst 0, 1) := by decide +kernel
theorem dm_110_166 : decode cm_110 166 = .ok (.iastore, 1) := by decide +kernel
theorem dm_110_167 : decode cm_110 167 = .ok (.aload_n 0, 1) := by decide +kernel
theorem dm_110_168 : decode cm_110 168 = .ok (.getfield 34, 3) := by decide +kernel
theorem dm_110_171 : decode cm_110 171 = .ok (.iload_n 1, 1) := by decide +kernel
theorem dm_110_172 : decode cm_110 172 = .ok (.iconst 0, 1) := by decide +kernel
theorem dm_110_173 : decode cm_110 173 = .ok (.iastore, 1) := by decide +kernel
theorem dm_110_174 : decode cm_110 174 = .ok (.aload_n 0, 1) := by decide +kernel
theorem dm_110_175 : decode cm_110 175 = .ok (.getfield 37, 3) := by decide +kernel
theorem dm_110_178 : decode cm_110 178 = .ok (.iload_n 1, 1) := by decide +kernel
theorem dm_110_179 : decode cm_110 179 = .ok (.iconst 0, 1) := by decide +kernel
theorem dm_110_180 : decode cm_110 180 = .ok (.iastore, 1) := by decide +kernel
theorem dm_110_181 : decode cm_110 181 = .ok (.aload_n 0, 1) := by decide +kernel
theorem dm_110_182 : decode cm_110 182 = .ok (.getfield 43, 3) := by decide +kernel
theorem dm_110_185 : decode cm_110 185 = .ok (.iload_n 1, 1) := by decide +kernel
theorem dm_110_186 : decode cm_110 186 = .ok (.iconst 0, 1) := by decide +kernel
theorem dm_110_187 : decode cm_110 187 = .ok (.iastore, 1) := by decide +kernel
theorem dm_110_188 : decode cm_110 188 = .ok (.aload_n 0, 1) := by decide +kernel
theorem dm_110_189 : decode cm_110 189 = .ok (.getfield 46, 3) := by decide +kernel
theorem dm_110_192 : decode cm_110 192 = .ok (.iload_n 1, 1) := by decide +kernel
theorem dm_110_193 : decode cm_110 193 = .ok (.iconst 0, 1) := by decide +kernel
theorem dm_110_194 : decode cm_110 194 = .ok (.iastore, 1) := by decide +kernel
theorem dm_110_195 : decode cm_110 195 = .ok (.aload_n 0, 1) := by decide +kernel
theorem dm_110_196 : decode cm_110 196 = .ok (.getfield 13, 3) := by decide +kernel
theorem dm_110_199 : decode cm_110 199 = .ok (.iload_n 1, 1) := by decide +kernel
theorem dm_110_200 : decode cm_110 200 = .ok (.iconst 1, 1) := by decide +kernel
theorem dm_110_201 : decode cm_110 201 = .ok (.iastore, 1) := by decide +kernel
theorem dm_110_202 : decode cm_110 202 = .ok (.aload_n 0, 1) := by decide +kernel
theorem dm_110_203 : decode cm_110 203 = .ok (.aload_n 0, 1) := by decide +kernel
theorem dm_110_204 : decode cm_110 204 = .ok (.getfield 138, 3) := by decide +kernel
theorem dm_110_207 : decode cm_110 207 = .ok (.iload_n 1, 1) := by decide +kernel
theorem dm_110_208 : decode cm_110 208 = .ok (.if_icmp .ne 7, 3) := by decide +kernel
theorem dm_110_211 : decode cm_110 211 = .ok (.iconst 0, 1) := by decide +kernel
theorem dm_110_212 : decode cm_110 212 = .ok (.goto 7, 3) := by decide +kernel
theorem dm_110_215 : decode cm_110 215 = .ok (.aload_n 0, 1) := by decide +kernel
theorem dm_110_216 : decode cm_110 216 = .ok (.getfield 141, 3) := by decide +kernel
theorem dm_110_219 : decode cm_110 219 = .ok (.putfield 141, 3) := by decide +kernel
theorem dm_110_222 : decode cm_110 222 = .ok (.iconst 1, 1) := by decide +kernel
theorem dm_110_223 : decode cm_110 223 = .ok (.ireturn, 1) := by decide +kernel
theorem dm_111_0 : decode cm_111 0 = .ok (.iload_n 1, 1) := by decide +kernel
theorem dm_111_1 : decode cm_111 1 = .ok (.iconst 0, 1) := by decide +kernel
theorem dm_111_2 : decode cm_111 2 = .ok (.iconst 2, 1) := by decide +kernel
theorem dm_111_3 : decode cm_111 3 = .ok (.invokestatic 83, 3) := by decide +kernel
theorem dm_111_6 : decode cm_111 6 = .ok (.ifCond .eq 23, 3) := by decide +kernel
theorem dm_111_9 : decode cm_111 9 = .ok (.aload_n 0, 1) := by decide +kernel
theorem dm_111_10 : decode cm_111 10 = .ok (.getfield 13, 3) := by decide +kernel
theorem dm_111_13 : decode cm_111 13 = .ok (.iload_n 1, 1) := by decide +kernel
theorem dm_111_14 : decode cm_111 14 = .ok (.iaload, 1) := by decide +kernel
theorem dm_111_15 : decode cm_111 15 = .ok (.ifCond .eq 14, 3) := by decide +kernel
theorem dm_111_18 : decode cm_111 18 = .ok (.aload_n 0, 1) := by decide +kernel
theorem dm_111_19 : decode cm_111 19 = .ok (.getfield 34, 3) := by decide +kernel
theorem dm_111_22 : decode cm_111 22 = .ok (.iload_n 1, 1) := by decide +kernel
theorem dm_111_23 : decode cm_111 23 = .ok (.iaload, 1) := by decide +kernel
theorem dm_111_24 : decode cm_111 24 = .ok (.bipush 12, 2) := by decide +kernel
theorem dm_111_26 : decode cm_111 26 = .ok (.if_icmp .ne 5, 3) := by decide +kernel
theorem dm_111_29 : decode cm_111 29 = .ok (.iconst 0, 1) := by decide +kernel
theorem dm_111_30 : decode cm_111 30 = .ok (.ireturn, 1) := by decide +kernel
theorem dm_111_31 : decode cm_111 31 = .ok (.aload_n 0, 1) := by decide +kernel
theorem dm_111_32 : decode cm_111 32 = .ok (.getfield 31, 3) := by decide +kernel
theorem dm_111_35 : decode cm_111 35 = .ok (.bipush 12, 2) := by decide +kernel
theorem dm_111_37 : decode cm_111 37 = .ok (.iload_n 1, 1) := by decide +kernel
theorem dm_111_38 : decode cm_111 38 = .ok (.imul, 1) := by decide +kernel
theorem dm_111_39 : decode cm_111 39 = .ok (.aload_n 0, 1) := by decide +kernel
theorem dm_111_40 : decode cm_111 40 = .ok (.getfield 34, 3) := by decide +kernel
theorem dm_111_43 : decode cm_111 43 = .ok (.iload_n 1, 1) := by decide +kernel
theorem dm_111_44 : decode cm_111 44 = .ok (.iaload, 1) := by decide +kernel
theorem dm_111_45 : decode cm_111 45 = .ok (.iadd, 1) := by decide +kernel
theorem dm_111_46 : decode cm_111 46 = .ok (.iload_n 2, 1) := by decide +kernel
theorem dm_111_47 : decode cm_111 47 = .ok (.iastore, 1) := by decide +kernel
theorem dm_111_48 : decode cm_111 48 = .ok (.aload_n 0, 1) := by decide +kernel
theorem dm_111_49 : decode cm_111 49 = .ok (.getfield 34, 3) := by decide +kernel
theorem dm_111_52 : decode cm_111 52 = .ok (.iload_n 1, 1) := by decide +kernel
theorem dm_111_53 : decode cm_111 53 = .ok (.dup2, 1) := by decide +kernel
theorem dm_111_54 : decode cm_111 54 = .ok (.iaload, 1) := by decide +kernel
theorem dm_111_55 : decode cm_111 55 = .ok (.iconst 1, 1) := by decide +kernel
theorem dm_111_56 : decode cm_111 56 = .ok (.iadd, 1) := by decide +kernel
theorem dm_111_57 : decode cm_111 57 = .ok (.iastore, 1) := by decide +kernel
theorem dm_111_58 : decode cm_111 58 = .ok (.iconst 1, 1) := by decide +kernel
theorem dm_111_59 : decode cm_111 59 = .ok (.ireturn, 1) := by decide +kernel
theorem dm_112_0 : decode cm_112 0 = .ok (.aload_n 0, 1) := by decide +kernel
theorem dm_112_1 : decode cm_112 1 = .ok (.getfield 40, 3) := by decide +kernel
theorem dm_112_4 : decode cm_112 4 = .ok (.bipush 8, 2) := by decide +kernel
theorem dm_112_6 : decode cm_112 6 = .ok (.iload_n 1, 1) := by decide +kernel
theorem dm_112_7 : decode cm_112 7 = .ok (.imul, 1) := by decide +kernel
theorem dm_112_8 : decode cm_112 8 = .ok (.aload_n 0, 1) := by decide +kernel
theorem dm_112_9 : decode cm_112 9 = .ok (.getfield 43, 3) := by decide +kernel
theorem dm_112_12 : decode cm_112 12 = .ok (.iload_n 1, 1) := by decide +kernel
theorem dm_112_13 : decode cm_112 13 = .ok (.iaload, 1) := by decide +kernel
theorem dm_112_14 : decode cm_112 14 = .ok (.bipush 7, 2) := by decide +kernel
theorem dm_112_16 : decode cm_112 16 = .ok (.iand, 1) := by decide +kernel
theorem dm_112_17 : decode cm_112 17 = .ok (.iadd, 1) := by decide +kernel
theorem dm_112_18 : decode cm_112 18 = .ok (.iload_n 2, 1) := by decide +kernel
theorem dm_112_19 : decode cm_112 19 = .ok (.iastore, 1) := by decide +kernel
theorem dm_112_20 : decode cm_112 20 = .ok (.aload_n 0, 1) := by decide +kernel
theorem dm_112_21 : decode cm_112 21 = .ok (.getfield 43, 3) := by decide +kernel
theorem dm_112_24 : decode cm_112 24 = .ok (.iload_n 1, 1) := by decide +kernel
theorem dm_112_25 : decode cm_112 25 = .ok (.dup2, 1) := by decide +kernel
theorem dm_112_26 : decode cm_112 26 = .ok (.iaload, 1) := by decide +kernel
theorem dm_112_27 : decode cm_112 27 = .ok (.iconst 1, 1) := by decide +kernel
theorem dm_112_28 : decode cm_112 28 = .ok (.iadd, 1) := by decide +kernel
theorem dm_112_29 : decode cm_112 29 = .ok (.iastore, 1) := by decide +kernel
theorem dm_112_30 : decode cm_112 30 = .ok (.return_, 1) := by decide +kernel
theorem dm_113_0 : decode cm_113 0 = .ok (.aload_n 0, 1) := by decide +kernel
theorem dm_113_1 : decode cm_113 1 = .ok (.getfield 46, 3) := by decide +kernel
theorem dm_113_4 : decode cm_113 4 = .ok (.iload_n 1, 1) := by decide +kernel
theorem dm_113_5 : decode cm_113 5 = .ok (.iaload, 1) := by decide +kernel
theorem dm_113_6 : decode cm_113 6 = .ok (.bipush 16, 2) := by decide +kernel
theorem dm_113_8 : decode cm_113 8 = .ok (.if_icmp .ge 47, 3) := by decide +kernel
theorem dm_113_11 : decode cm_113 11 = .ok (.bipush 48, 2) := by decide +kernel
theorem dm_113_13 : decode cm_113 13 = .ok (.iload_n 1, 1) := by decide +kernel
theorem dm_113_14 : decode cm_113 14 = .ok (.imul, 1) := by decide +kernel
theorem dm_113_15 : decode cm_113 15 = .ok (.iconst 3, 1) := by decide +kernel
theorem dm_113_16 : decode cm_113 16 = .ok (.aload_n 0, 1) := by decide +kernel
theorem dm_113_17 : decode cm_113 17 = .ok (.getfield 46, 3) := by decide +kernel
theorem dm_113_20 : decode cm_113 20 = .ok (.iload_n 1, 1) := by decide +kernel
theorem dm_113_21 : decode cm_113 21 = .ok (.iaload, 1) := by decide +kernel
theorem dm_113_22 : decode cm_113 22 = .ok (.imul, 1) := by decide +kernel
theorem dm_113_23 : decode cm_113 23 = .ok (.iadd, 1) := by decide +kernel
theorem dm_113_24 : decode cm_113 24 = .ok (.istore 5, 2) := by decide +kernel
theorem dm_113_26 : decode cm_113 26 = .ok (.aload_n 0, 1) := by decide +kernel
theorem dm_113_27 : decode cm_113 27 = .ok (.getfield 49, 3) := by decide +kernel
theorem dm_113_30 : decode cm_113 30 = .ok (.iload 5, 2) := by decide +kernel
theorem dm_113_32 : decode cm_113 32 = .ok (.iload_n 2, 1) := by decide +kernel
theorem dm_113_33 : decode cm_113 33 = .ok (.iastore, 1) := by decide +kernel
theorem dm_113_34 : decode cm_113 34 = .ok (.aload_n 0, 1) := by decide +kernel
theorem dm_113_35 : decode cm_113 35 = .ok (.getfield 49, 3) := by decide +kernel
theorem dm_113_38 : decode cm_113 38 = .ok (.iload 5, 2) := by decide +kernel
theorem dm_113_40 : decode cm_113 40 = .ok (.iconst 1, 1) := by decide +kernel
theorem dm_113_41 : decode cm_113 41 = .ok (.iadd, 1) := by decide +kernel
theorem dm_113_42 : decode cm_113 42 = .ok (.iload_n 3, 1) := by decide +kernel
theorem dm_113_43 : decode cm_113 43 = .ok (.iastore, 1) := by decide +kernel
theorem dm_113_44 : decode cm_113 44 = .ok (.aload_n 0, 1) := by decide +kernel
theorem dm_113_45 : decode cm_113 45 = .ok (.getfield 49, 3) := by decide +kernel
theorem dm_113_48 : decode cm_113 48 = .ok (.iload 5, 2) := by decide +kernel
theorem dm_113_50 : decode cm_113 50 = .ok (.iconst 2, 1) := by decide +kernel
theorem dm_113_51 : decode cm_113 51 = .ok (.iadd, 1) := by decide +kernel
theorem dm_113_52 : decode cm_113 52 = .ok (.iload 4, 2) := by decide +kernel
theorem dm_113_54 : decode cm_113 54 = .ok (.iastore, 1) := by decide +kernel
theorem dm_113_55 : decode cm_113 55 = .ok (.aload_n 0, 1) := by decide +kernel
theorem dm_113_56 : decode cm_113 56 = .ok (.getfield 46, 3) := by decide +kernel
theorem dm_113_59 : decode cm_113 59 = .ok (.iload_n 1, 1) := by decide +kernel
theorem dm_113_60 : decode cm_113 60 = .ok (.dup2, 1) := by decide +kernel
theorem dm_113_61 : decode cm_113 61 = .ok (.iaload, 1) := by decide +kernel
theorem dm_113_62 : decode cm_113 62 = .ok (.iconst 1, 1) := by decide +kernel
theorem dm_113_63 : decode cm_113 63 = .ok (.iadd, 1) := by decide +kernel
theorem dm_113_64 : decode cm_113 64 = .ok (.iastore, 1) := by decide +kernel
theorem dm_113_65 : decode cm_113 65 = .ok (.return_, 1) := by decide +kernel
theorem dm_114_0 : decode cm_114 0 = .ok (.iload_n 2, 1) := by decide +kernel
theorem dm_114_1 : decode cm_114 1 = .ok (.iconst 1, 1) := by decide +kernel
theorem dm_114_2 : decode cm_114 2 = .ok (.if_icmp .eq 12, 3) := by decide +kernel
theorem dm_114_5 : decode cm_114 5 = .ok (.iload_n 2, 1) := by decide +kernel
theorem dm_114_6 : decode cm_114 6 = .ok (.iconst 3, 1) := by decide +kernel
theorem dm_114_7 : decode cm_114 7 = .ok (.iconst 5, 1) := by decide +kernel
theorem dm_114_8 : decode cm_114 8 = .ok (.invokestatic 83, 3) := by decide +kernel
theorem dm_114_11 : decode cm_114 11 = .ok (.ifCond .eq 17, 3) := by decide +kernel
theorem dm_114_14 : decode cm_114 14 = .ok (.aload_n 0, 1) := by decide +kernel
theorem dm_114_15 : decode cm_114 15 = .ok (.getfield 16, 3) := by decide +kernel
theorem dm_114_18 : decode cm_114 18 = .ok (.bipush 8, 2) := by decide +kernel
theorem dm_114_20 : decode cm_114 20 = .ok (.iload_n 1, 1) := by decide +kernel
theorem dm_114_21 : decode cm_114 21 = .ok (.imul, 1) := by decide +kernel
theorem dm_114_22 : decode cm_114 22 = .ok (.iconst 1, 1) := by decide +kernel
theorem dm_114_23 : decode cm_114 23 = .ok (.iadd, 1) := by decide +kernel
theorem dm_114_24 : decode cm_114 24 = .ok (.iaload, 1) := by decide +kernel
theorem dm_114_25 : decode cm_114 25 = .ok (.goto 4, 3) := by decide +kernel
theorem dm_114_28 : decode cm_114 28 = .ok (.iconst 0, 1) := by decide +kernel
theorem dm_114_29 : decode cm_114 29 = .ok (.istore_n 3, 1) := by decide +kernel
theorem dm_114_30 : decode cm_114 30 = .ok (.iload_n 2, 1) := by decide +kernel
theorem dm_114_31 : decode cm_114 31 = .ok (.iconst 4, 1) := by decide +kernel
theorem dm_114_32 : decode cm_114 32 = .ok (.iconst 5, 1) := by decide +kernel
theorem dm_114_33 : decode cm_114 33 = .ok (.invokestatic 83, 3) := by decide +kernel
theorem dm_114_36 : decode cm_114 36 = .ok (.ifCond .eq 17, 3) := by decide +kernel
theorem dm_114_39 : decode cm_114 39 = .ok (.aload_n 0, 1) := by decide +kernel
theorem dm_114_40 : decode cm_114 40 = .ok (.getfield 16, 3) := by decide +kernel
theorem dm_114_43 : decode cm_114 43 = .ok (.bipush 8, 2) := by decide +kernel
theorem dm_114_45 : decode cm_114 45 = .ok (.iload_n 1, 1) := by decide +kernel
theorem dm_114_46 : decode cm_114 46 = .ok (.imul, 1) := by decide +kernel
theorem dm_114_47 : decode cm_114 47 = .ok (.iconst 2, 1) := by decide +kernel
theorem dm_114_48 : decode cm_114 48 = .ok (.iadd, 1) := by decide +kernel
theorem dm_114_49 : decode cm_114 49 = .ok (.iaload, 1) := by decide +kernel
theorem dm_114_50 : decode cm_114 50 = .ok (.goto 4, 3) := by decide +kernel
theorem dm_114_53 : decode cm_114 53 = .ok (.iconst 0, 1) := by decide +kernel
theorem dm_114_54 : decode cm_114 54 = .ok (.istore 4, 2) := by decide +kernel
theorem dm_114_56 : decode cm_114 56 = .ok (.aload_n 0, 1) := by decide +kernel
theorem dm_114_57 : decode cm_114 57 = .ok (.iload_n 1, 1) := by decide +kernel
theorem dm_114_58 : decode cm_114 58 = .ok (.iload_n 2, 1) := by decide +kernel
theorem dm_114_59 : decode cm_114 59 = .ok (.iload_n 3, 1) := by decide +kernel
theorem dm_114_60 : decode cm_114 60 = .ok (.iload 4, 2) := by decide +kernel
theorem dm_114_62 : decode cm_114 62 = .ok (.invokevirtual 144, 3) := by decide +kernel
theorem dm_114_65 : decode cm_114 65 = .ok (.iconst (-1), 1) := by decide +kernel
theorem dm_114_66 : decode cm_114 66 = .ok (.istore 5, 2) := by decide +kernel
theorem dm_114_68 : decode cm_114 68 = .ok (.iload_n 2, 1) := by decide +kernel
theorem dm_114_69 : decode cm_114 69 = .ok (.iconst 1, 1) := by decide +kernel
theorem dm_114_70 : decode cm_114 70 = .ok (.if_icmp .ne 15, 3) := by decide +kernel
theorem dm_114_73 : decode cm_114 73 = .ok (.aload_n 0, 1) := by decide +kernel
theorem dm_114_74 : decode cm_114 74 = .ok (.iload_n 1, 1) := by decide +kernel
theorem dm_114_75 : decode cm_114 75 = .ok (.iload_n 3, 1) := by decide +kernel
theorem dm_114_76 : decode cm_114 76 = .ok (.invokevirtual 148, 3) := by decide +kernel
theorem dm_114_79 : decode cm_114 79 = .ok (.iconst 0, 1) := by decide +kernel
theorem dm_114_80 : decode cm_114 80 = .ok (.istore 5, 2) := by decide +kernel
theorem dm_114_82 : decode cm_114 82 = .ok (.goto 298, 3) := by decide +kernel
theorem dm_114_85 : decode cm_114 85 = .ok (.iload_n 2, 1) := by decide +kernel
theorem dm_114_86 : decode cm_114 86 = .ok (.iconst 2, 1) := by decide +kernel
theorem dm_114_87 : decode cm_114 87 = .ok (.if_icmp .ne 49, 3) := by decide +kernel
theorem dm_114_90 : decode cm_114 90 = .ok (.aload_n 0, 1) := by decide +kernel
theorem dm_114_91 : decode cm_114 91 = .ok (.getfield 37, 3) := by decide +kernel
theorem dm_114_94 : decode cm_114 94 = .ok (.iload_n 1, 1) := by decide +kernel
theorem dm_114_95 : decode cm_114 95 = .ok (.iaload, 1) := by decide +kernel
theorem dm_114_96 : decode cm_114 96 = .ok (.aload_n 0, 1) := by decide +kernel
theorem dm_114_97 : decode cm_114 97 = .ok (.getfield 34, 3) := by decide +kernel
theorem dm_114_100 : decode cm_114 100 = .ok (.iload_n 1, 1) := by decide +kernel
theorem dm_114_101 : decode cm_114 101 = .ok (.iaload, 1) := by decide +kernel
theorem dm_114_102 : decode cm_114 102 = .ok (.if_icmp .ge 34, 3) := by decide +kernel
theorem dm_114_105 : decode cm_114 105 = .ok (.aload_n 0, 1) := by decide +kernel
theorem dm_114_106 : decode cm_114 106 = .ok (.getfield 31, 3) := by decide +kernel
theorem dm_114_109 : decode cm_114 109 = .ok (.bipush 12, 2) := by decide +kernel
theorem dm_114_111 : decode cm_114 111 = .ok (.iload_n 1, 1) := by decide +kernel
theorem dm_114_112 : decode cm_114 112 = .ok (.imul, 1) := by decide +kernel
theorem dm_114_113 : decode cm_114 113 = .ok (.aload_n 0, 1) := by decide +kernel
theorem dm_114_114 : decode cm_114 114 = .ok (.getfield 37, 3) := by decide +kernel
theorem dm_114_117 : decode cm_114 117 = .ok (.iload_n 1, 1) := by decide +kernel
theorem dm_114_118 : decode cm_114 118 = .ok (.iaload, 1) := by decide +kernel
theorem dm_114_119 : decode cm_114 119 = .ok (.iadd, 1) := by decide +kernel
theorem dm_114_120 : decode cm_114 120 = .ok (.iaload, 1) := by decide +kernel
theorem dm_114_121 : decode cm_114 121 = .ok (.istore 5, 2) := by decide +kernel
theorem dm_114_123 : decode cm_114 123 = .ok (.aload_n 0, 1) := by decide +kernel
theorem dm_114_124 : decode cm_114 124 = .ok (.getfield 37, 3) := by decide +kernel
theorem dm_114_127 : decode cm_114 127 = .ok (.iload_n 1, 1) := by decide +kernel
theorem dm_114_128 : decode cm_114 128 = .ok (.dup2, 1) := by decide +kernel
theorem dm_114_129 : decode cm_114 129 = .ok (.iaload, 1) := by decide +kernel
theorem dm_114_130 : decode cm_114 130 = .ok (.iconst 1, 1) := by decide +kernel
theorem dm_114_131 : decode cm_114 131 = .ok (.iadd, 1) := by decide +kernel
theorem dm_114_132 : decode cm_114 132 = .ok (.iastore, 1) := by decide +kernel
theorem dm_114_133 : decode cm_114 133 = .ok (.goto 247, 3) := by decide +kernel
theorem dm_114_136 : decode cm_114 136 = .ok (.iload_n 2, 1) := by decide +kernel
theorem dm_114_137 : decode cm_114 137 = .ok (.iconst 3, 1) := by decide +kernel
theorem dm_114_138 : decode cm_114 138 = .ok (.if_icmp .ne 41, 3) := by decide +kernel
theorem dm_114_141 : decode cm_114 141 = .ok (.iload_n 3, 1) := by decide +kernel
theorem dm_114_142 : decode cm_114 142 = .ok (.iconst 1, 1) := by decide +kernel
theorem dm_114_143 : decode cm_114 143 = .ok (.bipush 16, 2) := by decide +kernel
theorem dm_114_145 : decode cm_114 145 = .ok (.aload_n 0, 1) := by decide +kernel
theorem dm_114_146 : decode cm_114 146 = .ok (.getfield 22, 3) := by decide +kernel
theorem dm_114_149 : decode cm_114 149 = .ok (.iload_n 1, 1) := by decide +kernel
theorem dm_114_150 : decode cm_114 150 = .ok (.iaload, 1) := by decide +kernel
theorem dm_114_151 : decode cm_114 151 = .ok (.isub, 1) := by decide +kernel
theorem dm_114_152 : decode cm_114 152 = .ok (.invokestatic 83, 3) := by decide +kernel
theorem dm_114_155 : decode cm_114 155 = .ok (.ifCond .eq 24, 3) := by decide +kernel
theorem dm_114_158 : decode cm_114 158 = .ok (.aload_n 0, 1) := by decide +kernel
theorem dm_114_159 : decode cm_114 159 = .ok (.getfield 22, 3) := by decide +kernel
theorem dm_114_162 : decode cm_114 162 = .ok (.iload_n 1, 1) := by decide +kernel
theorem dm_114_163 : decode cm_114 163 = .ok (.iaload, 1) := by decide +kernel
theorem dm_114_164 : decode cm_114 164 = .ok (.istore 5, 2) := by decide +kernel
theorem dm_114_166 : decode cm_114 166 = .ok (.aload_n 0, 1) := by decide +kernel
theorem dm_114_167 : decode cm_114 167 = .ok (.getfield 22, 3) := by decide +kernel
theorem dm_114_170 : decode cm_114 170 = .ok (.iload_n 1, 1) := by decide +kernel
theorem dm_114_171 : decode cm_114 171 = .ok (.dup2, 1) := by decide +kernel
theorem dm_114_172 : decode cm_114 172 = .ok (.iaload, 1) := by decide +kernel
theorem dm_114_173 : decode cm_114 173 = .ok (.iload_n 3, 1) := by decide +kernel
theorem dm_114_174 : decode cm_114 174 = .ok (.iadd, 1) := by decide +kernel
theorem dm_114_175 : decode cm_114 175 = .ok (.iastore, 1) := by decide +kernel
theorem dm_114_176 : decode cm_114 176 = .ok (.goto 204, 3) := by decide +kernel
theorem dm_114_179 : decode cm_114 179 = .ok (.iload_n 2, 1) := by decide +kernel
theorem dm_114_180 : decode cm_114 180 = .ok (.iconst 4, 1) := by decide +kernel
theorem dm_114_181 : decode cm_114 181 = .ok (.if_icmp .ne 54, 3) := by decide +kernel
theorem dm_114_184 : decode cm_114 184 = .ok (.iload_n 3, 1) := by decide +kernel
theorem dm_114_185 : decode cm_114 185 = .ok (.iload 4, 2) := by decide +kernel
theorem dm_114_187 : decode cm_114 187 = .ok (.invokestatic 151, 3) := by decide +kernel
theorem dm_114_190 : decode cm_114 190 = .ok (.ifCond .eq 45, 3) := by decide +kernel
theorem dm_114_193 : decode cm_114 193 = .ok (.iconst 0, 1) := by decide +kernel
theorem dm_114_194 : decode cm_114 194 = .ok (.istore 6, 2) := by decide +kernel
theorem dm_114_196 : decode cm_114 196 = .ok (.iload 6, 2) := by decide +kernel
theorem dm_114_198 : decode cm_114 198 = .ok (.iload 4, 2) := by decide +kernel
theorem dm_114_200 : decode cm_114 200 = .ok (.if_icmp .ge 28, 3) := by decide +kernel
theorem dm_114_203 : decode cm_114 203 = .ok (.aload_n 0, 1) := by decide +kernel
theorem dm_114_204 : decode cm_114 204 = .ok (.iload_n 1, 1) := by decide +kernel
theorem dm_114_205 : decode cm_114 205 = .ok (.aload_n 0, 1) := by decide +kernel
theorem dm_114_206 : decode cm_114 206 = .ok (.getfield 7, 3) := by decide +kernel
theorem dm_114_209 : decode cm_114 209 = .ok (.bipush 16, 2) := by decide +kernel
theorem dm_114_211 : decode cm_114 211 = .ok (.iload_n 1, 1) := by decide +kernel
theorem dm_114_212 : decode cm_114 212 = .ok (.imul, 1) := by decide +kernel
theorem dm_114_213 : decode cm_114 213 = .ok (.iload_n 3, 1) := by decide +kernel
theorem dm_114_214 : decode cm_114 214 = .ok (.iadd, 1) := by decide +kernel
theorem dm_114_215 : decode cm_114 215 = .ok (.iload 6, 2) := by decide +kernel
theorem dm_114_217 : decode cm_114 217 = .ok (.iadd, 1) := by decide +kernel
theorem dm_114_218 : decode cm_114 218 = .ok (.iaload, 1) := by decide +kernel
theorem dm_114_219 : decode cm_114 219 = .ok (.invokevirtual 148, 3) := by decide +kernel
theorem dm_114_222 : decode cm_114 222 = .ok (.iinc 6 1, 3) := by decide +kernel
theorem dm_114_225 : decode cm_114 225 = .ok (.goto (-29), 3) := by decide +kernel
theorem dm_114_228 : decode cm_114 228 = .ok (.iload 4, 2) := by decide +kernel
theorem dm_114_230 : decode cm_114 230 = .ok (.istore 5, 2) := by decide +kernel
theorem dm_114_232 : decode cm_114 232 = .ok (.goto 148, 3) := by decide +kernel
theorem dm_114_235 : decode cm_114 235 = .ok (.iload_n 2, 1) := by decide +kernel
theorem dm_114_236 : decode cm_114 236 = .ok (.iconst 5, 1) := by decide +kernel
theorem dm_114_237 : decode cm_114 237 = .ok (.if_icmp .ne 64, 3) := by decide +kernel
theorem dm_114_240 : decode cm_114 240 = .ok (.iload_n 3, 1) := by decide +kernel
theorem dm_114_241 : decode cm_114 241 = .ok (.iconst 0, 1) := by decide +kernel
theorem dm_114_242 : decode cm_114 242 = .ok (.iconst 2, 1) := by decide +kernel
theorem dm_114_243 : decode cm_114 243 = .ok (.invokestatic 83, 3) := by decide +kernel
theorem dm_114_246 : decode cm_114 246 = .ok (.ifCond .eq 55, 3) := by decide +kernel
theorem dm_114_249 : decode cm_114 249 = .ok (.aload_n 0, 1) := by decide +kernel
theorem dm_114_250 : decode cm_114 250 = .ok (.getfield 13, 3) := by decide +kernel
theorem dm_114_253 : decode cm_114 253 = .ok (.iload_n 3, 1) := by decide +kernel
theorem dm_114_254 : decode cm_114 254 = .ok (.iaload, 1) := by decide +kernel
theorem dm_114_255 : decode cm_114 255 = .ok (.ifCond .eq 46, 3) := by decide +kernel
theorem dm_114_258 : decode cm_114 258 = .ok (.aload_n 0, 1) := by decide +kernel
theorem dm_114_259 : decode cm_114 259 = .ok (.getfield 28, 3) := by decide +kernel
theorem dm_114_262 : decode cm_114 262 = .ok (.iload_n 3, 1) := by decide +kernel
theorem dm_114_263 : decode cm_114 263 = .ok (.iaload, 1) := by decide +kernel
theorem dm_114_264 : decode cm_114 264 = .ok (.iconst 4, 1) := by decide +kernel
theorem dm_114_265 : decode cm_114 265 = .ok (.if_icmp .ge 36, 3) := by decide +kernel
theorem dm_114_268 : decode cm_114 268 = .ok (.aload_n 0, 1) := by decide +kernel
theorem dm_114_269 : decode cm_114 269 = .ok (.getfield 25, 3) := by decide +kernel
theorem dm_114_272 : decode cm_114 272 = .ok (.iconst 4, 1) := by decide +kernel
theorem dm_114_273 : decode cm_114 273 = .ok (.iload_n 3, 1) := by decide +kernel
theorem dm_114_274 : decode cm_114 274 = .ok (.imul, 1) := by decide +kernel
theorem dm_114_275 : decode cm_114 275 = .ok (.aload_n 0, 1) := by decide +kernel
theorem dm_114_276 : decode cm_114 276 = .ok (.getfield 28, 3) := by decide +kernel
theorem dm_114_279 : decode cm_114 279 = .ok (.iload_n 3, 1) := by decide +kernel
theorem dm_114_280 : decode cm_114 280 = .ok (.iaload, 1) := by decide +kernel
theorem dm_114_281 : decode cm_114 281 = .ok (.iadd, 1) := by decide +kernel
theorem dm_114_282 : decode cm_114 282 = .ok (.iload 4, 2) := by decide +kernel
theorem dm_114_284 : decode cm_114 284 = .ok (.iastore, 1) := by decide +kernel
theorem dm_114_285 : decode cm_114 285 = .ok (.aload_n 0, 1) := by decide +kernel
theorem dm_114_286 : decode cm_114 286 = .ok (.getfield 28, 3) := by decide +kernel
theorem dm_114_289 : decode cm_114 289 = .ok (.iload_n 3, 1) := by decide +kernel
theorem dm_114_290 : decode cm_114 290 = .ok (.dup2, 1) := by decide +kernel
theorem dm_114_291 : decode cm_114 291 = .ok (.iaload, 1) := by decide +kernel
theorem dm_114_292 : decode cm_114 292 = .ok (.iconst 1, 1) := by decide +kernel
theorem dm_114_293 : decode cm_114 293 = .ok (.iadd, 1) := by decide +kernel
theorem dm_114_294 : decode cm_114 294 = .ok (.iastore, 1) := by decide +kernel
theorem dm_114_295 : decode cm_114 295 = .ok (.iconst 0, 1) := by decide +kernel
theorem dm_114_296 : decode cm_114 296 = .ok (.istore 5, 2) := by decide +kernel
theorem dm_114_298 : decode cm_114 298 = .ok (.goto 82, 3) := by decide +kernel
theorem dm_114_301 : decode cm_114 301 = .ok (.iload_n 2, 1) := by decide +kernel
theorem dm_114_302 : decode cm_114 302 = .ok (.bipush 6, 2) := by decide +kernel
theorem dm_114_304 : decode cm_114 304 = .ok (.if_icmp .ne 76, 3) := by decide +kernel
theorem dm_114_307 : decode cm_114 307 = .ok (.aload_n 0, 1) := by decide +kernel
theorem dm_114_308 : decode cm_114 308 = .ok (.getfield 28, 3) := by decide +kernel
theorem dm_114_311 : decode cm_114 311 = .ok (.iload_n 1, 1) := by decide +kernel
theorem dm_114_312 : decode cm_114 312 = .ok (.iaload, 1) := by decide +kernel
theorem dm_114_313 : decode cm_114 313 = .ok (.ifCond .le 67, 3) := by decide +kernel
theorem dm_114_316 : decode cm_114 316 = .ok (.aload_n 0, 1) := by decide +kernel
theorem dm_114_317 : decode cm_114 317 = .ok (.getfield 25, 3) := by decide +kernel
theorem dm_114_320 : decode cm_114 320 = .ok (.iconst 4, 1) := by decide +kernel
theorem dm_114_321 : decode cm_114 321 = .ok (.iload_n 1, 1) := by decide +kernel
theorem dm_114_322 : decode cm_114 322 = .ok (.imul, 1) := by decide +kernel
theorem dm_114_323 : decode cm_114 323 = .ok (.iaload, 1) := by decide +kernel
theorem dm_114_324 : decode cm_114 324 = .ok (.istore 5, 2) := by decide +kernel
theorem dm_114_326 : decode cm_114 326 = .ok (.aload_n 0, 1) := by decide +kernel
theorem dm_114_327 : decode cm_114 327 = .ok (.getfield 28, 3) := by decide +kernel
theorem dm_114_330 : decode cm_114 330 = .ok (.iload_n 1, 1) := by decide +kernel
theorem dm_114_331 : decode cm_114 331 = .ok (.dup2, 1) := by decide +kernel
theorem dm_114_332 : decode cm_114 332 = .ok (.iaload, 1) := by decide +kernel
theorem dm_114_333 : decode cm_114 333 = .ok (.iconst 1, 1) := by decide +kernel
theorem dm_114_334 : decode cm_114 334 = .ok (.isub, 1) := by decide +kernel
theorem dm_114_335 : decode cm_114 335 = .ok (.iastore, 1) := by decide +kernel
theorem dm_114_336 : decode cm_114 336 = .ok (.iconst 0, 1) := by decide +kernel
theorem dm_114_337 : decode cm_114 337 = .ok (.istore 6, 2) := by decide +kernel
theorem dm_114_339 : decode cm_114 339 = .ok (.iload 6, 2) := by decide +kernel
theorem dm_114_341 : decode cm_114 341 = .ok (.aload_n 0, 1) := by decide +kernel
theorem dm_114_342 : decode cm_114 342 = .ok (.getfield 28, 3) := by decide +kernel
theorem dm_114_345 : decode cm_114 345 = .ok (.iload_n 1, 1) := by decide +kernel
theorem dm_114_346 : decode cm_114 346 = .ok (.iaload, 1) := by decide +kernel
theorem dm_114_347 : decode cm_114 347 = .ok (.if_icmp .ge 33, 3) := by decide +kernel
theorem dm_114_350 : decode cm_114 350 = .ok (.aload_n 0, 1) := by decide +kernel
theorem dm_114_351 : decode cm_114 351 = .ok (.getfield 25, 3) := by decide +kernel
theorem dm_114_354 : decode cm_114 354 = .ok (.iconst 4, 1) := by decide +kernel
theorem dm_114_355 : decode cm_114 355 = .ok (.iload_n 1, 1) := by decide +kernel
theorem dm_114_356 : decode cm_114 356 = .ok (.imul, 1) := by decide +kernel
theorem dm_114_357 : decode cm_114 357 = .ok (.iload 6, 2) := by decide +kernel
theorem dm_114_359 : decode cm_114 359 = .ok (.iadd, 1) := by decide +kernel
theorem dm_114_360 : decode cm_114 360 = .ok (.aload_n 0, 1) := by decide +kernel
theorem dm_114_361 : decode cm_114 361 = .ok (.getfield 25, 3) := by decide +kernel
theorem dm_114_364 : decode cm_114 364 = .ok (.iconst 4, 1) := by decide +kernel
theorem dm_114_365 : decode cm_114 365 = .ok (.iload_n 1, 1) := by decide +kernel
theorem dm_114_366 : decode cm_114 366 = .ok (.imul, 1) := by decide +kernel
theorem dm_114_367 : decode cm_114 367 = .ok (.iload 6, 2) := by decide +kernel
theorem dm_114_369 : decode cm_114 369 = .ok (.iadd, 1) := by decide +kernel
theorem dm_114_370 : decode cm_114 370 = .ok (.iconst 1, 1) := by decide +kernel
theorem dm_114_371 : decode cm_114 371 = .ok (.iadd, 1) := by decide +kernel
theorem dm_114_372 : decode cm_114 372 = .ok (.iaload, 1) := by decide +kernel
theorem dm_114_373 : decode cm_114 373 = .ok (.iastore, 1) := by decide +kernel
theorem dm_114_374 : decode cm_114 374 = .ok (.iinc 6 1, 3) := by decide +kernel
theorem dm_114_377 : decode cm_114 377 = .ok (.goto (-38), 3) := by decide +kernel
theorem dm_114_380 : decode cm_114 380 = .ok (.aload_n 0, 1) := by decide +kernel
theorem dm_114_381 : decode cm_114 381 = .ok (.getfield 16, 3) := by decide +kernel
theorem dm_114_384 : decode cm_114 384 = .ok (.bipush 8, 2) := by decide +kernel
theorem dm_114_386 : decode cm_114 386 = .ok (.iload_n 1, 1) := by decide +kernel
theorem dm_114_387 : decode cm_114 387 = .ok (.imul, 1) := by decide +kernel
theorem dm_114_388 : decode cm_114 388 = .ok (.iconst 1, 1) := by decide +kernel
theorem dm_114_389 : decode cm_114 389 = .ok (.iadd, 1) := by decide +kernel
theorem dm_114_390 : decode cm_114 390 = .ok (.iload 5, 2) := by decide +kernel
theorem dm_114_392 : decode cm_114 392 = .ok (.iastore, 1) := by decide +kernel
theorem dm_114_393 : decode cm_114 393 = .ok (.return_, 1) := by decide +kernel
theorem dm_115_0 : decode cm_115 0 = .ok (.iload_n 0, 1) := by decide +kernel
theorem dm_115_1 : decode cm_115 1 = .ok (.iconst 0, 1) := by decide +kernel
theorem dm_115_2 : decode cm_115 2 = .ok (.bipush 16, 2) := by decide +kernel
theorem dm_115_4 : decode cm_115 4 = .ok (.invokestatic 83, 3) := by decide +kernel
theorem dm_115_7 : decode cm_115 7 = .ok (.ifCond .eq 25, 3) := by decide +kernel
theorem dm_115_10 : decode cm_115 10 = .ok (.iload_n 1, 1) := by decide +kernel
theorem dm_115_11 : decode cm_115 11 = .ok (.iconst 0, 1) := by decide +kernel
theorem dm_115_12 : decode cm_115 12 = .ok (.bipush 16, 2) := by decide +kernel
theorem dm_115_14 : decode cm_115 14 = .ok (.invokestatic 83, 3) := by decide +kernel
theorem dm_115_17 : decode cm_115 17 = .ok (.ifCond .eq 15, 3) := by decide +kernel
theorem dm_115_20 : decode cm_115 20 = .ok (.iload_n 0, 1) := by decide +kernel
theorem dm_115_21 : decode cm_115 21 = .ok (.iload_n 1, 1) := by decide +kernel
theorem dm_115_22 : decode cm_115 22 = .ok (.iadd, 1) := by decide +kernel
theorem dm_115_23 : decode cm_115 23 = .ok (.bipush 16, 2) := by decide +kernel
theorem dm_115_25 : decode cm_115 25 = .ok (.if_icmp .gt 7, 3) := by decide +kernel
theorem dm_115_28 : decode cm_115 28 = .ok (.iconst 1, 1) := by decide +kernel
theorem dm_115_29 : decode cm_115 29 = .ok (.goto 4, 3) := by decide +kernel
theorem dm_115_32 : decode cm_115 32 = .ok (.iconst 0, 1) := by decide +kernel
theorem dm_115_33 : decode cm_115 33 = .ok (.ireturn, 1) := by decide +kernel
theorem dm_116_0 : decode cm_116 0 = .ok (.aload_n 0, 1) := by decide +kernel
theorem dm_116_1 : decode cm_116 1 = .ok (.getfield 19, 3) := by decide +kernel
theorem dm_116_4 : decode cm_116 4 = .ok (.iload_n 1, 1) := by decide +kernel
theorem dm_116_5 : decode cm_116 5 = .ok (.iaload, 1) := by decide +kernel
theorem dm_116_6 : decode cm_116 6 = .ok (.istore_n 2, 1) := by decide +kernel
theorem dm_116_7 : decode cm_116 7 = .ok (.aload_n 0, 1) := by decide +kernel
theorem dm_116_8 : decode cm_116 8 = .ok (.getfield 7, 3) := by decide +kernel
theorem dm_116_11 : decode cm_116 11 = .ok (.iload_n 2, 1) := by decide +kernel
theorem dm_116_12 : decode cm_116 12 = .ok (.iaload, 1) := by decide +kernel
theorem dm_116_13 : decode cm_116 13 = .ok (.istore_n 3, 1) := by decide +kernel
theorem dm_116_14 : decode cm_116 14 = .ok (.iload_n 3, 1) := by decide +kernel
theorem dm_116_15 : decode cm_116 15 = .ok (.bipush 15, 2) := by decide +kernel
theorem dm_116_17 : decode cm_116 17 = .ok (.iand, 1) := by decide +kernel
theorem dm_116_18 : decode cm_116 18 = .ok (.istore 4, 2) := by decide +kernel
theorem dm_116_20 : decode cm_116 20 = .ok (.iload_n 3, 1) := by decide +kernel
theorem dm_116_21 : decode cm_116 21 = .ok (.bipush 10, 2) := by decide +kernel
theorem dm_116_23 : decode cm_116 23 = .ok (.ishr, 1) := by decide +kernel
theorem dm_116_24 : decode cm_116 24 = .ok (.istore 5, 2) := by decide +kernel
theorem dm_116_26 : decode cm_116 26 = .ok (.bipush 8, 2) := by decide +kernel
theorem dm_116_28 : decode cm_116 28 = .ok (.iload_n 1, 1) := by decide +kernel
theorem dm_116_29 : decode cm_116 29 = .ok (.imul, 1) := by decide +kernel
theorem dm_116_30 : decode cm_116 30 = .ok (.iload_n 3, 1) := by decide +kernel
theorem dm_116_31 : decode cm_116 31 = .ok (.iconst 4, 1) := by decide +kernel
theorem dm_116_32 : decode cm_116 32 = .ok (.ishr, 1) := by decide +kernel
theorem dm_116_33 : decode cm_116 33 = .ok (.bipush 7, 2) := by decide +kernel
theorem dm_116_35 : decode cm_116 35 = .ok (.iand, 1) := by decide +kernel
theorem dm_116_36 : decode cm_116 36 = .ok (.iadd, 1) := by decide +kernel
theorem dm_116_37 : decode cm_116 37 = .ok (.istore 6, 2) := by decide +kernel
theorem dm_116_39 : decode cm_116 39 = .ok (.bipush 8, 2) := by decide +kernel
theorem dm_116_41 : decode cm_116 41 = .ok (.iload_n 1, 1) := by decide +kernel
theorem dm_116_42 : decode cm_116 42 = .ok (.imul, 1) := by decide +kernel
theorem dm_116_43 : decode cm_116 43 = .ok (.iload_n 3, 1) := by decide +kernel
theorem dm_116_44 : decode cm_116 44 = .ok (.bipush 7, 2) := by decide +kernel
theorem dm_116_46 : decode cm_116 46 = .ok (.ishr, 1) := by decide +kernel
theorem dm_116_47 : decode cm_116 47 = .ok (.bipush 7, 2) := by decide +kernel
theorem dm_116_49 : decode cm_116 49 = .ok (.iand, 1) := by decide +kernel
theorem dm_116_50 : decode cm_116 50 = .ok (.iadd, 1) := by decide +kernel
theorem dm_116_51 : decode cm_116 51 = .ok (.istore 7, 2) := by decide +kernel
theorem dm_116_53 : decode cm_116 53 = .ok (.iload 4, 2) := by decide +kernel
