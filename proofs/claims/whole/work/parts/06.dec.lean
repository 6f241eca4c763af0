theorem dm_116_55 : decode cm_116 55 = .ok (.ifCond .eq 15, 3) := by decide +kernel
theorem dm_116_58 : decode cm_116 58 = .ok (.iload 4, 2) := by decide +kernel
theorem dm_116_60 : decode cm_116 60 = .ok (.bipush 14, 2) := by decide +kernel
theorem dm_116_62 : decode cm_116 62 = .ok (.if_icmp .ne 40, 3) := by decide +kernel
theorem dm_116_65 : decode cm_116 65 = .ok (.iload 5, 2) := by decide +kernel
theorem dm_116_67 : decode cm_116 67 = .ok (.ifCond .ne 35, 3) := by decide +kernel
theorem dm_116_70 : decode cm_116 70 = .ok (.iload 4, 2) := by decide +kernel
theorem dm_116_72 : decode cm_116 72 = .ok (.bipush 14, 2) := by decide +kernel
theorem dm_116_74 : decode cm_116 74 = .ok (.if_icmp .ne 11, 3) := by decide +kernel
theorem dm_116_77 : decode cm_116 77 = .ok (.aload_n 0, 1) := by decide +kernel
theorem dm_116_78 : decode cm_116 78 = .ok (.iload_n 1, 1) := by decide +kernel
theorem dm_116_79 : decode cm_116 79 = .ok (.iconst 0, 1) := by decide +kernel
theorem dm_116_80 : decode cm_116 80 = .ok (.iconst 0, 1) := by decide +kernel
theorem dm_116_81 : decode cm_116 81 = .ok (.iconst 0, 1) := by decide +kernel
theorem dm_116_82 : decode cm_116 82 = .ok (.invokevirtual 144, 3) := by decide +kernel
theorem dm_116_85 : decode cm_116 85 = .ok (.aload_n 0, 1) := by decide +kernel
theorem dm_116_86 : decode cm_116 86 = .ok (.getfield 13, 3) := by decide +kernel
theorem dm_116_89 : decode cm_116 89 = .ok (.iload_n 1, 1) := by decide +kernel
theorem dm_116_90 : decode cm_116 90 = .ok (.iload 4, 2) := by decide +kernel
theorem dm_116_92 : decode cm_116 92 = .ok (.ifCond .ne 7, 3) := by decide +kernel
theorem dm_116_95 : decode cm_116 95 = .ok (.iconst 3, 1) := by decide +kernel
theorem dm_116_96 : decode cm_116 96 = .ok (.goto 4, 3) := by decide +kernel
theorem dm_116_99 : decode cm_116 99 = .ok (.iconst 2, 1) := by decide +kernel
theorem dm_116_100 : decode cm_116 100 = .ok (.iastore, 1) := by decide +kernel
theorem dm_116_101 : decode cm_116 101 = .ok (.return_, 1) := by decide +kernel
theorem dm_116_102 : decode cm_116 102 = .ok (.aload_n 0, 1) := by decide +kernel
theorem dm_116_103 : decode cm_116 103 = .ok (.getfield 19, 3) := by decide +kernel
theorem dm_116_106 : decode cm_116 106 = .ok (.iload_n 1, 1) := by decide +kernel
theorem dm_116_107 : decode cm_116 107 = .ok (.iload_n 2, 1) := by decide +kernel
theorem dm_116_108 : decode cm_116 108 = .ok (.iconst 1, 1) := by decide +kernel
theorem dm_116_109 : decode cm_116 109 = .ok (.iadd, 1) := by decide +kernel
theorem dm_116_110 : decode cm_116 110 = .ok (.iastore, 1) := by decide +kernel
theorem dm_116_111 : decode cm_116 111 = .ok (.iload 4, 2) := by decide +kernel
theorem dm_116_113 : decode cm_116 113 = .ok (.bipush 14, 2) := by decide +kernel
theorem dm_116_115 : decode cm_116 115 = .ok (.if_icmp .ne 13, 3) := by decide +kernel
theorem dm_116_118 : decode cm_116 118 = .ok (.aload_n 0, 1) := by decide +kernel
theorem dm_116_119 : decode cm_116 119 = .ok (.iload_n 1, 1) := by decide +kernel
theorem dm_116_120 : decode cm_116 120 = .ok (.iload 5, 2) := by decide +kernel
theorem dm_116_122 : decode cm_116 122 = .ok (.invokevirtual 154, 3) := by decide +kernel
theorem dm_116_125 : decode cm_116 125 = .ok (.goto 168, 3) := by decide +kernel
theorem dm_116_128 : decode cm_116 128 = .ok (.iload 4, 2) := by decide +kernel
theorem dm_116_130 : decode cm_116 130 = .ok (.bipush 8, 2) := by decide +kernel
theorem dm_116_132 : decode cm_116 132 = .ok (.if_icmp .ne 28, 3) := by decide +kernel
theorem dm_116_135 : decode cm_116 135 = .ok (.aload_n 0, 1) := by decide +kernel
theorem dm_116_136 : decode cm_116 136 = .ok (.getfield 16, 3) := by decide +kernel
theorem dm_116_139 : decode cm_116 139 = .ok (.iload 6, 2) := by decide +kernel
theorem dm_116_141 : decode cm_116 141 = .ok (.aload_n 0, 1) := by decide +kernel
theorem dm_116_142 : decode cm_116 142 = .ok (.getfield 7, 3) := by decide +kernel
theorem dm_116_145 : decode cm_116 145 = .ok (.aload_n 0, 1) := by decide +kernel
theorem dm_116_146 : decode cm_116 146 = .ok (.getfield 16, 3) := by decide +kernel
theorem dm_116_149 : decode cm_116 149 = .ok (.iload 7, 2) := by decide +kernel
theorem dm_116_151 : decode cm_116 151 = .ok (.iaload, 1) := by decide +kernel
theorem dm_116_152 : decode cm_116 152 = .ok (.iload 5, 2) := by decide +kernel
theorem dm_116_154 : decode cm_116 154 = .ok (.iadd, 1) := by decide +kernel
theorem dm_116_155 : decode cm_116 155 = .ok (.iaload, 1) := by decide +kernel
theorem dm_116_156 : decode cm_116 156 = .ok (.iastore, 1) := by decide +kernel
theorem dm_116_157 : decode cm_116 157 = .ok (.goto 136, 3) := by decide +kernel
theorem dm_116_160 : decode cm_116 160 = .ok (.iload 4, 2) := by decide +kernel
theorem dm_116_162 : decode cm_116 162 = .ok (.bipush 9, 2) := by decide +kernel
theorem dm_116_164 : decode cm_116 164 = .ok (.if_icmp .ne 28, 3) := by decide +kernel
theorem dm_116_167 : decode cm_116 167 = .ok (.aload_n 0, 1) := by decide +kernel
theorem dm_116_168 : decode cm_116 168 = .ok (.getfield 7, 3) := by decide +kernel
theorem dm_116_171 : decode cm_116 171 = .ok (.aload_n 0, 1) := by decide +kernel
theorem dm_116_172 : decode cm_116 172 = .ok (.getfield 16, 3) := by decide +kernel
theorem dm_116_175 : decode cm_116 175 = .ok (.iload 7, 2) := by decide +kernel
theorem dm_116_177 : decode cm_116 177 = .ok (.iaload, 1) := by decide +kernel
theorem dm_116_178 : decode cm_116 178 = .ok (.iload 5, 2) := by decide +kernel
theorem dm_116_180 : decode cm_116 180 = .ok (.iadd, 1) := by decide +kernel
theorem dm_116_181 : decode cm_116 181 = .ok (.aload_n 0, 1) := by decide +kernel
theorem dm_116_182 : decode cm_116 182 = .ok (.getfield 16, 3) := by decide +kernel
theorem dm_116_185 : decode cm_116 185 = .ok (.iload 6, 2) := by decide +kernel
theorem dm_116_187 : decode cm_116 187 = .ok (.iaload, 1) := by decide +kernel
theorem dm_116_188 : decode cm_116 188 = .ok (.iastore, 1) := by decide +kernel
theorem dm_116_189 : decode cm_116 189 = .ok (.goto 104, 3) := by decide +kernel
theorem dm_116_192 : decode cm_116 192 = .ok (.iload 4, 2) := by decide +kernel
theorem dm_116_194 : decode cm_116 194 = .ok (.bipush 13, 2) := by decide +kernel
theorem dm_116_196 : decode cm_116 196 = .ok (.if_icmp .ne 19, 3) := by decide +kernel
theorem dm_116_199 : decode cm_116 199 = .ok (.aload_n 0, 1) := by decide +kernel
theorem dm_116_200 : decode cm_116 200 = .ok (.getfield 19, 3) := by decide +kernel
theorem dm_116_203 : decode cm_116 203 = .ok (.iload_n 1, 1) := by decide +kernel
theorem dm_116_204 : decode cm_116 204 = .ok (.aload_n 0, 1) := by decide +kernel
theorem dm_116_205 : decode cm_116 205 = .ok (.getfield 16, 3) := by decide +kernel
theorem dm_116_208 : decode cm_116 208 = .ok (.iload 6, 2) := by decide +kernel
theorem dm_116_210 : decode cm_116 210 = .ok (.iaload, 1) := by decide +kernel
theorem dm_116_211 : decode cm_116 211 = .ok (.iastore, 1) := by decide +kernel
theorem dm_116_212 : decode cm_116 212 = .ok (.goto 81, 3) := by decide +kernel
theorem dm_116_215 : decode cm_116 215 = .ok (.iload 4, 2) := by decide +kernel
theorem dm_116_217 : decode cm_116 217 = .ok (.bipush 9, 2) := by decide +kernel
theorem dm_116_219 : decode cm_116 219 = .ok (.if_icmp .le 46, 3) := by decide +kernel
theorem dm_116_222 : decode cm_116 222 = .ok (.aload_n 0, 1) := by decide +kernel
theorem dm_116_223 : decode cm_116 223 = .ok (.getfield 19, 3) := by decide +kernel
theorem dm_116_226 : decode cm_116 226 = .ok (.iload_n 1, 1) := by decide +kernel
theorem dm_116_227 : decode cm_116 227 = .ok (.iload 4, 2) := by decide +kernel
theorem dm_116_229 : decode cm_116 229 = .ok (.aload_n 0, 1) := by decide +kernel
theorem dm_116_230 : decode cm_116 230 = .ok (.getfield 16, 3) := by decide +kernel
theorem dm_116_233 : decode cm_116 233 = .ok (.iload 6, 2) := by decide +kernel
theorem dm_116_235 : decode cm_116 235 = .ok (.iaload, 1) := by decide +kernel
theorem dm_116_236 : decode cm_116 236 = .ok (.aload_n 0, 1) := by decide +kernel
theorem dm_116_237 : decode cm_116 237 = .ok (.getfield 16, 3) := by decide +kernel
theorem dm_116_240 : decode cm_116 240 = .ok (.iload 7, 2) := by decide +kernel
theorem dm_116_242 : decode cm_116 242 = .ok (.iaload, 1) := by decide +kernel
theorem dm_116_243 : decode cm_116 243 = .ok (.invokestatic 157, 3) := by decide +kernel
theorem dm_116_246 : decode cm_116 246 = .ok (.ifCond .eq 12, 3) := by decide +kernel
theorem dm_116_249 : decode cm_116 249 = .ok (.iload_n 2, 1) := by decide +kernel
theorem dm_116_250 : decode cm_116 250 = .ok (.iconst 1, 1) := by decide +kernel
theorem dm_116_251 : decode cm_116 251 = .ok (.iadd, 1) := by decide +kernel
theorem dm_116_252 : decode cm_116 252 = .ok (.iload 5, 2) := by decide +kernel
theorem dm_116_254 : decode cm_116 254 = .ok (.iadd, 1) := by decide +kernel
theorem dm_116_255 : decode cm_116 255 = .ok (.goto 6, 3) := by decide +kernel
theorem dm_116_258 : decode cm_116 258 = .ok (.iload_n 2, 1) := by decide +kernel
theorem dm_116_259 : decode cm_116 259 = .ok (.iconst 1, 1) := by decide +kernel
theorem dm_116_260 : decode cm_116 260 = .ok (.iadd, 1) := by decide +kernel
theorem dm_116_261 : decode cm_116 261 = .ok (.iastore, 1) := by decide +kernel
theorem dm_116_262 : decode cm_116 262 = .ok (.goto 31, 3) := by decide +kernel
theorem dm_116_265 : decode cm_116 265 = .ok (.aload_n 0, 1) := by decide +kernel
theorem dm_116_266 : decode cm_116 266 = .ok (.getfield 16, 3) := by decide +kernel
theorem dm_116_269 : decode cm_116 269 = .ok (.iload 6, 2) := by decide +kernel
theorem dm_116_271 : decode cm_116 271 = .ok (.iload 4, 2) := by decide +kernel
theorem dm_116_273 : decode cm_116 273 = .ok (.aload_n 0, 1) := by decide +kernel
theorem dm_116_274 : decode cm_116 274 = .ok (.getfield 16, 3) := by decide +kernel
theorem dm_116_277 : decode cm_116 277 = .ok (.iload 6, 2) := by decide +kernel
theorem dm_116_279 : decode cm_116 279 = .ok (.iaload, 1) := by decide +kernel
theorem dm_116_280 : decode cm_116 280 = .ok (.aload_n 0, 1) := by decide +kernel
theorem dm_116_281 : decode cm_116 281 = .ok (.getfield 16, 3) := by decide +kernel
theorem dm_116_284 : decode cm_116 284 = .ok (.iload 7, 2) := by decide +kernel
theorem dm_116_286 : decode cm_116 286 = .ok (.iaload, 1) := by decide +kernel
theorem dm_116_287 : decode cm_116 287 = .ok (.iload 5, 2) := by decide +kernel
theorem dm_116_289 : decode cm_116 289 = .ok (.invokestatic 160, 3) := by decide +kernel
theorem dm_116_292 : decode cm_116 292 = .ok (.iastore, 1) := by decide +kernel
theorem dm_116_293 : decode cm_116 293 = .ok (.return_, 1) := by decide +kernel
theorem dm_117_0 : decode cm_117 0 = .ok (.iload_n 0, 1) := by decide +kernel
theorem dm_117_1 : decode cm_117 1 = .ok (.bipush 12, 2) := by decide +kernel
theorem dm_117_3 : decode cm_117 3 = .ok (.if_icmp .eq 22, 3) := by decide +kernel
theorem dm_117_6 : decode cm_117 6 = .ok (.iload_n 0, 1) := by decide +kernel
theorem dm_117_7 : decode cm_117 7 = .ok (.bipush 10, 2) := by decide +kernel
theorem dm_117_9 : decode cm_117 9 = .ok (.if_icmp .ne 11, 3) := by decide +kernel
theorem dm_117_12 : decode cm_117 12 = .ok (.iload_n 1, 1) := by decide +kernel
theorem dm_117_13 : decode cm_117 13 = .ok (.iload_n 2, 1) := by decide +kernel
theorem dm_117_14 : decode cm_117 14 = .ok (.if_icmp .ne 15, 3) := by decide +kernel
theorem dm_117_17 : decode cm_117 17 = .ok (.goto 8, 3) := by decide +kernel
theorem dm_117_20 : decode cm_117 20 = .ok (.iload_n 1, 1) := by decide +kernel
theorem dm_117_21 : decode cm_117 21 = .ok (.iload_n 2, 1) := by decide +kernel
theorem dm_117_22 : decode cm_117 22 = .ok (.if_icmp .ge 7, 3) := by decide +kernel
theorem dm_117_25 : decode cm_117 25 = .ok (.iconst 1, 1) := by decide +kernel
theorem dm_117_26 : decode cm_117 26 = .ok (.goto 4, 3) := by decide +kernel
theorem dm_117_29 : decode cm_117 29 = .ok (.iconst 0, 1) := by decide +kernel
theorem dm_117_30 : decode cm_117 30 = .ok (.ireturn, 1) := by decide +kernel
theorem dm_118_0 : decode cm_118 0 = .ok (.iload_n 0, 1) := by decide +kernel
theorem dm_118_1 : decode cm_118 1 = .ok (.tableswitch 61 1 6 #[39, 41, 45, 49, 53, 57], 39) := by decide +kernel
theorem dm_118_40 : decode cm_118 40 = .ok (.iload_n 3, 1) := by decide +kernel
theorem dm_118_41 : decode cm_118 41 = .ok (.ireturn, 1) := by decide +kernel
theorem dm_118_42 : decode cm_118 42 = .ok (.iload_n 2, 1) := by decide +kernel
theorem dm_118_43 : decode cm_118 43 = .ok (.iload_n 3, 1) := by decide +kernel
theorem dm_118_44 : decode cm_118 44 = .ok (.iadd, 1) := by decide +kernel
theorem dm_118_45 : decode cm_118 45 = .ok (.ireturn, 1) := by decide +kernel
theorem dm_118_46 : decode cm_118 46 = .ok (.iload_n 1, 1) := by decide +kernel
theorem dm_118_47 : decode cm_118 47 = .ok (.iload_n 2, 1) := by decide +kernel
theorem dm_118_48 : decode cm_118 48 = .ok (.iadd, 1) := by decide +kernel
theorem dm_118_49 : decode cm_118 49 = .ok (.ireturn, 1) := by decide +kernel
theorem dm_118_50 : decode cm_118 50 = .ok (.iload_n 1, 1) := by decide +kernel
theorem dm_118_51 : decode cm_118 51 = .ok (.iload_n 2, 1) := by decide +kernel
theorem dm_118_52 : decode cm_118 52 = .ok (.isub, 1) := by decide +kernel
theorem dm_118_53 : decode cm_118 53 = .ok (.ireturn, 1) := by decide +kernel
theorem dm_118_54 : decode cm_118 54 = .ok (.iload_n 1, 1) := by decide +kernel
theorem dm_118_55 : decode cm_118 55 = .ok (.iload_n 2, 1) := by decide +kernel
theorem dm_118_56 : decode cm_118 56 = .ok (.ixor, 1) := by decide +kernel
theorem dm_118_57 : decode cm_118 57 = .ok (.ireturn, 1) := by decide +kernel
theorem dm_118_58 : decode cm_118 58 = .ok (.iload_n 2, 1) := by decide +kernel
theorem dm_118_59 : decode cm_118 59 = .ok (.iload_n 3, 1) := by decide +kernel
theorem dm_118_60 : decode cm_118 60 = .ok (.iand, 1) := by decide +kernel
theorem dm_118_61 : decode cm_118 61 = .ok (.ireturn, 1) := by decide +kernel
theorem dm_118_62 : decode cm_118 62 = .ok (.iload_n 2, 1) := by decide +kernel
theorem dm_118_63 : decode cm_118 63 = .ok (.iload_n 3, 1) := by decide +kernel
theorem dm_118_64 : decode cm_118 64 = .ok (.ior, 1) := by decide +kernel
theorem dm_118_65 : decode cm_118 65 = .ok (.ireturn, 1) := by decide +kernel
theorem dm_119_0 : decode cm_119 0 = .ok (.aload_n 0, 1) := by decide +kernel
theorem dm_119_1 : decode cm_119 1 = .ok (.aload_n 0, 1) := by decide +kernel
theorem dm_119_2 : decode cm_119 2 = .ok (.getfield 138, 3) := by decide +kernel
theorem dm_119_5 : decode cm_119 5 = .ok (.iconst 2, 1) := by decide +kernel
theorem dm_119_6 : decode cm_119 6 = .ok (.if_icmp .ne 7, 3) := by decide +kernel
theorem dm_119_9 : decode cm_119 9 = .ok (.iconst 0, 1) := by decide +kernel
theorem dm_119_10 : decode cm_119 10 = .ok (.goto 9, 3) := by decide +kernel
theorem dm_119_13 : decode cm_119 13 = .ok (.aload_n 0, 1) := by decide +kernel
theorem dm_119_14 : decode cm_119 14 = .ok (.getfield 138, 3) := by decide +kernel
theorem dm_119_17 : decode cm_119 17 = .ok (.iconst 1, 1) := by decide +kernel
theorem dm_119_18 : decode cm_119 18 = .ok (.iadd, 1) := by decide +kernel
theorem dm_119_19 : decode cm_119 19 = .ok (.putfield 138, 3) := by decide +kernel
theorem dm_119_22 : decode cm_119 22 = .ok (.aload_n 0, 1) := by decide +kernel
theorem dm_119_23 : decode cm_119 23 = .ok (.iconst 0, 1) := by decide +kernel
theorem dm_119_24 : decode cm_119 24 = .ok (.putfield 141, 3) := by decide +kernel
theorem dm_119_27 : decode cm_119 27 = .ok (.return_, 1) := by decide +kernel
theorem dm_120_0 : decode cm_120 0 = .ok (.iload_n 1, 1) := by decide +kernel
theorem dm_120_1 : decode cm_120 1 = .ok (.iconst 0, 1) := by decide +kernel
theorem dm_120_2 : decode cm_120 2 = .ok (.sipush 500, 3) := by decide +kernel
theorem dm_120_5 : decode cm_120 5 = .ok (.invokestatic 83, 3) := by decide +kernel
theorem dm_120_8 : decode cm_120 8 = .ok (.ifCond .ne 5, 3) := by decide +kernel
theorem dm_120_11 : decode cm_120 11 = .ok (.iconst (-1), 1) := by decide +kernel
theorem dm_120_12 : decode cm_120 12 = .ok (.ireturn, 1) := by decide +kernel
theorem dm_120_13 : decode cm_120 13 = .ok (.iconst 0, 1) := by decide +kernel
theorem dm_120_14 : decode cm_120 14 = .ok (.istore_n 2, 1) := by decide +kernel
theorem dm_120_15 : decode cm_120 15 = .ok (.iload_n 2, 1) := by decide +kernel
theorem dm_120_16 : decode cm_120 16 = .ok (.iload_n 1, 1) := by decide +kernel
theorem dm_120_17 : decode cm_120 17 = .ok (.if_icmp .ge 112, 3) := by decide +kernel
theorem dm_120_20 : decode cm_120 20 = .ok (.aload_n 0, 1) := by decide +kernel
theorem dm_120_21 : decode cm_120 21 = .ok (.getfield 13, 3) := by decide +kernel
theorem dm_120_24 : decode cm_120 24 = .ok (.iconst 0, 1) := by decide +kernel
theorem dm_120_25 : decode cm_120 25 = .ok (.iaload, 1) := by decide +kernel
theorem dm_120_26 : decode cm_120 26 = .ok (.iconst 1, 1) := by decide +kernel
theorem dm_120_27 : decode cm_120 27 = .ok (.if_icmp .eq 23, 3) := by decide +kernel
theorem dm_120_30 : decode cm_120 30 = .ok (.aload_n 0, 1) := by decide +kernel
theorem dm_120_31 : decode cm_120 31 = .ok (.getfield 13, 3) := by decide +kernel
theorem dm_120_34 : decode cm_120 34 = .ok (.iconst 1, 1) := by decide +kernel
theorem dm_120_35 : decode cm_120 35 = .ok (.iaload, 1) := by decide +kernel
theorem dm_120_36 : decode cm_120 36 = .ok (.iconst 1, 1) := by decide +kernel
theorem dm_120_37 : decode cm_120 37 = .ok (.if_icmp .eq 13, 3) := by decide +kernel
theorem dm_120_40 : decode cm_120 40 = .ok (.aload_n 0, 1) := by decide +kernel
theorem dm_120_41 : decode cm_120 41 = .ok (.getfield 13, 3) := by decide +kernel
theorem dm_120_44 : decode cm_120 44 = .ok (.iconst 2, 1) := by decide +kernel
theorem dm_120_45 : decode cm_120 45 = .ok (.iaload, 1) := by decide +kernel
theorem dm_120_46 : decode cm_120 46 = .ok (.iconst 1, 1) := by decide +kernel
theorem dm_120_47 : decode cm_120 47 = .ok (.if_icmp .ne 82, 3) := by decide +kernel
theorem dm_120_50 : decode cm_120 50 = .ok (.iconst 0, 1) := by decide +kernel
theorem dm_120_51 : decode cm_120 51 = .ok (.istore_n 3, 1) := by decide +kernel
theorem dm_120_52 : decode cm_120 52 = .ok (.iload_n 3, 1) := by decide +kernel
theorem dm_120_53 : decode cm_120 53 = .ok (.iconst 2, 1) := by decide +kernel
theorem dm_120_54 : decode cm_120 54 = .ok (.if_icmp .ge 26, 3) := by decide +kernel
theorem dm_120_57 : decode cm_120 57 = .ok (.aload_n 0, 1) := by decide +kernel
theorem dm_120_58 : decode cm_120 58 = .ok (.getfield 13, 3) := by decide +kernel
theorem dm_120_61 : decode cm_120 61 = .ok (.aload_n 0, 1) := by decide +kernel
theorem dm_120_62 : decode cm_120 62 = .ok (.getfield 138, 3) := by decide +kernel
theorem dm_120_65 : decode cm_120 65 = .ok (.iaload, 1) := by decide +kernel
theorem dm_120_66 : decode cm_120 66 = .ok (.iconst 1, 1) := by decide +kernel
theorem dm_120_67 : decode cm_120 67 = .ok (.if_icmp .eq 13, 3) := by decide +kernel
theorem dm_120_70 : decode cm_120 70 = .ok (.aload_n 0, 1) := by decide +kernel
theorem dm_120_71 : decode cm_120 71 = .ok (.invokevirtual 163, 3) := by decide +kernel
theorem dm_120_74 : decode cm_120 74 = .ok (.iinc 3 1, 3) := by decide +kernel
theorem dm_120_77 : decode cm_120 77 = .ok (.goto (-25), 3) := by decide +kernel
theorem dm_120_80 : decode cm_120 80 = .ok (.aload_n 0, 1) := by decide +kernel
theorem dm_120_81 : decode cm_120 81 = .ok (.aload_n 0, 1) := by decide +kernel
theorem dm_120_82 : decode cm_120 82 = .ok (.getfield 138, 3) := by decide +kernel
theorem dm_120_85 : decode cm_120 85 = .ok (.invokevirtual 166, 3) := by decide +kernel
theorem dm_120_88 : decode cm_120 88 = .ok (.iinc 2 1, 3) := by decide +kernel
theorem dm_120_91 : decode cm_120 91 = .ok (.aload_n 0, 1) := by decide +kernel
theorem dm_120_92 : decode cm_120 92 = .ok (.dup, 1) := by decide +kernel
theorem dm_120_93 : decode cm_120 93 = .ok (.getfield 141, 3) := by decide +kernel
theorem dm_120_96 : decode cm_120 96 = .ok (.iconst 1, 1) := by decide +kernel
theorem dm_120_97 : decode cm_120 97 = .ok (.iadd, 1) := by decide +kernel
theorem dm_120_98 : decode cm_120 98 = .ok (.putfield 141, 3) := by decide +kernel
theorem dm_120_101 : decode cm_120 101 = .ok (.aload_n 0, 1) := by decide +kernel
theorem dm_120_102 : decode cm_120 102 = .ok (.getfield 141, 3) := by decide +kernel
theorem dm_120_105 : decode cm_120 105 = .ok (.iconst 3, 1) := by decide +kernel
theorem dm_120_106 : decode cm_120 106 = .ok (.if_icmp .eq 16, 3) := by decide +kernel
theorem dm_120_109 : decode cm_120 109 = .ok (.aload_n 0, 1) := by decide +kernel
theorem dm_120_110 : decode cm_120 110 = .ok (.getfield 13, 3) := by decide +kernel
theorem dm_120_113 : decode cm_120 113 = .ok (.aload_n 0, 1) := by decide +kernel
theorem dm_120_114 : decode cm_120 114 = .ok (.getfield 138, 3) := by decide +kernel
theorem dm_120_117 : decode cm_120 117 = .ok (.iaload, 1) := by decide +kernel
theorem dm_120_118 : decode cm_120 118 = .ok (.iconst 1, 1) := by decide +kernel
theorem dm_120_119 : decode cm_120 119 = .ok (.if_icmp .eq (-104), 3) := by decide +kernel
theorem dm_120_122 : decode cm_120 122 = .ok (.aload_n 0, 1) := by decide +kernel
theorem dm_120_123 : decode cm_120 123 = .ok (.invokevirtual 163, 3) := by decide +kernel
theorem dm_120_126 : decode cm_120 126 = .ok (.goto (-111), 3) := by decide +kernel
theorem dm_120_129 : decode cm_120 129 = .ok (.iload_n 2, 1) := by decide +kernel
theorem dm_120_130 : decode cm_120 130 = .ok (.ireturn, 1) := by decide +kernel
theorem dm_121_0 : decode cm_121 0 = .ok (.iconst 0, 1) := by decide +kernel
theorem dm_121_1 : decode cm_121 1 = .ok (.istore_n 3, 1) := by decide +kernel
theorem dm_121_2 : decode cm_121 2 = .ok (.iload_n 1, 1) := by decide +kernel
theorem dm_121_3 : decode cm_121 3 = .ok (.istore 4, 2) := by decide +kernel
theorem dm_121_5 : decode cm_121 5 = .ok (.iload 4, 2) := by decide +kernel
theorem dm_121_7 : decode cm_121 7 = .ok (.iload_n 2, 1) := by decide +kernel
theorem dm_121_8 : decode cm_121 8 = .ok (.if_icmp .ge 29, 3) := by decide +kernel
theorem dm_121_11 : decode cm_121 11 = .ok (.iload_n 3, 1) := by decide +kernel
theorem dm_121_12 : decode cm_121 12 = .ok (.ifCond .ne 13, 3) := by decide +kernel
theorem dm_121_15 : decode cm_121 15 = .ok (.aload_n 0, 1) := by decide +kernel
theorem dm_121_16 : decode cm_121 16 = .ok (.getfield 77, 3) := by decide +kernel
theorem dm_121_19 : decode cm_121 19 = .ok (.iload 4, 2) := by decide +kernel
theorem dm_121_21 : decode cm_121 21 = .ok (.baload, 1) := by decide +kernel
theorem dm_121_22 : decode cm_121 22 = .ok (.ifCond .eq 7, 3) := by decide +kernel
theorem dm_121_25 : decode cm_121 25 = .ok (.iconst 1, 1) := by decide +kernel
theorem dm_121_26 : decode cm_121 26 = .ok (.goto 4, 3) := by decide +kernel
theorem dm_121_29 : decode cm_121 29 = .ok (.iconst 0, 1) := by decide +kernel
theorem dm_121_30 : decode cm_121 30 = .ok (.istore_n 3, 1) := by decide +kernel
theorem dm_121_31 : decode cm_121 31 = .ok (.iinc 4 1, 3) := by decide +kernel
theorem dm_121_34 : decode cm_121 34 = .ok (.goto (-29), 3) := by decide +kernel
theorem dm_121_37 : decode cm_121 37 = .ok (.iload_n 3, 1) := by decide +kernel
theorem dm_121_38 : decode cm_121 38 = .ok (.ireturn, 1) := by decide +kernel
theorem dm_122_0 : decode cm_122 0 = .ok (.aload_n 0, 1) := by decide +kernel
theorem dm_122_1 : decode cm_122 1 = .ok (.getfield 74, 3) := by decide +kernel
theorem dm_122_4 : decode cm_122 4 = .ok (.iload_n 1, 1) := by decide +kernel
theorem dm_122_5 : decode cm_122 5 = .ok (.iload_n 2, 1) := by decide +kernel
theorem dm_122_6 : decode cm_122 6 = .ok (.iastore, 1) := by decide +kernel
theorem dm_122_7 : decode cm_122 7 = .ok (.aload_n 0, 1) := by decide +kernel
theorem dm_122_8 : decode cm_122 8 = .ok (.getfield 77, 3) := by decide +kernel
theorem dm_122_11 : decode cm_122 11 = .ok (.iload_n 1, 1) := by decide +kernel
theorem dm_122_12 : decode cm_122 12 = .ok (.iload_n 3, 1) := by decide +kernel
theorem dm_122_13 : decode cm_122 13 = .ok (.bastore, 1) := by decide +kernel
theorem dm_122_14 : decode cm_122 14 = .ok (.return_, 1) := by decide +kernel
theorem dm_123_0 : decode cm_123 0 = .ok (.iload_n 2, 1) := by decide +kernel
theorem dm_123_1 : decode cm_123 1 = .ok (.iconst 0, 1) := by decide +kernel
theorem dm_123_2 : decode cm_123 2 = .ok (.sipush 300, 3) := by decide +kernel
theorem dm_123_5 : decode cm_123 5 = .ok (.invokestatic 83, 3) := by decide +kernel
theorem dm_123_8 : decode cm_123 8 = .ok (.ifCond .eq 19, 3) := by decide +kernel
theorem dm_123_11 : decode cm_123 11 = .ok (.iload_n 1, 1) := by decide +kernel
theorem dm_123_12 : decode cm_123 12 = .ok (.iconst 0, 1) := by decide +kernel
theorem dm_123_13 : decode cm_123 13 = .ok (.iconst 2, 1) := by decide +kernel
theorem dm_123_14 : decode cm_123 14 = .ok (.invokestatic 83, 3) := by decide +kernel
theorem dm_123_17 : decode cm_123 17 = .ok (.ifCond .eq 10, 3) := by decide +kernel
theorem dm_123_20 : decode cm_123 20 = .ok (.aload_n 0, 1) := by decide +kernel
theorem dm_123_21 : decode cm_123 21 = .ok (.invokevirtual 104, 3) := by decide +kernel
theorem dm_123_24 : decode cm_123 24 = .ok (.ifCond .ne 5, 3) := by decide +kernel
theorem dm_123_27 : decode cm_123 27 = .ok (.iconst (-1), 1) := by decide +kernel
theorem dm_123_28 : decode cm_123 28 = .ok (.ireturn, 1) := by decide +kernel
theorem dm_123_29 : decode cm_123 29 = .ok (.iconst 0, 1) := by decide +kernel
theorem dm_123_30 : decode cm_123 30 = .ok (.istore_n 3, 1) := by decide +kernel
theorem dm_123_31 : decode cm_123 31 = .ok (.iload_n 3, 1) := by decide +kernel
theorem dm_123_32 : decode cm_123 32 = .ok (.bipush 24, 2) := by decide +kernel
theorem dm_123_34 : decode cm_123 34 = .ok (.if_icmp .ge 16, 3) := by decide +kernel
theorem dm_123_37 : decode cm_123 37 = .ok (.aload_n 0, 1) := by decide +kernel
theorem dm_123_38 : decode cm_123 38 = .ok (.iload_n 3, 1) := by decide +kernel
theorem dm_123_39 : decode cm_123 39 = .ok (.iconst 0, 1) := by decide +kernel
theorem dm_123_40 : decode cm_123 40 = .ok (.iconst 0, 1) := by decide +kernel
theorem dm_123_41 : decode cm_123 41 = .ok (.invokevirtual 169, 3) := by decide +kernel
theorem dm_123_44 : decode cm_123 44 = .ok (.iinc 3 1, 3) := by decide +kernel
theorem dm_123_47 : decode cm_123 47 = .ok (.goto (-16), 3) := by decide +kernel
theorem dm_123_50 : decode cm_123 50 = .ok (.aload_n 0, 1) := by decide +kernel
theorem dm_123_51 : decode cm_123 51 = .ok (.iconst 0, 1) := by decide +kernel
theorem dm_123_52 : decode cm_123 52 = .ok (.putfield 173, 3) := by decide +kernel
theorem dm_123_55 : decode cm_123 55 = .ok (.aload_n 0, 1) := by decide +kernel
theorem dm_123_56 : decode cm_123 56 = .ok (.iconst 0, 1) := by decide +kernel
theorem dm_123_57 : decode cm_123 57 = .ok (.putfield 176, 3) := by decide +kernel
theorem dm_123_60 : decode cm_123 60 = .ok (.aload_n 0, 1) := by decide +kernel
theorem dm_123_61 : decode cm_123 61 = .ok (.iconst 0, 1) := by decide +kernel
theorem dm_123_62 : decode cm_123 62 = .ok (.putfield 179, 3) := by decide +kernel
theorem dm_123_65 : decode cm_123 65 = .ok (.aload_n 0, 1) := by decide +kernel
theorem dm_123_66 : decode cm_123 66 = .ok (.iconst 0, 1) := by decide +kernel
theorem dm_123_67 : decode cm_123 67 = .ok (.putfield 182, 3) := by decide +kernel
theorem dm_123_70 : decode cm_123 70 = .ok (.iconst 0, 1) := by decide +kernel
theorem dm_123_71 : decode cm_123 71 = .ok (.istore_n 3, 1) := by decide +kernel
theorem dm_123_72 : decode cm_123 72 = .ok (.iconst 0, 1) := by decide +kernel
theorem dm_123_73 : decode cm_123 73 = .ok (.istore 4, 2) := by decide +kernel
theorem dm_123_75 : decode cm_123 75 = .ok (.iload 4, 2) := by decide +kernel
theorem dm_123_77 : decode cm_123 77 = .ok (.iload_n 2, 1) := by decide +kernel
theorem dm_123_78 : decode cm_123 78 = .ok (.if_icmp .ge 19, 3) := by decide +kernel
theorem dm_123_81 : decode cm_123 81 = .ok (.iload_n 3, 1) := by decide +kernel
theorem dm_123_82 : decode cm_123 82 = .ok (.ifCond .ne 15, 3) := by decide +kernel
theorem dm_123_85 : decode cm_123 85 = .ok (.aload_n 0, 1) := by decide +kernel
theorem dm_123_86 : decode cm_123 86 = .ok (.iload_n 1, 1) := by decide +kernel
theorem dm_123_87 : decode cm_123 87 = .ok (.invokevirtual 185, 3) := by decide +kernel
theorem dm_123_90 : decode cm_123 90 = .ok (.istore_n 3, 1) := by decide +kernel
theorem dm_123_91 : decode cm_123 91 = .ok (.iinc 4 1, 3) := by decide +kernel
theorem dm_123_94 : decode cm_123 94 = .ok (.goto (-19), 3) := by decide +kernel
theorem dm_123_97 : decode cm_123 97 = .ok (.iload_n 3, 1) := by decide +kernel
theorem dm_123_98 : decode cm_123 98 = .ok (.ireturn, 1) := by decide +kernel
theorem dm_124_0 : decode cm_124 0 = .ok (.aload_n 0, 1) := by decide +kernel
theorem dm_124_1 : decode cm_124 1 = .ok (.getfield 173, 3) := by decide +kernel
theorem dm_124_4 : decode cm_124 4 = .ok (.aload_n 0, 1) := by decide +kernel
theorem dm_124_5 : decode cm_124 5 = .ok (.getfield 89, 3) := by decide +kernel
theorem dm_124_8 : decode cm_124 8 = .ok (.if_icmp .ge 15, 3) := by decide +kernel
theorem dm_124_11 : decode cm_124 11 = .ok (.aload_n 0, 1) := by decide +kernel
theorem dm_124_12 : decode cm_124 12 = .ok (.getfield 52, 3) := by decide +kernel
theorem dm_124_15 : decode cm_124 15 = .ok (.aload_n 0, 1) := by decide +kernel
theorem dm_124_16 : decode cm_124 16 = .ok (.getfield 173, 3) := by decide +kernel
theorem dm_124_19 : decode cm_124 19 = .ok (.iaload, 1) := by decide +kernel
theorem dm_124_20 : decode cm_124 20 = .ok (.ifCond .ne 5, 3) := by decide +kernel
theorem dm_124_23 : decode cm_124 23 = .ok (.iconst 2, 1) := by decide +kernel
theorem dm_124_24 : decode cm_124 24 = .ok (.ireturn, 1) := by decide +kernel
theorem dm_124_25 : decode cm_124 25 = .ok (.aload_n 0, 1) := by decide +kernel
theorem dm_124_26 : decode cm_124 26 = .ok (.getfield 52, 3) := by decide +kernel
theorem dm_124_29 : decode cm_124 29 = .ok (.aload_n 0, 1) := by decide +kernel
theorem dm_124_30 : decode cm_124 30 = .ok (.getfield 173, 3) := by decide +kernel
theorem dm_124_33 : decode cm_124 33 = .ok (.iaload, 1) := by decide +kernel
theorem dm_124_34 : decode cm_124 34 = .ok (.istore_n 2, 1) := by decide +kernel
theorem dm_124_35 : decode cm_124 35 = .ok (.aload_n 0, 1) := by decide +kernel
theorem dm_124_36 : decode cm_124 36 = .ok (.getfield 55, 3) := by decide +kernel
theorem dm_124_39 : decode cm_124 39 = .ok (.aload_n 0, 1) := by decide +kernel
theorem dm_124_40 : decode cm_124 40 = .ok (.getfield 173, 3) := by decide +kernel
theorem dm_124_43 : decode cm_124 43 = .ok (.iaload, 1) := by decide +kernel
theorem dm_124_44 : decode cm_124 44 = .ok (.istore_n 3, 1) := by decide +kernel
theorem dm_124_45 : decode cm_124 45 = .ok (.aload_n 0, 1) := by decide +kernel
theorem dm_124_46 : decode cm_124 46 = .ok (.getfield 58, 3) := by decide +kernel
theorem dm_124_49 : decode cm_124 49 = .ok (.aload_n 0, 1) := by decide +kernel
theorem dm_124_50 : decode cm_124 50 = .ok (.getfield 173, 3) := by decide +kernel
theorem dm_124_53 : decode cm_124 53 = .ok (.iaload, 1) := by decide +kernel
theorem dm_124_54 : decode cm_124 54 = .ok (.istore 4, 2) := by decide +kernel
theorem dm_124_56 : decode cm_124 56 = .ok (.aload_n 0, 1) := by decide +kernel
theorem dm_124_57 : decode cm_124 57 = .ok (.getfield 61, 3) := by decide +kernel
theorem dm_124_60 : decode cm_124 60 = .ok (.aload_n 0, 1) := by decide +kernel
theorem dm_124_61 : decode cm_124 61 = .ok (.getfield 173, 3) := by decide +kernel
theorem dm_124_64 : decode cm_124 64 = .ok (.iaload, 1) := by decide +kernel
theorem dm_124_65 : decode cm_124 65 = .ok (.istore 5, 2) := by decide +kernel
theorem dm_124_67 : decode cm_124 67 = .ok (.iload_n 2, 1) := by decide +kernel
theorem dm_124_68 : decode cm_124 68 = .ok (.iconst 2, 1) := by decide +kernel
theorem dm_124_69 : decode cm_124 69 = .ok (.if_icmp .ne 26, 3) := by decide +kernel
theorem dm_124_72 : decode cm_124 72 = .ok (.aload_n 0, 1) := by decide +kernel
theorem dm_124_73 : decode cm_124 73 = .ok (.getfield 77, 3) := by decide +kernel
theorem dm_124_76 : decode cm_124 76 = .ok (.iload 4, 2) := by decide +kernel
theorem dm_124_78 : decode cm_124 78 = .ok (.baload, 1) := by decide +kernel
theorem dm_124_79 : decode cm_124 79 = .ok (.ifCond .eq 12, 3) := by decide +kernel
theorem dm_124_82 : decode cm_124 82 = .ok (.iload 5, 2) := by decide +kernel
theorem dm_124_84 : decode cm_124 84 = .ok (.ifCond .eq 7, 3) := by decide +kernel
theorem dm_124_87 : decode cm_124 87 = .ok (.iconst 1, 1) := by decide +kernel
theorem dm_124_88 : decode cm_124 88 = .ok (.goto 81, 3) := by decide +kernel
theorem dm_124_91 : decode cm_124 91 = .ok (.iconst 0, 1) := by decide +kernel
theorem dm_124_92 : decode cm_124 92 = .ok (.goto 77, 3) := by decide +kernel
theorem dm_124_95 : decode cm_124 95 = .ok (.iload_n 2, 1) := by decide +kernel
theorem dm_124_96 : decode cm_124 96 = .ok (.iconst 3, 1) := by decide +kernel
theorem dm_124_97 : decode cm_124 97 = .ok (.iconst 5, 1) := by decide +kernel
theorem dm_124_98 : decode cm_124 98 = .ok (.invokestatic 83, 3) := by decide +kernel
theorem dm_124_101 : decode cm_124 101 = .ok (.ifCond .ne 15, 3) := by decide +kernel
theorem dm_124_104 : decode cm_124 104 = .ok (.iload_n 2, 1) := by decide +kernel
theorem dm_124_105 : decode cm_124 105 = .ok (.bipush 10, 2) := by decide +kernel
theorem dm_124_107 : decode cm_124 107 = .ok (.if_icmp .eq 9, 3) := by decide +kernel
theorem dm_124_110 : decode cm_124 110 = .ok (.iload_n 2, 1) := by decide +kernel
theorem dm_124_111 : decode cm_124 111 = .ok (.bipush 11, 2) := by decide +kernel
theorem dm_124_113 : decode cm_124 113 = .ok (.if_icmp .ne 30, 3) := by decide +kernel
theorem dm_124_116 : decode cm_124 116 = .ok (.aload_n 0, 1) := by decide +kernel
theorem dm_124_117 : decode cm_124 117 = .ok (.getfield 77, 3) := by decide +kernel
theorem dm_124_120 : decode cm_124 120 = .ok (.iload_n 3, 1) := by decide +kernel
theorem dm_124_121 : decode cm_124 121 = .ok (.baload, 1) := by decide +kernel
theorem dm_124_122 : decode cm_124 122 = .ok (.ifCond .ne 13, 3) := by decide +kernel
theorem dm_124_125 : decode cm_124 125 = .ok (.aload_n 0, 1) := by decide +kernel
theorem dm_124_126 : decode cm_124 126 = .ok (.getfield 77, 3) := by decide +kernel
theorem dm_124_129 : decode cm_124 129 = .ok (.iload 4, 2) := by decide +kernel
theorem dm_124_131 : decode cm_124 131 = .ok (.baload, 1) := by decide +kernel
theorem dm_124_132 : decode cm_124 132 = .ok (.ifCond .eq 7, 3) := by decide +kernel
theorem dm_124_135 : decode cm_124 135 = .ok (.iconst 1, 1) := by decide +kernel
theorem dm_124_136 : decode cm_124 136 = .ok (.goto 33, 3) := by decide +kernel
theorem dm_124_139 : decode cm_124 139 = .ok (.iconst 0, 1) := by decide +kernel
theorem dm_124_140 : decode cm_124 140 = .ok (.goto 29, 3) := by decide +kernel
theorem dm_124_143 : decode cm_124 143 = .ok (.iload_n 2, 1) := by decide +kernel
theorem dm_124_144 : decode cm_124 144 = .ok (.bipush 6, 2) := by decide +kernel
theorem dm_124_146 : decode cm_124 146 = .ok (.bipush 9, 2) := by decide +kernel
theorem dm_124_148 : decode cm_124 148 = .ok (.invokestatic 83, 3) := by decide +kernel
theorem dm_124_151 : decode cm_124 151 = .ok (.ifCond .eq 17, 3) := by decide +kernel
theorem dm_124_154 : decode cm_124 154 = .ok (.aload_n 0, 1) := by decide +kernel
theorem dm_124_155 : decode cm_124 155 = .ok (.getfield 77, 3) := by decide +kernel
theorem dm_124_158 : decode cm_124 158 = .ok (.iload 4, 2) := by decide +kernel
theorem dm_124_160 : decode cm_124 160 = .ok (.baload, 1) := by decide +kernel
theorem dm_124_161 : decode cm_124 161 = .ok (.ifCond .eq 7, 3) := by decide +kernel
theorem dm_124_164 : decode cm_124 164 = .ok (.iconst 1, 1) := by decide +kernel
theorem dm_124_165 : decode cm_124 165 = .ok (.goto 4, 3) := by decide +kernel
theorem dm_124_168 : decode cm_124 168 = .ok (.iconst 0, 1) := by decide +kernel
theorem dm_124_169 : decode cm_124 169 = .ok (.istore 6, 2) := by decide +kernel
theorem dm_124_171 : decode cm_124 171 = .ok (.iload 6, 2) := by decide +kernel
theorem dm_124_173 : decode cm_124 173 = .ok (.ifCond .eq 5, 3) := by decide +kernel
theorem dm_124_176 : decode cm_124 176 = .ok (.iconst 3, 1) := by decide +kernel
theorem dm_124_177 : decode cm_124 177 = .ok (.ireturn, 1) := by decide +kernel
theorem dm_124_178 : decode cm_124 178 = .ok (.iload_n 2, 1) := by decide +kernel
theorem dm_124_179 : decode cm_124 179 = .ok (.bipush 13, 2) := by decide +kernel
theorem dm_124_181 : decode cm_124 181 = .ok (.if_icmp .ne 31, 3) := by decide +kernel
theorem dm_124_184 : decode cm_124 184 = .ok (.aload_n 0, 1) := by decide +kernel
theorem dm_124_185 : decode cm_124 185 = .ok (.getfield 77, 3) := by decide +kernel
theorem dm_124_188 : decode cm_124 188 = .ok (.iload_n 3, 1) := by decide +kernel
theorem dm_124_189 : decode cm_124 189 = .ok (.baload, 1) := by decide +kernel
theorem dm_124_190 : decode cm_124 190 = .ok (.ifCond .ne 5, 3) := by decide +kernel
theorem dm_124_193 : decode cm_124 193 = .ok (.iconst 4, 1) := by decide +kernel
theorem dm_124_194 : decode cm_124 194 = .ok (.ireturn, 1) := by decide +kernel
theorem dm_124_195 : decode cm_124 195 = .ok (.aload_n 0, 1) := by decide +kernel
theorem dm_124_196 : decode cm_124 196 = .ok (.aload_n 0, 1) := by decide +kernel
theorem dm_124_197 : decode cm_124 197 = .ok (.getfield 68, 3) := by decide +kernel
theorem dm_124_200 : decode cm_124 200 = .ok (.aload_n 0, 1) := by decide +kernel
theorem dm_124_201 : decode cm_124 201 = .ok (.getfield 74, 3) := by decide +kernel
theorem dm_124_204 : decode cm_124 204 = .ok (.iload_n 3, 1) := by decide +kernel
theorem dm_124_205 : decode cm_124 205 = .ok (.iaload, 1) := by decide +kernel
theorem dm_124_206 : decode cm_124 206 = .ok (.iaload, 1) := by decide +kernel
theorem dm_124_207 : decode cm_124 207 = .ok (.putfield 173, 3) := by decide +kernel
theorem dm_124_210 : decode cm_124 210 = .ok (.iconst 0, 1) := by decide +kernel
theorem dm_124_211 : decode cm_124 211 = .ok (.ireturn, 1) := by decide +kernel
theorem dm_124_212 : decode cm_124 212 = .ok (.iload_n 2, 1) := by decide +kernel
theorem dm_124_213 : decode cm_124 213 = .ok (.bipush 14, 2) := by decide +kernel
theorem dm_124_215 : decode cm_124 215 = .ok (.if_icmp .ne 11, 3) := by decide +kernel
theorem dm_124_218 : decode cm_124 218 = .ok (.aload_n 0, 1) := by decide +kernel
theorem dm_124_219 : decode cm_124 219 = .ok (.iload_n 1, 1) := by decide +kernel
theorem dm_124_220 : decode cm_124 220 = .ok (.iload 5, 2) := by decide +kernel
theorem dm_124_222 : decode cm_124 222 = .ok (.invokevirtual 188, 3) := by decide +kernel
theorem dm_124_225 : decode cm_124 225 = .ok (.ireturn, 1) := by decide +kernel
theorem dm_124_226 : decode cm_124 226 = .ok (.iload_n 2, 1) := by decide +kernel
theorem dm_124_227 : decode cm_124 227 = .ok (.bipush 8, 2) := by decide +kernel
theorem dm_124_229 : decode cm_124 229 = .ok (.if_icmp .eq 9, 3) := by decide +kernel
theorem dm_124_232 : decode cm_124 232 = .ok (.iload_n 2, 1) := by decide +kernel
theorem dm_124_233 : decode cm_124 233 = .ok (.bipush 9, 2) := by decide +kernel
theorem dm_124_235 : decode cm_124 235 = .ok (.if_icmp .ne 86, 3) := by decide +kernel
theorem dm_124_238 : decode cm_124 238 = .ok (.aload_n 0, 1) := by decide +kernel
theorem dm_124_239 : decode cm_124 239 = .ok (.getfield 74, 3) := by decide +kernel
theorem dm_124_242 : decode cm_124 242 = .ok (.iload 4, 2) := by decide +kernel
theorem dm_124_244 : decode cm_124 244 = .ok (.iaload, 1) := by decide +kernel
theorem dm_124_245 : decode cm_124 245 = .ok (.iload 5, 2) := by decide +kernel
theorem dm_124_247 : decode cm_124 247 = .ok (.iadd, 1) := by decide +kernel
theorem dm_124_248 : decode cm_124 248 = .ok (.istore 7, 2) := by decide +kernel
theorem dm_124_250 : decode cm_124 250 = .ok (.iload 7, 2) := by decide +kernel
theorem dm_124_252 : decode cm_124 252 = .ok (.iconst 0, 1) := by decide +kernel
theorem dm_124_253 : decode cm_124 253 = .ok (.bipush 15, 2) := by decide +kernel
theorem dm_124_255 : decode cm_124 255 = .ok (.invokestatic 83, 3) := by decide +kernel
theorem dm_124_258 : decode cm_124 258 = .ok (.ifCond .ne 5, 3) := by decide +kernel
theorem dm_124_261 : decode cm_124 261 = .ok (.iconst 5, 1) := by decide +kernel
theorem dm_124_262 : decode cm_124 262 = .ok (.ireturn, 1) := by decide +kernel
theorem dm_124_263 : decode cm_124 263 = .ok (.iload_n 2, 1) := by decide +kernel
theorem dm_124_264 : decode cm_124 264 = .ok (.bipush 8, 2) := by decide +kernel
theorem dm_124_266 : decode cm_124 266 = .ok (.if_icmp .ne 31, 3) := by decide +kernel
theorem dm_124_269 : decode cm_124 269 = .ok (.aload_n 0, 1) := by decide +kernel
theorem dm_124_270 : decode cm_124 270 = .ok (.iload_n 3, 1) := by decide +kernel
theorem dm_124_271 : decode cm_124 271 = .ok (.aload_n 0, 1) := by decide +kernel
theorem dm_124_272 : decode cm_124 272 = .ok (.getfield 74, 3) := by decide +kernel
theorem dm_124_275 : decode cm_124 275 = .ok (.bipush 8, 2) := by decide +kernel
theorem dm_124_277 : decode cm_124 277 = .ok (.iload 7, 2) := by decide +kernel
theorem dm_124_279 : decode cm_124 279 = .ok (.iadd, 1) := by decide +kernel
theorem dm_124_280 : decode cm_124 280 = .ok (.iaload, 1) := by decide +kernel
theorem dm_124_281 : decode cm_124 281 = .ok (.aload_n 0, 1) := by decide +kernel
theorem dm_124_282 : decode cm_124 282 = .ok (.getfield 77, 3) := by decide +kernel
theorem dm_124_285 : decode cm_124 285 = .ok (.bipush 8, 2) := by decide +kernel
theorem dm_124_287 : decode cm_124 287 = .ok (.iload 7, 2) := by decide +kernel
theorem dm_124_289 : decode cm_124 289 = .ok (.iadd, 1) := by decide +kernel
theorem dm_124_290 : decode cm_124 290 = .ok (.baload, 1) := by decide +kernel
theorem dm_124_291 : decode cm_124 291 = .ok (.invokevirtual 169, 3) := by decide +kernel
theorem dm_124_294 : decode cm_124 294 = .ok (.goto 24, 3) := by decide +kernel
theorem dm_124_297 : decode cm_124 297 = .ok (.aload_n 0, 1) := by decide +kernel
theorem dm_124_298 : decode cm_124 298 = .ok (.bipush 8, 2) := by decide +kernel
theorem dm_124_300 : decode cm_124 300 = .ok (.iload 7, 2) := by decide +kernel
theorem dm_124_302 : decode cm_124 302 = .ok (.iadd, 1) := by decide +kernel
theorem dm_124_303 : decode cm_124 303 = .ok (.aload_n 0, 1) := by decide +kernel
theorem dm_124_304 : decode cm_124 304 = .ok (.getfield 74, 3) := by decide +kernel
theorem dm_124_307 : decode cm_124 307 = .ok (.iload_n 3, 1) := by decide +kernel
theorem dm_124_308 : decode cm_124 308 = .ok (.iaload, 1) := by decide +kernel
theorem dm_124_309 : decode cm_124 309 = .ok (.aload_n 0, 1) := by decide +kernel
theorem dm_124_310 : decode cm_124 310 = .ok (.getfield 77, 3) := by decide +kernel
theorem dm_124_313 : decode cm_124 313 = .ok (.iload_n 3, 1) := by decide +kernel
theorem dm_124_314 : decode cm_124 314 = .ok (.baload, 1) := by decide +kernel
theorem dm_124_315 : decode cm_124 315 = .ok (.invokevirtual 169, 3) := by decide +kernel
theorem dm_124_318 : decode cm_124 318 = .ok (.goto 86, 3) := by decide +kernel
theorem dm_124_321 : decode cm_124 321 = .ok (.iload_n 2, 1) := by decide +kernel
theorem dm_124_322 : decode cm_124 322 = .ok (.bipush 15, 2) := by decide +kernel
theorem dm_124_324 : decode cm_124 324 = .ok (.if_icmp .ne 14, 3) := by decide +kernel
theorem dm_124_327 : decode cm_124 327 = .ok (.aload_n 0, 1) := by decide +kernel
theorem dm_124_328 : decode cm_124 328 = .ok (.iload_n 3, 1) := by decide +kernel
theorem dm_124_329 : decode cm_124 329 = .ok (.iload 5, 2) := by decide +kernel
theorem dm_124_331 : decode cm_124 331 = .ok (.iconst 1, 1) := by decide +kernel
theorem dm_124_332 : decode cm_124 332 = .ok (.invokevirtual 169, 3) := by decide +kernel
theorem dm_124_335 : decode cm_124 335 = .ok (.goto 69, 3) := by decide +kernel
theorem dm_124_338 : decode cm_124 338 = .ok (.iload_n 2, 1) := by decide +kernel
theorem dm_124_339 : decode cm_124 339 = .ok (.iconst 2, 1) := by decide +kernel
theorem dm_124_340 : decode cm_124 340 = .ok (.if_icmp .ne 29, 3) := by decide +kernel
theorem dm_124_343 : decode cm_124 343 = .ok (.aload_n 0, 1) := by decide +kernel
theorem dm_124_344 : decode cm_124 344 = .ok (.getfield 77, 3) := by decide +kernel
theorem dm_124_347 : decode cm_124 347 = .ok (.iload 4, 2) := by decide +kernel
theorem dm_124_349 : decode cm_124 349 = .ok (.baload, 1) := by decide +kernel
theorem dm_124_350 : decode cm_124 350 = .ok (.ifCond .eq 19, 3) := by decide +kernel
theorem dm_124_353 : decode cm_124 353 = .ok (.aload_n 0, 1) := by decide +kernel
theorem dm_124_354 : decode cm_124 354 = .ok (.iload_n 3, 1) := by decide +kernel
theorem dm_124_355 : decode cm_124 355 = .ok (.aload_n 0, 1) := by decide +kernel
theorem dm_124_356 : decode cm_124 356 = .ok (.getfield 74, 3) := by decide +kernel
theorem dm_124_359 : decode cm_124 359 = .ok (.iload 4, 2) := by decide +kernel
theorem dm_124_361 : decode cm_124 361 = .ok (.iaload, 1) := by decide +kernel
theorem dm_124_362 : decode cm_124 362 = .ok (.iconst 1, 1) := by decide +kernel
theorem dm_124_363 : decode cm_124 363 = .ok (.invokevirtual 169, 3) := by decide +kernel
theorem dm_124_366 : decode cm_124 366 = .ok (.goto 38, 3) := by decide +kernel
theorem dm_124_369 : decode cm_124 369 = .ok (.iload_n 2, 1) := by decide +kernel
theorem dm_124_370 : decode cm_124 370 = .ok (.bipush 8, 2) := by decide +kernel
theorem dm_124_372 : decode cm_124 372 = .ok (.if_icmp .ge 32, 3) := by decide +kernel
theorem dm_124_375 : decode cm_124 375 = .ok (.iload_n 2, 1) := by decide +kernel
theorem dm_124_376 : decode cm_124 376 = .ok (.aload_n 0, 1) := by decide +kernel
theorem dm_124_377 : decode cm_124 377 = .ok (.getfield 74, 3) := by decide +kernel
theorem dm_124_380 : decode cm_124 380 = .ok (.iload_n 3, 1) := by decide +kernel
theorem dm_124_381 : decode cm_124 381 = .ok (.iaload, 1) := by decide +kernel
theorem dm_124_382 : decode cm_124 382 = .ok (.aload_n 0, 1) := by decide +kernel
theorem dm_124_383 : decode cm_124 383 = .ok (.getfield 74, 3) := by decide +kernel
theorem dm_124_386 : decode cm_124 386 = .ok (.iload 4, 2) := by decide +kernel
theorem dm_124_388 : decode cm_124 388 = .ok (.iaload, 1) := by decide +kernel
theorem dm_124_389 : decode cm_124 389 = .ok (.iload 5, 2) := by decide +kernel
theorem dm_124_391 : decode cm_124 391 = .ok (.invokestatic 160, 3) := by decide +kernel
theorem dm_124_394 : decode cm_124 394 = .ok (.istore 7, 2) := by decide +kernel
theorem dm_124_396 : decode cm_124 396 = .ok (.aload_n 0, 1) := by decide +kernel
theorem dm_124_397 : decode cm_124 397 = .ok (.iload_n 3, 1) := by decide +kernel
theorem dm_124_398 : decode cm_124 398 = .ok (.iload 7, 2) := by decide +kernel
theorem dm_124_400 : decode cm_124 400 = .ok (.iconst 0, 1) := by decide +kernel
theorem dm_124_401 : decode cm_124 401 = .ok (.invokevirtual 169, 3) := by decide +kernel
theorem dm_124_404 : decode cm_124 404 = .ok (.aload_n 0, 1) := by decide +kernel
theorem dm_124_405 : decode cm_124 405 = .ok (.iload_n 2, 1) := by decide +kernel
theorem dm_124_406 : decode cm_124 406 = .ok (.bipush 10, 2) := by decide +kernel
theorem dm_124_408 : decode cm_124 408 = .ok (.bipush 12, 2) := by decide +kernel
theorem dm_124_410 : decode cm_124 410 = .ok (.invokestatic 83, 3) := by decide +kernel
theorem dm_124_413 : decode cm_124 413 = .ok (.ifCond .eq 33, 3) := by decide +kernel
theorem dm_124_416 : decode cm_124 416 = .ok (.iload_n 2, 1) := by decide +kernel
theorem dm_124_417 : decode cm_124 417 = .ok (.aload_n 0, 1) := by decide +kernel
theorem dm_124_418 : decode cm_124 418 = .ok (.getfield 74, 3) := by decide +kernel
theorem dm_124_421 : decode cm_124 421 = .ok (.iload_n 3, 1) := by decide +kernel
theorem dm_124_422 : decode cm_124 422 = .ok (.iaload, 1) := by decide +kernel
theorem dm_124_423 : decode cm_124 423 = .ok (.aload_n 0, 1) := by decide +kernel
theorem dm_124_424 : decode cm_124 424 = .ok (.getfield 74, 3) := by decide +kernel
theorem dm_124_427 : decode cm_124 427 = .ok (.iload 4, 2) := by decide +kernel
theorem dm_124_429 : decode cm_124 429 = .ok (.iaload, 1) := by decide +kernel
theorem dm_124_430 : decode cm_124 430 = .ok (.invokestatic 157, 3) := by decide +kernel
theorem dm_124_433 : decode cm_124 433 = .ok (.ifCond .eq 13, 3) := by decide +kernel
theorem dm_124_436 : decode cm_124 436 = .ok (.aload_n 0, 1) := by decide +kernel
theorem dm_124_437 : decode cm_124 437 = .ok (.getfield 68, 3) := by decide +kernel
theorem dm_124_440 : decode cm_124 440 = .ok (.iload 5, 2) := by decide +kernel
theorem dm_124_442 : decode cm_124 442 = .ok (.iaload, 1) := by decide +kernel
theorem dm_124_443 : decode cm_124 443 = .ok (.goto 9, 3) := by decide +kernel
theorem dm_124_446 : decode cm_124 446 = .ok (.aload_n 0, 1) := by decide +kernel
theorem dm_124_447 : decode cm_124 447 = .ok (.getfield 173, 3) := by decide +kernel
theorem dm_124_450 : decode cm_124 450 = .ok (.iconst 1, 1) := by decide +kernel
theorem dm_124_451 : decode cm_124 451 = .ok (.iadd, 1) := by decide +kernel
theorem dm_124_452 : decode cm_124 452 = .ok (.putfield 173, 3) := by decide +kernel
theorem dm_124_455 : decode cm_124 455 = .ok (.iconst 0, 1) := by decide +kernel
theorem dm_124_456 : decode cm_124 456 = .ok (.ireturn, 1) := by decide +kernel
theorem dm_125_0 : decode cm_125 0 = .ok (.iload_n 2, 1) := by decide +kernel
theorem dm_125_1 : decode cm_125 1 = .ok (.iconst 1, 1) := by decide +kernel
theorem dm_125_2 : decode cm_125 2 = .ok (.if_icmp .eq 12, 3) := by decide +kernel
theorem dm_125_5 : decode cm_125 5 = .ok (.iload_n 2, 1) := by decide +kernel
theorem dm_125_6 : decode cm_125 6 = .ok (.iconst 3, 1) := by decide +kernel
theorem dm_125_7 : decode cm_125 7 = .ok (.iconst 5, 1) := by decide +kernel
theorem dm_125_8 : decode cm_125 8 = .ok (.invokestatic 83, 3) := by decide +kernel
theorem dm_125_11 : decode cm_125 11 = .ok (.ifCond .eq 7, 3) := by decide +kernel
theorem dm_125_14 : decode cm_125 14 = .ok (.iconst 1, 1) := by decide +kernel
theorem dm_125_15 : decode cm_125 15 = .ok (.goto 4, 3) := by decide +kernel
theorem dm_125_18 : decode cm_125 18 = .ok (.iconst 0, 1) := by decide +kernel
theorem dm_125_19 : decode cm_125 19 = .ok (.istore_n 3, 1) := by decide +kernel
theorem dm_125_20 : decode cm_125 20 = .ok (.iload_n 2, 1) := by decide +kernel
theorem dm_125_21 : decode cm_125 21 = .ok (.iconst 4, 1) := by decide +kernel
theorem dm_125_22 : decode cm_125 22 = .ok (.iconst 5, 1) := by decide +kernel
theorem dm_125_23 : decode cm_125 23 = .ok (.invokestatic 83, 3) := by decide +kernel
theorem dm_125_26 : decode cm_125 26 = .ok (.istore 4, 2) := by decide +kernel
theorem dm_125_28 : decode cm_125 28 = .ok (.iload_n 3, 1) := by decide +kernel
theorem dm_125_29 : decode cm_125 29 = .ok (.ifCond .eq 12, 3) := by decide +kernel
theorem dm_125_32 : decode cm_125 32 = .ok (.aload_n 0, 1) := by decide +kernel
theorem dm_125_33 : decode cm_125 33 = .ok (.getfield 77, 3) := by decide +kernel
theorem dm_125_36 : decode cm_125 36 = .ok (.iconst 1, 1) := by decide +kernel
theorem dm_125_37 : decode cm_125 37 = .ok (.baload, 1) := by decide +kernel
theorem dm_125_38 : decode cm_125 38 = .ok (.ifCond .ne 17, 3) := by decide +kernel
theorem dm_125_41 : decode cm_125 41 = .ok (.iload 4, 2) := by decide +kernel
theorem dm_125_43 : decode cm_125 43 = .ok (.ifCond .eq 14, 3) := by decide +kernel
theorem dm_125_46 : decode cm_125 46 = .ok (.aload_n 0, 1) := by decide +kernel
theorem dm_125_47 : decode cm_125 47 = .ok (.getfield 77, 3) := by decide +kernel
theorem dm_125_50 : decode cm_125 50 = .ok (.iconst 2, 1) := by decide +kernel
theorem dm_125_51 : decode cm_125 51 = .ok (.baload, 1) := by decide +kernel
theorem dm_125_52 : decode cm_125 52 = .ok (.ifCond .eq 5, 3) := by decide +kernel
theorem dm_125_55 : decode cm_125 55 = .ok (.iconst 3, 1) := by decide +kernel
theorem dm_125_56 : decode cm_125 56 = .ok (.ireturn, 1) := by decide +kernel
theorem dm_125_57 : decode cm_125 57 = .ok (.iload_n 3, 1) := by decide +kernel
theorem dm_125_58 : decode cm_125 58 = .ok (.ifCond .eq 12, 3) := by decide +kernel
theorem dm_125_61 : decode cm_125 61 = .ok (.aload_n 0, 1) := by decide +kernel
theorem dm_125_62 : decode cm_125 62 = .ok (.getfield 74, 3) := by decide +kernel
theorem dm_125_65 : decode cm_125 65 = .ok (.iconst 1, 1) := by decide +kernel
theorem dm_125_66 : decode cm_125 66 = .ok (.iaload, 1) := by decide +kernel
theorem dm_125_67 : decode cm_125 67 = .ok (.goto 4, 3) := by decide +kernel
theorem dm_125_70 : decode cm_125 70 = .ok (.iconst 0, 1) := by decide +kernel
theorem dm_125_71 : decode cm_125 71 = .ok (.istore 5, 2) := by decide +kernel
theorem dm_125_73 : decode cm_125 73 = .ok (.iload 4, 2) := by decide +kernel
theorem dm_125_75 : decode cm_125 75 = .ok (.ifCond .eq 12, 3) := by decide +kernel
theorem dm_125_78 : decode cm_125 78 = .ok (.aload_n 0, 1) := by decide +kernel
theorem dm_125_79 : decode cm_125 79 = .ok (.getfield 74, 3) := by decide +kernel
theorem dm_125_82 : decode cm_125 82 = .ok (.iconst 2, 1) := by decide +kernel
theorem dm_125_83 : decode cm_125 83 = .ok (.iaload, 1) := by decide +kernel
theorem dm_125_84 : decode cm_125 84 = .ok (.goto 4, 3) := by decide +kernel
theorem dm_125_87 : decode cm_125 87 = .ok (.iconst 0, 1) := by decide +kernel
theorem dm_125_88 : decode cm_125 88 = .ok (.istore 6, 2) := by decide +kernel
theorem dm_125_90 : decode cm_125 90 = .ok (.iload_n 2, 1) := by decide +kernel
theorem dm_125_91 : decode cm_125 91 = .ok (.iconst 4, 1) := by decide +kernel
theorem dm_125_92 : decode cm_125 92 = .ok (.if_icmp .ne 17, 3) := by decide +kernel
theorem dm_125_95 : decode cm_125 95 = .ok (.iload 5, 2) := by decide +kernel
theorem dm_125_97 : decode cm_125 97 = .ok (.iload 6, 2) := by decide +kernel
theorem dm_125_99 : decode cm_125 99 = .ok (.invokestatic 151, 3) := by decide +kernel
theorem dm_125_102 : decode cm_125 102 = .ok (.ifCond .eq 7, 3) := by decide +kernel
theorem dm_125_105 : decode cm_125 105 = .ok (.iconst 1, 1) := by decide +kernel
theorem dm_125_106 : decode cm_125 106 = .ok (.goto 4, 3) := by decide +kernel
theorem dm_125_109 : decode cm_125 109 = .ok (.iconst 0, 1) := by decide +kernel
theorem dm_125_110 : decode cm_125 110 = .ok (.istore 7, 2) := by decide +kernel
theorem dm_125_112 : decode cm_125 112 = .ok (.iload 7, 2) := by decide +kernel
theorem dm_125_114 : decode cm_125 114 = .ok (.ifCond .eq 25, 3) := by decide +kernel
theorem dm_125_117 : decode cm_125 117 = .ok (.aload_n 0, 1) := by decide +kernel
theorem dm_125_118 : decode cm_125 118 = .ok (.bipush 8, 2) := by decide +kernel
theorem dm_125_120 : decode cm_125 120 = .ok (.iload 5, 2) := by decide +kernel
theorem dm_125_122 : decode cm_125 122 = .ok (.iadd, 1) := by decide +kernel
theorem dm_125_123 : decode cm_125 123 = .ok (.bipush 8, 2) := by decide +kernel
theorem dm_125_125 : decode cm_125 125 = .ok (.iload 5, 2) := by decide +kernel
theorem dm_125_127 : decode cm_125 127 = .ok (.iadd, 1) := by decide +kernel
theorem dm_125_128 : decode cm_125 128 = .ok (.iload 6, 2) := by decide +kernel
theorem dm_125_130 : decode cm_125 130 = .ok (.iadd, 1) := by decide +kernel
theorem dm_125_131 : decode cm_125 131 = .ok (.invokevirtual 192, 3) := by decide +kernel
theorem dm_125_134 : decode cm_125 134 = .ok (.ifCond .eq 5, 3) := by decide +kernel
theorem dm_125_137 : decode cm_125 137 = .ok (.iconst 3, 1) := by decide +kernel
theorem dm_125_138 : decode cm_125 138 = .ok (.ireturn, 1) := by decide +kernel
theorem dm_125_139 : decode cm_125 139 = .ok (.aload_n 0, 1) := by decide +kernel
theorem dm_125_140 : decode cm_125 140 = .ok (.getfield 182, 3) := by decide +kernel
theorem dm_125_143 : decode cm_125 143 = .ok (.bipush 16, 2) := by decide +kernel
theorem dm_125_145 : decode cm_125 145 = .ok (.if_icmp .ge 45, 3) := by decide +kernel
theorem dm_125_148 : decode cm_125 148 = .ok (.aload_n 0, 1) := by decide +kernel
theorem dm_125_149 : decode cm_125 149 = .ok (.getfield 80, 3) := by decide +kernel
theorem dm_125_152 : decode cm_125 152 = .ok (.iconst 3, 1) := by decide +kernel
theorem dm_125_153 : decode cm_125 153 = .ok (.aload_n 0, 1) := by decide +kernel
theorem dm_125_154 : decode cm_125 154 = .ok (.getfield 182, 3) := by decide +kernel
theorem dm_125_157 : decode cm_125 157 = .ok (.imul, 1) := by decide +kernel
theorem dm_125_158 : decode cm_125 158 = .ok (.iload_n 2, 1) := by decide +kernel
theorem dm_125_159 : decode cm_125 159 = .ok (.iastore, 1) := by decide +kernel
theorem dm_125_160 : decode cm_125 160 = .ok (.aload_n 0, 1) := by decide +kernel
theorem dm_125_161 : decode cm_125 161 = .ok (.getfield 80, 3) := by decide +kernel
theorem dm_125_164 : decode cm_125 164 = .ok (.iconst 3, 1) := by decide +kernel
theorem dm_125_165 : decode cm_125 165 = .ok (.aload_n 0, 1) := by decide +kernel
theorem dm_125_166 : decode cm_125 166 = .ok (.getfield 182, 3) := by decide +kernel
theorem dm_125_169 : decode cm_125 169 = .ok (.imul, 1) := by decide +kernel
theorem dm_125_170 : decode cm_125 170 = .ok (.iconst 1, 1) := by decide +kernel
theorem dm_125_171 : decode cm_125 171 = .ok (.iadd, 1) := by decide +kernel
theorem dm_125_172 : decode cm_125 172 = .ok (.iload 5, 2) := by decide +kernel
theorem dm_125_174 : decode cm_125 174 = .ok (.iastore, 1) := by decide +kernel
theorem dm_125_175 : decode cm_125 175 = .ok (.aload_n 0, 1) := by decide +kernel
theorem dm_125_176 : decode cm_125 176 = .ok (.getfield 80, 3) := by decide +kernel
theorem dm_125_179 : decode cm_125 179 = .ok (.iconst 3, 1) := by decide +kernel
theorem dm_125_180 : decode cm_125 180 = .ok (.aload_n 0, 1) := by decide +kernel
theorem dm_125_181 : decode cm_125 181 = .ok (.getfield 182, 3) := by decide +kernel
theorem dm_125_184 : decode cm_125 184 = .ok (.imul, 1) := by decide +kernel
theorem dm_125_185 : decode cm_125 185 = .ok (.iconst 2, 1) := by decide +kernel
theorem dm_125_186 : decode cm_125 186 = .ok (.iadd, 1) := by decide +kernel
theorem dm_125_187 : decode cm_125 187 = .ok (.iload 6, 2) := by decide +kernel
theorem dm_125_189 : decode cm_125 189 = .ok (.iastore, 1) := by decide +kernel
theorem dm_125_190 : decode cm_125 190 = .ok (.aload_n 0, 1) := by decide +kernel
theorem dm_125_191 : decode cm_125 191 = .ok (.dup, 1) := by decide +kernel
theorem dm_125_192 : decode cm_125 192 = .ok (.getfield 182, 3) := by decide +kernel
theorem dm_125_195 : decode cm_125 195 = .ok (.iconst 1, 1) := by decide +kernel
theorem dm_125_196 : decode cm_125 196 = .ok (.iadd, 1) := by decide +kernel
theorem dm_125_197 : decode cm_125 197 = .ok (.putfield 182, 3) := by decide +kernel
theorem dm_125_200 : decode cm_125 200 = .ok (.iload_n 2, 1) := by decide +kernel
theorem dm_125_201 : decode cm_125 201 = .ok (.ifCond .ne 5, 3) := by decide +kernel
theorem dm_125_204 : decode cm_125 204 = .ok (.iconst 1, 1) := by decide +kernel
theorem dm_125_205 : decode cm_125 205 = .ok (.ireturn, 1) := by decide +kernel
theorem dm_125_206 : decode cm_125 206 = .ok (.iconst (-1), 1) := by decide +kernel
theorem dm_125_207 : decode cm_125 207 = .ok (.istore 8, 2) := by decide +kernel
theorem dm_125_209 : decode cm_125 209 = .ok (.iload_n 2, 1) := by decide +kernel
theorem dm_125_210 : decode cm_125 210 = .ok (.iconst 1, 1) := by decide +kernel
theorem dm_125_211 : decode cm_125 211 = .ok (.if_icmp .ne 9, 3) := by decide +kernel
theorem dm_125_214 : decode cm_125 214 = .ok (.iconst 0, 1) := by decide +kernel
theorem dm_125_215 : decode cm_125 215 = .ok (.istore 8, 2) := by decide +kernel
theorem dm_125_217 : decode cm_125 217 = .ok (.goto 109, 3) := by decide +kernel
theorem dm_125_220 : decode cm_125 220 = .ok (.iload_n 2, 1) := by decide +kernel
theorem dm_125_221 : decode cm_125 221 = .ok (.iconst 2, 1) := by decide +kernel
theorem dm_125_222 : decode cm_125 222 = .ok (.if_icmp .ne 54, 3) := by decide +kernel
theorem dm_125_225 : decode cm_125 225 = .ok (.aload_n 0, 1) := by decide +kernel
theorem dm_125_226 : decode cm_125 226 = .ok (.getfield 13, 3) := by decide +kernel
theorem dm_125_229 : decode cm_125 229 = .ok (.iload_n 1, 1) := by decide +kernel
theorem dm_125_230 : decode cm_125 230 = .ok (.iaload, 1) := by decide +kernel
theorem dm_125_231 : decode cm_125 231 = .ok (.ifCond .eq 45, 3) := by decide +kernel
theorem dm_125_234 : decode cm_125 234 = .ok (.aload_n 0, 1) := by decide +kernel
theorem dm_125_235 : decode cm_125 235 = .ok (.getfield 179, 3) := by decide +kernel
theorem dm_125_238 : decode cm_125 238 = .ok (.aload_n 0, 1) := by decide +kernel
theorem dm_125_239 : decode cm_125 239 = .ok (.getfield 34, 3) := by decide +kernel
theorem dm_125_242 : decode cm_125 242 = .ok (.iload_n 1, 1) := by decide +kernel
theorem dm_125_243 : decode cm_125 243 = .ok (.iaload, 1) := by decide +kernel
theorem dm_125_244 : decode cm_125 244 = .ok (.if_icmp .ge 32, 3) := by decide +kernel
theorem dm_125_247 : decode cm_125 247 = .ok (.aload_n 0, 1) := by decide +kernel
theorem dm_125_248 : decode cm_125 248 = .ok (.getfield 31, 3) := by decide +kernel
theorem dm_125_251 : decode cm_125 251 = .ok (.bipush 12, 2) := by decide +kernel
theorem dm_125_253 : decode cm_125 253 = .ok (.iload_n 1, 1) := by decide +kernel
theorem dm_125_254 : decode cm_125 254 = .ok (.imul, 1) := by decide +kernel
theorem dm_125_255 : decode cm_125 255 = .ok (.aload_n 0, 1) := by decide +kernel
theorem dm_125_256 : decode cm_125 256 = .ok (.getfield 179, 3) := by decide +kernel
theorem dm_125_259 : decode cm_125 259 = .ok (.iadd, 1) := by decide +kernel
theorem dm_125_260 : decode cm_125 260 = .ok (.iaload, 1) := by decide +kernel
theorem dm_125_261 : decode cm_125 261 = .ok (.istore 8, 2) := by decide +kernel
theorem dm_125_263 : decode cm_125 263 = .ok (.aload_n 0, 1) := by decide +kernel
theorem dm_125_264 : decode cm_125 264 = .ok (.dup, 1) := by decide +kernel
theorem dm_125_265 : decode cm_125 265 = .ok (.getfield 179, 3) := by decide +kernel
theorem dm_125_268 : decode cm_125 268 = .ok (.iconst 1, 1) := by decide +kernel
theorem dm_125_269 : decode cm_125 269 = .ok (.iadd, 1) := by decide +kernel
theorem dm_125_270 : decode cm_125 270 = .ok (.putfield 179, 3) := by decide +kernel
theorem dm_125_273 : decode cm_125 273 = .ok (.goto 53, 3) := by decide +kernel
theorem dm_125_276 : decode cm_125 276 = .ok (.iload_n 2, 1) := by decide +kernel
theorem dm_125_277 : decode cm_125 277 = .ok (.iconst 3, 1) := by decide +kernel
theorem dm_125_278 : decode cm_125 278 = .ok (.if_icmp .ne 39, 3) := by decide +kernel
theorem dm_125_281 : decode cm_125 281 = .ok (.iload 5, 2) := by decide +kernel
theorem dm_125_283 : decode cm_125 283 = .ok (.iconst 1, 1) := by decide +kernel
theorem dm_125_284 : decode cm_125 284 = .ok (.bipush 16, 2) := by decide +kernel
theorem dm_125_286 : decode cm_125 286 = .ok (.aload_n 0, 1) := by decide +kernel
theorem dm_125_287 : decode cm_125 287 = .ok (.getfield 176, 3) := by decide +kernel
theorem dm_125_290 : decode cm_125 290 = .ok (.isub, 1) := by decide +kernel
theorem dm_125_291 : decode cm_125 291 = .ok (.invokestatic 83, 3) := by decide +kernel
theorem dm_125_294 : decode cm_125 294 = .ok (.ifCond .eq 23, 3) := by decide +kernel
theorem dm_125_297 : decode cm_125 297 = .ok (.aload_n 0, 1) := by decide +kernel
theorem dm_125_298 : decode cm_125 298 = .ok (.getfield 176, 3) := by decide +kernel
theorem dm_125_301 : decode cm_125 301 = .ok (.istore 8, 2) := by decide +kernel
theorem dm_125_303 : decode cm_125 303 = .ok (.aload_n 0, 1) := by decide +kernel
theorem dm_125_304 : decode cm_125 304 = .ok (.dup, 1) := by decide +kernel
theorem dm_125_305 : decode cm_125 305 = .ok (.getfield 176, 3) := by decide +kernel
theorem dm_125_308 : decode cm_125 308 = .ok (.iload 5, 2) := by decide +kernel
theorem dm_125_310 : decode cm_125 310 = .ok (.iadd, 1) := by decide +kernel
theorem dm_125_311 : decode cm_125 311 = .ok (.putfield 176, 3) := by decide +kernel
theorem dm_125_314 : decode cm_125 314 = .ok (.goto 12, 3) := by decide +kernel
theorem dm_125_317 : decode cm_125 317 = .ok (.iload 7, 2) := by decide +kernel
theorem dm_125_319 : decode cm_125 319 = .ok (.ifCond .eq 7, 3) := by decide +kernel
theorem dm_125_322 : decode cm_125 322 = .ok (.iload 6, 2) := by decide +kernel
theorem dm_125_324 : decode cm_125 324 = .ok (.istore 8, 2) := by decide +kernel
theorem dm_125_326 : decode cm_125 326 = .ok (.aload_n 0, 1) := by decide +kernel
theorem dm_125_327 : decode cm_125 327 = .ok (.iconst 1, 1) := by decide +kernel
theorem dm_125_328 : decode cm_125 328 = .ok (.iload 8, 2) := by decide +kernel
theorem dm_125_330 : decode cm_125 330 = .ok (.iconst 0, 1) := by decide +kernel
theorem dm_125_331 : decode cm_125 331 = .ok (.invokevirtual 169, 3) := by decide +kernel
theorem dm_125_334 : decode cm_125 334 = .ok (.aload_n 0, 1) := by decide +kernel
theorem dm_125_335 : decode cm_125 335 = .ok (.dup, 1) := by decide +kernel
theorem dm_125_336 : decode cm_125 336 = .ok (.getfield 173, 3) := by decide +kernel
theorem dm_125_339 : decode cm_125 339 = .ok (.iconst 1, 1) := by decide +kernel
theorem dm_125_340 : decode cm_125 340 = .ok (.iadd, 1) := by decide +kernel
theorem dm_125_341 : decode cm_125 341 = .ok (.putfield 173, 3) := by decide +kernel
theorem dm_125_344 : decode cm_125 344 = .ok (.iconst 0, 1) := by decide +kernel
theorem dm_125_345 : decode cm_125 345 = .ok (.ireturn, 1) := by decide +kernel
theorem dm_126_0 : decode cm_126 0 = .ok (.iload_n 1, 1) := by decide +kernel
theorem dm_126_1 : decode cm_126 1 = .ok (.iconst 0, 1) := by decide +kernel
theorem dm_126_2 : decode cm_126 2 = .ok (.iconst 2, 1) := by decide +kernel
theorem dm_126_3 : decode cm_126 3 = .ok (.invokestatic 83, 3) := by decide +kernel
theorem dm_126_6 : decode cm_126 6 = .ok (.ifCond .eq 12, 3) := by decide +kernel
theorem dm_126_9 : decode cm_126 9 = .ok (.aload_n 0, 1) := by decide +kernel
theorem dm_126_10 : decode cm_126 10 = .ok (.getfield 13, 3) := by decide +kernel
theorem dm_126_13 : decode cm_126 13 = .ok (.iload_n 1, 1) := by decide +kernel
theorem dm_126_14 : decode cm_126 14 = .ok (.iaload, 1) := by decide +kernel
theorem dm_126_15 : decode cm_126 15 = .ok (.goto 4, 3) := by decide +kernel
theorem dm_126_18 : decode cm_126 18 = .ok (.iconst (-1), 1) := by decide +kernel
theorem dm_126_19 : decode cm_126 19 = .ok (.ireturn, 1) := by decide +kernel
theorem dm_127_0 : decode cm_127 0 = .ok (.iload_n 1, 1) := by decide +kernel
theorem dm_127_1 : decode cm_127 1 = .ok (.iconst 0, 1) := by decide +kernel
theorem dm_127_2 : decode cm_127 2 = .ok (.iconst 2, 1) := by decide +kernel
theorem dm_127_3 : decode cm_127 3 = .ok (.invokestatic 83, 3) := by decide +kernel
theorem dm_127_6 : decode cm_127 6 = .ok (.ifCond .eq 12, 3) := by decide +kernel
theorem dm_127_9 : decode cm_127 9 = .ok (.aload_n 0, 1) := by decide +kernel
theorem dm_127_10 : decode cm_127 10 = .ok (.getfield 19, 3) := by decide +kernel
theorem dm_127_13 : decode cm_127 13 = .ok (.iload_n 1, 1) := by decide +kernel
theorem dm_127_14 : decode cm_127 14 = .ok (.iaload, 1) := by decide +kernel
theorem dm_127_15 : decode cm_127 15 = .ok (.goto 4, 3) := by decide +kernel
theorem dm_127_18 : decode cm_127 18 = .ok (.iconst (-1), 1) := by decide +kernel
theorem dm_127_19 : decode cm_127 19 = .ok (.ireturn, 1) := by decide +kernel
theorem dm_128_0 : decode cm_128 0 = .ok (.iload_n 1, 1) := by decide +kernel
theorem dm_128_1 : decode cm_128 1 = .ok (.iconst 0, 1) := by decide +kernel
theorem dm_128_2 : decode cm_128 2 = .ok (.iconst 2, 1) := by decide +kernel
theorem dm_128_3 : decode cm_128 3 = .ok (.invokestatic 83, 3) := by decide +kernel
theorem dm_128_6 : decode cm_128 6 = .ok (.ifCond .eq 27, 3) := by decide +kernel
theorem dm_128_9 : decode cm_128 9 = .ok (.iload_n 2, 1) := by decide +kernel
theorem dm_128_10 : decode cm_128 10 = .ok (.iconst 0, 1) := by decide +kernel
theorem dm_128_11 : decode cm_128 11 = .ok (.bipush 7, 2) := by decide +kernel
theorem dm_128_13 : decode cm_128 13 = .ok (.invokestatic 83, 3) := by decide +kernel
theorem dm_128_16 : decode cm_128 16 = .ok (.ifCond .eq 17, 3) := by decide +kernel
theorem dm_128_19 : decode cm_128 19 = .ok (.aload_n 0, 1) := by decide +kernel
theorem dm_128_20 : decode cm_128 20 = .ok (.getfield 16, 3) := by decide +kernel
theorem dm_128_23 : decode cm_128 23 = .ok (.bipush 8, 2) := by decide +kernel
theorem dm_128_25 : decode cm_128 25 = .ok (.iload_n 1, 1) := by decide +kernel
theorem dm_128_26 : decode cm_128 26 = .ok (.imul, 1) := by decide +kernel
theorem dm_128_27 : decode cm_128 27 = .ok (.iload_n 2, 1) := by decide +kernel
theorem dm_128_28 : decode cm_128 28 = .ok (.iadd, 1) := by decide +kernel
theorem dm_128_29 : decode cm_128 29 = .ok (.iaload, 1) := by decide +kernel
theorem dm_128_30 : decode cm_128 30 = .ok (.goto 4, 3) := by decide +kernel
theorem dm_128_33 : decode cm_128 33 = .ok (.iconst 0, 1) := by decide +kernel
theorem dm_128_34 : decode cm_128 34 = .ok (.ireturn, 1) := by decide +kernel
theorem dm_129_0 : decode cm_129 0 = .ok (.iload_n 1, 1) := by decide +kernel
theorem dm_129_1 : decode cm_129 1 = .ok (.iconst 0, 1) := by decide +kernel
theorem dm_129_2 : decode cm_129 2 = .ok (.sipush 255, 3) := by decide +kernel
theorem dm_129_5 : decode cm_129 5 = .ok (.invokestatic 83, 3) := by decide +kernel
theorem dm_129_8 : decode cm_129 8 = .ok (.ifCond .eq 12, 3) := by decide +kernel
theorem dm_129_11 : decode cm_129 11 = .ok (.aload_n 0, 1) := by decide +kernel
theorem dm_129_12 : decode cm_129 12 = .ok (.getfield 7, 3) := by decide +kernel
theorem dm_129_15 : decode cm_129 15 = .ok (.iload_n 1, 1) := by decide +kernel
theorem dm_129_16 : decode cm_129 16 = .ok (.iaload, 1) := by decide +kernel
theorem dm_129_17 : decode cm_129 17 = .ok (.goto 4, 3) := by decide +kernel
theorem dm_129_20 : decode cm_129 20 = .ok (.iconst 0, 1) := by decide +kernel
theorem dm_129_21 : decode cm_129 21 = .ok (.ireturn, 1) := by decide +kernel
theorem dm_130_0 : decode cm_130 0 = .ok (.iload_n 1, 1) := by decide +kernel
theorem dm_130_1 : decode cm_130 1 = .ok (.iconst 0, 1) := by decide +kernel
theorem dm_130_2 : decode cm_130 2 = .ok (.iconst 2, 1) := by decide +kernel
theorem dm_130_3 : decode cm_130 3 = .ok (.invokestatic 83, 3) := by decide +kernel
theorem dm_130_6 : decode cm_130 6 = .ok (.ifCond .ne 5, 3) := by decide +kernel
theorem dm_130_9 : decode cm_130 9 = .ok (.iconst 0, 1) := by decide +kernel
theorem dm_130_10 : decode cm_130 10 = .ok (.ireturn, 1) := by decide +kernel
theorem dm_130_11 : decode cm_130 11 = .ok (.iload_n 2, 1) := by decide +kernel
theorem dm_130_12 : decode cm_130 12 = .ok (.iconst (-1), 1) := by decide +kernel
theorem dm_130_13 : decode cm_130 13 = .ok (.if_icmp .ne 12, 3) := by decide +kernel
theorem dm_130_16 : decode cm_130 16 = .ok (.aload_n 0, 1) := by decide +kernel
theorem dm_130_17 : decode cm_130 17 = .ok (.getfield 43, 3) := by decide +kernel
theorem dm_130_20 : decode cm_130 20 = .ok (.iload_n 1, 1) := by decide +kernel
theorem dm_130_21 : decode cm_130 21 = .ok (.iaload, 1) := by decide +kernel
theorem dm_130_22 : decode cm_130 22 = .ok (.goto 50, 3) := by decide +kernel
theorem dm_130_25 : decode cm_130 25 = .ok (.iload_n 2, 1) := by decide +kernel
theorem dm_130_26 : decode cm_130 26 = .ok (.iconst 0, 1) := by decide +kernel
theorem dm_130_27 : decode cm_130 27 = .ok (.bipush 7, 2) := by decide +kernel
theorem dm_130_29 : decode cm_130 29 = .ok (.invokestatic 83, 3) := by decide +kernel
theorem dm_130_32 : decode cm_130 32 = .ok (.ifCond .eq 39, 3) := by decide +kernel
theorem dm_130_35 : decode cm_130 35 = .ok (.iload_n 2, 1) := by decide +kernel
theorem dm_130_36 : decode cm_130 36 = .ok (.aload_n 0, 1) := by decide +kernel
theorem dm_130_37 : decode cm_130 37 = .ok (.getfield 43, 3) := by decide +kernel
theorem dm_130_40 : decode cm_130 40 = .ok (.iload_n 1, 1) := by decide +kernel
theorem dm_130_41 : decode cm_130 41 = .ok (.iaload, 1) := by decide +kernel
theorem dm_130_42 : decode cm_130 42 = .ok (.if_icmp .ge 29, 3) := by decide +kernel
theorem dm_130_45 : decode cm_130 45 = .ok (.aload_n 0, 1) := by decide +kernel
theorem dm_130_46 : decode cm_130 46 = .ok (.getfield 40, 3) := by decide +kernel
theorem dm_130_49 : decode cm_130 49 = .ok (.bipush 8, 2) := by decide +kernel
theorem dm_130_51 : decode cm_130 51 = .ok (.iload_n 1, 1) := by decide +kernel
theorem dm_130_52 : decode cm_130 52 = .ok (.imul, 1) := by decide +kernel
theorem dm_130_53 : decode cm_130 53 = .ok (.aload_n 0, 1) := by decide +kernel
theorem dm_130_54 : decode cm_130 54 = .ok (.getfield 43, 3) := by decide +kernel
theorem dm_130_57 : decode cm_130 57 = .ok (.iload_n 1, 1) := by decide +kernel
theorem dm_130_58 : decode cm_130 58 = .ok (.iaload, 1) := by decide +kernel
theorem dm_130_59 : decode cm_130 59 = .ok (.iconst 1, 1) := by decide +kernel
theorem dm_130_60 : decode cm_130 60 = .ok (.isub, 1) := by decide +kernel
theorem dm_130_61 : decode cm_130 61 = .ok (.iload_n 2, 1) := by decide +kernel
theorem dm_130_62 : decode cm_130 62 = .ok (.isub, 1) := by decide +kernel
theorem dm_130_63 : decode cm_130 63 = .ok (.bipush 7, 2) := by decide +kernel
theorem dm_130_65 : decode cm_130 65 = .ok (.iand, 1) := by decide +kernel
theorem dm_130_66 : decode cm_130 66 = .ok (.iadd, 1) := by decide +kernel
theorem dm_130_67 : decode cm_130 67 = .ok (.iaload, 1) := by decide +kernel
theorem dm_130_68 : decode cm_130 68 = .ok (.goto 4, 3) := by decide +kernel
theorem dm_130_71 : decode cm_130 71 = .ok (.iconst 0, 1) := by decide +kernel
theorem dm_130_72 : decode cm_130 72 = .ok (.ireturn, 1) := by decide +kernel
theorem dm_131_0 : decode cm_131 0 = .ok (.iload_n 1, 1) := by decide +kernel
theorem dm_131_1 : decode cm_131 1 = .ok (.iconst 0, 1) := by decide +kernel
theorem dm_131_2 : decode cm_131 2 = .ok (.iconst 2, 1) := by decide +kernel
theorem dm_131_3 : decode cm_131 3 = .ok (.invokestatic 83, 3) := by decide +kernel
theorem dm_131_6 : decode cm_131 6 = .ok (.ifCond .ne 5, 3) := by decide +kernel
theorem dm_131_9 : decode cm_131 9 = .ok (.iconst 0, 1) := by decide +kernel
theorem dm_131_10 : decode cm_131 10 = .ok (.ireturn, 1) := by decide +kernel
theorem dm_131_11 : decode cm_131 11 = .ok (.iload_n 2, 1) := by decide +kernel
theorem dm_131_12 : decode cm_131 12 = .ok (.iconst (-1), 1) := by decide +kernel
theorem dm_131_13 : decode cm_131 13 = .ok (.if_icmp .ne 10, 3) := by decide +kernel
theorem dm_131_16 : decode cm_131 16 = .ok (.aload_n 0, 1) := by decide +kernel
theorem dm_131_17 : decode cm_131 17 = .ok (.getfield 46, 3) := by decide +kernel
theorem dm_131_20 : decode cm_131 20 = .ok (.iload_n 1, 1) := by decide +kernel
theorem dm_131_21 : decode cm_131 21 = .ok (.iaload, 1) := by decide +kernel
theorem dm_131_22 : decode cm_131 22 = .ok (.ireturn, 1) := by decide +kernel
theorem dm_131_23 : decode cm_131 23 = .ok (.iload_n 2, 1) := by decide +kernel
theorem dm_131_24 : decode cm_131 24 = .ok (.iconst 0, 1) := by decide +kernel
theorem dm_131_25 : decode cm_131 25 = .ok (.bipush 15, 2) := by decide +kernel
theorem dm_131_27 : decode cm_131 27 = .ok (.invokestatic 83, 3) := by decide +kernel
theorem dm_131_30 : decode cm_131 30 = .ok (.ifCond .eq 40, 3) := by decide +kernel
theorem dm_131_33 : decode cm_131 33 = .ok (.iload_n 2, 1) := by decide +kernel
theorem dm_131_34 : decode cm_131 34 = .ok (.aload_n 0, 1) := by decide +kernel
theorem dm_131_35 : decode cm_131 35 = .ok (.getfield 46, 3) := by decide +kernel
theorem dm_131_38 : decode cm_131 38 = .ok (.iload_n 1, 1) := by decide +kernel
theorem dm_131_39 : decode cm_131 39 = .ok (.iaload, 1) := by decide +kernel
theorem dm_131_40 : decode cm_131 40 = .ok (.if_icmp .ge 30, 3) := by decide +kernel
theorem dm_131_43 : decode cm_131 43 = .ok (.iload_n 3, 1) := by decide +kernel
theorem dm_131_44 : decode cm_131 44 = .ok (.iconst 0, 1) := by decide +kernel
theorem dm_131_45 : decode cm_131 45 = .ok (.iconst 2, 1) := by decide +kernel
theorem dm_131_46 : decode cm_131 46 = .ok (.invokestatic 83, 3) := by decide +kernel
theorem dm_131_49 : decode cm_131 49 = .ok (.ifCond .eq 21, 3) := by decide +kernel
theorem dm_131_52 : decode cm_131 52 = .ok (.aload_n 0, 1) := by decide +kernel
theorem dm_131_53 : decode cm_131 53 = .ok (.getfield 49, 3) := by decide +kernel
theorem dm_131_56 : decode cm_131 56 = .ok (.bipush 48, 2) := by decide +kernel
theorem dm_131_58 : decode cm_131 58 = .ok (.iload_n 1, 1) := by decide +kernel
theorem dm_131_59 : decode cm_131 59 = .ok (.imul, 1) := by decide +kernel
theorem dm_131_60 : decode cm_131 60 = .ok (.iconst 3, 1) := by decide +kernel
theorem dm_131_61 : decode cm_131 61 = .ok (.iload_n 2, 1) := by decide +kernel
theorem dm_131_62 : decode cm_131 62 = .ok (.imul, 1) := by decide +kernel
theorem dm_131_63 : decode cm_131 63 = .ok (.iadd, 1) := by decide +kernel
theorem dm_131_64 : decode cm_131 64 = .ok (.iload_n 3, 1) := by decide +kernel
theorem dm_131_65 : decode cm_131 65 = .ok (.iadd, 1) := by decide +kernel
theorem dm_131_66 : decode cm_131 66 = .ok (.iaload, 1) := by decide +kernel
theorem dm_131_67 : decode cm_131 67 = .ok (.goto 4, 3) := by decide +kernel
theorem dm_131_70 : decode cm_131 70 = .ok (.iconst 0, 1) := by decide +kernel
theorem dm_131_71 : decode cm_131 71 = .ok (.ireturn, 1) := by decide +kernel
theorem dm_132_0 : decode cm_132 0 = .ok (.iload_n 1, 1) := by decide +kernel
theorem dm_132_1 : decode cm_132 1 = .ok (.iconst (-1), 1) := by decide +kernel
theorem dm_132_2 : decode cm_132 2 = .ok (.if_icmp .ne 8, 3) := by decide +kernel
theorem dm_132_5 : decode cm_132 5 = .ok (.aload_n 0, 1) := by decide +kernel
theorem dm_132_6 : decode cm_132 6 = .ok (.getfield 182, 3) := by decide +kernel
theorem dm_132_9 : decode cm_132 9 = .ok (.ireturn, 1) := by decide +kernel
theorem dm_132_10 : decode cm_132 10 = .ok (.iload_n 1, 1) := by decide +kernel
theorem dm_132_11 : decode cm_132 11 = .ok (.iconst 0, 1) := by decide +kernel
theorem dm_132_12 : decode cm_132 12 = .ok (.bipush 15, 2) := by decide +kernel
theorem dm_132_14 : decode cm_132 14 = .ok (.invokestatic 83, 3) := by decide +kernel
theorem dm_132_17 : decode cm_132 17 = .ok (.ifCond .eq 33, 3) := by decide +kernel
theorem dm_132_20 : decode cm_132 20 = .ok (.iload_n 1, 1) := by decide +kernel
theorem dm_132_21 : decode cm_132 21 = .ok (.aload_n 0, 1) := by decide +kernel
theorem dm_132_22 : decode cm_132 22 = .ok (.getfield 182, 3) := by decide +kernel
theorem dm_132_25 : decode cm_132 25 = .ok (.if_icmp .ge 25, 3) := by decide +kernel
theorem dm_132_28 : decode cm_132 28 = .ok (.iload_n 2, 1) := by decide +kernel
theorem dm_132_29 : decode cm_132 29 = .ok (.iconst 0, 1) := by decide +kernel
theorem dm_132_30 : decode cm_132 30 = .ok (.iconst 2, 1) := by decide +kernel
theorem dm_132_31 : decode cm_132 31 = .ok (.invokestatic 83, 3) := by decide +kernel
theorem dm_132_34 : decode cm_132 34 = .ok (.ifCond .eq 16, 3) := by decide +kernel
theorem dm_132_37 : decode cm_132 37 = .ok (.aload_n 0, 1) := by decide +kernel
theorem dm_132_38 : decode cm_132 38 = .ok (.getfield 80, 3) := by decide +kernel
theorem dm_132_41 : decode cm_132 41 = .ok (.iconst 3, 1) := by decide +kernel
theorem dm_132_42 : decode cm_132 42 = .ok (.iload_n 1, 1) := by decide +kernel
theorem dm_132_43 : decode cm_132 43 = .ok (.imul, 1) := by decide +kernel
theorem dm_132_44 : decode cm_132 44 = .ok (.iload_n 2, 1) := by decide +kernel
theorem dm_132_45 : decode cm_132 45 = .ok (.iadd, 1) := by decide +kernel
theorem dm_132_46 : decode cm_132 46 = .ok (.iaload, 1) := by decide +kernel
theorem dm_132_47 : decode cm_132 47 = .ok (.goto 4, 3) := by decide +kernel
theorem dm_132_50 : decode cm_132 50 = .ok (.iconst 0, 1) := by decide +kernel
theorem dm_132_51 : decode cm_132 51 = .ok (.ireturn, 1) := by decide +kernel
theorem dm_133_0 : decode cm_133 0 = .ok (.aload_n 2, 1) := by decide +kernel
theorem dm_133_1 : decode cm_133 1 = .ok (.invokevirtual 7, 3) := by decide +kernel
theorem dm_133_4 : decode cm_133 4 = .ok (.iconst 0, 1) := by decide +kernel
theorem dm_133_5 : decode cm_133 5 = .ok (.istore_n 3, 1) := by decide +kernel
theorem dm_133_6 : decode cm_133 6 = .ok (.iload_n 3, 1) := by decide +kernel
theorem dm_133_7 : decode cm_133 7 = .ok (.aload_n 0, 1) := by decide +kernel
theorem dm_133_8 : decode cm_133 8 = .ok (.invokevirtual 12, 3) := by decide +kernel
theorem dm_133_11 : decode cm_133 11 = .ok (.if_icmp .ge 16, 3) := by decide +kernel
theorem dm_133_14 : decode cm_133 14 = .ok (.aload_n 0, 1) := by decide +kernel
theorem dm_133_15 : decode cm_133 15 = .ok (.iload_n 3, 1) := by decide +kernel
theorem dm_133_16 : decode cm_133 16 = .ok (.iload_n 1, 1) := by decide +kernel
theorem dm_133_17 : decode cm_133 17 = .ok (.aload_n 2, 1) := by decide +kernel
theorem dm_133_18 : decode cm_133 18 = .ok (.invokestatic 18, 3) := by decide +kernel
theorem dm_133_21 : decode cm_133 21 = .ok (.iinc 3 1, 3) := by decide +kernel
theorem dm_133_24 : decode cm_133 24 = .ok (.goto (-18), 3) := by decide +kernel
theorem dm_133_27 : decode cm_133 27 = .ok (.aload_n 2, 1) := by decide +kernel
theorem dm_133_28 : decode cm_133 28 = .ok (.iconst 0, 1) := by decide +kernel
theorem dm_133_29 : decode cm_133 29 = .ok (.iconst 0, 1) := by decide +kernel
theorem dm_133_30 : decode cm_133 30 = .ok (.iconst 0, 1) := by decide +kernel
theorem dm_133_31 : decode cm_133 31 = .ok (.iconst 0, 1) := by decide +kernel
theorem dm_133_32 : decode cm_133 32 = .ok (.invokestatic 26, 3) := by decide +kernel
theorem dm_133_35 : decode cm_133 35 = .ok (.invokevirtual 30, 3) := by decide +kernel
theorem dm_133_38 : decode cm_133 38 = .ok (.pop, 1) := by decide +kernel
theorem dm_133_39 : decode cm_133 39 = .ok (.return_, 1) := by decide +kernel
theorem dm_134_0 : decode cm_134 0 = .ok (.aload_n 0, 1) := by decide +kernel
theorem dm_134_1 : decode cm_134 1 = .ok (.iload_n 1, 1) := by decide +kernel
theorem dm_134_2 : decode cm_134 2 = .ok (.invokevirtual 34, 3) := by decide +kernel
theorem dm_134_5 : decode cm_134 5 = .ok (.istore 4, 2) := by decide +kernel
theorem dm_134_7 : decode cm_134 7 = .ok (.aload_n 0, 1) := by decide +kernel
theorem dm_134_8 : decode cm_134 8 = .ok (.iload_n 1, 1) := by decide +kernel
theorem dm_134_9 : decode cm_134 9 = .ok (.invokevirtual 38, 3) := by decide +kernel
theorem dm_134_12 : decode cm_134 12 = .ok (.istore 5, 2) := by decide +kernel
theorem dm_134_14 : decode cm_134 14 = .ok (.aload_n 0, 1) := by decide +kernel
theorem dm_134_15 : decode cm_134 15 = .ok (.iload_n 1, 1) := by decide +kernel
theorem dm_134_16 : decode cm_134 16 = .ok (.invokevirtual 41, 3) := by decide +kernel
theorem dm_134_19 : decode cm_134 19 = .ok (.istore 6, 2) := by decide +kernel
theorem dm_134_21 : decode cm_134 21 = .ok (.aload_n 0, 1) := by decide +kernel
theorem dm_134_22 : decode cm_134 22 = .ok (.iload_n 1, 1) := by decide +kernel
theorem dm_134_23 : decode cm_134 23 = .ok (.invokevirtual 44, 3) := by decide +kernel
theorem dm_134_26 : decode cm_134 26 = .ok (.istore 7, 2) := by decide +kernel
theorem dm_134_28 : decode cm_134 28 = .ok (.iload 4, 2) := by decide +kernel
theorem dm_134_30 : decode cm_134 30 = .ok (.tableswitch 194 8 15 #[46, 46, 148, 148, 172, 91, 194, 122], 46) := by decide +kernel
theorem dm_134_76 : decode cm_134 76 = .ok (.aload_n 3, 1) := by decide +kernel
theorem dm_134_77 : decode cm_134 77 = .ok (.iconst 2, 1) := by decide +kernel
theorem dm_134_78 : decode cm_134 78 = .ok (.iconst 5, 1) := by decide +kernel
theorem dm_134_79 : decode cm_134 79 = .ok (.iload 6, 2) := by decide +kernel
theorem dm_134_81 : decode cm_134 81 = .ok (.iload 7, 2) := by decide +kernel
theorem dm_134_83 : decode cm_134 83 = .ok (.invokestatic 26, 3) := by decide +kernel
theorem dm_134_86 : decode cm_134 86 = .ok (.invokevirtual 30, 3) := by decide +kernel
theorem dm_134_89 : decode cm_134 89 = .ok (.pop, 1) := by decide +kernel
theorem dm_134_90 : decode cm_134 90 = .ok (.aload_n 3, 1) := by decide +kernel
theorem dm_134_91 : decode cm_134 91 = .ok (.bipush 6, 2) := by decide +kernel
theorem dm_134_93 : decode cm_134 93 = .ok (.iconst 5, 1) := by decide +kernel
theorem dm_134_94 : decode cm_134 94 = .ok (.bipush 15, 2) := by decide +kernel
theorem dm_134_96 : decode cm_134 96 = .ok (.iload_n 2, 1) := by decide +kernel
theorem dm_134_97 : decode cm_134 97 = .ok (.invokestatic 49, 3) := by decide +kernel
theorem dm_134_100 : decode cm_134 100 = .ok (.invokestatic 52, 3) := by decide +kernel
theorem dm_134_103 : decode cm_134 103 = .ok (.aload_n 3, 1) := by decide +kernel
theorem dm_134_104 : decode cm_134 104 = .ok (.iload 4, 2) := by decide +kernel
theorem dm_134_106 : decode cm_134 106 = .ok (.iload 5, 2) := by decide +kernel
theorem dm_134_108 : decode cm_134 108 = .ok (.bipush 6, 2) := by decide +kernel
theorem dm_134_110 : decode cm_134 110 = .ok (.iconst 0, 1) := by decide +kernel
theorem dm_134_111 : decode cm_134 111 = .ok (.invokestatic 26, 3) := by decide +kernel
theorem dm_134_114 : decode cm_134 114 = .ok (.invokevirtual 30, 3) := by decide +kernel
theorem dm_134_117 : decode cm_134 117 = .ok (.pop, 1) := by decide +kernel
theorem dm_134_118 : decode cm_134 118 = .ok (.goto 122, 3) := by decide +kernel
theorem dm_134_121 : decode cm_134 121 = .ok (.aload_n 3, 1) := by decide +kernel
theorem dm_134_122 : decode cm_134 122 = .ok (.bipush 7, 2) := by decide +kernel
theorem dm_134_124 : decode cm_134 124 = .ok (.iload 5, 2) := by decide +kernel
theorem dm_134_126 : decode cm_134 126 = .ok (.bipush 31, 2) := by decide +kernel
theorem dm_134_128 : decode cm_134 128 = .ok (.iload_n 2, 1) := by decide +kernel
theorem dm_134_129 : decode cm_134 129 = .ok (.invokestatic 56, 3) := by decide +kernel
theorem dm_134_132 : decode cm_134 132 = .ok (.invokestatic 52, 3) := by decide +kernel
theorem dm_134_135 : decode cm_134 135 = .ok (.aload_n 3, 1) := by decide +kernel
theorem dm_134_136 : decode cm_134 136 = .ok (.iload 4, 2) := by decide +kernel
theorem dm_134_138 : decode cm_134 138 = .ok (.bipush 7, 2) := by decide +kernel
theorem dm_134_140 : decode cm_134 140 = .ok (.iconst 0, 1) := by decide +kernel
theorem dm_134_141 : decode cm_134 141 = .ok (.iconst 0, 1) := by decide +kernel
theorem dm_134_142 : decode cm_134 142 = .ok (.invokestatic 26, 3) := by decide +kernel
theorem dm_134_145 : decode cm_134 145 = .ok (.invokevirtual 30, 3) := by decide +kernel
theorem dm_134_148 : decode cm_134 148 = .ok (.pop, 1) := by decide +kernel
theorem dm_134_149 : decode cm_134 149 = .ok (.goto 91, 3) := by decide +kernel
theorem dm_134_152 : decode cm_134 152 = .ok (.aload_n 3, 1) := by decide +kernel
theorem dm_134_153 : decode cm_134 153 = .ok (.iconst 1, 1) := by decide +kernel
theorem dm_134_154 : decode cm_134 154 = .ok (.iload 5, 2) := by decide +kernel
theorem dm_134_156 : decode cm_134 156 = .ok (.iconst 0, 1) := by decide +kernel
theorem dm_134_157 : decode cm_134 157 = .ok (.iload_n 2, 1) := by decide +kernel
theorem dm_134_158 : decode cm_134 158 = .ok (.invokestatic 56, 3) := by decide +kernel
theorem dm_134_161 : decode cm_134 161 = .ok (.aload_n 0, 1) := by decide +kernel
theorem dm_134_162 : decode cm_134 162 = .ok (.iload 7, 2) := by decide +kernel
theorem dm_134_164 : decode cm_134 164 = .ok (.invokestatic 59, 3) := by decide +kernel
theorem dm_134_167 : decode cm_134 167 = .ok (.iadd, 1) := by decide +kernel
theorem dm_134_168 : decode cm_134 168 = .ok (.invokestatic 26, 3) := by decide +kernel
theorem dm_134_171 : decode cm_134 171 = .ok (.invokevirtual 30, 3) := by decide +kernel
theorem dm_134_174 : decode cm_134 174 = .ok (.pop, 1) := by decide +kernel
theorem dm_134_175 : decode cm_134 175 = .ok (.goto 65, 3) := by decide +kernel
theorem dm_134_178 : decode cm_134 178 = .ok (.aload_n 3, 1) := by decide +kernel
theorem dm_134_179 : decode cm_134 179 = .ok (.iload 4, 2) := by decide +kernel
theorem dm_134_181 : decode cm_134 181 = .ok (.iload 5, 2) := by decide +kernel
theorem dm_134_183 : decode cm_134 183 = .ok (.iload 6, 2) := by decide +kernel
theorem dm_134_185 : decode cm_134 185 = .ok (.aload_n 0, 1) := by decide +kernel
theorem dm_134_186 : decode cm_134 186 = .ok (.iload 7, 2) := by decide +kernel
theorem dm_134_188 : decode cm_134 188 = .ok (.aload_n 3, 1) := by decide +kernel
theorem dm_134_189 : decode cm_134 189 = .ok (.invokestatic 63, 3) := by decide +kernel
theorem dm_134_192 : decode cm_134 192 = .ok (.invokestatic 26, 3) := by decide +kernel
theorem dm_134_195 : decode cm_134 195 = .ok (.invokevirtual 30, 3) := by decide +kernel
theorem dm_134_198 : decode cm_134 198 = .ok (.pop, 1) := by decide +kernel
theorem dm_134_199 : decode cm_134 199 = .ok (.goto 41, 3) := by decide +kernel
theorem dm_134_202 : decode cm_134 202 = .ok (.aload_n 3, 1) := by decide +kernel
theorem dm_134_203 : decode cm_134 203 = .ok (.iload 4, 2) := by decide +kernel
theorem dm_134_205 : decode cm_134 205 = .ok (.iconst 0, 1) := by decide +kernel
theorem dm_134_206 : decode cm_134 206 = .ok (.iconst 0, 1) := by decide +kernel
theorem dm_134_207 : decode cm_134 207 = .ok (.aload_n 0, 1) := by decide +kernel
theorem dm_134_208 : decode cm_134 208 = .ok (.iload 7, 2) := by decide +kernel
theorem dm_134_210 : decode cm_134 210 = .ok (.aload_n 3, 1) := by decide +kernel
theorem dm_134_211 : decode cm_134 211 = .ok (.invokestatic 63, 3) := by decide +kernel
theorem dm_134_214 : decode cm_134 214 = .ok (.invokestatic 26, 3) := by decide +kernel
theorem dm_134_217 : decode cm_134 217 = .ok (.invokevirtual 30, 3) := by decide +kernel
theorem dm_134_220 : decode cm_134 220 = .ok (.pop, 1) := by decide +kernel
