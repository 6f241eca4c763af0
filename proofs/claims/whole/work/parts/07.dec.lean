theorem dm_134_221 : decode cm_134 221 = .ok (.goto 19, 3) := by decide +kernel
theorem dm_134_224 : decode cm_134 224 = .ok (.aload_n 3, 1) := by decide +kernel
theorem dm_134_225 : decode cm_134 225 = .ok (.iload 4, 2) := by decide +kernel
theorem dm_134_227 : decode cm_134 227 = .ok (.iload 5, 2) := by decide +kernel
theorem dm_134_229 : decode cm_134 229 = .ok (.iload 6, 2) := by decide +kernel
theorem dm_134_231 : decode cm_134 231 = .ok (.iload 7, 2) := by decide +kernel
theorem dm_134_233 : decode cm_134 233 = .ok (.invokestatic 67, 3) := by decide +kernel
theorem dm_134_236 : decode cm_134 236 = .ok (.invokevirtual 30, 3) := by decide +kernel
theorem dm_134_239 : decode cm_134 239 = .ok (.pop, 1) := by decide +kernel
theorem dm_134_240 : decode cm_134 240 = .ok (.return_, 1) := by decide +kernel
theorem dm_135_0 : decode cm_135 0 = .ok (.aload_n 0, 1) := by decide +kernel
theorem dm_135_1 : decode cm_135 1 = .ok (.bipush 6, 2) := by decide +kernel
theorem dm_135_3 : decode cm_135 3 = .ok (.iload_n 1, 1) := by decide +kernel
theorem dm_135_4 : decode cm_135 4 = .ok (.iload_n 2, 1) := by decide +kernel
theorem dm_135_5 : decode cm_135 5 = .ok (.iload_n 3, 1) := by decide +kernel
theorem dm_135_6 : decode cm_135 6 = .ok (.invokestatic 26, 3) := by decide +kernel
theorem dm_135_9 : decode cm_135 9 = .ok (.invokevirtual 30, 3) := by decide +kernel
theorem dm_135_12 : decode cm_135 12 = .ok (.pop, 1) := by decide +kernel
theorem dm_135_13 : decode cm_135 13 = .ok (.aload_n 0, 1) := by decide +kernel
theorem dm_135_14 : decode cm_135 14 = .ok (.bipush 7, 2) := by decide +kernel
theorem dm_135_16 : decode cm_135 16 = .ok (.iload_n 1, 1) := by decide +kernel
theorem dm_135_17 : decode cm_135 17 = .ok (.iload_n 1, 1) := by decide +kernel
theorem dm_135_18 : decode cm_135 18 = .ok (.iload 4, 2) := by decide +kernel
theorem dm_135_20 : decode cm_135 20 = .ok (.invokestatic 26, 3) := by decide +kernel
theorem dm_135_23 : decode cm_135 23 = .ok (.invokevirtual 30, 3) := by decide +kernel
theorem dm_135_26 : decode cm_135 26 = .ok (.pop, 1) := by decide +kernel
theorem dm_135_27 : decode cm_135 27 = .ok (.return_, 1) := by decide +kernel
theorem dm_136_0 : decode cm_136 0 = .ok (.aload_n 0, 1) := by decide +kernel
theorem dm_136_1 : decode cm_136 1 = .ok (.aload_n 0, 1) := by decide +kernel
theorem dm_136_2 : decode cm_136 2 = .ok (.iload_n 1, 1) := by decide +kernel
theorem dm_136_3 : decode cm_136 3 = .ok (.invokevirtual 70, 3) := by decide +kernel
theorem dm_136_6 : decode cm_136 6 = .ok (.invokevirtual 73, 3) := by decide +kernel
theorem dm_136_9 : decode cm_136 9 = .ok (.ireturn, 1) := by decide +kernel
theorem dm_137_0 : decode cm_137 0 = .ok (.aload_n 0, 1) := by decide +kernel
theorem dm_137_1 : decode cm_137 1 = .ok (.iload_n 1, 1) := by decide +kernel
theorem dm_137_2 : decode cm_137 2 = .ok (.invokestatic 59, 3) := by decide +kernel
theorem dm_137_5 : decode cm_137 5 = .ok (.aload_n 2, 1) := by decide +kernel
theorem dm_137_6 : decode cm_137 6 = .ok (.invokevirtual 76, 3) := by decide +kernel
theorem dm_137_9 : decode cm_137 9 = .ok (.iconst 1, 1) := by decide +kernel
theorem dm_137_10 : decode cm_137 10 = .ok (.iadd, 1) := by decide +kernel
theorem dm_137_11 : decode cm_137 11 = .ok (.isub, 1) := by decide +kernel
theorem dm_137_12 : decode cm_137 12 = .ok (.ireturn, 1) := by decide +kernel
theorem dm_138_0 : decode cm_138 0 = .ok (.iload_n 0, 1) := by decide +kernel
theorem dm_138_1 : decode cm_138 1 = .ok (.tableswitch 103 1 14 #[71, 79, 87, 87, 87, 79, 79, 103, 103, 103, 103, 103, 103, 95], 71) := by decide +kernel
theorem dm_138_72 : decode cm_138 72 = .ok (.iload_n 0, 1) := by decide +kernel
theorem dm_138_73 : decode cm_138 73 = .ok (.iload_n 1, 1) := by decide +kernel
theorem dm_138_74 : decode cm_138 74 = .ok (.iconst 0, 1) := by decide +kernel
theorem dm_138_75 : decode cm_138 75 = .ok (.iload_n 3, 1) := by decide +kernel
theorem dm_138_76 : decode cm_138 76 = .ok (.invokestatic 26, 3) := by decide +kernel
theorem dm_138_79 : decode cm_138 79 = .ok (.ireturn, 1) := by decide +kernel
theorem dm_138_80 : decode cm_138 80 = .ok (.iload_n 0, 1) := by decide +kernel
theorem dm_138_81 : decode cm_138 81 = .ok (.iload_n 1, 1) := by decide +kernel
theorem dm_138_82 : decode cm_138 82 = .ok (.iload_n 2, 1) := by decide +kernel
theorem dm_138_83 : decode cm_138 83 = .ok (.iload_n 3, 1) := by decide +kernel
theorem dm_138_84 : decode cm_138 84 = .ok (.invokestatic 26, 3) := by decide +kernel
theorem dm_138_87 : decode cm_138 87 = .ok (.ireturn, 1) := by decide +kernel
theorem dm_138_88 : decode cm_138 88 = .ok (.iload_n 0, 1) := by decide +kernel
theorem dm_138_89 : decode cm_138 89 = .ok (.iload_n 1, 1) := by decide +kernel
theorem dm_138_90 : decode cm_138 90 = .ok (.iload_n 2, 1) := by decide +kernel
theorem dm_138_91 : decode cm_138 91 = .ok (.iconst 0, 1) := by decide +kernel
theorem dm_138_92 : decode cm_138 92 = .ok (.invokestatic 26, 3) := by decide +kernel
theorem dm_138_95 : decode cm_138 95 = .ok (.ireturn, 1) := by decide +kernel
theorem dm_138_96 : decode cm_138 96 = .ok (.iload_n 0, 1) := by decide +kernel
theorem dm_138_97 : decode cm_138 97 = .ok (.iconst 0, 1) := by decide +kernel
theorem dm_138_98 : decode cm_138 98 = .ok (.iconst 0, 1) := by decide +kernel
theorem dm_138_99 : decode cm_138 99 = .ok (.iload_n 3, 1) := by decide +kernel
theorem dm_138_100 : decode cm_138 100 = .ok (.invokestatic 26, 3) := by decide +kernel
theorem dm_138_103 : decode cm_138 103 = .ok (.ireturn, 1) := by decide +kernel
theorem dm_138_104 : decode cm_138 104 = .ok (.iconst 0, 1) := by decide +kernel
theorem dm_138_105 : decode cm_138 105 = .ok (.iconst 0, 1) := by decide +kernel
theorem dm_138_106 : decode cm_138 106 = .ok (.iconst 0, 1) := by decide +kernel
theorem dm_138_107 : decode cm_138 107 = .ok (.iconst 0, 1) := by decide +kernel
theorem dm_138_108 : decode cm_138 108 = .ok (.invokestatic 26, 3) := by decide +kernel
theorem dm_138_111 : decode cm_138 111 = .ok (.ireturn, 1) := by decide +kernel
theorem dm_139_0 : decode cm_139 0 = .ok (.iconst 0, 1) := by decide +kernel
theorem dm_139_1 : decode cm_139 1 = .ok (.istore_n 2, 1) := by decide +kernel
theorem dm_139_2 : decode cm_139 2 = .ok (.iload_n 2, 1) := by decide +kernel
theorem dm_139_3 : decode cm_139 3 = .ok (.aload_n 0, 1) := by decide +kernel
theorem dm_139_4 : decode cm_139 4 = .ok (.invokevirtual 7, 3) := by decide +kernel
theorem dm_139_7 : decode cm_139 7 = .ok (.if_icmp .ge 28, 3) := by decide +kernel
theorem dm_139_10 : decode cm_139 10 = .ok (.aload_n 0, 1) := by decide +kernel
theorem dm_139_11 : decode cm_139 11 = .ok (.iload_n 2, 1) := by decide +kernel
theorem dm_139_12 : decode cm_139 12 = .ok (.invokestatic 13, 3) := by decide +kernel
theorem dm_139_15 : decode cm_139 15 = .ok (.ifCond .eq 12, 3) := by decide +kernel
theorem dm_139_18 : decode cm_139 18 = .ok (.aload_n 0, 1) := by decide +kernel
theorem dm_139_19 : decode cm_139 19 = .ok (.iload_n 2, 1) := by decide +kernel
theorem dm_139_20 : decode cm_139 20 = .ok (.iload_n 1, 1) := by decide +kernel
theorem dm_139_21 : decode cm_139 21 = .ok (.invokestatic 19, 3) := by decide +kernel
theorem dm_139_24 : decode cm_139 24 = .ok (.ifCond .ne 5, 3) := by decide +kernel
theorem dm_139_27 : decode cm_139 27 = .ok (.iload_n 2, 1) := by decide +kernel
theorem dm_139_28 : decode cm_139 28 = .ok (.ireturn, 1) := by decide +kernel
theorem dm_139_29 : decode cm_139 29 = .ok (.iinc 2 1, 3) := by decide +kernel
theorem dm_139_32 : decode cm_139 32 = .ok (.goto (-30), 3) := by decide +kernel
theorem dm_139_35 : decode cm_139 35 = .ok (.iconst (-1), 1) := by decide +kernel
theorem dm_139_36 : decode cm_139 36 = .ok (.ireturn, 1) := by decide +kernel
theorem dm_140_0 : decode cm_140 0 = .ok (.aload_n 0, 1) := by decide +kernel
theorem dm_140_1 : decode cm_140 1 = .ok (.iload_n 1, 1) := by decide +kernel
theorem dm_140_2 : decode cm_140 2 = .ok (.invokevirtual 23, 3) := by decide +kernel
theorem dm_140_5 : decode cm_140 5 = .ok (.istore_n 2, 1) := by decide +kernel
theorem dm_140_6 : decode cm_140 6 = .ok (.iload_n 2, 1) := by decide +kernel
theorem dm_140_7 : decode cm_140 7 = .ok (.invokestatic 27, 3) := by decide +kernel
theorem dm_140_10 : decode cm_140 10 = .ok (.istore_n 3, 1) := by decide +kernel
theorem dm_140_11 : decode cm_140 11 = .ok (.iload_n 2, 1) := by decide +kernel
theorem dm_140_12 : decode cm_140 12 = .ok (.invokestatic 32, 3) := by decide +kernel
theorem dm_140_15 : decode cm_140 15 = .ok (.tableswitch 112 8 15 #[45, 45, 64, 64, 64, 90, 105, 110], 45) := by decide +kernel
theorem dm_140_60 : decode cm_140 60 = .ok (.iload_n 2, 1) := by decide +kernel
theorem dm_140_61 : decode cm_140 61 = .ok (.invokestatic 35, 3) := by decide +kernel
theorem dm_140_64 : decode cm_140 64 = .ok (.bipush 6, 2) := by decide +kernel
theorem dm_140_66 : decode cm_140 66 = .ok (.if_icmp .ne 11, 3) := by decide +kernel
theorem dm_140_69 : decode cm_140 69 = .ok (.iload_n 3, 1) := by decide +kernel
theorem dm_140_70 : decode cm_140 70 = .ok (.ifCond .ne 7, 3) := by decide +kernel
theorem dm_140_73 : decode cm_140 73 = .ok (.iconst 1, 1) := by decide +kernel
theorem dm_140_74 : decode cm_140 74 = .ok (.goto 4, 3) := by decide +kernel
theorem dm_140_77 : decode cm_140 77 = .ok (.iconst 0, 1) := by decide +kernel
theorem dm_140_78 : decode cm_140 78 = .ok (.ireturn, 1) := by decide +kernel
theorem dm_140_79 : decode cm_140 79 = .ok (.iload_n 1, 1) := by decide +kernel
theorem dm_140_80 : decode cm_140 80 = .ok (.iconst 1, 1) := by decide +kernel
theorem dm_140_81 : decode cm_140 81 = .ok (.iadd, 1) := by decide +kernel
theorem dm_140_82 : decode cm_140 82 = .ok (.iload_n 3, 1) := by decide +kernel
theorem dm_140_83 : decode cm_140 83 = .ok (.iadd, 1) := by decide +kernel
theorem dm_140_84 : decode cm_140 84 = .ok (.ifCond .lt 19, 3) := by decide +kernel
theorem dm_140_87 : decode cm_140 87 = .ok (.iload_n 1, 1) := by decide +kernel
theorem dm_140_88 : decode cm_140 88 = .ok (.iconst 1, 1) := by decide +kernel
theorem dm_140_89 : decode cm_140 89 = .ok (.iadd, 1) := by decide +kernel
theorem dm_140_90 : decode cm_140 90 = .ok (.iload_n 3, 1) := by decide +kernel
theorem dm_140_91 : decode cm_140 91 = .ok (.iadd, 1) := by decide +kernel
theorem dm_140_92 : decode cm_140 92 = .ok (.aload_n 0, 1) := by decide +kernel
theorem dm_140_93 : decode cm_140 93 = .ok (.invokevirtual 7, 3) := by decide +kernel
theorem dm_140_96 : decode cm_140 96 = .ok (.if_icmp .ge 7, 3) := by decide +kernel
theorem dm_140_99 : decode cm_140 99 = .ok (.iconst 1, 1) := by decide +kernel
theorem dm_140_100 : decode cm_140 100 = .ok (.goto 4, 3) := by decide +kernel
theorem dm_140_103 : decode cm_140 103 = .ok (.iconst 0, 1) := by decide +kernel
theorem dm_140_104 : decode cm_140 104 = .ok (.ireturn, 1) := by decide +kernel
theorem dm_140_105 : decode cm_140 105 = .ok (.iload_n 2, 1) := by decide +kernel
theorem dm_140_106 : decode cm_140 106 = .ok (.invokestatic 40, 3) := by decide +kernel
theorem dm_140_109 : decode cm_140 109 = .ok (.bipush 7, 2) := by decide +kernel
theorem dm_140_111 : decode cm_140 111 = .ok (.if_icmp .ne 7, 3) := by decide +kernel
theorem dm_140_114 : decode cm_140 114 = .ok (.iconst 1, 1) := by decide +kernel
theorem dm_140_115 : decode cm_140 115 = .ok (.goto 4, 3) := by decide +kernel
theorem dm_140_118 : decode cm_140 118 = .ok (.iconst 0, 1) := by decide +kernel
theorem dm_140_119 : decode cm_140 119 = .ok (.ireturn, 1) := by decide +kernel
theorem dm_140_120 : decode cm_140 120 = .ok (.iload_n 3, 1) := by decide +kernel
theorem dm_140_121 : decode cm_140 121 = .ok (.invokestatic 43, 3) := by decide +kernel
theorem dm_140_124 : decode cm_140 124 = .ok (.ireturn, 1) := by decide +kernel
theorem dm_140_125 : decode cm_140 125 = .ok (.iconst 0, 1) := by decide +kernel
theorem dm_140_126 : decode cm_140 126 = .ok (.ireturn, 1) := by decide +kernel
theorem dm_140_127 : decode cm_140 127 = .ok (.iconst 1, 1) := by decide +kernel
theorem dm_140_128 : decode cm_140 128 = .ok (.ireturn, 1) := by decide +kernel
theorem dm_141_0 : decode cm_141 0 = .ok (.aload_n 0, 1) := by decide +kernel
theorem dm_141_1 : decode cm_141 1 = .ok (.iload_n 1, 1) := by decide +kernel
theorem dm_141_2 : decode cm_141 2 = .ok (.invokevirtual 23, 3) := by decide +kernel
theorem dm_141_5 : decode cm_141 5 = .ok (.invokestatic 32, 3) := by decide +kernel
theorem dm_141_8 : decode cm_141 8 = .ok (.istore_n 3, 1) := by decide +kernel
theorem dm_141_9 : decode cm_141 9 = .ok (.aload_n 0, 1) := by decide +kernel
theorem dm_141_10 : decode cm_141 10 = .ok (.iload_n 1, 1) := by decide +kernel
theorem dm_141_11 : decode cm_141 11 = .ok (.invokevirtual 23, 3) := by decide +kernel
theorem dm_141_14 : decode cm_141 14 = .ok (.invokestatic 40, 3) := by decide +kernel
theorem dm_141_17 : decode cm_141 17 = .ok (.istore 4, 2) := by decide +kernel
theorem dm_141_19 : decode cm_141 19 = .ok (.iload_n 3, 1) := by decide +kernel
theorem dm_141_20 : decode cm_141 20 = .ok (.iconst 1, 1) := by decide +kernel
theorem dm_141_21 : decode cm_141 21 = .ok (.if_icmp .lt 9, 3) := by decide +kernel
theorem dm_141_24 : decode cm_141 24 = .ok (.iload_n 3, 1) := by decide +kernel
theorem dm_141_25 : decode cm_141 25 = .ok (.bipush 8, 2) := by decide +kernel
theorem dm_141_27 : decode cm_141 27 = .ok (.if_icmp .le 5, 3) := by decide +kernel
theorem dm_141_30 : decode cm_141 30 = .ok (.iconst 1, 1) := by decide +kernel
theorem dm_141_31 : decode cm_141 31 = .ok (.ireturn, 1) := by decide +kernel
theorem dm_141_32 : decode cm_141 32 = .ok (.iload 4, 2) := by decide +kernel
theorem dm_141_34 : decode cm_141 34 = .ok (.bipush 6, 2) := by decide +kernel
theorem dm_141_36 : decode cm_141 36 = .ok (.if_icmp .ne 15, 3) := by decide +kernel
theorem dm_141_39 : decode cm_141 39 = .ok (.aload_n 0, 1) := by decide +kernel
theorem dm_141_40 : decode cm_141 40 = .ok (.iload_n 1, 1) := by decide +kernel
theorem dm_141_41 : decode cm_141 41 = .ok (.bipush 15, 2) := by decide +kernel
theorem dm_141_43 : decode cm_141 43 = .ok (.iload_n 2, 1) := by decide +kernel
theorem dm_141_44 : decode cm_141 44 = .ok (.invokestatic 49, 3) := by decide +kernel
theorem dm_141_47 : decode cm_141 47 = .ok (.invokestatic 52, 3) := by decide +kernel
theorem dm_141_50 : decode cm_141 50 = .ok (.ireturn, 1) := by decide +kernel
theorem dm_141_51 : decode cm_141 51 = .ok (.iload 4, 2) := by decide +kernel
theorem dm_141_53 : decode cm_141 53 = .ok (.bipush 7, 2) := by decide +kernel
theorem dm_141_55 : decode cm_141 55 = .ok (.if_icmp .ne 15, 3) := by decide +kernel
theorem dm_141_58 : decode cm_141 58 = .ok (.aload_n 0, 1) := by decide +kernel
theorem dm_141_59 : decode cm_141 59 = .ok (.iload_n 1, 1) := by decide +kernel
theorem dm_141_60 : decode cm_141 60 = .ok (.bipush 31, 2) := by decide +kernel
theorem dm_141_62 : decode cm_141 62 = .ok (.iload_n 2, 1) := by decide +kernel
theorem dm_141_63 : decode cm_141 63 = .ok (.invokestatic 56, 3) := by decide +kernel
theorem dm_141_66 : decode cm_141 66 = .ok (.invokestatic 52, 3) := by decide +kernel
theorem dm_141_69 : decode cm_141 69 = .ok (.ireturn, 1) := by decide +kernel
theorem dm_141_70 : decode cm_141 70 = .ok (.iconst 1, 1) := by decide +kernel
theorem dm_141_71 : decode cm_141 71 = .ok (.ireturn, 1) := by decide +kernel
theorem dm_142_0 : decode cm_142 0 = .ok (.aload_n 0, 1) := by decide +kernel
theorem dm_142_1 : decode cm_142 1 = .ok (.iload_n 1, 1) := by decide +kernel
theorem dm_142_2 : decode cm_142 2 = .ok (.invokevirtual 23, 3) := by decide +kernel
theorem dm_142_5 : decode cm_142 5 = .ok (.istore 4, 2) := by decide +kernel
theorem dm_142_7 : decode cm_142 7 = .ok (.iload 4, 2) := by decide +kernel
theorem dm_142_9 : decode cm_142 9 = .ok (.invokestatic 40, 3) := by decide +kernel
theorem dm_142_12 : decode cm_142 12 = .ok (.istore 5, 2) := by decide +kernel
theorem dm_142_14 : decode cm_142 14 = .ok (.bipush 7, 2) := by decide +kernel
theorem dm_142_16 : decode cm_142 16 = .ok (.iload 5, 2) := by decide +kernel
theorem dm_142_18 : decode cm_142 18 = .ok (.iload 5, 2) := by decide +kernel
theorem dm_142_20 : decode cm_142 20 = .ok (.iload_n 3, 1) := by decide +kernel
theorem dm_142_21 : decode cm_142 21 = .ok (.invokestatic 59, 3) := by decide +kernel
theorem dm_142_24 : decode cm_142 24 = .ok (.istore 6, 2) := by decide +kernel
theorem dm_142_26 : decode cm_142 26 = .ok (.iload 4, 2) := by decide +kernel
theorem dm_142_28 : decode cm_142 28 = .ok (.iload 6, 2) := by decide +kernel
theorem dm_142_30 : decode cm_142 30 = .ok (.if_icmp .ne 5, 3) := by decide +kernel
theorem dm_142_33 : decode cm_142 33 = .ok (.iconst 1, 1) := by decide +kernel
theorem dm_142_34 : decode cm_142 34 = .ok (.ireturn, 1) := by decide +kernel
theorem dm_142_35 : decode cm_142 35 = .ok (.iload 4, 2) := by decide +kernel
theorem dm_142_37 : decode cm_142 37 = .ok (.invokestatic 32, 3) := by decide +kernel
theorem dm_142_40 : decode cm_142 40 = .ok (.bipush 6, 2) := by decide +kernel
theorem dm_142_42 : decode cm_142 42 = .ok (.if_icmp .ne 28, 3) := by decide +kernel
theorem dm_142_45 : decode cm_142 45 = .ok (.iload 4, 2) := by decide +kernel
theorem dm_142_47 : decode cm_142 47 = .ok (.invokestatic 27, 3) := by decide +kernel
theorem dm_142_50 : decode cm_142 50 = .ok (.iload_n 2, 1) := by decide +kernel
theorem dm_142_51 : decode cm_142 51 = .ok (.if_icmp .ne 19, 3) := by decide +kernel
theorem dm_142_54 : decode cm_142 54 = .ok (.aload_n 0, 1) := by decide +kernel
theorem dm_142_55 : decode cm_142 55 = .ok (.iload_n 1, 1) := by decide +kernel
theorem dm_142_56 : decode cm_142 56 = .ok (.iconst 1, 1) := by decide +kernel
theorem dm_142_57 : decode cm_142 57 = .ok (.iadd, 1) := by decide +kernel
theorem dm_142_58 : decode cm_142 58 = .ok (.invokevirtual 23, 3) := by decide +kernel
theorem dm_142_61 : decode cm_142 61 = .ok (.iload 6, 2) := by decide +kernel
theorem dm_142_63 : decode cm_142 63 = .ok (.if_icmp .ne 7, 3) := by decide +kernel
theorem dm_142_66 : decode cm_142 66 = .ok (.iconst 1, 1) := by decide +kernel
theorem dm_142_67 : decode cm_142 67 = .ok (.goto 4, 3) := by decide +kernel
theorem dm_142_70 : decode cm_142 70 = .ok (.iconst 0, 1) := by decide +kernel
theorem dm_142_71 : decode cm_142 71 = .ok (.ireturn, 1) := by decide +kernel
theorem dm_143_0 : decode cm_143 0 = .ok (.iload_n 0, 1) := by decide +kernel
theorem dm_143_1 : decode cm_143 1 = .ok (.bipush 15, 2) := by decide +kernel
theorem dm_143_3 : decode cm_143 3 = .ok (.iand, 1) := by decide +kernel
theorem dm_143_4 : decode cm_143 4 = .ok (.ireturn, 1) := by decide +kernel
theorem dm_144_0 : decode cm_144 0 = .ok (.iload_n 0, 1) := by decide +kernel
theorem dm_144_1 : decode cm_144 1 = .ok (.iconst 4, 1) := by decide +kernel
theorem dm_144_2 : decode cm_144 2 = .ok (.ishr, 1) := by decide +kernel
theorem dm_144_3 : decode cm_144 3 = .ok (.bipush 7, 2) := by decide +kernel
theorem dm_144_5 : decode cm_144 5 = .ok (.iand, 1) := by decide +kernel
theorem dm_144_6 : decode cm_144 6 = .ok (.ireturn, 1) := by decide +kernel
theorem dm_145_0 : decode cm_145 0 = .ok (.iload_n 0, 1) := by decide +kernel
theorem dm_145_1 : decode cm_145 1 = .ok (.bipush 7, 2) := by decide +kernel
theorem dm_145_3 : decode cm_145 3 = .ok (.ishr, 1) := by decide +kernel
theorem dm_145_4 : decode cm_145 4 = .ok (.bipush 7, 2) := by decide +kernel
theorem dm_145_6 : decode cm_145 6 = .ok (.iand, 1) := by decide +kernel
theorem dm_145_7 : decode cm_145 7 = .ok (.ireturn, 1) := by decide +kernel
theorem dm_146_0 : decode cm_146 0 = .ok (.iload_n 0, 1) := by decide +kernel
theorem dm_146_1 : decode cm_146 1 = .ok (.bipush 10, 2) := by decide +kernel
theorem dm_146_3 : decode cm_146 3 = .ok (.ishr, 1) := by decide +kernel
theorem dm_146_4 : decode cm_146 4 = .ok (.ireturn, 1) := by decide +kernel
theorem dm_147_0 : decode cm_147 0 = .ok (.iload_n 3, 1) := by decide +kernel
theorem dm_147_1 : decode cm_147 1 = .ok (.bipush 10, 2) := by decide +kernel
theorem dm_147_3 : decode cm_147 3 = .ok (.ishl, 1) := by decide +kernel
theorem dm_147_4 : decode cm_147 4 = .ok (.iload_n 2, 1) := by decide +kernel
theorem dm_147_5 : decode cm_147 5 = .ok (.bipush 7, 2) := by decide +kernel
theorem dm_147_7 : decode cm_147 7 = .ok (.ishl, 1) := by decide +kernel
theorem dm_147_8 : decode cm_147 8 = .ok (.ior, 1) := by decide +kernel
theorem dm_147_9 : decode cm_147 9 = .ok (.iload_n 1, 1) := by decide +kernel
theorem dm_147_10 : decode cm_147 10 = .ok (.iconst 4, 1) := by decide +kernel
theorem dm_147_11 : decode cm_147 11 = .ok (.ishl, 1) := by decide +kernel
theorem dm_147_12 : decode cm_147 12 = .ok (.ior, 1) := by decide +kernel
theorem dm_147_13 : decode cm_147 13 = .ok (.iload_n 0, 1) := by decide +kernel
theorem dm_147_14 : decode cm_147 14 = .ok (.ior, 1) := by decide +kernel
theorem dm_147_15 : decode cm_147 15 = .ok (.ireturn, 1) := by decide +kernel
theorem dm_148_0 : decode cm_148 0 = .ok (.iload_n 0, 1) := by decide +kernel
theorem dm_148_1 : decode cm_148 1 = .ok (.tableswitch 69 1 7 #[43, 45, 49, 53, 57, 61, 65], 43) := by decide +kernel
theorem dm_148_44 : decode cm_148 44 = .ok (.iload_n 3, 1) := by decide +kernel
theorem dm_148_45 : decode cm_148 45 = .ok (.ireturn, 1) := by decide +kernel
theorem dm_148_46 : decode cm_148 46 = .ok (.iload_n 2, 1) := by decide +kernel
theorem dm_148_47 : decode cm_148 47 = .ok (.iload_n 3, 1) := by decide +kernel
theorem dm_148_48 : decode cm_148 48 = .ok (.iadd, 1) := by decide +kernel
theorem dm_148_49 : decode cm_148 49 = .ok (.ireturn, 1) := by decide +kernel
theorem dm_148_50 : decode cm_148 50 = .ok (.iload_n 1, 1) := by decide +kernel
theorem dm_148_51 : decode cm_148 51 = .ok (.iload_n 2, 1) := by decide +kernel
theorem dm_148_52 : decode cm_148 52 = .ok (.iadd, 1) := by decide +kernel
theorem dm_148_53 : decode cm_148 53 = .ok (.ireturn, 1) := by decide +kernel
theorem dm_148_54 : decode cm_148 54 = .ok (.iload_n 1, 1) := by decide +kernel
theorem dm_148_55 : decode cm_148 55 = .ok (.iload_n 2, 1) := by decide +kernel
theorem dm_148_56 : decode cm_148 56 = .ok (.isub, 1) := by decide +kernel
theorem dm_148_57 : decode cm_148 57 = .ok (.ireturn, 1) := by decide +kernel
theorem dm_148_58 : decode cm_148 58 = .ok (.iload_n 1, 1) := by decide +kernel
theorem dm_148_59 : decode cm_148 59 = .ok (.iload_n 2, 1) := by decide +kernel
theorem dm_148_60 : decode cm_148 60 = .ok (.ixor, 1) := by decide +kernel
theorem dm_148_61 : decode cm_148 61 = .ok (.ireturn, 1) := by decide +kernel
theorem dm_148_62 : decode cm_148 62 = .ok (.iload_n 2, 1) := by decide +kernel
theorem dm_148_63 : decode cm_148 63 = .ok (.iload_n 3, 1) := by decide +kernel
theorem dm_148_64 : decode cm_148 64 = .ok (.iand, 1) := by decide +kernel
theorem dm_148_65 : decode cm_148 65 = .ok (.ireturn, 1) := by decide +kernel
theorem dm_148_66 : decode cm_148 66 = .ok (.iload_n 2, 1) := by decide +kernel
theorem dm_148_67 : decode cm_148 67 = .ok (.iload_n 3, 1) := by decide +kernel
theorem dm_148_68 : decode cm_148 68 = .ok (.ior, 1) := by decide +kernel
theorem dm_148_69 : decode cm_148 69 = .ok (.ireturn, 1) := by decide +kernel
theorem dm_148_70 : decode cm_148 70 = .ok (.iload_n 1, 1) := by decide +kernel
theorem dm_148_71 : decode cm_148 71 = .ok (.ireturn, 1) := by decide +kernel
theorem dm_149_0 : decode cm_149 0 = .ok (.iload_n 0, 1) := by decide +kernel
theorem dm_149_1 : decode cm_149 1 = .ok (.bipush 12, 2) := by decide +kernel
theorem dm_149_3 : decode cm_149 3 = .ok (.if_icmp .eq 25, 3) := by decide +kernel
theorem dm_149_6 : decode cm_149 6 = .ok (.iload_n 0, 1) := by decide +kernel
theorem dm_149_7 : decode cm_149 7 = .ok (.bipush 10, 2) := by decide +kernel
theorem dm_149_9 : decode cm_149 9 = .ok (.if_icmp .ne 8, 3) := by decide +kernel
theorem dm_149_12 : decode cm_149 12 = .ok (.iload_n 1, 1) := by decide +kernel
theorem dm_149_13 : decode cm_149 13 = .ok (.iload_n 2, 1) := by decide +kernel
theorem dm_149_14 : decode cm_149 14 = .ok (.if_icmp .eq 14, 3) := by decide +kernel
theorem dm_149_17 : decode cm_149 17 = .ok (.iload_n 0, 1) := by decide +kernel
theorem dm_149_18 : decode cm_149 18 = .ok (.bipush 11, 2) := by decide +kernel
theorem dm_149_20 : decode cm_149 20 = .ok (.if_icmp .ne 12, 3) := by decide +kernel
theorem dm_149_23 : decode cm_149 23 = .ok (.iload_n 1, 1) := by decide +kernel
theorem dm_149_24 : decode cm_149 24 = .ok (.iload_n 2, 1) := by decide +kernel
theorem dm_149_25 : decode cm_149 25 = .ok (.if_icmp .ge 7, 3) := by decide +kernel
theorem dm_149_28 : decode cm_149 28 = .ok (.iconst 1, 1) := by decide +kernel
theorem dm_149_29 : decode cm_149 29 = .ok (.goto 4, 3) := by decide +kernel
theorem dm_149_32 : decode cm_149 32 = .ok (.iconst 0, 1) := by decide +kernel
theorem dm_149_33 : decode cm_149 33 = .ok (.ireturn, 1) := by decide +kernel
theorem dm_150_0 : decode cm_150 0 = .ok (.iconst 0, 1) := by decide +kernel
theorem dm_150_1 : decode cm_150 1 = .ok (.istore_n 2, 1) := by decide +kernel
theorem dm_150_2 : decode cm_150 2 = .ok (.aload_n 0, 1) := by decide +kernel
theorem dm_150_3 : decode cm_150 3 = .ok (.arraylength, 1) := by decide +kernel
theorem dm_150_4 : decode cm_150 4 = .ok (.istore_n 3, 1) := by decide +kernel
theorem dm_150_5 : decode cm_150 5 = .ok (.iload_n 2, 1) := by decide +kernel
theorem dm_150_6 : decode cm_150 6 = .ok (.iload_n 3, 1) := by decide +kernel
theorem dm_150_7 : decode cm_150 7 = .ok (.if_icmp .ge 13, 3) := by decide +kernel
theorem dm_150_10 : decode cm_150 10 = .ok (.aload_n 0, 1) := by decide +kernel
theorem dm_150_11 : decode cm_150 11 = .ok (.iload_n 2, 1) := by decide +kernel
theorem dm_150_12 : decode cm_150 12 = .ok (.iload_n 1, 1) := by decide +kernel
theorem dm_150_13 : decode cm_150 13 = .ok (.iastore, 1) := by decide +kernel
theorem dm_150_14 : decode cm_150 14 = .ok (.iinc 2 1, 3) := by decide +kernel
theorem dm_150_17 : decode cm_150 17 = .ok (.goto (-12), 3) := by decide +kernel
theorem dm_150_20 : decode cm_150 20 = .ok (.return_, 1) := by decide +kernel
theorem dl_0 : decode code 0 = .ok (.new 7, 3) := by decide +kernel
theorem dl_3 : decode code 3 = .ok (.dup, 1) := by decide +kernel
theorem dl_4 : decode code 4 = .ok (.invokespecial 9, 3) := by decide +kernel
theorem dl_7 : decode code 7 = .ok (.astore_n 1, 1) := by decide +kernel
theorem dl_8 : decode code 8 = .ok (.new 10, 3) := by decide +kernel
theorem dl_11 : decode code 11 = .ok (.dup, 1) := by decide +kernel
theorem dl_12 : decode code 12 = .ok (.invokespecial 12, 3) := by decide +kernel
theorem dl_15 : decode code 15 = .ok (.astore_n 2, 1) := by decide +kernel
theorem dl_16 : decode code 16 = .ok (.iconst 0, 1) := by decide +kernel
theorem dl_17 : decode code 17 = .ok (.istore_n 3, 1) := by decide +kernel
theorem dl_18 : decode code 18 = .ok (.iload_n 3, 1) := by decide +kernel
theorem dl_19 : decode code 19 = .ok (.aload_n 0, 1) := by decide +kernel
theorem dl_20 : decode code 20 = .ok (.arraylength, 1) := by decide +kernel
theorem dl_21 : decode code 21 = .ok (.iconst 5, 1) := by decide +kernel
theorem dl_22 : decode code 22 = .ok (.isub, 1) := by decide +kernel
theorem dl_23 : decode code 23 = .ok (.if_icmp .gt 605, 3) := by decide +kernel
theorem dl_26 : decode code 26 = .ok (.aload_n 0, 1) := by decide +kernel
theorem dl_27 : decode code 27 = .ok (.iload_n 3, 1) := by decide +kernel
theorem dl_28 : decode code 28 = .ok (.iaload, 1) := by decide +kernel
theorem dl_29 : decode code 29 = .ok (.bipush 31, 2) := by decide +kernel
theorem dl_31 : decode code 31 = .ok (.iand, 1) := by decide +kernel
theorem dl_32 : decode code 32 = .ok (.tableswitch 590 0 17 #[88, 141, 164, 175, 198, 221, 244, 267, 290, 323, 346, 369, 392, 425, 448, 481, 524, 557], 88) := by decide +kernel
theorem dl_120 : decode code 120 = .ok (.aload_n 1, 1) := by decide +kernel
theorem dl_121 : decode code 121 = .ok (.aload_n 0, 1) := by decide +kernel
theorem dl_122 : decode code 122 = .ok (.iload_n 3, 1) := by decide +kernel
theorem dl_123 : decode code 123 = .ok (.iconst 1, 1) := by decide +kernel
theorem dl_124 : decode code 124 = .ok (.iadd, 1) := by decide +kernel
theorem dl_125 : decode code 125 = .ok (.iaload, 1) := by decide +kernel
theorem dl_126 : decode code 126 = .ok (.aload_n 0, 1) := by decide +kernel
theorem dl_127 : decode code 127 = .ok (.iload_n 3, 1) := by decide +kernel
theorem dl_128 : decode code 128 = .ok (.iconst 2, 1) := by decide +kernel
theorem dl_129 : decode code 129 = .ok (.iadd, 1) := by decide +kernel
theorem dl_130 : decode code 130 = .ok (.iaload, 1) := by decide +kernel
theorem dl_131 : decode code 131 = .ok (.aload_n 0, 1) := by decide +kernel
theorem dl_132 : decode code 132 = .ok (.iload_n 3, 1) := by decide +kernel
theorem dl_133 : decode code 133 = .ok (.iconst 3, 1) := by decide +kernel
theorem dl_134 : decode code 134 = .ok (.iadd, 1) := by decide +kernel
theorem dl_135 : decode code 135 = .ok (.iaload, 1) := by decide +kernel
theorem dl_136 : decode code 136 = .ok (.aload_n 0, 1) := by decide +kernel
theorem dl_137 : decode code 137 = .ok (.iload_n 3, 1) := by decide +kernel
theorem dl_138 : decode code 138 = .ok (.iconst 4, 1) := by decide +kernel
theorem dl_139 : decode code 139 = .ok (.iadd, 1) := by decide +kernel
theorem dl_140 : decode code 140 = .ok (.iaload, 1) := by decide +kernel
theorem dl_141 : decode code 141 = .ok (.invokevirtual 13, 3) := by decide +kernel
theorem dl_144 : decode code 144 = .ok (.aload_n 2, 1) := by decide +kernel
theorem dl_145 : decode code 145 = .ok (.aload_n 0, 1) := by decide +kernel
theorem dl_146 : decode code 146 = .ok (.iload_n 3, 1) := by decide +kernel
theorem dl_147 : decode code 147 = .ok (.iconst 1, 1) := by decide +kernel
theorem dl_148 : decode code 148 = .ok (.iadd, 1) := by decide +kernel
theorem dl_149 : decode code 149 = .ok (.iaload, 1) := by decide +kernel
theorem dl_150 : decode code 150 = .ok (.aload_n 0, 1) := by decide +kernel
theorem dl_151 : decode code 151 = .ok (.iload_n 3, 1) := by decide +kernel
theorem dl_152 : decode code 152 = .ok (.iconst 2, 1) := by decide +kernel
theorem dl_153 : decode code 153 = .ok (.iadd, 1) := by decide +kernel
theorem dl_154 : decode code 154 = .ok (.iaload, 1) := by decide +kernel
theorem dl_155 : decode code 155 = .ok (.aload_n 0, 1) := by decide +kernel
theorem dl_156 : decode code 156 = .ok (.iload_n 3, 1) := by decide +kernel
theorem dl_157 : decode code 157 = .ok (.iconst 3, 1) := by decide +kernel
theorem dl_158 : decode code 158 = .ok (.iadd, 1) := by decide +kernel
theorem dl_159 : decode code 159 = .ok (.iaload, 1) := by decide +kernel
theorem dl_160 : decode code 160 = .ok (.aload_n 0, 1) := by decide +kernel
theorem dl_161 : decode code 161 = .ok (.iload_n 3, 1) := by decide +kernel
theorem dl_162 : decode code 162 = .ok (.iconst 4, 1) := by decide +kernel
theorem dl_163 : decode code 163 = .ok (.iadd, 1) := by decide +kernel
theorem dl_164 : decode code 164 = .ok (.iaload, 1) := by decide +kernel
theorem dl_165 : decode code 165 = .ok (.invokevirtual 17, 3) := by decide +kernel
theorem dl_168 : decode code 168 = .ok (.if_icmp .eq 454, 3) := by decide +kernel
theorem dl_171 : decode code 171 = .ok (.iconst 0, 1) := by decide +kernel
theorem dl_172 : decode code 172 = .ok (.ireturn, 1) := by decide +kernel
theorem dl_173 : decode code 173 = .ok (.aload_n 1, 1) := by decide +kernel
theorem dl_174 : decode code 174 = .ok (.aload_n 0, 1) := by decide +kernel
theorem dl_175 : decode code 175 = .ok (.iload_n 3, 1) := by decide +kernel
theorem dl_176 : decode code 176 = .ok (.iconst 1, 1) := by decide +kernel
theorem dl_177 : decode code 177 = .ok (.iadd, 1) := by decide +kernel
theorem dl_178 : decode code 178 = .ok (.iaload, 1) := by decide +kernel
theorem dl_179 : decode code 179 = .ok (.invokevirtual 18, 3) := by decide +kernel
theorem dl_182 : decode code 182 = .ok (.aload_n 2, 1) := by decide +kernel
theorem dl_183 : decode code 183 = .ok (.aload_n 0, 1) := by decide +kernel
theorem dl_184 : decode code 184 = .ok (.iload_n 3, 1) := by decide +kernel
theorem dl_185 : decode code 185 = .ok (.iconst 1, 1) := by decide +kernel
theorem dl_186 : decode code 186 = .ok (.iadd, 1) := by decide +kernel
theorem dl_187 : decode code 187 = .ok (.iaload, 1) := by decide +kernel
theorem dl_188 : decode code 188 = .ok (.invokevirtual 22, 3) := by decide +kernel
theorem dl_191 : decode code 191 = .ok (.if_icmp .eq 431, 3) := by decide +kernel
theorem dl_194 : decode code 194 = .ok (.iconst 0, 1) := by decide +kernel
theorem dl_195 : decode code 195 = .ok (.ireturn, 1) := by decide +kernel
theorem dl_196 : decode code 196 = .ok (.aload_n 1, 1) := by decide +kernel
theorem dl_197 : decode code 197 = .ok (.invokevirtual 23, 3) := by decide +kernel
theorem dl_200 : decode code 200 = .ok (.aload_n 2, 1) := by decide +kernel
theorem dl_201 : decode code 201 = .ok (.invokevirtual 26, 3) := by decide +kernel
theorem dl_204 : decode code 204 = .ok (.goto 418, 3) := by decide +kernel
theorem dl_207 : decode code 207 = .ok (.aload_n 1, 1) := by decide +kernel
theorem dl_208 : decode code 208 = .ok (.aload_n 0, 1) := by decide +kernel
theorem dl_209 : decode code 209 = .ok (.iload_n 3, 1) := by decide +kernel
theorem dl_210 : decode code 210 = .ok (.iconst 1, 1) := by decide +kernel
theorem dl_211 : decode code 211 = .ok (.iadd, 1) := by decide +kernel
theorem dl_212 : decode code 212 = .ok (.iaload, 1) := by decide +kernel
theorem dl_213 : decode code 213 = .ok (.invokevirtual 27, 3) := by decide +kernel
theorem dl_216 : decode code 216 = .ok (.aload_n 2, 1) := by decide +kernel
theorem dl_217 : decode code 217 = .ok (.aload_n 0, 1) := by decide +kernel
theorem dl_218 : decode code 218 = .ok (.iload_n 3, 1) := by decide +kernel
theorem dl_219 : decode code 219 = .ok (.iconst 1, 1) := by decide +kernel
theorem dl_220 : decode code 220 = .ok (.iadd, 1) := by decide +kernel
theorem dl_221 : decode code 221 = .ok (.iaload, 1) := by decide +kernel
theorem dl_222 : decode code 222 = .ok (.invokevirtual 31, 3) := by decide +kernel
theorem dl_225 : decode code 225 = .ok (.if_icmp .eq 397, 3) := by decide +kernel
theorem dl_228 : decode code 228 = .ok (.iconst 0, 1) := by decide +kernel
theorem dl_229 : decode code 229 = .ok (.ireturn, 1) := by decide +kernel
theorem dl_230 : decode code 230 = .ok (.aload_n 1, 1) := by decide +kernel
theorem dl_231 : decode code 231 = .ok (.aload_n 0, 1) := by decide +kernel
theorem dl_232 : decode code 232 = .ok (.iload_n 3, 1) := by decide +kernel
theorem dl_233 : decode code 233 = .ok (.iconst 1, 1) := by decide +kernel
theorem dl_234 : decode code 234 = .ok (.iadd, 1) := by decide +kernel
theorem dl_235 : decode code 235 = .ok (.iaload, 1) := by decide +kernel
theorem dl_236 : decode code 236 = .ok (.invokevirtual 32, 3) := by decide +kernel
theorem dl_239 : decode code 239 = .ok (.aload_n 2, 1) := by decide +kernel
theorem dl_240 : decode code 240 = .ok (.aload_n 0, 1) := by decide +kernel
theorem dl_241 : decode code 241 = .ok (.iload_n 3, 1) := by decide +kernel
theorem dl_242 : decode code 242 = .ok (.iconst 1, 1) := by decide +kernel
theorem dl_243 : decode code 243 = .ok (.iadd, 1) := by decide +kernel
theorem dl_244 : decode code 244 = .ok (.iaload, 1) := by decide +kernel
theorem dl_245 : decode code 245 = .ok (.invokevirtual 35, 3) := by decide +kernel
theorem dl_248 : decode code 248 = .ok (.if_icmp .eq 374, 3) := by decide +kernel
theorem dl_251 : decode code 251 = .ok (.iconst 0, 1) := by decide +kernel
theorem dl_252 : decode code 252 = .ok (.ireturn, 1) := by decide +kernel
theorem dl_253 : decode code 253 = .ok (.aload_n 1, 1) := by decide +kernel
theorem dl_254 : decode code 254 = .ok (.aload_n 0, 1) := by decide +kernel
theorem dl_255 : decode code 255 = .ok (.iload_n 3, 1) := by decide +kernel
theorem dl_256 : decode code 256 = .ok (.iconst 1, 1) := by decide +kernel
theorem dl_257 : decode code 257 = .ok (.iadd, 1) := by decide +kernel
theorem dl_258 : decode code 258 = .ok (.iaload, 1) := by decide +kernel
theorem dl_259 : decode code 259 = .ok (.invokevirtual 36, 3) := by decide +kernel
theorem dl_262 : decode code 262 = .ok (.aload_n 2, 1) := by decide +kernel
theorem dl_263 : decode code 263 = .ok (.aload_n 0, 1) := by decide +kernel
theorem dl_264 : decode code 264 = .ok (.iload_n 3, 1) := by decide +kernel
theorem dl_265 : decode code 265 = .ok (.iconst 1, 1) := by decide +kernel
theorem dl_266 : decode code 266 = .ok (.iadd, 1) := by decide +kernel
theorem dl_267 : decode code 267 = .ok (.iaload, 1) := by decide +kernel
theorem dl_268 : decode code 268 = .ok (.invokevirtual 39, 3) := by decide +kernel
theorem dl_271 : decode code 271 = .ok (.if_icmp .eq 351, 3) := by decide +kernel
theorem dl_274 : decode code 274 = .ok (.iconst 0, 1) := by decide +kernel
theorem dl_275 : decode code 275 = .ok (.ireturn, 1) := by decide +kernel
theorem dl_276 : decode code 276 = .ok (.aload_n 1, 1) := by decide +kernel
theorem dl_277 : decode code 277 = .ok (.aload_n 0, 1) := by decide +kernel
theorem dl_278 : decode code 278 = .ok (.iload_n 3, 1) := by decide +kernel
theorem dl_279 : decode code 279 = .ok (.iconst 1, 1) := by decide +kernel
theorem dl_280 : decode code 280 = .ok (.iadd, 1) := by decide +kernel
theorem dl_281 : decode code 281 = .ok (.iaload, 1) := by decide +kernel
theorem dl_282 : decode code 282 = .ok (.invokevirtual 40, 3) := by decide +kernel
theorem dl_285 : decode code 285 = .ok (.aload_n 2, 1) := by decide +kernel
theorem dl_286 : decode code 286 = .ok (.aload_n 0, 1) := by decide +kernel
theorem dl_287 : decode code 287 = .ok (.iload_n 3, 1) := by decide +kernel
theorem dl_288 : decode code 288 = .ok (.iconst 1, 1) := by decide +kernel
theorem dl_289 : decode code 289 = .ok (.iadd, 1) := by decide +kernel
theorem dl_290 : decode code 290 = .ok (.iaload, 1) := by decide +kernel
theorem dl_291 : decode code 291 = .ok (.invokevirtual 43, 3) := by decide +kernel
theorem dl_294 : decode code 294 = .ok (.if_icmp .eq 328, 3) := by decide +kernel
theorem dl_297 : decode code 297 = .ok (.iconst 0, 1) := by decide +kernel
theorem dl_298 : decode code 298 = .ok (.ireturn, 1) := by decide +kernel
theorem dl_299 : decode code 299 = .ok (.aload_n 1, 1) := by decide +kernel
theorem dl_300 : decode code 300 = .ok (.aload_n 0, 1) := by decide +kernel
theorem dl_301 : decode code 301 = .ok (.iload_n 3, 1) := by decide +kernel
theorem dl_302 : decode code 302 = .ok (.iconst 1, 1) := by decide +kernel
theorem dl_303 : decode code 303 = .ok (.iadd, 1) := by decide +kernel
theorem dl_304 : decode code 304 = .ok (.iaload, 1) := by decide +kernel
theorem dl_305 : decode code 305 = .ok (.invokevirtual 44, 3) := by decide +kernel
theorem dl_308 : decode code 308 = .ok (.aload_n 2, 1) := by decide +kernel
theorem dl_309 : decode code 309 = .ok (.aload_n 0, 1) := by decide +kernel
theorem dl_310 : decode code 310 = .ok (.iload_n 3, 1) := by decide +kernel
theorem dl_311 : decode code 311 = .ok (.iconst 1, 1) := by decide +kernel
theorem dl_312 : decode code 312 = .ok (.iadd, 1) := by decide +kernel
theorem dl_313 : decode code 313 = .ok (.iaload, 1) := by decide +kernel
theorem dl_314 : decode code 314 = .ok (.invokevirtual 47, 3) := by decide +kernel
theorem dl_317 : decode code 317 = .ok (.if_icmp .eq 305, 3) := by decide +kernel
theorem dl_320 : decode code 320 = .ok (.iconst 0, 1) := by decide +kernel
theorem dl_321 : decode code 321 = .ok (.ireturn, 1) := by decide +kernel
theorem dl_322 : decode code 322 = .ok (.aload_n 1, 1) := by decide +kernel
theorem dl_323 : decode code 323 = .ok (.aload_n 0, 1) := by decide +kernel
theorem dl_324 : decode code 324 = .ok (.iload_n 3, 1) := by decide +kernel
theorem dl_325 : decode code 325 = .ok (.iconst 1, 1) := by decide +kernel
theorem dl_326 : decode code 326 = .ok (.iadd, 1) := by decide +kernel
theorem dl_327 : decode code 327 = .ok (.iaload, 1) := by decide +kernel
theorem dl_328 : decode code 328 = .ok (.aload_n 0, 1) := by decide +kernel
theorem dl_329 : decode code 329 = .ok (.iload_n 3, 1) := by decide +kernel
theorem dl_330 : decode code 330 = .ok (.iconst 2, 1) := by decide +kernel
theorem dl_331 : decode code 331 = .ok (.iadd, 1) := by decide +kernel
theorem dl_332 : decode code 332 = .ok (.iaload, 1) := by decide +kernel
theorem dl_333 : decode code 333 = .ok (.invokevirtual 48, 3) := by decide +kernel
theorem dl_336 : decode code 336 = .ok (.aload_n 2, 1) := by decide +kernel
theorem dl_337 : decode code 337 = .ok (.aload_n 0, 1) := by decide +kernel
theorem dl_338 : decode code 338 = .ok (.iload_n 3, 1) := by decide +kernel
theorem dl_339 : decode code 339 = .ok (.iconst 1, 1) := by decide +kernel
theorem dl_340 : decode code 340 = .ok (.iadd, 1) := by decide +kernel
theorem dl_341 : decode code 341 = .ok (.iaload, 1) := by decide +kernel
theorem dl_342 : decode code 342 = .ok (.aload_n 0, 1) := by decide +kernel
theorem dl_343 : decode code 343 = .ok (.iload_n 3, 1) := by decide +kernel
theorem dl_344 : decode code 344 = .ok (.iconst 2, 1) := by decide +kernel
theorem dl_345 : decode code 345 = .ok (.iadd, 1) := by decide +kernel
theorem dl_346 : decode code 346 = .ok (.iaload, 1) := by decide +kernel
theorem dl_347 : decode code 347 = .ok (.invokevirtual 52, 3) := by decide +kernel
theorem dl_350 : decode code 350 = .ok (.if_icmp .eq 272, 3) := by decide +kernel
theorem dl_353 : decode code 353 = .ok (.iconst 0, 1) := by decide +kernel
theorem dl_354 : decode code 354 = .ok (.ireturn, 1) := by decide +kernel
theorem dl_355 : decode code 355 = .ok (.aload_n 1, 1) := by decide +kernel
theorem dl_356 : decode code 356 = .ok (.aload_n 0, 1) := by decide +kernel
theorem dl_357 : decode code 357 = .ok (.iload_n 3, 1) := by decide +kernel
theorem dl_358 : decode code 358 = .ok (.iconst 1, 1) := by decide +kernel
theorem dl_359 : decode code 359 = .ok (.iadd, 1) := by decide +kernel
theorem dl_360 : decode code 360 = .ok (.iaload, 1) := by decide +kernel
theorem dl_361 : decode code 361 = .ok (.invokevirtual 53, 3) := by decide +kernel
theorem dl_364 : decode code 364 = .ok (.aload_n 2, 1) := by decide +kernel
theorem dl_365 : decode code 365 = .ok (.aload_n 0, 1) := by decide +kernel
theorem dl_366 : decode code 366 = .ok (.iload_n 3, 1) := by decide +kernel
theorem dl_367 : decode code 367 = .ok (.iconst 1, 1) := by decide +kernel
theorem dl_368 : decode code 368 = .ok (.iadd, 1) := by decide +kernel
theorem dl_369 : decode code 369 = .ok (.iaload, 1) := by decide +kernel
theorem dl_370 : decode code 370 = .ok (.invokevirtual 56, 3) := by decide +kernel
theorem dl_373 : decode code 373 = .ok (.if_icmp .eq 249, 3) := by decide +kernel
theorem dl_376 : decode code 376 = .ok (.iconst 0, 1) := by decide +kernel
theorem dl_377 : decode code 377 = .ok (.ireturn, 1) := by decide +kernel
theorem dl_378 : decode code 378 = .ok (.aload_n 1, 1) := by decide +kernel
theorem dl_379 : decode code 379 = .ok (.aload_n 0, 1) := by decide +kernel
theorem dl_380 : decode code 380 = .ok (.iload_n 3, 1) := by decide +kernel
theorem dl_381 : decode code 381 = .ok (.iconst 1, 1) := by decide +kernel
theorem dl_382 : decode code 382 = .ok (.iadd, 1) := by decide +kernel
theorem dl_383 : decode code 383 = .ok (.iaload, 1) := by decide +kernel
theorem dl_384 : decode code 384 = .ok (.invokevirtual 57, 3) := by decide +kernel
theorem dl_387 : decode code 387 = .ok (.aload_n 2, 1) := by decide +kernel
theorem dl_388 : decode code 388 = .ok (.aload_n 0, 1) := by decide +kernel
theorem dl_389 : decode code 389 = .ok (.iload_n 3, 1) := by decide +kernel
theorem dl_390 : decode code 390 = .ok (.iconst 1, 1) := by decide +kernel
theorem dl_391 : decode code 391 = .ok (.iadd, 1) := by decide +kernel
theorem dl_392 : decode code 392 = .ok (.iaload, 1) := by decide +kernel
theorem dl_393 : decode code 393 = .ok (.invokevirtual 60, 3) := by decide +kernel
theorem dl_396 : decode code 396 = .ok (.if_icmp .eq 226, 3) := by decide +kernel
theorem dl_399 : decode code 399 = .ok (.iconst 0, 1) := by decide +kernel
theorem dl_400 : decode code 400 = .ok (.ireturn, 1) := by decide +kernel
theorem dl_401 : decode code 401 = .ok (.aload_n 1, 1) := by decide +kernel
theorem dl_402 : decode code 402 = .ok (.aload_n 0, 1) := by decide +kernel
theorem dl_403 : decode code 403 = .ok (.iload_n 3, 1) := by decide +kernel
theorem dl_404 : decode code 404 = .ok (.iconst 1, 1) := by decide +kernel
theorem dl_405 : decode code 405 = .ok (.iadd, 1) := by decide +kernel
theorem dl_406 : decode code 406 = .ok (.iaload, 1) := by decide +kernel
theorem dl_407 : decode code 407 = .ok (.invokevirtual 61, 3) := by decide +kernel
theorem dl_410 : decode code 410 = .ok (.aload_n 2, 1) := by decide +kernel
theorem dl_411 : decode code 411 = .ok (.aload_n 0, 1) := by decide +kernel
theorem dl_412 : decode code 412 = .ok (.iload_n 3, 1) := by decide +kernel
theorem dl_413 : decode code 413 = .ok (.iconst 1, 1) := by decide +kernel
theorem dl_414 : decode code 414 = .ok (.iadd, 1) := by decide +kernel
theorem dl_415 : decode code 415 = .ok (.iaload, 1) := by decide +kernel
theorem dl_416 : decode code 416 = .ok (.invokevirtual 64, 3) := by decide +kernel
theorem dl_419 : decode code 419 = .ok (.if_icmp .eq 203, 3) := by decide +kernel
theorem dl_422 : decode code 422 = .ok (.iconst 0, 1) := by decide +kernel
theorem dl_423 : decode code 423 = .ok (.ireturn, 1) := by decide +kernel
theorem dl_424 : decode code 424 = .ok (.aload_n 1, 1) := by decide +kernel
theorem dl_425 : decode code 425 = .ok (.aload_n 0, 1) := by decide +kernel
theorem dl_426 : decode code 426 = .ok (.iload_n 3, 1) := by decide +kernel
theorem dl_427 : decode code 427 = .ok (.iconst 1, 1) := by decide +kernel
theorem dl_428 : decode code 428 = .ok (.iadd, 1) := by decide +kernel
theorem dl_429 : decode code 429 = .ok (.iaload, 1) := by decide +kernel
theorem dl_430 : decode code 430 = .ok (.aload_n 0, 1) := by decide +kernel
theorem dl_431 : decode code 431 = .ok (.iload_n 3, 1) := by decide +kernel
theorem dl_432 : decode code 432 = .ok (.iconst 2, 1) := by decide +kernel
theorem dl_433 : decode code 433 = .ok (.iadd, 1) := by decide +kernel
theorem dl_434 : decode code 434 = .ok (.iaload, 1) := by decide +kernel
theorem dl_435 : decode code 435 = .ok (.invokevirtual 65, 3) := by decide +kernel
theorem dl_438 : decode code 438 = .ok (.aload_n 2, 1) := by decide +kernel
theorem dl_439 : decode code 439 = .ok (.aload_n 0, 1) := by decide +kernel
theorem dl_440 : decode code 440 = .ok (.iload_n 3, 1) := by decide +kernel
theorem dl_441 : decode code 441 = .ok (.iconst 1, 1) := by decide +kernel
theorem dl_442 : decode code 442 = .ok (.iadd, 1) := by decide +kernel
theorem dl_443 : decode code 443 = .ok (.iaload, 1) := by decide +kernel
theorem dl_444 : decode code 444 = .ok (.aload_n 0, 1) := by decide +kernel
theorem dl_445 : decode code 445 = .ok (.iload_n 3, 1) := by decide +kernel
theorem dl_446 : decode code 446 = .ok (.iconst 2, 1) := by decide +kernel
theorem dl_447 : decode code 447 = .ok (.iadd, 1) := by decide +kernel
theorem dl_448 : decode code 448 = .ok (.iaload, 1) := by decide +kernel
theorem dl_449 : decode code 449 = .ok (.invokevirtual 69, 3) := by decide +kernel
theorem dl_452 : decode code 452 = .ok (.if_icmp .eq 170, 3) := by decide +kernel
theorem dl_455 : decode code 455 = .ok (.iconst 0, 1) := by decide +kernel
theorem dl_456 : decode code 456 = .ok (.ireturn, 1) := by decide +kernel
theorem dl_457 : decode code 457 = .ok (.aload_n 1, 1) := by decide +kernel
theorem dl_458 : decode code 458 = .ok (.aload_n 0, 1) := by decide +kernel
theorem dl_459 : decode code 459 = .ok (.iload_n 3, 1) := by decide +kernel
theorem dl_460 : decode code 460 = .ok (.iconst 1, 1) := by decide +kernel
theorem dl_461 : decode code 461 = .ok (.iadd, 1) := by decide +kernel
theorem dl_462 : decode code 462 = .ok (.iaload, 1) := by decide +kernel
theorem dl_463 : decode code 463 = .ok (.invokevirtual 70, 3) := by decide +kernel
theorem dl_466 : decode code 466 = .ok (.aload_n 2, 1) := by decide +kernel
theorem dl_467 : decode code 467 = .ok (.aload_n 0, 1) := by decide +kernel
theorem dl_468 : decode code 468 = .ok (.iload_n 3, 1) := by decide +kernel
theorem dl_469 : decode code 469 = .ok (.iconst 1, 1) := by decide +kernel
theorem dl_470 : decode code 470 = .ok (.iadd, 1) := by decide +kernel
theorem dl_471 : decode code 471 = .ok (.iaload, 1) := by decide +kernel
theorem dl_472 : decode code 472 = .ok (.invokevirtual 73, 3) := by decide +kernel
theorem dl_475 : decode code 475 = .ok (.if_icmp .eq 147, 3) := by decide +kernel
theorem dl_478 : decode code 478 = .ok (.iconst 0, 1) := by decide +kernel
theorem dl_479 : decode code 479 = .ok (.ireturn, 1) := by decide +kernel
theorem dl_480 : decode code 480 = .ok (.aload_n 1, 1) := by decide +kernel
theorem dl_481 : decode code 481 = .ok (.aload_n 0, 1) := by decide +kernel
theorem dl_482 : decode code 482 = .ok (.iload_n 3, 1) := by decide +kernel
theorem dl_483 : decode code 483 = .ok (.iconst 1, 1) := by decide +kernel
theorem dl_484 : decode code 484 = .ok (.iadd, 1) := by decide +kernel
theorem dl_485 : decode code 485 = .ok (.iaload, 1) := by decide +kernel
theorem dl_486 : decode code 486 = .ok (.aload_n 0, 1) := by decide +kernel
theorem dl_487 : decode code 487 = .ok (.iload_n 3, 1) := by decide +kernel
theorem dl_488 : decode code 488 = .ok (.iconst 2, 1) := by decide +kernel
theorem dl_489 : decode code 489 = .ok (.iadd, 1) := by decide +kernel
theorem dl_490 : decode code 490 = .ok (.iaload, 1) := by decide +kernel
theorem dl_491 : decode code 491 = .ok (.invokevirtual 74, 3) := by decide +kernel
theorem dl_494 : decode code 494 = .ok (.aload_n 2, 1) := by decide +kernel
theorem dl_495 : decode code 495 = .ok (.aload_n 0, 1) := by decide +kernel
theorem dl_496 : decode code 496 = .ok (.iload_n 3, 1) := by decide +kernel
theorem dl_497 : decode code 497 = .ok (.iconst 1, 1) := by decide +kernel
theorem dl_498 : decode code 498 = .ok (.iadd, 1) := by decide +kernel
theorem dl_499 : decode code 499 = .ok (.iaload, 1) := by decide +kernel
theorem dl_500 : decode code 500 = .ok (.aload_n 0, 1) := by decide +kernel
theorem dl_501 : decode code 501 = .ok (.iload_n 3, 1) := by decide +kernel
theorem dl_502 : decode code 502 = .ok (.iconst 2, 1) := by decide +kernel
theorem dl_503 : decode code 503 = .ok (.iadd, 1) := by decide +kernel
theorem dl_504 : decode code 504 = .ok (.iaload, 1) := by decide +kernel
theorem dl_505 : decode code 505 = .ok (.invokevirtual 77, 3) := by decide +kernel
theorem dl_508 : decode code 508 = .ok (.if_icmp .eq 114, 3) := by decide +kernel
theorem dl_511 : decode code 511 = .ok (.iconst 0, 1) := by decide +kernel
theorem dl_512 : decode code 512 = .ok (.ireturn, 1) := by decide +kernel
theorem dl_513 : decode code 513 = .ok (.aload_n 1, 1) := by decide +kernel
theorem dl_514 : decode code 514 = .ok (.aload_n 0, 1) := by decide +kernel
theorem dl_515 : decode code 515 = .ok (.iload_n 3, 1) := by decide +kernel
theorem dl_516 : decode code 516 = .ok (.iconst 1, 1) := by decide +kernel
theorem dl_517 : decode code 517 = .ok (.iadd, 1) := by decide +kernel
theorem dl_518 : decode code 518 = .ok (.iaload, 1) := by decide +kernel
theorem dl_519 : decode code 519 = .ok (.aload_n 0, 1) := by decide +kernel
theorem dl_520 : decode code 520 = .ok (.iload_n 3, 1) := by decide +kernel
theorem dl_521 : decode code 521 = .ok (.iconst 2, 1) := by decide +kernel
theorem dl_522 : decode code 522 = .ok (.iadd, 1) := by decide +kernel
theorem dl_523 : decode code 523 = .ok (.iaload, 1) := by decide +kernel
theorem dl_524 : decode code 524 = .ok (.aload_n 0, 1) := by decide +kernel
theorem dl_525 : decode code 525 = .ok (.iload_n 3, 1) := by decide +kernel
theorem dl_526 : decode code 526 = .ok (.iconst 3, 1) := by decide +kernel
theorem dl_527 : decode code 527 = .ok (.iadd, 1) := by decide +kernel
theorem dl_528 : decode code 528 = .ok (.iaload, 1) := by decide +kernel
theorem dl_529 : decode code 529 = .ok (.invokevirtual 78, 3) := by decide +kernel
theorem dl_532 : decode code 532 = .ok (.aload_n 2, 1) := by decide +kernel
theorem dl_533 : decode code 533 = .ok (.aload_n 0, 1) := by decide +kernel
theorem dl_534 : decode code 534 = .ok (.iload_n 3, 1) := by decide +kernel
theorem dl_535 : decode code 535 = .ok (.iconst 1, 1) := by decide +kernel
theorem dl_536 : decode code 536 = .ok (.iadd, 1) := by decide +kernel
theorem dl_537 : decode code 537 = .ok (.iaload, 1) := by decide +kernel
theorem dl_538 : decode code 538 = .ok (.aload_n 0, 1) := by decide +kernel
theorem dl_539 : decode code 539 = .ok (.iload_n 3, 1) := by decide +kernel
theorem dl_540 : decode code 540 = .ok (.iconst 2, 1) := by decide +kernel
theorem dl_541 : decode code 541 = .ok (.iadd, 1) := by decide +kernel
theorem dl_542 : decode code 542 = .ok (.iaload, 1) := by decide +kernel
theorem dl_543 : decode code 543 = .ok (.aload_n 0, 1) := by decide +kernel
theorem dl_544 : decode code 544 = .ok (.iload_n 3, 1) := by decide +kernel
theorem dl_545 : decode code 545 = .ok (.iconst 3, 1) := by decide +kernel
theorem dl_546 : decode code 546 = .ok (.iadd, 1) := by decide +kernel
theorem dl_547 : decode code 547 = .ok (.iaload, 1) := by decide +kernel
theorem dl_548 : decode code 548 = .ok (.invokevirtual 82, 3) := by decide +kernel
theorem dl_551 : decode code 551 = .ok (.if_icmp .eq 71, 3) := by decide +kernel
theorem dl_554 : decode code 554 = .ok (.iconst 0, 1) := by decide +kernel
theorem dl_555 : decode code 555 = .ok (.ireturn, 1) := by decide +kernel
theorem dl_556 : decode code 556 = .ok (.aload_n 1, 1) := by decide +kernel
theorem dl_557 : decode code 557 = .ok (.aload_n 0, 1) := by decide +kernel
theorem dl_558 : decode code 558 = .ok (.iload_n 3, 1) := by decide +kernel
theorem dl_559 : decode code 559 = .ok (.iconst 1, 1) := by decide +kernel
theorem dl_560 : decode code 560 = .ok (.iadd, 1) := by decide +kernel
theorem dl_561 : decode code 561 = .ok (.iaload, 1) := by decide +kernel
theorem dl_562 : decode code 562 = .ok (.aload_n 0, 1) := by decide +kernel
theorem dl_563 : decode code 563 = .ok (.iload_n 3, 1) := by decide +kernel
theorem dl_564 : decode code 564 = .ok (.iconst 2, 1) := by decide +kernel
theorem dl_565 : decode code 565 = .ok (.iadd, 1) := by decide +kernel
theorem dl_566 : decode code 566 = .ok (.iaload, 1) := by decide +kernel
theorem dl_567 : decode code 567 = .ok (.invokevirtual 83, 3) := by decide +kernel
theorem dl_570 : decode code 570 = .ok (.aload_n 2, 1) := by decide +kernel
theorem dl_571 : decode code 571 = .ok (.aload_n 0, 1) := by decide +kernel
theorem dl_572 : decode code 572 = .ok (.iload_n 3, 1) := by decide +kernel
theorem dl_573 : decode code 573 = .ok (.iconst 1, 1) := by decide +kernel
theorem dl_574 : decode code 574 = .ok (.iadd, 1) := by decide +kernel
theorem dl_575 : decode code 575 = .ok (.iaload, 1) := by decide +kernel
theorem dl_576 : decode code 576 = .ok (.aload_n 0, 1) := by decide +kernel
theorem dl_577 : decode code 577 = .ok (.iload_n 3, 1) := by decide +kernel
theorem dl_578 : decode code 578 = .ok (.iconst 2, 1) := by decide +kernel
theorem dl_579 : decode code 579 = .ok (.iadd, 1) := by decide +kernel
theorem dl_580 : decode code 580 = .ok (.iaload, 1) := by decide +kernel
theorem dl_581 : decode code 581 = .ok (.invokevirtual 86, 3) := by decide +kernel
theorem dl_584 : decode code 584 = .ok (.if_icmp .eq 38, 3) := by decide +kernel
theorem dl_587 : decode code 587 = .ok (.iconst 0, 1) := by decide +kernel
theorem dl_588 : decode code 588 = .ok (.ireturn, 1) := by decide +kernel
theorem dl_589 : decode code 589 = .ok (.aload_n 1, 1) := by decide +kernel
theorem dl_590 : decode code 590 = .ok (.aload_n 0, 1) := by decide +kernel
theorem dl_591 : decode code 591 = .ok (.iload_n 3, 1) := by decide +kernel
theorem dl_592 : decode code 592 = .ok (.iconst 1, 1) := by decide +kernel
theorem dl_593 : decode code 593 = .ok (.iadd, 1) := by decide +kernel
theorem dl_594 : decode code 594 = .ok (.iaload, 1) := by decide +kernel
theorem dl_595 : decode code 595 = .ok (.aload_n 0, 1) := by decide +kernel
theorem dl_596 : decode code 596 = .ok (.iload_n 3, 1) := by decide +kernel
theorem dl_597 : decode code 597 = .ok (.iconst 2, 1) := by decide +kernel
theorem dl_598 : decode code 598 = .ok (.iadd, 1) := by decide +kernel
theorem dl_599 : decode code 599 = .ok (.iaload, 1) := by decide +kernel
theorem dl_600 : decode code 600 = .ok (.invokevirtual 87, 3) := by decide +kernel
theorem dl_603 : decode code 603 = .ok (.aload_n 2, 1) := by decide +kernel
theorem dl_604 : decode code 604 = .ok (.aload_n 0, 1) := by decide +kernel
theorem dl_605 : decode code 605 = .ok (.iload_n 3, 1) := by decide +kernel
theorem dl_606 : decode code 606 = .ok (.iconst 1, 1) := by decide +kernel
theorem dl_607 : decode code 607 = .ok (.iadd, 1) := by decide +kernel
theorem dl_608 : decode code 608 = .ok (.iaload, 1) := by decide +kernel
theorem dl_609 : decode code 609 = .ok (.aload_n 0, 1) := by decide +kernel
theorem dl_610 : decode code 610 = .ok (.iload_n 3, 1) := by decide +kernel
theorem dl_611 : decode code 611 = .ok (.iconst 2, 1) := by decide +kernel
theorem dl_612 : decode code 612 = .ok (.iadd, 1) := by decide +kernel
theorem dl_613 : decode code 613 = .ok (.iaload, 1) := by decide +kernel
theorem dl_614 : decode code 614 = .ok (.invokevirtual 90, 3) := by decide +kernel
theorem dl_617 : decode code 617 = .ok (.if_icmp .eq 5, 3) := by decide +kernel
theorem dl_620 : decode code 620 = .ok (.iconst 0, 1) := by decide +kernel
theorem dl_621 : decode code 621 = .ok (.ireturn, 1) := by decide +kernel
theorem dl_622 : decode code 622 = .ok (.iinc 3 5, 3) := by decide +kernel
theorem dl_625 : decode code 625 = .ok (.goto (-607), 3) := by decide +kernel
theorem dl_628 : decode code 628 = .ok (.iconst 1, 1) := by decide +kernel
theorem dl_629 : decode code 629 = .ok (.ireturn, 1) := by decide +kernel
