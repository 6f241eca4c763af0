theorem dm_0_0 : decode cm_0 0 = .ok (.aload_n 0, 1) := by decide +kernel
theorem dm_0_1 : decode cm_0 1 = .ok (.invokespecial 1, 3) := by decide +kernel
theorem dm_0_4 : decode cm_0 4 = .ok (.aload_n 0, 1) := by decide +kernel
theorem dm_0_5 : decode cm_0 5 = .ok (.bipush 16, 2) := by decide +kernel
theorem dm_0_7 : decode cm_0 7 = .ok (.newarray .int, 2) := by decide +kernel
theorem dm_0_9 : decode cm_0 9 = .ok (.putfield 9, 3) := by decide +kernel
theorem dm_0_12 : decode cm_0 12 = .ok (.aload_n 0, 1) := by decide +kernel
theorem dm_0_13 : decode cm_0 13 = .ok (.bipush 16, 2) := by decide +kernel
theorem dm_0_15 : decode cm_0 15 = .ok (.newarray .int, 2) := by decide +kernel
theorem dm_0_17 : decode cm_0 17 = .ok (.putfield 13, 3) := by decide +kernel
theorem dm_0_20 : decode cm_0 20 = .ok (.aload_n 0, 1) := by decide +kernel
theorem dm_0_21 : decode cm_0 21 = .ok (.bipush 16, 2) := by decide +kernel
theorem dm_0_23 : decode cm_0 23 = .ok (.newarray .int, 2) := by decide +kernel
theorem dm_0_25 : decode cm_0 25 = .ok (.putfield 16, 3) := by decide +kernel
theorem dm_0_28 : decode cm_0 28 = .ok (.return_, 1) := by decide +kernel
theorem dm_1_0 : decode cm_1 0 = .ok (.aload_n 0, 1) := by decide +kernel
theorem dm_1_1 : decode cm_1 1 = .ok (.iconst 0, 1) := by decide +kernel
theorem dm_1_2 : decode cm_1 2 = .ok (.putfield 19, 3) := by decide +kernel
theorem dm_1_5 : decode cm_1 5 = .ok (.return_, 1) := by decide +kernel
theorem dm_2_0 : decode cm_2 0 = .ok (.aload_n 0, 1) := by decide +kernel
theorem dm_2_1 : decode cm_2 1 = .ok (.getfield 19, 3) := by decide +kernel
theorem dm_2_4 : decode cm_2 4 = .ok (.ifCond .lt 42, 3) := by decide +kernel
theorem dm_2_7 : decode cm_2 7 = .ok (.aload_n 0, 1) := by decide +kernel
theorem dm_2_8 : decode cm_2 8 = .ok (.getfield 19, 3) := by decide +kernel
theorem dm_2_11 : decode cm_2 11 = .ok (.bipush 16, 2) := by decide +kernel
theorem dm_2_13 : decode cm_2 13 = .ok (.if_icmp .ge 33, 3) := by decide +kernel
theorem dm_2_16 : decode cm_2 16 = .ok (.aload_n 0, 1) := by decide +kernel
theorem dm_2_17 : decode cm_2 17 = .ok (.getfield 9, 3) := by decide +kernel
theorem dm_2_20 : decode cm_2 20 = .ok (.aload_n 0, 1) := by decide +kernel
theorem dm_2_21 : decode cm_2 21 = .ok (.getfield 19, 3) := by decide +kernel
theorem dm_2_24 : decode cm_2 24 = .ok (.iload_n 1, 1) := by decide +kernel
theorem dm_2_25 : decode cm_2 25 = .ok (.iastore, 1) := by decide +kernel
theorem dm_2_26 : decode cm_2 26 = .ok (.aload_n 0, 1) := by decide +kernel
theorem dm_2_27 : decode cm_2 27 = .ok (.getfield 13, 3) := by decide +kernel
theorem dm_2_30 : decode cm_2 30 = .ok (.aload_n 0, 1) := by decide +kernel
theorem dm_2_31 : decode cm_2 31 = .ok (.getfield 19, 3) := by decide +kernel
theorem dm_2_34 : decode cm_2 34 = .ok (.iload_n 2, 1) := by decide +kernel
theorem dm_2_35 : decode cm_2 35 = .ok (.iastore, 1) := by decide +kernel
theorem dm_2_36 : decode cm_2 36 = .ok (.aload_n 0, 1) := by decide +kernel
theorem dm_2_37 : decode cm_2 37 = .ok (.getfield 16, 3) := by decide +kernel
theorem dm_2_40 : decode cm_2 40 = .ok (.aload_n 0, 1) := by decide +kernel
theorem dm_2_41 : decode cm_2 41 = .ok (.getfield 19, 3) := by decide +kernel
theorem dm_2_44 : decode cm_2 44 = .ok (.iload_n 3, 1) := by decide +kernel
theorem dm_2_45 : decode cm_2 45 = .ok (.iastore, 1) := by decide +kernel
theorem dm_2_46 : decode cm_2 46 = .ok (.aload_n 0, 1) := by decide +kernel
theorem dm_2_47 : decode cm_2 47 = .ok (.dup, 1) := by decide +kernel
theorem dm_2_48 : decode cm_2 48 = .ok (.getfield 19, 3) := by decide +kernel
theorem dm_2_51 : decode cm_2 51 = .ok (.iconst 1, 1) := by decide +kernel
theorem dm_2_52 : decode cm_2 52 = .ok (.iadd, 1) := by decide +kernel
theorem dm_2_53 : decode cm_2 53 = .ok (.putfield 19, 3) := by decide +kernel
theorem dm_2_56 : decode cm_2 56 = .ok (.return_, 1) := by decide +kernel
theorem dm_3_0 : decode cm_3 0 = .ok (.iload_n 1, 1) := by decide +kernel
theorem dm_3_1 : decode cm_3 1 = .ok (.iconst (-1), 1) := by decide +kernel
theorem dm_3_2 : decode cm_3 2 = .ok (.if_icmp .ne 8, 3) := by decide +kernel
theorem dm_3_5 : decode cm_3 5 = .ok (.aload_n 0, 1) := by decide +kernel
theorem dm_3_6 : decode cm_3 6 = .ok (.getfield 19, 3) := by decide +kernel
theorem dm_3_9 : decode cm_3 9 = .ok (.ireturn, 1) := by decide +kernel
theorem dm_3_10 : decode cm_3 10 = .ok (.iload_n 1, 1) := by decide +kernel
theorem dm_3_11 : decode cm_3 11 = .ok (.ifCond .lt 17, 3) := by decide +kernel
theorem dm_3_14 : decode cm_3 14 = .ok (.iload_n 1, 1) := by decide +kernel
theorem dm_3_15 : decode cm_3 15 = .ok (.bipush 16, 2) := by decide +kernel
theorem dm_3_17 : decode cm_3 17 = .ok (.if_icmp .ge 11, 3) := by decide +kernel
theorem dm_3_20 : decode cm_3 20 = .ok (.iload_n 1, 1) := by decide +kernel
theorem dm_3_21 : decode cm_3 21 = .ok (.aload_n 0, 1) := by decide +kernel
theorem dm_3_22 : decode cm_3 22 = .ok (.getfield 19, 3) := by decide +kernel
theorem dm_3_25 : decode cm_3 25 = .ok (.if_icmp .lt 5, 3) := by decide +kernel
theorem dm_3_28 : decode cm_3 28 = .ok (.iconst 0, 1) := by decide +kernel
theorem dm_3_29 : decode cm_3 29 = .ok (.ireturn, 1) := by decide +kernel
theorem dm_3_30 : decode cm_3 30 = .ok (.iload_n 2, 1) := by decide +kernel
theorem dm_3_31 : decode cm_3 31 = .ok (.tableswitch 46 0 2 #[25, 32, 39], 25) := by decide +kernel
theorem dm_3_56 : decode cm_3 56 = .ok (.aload_n 0, 1) := by decide +kernel
theorem dm_3_57 : decode cm_3 57 = .ok (.getfield 9, 3) := by decide +kernel
theorem dm_3_60 : decode cm_3 60 = .ok (.iload_n 1, 1) := by decide +kernel
theorem dm_3_61 : decode cm_3 61 = .ok (.iaload, 1) := by decide +kernel
theorem dm_3_62 : decode cm_3 62 = .ok (.ireturn, 1) := by decide +kernel
theorem dm_3_63 : decode cm_3 63 = .ok (.aload_n 0, 1) := by decide +kernel
theorem dm_3_64 : decode cm_3 64 = .ok (.getfield 13, 3) := by decide +kernel
theorem dm_3_67 : decode cm_3 67 = .ok (.iload_n 1, 1) := by decide +kernel
theorem dm_3_68 : decode cm_3 68 = .ok (.iaload, 1) := by decide +kernel
theorem dm_3_69 : decode cm_3 69 = .ok (.ireturn, 1) := by decide +kernel
theorem dm_3_70 : decode cm_3 70 = .ok (.aload_n 0, 1) := by decide +kernel
theorem dm_3_71 : decode cm_3 71 = .ok (.getfield 16, 3) := by decide +kernel
theorem dm_3_74 : decode cm_3 74 = .ok (.iload_n 1, 1) := by decide +kernel
theorem dm_3_75 : decode cm_3 75 = .ok (.iaload, 1) := by decide +kernel
theorem dm_3_76 : decode cm_3 76 = .ok (.ireturn, 1) := by decide +kernel
theorem dm_3_77 : decode cm_3 77 = .ok (.iconst 0, 1) := by decide +kernel
theorem dm_3_78 : decode cm_3 78 = .ok (.ireturn, 1) := by decide +kernel
theorem dm_4_0 : decode cm_4 0 = .ok (.aload_n 0, 1) := by decide +kernel
theorem dm_4_1 : decode cm_4 1 = .ok (.invokespecial 1, 3) := by decide +kernel
theorem dm_4_4 : decode cm_4 4 = .ok (.aload_n 0, 1) := by decide +kernel
theorem dm_4_5 : decode cm_4 5 = .ok (.bipush 31, 2) := by decide +kernel
theorem dm_4_7 : decode cm_4 7 = .ok (.newarray .int, 2) := by decide +kernel
theorem dm_4_9 : decode cm_4 9 = .ok (.putfield 9, 3) := by decide +kernel
theorem dm_4_12 : decode cm_4 12 = .ok (.return_, 1) := by decide +kernel
theorem dm_5_0 : decode cm_5 0 = .ok (.aload_n 0, 1) := by decide +kernel
theorem dm_5_1 : decode cm_5 1 = .ok (.iconst 0, 1) := by decide +kernel
theorem dm_5_2 : decode cm_5 2 = .ok (.putfield 13, 3) := by decide +kernel
theorem dm_5_5 : decode cm_5 5 = .ok (.return_, 1) := by decide +kernel
theorem dm_6_0 : decode cm_6 0 = .ok (.aload_n 0, 1) := by decide +kernel
theorem dm_6_1 : decode cm_6 1 = .ok (.getfield 13, 3) := by decide +kernel
theorem dm_6_4 : decode cm_6 4 = .ok (.bipush 31, 2) := by decide +kernel
theorem dm_6_6 : decode cm_6 6 = .ok (.if_icmp .lt 5, 3) := by decide +kernel
theorem dm_6_9 : decode cm_6 9 = .ok (.iconst 0, 1) := by decide +kernel
theorem dm_6_10 : decode cm_6 10 = .ok (.ireturn, 1) := by decide +kernel
theorem dm_6_11 : decode cm_6 11 = .ok (.aload_n 0, 1) := by decide +kernel
theorem dm_6_12 : decode cm_6 12 = .ok (.getfield 9, 3) := by decide +kernel
theorem dm_6_15 : decode cm_6 15 = .ok (.aload_n 0, 1) := by decide +kernel
theorem dm_6_16 : decode cm_6 16 = .ok (.getfield 13, 3) := by decide +kernel
theorem dm_6_19 : decode cm_6 19 = .ok (.iload_n 1, 1) := by decide +kernel
theorem dm_6_20 : decode cm_6 20 = .ok (.iastore, 1) := by decide +kernel
theorem dm_6_21 : decode cm_6 21 = .ok (.aload_n 0, 1) := by decide +kernel
theorem dm_6_22 : decode cm_6 22 = .ok (.dup, 1) := by decide +kernel
theorem dm_6_23 : decode cm_6 23 = .ok (.getfield 13, 3) := by decide +kernel
theorem dm_6_26 : decode cm_6 26 = .ok (.iconst 1, 1) := by decide +kernel
theorem dm_6_27 : decode cm_6 27 = .ok (.iadd, 1) := by decide +kernel
theorem dm_6_28 : decode cm_6 28 = .ok (.putfield 13, 3) := by decide +kernel
theorem dm_6_31 : decode cm_6 31 = .ok (.iconst 1, 1) := by decide +kernel
theorem dm_6_32 : decode cm_6 32 = .ok (.ireturn, 1) := by decide +kernel
theorem dm_7_0 : decode cm_7 0 = .ok (.aload_n 0, 1) := by decide +kernel
theorem dm_7_1 : decode cm_7 1 = .ok (.getfield 13, 3) := by decide +kernel
theorem dm_7_4 : decode cm_7 4 = .ok (.ireturn, 1) := by decide +kernel
theorem dm_8_0 : decode cm_8 0 = .ok (.iload_n 1, 1) := by decide +kernel
theorem dm_8_1 : decode cm_8 1 = .ok (.ifCond .lt 20, 3) := by decide +kernel
theorem dm_8_4 : decode cm_8 4 = .ok (.iload_n 1, 1) := by decide +kernel
theorem dm_8_5 : decode cm_8 5 = .ok (.aload_n 0, 1) := by decide +kernel
theorem dm_8_6 : decode cm_8 6 = .ok (.getfield 13, 3) := by decide +kernel
theorem dm_8_9 : decode cm_8 9 = .ok (.if_icmp .ge 12, 3) := by decide +kernel
theorem dm_8_12 : decode cm_8 12 = .ok (.aload_n 0, 1) := by decide +kernel
theorem dm_8_13 : decode cm_8 13 = .ok (.getfield 9, 3) := by decide +kernel
theorem dm_8_16 : decode cm_8 16 = .ok (.iload_n 1, 1) := by decide +kernel
theorem dm_8_17 : decode cm_8 17 = .ok (.iaload, 1) := by decide +kernel
theorem dm_8_18 : decode cm_8 18 = .ok (.goto 4, 3) := by decide +kernel
theorem dm_8_21 : decode cm_8 21 = .ok (.iconst 0, 1) := by decide +kernel
theorem dm_8_22 : decode cm_8 22 = .ok (.ireturn, 1) := by decide +kernel
theorem dm_9_0 : decode cm_9 0 = .ok (.aload_n 0, 1) := by decide +kernel
theorem dm_9_1 : decode cm_9 1 = .ok (.invokespecial 1, 3) := by decide +kernel
theorem dm_9_4 : decode cm_9 4 = .ok (.aload_n 0, 1) := by decide +kernel
theorem dm_9_5 : decode cm_9 5 = .ok (.new 7, 3) := by decide +kernel
theorem dm_9_8 : decode cm_9 8 = .ok (.dup, 1) := by decide +kernel
theorem dm_9_9 : decode cm_9 9 = .ok (.invokespecial 9, 3) := by decide +kernel
theorem dm_9_12 : decode cm_9 12 = .ok (.putfield 10, 3) := by decide +kernel
theorem dm_9_15 : decode cm_9 15 = .ok (.return_, 1) := by decide +kernel
theorem dm_10_0 : decode cm_10 0 = .ok (.iload_n 0, 1) := by decide +kernel
theorem dm_10_1 : decode cm_10 1 = .ok (.ifCond .lt 13, 3) := by decide +kernel
theorem dm_10_4 : decode cm_10 4 = .ok (.iload_n 0, 1) := by decide +kernel
theorem dm_10_5 : decode cm_10 5 = .ok (.bipush 6, 2) := by decide +kernel
theorem dm_10_7 : decode cm_10 7 = .ok (.if_icmp .gt 7, 3) := by decide +kernel
theorem dm_10_10 : decode cm_10 10 = .ok (.iconst 1, 1) := by decide +kernel
theorem dm_10_11 : decode cm_10 11 = .ok (.goto 4, 3) := by decide +kernel
theorem dm_10_14 : decode cm_10 14 = .ok (.iconst 0, 1) := by decide +kernel
theorem dm_10_15 : decode cm_10 15 = .ok (.ireturn, 1) := by decide +kernel
theorem dm_11_0 : decode cm_11 0 = .ok (.iload_n 0, 1) := by decide +kernel
theorem dm_11_1 : decode cm_11 1 = .ok (.tableswitch 39 1 5 #[35, 39, 35, 37, 37], 35) := by decide +kernel
theorem dm_11_36 : decode cm_11 36 = .ok (.iconst 1, 1) := by decide +kernel
theorem dm_11_37 : decode cm_11 37 = .ok (.ireturn, 1) := by decide +kernel
theorem dm_11_38 : decode cm_11 38 = .ok (.iconst 2, 1) := by decide +kernel
theorem dm_11_39 : decode cm_11 39 = .ok (.ireturn, 1) := by decide +kernel
theorem dm_11_40 : decode cm_11 40 = .ok (.iconst 0, 1) := by decide +kernel
theorem dm_11_41 : decode cm_11 41 = .ok (.ireturn, 1) := by decide +kernel
theorem dm_12_0 : decode cm_12 0 = .ok (.iload_n 0, 1) := by decide +kernel
theorem dm_12_1 : decode cm_12 1 = .ok (.ifCond .lt 25, 3) := by decide +kernel
theorem dm_12_4 : decode cm_12 4 = .ok (.iload_n 0, 1) := by decide +kernel
theorem dm_12_5 : decode cm_12 5 = .ok (.bipush 16, 2) := by decide +kernel
theorem dm_12_7 : decode cm_12 7 = .ok (.if_icmp .gt 19, 3) := by decide +kernel
theorem dm_12_10 : decode cm_12 10 = .ok (.iload_n 1, 1) := by decide +kernel
theorem dm_12_11 : decode cm_12 11 = .ok (.ifCond .lt 15, 3) := by decide +kernel
theorem dm_12_14 : decode cm_12 14 = .ok (.iload_n 1, 1) := by decide +kernel
theorem dm_12_15 : decode cm_12 15 = .ok (.bipush 16, 2) := by decide +kernel
theorem dm_12_17 : decode cm_12 17 = .ok (.iload_n 0, 1) := by decide +kernel
theorem dm_12_18 : decode cm_12 18 = .ok (.isub, 1) := by decide +kernel
theorem dm_12_19 : decode cm_12 19 = .ok (.if_icmp .gt 7, 3) := by decide +kernel
theorem dm_12_22 : decode cm_12 22 = .ok (.iconst 1, 1) := by decide +kernel
theorem dm_12_23 : decode cm_12 23 = .ok (.goto 4, 3) := by decide +kernel
theorem dm_12_26 : decode cm_12 26 = .ok (.iconst 0, 1) := by decide +kernel
theorem dm_12_27 : decode cm_12 27 = .ok (.ireturn, 1) := by decide +kernel
theorem dm_13_0 : decode cm_13 0 = .ok (.aload_n 0, 1) := by decide +kernel
theorem dm_13_1 : decode cm_13 1 = .ok (.getfield 10, 3) := by decide +kernel
theorem dm_13_4 : decode cm_13 4 = .ok (.invokevirtual 18, 3) := by decide +kernel
theorem dm_13_7 : decode cm_13 7 = .ok (.aload_n 0, 1) := by decide +kernel
theorem dm_13_8 : decode cm_13 8 = .ok (.iconst 0, 1) := by decide +kernel
theorem dm_13_9 : decode cm_13 9 = .ok (.putfield 21, 3) := by decide +kernel
theorem dm_13_12 : decode cm_13 12 = .ok (.aload_n 0, 1) := by decide +kernel
theorem dm_13_13 : decode cm_13 13 = .ok (.iconst 0, 1) := by decide +kernel
theorem dm_13_14 : decode cm_13 14 = .ok (.putfield 25, 3) := by decide +kernel
theorem dm_13_17 : decode cm_13 17 = .ok (.return_, 1) := by decide +kernel
theorem dm_14_0 : decode cm_14 0 = .ok (.iload_n 1, 1) := by decide +kernel
theorem dm_14_1 : decode cm_14 1 = .ok (.invokestatic 28, 3) := by decide +kernel
theorem dm_14_4 : decode cm_14 4 = .ok (.istore 4, 2) := by decide +kernel
theorem dm_14_6 : decode cm_14 6 = .ok (.aload_n 0, 1) := by decide +kernel
theorem dm_14_7 : decode cm_14 7 = .ok (.getfield 10, 3) := by decide +kernel
theorem dm_14_10 : decode cm_14 10 = .ok (.iload_n 1, 1) := by decide +kernel
theorem dm_14_11 : decode cm_14 11 = .ok (.iload 4, 2) := by decide +kernel
theorem dm_14_13 : decode cm_14 13 = .ok (.iconst 1, 1) := by decide +kernel
theorem dm_14_14 : decode cm_14 14 = .ok (.if_icmp .lt 7, 3) := by decide +kernel
theorem dm_14_17 : decode cm_14 17 = .ok (.iload_n 2, 1) := by decide +kernel
theorem dm_14_18 : decode cm_14 18 = .ok (.goto 4, 3) := by decide +kernel
theorem dm_14_21 : decode cm_14 21 = .ok (.iconst 0, 1) := by decide +kernel
theorem dm_14_22 : decode cm_14 22 = .ok (.iload 4, 2) := by decide +kernel
theorem dm_14_24 : decode cm_14 24 = .ok (.iconst 2, 1) := by decide +kernel
theorem dm_14_25 : decode cm_14 25 = .ok (.if_icmp .lt 7, 3) := by decide +kernel
theorem dm_14_28 : decode cm_14 28 = .ok (.iload_n 3, 1) := by decide +kernel
theorem dm_14_29 : decode cm_14 29 = .ok (.goto 4, 3) := by decide +kernel
theorem dm_14_32 : decode cm_14 32 = .ok (.iconst 0, 1) := by decide +kernel
theorem dm_14_33 : decode cm_14 33 = .ok (.invokevirtual 32, 3) := by decide +kernel
theorem dm_14_36 : decode cm_14 36 = .ok (.return_, 1) := by decide +kernel
theorem dm_15_0 : decode cm_15 0 = .ok (.iload_n 1, 1) := by decide +kernel
theorem dm_15_1 : decode cm_15 1 = .ok (.iconst 1, 1) := by decide +kernel
theorem dm_15_2 : decode cm_15 2 = .ok (.if_icmp .lt 14, 3) := by decide +kernel
theorem dm_15_5 : decode cm_15 5 = .ok (.iload_n 1, 1) := by decide +kernel
theorem dm_15_6 : decode cm_15 6 = .ok (.bipush 16, 2) := by decide +kernel
theorem dm_15_8 : decode cm_15 8 = .ok (.aload_n 0, 1) := by decide +kernel
theorem dm_15_9 : decode cm_15 9 = .ok (.getfield 21, 3) := by decide +kernel
theorem dm_15_12 : decode cm_15 12 = .ok (.isub, 1) := by decide +kernel
theorem dm_15_13 : decode cm_15 13 = .ok (.if_icmp .le 5, 3) := by decide +kernel
theorem dm_15_16 : decode cm_15 16 = .ok (.iconst (-1), 1) := by decide +kernel
theorem dm_15_17 : decode cm_15 17 = .ok (.ireturn, 1) := by decide +kernel
theorem dm_15_18 : decode cm_15 18 = .ok (.aload_n 0, 1) := by decide +kernel
theorem dm_15_19 : decode cm_15 19 = .ok (.getfield 21, 3) := by decide +kernel
theorem dm_15_22 : decode cm_15 22 = .ok (.istore_n 2, 1) := by decide +kernel
theorem dm_15_23 : decode cm_15 23 = .ok (.aload_n 0, 1) := by decide +kernel
theorem dm_15_24 : decode cm_15 24 = .ok (.dup, 1) := by decide +kernel
theorem dm_15_25 : decode cm_15 25 = .ok (.getfield 21, 3) := by decide +kernel
theorem dm_15_28 : decode cm_15 28 = .ok (.iload_n 1, 1) := by decide +kernel
theorem dm_15_29 : decode cm_15 29 = .ok (.iadd, 1) := by decide +kernel
theorem dm_15_30 : decode cm_15 30 = .ok (.putfield 21, 3) := by decide +kernel
theorem dm_15_33 : decode cm_15 33 = .ok (.iload_n 2, 1) := by decide +kernel
theorem dm_15_34 : decode cm_15 34 = .ok (.ireturn, 1) := by decide +kernel
theorem dm_16_0 : decode cm_16 0 = .ok (.aload_n 0, 1) := by decide +kernel
theorem dm_16_1 : decode cm_16 1 = .ok (.getfield 25, 3) := by decide +kernel
theorem dm_16_4 : decode cm_16 4 = .ok (.ifCond .lt 14, 3) := by decide +kernel
theorem dm_16_7 : decode cm_16 7 = .ok (.aload_n 0, 1) := by decide +kernel
theorem dm_16_8 : decode cm_16 8 = .ok (.getfield 25, 3) := by decide +kernel
theorem dm_16_11 : decode cm_16 11 = .ok (.aload_n 1, 1) := by decide +kernel
theorem dm_16_12 : decode cm_16 12 = .ok (.getfield 36, 3) := by decide +kernel
theorem dm_16_15 : decode cm_16 15 = .ok (.if_icmp .lt 5, 3) := by decide +kernel
theorem dm_16_18 : decode cm_16 18 = .ok (.iconst (-1), 1) := by decide +kernel
theorem dm_16_19 : decode cm_16 19 = .ok (.ireturn, 1) := by decide +kernel
theorem dm_16_20 : decode cm_16 20 = .ok (.aload_n 1, 1) := by decide +kernel
theorem dm_16_21 : decode cm_16 21 = .ok (.getfield 39, 3) := by decide +kernel
theorem dm_16_24 : decode cm_16 24 = .ok (.aload_n 0, 1) := by decide +kernel
theorem dm_16_25 : decode cm_16 25 = .ok (.getfield 25, 3) := by decide +kernel
theorem dm_16_28 : decode cm_16 28 = .ok (.iaload, 1) := by decide +kernel
theorem dm_16_29 : decode cm_16 29 = .ok (.istore_n 2, 1) := by decide +kernel
theorem dm_16_30 : decode cm_16 30 = .ok (.aload_n 0, 1) := by decide +kernel
theorem dm_16_31 : decode cm_16 31 = .ok (.dup, 1) := by decide +kernel
theorem dm_16_32 : decode cm_16 32 = .ok (.getfield 25, 3) := by decide +kernel
theorem dm_16_35 : decode cm_16 35 = .ok (.iconst 1, 1) := by decide +kernel
theorem dm_16_36 : decode cm_16 36 = .ok (.iadd, 1) := by decide +kernel
theorem dm_16_37 : decode cm_16 37 = .ok (.putfield 25, 3) := by decide +kernel
theorem dm_16_40 : decode cm_16 40 = .ok (.iload_n 2, 1) := by decide +kernel
theorem dm_16_41 : decode cm_16 41 = .ok (.ireturn, 1) := by decide +kernel
theorem dm_17_0 : decode cm_17 0 = .ok (.aload_n 0, 1) := by decide +kernel
theorem dm_17_1 : decode cm_17 1 = .ok (.invokespecial 7, 3) := by decide +kernel
theorem dm_17_4 : decode cm_17 4 = .ok (.aload_n 0, 1) := by decide +kernel
theorem dm_17_5 : decode cm_17 5 = .ok (.new 13, 3) := by decide +kernel
theorem dm_17_8 : decode cm_17 8 = .ok (.dup, 1) := by decide +kernel
theorem dm_17_9 : decode cm_17 9 = .ok (.invokespecial 15, 3) := by decide +kernel
theorem dm_17_12 : decode cm_17 12 = .ok (.putfield 16, 3) := by decide +kernel
theorem dm_17_15 : decode cm_17 15 = .ok (.aload_n 0, 1) := by decide +kernel
theorem dm_17_16 : decode cm_17 16 = .ok (.bipush 21, 2) := by decide +kernel
theorem dm_17_18 : decode cm_17 18 = .ok (.newarray .int, 2) := by decide +kernel
theorem dm_17_20 : decode cm_17 20 = .ok (.putfield 20, 3) := by decide +kernel
theorem dm_17_23 : decode cm_17 23 = .ok (.aload_n 0, 1) := by decide +kernel
theorem dm_17_24 : decode cm_17 24 = .ok (.bipush 21, 2) := by decide +kernel
theorem dm_17_26 : decode cm_17 26 = .ok (.newarray .int, 2) := by decide +kernel
theorem dm_17_28 : decode cm_17 28 = .ok (.putfield 24, 3) := by decide +kernel
theorem dm_17_31 : decode cm_17 31 = .ok (.return_, 1) := by decide +kernel
theorem dm_18_0 : decode cm_18 0 = .ok (.aload_n 0, 1) := by decide +kernel
theorem dm_18_1 : decode cm_18 1 = .ok (.getfield 16, 3) := by decide +kernel
theorem dm_18_4 : decode cm_18 4 = .ok (.invokevirtual 27, 3) := by decide +kernel
theorem dm_18_7 : decode cm_18 7 = .ok (.aload_n 0, 1) := by decide +kernel
theorem dm_18_8 : decode cm_18 8 = .ok (.getfield 20, 3) := by decide +kernel
theorem dm_18_11 : decode cm_18 11 = .ok (.iconst 0, 1) := by decide +kernel
theorem dm_18_12 : decode cm_18 12 = .ok (.invokestatic 30, 3) := by decide +kernel
theorem dm_18_15 : decode cm_18 15 = .ok (.aload_n 0, 1) := by decide +kernel
theorem dm_18_16 : decode cm_18 16 = .ok (.getfield 24, 3) := by decide +kernel
theorem dm_18_19 : decode cm_18 19 = .ok (.iconst (-1), 1) := by decide +kernel
theorem dm_18_20 : decode cm_18 20 = .ok (.invokestatic 30, 3) := by decide +kernel
theorem dm_18_23 : decode cm_18 23 = .ok (.aload_n 0, 1) := by decide +kernel
theorem dm_18_24 : decode cm_18 24 = .ok (.iconst 0, 1) := by decide +kernel
theorem dm_18_25 : decode cm_18 25 = .ok (.putfield 36, 3) := by decide +kernel
theorem dm_18_28 : decode cm_18 28 = .ok (.iconst 0, 1) := by decide +kernel
theorem dm_18_29 : decode cm_18 29 = .ok (.istore 4, 2) := by decide +kernel
theorem dm_18_31 : decode cm_18 31 = .ok (.iconst 0, 1) := by decide +kernel
theorem dm_18_32 : decode cm_18 32 = .ok (.istore 5, 2) := by decide +kernel
theorem dm_18_34 : decode cm_18 34 = .ok (.iload 5, 2) := by decide +kernel
theorem dm_18_36 : decode cm_18 36 = .ok (.iload_n 3, 1) := by decide +kernel
theorem dm_18_37 : decode cm_18 37 = .ok (.if_icmp .ge 34, 3) := by decide +kernel
theorem dm_18_40 : decode cm_18 40 = .ok (.iload 4, 2) := by decide +kernel
theorem dm_18_42 : decode cm_18 42 = .ok (.ifCond .ne 29, 3) := by decide +kernel
theorem dm_18_45 : decode cm_18 45 = .ok (.aload_n 0, 1) := by decide +kernel
theorem dm_18_46 : decode cm_18 46 = .ok (.aload_n 1, 1) := by decide +kernel
theorem dm_18_47 : decode cm_18 47 = .ok (.invokevirtual 40, 3) := by decide +kernel
theorem dm_18_50 : decode cm_18 50 = .ok (.istore 4, 2) := by decide +kernel
theorem dm_18_52 : decode cm_18 52 = .ok (.iload 4, 2) := by decide +kernel
theorem dm_18_54 : decode cm_18 54 = .ok (.ifCond .ne 11, 3) := by decide +kernel
theorem dm_18_57 : decode cm_18 57 = .ok (.aload_n 0, 1) := by decide +kernel
theorem dm_18_58 : decode cm_18 58 = .ok (.aload_n 1, 1) := by decide +kernel
theorem dm_18_59 : decode cm_18 59 = .ok (.aload_n 2, 1) := by decide +kernel
theorem dm_18_60 : decode cm_18 60 = .ok (.invokevirtual 44, 3) := by decide +kernel
theorem dm_18_63 : decode cm_18 63 = .ok (.istore 4, 2) := by decide +kernel
theorem dm_18_65 : decode cm_18 65 = .ok (.iinc 5 1, 3) := by decide +kernel
theorem dm_18_68 : decode cm_18 68 = .ok (.goto (-34), 3) := by decide +kernel
theorem dm_18_71 : decode cm_18 71 = .ok (.iload 4, 2) := by decide +kernel
theorem dm_18_73 : decode cm_18 73 = .ok (.ireturn, 1) := by decide +kernel
theorem dm_19_0 : decode cm_19 0 = .ok (.aload_n 1, 1) := by decide +kernel
theorem dm_19_1 : decode cm_19 1 = .ok (.aload_n 0, 1) := by decide +kernel
theorem dm_19_2 : decode cm_19 2 = .ok (.getfield 36, 3) := by decide +kernel
theorem dm_19_5 : decode cm_19 5 = .ok (.invokevirtual 48, 3) := by decide +kernel
theorem dm_19_8 : decode cm_19 8 = .ok (.istore_n 2, 1) := by decide +kernel
theorem dm_19_9 : decode cm_19 9 = .ok (.aload_n 1, 1) := by decide +kernel
theorem dm_19_10 : decode cm_19 10 = .ok (.aload_n 0, 1) := by decide +kernel
theorem dm_19_11 : decode cm_19 11 = .ok (.getfield 36, 3) := by decide +kernel
theorem dm_19_14 : decode cm_19 14 = .ok (.invokevirtual 52, 3) := by decide +kernel
theorem dm_19_17 : decode cm_19 17 = .ok (.istore_n 3, 1) := by decide +kernel
theorem dm_19_18 : decode cm_19 18 = .ok (.aload_n 1, 1) := by decide +kernel
theorem dm_19_19 : decode cm_19 19 = .ok (.aload_n 0, 1) := by decide +kernel
theorem dm_19_20 : decode cm_19 20 = .ok (.getfield 36, 3) := by decide +kernel
theorem dm_19_23 : decode cm_19 23 = .ok (.invokevirtual 55, 3) := by decide +kernel
theorem dm_19_26 : decode cm_19 26 = .ok (.istore 4, 2) := by decide +kernel
theorem dm_19_28 : decode cm_19 28 = .ok (.aload_n 1, 1) := by decide +kernel
theorem dm_19_29 : decode cm_19 29 = .ok (.aload_n 0, 1) := by decide +kernel
theorem dm_19_30 : decode cm_19 30 = .ok (.getfield 36, 3) := by decide +kernel
theorem dm_19_33 : decode cm_19 33 = .ok (.invokevirtual 58, 3) := by decide +kernel
theorem dm_19_36 : decode cm_19 36 = .ok (.istore 5, 2) := by decide +kernel
theorem dm_19_38 : decode cm_19 38 = .ok (.iload_n 2, 1) := by decide +kernel
theorem dm_19_39 : decode cm_19 39 = .ok (.ifCond .ne 5, 3) := by decide +kernel
theorem dm_19_42 : decode cm_19 42 = .ok (.iconst 2, 1) := by decide +kernel
theorem dm_19_43 : decode cm_19 43 = .ok (.ireturn, 1) := by decide +kernel
theorem dm_19_44 : decode cm_19 44 = .ok (.aload_n 0, 1) := by decide +kernel
theorem dm_19_45 : decode cm_19 45 = .ok (.iload_n 2, 1) := by decide +kernel
theorem dm_19_46 : decode cm_19 46 = .ok (.iload_n 3, 1) := by decide +kernel
theorem dm_19_47 : decode cm_19 47 = .ok (.iload 4, 2) := by decide +kernel
theorem dm_19_49 : decode cm_19 49 = .ok (.iload 5, 2) := by decide +kernel
theorem dm_19_51 : decode cm_19 51 = .ok (.invokevirtual 61, 3) := by decide +kernel
theorem dm_19_54 : decode cm_19 54 = .ok (.ifCond .eq 5, 3) := by decide +kernel
theorem dm_19_57 : decode cm_19 57 = .ok (.iconst 3, 1) := by decide +kernel
theorem dm_19_58 : decode cm_19 58 = .ok (.ireturn, 1) := by decide +kernel
theorem dm_19_59 : decode cm_19 59 = .ok (.iload_n 2, 1) := by decide +kernel
theorem dm_19_60 : decode cm_19 60 = .ok (.bipush 13, 2) := by decide +kernel
theorem dm_19_62 : decode cm_19 62 = .ok (.if_icmp .ne 13, 3) := by decide +kernel
theorem dm_19_65 : decode cm_19 65 = .ok (.aload_n 0, 1) := by decide +kernel
theorem dm_19_66 : decode cm_19 66 = .ok (.iload_n 3, 1) := by decide +kernel
theorem dm_19_67 : decode cm_19 67 = .ok (.invokevirtual 67, 3) := by decide +kernel
theorem dm_19_70 : decode cm_19 70 = .ok (.ifCond .ne 5, 3) := by decide +kernel
theorem dm_19_73 : decode cm_19 73 = .ok (.iconst 4, 1) := by decide +kernel
theorem dm_19_74 : decode cm_19 74 = .ok (.ireturn, 1) := by decide +kernel
theorem dm_19_75 : decode cm_19 75 = .ok (.iload_n 2, 1) := by decide +kernel
theorem dm_19_76 : decode cm_19 76 = .ok (.bipush 8, 2) := by decide +kernel
theorem dm_19_78 : decode cm_19 78 = .ok (.if_icmp .eq 9, 3) := by decide +kernel
theorem dm_19_81 : decode cm_19 81 = .ok (.iload_n 2, 1) := by decide +kernel
theorem dm_19_82 : decode cm_19 82 = .ok (.bipush 9, 2) := by decide +kernel
theorem dm_19_84 : decode cm_19 84 = .ok (.if_icmp .ne 21, 3) := by decide +kernel
theorem dm_19_87 : decode cm_19 87 = .ok (.aload_n 0, 1) := by decide +kernel
theorem dm_19_88 : decode cm_19 88 = .ok (.getfield 20, 3) := by decide +kernel
theorem dm_19_91 : decode cm_19 91 = .ok (.iload 4, 2) := by decide +kernel
theorem dm_19_93 : decode cm_19 93 = .ok (.iaload, 1) := by decide +kernel
theorem dm_19_94 : decode cm_19 94 = .ok (.iload 5, 2) := by decide +kernel
theorem dm_19_96 : decode cm_19 96 = .ok (.iadd, 1) := by decide +kernel
theorem dm_19_97 : decode cm_19 97 = .ok (.invokestatic 71, 3) := by decide +kernel
theorem dm_19_100 : decode cm_19 100 = .ok (.ifCond .ne 5, 3) := by decide +kernel
theorem dm_19_103 : decode cm_19 103 = .ok (.iconst 5, 1) := by decide +kernel
theorem dm_19_104 : decode cm_19 104 = .ok (.ireturn, 1) := by decide +kernel
theorem dm_19_105 : decode cm_19 105 = .ok (.iconst 0, 1) := by decide +kernel
theorem dm_19_106 : decode cm_19 106 = .ok (.ireturn, 1) := by decide +kernel
theorem dm_20_0 : decode cm_20 0 = .ok (.iload_n 1, 1) := by decide +kernel
theorem dm_20_1 : decode cm_20 1 = .ok (.tableswitch 121 2 14 #[67, 86, 86, 86, 108, 108, 108, 108, 86, 86, 121, 121, 114], 67) := by decide +kernel
theorem dm_20_68 : decode cm_20 68 = .ok (.aload_n 0, 1) := by decide +kernel
theorem dm_20_69 : decode cm_20 69 = .ok (.iload_n 3, 1) := by decide +kernel
theorem dm_20_70 : decode cm_20 70 = .ok (.invokevirtual 67, 3) := by decide +kernel
theorem dm_20_73 : decode cm_20 73 = .ok (.ifCond .eq 12, 3) := by decide +kernel
theorem dm_20_76 : decode cm_20 76 = .ok (.iload 4, 2) := by decide +kernel
theorem dm_20_78 : decode cm_20 78 = .ok (.ifCond .eq 7, 3) := by decide +kernel
theorem dm_20_81 : decode cm_20 81 = .ok (.iconst 1, 1) := by decide +kernel
theorem dm_20_82 : decode cm_20 82 = .ok (.goto 4, 3) := by decide +kernel
theorem dm_20_85 : decode cm_20 85 = .ok (.iconst 0, 1) := by decide +kernel
theorem dm_20_86 : decode cm_20 86 = .ok (.ireturn, 1) := by decide +kernel
theorem dm_20_87 : decode cm_20 87 = .ok (.aload_n 0, 1) := by decide +kernel
theorem dm_20_88 : decode cm_20 88 = .ok (.iload_n 2, 1) := by decide +kernel
theorem dm_20_89 : decode cm_20 89 = .ok (.invokevirtual 67, 3) := by decide +kernel
theorem dm_20_92 : decode cm_20 92 = .ok (.ifCond .ne 11, 3) := by decide +kernel
theorem dm_20_95 : decode cm_20 95 = .ok (.aload_n 0, 1) := by decide +kernel
theorem dm_20_96 : decode cm_20 96 = .ok (.iload_n 3, 1) := by decide +kernel
theorem dm_20_97 : decode cm_20 97 = .ok (.invokevirtual 67, 3) := by decide +kernel
theorem dm_20_100 : decode cm_20 100 = .ok (.ifCond .eq 7, 3) := by decide +kernel
theorem dm_20_103 : decode cm_20 103 = .ok (.iconst 1, 1) := by decide +kernel
theorem dm_20_104 : decode cm_20 104 = .ok (.goto 4, 3) := by decide +kernel
theorem dm_20_107 : decode cm_20 107 = .ok (.iconst 0, 1) := by decide +kernel
theorem dm_20_108 : decode cm_20 108 = .ok (.ireturn, 1) := by decide +kernel
theorem dm_20_109 : decode cm_20 109 = .ok (.aload_n 0, 1) := by decide +kernel
theorem dm_20_110 : decode cm_20 110 = .ok (.iload_n 3, 1) := by decide +kernel
theorem dm_20_111 : decode cm_20 111 = .ok (.invokevirtual 67, 3) := by decide +kernel
theorem dm_20_114 : decode cm_20 114 = .ok (.ireturn, 1) := by decide +kernel
theorem dm_20_115 : decode cm_20 115 = .ok (.aload_n 0, 1) := by decide +kernel
theorem dm_20_116 : decode cm_20 116 = .ok (.iload 4, 2) := by decide +kernel
theorem dm_20_118 : decode cm_20 118 = .ok (.invokevirtual 74, 3) := by decide +kernel
theorem dm_20_121 : decode cm_20 121 = .ok (.ireturn, 1) := by decide +kernel
theorem dm_20_122 : decode cm_20 122 = .ok (.iconst 0, 1) := by decide +kernel
theorem dm_20_123 : decode cm_20 123 = .ok (.ireturn, 1) := by decide +kernel
theorem dm_21_0 : decode cm_21 0 = .ok (.iload_n 1, 1) := by decide +kernel
theorem dm_21_1 : decode cm_21 1 = .ok (.invokestatic 77, 3) := by decide +kernel
theorem dm_21_4 : decode cm_21 4 = .ok (.istore_n 2, 1) := by decide +kernel
theorem dm_21_5 : decode cm_21 5 = .ok (.iload_n 2, 1) := by decide +kernel
theorem dm_21_6 : decode cm_21 6 = .ok (.iconst 1, 1) := by decide +kernel
theorem dm_21_7 : decode cm_21 7 = .ok (.if_icmp .lt 11, 3) := by decide +kernel
theorem dm_21_10 : decode cm_21 10 = .ok (.aload_n 0, 1) := by decide +kernel
theorem dm_21_11 : decode cm_21 11 = .ok (.iconst 1, 1) := by decide +kernel
theorem dm_21_12 : decode cm_21 12 = .ok (.invokevirtual 67, 3) := by decide +kernel
theorem dm_21_15 : decode cm_21 15 = .ok (.ifCond .ne 16, 3) := by decide +kernel
theorem dm_21_18 : decode cm_21 18 = .ok (.iload_n 2, 1) := by decide +kernel
theorem dm_21_19 : decode cm_21 19 = .ok (.iconst 2, 1) := by decide +kernel
theorem dm_21_20 : decode cm_21 20 = .ok (.if_icmp .lt 13, 3) := by decide +kernel
theorem dm_21_23 : decode cm_21 23 = .ok (.aload_n 0, 1) := by decide +kernel
theorem dm_21_24 : decode cm_21 24 = .ok (.iconst 2, 1) := by decide +kernel
theorem dm_21_25 : decode cm_21 25 = .ok (.invokevirtual 67, 3) := by decide +kernel
theorem dm_21_28 : decode cm_21 28 = .ok (.ifCond .eq 5, 3) := by decide +kernel
theorem dm_21_31 : decode cm_21 31 = .ok (.iconst 1, 1) := by decide +kernel
theorem dm_21_32 : decode cm_21 32 = .ok (.ireturn, 1) := by decide +kernel
theorem dm_21_33 : decode cm_21 33 = .ok (.iload_n 1, 1) := by decide +kernel
theorem dm_21_34 : decode cm_21 34 = .ok (.iconst 4, 1) := by decide +kernel
theorem dm_21_35 : decode cm_21 35 = .ok (.if_icmp .ne 26, 3) := by decide +kernel
theorem dm_21_38 : decode cm_21 38 = .ok (.aload_n 0, 1) := by decide +kernel
theorem dm_21_39 : decode cm_21 39 = .ok (.aload_n 0, 1) := by decide +kernel
theorem dm_21_40 : decode cm_21 40 = .ok (.getfield 20, 3) := by decide +kernel
theorem dm_21_43 : decode cm_21 43 = .ok (.iconst 1, 1) := by decide +kernel
theorem dm_21_44 : decode cm_21 44 = .ok (.iaload, 1) := by decide +kernel
theorem dm_21_45 : decode cm_21 45 = .ok (.aload_n 0, 1) := by decide +kernel
theorem dm_21_46 : decode cm_21 46 = .ok (.getfield 20, 3) := by decide +kernel
theorem dm_21_49 : decode cm_21 49 = .ok (.iconst 2, 1) := by decide +kernel
theorem dm_21_50 : decode cm_21 50 = .ok (.iaload, 1) := by decide +kernel
theorem dm_21_51 : decode cm_21 51 = .ok (.invokevirtual 80, 3) := by decide +kernel
theorem dm_21_54 : decode cm_21 54 = .ok (.ifCond .eq 7, 3) := by decide +kernel
theorem dm_21_57 : decode cm_21 57 = .ok (.iconst 1, 1) := by decide +kernel
theorem dm_21_58 : decode cm_21 58 = .ok (.goto 4, 3) := by decide +kernel
theorem dm_21_61 : decode cm_21 61 = .ok (.iconst 0, 1) := by decide +kernel
theorem dm_21_62 : decode cm_21 62 = .ok (.ireturn, 1) := by decide +kernel
theorem dm_22_0 : decode cm_22 0 = .ok (.iload_n 1, 1) := by decide +kernel
theorem dm_22_1 : decode cm_22 1 = .ok (.iload_n 2, 1) := by decide +kernel
theorem dm_22_2 : decode cm_22 2 = .ok (.invokestatic 84, 3) := by decide +kernel
theorem dm_22_5 : decode cm_22 5 = .ok (.ifCond .ne 5, 3) := by decide +kernel
theorem dm_22_8 : decode cm_22 8 = .ok (.iconst 0, 1) := by decide +kernel
theorem dm_22_9 : decode cm_22 9 = .ok (.ireturn, 1) := by decide +kernel
theorem dm_22_10 : decode cm_22 10 = .ok (.iconst 0, 1) := by decide +kernel
theorem dm_22_11 : decode cm_22 11 = .ok (.istore_n 3, 1) := by decide +kernel
theorem dm_22_12 : decode cm_22 12 = .ok (.iload_n 3, 1) := by decide +kernel
theorem dm_22_13 : decode cm_22 13 = .ok (.iload_n 2, 1) := by decide +kernel
theorem dm_22_14 : decode cm_22 14 = .ok (.if_icmp .ge 23, 3) := by decide +kernel
theorem dm_22_17 : decode cm_22 17 = .ok (.aload_n 0, 1) := by decide +kernel
theorem dm_22_18 : decode cm_22 18 = .ok (.iconst 5, 1) := by decide +kernel
theorem dm_22_19 : decode cm_22 19 = .ok (.iload_n 1, 1) := by decide +kernel
theorem dm_22_20 : decode cm_22 20 = .ok (.iadd, 1) := by decide +kernel
theorem dm_22_21 : decode cm_22 21 = .ok (.iload_n 3, 1) := by decide +kernel
theorem dm_22_22 : decode cm_22 22 = .ok (.iadd, 1) := by decide +kernel
theorem dm_22_23 : decode cm_22 23 = .ok (.invokevirtual 67, 3) := by decide +kernel
theorem dm_22_26 : decode cm_22 26 = .ok (.ifCond .eq 5, 3) := by decide +kernel
theorem dm_22_29 : decode cm_22 29 = .ok (.iconst 1, 1) := by decide +kernel
theorem dm_22_30 : decode cm_22 30 = .ok (.ireturn, 1) := by decide +kernel
theorem dm_22_31 : decode cm_22 31 = .ok (.iinc 3 1, 3) := by decide +kernel
theorem dm_22_34 : decode cm_22 34 = .ok (.goto (-22), 3) := by decide +kernel
theorem dm_22_37 : decode cm_22 37 = .ok (.iconst 0, 1) := by decide +kernel
theorem dm_22_38 : decode cm_22 38 = .ok (.ireturn, 1) := by decide +kernel
theorem dm_23_0 : decode cm_23 0 = .ok (.aload_n 0, 1) := by decide +kernel
theorem dm_23_1 : decode cm_23 1 = .ok (.getfield 24, 3) := by decide +kernel
theorem dm_23_4 : decode cm_23 4 = .ok (.iload_n 1, 1) := by decide +kernel
theorem dm_23_5 : decode cm_23 5 = .ok (.iaload, 1) := by decide +kernel
theorem dm_23_6 : decode cm_23 6 = .ok (.iconst (-1), 1) := by decide +kernel
theorem dm_23_7 : decode cm_23 7 = .ok (.if_icmp .eq 7, 3) := by decide +kernel
theorem dm_23_10 : decode cm_23 10 = .ok (.iconst 1, 1) := by decide +kernel
theorem dm_23_11 : decode cm_23 11 = .ok (.goto 4, 3) := by decide +kernel
theorem dm_23_14 : decode cm_23 14 = .ok (.iconst 0, 1) := by decide +kernel
theorem dm_23_15 : decode cm_23 15 = .ok (.ireturn, 1) := by decide +kernel
theorem dm_24_0 : decode cm_24 0 = .ok (.iload_n 0, 1) := by decide +kernel
theorem dm_24_1 : decode cm_24 1 = .ok (.ifCond .lt 13, 3) := by decide +kernel
theorem dm_24_4 : decode cm_24 4 = .ok (.iload_n 0, 1) := by decide +kernel
theorem dm_24_5 : decode cm_24 5 = .ok (.bipush 16, 2) := by decide +kernel
theorem dm_24_7 : decode cm_24 7 = .ok (.if_icmp .ge 7, 3) := by decide +kernel
theorem dm_24_10 : decode cm_24 10 = .ok (.iconst 1, 1) := by decide +kernel
theorem dm_24_11 : decode cm_24 11 = .ok (.goto 4, 3) := by decide +kernel
theorem dm_24_14 : decode cm_24 14 = .ok (.iconst 0, 1) := by decide +kernel
theorem dm_24_15 : decode cm_24 15 = .ok (.ireturn, 1) := by decide +kernel
theorem dm_25_0 : decode cm_25 0 = .ok (.aload_n 1, 1) := by decide +kernel
theorem dm_25_1 : decode cm_25 1 = .ok (.aload_n 0, 1) := by decide +kernel
theorem dm_25_2 : decode cm_25 2 = .ok (.getfield 36, 3) := by decide +kernel
theorem dm_25_5 : decode cm_25 5 = .ok (.invokevirtual 48, 3) := by decide +kernel
theorem dm_25_8 : decode cm_25 8 = .ok (.istore_n 3, 1) := by decide +kernel
theorem dm_25_9 : decode cm_25 9 = .ok (.aload_n 1, 1) := by decide +kernel
theorem dm_25_10 : decode cm_25 10 = .ok (.aload_n 0, 1) := by decide +kernel
theorem dm_25_11 : decode cm_25 11 = .ok (.getfield 36, 3) := by decide +kernel
theorem dm_25_14 : decode cm_25 14 = .ok (.invokevirtual 52, 3) := by decide +kernel
theorem dm_25_17 : decode cm_25 17 = .ok (.istore 4, 2) := by decide +kernel
theorem dm_25_19 : decode cm_25 19 = .ok (.aload_n 1, 1) := by decide +kernel
theorem dm_25_20 : decode cm_25 20 = .ok (.aload_n 0, 1) := by decide +kernel
theorem dm_25_21 : decode cm_25 21 = .ok (.getfield 36, 3) := by decide +kernel
theorem dm_25_24 : decode cm_25 24 = .ok (.invokevirtual 55, 3) := by decide +kernel
theorem dm_25_27 : decode cm_25 27 = .ok (.istore 5, 2) := by decide +kernel
theorem dm_25_29 : decode cm_25 29 = .ok (.aload_n 1, 1) := by decide +kernel
theorem dm_25_30 : decode cm_25 30 = .ok (.aload_n 0, 1) := by decide +kernel
theorem dm_25_31 : decode cm_25 31 = .ok (.getfield 36, 3) := by decide +kernel
theorem dm_25_34 : decode cm_25 34 = .ok (.invokevirtual 58, 3) := by decide +kernel
theorem dm_25_37 : decode cm_25 37 = .ok (.istore 6, 2) := by decide +kernel
theorem dm_25_39 : decode cm_25 39 = .ok (.aload_n 0, 1) := by decide +kernel
theorem dm_25_40 : decode cm_25 40 = .ok (.getfield 36, 3) := by decide +kernel
theorem dm_25_43 : decode cm_25 43 = .ok (.iconst 1, 1) := by decide +kernel
theorem dm_25_44 : decode cm_25 44 = .ok (.iadd, 1) := by decide +kernel
theorem dm_25_45 : decode cm_25 45 = .ok (.istore 7, 2) := by decide +kernel
theorem dm_25_47 : decode cm_25 47 = .ok (.iconst 0, 1) := by decide +kernel
theorem dm_25_48 : decode cm_25 48 = .ok (.istore 8, 2) := by decide +kernel
theorem dm_25_50 : decode cm_25 50 = .ok (.iload_n 3, 1) := by decide +kernel
theorem dm_25_51 : decode cm_25 51 = .ok (.tableswitch 159 8 15 #[45, 66, 87, 87, 87, 119, 135, 147], 45) := by decide +kernel
theorem dm_25_96 : decode cm_25 96 = .ok (.aload_n 0, 1) := by decide +kernel
theorem dm_25_97 : decode cm_25 97 = .ok (.iconst 5, 1) := by decide +kernel
theorem dm_25_98 : decode cm_25 98 = .ok (.aload_n 0, 1) := by decide +kernel
theorem dm_25_99 : decode cm_25 99 = .ok (.getfield 20, 3) := by decide +kernel
theorem dm_25_102 : decode cm_25 102 = .ok (.iload 5, 2) := by decide +kernel
theorem dm_25_104 : decode cm_25 104 = .ok (.iaload, 1) := by decide +kernel
theorem dm_25_105 : decode cm_25 105 = .ok (.iadd, 1) := by decide +kernel
theorem dm_25_106 : decode cm_25 106 = .ok (.iload 6, 2) := by decide +kernel
theorem dm_25_108 : decode cm_25 108 = .ok (.iadd, 1) := by decide +kernel
theorem dm_25_109 : decode cm_25 109 = .ok (.iload 4, 2) := by decide +kernel
theorem dm_25_111 : decode cm_25 111 = .ok (.invokevirtual 87, 3) := by decide +kernel
theorem dm_25_114 : decode cm_25 114 = .ok (.goto 107, 3) := by decide +kernel
theorem dm_25_117 : decode cm_25 117 = .ok (.aload_n 0, 1) := by decide +kernel
theorem dm_25_118 : decode cm_25 118 = .ok (.iload 4, 2) := by decide +kernel
theorem dm_25_120 : decode cm_25 120 = .ok (.iconst 5, 1) := by decide +kernel
theorem dm_25_121 : decode cm_25 121 = .ok (.aload_n 0, 1) := by decide +kernel
theorem dm_25_122 : decode cm_25 122 = .ok (.getfield 20, 3) := by decide +kernel
theorem dm_25_125 : decode cm_25 125 = .ok (.iload 5, 2) := by decide +kernel
theorem dm_25_127 : decode cm_25 127 = .ok (.iaload, 1) := by decide +kernel
theorem dm_25_128 : decode cm_25 128 = .ok (.iadd, 1) := by decide +kernel
theorem dm_25_129 : decode cm_25 129 = .ok (.iload 6, 2) := by decide +kernel
theorem dm_25_131 : decode cm_25 131 = .ok (.iadd, 1) := by decide +kernel
theorem dm_25_132 : decode cm_25 132 = .ok (.invokevirtual 87, 3) := by decide +kernel
theorem dm_25_135 : decode cm_25 135 = .ok (.goto 86, 3) := by decide +kernel
theorem dm_25_138 : decode cm_25 138 = .ok (.iload_n 3, 1) := by decide +kernel
theorem dm_25_139 : decode cm_25 139 = .ok (.aload_n 0, 1) := by decide +kernel
theorem dm_25_140 : decode cm_25 140 = .ok (.getfield 20, 3) := by decide +kernel
theorem dm_25_143 : decode cm_25 143 = .ok (.iload 4, 2) := by decide +kernel
theorem dm_25_145 : decode cm_25 145 = .ok (.iaload, 1) := by decide +kernel
theorem dm_25_146 : decode cm_25 146 = .ok (.aload_n 0, 1) := by decide +kernel
theorem dm_25_147 : decode cm_25 147 = .ok (.getfield 20, 3) := by decide +kernel
theorem dm_25_150 : decode cm_25 150 = .ok (.iload 5, 2) := by decide +kernel
theorem dm_25_152 : decode cm_25 152 = .ok (.iaload, 1) := by decide +kernel
theorem dm_25_153 : decode cm_25 153 = .ok (.invokestatic 91, 3) := by decide +kernel
theorem dm_25_156 : decode cm_25 156 = .ok (.ifCond .eq 65, 3) := by decide +kernel
theorem dm_25_159 : decode cm_25 159 = .ok (.aload_n 1, 1) := by decide +kernel
theorem dm_25_160 : decode cm_25 160 = .ok (.iload 6, 2) := by decide +kernel
theorem dm_25_162 : decode cm_25 162 = .ok (.invokevirtual 95, 3) := by decide +kernel
theorem dm_25_165 : decode cm_25 165 = .ok (.istore 7, 2) := by decide +kernel
theorem dm_25_167 : decode cm_25 167 = .ok (.goto 54, 3) := by decide +kernel
theorem dm_25_170 : decode cm_25 170 = .ok (.aload_n 1, 1) := by decide +kernel
theorem dm_25_171 : decode cm_25 171 = .ok (.aload_n 0, 1) := by decide +kernel
theorem dm_25_172 : decode cm_25 172 = .ok (.getfield 24, 3) := by decide +kernel
theorem dm_25_175 : decode cm_25 175 = .ok (.iload 4, 2) := by decide +kernel
theorem dm_25_177 : decode cm_25 177 = .ok (.iaload, 1) := by decide +kernel
theorem dm_25_178 : decode cm_25 178 = .ok (.invokevirtual 95, 3) := by decide +kernel
theorem dm_25_181 : decode cm_25 181 = .ok (.istore 7, 2) := by decide +kernel
theorem dm_25_183 : decode cm_25 183 = .ok (.goto 38, 3) := by decide +kernel
theorem dm_25_186 : decode cm_25 186 = .ok (.aload_n 0, 1) := by decide +kernel
theorem dm_25_187 : decode cm_25 187 = .ok (.aload_n 2, 1) := by decide +kernel
theorem dm_25_188 : decode cm_25 188 = .ok (.iload 6, 2) := by decide +kernel
theorem dm_25_190 : decode cm_25 190 = .ok (.invokevirtual 98, 3) := by decide +kernel
theorem dm_25_193 : decode cm_25 193 = .ok (.istore 8, 2) := by decide +kernel
theorem dm_25_195 : decode cm_25 195 = .ok (.goto 26, 3) := by decide +kernel
theorem dm_25_198 : decode cm_25 198 = .ok (.aload_n 0, 1) := by decide +kernel
theorem dm_25_199 : decode cm_25 199 = .ok (.getfield 24, 3) := by decide +kernel
theorem dm_25_202 : decode cm_25 202 = .ok (.iload 4, 2) := by decide +kernel
theorem dm_25_204 : decode cm_25 204 = .ok (.iload 6, 2) := by decide +kernel
theorem dm_25_206 : decode cm_25 206 = .ok (.iastore, 1) := by decide +kernel
theorem dm_25_207 : decode cm_25 207 = .ok (.goto 14, 3) := by decide +kernel
theorem dm_25_210 : decode cm_25 210 = .ok (.aload_n 0, 1) := by decide +kernel
theorem dm_25_211 : decode cm_25 211 = .ok (.iload_n 3, 1) := by decide +kernel
theorem dm_25_212 : decode cm_25 212 = .ok (.iload 4, 2) := by decide +kernel
theorem dm_25_214 : decode cm_25 214 = .ok (.iload 5, 2) := by decide +kernel
theorem dm_25_216 : decode cm_25 216 = .ok (.iload 6, 2) := by decide +kernel
theorem dm_25_218 : decode cm_25 218 = .ok (.invokevirtual 102, 3) := by decide +kernel
theorem dm_25_221 : decode cm_25 221 = .ok (.aload_n 0, 1) := by decide +kernel
theorem dm_25_222 : decode cm_25 222 = .ok (.iload 7, 2) := by decide +kernel
theorem dm_25_224 : decode cm_25 224 = .ok (.putfield 36, 3) := by decide +kernel
theorem dm_25_227 : decode cm_25 227 = .ok (.iload 8, 2) := by decide +kernel
theorem dm_25_229 : decode cm_25 229 = .ok (.ireturn, 1) := by decide +kernel
theorem dm_26_0 : decode cm_26 0 = .ok (.aload_n 0, 1) := by decide +kernel
theorem dm_26_1 : decode cm_26 1 = .ok (.getfield 20, 3) := by decide +kernel
theorem dm_26_4 : decode cm_26 4 = .ok (.iload_n 2, 1) := by decide +kernel
theorem dm_26_5 : decode cm_26 5 = .ok (.aload_n 0, 1) := by decide +kernel
theorem dm_26_6 : decode cm_26 6 = .ok (.getfield 20, 3) := by decide +kernel
theorem dm_26_9 : decode cm_26 9 = .ok (.iload_n 1, 1) := by decide +kernel
theorem dm_26_10 : decode cm_26 10 = .ok (.iaload, 1) := by decide +kernel
theorem dm_26_11 : decode cm_26 11 = .ok (.iastore, 1) := by decide +kernel
theorem dm_26_12 : decode cm_26 12 = .ok (.aload_n 0, 1) := by decide +kernel
theorem dm_26_13 : decode cm_26 13 = .ok (.getfield 24, 3) := by decide +kernel
theorem dm_26_16 : decode cm_26 16 = .ok (.iload_n 2, 1) := by decide +kernel
theorem dm_26_17 : decode cm_26 17 = .ok (.aload_n 0, 1) := by decide +kernel
theorem dm_26_18 : decode cm_26 18 = .ok (.getfield 24, 3) := by decide +kernel
theorem dm_26_21 : decode cm_26 21 = .ok (.iload_n 1, 1) := by decide +kernel
theorem dm_26_22 : decode cm_26 22 = .ok (.iaload, 1) := by decide +kernel
theorem dm_26_23 : decode cm_26 23 = .ok (.iastore, 1) := by decide +kernel
theorem dm_26_24 : decode cm_26 24 = .ok (.return_, 1) := by decide +kernel
theorem dm_27_0 : decode cm_27 0 = .ok (.aload_n 0, 1) := by decide +kernel
theorem dm_27_1 : decode cm_27 1 = .ok (.getfield 20, 3) := by decide +kernel
theorem dm_27_4 : decode cm_27 4 = .ok (.iload_n 1, 1) := by decide +kernel
theorem dm_27_5 : decode cm_27 5 = .ok (.iload_n 2, 1) := by decide +kernel
theorem dm_27_6 : decode cm_27 6 = .ok (.iastore, 1) := by decide +kernel
theorem dm_27_7 : decode cm_27 7 = .ok (.aload_n 0, 1) := by decide +kernel
theorem dm_27_8 : decode cm_27 8 = .ok (.getfield 24, 3) := by decide +kernel
theorem dm_27_11 : decode cm_27 11 = .ok (.iload_n 1, 1) := by decide +kernel
theorem dm_27_12 : decode cm_27 12 = .ok (.iconst (-1), 1) := by decide +kernel
theorem dm_27_13 : decode cm_27 13 = .ok (.iastore, 1) := by decide +kernel
theorem dm_27_14 : decode cm_27 14 = .ok (.return_, 1) := by decide +kernel
theorem dm_28_0 : decode cm_28 0 = .ok (.iload_n 1, 1) := by decide +kernel
theorem dm_28_1 : decode cm_28 1 = .ok (.iconst 2, 1) := by decide +kernel
theorem dm_28_2 : decode cm_28 2 = .ok (.if_icmp .ne 20, 3) := by decide +kernel
theorem dm_28_5 : decode cm_28 5 = .ok (.aload_n 0, 1) := by decide +kernel
theorem dm_28_6 : decode cm_28 6 = .ok (.iload_n 3, 1) := by decide +kernel
theorem dm_28_7 : decode cm_28 7 = .ok (.invokevirtual 67, 3) := by decide +kernel
theorem dm_28_10 : decode cm_28 10 = .ok (.ifCond .eq 12, 3) := by decide +kernel
theorem dm_28_13 : decode cm_28 13 = .ok (.aload_n 0, 1) := by decide +kernel
theorem dm_28_14 : decode cm_28 14 = .ok (.iload_n 3, 1) := by decide +kernel
theorem dm_28_15 : decode cm_28 15 = .ok (.iload_n 2, 1) := by decide +kernel
theorem dm_28_16 : decode cm_28 16 = .ok (.invokevirtual 87, 3) := by decide +kernel
theorem dm_28_19 : decode cm_28 19 = .ok (.goto 26, 3) := by decide +kernel
theorem dm_28_22 : decode cm_28 22 = .ok (.aload_n 0, 1) := by decide +kernel
theorem dm_28_23 : decode cm_28 23 = .ok (.iload_n 2, 1) := by decide +kernel
theorem dm_28_24 : decode cm_28 24 = .ok (.iload_n 1, 1) := by decide +kernel
theorem dm_28_25 : decode cm_28 25 = .ok (.aload_n 0, 1) := by decide +kernel
theorem dm_28_26 : decode cm_28 26 = .ok (.getfield 20, 3) := by decide +kernel
theorem dm_28_29 : decode cm_28 29 = .ok (.iload_n 2, 1) := by decide +kernel
theorem dm_28_30 : decode cm_28 30 = .ok (.iaload, 1) := by decide +kernel
theorem dm_28_31 : decode cm_28 31 = .ok (.aload_n 0, 1) := by decide +kernel
theorem dm_28_32 : decode cm_28 32 = .ok (.getfield 20, 3) := by decide +kernel
theorem dm_28_35 : decode cm_28 35 = .ok (.iload_n 3, 1) := by decide +kernel
theorem dm_28_36 : decode cm_28 36 = .ok (.iaload, 1) := by decide +kernel
theorem dm_28_37 : decode cm_28 37 = .ok (.iload 4, 2) := by decide +kernel
theorem dm_28_39 : decode cm_28 39 = .ok (.invokestatic 106, 3) := by decide +kernel
theorem dm_28_42 : decode cm_28 42 = .ok (.invokevirtual 110, 3) := by decide +kernel
theorem dm_28_45 : decode cm_28 45 = .ok (.return_, 1) := by decide +kernel
theorem dm_29_0 : decode cm_29 0 = .ok (.aload_n 0, 1) := by decide +kernel
theorem dm_29_1 : decode cm_29 1 = .ok (.getfield 16, 3) := by decide +kernel
theorem dm_29_4 : decode cm_29 4 = .ok (.iload_n 2, 1) := by decide +kernel
theorem dm_29_5 : decode cm_29 5 = .ok (.aload_n 0, 1) := by decide +kernel
theorem dm_29_6 : decode cm_29 6 = .ok (.getfield 20, 3) := by decide +kernel
theorem dm_29_9 : decode cm_29 9 = .ok (.iconst 1, 1) := by decide +kernel
theorem dm_29_10 : decode cm_29 10 = .ok (.iaload, 1) := by decide +kernel
theorem dm_29_11 : decode cm_29 11 = .ok (.aload_n 0, 1) := by decide +kernel
theorem dm_29_12 : decode cm_29 12 = .ok (.getfield 20, 3) := by decide +kernel
theorem dm_29_15 : decode cm_29 15 = .ok (.iconst 2, 1) := by decide +kernel
theorem dm_29_16 : decode cm_29 16 = .ok (.iaload, 1) := by decide +kernel
theorem dm_29_17 : decode cm_29 17 = .ok (.invokevirtual 113, 3) := by decide +kernel
theorem dm_29_20 : decode cm_29 20 = .ok (.iload_n 2, 1) := by decide +kernel
theorem dm_29_21 : decode cm_29 21 = .ok (.tableswitch 119 0 4 #[35, 37, 46, 62, 83], 35) := by decide +kernel
theorem dm_29_56 : decode cm_29 56 = .ok (.iconst 1, 1) := by decide +kernel
theorem dm_29_57 : decode cm_29 57 = .ok (.ireturn, 1) := by decide +kernel
theorem dm_29_58 : decode cm_29 58 = .ok (.aload_n 0, 1) := by decide +kernel
theorem dm_29_59 : decode cm_29 59 = .ok (.iconst 1, 1) := by decide +kernel
theorem dm_29_60 : decode cm_29 60 = .ok (.iconst 0, 1) := by decide +kernel
theorem dm_29_61 : decode cm_29 61 = .ok (.invokevirtual 110, 3) := by decide +kernel
theorem dm_29_64 : decode cm_29 64 = .ok (.goto 82, 3) := by decide +kernel
theorem dm_29_67 : decode cm_29 67 = .ok (.aload_n 0, 1) := by decide +kernel
theorem dm_29_68 : decode cm_29 68 = .ok (.iconst 1, 1) := by decide +kernel
theorem dm_29_69 : decode cm_29 69 = .ok (.aload_n 0, 1) := by decide +kernel
theorem dm_29_70 : decode cm_29 70 = .ok (.getfield 16, 3) := by decide +kernel
theorem dm_29_73 : decode cm_29 73 = .ok (.aload_n 1, 1) := by decide +kernel
theorem dm_29_74 : decode cm_29 74 = .ok (.invokevirtual 117, 3) := by decide +kernel
theorem dm_29_77 : decode cm_29 77 = .ok (.invokevirtual 110, 3) := by decide +kernel
theorem dm_29_80 : decode cm_29 80 = .ok (.goto 66, 3) := by decide +kernel
theorem dm_29_83 : decode cm_29 83 = .ok (.aload_n 0, 1) := by decide +kernel
theorem dm_29_84 : decode cm_29 84 = .ok (.iconst 1, 1) := by decide +kernel
theorem dm_29_85 : decode cm_29 85 = .ok (.aload_n 0, 1) := by decide +kernel
theorem dm_29_86 : decode cm_29 86 = .ok (.getfield 16, 3) := by decide +kernel
theorem dm_29_89 : decode cm_29 89 = .ok (.aload_n 0, 1) := by decide +kernel
theorem dm_29_90 : decode cm_29 90 = .ok (.getfield 20, 3) := by decide +kernel
theorem dm_29_93 : decode cm_29 93 = .ok (.iconst 1, 1) := by decide +kernel
theorem dm_29_94 : decode cm_29 94 = .ok (.iaload, 1) := by decide +kernel
theorem dm_29_95 : decode cm_29 95 = .ok (.invokevirtual 121, 3) := by decide +kernel
theorem dm_29_98 : decode cm_29 98 = .ok (.invokevirtual 110, 3) := by decide +kernel
theorem dm_29_101 : decode cm_29 101 = .ok (.goto 45, 3) := by decide +kernel
theorem dm_29_104 : decode cm_29 104 = .ok (.aload_n 0, 1) := by decide +kernel
theorem dm_29_105 : decode cm_29 105 = .ok (.iconst 1, 1) := by decide +kernel
theorem dm_29_106 : decode cm_29 106 = .ok (.aload_n 0, 1) := by decide +kernel
theorem dm_29_107 : decode cm_29 107 = .ok (.getfield 20, 3) := by decide +kernel
theorem dm_29_110 : decode cm_29 110 = .ok (.iconst 1, 1) := by decide +kernel
theorem dm_29_111 : decode cm_29 111 = .ok (.iaload, 1) := by decide +kernel
theorem dm_29_112 : decode cm_29 112 = .ok (.aload_n 0, 1) := by decide +kernel
theorem dm_29_113 : decode cm_29 113 = .ok (.getfield 20, 3) := by decide +kernel
theorem dm_29_116 : decode cm_29 116 = .ok (.iconst 2, 1) := by decide +kernel
theorem dm_29_117 : decode cm_29 117 = .ok (.iaload, 1) := by decide +kernel
theorem dm_29_118 : decode cm_29 118 = .ok (.invokestatic 84, 3) := by decide +kernel
theorem dm_29_121 : decode cm_29 121 = .ok (.ifCond .eq 12, 3) := by decide +kernel
theorem dm_29_124 : decode cm_29 124 = .ok (.aload_n 0, 1) := by decide +kernel
theorem dm_29_125 : decode cm_29 125 = .ok (.getfield 20, 3) := by decide +kernel
theorem dm_29_128 : decode cm_29 128 = .ok (.iconst 2, 1) := by decide +kernel
theorem dm_29_129 : decode cm_29 129 = .ok (.iaload, 1) := by decide +kernel
theorem dm_29_130 : decode cm_29 130 = .ok (.goto 4, 3) := by decide +kernel
theorem dm_29_133 : decode cm_29 133 = .ok (.iconst (-1), 1) := by decide +kernel
theorem dm_29_134 : decode cm_29 134 = .ok (.invokevirtual 110, 3) := by decide +kernel
theorem dm_29_137 : decode cm_29 137 = .ok (.goto 9, 3) := by decide +kernel
theorem dm_29_140 : decode cm_29 140 = .ok (.aload_n 0, 1) := by decide +kernel
theorem dm_29_141 : decode cm_29 141 = .ok (.iconst 1, 1) := by decide +kernel
theorem dm_29_142 : decode cm_29 142 = .ok (.iconst (-1), 1) := by decide +kernel
theorem dm_29_143 : decode cm_29 143 = .ok (.invokevirtual 110, 3) := by decide +kernel
theorem dm_29_146 : decode cm_29 146 = .ok (.iconst 0, 1) := by decide +kernel
theorem dm_29_147 : decode cm_29 147 = .ok (.ireturn, 1) := by decide +kernel
theorem dm_30_0 : decode cm_30 0 = .ok (.aload_n 0, 1) := by decide +kernel
theorem dm_30_1 : decode cm_30 1 = .ok (.invokespecial 1, 3) := by decide +kernel
theorem dm_30_4 : decode cm_30 4 = .ok (.aload_n 0, 1) := by decide +kernel
theorem dm_30_5 : decode cm_30 5 = .ok (.sipush 256, 3) := by decide +kernel
theorem dm_30_8 : decode cm_30 8 = .ok (.newarray .int, 2) := by decide +kernel
theorem dm_30_10 : decode cm_30 10 = .ok (.putfield 9, 3) := by decide +kernel
theorem dm_30_13 : decode cm_30 13 = .ok (.aload_n 0, 1) := by decide +kernel
theorem dm_30_14 : decode cm_30 14 = .ok (.iconst 3, 1) := by decide +kernel
theorem dm_30_15 : decode cm_30 15 = .ok (.anewarray 13, 3) := by decide +kernel
theorem dm_30_18 : decode cm_30 18 = .ok (.putfield 15, 3) := by decide +kernel
theorem dm_30_21 : decode cm_30 21 = .ok (.iconst 0, 1) := by decide +kernel
theorem dm_30_22 : decode cm_30 22 = .ok (.istore_n 1, 1) := by decide +kernel
theorem dm_30_23 : decode cm_30 23 = .ok (.iload_n 1, 1) := by decide +kernel
theorem dm_30_24 : decode cm_30 24 = .ok (.iconst 3, 1) := by decide +kernel
theorem dm_30_25 : decode cm_30 25 = .ok (.if_icmp .ge 23, 3) := by decide +kernel
theorem dm_30_28 : decode cm_30 28 = .ok (.aload_n 0, 1) := by decide +kernel
theorem dm_30_29 : decode cm_30 29 = .ok (.getfield 15, 3) := by decide +kernel
theorem dm_30_32 : decode cm_30 32 = .ok (.iload_n 1, 1) := by decide +kernel
theorem dm_30_33 : decode cm_30 33 = .ok (.new 13, 3) := by decide +kernel
theorem dm_30_36 : decode cm_30 36 = .ok (.dup, 1) := by decide +kernel
theorem dm_30_37 : decode cm_30 37 = .ok (.iload_n 1, 1) := by decide +kernel
theorem dm_30_38 : decode cm_30 38 = .ok (.invokespecial 19, 3) := by decide +kernel
theorem dm_30_41 : decode cm_30 41 = .ok (.aastore, 1) := by decide +kernel
theorem dm_30_42 : decode cm_30 42 = .ok (.iinc 1 1, 3) := by decide +kernel
theorem dm_30_45 : decode cm_30 45 = .ok (.goto (-22), 3) := by decide +kernel
theorem dm_30_48 : decode cm_30 48 = .ok (.return_, 1) := by decide +kernel
theorem dm_31_0 : decode cm_31 0 = .ok (.iload_n 1, 1) := by decide +kernel
theorem dm_31_1 : decode cm_31 1 = .ok (.invokestatic 22, 3) := by decide +kernel
theorem dm_31_4 : decode cm_31 4 = .ok (.ifCond .eq 12, 3) := by decide +kernel
theorem dm_31_7 : decode cm_31 7 = .ok (.aload_n 0, 1) := by decide +kernel
theorem dm_31_8 : decode cm_31 8 = .ok (.getfield 15, 3) := by decide +kernel
theorem dm_31_11 : decode cm_31 11 = .ok (.iload_n 1, 1) := by decide +kernel
theorem dm_31_12 : decode cm_31 12 = .ok (.aaload, 1) := by decide +kernel
theorem dm_31_13 : decode cm_31 13 = .ok (.goto 4, 3) := by decide +kernel
theorem dm_31_16 : decode cm_31 16 = .ok (.aconst_null, 1) := by decide +kernel
theorem dm_31_17 : decode cm_31 17 = .ok (.areturn, 1) := by decide +kernel
theorem dm_32_0 : decode cm_32 0 = .ok (.iload_n 1, 1) := by decide +kernel
theorem dm_32_1 : decode cm_32 1 = .ok (.ifCond .lt 19, 3) := by decide +kernel
theorem dm_32_4 : decode cm_32 4 = .ok (.iload_n 1, 1) := by decide +kernel
theorem dm_32_5 : decode cm_32 5 = .ok (.sipush 256, 3) := by decide +kernel
theorem dm_32_8 : decode cm_32 8 = .ok (.if_icmp .ge 12, 3) := by decide +kernel
theorem dm_32_11 : decode cm_32 11 = .ok (.aload_n 0, 1) := by decide +kernel
theorem dm_32_12 : decode cm_32 12 = .ok (.getfield 9, 3) := by decide +kernel
theorem dm_32_15 : decode cm_32 15 = .ok (.iload_n 1, 1) := by decide +kernel
theorem dm_32_16 : decode cm_32 16 = .ok (.iaload, 1) := by decide +kernel
theorem dm_32_17 : decode cm_32 17 = .ok (.goto 4, 3) := by decide +kernel
theorem dm_32_20 : decode cm_32 20 = .ok (.iconst 0, 1) := by decide +kernel
theorem dm_32_21 : decode cm_32 21 = .ok (.ireturn, 1) := by decide +kernel
theorem dm_33_0 : decode cm_33 0 = .ok (.iload_n 1, 1) := by decide +kernel
theorem dm_33_1 : decode cm_33 1 = .ok (.ifCond .lt 17, 3) := by decide +kernel
theorem dm_33_4 : decode cm_33 4 = .ok (.iload_n 1, 1) := by decide +kernel
theorem dm_33_5 : decode cm_33 5 = .ok (.sipush 256, 3) := by decide +kernel
theorem dm_33_8 : decode cm_33 8 = .ok (.if_icmp .ge 10, 3) := by decide +kernel
theorem dm_33_11 : decode cm_33 11 = .ok (.aload_n 0, 1) := by decide +kernel
theorem dm_33_12 : decode cm_33 12 = .ok (.getfield 9, 3) := by decide +kernel
theorem dm_33_15 : decode cm_33 15 = .ok (.iload_n 1, 1) := by decide +kernel
theorem dm_33_16 : decode cm_33 16 = .ok (.iload_n 2, 1) := by decide +kernel
theorem dm_33_17 : decode cm_33 17 = .ok (.iastore, 1) := by decide +kernel
theorem dm_33_18 : decode cm_33 18 = .ok (.return_, 1) := by decide +kernel
theorem dm_34_0 : decode cm_34 0 = .ok (.aload_n 0, 1) := by decide +kernel
theorem dm_34_1 : decode cm_34 1 = .ok (.iload_n 2, 1) := by decide +kernel
theorem dm_34_2 : decode cm_34 2 = .ok (.invokevirtual 26, 3) := by decide +kernel
theorem dm_34_5 : decode cm_34 5 = .ok (.astore_n 3, 1) := by decide +kernel
theorem dm_34_6 : decode cm_34 6 = .ok (.aload_n 3, 1) := by decide +kernel
theorem dm_34_7 : decode cm_34 7 = .ok (.ifnonnull 4, 3) := by decide +kernel
theorem dm_34_10 : decode cm_34 10 = .ok (.return_, 1) := by decide +kernel
theorem dm_34_11 : decode cm_34 11 = .ok (.iconst 0, 1) := by decide +kernel
theorem dm_34_12 : decode cm_34 12 = .ok (.istore 4, 2) := by decide +kernel
theorem dm_34_14 : decode cm_34 14 = .ok (.iload 4, 2) := by decide +kernel
theorem dm_34_16 : decode cm_34 16 = .ok (.bipush 32, 2) := by decide +kernel
theorem dm_34_18 : decode cm_34 18 = .ok (.if_icmp .ge 26, 3) := by decide +kernel
theorem dm_34_21 : decode cm_34 21 = .ok (.aload_n 0, 1) := by decide +kernel
theorem dm_34_22 : decode cm_34 22 = .ok (.iload_n 2, 1) := by decide +kernel
theorem dm_34_23 : decode cm_34 23 = .ok (.invokestatic 30, 3) := by decide +kernel
theorem dm_34_26 : decode cm_34 26 = .ok (.iload 4, 2) := by decide +kernel
theorem dm_34_28 : decode cm_34 28 = .ok (.iadd, 1) := by decide +kernel
theorem dm_34_29 : decode cm_34 29 = .ok (.aload_n 1, 1) := by decide +kernel
theorem dm_34_30 : decode cm_34 30 = .ok (.iload 4, 2) := by decide +kernel
theorem dm_34_32 : decode cm_34 32 = .ok (.invokevirtual 34, 3) := by decide +kernel
theorem dm_34_35 : decode cm_34 35 = .ok (.invokevirtual 39, 3) := by decide +kernel
theorem dm_34_38 : decode cm_34 38 = .ok (.iinc 4 1, 3) := by decide +kernel
theorem dm_34_41 : decode cm_34 41 = .ok (.goto (-27), 3) := by decide +kernel
theorem dm_34_44 : decode cm_34 44 = .ok (.iconst 0, 1) := by decide +kernel
theorem dm_34_45 : decode cm_34 45 = .ok (.istore 4, 2) := by decide +kernel
theorem dm_34_47 : decode cm_34 47 = .ok (.iload 4, 2) := by decide +kernel
theorem dm_34_49 : decode cm_34 49 = .ok (.bipush 16, 2) := by decide +kernel
theorem dm_34_51 : decode cm_34 51 = .ok (.if_icmp .ge 21, 3) := by decide +kernel
theorem dm_34_54 : decode cm_34 54 = .ok (.aload_n 0, 1) := by decide +kernel
theorem dm_34_55 : decode cm_34 55 = .ok (.iload_n 2, 1) := by decide +kernel
theorem dm_34_56 : decode cm_34 56 = .ok (.invokestatic 43, 3) := by decide +kernel
theorem dm_34_59 : decode cm_34 59 = .ok (.iload 4, 2) := by decide +kernel
theorem dm_34_61 : decode cm_34 61 = .ok (.iadd, 1) := by decide +kernel
theorem dm_34_62 : decode cm_34 62 = .ok (.iconst 0, 1) := by decide +kernel
theorem dm_34_63 : decode cm_34 63 = .ok (.invokevirtual 39, 3) := by decide +kernel
theorem dm_34_66 : decode cm_34 66 = .ok (.iinc 4 1, 3) := by decide +kernel
theorem dm_34_69 : decode cm_34 69 = .ok (.goto (-22), 3) := by decide +kernel
theorem dm_34_72 : decode cm_34 72 = .ok (.aload_n 3, 1) := by decide +kernel
theorem dm_34_73 : decode cm_34 73 = .ok (.invokevirtual 46, 3) := by decide +kernel
theorem dm_34_76 : decode cm_34 76 = .ok (.aload_n 0, 1) := by decide +kernel
theorem dm_34_77 : decode cm_34 77 = .ok (.getfield 49, 3) := by decide +kernel
theorem dm_34_80 : decode cm_34 80 = .ok (.iload_n 2, 1) := by decide +kernel
theorem dm_34_81 : decode cm_34 81 = .ok (.if_icmp .ne 8, 3) := by decide +kernel
theorem dm_34_84 : decode cm_34 84 = .ok (.aload_n 0, 1) := by decide +kernel
theorem dm_34_85 : decode cm_34 85 = .ok (.iconst 0, 1) := by decide +kernel
theorem dm_34_86 : decode cm_34 86 = .ok (.putfield 53, 3) := by decide +kernel
theorem dm_34_89 : decode cm_34 89 = .ok (.return_, 1) := by decide +kernel
theorem dm_35_0 : decode cm_35 0 = .ok (.iconst 0, 1) := by decide +kernel
theorem dm_35_1 : decode cm_35 1 = .ok (.istore_n 2, 1) := by decide +kernel
theorem dm_35_2 : decode cm_35 2 = .ok (.iload_n 2, 1) := by decide +kernel
theorem dm_35_3 : decode cm_35 3 = .ok (.iload_n 1, 1) := by decide +kernel
theorem dm_35_4 : decode cm_35 4 = .ok (.if_icmp .ge 30, 3) := by decide +kernel
theorem dm_35_7 : decode cm_35 7 = .ok (.aload_n 0, 1) := by decide +kernel
theorem dm_35_8 : decode cm_35 8 = .ok (.invokevirtual 56, 3) := by decide +kernel
theorem dm_35_11 : decode cm_35 11 = .ok (.astore_n 3, 1) := by decide +kernel
theorem dm_35_12 : decode cm_35 12 = .ok (.aload_n 3, 1) := by decide +kernel
theorem dm_35_13 : decode cm_35 13 = .ok (.ifnonnull 5, 3) := by decide +kernel
theorem dm_35_16 : decode cm_35 16 = .ok (.iload_n 2, 1) := by decide +kernel
theorem dm_35_17 : decode cm_35 17 = .ok (.ireturn, 1) := by decide +kernel
theorem dm_35_18 : decode cm_35 18 = .ok (.aload_n 0, 1) := by decide +kernel
theorem dm_35_19 : decode cm_35 19 = .ok (.aload_n 3, 1) := by decide +kernel
theorem dm_35_20 : decode cm_35 20 = .ok (.invokevirtual 60, 3) := by decide +kernel
theorem dm_35_23 : decode cm_35 23 = .ok (.aload_n 0, 1) := by decide +kernel
theorem dm_35_24 : decode cm_35 24 = .ok (.aload_n 3, 1) := by decide +kernel
theorem dm_35_25 : decode cm_35 25 = .ok (.invokevirtual 64, 3) := by decide +kernel
theorem dm_35_28 : decode cm_35 28 = .ok (.iinc 2 1, 3) := by decide +kernel
theorem dm_35_31 : decode cm_35 31 = .ok (.goto (-29), 3) := by decide +kernel
theorem dm_35_34 : decode cm_35 34 = .ok (.iload_n 1, 1) := by decide +kernel
theorem dm_35_35 : decode cm_35 35 = .ok (.ireturn, 1) := by decide +kernel
theorem dm_36_0 : decode cm_36 0 = .ok (.aload_n 0, 1) := by decide +kernel
theorem dm_36_1 : decode cm_36 1 = .ok (.getfield 49, 3) := by decide +kernel
theorem dm_36_4 : decode cm_36 4 = .ok (.istore_n 1, 1) := by decide +kernel
theorem dm_36_5 : decode cm_36 5 = .ok (.iconst 0, 1) := by decide +kernel
theorem dm_36_6 : decode cm_36 6 = .ok (.istore_n 2, 1) := by decide +kernel
theorem dm_36_7 : decode cm_36 7 = .ok (.iload_n 2, 1) := by decide +kernel
theorem dm_36_8 : decode cm_36 8 = .ok (.iconst 3, 1) := by decide +kernel
theorem dm_36_9 : decode cm_36 9 = .ok (.if_icmp .ge 47, 3) := by decide +kernel
theorem dm_36_12 : decode cm_36 12 = .ok (.aload_n 0, 1) := by decide +kernel
theorem dm_36_13 : decode cm_36 13 = .ok (.iload_n 1, 1) := by decide +kernel
theorem dm_36_14 : decode cm_36 14 = .ok (.invokevirtual 26, 3) := by decide +kernel
theorem dm_36_17 : decode cm_36 17 = .ok (.astore_n 3, 1) := by decide +kernel
theorem dm_36_18 : decode cm_36 18 = .ok (.aload_n 3, 1) := by decide +kernel
theorem dm_36_19 : decode cm_36 19 = .ok (.ifnull 26, 3) := by decide +kernel
theorem dm_36_22 : decode cm_36 22 = .ok (.aload_n 3, 1) := by decide +kernel
theorem dm_36_23 : decode cm_36 23 = .ok (.getfield 67, 3) := by decide +kernel
theorem dm_36_26 : decode cm_36 26 = .ok (.iconst 1, 1) := by decide +kernel
theorem dm_36_27 : decode cm_36 27 = .ok (.if_icmp .ne 18, 3) := by decide +kernel
theorem dm_36_30 : decode cm_36 30 = .ok (.iload_n 1, 1) := by decide +kernel
theorem dm_36_31 : decode cm_36 31 = .ok (.aload_n 0, 1) := by decide +kernel
theorem dm_36_32 : decode cm_36 32 = .ok (.getfield 49, 3) := by decide +kernel
theorem dm_36_35 : decode cm_36 35 = .ok (.if_icmp .eq 8, 3) := by decide +kernel
theorem dm_36_38 : decode cm_36 38 = .ok (.aload_n 0, 1) := by decide +kernel
theorem dm_36_39 : decode cm_36 39 = .ok (.iload_n 1, 1) := by decide +kernel
theorem dm_36_40 : decode cm_36 40 = .ok (.invokevirtual 70, 3) := by decide +kernel
theorem dm_36_43 : decode cm_36 43 = .ok (.aload_n 3, 1) := by decide +kernel
theorem dm_36_44 : decode cm_36 44 = .ok (.areturn, 1) := by decide +kernel
theorem dm_36_45 : decode cm_36 45 = .ok (.iload_n 1, 1) := by decide +kernel
theorem dm_36_46 : decode cm_36 46 = .ok (.invokestatic 73, 3) := by decide +kernel
theorem dm_36_49 : decode cm_36 49 = .ok (.istore_n 1, 1) := by decide +kernel
theorem dm_36_50 : decode cm_36 50 = .ok (.iinc 2 1, 3) := by decide +kernel
theorem dm_36_53 : decode cm_36 53 = .ok (.goto (-46), 3) := by decide +kernel
theorem dm_36_56 : decode cm_36 56 = .ok (.aconst_null, 1) := by decide +kernel
theorem dm_36_57 : decode cm_36 57 = .ok (.areturn, 1) := by decide +kernel
theorem dm_37_0 : decode cm_37 0 = .ok (.aload_n 0, 1) := by decide +kernel
theorem dm_37_1 : decode cm_37 1 = .ok (.dup, 1) := by decide +kernel
theorem dm_37_2 : decode cm_37 2 = .ok (.getfield 53, 3) := by decide +kernel
theorem dm_37_5 : decode cm_37 5 = .ok (.iconst 1, 1) := by decide +kernel
theorem dm_37_6 : decode cm_37 6 = .ok (.iadd, 1) := by decide +kernel
theorem dm_37_7 : decode cm_37 7 = .ok (.putfield 53, 3) := by decide +kernel
theorem dm_37_10 : decode cm_37 10 = .ok (.aload_n 0, 1) := by decide +kernel
theorem dm_37_11 : decode cm_37 11 = .ok (.getfield 53, 3) := by decide +kernel
theorem dm_37_14 : decode cm_37 14 = .ok (.iconst 3, 1) := by decide +kernel
theorem dm_37_15 : decode cm_37 15 = .ok (.if_icmp .ge 11, 3) := by decide +kernel
theorem dm_37_18 : decode cm_37 18 = .ok (.aload_n 1, 1) := by decide +kernel
theorem dm_37_19 : decode cm_37 19 = .ok (.getfield 67, 3) := by decide +kernel
theorem dm_37_22 : decode cm_37 22 = .ok (.iconst 1, 1) := by decide +kernel
theorem dm_37_23 : decode cm_37 23 = .ok (.if_icmp .eq 14, 3) := by decide +kernel
theorem dm_37_26 : decode cm_37 26 = .ok (.aload_n 0, 1) := by decide +kernel
theorem dm_37_27 : decode cm_37 27 = .ok (.aload_n 0, 1) := by decide +kernel
theorem dm_37_28 : decode cm_37 28 = .ok (.getfield 49, 3) := by decide +kernel
theorem dm_37_31 : decode cm_37 31 = .ok (.invokestatic 73, 3) := by decide +kernel
theorem dm_37_34 : decode cm_37 34 = .ok (.invokevirtual 70, 3) := by decide +kernel
theorem dm_37_37 : decode cm_37 37 = .ok (.return_, 1) := by decide +kernel
theorem dm_38_0 : decode cm_38 0 = .ok (.aload_n 0, 1) := by decide +kernel
theorem dm_38_1 : decode cm_38 1 = .ok (.iload_n 1, 1) := by decide +kernel
theorem dm_38_2 : decode cm_38 2 = .ok (.putfield 49, 3) := by decide +kernel
theorem dm_38_5 : decode cm_38 5 = .ok (.aload_n 0, 1) := by decide +kernel
theorem dm_38_6 : decode cm_38 6 = .ok (.iconst 0, 1) := by decide +kernel
theorem dm_38_7 : decode cm_38 7 = .ok (.putfield 53, 3) := by decide +kernel
theorem dm_38_10 : decode cm_38 10 = .ok (.return_, 1) := by decide +kernel
theorem dm_39_0 : decode cm_39 0 = .ok (.iload_n 0, 1) := by decide +kernel
theorem dm_39_1 : decode cm_39 1 = .ok (.iconst 1, 1) := by decide +kernel
theorem dm_39_2 : decode cm_39 2 = .ok (.iadd, 1) := by decide +kernel
theorem dm_39_3 : decode cm_39 3 = .ok (.iconst 3, 1) := by decide +kernel
theorem dm_39_4 : decode cm_39 4 = .ok (.if_icmp .ge 9, 3) := by decide +kernel
theorem dm_39_7 : decode cm_39 7 = .ok (.iload_n 0, 1) := by decide +kernel
theorem dm_39_8 : decode cm_39 8 = .ok (.iconst 1, 1) := by decide +kernel
theorem dm_39_9 : decode cm_39 9 = .ok (.iadd, 1) := by decide +kernel
theorem dm_39_10 : decode cm_39 10 = .ok (.goto 4, 3) := by decide +kernel
theorem dm_39_13 : decode cm_39 13 = .ok (.iconst 0, 1) := by decide +kernel
theorem dm_39_14 : decode cm_39 14 = .ok (.ireturn, 1) := by decide +kernel
theorem dm_40_0 : decode cm_40 0 = .ok (.aload_n 1, 1) := by decide +kernel
theorem dm_40_1 : decode cm_40 1 = .ok (.getfield 76, 3) := by decide +kernel
theorem dm_40_4 : decode cm_40 4 = .ok (.istore_n 2, 1) := by decide +kernel
theorem dm_40_5 : decode cm_40 5 = .ok (.aload_n 0, 1) := by decide +kernel
theorem dm_40_6 : decode cm_40 6 = .ok (.iload_n 2, 1) := by decide +kernel
theorem dm_40_7 : decode cm_40 7 = .ok (.invokevirtual 79, 3) := by decide +kernel
theorem dm_40_10 : decode cm_40 10 = .ok (.istore_n 3, 1) := by decide +kernel
theorem dm_40_11 : decode cm_40 11 = .ok (.iload_n 3, 1) := by decide +kernel
theorem dm_40_12 : decode cm_40 12 = .ok (.invokestatic 82, 3) := by decide +kernel
theorem dm_40_15 : decode cm_40 15 = .ok (.istore 4, 2) := by decide +kernel
theorem dm_40_17 : decode cm_40 17 = .ok (.iload_n 3, 1) := by decide +kernel
theorem dm_40_18 : decode cm_40 18 = .ok (.invokestatic 87, 3) := by decide +kernel
theorem dm_40_21 : decode cm_40 21 = .ok (.istore 5, 2) := by decide +kernel
theorem dm_40_23 : decode cm_40 23 = .ok (.iload_n 3, 1) := by decide +kernel
theorem dm_40_24 : decode cm_40 24 = .ok (.invokestatic 90, 3) := by decide +kernel
theorem dm_40_27 : decode cm_40 27 = .ok (.istore 6, 2) := by decide +kernel
theorem dm_40_29 : decode cm_40 29 = .ok (.iload_n 3, 1) := by decide +kernel
theorem dm_40_30 : decode cm_40 30 = .ok (.invokestatic 93, 3) := by decide +kernel
theorem dm_40_33 : decode cm_40 33 = .ok (.istore 7, 2) := by decide +kernel
theorem dm_40_35 : decode cm_40 35 = .ok (.aload_n 1, 1) := by decide +kernel
theorem dm_40_36 : decode cm_40 36 = .ok (.getfield 96, 3) := by decide +kernel
theorem dm_40_39 : decode cm_40 39 = .ok (.astore 8, 2) := by decide +kernel
theorem dm_40_41 : decode cm_40 41 = .ok (.aload_n 1, 1) := by decide +kernel
theorem dm_40_42 : decode cm_40 42 = .ok (.iload_n 2, 1) := by decide +kernel
theorem dm_40_43 : decode cm_40 43 = .ok (.iconst 1, 1) := by decide +kernel
theorem dm_40_44 : decode cm_40 44 = .ok (.iadd, 1) := by decide +kernel
theorem dm_40_45 : decode cm_40 45 = .ok (.putfield 76, 3) := by decide +kernel
theorem dm_40_48 : decode cm_40 48 = .ok (.iload 4, 2) := by decide +kernel
theorem dm_40_50 : decode cm_40 50 = .ok (.tableswitch 181 0 15 #[172, 181, 181, 181, 181, 181, 181, 181, 78, 98, 118, 118, 118, 149, 161, 172], 78) := by decide +kernel
theorem dm_40_128 : decode cm_40 128 = .ok (.aload 8, 2) := by decide +kernel
theorem dm_40_130 : decode cm_40 130 = .ok (.iload 5, 2) := by decide +kernel
theorem dm_40_132 : decode cm_40 132 = .ok (.aload_n 0, 1) := by decide +kernel
theorem dm_40_133 : decode cm_40 133 = .ok (.aload 8, 2) := by decide +kernel
theorem dm_40_135 : decode cm_40 135 = .ok (.iload 6, 2) := by decide +kernel
theorem dm_40_137 : decode cm_40 137 = .ok (.iaload, 1) := by decide +kernel
theorem dm_40_138 : decode cm_40 138 = .ok (.iload 7, 2) := by decide +kernel
theorem dm_40_140 : decode cm_40 140 = .ok (.iadd, 1) := by decide +kernel
theorem dm_40_141 : decode cm_40 141 = .ok (.invokevirtual 79, 3) := by decide +kernel
theorem dm_40_144 : decode cm_40 144 = .ok (.iastore, 1) := by decide +kernel
theorem dm_40_145 : decode cm_40 145 = .ok (.goto 108, 3) := by decide +kernel
theorem dm_40_148 : decode cm_40 148 = .ok (.aload_n 0, 1) := by decide +kernel
theorem dm_40_149 : decode cm_40 149 = .ok (.aload 8, 2) := by decide +kernel
theorem dm_40_151 : decode cm_40 151 = .ok (.iload 6, 2) := by decide +kernel
theorem dm_40_153 : decode cm_40 153 = .ok (.iaload, 1) := by decide +kernel
theorem dm_40_154 : decode cm_40 154 = .ok (.iload 7, 2) := by decide +kernel
theorem dm_40_156 : decode cm_40 156 = .ok (.iadd, 1) := by decide +kernel
theorem dm_40_157 : decode cm_40 157 = .ok (.aload 8, 2) := by decide +kernel
theorem dm_40_159 : decode cm_40 159 = .ok (.iload 5, 2) := by decide +kernel
theorem dm_40_161 : decode cm_40 161 = .ok (.iaload, 1) := by decide +kernel
theorem dm_40_162 : decode cm_40 162 = .ok (.invokevirtual 39, 3) := by decide +kernel
theorem dm_40_165 : decode cm_40 165 = .ok (.goto 88, 3) := by decide +kernel
theorem dm_40_168 : decode cm_40 168 = .ok (.iload 4, 2) := by decide +kernel
theorem dm_40_170 : decode cm_40 170 = .ok (.aload 8, 2) := by decide +kernel
theorem dm_40_172 : decode cm_40 172 = .ok (.iload 5, 2) := by decide +kernel
theorem dm_40_174 : decode cm_40 174 = .ok (.iaload, 1) := by decide +kernel
theorem dm_40_175 : decode cm_40 175 = .ok (.aload 8, 2) := by decide +kernel
theorem dm_40_177 : decode cm_40 177 = .ok (.iload 6, 2) := by decide +kernel
theorem dm_40_179 : decode cm_40 179 = .ok (.iaload, 1) := by decide +kernel
theorem dm_40_180 : decode cm_40 180 = .ok (.invokestatic 99, 3) := by decide +kernel
theorem dm_40_183 : decode cm_40 183 = .ok (.ifCond .eq 70, 3) := by decide +kernel
theorem dm_40_186 : decode cm_40 186 = .ok (.aload_n 1, 1) := by decide +kernel
theorem dm_40_187 : decode cm_40 187 = .ok (.iload_n 2, 1) := by decide +kernel
theorem dm_40_188 : decode cm_40 188 = .ok (.iconst 1, 1) := by decide +kernel
theorem dm_40_189 : decode cm_40 189 = .ok (.iadd, 1) := by decide +kernel
theorem dm_40_190 : decode cm_40 190 = .ok (.iload 7, 2) := by decide +kernel
theorem dm_40_192 : decode cm_40 192 = .ok (.iadd, 1) := by decide +kernel
theorem dm_40_193 : decode cm_40 193 = .ok (.putfield 76, 3) := by decide +kernel
theorem dm_40_196 : decode cm_40 196 = .ok (.goto 57, 3) := by decide +kernel
theorem dm_40_199 : decode cm_40 199 = .ok (.aload_n 1, 1) := by decide +kernel
theorem dm_40_200 : decode cm_40 200 = .ok (.aload 8, 2) := by decide +kernel
theorem dm_40_202 : decode cm_40 202 = .ok (.iload 5, 2) := by decide +kernel
theorem dm_40_204 : decode cm_40 204 = .ok (.iaload, 1) := by decide +kernel
theorem dm_40_205 : decode cm_40 205 = .ok (.putfield 76, 3) := by decide +kernel
theorem dm_40_208 : decode cm_40 208 = .ok (.goto 45, 3) := by decide +kernel
theorem dm_40_211 : decode cm_40 211 = .ok (.aload_n 0, 1) := by decide +kernel
theorem dm_40_212 : decode cm_40 212 = .ok (.aload_n 1, 1) := by decide +kernel
theorem dm_40_213 : decode cm_40 213 = .ok (.iload 7, 2) := by decide +kernel
theorem dm_40_215 : decode cm_40 215 = .ok (.iload_n 2, 1) := by decide +kernel
theorem dm_40_216 : decode cm_40 216 = .ok (.invokevirtual 103, 3) := by decide +kernel
theorem dm_40_219 : decode cm_40 219 = .ok (.goto 34, 3) := by decide +kernel
theorem dm_40_222 : decode cm_40 222 = .ok (.aload_n 1, 1) := by decide +kernel
theorem dm_40_223 : decode cm_40 223 = .ok (.iconst 3, 1) := by decide +kernel
theorem dm_40_224 : decode cm_40 224 = .ok (.iload_n 2, 1) := by decide +kernel
theorem dm_40_225 : decode cm_40 225 = .ok (.invokevirtual 107, 3) := by decide +kernel
theorem dm_40_228 : decode cm_40 228 = .ok (.goto 25, 3) := by decide +kernel
theorem dm_40_231 : decode cm_40 231 = .ok (.aload 8, 2) := by decide +kernel
theorem dm_40_233 : decode cm_40 233 = .ok (.iload 5, 2) := by decide +kernel
theorem dm_40_235 : decode cm_40 235 = .ok (.iload 4, 2) := by decide +kernel
theorem dm_40_237 : decode cm_40 237 = .ok (.aload 8, 2) := by decide +kernel
theorem dm_40_239 : decode cm_40 239 = .ok (.iload 5, 2) := by decide +kernel
theorem dm_40_241 : decode cm_40 241 = .ok (.iaload, 1) := by decide +kernel
theorem dm_40_242 : decode cm_40 242 = .ok (.aload 8, 2) := by decide +kernel
theorem dm_40_244 : decode cm_40 244 = .ok (.iload 6, 2) := by decide +kernel
theorem dm_40_246 : decode cm_40 246 = .ok (.iaload, 1) := by decide +kernel
theorem dm_40_247 : decode cm_40 247 = .ok (.iload 7, 2) := by decide +kernel
theorem dm_40_249 : decode cm_40 249 = .ok (.invokestatic 110, 3) := by decide +kernel
theorem dm_40_252 : decode cm_40 252 = .ok (.iastore, 1) := by decide +kernel
theorem dm_40_253 : decode cm_40 253 = .ok (.return_, 1) := by decide +kernel
theorem dm_41_0 : decode cm_41 0 = .ok (.aload_n 1, 1) := by decide +kernel
theorem dm_41_1 : decode cm_41 1 = .ok (.getfield 96, 3) := by decide +kernel
theorem dm_41_4 : decode cm_41 4 = .ok (.astore 4, 2) := by decide +kernel
theorem dm_41_6 : decode cm_41 6 = .ok (.aload_n 1, 1) := by decide +kernel
theorem dm_41_7 : decode cm_41 7 = .ok (.getfield 114, 3) := by decide +kernel
theorem dm_41_10 : decode cm_41 10 = .ok (.iload_n 2, 1) := by decide +kernel
theorem dm_41_11 : decode cm_41 11 = .ok (.aload 4, 2) := by decide +kernel
theorem dm_41_13 : decode cm_41 13 = .ok (.iconst 1, 1) := by decide +kernel
theorem dm_41_14 : decode cm_41 14 = .ok (.iaload, 1) := by decide +kernel
theorem dm_41_15 : decode cm_41 15 = .ok (.aload 4, 2) := by decide +kernel
theorem dm_41_17 : decode cm_41 17 = .ok (.iconst 2, 1) := by decide +kernel
theorem dm_41_18 : decode cm_41 18 = .ok (.iaload, 1) := by decide +kernel
theorem dm_41_19 : decode cm_41 19 = .ok (.invokevirtual 118, 3) := by decide +kernel
theorem dm_41_22 : decode cm_41 22 = .ok (.iload_n 2, 1) := by decide +kernel
theorem dm_41_23 : decode cm_41 23 = .ok (.tableswitch 149 0 6 #[41, 50, 66, 81, 99, 119, 138], 41) := by decide +kernel
theorem dm_41_64 : decode cm_41 64 = .ok (.aload_n 1, 1) := by decide +kernel
theorem dm_41_65 : decode cm_41 65 = .ok (.iconst 2, 1) := by decide +kernel
theorem dm_41_66 : decode cm_41 66 = .ok (.iload_n 3, 1) := by decide +kernel
theorem dm_41_67 : decode cm_41 67 = .ok (.invokevirtual 107, 3) := by decide +kernel
theorem dm_41_70 : decode cm_41 70 = .ok (.goto 102, 3) := by decide +kernel
theorem dm_41_73 : decode cm_41 73 = .ok (.aload_n 1, 1) := by decide +kernel
theorem dm_41_74 : decode cm_41 74 = .ok (.aload 4, 2) := by decide +kernel
theorem dm_41_76 : decode cm_41 76 = .ok (.iconst 1, 1) := by decide +kernel
theorem dm_41_77 : decode cm_41 77 = .ok (.iaload, 1) := by decide +kernel
theorem dm_41_78 : decode cm_41 78 = .ok (.invokevirtual 124, 3) := by decide +kernel
theorem dm_41_81 : decode cm_41 81 = .ok (.aload 4, 2) := by decide +kernel
theorem dm_41_83 : decode cm_41 83 = .ok (.iconst 1, 1) := by decide +kernel
theorem dm_41_84 : decode cm_41 84 = .ok (.iconst 0, 1) := by decide +kernel
theorem dm_41_85 : decode cm_41 85 = .ok (.iastore, 1) := by decide +kernel
theorem dm_41_86 : decode cm_41 86 = .ok (.goto 86, 3) := by decide +kernel
theorem dm_41_89 : decode cm_41 89 = .ok (.aload 4, 2) := by decide +kernel
theorem dm_41_91 : decode cm_41 91 = .ok (.iconst 1, 1) := by decide +kernel
theorem dm_41_92 : decode cm_41 92 = .ok (.aload_n 1, 1) := by decide +kernel
theorem dm_41_93 : decode cm_41 93 = .ok (.getfield 114, 3) := by decide +kernel
theorem dm_41_96 : decode cm_41 96 = .ok (.aload_n 1, 1) := by decide +kernel
theorem dm_41_97 : decode cm_41 97 = .ok (.invokevirtual 127, 3) := by decide +kernel
theorem dm_41_100 : decode cm_41 100 = .ok (.iastore, 1) := by decide +kernel
theorem dm_41_101 : decode cm_41 101 = .ok (.goto 71, 3) := by decide +kernel
theorem dm_41_104 : decode cm_41 104 = .ok (.aload 4, 2) := by decide +kernel
theorem dm_41_106 : decode cm_41 106 = .ok (.iconst 1, 1) := by decide +kernel
theorem dm_41_107 : decode cm_41 107 = .ok (.aload_n 1, 1) := by decide +kernel
theorem dm_41_108 : decode cm_41 108 = .ok (.getfield 114, 3) := by decide +kernel
theorem dm_41_111 : decode cm_41 111 = .ok (.aload 4, 2) := by decide +kernel
theorem dm_41_113 : decode cm_41 113 = .ok (.iconst 1, 1) := by decide +kernel
theorem dm_41_114 : decode cm_41 114 = .ok (.iaload, 1) := by decide +kernel
theorem dm_41_115 : decode cm_41 115 = .ok (.invokevirtual 131, 3) := by decide +kernel
theorem dm_41_118 : decode cm_41 118 = .ok (.iastore, 1) := by decide +kernel
theorem dm_41_119 : decode cm_41 119 = .ok (.goto 53, 3) := by decide +kernel
theorem dm_41_122 : decode cm_41 122 = .ok (.aload 4, 2) := by decide +kernel
theorem dm_41_124 : decode cm_41 124 = .ok (.iconst 1, 1) := by decide +kernel
theorem dm_41_125 : decode cm_41 125 = .ok (.aload_n 0, 1) := by decide +kernel
theorem dm_41_126 : decode cm_41 126 = .ok (.aload_n 1, 1) := by decide +kernel
theorem dm_41_127 : decode cm_41 127 = .ok (.aload 4, 2) := by decide +kernel
theorem dm_41_129 : decode cm_41 129 = .ok (.iconst 1, 1) := by decide +kernel
theorem dm_41_130 : decode cm_41 130 = .ok (.iaload, 1) := by decide +kernel
theorem dm_41_131 : decode cm_41 131 = .ok (.aload 4, 2) := by decide +kernel
theorem dm_41_133 : decode cm_41 133 = .ok (.iconst 2, 1) := by decide +kernel
theorem dm_41_134 : decode cm_41 134 = .ok (.iaload, 1) := by decide +kernel
theorem dm_41_135 : decode cm_41 135 = .ok (.invokevirtual 134, 3) := by decide +kernel
theorem dm_41_138 : decode cm_41 138 = .ok (.iastore, 1) := by decide +kernel
theorem dm_41_139 : decode cm_41 139 = .ok (.goto 33, 3) := by decide +kernel
theorem dm_41_142 : decode cm_41 142 = .ok (.aload 4, 2) := by decide +kernel
theorem dm_41_144 : decode cm_41 144 = .ok (.iconst 1, 1) := by decide +kernel
theorem dm_41_145 : decode cm_41 145 = .ok (.aload_n 0, 1) := by decide +kernel
theorem dm_41_146 : decode cm_41 146 = .ok (.aload 4, 2) := by decide +kernel
theorem dm_41_148 : decode cm_41 148 = .ok (.iconst 1, 1) := by decide +kernel
theorem dm_41_149 : decode cm_41 149 = .ok (.iaload, 1) := by decide +kernel
theorem dm_41_150 : decode cm_41 150 = .ok (.aload 4, 2) := by decide +kernel
theorem dm_41_152 : decode cm_41 152 = .ok (.iconst 2, 1) := by decide +kernel
theorem dm_41_153 : decode cm_41 153 = .ok (.iaload, 1) := by decide +kernel
theorem dm_41_154 : decode cm_41 154 = .ok (.invokevirtual 138, 3) := by decide +kernel
theorem dm_41_157 : decode cm_41 157 = .ok (.iastore, 1) := by decide +kernel
theorem dm_41_158 : decode cm_41 158 = .ok (.goto 14, 3) := by decide +kernel
theorem dm_41_161 : decode cm_41 161 = .ok (.aload 4, 2) := by decide +kernel
theorem dm_41_163 : decode cm_41 163 = .ok (.iconst 1, 1) := by decide +kernel
theorem dm_41_164 : decode cm_41 164 = .ok (.aload_n 1, 1) := by decide +kernel
theorem dm_41_165 : decode cm_41 165 = .ok (.invokevirtual 142, 3) := by decide +kernel
theorem dm_41_168 : decode cm_41 168 = .ok (.iastore, 1) := by decide +kernel
theorem dm_41_169 : decode cm_41 169 = .ok (.goto 3, 3) := by decide +kernel
theorem dm_41_172 : decode cm_41 172 = .ok (.return_, 1) := by decide +kernel
theorem dm_42_0 : decode cm_42 0 = .ok (.iload_n 2, 1) := by decide +kernel
theorem dm_42_1 : decode cm_42 1 = .ok (.iload_n 3, 1) := by decide +kernel
theorem dm_42_2 : decode cm_42 2 = .ok (.invokestatic 146, 3) := by decide +kernel
theorem dm_42_5 : decode cm_42 5 = .ok (.ifCond .ne 5, 3) := by decide +kernel
theorem dm_42_8 : decode cm_42 8 = .ok (.iconst (-1), 1) := by decide +kernel
theorem dm_42_9 : decode cm_42 9 = .ok (.ireturn, 1) := by decide +kernel
theorem dm_42_10 : decode cm_42 10 = .ok (.iconst 0, 1) := by decide +kernel
theorem dm_42_11 : decode cm_42 11 = .ok (.istore 4, 2) := by decide +kernel
theorem dm_42_13 : decode cm_42 13 = .ok (.iload 4, 2) := by decide +kernel
theorem dm_42_15 : decode cm_42 15 = .ok (.iload_n 3, 1) := by decide +kernel
theorem dm_42_16 : decode cm_42 16 = .ok (.if_icmp .ge 29, 3) := by decide +kernel
theorem dm_42_19 : decode cm_42 19 = .ok (.aload_n 1, 1) := by decide +kernel
theorem dm_42_20 : decode cm_42 20 = .ok (.aload_n 0, 1) := by decide +kernel
theorem dm_42_21 : decode cm_42 21 = .ok (.aload_n 1, 1) := by decide +kernel
theorem dm_42_22 : decode cm_42 22 = .ok (.getfield 150, 3) := by decide +kernel
theorem dm_42_25 : decode cm_42 25 = .ok (.invokestatic 43, 3) := by decide +kernel
theorem dm_42_28 : decode cm_42 28 = .ok (.iload_n 2, 1) := by decide +kernel
theorem dm_42_29 : decode cm_42 29 = .ok (.iadd, 1) := by decide +kernel
theorem dm_42_30 : decode cm_42 30 = .ok (.iload 4, 2) := by decide +kernel
theorem dm_42_32 : decode cm_42 32 = .ok (.iadd, 1) := by decide +kernel
theorem dm_42_33 : decode cm_42 33 = .ok (.invokevirtual 79, 3) := by decide +kernel
