theorem dm_42_36 : decode cm_42 36 = .ok (.invokevirtual 124, 3) := by decide +kernel
theorem dm_42_39 : decode cm_42 39 = .ok (.iinc 4 1, 3) := by decide +kernel
theorem dm_42_42 : decode cm_42 42 = .ok (.goto (-29), 3) := by decide +kernel
theorem dm_42_45 : decode cm_42 45 = .ok (.iload_n 3, 1) := by decide +kernel
theorem dm_42_46 : decode cm_42 46 = .ok (.ireturn, 1) := by decide +kernel
theorem dm_43_0 : decode cm_43 0 = .ok (.aload_n 0, 1) := by decide +kernel
theorem dm_43_1 : decode cm_43 1 = .ok (.iload_n 1, 1) := by decide +kernel
theorem dm_43_2 : decode cm_43 2 = .ok (.invokevirtual 26, 3) := by decide +kernel
theorem dm_43_5 : decode cm_43 5 = .ok (.astore_n 3, 1) := by decide +kernel
theorem dm_43_6 : decode cm_43 6 = .ok (.aload_n 3, 1) := by decide +kernel
theorem dm_43_7 : decode cm_43 7 = .ok (.ifnull 22, 3) := by decide +kernel
theorem dm_43_10 : decode cm_43 10 = .ok (.aload_n 3, 1) := by decide +kernel
theorem dm_43_11 : decode cm_43 11 = .ok (.getfield 67, 3) := by decide +kernel
theorem dm_43_14 : decode cm_43 14 = .ok (.ifCond .eq 15, 3) := by decide +kernel
theorem dm_43_17 : decode cm_43 17 = .ok (.aload_n 3, 1) := by decide +kernel
theorem dm_43_18 : decode cm_43 18 = .ok (.iload_n 2, 1) := by decide +kernel
theorem dm_43_19 : decode cm_43 19 = .ok (.invokevirtual 153, 3) := by decide +kernel
theorem dm_43_22 : decode cm_43 22 = .ok (.ifCond .eq 7, 3) := by decide +kernel
theorem dm_43_25 : decode cm_43 25 = .ok (.iconst 0, 1) := by decide +kernel
theorem dm_43_26 : decode cm_43 26 = .ok (.goto 4, 3) := by decide +kernel
theorem dm_43_29 : decode cm_43 29 = .ok (.iconst (-1), 1) := by decide +kernel
theorem dm_43_30 : decode cm_43 30 = .ok (.ireturn, 1) := by decide +kernel
theorem dm_44_0 : decode cm_44 0 = .ok (.aload_n 0, 1) := by decide +kernel
theorem dm_44_1 : decode cm_44 1 = .ok (.invokespecial 1, 3) := by decide +kernel
theorem dm_44_4 : decode cm_44 4 = .ok (.aload_n 0, 1) := by decide +kernel
theorem dm_44_5 : decode cm_44 5 = .ok (.bipush 8, 2) := by decide +kernel
theorem dm_44_7 : decode cm_44 7 = .ok (.newarray .int, 2) := by decide +kernel
theorem dm_44_9 : decode cm_44 9 = .ok (.putfield 9, 3) := by decide +kernel
theorem dm_44_12 : decode cm_44 12 = .ok (.aload_n 0, 1) := by decide +kernel
theorem dm_44_13 : decode cm_44 13 = .ok (.bipush 12, 2) := by decide +kernel
theorem dm_44_15 : decode cm_44 15 = .ok (.newarray .int, 2) := by decide +kernel
theorem dm_44_17 : decode cm_44 17 = .ok (.putfield 13, 3) := by decide +kernel
theorem dm_44_20 : decode cm_44 20 = .ok (.aload_n 0, 1) := by decide +kernel
theorem dm_44_21 : decode cm_44 21 = .ok (.new 16, 3) := by decide +kernel
theorem dm_44_24 : decode cm_44 24 = .ok (.dup, 1) := by decide +kernel
theorem dm_44_25 : decode cm_44 25 = .ok (.invokespecial 18, 3) := by decide +kernel
theorem dm_44_28 : decode cm_44 28 = .ok (.putfield 19, 3) := by decide +kernel
theorem dm_44_31 : decode cm_44 31 = .ok (.aload_n 0, 1) := by decide +kernel
theorem dm_44_32 : decode cm_44 32 = .ok (.iconst 4, 1) := by decide +kernel
theorem dm_44_33 : decode cm_44 33 = .ok (.newarray .int, 2) := by decide +kernel
theorem dm_44_35 : decode cm_44 35 = .ok (.putfield 23, 3) := by decide +kernel
theorem dm_44_38 : decode cm_44 38 = .ok (.aload_n 0, 1) := by decide +kernel
theorem dm_44_39 : decode cm_44 39 = .ok (.bipush 8, 2) := by decide +kernel
theorem dm_44_41 : decode cm_44 41 = .ok (.newarray .int, 2) := by decide +kernel
theorem dm_44_43 : decode cm_44 43 = .ok (.putfield 26, 3) := by decide +kernel
theorem dm_44_46 : decode cm_44 46 = .ok (.aload_n 0, 1) := by decide +kernel
theorem dm_44_47 : decode cm_44 47 = .ok (.iload_n 1, 1) := by decide +kernel
theorem dm_44_48 : decode cm_44 48 = .ok (.putfield 29, 3) := by decide +kernel
theorem dm_44_51 : decode cm_44 51 = .ok (.return_, 1) := by decide +kernel
theorem dm_45_0 : decode cm_45 0 = .ok (.iload_n 0, 1) := by decide +kernel
theorem dm_45_1 : decode cm_45 1 = .ok (.ifCond .lt 12, 3) := by decide +kernel
theorem dm_45_4 : decode cm_45 4 = .ok (.iload_n 0, 1) := by decide +kernel
theorem dm_45_5 : decode cm_45 5 = .ok (.iconst 3, 1) := by decide +kernel
theorem dm_45_6 : decode cm_45 6 = .ok (.if_icmp .ge 7, 3) := by decide +kernel
theorem dm_45_9 : decode cm_45 9 = .ok (.iconst 1, 1) := by decide +kernel
theorem dm_45_10 : decode cm_45 10 = .ok (.goto 4, 3) := by decide +kernel
theorem dm_45_13 : decode cm_45 13 = .ok (.iconst 0, 1) := by decide +kernel
theorem dm_45_14 : decode cm_45 14 = .ok (.ireturn, 1) := by decide +kernel
theorem dm_46_0 : decode cm_46 0 = .ok (.bipush 16, 2) := by decide +kernel
theorem dm_46_2 : decode cm_46 2 = .ok (.iload_n 0, 1) := by decide +kernel
theorem dm_46_3 : decode cm_46 3 = .ok (.imul, 1) := by decide +kernel
theorem dm_46_4 : decode cm_46 4 = .ok (.ireturn, 1) := by decide +kernel
theorem dm_47_0 : decode cm_47 0 = .ok (.bipush 64, 2) := by decide +kernel
theorem dm_47_2 : decode cm_47 2 = .ok (.bipush 32, 2) := by decide +kernel
theorem dm_47_4 : decode cm_47 4 = .ok (.iload_n 0, 1) := by decide +kernel
theorem dm_47_5 : decode cm_47 5 = .ok (.imul, 1) := by decide +kernel
theorem dm_47_6 : decode cm_47 6 = .ok (.iadd, 1) := by decide +kernel
theorem dm_47_7 : decode cm_47 7 = .ok (.ireturn, 1) := by decide +kernel
theorem dm_48_0 : decode cm_48 0 = .ok (.aload_n 0, 1) := by decide +kernel
theorem dm_48_1 : decode cm_48 1 = .ok (.getfield 9, 3) := by decide +kernel
theorem dm_48_4 : decode cm_48 4 = .ok (.iconst 0, 1) := by decide +kernel
theorem dm_48_5 : decode cm_48 5 = .ok (.invokestatic 33, 3) := by decide +kernel
theorem dm_48_8 : decode cm_48 8 = .ok (.aload_n 0, 1) := by decide +kernel
theorem dm_48_9 : decode cm_48 9 = .ok (.getfield 9, 3) := by decide +kernel
theorem dm_48_12 : decode cm_48 12 = .ok (.bipush 6, 2) := by decide +kernel
theorem dm_48_14 : decode cm_48 14 = .ok (.aload_n 0, 1) := by decide +kernel
theorem dm_48_15 : decode cm_48 15 = .ok (.getfield 29, 3) := by decide +kernel
theorem dm_48_18 : decode cm_48 18 = .ok (.invokestatic 39, 3) := by decide +kernel
theorem dm_48_21 : decode cm_48 21 = .ok (.iastore, 1) := by decide +kernel
theorem dm_48_22 : decode cm_48 22 = .ok (.aload_n 0, 1) := by decide +kernel
theorem dm_48_23 : decode cm_48 23 = .ok (.getfield 9, 3) := by decide +kernel
theorem dm_48_26 : decode cm_48 26 = .ok (.bipush 7, 2) := by decide +kernel
theorem dm_48_28 : decode cm_48 28 = .ok (.aload_n 0, 1) := by decide +kernel
theorem dm_48_29 : decode cm_48 29 = .ok (.getfield 29, 3) := by decide +kernel
theorem dm_48_32 : decode cm_48 32 = .ok (.invokestatic 43, 3) := by decide +kernel
theorem dm_48_35 : decode cm_48 35 = .ok (.iastore, 1) := by decide +kernel
theorem dm_48_36 : decode cm_48 36 = .ok (.aload_n 0, 1) := by decide +kernel
theorem dm_48_37 : decode cm_48 37 = .ok (.aload_n 0, 1) := by decide +kernel
theorem dm_48_38 : decode cm_48 38 = .ok (.getfield 29, 3) := by decide +kernel
theorem dm_48_41 : decode cm_48 41 = .ok (.invokestatic 43, 3) := by decide +kernel
theorem dm_48_44 : decode cm_48 44 = .ok (.putfield 46, 3) := by decide +kernel
theorem dm_48_47 : decode cm_48 47 = .ok (.aload_n 0, 1) := by decide +kernel
theorem dm_48_48 : decode cm_48 48 = .ok (.iconst 1, 1) := by decide +kernel
theorem dm_48_49 : decode cm_48 49 = .ok (.putfield 49, 3) := by decide +kernel
theorem dm_48_52 : decode cm_48 52 = .ok (.aload_n 0, 1) := by decide +kernel
theorem dm_48_53 : decode cm_48 53 = .ok (.iconst 0, 1) := by decide +kernel
theorem dm_48_54 : decode cm_48 54 = .ok (.putfield 52, 3) := by decide +kernel
theorem dm_48_57 : decode cm_48 57 = .ok (.aload_n 0, 1) := by decide +kernel
theorem dm_48_58 : decode cm_48 58 = .ok (.iconst 0, 1) := by decide +kernel
theorem dm_48_59 : decode cm_48 59 = .ok (.putfield 55, 3) := by decide +kernel
theorem dm_48_62 : decode cm_48 62 = .ok (.aload_n 0, 1) := by decide +kernel
theorem dm_48_63 : decode cm_48 63 = .ok (.iconst 0, 1) := by decide +kernel
theorem dm_48_64 : decode cm_48 64 = .ok (.putfield 58, 3) := by decide +kernel
theorem dm_48_67 : decode cm_48 67 = .ok (.aload_n 0, 1) := by decide +kernel
theorem dm_48_68 : decode cm_48 68 = .ok (.getfield 19, 3) := by decide +kernel
theorem dm_48_71 : decode cm_48 71 = .ok (.invokevirtual 61, 3) := by decide +kernel
theorem dm_48_74 : decode cm_48 74 = .ok (.return_, 1) := by decide +kernel
theorem dm_49_0 : decode cm_49 0 = .ok (.aload_n 0, 1) := by decide +kernel
theorem dm_49_1 : decode cm_49 1 = .ok (.iload_n 1, 1) := by decide +kernel
theorem dm_49_2 : decode cm_49 2 = .ok (.putfield 49, 3) := by decide +kernel
theorem dm_49_5 : decode cm_49 5 = .ok (.aload_n 0, 1) := by decide +kernel
theorem dm_49_6 : decode cm_49 6 = .ok (.iload_n 2, 1) := by decide +kernel
theorem dm_49_7 : decode cm_49 7 = .ok (.putfield 46, 3) := by decide +kernel
theorem dm_49_10 : decode cm_49 10 = .ok (.return_, 1) := by decide +kernel
theorem dm_50_0 : decode cm_50 0 = .ok (.aload_n 0, 1) := by decide +kernel
theorem dm_50_1 : decode cm_50 1 = .ok (.getfield 52, 3) := by decide +kernel
theorem dm_50_4 : decode cm_50 4 = .ok (.bipush 12, 2) := by decide +kernel
theorem dm_50_6 : decode cm_50 6 = .ok (.if_icmp .lt 5, 3) := by decide +kernel
theorem dm_50_9 : decode cm_50 9 = .ok (.iconst 0, 1) := by decide +kernel
theorem dm_50_10 : decode cm_50 10 = .ok (.ireturn, 1) := by decide +kernel
theorem dm_50_11 : decode cm_50 11 = .ok (.aload_n 0, 1) := by decide +kernel
theorem dm_50_12 : decode cm_50 12 = .ok (.getfield 13, 3) := by decide +kernel
theorem dm_50_15 : decode cm_50 15 = .ok (.aload_n 0, 1) := by decide +kernel
theorem dm_50_16 : decode cm_50 16 = .ok (.getfield 52, 3) := by decide +kernel
theorem dm_50_19 : decode cm_50 19 = .ok (.iload_n 1, 1) := by decide +kernel
theorem dm_50_20 : decode cm_50 20 = .ok (.iastore, 1) := by decide +kernel
theorem dm_50_21 : decode cm_50 21 = .ok (.aload_n 0, 1) := by decide +kernel
theorem dm_50_22 : decode cm_50 22 = .ok (.dup, 1) := by decide +kernel
theorem dm_50_23 : decode cm_50 23 = .ok (.getfield 52, 3) := by decide +kernel
theorem dm_50_26 : decode cm_50 26 = .ok (.iconst 1, 1) := by decide +kernel
theorem dm_50_27 : decode cm_50 27 = .ok (.iadd, 1) := by decide +kernel
theorem dm_50_28 : decode cm_50 28 = .ok (.putfield 52, 3) := by decide +kernel
theorem dm_50_31 : decode cm_50 31 = .ok (.iconst 1, 1) := by decide +kernel
theorem dm_50_32 : decode cm_50 32 = .ok (.ireturn, 1) := by decide +kernel
theorem dm_51_0 : decode cm_51 0 = .ok (.aload_n 0, 1) := by decide +kernel
theorem dm_51_1 : decode cm_51 1 = .ok (.getfield 55, 3) := by decide +kernel
theorem dm_51_4 : decode cm_51 4 = .ok (.iconst 4, 1) := by decide +kernel
theorem dm_51_5 : decode cm_51 5 = .ok (.if_icmp .lt 5, 3) := by decide +kernel
theorem dm_51_8 : decode cm_51 8 = .ok (.iconst 0, 1) := by decide +kernel
theorem dm_51_9 : decode cm_51 9 = .ok (.ireturn, 1) := by decide +kernel
theorem dm_51_10 : decode cm_51 10 = .ok (.aload_n 0, 1) := by decide +kernel
theorem dm_51_11 : decode cm_51 11 = .ok (.getfield 23, 3) := by decide +kernel
theorem dm_51_14 : decode cm_51 14 = .ok (.aload_n 0, 1) := by decide +kernel
theorem dm_51_15 : decode cm_51 15 = .ok (.getfield 55, 3) := by decide +kernel
theorem dm_51_18 : decode cm_51 18 = .ok (.iload_n 1, 1) := by decide +kernel
theorem dm_51_19 : decode cm_51 19 = .ok (.iastore, 1) := by decide +kernel
theorem dm_51_20 : decode cm_51 20 = .ok (.aload_n 0, 1) := by decide +kernel
theorem dm_51_21 : decode cm_51 21 = .ok (.dup, 1) := by decide +kernel
theorem dm_51_22 : decode cm_51 22 = .ok (.getfield 55, 3) := by decide +kernel
theorem dm_51_25 : decode cm_51 25 = .ok (.iconst 1, 1) := by decide +kernel
theorem dm_51_26 : decode cm_51 26 = .ok (.iadd, 1) := by decide +kernel
theorem dm_51_27 : decode cm_51 27 = .ok (.putfield 55, 3) := by decide +kernel
theorem dm_51_30 : decode cm_51 30 = .ok (.iconst 1, 1) := by decide +kernel
theorem dm_51_31 : decode cm_51 31 = .ok (.ireturn, 1) := by decide +kernel
theorem dm_52_0 : decode cm_52 0 = .ok (.aload_n 0, 1) := by decide +kernel
theorem dm_52_1 : decode cm_52 1 = .ok (.getfield 55, 3) := by decide +kernel
theorem dm_52_4 : decode cm_52 4 = .ok (.ifCond .gt 5, 3) := by decide +kernel
theorem dm_52_7 : decode cm_52 7 = .ok (.iconst (-1), 1) := by decide +kernel
theorem dm_52_8 : decode cm_52 8 = .ok (.ireturn, 1) := by decide +kernel
theorem dm_52_9 : decode cm_52 9 = .ok (.aload_n 0, 1) := by decide +kernel
theorem dm_52_10 : decode cm_52 10 = .ok (.getfield 23, 3) := by decide +kernel
theorem dm_52_13 : decode cm_52 13 = .ok (.iconst 0, 1) := by decide +kernel
theorem dm_52_14 : decode cm_52 14 = .ok (.iaload, 1) := by decide +kernel
theorem dm_52_15 : decode cm_52 15 = .ok (.istore_n 1, 1) := by decide +kernel
theorem dm_52_16 : decode cm_52 16 = .ok (.aload_n 0, 1) := by decide +kernel
theorem dm_52_17 : decode cm_52 17 = .ok (.dup, 1) := by decide +kernel
theorem dm_52_18 : decode cm_52 18 = .ok (.getfield 55, 3) := by decide +kernel
theorem dm_52_21 : decode cm_52 21 = .ok (.iconst 1, 1) := by decide +kernel
theorem dm_52_22 : decode cm_52 22 = .ok (.isub, 1) := by decide +kernel
theorem dm_52_23 : decode cm_52 23 = .ok (.putfield 55, 3) := by decide +kernel
theorem dm_52_26 : decode cm_52 26 = .ok (.iconst 0, 1) := by decide +kernel
theorem dm_52_27 : decode cm_52 27 = .ok (.istore_n 2, 1) := by decide +kernel
theorem dm_52_28 : decode cm_52 28 = .ok (.iload_n 2, 1) := by decide +kernel
theorem dm_52_29 : decode cm_52 29 = .ok (.aload_n 0, 1) := by decide +kernel
theorem dm_52_30 : decode cm_52 30 = .ok (.getfield 55, 3) := by decide +kernel
theorem dm_52_33 : decode cm_52 33 = .ok (.if_icmp .ge 23, 3) := by decide +kernel
theorem dm_52_36 : decode cm_52 36 = .ok (.aload_n 0, 1) := by decide +kernel
theorem dm_52_37 : decode cm_52 37 = .ok (.getfield 23, 3) := by decide +kernel
theorem dm_52_40 : decode cm_52 40 = .ok (.iload_n 2, 1) := by decide +kernel
theorem dm_52_41 : decode cm_52 41 = .ok (.aload_n 0, 1) := by decide +kernel
theorem dm_52_42 : decode cm_52 42 = .ok (.getfield 23, 3) := by decide +kernel
theorem dm_52_45 : decode cm_52 45 = .ok (.iload_n 2, 1) := by decide +kernel
theorem dm_52_46 : decode cm_52 46 = .ok (.iconst 1, 1) := by decide +kernel
theorem dm_52_47 : decode cm_52 47 = .ok (.iadd, 1) := by decide +kernel
theorem dm_52_48 : decode cm_52 48 = .ok (.iaload, 1) := by decide +kernel
theorem dm_52_49 : decode cm_52 49 = .ok (.iastore, 1) := by decide +kernel
theorem dm_52_50 : decode cm_52 50 = .ok (.iinc 2 1, 3) := by decide +kernel
theorem dm_52_53 : decode cm_52 53 = .ok (.goto (-25), 3) := by decide +kernel
theorem dm_52_56 : decode cm_52 56 = .ok (.iload_n 1, 1) := by decide +kernel
theorem dm_52_57 : decode cm_52 57 = .ok (.ireturn, 1) := by decide +kernel
theorem dm_53_0 : decode cm_53 0 = .ok (.aload_n 0, 1) := by decide +kernel
theorem dm_53_1 : decode cm_53 1 = .ok (.getfield 26, 3) := by decide +kernel
theorem dm_53_4 : decode cm_53 4 = .ok (.aload_n 0, 1) := by decide +kernel
theorem dm_53_5 : decode cm_53 5 = .ok (.getfield 58, 3) := by decide +kernel
theorem dm_53_8 : decode cm_53 8 = .ok (.bipush 7, 2) := by decide +kernel
theorem dm_53_10 : decode cm_53 10 = .ok (.iand, 1) := by decide +kernel
theorem dm_53_11 : decode cm_53 11 = .ok (.iload_n 1, 1) := by decide +kernel
theorem dm_53_12 : decode cm_53 12 = .ok (.iastore, 1) := by decide +kernel
theorem dm_53_13 : decode cm_53 13 = .ok (.aload_n 0, 1) := by decide +kernel
theorem dm_53_14 : decode cm_53 14 = .ok (.dup, 1) := by decide +kernel
theorem dm_53_15 : decode cm_53 15 = .ok (.getfield 58, 3) := by decide +kernel
theorem dm_53_18 : decode cm_53 18 = .ok (.iconst 1, 1) := by decide +kernel
theorem dm_53_19 : decode cm_53 19 = .ok (.iadd, 1) := by decide +kernel
theorem dm_53_20 : decode cm_53 20 = .ok (.putfield 58, 3) := by decide +kernel
theorem dm_53_23 : decode cm_53 23 = .ok (.return_, 1) := by decide +kernel
theorem dm_54_0 : decode cm_54 0 = .ok (.iload_n 1, 1) := by decide +kernel
theorem dm_54_1 : decode cm_54 1 = .ok (.iconst (-1), 1) := by decide +kernel
theorem dm_54_2 : decode cm_54 2 = .ok (.if_icmp .ne 8, 3) := by decide +kernel
theorem dm_54_5 : decode cm_54 5 = .ok (.aload_n 0, 1) := by decide +kernel
theorem dm_54_6 : decode cm_54 6 = .ok (.getfield 58, 3) := by decide +kernel
theorem dm_54_9 : decode cm_54 9 = .ok (.ireturn, 1) := by decide +kernel
theorem dm_54_10 : decode cm_54 10 = .ok (.iload_n 1, 1) := by decide +kernel
theorem dm_54_11 : decode cm_54 11 = .ok (.ifCond .lt 17, 3) := by decide +kernel
theorem dm_54_14 : decode cm_54 14 = .ok (.iload_n 1, 1) := by decide +kernel
theorem dm_54_15 : decode cm_54 15 = .ok (.bipush 8, 2) := by decide +kernel
theorem dm_54_17 : decode cm_54 17 = .ok (.if_icmp .ge 11, 3) := by decide +kernel
theorem dm_54_20 : decode cm_54 20 = .ok (.iload_n 1, 1) := by decide +kernel
theorem dm_54_21 : decode cm_54 21 = .ok (.aload_n 0, 1) := by decide +kernel
theorem dm_54_22 : decode cm_54 22 = .ok (.getfield 58, 3) := by decide +kernel
theorem dm_54_25 : decode cm_54 25 = .ok (.if_icmp .lt 5, 3) := by decide +kernel
theorem dm_54_28 : decode cm_54 28 = .ok (.iconst 0, 1) := by decide +kernel
theorem dm_54_29 : decode cm_54 29 = .ok (.ireturn, 1) := by decide +kernel
theorem dm_54_30 : decode cm_54 30 = .ok (.aload_n 0, 1) := by decide +kernel
theorem dm_54_31 : decode cm_54 31 = .ok (.getfield 26, 3) := by decide +kernel
theorem dm_54_34 : decode cm_54 34 = .ok (.aload_n 0, 1) := by decide +kernel
theorem dm_54_35 : decode cm_54 35 = .ok (.getfield 58, 3) := by decide +kernel
theorem dm_54_38 : decode cm_54 38 = .ok (.iconst 1, 1) := by decide +kernel
theorem dm_54_39 : decode cm_54 39 = .ok (.isub, 1) := by decide +kernel
theorem dm_54_40 : decode cm_54 40 = .ok (.iload_n 1, 1) := by decide +kernel
theorem dm_54_41 : decode cm_54 41 = .ok (.isub, 1) := by decide +kernel
theorem dm_54_42 : decode cm_54 42 = .ok (.bipush 7, 2) := by decide +kernel
theorem dm_54_44 : decode cm_54 44 = .ok (.iand, 1) := by decide +kernel
theorem dm_54_45 : decode cm_54 45 = .ok (.iaload, 1) := by decide +kernel
theorem dm_54_46 : decode cm_54 46 = .ok (.ireturn, 1) := by decide +kernel
theorem dm_55_0 : decode cm_55 0 = .ok (.aload_n 0, 1) := by decide +kernel
theorem dm_55_1 : decode cm_55 1 = .ok (.invokespecial 1, 3) := by decide +kernel
theorem dm_55_4 : decode cm_55 4 = .ok (.aload_n 0, 1) := by decide +kernel
theorem dm_55_5 : decode cm_55 5 = .ok (.bipush 24, 2) := by decide +kernel
theorem dm_55_7 : decode cm_55 7 = .ok (.newarray .int, 2) := by decide +kernel
theorem dm_55_9 : decode cm_55 9 = .ok (.putfield 9, 3) := by decide +kernel
theorem dm_55_12 : decode cm_55 12 = .ok (.aload_n 0, 1) := by decide +kernel
theorem dm_55_13 : decode cm_55 13 = .ok (.bipush 24, 2) := by decide +kernel
theorem dm_55_15 : decode cm_55 15 = .ok (.newarray .int, 2) := by decide +kernel
theorem dm_55_17 : decode cm_55 17 = .ok (.putfield 13, 3) := by decide +kernel
theorem dm_55_20 : decode cm_55 20 = .ok (.aload_n 0, 1) := by decide +kernel
theorem dm_55_21 : decode cm_55 21 = .ok (.bipush 24, 2) := by decide +kernel
theorem dm_55_23 : decode cm_55 23 = .ok (.newarray .int, 2) := by decide +kernel
theorem dm_55_25 : decode cm_55 25 = .ok (.putfield 16, 3) := by decide +kernel
theorem dm_55_28 : decode cm_55 28 = .ok (.aload_n 0, 1) := by decide +kernel
theorem dm_55_29 : decode cm_55 29 = .ok (.bipush 24, 2) := by decide +kernel
theorem dm_55_31 : decode cm_55 31 = .ok (.newarray .int, 2) := by decide +kernel
theorem dm_55_33 : decode cm_55 33 = .ok (.putfield 19, 3) := by decide +kernel
theorem dm_55_36 : decode cm_55 36 = .ok (.aload_n 0, 1) := by decide +kernel
theorem dm_55_37 : decode cm_55 37 = .ok (.bipush 8, 2) := by decide +kernel
theorem dm_55_39 : decode cm_55 39 = .ok (.newarray .int, 2) := by decide +kernel
theorem dm_55_41 : decode cm_55 41 = .ok (.putfield 22, 3) := by decide +kernel
theorem dm_55_44 : decode cm_55 44 = .ok (.aload_n 0, 1) := by decide +kernel
theorem dm_55_45 : decode cm_55 45 = .ok (.getfield 22, 3) := by decide +kernel
theorem dm_55_48 : decode cm_55 48 = .ok (.iconst (-1), 1) := by decide +kernel
theorem dm_55_49 : decode cm_55 49 = .ok (.invokestatic 25, 3) := by decide +kernel
theorem dm_55_52 : decode cm_55 52 = .ok (.return_, 1) := by decide +kernel
theorem dm_56_0 : decode cm_56 0 = .ok (.aload_n 0, 1) := by decide +kernel
theorem dm_56_1 : decode cm_56 1 = .ok (.iconst 0, 1) := by decide +kernel
theorem dm_56_2 : decode cm_56 2 = .ok (.putfield 31, 3) := by decide +kernel
theorem dm_56_5 : decode cm_56 5 = .ok (.aload_n 0, 1) := by decide +kernel
theorem dm_56_6 : decode cm_56 6 = .ok (.getfield 22, 3) := by decide +kernel
theorem dm_56_9 : decode cm_56 9 = .ok (.iconst (-1), 1) := by decide +kernel
theorem dm_56_10 : decode cm_56 10 = .ok (.invokestatic 25, 3) := by decide +kernel
theorem dm_56_13 : decode cm_56 13 = .ok (.return_, 1) := by decide +kernel
theorem dm_57_0 : decode cm_57 0 = .ok (.iload_n 1, 1) := by decide +kernel
theorem dm_57_1 : decode cm_57 1 = .ok (.ifCond .lt 29, 3) := by decide +kernel
theorem dm_57_4 : decode cm_57 4 = .ok (.iload_n 1, 1) := by decide +kernel
theorem dm_57_5 : decode cm_57 5 = .ok (.bipush 15, 2) := by decide +kernel
theorem dm_57_7 : decode cm_57 7 = .ok (.if_icmp .gt 23, 3) := by decide +kernel
theorem dm_57_10 : decode cm_57 10 = .ok (.iload_n 2, 1) := by decide +kernel
theorem dm_57_11 : decode cm_57 11 = .ok (.ifCond .lt 19, 3) := by decide +kernel
theorem dm_57_14 : decode cm_57 14 = .ok (.iload_n 2, 1) := by decide +kernel
theorem dm_57_15 : decode cm_57 15 = .ok (.bipush 7, 2) := by decide +kernel
theorem dm_57_17 : decode cm_57 17 = .ok (.if_icmp .gt 13, 3) := by decide +kernel
theorem dm_57_20 : decode cm_57 20 = .ok (.iload_n 3, 1) := by decide +kernel
theorem dm_57_21 : decode cm_57 21 = .ok (.ifCond .lt 9, 3) := by decide +kernel
theorem dm_57_24 : decode cm_57 24 = .ok (.iload_n 3, 1) := by decide +kernel
theorem dm_57_25 : decode cm_57 25 = .ok (.bipush 7, 2) := by decide +kernel
theorem dm_57_27 : decode cm_57 27 = .ok (.if_icmp .le 5, 3) := by decide +kernel
theorem dm_57_30 : decode cm_57 30 = .ok (.iconst 0, 1) := by decide +kernel
theorem dm_57_31 : decode cm_57 31 = .ok (.ireturn, 1) := by decide +kernel
theorem dm_57_32 : decode cm_57 32 = .ok (.iload 4, 2) := by decide +kernel
theorem dm_57_34 : decode cm_57 34 = .ok (.ldc 37, 2) := by decide +kernel
theorem dm_57_36 : decode cm_57 36 = .ok (.if_icmp .lt 19, 3) := by decide +kernel
theorem dm_57_39 : decode cm_57 39 = .ok (.iload 4, 2) := by decide +kernel
theorem dm_57_41 : decode cm_57 41 = .ok (.ldc 38, 2) := by decide +kernel
theorem dm_57_43 : decode cm_57 43 = .ok (.if_icmp .gt 12, 3) := by decide +kernel
theorem dm_57_46 : decode cm_57 46 = .ok (.aload_n 0, 1) := by decide +kernel
theorem dm_57_47 : decode cm_57 47 = .ok (.getfield 31, 3) := by decide +kernel
theorem dm_57_50 : decode cm_57 50 = .ok (.bipush 24, 2) := by decide +kernel
theorem dm_57_52 : decode cm_57 52 = .ok (.if_icmp .lt 5, 3) := by decide +kernel
theorem dm_57_55 : decode cm_57 55 = .ok (.iconst 0, 1) := by decide +kernel
theorem dm_57_56 : decode cm_57 56 = .ok (.ireturn, 1) := by decide +kernel
theorem dm_57_57 : decode cm_57 57 = .ok (.aload_n 0, 1) := by decide +kernel
theorem dm_57_58 : decode cm_57 58 = .ok (.getfield 9, 3) := by decide +kernel
theorem dm_57_61 : decode cm_57 61 = .ok (.aload_n 0, 1) := by decide +kernel
theorem dm_57_62 : decode cm_57 62 = .ok (.getfield 31, 3) := by decide +kernel
theorem dm_57_65 : decode cm_57 65 = .ok (.iload_n 1, 1) := by decide +kernel
theorem dm_57_66 : decode cm_57 66 = .ok (.iastore, 1) := by decide +kernel
theorem dm_57_67 : decode cm_57 67 = .ok (.aload_n 0, 1) := by decide +kernel
theorem dm_57_68 : decode cm_57 68 = .ok (.getfield 13, 3) := by decide +kernel
theorem dm_57_71 : decode cm_57 71 = .ok (.aload_n 0, 1) := by decide +kernel
theorem dm_57_72 : decode cm_57 72 = .ok (.getfield 31, 3) := by decide +kernel
theorem dm_57_75 : decode cm_57 75 = .ok (.iload_n 2, 1) := by decide +kernel
theorem dm_57_76 : decode cm_57 76 = .ok (.iastore, 1) := by decide +kernel
theorem dm_57_77 : decode cm_57 77 = .ok (.aload_n 0, 1) := by decide +kernel
theorem dm_57_78 : decode cm_57 78 = .ok (.getfield 16, 3) := by decide +kernel
theorem dm_57_81 : decode cm_57 81 = .ok (.aload_n 0, 1) := by decide +kernel
theorem dm_57_82 : decode cm_57 82 = .ok (.getfield 31, 3) := by decide +kernel
theorem dm_57_85 : decode cm_57 85 = .ok (.iload_n 3, 1) := by decide +kernel
theorem dm_57_86 : decode cm_57 86 = .ok (.iastore, 1) := by decide +kernel
theorem dm_57_87 : decode cm_57 87 = .ok (.aload_n 0, 1) := by decide +kernel
theorem dm_57_88 : decode cm_57 88 = .ok (.getfield 19, 3) := by decide +kernel
theorem dm_57_91 : decode cm_57 91 = .ok (.aload_n 0, 1) := by decide +kernel
theorem dm_57_92 : decode cm_57 92 = .ok (.getfield 31, 3) := by decide +kernel
theorem dm_57_95 : decode cm_57 95 = .ok (.iload 4, 2) := by decide +kernel
theorem dm_57_97 : decode cm_57 97 = .ok (.iastore, 1) := by decide +kernel
theorem dm_57_98 : decode cm_57 98 = .ok (.aload_n 0, 1) := by decide +kernel
theorem dm_57_99 : decode cm_57 99 = .ok (.dup, 1) := by decide +kernel
theorem dm_57_100 : decode cm_57 100 = .ok (.getfield 31, 3) := by decide +kernel
theorem dm_57_103 : decode cm_57 103 = .ok (.iconst 1, 1) := by decide +kernel
theorem dm_57_104 : decode cm_57 104 = .ok (.iadd, 1) := by decide +kernel
theorem dm_57_105 : decode cm_57 105 = .ok (.putfield 31, 3) := by decide +kernel
theorem dm_57_108 : decode cm_57 108 = .ok (.iconst 1, 1) := by decide +kernel
theorem dm_57_109 : decode cm_57 109 = .ok (.ireturn, 1) := by decide +kernel
theorem dm_58_0 : decode cm_58 0 = .ok (.iload_n 1, 1) := by decide +kernel
theorem dm_58_1 : decode cm_58 1 = .ok (.ifCond .lt 19, 3) := by decide +kernel
theorem dm_58_4 : decode cm_58 4 = .ok (.iload_n 1, 1) := by decide +kernel
theorem dm_58_5 : decode cm_58 5 = .ok (.bipush 8, 2) := by decide +kernel
theorem dm_58_7 : decode cm_58 7 = .ok (.if_icmp .ge 13, 3) := by decide +kernel
theorem dm_58_10 : decode cm_58 10 = .ok (.aload_n 0, 1) := by decide +kernel
theorem dm_58_11 : decode cm_58 11 = .ok (.getfield 22, 3) := by decide +kernel
theorem dm_58_14 : decode cm_58 14 = .ok (.iload_n 1, 1) := by decide +kernel
theorem dm_58_15 : decode cm_58 15 = .ok (.iaload, 1) := by decide +kernel
theorem dm_58_16 : decode cm_58 16 = .ok (.iconst (-1), 1) := by decide +kernel
theorem dm_58_17 : decode cm_58 17 = .ok (.if_icmp .eq 5, 3) := by decide +kernel
theorem dm_58_20 : decode cm_58 20 = .ok (.iconst 0, 1) := by decide +kernel
theorem dm_58_21 : decode cm_58 21 = .ok (.ireturn, 1) := by decide +kernel
theorem dm_58_22 : decode cm_58 22 = .ok (.aload_n 0, 1) := by decide +kernel
theorem dm_58_23 : decode cm_58 23 = .ok (.getfield 22, 3) := by decide +kernel
theorem dm_58_26 : decode cm_58 26 = .ok (.iload_n 1, 1) := by decide +kernel
theorem dm_58_27 : decode cm_58 27 = .ok (.aload_n 0, 1) := by decide +kernel
theorem dm_58_28 : decode cm_58 28 = .ok (.getfield 31, 3) := by decide +kernel
theorem dm_58_31 : decode cm_58 31 = .ok (.iastore, 1) := by decide +kernel
theorem dm_58_32 : decode cm_58 32 = .ok (.iconst 1, 1) := by decide +kernel
theorem dm_58_33 : decode cm_58 33 = .ok (.ireturn, 1) := by decide +kernel
theorem dm_59_0 : decode cm_59 0 = .ok (.aload_n 0, 1) := by decide +kernel
theorem dm_59_1 : decode cm_59 1 = .ok (.getfield 31, 3) := by decide +kernel
theorem dm_59_4 : decode cm_59 4 = .ok (.ireturn, 1) := by decide +kernel
theorem dm_60_0 : decode cm_60 0 = .ok (.iload_n 1, 1) := by decide +kernel
theorem dm_60_1 : decode cm_60 1 = .ok (.ifCond .lt 15, 3) := by decide +kernel
theorem dm_60_4 : decode cm_60 4 = .ok (.iload_n 1, 1) := by decide +kernel
theorem dm_60_5 : decode cm_60 5 = .ok (.aload_n 0, 1) := by decide +kernel
theorem dm_60_6 : decode cm_60 6 = .ok (.getfield 31, 3) := by decide +kernel
theorem dm_60_9 : decode cm_60 9 = .ok (.if_icmp .ge 7, 3) := by decide +kernel
theorem dm_60_12 : decode cm_60 12 = .ok (.iconst 1, 1) := by decide +kernel
theorem dm_60_13 : decode cm_60 13 = .ok (.goto 4, 3) := by decide +kernel
theorem dm_60_16 : decode cm_60 16 = .ok (.iconst 0, 1) := by decide +kernel
theorem dm_60_17 : decode cm_60 17 = .ok (.ireturn, 1) := by decide +kernel
theorem dm_61_0 : decode cm_61 0 = .ok (.aload_n 0, 1) := by decide +kernel
theorem dm_61_1 : decode cm_61 1 = .ok (.iload_n 1, 1) := by decide +kernel
theorem dm_61_2 : decode cm_61 2 = .ok (.invokevirtual 39, 3) := by decide +kernel
theorem dm_61_5 : decode cm_61 5 = .ok (.ifCond .eq 12, 3) := by decide +kernel
theorem dm_61_8 : decode cm_61 8 = .ok (.aload_n 0, 1) := by decide +kernel
theorem dm_61_9 : decode cm_61 9 = .ok (.getfield 9, 3) := by decide +kernel
theorem dm_61_12 : decode cm_61 12 = .ok (.iload_n 1, 1) := by decide +kernel
theorem dm_61_13 : decode cm_61 13 = .ok (.iaload, 1) := by decide +kernel
theorem dm_61_14 : decode cm_61 14 = .ok (.goto 4, 3) := by decide +kernel
theorem dm_61_17 : decode cm_61 17 = .ok (.iconst 0, 1) := by decide +kernel
theorem dm_61_18 : decode cm_61 18 = .ok (.ireturn, 1) := by decide +kernel
theorem dm_62_0 : decode cm_62 0 = .ok (.aload_n 0, 1) := by decide +kernel
theorem dm_62_1 : decode cm_62 1 = .ok (.iload_n 1, 1) := by decide +kernel
theorem dm_62_2 : decode cm_62 2 = .ok (.invokevirtual 39, 3) := by decide +kernel
theorem dm_62_5 : decode cm_62 5 = .ok (.ifCond .eq 12, 3) := by decide +kernel
theorem dm_62_8 : decode cm_62 8 = .ok (.aload_n 0, 1) := by decide +kernel
theorem dm_62_9 : decode cm_62 9 = .ok (.getfield 13, 3) := by decide +kernel
theorem dm_62_12 : decode cm_62 12 = .ok (.iload_n 1, 1) := by decide +kernel
theorem dm_62_13 : decode cm_62 13 = .ok (.iaload, 1) := by decide +kernel
theorem dm_62_14 : decode cm_62 14 = .ok (.goto 4, 3) := by decide +kernel
theorem dm_62_17 : decode cm_62 17 = .ok (.iconst 0, 1) := by decide +kernel
theorem dm_62_18 : decode cm_62 18 = .ok (.ireturn, 1) := by decide +kernel
theorem dm_63_0 : decode cm_63 0 = .ok (.aload_n 0, 1) := by decide +kernel
theorem dm_63_1 : decode cm_63 1 = .ok (.iload_n 1, 1) := by decide +kernel
theorem dm_63_2 : decode cm_63 2 = .ok (.invokevirtual 39, 3) := by decide +kernel
theorem dm_63_5 : decode cm_63 5 = .ok (.ifCond .eq 12, 3) := by decide +kernel
theorem dm_63_8 : decode cm_63 8 = .ok (.aload_n 0, 1) := by decide +kernel
theorem dm_63_9 : decode cm_63 9 = .ok (.getfield 16, 3) := by decide +kernel
theorem dm_63_12 : decode cm_63 12 = .ok (.iload_n 1, 1) := by decide +kernel
theorem dm_63_13 : decode cm_63 13 = .ok (.iaload, 1) := by decide +kernel
theorem dm_63_14 : decode cm_63 14 = .ok (.goto 4, 3) := by decide +kernel
theorem dm_63_17 : decode cm_63 17 = .ok (.iconst 0, 1) := by decide +kernel
theorem dm_63_18 : decode cm_63 18 = .ok (.ireturn, 1) := by decide +kernel
theorem dm_64_0 : decode cm_64 0 = .ok (.aload_n 0, 1) := by decide +kernel
theorem dm_64_1 : decode cm_64 1 = .ok (.iload_n 1, 1) := by decide +kernel
theorem dm_64_2 : decode cm_64 2 = .ok (.invokevirtual 39, 3) := by decide +kernel
theorem dm_64_5 : decode cm_64 5 = .ok (.ifCond .eq 12, 3) := by decide +kernel
theorem dm_64_8 : decode cm_64 8 = .ok (.aload_n 0, 1) := by decide +kernel
theorem dm_64_9 : decode cm_64 9 = .ok (.getfield 19, 3) := by decide +kernel
theorem dm_64_12 : decode cm_64 12 = .ok (.iload_n 1, 1) := by decide +kernel
theorem dm_64_13 : decode cm_64 13 = .ok (.iaload, 1) := by decide +kernel
theorem dm_64_14 : decode cm_64 14 = .ok (.goto 4, 3) := by decide +kernel
theorem dm_64_17 : decode cm_64 17 = .ok (.iconst 0, 1) := by decide +kernel
theorem dm_64_18 : decode cm_64 18 = .ok (.ireturn, 1) := by decide +kernel
theorem dm_65_0 : decode cm_65 0 = .ok (.iload_n 1, 1) := by decide +kernel
theorem dm_65_1 : decode cm_65 1 = .ok (.ifCond .lt 23, 3) := by decide +kernel
theorem dm_65_4 : decode cm_65 4 = .ok (.iload_n 1, 1) := by decide +kernel
theorem dm_65_5 : decode cm_65 5 = .ok (.bipush 8, 2) := by decide +kernel
theorem dm_65_7 : decode cm_65 7 = .ok (.if_icmp .ge 17, 3) := by decide +kernel
theorem dm_65_10 : decode cm_65 10 = .ok (.aload_n 0, 1) := by decide +kernel
theorem dm_65_11 : decode cm_65 11 = .ok (.getfield 22, 3) := by decide +kernel
theorem dm_65_14 : decode cm_65 14 = .ok (.iload_n 1, 1) := by decide +kernel
theorem dm_65_15 : decode cm_65 15 = .ok (.iaload, 1) := by decide +kernel
theorem dm_65_16 : decode cm_65 16 = .ok (.iconst (-1), 1) := by decide +kernel
theorem dm_65_17 : decode cm_65 17 = .ok (.if_icmp .eq 7, 3) := by decide +kernel
theorem dm_65_20 : decode cm_65 20 = .ok (.iconst 1, 1) := by decide +kernel
theorem dm_65_21 : decode cm_65 21 = .ok (.goto 4, 3) := by decide +kernel
theorem dm_65_24 : decode cm_65 24 = .ok (.iconst 0, 1) := by decide +kernel
theorem dm_65_25 : decode cm_65 25 = .ok (.ireturn, 1) := by decide +kernel
theorem dm_66_0 : decode cm_66 0 = .ok (.aload_n 0, 1) := by decide +kernel
theorem dm_66_1 : decode cm_66 1 = .ok (.iload_n 1, 1) := by decide +kernel
theorem dm_66_2 : decode cm_66 2 = .ok (.invokevirtual 43, 3) := by decide +kernel
theorem dm_66_5 : decode cm_66 5 = .ok (.ifCond .eq 12, 3) := by decide +kernel
theorem dm_66_8 : decode cm_66 8 = .ok (.aload_n 0, 1) := by decide +kernel
theorem dm_66_9 : decode cm_66 9 = .ok (.getfield 22, 3) := by decide +kernel
theorem dm_66_12 : decode cm_66 12 = .ok (.iload_n 1, 1) := by decide +kernel
theorem dm_66_13 : decode cm_66 13 = .ok (.iaload, 1) := by decide +kernel
theorem dm_66_14 : decode cm_66 14 = .ok (.goto 7, 3) := by decide +kernel
theorem dm_66_17 : decode cm_66 17 = .ok (.aload_n 0, 1) := by decide +kernel
theorem dm_66_18 : decode cm_66 18 = .ok (.getfield 31, 3) := by decide +kernel
theorem dm_66_21 : decode cm_66 21 = .ok (.ireturn, 1) := by decide +kernel
theorem dm_67_0 : decode cm_67 0 = .ok (.iconst 0, 1) := by decide +kernel
theorem dm_67_1 : decode cm_67 1 = .ok (.istore_n 1, 1) := by decide +kernel
theorem dm_67_2 : decode cm_67 2 = .ok (.iload_n 1, 1) := by decide +kernel
theorem dm_67_3 : decode cm_67 3 = .ok (.aload_n 0, 1) := by decide +kernel
theorem dm_67_4 : decode cm_67 4 = .ok (.getfield 31, 3) := by decide +kernel
theorem dm_67_7 : decode cm_67 7 = .ok (.if_icmp .ge 27, 3) := by decide +kernel
theorem dm_67_10 : decode cm_67 10 = .ok (.aload_n 0, 1) := by decide +kernel
theorem dm_67_11 : decode cm_67 11 = .ok (.iload_n 1, 1) := by decide +kernel
theorem dm_67_12 : decode cm_67 12 = .ok (.invokevirtual 46, 3) := by decide +kernel
theorem dm_67_15 : decode cm_67 15 = .ok (.ifCond .eq 11, 3) := by decide +kernel
theorem dm_67_18 : decode cm_67 18 = .ok (.aload_n 0, 1) := by decide +kernel
theorem dm_67_19 : decode cm_67 19 = .ok (.iload_n 1, 1) := by decide +kernel
theorem dm_67_20 : decode cm_67 20 = .ok (.invokevirtual 49, 3) := by decide +kernel
theorem dm_67_23 : decode cm_67 23 = .ok (.ifCond .ne 5, 3) := by decide +kernel
theorem dm_67_26 : decode cm_67 26 = .ok (.iconst 0, 1) := by decide +kernel
theorem dm_67_27 : decode cm_67 27 = .ok (.ireturn, 1) := by decide +kernel
theorem dm_67_28 : decode cm_67 28 = .ok (.iinc 1 1, 3) := by decide +kernel
theorem dm_67_31 : decode cm_67 31 = .ok (.goto (-29), 3) := by decide +kernel
theorem dm_67_34 : decode cm_67 34 = .ok (.aload_n 0, 1) := by decide +kernel
theorem dm_67_35 : decode cm_67 35 = .ok (.aload_n 0, 1) := by decide +kernel
theorem dm_67_36 : decode cm_67 36 = .ok (.getfield 31, 3) := by decide +kernel
theorem dm_67_39 : decode cm_67 39 = .ok (.invokevirtual 52, 3) := by decide +kernel
theorem dm_67_42 : decode cm_67 42 = .ok (.iconst 1, 1) := by decide +kernel
theorem dm_67_43 : decode cm_67 43 = .ok (.iadd, 1) := by decide +kernel
theorem dm_67_44 : decode cm_67 44 = .ok (.bipush 31, 2) := by decide +kernel
theorem dm_67_46 : decode cm_67 46 = .ok (.if_icmp .gt 7, 3) := by decide +kernel
theorem dm_67_49 : decode cm_67 49 = .ok (.iconst 1, 1) := by decide +kernel
theorem dm_67_50 : decode cm_67 50 = .ok (.goto 4, 3) := by decide +kernel
theorem dm_67_53 : decode cm_67 53 = .ok (.iconst 0, 1) := by decide +kernel
theorem dm_67_54 : decode cm_67 54 = .ok (.ireturn, 1) := by decide +kernel
theorem dm_68_0 : decode cm_68 0 = .ok (.iconst 0, 1) := by decide +kernel
theorem dm_68_1 : decode cm_68 1 = .ok (.istore_n 2, 1) := by decide +kernel
theorem dm_68_2 : decode cm_68 2 = .ok (.iconst 0, 1) := by decide +kernel
theorem dm_68_3 : decode cm_68 3 = .ok (.istore_n 3, 1) := by decide +kernel
theorem dm_68_4 : decode cm_68 4 = .ok (.iload_n 3, 1) := by decide +kernel
theorem dm_68_5 : decode cm_68 5 = .ok (.iload_n 1, 1) := by decide +kernel
theorem dm_68_6 : decode cm_68 6 = .ok (.if_icmp .ge 29, 3) := by decide +kernel
theorem dm_68_9 : decode cm_68 9 = .ok (.iload_n 3, 1) := by decide +kernel
theorem dm_68_10 : decode cm_68 10 = .ok (.aload_n 0, 1) := by decide +kernel
theorem dm_68_11 : decode cm_68 11 = .ok (.getfield 31, 3) := by decide +kernel
theorem dm_68_14 : decode cm_68 14 = .ok (.if_icmp .ge 21, 3) := by decide +kernel
theorem dm_68_17 : decode cm_68 17 = .ok (.iload_n 2, 1) := by decide +kernel
theorem dm_68_18 : decode cm_68 18 = .ok (.aload_n 0, 1) := by decide +kernel
theorem dm_68_19 : decode cm_68 19 = .ok (.getfield 9, 3) := by decide +kernel
theorem dm_68_22 : decode cm_68 22 = .ok (.iload_n 3, 1) := by decide +kernel
theorem dm_68_23 : decode cm_68 23 = .ok (.iaload, 1) := by decide +kernel
theorem dm_68_24 : decode cm_68 24 = .ok (.invokestatic 58, 3) := by decide +kernel
theorem dm_68_27 : decode cm_68 27 = .ok (.iadd, 1) := by decide +kernel
theorem dm_68_28 : decode cm_68 28 = .ok (.istore_n 2, 1) := by decide +kernel
theorem dm_68_29 : decode cm_68 29 = .ok (.iinc 3 1, 3) := by decide +kernel
theorem dm_68_32 : decode cm_68 32 = .ok (.goto (-28), 3) := by decide +kernel
theorem dm_68_35 : decode cm_68 35 = .ok (.iload_n 2, 1) := by decide +kernel
theorem dm_68_36 : decode cm_68 36 = .ok (.ireturn, 1) := by decide +kernel
theorem dm_69_0 : decode cm_69 0 = .ok (.iload_n 0, 1) := by decide +kernel
theorem dm_69_1 : decode cm_69 1 = .ok (.lookupswitch 39 #[(8, 35), (9, 35), (13, 37)], 35) := by decide +kernel
theorem dm_69_36 : decode cm_69 36 = .ok (.iconst 4, 1) := by decide +kernel
theorem dm_69_37 : decode cm_69 37 = .ok (.ireturn, 1) := by decide +kernel
theorem dm_69_38 : decode cm_69 38 = .ok (.iconst 3, 1) := by decide +kernel
theorem dm_69_39 : decode cm_69 39 = .ok (.ireturn, 1) := by decide +kernel
theorem dm_69_40 : decode cm_69 40 = .ok (.iconst 1, 1) := by decide +kernel
theorem dm_69_41 : decode cm_69 41 = .ok (.ireturn, 1) := by decide +kernel
theorem dm_70_0 : decode cm_70 0 = .ok (.aload_n 0, 1) := by decide +kernel
theorem dm_70_1 : decode cm_70 1 = .ok (.iload_n 1, 1) := by decide +kernel
theorem dm_70_2 : decode cm_70 2 = .ok (.invokevirtual 61, 3) := by decide +kernel
theorem dm_70_5 : decode cm_70 5 = .ok (.istore_n 2, 1) := by decide +kernel
theorem dm_70_6 : decode cm_70 6 = .ok (.iload_n 2, 1) := by decide +kernel
theorem dm_70_7 : decode cm_70 7 = .ok (.iconst 2, 1) := by decide +kernel
theorem dm_70_8 : decode cm_70 8 = .ok (.if_icmp .lt 13, 3) := by decide +kernel
theorem dm_70_11 : decode cm_70 11 = .ok (.iload_n 2, 1) := by decide +kernel
theorem dm_70_12 : decode cm_70 12 = .ok (.bipush 11, 2) := by decide +kernel
theorem dm_70_14 : decode cm_70 14 = .ok (.if_icmp .gt 7, 3) := by decide +kernel
theorem dm_70_17 : decode cm_70 17 = .ok (.iconst 1, 1) := by decide +kernel
theorem dm_70_18 : decode cm_70 18 = .ok (.goto 4, 3) := by decide +kernel
theorem dm_70_21 : decode cm_70 21 = .ok (.iconst 0, 1) := by decide +kernel
theorem dm_70_22 : decode cm_70 22 = .ok (.istore_n 3, 1) := by decide +kernel
theorem dm_70_23 : decode cm_70 23 = .ok (.iload_n 3, 1) := by decide +kernel
theorem dm_70_24 : decode cm_70 24 = .ok (.ifCond .ne 20, 3) := by decide +kernel
theorem dm_70_27 : decode cm_70 27 = .ok (.iload_n 2, 1) := by decide +kernel
theorem dm_70_28 : decode cm_70 28 = .ok (.iconst 1, 1) := by decide +kernel
theorem dm_70_29 : decode cm_70 29 = .ok (.if_icmp .eq 15, 3) := by decide +kernel
theorem dm_70_32 : decode cm_70 32 = .ok (.iload_n 2, 1) := by decide +kernel
theorem dm_70_33 : decode cm_70 33 = .ok (.bipush 13, 2) := by decide +kernel
theorem dm_70_35 : decode cm_70 35 = .ok (.if_icmp .eq 9, 3) := by decide +kernel
theorem dm_70_38 : decode cm_70 38 = .ok (.iload_n 2, 1) := by decide +kernel
theorem dm_70_39 : decode cm_70 39 = .ok (.bipush 15, 2) := by decide +kernel
theorem dm_70_41 : decode cm_70 41 = .ok (.if_icmp .ne 7, 3) := by decide +kernel
theorem dm_70_44 : decode cm_70 44 = .ok (.iconst 1, 1) := by decide +kernel
theorem dm_70_45 : decode cm_70 45 = .ok (.goto 4, 3) := by decide +kernel
theorem dm_70_48 : decode cm_70 48 = .ok (.iconst 0, 1) := by decide +kernel
theorem dm_70_49 : decode cm_70 49 = .ok (.istore 4, 2) := by decide +kernel
theorem dm_70_51 : decode cm_70 51 = .ok (.iload 4, 2) := by decide +kernel
theorem dm_70_53 : decode cm_70 53 = .ok (.ifCond .eq 12, 3) := by decide +kernel
theorem dm_70_56 : decode cm_70 56 = .ok (.aload_n 0, 1) := by decide +kernel
theorem dm_70_57 : decode cm_70 57 = .ok (.iload_n 1, 1) := by decide +kernel
theorem dm_70_58 : decode cm_70 58 = .ok (.invokevirtual 64, 3) := by decide +kernel
theorem dm_70_61 : decode cm_70 61 = .ok (.iconst 5, 1) := by decide +kernel
theorem dm_70_62 : decode cm_70 62 = .ok (.if_icmp .ge 20, 3) := by decide +kernel
theorem dm_70_65 : decode cm_70 65 = .ok (.iload_n 3, 1) := by decide +kernel
theorem dm_70_66 : decode cm_70 66 = .ok (.ifCond .eq 12, 3) := by decide +kernel
theorem dm_70_69 : decode cm_70 69 = .ok (.aload_n 0, 1) := by decide +kernel
theorem dm_70_70 : decode cm_70 70 = .ok (.iload_n 1, 1) := by decide +kernel
theorem dm_70_71 : decode cm_70 71 = .ok (.invokevirtual 67, 3) := by decide +kernel
theorem dm_70_74 : decode cm_70 74 = .ok (.iconst 5, 1) := by decide +kernel
theorem dm_70_75 : decode cm_70 75 = .ok (.if_icmp .ge 7, 3) := by decide +kernel
theorem dm_70_78 : decode cm_70 78 = .ok (.iconst 1, 1) := by decide +kernel
theorem dm_70_79 : decode cm_70 79 = .ok (.goto 4, 3) := by decide +kernel
theorem dm_70_82 : decode cm_70 82 = .ok (.iconst 0, 1) := by decide +kernel
theorem dm_70_83 : decode cm_70 83 = .ok (.ireturn, 1) := by decide +kernel
theorem dm_71_0 : decode cm_71 0 = .ok (.aload_n 0, 1) := by decide +kernel
theorem dm_71_1 : decode cm_71 1 = .ok (.iload_n 1, 1) := by decide +kernel
theorem dm_71_2 : decode cm_71 2 = .ok (.invokevirtual 61, 3) := by decide +kernel
theorem dm_71_5 : decode cm_71 5 = .ok (.tableswitch 58 10 15 #[39, 39, 39, 58, 49, 39], 39) := by decide +kernel
theorem dm_71_44 : decode cm_71 44 = .ok (.aload_n 0, 1) := by decide +kernel
theorem dm_71_45 : decode cm_71 45 = .ok (.aload_n 0, 1) := by decide +kernel
theorem dm_71_46 : decode cm_71 46 = .ok (.iload_n 1, 1) := by decide +kernel
theorem dm_71_47 : decode cm_71 47 = .ok (.invokevirtual 70, 3) := by decide +kernel
theorem dm_71_50 : decode cm_71 50 = .ok (.invokevirtual 43, 3) := by decide +kernel
theorem dm_71_53 : decode cm_71 53 = .ok (.ireturn, 1) := by decide +kernel
theorem dm_71_54 : decode cm_71 54 = .ok (.aload_n 0, 1) := by decide +kernel
theorem dm_71_55 : decode cm_71 55 = .ok (.iload_n 1, 1) := by decide +kernel
theorem dm_71_56 : decode cm_71 56 = .ok (.invokevirtual 70, 3) := by decide +kernel
theorem dm_71_59 : decode cm_71 59 = .ok (.invokestatic 73, 3) := by decide +kernel
theorem dm_71_62 : decode cm_71 62 = .ok (.ireturn, 1) := by decide +kernel
theorem dm_71_63 : decode cm_71 63 = .ok (.iconst 1, 1) := by decide +kernel
theorem dm_71_64 : decode cm_71 64 = .ok (.ireturn, 1) := by decide +kernel
theorem dm_72_0 : decode cm_72 0 = .ok (.aload_n 0, 1) := by decide +kernel
theorem dm_72_1 : decode cm_72 1 = .ok (.invokespecial 1, 3) := by decide +kernel
theorem dm_72_4 : decode cm_72 4 = .ok (.aload_n 0, 1) := by decide +kernel
theorem dm_72_5 : decode cm_72 5 = .ok (.new 7, 3) := by decide +kernel
theorem dm_72_8 : decode cm_72 8 = .ok (.dup, 1) := by decide +kernel
theorem dm_72_9 : decode cm_72 9 = .ok (.invokespecial 9, 3) := by decide +kernel
theorem dm_72_12 : decode cm_72 12 = .ok (.putfield 10, 3) := by decide +kernel
theorem dm_72_15 : decode cm_72 15 = .ok (.aload_n 0, 1) := by decide +kernel
theorem dm_72_16 : decode cm_72 16 = .ok (.new 16, 3) := by decide +kernel
theorem dm_72_19 : decode cm_72 19 = .ok (.dup, 1) := by decide +kernel
theorem dm_72_20 : decode cm_72 20 = .ok (.invokespecial 18, 3) := by decide +kernel
theorem dm_72_23 : decode cm_72 23 = .ok (.putfield 19, 3) := by decide +kernel
theorem dm_72_26 : decode cm_72 26 = .ok (.aload_n 0, 1) := by decide +kernel
theorem dm_72_27 : decode cm_72 27 = .ok (.new 23, 3) := by decide +kernel
theorem dm_72_30 : decode cm_72 30 = .ok (.dup, 1) := by decide +kernel
theorem dm_72_31 : decode cm_72 31 = .ok (.invokespecial 25, 3) := by decide +kernel
theorem dm_72_34 : decode cm_72 34 = .ok (.putfield 26, 3) := by decide +kernel
theorem dm_72_37 : decode cm_72 37 = .ok (.aload_n 0, 1) := by decide +kernel
theorem dm_72_38 : decode cm_72 38 = .ok (.new 30, 3) := by decide +kernel
theorem dm_72_41 : decode cm_72 41 = .ok (.dup, 1) := by decide +kernel
theorem dm_72_42 : decode cm_72 42 = .ok (.invokespecial 32, 3) := by decide +kernel
theorem dm_72_45 : decode cm_72 45 = .ok (.putfield 33, 3) := by decide +kernel
theorem dm_72_48 : decode cm_72 48 = .ok (.return_, 1) := by decide +kernel
theorem dm_73_0 : decode cm_73 0 = .ok (.aload_n 0, 1) := by decide +kernel
theorem dm_73_1 : decode cm_73 1 = .ok (.getfield 10, 3) := by decide +kernel
theorem dm_73_4 : decode cm_73 4 = .ok (.iload_n 1, 1) := by decide +kernel
theorem dm_73_5 : decode cm_73 5 = .ok (.iload_n 2, 1) := by decide +kernel
theorem dm_73_6 : decode cm_73 6 = .ok (.iload_n 3, 1) := by decide +kernel
theorem dm_73_7 : decode cm_73 7 = .ok (.iload 4, 2) := by decide +kernel
theorem dm_73_9 : decode cm_73 9 = .ok (.invokevirtual 37, 3) := by decide +kernel
theorem dm_73_12 : decode cm_73 12 = .ok (.ireturn, 1) := by decide +kernel
theorem dm_74_0 : decode cm_74 0 = .ok (.aload_n 0, 1) := by decide +kernel
theorem dm_74_1 : decode cm_74 1 = .ok (.getfield 10, 3) := by decide +kernel
theorem dm_74_4 : decode cm_74 4 = .ok (.iload_n 1, 1) := by decide +kernel
theorem dm_74_5 : decode cm_74 5 = .ok (.invokevirtual 41, 3) := by decide +kernel
theorem dm_74_8 : decode cm_74 8 = .ok (.ireturn, 1) := by decide +kernel
theorem dm_75_0 : decode cm_75 0 = .ok (.aload_n 0, 1) := by decide +kernel
theorem dm_75_1 : decode cm_75 1 = .ok (.getfield 10, 3) := by decide +kernel
theorem dm_75_4 : decode cm_75 4 = .ok (.invokevirtual 45, 3) := by decide +kernel
theorem dm_75_7 : decode cm_75 7 = .ok (.aload_n 0, 1) := by decide +kernel
theorem dm_75_8 : decode cm_75 8 = .ok (.getfield 19, 3) := by decide +kernel
theorem dm_75_11 : decode cm_75 11 = .ok (.invokevirtual 48, 3) := by decide +kernel
theorem dm_75_14 : decode cm_75 14 = .ok (.return_, 1) := by decide +kernel
theorem dm_76_0 : decode cm_76 0 = .ok (.iload_n 1, 1) := by decide +kernel
theorem dm_76_1 : decode cm_76 1 = .ok (.invokestatic 49, 3) := by decide +kernel
theorem dm_76_4 : decode cm_76 4 = .ok (.ifCond .eq 13, 3) := by decide +kernel
theorem dm_76_7 : decode cm_76 7 = .ok (.aload_n 0, 1) := by decide +kernel
theorem dm_76_8 : decode cm_76 8 = .ok (.getfield 10, 3) := by decide +kernel
theorem dm_76_11 : decode cm_76 11 = .ok (.invokevirtual 54, 3) := by decide +kernel
theorem dm_76_14 : decode cm_76 14 = .ok (.ifCond .ne 5, 3) := by decide +kernel
theorem dm_76_17 : decode cm_76 17 = .ok (.iconst (-1), 1) := by decide +kernel
theorem dm_76_18 : decode cm_76 18 = .ok (.ireturn, 1) := by decide +kernel
theorem dm_76_19 : decode cm_76 19 = .ok (.aload_n 0, 1) := by decide +kernel
theorem dm_76_20 : decode cm_76 20 = .ok (.getfield 10, 3) := by decide +kernel
theorem dm_76_23 : decode cm_76 23 = .ok (.iload_n 1, 1) := by decide +kernel
theorem dm_76_24 : decode cm_76 24 = .ok (.aload_n 0, 1) := by decide +kernel
theorem dm_76_25 : decode cm_76 25 = .ok (.getfield 19, 3) := by decide +kernel
theorem dm_76_28 : decode cm_76 28 = .ok (.invokestatic 58, 3) := by decide +kernel
theorem dm_76_31 : decode cm_76 31 = .ok (.aload_n 0, 1) := by decide +kernel
theorem dm_76_32 : decode cm_76 32 = .ok (.getfield 19, 3) := by decide +kernel
theorem dm_76_35 : decode cm_76 35 = .ok (.invokevirtual 64, 3) := by decide +kernel
theorem dm_76_38 : decode cm_76 38 = .ok (.ireturn, 1) := by decide +kernel
theorem dm_77_0 : decode cm_77 0 = .ok (.aload_n 0, 1) := by decide +kernel
theorem dm_77_1 : decode cm_77 1 = .ok (.getfield 19, 3) := by decide +kernel
theorem dm_77_4 : decode cm_77 4 = .ok (.iload_n 1, 1) := by decide +kernel
theorem dm_77_5 : decode cm_77 5 = .ok (.invokevirtual 68, 3) := by decide +kernel
theorem dm_77_8 : decode cm_77 8 = .ok (.ireturn, 1) := by decide +kernel
theorem dm_78_0 : decode cm_78 0 = .ok (.iload_n 1, 1) := by decide +kernel
theorem dm_78_1 : decode cm_78 1 = .ok (.iconst (-1), 1) := by decide +kernel
theorem dm_78_2 : decode cm_78 2 = .ok (.if_icmp .ne 13, 3) := by decide +kernel
theorem dm_78_5 : decode cm_78 5 = .ok (.aload_n 0, 1) := by decide +kernel
theorem dm_78_6 : decode cm_78 6 = .ok (.getfield 19, 3) := by decide +kernel
theorem dm_78_9 : decode cm_78 9 = .ok (.invokevirtual 64, 3) := by decide +kernel
theorem dm_78_12 : decode cm_78 12 = .ok (.goto 11, 3) := by decide +kernel
theorem dm_78_15 : decode cm_78 15 = .ok (.aload_n 0, 1) := by decide +kernel
theorem dm_78_16 : decode cm_78 16 = .ok (.getfield 19, 3) := by decide +kernel
theorem dm_78_19 : decode cm_78 19 = .ok (.iload_n 1, 1) := by decide +kernel
theorem dm_78_20 : decode cm_78 20 = .ok (.invokevirtual 71, 3) := by decide +kernel
theorem dm_78_23 : decode cm_78 23 = .ok (.ireturn, 1) := by decide +kernel
theorem dm_79_0 : decode cm_79 0 = .ok (.iload_n 1, 1) := by decide +kernel
theorem dm_79_1 : decode cm_79 1 = .ok (.invokestatic 49, 3) := by decide +kernel
theorem dm_79_4 : decode cm_79 4 = .ok (.ifCond .eq 14, 3) := by decide +kernel
theorem dm_79_7 : decode cm_79 7 = .ok (.aload_n 0, 1) := by decide +kernel
theorem dm_79_8 : decode cm_79 8 = .ok (.getfield 19, 3) := by decide +kernel
theorem dm_79_11 : decode cm_79 11 = .ok (.iload_n 1, 1) := by decide +kernel
theorem dm_79_12 : decode cm_79 12 = .ok (.invokestatic 75, 3) := by decide +kernel
theorem dm_79_15 : decode cm_79 15 = .ok (.goto 5, 3) := by decide +kernel
theorem dm_79_18 : decode cm_79 18 = .ok (.bipush (-2), 2) := by decide +kernel
theorem dm_79_20 : decode cm_79 20 = .ok (.ireturn, 1) := by decide +kernel
theorem dm_80_0 : decode cm_80 0 = .ok (.iload_n 1, 1) := by decide +kernel
theorem dm_80_1 : decode cm_80 1 = .ok (.invokestatic 49, 3) := by decide +kernel
theorem dm_80_4 : decode cm_80 4 = .ok (.ifCond .eq 15, 3) := by decide +kernel
theorem dm_80_7 : decode cm_80 7 = .ok (.aload_n 0, 1) := by decide +kernel
theorem dm_80_8 : decode cm_80 8 = .ok (.getfield 19, 3) := by decide +kernel
theorem dm_80_11 : decode cm_80 11 = .ok (.iload_n 1, 1) := by decide +kernel
theorem dm_80_12 : decode cm_80 12 = .ok (.invokestatic 75, 3) := by decide +kernel
theorem dm_80_15 : decode cm_80 15 = .ok (.iconst (-1), 1) := by decide +kernel
theorem dm_80_16 : decode cm_80 16 = .ok (.if_icmp .eq 5, 3) := by decide +kernel
theorem dm_80_19 : decode cm_80 19 = .ok (.iconst 0, 1) := by decide +kernel
theorem dm_80_20 : decode cm_80 20 = .ok (.ireturn, 1) := by decide +kernel
theorem dm_80_21 : decode cm_80 21 = .ok (.aload_n 0, 1) := by decide +kernel
theorem dm_80_22 : decode cm_80 22 = .ok (.getfield 26, 3) := by decide +kernel
theorem dm_80_25 : decode cm_80 25 = .ok (.aload_n 0, 1) := by decide +kernel
theorem dm_80_26 : decode cm_80 26 = .ok (.getfield 19, 3) := by decide +kernel
theorem dm_80_29 : decode cm_80 29 = .ok (.iload_n 1, 1) := by decide +kernel
theorem dm_80_30 : decode cm_80 30 = .ok (.invokevirtual 81, 3) := by decide +kernel
theorem dm_80_33 : decode cm_80 33 = .ok (.iconst 1, 1) := by decide +kernel
theorem dm_80_34 : decode cm_80 34 = .ok (.ireturn, 1) := by decide +kernel
theorem dm_81_0 : decode cm_81 0 = .ok (.aload_n 0, 1) := by decide +kernel
theorem dm_81_1 : decode cm_81 1 = .ok (.getfield 26, 3) := by decide +kernel
theorem dm_81_4 : decode cm_81 4 = .ok (.iload_n 1, 1) := by decide +kernel
theorem dm_81_5 : decode cm_81 5 = .ok (.invokevirtual 85, 3) := by decide +kernel
theorem dm_81_8 : decode cm_81 8 = .ok (.astore_n 3, 1) := by decide +kernel
theorem dm_81_9 : decode cm_81 9 = .ok (.aload_n 3, 1) := by decide +kernel
theorem dm_81_10 : decode cm_81 10 = .ok (.ifnull 22, 3) := by decide +kernel
theorem dm_81_13 : decode cm_81 13 = .ok (.aload_n 3, 1) := by decide +kernel
theorem dm_81_14 : decode cm_81 14 = .ok (.getfield 89, 3) := by decide +kernel
theorem dm_81_17 : decode cm_81 17 = .ok (.ifCond .eq 15, 3) := by decide +kernel
theorem dm_81_20 : decode cm_81 20 = .ok (.aload_n 3, 1) := by decide +kernel
theorem dm_81_21 : decode cm_81 21 = .ok (.iload_n 2, 1) := by decide +kernel
theorem dm_81_22 : decode cm_81 22 = .ok (.invokevirtual 93, 3) := by decide +kernel
theorem dm_81_25 : decode cm_81 25 = .ok (.ifCond .eq 7, 3) := by decide +kernel
theorem dm_81_28 : decode cm_81 28 = .ok (.iconst 1, 1) := by decide +kernel
theorem dm_81_29 : decode cm_81 29 = .ok (.goto 4, 3) := by decide +kernel
theorem dm_81_32 : decode cm_81 32 = .ok (.iconst 0, 1) := by decide +kernel
theorem dm_81_33 : decode cm_81 33 = .ok (.ireturn, 1) := by decide +kernel
theorem dm_82_0 : decode cm_82 0 = .ok (.iload_n 1, 1) := by decide +kernel
theorem dm_82_1 : decode cm_82 1 = .ok (.ifCond .lt 10, 3) := by decide +kernel
theorem dm_82_4 : decode cm_82 4 = .ok (.iload_n 1, 1) := by decide +kernel
theorem dm_82_5 : decode cm_82 5 = .ok (.sipush 500, 3) := by decide +kernel
theorem dm_82_8 : decode cm_82 8 = .ok (.if_icmp .le 7, 3) := by decide +kernel
theorem dm_82_11 : decode cm_82 11 = .ok (.iconst (-1), 1) := by decide +kernel
theorem dm_82_12 : decode cm_82 12 = .ok (.goto 11, 3) := by decide +kernel
theorem dm_82_15 : decode cm_82 15 = .ok (.aload_n 0, 1) := by decide +kernel
theorem dm_82_16 : decode cm_82 16 = .ok (.getfield 26, 3) := by decide +kernel
theorem dm_82_19 : decode cm_82 19 = .ok (.iload_n 1, 1) := by decide +kernel
theorem dm_82_20 : decode cm_82 20 = .ok (.invokevirtual 96, 3) := by decide +kernel
theorem dm_82_23 : decode cm_82 23 = .ok (.ireturn, 1) := by decide +kernel
theorem dm_83_0 : decode cm_83 0 = .ok (.aload_n 0, 1) := by decide +kernel
theorem dm_83_1 : decode cm_83 1 = .ok (.getfield 26, 3) := by decide +kernel
theorem dm_83_4 : decode cm_83 4 = .ok (.iload_n 1, 1) := by decide +kernel
theorem dm_83_5 : decode cm_83 5 = .ok (.invokevirtual 85, 3) := by decide +kernel
theorem dm_83_8 : decode cm_83 8 = .ok (.astore_n 2, 1) := by decide +kernel
theorem dm_83_9 : decode cm_83 9 = .ok (.aload_n 2, 1) := by decide +kernel
theorem dm_83_10 : decode cm_83 10 = .ok (.ifnonnull 7, 3) := by decide +kernel
theorem dm_83_13 : decode cm_83 13 = .ok (.iconst (-1), 1) := by decide +kernel
theorem dm_83_14 : decode cm_83 14 = .ok (.goto 7, 3) := by decide +kernel
theorem dm_83_17 : decode cm_83 17 = .ok (.aload_n 2, 1) := by decide +kernel
theorem dm_83_18 : decode cm_83 18 = .ok (.getfield 89, 3) := by decide +kernel
theorem dm_83_21 : decode cm_83 21 = .ok (.ireturn, 1) := by decide +kernel
theorem dm_84_0 : decode cm_84 0 = .ok (.aload_n 0, 1) := by decide +kernel
theorem dm_84_1 : decode cm_84 1 = .ok (.getfield 26, 3) := by decide +kernel
theorem dm_84_4 : decode cm_84 4 = .ok (.iload_n 1, 1) := by decide +kernel
theorem dm_84_5 : decode cm_84 5 = .ok (.invokevirtual 85, 3) := by decide +kernel
theorem dm_84_8 : decode cm_84 8 = .ok (.astore_n 2, 1) := by decide +kernel
theorem dm_84_9 : decode cm_84 9 = .ok (.aload_n 2, 1) := by decide +kernel
theorem dm_84_10 : decode cm_84 10 = .ok (.ifnonnull 7, 3) := by decide +kernel
theorem dm_84_13 : decode cm_84 13 = .ok (.iconst (-1), 1) := by decide +kernel
theorem dm_84_14 : decode cm_84 14 = .ok (.goto 7, 3) := by decide +kernel
theorem dm_84_17 : decode cm_84 17 = .ok (.aload_n 2, 1) := by decide +kernel
theorem dm_84_18 : decode cm_84 18 = .ok (.getfield 99, 3) := by decide +kernel
theorem dm_84_21 : decode cm_84 21 = .ok (.ireturn, 1) := by decide +kernel
theorem dm_85_0 : decode cm_85 0 = .ok (.aload_n 0, 1) := by decide +kernel
theorem dm_85_1 : decode cm_85 1 = .ok (.getfield 26, 3) := by decide +kernel
theorem dm_85_4 : decode cm_85 4 = .ok (.iload_n 1, 1) := by decide +kernel
theorem dm_85_5 : decode cm_85 5 = .ok (.invokevirtual 85, 3) := by decide +kernel
theorem dm_85_8 : decode cm_85 8 = .ok (.astore_n 3, 1) := by decide +kernel
theorem dm_85_9 : decode cm_85 9 = .ok (.aload_n 3, 1) := by decide +kernel
theorem dm_85_10 : decode cm_85 10 = .ok (.ifnull 13, 3) := by decide +kernel
theorem dm_85_13 : decode cm_85 13 = .ok (.iload_n 2, 1) := by decide +kernel
theorem dm_85_14 : decode cm_85 14 = .ok (.ifCond .lt 9, 3) := by decide +kernel
theorem dm_85_17 : decode cm_85 17 = .ok (.iload_n 2, 1) := by decide +kernel
theorem dm_85_18 : decode cm_85 18 = .ok (.bipush 8, 2) := by decide +kernel
theorem dm_85_20 : decode cm_85 20 = .ok (.if_icmp .lt 7, 3) := by decide +kernel
theorem dm_85_23 : decode cm_85 23 = .ok (.iconst 0, 1) := by decide +kernel
theorem dm_85_24 : decode cm_85 24 = .ok (.goto 9, 3) := by decide +kernel
theorem dm_85_27 : decode cm_85 27 = .ok (.aload_n 3, 1) := by decide +kernel
theorem dm_85_28 : decode cm_85 28 = .ok (.getfield 102, 3) := by decide +kernel
theorem dm_85_31 : decode cm_85 31 = .ok (.iload_n 2, 1) := by decide +kernel
theorem dm_85_32 : decode cm_85 32 = .ok (.iaload, 1) := by decide +kernel
theorem dm_85_33 : decode cm_85 33 = .ok (.ireturn, 1) := by decide +kernel
theorem dm_86_0 : decode cm_86 0 = .ok (.aload_n 0, 1) := by decide +kernel
theorem dm_86_1 : decode cm_86 1 = .ok (.getfield 26, 3) := by decide +kernel
theorem dm_86_4 : decode cm_86 4 = .ok (.iload_n 1, 1) := by decide +kernel
theorem dm_86_5 : decode cm_86 5 = .ok (.invokevirtual 106, 3) := by decide +kernel
theorem dm_86_8 : decode cm_86 8 = .ok (.ireturn, 1) := by decide +kernel
theorem dm_87_0 : decode cm_87 0 = .ok (.aload_n 0, 1) := by decide +kernel
theorem dm_87_1 : decode cm_87 1 = .ok (.getfield 26, 3) := by decide +kernel
theorem dm_87_4 : decode cm_87 4 = .ok (.iload_n 1, 1) := by decide +kernel
theorem dm_87_5 : decode cm_87 5 = .ok (.invokevirtual 85, 3) := by decide +kernel
theorem dm_87_8 : decode cm_87 8 = .ok (.astore_n 3, 1) := by decide +kernel
theorem dm_87_9 : decode cm_87 9 = .ok (.aload_n 3, 1) := by decide +kernel
theorem dm_87_10 : decode cm_87 10 = .ok (.ifnonnull 7, 3) := by decide +kernel
theorem dm_87_13 : decode cm_87 13 = .ok (.iconst 0, 1) := by decide +kernel
theorem dm_87_14 : decode cm_87 14 = .ok (.goto 8, 3) := by decide +kernel
theorem dm_87_17 : decode cm_87 17 = .ok (.aload_n 3, 1) := by decide +kernel
theorem dm_87_18 : decode cm_87 18 = .ok (.iload_n 2, 1) := by decide +kernel
theorem dm_87_19 : decode cm_87 19 = .ok (.invokevirtual 109, 3) := by decide +kernel
theorem dm_87_22 : decode cm_87 22 = .ok (.ireturn, 1) := by decide +kernel
theorem dm_88_0 : decode cm_88 0 = .ok (.aload_n 0, 1) := by decide +kernel
theorem dm_88_1 : decode cm_88 1 = .ok (.getfield 26, 3) := by decide +kernel
theorem dm_88_4 : decode cm_88 4 = .ok (.iload_n 1, 1) := by decide +kernel
theorem dm_88_5 : decode cm_88 5 = .ok (.invokevirtual 85, 3) := by decide +kernel
theorem dm_88_8 : decode cm_88 8 = .ok (.astore 4, 2) := by decide +kernel
theorem dm_88_10 : decode cm_88 10 = .ok (.aload 4, 2) := by decide +kernel
theorem dm_88_12 : decode cm_88 12 = .ok (.ifnonnull 7, 3) := by decide +kernel
theorem dm_88_15 : decode cm_88 15 = .ok (.iconst 0, 1) := by decide +kernel
theorem dm_88_16 : decode cm_88 16 = .ok (.goto 16, 3) := by decide +kernel
theorem dm_88_19 : decode cm_88 19 = .ok (.aload 4, 2) := by decide +kernel
theorem dm_88_21 : decode cm_88 21 = .ok (.getfield 112, 3) := by decide +kernel
theorem dm_88_24 : decode cm_88 24 = .ok (.getfield 116, 3) := by decide +kernel
theorem dm_88_27 : decode cm_88 27 = .ok (.iload_n 2, 1) := by decide +kernel
theorem dm_88_28 : decode cm_88 28 = .ok (.iload_n 3, 1) := by decide +kernel
theorem dm_88_29 : decode cm_88 29 = .ok (.invokevirtual 122, 3) := by decide +kernel
theorem dm_88_32 : decode cm_88 32 = .ok (.ireturn, 1) := by decide +kernel
theorem dm_89_0 : decode cm_89 0 = .ok (.aload_n 0, 1) := by decide +kernel
theorem dm_89_1 : decode cm_89 1 = .ok (.getfield 26, 3) := by decide +kernel
theorem dm_89_4 : decode cm_89 4 = .ok (.iload_n 1, 1) := by decide +kernel
theorem dm_89_5 : decode cm_89 5 = .ok (.invokevirtual 85, 3) := by decide +kernel
theorem dm_89_8 : decode cm_89 8 = .ok (.astore_n 3, 1) := by decide +kernel
theorem dm_89_9 : decode cm_89 9 = .ok (.aload_n 3, 1) := by decide +kernel
theorem dm_89_10 : decode cm_89 10 = .ok (.ifnull 24, 3) := by decide +kernel
theorem dm_89_13 : decode cm_89 13 = .ok (.iload_n 2, 1) := by decide +kernel
theorem dm_89_14 : decode cm_89 14 = .ok (.ifCond .lt 20, 3) := by decide +kernel
theorem dm_89_17 : decode cm_89 17 = .ok (.iload_n 2, 1) := by decide +kernel
theorem dm_89_18 : decode cm_89 18 = .ok (.sipush 300, 3) := by decide +kernel
theorem dm_89_21 : decode cm_89 21 = .ok (.if_icmp .gt 13, 3) := by decide +kernel
theorem dm_89_24 : decode cm_89 24 = .ok (.aload_n 0, 1) := by decide +kernel
theorem dm_89_25 : decode cm_89 25 = .ok (.getfield 10, 3) := by decide +kernel
theorem dm_89_28 : decode cm_89 28 = .ok (.invokevirtual 54, 3) := by decide +kernel
theorem dm_89_31 : decode cm_89 31 = .ok (.ifCond .ne 5, 3) := by decide +kernel
theorem dm_89_34 : decode cm_89 34 = .ok (.iconst (-1), 1) := by decide +kernel
theorem dm_89_35 : decode cm_89 35 = .ok (.ireturn, 1) := by decide +kernel
theorem dm_89_36 : decode cm_89 36 = .ok (.aload_n 0, 1) := by decide +kernel
theorem dm_89_37 : decode cm_89 37 = .ok (.getfield 33, 3) := by decide +kernel
theorem dm_89_40 : decode cm_89 40 = .ok (.aload_n 0, 1) := by decide +kernel
theorem dm_89_41 : decode cm_89 41 = .ok (.getfield 10, 3) := by decide +kernel
theorem dm_89_44 : decode cm_89 44 = .ok (.aload_n 3, 1) := by decide +kernel
theorem dm_89_45 : decode cm_89 45 = .ok (.iload_n 2, 1) := by decide +kernel
theorem dm_89_46 : decode cm_89 46 = .ok (.invokevirtual 128, 3) := by decide +kernel
theorem dm_89_49 : decode cm_89 49 = .ok (.ireturn, 1) := by decide +kernel
theorem dm_90_0 : decode cm_90 0 = .ok (.aload_n 0, 1) := by decide +kernel
theorem dm_90_1 : decode cm_90 1 = .ok (.getfield 33, 3) := by decide +kernel
theorem dm_90_4 : decode cm_90 4 = .ok (.getfield 132, 3) := by decide +kernel
theorem dm_90_7 : decode cm_90 7 = .ok (.getfield 116, 3) := by decide +kernel
theorem dm_90_10 : decode cm_90 10 = .ok (.iload_n 1, 1) := by decide +kernel
theorem dm_90_11 : decode cm_90 11 = .ok (.iload_n 2, 1) := by decide +kernel
theorem dm_90_12 : decode cm_90 12 = .ok (.invokevirtual 122, 3) := by decide +kernel
theorem dm_90_15 : decode cm_90 15 = .ok (.ireturn, 1) := by decide +kernel
theorem dm_91_0 : decode cm_91 0 = .ok (.aload_n 0, 1) := by decide +kernel
theorem dm_91_1 : decode cm_91 1 = .ok (.invokespecial 1, 3) := by decide +kernel
theorem dm_91_4 : decode cm_91 4 = .ok (.aload_n 0, 1) := by decide +kernel
theorem dm_91_5 : decode cm_91 5 = .ok (.sipush 256, 3) := by decide +kernel
theorem dm_91_8 : decode cm_91 8 = .ok (.newarray .int, 2) := by decide +kernel
theorem dm_91_10 : decode cm_91 10 = .ok (.putfield 7, 3) := by decide +kernel
theorem dm_91_13 : decode cm_91 13 = .ok (.aload_n 0, 1) := by decide +kernel
theorem dm_91_14 : decode cm_91 14 = .ok (.iconst 3, 1) := by decide +kernel
theorem dm_91_15 : decode cm_91 15 = .ok (.newarray .int, 2) := by decide +kernel
theorem dm_91_17 : decode cm_91 17 = .ok (.putfield 13, 3) := by decide +kernel
theorem dm_91_20 : decode cm_91 20 = .ok (.aload_n 0, 1) := by decide +kernel
theorem dm_91_21 : decode cm_91 21 = .ok (.bipush 24, 2) := by decide +kernel
theorem dm_91_23 : decode cm_91 23 = .ok (.newarray .int, 2) := by decide +kernel
theorem dm_91_25 : decode cm_91 25 = .ok (.putfield 16, 3) := by decide +kernel
theorem dm_91_28 : decode cm_91 28 = .ok (.aload_n 0, 1) := by decide +kernel
theorem dm_91_29 : decode cm_91 29 = .ok (.iconst 3, 1) := by decide +kernel
theorem dm_91_30 : decode cm_91 30 = .ok (.newarray .int, 2) := by decide +kernel
theorem dm_91_32 : decode cm_91 32 = .ok (.putfield 19, 3) := by decide +kernel
theorem dm_91_35 : decode cm_91 35 = .ok (.aload_n 0, 1) := by decide +kernel
theorem dm_91_36 : decode cm_91 36 = .ok (.iconst 3, 1) := by decide +kernel
theorem dm_91_37 : decode cm_91 37 = .ok (.newarray .int, 2) := by decide +kernel
theorem dm_91_39 : decode cm_91 39 = .ok (.putfield 22, 3) := by decide +kernel
theorem dm_91_42 : decode cm_91 42 = .ok (.aload_n 0, 1) := by decide +kernel
theorem dm_91_43 : decode cm_91 43 = .ok (.bipush 12, 2) := by decide +kernel
theorem dm_91_45 : decode cm_91 45 = .ok (.newarray .int, 2) := by decide +kernel
theorem dm_91_47 : decode cm_91 47 = .ok (.putfield 25, 3) := by decide +kernel
theorem dm_91_50 : decode cm_91 50 = .ok (.aload_n 0, 1) := by decide +kernel
theorem dm_91_51 : decode cm_91 51 = .ok (.iconst 3, 1) := by decide +kernel
theorem dm_91_52 : decode cm_91 52 = .ok (.newarray .int, 2) := by decide +kernel
theorem dm_91_54 : decode cm_91 54 = .ok (.putfield 28, 3) := by decide +kernel
theorem dm_91_57 : decode cm_91 57 = .ok (.aload_n 0, 1) := by decide +kernel
theorem dm_91_58 : decode cm_91 58 = .ok (.bipush 36, 2) := by decide +kernel
theorem dm_91_60 : decode cm_91 60 = .ok (.newarray .int, 2) := by decide +kernel
theorem dm_91_62 : decode cm_91 62 = .ok (.putfield 31, 3) := by decide +kernel
theorem dm_91_65 : decode cm_91 65 = .ok (.aload_n 0, 1) := by decide +kernel
theorem dm_91_66 : decode cm_91 66 = .ok (.iconst 3, 1) := by decide +kernel
theorem dm_91_67 : decode cm_91 67 = .ok (.newarray .int, 2) := by decide +kernel
theorem dm_91_69 : decode cm_91 69 = .ok (.putfield 34, 3) := by decide +kernel
theorem dm_91_72 : decode cm_91 72 = .ok (.aload_n 0, 1) := by decide +kernel
theorem dm_91_73 : decode cm_91 73 = .ok (.iconst 3, 1) := by decide +kernel
theorem dm_91_74 : decode cm_91 74 = .ok (.newarray .int, 2) := by decide +kernel
theorem dm_91_76 : decode cm_91 76 = .ok (.putfield 37, 3) := by decide +kernel
theorem dm_91_79 : decode cm_91 79 = .ok (.aload_n 0, 1) := by decide +kernel
theorem dm_91_80 : decode cm_91 80 = .ok (.bipush 24, 2) := by decide +kernel
theorem dm_91_82 : decode cm_91 82 = .ok (.newarray .int, 2) := by decide +kernel
theorem dm_91_84 : decode cm_91 84 = .ok (.putfield 40, 3) := by decide +kernel
theorem dm_91_87 : decode cm_91 87 = .ok (.aload_n 0, 1) := by decide +kernel
theorem dm_91_88 : decode cm_91 88 = .ok (.iconst 3, 1) := by decide +kernel
theorem dm_91_89 : decode cm_91 89 = .ok (.newarray .int, 2) := by decide +kernel
theorem dm_91_91 : decode cm_91 91 = .ok (.putfield 43, 3) := by decide +kernel
theorem dm_91_94 : decode cm_91 94 = .ok (.aload_n 0, 1) := by decide +kernel
theorem dm_91_95 : decode cm_91 95 = .ok (.iconst 3, 1) := by decide +kernel
theorem dm_91_96 : decode cm_91 96 = .ok (.newarray .int, 2) := by decide +kernel
theorem dm_91_98 : decode cm_91 98 = .ok (.putfield 46, 3) := by decide +kernel
theorem dm_91_101 : decode cm_91 101 = .ok (.aload_n 0, 1) := by decide +kernel
theorem dm_91_102 : decode cm_91 102 = .ok (.sipush 144, 3) := by decide +kernel
theorem dm_91_105 : decode cm_91 105 = .ok (.newarray .int, 2) := by decide +kernel
theorem dm_91_107 : decode cm_91 107 = .ok (.putfield 49, 3) := by decide +kernel
theorem dm_91_110 : decode cm_91 110 = .ok (.aload_n 0, 1) := by decide +kernel
theorem dm_91_111 : decode cm_91 111 = .ok (.bipush 24, 2) := by decide +kernel
theorem dm_91_113 : decode cm_91 113 = .ok (.newarray .int, 2) := by decide +kernel
theorem dm_91_115 : decode cm_91 115 = .ok (.putfield 52, 3) := by decide +kernel
theorem dm_91_118 : decode cm_91 118 = .ok (.aload_n 0, 1) := by decide +kernel
theorem dm_91_119 : decode cm_91 119 = .ok (.bipush 24, 2) := by decide +kernel
theorem dm_91_121 : decode cm_91 121 = .ok (.newarray .int, 2) := by decide +kernel
theorem dm_91_123 : decode cm_91 123 = .ok (.putfield 55, 3) := by decide +kernel
theorem dm_91_126 : decode cm_91 126 = .ok (.aload_n 0, 1) := by decide +kernel
theorem dm_91_127 : decode cm_91 127 = .ok (.bipush 24, 2) := by decide +kernel
theorem dm_91_129 : decode cm_91 129 = .ok (.newarray .int, 2) := by decide +kernel
theorem dm_91_131 : decode cm_91 131 = .ok (.putfield 58, 3) := by decide +kernel
theorem dm_91_134 : decode cm_91 134 = .ok (.aload_n 0, 1) := by decide +kernel
theorem dm_91_135 : decode cm_91 135 = .ok (.bipush 24, 2) := by decide +kernel
theorem dm_91_137 : decode cm_91 137 = .ok (.newarray .int, 2) := by decide +kernel
theorem dm_91_139 : decode cm_91 139 = .ok (.putfield 61, 3) := by decide +kernel
theorem dm_91_142 : decode cm_91 142 = .ok (.aload_n 0, 1) := by decide +kernel
theorem dm_91_143 : decode cm_91 143 = .ok (.bipush 8, 2) := by decide +kernel
theorem dm_91_145 : decode cm_91 145 = .ok (.newarray .boolean, 2) := by decide +kernel
theorem dm_91_147 : decode cm_91 147 = .ok (.putfield 64, 3) := by decide +kernel
theorem dm_91_150 : decode cm_91 150 = .ok (.aload_n 0, 1) := by decide +kernel
theorem dm_91_151 : decode cm_91 151 = .ok (.bipush 8, 2) := by decide +kernel
theorem dm_91_153 : decode cm_91 153 = .ok (.newarray .int, 2) := by decide +kernel
theorem dm_91_155 : decode cm_91 155 = .ok (.putfield 68, 3) := by decide +kernel
theorem dm_91_158 : decode cm_91 158 = .ok (.aload_n 0, 1) := by decide +kernel
theorem dm_91_159 : decode cm_91 159 = .ok (.bipush 31, 2) := by decide +kernel
theorem dm_91_161 : decode cm_91 161 = .ok (.newarray .int, 2) := by decide +kernel
theorem dm_91_163 : decode cm_91 163 = .ok (.putfield 71, 3) := by decide +kernel
theorem dm_91_166 : decode cm_91 166 = .ok (.aload_n 0, 1) := by decide +kernel
theorem dm_91_167 : decode cm_91 167 = .ok (.bipush 24, 2) := by decide +kernel
theorem dm_91_169 : decode cm_91 169 = .ok (.newarray .int, 2) := by decide +kernel
theorem dm_91_171 : decode cm_91 171 = .ok (.putfield 74, 3) := by decide +kernel
theorem dm_91_174 : decode cm_91 174 = .ok (.aload_n 0, 1) := by decide +kernel
theorem dm_91_175 : decode cm_91 175 = .ok (.bipush 24, 2) := by decide +kernel
theorem dm_91_177 : decode cm_91 177 = .ok (.newarray .boolean, 2) := by decide +kernel
theorem dm_91_179 : decode cm_91 179 = .ok (.putfield 77, 3) := by decide +kernel
theorem dm_91_182 : decode cm_91 182 = .ok (.aload_n 0, 1) := by decide +kernel
theorem dm_91_183 : decode cm_91 183 = .ok (.bipush 48, 2) := by decide +kernel
theorem dm_91_185 : decode cm_91 185 = .ok (.newarray .int, 2) := by decide +kernel
theorem dm_91_187 : decode cm_91 187 = .ok (.putfield 80, 3) := by decide +kernel
theorem dm_91_190 : decode cm_91 190 = .ok (.return_, 1) := by decide +kernel
theorem dm_92_0 : decode cm_92 0 = .ok (.iload_n 0, 1) := by decide +kernel
theorem dm_92_1 : decode cm_92 1 = .ok (.iload_n 1, 1) := by decide +kernel
theorem dm_92_2 : decode cm_92 2 = .ok (.if_icmp .lt 12, 3) := by decide +kernel
theorem dm_92_5 : decode cm_92 5 = .ok (.iload_n 0, 1) := by decide +kernel
theorem dm_92_6 : decode cm_92 6 = .ok (.iload_n 2, 1) := by decide +kernel
theorem dm_92_7 : decode cm_92 7 = .ok (.if_icmp .gt 7, 3) := by decide +kernel
theorem dm_92_10 : decode cm_92 10 = .ok (.iconst 1, 1) := by decide +kernel
theorem dm_92_11 : decode cm_92 11 = .ok (.goto 4, 3) := by decide +kernel
theorem dm_92_14 : decode cm_92 14 = .ok (.iconst 0, 1) := by decide +kernel
theorem dm_92_15 : decode cm_92 15 = .ok (.ireturn, 1) := by decide +kernel
theorem dm_93_0 : decode cm_93 0 = .ok (.iload_n 1, 1) := by decide +kernel
theorem dm_93_1 : decode cm_93 1 = .ok (.iconst 0, 1) := by decide +kernel
theorem dm_93_2 : decode cm_93 2 = .ok (.bipush 15, 2) := by decide +kernel
theorem dm_93_4 : decode cm_93 4 = .ok (.invokestatic 83, 3) := by decide +kernel
theorem dm_93_7 : decode cm_93 7 = .ok (.ifCond .eq 44, 3) := by decide +kernel
theorem dm_93_10 : decode cm_93 10 = .ok (.iload_n 2, 1) := by decide +kernel
theorem dm_93_11 : decode cm_93 11 = .ok (.iconst 0, 1) := by decide +kernel
theorem dm_93_12 : decode cm_93 12 = .ok (.bipush 7, 2) := by decide +kernel
theorem dm_93_14 : decode cm_93 14 = .ok (.invokestatic 83, 3) := by decide +kernel
theorem dm_93_17 : decode cm_93 17 = .ok (.ifCond .eq 34, 3) := by decide +kernel
theorem dm_93_20 : decode cm_93 20 = .ok (.iload_n 3, 1) := by decide +kernel
theorem dm_93_21 : decode cm_93 21 = .ok (.iconst 0, 1) := by decide +kernel
theorem dm_93_22 : decode cm_93 22 = .ok (.bipush 7, 2) := by decide +kernel
theorem dm_93_24 : decode cm_93 24 = .ok (.invokestatic 83, 3) := by decide +kernel
theorem dm_93_27 : decode cm_93 27 = .ok (.ifCond .eq 24, 3) := by decide +kernel
theorem dm_93_30 : decode cm_93 30 = .ok (.iload 4, 2) := by decide +kernel
theorem dm_93_32 : decode cm_93 32 = .ok (.ldc 87, 2) := by decide +kernel
theorem dm_93_34 : decode cm_93 34 = .ok (.ldc 88, 2) := by decide +kernel
theorem dm_93_36 : decode cm_93 36 = .ok (.invokestatic 83, 3) := by decide +kernel
theorem dm_93_39 : decode cm_93 39 = .ok (.ifCond .eq 12, 3) := by decide +kernel
theorem dm_93_42 : decode cm_93 42 = .ok (.aload_n 0, 1) := by decide +kernel
theorem dm_93_43 : decode cm_93 43 = .ok (.getfield 89, 3) := by decide +kernel
theorem dm_93_46 : decode cm_93 46 = .ok (.bipush 24, 2) := by decide +kernel
theorem dm_93_48 : decode cm_93 48 = .ok (.if_icmp .ne 5, 3) := by decide +kernel
theorem dm_93_51 : decode cm_93 51 = .ok (.iconst 0, 1) := by decide +kernel
theorem dm_93_52 : decode cm_93 52 = .ok (.ireturn, 1) := by decide +kernel
theorem dm_93_53 : decode cm_93 53 = .ok (.aload_n 0, 1) := by decide +kernel
theorem dm_93_54 : decode cm_93 54 = .ok (.getfield 52, 3) := by decide +kernel
theorem dm_93_57 : decode cm_93 57 = .ok (.aload_n 0, 1) := by decide +kernel
theorem dm_93_58 : decode cm_93 58 = .ok (.getfield 89, 3) := by decide +kernel
theorem dm_93_61 : decode cm_93 61 = .ok (.iload_n 1, 1) := by decide +kernel
theorem dm_93_62 : decode cm_93 62 = .ok (.iastore, 1) := by decide +kernel
theorem dm_93_63 : decode cm_93 63 = .ok (.aload_n 0, 1) := by decide +kernel
theorem dm_93_64 : decode cm_93 64 = .ok (.getfield 55, 3) := by decide +kernel
theorem dm_93_67 : decode cm_93 67 = .ok (.aload_n 0, 1) := by decide +kernel
theorem dm_93_68 : decode cm_93 68 = .ok (.getfield 89, 3) := by decide +kernel
theorem dm_93_71 : decode cm_93 71 = .ok (.iload_n 2, 1) := by decide +kernel
theorem dm_93_72 : decode cm_93 72 = .ok (.iastore, 1) := by decide +kernel
theorem dm_93_73 : decode cm_93 73 = .ok (.aload_n 0, 1) := by decide +kernel
theorem dm_93_74 : decode cm_93 74 = .ok (.getfield 58, 3) := by decide +kernel
theorem dm_93_77 : decode cm_93 77 = .ok (.aload_n 0, 1) := by decide +kernel
theorem dm_93_78 : decode cm_93 78 = .ok (.getfield 89, 3) := by decide +kernel
theorem dm_93_81 : decode cm_93 81 = .ok (.iload_n 3, 1) := by decide +kernel
theorem dm_93_82 : decode cm_93 82 = .ok (.iastore, 1) := by decide +kernel
theorem dm_93_83 : decode cm_93 83 = .ok (.aload_n 0, 1) := by decide +kernel
theorem dm_93_84 : decode cm_93 84 = .ok (.getfield 61, 3) := by decide +kernel
theorem dm_93_87 : decode cm_93 87 = .ok (.aload_n 0, 1) := by decide +kernel
theorem dm_93_88 : decode cm_93 88 = .ok (.getfield 89, 3) := by decide +kernel
theorem dm_93_91 : decode cm_93 91 = .ok (.iload 4, 2) := by decide +kernel
theorem dm_93_93 : decode cm_93 93 = .ok (.iastore, 1) := by decide +kernel
theorem dm_93_94 : decode cm_93 94 = .ok (.aload_n 0, 1) := by decide +kernel
theorem dm_93_95 : decode cm_93 95 = .ok (.dup, 1) := by decide +kernel
theorem dm_93_96 : decode cm_93 96 = .ok (.getfield 89, 3) := by decide +kernel
theorem dm_93_99 : decode cm_93 99 = .ok (.iconst 1, 1) := by decide +kernel
theorem dm_93_100 : decode cm_93 100 = .ok (.iadd, 1) := by decide +kernel
theorem dm_93_101 : decode cm_93 101 = .ok (.putfield 89, 3) := by decide +kernel
theorem dm_93_104 : decode cm_93 104 = .ok (.iconst 1, 1) := by decide +kernel
theorem dm_93_105 : decode cm_93 105 = .ok (.ireturn, 1) := by decide +kernel
theorem dm_94_0 : decode cm_94 0 = .ok (.iload_n 1, 1) := by decide +kernel
theorem dm_94_1 : decode cm_94 1 = .ok (.iconst 0, 1) := by decide +kernel
theorem dm_94_2 : decode cm_94 2 = .ok (.bipush 7, 2) := by decide +kernel
theorem dm_94_4 : decode cm_94 4 = .ok (.invokestatic 83, 3) := by decide +kernel
theorem dm_94_7 : decode cm_94 7 = .ok (.ifCond .eq 12, 3) := by decide +kernel
theorem dm_94_10 : decode cm_94 10 = .ok (.aload_n 0, 1) := by decide +kernel
theorem dm_94_11 : decode cm_94 11 = .ok (.getfield 64, 3) := by decide +kernel
theorem dm_94_14 : decode cm_94 14 = .ok (.iload_n 1, 1) := by decide +kernel
theorem dm_94_15 : decode cm_94 15 = .ok (.baload, 1) := by decide +kernel
theorem dm_94_16 : decode cm_94 16 = .ok (.ifCond .eq 5, 3) := by decide +kernel
theorem dm_94_19 : decode cm_94 19 = .ok (.iconst 0, 1) := by decide +kernel
theorem dm_94_20 : decode cm_94 20 = .ok (.ireturn, 1) := by decide +kernel
theorem dm_94_21 : decode cm_94 21 = .ok (.aload_n 0, 1) := by decide +kernel
theorem dm_94_22 : decode cm_94 22 = .ok (.getfield 64, 3) := by decide +kernel
theorem dm_94_25 : decode cm_94 25 = .ok (.iload_n 1, 1) := by decide +kernel
theorem dm_94_26 : decode cm_94 26 = .ok (.iconst 1, 1) := by decide +kernel
theorem dm_94_27 : decode cm_94 27 = .ok (.bastore, 1) := by decide +kernel
theorem dm_94_28 : decode cm_94 28 = .ok (.aload_n 0, 1) := by decide +kernel
theorem dm_94_29 : decode cm_94 29 = .ok (.getfield 68, 3) := by decide +kernel
theorem dm_94_32 : decode cm_94 32 = .ok (.iload_n 1, 1) := by decide +kernel
theorem dm_94_33 : decode cm_94 33 = .ok (.aload_n 0, 1) := by decide +kernel
theorem dm_94_34 : decode cm_94 34 = .ok (.getfield 89, 3) := by decide +kernel
theorem dm_94_37 : decode cm_94 37 = .ok (.iastore, 1) := by decide +kernel
theorem dm_94_38 : decode cm_94 38 = .ok (.iconst 1, 1) := by decide +kernel
theorem dm_94_39 : decode cm_94 39 = .ok (.ireturn, 1) := by decide +kernel
theorem dm_95_0 : decode cm_95 0 = .ok (.aload_n 0, 1) := by decide +kernel
theorem dm_95_1 : decode cm_95 1 = .ok (.iconst 0, 1) := by decide +kernel
theorem dm_95_2 : decode cm_95 2 = .ok (.putfield 89, 3) := by decide +kernel
theorem dm_95_5 : decode cm_95 5 = .ok (.aload_n 0, 1) := by decide +kernel
theorem dm_95_6 : decode cm_95 6 = .ok (.iconst 0, 1) := by decide +kernel
theorem dm_95_7 : decode cm_95 7 = .ok (.putfield 93, 3) := by decide +kernel
theorem dm_95_10 : decode cm_95 10 = .ok (.iconst 0, 1) := by decide +kernel
theorem dm_95_11 : decode cm_95 11 = .ok (.istore_n 1, 1) := by decide +kernel
theorem dm_95_12 : decode cm_95 12 = .ok (.iload_n 1, 1) := by decide +kernel
theorem dm_95_13 : decode cm_95 13 = .ok (.bipush 8, 2) := by decide +kernel
theorem dm_95_15 : decode cm_95 15 = .ok (.if_icmp .ge 16, 3) := by decide +kernel
theorem dm_95_18 : decode cm_95 18 = .ok (.aload_n 0, 1) := by decide +kernel
theorem dm_95_19 : decode cm_95 19 = .ok (.getfield 64, 3) := by decide +kernel
theorem dm_95_22 : decode cm_95 22 = .ok (.iload_n 1, 1) := by decide +kernel
theorem dm_95_23 : decode cm_95 23 = .ok (.iconst 0, 1) := by decide +kernel
theorem dm_95_24 : decode cm_95 24 = .ok (.bastore, 1) := by decide +kernel
theorem dm_95_25 : decode cm_95 25 = .ok (.iinc 1 1, 3) := by decide +kernel
theorem dm_95_28 : decode cm_95 28 = .ok (.goto (-16), 3) := by decide +kernel
theorem dm_95_31 : decode cm_95 31 = .ok (.return_, 1) := by decide +kernel
theorem dm_96_0 : decode cm_96 0 = .ok (.iconst 0, 1) := by decide +kernel
theorem dm_96_1 : decode cm_96 1 = .ok (.istore_n 2, 1) := by decide +kernel
theorem dm_96_2 : decode cm_96 2 = .ok (.iconst 0, 1) := by decide +kernel
theorem dm_96_3 : decode cm_96 3 = .ok (.istore_n 3, 1) := by decide +kernel
theorem dm_96_4 : decode cm_96 4 = .ok (.iload_n 3, 1) := by decide +kernel
theorem dm_96_5 : decode cm_96 5 = .ok (.iload_n 1, 1) := by decide +kernel
theorem dm_96_6 : decode cm_96 6 = .ok (.if_icmp .ge 54, 3) := by decide +kernel
theorem dm_96_9 : decode cm_96 9 = .ok (.iload_n 2, 1) := by decide +kernel
theorem dm_96_10 : decode cm_96 10 = .ok (.aload_n 0, 1) := by decide +kernel
theorem dm_96_11 : decode cm_96 11 = .ok (.getfield 52, 3) := by decide +kernel
theorem dm_96_14 : decode cm_96 14 = .ok (.iload_n 3, 1) := by decide +kernel
theorem dm_96_15 : decode cm_96 15 = .ok (.iaload, 1) := by decide +kernel
theorem dm_96_16 : decode cm_96 16 = .ok (.bipush 8, 2) := by decide +kernel
theorem dm_96_18 : decode cm_96 18 = .ok (.if_icmp .eq 14, 3) := by decide +kernel
theorem dm_96_21 : decode cm_96 21 = .ok (.aload_n 0, 1) := by decide +kernel
theorem dm_96_22 : decode cm_96 22 = .ok (.getfield 52, 3) := by decide +kernel
theorem dm_96_25 : decode cm_96 25 = .ok (.iload_n 3, 1) := by decide +kernel
theorem dm_96_26 : decode cm_96 26 = .ok (.iaload, 1) := by decide +kernel
theorem dm_96_27 : decode cm_96 27 = .ok (.bipush 9, 2) := by decide +kernel
theorem dm_96_29 : decode cm_96 29 = .ok (.if_icmp .ne 7, 3) := by decide +kernel
theorem dm_96_32 : decode cm_96 32 = .ok (.iconst 4, 1) := by decide +kernel
theorem dm_96_33 : decode cm_96 33 = .ok (.goto 19, 3) := by decide +kernel
theorem dm_96_36 : decode cm_96 36 = .ok (.aload_n 0, 1) := by decide +kernel
theorem dm_96_37 : decode cm_96 37 = .ok (.getfield 52, 3) := by decide +kernel
theorem dm_96_40 : decode cm_96 40 = .ok (.iload_n 3, 1) := by decide +kernel
theorem dm_96_41 : decode cm_96 41 = .ok (.iaload, 1) := by decide +kernel
theorem dm_96_42 : decode cm_96 42 = .ok (.bipush 13, 2) := by decide +kernel
theorem dm_96_44 : decode cm_96 44 = .ok (.if_icmp .ne 7, 3) := by decide +kernel
theorem dm_96_47 : decode cm_96 47 = .ok (.iconst 3, 1) := by decide +kernel
theorem dm_96_48 : decode cm_96 48 = .ok (.goto 4, 3) := by decide +kernel
theorem dm_96_51 : decode cm_96 51 = .ok (.iconst 1, 1) := by decide +kernel
theorem dm_96_52 : decode cm_96 52 = .ok (.iadd, 1) := by decide +kernel
theorem dm_96_53 : decode cm_96 53 = .ok (.istore_n 2, 1) := by decide +kernel
theorem dm_96_54 : decode cm_96 54 = .ok (.iinc 3 1, 3) := by decide +kernel
theorem dm_96_57 : decode cm_96 57 = .ok (.goto (-53), 3) := by decide +kernel
theorem dm_96_60 : decode cm_96 60 = .ok (.iload_n 2, 1) := by decide +kernel
theorem dm_96_61 : decode cm_96 61 = .ok (.ireturn, 1) := by decide +kernel
theorem dm_97_0 : decode cm_97 0 = .ok (.aload_n 0, 1) := by decide +kernel
theorem dm_97_1 : decode cm_97 1 = .ok (.getfield 52, 3) := by decide +kernel
theorem dm_97_4 : decode cm_97 4 = .ok (.iload_n 1, 1) := by decide +kernel
theorem dm_97_5 : decode cm_97 5 = .ok (.iaload, 1) := by decide +kernel
theorem dm_97_6 : decode cm_97 6 = .ok (.istore_n 2, 1) := by decide +kernel
theorem dm_97_7 : decode cm_97 7 = .ok (.aload_n 0, 1) := by decide +kernel
theorem dm_97_8 : decode cm_97 8 = .ok (.getfield 61, 3) := by decide +kernel
theorem dm_97_11 : decode cm_97 11 = .ok (.iload_n 1, 1) := by decide +kernel
theorem dm_97_12 : decode cm_97 12 = .ok (.iaload, 1) := by decide +kernel
theorem dm_97_13 : decode cm_97 13 = .ok (.istore_n 3, 1) := by decide +kernel
theorem dm_97_14 : decode cm_97 14 = .ok (.iload_n 2, 1) := by decide +kernel
theorem dm_97_15 : decode cm_97 15 = .ok (.iconst 2, 1) := by decide +kernel
theorem dm_97_16 : decode cm_97 16 = .ok (.bipush 11, 2) := by decide +kernel
theorem dm_97_18 : decode cm_97 18 = .ok (.invokestatic 83, 3) := by decide +kernel
theorem dm_97_21 : decode cm_97 21 = .ok (.istore 4, 2) := by decide +kernel
theorem dm_97_23 : decode cm_97 23 = .ok (.iload 4, 2) := by decide +kernel
theorem dm_97_25 : decode cm_97 25 = .ok (.ifCond .ne 20, 3) := by decide +kernel
theorem dm_97_28 : decode cm_97 28 = .ok (.iload_n 2, 1) := by decide +kernel
theorem dm_97_29 : decode cm_97 29 = .ok (.iconst 1, 1) := by decide +kernel
theorem dm_97_30 : decode cm_97 30 = .ok (.if_icmp .eq 15, 3) := by decide +kernel
theorem dm_97_33 : decode cm_97 33 = .ok (.iload_n 2, 1) := by decide +kernel
theorem dm_97_34 : decode cm_97 34 = .ok (.bipush 13, 2) := by decide +kernel
theorem dm_97_36 : decode cm_97 36 = .ok (.if_icmp .eq 9, 3) := by decide +kernel
theorem dm_97_39 : decode cm_97 39 = .ok (.iload_n 2, 1) := by decide +kernel
theorem dm_97_40 : decode cm_97 40 = .ok (.bipush 15, 2) := by decide +kernel
theorem dm_97_42 : decode cm_97 42 = .ok (.if_icmp .ne 7, 3) := by decide +kernel
theorem dm_97_45 : decode cm_97 45 = .ok (.iconst 1, 1) := by decide +kernel
theorem dm_97_46 : decode cm_97 46 = .ok (.goto 4, 3) := by decide +kernel
theorem dm_97_49 : decode cm_97 49 = .ok (.iconst 0, 1) := by decide +kernel
theorem dm_97_50 : decode cm_97 50 = .ok (.istore 5, 2) := by decide +kernel
theorem dm_97_52 : decode cm_97 52 = .ok (.iload 5, 2) := by decide +kernel
theorem dm_97_54 : decode cm_97 54 = .ok (.ifCond .eq 13, 3) := by decide +kernel
theorem dm_97_57 : decode cm_97 57 = .ok (.aload_n 0, 1) := by decide +kernel
theorem dm_97_58 : decode cm_97 58 = .ok (.getfield 55, 3) := by decide +kernel
theorem dm_97_61 : decode cm_97 61 = .ok (.iload_n 1, 1) := by decide +kernel
theorem dm_97_62 : decode cm_97 62 = .ok (.iaload, 1) := by decide +kernel
theorem dm_97_63 : decode cm_97 63 = .ok (.iconst 4, 1) := by decide +kernel
theorem dm_97_64 : decode cm_97 64 = .ok (.if_icmp .gt 18, 3) := by decide +kernel
theorem dm_97_67 : decode cm_97 67 = .ok (.iload 4, 2) := by decide +kernel
theorem dm_97_69 : decode cm_97 69 = .ok (.ifCond .eq 15, 3) := by decide +kernel
theorem dm_97_72 : decode cm_97 72 = .ok (.aload_n 0, 1) := by decide +kernel
theorem dm_97_73 : decode cm_97 73 = .ok (.getfield 58, 3) := by decide +kernel
theorem dm_97_76 : decode cm_97 76 = .ok (.iload_n 1, 1) := by decide +kernel
