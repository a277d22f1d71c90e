theorem d_H_lines_7 : decode prog_1_method_16_code 7 = .ok (.invokevirtual 75, 3) := by decide +kernel
theorem d_H_lines_10 : decode prog_1_method_16_code 10 = .ok (.aload_n 0, 1) := by decide +kernel
theorem d_H_lines_11 : decode prog_1_method_16_code 11 = .ok (.getfield 10, 3) := by decide +kernel
theorem d_H_lines_14 : decode prog_1_method_16_code 14 = .ok (.iload_n 1, 1) := by decide +kernel
theorem d_H_lines_15 : decode prog_1_method_16_code 15 = .ok (.iload_n 2, 1) := by decide +kernel
theorem d_H_lines_16 : decode prog_1_method_16_code 16 = .ok (.invokevirtual 133, 3) := by decide +kernel
theorem d_H_lines_19 : decode prog_1_method_16_code 19 = .ok (.ireturn, 1) := by decide +kernel
theorem d_P_nearestCommon_0 : decode prog_3_method_16_code 0 = .ok (.aload_n 0, 1) := by decide +kernel
theorem d_P_nearestCommon_1 : decode prog_3_method_16_code 1 = .ok (.iload_n 1, 1) := by decide +kernel
theorem d_P_nearestCommon_2 : decode prog_3_method_16_code 2 = .ok (.invokevirtual 66, 3) := by decide +kernel
theorem d_P_nearestCommon_5 : decode prog_3_method_16_code 5 = .ok (.aload_n 0, 1) := by decide +kernel
theorem d_P_nearestCommon_6 : decode prog_3_method_16_code 6 = .ok (.iload_n 2, 1) := by decide +kernel
theorem d_P_nearestCommon_7 : decode prog_3_method_16_code 7 = .ok (.invokevirtual 66, 3) := by decide +kernel
theorem d_P_nearestCommon_10 : decode prog_3_method_16_code 10 = .ok (.iand, 1) := by decide +kernel
theorem d_P_nearestCommon_11 : decode prog_3_method_16_code 11 = .ok (.istore_n 3, 1) := by decide +kernel
theorem d_P_nearestCommon_12 : decode prog_3_method_16_code 12 = .ok (.iload_n 3, 1) := by decide +kernel
theorem d_P_nearestCommon_13 : decode prog_3_method_16_code 13 = .ok (.istore 4, 2) := by decide +kernel
theorem d_P_nearestCommon_15 : decode prog_3_method_16_code 15 = .ok (.iconst 0, 1) := by decide +kernel
theorem d_P_nearestCommon_16 : decode prog_3_method_16_code 16 = .ok (.istore 5, 2) := by decide +kernel
theorem d_P_nearestCommon_18 : decode prog_3_method_16_code 18 = .ok (.iload 5, 2) := by decide +kernel
theorem d_P_nearestCommon_20 : decode prog_3_method_16_code 20 = .ok (.aload_n 0, 1) := by decide +kernel
theorem d_P_nearestCommon_21 : decode prog_3_method_16_code 21 = .ok (.getfield 9, 3) := by decide +kernel
theorem d_P_nearestCommon_24 : decode prog_3_method_16_code 24 = .ok (.if_icmp .ge 32, 3) := by decide +kernel
theorem d_P_nearestCommon_27 : decode prog_3_method_16_code 27 = .ok (.iload_n 3, 1) := by decide +kernel
theorem d_P_nearestCommon_28 : decode prog_3_method_16_code 28 = .ok (.iload 5, 2) := by decide +kernel
theorem d_P_nearestCommon_30 : decode prog_3_method_16_code 30 = .ok (.ishr, 1) := by decide +kernel
theorem d_P_nearestCommon_31 : decode prog_3_method_16_code 31 = .ok (.iconst 1, 1) := by decide +kernel
theorem d_P_nearestCommon_32 : decode prog_3_method_16_code 32 = .ok (.iand, 1) := by decide +kernel
theorem d_P_nearestCommon_33 : decode prog_3_method_16_code 33 = .ok (.ifCond .eq 17, 3) := by decide +kernel
theorem d_P_nearestCommon_36 : decode prog_3_method_16_code 36 = .ok (.iload 4, 2) := by decide +kernel
theorem d_P_nearestCommon_38 : decode prog_3_method_16_code 38 = .ok (.aload_n 0, 1) := by decide +kernel
theorem d_P_nearestCommon_39 : decode prog_3_method_16_code 39 = .ok (.getfield 25, 3) := by decide +kernel
theorem d_P_nearestCommon_42 : decode prog_3_method_16_code 42 = .ok (.iload 5, 2) := by decide +kernel
theorem d_P_nearestCommon_44 : decode prog_3_method_16_code 44 = .ok (.iaload, 1) := by decide +kernel
theorem d_P_nearestCommon_45 : decode prog_3_method_16_code 45 = .ok (.iconst (-1), 1) := by decide +kernel
theorem d_P_nearestCommon_46 : decode prog_3_method_16_code 46 = .ok (.ixor, 1) := by decide +kernel
theorem d_P_nearestCommon_47 : decode prog_3_method_16_code 47 = .ok (.iand, 1) := by decide +kernel
theorem d_P_nearestCommon_48 : decode prog_3_method_16_code 48 = .ok (.istore 4, 2) := by decide +kernel
theorem d_P_nearestCommon_50 : decode prog_3_method_16_code 50 = .ok (.iinc 5 1, 3) := by decide +kernel
theorem d_P_nearestCommon_53 : decode prog_3_method_16_code 53 = .ok (.goto (-35), 3) := by decide +kernel
theorem d_P_nearestCommon_56 : decode prog_3_method_16_code 56 = .ok (.iload 4, 2) := by decide +kernel
theorem d_P_nearestCommon_58 : decode prog_3_method_16_code 58 = .ok (.ireturn, 1) := by decide +kernel
theorem d_H_nearest_0 : decode prog_1_method_17_code 0 = .ok (.aload_n 0, 1) := by decide +kernel
theorem d_H_nearest_1 : decode prog_1_method_17_code 1 = .ok (.iload_n 1, 1) := by decide +kernel
theorem d_H_nearest_2 : decode prog_1_method_17_code 2 = .ok (.invokevirtual 75, 3) := by decide +kernel
theorem d_H_nearest_5 : decode prog_1_method_17_code 5 = .ok (.aload_n 0, 1) := by decide +kernel
theorem d_H_nearest_6 : decode prog_1_method_17_code 6 = .ok (.iload_n 2, 1) := by decide +kernel
theorem d_H_nearest_7 : decode prog_1_method_17_code 7 = .ok (.invokevirtual 75, 3) := by decide +kernel
theorem d_H_nearest_10 : decode prog_1_method_17_code 10 = .ok (.aload_n 0, 1) := by decide +kernel
theorem d_H_nearest_11 : decode prog_1_method_17_code 11 = .ok (.getfield 10, 3) := by decide +kernel
theorem d_H_nearest_14 : decode prog_1_method_17_code 14 = .ok (.iload_n 1, 1) := by decide +kernel
theorem d_H_nearest_15 : decode prog_1_method_17_code 15 = .ok (.iload_n 2, 1) := by decide +kernel
theorem d_H_nearest_16 : decode prog_1_method_17_code 16 = .ok (.invokevirtual 136, 3) := by decide +kernel
theorem d_H_nearest_19 : decode prog_1_method_17_code 19 = .ok (.ireturn, 1) := by decide +kernel
theorem d_H_closest_0 : decode prog_1_method_18_code 0 = .ok (.aload_n 0, 1) := by decide +kernel
theorem d_H_closest_1 : decode prog_1_method_18_code 1 = .ok (.iload_n 1, 1) := by decide +kernel
theorem d_H_closest_2 : decode prog_1_method_18_code 2 = .ok (.invokevirtual 75, 3) := by decide +kernel
theorem d_H_closest_5 : decode prog_1_method_18_code 5 = .ok (.iconst (-1), 1) := by decide +kernel
theorem d_H_closest_6 : decode prog_1_method_18_code 6 = .ok (.istore_n 2, 1) := by decide +kernel
theorem d_H_closest_7 : decode prog_1_method_18_code 7 = .ok (.iconst 0, 1) := by decide +kernel
theorem d_H_closest_8 : decode prog_1_method_18_code 8 = .ok (.istore_n 3, 1) := by decide +kernel
theorem d_H_closest_9 : decode prog_1_method_18_code 9 = .ok (.iload_n 3, 1) := by decide +kernel
theorem d_H_closest_10 : decode prog_1_method_18_code 10 = .ok (.aload_n 0, 1) := by decide +kernel
theorem d_H_closest_11 : decode prog_1_method_18_code 11 = .ok (.getfield 10, 3) := by decide +kernel
theorem d_H_closest_14 : decode prog_1_method_18_code 14 = .ok (.invokevirtual 62, 3) := by decide +kernel
theorem d_H_closest_17 : decode prog_1_method_18_code 17 = .ok (.if_icmp .ge 52, 3) := by decide +kernel
theorem d_H_closest_20 : decode prog_1_method_18_code 20 = .ok (.iload_n 3, 1) := by decide +kernel
theorem d_H_closest_21 : decode prog_1_method_18_code 21 = .ok (.iload_n 1, 1) := by decide +kernel
theorem d_H_closest_22 : decode prog_1_method_18_code 22 = .ok (.if_icmp .eq 41, 3) := by decide +kernel
theorem d_H_closest_25 : decode prog_1_method_18_code 25 = .ok (.aload_n 0, 1) := by decide +kernel
theorem d_H_closest_26 : decode prog_1_method_18_code 26 = .ok (.getfield 30, 3) := by decide +kernel
theorem d_H_closest_29 : decode prog_1_method_18_code 29 = .ok (.iload_n 3, 1) := by decide +kernel
theorem d_H_closest_30 : decode prog_1_method_18_code 30 = .ok (.baload, 1) := by decide +kernel
theorem d_H_closest_31 : decode prog_1_method_18_code 31 = .ok (.ifCond .eq 32, 3) := by decide +kernel
theorem d_H_closest_34 : decode prog_1_method_18_code 34 = .ok (.iload_n 2, 1) := by decide +kernel
theorem d_H_closest_35 : decode prog_1_method_18_code 35 = .ok (.iconst (-1), 1) := by decide +kernel
theorem d_H_closest_36 : decode prog_1_method_18_code 36 = .ok (.if_icmp .eq 25, 3) := by decide +kernel
theorem d_H_closest_39 : decode prog_1_method_18_code 39 = .ok (.aload_n 0, 1) := by decide +kernel
theorem d_H_closest_40 : decode prog_1_method_18_code 40 = .ok (.getfield 10, 3) := by decide +kernel
theorem d_H_closest_43 : decode prog_1_method_18_code 43 = .ok (.iload_n 1, 1) := by decide +kernel
theorem d_H_closest_44 : decode prog_1_method_18_code 44 = .ok (.iload_n 3, 1) := by decide +kernel
theorem d_H_closest_45 : decode prog_1_method_18_code 45 = .ok (.invokevirtual 107, 3) := by decide +kernel
theorem d_H_closest_48 : decode prog_1_method_18_code 48 = .ok (.aload_n 0, 1) := by decide +kernel
theorem d_H_closest_49 : decode prog_1_method_18_code 49 = .ok (.getfield 10, 3) := by decide +kernel
theorem d_H_closest_52 : decode prog_1_method_18_code 52 = .ok (.iload_n 1, 1) := by decide +kernel
theorem d_H_closest_53 : decode prog_1_method_18_code 53 = .ok (.iload_n 2, 1) := by decide +kernel
theorem d_H_closest_54 : decode prog_1_method_18_code 54 = .ok (.invokevirtual 107, 3) := by decide +kernel
theorem d_H_closest_57 : decode prog_1_method_18_code 57 = .ok (.lcmp, 1) := by decide +kernel
theorem d_H_closest_58 : decode prog_1_method_18_code 58 = .ok (.ifCond .le 5, 3) := by decide +kernel
theorem d_H_closest_61 : decode prog_1_method_18_code 61 = .ok (.iload_n 3, 1) := by decide +kernel
theorem d_H_closest_62 : decode prog_1_method_18_code 62 = .ok (.istore_n 2, 1) := by decide +kernel
theorem d_H_closest_63 : decode prog_1_method_18_code 63 = .ok (.iinc 3 1, 3) := by decide +kernel
theorem d_H_closest_66 : decode prog_1_method_18_code 66 = .ok (.goto (-57), 3) := by decide +kernel
theorem d_H_closest_69 : decode prog_1_method_18_code 69 = .ok (.iload_n 2, 1) := by decide +kernel
theorem d_H_closest_70 : decode prog_1_method_18_code 70 = .ok (.ireturn, 1) := by decide +kernel
theorem d_H_isLiving_0 : decode prog_1_method_24_code 0 = .ok (.aload_n 0, 1) := by decide +kernel
theorem d_H_isLiving_1 : decode prog_1_method_24_code 1 = .ok (.getfield 30, 3) := by decide +kernel
theorem d_H_isLiving_4 : decode prog_1_method_24_code 4 = .ok (.iload_n 1, 1) := by decide +kernel
theorem d_H_isLiving_5 : decode prog_1_method_24_code 5 = .ok (.baload, 1) := by decide +kernel
theorem d_H_isLiving_6 : decode prog_1_method_24_code 6 = .ok (.ifCond .eq 17, 3) := by decide +kernel
theorem d_H_isLiving_9 : decode prog_1_method_24_code 9 = .ok (.aload_n 0, 1) := by decide +kernel
theorem d_H_isLiving_10 : decode prog_1_method_24_code 10 = .ok (.getfield 23, 3) := by decide +kernel
theorem d_H_isLiving_13 : decode prog_1_method_24_code 13 = .ok (.iload_n 1, 1) := by decide +kernel
theorem d_H_isLiving_14 : decode prog_1_method_24_code 14 = .ok (.iaload, 1) := by decide +kernel
theorem d_H_isLiving_15 : decode prog_1_method_24_code 15 = .ok (.iload_n 2, 1) := by decide +kernel
theorem d_H_isLiving_16 : decode prog_1_method_24_code 16 = .ok (.if_icmp .ne 7, 3) := by decide +kernel
theorem d_H_isLiving_19 : decode prog_1_method_24_code 19 = .ok (.iconst 1, 1) := by decide +kernel
theorem d_H_isLiving_20 : decode prog_1_method_24_code 20 = .ok (.goto 4, 3) := by decide +kernel
theorem d_H_isLiving_23 : decode prog_1_method_24_code 23 = .ok (.iconst 0, 1) := by decide +kernel
theorem d_H_isLiving_24 : decode prog_1_method_24_code 24 = .ok (.ireturn, 1) := by decide +kernel
theorem d_H_bestBull_0 : decode prog_1_method_19_code 0 = .ok (.aload_n 0, 1) := by decide +kernel
theorem d_H_bestBull_1 : decode prog_1_method_19_code 1 = .ok (.iload_n 1, 1) := by decide +kernel
theorem d_H_bestBull_2 : decode prog_1_method_19_code 2 = .ok (.invokevirtual 75, 3) := by decide +kernel
theorem d_H_bestBull_5 : decode prog_1_method_19_code 5 = .ok (.iconst (-1), 1) := by decide +kernel
theorem d_H_bestBull_6 : decode prog_1_method_19_code 6 = .ok (.istore_n 2, 1) := by decide +kernel
theorem d_H_bestBull_7 : decode prog_1_method_19_code 7 = .ok (.iconst 0, 1) := by decide +kernel
theorem d_H_bestBull_8 : decode prog_1_method_19_code 8 = .ok (.istore_n 3, 1) := by decide +kernel
theorem d_H_bestBull_9 : decode prog_1_method_19_code 9 = .ok (.iload_n 3, 1) := by decide +kernel
theorem d_H_bestBull_10 : decode prog_1_method_19_code 10 = .ok (.aload_n 0, 1) := by decide +kernel
theorem d_H_bestBull_11 : decode prog_1_method_19_code 11 = .ok (.getfield 10, 3) := by decide +kernel
theorem d_H_bestBull_14 : decode prog_1_method_19_code 14 = .ok (.invokevirtual 62, 3) := by decide +kernel
theorem d_H_bestBull_17 : decode prog_1_method_19_code 17 = .ok (.if_icmp .ge 47, 3) := by decide +kernel
theorem d_H_bestBull_20 : decode prog_1_method_19_code 20 = .ok (.aload_n 0, 1) := by decide +kernel
theorem d_H_bestBull_21 : decode prog_1_method_19_code 21 = .ok (.iload_n 3, 1) := by decide +kernel
theorem d_H_bestBull_22 : decode prog_1_method_19_code 22 = .ok (.iconst 0, 1) := by decide +kernel
theorem d_H_bestBull_23 : decode prog_1_method_19_code 23 = .ok (.invokevirtual 139, 3) := by decide +kernel
theorem d_H_bestBull_26 : decode prog_1_method_19_code 26 = .ok (.ifCond .eq 32, 3) := by decide +kernel
theorem d_H_bestBull_29 : decode prog_1_method_19_code 29 = .ok (.iload_n 2, 1) := by decide +kernel
theorem d_H_bestBull_30 : decode prog_1_method_19_code 30 = .ok (.iconst (-1), 1) := by decide +kernel
theorem d_H_bestBull_31 : decode prog_1_method_19_code 31 = .ok (.if_icmp .eq 25, 3) := by decide +kernel
theorem d_H_bestBull_34 : decode prog_1_method_19_code 34 = .ok (.aload_n 0, 1) := by decide +kernel
theorem d_H_bestBull_35 : decode prog_1_method_19_code 35 = .ok (.getfield 10, 3) := by decide +kernel
theorem d_H_bestBull_38 : decode prog_1_method_19_code 38 = .ok (.iload_n 1, 1) := by decide +kernel
theorem d_H_bestBull_39 : decode prog_1_method_19_code 39 = .ok (.iload_n 3, 1) := by decide +kernel
theorem d_H_bestBull_40 : decode prog_1_method_19_code 40 = .ok (.invokevirtual 107, 3) := by decide +kernel
theorem d_H_bestBull_43 : decode prog_1_method_19_code 43 = .ok (.aload_n 0, 1) := by decide +kernel
theorem d_H_bestBull_44 : decode prog_1_method_19_code 44 = .ok (.getfield 10, 3) := by decide +kernel
theorem d_H_bestBull_47 : decode prog_1_method_19_code 47 = .ok (.iload_n 1, 1) := by decide +kernel
theorem d_H_bestBull_48 : decode prog_1_method_19_code 48 = .ok (.iload_n 2, 1) := by decide +kernel
theorem d_H_bestBull_49 : decode prog_1_method_19_code 49 = .ok (.invokevirtual 107, 3) := by decide +kernel
theorem d_H_bestBull_52 : decode prog_1_method_19_code 52 = .ok (.lcmp, 1) := by decide +kernel
theorem d_H_bestBull_53 : decode prog_1_method_19_code 53 = .ok (.ifCond .ge 5, 3) := by decide +kernel
theorem d_H_bestBull_56 : decode prog_1_method_19_code 56 = .ok (.iload_n 3, 1) := by decide +kernel
theorem d_H_bestBull_57 : decode prog_1_method_19_code 57 = .ok (.istore_n 2, 1) := by decide +kernel
theorem d_H_bestBull_58 : decode prog_1_method_19_code 58 = .ok (.iinc 3 1, 3) := by decide +kernel
theorem d_H_bestBull_61 : decode prog_1_method_19_code 61 = .ok (.goto (-52), 3) := by decide +kernel
theorem d_H_bestBull_64 : decode prog_1_method_19_code 64 = .ok (.iload_n 2, 1) := by decide +kernel
theorem d_H_bestBull_65 : decode prog_1_method_19_code 65 = .ok (.ireturn, 1) := by decide +kernel
theorem d_J_bitCount_0 : decode prog_10_method_49_code 0 = .ok (.iload_n 0, 1) := by decide +kernel
theorem d_J_bitCount_1 : decode prog_10_method_49_code 1 = .ok (.iload_n 0, 1) := by decide +kernel
theorem d_J_bitCount_2 : decode prog_10_method_49_code 2 = .ok (.iconst 1, 1) := by decide +kernel
theorem d_J_bitCount_3 : decode prog_10_method_49_code 3 = .ok (.iushr, 1) := by decide +kernel
theorem d_J_bitCount_4 : decode prog_10_method_49_code 4 = .ok (.ldc_w 265, 3) := by decide +kernel
theorem d_J_bitCount_7 : decode prog_10_method_49_code 7 = .ok (.iand, 1) := by decide +kernel
theorem d_J_bitCount_8 : decode prog_10_method_49_code 8 = .ok (.isub, 1) := by decide +kernel
theorem d_J_bitCount_9 : decode prog_10_method_49_code 9 = .ok (.istore_n 0, 1) := by decide +kernel
theorem d_J_bitCount_10 : decode prog_10_method_49_code 10 = .ok (.iload_n 0, 1) := by decide +kernel
theorem d_J_bitCount_11 : decode prog_10_method_49_code 11 = .ok (.ldc_w 266, 3) := by decide +kernel
theorem d_J_bitCount_14 : decode prog_10_method_49_code 14 = .ok (.iand, 1) := by decide +kernel
theorem d_J_bitCount_15 : decode prog_10_method_49_code 15 = .ok (.iload_n 0, 1) := by decide +kernel
theorem d_J_bitCount_16 : decode prog_10_method_49_code 16 = .ok (.iconst 2, 1) := by decide +kernel
theorem d_J_bitCount_17 : decode prog_10_method_49_code 17 = .ok (.iushr, 1) := by decide +kernel
theorem d_J_bitCount_18 : decode prog_10_method_49_code 18 = .ok (.ldc_w 266, 3) := by decide +kernel
theorem d_J_bitCount_21 : decode prog_10_method_49_code 21 = .ok (.iand, 1) := by decide +kernel
theorem d_J_bitCount_22 : decode prog_10_method_49_code 22 = .ok (.iadd, 1) := by decide +kernel
theorem d_J_bitCount_23 : decode prog_10_method_49_code 23 = .ok (.istore_n 0, 1) := by decide +kernel
theorem d_J_bitCount_24 : decode prog_10_method_49_code 24 = .ok (.iload_n 0, 1) := by decide +kernel
theorem d_J_bitCount_25 : decode prog_10_method_49_code 25 = .ok (.iload_n 0, 1) := by decide +kernel
theorem d_J_bitCount_26 : decode prog_10_method_49_code 26 = .ok (.iconst 4, 1) := by decide +kernel
theorem d_J_bitCount_27 : decode prog_10_method_49_code 27 = .ok (.iushr, 1) := by decide +kernel
theorem d_J_bitCount_28 : decode prog_10_method_49_code 28 = .ok (.iadd, 1) := by decide +kernel
theorem d_J_bitCount_29 : decode prog_10_method_49_code 29 = .ok (.ldc_w 267, 3) := by decide +kernel
theorem d_J_bitCount_32 : decode prog_10_method_49_code 32 = .ok (.iand, 1) := by decide +kernel
theorem d_J_bitCount_33 : decode prog_10_method_49_code 33 = .ok (.istore_n 0, 1) := by decide +kernel
theorem d_J_bitCount_34 : decode prog_10_method_49_code 34 = .ok (.iload_n 0, 1) := by decide +kernel
theorem d_J_bitCount_35 : decode prog_10_method_49_code 35 = .ok (.iload_n 0, 1) := by decide +kernel
theorem d_J_bitCount_36 : decode prog_10_method_49_code 36 = .ok (.bipush 8, 2) := by decide +kernel
theorem d_J_bitCount_38 : decode prog_10_method_49_code 38 = .ok (.iushr, 1) := by decide +kernel
theorem d_J_bitCount_39 : decode prog_10_method_49_code 39 = .ok (.iadd, 1) := by decide +kernel
theorem d_J_bitCount_40 : decode prog_10_method_49_code 40 = .ok (.istore_n 0, 1) := by decide +kernel
theorem d_J_bitCount_41 : decode prog_10_method_49_code 41 = .ok (.iload_n 0, 1) := by decide +kernel
theorem d_J_bitCount_42 : decode prog_10_method_49_code 42 = .ok (.iload_n 0, 1) := by decide +kernel
theorem d_J_bitCount_43 : decode prog_10_method_49_code 43 = .ok (.bipush 16, 2) := by decide +kernel
theorem d_J_bitCount_45 : decode prog_10_method_49_code 45 = .ok (.iushr, 1) := by decide +kernel
theorem d_J_bitCount_46 : decode prog_10_method_49_code 46 = .ok (.iadd, 1) := by decide +kernel
theorem d_J_bitCount_47 : decode prog_10_method_49_code 47 = .ok (.istore_n 0, 1) := by decide +kernel
theorem d_J_bitCount_48 : decode prog_10_method_49_code 48 = .ok (.iload_n 0, 1) := by decide +kernel
theorem d_J_bitCount_49 : decode prog_10_method_49_code 49 = .ok (.bipush 63, 2) := by decide +kernel
theorem d_J_bitCount_51 : decode prog_10_method_49_code 51 = .ok (.iand, 1) := by decide +kernel
theorem d_J_bitCount_52 : decode prog_10_method_49_code 52 = .ok (.ireturn, 1) := by decide +kernel
theorem d_H_requireLivingFemales_0 : decode prog_1_method_30_code 0 = .ok (.iconst 0, 1) := by decide +kernel
theorem d_H_requireLivingFemales_1 : decode prog_1_method_30_code 1 = .ok (.istore_n 2, 1) := by decide +kernel
theorem d_H_requireLivingFemales_2 : decode prog_1_method_30_code 2 = .ok (.iload_n 2, 1) := by decide +kernel
theorem d_H_requireLivingFemales_3 : decode prog_1_method_30_code 3 = .ok (.aload_n 0, 1) := by decide +kernel
theorem d_H_requireLivingFemales_4 : decode prog_1_method_30_code 4 = .ok (.getfield 10, 3) := by decide +kernel
theorem d_H_requireLivingFemales_7 : decode prog_1_method_30_code 7 = .ok (.invokevirtual 62, 3) := by decide +kernel
theorem d_H_requireLivingFemales_10 : decode prog_1_method_30_code 10 = .ok (.if_icmp .ge 36, 3) := by decide +kernel
theorem d_H_requireLivingFemales_13 : decode prog_1_method_30_code 13 = .ok (.iload_n 1, 1) := by decide +kernel
theorem d_H_requireLivingFemales_14 : decode prog_1_method_30_code 14 = .ok (.iload_n 2, 1) := by decide +kernel
theorem d_H_requireLivingFemales_15 : decode prog_1_method_30_code 15 = .ok (.ishr, 1) := by decide +kernel
theorem d_H_requireLivingFemales_16 : decode prog_1_method_30_code 16 = .ok (.iconst 1, 1) := by decide +kernel
theorem d_H_requireLivingFemales_17 : decode prog_1_method_30_code 17 = .ok (.iand, 1) := by decide +kernel
theorem d_H_requireLivingFemales_18 : decode prog_1_method_30_code 18 = .ok (.ifCond .eq 22, 3) := by decide +kernel
theorem d_H_requireLivingFemales_21 : decode prog_1_method_30_code 21 = .ok (.aload_n 0, 1) := by decide +kernel
theorem d_H_requireLivingFemales_22 : decode prog_1_method_30_code 22 = .ok (.iload_n 2, 1) := by decide +kernel
theorem d_H_requireLivingFemales_23 : decode prog_1_method_30_code 23 = .ok (.iconst 1, 1) := by decide +kernel
theorem d_H_requireLivingFemales_24 : decode prog_1_method_30_code 24 = .ok (.invokevirtual 139, 3) := by decide +kernel
theorem d_H_requireLivingFemales_27 : decode prog_1_method_30_code 27 = .ok (.ifCond .ne 13, 3) := by decide +kernel
theorem d_H_requireLivingFemales_30 : decode prog_1_method_30_code 30 = .ok (.new 78, 3) := by decide +kernel
theorem d_H_requireLivingFemales_33 : decode prog_1_method_30_code 33 = .ok (.dup, 1) := by decide +kernel
theorem d_H_requireLivingFemales_34 : decode prog_1_method_30_code 34 = .ok (.ldc 192, 2) := by decide +kernel
theorem d_H_requireLivingFemales_36 : decode prog_1_method_30_code 36 = .ok (.invokespecial 82, 3) := by decide +kernel
theorem d_H_requireLivingFemales_39 : decode prog_1_method_30_code 39 = .ok (.athrow, 1) := by decide +kernel
theorem d_H_requireLivingFemales_40 : decode prog_1_method_30_code 40 = .ok (.iinc 2 1, 3) := by decide +kernel
theorem d_H_requireLivingFemales_43 : decode prog_1_method_30_code 43 = .ok (.goto (-41), 3) := by decide +kernel
theorem d_H_requireLivingFemales_46 : decode prog_1_method_30_code 46 = .ok (.return_, 1) := by decide +kernel
theorem d_B_begin_0 : decode prog_2_method_2_code 0 = .ok (.aload_n 0, 1) := by decide +kernel
theorem d_B_begin_1 : decode prog_2_method_2_code 1 = .ok (.iconst 0, 1) := by decide +kernel
theorem d_B_begin_2 : decode prog_2_method_2_code 2 = .ok (.putfield 15, 3) := by decide +kernel
theorem d_B_begin_5 : decode prog_2_method_2_code 5 = .ok (.iconst 0, 1) := by decide +kernel
theorem d_B_begin_6 : decode prog_2_method_2_code 6 = .ok (.istore 5, 2) := by decide +kernel
theorem d_B_begin_8 : decode prog_2_method_2_code 8 = .ok (.iload 5, 2) := by decide +kernel
theorem d_B_begin_10 : decode prog_2_method_2_code 10 = .ok (.bipush 24, 2) := by decide +kernel
theorem d_B_begin_12 : decode prog_2_method_2_code 12 = .ok (.if_icmp .ge 47, 3) := by decide +kernel
theorem d_B_begin_15 : decode prog_2_method_2_code 15 = .ok (.aload_n 0, 1) := by decide +kernel
theorem d_B_begin_16 : decode prog_2_method_2_code 16 = .ok (.getfield 15, 3) := by decide +kernel
theorem d_B_begin_19 : decode prog_2_method_2_code 19 = .ok (.iconst 5, 1) := by decide +kernel
theorem d_B_begin_20 : decode prog_2_method_2_code 20 = .ok (.if_icmp .ge 39, 3) := by decide +kernel
theorem d_B_begin_23 : decode prog_2_method_2_code 23 = .ok (.iload_n 1, 1) := by decide +kernel
theorem d_B_begin_24 : decode prog_2_method_2_code 24 = .ok (.iload 5, 2) := by decide +kernel
theorem d_B_begin_26 : decode prog_2_method_2_code 26 = .ok (.ishr, 1) := by decide +kernel
theorem d_B_begin_27 : decode prog_2_method_2_code 27 = .ok (.iconst 1, 1) := by decide +kernel
theorem d_B_begin_28 : decode prog_2_method_2_code 28 = .ok (.iand, 1) := by decide +kernel
theorem d_B_begin_29 : decode prog_2_method_2_code 29 = .ok (.ifCond .eq 24, 3) := by decide +kernel
theorem d_B_begin_32 : decode prog_2_method_2_code 32 = .ok (.aload_n 0, 1) := by decide +kernel
theorem d_B_begin_33 : decode prog_2_method_2_code 33 = .ok (.getfield 11, 3) := by decide +kernel
theorem d_B_begin_36 : decode prog_2_method_2_code 36 = .ok (.aload_n 0, 1) := by decide +kernel
theorem d_B_begin_37 : decode prog_2_method_2_code 37 = .ok (.getfield 15, 3) := by decide +kernel
theorem d_B_begin_40 : decode prog_2_method_2_code 40 = .ok (.iload 5, 2) := by decide +kernel
theorem d_B_begin_42 : decode prog_2_method_2_code 42 = .ok (.iastore, 1) := by decide +kernel
theorem d_B_begin_43 : decode prog_2_method_2_code 43 = .ok (.aload_n 0, 1) := by decide +kernel
theorem d_B_begin_44 : decode prog_2_method_2_code 44 = .ok (.dup, 1) := by decide +kernel
theorem d_B_begin_45 : decode prog_2_method_2_code 45 = .ok (.getfield 15, 3) := by decide +kernel
theorem d_B_begin_48 : decode prog_2_method_2_code 48 = .ok (.iconst 1, 1) := by decide +kernel
theorem d_B_begin_49 : decode prog_2_method_2_code 49 = .ok (.iadd, 1) := by decide +kernel
theorem d_B_begin_50 : decode prog_2_method_2_code 50 = .ok (.putfield 15, 3) := by decide +kernel
theorem d_B_begin_53 : decode prog_2_method_2_code 53 = .ok (.iinc 5 1, 3) := by decide +kernel
theorem d_B_begin_56 : decode prog_2_method_2_code 56 = .ok (.goto (-48), 3) := by decide +kernel
theorem d_B_begin_59 : decode prog_2_method_2_code 59 = .ok (.aload_n 0, 1) := by decide +kernel
theorem d_B_begin_60 : decode prog_2_method_2_code 60 = .ok (.iload_n 2, 1) := by decide +kernel
theorem d_B_begin_61 : decode prog_2_method_2_code 61 = .ok (.putfield 19, 3) := by decide +kernel
theorem d_B_begin_64 : decode prog_2_method_2_code 64 = .ok (.aload_n 0, 1) := by decide +kernel
theorem d_B_begin_65 : decode prog_2_method_2_code 65 = .ok (.lload_n 3, 1) := by decide +kernel
theorem d_B_begin_66 : decode prog_2_method_2_code 66 = .ok (.putfield 22, 3) := by decide +kernel
theorem d_B_begin_69 : decode prog_2_method_2_code 69 = .ok (.aload_n 0, 1) := by decide +kernel
theorem d_B_begin_70 : decode prog_2_method_2_code 70 = .ok (.getfield 26, 3) := by decide +kernel
theorem d_B_begin_73 : decode prog_2_method_2_code 73 = .ok (.ldc2_w 39, 3) := by decide +kernel
theorem d_B_begin_76 : decode prog_2_method_2_code 76 = .ok (.invokestatic 41, 3) := by decide +kernel
theorem d_B_begin_79 : decode prog_2_method_2_code 79 = .ok (.aload_n 0, 1) := by decide +kernel
theorem d_B_begin_80 : decode prog_2_method_2_code 80 = .ok (.getfield 26, 3) := by decide +kernel
theorem d_B_begin_83 : decode prog_2_method_2_code 83 = .ok (.iconst 0, 1) := by decide +kernel
theorem d_B_begin_84 : decode prog_2_method_2_code 84 = .ok (.lconst 0, 1) := by decide +kernel
theorem d_B_begin_85 : decode prog_2_method_2_code 85 = .ok (.lastore, 1) := by decide +kernel
theorem d_B_begin_86 : decode prog_2_method_2_code 86 = .ok (.aload_n 0, 1) := by decide +kernel
theorem d_B_begin_87 : decode prog_2_method_2_code 87 = .ok (.getfield 30, 3) := by decide +kernel
theorem d_B_begin_90 : decode prog_2_method_2_code 90 = .ok (.iconst 0, 1) := by decide +kernel
theorem d_B_begin_91 : decode prog_2_method_2_code 91 = .ok (.iconst 0, 1) := by decide +kernel
theorem d_B_begin_92 : decode prog_2_method_2_code 92 = .ok (.iastore, 1) := by decide +kernel
theorem d_B_begin_93 : decode prog_2_method_2_code 93 = .ok (.return_, 1) := by decide +kernel
theorem d_B_allCows_0 : decode prog_2_method_6_code 0 = .ok (.iconst 1, 1) := by decide +kernel
theorem d_B_allCows_1 : decode prog_2_method_6_code 1 = .ok (.aload_n 0, 1) := by decide +kernel
theorem d_B_allCows_2 : decode prog_2_method_6_code 2 = .ok (.getfield 15, 3) := by decide +kernel
theorem d_B_allCows_5 : decode prog_2_method_6_code 5 = .ok (.ishl, 1) := by decide +kernel
theorem d_B_allCows_6 : decode prog_2_method_6_code 6 = .ok (.iconst 1, 1) := by decide +kernel
theorem d_B_allCows_7 : decode prog_2_method_6_code 7 = .ok (.isub, 1) := by decide +kernel
theorem d_B_allCows_8 : decode prog_2_method_6_code 8 = .ok (.ireturn, 1) := by decide +kernel
theorem d_B_sumOfKin_0 : decode prog_2_method_9_code 0 = .ok (.lconst 0, 1) := by decide +kernel
theorem d_B_sumOfKin_1 : decode prog_2_method_9_code 1 = .ok (.lstore 4, 2) := by decide +kernel
theorem d_B_sumOfKin_3 : decode prog_2_method_9_code 3 = .ok (.iconst 0, 1) := by decide +kernel
theorem d_B_sumOfKin_4 : decode prog_2_method_9_code 4 = .ok (.istore 6, 2) := by decide +kernel
theorem d_B_sumOfKin_6 : decode prog_2_method_9_code 6 = .ok (.iload 6, 2) := by decide +kernel
theorem d_B_sumOfKin_8 : decode prog_2_method_9_code 8 = .ok (.aload_n 0, 1) := by decide +kernel
theorem d_B_sumOfKin_9 : decode prog_2_method_9_code 9 = .ok (.getfield 15, 3) := by decide +kernel
theorem d_B_sumOfKin_12 : decode prog_2_method_9_code 12 = .ok (.if_icmp .ge 53, 3) := by decide +kernel
theorem d_B_sumOfKin_15 : decode prog_2_method_9_code 15 = .ok (.iload_n 1, 1) := by decide +kernel
theorem d_B_sumOfKin_16 : decode prog_2_method_9_code 16 = .ok (.iload 6, 2) := by decide +kernel
theorem d_B_sumOfKin_18 : decode prog_2_method_9_code 18 = .ok (.ishr, 1) := by decide +kernel
theorem d_B_sumOfKin_19 : decode prog_2_method_9_code 19 = .ok (.iconst 1, 1) := by decide +kernel
theorem d_B_sumOfKin_20 : decode prog_2_method_9_code 20 = .ok (.iand, 1) := by decide +kernel
theorem d_B_sumOfKin_21 : decode prog_2_method_9_code 21 = .ok (.ifCond .eq 38, 3) := by decide +kernel
theorem d_B_sumOfKin_24 : decode prog_2_method_9_code 24 = .ok (.aload_n 3, 1) := by decide +kernel
theorem d_B_sumOfKin_25 : decode prog_2_method_9_code 25 = .ok (.aload_n 0, 1) := by decide +kernel
theorem d_B_sumOfKin_26 : decode prog_2_method_9_code 26 = .ok (.getfield 11, 3) := by decide +kernel
theorem d_B_sumOfKin_29 : decode prog_2_method_9_code 29 = .ok (.iload 6, 2) := by decide +kernel
theorem d_B_sumOfKin_31 : decode prog_2_method_9_code 31 = .ok (.iaload, 1) := by decide +kernel
theorem d_B_sumOfKin_32 : decode prog_2_method_9_code 32 = .ok (.iload_n 2, 1) := by decide +kernel
theorem d_B_sumOfKin_33 : decode prog_2_method_9_code 33 = .ok (.invokevirtual 76, 3) := by decide +kernel
theorem d_B_sumOfKin_36 : decode prog_2_method_9_code 36 = .ok (.lstore 7, 2) := by decide +kernel
theorem d_B_sumOfKin_38 : decode prog_2_method_9_code 38 = .ok (.lload 7, 2) := by decide +kernel
theorem d_B_sumOfKin_40 : decode prog_2_method_9_code 40 = .ok (.aload_n 0, 1) := by decide +kernel
theorem d_B_sumOfKin_41 : decode prog_2_method_9_code 41 = .ok (.getfield 22, 3) := by decide +kernel
theorem d_B_sumOfKin_44 : decode prog_2_method_9_code 44 = .ok (.lcmp, 1) := by decide +kernel
theorem d_B_sumOfKin_45 : decode prog_2_method_9_code 45 = .ok (.ifCond .le 7, 3) := by decide +kernel
theorem d_B_sumOfKin_48 : decode prog_2_method_9_code 48 = .ok (.ldc2_w 39, 3) := by decide +kernel
theorem d_B_sumOfKin_51 : decode prog_2_method_9_code 51 = .ok (.lreturn, 1) := by decide +kernel
theorem d_B_sumOfKin_52 : decode prog_2_method_9_code 52 = .ok (.lload 4, 2) := by decide +kernel
theorem d_B_sumOfKin_54 : decode prog_2_method_9_code 54 = .ok (.lload 7, 2) := by decide +kernel
theorem d_B_sumOfKin_56 : decode prog_2_method_9_code 56 = .ok (.ladd, 1) := by decide +kernel
theorem d_B_sumOfKin_57 : decode prog_2_method_9_code 57 = .ok (.lstore 4, 2) := by decide +kernel
theorem d_B_sumOfKin_59 : decode prog_2_method_9_code 59 = .ok (.iinc 6 1, 3) := by decide +kernel
theorem d_B_sumOfKin_62 : decode prog_2_method_9_code 62 = .ok (.goto (-56), 3) := by decide +kernel
theorem d_B_sumOfKin_65 : decode prog_2_method_9_code 65 = .ok (.lload 4, 2) := by decide +kernel
theorem d_B_sumOfKin_67 : decode prog_2_method_9_code 67 = .ok (.lreturn, 1) := by decide +kernel
theorem d_B_shiftOf_0 : decode prog_2_method_7_code 0 = .ok (.iconst 5, 1) := by decide +kernel
theorem d_B_shiftOf_1 : decode prog_2_method_7_code 1 = .ok (.iconst 4, 1) := by decide +kernel
theorem d_B_shiftOf_2 : decode prog_2_method_7_code 2 = .ok (.iload_n 0, 1) := by decide +kernel
theorem d_B_shiftOf_3 : decode prog_2_method_7_code 3 = .ok (.isub, 1) := by decide +kernel
theorem d_B_shiftOf_4 : decode prog_2_method_7_code 4 = .ok (.imul, 1) := by decide +kernel
theorem d_B_shiftOf_5 : decode prog_2_method_7_code 5 = .ok (.ireturn, 1) := by decide +kernel
theorem d_B_codeOf_0 : decode prog_2_method_11_code 0 = .ok (.iconst 0, 1) := by decide +kernel
theorem d_B_codeOf_1 : decode prog_2_method_11_code 1 = .ok (.istore_n 3, 1) := by decide +kernel
theorem d_B_codeOf_2 : decode prog_2_method_11_code 2 = .ok (.iconst 0, 1) := by decide +kernel
theorem d_B_codeOf_3 : decode prog_2_method_11_code 3 = .ok (.istore 4, 2) := by decide +kernel
theorem d_B_codeOf_5 : decode prog_2_method_11_code 5 = .ok (.iload 4, 2) := by decide +kernel
theorem d_B_codeOf_7 : decode prog_2_method_11_code 7 = .ok (.aload_n 0, 1) := by decide +kernel
theorem d_B_codeOf_8 : decode prog_2_method_11_code 8 = .ok (.getfield 15, 3) := by decide +kernel
theorem d_B_codeOf_11 : decode prog_2_method_11_code 11 = .ok (.if_icmp .ge 28, 3) := by decide +kernel
theorem d_B_codeOf_14 : decode prog_2_method_11_code 14 = .ok (.iload_n 1, 1) := by decide +kernel
theorem d_B_codeOf_15 : decode prog_2_method_11_code 15 = .ok (.iload 4, 2) := by decide +kernel
theorem d_B_codeOf_17 : decode prog_2_method_11_code 17 = .ok (.ishr, 1) := by decide +kernel
theorem d_B_codeOf_18 : decode prog_2_method_11_code 18 = .ok (.iconst 1, 1) := by decide +kernel
theorem d_B_codeOf_19 : decode prog_2_method_11_code 19 = .ok (.iand, 1) := by decide +kernel
theorem d_B_codeOf_20 : decode prog_2_method_11_code 20 = .ok (.ifCond .eq 13, 3) := by decide +kernel
theorem d_B_codeOf_23 : decode prog_2_method_11_code 23 = .ok (.iload_n 3, 1) := by decide +kernel
theorem d_B_codeOf_24 : decode prog_2_method_11_code 24 = .ok (.iload_n 2, 1) := by decide +kernel
theorem d_B_codeOf_25 : decode prog_2_method_11_code 25 = .ok (.iload 4, 2) := by decide +kernel
theorem d_B_codeOf_27 : decode prog_2_method_11_code 27 = .ok (.invokestatic 59, 3) := by decide +kernel
theorem d_B_codeOf_30 : decode prog_2_method_11_code 30 = .ok (.ishl, 1) := by decide +kernel
theorem d_B_codeOf_31 : decode prog_2_method_11_code 31 = .ok (.ior, 1) := by decide +kernel
theorem d_B_codeOf_32 : decode prog_2_method_11_code 32 = .ok (.istore_n 3, 1) := by decide +kernel
theorem d_B_codeOf_33 : decode prog_2_method_11_code 33 = .ok (.iinc 4 1, 3) := by decide +kernel
theorem d_B_codeOf_36 : decode prog_2_method_11_code 36 = .ok (.goto (-31), 3) := by decide +kernel
theorem d_B_codeOf_39 : decode prog_2_method_11_code 39 = .ok (.iload_n 3, 1) := by decide +kernel
theorem d_B_codeOf_40 : decode prog_2_method_11_code 40 = .ok (.ireturn, 1) := by decide +kernel
theorem d_B_weighServices_0 : decode prog_2_method_8_code 0 = .ok (.iconst 0, 1) := by decide +kernel
theorem d_B_weighServices_1 : decode prog_2_method_8_code 1 = .ok (.istore_n 3, 1) := by decide +kernel
theorem d_B_weighServices_2 : decode prog_2_method_8_code 2 = .ok (.iload_n 3, 1) := by decide +kernel
theorem d_B_weighServices_3 : decode prog_2_method_8_code 3 = .ok (.aload_n 0, 1) := by decide +kernel
theorem d_B_weighServices_4 : decode prog_2_method_8_code 4 = .ok (.invokevirtual 51, 3) := by decide +kernel
theorem d_B_weighServices_7 : decode prog_2_method_8_code 7 = .ok (.if_icmp .gt 51, 3) := by decide +kernel
theorem d_B_weighServices_10 : decode prog_2_method_8_code 10 = .ok (.aload_n 0, 1) := by decide +kernel
theorem d_B_weighServices_11 : decode prog_2_method_8_code 11 = .ok (.getfield 33, 3) := by decide +kernel
theorem d_B_weighServices_14 : decode prog_2_method_8_code 14 = .ok (.iload_n 3, 1) := by decide +kernel
theorem d_B_weighServices_15 : decode prog_2_method_8_code 15 = .ok (.iload_n 3, 1) := by decide +kernel
theorem d_B_weighServices_16 : decode prog_2_method_8_code 16 = .ok (.invokestatic 63, 3) := by decide +kernel
theorem d_B_weighServices_19 : decode prog_2_method_8_code 19 = .ok (.aload_n 0, 1) := by decide +kernel
theorem d_B_weighServices_20 : decode prog_2_method_8_code 20 = .ok (.getfield 19, 3) := by decide +kernel
theorem d_B_weighServices_23 : decode prog_2_method_8_code 23 = .ok (.if_icmp .le 9, 3) := by decide +kernel
theorem d_B_weighServices_26 : decode prog_2_method_8_code 26 = .ok (.ldc2_w 39, 3) := by decide +kernel
theorem d_B_weighServices_29 : decode prog_2_method_8_code 29 = .ok (.goto 10, 3) := by decide +kernel
theorem d_B_weighServices_32 : decode prog_2_method_8_code 32 = .ok (.aload_n 0, 1) := by decide +kernel
theorem d_B_weighServices_33 : decode prog_2_method_8_code 33 = .ok (.iload_n 3, 1) := by decide +kernel
theorem d_B_weighServices_34 : decode prog_2_method_8_code 34 = .ok (.iload_n 1, 1) := by decide +kernel
theorem d_B_weighServices_35 : decode prog_2_method_8_code 35 = .ok (.aload_n 2, 1) := by decide +kernel
theorem d_B_weighServices_36 : decode prog_2_method_8_code 36 = .ok (.invokevirtual 68, 3) := by decide +kernel
theorem d_B_weighServices_39 : decode prog_2_method_8_code 39 = .ok (.lastore, 1) := by decide +kernel
theorem d_B_weighServices_40 : decode prog_2_method_8_code 40 = .ok (.aload_n 0, 1) := by decide +kernel
theorem d_B_weighServices_41 : decode prog_2_method_8_code 41 = .ok (.getfield 36, 3) := by decide +kernel
theorem d_B_weighServices_44 : decode prog_2_method_8_code 44 = .ok (.iload_n 3, 1) := by decide +kernel
theorem d_B_weighServices_45 : decode prog_2_method_8_code 45 = .ok (.aload_n 0, 1) := by decide +kernel
theorem d_B_weighServices_46 : decode prog_2_method_8_code 46 = .ok (.iload_n 3, 1) := by decide +kernel
theorem d_B_weighServices_47 : decode prog_2_method_8_code 47 = .ok (.iload_n 1, 1) := by decide +kernel
theorem d_B_weighServices_48 : decode prog_2_method_8_code 48 = .ok (.invokevirtual 72, 3) := by decide +kernel
theorem d_B_weighServices_51 : decode prog_2_method_8_code 51 = .ok (.iastore, 1) := by decide +kernel
theorem d_B_weighServices_52 : decode prog_2_method_8_code 52 = .ok (.iinc 3 1, 3) := by decide +kernel
theorem d_B_weighServices_55 : decode prog_2_method_8_code 55 = .ok (.goto (-53), 3) := by decide +kernel
theorem d_B_weighServices_58 : decode prog_2_method_8_code 58 = .ok (.return_, 1) := by decide +kernel
theorem d_B_keepBetter_0 : decode prog_2_method_12_code 0 = .ok (.aload_n 0, 1) := by decide +kernel
theorem d_B_keepBetter_1 : decode prog_2_method_12_code 1 = .ok (.getfield 26, 3) := by decide +kernel
theorem d_B_keepBetter_4 : decode prog_2_method_12_code 4 = .ok (.iload_n 1, 1) := by decide +kernel
theorem d_B_keepBetter_5 : decode prog_2_method_12_code 5 = .ok (.laload, 1) := by decide +kernel
theorem d_B_keepBetter_6 : decode prog_2_method_12_code 6 = .ok (.ldc2_w 39, 3) := by decide +kernel
theorem d_B_keepBetter_9 : decode prog_2_method_12_code 9 = .ok (.lcmp, 1) := by decide +kernel
theorem d_B_keepBetter_10 : decode prog_2_method_12_code 10 = .ok (.ifCond .eq 36, 3) := by decide +kernel
theorem d_B_keepBetter_13 : decode prog_2_method_12_code 13 = .ok (.lload_n 2, 1) := by decide +kernel
theorem d_B_keepBetter_14 : decode prog_2_method_12_code 14 = .ok (.aload_n 0, 1) := by decide +kernel
theorem d_B_keepBetter_15 : decode prog_2_method_12_code 15 = .ok (.getfield 26, 3) := by decide +kernel
theorem d_B_keepBetter_18 : decode prog_2_method_12_code 18 = .ok (.iload_n 1, 1) := by decide +kernel
theorem d_B_keepBetter_19 : decode prog_2_method_12_code 19 = .ok (.laload, 1) := by decide +kernel
theorem d_B_keepBetter_20 : decode prog_2_method_12_code 20 = .ok (.lcmp, 1) := by decide +kernel
theorem d_B_keepBetter_21 : decode prog_2_method_12_code 21 = .ok (.ifCond .lt 25, 3) := by decide +kernel
theorem d_B_keepBetter_24 : decode prog_2_method_12_code 24 = .ok (.lload_n 2, 1) := by decide +kernel
theorem d_B_keepBetter_25 : decode prog_2_method_12_code 25 = .ok (.aload_n 0, 1) := by decide +kernel
theorem d_B_keepBetter_26 : decode prog_2_method_12_code 26 = .ok (.getfield 26, 3) := by decide +kernel
theorem d_B_keepBetter_29 : decode prog_2_method_12_code 29 = .ok (.iload_n 1, 1) := by decide +kernel
theorem d_B_keepBetter_30 : decode prog_2_method_12_code 30 = .ok (.laload, 1) := by decide +kernel
theorem d_B_keepBetter_31 : decode prog_2_method_12_code 31 = .ok (.lcmp, 1) := by decide +kernel
theorem d_B_keepBetter_32 : decode prog_2_method_12_code 32 = .ok (.ifCond .ne 18, 3) := by decide +kernel
theorem d_B_keepBetter_35 : decode prog_2_method_12_code 35 = .ok (.iload 4, 2) := by decide +kernel
theorem d_B_keepBetter_37 : decode prog_2_method_12_code 37 = .ok (.aload_n 0, 1) := by decide +kernel
