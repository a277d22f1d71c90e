theorem d_L_of_19 : decode method_6_code 19 = .ok (.iconst 2, 1) := by decide +kernel
theorem d_L_of_20 : decode method_6_code 20 = .ok (.ireturn, 1) := by decide +kernel
theorem d_L_of_21 : decode method_6_code 21 = .ok (.iconst 0, 1) := by decide +kernel
theorem d_L_of_22 : decode method_6_code 22 = .ok (.ireturn, 1) := by decide +kernel
theorem d_L_kinship_0 : decode method_7_code 0 = .ok (.aload_n 3, 1) := by decide +kernel
theorem d_L_kinship_1 : decode method_7_code 1 = .ok (.iconst 0, 1) := by decide +kernel
theorem d_L_kinship_2 : decode method_7_code 2 = .ok (.aload_n 0, 1) := by decide +kernel
theorem d_L_kinship_3 : decode method_7_code 3 = .ok (.iload_n 1, 1) := by decide +kernel
theorem d_L_kinship_4 : decode method_7_code 4 = .ok (.iload_n 2, 1) := by decide +kernel
theorem d_L_kinship_5 : decode method_7_code 5 = .ok (.invokevirtual 35, 3) := by decide +kernel
theorem d_L_kinship_8 : decode method_7_code 8 = .ok (.lastore, 1) := by decide +kernel
theorem d_L_kinship_9 : decode method_7_code 9 = .ok (.goto 7, 3) := by decide +kernel
theorem d_L_kinship_12 : decode method_7_code 12 = .ok (.astore 4, 2) := by decide +kernel
theorem d_L_kinship_14 : decode method_7_code 14 = .ok (.iconst 1, 1) := by decide +kernel
theorem d_L_kinship_15 : decode method_7_code 15 = .ok (.ireturn, 1) := by decide +kernel
theorem d_L_kinship_16 : decode method_7_code 16 = .ok (.iconst 0, 1) := by decide +kernel
theorem d_L_kinship_17 : decode method_7_code 17 = .ok (.ireturn, 1) := by decide +kernel
theorem d_L_inbreeding_0 : decode method_8_code 0 = .ok (.aload_n 2, 1) := by decide +kernel
theorem d_L_inbreeding_1 : decode method_8_code 1 = .ok (.iconst 0, 1) := by decide +kernel
theorem d_L_inbreeding_2 : decode method_8_code 2 = .ok (.aload_n 0, 1) := by decide +kernel
theorem d_L_inbreeding_3 : decode method_8_code 3 = .ok (.iload_n 1, 1) := by decide +kernel
theorem d_L_inbreeding_4 : decode method_8_code 4 = .ok (.invokevirtual 39, 3) := by decide +kernel
theorem d_L_inbreeding_7 : decode method_8_code 7 = .ok (.lastore, 1) := by decide +kernel
theorem d_L_inbreeding_8 : decode method_8_code 8 = .ok (.goto 6, 3) := by decide +kernel
theorem d_L_inbreeding_11 : decode method_8_code 11 = .ok (.astore_n 3, 1) := by decide +kernel
theorem d_L_inbreeding_12 : decode method_8_code 12 = .ok (.iconst 1, 1) := by decide +kernel
theorem d_L_inbreeding_13 : decode method_8_code 13 = .ok (.ireturn, 1) := by decide +kernel
theorem d_L_inbreeding_14 : decode method_8_code 14 = .ok (.iconst 0, 1) := by decide +kernel
theorem d_L_inbreeding_15 : decode method_8_code 15 = .ok (.ireturn, 1) := by decide +kernel
theorem d_L_calf_0 : decode method_9_code 0 = .ok (.aload_n 3, 1) := by decide +kernel
theorem d_L_calf_1 : decode method_9_code 1 = .ok (.iconst 0, 1) := by decide +kernel
theorem d_L_calf_2 : decode method_9_code 2 = .ok (.aload_n 0, 1) := by decide +kernel
theorem d_L_calf_3 : decode method_9_code 3 = .ok (.iload_n 1, 1) := by decide +kernel
theorem d_L_calf_4 : decode method_9_code 4 = .ok (.iload_n 2, 1) := by decide +kernel
theorem d_L_calf_5 : decode method_9_code 5 = .ok (.invokevirtual 43, 3) := by decide +kernel
theorem d_L_calf_8 : decode method_9_code 8 = .ok (.lastore, 1) := by decide +kernel
theorem d_L_calf_9 : decode method_9_code 9 = .ok (.goto 7, 3) := by decide +kernel
theorem d_L_calf_12 : decode method_9_code 12 = .ok (.astore 4, 2) := by decide +kernel
theorem d_L_calf_14 : decode method_9_code 14 = .ok (.iconst 1, 1) := by decide +kernel
theorem d_L_calf_15 : decode method_9_code 15 = .ok (.ireturn, 1) := by decide +kernel
theorem d_L_calf_16 : decode method_9_code 16 = .ok (.iconst 0, 1) := by decide +kernel
theorem d_L_calf_17 : decode method_9_code 17 = .ok (.ireturn, 1) := by decide +kernel
theorem d_L_share_0 : decode method_10_code 0 = .ok (.aload_n 3, 1) := by decide +kernel
theorem d_L_share_1 : decode method_10_code 1 = .ok (.iconst 0, 1) := by decide +kernel
theorem d_L_share_2 : decode method_10_code 2 = .ok (.aload_n 0, 1) := by decide +kernel
theorem d_L_share_3 : decode method_10_code 3 = .ok (.iload_n 1, 1) := by decide +kernel
theorem d_L_share_4 : decode method_10_code 4 = .ok (.iload_n 2, 1) := by decide +kernel
theorem d_L_share_5 : decode method_10_code 5 = .ok (.invokevirtual 46, 3) := by decide +kernel
theorem d_L_share_8 : decode method_10_code 8 = .ok (.lastore, 1) := by decide +kernel
theorem d_L_share_9 : decode method_10_code 9 = .ok (.goto 11, 3) := by decide +kernel
theorem d_L_share_12 : decode method_10_code 12 = .ok (.astore 4, 2) := by decide +kernel
theorem d_L_share_14 : decode method_10_code 14 = .ok (.iconst 1, 1) := by decide +kernel
theorem d_L_share_15 : decode method_10_code 15 = .ok (.ireturn, 1) := by decide +kernel
theorem d_L_share_16 : decode method_10_code 16 = .ok (.astore 4, 2) := by decide +kernel
theorem d_L_share_18 : decode method_10_code 18 = .ok (.iconst 2, 1) := by decide +kernel
theorem d_L_share_19 : decode method_10_code 19 = .ok (.ireturn, 1) := by decide +kernel
theorem d_L_share_20 : decode method_10_code 20 = .ok (.iconst 0, 1) := by decide +kernel
theorem d_L_share_21 : decode method_10_code 21 = .ok (.ireturn, 1) := by decide +kernel
theorem d_L_unknown_0 : decode method_11_code 0 = .ok (.aload_n 2, 1) := by decide +kernel
theorem d_L_unknown_1 : decode method_11_code 1 = .ok (.iconst 0, 1) := by decide +kernel
theorem d_L_unknown_2 : decode method_11_code 2 = .ok (.aload_n 0, 1) := by decide +kernel
theorem d_L_unknown_3 : decode method_11_code 3 = .ok (.iload_n 1, 1) := by decide +kernel
theorem d_L_unknown_4 : decode method_11_code 4 = .ok (.invokevirtual 49, 3) := by decide +kernel
theorem d_L_unknown_7 : decode method_11_code 7 = .ok (.lastore, 1) := by decide +kernel
theorem d_L_unknown_8 : decode method_11_code 8 = .ok (.goto 6, 3) := by decide +kernel
theorem d_L_unknown_11 : decode method_11_code 11 = .ok (.astore_n 3, 1) := by decide +kernel
theorem d_L_unknown_12 : decode method_11_code 12 = .ok (.iconst 1, 1) := by decide +kernel
theorem d_L_unknown_13 : decode method_11_code 13 = .ok (.ireturn, 1) := by decide +kernel
theorem d_L_unknown_14 : decode method_11_code 14 = .ok (.iconst 0, 1) := by decide +kernel
theorem d_L_unknown_15 : decode method_11_code 15 = .ok (.ireturn, 1) := by decide +kernel
theorem d_L_inHerd_0 : decode method_12_code 0 = .ok (.aload_n 2, 1) := by decide +kernel
theorem d_L_inHerd_1 : decode method_12_code 1 = .ok (.iconst 0, 1) := by decide +kernel
theorem d_L_inHerd_2 : decode method_12_code 2 = .ok (.aload_n 0, 1) := by decide +kernel
theorem d_L_inHerd_3 : decode method_12_code 3 = .ok (.iload_n 1, 1) := by decide +kernel
theorem d_L_inHerd_4 : decode method_12_code 4 = .ok (.invokevirtual 52, 3) := by decide +kernel
theorem d_L_inHerd_7 : decode method_12_code 7 = .ok (.lastore, 1) := by decide +kernel
theorem d_L_inHerd_8 : decode method_12_code 8 = .ok (.goto 9, 3) := by decide +kernel
theorem d_L_inHerd_11 : decode method_12_code 11 = .ok (.astore_n 3, 1) := by decide +kernel
theorem d_L_inHerd_12 : decode method_12_code 12 = .ok (.iconst 1, 1) := by decide +kernel
theorem d_L_inHerd_13 : decode method_12_code 13 = .ok (.ireturn, 1) := by decide +kernel
theorem d_L_inHerd_14 : decode method_12_code 14 = .ok (.astore_n 3, 1) := by decide +kernel
theorem d_L_inHerd_15 : decode method_12_code 15 = .ok (.iconst 2, 1) := by decide +kernel
theorem d_L_inHerd_16 : decode method_12_code 16 = .ok (.ireturn, 1) := by decide +kernel
theorem d_L_inHerd_17 : decode method_12_code 17 = .ok (.iconst 0, 1) := by decide +kernel
theorem d_L_inHerd_18 : decode method_12_code 18 = .ok (.ireturn, 1) := by decide +kernel
theorem d_L_ancestors_0 : decode method_13_code 0 = .ok (.aload_n 2, 1) := by decide +kernel
theorem d_L_ancestors_1 : decode method_13_code 1 = .ok (.iconst 0, 1) := by decide +kernel
theorem d_L_ancestors_2 : decode method_13_code 2 = .ok (.aload_n 0, 1) := by decide +kernel
theorem d_L_ancestors_3 : decode method_13_code 3 = .ok (.iload_n 1, 1) := by decide +kernel
theorem d_L_ancestors_4 : decode method_13_code 4 = .ok (.invokevirtual 55, 3) := by decide +kernel
theorem d_L_ancestors_7 : decode method_13_code 7 = .ok (.i2l, 1) := by decide +kernel
theorem d_L_ancestors_8 : decode method_13_code 8 = .ok (.lastore, 1) := by decide +kernel
theorem d_L_ancestors_9 : decode method_13_code 9 = .ok (.goto 6, 3) := by decide +kernel
theorem d_L_ancestors_12 : decode method_13_code 12 = .ok (.astore_n 3, 1) := by decide +kernel
theorem d_L_ancestors_13 : decode method_13_code 13 = .ok (.iconst 1, 1) := by decide +kernel
theorem d_L_ancestors_14 : decode method_13_code 14 = .ok (.ireturn, 1) := by decide +kernel
theorem d_L_ancestors_15 : decode method_13_code 15 = .ok (.iconst 0, 1) := by decide +kernel
theorem d_L_ancestors_16 : decode method_13_code 16 = .ok (.ireturn, 1) := by decide +kernel
theorem d_L_descendants_0 : decode method_14_code 0 = .ok (.aload_n 2, 1) := by decide +kernel
theorem d_L_descendants_1 : decode method_14_code 1 = .ok (.iconst 0, 1) := by decide +kernel
theorem d_L_descendants_2 : decode method_14_code 2 = .ok (.aload_n 0, 1) := by decide +kernel
theorem d_L_descendants_3 : decode method_14_code 3 = .ok (.iload_n 1, 1) := by decide +kernel
theorem d_L_descendants_4 : decode method_14_code 4 = .ok (.invokevirtual 58, 3) := by decide +kernel
theorem d_L_descendants_7 : decode method_14_code 7 = .ok (.i2l, 1) := by decide +kernel
theorem d_L_descendants_8 : decode method_14_code 8 = .ok (.lastore, 1) := by decide +kernel
theorem d_L_descendants_9 : decode method_14_code 9 = .ok (.goto 6, 3) := by decide +kernel
theorem d_L_descendants_12 : decode method_14_code 12 = .ok (.astore_n 3, 1) := by decide +kernel
theorem d_L_descendants_13 : decode method_14_code 13 = .ok (.iconst 1, 1) := by decide +kernel
theorem d_L_descendants_14 : decode method_14_code 14 = .ok (.ireturn, 1) := by decide +kernel
theorem d_L_descendants_15 : decode method_14_code 15 = .ok (.iconst 0, 1) := by decide +kernel
theorem d_L_descendants_16 : decode method_14_code 16 = .ok (.ireturn, 1) := by decide +kernel
theorem d_L_lines_0 : decode method_15_code 0 = .ok (.aload_n 3, 1) := by decide +kernel
theorem d_L_lines_1 : decode method_15_code 1 = .ok (.iconst 0, 1) := by decide +kernel
theorem d_L_lines_2 : decode method_15_code 2 = .ok (.aload_n 0, 1) := by decide +kernel
theorem d_L_lines_3 : decode method_15_code 3 = .ok (.iload_n 1, 1) := by decide +kernel
theorem d_L_lines_4 : decode method_15_code 4 = .ok (.iload_n 2, 1) := by decide +kernel
theorem d_L_lines_5 : decode method_15_code 5 = .ok (.invokevirtual 61, 3) := by decide +kernel
theorem d_L_lines_8 : decode method_15_code 8 = .ok (.i2l, 1) := by decide +kernel
theorem d_L_lines_9 : decode method_15_code 9 = .ok (.lastore, 1) := by decide +kernel
theorem d_L_lines_10 : decode method_15_code 10 = .ok (.goto 7, 3) := by decide +kernel
theorem d_L_lines_13 : decode method_15_code 13 = .ok (.astore 4, 2) := by decide +kernel
theorem d_L_lines_15 : decode method_15_code 15 = .ok (.iconst 1, 1) := by decide +kernel
theorem d_L_lines_16 : decode method_15_code 16 = .ok (.ireturn, 1) := by decide +kernel
theorem d_L_lines_17 : decode method_15_code 17 = .ok (.iconst 0, 1) := by decide +kernel
theorem d_L_lines_18 : decode method_15_code 18 = .ok (.ireturn, 1) := by decide +kernel
theorem d_L_nearest_0 : decode method_16_code 0 = .ok (.aload_n 3, 1) := by decide +kernel
theorem d_L_nearest_1 : decode method_16_code 1 = .ok (.iconst 0, 1) := by decide +kernel
theorem d_L_nearest_2 : decode method_16_code 2 = .ok (.aload_n 0, 1) := by decide +kernel
theorem d_L_nearest_3 : decode method_16_code 3 = .ok (.iload_n 1, 1) := by decide +kernel
theorem d_L_nearest_4 : decode method_16_code 4 = .ok (.iload_n 2, 1) := by decide +kernel
theorem d_L_nearest_5 : decode method_16_code 5 = .ok (.invokevirtual 64, 3) := by decide +kernel
theorem d_L_nearest_8 : decode method_16_code 8 = .ok (.i2l, 1) := by decide +kernel
theorem d_L_nearest_9 : decode method_16_code 9 = .ok (.lastore, 1) := by decide +kernel
theorem d_L_nearest_10 : decode method_16_code 10 = .ok (.goto 7, 3) := by decide +kernel
theorem d_L_nearest_13 : decode method_16_code 13 = .ok (.astore 4, 2) := by decide +kernel
theorem d_L_nearest_15 : decode method_16_code 15 = .ok (.iconst 1, 1) := by decide +kernel
theorem d_L_nearest_16 : decode method_16_code 16 = .ok (.ireturn, 1) := by decide +kernel
theorem d_L_nearest_17 : decode method_16_code 17 = .ok (.iconst 0, 1) := by decide +kernel
theorem d_L_nearest_18 : decode method_16_code 18 = .ok (.ireturn, 1) := by decide +kernel
theorem d_L_closest_0 : decode method_17_code 0 = .ok (.aload_n 2, 1) := by decide +kernel
theorem d_L_closest_1 : decode method_17_code 1 = .ok (.iconst 0, 1) := by decide +kernel
theorem d_L_closest_2 : decode method_17_code 2 = .ok (.aload_n 0, 1) := by decide +kernel
theorem d_L_closest_3 : decode method_17_code 3 = .ok (.iload_n 1, 1) := by decide +kernel
theorem d_L_closest_4 : decode method_17_code 4 = .ok (.invokevirtual 67, 3) := by decide +kernel
theorem d_L_closest_7 : decode method_17_code 7 = .ok (.i2l, 1) := by decide +kernel
theorem d_L_closest_8 : decode method_17_code 8 = .ok (.lastore, 1) := by decide +kernel
theorem d_L_closest_9 : decode method_17_code 9 = .ok (.goto 6, 3) := by decide +kernel
theorem d_L_closest_12 : decode method_17_code 12 = .ok (.astore_n 3, 1) := by decide +kernel
theorem d_L_closest_13 : decode method_17_code 13 = .ok (.iconst 1, 1) := by decide +kernel
theorem d_L_closest_14 : decode method_17_code 14 = .ok (.ireturn, 1) := by decide +kernel
theorem d_L_closest_15 : decode method_17_code 15 = .ok (.iconst 0, 1) := by decide +kernel
theorem d_L_closest_16 : decode method_17_code 16 = .ok (.ireturn, 1) := by decide +kernel
theorem d_L_bestBull_0 : decode method_18_code 0 = .ok (.aload_n 2, 1) := by decide +kernel
theorem d_L_bestBull_1 : decode method_18_code 1 = .ok (.iconst 0, 1) := by decide +kernel
theorem d_L_bestBull_2 : decode method_18_code 2 = .ok (.aload_n 0, 1) := by decide +kernel
theorem d_L_bestBull_3 : decode method_18_code 3 = .ok (.iload_n 1, 1) := by decide +kernel
theorem d_L_bestBull_4 : decode method_18_code 4 = .ok (.invokevirtual 70, 3) := by decide +kernel
theorem d_L_bestBull_7 : decode method_18_code 7 = .ok (.i2l, 1) := by decide +kernel
theorem d_L_bestBull_8 : decode method_18_code 8 = .ok (.lastore, 1) := by decide +kernel
theorem d_L_bestBull_9 : decode method_18_code 9 = .ok (.goto 6, 3) := by decide +kernel
theorem d_L_bestBull_12 : decode method_18_code 12 = .ok (.astore_n 3, 1) := by decide +kernel
theorem d_L_bestBull_13 : decode method_18_code 13 = .ok (.iconst 1, 1) := by decide +kernel
theorem d_L_bestBull_14 : decode method_18_code 14 = .ok (.ireturn, 1) := by decide +kernel
theorem d_L_bestBull_15 : decode method_18_code 15 = .ok (.iconst 0, 1) := by decide +kernel
theorem d_L_bestBull_16 : decode method_18_code 16 = .ok (.ireturn, 1) := by decide +kernel
theorem d_L_plan_0 : decode method_19_code 0 = .ok (.aload 5, 2) := by decide +kernel
theorem d_L_plan_2 : decode method_19_code 2 = .ok (.iconst 0, 1) := by decide +kernel
theorem d_L_plan_3 : decode method_19_code 3 = .ok (.aload_n 0, 1) := by decide +kernel
theorem d_L_plan_4 : decode method_19_code 4 = .ok (.iload_n 1, 1) := by decide +kernel
theorem d_L_plan_5 : decode method_19_code 5 = .ok (.iload_n 2, 1) := by decide +kernel
theorem d_L_plan_6 : decode method_19_code 6 = .ok (.lload_n 3, 1) := by decide +kernel
theorem d_L_plan_7 : decode method_19_code 7 = .ok (.invokevirtual 73, 3) := by decide +kernel
theorem d_L_plan_10 : decode method_19_code 10 = .ok (.lastore, 1) := by decide +kernel
theorem d_L_plan_11 : decode method_19_code 11 = .ok (.goto 15, 3) := by decide +kernel
theorem d_L_plan_14 : decode method_19_code 14 = .ok (.astore 6, 2) := by decide +kernel
theorem d_L_plan_16 : decode method_19_code 16 = .ok (.iconst 1, 1) := by decide +kernel
theorem d_L_plan_17 : decode method_19_code 17 = .ok (.ireturn, 1) := by decide +kernel
theorem d_L_plan_18 : decode method_19_code 18 = .ok (.astore 6, 2) := by decide +kernel
theorem d_L_plan_20 : decode method_19_code 20 = .ok (.iconst 2, 1) := by decide +kernel
theorem d_L_plan_21 : decode method_19_code 21 = .ok (.ireturn, 1) := by decide +kernel
theorem d_L_plan_22 : decode method_19_code 22 = .ok (.astore 6, 2) := by decide +kernel
theorem d_L_plan_24 : decode method_19_code 24 = .ok (.iconst 3, 1) := by decide +kernel
theorem d_L_plan_25 : decode method_19_code 25 = .ok (.ireturn, 1) := by decide +kernel
theorem d_L_plan_26 : decode method_19_code 26 = .ok (.iconst 0, 1) := by decide +kernel
theorem d_L_plan_27 : decode method_19_code 27 = .ok (.ireturn, 1) := by decide +kernel
theorem d_L_bull_0 : decode method_20_code 0 = .ok (.aload_n 2, 1) := by decide +kernel
theorem d_L_bull_1 : decode method_20_code 1 = .ok (.iconst 0, 1) := by decide +kernel
theorem d_L_bull_2 : decode method_20_code 2 = .ok (.aload_n 0, 1) := by decide +kernel
theorem d_L_bull_3 : decode method_20_code 3 = .ok (.iload_n 1, 1) := by decide +kernel
theorem d_L_bull_4 : decode method_20_code 4 = .ok (.invokevirtual 77, 3) := by decide +kernel
theorem d_L_bull_7 : decode method_20_code 7 = .ok (.i2l, 1) := by decide +kernel
theorem d_L_bull_8 : decode method_20_code 8 = .ok (.lastore, 1) := by decide +kernel
theorem d_L_bull_9 : decode method_20_code 9 = .ok (.goto 6, 3) := by decide +kernel
theorem d_L_bull_12 : decode method_20_code 12 = .ok (.astore_n 3, 1) := by decide +kernel
theorem d_L_bull_13 : decode method_20_code 13 = .ok (.iconst 1, 1) := by decide +kernel
theorem d_L_bull_14 : decode method_20_code 14 = .ok (.ireturn, 1) := by decide +kernel
theorem d_L_bull_15 : decode method_20_code 15 = .ok (.iconst 0, 1) := by decide +kernel
theorem d_L_bull_16 : decode method_20_code 16 = .ok (.ireturn, 1) := by decide +kernel
