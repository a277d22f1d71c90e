theorem d_H_cull_10 : decode prog_1_method_4_code 10 = .ok (.baload, 1) := by decide +kernel
theorem d_H_cull_11 : decode prog_1_method_4_code 11 = .ok (.ifCond .ne 13, 3) := by decide +kernel
theorem d_H_cull_14 : decode prog_1_method_4_code 14 = .ok (.new 66, 3) := by decide +kernel
theorem d_H_cull_17 : decode prog_1_method_4_code 17 = .ok (.dup, 1) := by decide +kernel
theorem d_H_cull_18 : decode prog_1_method_4_code 18 = .ok (.ldc 87, 2) := by decide +kernel
theorem d_H_cull_20 : decode prog_1_method_4_code 20 = .ok (.invokespecial 70, 3) := by decide +kernel
theorem d_H_cull_23 : decode prog_1_method_4_code 23 = .ok (.athrow, 1) := by decide +kernel
theorem d_H_cull_24 : decode prog_1_method_4_code 24 = .ok (.aload_n 0, 1) := by decide +kernel
theorem d_H_cull_25 : decode prog_1_method_4_code 25 = .ok (.getfield 30, 3) := by decide +kernel
theorem d_H_cull_28 : decode prog_1_method_4_code 28 = .ok (.iload_n 1, 1) := by decide +kernel
theorem d_H_cull_29 : decode prog_1_method_4_code 29 = .ok (.iconst 0, 1) := by decide +kernel
theorem d_H_cull_30 : decode prog_1_method_4_code 30 = .ok (.bastore, 1) := by decide +kernel
theorem d_H_cull_31 : decode prog_1_method_4_code 31 = .ok (.aload_n 0, 1) := by decide +kernel
theorem d_H_cull_32 : decode prog_1_method_4_code 32 = .ok (.invokevirtual 89, 3) := by decide +kernel
theorem d_H_cull_35 : decode prog_1_method_4_code 35 = .ok (.ireturn, 1) := by decide +kernel
theorem d_P_sireOf_0 : decode prog_3_method_5_code 0 = .ok (.aload_n 0, 1) := by decide +kernel
theorem d_P_sireOf_1 : decode prog_3_method_5_code 1 = .ok (.getfield 15, 3) := by decide +kernel
theorem d_P_sireOf_4 : decode prog_3_method_5_code 4 = .ok (.iload_n 1, 1) := by decide +kernel
theorem d_P_sireOf_5 : decode prog_3_method_5_code 5 = .ok (.iaload, 1) := by decide +kernel
theorem d_P_sireOf_6 : decode prog_3_method_5_code 6 = .ok (.ireturn, 1) := by decide +kernel
theorem d_P_damOf_0 : decode prog_3_method_6_code 0 = .ok (.aload_n 0, 1) := by decide +kernel
theorem d_P_damOf_1 : decode prog_3_method_6_code 1 = .ok (.getfield 19, 3) := by decide +kernel
theorem d_P_damOf_4 : decode prog_3_method_6_code 4 = .ok (.iload_n 1, 1) := by decide +kernel
theorem d_P_damOf_5 : decode prog_3_method_6_code 5 = .ok (.iaload, 1) := by decide +kernel
theorem d_P_damOf_6 : decode prog_3_method_6_code 6 = .ok (.ireturn, 1) := by decide +kernel
theorem d_P_depthOf_0 : decode prog_3_method_7_code 0 = .ok (.aload_n 0, 1) := by decide +kernel
theorem d_P_depthOf_1 : decode prog_3_method_7_code 1 = .ok (.getfield 22, 3) := by decide +kernel
theorem d_P_depthOf_4 : decode prog_3_method_7_code 4 = .ok (.iload_n 1, 1) := by decide +kernel
theorem d_P_depthOf_5 : decode prog_3_method_7_code 5 = .ok (.iaload, 1) := by decide +kernel
theorem d_P_depthOf_6 : decode prog_3_method_7_code 6 = .ok (.ireturn, 1) := by decide +kernel
theorem d_H_of_0 : decode prog_1_method_5_code 0 = .ok (.aload_n 0, 1) := by decide +kernel
theorem d_H_of_1 : decode prog_1_method_5_code 1 = .ok (.iload_n 1, 1) := by decide +kernel
theorem d_H_of_2 : decode prog_1_method_5_code 2 = .ok (.invokevirtual 75, 3) := by decide +kernel
theorem d_H_of_5 : decode prog_1_method_5_code 5 = .ok (.iload_n 2, 1) := by decide +kernel
theorem d_H_of_6 : decode prog_1_method_5_code 6 = .ok (.tableswitch 94 0 5 #[38, 47, 56, 63, 70, 85], 38) := by decide +kernel
theorem d_H_of_44 : decode prog_1_method_5_code 44 = .ok (.aload_n 0, 1) := by decide +kernel
theorem d_H_of_45 : decode prog_1_method_5_code 45 = .ok (.getfield 10, 3) := by decide +kernel
theorem d_H_of_48 : decode prog_1_method_5_code 48 = .ok (.iload_n 1, 1) := by decide +kernel
theorem d_H_of_49 : decode prog_1_method_5_code 49 = .ok (.invokevirtual 92, 3) := by decide +kernel
theorem d_H_of_52 : decode prog_1_method_5_code 52 = .ok (.ireturn, 1) := by decide +kernel
theorem d_H_of_53 : decode prog_1_method_5_code 53 = .ok (.aload_n 0, 1) := by decide +kernel
theorem d_H_of_54 : decode prog_1_method_5_code 54 = .ok (.getfield 10, 3) := by decide +kernel
theorem d_H_of_57 : decode prog_1_method_5_code 57 = .ok (.iload_n 1, 1) := by decide +kernel
theorem d_H_of_58 : decode prog_1_method_5_code 58 = .ok (.invokevirtual 96, 3) := by decide +kernel
theorem d_H_of_61 : decode prog_1_method_5_code 61 = .ok (.ireturn, 1) := by decide +kernel
theorem d_H_of_62 : decode prog_1_method_5_code 62 = .ok (.aload_n 0, 1) := by decide +kernel
theorem d_H_of_63 : decode prog_1_method_5_code 63 = .ok (.getfield 23, 3) := by decide +kernel
theorem d_H_of_66 : decode prog_1_method_5_code 66 = .ok (.iload_n 1, 1) := by decide +kernel
theorem d_H_of_67 : decode prog_1_method_5_code 67 = .ok (.iaload, 1) := by decide +kernel
theorem d_H_of_68 : decode prog_1_method_5_code 68 = .ok (.ireturn, 1) := by decide +kernel
theorem d_H_of_69 : decode prog_1_method_5_code 69 = .ok (.aload_n 0, 1) := by decide +kernel
theorem d_H_of_70 : decode prog_1_method_5_code 70 = .ok (.getfield 27, 3) := by decide +kernel
theorem d_H_of_73 : decode prog_1_method_5_code 73 = .ok (.iload_n 1, 1) := by decide +kernel
theorem d_H_of_74 : decode prog_1_method_5_code 74 = .ok (.iaload, 1) := by decide +kernel
theorem d_H_of_75 : decode prog_1_method_5_code 75 = .ok (.ireturn, 1) := by decide +kernel
theorem d_H_of_76 : decode prog_1_method_5_code 76 = .ok (.aload_n 0, 1) := by decide +kernel
theorem d_H_of_77 : decode prog_1_method_5_code 77 = .ok (.getfield 30, 3) := by decide +kernel
theorem d_H_of_80 : decode prog_1_method_5_code 80 = .ok (.iload_n 1, 1) := by decide +kernel
theorem d_H_of_81 : decode prog_1_method_5_code 81 = .ok (.baload, 1) := by decide +kernel
theorem d_H_of_82 : decode prog_1_method_5_code 82 = .ok (.ifCond .eq 7, 3) := by decide +kernel
theorem d_H_of_85 : decode prog_1_method_5_code 85 = .ok (.iconst 1, 1) := by decide +kernel
theorem d_H_of_86 : decode prog_1_method_5_code 86 = .ok (.goto 4, 3) := by decide +kernel
theorem d_H_of_89 : decode prog_1_method_5_code 89 = .ok (.iconst 0, 1) := by decide +kernel
theorem d_H_of_90 : decode prog_1_method_5_code 90 = .ok (.ireturn, 1) := by decide +kernel
theorem d_H_of_91 : decode prog_1_method_5_code 91 = .ok (.aload_n 0, 1) := by decide +kernel
theorem d_H_of_92 : decode prog_1_method_5_code 92 = .ok (.getfield 10, 3) := by decide +kernel
theorem d_H_of_95 : decode prog_1_method_5_code 95 = .ok (.iload_n 1, 1) := by decide +kernel
theorem d_H_of_96 : decode prog_1_method_5_code 96 = .ok (.invokevirtual 99, 3) := by decide +kernel
theorem d_H_of_99 : decode prog_1_method_5_code 99 = .ok (.ireturn, 1) := by decide +kernel
theorem d_H_of_100 : decode prog_1_method_5_code 100 = .ok (.new 102, 3) := by decide +kernel
theorem d_H_of_103 : decode prog_1_method_5_code 103 = .ok (.dup, 1) := by decide +kernel
theorem d_H_of_104 : decode prog_1_method_5_code 104 = .ok (.ldc 104, 2) := by decide +kernel
theorem d_H_of_106 : decode prog_1_method_5_code 106 = .ok (.invokespecial 106, 3) := by decide +kernel
theorem d_H_of_109 : decode prog_1_method_5_code 109 = .ok (.athrow, 1) := by decide +kernel
theorem d_H_animals_0 : decode prog_1_method_6_code 0 = .ok (.aload_n 0, 1) := by decide +kernel
theorem d_H_animals_1 : decode prog_1_method_6_code 1 = .ok (.getfield 10, 3) := by decide +kernel
theorem d_H_animals_4 : decode prog_1_method_6_code 4 = .ok (.invokevirtual 62, 3) := by decide +kernel
theorem d_H_animals_7 : decode prog_1_method_6_code 7 = .ok (.ireturn, 1) := by decide +kernel
theorem d_H_kinship_0 : decode prog_1_method_7_code 0 = .ok (.aload_n 0, 1) := by decide +kernel
theorem d_H_kinship_1 : decode prog_1_method_7_code 1 = .ok (.iload_n 1, 1) := by decide +kernel
theorem d_H_kinship_2 : decode prog_1_method_7_code 2 = .ok (.invokevirtual 75, 3) := by decide +kernel
theorem d_H_kinship_5 : decode prog_1_method_7_code 5 = .ok (.aload_n 0, 1) := by decide +kernel
theorem d_H_kinship_6 : decode prog_1_method_7_code 6 = .ok (.iload_n 2, 1) := by decide +kernel
theorem d_H_kinship_7 : decode prog_1_method_7_code 7 = .ok (.invokevirtual 75, 3) := by decide +kernel
theorem d_H_kinship_10 : decode prog_1_method_7_code 10 = .ok (.aload_n 0, 1) := by decide +kernel
theorem d_H_kinship_11 : decode prog_1_method_7_code 11 = .ok (.getfield 10, 3) := by decide +kernel
theorem d_H_kinship_14 : decode prog_1_method_7_code 14 = .ok (.iload_n 1, 1) := by decide +kernel
theorem d_H_kinship_15 : decode prog_1_method_7_code 15 = .ok (.iload_n 2, 1) := by decide +kernel
theorem d_H_kinship_16 : decode prog_1_method_7_code 16 = .ok (.invokevirtual 107, 3) := by decide +kernel
theorem d_H_kinship_19 : decode prog_1_method_7_code 19 = .ok (.lreturn, 1) := by decide +kernel
theorem d_P_inbreedingOf_0 : decode prog_3_method_10_code 0 = .ok (.aload_n 0, 1) := by decide +kernel
theorem d_P_inbreedingOf_1 : decode prog_3_method_10_code 1 = .ok (.getfield 33, 3) := by decide +kernel
theorem d_P_inbreedingOf_4 : decode prog_3_method_10_code 4 = .ok (.iload_n 1, 1) := by decide +kernel
theorem d_P_inbreedingOf_5 : decode prog_3_method_10_code 5 = .ok (.laload, 1) := by decide +kernel
theorem d_P_inbreedingOf_6 : decode prog_3_method_10_code 6 = .ok (.lreturn, 1) := by decide +kernel
theorem d_H_inbreeding_0 : decode prog_1_method_8_code 0 = .ok (.aload_n 0, 1) := by decide +kernel
theorem d_H_inbreeding_1 : decode prog_1_method_8_code 1 = .ok (.iload_n 1, 1) := by decide +kernel
theorem d_H_inbreeding_2 : decode prog_1_method_8_code 2 = .ok (.invokevirtual 75, 3) := by decide +kernel
theorem d_H_inbreeding_5 : decode prog_1_method_8_code 5 = .ok (.aload_n 0, 1) := by decide +kernel
theorem d_H_inbreeding_6 : decode prog_1_method_8_code 6 = .ok (.getfield 10, 3) := by decide +kernel
theorem d_H_inbreeding_9 : decode prog_1_method_8_code 9 = .ok (.iload_n 1, 1) := by decide +kernel
theorem d_H_inbreeding_10 : decode prog_1_method_8_code 10 = .ok (.invokevirtual 111, 3) := by decide +kernel
theorem d_H_inbreeding_13 : decode prog_1_method_8_code 13 = .ok (.lreturn, 1) := by decide +kernel
theorem d_H_calf_0 : decode prog_1_method_9_code 0 = .ok (.aload_n 0, 1) := by decide +kernel
theorem d_H_calf_1 : decode prog_1_method_9_code 1 = .ok (.iload_n 1, 1) := by decide +kernel
theorem d_H_calf_2 : decode prog_1_method_9_code 2 = .ok (.invokevirtual 75, 3) := by decide +kernel
theorem d_H_calf_5 : decode prog_1_method_9_code 5 = .ok (.aload_n 0, 1) := by decide +kernel
theorem d_H_calf_6 : decode prog_1_method_9_code 6 = .ok (.iload_n 2, 1) := by decide +kernel
theorem d_H_calf_7 : decode prog_1_method_9_code 7 = .ok (.invokevirtual 75, 3) := by decide +kernel
theorem d_H_calf_10 : decode prog_1_method_9_code 10 = .ok (.aload_n 0, 1) := by decide +kernel
theorem d_H_calf_11 : decode prog_1_method_9_code 11 = .ok (.getfield 10, 3) := by decide +kernel
theorem d_H_calf_14 : decode prog_1_method_9_code 14 = .ok (.iload_n 1, 1) := by decide +kernel
theorem d_H_calf_15 : decode prog_1_method_9_code 15 = .ok (.iload_n 2, 1) := by decide +kernel
theorem d_H_calf_16 : decode prog_1_method_9_code 16 = .ok (.invokevirtual 107, 3) := by decide +kernel
theorem d_H_calf_19 : decode prog_1_method_9_code 19 = .ok (.lreturn, 1) := by decide +kernel
theorem d_H_requireFounder_0 : decode prog_1_method_29_code 0 = .ok (.aload_n 0, 1) := by decide +kernel
theorem d_H_requireFounder_1 : decode prog_1_method_29_code 1 = .ok (.getfield 10, 3) := by decide +kernel
theorem d_H_requireFounder_4 : decode prog_1_method_29_code 4 = .ok (.iload_n 1, 1) := by decide +kernel
theorem d_H_requireFounder_5 : decode prog_1_method_29_code 5 = .ok (.invokevirtual 187, 3) := by decide +kernel
theorem d_H_requireFounder_8 : decode prog_1_method_29_code 8 = .ok (.ifCond .ne 13, 3) := by decide +kernel
theorem d_H_requireFounder_11 : decode prog_1_method_29_code 11 = .ok (.new 78, 3) := by decide +kernel
theorem d_H_requireFounder_14 : decode prog_1_method_29_code 14 = .ok (.dup, 1) := by decide +kernel
theorem d_H_requireFounder_15 : decode prog_1_method_29_code 15 = .ok (.ldc 190, 2) := by decide +kernel
theorem d_H_requireFounder_17 : decode prog_1_method_29_code 17 = .ok (.invokespecial 82, 3) := by decide +kernel
theorem d_H_requireFounder_20 : decode prog_1_method_29_code 20 = .ok (.athrow, 1) := by decide +kernel
theorem d_H_requireFounder_21 : decode prog_1_method_29_code 21 = .ok (.return_, 1) := by decide +kernel
theorem d_P_shareUpTo_0 : decode prog_3_method_20_code 0 = .ok (.iload_n 2, 1) := by decide +kernel
theorem d_P_shareUpTo_1 : decode prog_3_method_20_code 1 = .ok (.iload_n 1, 1) := by decide +kernel
theorem d_P_shareUpTo_2 : decode prog_3_method_20_code 2 = .ok (.if_icmp .ge 7, 3) := by decide +kernel
theorem d_P_shareUpTo_5 : decode prog_3_method_20_code 5 = .ok (.lconst 0, 1) := by decide +kernel
theorem d_P_shareUpTo_6 : decode prog_3_method_20_code 6 = .ok (.goto 9, 3) := by decide +kernel
theorem d_P_shareUpTo_9 : decode prog_3_method_20_code 9 = .ok (.aload_n 0, 1) := by decide +kernel
theorem d_P_shareUpTo_10 : decode prog_3_method_20_code 10 = .ok (.getfield 37, 3) := by decide +kernel
theorem d_P_shareUpTo_13 : decode prog_3_method_20_code 13 = .ok (.iload_n 2, 1) := by decide +kernel
theorem d_P_shareUpTo_14 : decode prog_3_method_20_code 14 = .ok (.laload, 1) := by decide +kernel
theorem d_P_shareUpTo_15 : decode prog_3_method_20_code 15 = .ok (.lreturn, 1) := by decide +kernel
theorem d_P_shareOf_0 : decode prog_3_method_11_code 0 = .ok (.iload_n 1, 1) := by decide +kernel
theorem d_P_shareOf_1 : decode prog_3_method_11_code 1 = .ok (.istore_n 3, 1) := by decide +kernel
theorem d_P_shareOf_2 : decode prog_3_method_11_code 2 = .ok (.iload_n 3, 1) := by decide +kernel
theorem d_P_shareOf_3 : decode prog_3_method_11_code 3 = .ok (.iload_n 2, 1) := by decide +kernel
theorem d_P_shareOf_4 : decode prog_3_method_11_code 4 = .ok (.if_icmp .gt 53, 3) := by decide +kernel
theorem d_P_shareOf_7 : decode prog_3_method_11_code 7 = .ok (.aload_n 0, 1) := by decide +kernel
theorem d_P_shareOf_8 : decode prog_3_method_11_code 8 = .ok (.getfield 37, 3) := by decide +kernel
theorem d_P_shareOf_11 : decode prog_3_method_11_code 11 = .ok (.iload_n 3, 1) := by decide +kernel
theorem d_P_shareOf_12 : decode prog_3_method_11_code 12 = .ok (.iload_n 3, 1) := by decide +kernel
theorem d_P_shareOf_13 : decode prog_3_method_11_code 13 = .ok (.iload_n 1, 1) := by decide +kernel
theorem d_P_shareOf_14 : decode prog_3_method_11_code 14 = .ok (.if_icmp .ne 9, 3) := by decide +kernel
theorem d_P_shareOf_17 : decode prog_3_method_11_code 17 = .ok (.ldc2_w 47, 3) := by decide +kernel
theorem d_P_shareOf_20 : decode prog_3_method_11_code 20 = .ok (.goto 30, 3) := by decide +kernel
theorem d_P_shareOf_23 : decode prog_3_method_11_code 23 = .ok (.aload_n 0, 1) := by decide +kernel
theorem d_P_shareOf_24 : decode prog_3_method_11_code 24 = .ok (.iload_n 1, 1) := by decide +kernel
theorem d_P_shareOf_25 : decode prog_3_method_11_code 25 = .ok (.aload_n 0, 1) := by decide +kernel
theorem d_P_shareOf_26 : decode prog_3_method_11_code 26 = .ok (.getfield 15, 3) := by decide +kernel
theorem d_P_shareOf_29 : decode prog_3_method_11_code 29 = .ok (.iload_n 3, 1) := by decide +kernel
theorem d_P_shareOf_30 : decode prog_3_method_11_code 30 = .ok (.iaload, 1) := by decide +kernel
theorem d_P_shareOf_31 : decode prog_3_method_11_code 31 = .ok (.invokevirtual 49, 3) := by decide +kernel
theorem d_P_shareOf_34 : decode prog_3_method_11_code 34 = .ok (.aload_n 0, 1) := by decide +kernel
theorem d_P_shareOf_35 : decode prog_3_method_11_code 35 = .ok (.iload_n 1, 1) := by decide +kernel
theorem d_P_shareOf_36 : decode prog_3_method_11_code 36 = .ok (.aload_n 0, 1) := by decide +kernel
theorem d_P_shareOf_37 : decode prog_3_method_11_code 37 = .ok (.getfield 19, 3) := by decide +kernel
theorem d_P_shareOf_40 : decode prog_3_method_11_code 40 = .ok (.iload_n 3, 1) := by decide +kernel
theorem d_P_shareOf_41 : decode prog_3_method_11_code 41 = .ok (.iaload, 1) := by decide +kernel
theorem d_P_shareOf_42 : decode prog_3_method_11_code 42 = .ok (.invokevirtual 49, 3) := by decide +kernel
theorem d_P_shareOf_45 : decode prog_3_method_11_code 45 = .ok (.ladd, 1) := by decide +kernel
theorem d_P_shareOf_46 : decode prog_3_method_11_code 46 = .ok (.ldc2_w 53, 3) := by decide +kernel
theorem d_P_shareOf_49 : decode prog_3_method_11_code 49 = .ok (.ldiv, 1) := by decide +kernel
theorem d_P_shareOf_50 : decode prog_3_method_11_code 50 = .ok (.lastore, 1) := by decide +kernel
theorem d_P_shareOf_51 : decode prog_3_method_11_code 51 = .ok (.iinc 3 1, 3) := by decide +kernel
theorem d_P_shareOf_54 : decode prog_3_method_11_code 54 = .ok (.goto (-52), 3) := by decide +kernel
theorem d_P_shareOf_57 : decode prog_3_method_11_code 57 = .ok (.aload_n 0, 1) := by decide +kernel
theorem d_P_shareOf_58 : decode prog_3_method_11_code 58 = .ok (.iload_n 1, 1) := by decide +kernel
theorem d_P_shareOf_59 : decode prog_3_method_11_code 59 = .ok (.iload_n 2, 1) := by decide +kernel
theorem d_P_shareOf_60 : decode prog_3_method_11_code 60 = .ok (.invokevirtual 49, 3) := by decide +kernel
theorem d_P_shareOf_63 : decode prog_3_method_11_code 63 = .ok (.lreturn, 1) := by decide +kernel
theorem d_H_share_0 : decode prog_1_method_10_code 0 = .ok (.aload_n 0, 1) := by decide +kernel
theorem d_H_share_1 : decode prog_1_method_10_code 1 = .ok (.iload_n 1, 1) := by decide +kernel
theorem d_H_share_2 : decode prog_1_method_10_code 2 = .ok (.invokevirtual 75, 3) := by decide +kernel
theorem d_H_share_5 : decode prog_1_method_10_code 5 = .ok (.aload_n 0, 1) := by decide +kernel
theorem d_H_share_6 : decode prog_1_method_10_code 6 = .ok (.iload_n 2, 1) := by decide +kernel
theorem d_H_share_7 : decode prog_1_method_10_code 7 = .ok (.invokevirtual 75, 3) := by decide +kernel
theorem d_H_share_10 : decode prog_1_method_10_code 10 = .ok (.aload_n 0, 1) := by decide +kernel
theorem d_H_share_11 : decode prog_1_method_10_code 11 = .ok (.iload_n 1, 1) := by decide +kernel
theorem d_H_share_12 : decode prog_1_method_10_code 12 = .ok (.invokevirtual 115, 3) := by decide +kernel
theorem d_H_share_15 : decode prog_1_method_10_code 15 = .ok (.aload_n 0, 1) := by decide +kernel
theorem d_H_share_16 : decode prog_1_method_10_code 16 = .ok (.getfield 10, 3) := by decide +kernel
theorem d_H_share_19 : decode prog_1_method_10_code 19 = .ok (.iload_n 1, 1) := by decide +kernel
theorem d_H_share_20 : decode prog_1_method_10_code 20 = .ok (.iload_n 2, 1) := by decide +kernel
theorem d_H_share_21 : decode prog_1_method_10_code 21 = .ok (.invokevirtual 118, 3) := by decide +kernel
theorem d_H_share_24 : decode prog_1_method_10_code 24 = .ok (.lreturn, 1) := by decide +kernel
theorem d_P_unknownIn_0 : decode prog_3_method_12_code 0 = .ok (.ldc2_w 47, 3) := by decide +kernel
theorem d_P_unknownIn_3 : decode prog_3_method_12_code 3 = .ok (.lstore_n 2, 1) := by decide +kernel
theorem d_P_unknownIn_4 : decode prog_3_method_12_code 4 = .ok (.iconst 0, 1) := by decide +kernel
theorem d_P_unknownIn_5 : decode prog_3_method_12_code 5 = .ok (.istore 4, 2) := by decide +kernel
theorem d_P_unknownIn_7 : decode prog_3_method_12_code 7 = .ok (.iload 4, 2) := by decide +kernel
theorem d_P_unknownIn_9 : decode prog_3_method_12_code 9 = .ok (.iload_n 1, 1) := by decide +kernel
theorem d_P_unknownIn_10 : decode prog_3_method_12_code 10 = .ok (.if_icmp .gt 28, 3) := by decide +kernel
theorem d_P_unknownIn_13 : decode prog_3_method_12_code 13 = .ok (.aload_n 0, 1) := by decide +kernel
theorem d_P_unknownIn_14 : decode prog_3_method_12_code 14 = .ok (.iload 4, 2) := by decide +kernel
theorem d_P_unknownIn_16 : decode prog_3_method_12_code 16 = .ok (.invokevirtual 55, 3) := by decide +kernel
theorem d_P_unknownIn_19 : decode prog_3_method_12_code 19 = .ok (.ifCond .eq 13, 3) := by decide +kernel
theorem d_P_unknownIn_22 : decode prog_3_method_12_code 22 = .ok (.lload_n 2, 1) := by decide +kernel
theorem d_P_unknownIn_23 : decode prog_3_method_12_code 23 = .ok (.aload_n 0, 1) := by decide +kernel
theorem d_P_unknownIn_24 : decode prog_3_method_12_code 24 = .ok (.iload 4, 2) := by decide +kernel
theorem d_P_unknownIn_26 : decode prog_3_method_12_code 26 = .ok (.iload_n 1, 1) := by decide +kernel
theorem d_P_unknownIn_27 : decode prog_3_method_12_code 27 = .ok (.invokevirtual 59, 3) := by decide +kernel
theorem d_P_unknownIn_30 : decode prog_3_method_12_code 30 = .ok (.lsub, 1) := by decide +kernel
theorem d_P_unknownIn_31 : decode prog_3_method_12_code 31 = .ok (.lstore_n 2, 1) := by decide +kernel
theorem d_P_unknownIn_32 : decode prog_3_method_12_code 32 = .ok (.iinc 4 1, 3) := by decide +kernel
theorem d_P_unknownIn_35 : decode prog_3_method_12_code 35 = .ok (.goto (-28), 3) := by decide +kernel
theorem d_P_unknownIn_38 : decode prog_3_method_12_code 38 = .ok (.lload_n 2, 1) := by decide +kernel
theorem d_P_unknownIn_39 : decode prog_3_method_12_code 39 = .ok (.lreturn, 1) := by decide +kernel
theorem d_H_unknown_0 : decode prog_1_method_11_code 0 = .ok (.aload_n 0, 1) := by decide +kernel
theorem d_H_unknown_1 : decode prog_1_method_11_code 1 = .ok (.iload_n 1, 1) := by decide +kernel
theorem d_H_unknown_2 : decode prog_1_method_11_code 2 = .ok (.invokevirtual 75, 3) := by decide +kernel
theorem d_H_unknown_5 : decode prog_1_method_11_code 5 = .ok (.aload_n 0, 1) := by decide +kernel
theorem d_H_unknown_6 : decode prog_1_method_11_code 6 = .ok (.getfield 10, 3) := by decide +kernel
theorem d_H_unknown_9 : decode prog_1_method_11_code 9 = .ok (.iload_n 1, 1) := by decide +kernel
theorem d_H_unknown_10 : decode prog_1_method_11_code 10 = .ok (.invokevirtual 121, 3) := by decide +kernel
theorem d_H_unknown_13 : decode prog_1_method_11_code 13 = .ok (.lreturn, 1) := by decide +kernel
theorem d_H_inHerd_0 : decode prog_1_method_12_code 0 = .ok (.aload_n 0, 1) := by decide +kernel
theorem d_H_inHerd_1 : decode prog_1_method_12_code 1 = .ok (.iload_n 1, 1) := by decide +kernel
theorem d_H_inHerd_2 : decode prog_1_method_12_code 2 = .ok (.invokevirtual 75, 3) := by decide +kernel
theorem d_H_inHerd_5 : decode prog_1_method_12_code 5 = .ok (.aload_n 0, 1) := by decide +kernel
theorem d_H_inHerd_6 : decode prog_1_method_12_code 6 = .ok (.iload_n 1, 1) := by decide +kernel
theorem d_H_inHerd_7 : decode prog_1_method_12_code 7 = .ok (.invokevirtual 115, 3) := by decide +kernel
theorem d_H_inHerd_10 : decode prog_1_method_12_code 10 = .ok (.lconst 0, 1) := by decide +kernel
theorem d_H_inHerd_11 : decode prog_1_method_12_code 11 = .ok (.lstore_n 2, 1) := by decide +kernel
theorem d_H_inHerd_12 : decode prog_1_method_12_code 12 = .ok (.iconst 0, 1) := by decide +kernel
theorem d_H_inHerd_13 : decode prog_1_method_12_code 13 = .ok (.istore 4, 2) := by decide +kernel
theorem d_H_inHerd_15 : decode prog_1_method_12_code 15 = .ok (.iload 4, 2) := by decide +kernel
theorem d_H_inHerd_17 : decode prog_1_method_12_code 17 = .ok (.aload_n 0, 1) := by decide +kernel
theorem d_H_inHerd_18 : decode prog_1_method_12_code 18 = .ok (.getfield 10, 3) := by decide +kernel
theorem d_H_inHerd_21 : decode prog_1_method_12_code 21 = .ok (.invokevirtual 62, 3) := by decide +kernel
theorem d_H_inHerd_24 : decode prog_1_method_12_code 24 = .ok (.if_icmp .ge 32, 3) := by decide +kernel
theorem d_H_inHerd_27 : decode prog_1_method_12_code 27 = .ok (.aload_n 0, 1) := by decide +kernel
theorem d_H_inHerd_28 : decode prog_1_method_12_code 28 = .ok (.getfield 30, 3) := by decide +kernel
theorem d_H_inHerd_31 : decode prog_1_method_12_code 31 = .ok (.iload 4, 2) := by decide +kernel
theorem d_H_inHerd_33 : decode prog_1_method_12_code 33 = .ok (.baload, 1) := by decide +kernel
theorem d_H_inHerd_34 : decode prog_1_method_12_code 34 = .ok (.ifCond .eq 16, 3) := by decide +kernel
theorem d_H_inHerd_37 : decode prog_1_method_12_code 37 = .ok (.lload_n 2, 1) := by decide +kernel
theorem d_H_inHerd_38 : decode prog_1_method_12_code 38 = .ok (.aload_n 0, 1) := by decide +kernel
theorem d_H_inHerd_39 : decode prog_1_method_12_code 39 = .ok (.getfield 10, 3) := by decide +kernel
theorem d_H_inHerd_42 : decode prog_1_method_12_code 42 = .ok (.iload_n 1, 1) := by decide +kernel
theorem d_H_inHerd_43 : decode prog_1_method_12_code 43 = .ok (.iload 4, 2) := by decide +kernel
theorem d_H_inHerd_45 : decode prog_1_method_12_code 45 = .ok (.invokevirtual 118, 3) := by decide +kernel
theorem d_H_inHerd_48 : decode prog_1_method_12_code 48 = .ok (.ladd, 1) := by decide +kernel
theorem d_H_inHerd_49 : decode prog_1_method_12_code 49 = .ok (.lstore_n 2, 1) := by decide +kernel
theorem d_H_inHerd_50 : decode prog_1_method_12_code 50 = .ok (.iinc 4 1, 3) := by decide +kernel
theorem d_H_inHerd_53 : decode prog_1_method_12_code 53 = .ok (.goto (-38), 3) := by decide +kernel
theorem d_H_inHerd_56 : decode prog_1_method_12_code 56 = .ok (.lload_n 2, 1) := by decide +kernel
theorem d_H_inHerd_57 : decode prog_1_method_12_code 57 = .ok (.lreturn, 1) := by decide +kernel
theorem d_H_kinWithLivingUpTo_0 : decode prog_1_method_32_code 0 = .ok (.lconst 0, 1) := by decide +kernel
theorem d_H_kinWithLivingUpTo_1 : decode prog_1_method_32_code 1 = .ok (.lstore_n 2, 1) := by decide +kernel
theorem d_H_kinWithLivingUpTo_2 : decode prog_1_method_32_code 2 = .ok (.iconst 0, 1) := by decide +kernel
theorem d_H_kinWithLivingUpTo_3 : decode prog_1_method_32_code 3 = .ok (.istore 4, 2) := by decide +kernel
theorem d_H_kinWithLivingUpTo_5 : decode prog_1_method_32_code 5 = .ok (.iload 4, 2) := by decide +kernel
theorem d_H_kinWithLivingUpTo_7 : decode prog_1_method_32_code 7 = .ok (.iload_n 1, 1) := by decide +kernel
theorem d_H_kinWithLivingUpTo_8 : decode prog_1_method_32_code 8 = .ok (.if_icmp .gt 32, 3) := by decide +kernel
theorem d_H_kinWithLivingUpTo_11 : decode prog_1_method_32_code 11 = .ok (.aload_n 0, 1) := by decide +kernel
theorem d_H_kinWithLivingUpTo_12 : decode prog_1_method_32_code 12 = .ok (.getfield 30, 3) := by decide +kernel
theorem d_H_kinWithLivingUpTo_15 : decode prog_1_method_32_code 15 = .ok (.iload 4, 2) := by decide +kernel
theorem d_H_kinWithLivingUpTo_17 : decode prog_1_method_32_code 17 = .ok (.baload, 1) := by decide +kernel
theorem d_H_kinWithLivingUpTo_18 : decode prog_1_method_32_code 18 = .ok (.ifCond .eq 16, 3) := by decide +kernel
theorem d_H_kinWithLivingUpTo_21 : decode prog_1_method_32_code 21 = .ok (.lload_n 2, 1) := by decide +kernel
theorem d_H_kinWithLivingUpTo_22 : decode prog_1_method_32_code 22 = .ok (.aload_n 0, 1) := by decide +kernel
theorem d_H_kinWithLivingUpTo_23 : decode prog_1_method_32_code 23 = .ok (.getfield 10, 3) := by decide +kernel
theorem d_H_kinWithLivingUpTo_26 : decode prog_1_method_32_code 26 = .ok (.iload 4, 2) := by decide +kernel
theorem d_H_kinWithLivingUpTo_28 : decode prog_1_method_32_code 28 = .ok (.iload_n 1, 1) := by decide +kernel
theorem d_H_kinWithLivingUpTo_29 : decode prog_1_method_32_code 29 = .ok (.invokevirtual 107, 3) := by decide +kernel
theorem d_H_kinWithLivingUpTo_32 : decode prog_1_method_32_code 32 = .ok (.ladd, 1) := by decide +kernel
theorem d_H_kinWithLivingUpTo_33 : decode prog_1_method_32_code 33 = .ok (.lstore_n 2, 1) := by decide +kernel
theorem d_H_kinWithLivingUpTo_34 : decode prog_1_method_32_code 34 = .ok (.iinc 4 1, 3) := by decide +kernel
theorem d_H_kinWithLivingUpTo_37 : decode prog_1_method_32_code 37 = .ok (.goto (-32), 3) := by decide +kernel
theorem d_H_kinWithLivingUpTo_40 : decode prog_1_method_32_code 40 = .ok (.lload_n 2, 1) := by decide +kernel
theorem d_H_kinWithLivingUpTo_41 : decode prog_1_method_32_code 41 = .ok (.lreturn, 1) := by decide +kernel
theorem d_H_herd_0 : decode prog_1_method_13_code 0 = .ok (.lconst 0, 1) := by decide +kernel
theorem d_H_herd_1 : decode prog_1_method_13_code 1 = .ok (.lstore_n 1, 1) := by decide +kernel
theorem d_H_herd_2 : decode prog_1_method_13_code 2 = .ok (.iconst 0, 1) := by decide +kernel
theorem d_H_herd_3 : decode prog_1_method_13_code 3 = .ok (.istore_n 3, 1) := by decide +kernel
theorem d_H_herd_4 : decode prog_1_method_13_code 4 = .ok (.iload_n 3, 1) := by decide +kernel
theorem d_H_herd_5 : decode prog_1_method_13_code 5 = .ok (.aload_n 0, 1) := by decide +kernel
theorem d_H_herd_6 : decode prog_1_method_13_code 6 = .ok (.getfield 10, 3) := by decide +kernel
theorem d_H_herd_9 : decode prog_1_method_13_code 9 = .ok (.invokevirtual 62, 3) := by decide +kernel
theorem d_H_herd_12 : decode prog_1_method_13_code 12 = .ok (.if_icmp .ge 26, 3) := by decide +kernel
theorem d_H_herd_15 : decode prog_1_method_13_code 15 = .ok (.aload_n 0, 1) := by decide +kernel
theorem d_H_herd_16 : decode prog_1_method_13_code 16 = .ok (.getfield 30, 3) := by decide +kernel
theorem d_H_herd_19 : decode prog_1_method_13_code 19 = .ok (.iload_n 3, 1) := by decide +kernel
theorem d_H_herd_20 : decode prog_1_method_13_code 20 = .ok (.baload, 1) := by decide +kernel
theorem d_H_herd_21 : decode prog_1_method_13_code 21 = .ok (.ifCond .eq 11, 3) := by decide +kernel
theorem d_H_herd_24 : decode prog_1_method_13_code 24 = .ok (.lload_n 1, 1) := by decide +kernel
theorem d_H_herd_25 : decode prog_1_method_13_code 25 = .ok (.aload_n 0, 1) := by decide +kernel
theorem d_H_herd_26 : decode prog_1_method_13_code 26 = .ok (.iload_n 3, 1) := by decide +kernel
theorem d_H_herd_27 : decode prog_1_method_13_code 27 = .ok (.invokevirtual 124, 3) := by decide +kernel
theorem d_H_herd_30 : decode prog_1_method_13_code 30 = .ok (.ladd, 1) := by decide +kernel
theorem d_H_herd_31 : decode prog_1_method_13_code 31 = .ok (.lstore_n 1, 1) := by decide +kernel
theorem d_H_herd_32 : decode prog_1_method_13_code 32 = .ok (.iinc 3 1, 3) := by decide +kernel
theorem d_H_herd_35 : decode prog_1_method_13_code 35 = .ok (.goto (-31), 3) := by decide +kernel
theorem d_H_herd_38 : decode prog_1_method_13_code 38 = .ok (.lload_n 1, 1) := by decide +kernel
theorem d_H_herd_39 : decode prog_1_method_13_code 39 = .ok (.lreturn, 1) := by decide +kernel
theorem d_P_forebearsOf_0 : decode prog_3_method_13_code 0 = .ok (.aload_n 0, 1) := by decide +kernel
theorem d_P_forebearsOf_1 : decode prog_3_method_13_code 1 = .ok (.getfield 25, 3) := by decide +kernel
theorem d_P_forebearsOf_4 : decode prog_3_method_13_code 4 = .ok (.iload_n 1, 1) := by decide +kernel
theorem d_P_forebearsOf_5 : decode prog_3_method_13_code 5 = .ok (.iaload, 1) := by decide +kernel
theorem d_P_forebearsOf_6 : decode prog_3_method_13_code 6 = .ok (.ireturn, 1) := by decide +kernel
theorem d_H_ancestors_0 : decode prog_1_method_14_code 0 = .ok (.aload_n 0, 1) := by decide +kernel
theorem d_H_ancestors_1 : decode prog_1_method_14_code 1 = .ok (.iload_n 1, 1) := by decide +kernel
theorem d_H_ancestors_2 : decode prog_1_method_14_code 2 = .ok (.invokevirtual 75, 3) := by decide +kernel
theorem d_H_ancestors_5 : decode prog_1_method_14_code 5 = .ok (.aload_n 0, 1) := by decide +kernel
theorem d_H_ancestors_6 : decode prog_1_method_14_code 6 = .ok (.getfield 10, 3) := by decide +kernel
theorem d_H_ancestors_9 : decode prog_1_method_14_code 9 = .ok (.iload_n 1, 1) := by decide +kernel
theorem d_H_ancestors_10 : decode prog_1_method_14_code 10 = .ok (.invokevirtual 127, 3) := by decide +kernel
theorem d_H_ancestors_13 : decode prog_1_method_14_code 13 = .ok (.ireturn, 1) := by decide +kernel
theorem d_P_progenyOf_0 : decode prog_3_method_14_code 0 = .ok (.iconst 0, 1) := by decide +kernel
theorem d_P_progenyOf_1 : decode prog_3_method_14_code 1 = .ok (.istore_n 2, 1) := by decide +kernel
theorem d_P_progenyOf_2 : decode prog_3_method_14_code 2 = .ok (.iload_n 1, 1) := by decide +kernel
theorem d_P_progenyOf_3 : decode prog_3_method_14_code 3 = .ok (.iconst 1, 1) := by decide +kernel
theorem d_P_progenyOf_4 : decode prog_3_method_14_code 4 = .ok (.iadd, 1) := by decide +kernel
theorem d_P_progenyOf_5 : decode prog_3_method_14_code 5 = .ok (.istore_n 3, 1) := by decide +kernel
theorem d_P_progenyOf_6 : decode prog_3_method_14_code 6 = .ok (.iload_n 3, 1) := by decide +kernel
theorem d_P_progenyOf_7 : decode prog_3_method_14_code 7 = .ok (.aload_n 0, 1) := by decide +kernel
theorem d_P_progenyOf_8 : decode prog_3_method_14_code 8 = .ok (.getfield 9, 3) := by decide +kernel
theorem d_P_progenyOf_11 : decode prog_3_method_14_code 11 = .ok (.if_icmp .ge 28, 3) := by decide +kernel
theorem d_P_progenyOf_14 : decode prog_3_method_14_code 14 = .ok (.aload_n 0, 1) := by decide +kernel
theorem d_P_progenyOf_15 : decode prog_3_method_14_code 15 = .ok (.getfield 25, 3) := by decide +kernel
theorem d_P_progenyOf_18 : decode prog_3_method_14_code 18 = .ok (.iload_n 3, 1) := by decide +kernel
theorem d_P_progenyOf_19 : decode prog_3_method_14_code 19 = .ok (.iaload, 1) := by decide +kernel
theorem d_P_progenyOf_20 : decode prog_3_method_14_code 20 = .ok (.iload_n 1, 1) := by decide +kernel
theorem d_P_progenyOf_21 : decode prog_3_method_14_code 21 = .ok (.ishr, 1) := by decide +kernel
theorem d_P_progenyOf_22 : decode prog_3_method_14_code 22 = .ok (.iconst 1, 1) := by decide +kernel
theorem d_P_progenyOf_23 : decode prog_3_method_14_code 23 = .ok (.iand, 1) := by decide +kernel
theorem d_P_progenyOf_24 : decode prog_3_method_14_code 24 = .ok (.ifCond .eq 9, 3) := by decide +kernel
theorem d_P_progenyOf_27 : decode prog_3_method_14_code 27 = .ok (.iload_n 2, 1) := by decide +kernel
theorem d_P_progenyOf_28 : decode prog_3_method_14_code 28 = .ok (.iconst 1, 1) := by decide +kernel
theorem d_P_progenyOf_29 : decode prog_3_method_14_code 29 = .ok (.iload_n 3, 1) := by decide +kernel
theorem d_P_progenyOf_30 : decode prog_3_method_14_code 30 = .ok (.ishl, 1) := by decide +kernel
theorem d_P_progenyOf_31 : decode prog_3_method_14_code 31 = .ok (.ior, 1) := by decide +kernel
theorem d_P_progenyOf_32 : decode prog_3_method_14_code 32 = .ok (.istore_n 2, 1) := by decide +kernel
theorem d_P_progenyOf_33 : decode prog_3_method_14_code 33 = .ok (.iinc 3 1, 3) := by decide +kernel
theorem d_P_progenyOf_36 : decode prog_3_method_14_code 36 = .ok (.goto (-30), 3) := by decide +kernel
theorem d_P_progenyOf_39 : decode prog_3_method_14_code 39 = .ok (.iload_n 2, 1) := by decide +kernel
theorem d_P_progenyOf_40 : decode prog_3_method_14_code 40 = .ok (.ireturn, 1) := by decide +kernel
theorem d_H_descendants_0 : decode prog_1_method_15_code 0 = .ok (.aload_n 0, 1) := by decide +kernel
theorem d_H_descendants_1 : decode prog_1_method_15_code 1 = .ok (.iload_n 1, 1) := by decide +kernel
theorem d_H_descendants_2 : decode prog_1_method_15_code 2 = .ok (.invokevirtual 75, 3) := by decide +kernel
theorem d_H_descendants_5 : decode prog_1_method_15_code 5 = .ok (.aload_n 0, 1) := by decide +kernel
theorem d_H_descendants_6 : decode prog_1_method_15_code 6 = .ok (.getfield 10, 3) := by decide +kernel
theorem d_H_descendants_9 : decode prog_1_method_15_code 9 = .ok (.iload_n 1, 1) := by decide +kernel
theorem d_H_descendants_10 : decode prog_1_method_15_code 10 = .ok (.invokevirtual 130, 3) := by decide +kernel
theorem d_H_descendants_13 : decode prog_1_method_15_code 13 = .ok (.ireturn, 1) := by decide +kernel
theorem d_P_linesUpTo_0 : decode prog_3_method_21_code 0 = .ok (.iload_n 2, 1) := by decide +kernel
theorem d_P_linesUpTo_1 : decode prog_3_method_21_code 1 = .ok (.iload_n 1, 1) := by decide +kernel
theorem d_P_linesUpTo_2 : decode prog_3_method_21_code 2 = .ok (.if_icmp .ge 7, 3) := by decide +kernel
theorem d_P_linesUpTo_5 : decode prog_3_method_21_code 5 = .ok (.iconst 0, 1) := by decide +kernel
theorem d_P_linesUpTo_6 : decode prog_3_method_21_code 6 = .ok (.goto 9, 3) := by decide +kernel
theorem d_P_linesUpTo_9 : decode prog_3_method_21_code 9 = .ok (.aload_n 0, 1) := by decide +kernel
theorem d_P_linesUpTo_10 : decode prog_3_method_21_code 10 = .ok (.getfield 40, 3) := by decide +kernel
theorem d_P_linesUpTo_13 : decode prog_3_method_21_code 13 = .ok (.iload_n 2, 1) := by decide +kernel
theorem d_P_linesUpTo_14 : decode prog_3_method_21_code 14 = .ok (.iaload, 1) := by decide +kernel
theorem d_P_linesUpTo_15 : decode prog_3_method_21_code 15 = .ok (.ireturn, 1) := by decide +kernel
theorem d_P_linesDown_0 : decode prog_3_method_15_code 0 = .ok (.iload_n 1, 1) := by decide +kernel
theorem d_P_linesDown_1 : decode prog_3_method_15_code 1 = .ok (.istore_n 3, 1) := by decide +kernel
theorem d_P_linesDown_2 : decode prog_3_method_15_code 2 = .ok (.iload_n 3, 1) := by decide +kernel
theorem d_P_linesDown_3 : decode prog_3_method_15_code 3 = .ok (.iload_n 2, 1) := by decide +kernel
theorem d_P_linesDown_4 : decode prog_3_method_15_code 4 = .ok (.if_icmp .gt 47, 3) := by decide +kernel
theorem d_P_linesDown_7 : decode prog_3_method_15_code 7 = .ok (.aload_n 0, 1) := by decide +kernel
theorem d_P_linesDown_8 : decode prog_3_method_15_code 8 = .ok (.getfield 40, 3) := by decide +kernel
theorem d_P_linesDown_11 : decode prog_3_method_15_code 11 = .ok (.iload_n 3, 1) := by decide +kernel
theorem d_P_linesDown_12 : decode prog_3_method_15_code 12 = .ok (.iload_n 3, 1) := by decide +kernel
theorem d_P_linesDown_13 : decode prog_3_method_15_code 13 = .ok (.iload_n 1, 1) := by decide +kernel
theorem d_P_linesDown_14 : decode prog_3_method_15_code 14 = .ok (.if_icmp .ne 7, 3) := by decide +kernel
theorem d_P_linesDown_17 : decode prog_3_method_15_code 17 = .ok (.iconst 1, 1) := by decide +kernel
theorem d_P_linesDown_18 : decode prog_3_method_15_code 18 = .ok (.goto 26, 3) := by decide +kernel
theorem d_P_linesDown_21 : decode prog_3_method_15_code 21 = .ok (.aload_n 0, 1) := by decide +kernel
theorem d_P_linesDown_22 : decode prog_3_method_15_code 22 = .ok (.iload_n 1, 1) := by decide +kernel
theorem d_P_linesDown_23 : decode prog_3_method_15_code 23 = .ok (.aload_n 0, 1) := by decide +kernel
theorem d_P_linesDown_24 : decode prog_3_method_15_code 24 = .ok (.getfield 15, 3) := by decide +kernel
theorem d_P_linesDown_27 : decode prog_3_method_15_code 27 = .ok (.iload_n 3, 1) := by decide +kernel
theorem d_P_linesDown_28 : decode prog_3_method_15_code 28 = .ok (.iaload, 1) := by decide +kernel
theorem d_P_linesDown_29 : decode prog_3_method_15_code 29 = .ok (.invokevirtual 62, 3) := by decide +kernel
theorem d_P_linesDown_32 : decode prog_3_method_15_code 32 = .ok (.aload_n 0, 1) := by decide +kernel
theorem d_P_linesDown_33 : decode prog_3_method_15_code 33 = .ok (.iload_n 1, 1) := by decide +kernel
theorem d_P_linesDown_34 : decode prog_3_method_15_code 34 = .ok (.aload_n 0, 1) := by decide +kernel
theorem d_P_linesDown_35 : decode prog_3_method_15_code 35 = .ok (.getfield 19, 3) := by decide +kernel
theorem d_P_linesDown_38 : decode prog_3_method_15_code 38 = .ok (.iload_n 3, 1) := by decide +kernel
theorem d_P_linesDown_39 : decode prog_3_method_15_code 39 = .ok (.iaload, 1) := by decide +kernel
theorem d_P_linesDown_40 : decode prog_3_method_15_code 40 = .ok (.invokevirtual 62, 3) := by decide +kernel
theorem d_P_linesDown_43 : decode prog_3_method_15_code 43 = .ok (.iadd, 1) := by decide +kernel
theorem d_P_linesDown_44 : decode prog_3_method_15_code 44 = .ok (.iastore, 1) := by decide +kernel
theorem d_P_linesDown_45 : decode prog_3_method_15_code 45 = .ok (.iinc 3 1, 3) := by decide +kernel
theorem d_P_linesDown_48 : decode prog_3_method_15_code 48 = .ok (.goto (-46), 3) := by decide +kernel
theorem d_P_linesDown_51 : decode prog_3_method_15_code 51 = .ok (.aload_n 0, 1) := by decide +kernel
theorem d_P_linesDown_52 : decode prog_3_method_15_code 52 = .ok (.iload_n 1, 1) := by decide +kernel
theorem d_P_linesDown_53 : decode prog_3_method_15_code 53 = .ok (.iload_n 2, 1) := by decide +kernel
theorem d_P_linesDown_54 : decode prog_3_method_15_code 54 = .ok (.invokevirtual 62, 3) := by decide +kernel
theorem d_P_linesDown_57 : decode prog_3_method_15_code 57 = .ok (.ireturn, 1) := by decide +kernel
theorem d_H_lines_0 : decode prog_1_method_16_code 0 = .ok (.aload_n 0, 1) := by decide +kernel
theorem d_H_lines_1 : decode prog_1_method_16_code 1 = .ok (.iload_n 1, 1) := by decide +kernel
theorem d_H_lines_2 : decode prog_1_method_16_code 2 = .ok (.invokevirtual 75, 3) := by decide +kernel
theorem d_H_lines_5 : decode prog_1_method_16_code 5 = .ok (.aload_n 0, 1) := by decide +kernel
theorem d_H_lines_6 : decode prog_1_method_16_code 6 = .ok (.iload_n 2, 1) := by decide +kernel
