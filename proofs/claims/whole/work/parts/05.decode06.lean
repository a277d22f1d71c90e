theorem d_M_of_113 : decode prog_5_method_13_code 113 = .ok (.iconst 1, 1) := by decide +kernel
theorem d_M_of_114 : decode prog_5_method_13_code 114 = .ok (.ireturn, 1) := by decide +kernel
theorem d_M_of_115 : decode prog_5_method_13_code 115 = .ok (.aload_n 0, 1) := by decide +kernel
theorem d_M_of_116 : decode prog_5_method_13_code 116 = .ok (.iload_n 1, 1) := by decide +kernel
theorem d_M_of_117 : decode prog_5_method_13_code 117 = .ok (.invokevirtual 90, 3) := by decide +kernel
theorem d_M_of_120 : decode prog_5_method_13_code 120 = .ok (.ireturn, 1) := by decide +kernel
theorem d_M_animals_0 : decode prog_5_method_14_code 0 = .ok (.aload_n 0, 1) := by decide +kernel
theorem d_M_animals_1 : decode prog_5_method_14_code 1 = .ok (.iconst 0, 1) := by decide +kernel
theorem d_M_animals_2 : decode prog_5_method_14_code 2 = .ok (.putfield 57, 3) := by decide +kernel
theorem d_M_animals_5 : decode prog_5_method_14_code 5 = .ok (.aload_n 0, 1) := by decide +kernel
theorem d_M_animals_6 : decode prog_5_method_14_code 6 = .ok (.getfield 61, 3) := by decide +kernel
theorem d_M_animals_9 : decode prog_5_method_14_code 9 = .ok (.ireturn, 1) := by decide +kernel
theorem d_M_kinship_0 : decode prog_5_method_15_code 0 = .ok (.aload_n 0, 1) := by decide +kernel
theorem d_M_kinship_1 : decode prog_5_method_15_code 1 = .ok (.aload_n 0, 1) := by decide +kernel
theorem d_M_kinship_2 : decode prog_5_method_15_code 2 = .ok (.iload_n 1, 1) := by decide +kernel
theorem d_M_kinship_3 : decode prog_5_method_15_code 3 = .ok (.invokevirtual 64, 3) := by decide +kernel
theorem d_M_kinship_6 : decode prog_5_method_15_code 6 = .ok (.ifCond .eq 11, 3) := by decide +kernel
theorem d_M_kinship_9 : decode prog_5_method_15_code 9 = .ok (.aload_n 0, 1) := by decide +kernel
theorem d_M_kinship_10 : decode prog_5_method_15_code 10 = .ok (.iload_n 2, 1) := by decide +kernel
theorem d_M_kinship_11 : decode prog_5_method_15_code 11 = .ok (.invokevirtual 64, 3) := by decide +kernel
theorem d_M_kinship_14 : decode prog_5_method_15_code 14 = .ok (.ifCond .ne 7, 3) := by decide +kernel
theorem d_M_kinship_17 : decode prog_5_method_15_code 17 = .ok (.iconst 1, 1) := by decide +kernel
theorem d_M_kinship_18 : decode prog_5_method_15_code 18 = .ok (.goto 4, 3) := by decide +kernel
theorem d_M_kinship_21 : decode prog_5_method_15_code 21 = .ok (.iconst 0, 1) := by decide +kernel
theorem d_M_kinship_22 : decode prog_5_method_15_code 22 = .ok (.iconst 0, 1) := by decide +kernel
theorem d_M_kinship_23 : decode prog_5_method_15_code 23 = .ok (.iconst 0, 1) := by decide +kernel
theorem d_M_kinship_24 : decode prog_5_method_15_code 24 = .ok (.iconst 0, 1) := by decide +kernel
theorem d_M_kinship_25 : decode prog_5_method_15_code 25 = .ok (.invokevirtual 83, 3) := by decide +kernel
theorem d_M_kinship_28 : decode prog_5_method_15_code 28 = .ok (.ifCond .eq 7, 3) := by decide +kernel
theorem d_M_kinship_31 : decode prog_5_method_15_code 31 = .ok (.lconst 0, 1) := by decide +kernel
theorem d_M_kinship_32 : decode prog_5_method_15_code 32 = .ok (.goto 9, 3) := by decide +kernel
theorem d_M_kinship_35 : decode prog_5_method_15_code 35 = .ok (.aload_n 0, 1) := by decide +kernel
theorem d_M_kinship_36 : decode prog_5_method_15_code 36 = .ok (.iload_n 1, 1) := by decide +kernel
theorem d_M_kinship_37 : decode prog_5_method_15_code 37 = .ok (.iload_n 2, 1) := by decide +kernel
theorem d_M_kinship_38 : decode prog_5_method_15_code 38 = .ok (.invokevirtual 68, 3) := by decide +kernel
theorem d_M_kinship_41 : decode prog_5_method_15_code 41 = .ok (.lreturn, 1) := by decide +kernel
theorem d_M_inbreeding_0 : decode prog_5_method_16_code 0 = .ok (.aload_n 0, 1) := by decide +kernel
theorem d_M_inbreeding_1 : decode prog_5_method_16_code 1 = .ok (.aload_n 0, 1) := by decide +kernel
theorem d_M_inbreeding_2 : decode prog_5_method_16_code 2 = .ok (.iload_n 1, 1) := by decide +kernel
theorem d_M_inbreeding_3 : decode prog_5_method_16_code 3 = .ok (.invokevirtual 64, 3) := by decide +kernel
theorem d_M_inbreeding_6 : decode prog_5_method_16_code 6 = .ok (.ifCond .ne 7, 3) := by decide +kernel
theorem d_M_inbreeding_9 : decode prog_5_method_16_code 9 = .ok (.iconst 1, 1) := by decide +kernel
theorem d_M_inbreeding_10 : decode prog_5_method_16_code 10 = .ok (.goto 4, 3) := by decide +kernel
theorem d_M_inbreeding_13 : decode prog_5_method_16_code 13 = .ok (.iconst 0, 1) := by decide +kernel
theorem d_M_inbreeding_14 : decode prog_5_method_16_code 14 = .ok (.iconst 0, 1) := by decide +kernel
theorem d_M_inbreeding_15 : decode prog_5_method_16_code 15 = .ok (.iconst 0, 1) := by decide +kernel
theorem d_M_inbreeding_16 : decode prog_5_method_16_code 16 = .ok (.iconst 0, 1) := by decide +kernel
theorem d_M_inbreeding_17 : decode prog_5_method_16_code 17 = .ok (.invokevirtual 83, 3) := by decide +kernel
theorem d_M_inbreeding_20 : decode prog_5_method_16_code 20 = .ok (.ifCond .eq 7, 3) := by decide +kernel
theorem d_M_inbreeding_23 : decode prog_5_method_16_code 23 = .ok (.lconst 0, 1) := by decide +kernel
theorem d_M_inbreeding_24 : decode prog_5_method_16_code 24 = .ok (.goto 9, 3) := by decide +kernel
theorem d_M_inbreeding_27 : decode prog_5_method_16_code 27 = .ok (.aload_n 0, 1) := by decide +kernel
theorem d_M_inbreeding_28 : decode prog_5_method_16_code 28 = .ok (.getfield 30, 3) := by decide +kernel
theorem d_M_inbreeding_31 : decode prog_5_method_16_code 31 = .ok (.iload_n 1, 1) := by decide +kernel
theorem d_M_inbreeding_32 : decode prog_5_method_16_code 32 = .ok (.laload, 1) := by decide +kernel
theorem d_M_inbreeding_33 : decode prog_5_method_16_code 33 = .ok (.lreturn, 1) := by decide +kernel
theorem d_M_calf_0 : decode prog_5_method_17_code 0 = .ok (.aload_n 0, 1) := by decide +kernel
theorem d_M_calf_1 : decode prog_5_method_17_code 1 = .ok (.aload_n 0, 1) := by decide +kernel
theorem d_M_calf_2 : decode prog_5_method_17_code 2 = .ok (.iload_n 1, 1) := by decide +kernel
theorem d_M_calf_3 : decode prog_5_method_17_code 3 = .ok (.invokevirtual 64, 3) := by decide +kernel
theorem d_M_calf_6 : decode prog_5_method_17_code 6 = .ok (.ifCond .eq 11, 3) := by decide +kernel
theorem d_M_calf_9 : decode prog_5_method_17_code 9 = .ok (.aload_n 0, 1) := by decide +kernel
theorem d_M_calf_10 : decode prog_5_method_17_code 10 = .ok (.iload_n 2, 1) := by decide +kernel
theorem d_M_calf_11 : decode prog_5_method_17_code 11 = .ok (.invokevirtual 64, 3) := by decide +kernel
theorem d_M_calf_14 : decode prog_5_method_17_code 14 = .ok (.ifCond .ne 7, 3) := by decide +kernel
theorem d_M_calf_17 : decode prog_5_method_17_code 17 = .ok (.iconst 1, 1) := by decide +kernel
theorem d_M_calf_18 : decode prog_5_method_17_code 18 = .ok (.goto 4, 3) := by decide +kernel
theorem d_M_calf_21 : decode prog_5_method_17_code 21 = .ok (.iconst 0, 1) := by decide +kernel
theorem d_M_calf_22 : decode prog_5_method_17_code 22 = .ok (.iconst 0, 1) := by decide +kernel
theorem d_M_calf_23 : decode prog_5_method_17_code 23 = .ok (.iconst 0, 1) := by decide +kernel
theorem d_M_calf_24 : decode prog_5_method_17_code 24 = .ok (.iconst 0, 1) := by decide +kernel
theorem d_M_calf_25 : decode prog_5_method_17_code 25 = .ok (.invokevirtual 83, 3) := by decide +kernel
theorem d_M_calf_28 : decode prog_5_method_17_code 28 = .ok (.ifCond .eq 7, 3) := by decide +kernel
theorem d_M_calf_31 : decode prog_5_method_17_code 31 = .ok (.lconst 0, 1) := by decide +kernel
theorem d_M_calf_32 : decode prog_5_method_17_code 32 = .ok (.goto 9, 3) := by decide +kernel
theorem d_M_calf_35 : decode prog_5_method_17_code 35 = .ok (.aload_n 0, 1) := by decide +kernel
theorem d_M_calf_36 : decode prog_5_method_17_code 36 = .ok (.iload_n 1, 1) := by decide +kernel
theorem d_M_calf_37 : decode prog_5_method_17_code 37 = .ok (.iload_n 2, 1) := by decide +kernel
theorem d_M_calf_38 : decode prog_5_method_17_code 38 = .ok (.invokevirtual 68, 3) := by decide +kernel
theorem d_M_calf_41 : decode prog_5_method_17_code 41 = .ok (.lreturn, 1) := by decide +kernel
theorem d_M_isFounder_0 : decode prog_5_method_18_code 0 = .ok (.aload_n 0, 1) := by decide +kernel
theorem d_M_isFounder_1 : decode prog_5_method_18_code 1 = .ok (.getfield 7, 3) := by decide +kernel
theorem d_M_isFounder_4 : decode prog_5_method_18_code 4 = .ok (.iload_n 1, 1) := by decide +kernel
theorem d_M_isFounder_5 : decode prog_5_method_18_code 5 = .ok (.iaload, 1) := by decide +kernel
theorem d_M_isFounder_6 : decode prog_5_method_18_code 6 = .ok (.ifCond .ge 16, 3) := by decide +kernel
theorem d_M_isFounder_9 : decode prog_5_method_18_code 9 = .ok (.aload_n 0, 1) := by decide +kernel
theorem d_M_isFounder_10 : decode prog_5_method_18_code 10 = .ok (.getfield 13, 3) := by decide +kernel
theorem d_M_isFounder_13 : decode prog_5_method_18_code 13 = .ok (.iload_n 1, 1) := by decide +kernel
theorem d_M_isFounder_14 : decode prog_5_method_18_code 14 = .ok (.iaload, 1) := by decide +kernel
theorem d_M_isFounder_15 : decode prog_5_method_18_code 15 = .ok (.ifCond .ge 7, 3) := by decide +kernel
theorem d_M_isFounder_18 : decode prog_5_method_18_code 18 = .ok (.iconst 1, 1) := by decide +kernel
theorem d_M_isFounder_19 : decode prog_5_method_18_code 19 = .ok (.goto 4, 3) := by decide +kernel
theorem d_M_isFounder_22 : decode prog_5_method_18_code 22 = .ok (.iconst 0, 1) := by decide +kernel
theorem d_M_isFounder_23 : decode prog_5_method_18_code 23 = .ok (.ireturn, 1) := by decide +kernel
theorem d_M_fillShares_0 : decode prog_5_method_19_code 0 = .ok (.iconst 0, 1) := by decide +kernel
theorem d_M_fillShares_1 : decode prog_5_method_19_code 1 = .ok (.istore_n 2, 1) := by decide +kernel
theorem d_M_fillShares_2 : decode prog_5_method_19_code 2 = .ok (.iload_n 2, 1) := by decide +kernel
theorem d_M_fillShares_3 : decode prog_5_method_19_code 3 = .ok (.aload_n 0, 1) := by decide +kernel
theorem d_M_fillShares_4 : decode prog_5_method_19_code 4 = .ok (.getfield 61, 3) := by decide +kernel
theorem d_M_fillShares_7 : decode prog_5_method_19_code 7 = .ok (.if_icmp .ge 85, 3) := by decide +kernel
theorem d_M_fillShares_10 : decode prog_5_method_19_code 10 = .ok (.aload_n 0, 1) := by decide +kernel
theorem d_M_fillShares_11 : decode prog_5_method_19_code 11 = .ok (.getfield 7, 3) := by decide +kernel
theorem d_M_fillShares_14 : decode prog_5_method_19_code 14 = .ok (.iload_n 2, 1) := by decide +kernel
theorem d_M_fillShares_15 : decode prog_5_method_19_code 15 = .ok (.iaload, 1) := by decide +kernel
theorem d_M_fillShares_16 : decode prog_5_method_19_code 16 = .ok (.ifCond .ge 7, 3) := by decide +kernel
theorem d_M_fillShares_19 : decode prog_5_method_19_code 19 = .ok (.lconst 0, 1) := by decide +kernel
theorem d_M_fillShares_20 : decode prog_5_method_19_code 20 = .ok (.goto 14, 3) := by decide +kernel
theorem d_M_fillShares_23 : decode prog_5_method_19_code 23 = .ok (.aload_n 0, 1) := by decide +kernel
theorem d_M_fillShares_24 : decode prog_5_method_19_code 24 = .ok (.getfield 33, 3) := by decide +kernel
theorem d_M_fillShares_27 : decode prog_5_method_19_code 27 = .ok (.aload_n 0, 1) := by decide +kernel
theorem d_M_fillShares_28 : decode prog_5_method_19_code 28 = .ok (.getfield 7, 3) := by decide +kernel
theorem d_M_fillShares_31 : decode prog_5_method_19_code 31 = .ok (.iload_n 2, 1) := by decide +kernel
theorem d_M_fillShares_32 : decode prog_5_method_19_code 32 = .ok (.iaload, 1) := by decide +kernel
theorem d_M_fillShares_33 : decode prog_5_method_19_code 33 = .ok (.laload, 1) := by decide +kernel
theorem d_M_fillShares_34 : decode prog_5_method_19_code 34 = .ok (.lstore_n 3, 1) := by decide +kernel
theorem d_M_fillShares_35 : decode prog_5_method_19_code 35 = .ok (.aload_n 0, 1) := by decide +kernel
theorem d_M_fillShares_36 : decode prog_5_method_19_code 36 = .ok (.getfield 13, 3) := by decide +kernel
theorem d_M_fillShares_39 : decode prog_5_method_19_code 39 = .ok (.iload_n 2, 1) := by decide +kernel
theorem d_M_fillShares_40 : decode prog_5_method_19_code 40 = .ok (.iaload, 1) := by decide +kernel
theorem d_M_fillShares_41 : decode prog_5_method_19_code 41 = .ok (.ifCond .ge 7, 3) := by decide +kernel
theorem d_M_fillShares_44 : decode prog_5_method_19_code 44 = .ok (.lconst 0, 1) := by decide +kernel
theorem d_M_fillShares_45 : decode prog_5_method_19_code 45 = .ok (.goto 14, 3) := by decide +kernel
theorem d_M_fillShares_48 : decode prog_5_method_19_code 48 = .ok (.aload_n 0, 1) := by decide +kernel
theorem d_M_fillShares_49 : decode prog_5_method_19_code 49 = .ok (.getfield 33, 3) := by decide +kernel
theorem d_M_fillShares_52 : decode prog_5_method_19_code 52 = .ok (.aload_n 0, 1) := by decide +kernel
theorem d_M_fillShares_53 : decode prog_5_method_19_code 53 = .ok (.getfield 13, 3) := by decide +kernel
theorem d_M_fillShares_56 : decode prog_5_method_19_code 56 = .ok (.iload_n 2, 1) := by decide +kernel
theorem d_M_fillShares_57 : decode prog_5_method_19_code 57 = .ok (.iaload, 1) := by decide +kernel
theorem d_M_fillShares_58 : decode prog_5_method_19_code 58 = .ok (.laload, 1) := by decide +kernel
theorem d_M_fillShares_59 : decode prog_5_method_19_code 59 = .ok (.lstore 5, 2) := by decide +kernel
theorem d_M_fillShares_61 : decode prog_5_method_19_code 61 = .ok (.aload_n 0, 1) := by decide +kernel
theorem d_M_fillShares_62 : decode prog_5_method_19_code 62 = .ok (.getfield 33, 3) := by decide +kernel
theorem d_M_fillShares_65 : decode prog_5_method_19_code 65 = .ok (.iload_n 2, 1) := by decide +kernel
theorem d_M_fillShares_66 : decode prog_5_method_19_code 66 = .ok (.iload_n 2, 1) := by decide +kernel
theorem d_M_fillShares_67 : decode prog_5_method_19_code 67 = .ok (.iload_n 1, 1) := by decide +kernel
theorem d_M_fillShares_68 : decode prog_5_method_19_code 68 = .ok (.if_icmp .ne 9, 3) := by decide +kernel
theorem d_M_fillShares_71 : decode prog_5_method_19_code 71 = .ok (.ldc2_w 74, 3) := by decide +kernel
theorem d_M_fillShares_74 : decode prog_5_method_19_code 74 = .ok (.goto 11, 3) := by decide +kernel
theorem d_M_fillShares_77 : decode prog_5_method_19_code 77 = .ok (.lload_n 3, 1) := by decide +kernel
theorem d_M_fillShares_78 : decode prog_5_method_19_code 78 = .ok (.lload 5, 2) := by decide +kernel
theorem d_M_fillShares_80 : decode prog_5_method_19_code 80 = .ok (.ladd, 1) := by decide +kernel
theorem d_M_fillShares_81 : decode prog_5_method_19_code 81 = .ok (.ldc2_w 72, 3) := by decide +kernel
theorem d_M_fillShares_84 : decode prog_5_method_19_code 84 = .ok (.ldiv, 1) := by decide +kernel
theorem d_M_fillShares_85 : decode prog_5_method_19_code 85 = .ok (.lastore, 1) := by decide +kernel
theorem d_M_fillShares_86 : decode prog_5_method_19_code 86 = .ok (.iinc 2 1, 3) := by decide +kernel
theorem d_M_fillShares_89 : decode prog_5_method_19_code 89 = .ok (.goto (-87), 3) := by decide +kernel
theorem d_M_fillShares_92 : decode prog_5_method_19_code 92 = .ok (.return_, 1) := by decide +kernel
theorem d_M_share_0 : decode prog_5_method_20_code 0 = .ok (.aload_n 0, 1) := by decide +kernel
theorem d_M_share_1 : decode prog_5_method_20_code 1 = .ok (.iload_n 1, 1) := by decide +kernel
theorem d_M_share_2 : decode prog_5_method_20_code 2 = .ok (.invokevirtual 64, 3) := by decide +kernel
theorem d_M_share_5 : decode prog_5_method_20_code 5 = .ok (.ifCond .eq 15, 3) := by decide +kernel
theorem d_M_share_8 : decode prog_5_method_20_code 8 = .ok (.aload_n 0, 1) := by decide +kernel
theorem d_M_share_9 : decode prog_5_method_20_code 9 = .ok (.iload_n 2, 1) := by decide +kernel
theorem d_M_share_10 : decode prog_5_method_20_code 10 = .ok (.invokevirtual 64, 3) := by decide +kernel
theorem d_M_share_13 : decode prog_5_method_20_code 13 = .ok (.ifCond .eq 7, 3) := by decide +kernel
theorem d_M_share_16 : decode prog_5_method_20_code 16 = .ok (.iconst 1, 1) := by decide +kernel
theorem d_M_share_17 : decode prog_5_method_20_code 17 = .ok (.goto 4, 3) := by decide +kernel
theorem d_M_share_20 : decode prog_5_method_20_code 20 = .ok (.iconst 0, 1) := by decide +kernel
theorem d_M_share_21 : decode prog_5_method_20_code 21 = .ok (.istore_n 3, 1) := by decide +kernel
theorem d_M_share_22 : decode prog_5_method_20_code 22 = .ok (.aload_n 0, 1) := by decide +kernel
theorem d_M_share_23 : decode prog_5_method_20_code 23 = .ok (.iload_n 3, 1) := by decide +kernel
theorem d_M_share_24 : decode prog_5_method_20_code 24 = .ok (.ifCond .ne 7, 3) := by decide +kernel
theorem d_M_share_27 : decode prog_5_method_20_code 27 = .ok (.iconst 1, 1) := by decide +kernel
theorem d_M_share_28 : decode prog_5_method_20_code 28 = .ok (.goto 4, 3) := by decide +kernel
theorem d_M_share_31 : decode prog_5_method_20_code 31 = .ok (.iconst 0, 1) := by decide +kernel
theorem d_M_share_32 : decode prog_5_method_20_code 32 = .ok (.iload_n 3, 1) := by decide +kernel
theorem d_M_share_33 : decode prog_5_method_20_code 33 = .ok (.ifCond .eq 15, 3) := by decide +kernel
theorem d_M_share_36 : decode prog_5_method_20_code 36 = .ok (.aload_n 0, 1) := by decide +kernel
theorem d_M_share_37 : decode prog_5_method_20_code 37 = .ok (.iload_n 1, 1) := by decide +kernel
theorem d_M_share_38 : decode prog_5_method_20_code 38 = .ok (.invokevirtual 94, 3) := by decide +kernel
theorem d_M_share_41 : decode prog_5_method_20_code 41 = .ok (.ifCond .ne 7, 3) := by decide +kernel
theorem d_M_share_44 : decode prog_5_method_20_code 44 = .ok (.iconst 1, 1) := by decide +kernel
theorem d_M_share_45 : decode prog_5_method_20_code 45 = .ok (.goto 4, 3) := by decide +kernel
theorem d_M_share_48 : decode prog_5_method_20_code 48 = .ok (.iconst 0, 1) := by decide +kernel
theorem d_M_share_49 : decode prog_5_method_20_code 49 = .ok (.iconst 0, 1) := by decide +kernel
theorem d_M_share_50 : decode prog_5_method_20_code 50 = .ok (.iconst 0, 1) := by decide +kernel
theorem d_M_share_51 : decode prog_5_method_20_code 51 = .ok (.invokevirtual 83, 3) := by decide +kernel
theorem d_M_share_54 : decode prog_5_method_20_code 54 = .ok (.ifCond .eq 5, 3) := by decide +kernel
theorem d_M_share_57 : decode prog_5_method_20_code 57 = .ok (.lconst 0, 1) := by decide +kernel
theorem d_M_share_58 : decode prog_5_method_20_code 58 = .ok (.lreturn, 1) := by decide +kernel
theorem d_M_share_59 : decode prog_5_method_20_code 59 = .ok (.aload_n 0, 1) := by decide +kernel
theorem d_M_share_60 : decode prog_5_method_20_code 60 = .ok (.iload_n 1, 1) := by decide +kernel
theorem d_M_share_61 : decode prog_5_method_20_code 61 = .ok (.invokevirtual 97, 3) := by decide +kernel
theorem d_M_share_64 : decode prog_5_method_20_code 64 = .ok (.aload_n 0, 1) := by decide +kernel
theorem d_M_share_65 : decode prog_5_method_20_code 65 = .ok (.getfield 33, 3) := by decide +kernel
theorem d_M_share_68 : decode prog_5_method_20_code 68 = .ok (.iload_n 2, 1) := by decide +kernel
theorem d_M_share_69 : decode prog_5_method_20_code 69 = .ok (.laload, 1) := by decide +kernel
theorem d_M_share_70 : decode prog_5_method_20_code 70 = .ok (.lreturn, 1) := by decide +kernel
theorem d_M_unknown_0 : decode prog_5_method_21_code 0 = .ok (.aload_n 0, 1) := by decide +kernel
theorem d_M_unknown_1 : decode prog_5_method_21_code 1 = .ok (.aload_n 0, 1) := by decide +kernel
theorem d_M_unknown_2 : decode prog_5_method_21_code 2 = .ok (.iload_n 1, 1) := by decide +kernel
theorem d_M_unknown_3 : decode prog_5_method_21_code 3 = .ok (.invokevirtual 64, 3) := by decide +kernel
theorem d_M_unknown_6 : decode prog_5_method_21_code 6 = .ok (.ifCond .ne 7, 3) := by decide +kernel
theorem d_M_unknown_9 : decode prog_5_method_21_code 9 = .ok (.iconst 1, 1) := by decide +kernel
theorem d_M_unknown_10 : decode prog_5_method_21_code 10 = .ok (.goto 4, 3) := by decide +kernel
theorem d_M_unknown_13 : decode prog_5_method_21_code 13 = .ok (.iconst 0, 1) := by decide +kernel
theorem d_M_unknown_14 : decode prog_5_method_21_code 14 = .ok (.iconst 0, 1) := by decide +kernel
theorem d_M_unknown_15 : decode prog_5_method_21_code 15 = .ok (.iconst 0, 1) := by decide +kernel
theorem d_M_unknown_16 : decode prog_5_method_21_code 16 = .ok (.iconst 0, 1) := by decide +kernel
theorem d_M_unknown_17 : decode prog_5_method_21_code 17 = .ok (.invokevirtual 83, 3) := by decide +kernel
theorem d_M_unknown_20 : decode prog_5_method_21_code 20 = .ok (.ifCond .eq 5, 3) := by decide +kernel
theorem d_M_unknown_23 : decode prog_5_method_21_code 23 = .ok (.lconst 0, 1) := by decide +kernel
theorem d_M_unknown_24 : decode prog_5_method_21_code 24 = .ok (.lreturn, 1) := by decide +kernel
theorem d_M_unknown_25 : decode prog_5_method_21_code 25 = .ok (.ldc2_w 74, 3) := by decide +kernel
theorem d_M_unknown_28 : decode prog_5_method_21_code 28 = .ok (.lstore_n 2, 1) := by decide +kernel
theorem d_M_unknown_29 : decode prog_5_method_21_code 29 = .ok (.iconst 0, 1) := by decide +kernel
theorem d_M_unknown_30 : decode prog_5_method_21_code 30 = .ok (.istore 4, 2) := by decide +kernel
theorem d_M_unknown_32 : decode prog_5_method_21_code 32 = .ok (.iload 4, 2) := by decide +kernel
theorem d_M_unknown_34 : decode prog_5_method_21_code 34 = .ok (.aload_n 0, 1) := by decide +kernel
theorem d_M_unknown_35 : decode prog_5_method_21_code 35 = .ok (.getfield 61, 3) := by decide +kernel
theorem d_M_unknown_38 : decode prog_5_method_21_code 38 = .ok (.if_icmp .ge 33, 3) := by decide +kernel
theorem d_M_unknown_41 : decode prog_5_method_21_code 41 = .ok (.aload_n 0, 1) := by decide +kernel
theorem d_M_unknown_42 : decode prog_5_method_21_code 42 = .ok (.iload 4, 2) := by decide +kernel
theorem d_M_unknown_44 : decode prog_5_method_21_code 44 = .ok (.invokevirtual 94, 3) := by decide +kernel
theorem d_M_unknown_47 : decode prog_5_method_21_code 47 = .ok (.ifCond .eq 18, 3) := by decide +kernel
theorem d_M_unknown_50 : decode prog_5_method_21_code 50 = .ok (.aload_n 0, 1) := by decide +kernel
theorem d_M_unknown_51 : decode prog_5_method_21_code 51 = .ok (.iload 4, 2) := by decide +kernel
theorem d_M_unknown_53 : decode prog_5_method_21_code 53 = .ok (.invokevirtual 97, 3) := by decide +kernel
theorem d_M_unknown_56 : decode prog_5_method_21_code 56 = .ok (.lload_n 2, 1) := by decide +kernel
theorem d_M_unknown_57 : decode prog_5_method_21_code 57 = .ok (.aload_n 0, 1) := by decide +kernel
theorem d_M_unknown_58 : decode prog_5_method_21_code 58 = .ok (.getfield 33, 3) := by decide +kernel
theorem d_M_unknown_61 : decode prog_5_method_21_code 61 = .ok (.iload_n 1, 1) := by decide +kernel
theorem d_M_unknown_62 : decode prog_5_method_21_code 62 = .ok (.laload, 1) := by decide +kernel
theorem d_M_unknown_63 : decode prog_5_method_21_code 63 = .ok (.lsub, 1) := by decide +kernel
theorem d_M_unknown_64 : decode prog_5_method_21_code 64 = .ok (.lstore_n 2, 1) := by decide +kernel
theorem d_M_unknown_65 : decode prog_5_method_21_code 65 = .ok (.iinc 4 1, 3) := by decide +kernel
theorem d_M_unknown_68 : decode prog_5_method_21_code 68 = .ok (.goto (-36), 3) := by decide +kernel
theorem d_M_unknown_71 : decode prog_5_method_21_code 71 = .ok (.lload_n 2, 1) := by decide +kernel
theorem d_M_unknown_72 : decode prog_5_method_21_code 72 = .ok (.lreturn, 1) := by decide +kernel
theorem d_M_inHerd_0 : decode prog_5_method_22_code 0 = .ok (.aload_n 0, 1) := by decide +kernel
theorem d_M_inHerd_1 : decode prog_5_method_22_code 1 = .ok (.aload_n 0, 1) := by decide +kernel
theorem d_M_inHerd_2 : decode prog_5_method_22_code 2 = .ok (.iload_n 1, 1) := by decide +kernel
theorem d_M_inHerd_3 : decode prog_5_method_22_code 3 = .ok (.invokevirtual 64, 3) := by decide +kernel
theorem d_M_inHerd_6 : decode prog_5_method_22_code 6 = .ok (.ifCond .ne 7, 3) := by decide +kernel
theorem d_M_inHerd_9 : decode prog_5_method_22_code 9 = .ok (.iconst 1, 1) := by decide +kernel
theorem d_M_inHerd_10 : decode prog_5_method_22_code 10 = .ok (.goto 4, 3) := by decide +kernel
theorem d_M_inHerd_13 : decode prog_5_method_22_code 13 = .ok (.iconst 0, 1) := by decide +kernel
theorem d_M_inHerd_14 : decode prog_5_method_22_code 14 = .ok (.aload_n 0, 1) := by decide +kernel
theorem d_M_inHerd_15 : decode prog_5_method_22_code 15 = .ok (.iload_n 1, 1) := by decide +kernel
theorem d_M_inHerd_16 : decode prog_5_method_22_code 16 = .ok (.invokevirtual 64, 3) := by decide +kernel
theorem d_M_inHerd_19 : decode prog_5_method_22_code 19 = .ok (.ifCond .eq 15, 3) := by decide +kernel
theorem d_M_inHerd_22 : decode prog_5_method_22_code 22 = .ok (.aload_n 0, 1) := by decide +kernel
theorem d_M_inHerd_23 : decode prog_5_method_22_code 23 = .ok (.iload_n 1, 1) := by decide +kernel
theorem d_M_inHerd_24 : decode prog_5_method_22_code 24 = .ok (.invokevirtual 94, 3) := by decide +kernel
theorem d_M_inHerd_27 : decode prog_5_method_22_code 27 = .ok (.ifCond .ne 7, 3) := by decide +kernel
theorem d_M_inHerd_30 : decode prog_5_method_22_code 30 = .ok (.iconst 1, 1) := by decide +kernel
theorem d_M_inHerd_31 : decode prog_5_method_22_code 31 = .ok (.goto 4, 3) := by decide +kernel
theorem d_M_inHerd_34 : decode prog_5_method_22_code 34 = .ok (.iconst 0, 1) := by decide +kernel
theorem d_M_inHerd_35 : decode prog_5_method_22_code 35 = .ok (.iconst 0, 1) := by decide +kernel
theorem d_M_inHerd_36 : decode prog_5_method_22_code 36 = .ok (.iconst 0, 1) := by decide +kernel
theorem d_M_inHerd_37 : decode prog_5_method_22_code 37 = .ok (.invokevirtual 83, 3) := by decide +kernel
theorem d_M_inHerd_40 : decode prog_5_method_22_code 40 = .ok (.ifCond .eq 5, 3) := by decide +kernel
theorem d_M_inHerd_43 : decode prog_5_method_22_code 43 = .ok (.lconst 0, 1) := by decide +kernel
theorem d_M_inHerd_44 : decode prog_5_method_22_code 44 = .ok (.lreturn, 1) := by decide +kernel
theorem d_M_inHerd_45 : decode prog_5_method_22_code 45 = .ok (.aload_n 0, 1) := by decide +kernel
theorem d_M_inHerd_46 : decode prog_5_method_22_code 46 = .ok (.iload_n 1, 1) := by decide +kernel
theorem d_M_inHerd_47 : decode prog_5_method_22_code 47 = .ok (.invokevirtual 97, 3) := by decide +kernel
theorem d_M_inHerd_50 : decode prog_5_method_22_code 50 = .ok (.lconst 0, 1) := by decide +kernel
theorem d_M_inHerd_51 : decode prog_5_method_22_code 51 = .ok (.lstore_n 2, 1) := by decide +kernel
theorem d_M_inHerd_52 : decode prog_5_method_22_code 52 = .ok (.iconst 0, 1) := by decide +kernel
theorem d_M_inHerd_53 : decode prog_5_method_22_code 53 = .ok (.istore 4, 2) := by decide +kernel
theorem d_M_inHerd_55 : decode prog_5_method_22_code 55 = .ok (.iload 4, 2) := by decide +kernel
theorem d_M_inHerd_57 : decode prog_5_method_22_code 57 = .ok (.aload_n 0, 1) := by decide +kernel
theorem d_M_inHerd_58 : decode prog_5_method_22_code 58 = .ok (.getfield 61, 3) := by decide +kernel
theorem d_M_inHerd_61 : decode prog_5_method_22_code 61 = .ok (.if_icmp .ge 33, 3) := by decide +kernel
theorem d_M_inHerd_64 : decode prog_5_method_22_code 64 = .ok (.aload_n 0, 1) := by decide +kernel
theorem d_M_inHerd_65 : decode prog_5_method_22_code 65 = .ok (.getfield 22, 3) := by decide +kernel
theorem d_M_inHerd_68 : decode prog_5_method_22_code 68 = .ok (.iload 4, 2) := by decide +kernel
theorem d_M_inHerd_70 : decode prog_5_method_22_code 70 = .ok (.baload, 1) := by decide +kernel
theorem d_M_inHerd_71 : decode prog_5_method_22_code 71 = .ok (.ifCond .eq 7, 3) := by decide +kernel
theorem d_M_inHerd_74 : decode prog_5_method_22_code 74 = .ok (.lload_n 2, 1) := by decide +kernel
theorem d_M_inHerd_75 : decode prog_5_method_22_code 75 = .ok (.goto 12, 3) := by decide +kernel
theorem d_M_inHerd_78 : decode prog_5_method_22_code 78 = .ok (.lload_n 2, 1) := by decide +kernel
theorem d_M_inHerd_79 : decode prog_5_method_22_code 79 = .ok (.aload_n 0, 1) := by decide +kernel
theorem d_M_inHerd_80 : decode prog_5_method_22_code 80 = .ok (.getfield 33, 3) := by decide +kernel
theorem d_M_inHerd_83 : decode prog_5_method_22_code 83 = .ok (.iload 4, 2) := by decide +kernel
theorem d_M_inHerd_85 : decode prog_5_method_22_code 85 = .ok (.laload, 1) := by decide +kernel
theorem d_M_inHerd_86 : decode prog_5_method_22_code 86 = .ok (.ladd, 1) := by decide +kernel
theorem d_M_inHerd_87 : decode prog_5_method_22_code 87 = .ok (.lstore_n 2, 1) := by decide +kernel
theorem d_M_inHerd_88 : decode prog_5_method_22_code 88 = .ok (.iinc 4 1, 3) := by decide +kernel
theorem d_M_inHerd_91 : decode prog_5_method_22_code 91 = .ok (.goto (-36), 3) := by decide +kernel
theorem d_M_inHerd_94 : decode prog_5_method_22_code 94 = .ok (.lload_n 2, 1) := by decide +kernel
theorem d_M_inHerd_95 : decode prog_5_method_22_code 95 = .ok (.lreturn, 1) := by decide +kernel
theorem d_M_herd_0 : decode prog_5_method_23_code 0 = .ok (.aload_n 0, 1) := by decide +kernel
theorem d_M_herd_1 : decode prog_5_method_23_code 1 = .ok (.iconst 0, 1) := by decide +kernel
theorem d_M_herd_2 : decode prog_5_method_23_code 2 = .ok (.putfield 57, 3) := by decide +kernel
theorem d_M_herd_5 : decode prog_5_method_23_code 5 = .ok (.lconst 0, 1) := by decide +kernel
theorem d_M_herd_6 : decode prog_5_method_23_code 6 = .ok (.lstore_n 1, 1) := by decide +kernel
theorem d_M_herd_7 : decode prog_5_method_23_code 7 = .ok (.iconst 0, 1) := by decide +kernel
theorem d_M_herd_8 : decode prog_5_method_23_code 8 = .ok (.istore_n 3, 1) := by decide +kernel
theorem d_M_herd_9 : decode prog_5_method_23_code 9 = .ok (.iload_n 3, 1) := by decide +kernel
theorem d_M_herd_10 : decode prog_5_method_23_code 10 = .ok (.aload_n 0, 1) := by decide +kernel
theorem d_M_herd_11 : decode prog_5_method_23_code 11 = .ok (.getfield 61, 3) := by decide +kernel
theorem d_M_herd_14 : decode prog_5_method_23_code 14 = .ok (.if_icmp .ge 57, 3) := by decide +kernel
theorem d_M_herd_17 : decode prog_5_method_23_code 17 = .ok (.iconst 0, 1) := by decide +kernel
theorem d_M_herd_18 : decode prog_5_method_23_code 18 = .ok (.istore 4, 2) := by decide +kernel
theorem d_M_herd_20 : decode prog_5_method_23_code 20 = .ok (.iload 4, 2) := by decide +kernel
theorem d_M_herd_22 : decode prog_5_method_23_code 22 = .ok (.iload_n 3, 1) := by decide +kernel
theorem d_M_herd_23 : decode prog_5_method_23_code 23 = .ok (.if_icmp .gt 42, 3) := by decide +kernel
theorem d_M_herd_26 : decode prog_5_method_23_code 26 = .ok (.aload_n 0, 1) := by decide +kernel
theorem d_M_herd_27 : decode prog_5_method_23_code 27 = .ok (.getfield 22, 3) := by decide +kernel
theorem d_M_herd_30 : decode prog_5_method_23_code 30 = .ok (.iload 4, 2) := by decide +kernel
theorem d_M_herd_32 : decode prog_5_method_23_code 32 = .ok (.baload, 1) := by decide +kernel
theorem d_M_herd_33 : decode prog_5_method_23_code 33 = .ok (.ifCond .ne 12, 3) := by decide +kernel
theorem d_M_herd_36 : decode prog_5_method_23_code 36 = .ok (.aload_n 0, 1) := by decide +kernel
theorem d_M_herd_37 : decode prog_5_method_23_code 37 = .ok (.getfield 22, 3) := by decide +kernel
theorem d_M_herd_40 : decode prog_5_method_23_code 40 = .ok (.iload_n 3, 1) := by decide +kernel
theorem d_M_herd_41 : decode prog_5_method_23_code 41 = .ok (.baload, 1) := by decide +kernel
theorem d_M_herd_42 : decode prog_5_method_23_code 42 = .ok (.ifCond .eq 7, 3) := by decide +kernel
theorem d_M_herd_45 : decode prog_5_method_23_code 45 = .ok (.lload_n 1, 1) := by decide +kernel
theorem d_M_herd_46 : decode prog_5_method_23_code 46 = .ok (.goto 12, 3) := by decide +kernel
theorem d_M_herd_49 : decode prog_5_method_23_code 49 = .ok (.lload_n 1, 1) := by decide +kernel
theorem d_M_herd_50 : decode prog_5_method_23_code 50 = .ok (.aload_n 0, 1) := by decide +kernel
theorem d_M_herd_51 : decode prog_5_method_23_code 51 = .ok (.iload 4, 2) := by decide +kernel
theorem d_M_herd_53 : decode prog_5_method_23_code 53 = .ok (.iload_n 3, 1) := by decide +kernel
theorem d_M_herd_54 : decode prog_5_method_23_code 54 = .ok (.invokevirtual 68, 3) := by decide +kernel
theorem d_M_herd_57 : decode prog_5_method_23_code 57 = .ok (.ladd, 1) := by decide +kernel
theorem d_M_herd_58 : decode prog_5_method_23_code 58 = .ok (.lstore_n 1, 1) := by decide +kernel
theorem d_M_herd_59 : decode prog_5_method_23_code 59 = .ok (.iinc 4 1, 3) := by decide +kernel
theorem d_M_herd_62 : decode prog_5_method_23_code 62 = .ok (.goto (-42), 3) := by decide +kernel
theorem d_M_herd_65 : decode prog_5_method_23_code 65 = .ok (.iinc 3 1, 3) := by decide +kernel
theorem d_M_herd_68 : decode prog_5_method_23_code 68 = .ok (.goto (-59), 3) := by decide +kernel
theorem d_M_herd_71 : decode prog_5_method_23_code 71 = .ok (.lload_n 1, 1) := by decide +kernel
theorem d_M_herd_72 : decode prog_5_method_23_code 72 = .ok (.lreturn, 1) := by decide +kernel
theorem d_M_linesOf_0 : decode prog_5_method_24_code 0 = .ok (.iconst 0, 1) := by decide +kernel
theorem d_M_linesOf_1 : decode prog_5_method_24_code 1 = .ok (.istore_n 3, 1) := by decide +kernel
theorem d_M_linesOf_2 : decode prog_5_method_24_code 2 = .ok (.iload_n 3, 1) := by decide +kernel
theorem d_M_linesOf_3 : decode prog_5_method_24_code 3 = .ok (.aload_n 0, 1) := by decide +kernel
theorem d_M_linesOf_4 : decode prog_5_method_24_code 4 = .ok (.getfield 61, 3) := by decide +kernel
theorem d_M_linesOf_7 : decode prog_5_method_24_code 7 = .ok (.if_icmp .ge 81, 3) := by decide +kernel
theorem d_M_linesOf_10 : decode prog_5_method_24_code 10 = .ok (.aload_n 0, 1) := by decide +kernel
theorem d_M_linesOf_11 : decode prog_5_method_24_code 11 = .ok (.getfield 7, 3) := by decide +kernel
theorem d_M_linesOf_14 : decode prog_5_method_24_code 14 = .ok (.iload_n 3, 1) := by decide +kernel
theorem d_M_linesOf_15 : decode prog_5_method_24_code 15 = .ok (.iaload, 1) := by decide +kernel
theorem d_M_linesOf_16 : decode prog_5_method_24_code 16 = .ok (.ifCond .ge 7, 3) := by decide +kernel
theorem d_M_linesOf_19 : decode prog_5_method_24_code 19 = .ok (.iconst 0, 1) := by decide +kernel
theorem d_M_linesOf_20 : decode prog_5_method_24_code 20 = .ok (.goto 14, 3) := by decide +kernel
theorem d_M_linesOf_23 : decode prog_5_method_24_code 23 = .ok (.aload_n 0, 1) := by decide +kernel
theorem d_M_linesOf_24 : decode prog_5_method_24_code 24 = .ok (.getfield 39, 3) := by decide +kernel
theorem d_M_linesOf_27 : decode prog_5_method_24_code 27 = .ok (.aload_n 0, 1) := by decide +kernel
theorem d_M_linesOf_28 : decode prog_5_method_24_code 28 = .ok (.getfield 7, 3) := by decide +kernel
theorem d_M_linesOf_31 : decode prog_5_method_24_code 31 = .ok (.iload_n 3, 1) := by decide +kernel
theorem d_M_linesOf_32 : decode prog_5_method_24_code 32 = .ok (.iaload, 1) := by decide +kernel
theorem d_M_linesOf_33 : decode prog_5_method_24_code 33 = .ok (.iaload, 1) := by decide +kernel
theorem d_M_linesOf_34 : decode prog_5_method_24_code 34 = .ok (.istore 4, 2) := by decide +kernel
theorem d_M_linesOf_36 : decode prog_5_method_24_code 36 = .ok (.aload_n 0, 1) := by decide +kernel
theorem d_M_linesOf_37 : decode prog_5_method_24_code 37 = .ok (.getfield 13, 3) := by decide +kernel
theorem d_M_linesOf_40 : decode prog_5_method_24_code 40 = .ok (.iload_n 3, 1) := by decide +kernel
theorem d_M_linesOf_41 : decode prog_5_method_24_code 41 = .ok (.iaload, 1) := by decide +kernel
theorem d_M_linesOf_42 : decode prog_5_method_24_code 42 = .ok (.ifCond .ge 7, 3) := by decide +kernel
theorem d_M_linesOf_45 : decode prog_5_method_24_code 45 = .ok (.iconst 0, 1) := by decide +kernel
theorem d_M_linesOf_46 : decode prog_5_method_24_code 46 = .ok (.goto 14, 3) := by decide +kernel
theorem d_M_linesOf_49 : decode prog_5_method_24_code 49 = .ok (.aload_n 0, 1) := by decide +kernel
theorem d_M_linesOf_50 : decode prog_5_method_24_code 50 = .ok (.getfield 39, 3) := by decide +kernel
theorem d_M_linesOf_53 : decode prog_5_method_24_code 53 = .ok (.aload_n 0, 1) := by decide +kernel
theorem d_M_linesOf_54 : decode prog_5_method_24_code 54 = .ok (.getfield 13, 3) := by decide +kernel
theorem d_M_linesOf_57 : decode prog_5_method_24_code 57 = .ok (.iload_n 3, 1) := by decide +kernel
theorem d_M_linesOf_58 : decode prog_5_method_24_code 58 = .ok (.iaload, 1) := by decide +kernel
theorem d_M_linesOf_59 : decode prog_5_method_24_code 59 = .ok (.iaload, 1) := by decide +kernel
theorem d_M_linesOf_60 : decode prog_5_method_24_code 60 = .ok (.istore 5, 2) := by decide +kernel
theorem d_M_linesOf_62 : decode prog_5_method_24_code 62 = .ok (.aload_n 0, 1) := by decide +kernel
theorem d_M_linesOf_63 : decode prog_5_method_24_code 63 = .ok (.getfield 39, 3) := by decide +kernel
theorem d_M_linesOf_66 : decode prog_5_method_24_code 66 = .ok (.iload_n 3, 1) := by decide +kernel
theorem d_M_linesOf_67 : decode prog_5_method_24_code 67 = .ok (.iload_n 3, 1) := by decide +kernel
theorem d_M_linesOf_68 : decode prog_5_method_24_code 68 = .ok (.iload_n 1, 1) := by decide +kernel
theorem d_M_linesOf_69 : decode prog_5_method_24_code 69 = .ok (.if_icmp .ne 7, 3) := by decide +kernel
theorem d_M_linesOf_72 : decode prog_5_method_24_code 72 = .ok (.iconst 1, 1) := by decide +kernel
theorem d_M_linesOf_73 : decode prog_5_method_24_code 73 = .ok (.goto 8, 3) := by decide +kernel
theorem d_M_linesOf_76 : decode prog_5_method_24_code 76 = .ok (.iload 4, 2) := by decide +kernel
theorem d_M_linesOf_78 : decode prog_5_method_24_code 78 = .ok (.iload 5, 2) := by decide +kernel
theorem d_M_linesOf_80 : decode prog_5_method_24_code 80 = .ok (.iadd, 1) := by decide +kernel
theorem d_M_linesOf_81 : decode prog_5_method_24_code 81 = .ok (.iastore, 1) := by decide +kernel
theorem d_M_linesOf_82 : decode prog_5_method_24_code 82 = .ok (.iinc 3 1, 3) := by decide +kernel
theorem d_M_linesOf_85 : decode prog_5_method_24_code 85 = .ok (.goto (-83), 3) := by decide +kernel
theorem d_M_linesOf_88 : decode prog_5_method_24_code 88 = .ok (.aload_n 0, 1) := by decide +kernel
theorem d_M_linesOf_89 : decode prog_5_method_24_code 89 = .ok (.getfield 39, 3) := by decide +kernel
theorem d_M_linesOf_92 : decode prog_5_method_24_code 92 = .ok (.iload_n 2, 1) := by decide +kernel
theorem d_M_linesOf_93 : decode prog_5_method_24_code 93 = .ok (.iaload, 1) := by decide +kernel
theorem d_M_linesOf_94 : decode prog_5_method_24_code 94 = .ok (.ireturn, 1) := by decide +kernel
theorem d_M_ancestorsOf_0 : decode prog_5_method_25_code 0 = .ok (.iconst 0, 1) := by decide +kernel
theorem d_M_ancestorsOf_1 : decode prog_5_method_25_code 1 = .ok (.istore_n 2, 1) := by decide +kernel
theorem d_M_ancestorsOf_2 : decode prog_5_method_25_code 2 = .ok (.iconst 0, 1) := by decide +kernel
theorem d_M_ancestorsOf_3 : decode prog_5_method_25_code 3 = .ok (.istore_n 3, 1) := by decide +kernel
theorem d_M_ancestorsOf_4 : decode prog_5_method_25_code 4 = .ok (.iload_n 3, 1) := by decide +kernel
theorem d_M_ancestorsOf_5 : decode prog_5_method_25_code 5 = .ok (.aload_n 0, 1) := by decide +kernel
theorem d_M_ancestorsOf_6 : decode prog_5_method_25_code 6 = .ok (.getfield 61, 3) := by decide +kernel
theorem d_M_ancestorsOf_9 : decode prog_5_method_25_code 9 = .ok (.if_icmp .ge 33, 3) := by decide +kernel
theorem d_M_ancestorsOf_12 : decode prog_5_method_25_code 12 = .ok (.iload_n 3, 1) := by decide +kernel
theorem d_M_ancestorsOf_13 : decode prog_5_method_25_code 13 = .ok (.iload_n 1, 1) := by decide +kernel
theorem d_M_ancestorsOf_14 : decode prog_5_method_25_code 14 = .ok (.if_icmp .eq 20, 3) := by decide +kernel
theorem d_M_ancestorsOf_17 : decode prog_5_method_25_code 17 = .ok (.aload_n 0, 1) := by decide +kernel
theorem d_M_ancestorsOf_18 : decode prog_5_method_25_code 18 = .ok (.iload_n 3, 1) := by decide +kernel
theorem d_M_ancestorsOf_19 : decode prog_5_method_25_code 19 = .ok (.iload_n 1, 1) := by decide +kernel
theorem d_M_ancestorsOf_20 : decode prog_5_method_25_code 20 = .ok (.invokevirtual 101, 3) := by decide +kernel
theorem d_M_ancestorsOf_23 : decode prog_5_method_25_code 23 = .ok (.ifCond .le 11, 3) := by decide +kernel
theorem d_M_ancestorsOf_26 : decode prog_5_method_25_code 26 = .ok (.iload_n 2, 1) := by decide +kernel
theorem d_M_ancestorsOf_27 : decode prog_5_method_25_code 27 = .ok (.iconst 1, 1) := by decide +kernel
theorem d_M_ancestorsOf_28 : decode prog_5_method_25_code 28 = .ok (.iload_n 3, 1) := by decide +kernel
theorem d_M_ancestorsOf_29 : decode prog_5_method_25_code 29 = .ok (.ishl, 1) := by decide +kernel
theorem d_M_ancestorsOf_30 : decode prog_5_method_25_code 30 = .ok (.ior, 1) := by decide +kernel
