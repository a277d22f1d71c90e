theorem d_P_size_0 : decode prog_3_method_2_code 0 = .ok (.aload_n 0, 1) := by decide +kernel
theorem d_P_size_1 : decode prog_3_method_2_code 1 = .ok (.getfield 9, 3) := by decide +kernel
theorem d_P_size_4 : decode prog_3_method_2_code 4 = .ok (.ireturn, 1) := by decide +kernel
theorem d_H_isAnimal_0 : decode prog_1_method_23_code 0 = .ok (.iload_n 1, 1) := by decide +kernel
theorem d_H_isAnimal_1 : decode prog_1_method_23_code 1 = .ok (.ifCond .lt 18, 3) := by decide +kernel
theorem d_H_isAnimal_4 : decode prog_1_method_23_code 4 = .ok (.iload_n 1, 1) := by decide +kernel
theorem d_H_isAnimal_5 : decode prog_1_method_23_code 5 = .ok (.aload_n 0, 1) := by decide +kernel
theorem d_H_isAnimal_6 : decode prog_1_method_23_code 6 = .ok (.getfield 10, 3) := by decide +kernel
theorem d_H_isAnimal_9 : decode prog_1_method_23_code 9 = .ok (.invokevirtual 62, 3) := by decide +kernel
theorem d_H_isAnimal_12 : decode prog_1_method_23_code 12 = .ok (.if_icmp .ge 7, 3) := by decide +kernel
theorem d_H_isAnimal_15 : decode prog_1_method_23_code 15 = .ok (.iconst 1, 1) := by decide +kernel
theorem d_H_isAnimal_16 : decode prog_1_method_23_code 16 = .ok (.goto 4, 3) := by decide +kernel
theorem d_H_isAnimal_19 : decode prog_1_method_23_code 19 = .ok (.iconst 0, 1) := by decide +kernel
theorem d_H_isAnimal_20 : decode prog_1_method_23_code 20 = .ok (.ireturn, 1) := by decide +kernel
theorem d_H_requireAnimal_0 : decode prog_1_method_26_code 0 = .ok (.aload_n 0, 1) := by decide +kernel
theorem d_H_requireAnimal_1 : decode prog_1_method_26_code 1 = .ok (.iload_n 1, 1) := by decide +kernel
theorem d_H_requireAnimal_2 : decode prog_1_method_26_code 2 = .ok (.invokevirtual 175, 3) := by decide +kernel
theorem d_H_requireAnimal_5 : decode prog_1_method_26_code 5 = .ok (.ifCond .ne 13, 3) := by decide +kernel
theorem d_H_requireAnimal_8 : decode prog_1_method_26_code 8 = .ok (.new 150, 3) := by decide +kernel
theorem d_H_requireAnimal_11 : decode prog_1_method_26_code 11 = .ok (.dup, 1) := by decide +kernel
theorem d_H_requireAnimal_12 : decode prog_1_method_26_code 12 = .ok (.ldc 179, 2) := by decide +kernel
theorem d_H_requireAnimal_14 : decode prog_1_method_26_code 14 = .ok (.invokespecial 154, 3) := by decide +kernel
theorem d_H_requireAnimal_17 : decode prog_1_method_26_code 17 = .ok (.athrow, 1) := by decide +kernel
theorem d_H_requireAnimal_18 : decode prog_1_method_26_code 18 = .ok (.return_, 1) := by decide +kernel
theorem d_H_requireAnimalOrNone_0 : decode prog_1_method_27_code 0 = .ok (.iload_n 1, 1) := by decide +kernel
theorem d_H_requireAnimalOrNone_1 : decode prog_1_method_27_code 1 = .ok (.iconst (-1), 1) := by decide +kernel
theorem d_H_requireAnimalOrNone_2 : decode prog_1_method_27_code 2 = .ok (.if_icmp .eq 8, 3) := by decide +kernel
theorem d_H_requireAnimalOrNone_5 : decode prog_1_method_27_code 5 = .ok (.aload_n 0, 1) := by decide +kernel
theorem d_H_requireAnimalOrNone_6 : decode prog_1_method_27_code 6 = .ok (.iload_n 1, 1) := by decide +kernel
theorem d_H_requireAnimalOrNone_7 : decode prog_1_method_27_code 7 = .ok (.invokevirtual 75, 3) := by decide +kernel
theorem d_H_requireAnimalOrNone_10 : decode prog_1_method_27_code 10 = .ok (.return_, 1) := by decide +kernel
theorem d_H_isFitParent_0 : decode prog_1_method_25_code 0 = .ok (.iload_n 1, 1) := by decide +kernel
theorem d_H_isFitParent_1 : decode prog_1_method_25_code 1 = .ok (.iconst (-1), 1) := by decide +kernel
theorem d_H_isFitParent_2 : decode prog_1_method_25_code 2 = .ok (.if_icmp .eq 23, 3) := by decide +kernel
theorem d_H_isFitParent_5 : decode prog_1_method_25_code 5 = .ok (.aload_n 0, 1) := by decide +kernel
theorem d_H_isFitParent_6 : decode prog_1_method_25_code 6 = .ok (.getfield 23, 3) := by decide +kernel
theorem d_H_isFitParent_9 : decode prog_1_method_25_code 9 = .ok (.iload_n 1, 1) := by decide +kernel
theorem d_H_isFitParent_10 : decode prog_1_method_25_code 10 = .ok (.iaload, 1) := by decide +kernel
theorem d_H_isFitParent_11 : decode prog_1_method_25_code 11 = .ok (.iload_n 2, 1) := by decide +kernel
theorem d_H_isFitParent_12 : decode prog_1_method_25_code 12 = .ok (.if_icmp .ne 17, 3) := by decide +kernel
theorem d_H_isFitParent_15 : decode prog_1_method_25_code 15 = .ok (.aload_n 0, 1) := by decide +kernel
theorem d_H_isFitParent_16 : decode prog_1_method_25_code 16 = .ok (.getfield 27, 3) := by decide +kernel
theorem d_H_isFitParent_19 : decode prog_1_method_25_code 19 = .ok (.iload_n 1, 1) := by decide +kernel
theorem d_H_isFitParent_20 : decode prog_1_method_25_code 20 = .ok (.iaload, 1) := by decide +kernel
theorem d_H_isFitParent_21 : decode prog_1_method_25_code 21 = .ok (.iload_n 3, 1) := by decide +kernel
theorem d_H_isFitParent_22 : decode prog_1_method_25_code 22 = .ok (.if_icmp .ge 7, 3) := by decide +kernel
theorem d_H_isFitParent_25 : decode prog_1_method_25_code 25 = .ok (.iconst 1, 1) := by decide +kernel
theorem d_H_isFitParent_26 : decode prog_1_method_25_code 26 = .ok (.goto 4, 3) := by decide +kernel
theorem d_H_isFitParent_29 : decode prog_1_method_25_code 29 = .ok (.iconst 0, 1) := by decide +kernel
theorem d_H_isFitParent_30 : decode prog_1_method_25_code 30 = .ok (.ireturn, 1) := by decide +kernel
theorem d_H_requireFitParents_0 : decode prog_1_method_28_code 0 = .ok (.aload_n 0, 1) := by decide +kernel
theorem d_H_requireFitParents_1 : decode prog_1_method_28_code 1 = .ok (.iload_n 1, 1) := by decide +kernel
theorem d_H_requireFitParents_2 : decode prog_1_method_28_code 2 = .ok (.iconst 0, 1) := by decide +kernel
theorem d_H_requireFitParents_3 : decode prog_1_method_28_code 3 = .ok (.iload_n 3, 1) := by decide +kernel
theorem d_H_requireFitParents_4 : decode prog_1_method_28_code 4 = .ok (.invokevirtual 181, 3) := by decide +kernel
theorem d_H_requireFitParents_7 : decode prog_1_method_28_code 7 = .ok (.ifCond .eq 13, 3) := by decide +kernel
theorem d_H_requireFitParents_10 : decode prog_1_method_28_code 10 = .ok (.aload_n 0, 1) := by decide +kernel
theorem d_H_requireFitParents_11 : decode prog_1_method_28_code 11 = .ok (.iload_n 2, 1) := by decide +kernel
theorem d_H_requireFitParents_12 : decode prog_1_method_28_code 12 = .ok (.iconst 1, 1) := by decide +kernel
theorem d_H_requireFitParents_13 : decode prog_1_method_28_code 13 = .ok (.iload_n 3, 1) := by decide +kernel
theorem d_H_requireFitParents_14 : decode prog_1_method_28_code 14 = .ok (.invokevirtual 181, 3) := by decide +kernel
theorem d_H_requireFitParents_17 : decode prog_1_method_28_code 17 = .ok (.ifCond .ne 13, 3) := by decide +kernel
theorem d_H_requireFitParents_20 : decode prog_1_method_28_code 20 = .ok (.new 78, 3) := by decide +kernel
theorem d_H_requireFitParents_23 : decode prog_1_method_28_code 23 = .ok (.dup, 1) := by decide +kernel
theorem d_H_requireFitParents_24 : decode prog_1_method_28_code 24 = .ok (.ldc 185, 2) := by decide +kernel
theorem d_H_requireFitParents_26 : decode prog_1_method_28_code 26 = .ok (.invokespecial 82, 3) := by decide +kernel
theorem d_H_requireFitParents_29 : decode prog_1_method_28_code 29 = .ok (.athrow, 1) := by decide +kernel
theorem d_H_requireFitParents_30 : decode prog_1_method_28_code 30 = .ok (.return_, 1) := by decide +kernel
theorem d_P_isFounder_0 : decode prog_3_method_8_code 0 = .ok (.aload_n 0, 1) := by decide +kernel
theorem d_P_isFounder_1 : decode prog_3_method_8_code 1 = .ok (.getfield 15, 3) := by decide +kernel
theorem d_P_isFounder_4 : decode prog_3_method_8_code 4 = .ok (.iload_n 1, 1) := by decide +kernel
theorem d_P_isFounder_5 : decode prog_3_method_8_code 5 = .ok (.iaload, 1) := by decide +kernel
theorem d_P_isFounder_6 : decode prog_3_method_8_code 6 = .ok (.iconst (-1), 1) := by decide +kernel
theorem d_P_isFounder_7 : decode prog_3_method_8_code 7 = .ok (.if_icmp .ne 17, 3) := by decide +kernel
theorem d_P_isFounder_10 : decode prog_3_method_8_code 10 = .ok (.aload_n 0, 1) := by decide +kernel
theorem d_P_isFounder_11 : decode prog_3_method_8_code 11 = .ok (.getfield 19, 3) := by decide +kernel
theorem d_P_isFounder_14 : decode prog_3_method_8_code 14 = .ok (.iload_n 1, 1) := by decide +kernel
theorem d_P_isFounder_15 : decode prog_3_method_8_code 15 = .ok (.iaload, 1) := by decide +kernel
theorem d_P_isFounder_16 : decode prog_3_method_8_code 16 = .ok (.iconst (-1), 1) := by decide +kernel
theorem d_P_isFounder_17 : decode prog_3_method_8_code 17 = .ok (.if_icmp .ne 7, 3) := by decide +kernel
theorem d_P_isFounder_20 : decode prog_3_method_8_code 20 = .ok (.iconst 1, 1) := by decide +kernel
theorem d_P_isFounder_21 : decode prog_3_method_8_code 21 = .ok (.goto 4, 3) := by decide +kernel
theorem d_P_isFounder_24 : decode prog_3_method_8_code 24 = .ok (.iconst 0, 1) := by decide +kernel
theorem d_P_isFounder_25 : decode prog_3_method_8_code 25 = .ok (.ireturn, 1) := by decide +kernel
theorem d_P_depthOrZero_0 : decode prog_3_method_18_code 0 = .ok (.iload_n 1, 1) := by decide +kernel
theorem d_P_depthOrZero_1 : decode prog_3_method_18_code 1 = .ok (.iconst (-1), 1) := by decide +kernel
theorem d_P_depthOrZero_2 : decode prog_3_method_18_code 2 = .ok (.if_icmp .ne 7, 3) := by decide +kernel
theorem d_P_depthOrZero_5 : decode prog_3_method_18_code 5 = .ok (.iconst 0, 1) := by decide +kernel
theorem d_P_depthOrZero_6 : decode prog_3_method_18_code 6 = .ok (.goto 9, 3) := by decide +kernel
theorem d_P_depthOrZero_9 : decode prog_3_method_18_code 9 = .ok (.aload_n 0, 1) := by decide +kernel
theorem d_P_depthOrZero_10 : decode prog_3_method_18_code 10 = .ok (.getfield 22, 3) := by decide +kernel
theorem d_P_depthOrZero_13 : decode prog_3_method_18_code 13 = .ok (.iload_n 1, 1) := by decide +kernel
theorem d_P_depthOrZero_14 : decode prog_3_method_18_code 14 = .ok (.iaload, 1) := by decide +kernel
theorem d_P_depthOrZero_15 : decode prog_3_method_18_code 15 = .ok (.ireturn, 1) := by decide +kernel
theorem d_P_withForebears_0 : decode prog_3_method_19_code 0 = .ok (.iload_n 1, 1) := by decide +kernel
theorem d_P_withForebears_1 : decode prog_3_method_19_code 1 = .ok (.iconst (-1), 1) := by decide +kernel
theorem d_P_withForebears_2 : decode prog_3_method_19_code 2 = .ok (.if_icmp .ne 7, 3) := by decide +kernel
theorem d_P_withForebears_5 : decode prog_3_method_19_code 5 = .ok (.iconst 0, 1) := by decide +kernel
theorem d_P_withForebears_6 : decode prog_3_method_19_code 6 = .ok (.goto 13, 3) := by decide +kernel
theorem d_P_withForebears_9 : decode prog_3_method_19_code 9 = .ok (.aload_n 0, 1) := by decide +kernel
theorem d_P_withForebears_10 : decode prog_3_method_19_code 10 = .ok (.getfield 25, 3) := by decide +kernel
theorem d_P_withForebears_13 : decode prog_3_method_19_code 13 = .ok (.iload_n 1, 1) := by decide +kernel
theorem d_P_withForebears_14 : decode prog_3_method_19_code 14 = .ok (.iaload, 1) := by decide +kernel
theorem d_P_withForebears_15 : decode prog_3_method_19_code 15 = .ok (.iconst 1, 1) := by decide +kernel
theorem d_P_withForebears_16 : decode prog_3_method_19_code 16 = .ok (.iload_n 1, 1) := by decide +kernel
theorem d_P_withForebears_17 : decode prog_3_method_19_code 17 = .ok (.ishl, 1) := by decide +kernel
theorem d_P_withForebears_18 : decode prog_3_method_19_code 18 = .ok (.ior, 1) := by decide +kernel
theorem d_P_withForebears_19 : decode prog_3_method_19_code 19 = .ok (.ireturn, 1) := by decide +kernel
theorem d_P_kinOf_0 : decode prog_3_method_9_code 0 = .ok (.iload_n 1, 1) := by decide +kernel
theorem d_P_kinOf_1 : decode prog_3_method_9_code 1 = .ok (.iconst (-1), 1) := by decide +kernel
theorem d_P_kinOf_2 : decode prog_3_method_9_code 2 = .ok (.if_icmp .eq 8, 3) := by decide +kernel
theorem d_P_kinOf_5 : decode prog_3_method_9_code 5 = .ok (.iload_n 2, 1) := by decide +kernel
theorem d_P_kinOf_6 : decode prog_3_method_9_code 6 = .ok (.iconst (-1), 1) := by decide +kernel
theorem d_P_kinOf_7 : decode prog_3_method_9_code 7 = .ok (.if_icmp .ne 7, 3) := by decide +kernel
theorem d_P_kinOf_10 : decode prog_3_method_9_code 10 = .ok (.lconst 0, 1) := by decide +kernel
theorem d_P_kinOf_11 : decode prog_3_method_9_code 11 = .ok (.goto 11, 3) := by decide +kernel
theorem d_P_kinOf_14 : decode prog_3_method_9_code 14 = .ok (.aload_n 0, 1) := by decide +kernel
theorem d_P_kinOf_15 : decode prog_3_method_9_code 15 = .ok (.getfield 30, 3) := by decide +kernel
theorem d_P_kinOf_18 : decode prog_3_method_9_code 18 = .ok (.iload_n 1, 1) := by decide +kernel
theorem d_P_kinOf_19 : decode prog_3_method_9_code 19 = .ok (.aaload, 1) := by decide +kernel
theorem d_P_kinOf_20 : decode prog_3_method_9_code 20 = .ok (.iload_n 2, 1) := by decide +kernel
theorem d_P_kinOf_21 : decode prog_3_method_9_code 21 = .ok (.laload, 1) := by decide +kernel
theorem d_P_kinOf_22 : decode prog_3_method_9_code 22 = .ok (.lreturn, 1) := by decide +kernel
theorem d_P_renew_0 : decode prog_3_method_17_code 0 = .ok (.aload_n 0, 1) := by decide +kernel
theorem d_P_renew_1 : decode prog_3_method_17_code 1 = .ok (.getfield 15, 3) := by decide +kernel
theorem d_P_renew_4 : decode prog_3_method_17_code 4 = .ok (.iload_n 1, 1) := by decide +kernel
theorem d_P_renew_5 : decode prog_3_method_17_code 5 = .ok (.iaload, 1) := by decide +kernel
theorem d_P_renew_6 : decode prog_3_method_17_code 6 = .ok (.istore_n 2, 1) := by decide +kernel
theorem d_P_renew_7 : decode prog_3_method_17_code 7 = .ok (.aload_n 0, 1) := by decide +kernel
theorem d_P_renew_8 : decode prog_3_method_17_code 8 = .ok (.getfield 19, 3) := by decide +kernel
theorem d_P_renew_11 : decode prog_3_method_17_code 11 = .ok (.iload_n 1, 1) := by decide +kernel
theorem d_P_renew_12 : decode prog_3_method_17_code 12 = .ok (.iaload, 1) := by decide +kernel
theorem d_P_renew_13 : decode prog_3_method_17_code 13 = .ok (.istore_n 3, 1) := by decide +kernel
theorem d_P_renew_14 : decode prog_3_method_17_code 14 = .ok (.aload_n 0, 1) := by decide +kernel
theorem d_P_renew_15 : decode prog_3_method_17_code 15 = .ok (.getfield 22, 3) := by decide +kernel
theorem d_P_renew_18 : decode prog_3_method_17_code 18 = .ok (.iload_n 1, 1) := by decide +kernel
theorem d_P_renew_19 : decode prog_3_method_17_code 19 = .ok (.aload_n 0, 1) := by decide +kernel
theorem d_P_renew_20 : decode prog_3_method_17_code 20 = .ok (.iload_n 1, 1) := by decide +kernel
theorem d_P_renew_21 : decode prog_3_method_17_code 21 = .ok (.invokevirtual 55, 3) := by decide +kernel
theorem d_P_renew_24 : decode prog_3_method_17_code 24 = .ok (.ifCond .eq 7, 3) := by decide +kernel
theorem d_P_renew_27 : decode prog_3_method_17_code 27 = .ok (.iconst 0, 1) := by decide +kernel
theorem d_P_renew_28 : decode prog_3_method_17_code 28 = .ok (.goto 18, 3) := by decide +kernel
theorem d_P_renew_31 : decode prog_3_method_17_code 31 = .ok (.iconst 1, 1) := by decide +kernel
theorem d_P_renew_32 : decode prog_3_method_17_code 32 = .ok (.aload_n 0, 1) := by decide +kernel
theorem d_P_renew_33 : decode prog_3_method_17_code 33 = .ok (.iload_n 2, 1) := by decide +kernel
theorem d_P_renew_34 : decode prog_3_method_17_code 34 = .ok (.invokevirtual 70, 3) := by decide +kernel
theorem d_P_renew_37 : decode prog_3_method_17_code 37 = .ok (.aload_n 0, 1) := by decide +kernel
theorem d_P_renew_38 : decode prog_3_method_17_code 38 = .ok (.iload_n 3, 1) := by decide +kernel
theorem d_P_renew_39 : decode prog_3_method_17_code 39 = .ok (.invokevirtual 70, 3) := by decide +kernel
theorem d_P_renew_42 : decode prog_3_method_17_code 42 = .ok (.invokestatic 73, 3) := by decide +kernel
theorem d_P_renew_45 : decode prog_3_method_17_code 45 = .ok (.iadd, 1) := by decide +kernel
theorem d_P_renew_46 : decode prog_3_method_17_code 46 = .ok (.iastore, 1) := by decide +kernel
theorem d_P_renew_47 : decode prog_3_method_17_code 47 = .ok (.aload_n 0, 1) := by decide +kernel
theorem d_P_renew_48 : decode prog_3_method_17_code 48 = .ok (.getfield 25, 3) := by decide +kernel
theorem d_P_renew_51 : decode prog_3_method_17_code 51 = .ok (.iload_n 1, 1) := by decide +kernel
theorem d_P_renew_52 : decode prog_3_method_17_code 52 = .ok (.aload_n 0, 1) := by decide +kernel
theorem d_P_renew_53 : decode prog_3_method_17_code 53 = .ok (.iload_n 2, 1) := by decide +kernel
theorem d_P_renew_54 : decode prog_3_method_17_code 54 = .ok (.invokevirtual 66, 3) := by decide +kernel
theorem d_P_renew_57 : decode prog_3_method_17_code 57 = .ok (.aload_n 0, 1) := by decide +kernel
theorem d_P_renew_58 : decode prog_3_method_17_code 58 = .ok (.iload_n 3, 1) := by decide +kernel
theorem d_P_renew_59 : decode prog_3_method_17_code 59 = .ok (.invokevirtual 66, 3) := by decide +kernel
theorem d_P_renew_62 : decode prog_3_method_17_code 62 = .ok (.ior, 1) := by decide +kernel
theorem d_P_renew_63 : decode prog_3_method_17_code 63 = .ok (.iastore, 1) := by decide +kernel
theorem d_P_renew_64 : decode prog_3_method_17_code 64 = .ok (.iconst 0, 1) := by decide +kernel
theorem d_P_renew_65 : decode prog_3_method_17_code 65 = .ok (.istore 4, 2) := by decide +kernel
theorem d_P_renew_67 : decode prog_3_method_17_code 67 = .ok (.iload 4, 2) := by decide +kernel
theorem d_P_renew_69 : decode prog_3_method_17_code 69 = .ok (.iload_n 1, 1) := by decide +kernel
theorem d_P_renew_70 : decode prog_3_method_17_code 70 = .ok (.if_icmp .ge 52, 3) := by decide +kernel
theorem d_P_renew_73 : decode prog_3_method_17_code 73 = .ok (.aload_n 0, 1) := by decide +kernel
theorem d_P_renew_74 : decode prog_3_method_17_code 74 = .ok (.iload_n 2, 1) := by decide +kernel
theorem d_P_renew_75 : decode prog_3_method_17_code 75 = .ok (.iload 4, 2) := by decide +kernel
theorem d_P_renew_77 : decode prog_3_method_17_code 77 = .ok (.invokevirtual 78, 3) := by decide +kernel
theorem d_P_renew_80 : decode prog_3_method_17_code 80 = .ok (.aload_n 0, 1) := by decide +kernel
theorem d_P_renew_81 : decode prog_3_method_17_code 81 = .ok (.iload_n 3, 1) := by decide +kernel
theorem d_P_renew_82 : decode prog_3_method_17_code 82 = .ok (.iload 4, 2) := by decide +kernel
theorem d_P_renew_84 : decode prog_3_method_17_code 84 = .ok (.invokevirtual 78, 3) := by decide +kernel
theorem d_P_renew_87 : decode prog_3_method_17_code 87 = .ok (.ladd, 1) := by decide +kernel
theorem d_P_renew_88 : decode prog_3_method_17_code 88 = .ok (.ldc2_w 53, 3) := by decide +kernel
theorem d_P_renew_91 : decode prog_3_method_17_code 91 = .ok (.ldiv, 1) := by decide +kernel
theorem d_P_renew_92 : decode prog_3_method_17_code 92 = .ok (.lstore 5, 2) := by decide +kernel
theorem d_P_renew_94 : decode prog_3_method_17_code 94 = .ok (.aload_n 0, 1) := by decide +kernel
theorem d_P_renew_95 : decode prog_3_method_17_code 95 = .ok (.getfield 30, 3) := by decide +kernel
theorem d_P_renew_98 : decode prog_3_method_17_code 98 = .ok (.iload_n 1, 1) := by decide +kernel
theorem d_P_renew_99 : decode prog_3_method_17_code 99 = .ok (.aaload, 1) := by decide +kernel
theorem d_P_renew_100 : decode prog_3_method_17_code 100 = .ok (.iload 4, 2) := by decide +kernel
theorem d_P_renew_102 : decode prog_3_method_17_code 102 = .ok (.lload 5, 2) := by decide +kernel
theorem d_P_renew_104 : decode prog_3_method_17_code 104 = .ok (.lastore, 1) := by decide +kernel
theorem d_P_renew_105 : decode prog_3_method_17_code 105 = .ok (.aload_n 0, 1) := by decide +kernel
theorem d_P_renew_106 : decode prog_3_method_17_code 106 = .ok (.getfield 30, 3) := by decide +kernel
theorem d_P_renew_109 : decode prog_3_method_17_code 109 = .ok (.iload 4, 2) := by decide +kernel
theorem d_P_renew_111 : decode prog_3_method_17_code 111 = .ok (.aaload, 1) := by decide +kernel
theorem d_P_renew_112 : decode prog_3_method_17_code 112 = .ok (.iload_n 1, 1) := by decide +kernel
theorem d_P_renew_113 : decode prog_3_method_17_code 113 = .ok (.lload 5, 2) := by decide +kernel
theorem d_P_renew_115 : decode prog_3_method_17_code 115 = .ok (.lastore, 1) := by decide +kernel
theorem d_P_renew_116 : decode prog_3_method_17_code 116 = .ok (.iinc 4 1, 3) := by decide +kernel
theorem d_P_renew_119 : decode prog_3_method_17_code 119 = .ok (.goto (-52), 3) := by decide +kernel
theorem d_P_renew_122 : decode prog_3_method_17_code 122 = .ok (.aload_n 0, 1) := by decide +kernel
theorem d_P_renew_123 : decode prog_3_method_17_code 123 = .ok (.getfield 33, 3) := by decide +kernel
theorem d_P_renew_126 : decode prog_3_method_17_code 126 = .ok (.iload_n 1, 1) := by decide +kernel
theorem d_P_renew_127 : decode prog_3_method_17_code 127 = .ok (.aload_n 0, 1) := by decide +kernel
theorem d_P_renew_128 : decode prog_3_method_17_code 128 = .ok (.iload_n 2, 1) := by decide +kernel
theorem d_P_renew_129 : decode prog_3_method_17_code 129 = .ok (.iload_n 3, 1) := by decide +kernel
theorem d_P_renew_130 : decode prog_3_method_17_code 130 = .ok (.invokevirtual 78, 3) := by decide +kernel
theorem d_P_renew_133 : decode prog_3_method_17_code 133 = .ok (.lastore, 1) := by decide +kernel
theorem d_P_renew_134 : decode prog_3_method_17_code 134 = .ok (.aload_n 0, 1) := by decide +kernel
theorem d_P_renew_135 : decode prog_3_method_17_code 135 = .ok (.getfield 30, 3) := by decide +kernel
theorem d_P_renew_138 : decode prog_3_method_17_code 138 = .ok (.iload_n 1, 1) := by decide +kernel
theorem d_P_renew_139 : decode prog_3_method_17_code 139 = .ok (.aaload, 1) := by decide +kernel
theorem d_P_renew_140 : decode prog_3_method_17_code 140 = .ok (.iload_n 1, 1) := by decide +kernel
theorem d_P_renew_141 : decode prog_3_method_17_code 141 = .ok (.ldc2_w 47, 3) := by decide +kernel
theorem d_P_renew_144 : decode prog_3_method_17_code 144 = .ok (.aload_n 0, 1) := by decide +kernel
theorem d_P_renew_145 : decode prog_3_method_17_code 145 = .ok (.getfield 33, 3) := by decide +kernel
theorem d_P_renew_148 : decode prog_3_method_17_code 148 = .ok (.iload_n 1, 1) := by decide +kernel
theorem d_P_renew_149 : decode prog_3_method_17_code 149 = .ok (.laload, 1) := by decide +kernel
theorem d_P_renew_150 : decode prog_3_method_17_code 150 = .ok (.ladd, 1) := by decide +kernel
theorem d_P_renew_151 : decode prog_3_method_17_code 151 = .ok (.ldc2_w 53, 3) := by decide +kernel
theorem d_P_renew_154 : decode prog_3_method_17_code 154 = .ok (.ldiv, 1) := by decide +kernel
theorem d_P_renew_155 : decode prog_3_method_17_code 155 = .ok (.lastore, 1) := by decide +kernel
theorem d_P_renew_156 : decode prog_3_method_17_code 156 = .ok (.return_, 1) := by decide +kernel
theorem d_P_append_0 : decode prog_3_method_3_code 0 = .ok (.aload_n 0, 1) := by decide +kernel
theorem d_P_append_1 : decode prog_3_method_3_code 1 = .ok (.getfield 9, 3) := by decide +kernel
theorem d_P_append_4 : decode prog_3_method_3_code 4 = .ok (.istore_n 3, 1) := by decide +kernel
theorem d_P_append_5 : decode prog_3_method_3_code 5 = .ok (.aload_n 0, 1) := by decide +kernel
theorem d_P_append_6 : decode prog_3_method_3_code 6 = .ok (.dup, 1) := by decide +kernel
theorem d_P_append_7 : decode prog_3_method_3_code 7 = .ok (.getfield 9, 3) := by decide +kernel
theorem d_P_append_10 : decode prog_3_method_3_code 10 = .ok (.iconst 1, 1) := by decide +kernel
theorem d_P_append_11 : decode prog_3_method_3_code 11 = .ok (.iadd, 1) := by decide +kernel
theorem d_P_append_12 : decode prog_3_method_3_code 12 = .ok (.putfield 9, 3) := by decide +kernel
theorem d_P_append_15 : decode prog_3_method_3_code 15 = .ok (.aload_n 0, 1) := by decide +kernel
theorem d_P_append_16 : decode prog_3_method_3_code 16 = .ok (.getfield 15, 3) := by decide +kernel
theorem d_P_append_19 : decode prog_3_method_3_code 19 = .ok (.iload_n 3, 1) := by decide +kernel
theorem d_P_append_20 : decode prog_3_method_3_code 20 = .ok (.iload_n 1, 1) := by decide +kernel
theorem d_P_append_21 : decode prog_3_method_3_code 21 = .ok (.iastore, 1) := by decide +kernel
theorem d_P_append_22 : decode prog_3_method_3_code 22 = .ok (.aload_n 0, 1) := by decide +kernel
theorem d_P_append_23 : decode prog_3_method_3_code 23 = .ok (.getfield 19, 3) := by decide +kernel
theorem d_P_append_26 : decode prog_3_method_3_code 26 = .ok (.iload_n 3, 1) := by decide +kernel
theorem d_P_append_27 : decode prog_3_method_3_code 27 = .ok (.iload_n 2, 1) := by decide +kernel
theorem d_P_append_28 : decode prog_3_method_3_code 28 = .ok (.iastore, 1) := by decide +kernel
theorem d_P_append_29 : decode prog_3_method_3_code 29 = .ok (.aload_n 0, 1) := by decide +kernel
theorem d_P_append_30 : decode prog_3_method_3_code 30 = .ok (.iload_n 3, 1) := by decide +kernel
theorem d_P_append_31 : decode prog_3_method_3_code 31 = .ok (.invokevirtual 43, 3) := by decide +kernel
theorem d_P_append_34 : decode prog_3_method_3_code 34 = .ok (.iload_n 3, 1) := by decide +kernel
theorem d_P_append_35 : decode prog_3_method_3_code 35 = .ok (.ireturn, 1) := by decide +kernel
theorem d_H_enter_0 : decode prog_1_method_2_code 0 = .ok (.iload_n 3, 1) := by decide +kernel
theorem d_H_enter_1 : decode prog_1_method_2_code 1 = .ok (.ifCond .eq 8, 3) := by decide +kernel
theorem d_H_enter_4 : decode prog_1_method_2_code 4 = .ok (.iload_n 3, 1) := by decide +kernel
theorem d_H_enter_5 : decode prog_1_method_2_code 5 = .ok (.iconst 1, 1) := by decide +kernel
theorem d_H_enter_6 : decode prog_1_method_2_code 6 = .ok (.if_icmp .ne 15, 3) := by decide +kernel
theorem d_H_enter_9 : decode prog_1_method_2_code 9 = .ok (.iload 4, 2) := by decide +kernel
theorem d_H_enter_11 : decode prog_1_method_2_code 11 = .ok (.ifCond .lt 10, 3) := by decide +kernel
theorem d_H_enter_14 : decode prog_1_method_2_code 14 = .ok (.iload 4, 2) := by decide +kernel
theorem d_H_enter_16 : decode prog_1_method_2_code 16 = .ok (.bipush 60, 2) := by decide +kernel
theorem d_H_enter_18 : decode prog_1_method_2_code 18 = .ok (.if_icmp .le 13, 3) := by decide +kernel
theorem d_H_enter_21 : decode prog_1_method_2_code 21 = .ok (.new 47, 3) := by decide +kernel
theorem d_H_enter_24 : decode prog_1_method_2_code 24 = .ok (.dup, 1) := by decide +kernel
theorem d_H_enter_25 : decode prog_1_method_2_code 25 = .ok (.ldc 49, 2) := by decide +kernel
theorem d_H_enter_27 : decode prog_1_method_2_code 27 = .ok (.invokespecial 51, 3) := by decide +kernel
theorem d_H_enter_30 : decode prog_1_method_2_code 30 = .ok (.athrow, 1) := by decide +kernel
theorem d_H_enter_31 : decode prog_1_method_2_code 31 = .ok (.aload_n 0, 1) := by decide +kernel
theorem d_H_enter_32 : decode prog_1_method_2_code 32 = .ok (.iload_n 1, 1) := by decide +kernel
theorem d_H_enter_33 : decode prog_1_method_2_code 33 = .ok (.invokevirtual 54, 3) := by decide +kernel
theorem d_H_enter_36 : decode prog_1_method_2_code 36 = .ok (.aload_n 0, 1) := by decide +kernel
theorem d_H_enter_37 : decode prog_1_method_2_code 37 = .ok (.iload_n 2, 1) := by decide +kernel
theorem d_H_enter_38 : decode prog_1_method_2_code 38 = .ok (.invokevirtual 54, 3) := by decide +kernel
theorem d_H_enter_41 : decode prog_1_method_2_code 41 = .ok (.aload_n 0, 1) := by decide +kernel
theorem d_H_enter_42 : decode prog_1_method_2_code 42 = .ok (.iload_n 1, 1) := by decide +kernel
theorem d_H_enter_43 : decode prog_1_method_2_code 43 = .ok (.iload_n 2, 1) := by decide +kernel
theorem d_H_enter_44 : decode prog_1_method_2_code 44 = .ok (.iload 4, 2) := by decide +kernel
theorem d_H_enter_46 : decode prog_1_method_2_code 46 = .ok (.invokevirtual 58, 3) := by decide +kernel
theorem d_H_enter_49 : decode prog_1_method_2_code 49 = .ok (.aload_n 0, 1) := by decide +kernel
theorem d_H_enter_50 : decode prog_1_method_2_code 50 = .ok (.getfield 10, 3) := by decide +kernel
theorem d_H_enter_53 : decode prog_1_method_2_code 53 = .ok (.invokevirtual 62, 3) := by decide +kernel
theorem d_H_enter_56 : decode prog_1_method_2_code 56 = .ok (.bipush 24, 2) := by decide +kernel
theorem d_H_enter_58 : decode prog_1_method_2_code 58 = .ok (.if_icmp .lt 13, 3) := by decide +kernel
theorem d_H_enter_61 : decode prog_1_method_2_code 61 = .ok (.new 66, 3) := by decide +kernel
theorem d_H_enter_64 : decode prog_1_method_2_code 64 = .ok (.dup, 1) := by decide +kernel
theorem d_H_enter_65 : decode prog_1_method_2_code 65 = .ok (.ldc 68, 2) := by decide +kernel
theorem d_H_enter_67 : decode prog_1_method_2_code 67 = .ok (.invokespecial 70, 3) := by decide +kernel
theorem d_H_enter_70 : decode prog_1_method_2_code 70 = .ok (.athrow, 1) := by decide +kernel
theorem d_H_enter_71 : decode prog_1_method_2_code 71 = .ok (.aload_n 0, 1) := by decide +kernel
theorem d_H_enter_72 : decode prog_1_method_2_code 72 = .ok (.getfield 10, 3) := by decide +kernel
theorem d_H_enter_75 : decode prog_1_method_2_code 75 = .ok (.iload_n 1, 1) := by decide +kernel
theorem d_H_enter_76 : decode prog_1_method_2_code 76 = .ok (.iload_n 2, 1) := by decide +kernel
theorem d_H_enter_77 : decode prog_1_method_2_code 77 = .ok (.invokevirtual 71, 3) := by decide +kernel
theorem d_H_enter_80 : decode prog_1_method_2_code 80 = .ok (.istore 5, 2) := by decide +kernel
theorem d_H_enter_82 : decode prog_1_method_2_code 82 = .ok (.aload_n 0, 1) := by decide +kernel
theorem d_H_enter_83 : decode prog_1_method_2_code 83 = .ok (.getfield 23, 3) := by decide +kernel
theorem d_H_enter_86 : decode prog_1_method_2_code 86 = .ok (.iload 5, 2) := by decide +kernel
theorem d_H_enter_88 : decode prog_1_method_2_code 88 = .ok (.iload_n 3, 1) := by decide +kernel
theorem d_H_enter_89 : decode prog_1_method_2_code 89 = .ok (.iastore, 1) := by decide +kernel
theorem d_H_enter_90 : decode prog_1_method_2_code 90 = .ok (.aload_n 0, 1) := by decide +kernel
theorem d_H_enter_91 : decode prog_1_method_2_code 91 = .ok (.getfield 27, 3) := by decide +kernel
theorem d_H_enter_94 : decode prog_1_method_2_code 94 = .ok (.iload 5, 2) := by decide +kernel
theorem d_H_enter_96 : decode prog_1_method_2_code 96 = .ok (.iload 4, 2) := by decide +kernel
theorem d_H_enter_98 : decode prog_1_method_2_code 98 = .ok (.iastore, 1) := by decide +kernel
theorem d_H_enter_99 : decode prog_1_method_2_code 99 = .ok (.aload_n 0, 1) := by decide +kernel
theorem d_H_enter_100 : decode prog_1_method_2_code 100 = .ok (.getfield 30, 3) := by decide +kernel
theorem d_H_enter_103 : decode prog_1_method_2_code 103 = .ok (.iload 5, 2) := by decide +kernel
theorem d_H_enter_105 : decode prog_1_method_2_code 105 = .ok (.iconst 1, 1) := by decide +kernel
theorem d_H_enter_106 : decode prog_1_method_2_code 106 = .ok (.bastore, 1) := by decide +kernel
theorem d_H_enter_107 : decode prog_1_method_2_code 107 = .ok (.iload 5, 2) := by decide +kernel
theorem d_H_enter_109 : decode prog_1_method_2_code 109 = .ok (.ireturn, 1) := by decide +kernel
theorem d_P_replaceParents_0 : decode prog_3_method_4_code 0 = .ok (.aload_n 0, 1) := by decide +kernel
theorem d_P_replaceParents_1 : decode prog_3_method_4_code 1 = .ok (.getfield 15, 3) := by decide +kernel
theorem d_P_replaceParents_4 : decode prog_3_method_4_code 4 = .ok (.iload_n 1, 1) := by decide +kernel
theorem d_P_replaceParents_5 : decode prog_3_method_4_code 5 = .ok (.iload_n 2, 1) := by decide +kernel
theorem d_P_replaceParents_6 : decode prog_3_method_4_code 6 = .ok (.iastore, 1) := by decide +kernel
theorem d_P_replaceParents_7 : decode prog_3_method_4_code 7 = .ok (.aload_n 0, 1) := by decide +kernel
theorem d_P_replaceParents_8 : decode prog_3_method_4_code 8 = .ok (.getfield 19, 3) := by decide +kernel
theorem d_P_replaceParents_11 : decode prog_3_method_4_code 11 = .ok (.iload_n 1, 1) := by decide +kernel
theorem d_P_replaceParents_12 : decode prog_3_method_4_code 12 = .ok (.iload_n 3, 1) := by decide +kernel
theorem d_P_replaceParents_13 : decode prog_3_method_4_code 13 = .ok (.iastore, 1) := by decide +kernel
theorem d_P_replaceParents_14 : decode prog_3_method_4_code 14 = .ok (.iconst 0, 1) := by decide +kernel
theorem d_P_replaceParents_15 : decode prog_3_method_4_code 15 = .ok (.istore 4, 2) := by decide +kernel
theorem d_P_replaceParents_17 : decode prog_3_method_4_code 17 = .ok (.iload_n 1, 1) := by decide +kernel
theorem d_P_replaceParents_18 : decode prog_3_method_4_code 18 = .ok (.istore 5, 2) := by decide +kernel
theorem d_P_replaceParents_20 : decode prog_3_method_4_code 20 = .ok (.iload 5, 2) := by decide +kernel
theorem d_P_replaceParents_22 : decode prog_3_method_4_code 22 = .ok (.aload_n 0, 1) := by decide +kernel
theorem d_P_replaceParents_23 : decode prog_3_method_4_code 23 = .ok (.getfield 9, 3) := by decide +kernel
theorem d_P_replaceParents_26 : decode prog_3_method_4_code 26 = .ok (.if_icmp .ge 40, 3) := by decide +kernel
theorem d_P_replaceParents_29 : decode prog_3_method_4_code 29 = .ok (.aload_n 0, 1) := by decide +kernel
theorem d_P_replaceParents_30 : decode prog_3_method_4_code 30 = .ok (.getfield 33, 3) := by decide +kernel
theorem d_P_replaceParents_33 : decode prog_3_method_4_code 33 = .ok (.iload 5, 2) := by decide +kernel
theorem d_P_replaceParents_35 : decode prog_3_method_4_code 35 = .ok (.laload, 1) := by decide +kernel
theorem d_P_replaceParents_36 : decode prog_3_method_4_code 36 = .ok (.lstore 6, 2) := by decide +kernel
theorem d_P_replaceParents_38 : decode prog_3_method_4_code 38 = .ok (.aload_n 0, 1) := by decide +kernel
theorem d_P_replaceParents_39 : decode prog_3_method_4_code 39 = .ok (.iload 5, 2) := by decide +kernel
theorem d_P_replaceParents_41 : decode prog_3_method_4_code 41 = .ok (.invokevirtual 43, 3) := by decide +kernel
theorem d_P_replaceParents_44 : decode prog_3_method_4_code 44 = .ok (.aload_n 0, 1) := by decide +kernel
theorem d_P_replaceParents_45 : decode prog_3_method_4_code 45 = .ok (.getfield 33, 3) := by decide +kernel
theorem d_P_replaceParents_48 : decode prog_3_method_4_code 48 = .ok (.iload 5, 2) := by decide +kernel
theorem d_P_replaceParents_50 : decode prog_3_method_4_code 50 = .ok (.laload, 1) := by decide +kernel
theorem d_P_replaceParents_51 : decode prog_3_method_4_code 51 = .ok (.lload 6, 2) := by decide +kernel
theorem d_P_replaceParents_53 : decode prog_3_method_4_code 53 = .ok (.lcmp, 1) := by decide +kernel
theorem d_P_replaceParents_54 : decode prog_3_method_4_code 54 = .ok (.ifCond .eq 6, 3) := by decide +kernel
theorem d_P_replaceParents_57 : decode prog_3_method_4_code 57 = .ok (.iinc 4 1, 3) := by decide +kernel
theorem d_P_replaceParents_60 : decode prog_3_method_4_code 60 = .ok (.iinc 5 1, 3) := by decide +kernel
theorem d_P_replaceParents_63 : decode prog_3_method_4_code 63 = .ok (.goto (-43), 3) := by decide +kernel
theorem d_P_replaceParents_66 : decode prog_3_method_4_code 66 = .ok (.iload 4, 2) := by decide +kernel
theorem d_P_replaceParents_68 : decode prog_3_method_4_code 68 = .ok (.ireturn, 1) := by decide +kernel
theorem d_H_correct_0 : decode prog_1_method_3_code 0 = .ok (.aload_n 0, 1) := by decide +kernel
theorem d_H_correct_1 : decode prog_1_method_3_code 1 = .ok (.iload_n 1, 1) := by decide +kernel
theorem d_H_correct_2 : decode prog_1_method_3_code 2 = .ok (.invokevirtual 75, 3) := by decide +kernel
theorem d_H_correct_5 : decode prog_1_method_3_code 5 = .ok (.aload_n 0, 1) := by decide +kernel
theorem d_H_correct_6 : decode prog_1_method_3_code 6 = .ok (.iload_n 2, 1) := by decide +kernel
theorem d_H_correct_7 : decode prog_1_method_3_code 7 = .ok (.invokevirtual 54, 3) := by decide +kernel
theorem d_H_correct_10 : decode prog_1_method_3_code 10 = .ok (.aload_n 0, 1) := by decide +kernel
theorem d_H_correct_11 : decode prog_1_method_3_code 11 = .ok (.iload_n 3, 1) := by decide +kernel
theorem d_H_correct_12 : decode prog_1_method_3_code 12 = .ok (.invokevirtual 54, 3) := by decide +kernel
theorem d_H_correct_15 : decode prog_1_method_3_code 15 = .ok (.aload_n 0, 1) := by decide +kernel
theorem d_H_correct_16 : decode prog_1_method_3_code 16 = .ok (.iload_n 2, 1) := by decide +kernel
theorem d_H_correct_17 : decode prog_1_method_3_code 17 = .ok (.iload_n 3, 1) := by decide +kernel
theorem d_H_correct_18 : decode prog_1_method_3_code 18 = .ok (.aload_n 0, 1) := by decide +kernel
theorem d_H_correct_19 : decode prog_1_method_3_code 19 = .ok (.getfield 27, 3) := by decide +kernel
theorem d_H_correct_22 : decode prog_1_method_3_code 22 = .ok (.iload_n 1, 1) := by decide +kernel
theorem d_H_correct_23 : decode prog_1_method_3_code 23 = .ok (.iaload, 1) := by decide +kernel
theorem d_H_correct_24 : decode prog_1_method_3_code 24 = .ok (.invokevirtual 58, 3) := by decide +kernel
theorem d_H_correct_27 : decode prog_1_method_3_code 27 = .ok (.iload_n 2, 1) := by decide +kernel
theorem d_H_correct_28 : decode prog_1_method_3_code 28 = .ok (.iload_n 1, 1) := by decide +kernel
theorem d_H_correct_29 : decode prog_1_method_3_code 29 = .ok (.if_icmp .ge 8, 3) := by decide +kernel
theorem d_H_correct_32 : decode prog_1_method_3_code 32 = .ok (.iload_n 3, 1) := by decide +kernel
theorem d_H_correct_33 : decode prog_1_method_3_code 33 = .ok (.iload_n 1, 1) := by decide +kernel
theorem d_H_correct_34 : decode prog_1_method_3_code 34 = .ok (.if_icmp .lt 13, 3) := by decide +kernel
theorem d_H_correct_37 : decode prog_1_method_3_code 37 = .ok (.new 78, 3) := by decide +kernel
theorem d_H_correct_40 : decode prog_1_method_3_code 40 = .ok (.dup, 1) := by decide +kernel
theorem d_H_correct_41 : decode prog_1_method_3_code 41 = .ok (.ldc 80, 2) := by decide +kernel
theorem d_H_correct_43 : decode prog_1_method_3_code 43 = .ok (.invokespecial 82, 3) := by decide +kernel
theorem d_H_correct_46 : decode prog_1_method_3_code 46 = .ok (.athrow, 1) := by decide +kernel
theorem d_H_correct_47 : decode prog_1_method_3_code 47 = .ok (.aload_n 0, 1) := by decide +kernel
theorem d_H_correct_48 : decode prog_1_method_3_code 48 = .ok (.getfield 10, 3) := by decide +kernel
theorem d_H_correct_51 : decode prog_1_method_3_code 51 = .ok (.iload_n 1, 1) := by decide +kernel
theorem d_H_correct_52 : decode prog_1_method_3_code 52 = .ok (.iload_n 2, 1) := by decide +kernel
theorem d_H_correct_53 : decode prog_1_method_3_code 53 = .ok (.iload_n 3, 1) := by decide +kernel
theorem d_H_correct_54 : decode prog_1_method_3_code 54 = .ok (.invokevirtual 83, 3) := by decide +kernel
theorem d_H_correct_57 : decode prog_1_method_3_code 57 = .ok (.ireturn, 1) := by decide +kernel
theorem d_H_countLiving_0 : decode prog_1_method_31_code 0 = .ok (.iconst 0, 1) := by decide +kernel
theorem d_H_countLiving_1 : decode prog_1_method_31_code 1 = .ok (.istore_n 1, 1) := by decide +kernel
theorem d_H_countLiving_2 : decode prog_1_method_31_code 2 = .ok (.iconst 0, 1) := by decide +kernel
theorem d_H_countLiving_3 : decode prog_1_method_31_code 3 = .ok (.istore_n 2, 1) := by decide +kernel
theorem d_H_countLiving_4 : decode prog_1_method_31_code 4 = .ok (.iload_n 2, 1) := by decide +kernel
theorem d_H_countLiving_5 : decode prog_1_method_31_code 5 = .ok (.aload_n 0, 1) := by decide +kernel
theorem d_H_countLiving_6 : decode prog_1_method_31_code 6 = .ok (.getfield 10, 3) := by decide +kernel
theorem d_H_countLiving_9 : decode prog_1_method_31_code 9 = .ok (.invokevirtual 62, 3) := by decide +kernel
theorem d_H_countLiving_12 : decode prog_1_method_31_code 12 = .ok (.if_icmp .ge 21, 3) := by decide +kernel
theorem d_H_countLiving_15 : decode prog_1_method_31_code 15 = .ok (.aload_n 0, 1) := by decide +kernel
theorem d_H_countLiving_16 : decode prog_1_method_31_code 16 = .ok (.getfield 30, 3) := by decide +kernel
theorem d_H_countLiving_19 : decode prog_1_method_31_code 19 = .ok (.iload_n 2, 1) := by decide +kernel
theorem d_H_countLiving_20 : decode prog_1_method_31_code 20 = .ok (.baload, 1) := by decide +kernel
theorem d_H_countLiving_21 : decode prog_1_method_31_code 21 = .ok (.ifCond .eq 6, 3) := by decide +kernel
theorem d_H_countLiving_24 : decode prog_1_method_31_code 24 = .ok (.iinc 1 1, 3) := by decide +kernel
theorem d_H_countLiving_27 : decode prog_1_method_31_code 27 = .ok (.iinc 2 1, 3) := by decide +kernel
theorem d_H_countLiving_30 : decode prog_1_method_31_code 30 = .ok (.goto (-26), 3) := by decide +kernel
theorem d_H_countLiving_33 : decode prog_1_method_31_code 33 = .ok (.iload_n 1, 1) := by decide +kernel
theorem d_H_countLiving_34 : decode prog_1_method_31_code 34 = .ok (.ireturn, 1) := by decide +kernel
theorem d_H_cull_0 : decode prog_1_method_4_code 0 = .ok (.aload_n 0, 1) := by decide +kernel
theorem d_H_cull_1 : decode prog_1_method_4_code 1 = .ok (.iload_n 1, 1) := by decide +kernel
theorem d_H_cull_2 : decode prog_1_method_4_code 2 = .ok (.invokevirtual 75, 3) := by decide +kernel
theorem d_H_cull_5 : decode prog_1_method_4_code 5 = .ok (.aload_n 0, 1) := by decide +kernel
theorem d_H_cull_6 : decode prog_1_method_4_code 6 = .ok (.getfield 30, 3) := by decide +kernel
theorem d_H_cull_9 : decode prog_1_method_4_code 9 = .ok (.iload_n 1, 1) := by decide +kernel
