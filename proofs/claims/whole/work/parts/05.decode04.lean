theorem d_B_keepBetter_38 : decode prog_2_method_12_code 38 = .ok (.getfield 30, 3) := by decide +kernel
theorem d_B_keepBetter_41 : decode prog_2_method_12_code 41 = .ok (.iload_n 1, 1) := by decide +kernel
theorem d_B_keepBetter_42 : decode prog_2_method_12_code 42 = .ok (.iaload, 1) := by decide +kernel
theorem d_B_keepBetter_43 : decode prog_2_method_12_code 43 = .ok (.if_icmp .ge 7, 3) := by decide +kernel
theorem d_B_keepBetter_46 : decode prog_2_method_12_code 46 = .ok (.iconst 1, 1) := by decide +kernel
theorem d_B_keepBetter_47 : decode prog_2_method_12_code 47 = .ok (.goto 4, 3) := by decide +kernel
theorem d_B_keepBetter_50 : decode prog_2_method_12_code 50 = .ok (.iconst 0, 1) := by decide +kernel
theorem d_B_keepBetter_51 : decode prog_2_method_12_code 51 = .ok (.istore 5, 2) := by decide +kernel
theorem d_B_keepBetter_53 : decode prog_2_method_12_code 53 = .ok (.iload 5, 2) := by decide +kernel
theorem d_B_keepBetter_55 : decode prog_2_method_12_code 55 = .ok (.ifCond .eq 18, 3) := by decide +kernel
theorem d_B_keepBetter_58 : decode prog_2_method_12_code 58 = .ok (.aload_n 0, 1) := by decide +kernel
theorem d_B_keepBetter_59 : decode prog_2_method_12_code 59 = .ok (.getfield 26, 3) := by decide +kernel
theorem d_B_keepBetter_62 : decode prog_2_method_12_code 62 = .ok (.iload_n 1, 1) := by decide +kernel
theorem d_B_keepBetter_63 : decode prog_2_method_12_code 63 = .ok (.lload_n 2, 1) := by decide +kernel
theorem d_B_keepBetter_64 : decode prog_2_method_12_code 64 = .ok (.lastore, 1) := by decide +kernel
theorem d_B_keepBetter_65 : decode prog_2_method_12_code 65 = .ok (.aload_n 0, 1) := by decide +kernel
theorem d_B_keepBetter_66 : decode prog_2_method_12_code 66 = .ok (.getfield 30, 3) := by decide +kernel
theorem d_B_keepBetter_69 : decode prog_2_method_12_code 69 = .ok (.iload_n 1, 1) := by decide +kernel
theorem d_B_keepBetter_70 : decode prog_2_method_12_code 70 = .ok (.iload 4, 2) := by decide +kernel
theorem d_B_keepBetter_72 : decode prog_2_method_12_code 72 = .ok (.iastore, 1) := by decide +kernel
theorem d_B_keepBetter_73 : decode prog_2_method_12_code 73 = .ok (.return_, 1) := by decide +kernel
theorem d_B_improve_0 : decode prog_2_method_10_code 0 = .ok (.iconst 1, 1) := by decide +kernel
theorem d_B_improve_1 : decode prog_2_method_10_code 1 = .ok (.istore_n 2, 1) := by decide +kernel
theorem d_B_improve_2 : decode prog_2_method_10_code 2 = .ok (.iload_n 2, 1) := by decide +kernel
theorem d_B_improve_3 : decode prog_2_method_10_code 3 = .ok (.iload_n 1, 1) := by decide +kernel
theorem d_B_improve_4 : decode prog_2_method_10_code 4 = .ok (.if_icmp .gt 80, 3) := by decide +kernel
theorem d_B_improve_7 : decode prog_2_method_10_code 7 = .ok (.iload_n 1, 1) := by decide +kernel
theorem d_B_improve_8 : decode prog_2_method_10_code 8 = .ok (.iload_n 2, 1) := by decide +kernel
theorem d_B_improve_9 : decode prog_2_method_10_code 9 = .ok (.iconst (-1), 1) := by decide +kernel
theorem d_B_improve_10 : decode prog_2_method_10_code 10 = .ok (.ixor, 1) := by decide +kernel
theorem d_B_improve_11 : decode prog_2_method_10_code 11 = .ok (.iand, 1) := by decide +kernel
theorem d_B_improve_12 : decode prog_2_method_10_code 12 = .ok (.istore_n 3, 1) := by decide +kernel
theorem d_B_improve_13 : decode prog_2_method_10_code 13 = .ok (.iload_n 2, 1) := by decide +kernel
theorem d_B_improve_14 : decode prog_2_method_10_code 14 = .ok (.iload_n 1, 1) := by decide +kernel
theorem d_B_improve_15 : decode prog_2_method_10_code 15 = .ok (.iconst (-1), 1) := by decide +kernel
theorem d_B_improve_16 : decode prog_2_method_10_code 16 = .ok (.ixor, 1) := by decide +kernel
theorem d_B_improve_17 : decode prog_2_method_10_code 17 = .ok (.iand, 1) := by decide +kernel
theorem d_B_improve_18 : decode prog_2_method_10_code 18 = .ok (.ifCond .ne 60, 3) := by decide +kernel
theorem d_B_improve_21 : decode prog_2_method_10_code 21 = .ok (.aload_n 0, 1) := by decide +kernel
theorem d_B_improve_22 : decode prog_2_method_10_code 22 = .ok (.getfield 33, 3) := by decide +kernel
theorem d_B_improve_25 : decode prog_2_method_10_code 25 = .ok (.iload_n 2, 1) := by decide +kernel
theorem d_B_improve_26 : decode prog_2_method_10_code 26 = .ok (.laload, 1) := by decide +kernel
theorem d_B_improve_27 : decode prog_2_method_10_code 27 = .ok (.ldc2_w 39, 3) := by decide +kernel
theorem d_B_improve_30 : decode prog_2_method_10_code 30 = .ok (.lcmp, 1) := by decide +kernel
theorem d_B_improve_31 : decode prog_2_method_10_code 31 = .ok (.ifCond .eq 47, 3) := by decide +kernel
theorem d_B_improve_34 : decode prog_2_method_10_code 34 = .ok (.aload_n 0, 1) := by decide +kernel
theorem d_B_improve_35 : decode prog_2_method_10_code 35 = .ok (.getfield 26, 3) := by decide +kernel
theorem d_B_improve_38 : decode prog_2_method_10_code 38 = .ok (.iload_n 3, 1) := by decide +kernel
theorem d_B_improve_39 : decode prog_2_method_10_code 39 = .ok (.laload, 1) := by decide +kernel
theorem d_B_improve_40 : decode prog_2_method_10_code 40 = .ok (.ldc2_w 39, 3) := by decide +kernel
theorem d_B_improve_43 : decode prog_2_method_10_code 43 = .ok (.lcmp, 1) := by decide +kernel
theorem d_B_improve_44 : decode prog_2_method_10_code 44 = .ok (.ifCond .eq 34, 3) := by decide +kernel
theorem d_B_improve_47 : decode prog_2_method_10_code 47 = .ok (.aload_n 0, 1) := by decide +kernel
theorem d_B_improve_48 : decode prog_2_method_10_code 48 = .ok (.iload_n 1, 1) := by decide +kernel
theorem d_B_improve_49 : decode prog_2_method_10_code 49 = .ok (.aload_n 0, 1) := by decide +kernel
theorem d_B_improve_50 : decode prog_2_method_10_code 50 = .ok (.getfield 26, 3) := by decide +kernel
theorem d_B_improve_53 : decode prog_2_method_10_code 53 = .ok (.iload_n 3, 1) := by decide +kernel
theorem d_B_improve_54 : decode prog_2_method_10_code 54 = .ok (.laload, 1) := by decide +kernel
theorem d_B_improve_55 : decode prog_2_method_10_code 55 = .ok (.aload_n 0, 1) := by decide +kernel
theorem d_B_improve_56 : decode prog_2_method_10_code 56 = .ok (.getfield 33, 3) := by decide +kernel
theorem d_B_improve_59 : decode prog_2_method_10_code 59 = .ok (.iload_n 2, 1) := by decide +kernel
theorem d_B_improve_60 : decode prog_2_method_10_code 60 = .ok (.laload, 1) := by decide +kernel
theorem d_B_improve_61 : decode prog_2_method_10_code 61 = .ok (.ladd, 1) := by decide +kernel
theorem d_B_improve_62 : decode prog_2_method_10_code 62 = .ok (.aload_n 0, 1) := by decide +kernel
theorem d_B_improve_63 : decode prog_2_method_10_code 63 = .ok (.getfield 30, 3) := by decide +kernel
theorem d_B_improve_66 : decode prog_2_method_10_code 66 = .ok (.iload_n 3, 1) := by decide +kernel
theorem d_B_improve_67 : decode prog_2_method_10_code 67 = .ok (.iaload, 1) := by decide +kernel
theorem d_B_improve_68 : decode prog_2_method_10_code 68 = .ok (.aload_n 0, 1) := by decide +kernel
theorem d_B_improve_69 : decode prog_2_method_10_code 69 = .ok (.getfield 36, 3) := by decide +kernel
theorem d_B_improve_72 : decode prog_2_method_10_code 72 = .ok (.iload_n 2, 1) := by decide +kernel
theorem d_B_improve_73 : decode prog_2_method_10_code 73 = .ok (.iaload, 1) := by decide +kernel
theorem d_B_improve_74 : decode prog_2_method_10_code 74 = .ok (.ior, 1) := by decide +kernel
theorem d_B_improve_75 : decode prog_2_method_10_code 75 = .ok (.invokevirtual 82, 3) := by decide +kernel
theorem d_B_improve_78 : decode prog_2_method_10_code 78 = .ok (.iinc 2 1, 3) := by decide +kernel
theorem d_B_improve_81 : decode prog_2_method_10_code 81 = .ok (.goto (-79), 3) := by decide +kernel
theorem d_B_improve_84 : decode prog_2_method_10_code 84 = .ok (.return_, 1) := by decide +kernel
theorem d_B_offer_0 : decode prog_2_method_3_code 0 = .ok (.aload_n 0, 1) := by decide +kernel
theorem d_B_offer_1 : decode prog_2_method_3_code 1 = .ok (.iload_n 1, 1) := by decide +kernel
theorem d_B_offer_2 : decode prog_2_method_3_code 2 = .ok (.aload_n 2, 1) := by decide +kernel
theorem d_B_offer_3 : decode prog_2_method_3_code 3 = .ok (.invokevirtual 47, 3) := by decide +kernel
theorem d_B_offer_6 : decode prog_2_method_3_code 6 = .ok (.aload_n 0, 1) := by decide +kernel
theorem d_B_offer_7 : decode prog_2_method_3_code 7 = .ok (.invokevirtual 51, 3) := by decide +kernel
theorem d_B_offer_10 : decode prog_2_method_3_code 10 = .ok (.istore_n 3, 1) := by decide +kernel
theorem d_B_offer_11 : decode prog_2_method_3_code 11 = .ok (.iload_n 3, 1) := by decide +kernel
theorem d_B_offer_12 : decode prog_2_method_3_code 12 = .ok (.ifCond .le 14, 3) := by decide +kernel
theorem d_B_offer_15 : decode prog_2_method_3_code 15 = .ok (.aload_n 0, 1) := by decide +kernel
theorem d_B_offer_16 : decode prog_2_method_3_code 16 = .ok (.iload_n 3, 1) := by decide +kernel
theorem d_B_offer_17 : decode prog_2_method_3_code 17 = .ok (.invokevirtual 55, 3) := by decide +kernel
theorem d_B_offer_20 : decode prog_2_method_3_code 20 = .ok (.iinc 3 (-1), 3) := by decide +kernel
theorem d_B_offer_23 : decode prog_2_method_3_code 23 = .ok (.goto (-12), 3) := by decide +kernel
theorem d_B_offer_26 : decode prog_2_method_3_code 26 = .ok (.return_, 1) := by decide +kernel
theorem d_B_leastSum_0 : decode prog_2_method_4_code 0 = .ok (.aload_n 0, 1) := by decide +kernel
theorem d_B_leastSum_1 : decode prog_2_method_4_code 1 = .ok (.getfield 26, 3) := by decide +kernel
theorem d_B_leastSum_4 : decode prog_2_method_4_code 4 = .ok (.aload_n 0, 1) := by decide +kernel
theorem d_B_leastSum_5 : decode prog_2_method_4_code 5 = .ok (.invokevirtual 51, 3) := by decide +kernel
theorem d_B_leastSum_8 : decode prog_2_method_4_code 8 = .ok (.laload, 1) := by decide +kernel
theorem d_B_leastSum_9 : decode prog_2_method_4_code 9 = .ok (.lreturn, 1) := by decide +kernel
theorem d_B_writeBulls_0 : decode prog_2_method_5_code 0 = .ok (.aload_n 0, 1) := by decide +kernel
theorem d_B_writeBulls_1 : decode prog_2_method_5_code 1 = .ok (.getfield 30, 3) := by decide +kernel
theorem d_B_writeBulls_4 : decode prog_2_method_5_code 4 = .ok (.aload_n 0, 1) := by decide +kernel
theorem d_B_writeBulls_5 : decode prog_2_method_5_code 5 = .ok (.invokevirtual 51, 3) := by decide +kernel
theorem d_B_writeBulls_8 : decode prog_2_method_5_code 8 = .ok (.iaload, 1) := by decide +kernel
theorem d_B_writeBulls_9 : decode prog_2_method_5_code 9 = .ok (.istore_n 2, 1) := by decide +kernel
theorem d_B_writeBulls_10 : decode prog_2_method_5_code 10 = .ok (.iconst 0, 1) := by decide +kernel
theorem d_B_writeBulls_11 : decode prog_2_method_5_code 11 = .ok (.istore_n 3, 1) := by decide +kernel
theorem d_B_writeBulls_12 : decode prog_2_method_5_code 12 = .ok (.iload_n 3, 1) := by decide +kernel
theorem d_B_writeBulls_13 : decode prog_2_method_5_code 13 = .ok (.aload_n 0, 1) := by decide +kernel
theorem d_B_writeBulls_14 : decode prog_2_method_5_code 14 = .ok (.getfield 15, 3) := by decide +kernel
theorem d_B_writeBulls_17 : decode prog_2_method_5_code 17 = .ok (.if_icmp .ge 26, 3) := by decide +kernel
theorem d_B_writeBulls_20 : decode prog_2_method_5_code 20 = .ok (.aload_n 1, 1) := by decide +kernel
theorem d_B_writeBulls_21 : decode prog_2_method_5_code 21 = .ok (.aload_n 0, 1) := by decide +kernel
theorem d_B_writeBulls_22 : decode prog_2_method_5_code 22 = .ok (.getfield 11, 3) := by decide +kernel
theorem d_B_writeBulls_25 : decode prog_2_method_5_code 25 = .ok (.iload_n 3, 1) := by decide +kernel
theorem d_B_writeBulls_26 : decode prog_2_method_5_code 26 = .ok (.iaload, 1) := by decide +kernel
theorem d_B_writeBulls_27 : decode prog_2_method_5_code 27 = .ok (.iload_n 2, 1) := by decide +kernel
theorem d_B_writeBulls_28 : decode prog_2_method_5_code 28 = .ok (.iload_n 3, 1) := by decide +kernel
theorem d_B_writeBulls_29 : decode prog_2_method_5_code 29 = .ok (.invokestatic 59, 3) := by decide +kernel
theorem d_B_writeBulls_32 : decode prog_2_method_5_code 32 = .ok (.ishr, 1) := by decide +kernel
theorem d_B_writeBulls_33 : decode prog_2_method_5_code 33 = .ok (.bipush 31, 2) := by decide +kernel
theorem d_B_writeBulls_35 : decode prog_2_method_5_code 35 = .ok (.iand, 1) := by decide +kernel
theorem d_B_writeBulls_36 : decode prog_2_method_5_code 36 = .ok (.iastore, 1) := by decide +kernel
theorem d_B_writeBulls_37 : decode prog_2_method_5_code 37 = .ok (.iinc 3 1, 3) := by decide +kernel
theorem d_B_writeBulls_40 : decode prog_2_method_5_code 40 = .ok (.goto (-28), 3) := by decide +kernel
theorem d_B_writeBulls_43 : decode prog_2_method_5_code 43 = .ok (.return_, 1) := by decide +kernel
theorem d_H_keepList_0 : decode prog_1_method_33_code 0 = .ok (.aload_n 0, 1) := by decide +kernel
theorem d_H_keepList_1 : decode prog_1_method_33_code 1 = .ok (.getfield 34, 3) := by decide +kernel
theorem d_H_keepList_4 : decode prog_1_method_33_code 4 = .ok (.iconst (-1), 1) := by decide +kernel
theorem d_H_keepList_5 : decode prog_1_method_33_code 5 = .ok (.invokestatic 37, 3) := by decide +kernel
theorem d_H_keepList_8 : decode prog_1_method_33_code 8 = .ok (.aload_n 0, 1) := by decide +kernel
theorem d_H_keepList_9 : decode prog_1_method_33_code 9 = .ok (.aload_n 0, 1) := by decide +kernel
theorem d_H_keepList_10 : decode prog_1_method_33_code 10 = .ok (.getfield 19, 3) := by decide +kernel
theorem d_H_keepList_13 : decode prog_1_method_33_code 13 = .ok (.invokevirtual 169, 3) := by decide +kernel
theorem d_H_keepList_16 : decode prog_1_method_33_code 16 = .ok (.ldc2_w 173, 3) := by decide +kernel
theorem d_H_keepList_19 : decode prog_1_method_33_code 19 = .ok (.lcmp, 1) := by decide +kernel
theorem d_H_keepList_20 : decode prog_1_method_33_code 20 = .ok (.ifCond .eq 7, 3) := by decide +kernel
theorem d_H_keepList_23 : decode prog_1_method_33_code 23 = .ok (.iconst 1, 1) := by decide +kernel
theorem d_H_keepList_24 : decode prog_1_method_33_code 24 = .ok (.goto 4, 3) := by decide +kernel
theorem d_H_keepList_27 : decode prog_1_method_33_code 27 = .ok (.iconst 0, 1) := by decide +kernel
theorem d_H_keepList_28 : decode prog_1_method_33_code 28 = .ok (.putfield 43, 3) := by decide +kernel
theorem d_H_keepList_31 : decode prog_1_method_33_code 31 = .ok (.aload_n 0, 1) := by decide +kernel
theorem d_H_keepList_32 : decode prog_1_method_33_code 32 = .ok (.getfield 43, 3) := by decide +kernel
theorem d_H_keepList_35 : decode prog_1_method_33_code 35 = .ok (.ifCond .eq 14, 3) := by decide +kernel
theorem d_H_keepList_38 : decode prog_1_method_33_code 38 = .ok (.aload_n 0, 1) := by decide +kernel
theorem d_H_keepList_39 : decode prog_1_method_33_code 39 = .ok (.getfield 19, 3) := by decide +kernel
theorem d_H_keepList_42 : decode prog_1_method_33_code 42 = .ok (.aload_n 0, 1) := by decide +kernel
theorem d_H_keepList_43 : decode prog_1_method_33_code 43 = .ok (.getfield 34, 3) := by decide +kernel
theorem d_H_keepList_46 : decode prog_1_method_33_code 46 = .ok (.invokevirtual 194, 3) := by decide +kernel
theorem d_H_keepList_49 : decode prog_1_method_33_code 49 = .ok (.return_, 1) := by decide +kernel
theorem d_H_plan_0 : decode prog_1_method_20_code 0 = .ok (.iload_n 2, 1) := by decide +kernel
theorem d_H_plan_1 : decode prog_1_method_20_code 1 = .ok (.iconst 1, 1) := by decide +kernel
theorem d_H_plan_2 : decode prog_1_method_20_code 2 = .ok (.if_icmp .lt 23, 3) := by decide +kernel
theorem d_H_plan_5 : decode prog_1_method_20_code 5 = .ok (.iload_n 2, 1) := by decide +kernel
theorem d_H_plan_6 : decode prog_1_method_20_code 6 = .ok (.bipush 8, 2) := by decide +kernel
theorem d_H_plan_8 : decode prog_1_method_20_code 8 = .ok (.if_icmp .gt 17, 3) := by decide +kernel
theorem d_H_plan_11 : decode prog_1_method_20_code 11 = .ok (.iload_n 1, 1) := by decide +kernel
theorem d_H_plan_12 : decode prog_1_method_20_code 12 = .ok (.invokestatic 143, 3) := by decide +kernel
theorem d_H_plan_15 : decode prog_1_method_20_code 15 = .ok (.iconst 5, 1) := by decide +kernel
theorem d_H_plan_16 : decode prog_1_method_20_code 16 = .ok (.if_icmp .gt 9, 3) := by decide +kernel
theorem d_H_plan_19 : decode prog_1_method_20_code 19 = .ok (.lload_n 3, 1) := by decide +kernel
theorem d_H_plan_20 : decode prog_1_method_20_code 20 = .ok (.lconst 0, 1) := by decide +kernel
theorem d_H_plan_21 : decode prog_1_method_20_code 21 = .ok (.lcmp, 1) := by decide +kernel
theorem d_H_plan_22 : decode prog_1_method_20_code 22 = .ok (.ifCond .ge 13, 3) := by decide +kernel
theorem d_H_plan_25 : decode prog_1_method_20_code 25 = .ok (.new 47, 3) := by decide +kernel
theorem d_H_plan_28 : decode prog_1_method_20_code 28 = .ok (.dup, 1) := by decide +kernel
theorem d_H_plan_29 : decode prog_1_method_20_code 29 = .ok (.ldc 148, 2) := by decide +kernel
theorem d_H_plan_31 : decode prog_1_method_20_code 31 = .ok (.invokespecial 51, 3) := by decide +kernel
theorem d_H_plan_34 : decode prog_1_method_20_code 34 = .ok (.athrow, 1) := by decide +kernel
theorem d_H_plan_35 : decode prog_1_method_20_code 35 = .ok (.iload_n 1, 1) := by decide +kernel
theorem d_H_plan_36 : decode prog_1_method_20_code 36 = .ok (.aload_n 0, 1) := by decide +kernel
theorem d_H_plan_37 : decode prog_1_method_20_code 37 = .ok (.getfield 10, 3) := by decide +kernel
theorem d_H_plan_40 : decode prog_1_method_20_code 40 = .ok (.invokevirtual 62, 3) := by decide +kernel
theorem d_H_plan_43 : decode prog_1_method_20_code 43 = .ok (.iushr, 1) := by decide +kernel
theorem d_H_plan_44 : decode prog_1_method_20_code 44 = .ok (.ifCond .eq 13, 3) := by decide +kernel
theorem d_H_plan_47 : decode prog_1_method_20_code 47 = .ok (.new 150, 3) := by decide +kernel
theorem d_H_plan_50 : decode prog_1_method_20_code 50 = .ok (.dup, 1) := by decide +kernel
theorem d_H_plan_51 : decode prog_1_method_20_code 51 = .ok (.ldc 152, 2) := by decide +kernel
theorem d_H_plan_53 : decode prog_1_method_20_code 53 = .ok (.invokespecial 154, 3) := by decide +kernel
theorem d_H_plan_56 : decode prog_1_method_20_code 56 = .ok (.athrow, 1) := by decide +kernel
theorem d_H_plan_57 : decode prog_1_method_20_code 57 = .ok (.aload_n 0, 1) := by decide +kernel
theorem d_H_plan_58 : decode prog_1_method_20_code 58 = .ok (.iload_n 1, 1) := by decide +kernel
theorem d_H_plan_59 : decode prog_1_method_20_code 59 = .ok (.invokevirtual 155, 3) := by decide +kernel
theorem d_H_plan_62 : decode prog_1_method_20_code 62 = .ok (.aload_n 0, 1) := by decide +kernel
theorem d_H_plan_63 : decode prog_1_method_20_code 63 = .ok (.getfield 19, 3) := by decide +kernel
theorem d_H_plan_66 : decode prog_1_method_20_code 66 = .ok (.iload_n 1, 1) := by decide +kernel
theorem d_H_plan_67 : decode prog_1_method_20_code 67 = .ok (.iload_n 2, 1) := by decide +kernel
theorem d_H_plan_68 : decode prog_1_method_20_code 68 = .ok (.lload_n 3, 1) := by decide +kernel
theorem d_H_plan_69 : decode prog_1_method_20_code 69 = .ok (.invokevirtual 158, 3) := by decide +kernel
theorem d_H_plan_72 : decode prog_1_method_20_code 72 = .ok (.iconst 0, 1) := by decide +kernel
theorem d_H_plan_73 : decode prog_1_method_20_code 73 = .ok (.istore 5, 2) := by decide +kernel
theorem d_H_plan_75 : decode prog_1_method_20_code 75 = .ok (.iload 5, 2) := by decide +kernel
theorem d_H_plan_77 : decode prog_1_method_20_code 77 = .ok (.aload_n 0, 1) := by decide +kernel
theorem d_H_plan_78 : decode prog_1_method_20_code 78 = .ok (.getfield 10, 3) := by decide +kernel
theorem d_H_plan_81 : decode prog_1_method_20_code 81 = .ok (.invokevirtual 62, 3) := by decide +kernel
theorem d_H_plan_84 : decode prog_1_method_20_code 84 = .ok (.if_icmp .ge 32, 3) := by decide +kernel
theorem d_H_plan_87 : decode prog_1_method_20_code 87 = .ok (.aload_n 0, 1) := by decide +kernel
theorem d_H_plan_88 : decode prog_1_method_20_code 88 = .ok (.iload 5, 2) := by decide +kernel
theorem d_H_plan_90 : decode prog_1_method_20_code 90 = .ok (.iconst 0, 1) := by decide +kernel
theorem d_H_plan_91 : decode prog_1_method_20_code 91 = .ok (.invokevirtual 139, 3) := by decide +kernel
theorem d_H_plan_94 : decode prog_1_method_20_code 94 = .ok (.ifCond .eq 16, 3) := by decide +kernel
theorem d_H_plan_97 : decode prog_1_method_20_code 97 = .ok (.aload_n 0, 1) := by decide +kernel
theorem d_H_plan_98 : decode prog_1_method_20_code 98 = .ok (.getfield 19, 3) := by decide +kernel
theorem d_H_plan_101 : decode prog_1_method_20_code 101 = .ok (.iload 5, 2) := by decide +kernel
theorem d_H_plan_103 : decode prog_1_method_20_code 103 = .ok (.aload_n 0, 1) := by decide +kernel
theorem d_H_plan_104 : decode prog_1_method_20_code 104 = .ok (.getfield 10, 3) := by decide +kernel
theorem d_H_plan_107 : decode prog_1_method_20_code 107 = .ok (.invokevirtual 162, 3) := by decide +kernel
theorem d_H_plan_110 : decode prog_1_method_20_code 110 = .ok (.iinc 5 1, 3) := by decide +kernel
theorem d_H_plan_113 : decode prog_1_method_20_code 113 = .ok (.goto (-38), 3) := by decide +kernel
theorem d_H_plan_116 : decode prog_1_method_20_code 116 = .ok (.aload_n 0, 1) := by decide +kernel
theorem d_H_plan_117 : decode prog_1_method_20_code 117 = .ok (.invokevirtual 166, 3) := by decide +kernel
theorem d_H_plan_120 : decode prog_1_method_20_code 120 = .ok (.aload_n 0, 1) := by decide +kernel
theorem d_H_plan_121 : decode prog_1_method_20_code 121 = .ok (.getfield 19, 3) := by decide +kernel
theorem d_H_plan_124 : decode prog_1_method_20_code 124 = .ok (.invokevirtual 169, 3) := by decide +kernel
theorem d_H_plan_127 : decode prog_1_method_20_code 127 = .ok (.lreturn, 1) := by decide +kernel
theorem d_H_bull_0 : decode prog_1_method_21_code 0 = .ok (.aload_n 0, 1) := by decide +kernel
theorem d_H_bull_1 : decode prog_1_method_21_code 1 = .ok (.iload_n 1, 1) := by decide +kernel
theorem d_H_bull_2 : decode prog_1_method_21_code 2 = .ok (.invokevirtual 75, 3) := by decide +kernel
theorem d_H_bull_5 : decode prog_1_method_21_code 5 = .ok (.aload_n 0, 1) := by decide +kernel
theorem d_H_bull_6 : decode prog_1_method_21_code 6 = .ok (.getfield 34, 3) := by decide +kernel
theorem d_H_bull_9 : decode prog_1_method_21_code 9 = .ok (.iload_n 1, 1) := by decide +kernel
theorem d_H_bull_10 : decode prog_1_method_21_code 10 = .ok (.iaload, 1) := by decide +kernel
theorem d_H_bull_11 : decode prog_1_method_21_code 11 = .ok (.ireturn, 1) := by decide +kernel
theorem d_H_planned_0 : decode prog_1_method_22_code 0 = .ok (.aload_n 0, 1) := by decide +kernel
theorem d_H_planned_1 : decode prog_1_method_22_code 1 = .ok (.getfield 43, 3) := by decide +kernel
theorem d_H_planned_4 : decode prog_1_method_22_code 4 = .ok (.ifCond .ne 7, 3) := by decide +kernel
theorem d_H_planned_7 : decode prog_1_method_22_code 7 = .ok (.ldc2_w 173, 3) := by decide +kernel
theorem d_H_planned_10 : decode prog_1_method_22_code 10 = .ok (.lreturn, 1) := by decide +kernel
theorem d_H_planned_11 : decode prog_1_method_22_code 11 = .ok (.lconst 0, 1) := by decide +kernel
theorem d_H_planned_12 : decode prog_1_method_22_code 12 = .ok (.lstore_n 1, 1) := by decide +kernel
theorem d_H_planned_13 : decode prog_1_method_22_code 13 = .ok (.iconst 0, 1) := by decide +kernel
theorem d_H_planned_14 : decode prog_1_method_22_code 14 = .ok (.istore_n 3, 1) := by decide +kernel
theorem d_H_planned_15 : decode prog_1_method_22_code 15 = .ok (.iload_n 3, 1) := by decide +kernel
theorem d_H_planned_16 : decode prog_1_method_22_code 16 = .ok (.aload_n 0, 1) := by decide +kernel
theorem d_H_planned_17 : decode prog_1_method_22_code 17 = .ok (.getfield 10, 3) := by decide +kernel
theorem d_H_planned_20 : decode prog_1_method_22_code 20 = .ok (.invokevirtual 62, 3) := by decide +kernel
theorem d_H_planned_23 : decode prog_1_method_22_code 23 = .ok (.if_icmp .ge 26, 3) := by decide +kernel
theorem d_H_planned_26 : decode prog_1_method_22_code 26 = .ok (.lload_n 1, 1) := by decide +kernel
theorem d_H_planned_27 : decode prog_1_method_22_code 27 = .ok (.aload_n 0, 1) := by decide +kernel
theorem d_H_planned_28 : decode prog_1_method_22_code 28 = .ok (.getfield 10, 3) := by decide +kernel
theorem d_H_planned_31 : decode prog_1_method_22_code 31 = .ok (.iload_n 3, 1) := by decide +kernel
theorem d_H_planned_32 : decode prog_1_method_22_code 32 = .ok (.aload_n 0, 1) := by decide +kernel
theorem d_H_planned_33 : decode prog_1_method_22_code 33 = .ok (.getfield 34, 3) := by decide +kernel
theorem d_H_planned_36 : decode prog_1_method_22_code 36 = .ok (.iload_n 3, 1) := by decide +kernel
theorem d_H_planned_37 : decode prog_1_method_22_code 37 = .ok (.iaload, 1) := by decide +kernel
theorem d_H_planned_38 : decode prog_1_method_22_code 38 = .ok (.invokevirtual 107, 3) := by decide +kernel
theorem d_H_planned_41 : decode prog_1_method_22_code 41 = .ok (.ladd, 1) := by decide +kernel
theorem d_H_planned_42 : decode prog_1_method_22_code 42 = .ok (.lstore_n 1, 1) := by decide +kernel
theorem d_H_planned_43 : decode prog_1_method_22_code 43 = .ok (.iinc 3 1, 3) := by decide +kernel
theorem d_H_planned_46 : decode prog_1_method_22_code 46 = .ok (.goto (-31), 3) := by decide +kernel
theorem d_H_planned_49 : decode prog_1_method_22_code 49 = .ok (.lload_n 1, 1) := by decide +kernel
theorem d_H_planned_50 : decode prog_1_method_22_code 50 = .ok (.lreturn, 1) := by decide +kernel
theorem d_M_thrown_0 : decode prog_5_method_2_code 0 = .ok (.aload_n 0, 1) := by decide +kernel
theorem d_M_thrown_1 : decode prog_5_method_2_code 1 = .ok (.getfield 57, 3) := by decide +kernel
theorem d_M_thrown_4 : decode prog_5_method_2_code 4 = .ok (.ireturn, 1) := by decide +kernel
theorem d_M_refused_0 : decode prog_5_method_3_code 0 = .ok (.aload_n 0, 1) := by decide +kernel
theorem d_M_refused_1 : decode prog_5_method_3_code 1 = .ok (.iload_n 1, 1) := by decide +kernel
theorem d_M_refused_2 : decode prog_5_method_3_code 2 = .ok (.ifCond .eq 7, 3) := by decide +kernel
theorem d_M_refused_5 : decode prog_5_method_3_code 5 = .ok (.iconst 1, 1) := by decide +kernel
theorem d_M_refused_6 : decode prog_5_method_3_code 6 = .ok (.goto 29, 3) := by decide +kernel
theorem d_M_refused_9 : decode prog_5_method_3_code 9 = .ok (.iload_n 2, 1) := by decide +kernel
theorem d_M_refused_10 : decode prog_5_method_3_code 10 = .ok (.ifCond .eq 7, 3) := by decide +kernel
theorem d_M_refused_13 : decode prog_5_method_3_code 13 = .ok (.iconst 2, 1) := by decide +kernel
theorem d_M_refused_14 : decode prog_5_method_3_code 14 = .ok (.goto 21, 3) := by decide +kernel
theorem d_M_refused_17 : decode prog_5_method_3_code 17 = .ok (.iload_n 3, 1) := by decide +kernel
theorem d_M_refused_18 : decode prog_5_method_3_code 18 = .ok (.ifCond .eq 7, 3) := by decide +kernel
theorem d_M_refused_21 : decode prog_5_method_3_code 21 = .ok (.iconst 3, 1) := by decide +kernel
theorem d_M_refused_22 : decode prog_5_method_3_code 22 = .ok (.goto 13, 3) := by decide +kernel
theorem d_M_refused_25 : decode prog_5_method_3_code 25 = .ok (.iload 4, 2) := by decide +kernel
theorem d_M_refused_27 : decode prog_5_method_3_code 27 = .ok (.ifCond .eq 7, 3) := by decide +kernel
theorem d_M_refused_30 : decode prog_5_method_3_code 30 = .ok (.iconst 4, 1) := by decide +kernel
theorem d_M_refused_31 : decode prog_5_method_3_code 31 = .ok (.goto 4, 3) := by decide +kernel
theorem d_M_refused_34 : decode prog_5_method_3_code 34 = .ok (.iconst 0, 1) := by decide +kernel
theorem d_M_refused_35 : decode prog_5_method_3_code 35 = .ok (.putfield 57, 3) := by decide +kernel
theorem d_M_refused_38 : decode prog_5_method_3_code 38 = .ok (.aload_n 0, 1) := by decide +kernel
theorem d_M_refused_39 : decode prog_5_method_3_code 39 = .ok (.getfield 57, 3) := by decide +kernel
theorem d_M_refused_42 : decode prog_5_method_3_code 42 = .ok (.ifCond .le 7, 3) := by decide +kernel
theorem d_M_refused_45 : decode prog_5_method_3_code 45 = .ok (.iconst 1, 1) := by decide +kernel
theorem d_M_refused_46 : decode prog_5_method_3_code 46 = .ok (.goto 4, 3) := by decide +kernel
theorem d_M_refused_49 : decode prog_5_method_3_code 49 = .ok (.iconst 0, 1) := by decide +kernel
theorem d_M_refused_50 : decode prog_5_method_3_code 50 = .ok (.ireturn, 1) := by decide +kernel
theorem d_M_is_0 : decode prog_5_method_4_code 0 = .ok (.iload_n 1, 1) := by decide +kernel
theorem d_M_is_1 : decode prog_5_method_4_code 1 = .ok (.ifCond .lt 15, 3) := by decide +kernel
theorem d_M_is_4 : decode prog_5_method_4_code 4 = .ok (.iload_n 1, 1) := by decide +kernel
theorem d_M_is_5 : decode prog_5_method_4_code 5 = .ok (.aload_n 0, 1) := by decide +kernel
theorem d_M_is_6 : decode prog_5_method_4_code 6 = .ok (.getfield 61, 3) := by decide +kernel
theorem d_M_is_9 : decode prog_5_method_4_code 9 = .ok (.if_icmp .ge 7, 3) := by decide +kernel
theorem d_M_is_12 : decode prog_5_method_4_code 12 = .ok (.iconst 1, 1) := by decide +kernel
theorem d_M_is_13 : decode prog_5_method_4_code 13 = .ok (.goto 4, 3) := by decide +kernel
theorem d_M_is_16 : decode prog_5_method_4_code 16 = .ok (.iconst 0, 1) := by decide +kernel
theorem d_M_is_17 : decode prog_5_method_4_code 17 = .ok (.ireturn, 1) := by decide +kernel
theorem d_M_isParent_0 : decode prog_5_method_5_code 0 = .ok (.iload_n 1, 1) := by decide +kernel
theorem d_M_isParent_1 : decode prog_5_method_5_code 1 = .ok (.iconst (-1), 1) := by decide +kernel
theorem d_M_isParent_2 : decode prog_5_method_5_code 2 = .ok (.if_icmp .eq 11, 3) := by decide +kernel
theorem d_M_isParent_5 : decode prog_5_method_5_code 5 = .ok (.aload_n 0, 1) := by decide +kernel
theorem d_M_isParent_6 : decode prog_5_method_5_code 6 = .ok (.iload_n 1, 1) := by decide +kernel
theorem d_M_isParent_7 : decode prog_5_method_5_code 7 = .ok (.invokevirtual 64, 3) := by decide +kernel
theorem d_M_isParent_10 : decode prog_5_method_5_code 10 = .ok (.ifCond .eq 7, 3) := by decide +kernel
theorem d_M_isParent_13 : decode prog_5_method_5_code 13 = .ok (.iconst 1, 1) := by decide +kernel
theorem d_M_isParent_14 : decode prog_5_method_5_code 14 = .ok (.goto 4, 3) := by decide +kernel
theorem d_M_isParent_17 : decode prog_5_method_5_code 17 = .ok (.iconst 0, 1) := by decide +kernel
theorem d_M_isParent_18 : decode prog_5_method_5_code 18 = .ok (.ireturn, 1) := by decide +kernel
theorem d_M_fits_0 : decode prog_5_method_6_code 0 = .ok (.iload_n 1, 1) := by decide +kernel
theorem d_M_fits_1 : decode prog_5_method_6_code 1 = .ok (.ifCond .lt 29, 3) := by decide +kernel
theorem d_M_fits_4 : decode prog_5_method_6_code 4 = .ok (.aload_n 0, 1) := by decide +kernel
theorem d_M_fits_5 : decode prog_5_method_6_code 5 = .ok (.getfield 16, 3) := by decide +kernel
theorem d_M_fits_8 : decode prog_5_method_6_code 8 = .ok (.iload_n 1, 1) := by decide +kernel
theorem d_M_fits_9 : decode prog_5_method_6_code 9 = .ok (.iaload, 1) := by decide +kernel
theorem d_M_fits_10 : decode prog_5_method_6_code 10 = .ok (.iload_n 2, 1) := by decide +kernel
theorem d_M_fits_11 : decode prog_5_method_6_code 11 = .ok (.if_icmp .ne 23, 3) := by decide +kernel
theorem d_M_fits_14 : decode prog_5_method_6_code 14 = .ok (.aload_n 0, 1) := by decide +kernel
theorem d_M_fits_15 : decode prog_5_method_6_code 15 = .ok (.getfield 19, 3) := by decide +kernel
theorem d_M_fits_18 : decode prog_5_method_6_code 18 = .ok (.iload_n 1, 1) := by decide +kernel
theorem d_M_fits_19 : decode prog_5_method_6_code 19 = .ok (.iaload, 1) := by decide +kernel
theorem d_M_fits_20 : decode prog_5_method_6_code 20 = .ok (.iload_n 3, 1) := by decide +kernel
theorem d_M_fits_21 : decode prog_5_method_6_code 21 = .ok (.if_icmp .ge 13, 3) := by decide +kernel
theorem d_M_fits_24 : decode prog_5_method_6_code 24 = .ok (.iload_n 1, 1) := by decide +kernel
theorem d_M_fits_25 : decode prog_5_method_6_code 25 = .ok (.iload 4, 2) := by decide +kernel
theorem d_M_fits_27 : decode prog_5_method_6_code 27 = .ok (.if_icmp .ge 7, 3) := by decide +kernel
theorem d_M_fits_30 : decode prog_5_method_6_code 30 = .ok (.iconst 1, 1) := by decide +kernel
theorem d_M_fits_31 : decode prog_5_method_6_code 31 = .ok (.goto 4, 3) := by decide +kernel
theorem d_M_fits_34 : decode prog_5_method_6_code 34 = .ok (.iconst 0, 1) := by decide +kernel
theorem d_M_fits_35 : decode prog_5_method_6_code 35 = .ok (.ireturn, 1) := by decide +kernel
theorem d_M_kinOf_0 : decode prog_5_method_7_code 0 = .ok (.iload_n 1, 1) := by decide +kernel
theorem d_M_kinOf_1 : decode prog_5_method_7_code 1 = .ok (.ifCond .lt 7, 3) := by decide +kernel
theorem d_M_kinOf_4 : decode prog_5_method_7_code 4 = .ok (.iload_n 2, 1) := by decide +kernel
theorem d_M_kinOf_5 : decode prog_5_method_7_code 5 = .ok (.ifCond .ge 7, 3) := by decide +kernel
theorem d_M_kinOf_8 : decode prog_5_method_7_code 8 = .ok (.lconst 0, 1) := by decide +kernel
theorem d_M_kinOf_9 : decode prog_5_method_7_code 9 = .ok (.goto 14, 3) := by decide +kernel
theorem d_M_kinOf_12 : decode prog_5_method_7_code 12 = .ok (.aload_n 0, 1) := by decide +kernel
theorem d_M_kinOf_13 : decode prog_5_method_7_code 13 = .ok (.getfield 26, 3) := by decide +kernel
theorem d_M_kinOf_16 : decode prog_5_method_7_code 16 = .ok (.bipush 24, 2) := by decide +kernel
theorem d_M_kinOf_18 : decode prog_5_method_7_code 18 = .ok (.iload_n 1, 1) := by decide +kernel
theorem d_M_kinOf_19 : decode prog_5_method_7_code 19 = .ok (.imul, 1) := by decide +kernel
theorem d_M_kinOf_20 : decode prog_5_method_7_code 20 = .ok (.iload_n 2, 1) := by decide +kernel
theorem d_M_kinOf_21 : decode prog_5_method_7_code 21 = .ok (.iadd, 1) := by decide +kernel
theorem d_M_kinOf_22 : decode prog_5_method_7_code 22 = .ok (.laload, 1) := by decide +kernel
theorem d_M_kinOf_23 : decode prog_5_method_7_code 23 = .ok (.lreturn, 1) := by decide +kernel
theorem d_M_fill_0 : decode prog_5_method_8_code 0 = .ok (.iconst 0, 1) := by decide +kernel
theorem d_M_fill_1 : decode prog_5_method_8_code 1 = .ok (.istore_n 1, 1) := by decide +kernel
theorem d_M_fill_2 : decode prog_5_method_8_code 2 = .ok (.iload_n 1, 1) := by decide +kernel
theorem d_M_fill_3 : decode prog_5_method_8_code 3 = .ok (.aload_n 0, 1) := by decide +kernel
theorem d_M_fill_4 : decode prog_5_method_8_code 4 = .ok (.getfield 61, 3) := by decide +kernel
theorem d_M_fill_7 : decode prog_5_method_8_code 7 = .ok (.if_icmp .ge 121, 3) := by decide +kernel
theorem d_M_fill_10 : decode prog_5_method_8_code 10 = .ok (.iconst 0, 1) := by decide +kernel
theorem d_M_fill_11 : decode prog_5_method_8_code 11 = .ok (.istore_n 2, 1) := by decide +kernel
theorem d_M_fill_12 : decode prog_5_method_8_code 12 = .ok (.iload_n 2, 1) := by decide +kernel
theorem d_M_fill_13 : decode prog_5_method_8_code 13 = .ok (.iload_n 1, 1) := by decide +kernel
theorem d_M_fill_14 : decode prog_5_method_8_code 14 = .ok (.if_icmp .ge 61, 3) := by decide +kernel
theorem d_M_fill_17 : decode prog_5_method_8_code 17 = .ok (.aload_n 0, 1) := by decide +kernel
theorem d_M_fill_18 : decode prog_5_method_8_code 18 = .ok (.iload_n 2, 1) := by decide +kernel
theorem d_M_fill_19 : decode prog_5_method_8_code 19 = .ok (.aload_n 0, 1) := by decide +kernel
theorem d_M_fill_20 : decode prog_5_method_8_code 20 = .ok (.getfield 7, 3) := by decide +kernel
theorem d_M_fill_23 : decode prog_5_method_8_code 23 = .ok (.iload_n 1, 1) := by decide +kernel
theorem d_M_fill_24 : decode prog_5_method_8_code 24 = .ok (.iaload, 1) := by decide +kernel
theorem d_M_fill_25 : decode prog_5_method_8_code 25 = .ok (.invokevirtual 68, 3) := by decide +kernel
theorem d_M_fill_28 : decode prog_5_method_8_code 28 = .ok (.aload_n 0, 1) := by decide +kernel
theorem d_M_fill_29 : decode prog_5_method_8_code 29 = .ok (.iload_n 2, 1) := by decide +kernel
theorem d_M_fill_30 : decode prog_5_method_8_code 30 = .ok (.aload_n 0, 1) := by decide +kernel
theorem d_M_fill_31 : decode prog_5_method_8_code 31 = .ok (.getfield 13, 3) := by decide +kernel
theorem d_M_fill_34 : decode prog_5_method_8_code 34 = .ok (.iload_n 1, 1) := by decide +kernel
theorem d_M_fill_35 : decode prog_5_method_8_code 35 = .ok (.iaload, 1) := by decide +kernel
theorem d_M_fill_36 : decode prog_5_method_8_code 36 = .ok (.invokevirtual 68, 3) := by decide +kernel
theorem d_M_fill_39 : decode prog_5_method_8_code 39 = .ok (.ladd, 1) := by decide +kernel
theorem d_M_fill_40 : decode prog_5_method_8_code 40 = .ok (.ldc2_w 72, 3) := by decide +kernel
theorem d_M_fill_43 : decode prog_5_method_8_code 43 = .ok (.ldiv, 1) := by decide +kernel
theorem d_M_fill_44 : decode prog_5_method_8_code 44 = .ok (.lstore_n 3, 1) := by decide +kernel
theorem d_M_fill_45 : decode prog_5_method_8_code 45 = .ok (.aload_n 0, 1) := by decide +kernel
theorem d_M_fill_46 : decode prog_5_method_8_code 46 = .ok (.getfield 26, 3) := by decide +kernel
theorem d_M_fill_49 : decode prog_5_method_8_code 49 = .ok (.bipush 24, 2) := by decide +kernel
theorem d_M_fill_51 : decode prog_5_method_8_code 51 = .ok (.iload_n 1, 1) := by decide +kernel
theorem d_M_fill_52 : decode prog_5_method_8_code 52 = .ok (.imul, 1) := by decide +kernel
theorem d_M_fill_53 : decode prog_5_method_8_code 53 = .ok (.iload_n 2, 1) := by decide +kernel
theorem d_M_fill_54 : decode prog_5_method_8_code 54 = .ok (.iadd, 1) := by decide +kernel
theorem d_M_fill_55 : decode prog_5_method_8_code 55 = .ok (.lload_n 3, 1) := by decide +kernel
theorem d_M_fill_56 : decode prog_5_method_8_code 56 = .ok (.lastore, 1) := by decide +kernel
theorem d_M_fill_57 : decode prog_5_method_8_code 57 = .ok (.aload_n 0, 1) := by decide +kernel
theorem d_M_fill_58 : decode prog_5_method_8_code 58 = .ok (.getfield 26, 3) := by decide +kernel
theorem d_M_fill_61 : decode prog_5_method_8_code 61 = .ok (.bipush 24, 2) := by decide +kernel
theorem d_M_fill_63 : decode prog_5_method_8_code 63 = .ok (.iload_n 2, 1) := by decide +kernel
theorem d_M_fill_64 : decode prog_5_method_8_code 64 = .ok (.imul, 1) := by decide +kernel
theorem d_M_fill_65 : decode prog_5_method_8_code 65 = .ok (.iload_n 1, 1) := by decide +kernel
theorem d_M_fill_66 : decode prog_5_method_8_code 66 = .ok (.iadd, 1) := by decide +kernel
theorem d_M_fill_67 : decode prog_5_method_8_code 67 = .ok (.lload_n 3, 1) := by decide +kernel
theorem d_M_fill_68 : decode prog_5_method_8_code 68 = .ok (.lastore, 1) := by decide +kernel
theorem d_M_fill_69 : decode prog_5_method_8_code 69 = .ok (.iinc 2 1, 3) := by decide +kernel
theorem d_M_fill_72 : decode prog_5_method_8_code 72 = .ok (.goto (-60), 3) := by decide +kernel
theorem d_M_fill_75 : decode prog_5_method_8_code 75 = .ok (.aload_n 0, 1) := by decide +kernel
theorem d_M_fill_76 : decode prog_5_method_8_code 76 = .ok (.getfield 30, 3) := by decide +kernel
theorem d_M_fill_79 : decode prog_5_method_8_code 79 = .ok (.iload_n 1, 1) := by decide +kernel
theorem d_M_fill_80 : decode prog_5_method_8_code 80 = .ok (.aload_n 0, 1) := by decide +kernel
theorem d_M_fill_81 : decode prog_5_method_8_code 81 = .ok (.aload_n 0, 1) := by decide +kernel
theorem d_M_fill_82 : decode prog_5_method_8_code 82 = .ok (.getfield 7, 3) := by decide +kernel
theorem d_M_fill_85 : decode prog_5_method_8_code 85 = .ok (.iload_n 1, 1) := by decide +kernel
theorem d_M_fill_86 : decode prog_5_method_8_code 86 = .ok (.iaload, 1) := by decide +kernel
theorem d_M_fill_87 : decode prog_5_method_8_code 87 = .ok (.aload_n 0, 1) := by decide +kernel
theorem d_M_fill_88 : decode prog_5_method_8_code 88 = .ok (.getfield 13, 3) := by decide +kernel
theorem d_M_fill_91 : decode prog_5_method_8_code 91 = .ok (.iload_n 1, 1) := by decide +kernel
theorem d_M_fill_92 : decode prog_5_method_8_code 92 = .ok (.iaload, 1) := by decide +kernel
theorem d_M_fill_93 : decode prog_5_method_8_code 93 = .ok (.invokevirtual 68, 3) := by decide +kernel
theorem d_M_fill_96 : decode prog_5_method_8_code 96 = .ok (.lastore, 1) := by decide +kernel
theorem d_M_fill_97 : decode prog_5_method_8_code 97 = .ok (.aload_n 0, 1) := by decide +kernel
