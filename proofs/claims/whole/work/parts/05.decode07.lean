theorem d_M_ancestorsOf_31 : decode prog_5_method_25_code 31 = .ok (.goto 4, 3) := by decide +kernel
theorem d_M_ancestorsOf_34 : decode prog_5_method_25_code 34 = .ok (.iload_n 2, 1) := by decide +kernel
theorem d_M_ancestorsOf_35 : decode prog_5_method_25_code 35 = .ok (.istore_n 2, 1) := by decide +kernel
theorem d_M_ancestorsOf_36 : decode prog_5_method_25_code 36 = .ok (.iinc 3 1, 3) := by decide +kernel
theorem d_M_ancestorsOf_39 : decode prog_5_method_25_code 39 = .ok (.goto (-35), 3) := by decide +kernel
theorem d_M_ancestorsOf_42 : decode prog_5_method_25_code 42 = .ok (.iload_n 2, 1) := by decide +kernel
theorem d_M_ancestorsOf_43 : decode prog_5_method_25_code 43 = .ok (.ireturn, 1) := by decide +kernel
theorem d_M_ancestors_0 : decode prog_5_method_26_code 0 = .ok (.aload_n 0, 1) := by decide +kernel
theorem d_M_ancestors_1 : decode prog_5_method_26_code 1 = .ok (.aload_n 0, 1) := by decide +kernel
theorem d_M_ancestors_2 : decode prog_5_method_26_code 2 = .ok (.iload_n 1, 1) := by decide +kernel
theorem d_M_ancestors_3 : decode prog_5_method_26_code 3 = .ok (.invokevirtual 64, 3) := by decide +kernel
theorem d_M_ancestors_6 : decode prog_5_method_26_code 6 = .ok (.ifCond .ne 7, 3) := by decide +kernel
theorem d_M_ancestors_9 : decode prog_5_method_26_code 9 = .ok (.iconst 1, 1) := by decide +kernel
theorem d_M_ancestors_10 : decode prog_5_method_26_code 10 = .ok (.goto 4, 3) := by decide +kernel
theorem d_M_ancestors_13 : decode prog_5_method_26_code 13 = .ok (.iconst 0, 1) := by decide +kernel
theorem d_M_ancestors_14 : decode prog_5_method_26_code 14 = .ok (.iconst 0, 1) := by decide +kernel
theorem d_M_ancestors_15 : decode prog_5_method_26_code 15 = .ok (.iconst 0, 1) := by decide +kernel
theorem d_M_ancestors_16 : decode prog_5_method_26_code 16 = .ok (.iconst 0, 1) := by decide +kernel
theorem d_M_ancestors_17 : decode prog_5_method_26_code 17 = .ok (.invokevirtual 83, 3) := by decide +kernel
theorem d_M_ancestors_20 : decode prog_5_method_26_code 20 = .ok (.ifCond .eq 7, 3) := by decide +kernel
theorem d_M_ancestors_23 : decode prog_5_method_26_code 23 = .ok (.iconst 0, 1) := by decide +kernel
theorem d_M_ancestors_24 : decode prog_5_method_26_code 24 = .ok (.goto 8, 3) := by decide +kernel
theorem d_M_ancestors_27 : decode prog_5_method_26_code 27 = .ok (.aload_n 0, 1) := by decide +kernel
theorem d_M_ancestors_28 : decode prog_5_method_26_code 28 = .ok (.iload_n 1, 1) := by decide +kernel
theorem d_M_ancestors_29 : decode prog_5_method_26_code 29 = .ok (.invokevirtual 105, 3) := by decide +kernel
theorem d_M_ancestors_32 : decode prog_5_method_26_code 32 = .ok (.ireturn, 1) := by decide +kernel
theorem d_M_descendants_0 : decode prog_5_method_27_code 0 = .ok (.aload_n 0, 1) := by decide +kernel
theorem d_M_descendants_1 : decode prog_5_method_27_code 1 = .ok (.aload_n 0, 1) := by decide +kernel
theorem d_M_descendants_2 : decode prog_5_method_27_code 2 = .ok (.iload_n 1, 1) := by decide +kernel
theorem d_M_descendants_3 : decode prog_5_method_27_code 3 = .ok (.invokevirtual 64, 3) := by decide +kernel
theorem d_M_descendants_6 : decode prog_5_method_27_code 6 = .ok (.ifCond .ne 7, 3) := by decide +kernel
theorem d_M_descendants_9 : decode prog_5_method_27_code 9 = .ok (.iconst 1, 1) := by decide +kernel
theorem d_M_descendants_10 : decode prog_5_method_27_code 10 = .ok (.goto 4, 3) := by decide +kernel
theorem d_M_descendants_13 : decode prog_5_method_27_code 13 = .ok (.iconst 0, 1) := by decide +kernel
theorem d_M_descendants_14 : decode prog_5_method_27_code 14 = .ok (.iconst 0, 1) := by decide +kernel
theorem d_M_descendants_15 : decode prog_5_method_27_code 15 = .ok (.iconst 0, 1) := by decide +kernel
theorem d_M_descendants_16 : decode prog_5_method_27_code 16 = .ok (.iconst 0, 1) := by decide +kernel
theorem d_M_descendants_17 : decode prog_5_method_27_code 17 = .ok (.invokevirtual 83, 3) := by decide +kernel
theorem d_M_descendants_20 : decode prog_5_method_27_code 20 = .ok (.ifCond .eq 5, 3) := by decide +kernel
theorem d_M_descendants_23 : decode prog_5_method_27_code 23 = .ok (.iconst 0, 1) := by decide +kernel
theorem d_M_descendants_24 : decode prog_5_method_27_code 24 = .ok (.ireturn, 1) := by decide +kernel
theorem d_M_descendants_25 : decode prog_5_method_27_code 25 = .ok (.iconst 0, 1) := by decide +kernel
theorem d_M_descendants_26 : decode prog_5_method_27_code 26 = .ok (.istore_n 2, 1) := by decide +kernel
theorem d_M_descendants_27 : decode prog_5_method_27_code 27 = .ok (.iconst 0, 1) := by decide +kernel
theorem d_M_descendants_28 : decode prog_5_method_27_code 28 = .ok (.istore_n 3, 1) := by decide +kernel
theorem d_M_descendants_29 : decode prog_5_method_27_code 29 = .ok (.iload_n 3, 1) := by decide +kernel
theorem d_M_descendants_30 : decode prog_5_method_27_code 30 = .ok (.aload_n 0, 1) := by decide +kernel
theorem d_M_descendants_31 : decode prog_5_method_27_code 31 = .ok (.getfield 61, 3) := by decide +kernel
theorem d_M_descendants_34 : decode prog_5_method_27_code 34 = .ok (.if_icmp .ge 33, 3) := by decide +kernel
theorem d_M_descendants_37 : decode prog_5_method_27_code 37 = .ok (.iload_n 3, 1) := by decide +kernel
theorem d_M_descendants_38 : decode prog_5_method_27_code 38 = .ok (.iload_n 1, 1) := by decide +kernel
theorem d_M_descendants_39 : decode prog_5_method_27_code 39 = .ok (.if_icmp .eq 20, 3) := by decide +kernel
theorem d_M_descendants_42 : decode prog_5_method_27_code 42 = .ok (.aload_n 0, 1) := by decide +kernel
theorem d_M_descendants_43 : decode prog_5_method_27_code 43 = .ok (.iload_n 1, 1) := by decide +kernel
theorem d_M_descendants_44 : decode prog_5_method_27_code 44 = .ok (.iload_n 3, 1) := by decide +kernel
theorem d_M_descendants_45 : decode prog_5_method_27_code 45 = .ok (.invokevirtual 101, 3) := by decide +kernel
theorem d_M_descendants_48 : decode prog_5_method_27_code 48 = .ok (.ifCond .le 11, 3) := by decide +kernel
theorem d_M_descendants_51 : decode prog_5_method_27_code 51 = .ok (.iload_n 2, 1) := by decide +kernel
theorem d_M_descendants_52 : decode prog_5_method_27_code 52 = .ok (.iconst 1, 1) := by decide +kernel
theorem d_M_descendants_53 : decode prog_5_method_27_code 53 = .ok (.iload_n 3, 1) := by decide +kernel
theorem d_M_descendants_54 : decode prog_5_method_27_code 54 = .ok (.ishl, 1) := by decide +kernel
theorem d_M_descendants_55 : decode prog_5_method_27_code 55 = .ok (.ior, 1) := by decide +kernel
theorem d_M_descendants_56 : decode prog_5_method_27_code 56 = .ok (.goto 4, 3) := by decide +kernel
theorem d_M_descendants_59 : decode prog_5_method_27_code 59 = .ok (.iload_n 2, 1) := by decide +kernel
theorem d_M_descendants_60 : decode prog_5_method_27_code 60 = .ok (.istore_n 2, 1) := by decide +kernel
theorem d_M_descendants_61 : decode prog_5_method_27_code 61 = .ok (.iinc 3 1, 3) := by decide +kernel
theorem d_M_descendants_64 : decode prog_5_method_27_code 64 = .ok (.goto (-35), 3) := by decide +kernel
theorem d_M_descendants_67 : decode prog_5_method_27_code 67 = .ok (.iload_n 2, 1) := by decide +kernel
theorem d_M_descendants_68 : decode prog_5_method_27_code 68 = .ok (.ireturn, 1) := by decide +kernel
theorem d_M_lines_0 : decode prog_5_method_28_code 0 = .ok (.aload_n 0, 1) := by decide +kernel
theorem d_M_lines_1 : decode prog_5_method_28_code 1 = .ok (.aload_n 0, 1) := by decide +kernel
theorem d_M_lines_2 : decode prog_5_method_28_code 2 = .ok (.iload_n 1, 1) := by decide +kernel
theorem d_M_lines_3 : decode prog_5_method_28_code 3 = .ok (.invokevirtual 64, 3) := by decide +kernel
theorem d_M_lines_6 : decode prog_5_method_28_code 6 = .ok (.ifCond .eq 11, 3) := by decide +kernel
theorem d_M_lines_9 : decode prog_5_method_28_code 9 = .ok (.aload_n 0, 1) := by decide +kernel
theorem d_M_lines_10 : decode prog_5_method_28_code 10 = .ok (.iload_n 2, 1) := by decide +kernel
theorem d_M_lines_11 : decode prog_5_method_28_code 11 = .ok (.invokevirtual 64, 3) := by decide +kernel
theorem d_M_lines_14 : decode prog_5_method_28_code 14 = .ok (.ifCond .ne 7, 3) := by decide +kernel
theorem d_M_lines_17 : decode prog_5_method_28_code 17 = .ok (.iconst 1, 1) := by decide +kernel
theorem d_M_lines_18 : decode prog_5_method_28_code 18 = .ok (.goto 4, 3) := by decide +kernel
theorem d_M_lines_21 : decode prog_5_method_28_code 21 = .ok (.iconst 0, 1) := by decide +kernel
theorem d_M_lines_22 : decode prog_5_method_28_code 22 = .ok (.iconst 0, 1) := by decide +kernel
theorem d_M_lines_23 : decode prog_5_method_28_code 23 = .ok (.iconst 0, 1) := by decide +kernel
theorem d_M_lines_24 : decode prog_5_method_28_code 24 = .ok (.iconst 0, 1) := by decide +kernel
theorem d_M_lines_25 : decode prog_5_method_28_code 25 = .ok (.invokevirtual 83, 3) := by decide +kernel
theorem d_M_lines_28 : decode prog_5_method_28_code 28 = .ok (.ifCond .eq 7, 3) := by decide +kernel
theorem d_M_lines_31 : decode prog_5_method_28_code 31 = .ok (.iconst 0, 1) := by decide +kernel
theorem d_M_lines_32 : decode prog_5_method_28_code 32 = .ok (.goto 9, 3) := by decide +kernel
theorem d_M_lines_35 : decode prog_5_method_28_code 35 = .ok (.aload_n 0, 1) := by decide +kernel
theorem d_M_lines_36 : decode prog_5_method_28_code 36 = .ok (.iload_n 1, 1) := by decide +kernel
theorem d_M_lines_37 : decode prog_5_method_28_code 37 = .ok (.iload_n 2, 1) := by decide +kernel
theorem d_M_lines_38 : decode prog_5_method_28_code 38 = .ok (.invokevirtual 101, 3) := by decide +kernel
theorem d_M_lines_41 : decode prog_5_method_28_code 41 = .ok (.ireturn, 1) := by decide +kernel
theorem d_M_nearest_0 : decode prog_5_method_29_code 0 = .ok (.aload_n 0, 1) := by decide +kernel
theorem d_M_nearest_1 : decode prog_5_method_29_code 1 = .ok (.aload_n 0, 1) := by decide +kernel
theorem d_M_nearest_2 : decode prog_5_method_29_code 2 = .ok (.iload_n 1, 1) := by decide +kernel
theorem d_M_nearest_3 : decode prog_5_method_29_code 3 = .ok (.invokevirtual 64, 3) := by decide +kernel
theorem d_M_nearest_6 : decode prog_5_method_29_code 6 = .ok (.ifCond .eq 11, 3) := by decide +kernel
theorem d_M_nearest_9 : decode prog_5_method_29_code 9 = .ok (.aload_n 0, 1) := by decide +kernel
theorem d_M_nearest_10 : decode prog_5_method_29_code 10 = .ok (.iload_n 2, 1) := by decide +kernel
theorem d_M_nearest_11 : decode prog_5_method_29_code 11 = .ok (.invokevirtual 64, 3) := by decide +kernel
theorem d_M_nearest_14 : decode prog_5_method_29_code 14 = .ok (.ifCond .ne 7, 3) := by decide +kernel
theorem d_M_nearest_17 : decode prog_5_method_29_code 17 = .ok (.iconst 1, 1) := by decide +kernel
theorem d_M_nearest_18 : decode prog_5_method_29_code 18 = .ok (.goto 4, 3) := by decide +kernel
theorem d_M_nearest_21 : decode prog_5_method_29_code 21 = .ok (.iconst 0, 1) := by decide +kernel
theorem d_M_nearest_22 : decode prog_5_method_29_code 22 = .ok (.iconst 0, 1) := by decide +kernel
theorem d_M_nearest_23 : decode prog_5_method_29_code 23 = .ok (.iconst 0, 1) := by decide +kernel
theorem d_M_nearest_24 : decode prog_5_method_29_code 24 = .ok (.iconst 0, 1) := by decide +kernel
theorem d_M_nearest_25 : decode prog_5_method_29_code 25 = .ok (.invokevirtual 83, 3) := by decide +kernel
theorem d_M_nearest_28 : decode prog_5_method_29_code 28 = .ok (.ifCond .eq 5, 3) := by decide +kernel
theorem d_M_nearest_31 : decode prog_5_method_29_code 31 = .ok (.iconst 0, 1) := by decide +kernel
theorem d_M_nearest_32 : decode prog_5_method_29_code 32 = .ok (.ireturn, 1) := by decide +kernel
theorem d_M_nearest_33 : decode prog_5_method_29_code 33 = .ok (.aload_n 0, 1) := by decide +kernel
theorem d_M_nearest_34 : decode prog_5_method_29_code 34 = .ok (.iload_n 1, 1) := by decide +kernel
theorem d_M_nearest_35 : decode prog_5_method_29_code 35 = .ok (.invokevirtual 105, 3) := by decide +kernel
theorem d_M_nearest_38 : decode prog_5_method_29_code 38 = .ok (.iconst 1, 1) := by decide +kernel
theorem d_M_nearest_39 : decode prog_5_method_29_code 39 = .ok (.iload_n 1, 1) := by decide +kernel
theorem d_M_nearest_40 : decode prog_5_method_29_code 40 = .ok (.ishl, 1) := by decide +kernel
theorem d_M_nearest_41 : decode prog_5_method_29_code 41 = .ok (.ior, 1) := by decide +kernel
theorem d_M_nearest_42 : decode prog_5_method_29_code 42 = .ok (.aload_n 0, 1) := by decide +kernel
theorem d_M_nearest_43 : decode prog_5_method_29_code 43 = .ok (.iload_n 2, 1) := by decide +kernel
theorem d_M_nearest_44 : decode prog_5_method_29_code 44 = .ok (.invokevirtual 105, 3) := by decide +kernel
theorem d_M_nearest_47 : decode prog_5_method_29_code 47 = .ok (.iconst 1, 1) := by decide +kernel
theorem d_M_nearest_48 : decode prog_5_method_29_code 48 = .ok (.iload_n 2, 1) := by decide +kernel
theorem d_M_nearest_49 : decode prog_5_method_29_code 49 = .ok (.ishl, 1) := by decide +kernel
theorem d_M_nearest_50 : decode prog_5_method_29_code 50 = .ok (.ior, 1) := by decide +kernel
theorem d_M_nearest_51 : decode prog_5_method_29_code 51 = .ok (.iand, 1) := by decide +kernel
theorem d_M_nearest_52 : decode prog_5_method_29_code 52 = .ok (.istore_n 3, 1) := by decide +kernel
theorem d_M_nearest_53 : decode prog_5_method_29_code 53 = .ok (.iload_n 3, 1) := by decide +kernel
theorem d_M_nearest_54 : decode prog_5_method_29_code 54 = .ok (.istore 4, 2) := by decide +kernel
theorem d_M_nearest_56 : decode prog_5_method_29_code 56 = .ok (.iconst 0, 1) := by decide +kernel
theorem d_M_nearest_57 : decode prog_5_method_29_code 57 = .ok (.istore 5, 2) := by decide +kernel
theorem d_M_nearest_59 : decode prog_5_method_29_code 59 = .ok (.iload 5, 2) := by decide +kernel
theorem d_M_nearest_61 : decode prog_5_method_29_code 61 = .ok (.aload_n 0, 1) := by decide +kernel
theorem d_M_nearest_62 : decode prog_5_method_29_code 62 = .ok (.getfield 61, 3) := by decide +kernel
theorem d_M_nearest_65 : decode prog_5_method_29_code 65 = .ok (.if_icmp .ge 32, 3) := by decide +kernel
theorem d_M_nearest_68 : decode prog_5_method_29_code 68 = .ok (.iload_n 3, 1) := by decide +kernel
theorem d_M_nearest_69 : decode prog_5_method_29_code 69 = .ok (.iload 5, 2) := by decide +kernel
theorem d_M_nearest_71 : decode prog_5_method_29_code 71 = .ok (.ishr, 1) := by decide +kernel
theorem d_M_nearest_72 : decode prog_5_method_29_code 72 = .ok (.iconst 1, 1) := by decide +kernel
theorem d_M_nearest_73 : decode prog_5_method_29_code 73 = .ok (.iand, 1) := by decide +kernel
theorem d_M_nearest_74 : decode prog_5_method_29_code 74 = .ok (.iconst 1, 1) := by decide +kernel
theorem d_M_nearest_75 : decode prog_5_method_29_code 75 = .ok (.if_icmp .ne 16, 3) := by decide +kernel
theorem d_M_nearest_78 : decode prog_5_method_29_code 78 = .ok (.iload 4, 2) := by decide +kernel
theorem d_M_nearest_80 : decode prog_5_method_29_code 80 = .ok (.aload_n 0, 1) := by decide +kernel
theorem d_M_nearest_81 : decode prog_5_method_29_code 81 = .ok (.iload 5, 2) := by decide +kernel
theorem d_M_nearest_83 : decode prog_5_method_29_code 83 = .ok (.invokevirtual 105, 3) := by decide +kernel
theorem d_M_nearest_86 : decode prog_5_method_29_code 86 = .ok (.iconst (-1), 1) := by decide +kernel
theorem d_M_nearest_87 : decode prog_5_method_29_code 87 = .ok (.ixor, 1) := by decide +kernel
theorem d_M_nearest_88 : decode prog_5_method_29_code 88 = .ok (.iand, 1) := by decide +kernel
theorem d_M_nearest_89 : decode prog_5_method_29_code 89 = .ok (.istore 4, 2) := by decide +kernel
theorem d_M_nearest_91 : decode prog_5_method_29_code 91 = .ok (.iinc 5 1, 3) := by decide +kernel
theorem d_M_nearest_94 : decode prog_5_method_29_code 94 = .ok (.goto (-35), 3) := by decide +kernel
theorem d_M_nearest_97 : decode prog_5_method_29_code 97 = .ok (.iload 4, 2) := by decide +kernel
theorem d_M_nearest_99 : decode prog_5_method_29_code 99 = .ok (.ireturn, 1) := by decide +kernel
theorem d_M_closest_0 : decode prog_5_method_30_code 0 = .ok (.aload_n 0, 1) := by decide +kernel
theorem d_M_closest_1 : decode prog_5_method_30_code 1 = .ok (.aload_n 0, 1) := by decide +kernel
theorem d_M_closest_2 : decode prog_5_method_30_code 2 = .ok (.iload_n 1, 1) := by decide +kernel
theorem d_M_closest_3 : decode prog_5_method_30_code 3 = .ok (.invokevirtual 64, 3) := by decide +kernel
theorem d_M_closest_6 : decode prog_5_method_30_code 6 = .ok (.ifCond .ne 7, 3) := by decide +kernel
theorem d_M_closest_9 : decode prog_5_method_30_code 9 = .ok (.iconst 1, 1) := by decide +kernel
theorem d_M_closest_10 : decode prog_5_method_30_code 10 = .ok (.goto 4, 3) := by decide +kernel
theorem d_M_closest_13 : decode prog_5_method_30_code 13 = .ok (.iconst 0, 1) := by decide +kernel
theorem d_M_closest_14 : decode prog_5_method_30_code 14 = .ok (.iconst 0, 1) := by decide +kernel
theorem d_M_closest_15 : decode prog_5_method_30_code 15 = .ok (.iconst 0, 1) := by decide +kernel
theorem d_M_closest_16 : decode prog_5_method_30_code 16 = .ok (.iconst 0, 1) := by decide +kernel
theorem d_M_closest_17 : decode prog_5_method_30_code 17 = .ok (.invokevirtual 83, 3) := by decide +kernel
theorem d_M_closest_20 : decode prog_5_method_30_code 20 = .ok (.ifCond .eq 5, 3) := by decide +kernel
theorem d_M_closest_23 : decode prog_5_method_30_code 23 = .ok (.iconst 0, 1) := by decide +kernel
theorem d_M_closest_24 : decode prog_5_method_30_code 24 = .ok (.ireturn, 1) := by decide +kernel
theorem d_M_closest_25 : decode prog_5_method_30_code 25 = .ok (.iconst (-1), 1) := by decide +kernel
theorem d_M_closest_26 : decode prog_5_method_30_code 26 = .ok (.istore_n 2, 1) := by decide +kernel
theorem d_M_closest_27 : decode prog_5_method_30_code 27 = .ok (.iconst 0, 1) := by decide +kernel
theorem d_M_closest_28 : decode prog_5_method_30_code 28 = .ok (.istore_n 3, 1) := by decide +kernel
theorem d_M_closest_29 : decode prog_5_method_30_code 29 = .ok (.iload_n 3, 1) := by decide +kernel
theorem d_M_closest_30 : decode prog_5_method_30_code 30 = .ok (.aload_n 0, 1) := by decide +kernel
theorem d_M_closest_31 : decode prog_5_method_30_code 31 = .ok (.getfield 61, 3) := by decide +kernel
theorem d_M_closest_34 : decode prog_5_method_30_code 34 = .ok (.if_icmp .ge 45, 3) := by decide +kernel
theorem d_M_closest_37 : decode prog_5_method_30_code 37 = .ok (.iload_n 3, 1) := by decide +kernel
theorem d_M_closest_38 : decode prog_5_method_30_code 38 = .ok (.iload_n 1, 1) := by decide +kernel
theorem d_M_closest_39 : decode prog_5_method_30_code 39 = .ok (.if_icmp .eq 34, 3) := by decide +kernel
theorem d_M_closest_42 : decode prog_5_method_30_code 42 = .ok (.aload_n 0, 1) := by decide +kernel
theorem d_M_closest_43 : decode prog_5_method_30_code 43 = .ok (.getfield 22, 3) := by decide +kernel
theorem d_M_closest_46 : decode prog_5_method_30_code 46 = .ok (.iload_n 3, 1) := by decide +kernel
theorem d_M_closest_47 : decode prog_5_method_30_code 47 = .ok (.baload, 1) := by decide +kernel
theorem d_M_closest_48 : decode prog_5_method_30_code 48 = .ok (.ifCond .ne 25, 3) := by decide +kernel
theorem d_M_closest_51 : decode prog_5_method_30_code 51 = .ok (.iload_n 2, 1) := by decide +kernel
theorem d_M_closest_52 : decode prog_5_method_30_code 52 = .ok (.ifCond .lt 19, 3) := by decide +kernel
theorem d_M_closest_55 : decode prog_5_method_30_code 55 = .ok (.aload_n 0, 1) := by decide +kernel
theorem d_M_closest_56 : decode prog_5_method_30_code 56 = .ok (.iload_n 1, 1) := by decide +kernel
theorem d_M_closest_57 : decode prog_5_method_30_code 57 = .ok (.iload_n 3, 1) := by decide +kernel
theorem d_M_closest_58 : decode prog_5_method_30_code 58 = .ok (.invokevirtual 68, 3) := by decide +kernel
theorem d_M_closest_61 : decode prog_5_method_30_code 61 = .ok (.aload_n 0, 1) := by decide +kernel
theorem d_M_closest_62 : decode prog_5_method_30_code 62 = .ok (.iload_n 1, 1) := by decide +kernel
theorem d_M_closest_63 : decode prog_5_method_30_code 63 = .ok (.iload_n 2, 1) := by decide +kernel
theorem d_M_closest_64 : decode prog_5_method_30_code 64 = .ok (.invokevirtual 68, 3) := by decide +kernel
theorem d_M_closest_67 : decode prog_5_method_30_code 67 = .ok (.lcmp, 1) := by decide +kernel
theorem d_M_closest_68 : decode prog_5_method_30_code 68 = .ok (.ifCond .le 5, 3) := by decide +kernel
theorem d_M_closest_71 : decode prog_5_method_30_code 71 = .ok (.iload_n 3, 1) := by decide +kernel
theorem d_M_closest_72 : decode prog_5_method_30_code 72 = .ok (.istore_n 2, 1) := by decide +kernel
theorem d_M_closest_73 : decode prog_5_method_30_code 73 = .ok (.iinc 3 1, 3) := by decide +kernel
theorem d_M_closest_76 : decode prog_5_method_30_code 76 = .ok (.goto (-47), 3) := by decide +kernel
theorem d_M_closest_79 : decode prog_5_method_30_code 79 = .ok (.iload_n 2, 1) := by decide +kernel
theorem d_M_closest_80 : decode prog_5_method_30_code 80 = .ok (.ireturn, 1) := by decide +kernel
theorem d_M_isBull_0 : decode prog_5_method_31_code 0 = .ok (.aload_n 0, 1) := by decide +kernel
theorem d_M_isBull_1 : decode prog_5_method_31_code 1 = .ok (.getfield 16, 3) := by decide +kernel
theorem d_M_isBull_4 : decode prog_5_method_31_code 4 = .ok (.iload_n 1, 1) := by decide +kernel
theorem d_M_isBull_5 : decode prog_5_method_31_code 5 = .ok (.iaload, 1) := by decide +kernel
theorem d_M_isBull_6 : decode prog_5_method_31_code 6 = .ok (.ifCond .ne 16, 3) := by decide +kernel
theorem d_M_isBull_9 : decode prog_5_method_31_code 9 = .ok (.aload_n 0, 1) := by decide +kernel
theorem d_M_isBull_10 : decode prog_5_method_31_code 10 = .ok (.getfield 22, 3) := by decide +kernel
theorem d_M_isBull_13 : decode prog_5_method_31_code 13 = .ok (.iload_n 1, 1) := by decide +kernel
theorem d_M_isBull_14 : decode prog_5_method_31_code 14 = .ok (.baload, 1) := by decide +kernel
theorem d_M_isBull_15 : decode prog_5_method_31_code 15 = .ok (.ifCond .ne 7, 3) := by decide +kernel
theorem d_M_isBull_18 : decode prog_5_method_31_code 18 = .ok (.iconst 1, 1) := by decide +kernel
theorem d_M_isBull_19 : decode prog_5_method_31_code 19 = .ok (.goto 4, 3) := by decide +kernel
theorem d_M_isBull_22 : decode prog_5_method_31_code 22 = .ok (.iconst 0, 1) := by decide +kernel
theorem d_M_isBull_23 : decode prog_5_method_31_code 23 = .ok (.ireturn, 1) := by decide +kernel
theorem d_M_bestBull_0 : decode prog_5_method_32_code 0 = .ok (.aload_n 0, 1) := by decide +kernel
theorem d_M_bestBull_1 : decode prog_5_method_32_code 1 = .ok (.aload_n 0, 1) := by decide +kernel
theorem d_M_bestBull_2 : decode prog_5_method_32_code 2 = .ok (.iload_n 1, 1) := by decide +kernel
theorem d_M_bestBull_3 : decode prog_5_method_32_code 3 = .ok (.invokevirtual 64, 3) := by decide +kernel
theorem d_M_bestBull_6 : decode prog_5_method_32_code 6 = .ok (.ifCond .ne 7, 3) := by decide +kernel
theorem d_M_bestBull_9 : decode prog_5_method_32_code 9 = .ok (.iconst 1, 1) := by decide +kernel
theorem d_M_bestBull_10 : decode prog_5_method_32_code 10 = .ok (.goto 4, 3) := by decide +kernel
theorem d_M_bestBull_13 : decode prog_5_method_32_code 13 = .ok (.iconst 0, 1) := by decide +kernel
theorem d_M_bestBull_14 : decode prog_5_method_32_code 14 = .ok (.iconst 0, 1) := by decide +kernel
theorem d_M_bestBull_15 : decode prog_5_method_32_code 15 = .ok (.iconst 0, 1) := by decide +kernel
theorem d_M_bestBull_16 : decode prog_5_method_32_code 16 = .ok (.iconst 0, 1) := by decide +kernel
theorem d_M_bestBull_17 : decode prog_5_method_32_code 17 = .ok (.invokevirtual 83, 3) := by decide +kernel
theorem d_M_bestBull_20 : decode prog_5_method_32_code 20 = .ok (.ifCond .eq 5, 3) := by decide +kernel
theorem d_M_bestBull_23 : decode prog_5_method_32_code 23 = .ok (.iconst 0, 1) := by decide +kernel
theorem d_M_bestBull_24 : decode prog_5_method_32_code 24 = .ok (.ireturn, 1) := by decide +kernel
theorem d_M_bestBull_25 : decode prog_5_method_32_code 25 = .ok (.iconst (-1), 1) := by decide +kernel
theorem d_M_bestBull_26 : decode prog_5_method_32_code 26 = .ok (.istore_n 2, 1) := by decide +kernel
theorem d_M_bestBull_27 : decode prog_5_method_32_code 27 = .ok (.iconst 0, 1) := by decide +kernel
theorem d_M_bestBull_28 : decode prog_5_method_32_code 28 = .ok (.istore_n 3, 1) := by decide +kernel
theorem d_M_bestBull_29 : decode prog_5_method_32_code 29 = .ok (.iload_n 3, 1) := by decide +kernel
theorem d_M_bestBull_30 : decode prog_5_method_32_code 30 = .ok (.aload_n 0, 1) := by decide +kernel
theorem d_M_bestBull_31 : decode prog_5_method_32_code 31 = .ok (.getfield 61, 3) := by decide +kernel
theorem d_M_bestBull_34 : decode prog_5_method_32_code 34 = .ok (.if_icmp .ge 39, 3) := by decide +kernel
theorem d_M_bestBull_37 : decode prog_5_method_32_code 37 = .ok (.aload_n 0, 1) := by decide +kernel
theorem d_M_bestBull_38 : decode prog_5_method_32_code 38 = .ok (.iload_n 3, 1) := by decide +kernel
theorem d_M_bestBull_39 : decode prog_5_method_32_code 39 = .ok (.invokevirtual 108, 3) := by decide +kernel
theorem d_M_bestBull_42 : decode prog_5_method_32_code 42 = .ok (.ifCond .eq 25, 3) := by decide +kernel
theorem d_M_bestBull_45 : decode prog_5_method_32_code 45 = .ok (.iload_n 2, 1) := by decide +kernel
theorem d_M_bestBull_46 : decode prog_5_method_32_code 46 = .ok (.ifCond .lt 19, 3) := by decide +kernel
theorem d_M_bestBull_49 : decode prog_5_method_32_code 49 = .ok (.aload_n 0, 1) := by decide +kernel
theorem d_M_bestBull_50 : decode prog_5_method_32_code 50 = .ok (.iload_n 1, 1) := by decide +kernel
theorem d_M_bestBull_51 : decode prog_5_method_32_code 51 = .ok (.iload_n 3, 1) := by decide +kernel
theorem d_M_bestBull_52 : decode prog_5_method_32_code 52 = .ok (.invokevirtual 68, 3) := by decide +kernel
theorem d_M_bestBull_55 : decode prog_5_method_32_code 55 = .ok (.aload_n 0, 1) := by decide +kernel
theorem d_M_bestBull_56 : decode prog_5_method_32_code 56 = .ok (.iload_n 1, 1) := by decide +kernel
theorem d_M_bestBull_57 : decode prog_5_method_32_code 57 = .ok (.iload_n 2, 1) := by decide +kernel
theorem d_M_bestBull_58 : decode prog_5_method_32_code 58 = .ok (.invokevirtual 68, 3) := by decide +kernel
theorem d_M_bestBull_61 : decode prog_5_method_32_code 61 = .ok (.lcmp, 1) := by decide +kernel
theorem d_M_bestBull_62 : decode prog_5_method_32_code 62 = .ok (.ifCond .ge 5, 3) := by decide +kernel
theorem d_M_bestBull_65 : decode prog_5_method_32_code 65 = .ok (.iload_n 3, 1) := by decide +kernel
theorem d_M_bestBull_66 : decode prog_5_method_32_code 66 = .ok (.istore_n 2, 1) := by decide +kernel
theorem d_M_bestBull_67 : decode prog_5_method_32_code 67 = .ok (.iinc 3 1, 3) := by decide +kernel
theorem d_M_bestBull_70 : decode prog_5_method_32_code 70 = .ok (.goto (-41), 3) := by decide +kernel
theorem d_M_bestBull_73 : decode prog_5_method_32_code 73 = .ok (.iload_n 2, 1) := by decide +kernel
theorem d_M_bestBull_74 : decode prog_5_method_32_code 74 = .ok (.ireturn, 1) := by decide +kernel
theorem d_M_bitsOf_0 : decode prog_5_method_33_code 0 = .ok (.iconst 0, 1) := by decide +kernel
theorem d_M_bitsOf_1 : decode prog_5_method_33_code 1 = .ok (.istore_n 1, 1) := by decide +kernel
theorem d_M_bitsOf_2 : decode prog_5_method_33_code 2 = .ok (.iconst 0, 1) := by decide +kernel
theorem d_M_bitsOf_3 : decode prog_5_method_33_code 3 = .ok (.istore_n 2, 1) := by decide +kernel
theorem d_M_bitsOf_4 : decode prog_5_method_33_code 4 = .ok (.iload_n 2, 1) := by decide +kernel
theorem d_M_bitsOf_5 : decode prog_5_method_33_code 5 = .ok (.bipush 32, 2) := by decide +kernel
theorem d_M_bitsOf_7 : decode prog_5_method_33_code 7 = .ok (.if_icmp .ge 17, 3) := by decide +kernel
theorem d_M_bitsOf_10 : decode prog_5_method_33_code 10 = .ok (.iload_n 1, 1) := by decide +kernel
theorem d_M_bitsOf_11 : decode prog_5_method_33_code 11 = .ok (.iload_n 0, 1) := by decide +kernel
theorem d_M_bitsOf_12 : decode prog_5_method_33_code 12 = .ok (.iload_n 2, 1) := by decide +kernel
theorem d_M_bitsOf_13 : decode prog_5_method_33_code 13 = .ok (.ishr, 1) := by decide +kernel
theorem d_M_bitsOf_14 : decode prog_5_method_33_code 14 = .ok (.iconst 1, 1) := by decide +kernel
theorem d_M_bitsOf_15 : decode prog_5_method_33_code 15 = .ok (.iand, 1) := by decide +kernel
theorem d_M_bitsOf_16 : decode prog_5_method_33_code 16 = .ok (.iadd, 1) := by decide +kernel
theorem d_M_bitsOf_17 : decode prog_5_method_33_code 17 = .ok (.istore_n 1, 1) := by decide +kernel
theorem d_M_bitsOf_18 : decode prog_5_method_33_code 18 = .ok (.iinc 2 1, 3) := by decide +kernel
theorem d_M_bitsOf_21 : decode prog_5_method_33_code 21 = .ok (.goto (-17), 3) := by decide +kernel
theorem d_M_bitsOf_24 : decode prog_5_method_33_code 24 = .ok (.iload_n 1, 1) := by decide +kernel
theorem d_M_bitsOf_25 : decode prog_5_method_33_code 25 = .ok (.ireturn, 1) := by decide +kernel
theorem d_M_nextBull_0 : decode prog_5_method_34_code 0 = .ok (.iload_n 2, 1) := by decide +kernel
theorem d_M_nextBull_1 : decode prog_5_method_34_code 1 = .ok (.istore 6, 2) := by decide +kernel
theorem d_M_nextBull_3 : decode prog_5_method_34_code 3 = .ok (.iload 6, 2) := by decide +kernel
theorem d_M_nextBull_5 : decode prog_5_method_34_code 5 = .ok (.aload_n 0, 1) := by decide +kernel
theorem d_M_nextBull_6 : decode prog_5_method_34_code 6 = .ok (.getfield 61, 3) := by decide +kernel
theorem d_M_nextBull_9 : decode prog_5_method_34_code 9 = .ok (.if_icmp .ge 42, 3) := by decide +kernel
theorem d_M_nextBull_12 : decode prog_5_method_34_code 12 = .ok (.aload_n 0, 1) := by decide +kernel
theorem d_M_nextBull_13 : decode prog_5_method_34_code 13 = .ok (.iload 6, 2) := by decide +kernel
theorem d_M_nextBull_15 : decode prog_5_method_34_code 15 = .ok (.invokevirtual 108, 3) := by decide +kernel
theorem d_M_nextBull_18 : decode prog_5_method_34_code 18 = .ok (.ifCond .eq 27, 3) := by decide +kernel
theorem d_M_nextBull_21 : decode prog_5_method_34_code 21 = .ok (.aload_n 0, 1) := by decide +kernel
theorem d_M_nextBull_22 : decode prog_5_method_34_code 22 = .ok (.getfield 54, 3) := by decide +kernel
theorem d_M_nextBull_25 : decode prog_5_method_34_code 25 = .ok (.iload 6, 2) := by decide +kernel
theorem d_M_nextBull_27 : decode prog_5_method_34_code 27 = .ok (.iaload, 1) := by decide +kernel
theorem d_M_nextBull_28 : decode prog_5_method_34_code 28 = .ok (.iload_n 3, 1) := by decide +kernel
theorem d_M_nextBull_29 : decode prog_5_method_34_code 29 = .ok (.if_icmp .ge 16, 3) := by decide +kernel
theorem d_M_nextBull_32 : decode prog_5_method_34_code 32 = .ok (.aload_n 0, 1) := by decide +kernel
theorem d_M_nextBull_33 : decode prog_5_method_34_code 33 = .ok (.iload_n 1, 1) := by decide +kernel
theorem d_M_nextBull_34 : decode prog_5_method_34_code 34 = .ok (.iload 6, 2) := by decide +kernel
theorem d_M_nextBull_36 : decode prog_5_method_34_code 36 = .ok (.invokevirtual 68, 3) := by decide +kernel
theorem d_M_nextBull_39 : decode prog_5_method_34_code 39 = .ok (.lload 4, 2) := by decide +kernel
theorem d_M_nextBull_41 : decode prog_5_method_34_code 41 = .ok (.lcmp, 1) := by decide +kernel
theorem d_M_nextBull_42 : decode prog_5_method_34_code 42 = .ok (.ifCond .le 9, 3) := by decide +kernel
theorem d_M_nextBull_45 : decode prog_5_method_34_code 45 = .ok (.iinc 6 1, 3) := by decide +kernel
theorem d_M_nextBull_48 : decode prog_5_method_34_code 48 = .ok (.goto (-45), 3) := by decide +kernel
theorem d_M_nextBull_51 : decode prog_5_method_34_code 51 = .ok (.iload 6, 2) := by decide +kernel
theorem d_M_nextBull_53 : decode prog_5_method_34_code 53 = .ok (.ireturn, 1) := by decide +kernel
theorem d_M_leastFrom_0 : decode prog_5_method_35_code 0 = .ok (.lconst 0, 1) := by decide +kernel
theorem d_M_leastFrom_1 : decode prog_5_method_35_code 1 = .ok (.lstore 4, 2) := by decide +kernel
theorem d_M_leastFrom_3 : decode prog_5_method_35_code 3 = .ok (.iload_n 1, 1) := by decide +kernel
theorem d_M_leastFrom_4 : decode prog_5_method_35_code 4 = .ok (.istore 6, 2) := by decide +kernel
theorem d_M_leastFrom_6 : decode prog_5_method_35_code 6 = .ok (.iload 6, 2) := by decide +kernel
theorem d_M_leastFrom_8 : decode prog_5_method_35_code 8 = .ok (.aload_n 0, 1) := by decide +kernel
theorem d_M_leastFrom_9 : decode prog_5_method_35_code 9 = .ok (.getfield 111, 3) := by decide +kernel
theorem d_M_leastFrom_12 : decode prog_5_method_35_code 12 = .ok (.if_icmp .ge 85, 3) := by decide +kernel
theorem d_M_leastFrom_15 : decode prog_5_method_35_code 15 = .ok (.lload_n 2, 1) := by decide +kernel
theorem d_M_leastFrom_16 : decode prog_5_method_35_code 16 = .ok (.lstore 7, 2) := by decide +kernel
theorem d_M_leastFrom_18 : decode prog_5_method_35_code 18 = .ok (.iconst 0, 1) := by decide +kernel
theorem d_M_leastFrom_19 : decode prog_5_method_35_code 19 = .ok (.istore 9, 2) := by decide +kernel
theorem d_M_leastFrom_21 : decode prog_5_method_35_code 21 = .ok (.iload 9, 2) := by decide +kernel
theorem d_M_leastFrom_23 : decode prog_5_method_35_code 23 = .ok (.aload_n 0, 1) := by decide +kernel
theorem d_M_leastFrom_24 : decode prog_5_method_35_code 24 = .ok (.getfield 61, 3) := by decide +kernel
theorem d_M_leastFrom_27 : decode prog_5_method_35_code 27 = .ok (.if_icmp .ge 57, 3) := by decide +kernel
theorem d_M_leastFrom_30 : decode prog_5_method_35_code 30 = .ok (.aload_n 0, 1) := by decide +kernel
theorem d_M_leastFrom_31 : decode prog_5_method_35_code 31 = .ok (.iload 9, 2) := by decide +kernel
theorem d_M_leastFrom_33 : decode prog_5_method_35_code 33 = .ok (.invokevirtual 108, 3) := by decide +kernel
theorem d_M_leastFrom_36 : decode prog_5_method_35_code 36 = .ok (.ifCond .eq 38, 3) := by decide +kernel
theorem d_M_leastFrom_39 : decode prog_5_method_35_code 39 = .ok (.aload_n 0, 1) := by decide +kernel
theorem d_M_leastFrom_40 : decode prog_5_method_35_code 40 = .ok (.aload_n 0, 1) := by decide +kernel
theorem d_M_leastFrom_41 : decode prog_5_method_35_code 41 = .ok (.getfield 45, 3) := by decide +kernel
theorem d_M_leastFrom_44 : decode prog_5_method_35_code 44 = .ok (.iload 6, 2) := by decide +kernel
theorem d_M_leastFrom_46 : decode prog_5_method_35_code 46 = .ok (.iaload, 1) := by decide +kernel
theorem d_M_leastFrom_47 : decode prog_5_method_35_code 47 = .ok (.iload 9, 2) := by decide +kernel
theorem d_M_leastFrom_49 : decode prog_5_method_35_code 49 = .ok (.invokevirtual 68, 3) := by decide +kernel
theorem d_M_leastFrom_52 : decode prog_5_method_35_code 52 = .ok (.lload 7, 2) := by decide +kernel
theorem d_M_leastFrom_54 : decode prog_5_method_35_code 54 = .ok (.lcmp, 1) := by decide +kernel
theorem d_M_leastFrom_55 : decode prog_5_method_35_code 55 = .ok (.ifCond .ge 19, 3) := by decide +kernel
theorem d_M_leastFrom_58 : decode prog_5_method_35_code 58 = .ok (.aload_n 0, 1) := by decide +kernel
theorem d_M_leastFrom_59 : decode prog_5_method_35_code 59 = .ok (.aload_n 0, 1) := by decide +kernel
theorem d_M_leastFrom_60 : decode prog_5_method_35_code 60 = .ok (.getfield 45, 3) := by decide +kernel
theorem d_M_leastFrom_63 : decode prog_5_method_35_code 63 = .ok (.iload 6, 2) := by decide +kernel
theorem d_M_leastFrom_65 : decode prog_5_method_35_code 65 = .ok (.iaload, 1) := by decide +kernel
theorem d_M_leastFrom_66 : decode prog_5_method_35_code 66 = .ok (.iload 9, 2) := by decide +kernel
theorem d_M_leastFrom_68 : decode prog_5_method_35_code 68 = .ok (.invokevirtual 68, 3) := by decide +kernel
theorem d_M_leastFrom_71 : decode prog_5_method_35_code 71 = .ok (.goto 5, 3) := by decide +kernel
theorem d_M_leastFrom_74 : decode prog_5_method_35_code 74 = .ok (.lload 7, 2) := by decide +kernel
theorem d_M_leastFrom_76 : decode prog_5_method_35_code 76 = .ok (.lstore 7, 2) := by decide +kernel
theorem d_M_leastFrom_78 : decode prog_5_method_35_code 78 = .ok (.iinc 9 1, 3) := by decide +kernel
theorem d_M_leastFrom_81 : decode prog_5_method_35_code 81 = .ok (.goto (-60), 3) := by decide +kernel
theorem d_M_leastFrom_84 : decode prog_5_method_35_code 84 = .ok (.lload 4, 2) := by decide +kernel
theorem d_M_leastFrom_86 : decode prog_5_method_35_code 86 = .ok (.lload 7, 2) := by decide +kernel
theorem d_M_leastFrom_88 : decode prog_5_method_35_code 88 = .ok (.ladd, 1) := by decide +kernel
theorem d_M_leastFrom_89 : decode prog_5_method_35_code 89 = .ok (.lstore 4, 2) := by decide +kernel
theorem d_M_leastFrom_91 : decode prog_5_method_35_code 91 = .ok (.iinc 6 1, 3) := by decide +kernel
theorem d_M_leastFrom_94 : decode prog_5_method_35_code 94 = .ok (.goto (-88), 3) := by decide +kernel
theorem d_M_leastFrom_97 : decode prog_5_method_35_code 97 = .ok (.lload 4, 2) := by decide +kernel
theorem d_M_leastFrom_99 : decode prog_5_method_35_code 99 = .ok (.lreturn, 1) := by decide +kernel
theorem d_M_findBest_0 : decode prog_5_method_36_code 0 = .ok (.ldc2_w 114, 3) := by decide +kernel
theorem d_M_findBest_3 : decode prog_5_method_36_code 3 = .ok (.lstore 4, 2) := by decide +kernel
theorem d_M_findBest_5 : decode prog_5_method_36_code 5 = .ok (.lconst 0, 1) := by decide +kernel
theorem d_M_findBest_6 : decode prog_5_method_36_code 6 = .ok (.lstore 6, 2) := by decide +kernel
theorem d_M_findBest_8 : decode prog_5_method_36_code 8 = .ok (.iconst 0, 1) := by decide +kernel
theorem d_M_findBest_9 : decode prog_5_method_36_code 9 = .ok (.istore 8, 2) := by decide +kernel
theorem d_M_findBest_11 : decode prog_5_method_36_code 11 = .ok (.iconst 0, 1) := by decide +kernel
theorem d_M_findBest_12 : decode prog_5_method_36_code 12 = .ok (.istore 9, 2) := by decide +kernel
theorem d_M_findBest_14 : decode prog_5_method_36_code 14 = .ok (.iload 9, 2) := by decide +kernel
theorem d_M_findBest_16 : decode prog_5_method_36_code 16 = .ok (.aload_n 0, 1) := by decide +kernel
theorem d_M_findBest_17 : decode prog_5_method_36_code 17 = .ok (.getfield 61, 3) := by decide +kernel
theorem d_M_findBest_20 : decode prog_5_method_36_code 20 = .ok (.if_icmp .ge 17, 3) := by decide +kernel
theorem d_M_findBest_23 : decode prog_5_method_36_code 23 = .ok (.aload_n 0, 1) := by decide +kernel
theorem d_M_findBest_24 : decode prog_5_method_36_code 24 = .ok (.getfield 54, 3) := by decide +kernel
theorem d_M_findBest_27 : decode prog_5_method_36_code 27 = .ok (.iload 9, 2) := by decide +kernel
theorem d_M_findBest_29 : decode prog_5_method_36_code 29 = .ok (.iconst 0, 1) := by decide +kernel
theorem d_M_findBest_30 : decode prog_5_method_36_code 30 = .ok (.iastore, 1) := by decide +kernel
theorem d_M_findBest_31 : decode prog_5_method_36_code 31 = .ok (.iinc 9 1, 3) := by decide +kernel
theorem d_M_findBest_34 : decode prog_5_method_36_code 34 = .ok (.goto (-20), 3) := by decide +kernel
theorem d_M_findBest_37 : decode prog_5_method_36_code 37 = .ok (.iconst 0, 1) := by decide +kernel
theorem d_M_findBest_38 : decode prog_5_method_36_code 38 = .ok (.istore 9, 2) := by decide +kernel
theorem d_M_findBest_40 : decode prog_5_method_36_code 40 = .ok (.iload 9, 2) := by decide +kernel
theorem d_M_findBest_42 : decode prog_5_method_36_code 42 = .ok (.aload_n 0, 1) := by decide +kernel
theorem d_M_findBest_43 : decode prog_5_method_36_code 43 = .ok (.getfield 111, 3) := by decide +kernel
theorem d_M_findBest_46 : decode prog_5_method_36_code 46 = .ok (.if_icmp .ge 17, 3) := by decide +kernel
theorem d_M_findBest_49 : decode prog_5_method_36_code 49 = .ok (.aload_n 0, 1) := by decide +kernel
theorem d_M_findBest_50 : decode prog_5_method_36_code 50 = .ok (.getfield 48, 3) := by decide +kernel
theorem d_M_findBest_53 : decode prog_5_method_36_code 53 = .ok (.iload 9, 2) := by decide +kernel
theorem d_M_findBest_55 : decode prog_5_method_36_code 55 = .ok (.iconst (-1), 1) := by decide +kernel
theorem d_M_findBest_56 : decode prog_5_method_36_code 56 = .ok (.iastore, 1) := by decide +kernel
theorem d_M_findBest_57 : decode prog_5_method_36_code 57 = .ok (.iinc 9 1, 3) := by decide +kernel
theorem d_M_findBest_60 : decode prog_5_method_36_code 60 = .ok (.goto (-20), 3) := by decide +kernel
theorem d_M_findBest_63 : decode prog_5_method_36_code 63 = .ok (.iload 8, 2) := by decide +kernel
theorem d_M_findBest_65 : decode prog_5_method_36_code 65 = .ok (.ifCond .lt 239, 3) := by decide +kernel
theorem d_M_findBest_68 : decode prog_5_method_36_code 68 = .ok (.iload 8, 2) := by decide +kernel
theorem d_M_findBest_70 : decode prog_5_method_36_code 70 = .ok (.aload_n 0, 1) := by decide +kernel
theorem d_M_findBest_71 : decode prog_5_method_36_code 71 = .ok (.getfield 111, 3) := by decide +kernel
theorem d_M_findBest_74 : decode prog_5_method_36_code 74 = .ok (.if_icmp .ne 45, 3) := by decide +kernel
theorem d_M_findBest_77 : decode prog_5_method_36_code 77 = .ok (.lload 6, 2) := by decide +kernel
theorem d_M_findBest_79 : decode prog_5_method_36_code 79 = .ok (.lstore 4, 2) := by decide +kernel
theorem d_M_findBest_81 : decode prog_5_method_36_code 81 = .ok (.iconst 0, 1) := by decide +kernel
