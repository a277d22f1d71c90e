theorem d_M_fill_98 : decode prog_5_method_8_code 98 = .ok (.getfield 26, 3) := by decide +kernel
theorem d_M_fill_101 : decode prog_5_method_8_code 101 = .ok (.bipush 24, 2) := by decide +kernel
theorem d_M_fill_103 : decode prog_5_method_8_code 103 = .ok (.iload_n 1, 1) := by decide +kernel
theorem d_M_fill_104 : decode prog_5_method_8_code 104 = .ok (.imul, 1) := by decide +kernel
theorem d_M_fill_105 : decode prog_5_method_8_code 105 = .ok (.iload_n 1, 1) := by decide +kernel
theorem d_M_fill_106 : decode prog_5_method_8_code 106 = .ok (.iadd, 1) := by decide +kernel
theorem d_M_fill_107 : decode prog_5_method_8_code 107 = .ok (.ldc2_w 74, 3) := by decide +kernel
theorem d_M_fill_110 : decode prog_5_method_8_code 110 = .ok (.aload_n 0, 1) := by decide +kernel
theorem d_M_fill_111 : decode prog_5_method_8_code 111 = .ok (.getfield 30, 3) := by decide +kernel
theorem d_M_fill_114 : decode prog_5_method_8_code 114 = .ok (.iload_n 1, 1) := by decide +kernel
theorem d_M_fill_115 : decode prog_5_method_8_code 115 = .ok (.laload, 1) := by decide +kernel
theorem d_M_fill_116 : decode prog_5_method_8_code 116 = .ok (.ladd, 1) := by decide +kernel
theorem d_M_fill_117 : decode prog_5_method_8_code 117 = .ok (.ldc2_w 72, 3) := by decide +kernel
theorem d_M_fill_120 : decode prog_5_method_8_code 120 = .ok (.ldiv, 1) := by decide +kernel
theorem d_M_fill_121 : decode prog_5_method_8_code 121 = .ok (.lastore, 1) := by decide +kernel
theorem d_M_fill_122 : decode prog_5_method_8_code 122 = .ok (.iinc 1 1, 3) := by decide +kernel
theorem d_M_fill_125 : decode prog_5_method_8_code 125 = .ok (.goto (-123), 3) := by decide +kernel
theorem d_M_fill_128 : decode prog_5_method_8_code 128 = .ok (.return_, 1) := by decide +kernel
theorem d_M_enter_0 : decode prog_5_method_9_code 0 = .ok (.aload_n 0, 1) := by decide +kernel
theorem d_M_enter_1 : decode prog_5_method_9_code 1 = .ok (.iload_n 1, 1) := by decide +kernel
theorem d_M_enter_2 : decode prog_5_method_9_code 2 = .ok (.invokevirtual 76, 3) := by decide +kernel
theorem d_M_enter_5 : decode prog_5_method_9_code 5 = .ok (.ifCond .eq 15, 3) := by decide +kernel
theorem d_M_enter_8 : decode prog_5_method_9_code 8 = .ok (.aload_n 0, 1) := by decide +kernel
theorem d_M_enter_9 : decode prog_5_method_9_code 9 = .ok (.iload_n 2, 1) := by decide +kernel
theorem d_M_enter_10 : decode prog_5_method_9_code 10 = .ok (.invokevirtual 76, 3) := by decide +kernel
theorem d_M_enter_13 : decode prog_5_method_9_code 13 = .ok (.ifCond .eq 7, 3) := by decide +kernel
theorem d_M_enter_16 : decode prog_5_method_9_code 16 = .ok (.iconst 1, 1) := by decide +kernel
theorem d_M_enter_17 : decode prog_5_method_9_code 17 = .ok (.goto 4, 3) := by decide +kernel
theorem d_M_enter_20 : decode prog_5_method_9_code 20 = .ok (.iconst 0, 1) := by decide +kernel
theorem d_M_enter_21 : decode prog_5_method_9_code 21 = .ok (.istore 5, 2) := by decide +kernel
theorem d_M_enter_23 : decode prog_5_method_9_code 23 = .ok (.iload 5, 2) := by decide +kernel
theorem d_M_enter_25 : decode prog_5_method_9_code 25 = .ok (.ifCond .eq 37, 3) := by decide +kernel
theorem d_M_enter_28 : decode prog_5_method_9_code 28 = .ok (.aload_n 0, 1) := by decide +kernel
theorem d_M_enter_29 : decode prog_5_method_9_code 29 = .ok (.iload_n 1, 1) := by decide +kernel
theorem d_M_enter_30 : decode prog_5_method_9_code 30 = .ok (.iconst 0, 1) := by decide +kernel
theorem d_M_enter_31 : decode prog_5_method_9_code 31 = .ok (.iload 4, 2) := by decide +kernel
theorem d_M_enter_33 : decode prog_5_method_9_code 33 = .ok (.aload_n 0, 1) := by decide +kernel
theorem d_M_enter_34 : decode prog_5_method_9_code 34 = .ok (.getfield 61, 3) := by decide +kernel
theorem d_M_enter_37 : decode prog_5_method_9_code 37 = .ok (.invokevirtual 79, 3) := by decide +kernel
theorem d_M_enter_40 : decode prog_5_method_9_code 40 = .ok (.ifCond .eq 22, 3) := by decide +kernel
theorem d_M_enter_43 : decode prog_5_method_9_code 43 = .ok (.aload_n 0, 1) := by decide +kernel
theorem d_M_enter_44 : decode prog_5_method_9_code 44 = .ok (.iload_n 2, 1) := by decide +kernel
theorem d_M_enter_45 : decode prog_5_method_9_code 45 = .ok (.iconst 1, 1) := by decide +kernel
theorem d_M_enter_46 : decode prog_5_method_9_code 46 = .ok (.iload 4, 2) := by decide +kernel
theorem d_M_enter_48 : decode prog_5_method_9_code 48 = .ok (.aload_n 0, 1) := by decide +kernel
theorem d_M_enter_49 : decode prog_5_method_9_code 49 = .ok (.getfield 61, 3) := by decide +kernel
theorem d_M_enter_52 : decode prog_5_method_9_code 52 = .ok (.invokevirtual 79, 3) := by decide +kernel
theorem d_M_enter_55 : decode prog_5_method_9_code 55 = .ok (.ifCond .eq 7, 3) := by decide +kernel
theorem d_M_enter_58 : decode prog_5_method_9_code 58 = .ok (.iconst 1, 1) := by decide +kernel
theorem d_M_enter_59 : decode prog_5_method_9_code 59 = .ok (.goto 4, 3) := by decide +kernel
theorem d_M_enter_62 : decode prog_5_method_9_code 62 = .ok (.iconst 0, 1) := by decide +kernel
theorem d_M_enter_63 : decode prog_5_method_9_code 63 = .ok (.istore 6, 2) := by decide +kernel
theorem d_M_enter_65 : decode prog_5_method_9_code 65 = .ok (.aload_n 0, 1) := by decide +kernel
theorem d_M_enter_66 : decode prog_5_method_9_code 66 = .ok (.iload_n 3, 1) := by decide +kernel
theorem d_M_enter_67 : decode prog_5_method_9_code 67 = .ok (.ifCond .lt 20, 3) := by decide +kernel
theorem d_M_enter_70 : decode prog_5_method_9_code 70 = .ok (.iload_n 3, 1) := by decide +kernel
theorem d_M_enter_71 : decode prog_5_method_9_code 71 = .ok (.iconst 1, 1) := by decide +kernel
theorem d_M_enter_72 : decode prog_5_method_9_code 72 = .ok (.if_icmp .gt 15, 3) := by decide +kernel
theorem d_M_enter_75 : decode prog_5_method_9_code 75 = .ok (.iload 4, 2) := by decide +kernel
theorem d_M_enter_77 : decode prog_5_method_9_code 77 = .ok (.ifCond .lt 10, 3) := by decide +kernel
theorem d_M_enter_80 : decode prog_5_method_9_code 80 = .ok (.iload 4, 2) := by decide +kernel
theorem d_M_enter_82 : decode prog_5_method_9_code 82 = .ok (.bipush 60, 2) := by decide +kernel
theorem d_M_enter_84 : decode prog_5_method_9_code 84 = .ok (.if_icmp .le 7, 3) := by decide +kernel
theorem d_M_enter_87 : decode prog_5_method_9_code 87 = .ok (.iconst 1, 1) := by decide +kernel
theorem d_M_enter_88 : decode prog_5_method_9_code 88 = .ok (.goto 4, 3) := by decide +kernel
theorem d_M_enter_91 : decode prog_5_method_9_code 91 = .ok (.iconst 0, 1) := by decide +kernel
theorem d_M_enter_92 : decode prog_5_method_9_code 92 = .ok (.iload 5, 2) := by decide +kernel
theorem d_M_enter_94 : decode prog_5_method_9_code 94 = .ok (.ifCond .ne 7, 3) := by decide +kernel
theorem d_M_enter_97 : decode prog_5_method_9_code 97 = .ok (.iconst 1, 1) := by decide +kernel
theorem d_M_enter_98 : decode prog_5_method_9_code 98 = .ok (.goto 4, 3) := by decide +kernel
theorem d_M_enter_101 : decode prog_5_method_9_code 101 = .ok (.iconst 0, 1) := by decide +kernel
theorem d_M_enter_102 : decode prog_5_method_9_code 102 = .ok (.iload 6, 2) := by decide +kernel
theorem d_M_enter_104 : decode prog_5_method_9_code 104 = .ok (.ifCond .ne 7, 3) := by decide +kernel
theorem d_M_enter_107 : decode prog_5_method_9_code 107 = .ok (.iconst 1, 1) := by decide +kernel
theorem d_M_enter_108 : decode prog_5_method_9_code 108 = .ok (.goto 4, 3) := by decide +kernel
theorem d_M_enter_111 : decode prog_5_method_9_code 111 = .ok (.iconst 0, 1) := by decide +kernel
theorem d_M_enter_112 : decode prog_5_method_9_code 112 = .ok (.aload_n 0, 1) := by decide +kernel
theorem d_M_enter_113 : decode prog_5_method_9_code 113 = .ok (.getfield 61, 3) := by decide +kernel
theorem d_M_enter_116 : decode prog_5_method_9_code 116 = .ok (.bipush 24, 2) := by decide +kernel
theorem d_M_enter_118 : decode prog_5_method_9_code 118 = .ok (.if_icmp .ne 7, 3) := by decide +kernel
theorem d_M_enter_121 : decode prog_5_method_9_code 121 = .ok (.iconst 1, 1) := by decide +kernel
theorem d_M_enter_122 : decode prog_5_method_9_code 122 = .ok (.goto 4, 3) := by decide +kernel
theorem d_M_enter_125 : decode prog_5_method_9_code 125 = .ok (.iconst 0, 1) := by decide +kernel
theorem d_M_enter_126 : decode prog_5_method_9_code 126 = .ok (.invokevirtual 83, 3) := by decide +kernel
theorem d_M_enter_129 : decode prog_5_method_9_code 129 = .ok (.ifCond .eq 5, 3) := by decide +kernel
theorem d_M_enter_132 : decode prog_5_method_9_code 132 = .ok (.iconst 0, 1) := by decide +kernel
theorem d_M_enter_133 : decode prog_5_method_9_code 133 = .ok (.ireturn, 1) := by decide +kernel
theorem d_M_enter_134 : decode prog_5_method_9_code 134 = .ok (.aload_n 0, 1) := by decide +kernel
theorem d_M_enter_135 : decode prog_5_method_9_code 135 = .ok (.getfield 7, 3) := by decide +kernel
theorem d_M_enter_138 : decode prog_5_method_9_code 138 = .ok (.aload_n 0, 1) := by decide +kernel
theorem d_M_enter_139 : decode prog_5_method_9_code 139 = .ok (.getfield 61, 3) := by decide +kernel
theorem d_M_enter_142 : decode prog_5_method_9_code 142 = .ok (.iload_n 1, 1) := by decide +kernel
theorem d_M_enter_143 : decode prog_5_method_9_code 143 = .ok (.iastore, 1) := by decide +kernel
theorem d_M_enter_144 : decode prog_5_method_9_code 144 = .ok (.aload_n 0, 1) := by decide +kernel
theorem d_M_enter_145 : decode prog_5_method_9_code 145 = .ok (.getfield 13, 3) := by decide +kernel
theorem d_M_enter_148 : decode prog_5_method_9_code 148 = .ok (.aload_n 0, 1) := by decide +kernel
theorem d_M_enter_149 : decode prog_5_method_9_code 149 = .ok (.getfield 61, 3) := by decide +kernel
theorem d_M_enter_152 : decode prog_5_method_9_code 152 = .ok (.iload_n 2, 1) := by decide +kernel
theorem d_M_enter_153 : decode prog_5_method_9_code 153 = .ok (.iastore, 1) := by decide +kernel
theorem d_M_enter_154 : decode prog_5_method_9_code 154 = .ok (.aload_n 0, 1) := by decide +kernel
theorem d_M_enter_155 : decode prog_5_method_9_code 155 = .ok (.getfield 16, 3) := by decide +kernel
theorem d_M_enter_158 : decode prog_5_method_9_code 158 = .ok (.aload_n 0, 1) := by decide +kernel
theorem d_M_enter_159 : decode prog_5_method_9_code 159 = .ok (.getfield 61, 3) := by decide +kernel
theorem d_M_enter_162 : decode prog_5_method_9_code 162 = .ok (.iload_n 3, 1) := by decide +kernel
theorem d_M_enter_163 : decode prog_5_method_9_code 163 = .ok (.iastore, 1) := by decide +kernel
theorem d_M_enter_164 : decode prog_5_method_9_code 164 = .ok (.aload_n 0, 1) := by decide +kernel
theorem d_M_enter_165 : decode prog_5_method_9_code 165 = .ok (.getfield 19, 3) := by decide +kernel
theorem d_M_enter_168 : decode prog_5_method_9_code 168 = .ok (.aload_n 0, 1) := by decide +kernel
theorem d_M_enter_169 : decode prog_5_method_9_code 169 = .ok (.getfield 61, 3) := by decide +kernel
theorem d_M_enter_172 : decode prog_5_method_9_code 172 = .ok (.iload 4, 2) := by decide +kernel
theorem d_M_enter_174 : decode prog_5_method_9_code 174 = .ok (.iastore, 1) := by decide +kernel
theorem d_M_enter_175 : decode prog_5_method_9_code 175 = .ok (.aload_n 0, 1) := by decide +kernel
theorem d_M_enter_176 : decode prog_5_method_9_code 176 = .ok (.dup, 1) := by decide +kernel
theorem d_M_enter_177 : decode prog_5_method_9_code 177 = .ok (.getfield 61, 3) := by decide +kernel
theorem d_M_enter_180 : decode prog_5_method_9_code 180 = .ok (.iconst 1, 1) := by decide +kernel
theorem d_M_enter_181 : decode prog_5_method_9_code 181 = .ok (.iadd, 1) := by decide +kernel
theorem d_M_enter_182 : decode prog_5_method_9_code 182 = .ok (.putfield 61, 3) := by decide +kernel
theorem d_M_enter_185 : decode prog_5_method_9_code 185 = .ok (.aload_n 0, 1) := by decide +kernel
theorem d_M_enter_186 : decode prog_5_method_9_code 186 = .ok (.invokevirtual 87, 3) := by decide +kernel
theorem d_M_enter_189 : decode prog_5_method_9_code 189 = .ok (.aload_n 0, 1) := by decide +kernel
theorem d_M_enter_190 : decode prog_5_method_9_code 190 = .ok (.getfield 61, 3) := by decide +kernel
theorem d_M_enter_193 : decode prog_5_method_9_code 193 = .ok (.iconst 1, 1) := by decide +kernel
theorem d_M_enter_194 : decode prog_5_method_9_code 194 = .ok (.isub, 1) := by decide +kernel
theorem d_M_enter_195 : decode prog_5_method_9_code 195 = .ok (.ireturn, 1) := by decide +kernel
theorem d_M_correct_0 : decode prog_5_method_10_code 0 = .ok (.aload_n 0, 1) := by decide +kernel
theorem d_M_correct_1 : decode prog_5_method_10_code 1 = .ok (.iload_n 1, 1) := by decide +kernel
theorem d_M_correct_2 : decode prog_5_method_10_code 2 = .ok (.invokevirtual 64, 3) := by decide +kernel
theorem d_M_correct_5 : decode prog_5_method_10_code 5 = .ok (.ifCond .eq 23, 3) := by decide +kernel
theorem d_M_correct_8 : decode prog_5_method_10_code 8 = .ok (.aload_n 0, 1) := by decide +kernel
theorem d_M_correct_9 : decode prog_5_method_10_code 9 = .ok (.iload_n 2, 1) := by decide +kernel
theorem d_M_correct_10 : decode prog_5_method_10_code 10 = .ok (.invokevirtual 76, 3) := by decide +kernel
theorem d_M_correct_13 : decode prog_5_method_10_code 13 = .ok (.ifCond .eq 15, 3) := by decide +kernel
theorem d_M_correct_16 : decode prog_5_method_10_code 16 = .ok (.aload_n 0, 1) := by decide +kernel
theorem d_M_correct_17 : decode prog_5_method_10_code 17 = .ok (.iload_n 3, 1) := by decide +kernel
theorem d_M_correct_18 : decode prog_5_method_10_code 18 = .ok (.invokevirtual 76, 3) := by decide +kernel
theorem d_M_correct_21 : decode prog_5_method_10_code 21 = .ok (.ifCond .eq 7, 3) := by decide +kernel
theorem d_M_correct_24 : decode prog_5_method_10_code 24 = .ok (.iconst 1, 1) := by decide +kernel
theorem d_M_correct_25 : decode prog_5_method_10_code 25 = .ok (.goto 4, 3) := by decide +kernel
theorem d_M_correct_28 : decode prog_5_method_10_code 28 = .ok (.iconst 0, 1) := by decide +kernel
theorem d_M_correct_29 : decode prog_5_method_10_code 29 = .ok (.istore 4, 2) := by decide +kernel
theorem d_M_correct_31 : decode prog_5_method_10_code 31 = .ok (.iload 4, 2) := by decide +kernel
theorem d_M_correct_33 : decode prog_5_method_10_code 33 = .ok (.ifCond .eq 39, 3) := by decide +kernel
theorem d_M_correct_36 : decode prog_5_method_10_code 36 = .ok (.aload_n 0, 1) := by decide +kernel
theorem d_M_correct_37 : decode prog_5_method_10_code 37 = .ok (.iload_n 2, 1) := by decide +kernel
theorem d_M_correct_38 : decode prog_5_method_10_code 38 = .ok (.iconst 0, 1) := by decide +kernel
theorem d_M_correct_39 : decode prog_5_method_10_code 39 = .ok (.aload_n 0, 1) := by decide +kernel
theorem d_M_correct_40 : decode prog_5_method_10_code 40 = .ok (.getfield 19, 3) := by decide +kernel
theorem d_M_correct_43 : decode prog_5_method_10_code 43 = .ok (.iload_n 1, 1) := by decide +kernel
theorem d_M_correct_44 : decode prog_5_method_10_code 44 = .ok (.iaload, 1) := by decide +kernel
theorem d_M_correct_45 : decode prog_5_method_10_code 45 = .ok (.iload_n 1, 1) := by decide +kernel
theorem d_M_correct_46 : decode prog_5_method_10_code 46 = .ok (.invokevirtual 79, 3) := by decide +kernel
theorem d_M_correct_49 : decode prog_5_method_10_code 49 = .ok (.ifCond .eq 23, 3) := by decide +kernel
theorem d_M_correct_52 : decode prog_5_method_10_code 52 = .ok (.aload_n 0, 1) := by decide +kernel
theorem d_M_correct_53 : decode prog_5_method_10_code 53 = .ok (.iload_n 3, 1) := by decide +kernel
theorem d_M_correct_54 : decode prog_5_method_10_code 54 = .ok (.iconst 1, 1) := by decide +kernel
theorem d_M_correct_55 : decode prog_5_method_10_code 55 = .ok (.aload_n 0, 1) := by decide +kernel
theorem d_M_correct_56 : decode prog_5_method_10_code 56 = .ok (.getfield 19, 3) := by decide +kernel
theorem d_M_correct_59 : decode prog_5_method_10_code 59 = .ok (.iload_n 1, 1) := by decide +kernel
theorem d_M_correct_60 : decode prog_5_method_10_code 60 = .ok (.iaload, 1) := by decide +kernel
theorem d_M_correct_61 : decode prog_5_method_10_code 61 = .ok (.iload_n 1, 1) := by decide +kernel
theorem d_M_correct_62 : decode prog_5_method_10_code 62 = .ok (.invokevirtual 79, 3) := by decide +kernel
theorem d_M_correct_65 : decode prog_5_method_10_code 65 = .ok (.ifCond .eq 7, 3) := by decide +kernel
theorem d_M_correct_68 : decode prog_5_method_10_code 68 = .ok (.iconst 1, 1) := by decide +kernel
theorem d_M_correct_69 : decode prog_5_method_10_code 69 = .ok (.goto 4, 3) := by decide +kernel
theorem d_M_correct_72 : decode prog_5_method_10_code 72 = .ok (.iconst 0, 1) := by decide +kernel
theorem d_M_correct_73 : decode prog_5_method_10_code 73 = .ok (.istore 5, 2) := by decide +kernel
theorem d_M_correct_75 : decode prog_5_method_10_code 75 = .ok (.aload_n 0, 1) := by decide +kernel
theorem d_M_correct_76 : decode prog_5_method_10_code 76 = .ok (.iload 4, 2) := by decide +kernel
theorem d_M_correct_78 : decode prog_5_method_10_code 78 = .ok (.ifCond .ne 7, 3) := by decide +kernel
theorem d_M_correct_81 : decode prog_5_method_10_code 81 = .ok (.iconst 1, 1) := by decide +kernel
theorem d_M_correct_82 : decode prog_5_method_10_code 82 = .ok (.goto 4, 3) := by decide +kernel
theorem d_M_correct_85 : decode prog_5_method_10_code 85 = .ok (.iconst 0, 1) := by decide +kernel
theorem d_M_correct_86 : decode prog_5_method_10_code 86 = .ok (.iload 5, 2) := by decide +kernel
theorem d_M_correct_88 : decode prog_5_method_10_code 88 = .ok (.ifCond .ne 7, 3) := by decide +kernel
theorem d_M_correct_91 : decode prog_5_method_10_code 91 = .ok (.iconst 1, 1) := by decide +kernel
theorem d_M_correct_92 : decode prog_5_method_10_code 92 = .ok (.goto 4, 3) := by decide +kernel
theorem d_M_correct_95 : decode prog_5_method_10_code 95 = .ok (.iconst 0, 1) := by decide +kernel
theorem d_M_correct_96 : decode prog_5_method_10_code 96 = .ok (.iconst 0, 1) := by decide +kernel
theorem d_M_correct_97 : decode prog_5_method_10_code 97 = .ok (.iconst 0, 1) := by decide +kernel
theorem d_M_correct_98 : decode prog_5_method_10_code 98 = .ok (.invokevirtual 83, 3) := by decide +kernel
theorem d_M_correct_101 : decode prog_5_method_10_code 101 = .ok (.ifCond .eq 5, 3) := by decide +kernel
theorem d_M_correct_104 : decode prog_5_method_10_code 104 = .ok (.iconst 0, 1) := by decide +kernel
theorem d_M_correct_105 : decode prog_5_method_10_code 105 = .ok (.ireturn, 1) := by decide +kernel
theorem d_M_correct_106 : decode prog_5_method_10_code 106 = .ok (.iconst 0, 1) := by decide +kernel
theorem d_M_correct_107 : decode prog_5_method_10_code 107 = .ok (.istore 6, 2) := by decide +kernel
theorem d_M_correct_109 : decode prog_5_method_10_code 109 = .ok (.iload 6, 2) := by decide +kernel
theorem d_M_correct_111 : decode prog_5_method_10_code 111 = .ok (.aload_n 0, 1) := by decide +kernel
theorem d_M_correct_112 : decode prog_5_method_10_code 112 = .ok (.getfield 61, 3) := by decide +kernel
theorem d_M_correct_115 : decode prog_5_method_10_code 115 = .ok (.if_icmp .ge 23, 3) := by decide +kernel
theorem d_M_correct_118 : decode prog_5_method_10_code 118 = .ok (.aload_n 0, 1) := by decide +kernel
theorem d_M_correct_119 : decode prog_5_method_10_code 119 = .ok (.getfield 33, 3) := by decide +kernel
theorem d_M_correct_122 : decode prog_5_method_10_code 122 = .ok (.iload 6, 2) := by decide +kernel
theorem d_M_correct_124 : decode prog_5_method_10_code 124 = .ok (.aload_n 0, 1) := by decide +kernel
theorem d_M_correct_125 : decode prog_5_method_10_code 125 = .ok (.getfield 30, 3) := by decide +kernel
theorem d_M_correct_128 : decode prog_5_method_10_code 128 = .ok (.iload 6, 2) := by decide +kernel
theorem d_M_correct_130 : decode prog_5_method_10_code 130 = .ok (.laload, 1) := by decide +kernel
theorem d_M_correct_131 : decode prog_5_method_10_code 131 = .ok (.lastore, 1) := by decide +kernel
theorem d_M_correct_132 : decode prog_5_method_10_code 132 = .ok (.iinc 6 1, 3) := by decide +kernel
theorem d_M_correct_135 : decode prog_5_method_10_code 135 = .ok (.goto (-26), 3) := by decide +kernel
theorem d_M_correct_138 : decode prog_5_method_10_code 138 = .ok (.aload_n 0, 1) := by decide +kernel
theorem d_M_correct_139 : decode prog_5_method_10_code 139 = .ok (.getfield 7, 3) := by decide +kernel
theorem d_M_correct_142 : decode prog_5_method_10_code 142 = .ok (.iload_n 1, 1) := by decide +kernel
theorem d_M_correct_143 : decode prog_5_method_10_code 143 = .ok (.iload_n 2, 1) := by decide +kernel
theorem d_M_correct_144 : decode prog_5_method_10_code 144 = .ok (.iastore, 1) := by decide +kernel
theorem d_M_correct_145 : decode prog_5_method_10_code 145 = .ok (.aload_n 0, 1) := by decide +kernel
theorem d_M_correct_146 : decode prog_5_method_10_code 146 = .ok (.getfield 13, 3) := by decide +kernel
theorem d_M_correct_149 : decode prog_5_method_10_code 149 = .ok (.iload_n 1, 1) := by decide +kernel
theorem d_M_correct_150 : decode prog_5_method_10_code 150 = .ok (.iload_n 3, 1) := by decide +kernel
theorem d_M_correct_151 : decode prog_5_method_10_code 151 = .ok (.iastore, 1) := by decide +kernel
theorem d_M_correct_152 : decode prog_5_method_10_code 152 = .ok (.aload_n 0, 1) := by decide +kernel
theorem d_M_correct_153 : decode prog_5_method_10_code 153 = .ok (.invokevirtual 87, 3) := by decide +kernel
theorem d_M_correct_156 : decode prog_5_method_10_code 156 = .ok (.iconst 0, 1) := by decide +kernel
theorem d_M_correct_157 : decode prog_5_method_10_code 157 = .ok (.istore 6, 2) := by decide +kernel
theorem d_M_correct_159 : decode prog_5_method_10_code 159 = .ok (.iconst 0, 1) := by decide +kernel
theorem d_M_correct_160 : decode prog_5_method_10_code 160 = .ok (.istore 7, 2) := by decide +kernel
theorem d_M_correct_162 : decode prog_5_method_10_code 162 = .ok (.iload 7, 2) := by decide +kernel
theorem d_M_correct_164 : decode prog_5_method_10_code 164 = .ok (.aload_n 0, 1) := by decide +kernel
theorem d_M_correct_165 : decode prog_5_method_10_code 165 = .ok (.getfield 61, 3) := by decide +kernel
theorem d_M_correct_168 : decode prog_5_method_10_code 168 = .ok (.if_icmp .ge 38, 3) := by decide +kernel
theorem d_M_correct_171 : decode prog_5_method_10_code 171 = .ok (.aload_n 0, 1) := by decide +kernel
theorem d_M_correct_172 : decode prog_5_method_10_code 172 = .ok (.getfield 30, 3) := by decide +kernel
theorem d_M_correct_175 : decode prog_5_method_10_code 175 = .ok (.iload 7, 2) := by decide +kernel
theorem d_M_correct_177 : decode prog_5_method_10_code 177 = .ok (.laload, 1) := by decide +kernel
theorem d_M_correct_178 : decode prog_5_method_10_code 178 = .ok (.aload_n 0, 1) := by decide +kernel
theorem d_M_correct_179 : decode prog_5_method_10_code 179 = .ok (.getfield 33, 3) := by decide +kernel
theorem d_M_correct_182 : decode prog_5_method_10_code 182 = .ok (.iload 7, 2) := by decide +kernel
theorem d_M_correct_184 : decode prog_5_method_10_code 184 = .ok (.laload, 1) := by decide +kernel
theorem d_M_correct_185 : decode prog_5_method_10_code 185 = .ok (.lcmp, 1) := by decide +kernel
theorem d_M_correct_186 : decode prog_5_method_10_code 186 = .ok (.ifCond .eq 10, 3) := by decide +kernel
theorem d_M_correct_189 : decode prog_5_method_10_code 189 = .ok (.iload 6, 2) := by decide +kernel
theorem d_M_correct_191 : decode prog_5_method_10_code 191 = .ok (.iconst 1, 1) := by decide +kernel
theorem d_M_correct_192 : decode prog_5_method_10_code 192 = .ok (.iadd, 1) := by decide +kernel
theorem d_M_correct_193 : decode prog_5_method_10_code 193 = .ok (.goto 5, 3) := by decide +kernel
theorem d_M_correct_196 : decode prog_5_method_10_code 196 = .ok (.iload 6, 2) := by decide +kernel
theorem d_M_correct_198 : decode prog_5_method_10_code 198 = .ok (.istore 6, 2) := by decide +kernel
theorem d_M_correct_200 : decode prog_5_method_10_code 200 = .ok (.iinc 7 1, 3) := by decide +kernel
theorem d_M_correct_203 : decode prog_5_method_10_code 203 = .ok (.goto (-41), 3) := by decide +kernel
theorem d_M_correct_206 : decode prog_5_method_10_code 206 = .ok (.iload 6, 2) := by decide +kernel
theorem d_M_correct_208 : decode prog_5_method_10_code 208 = .ok (.ireturn, 1) := by decide +kernel
theorem d_M_cull_0 : decode prog_5_method_11_code 0 = .ok (.aload_n 0, 1) := by decide +kernel
theorem d_M_cull_1 : decode prog_5_method_11_code 1 = .ok (.aload_n 0, 1) := by decide +kernel
theorem d_M_cull_2 : decode prog_5_method_11_code 2 = .ok (.iload_n 1, 1) := by decide +kernel
theorem d_M_cull_3 : decode prog_5_method_11_code 3 = .ok (.invokevirtual 64, 3) := by decide +kernel
theorem d_M_cull_6 : decode prog_5_method_11_code 6 = .ok (.ifCond .ne 7, 3) := by decide +kernel
theorem d_M_cull_9 : decode prog_5_method_11_code 9 = .ok (.iconst 1, 1) := by decide +kernel
theorem d_M_cull_10 : decode prog_5_method_11_code 10 = .ok (.goto 4, 3) := by decide +kernel
theorem d_M_cull_13 : decode prog_5_method_11_code 13 = .ok (.iconst 0, 1) := by decide +kernel
theorem d_M_cull_14 : decode prog_5_method_11_code 14 = .ok (.aload_n 0, 1) := by decide +kernel
theorem d_M_cull_15 : decode prog_5_method_11_code 15 = .ok (.iload_n 1, 1) := by decide +kernel
theorem d_M_cull_16 : decode prog_5_method_11_code 16 = .ok (.invokevirtual 64, 3) := by decide +kernel
theorem d_M_cull_19 : decode prog_5_method_11_code 19 = .ok (.ifCond .eq 16, 3) := by decide +kernel
theorem d_M_cull_22 : decode prog_5_method_11_code 22 = .ok (.aload_n 0, 1) := by decide +kernel
theorem d_M_cull_23 : decode prog_5_method_11_code 23 = .ok (.getfield 22, 3) := by decide +kernel
theorem d_M_cull_26 : decode prog_5_method_11_code 26 = .ok (.iload_n 1, 1) := by decide +kernel
theorem d_M_cull_27 : decode prog_5_method_11_code 27 = .ok (.baload, 1) := by decide +kernel
theorem d_M_cull_28 : decode prog_5_method_11_code 28 = .ok (.ifCond .eq 7, 3) := by decide +kernel
theorem d_M_cull_31 : decode prog_5_method_11_code 31 = .ok (.iconst 1, 1) := by decide +kernel
theorem d_M_cull_32 : decode prog_5_method_11_code 32 = .ok (.goto 4, 3) := by decide +kernel
theorem d_M_cull_35 : decode prog_5_method_11_code 35 = .ok (.iconst 0, 1) := by decide +kernel
theorem d_M_cull_36 : decode prog_5_method_11_code 36 = .ok (.iconst 0, 1) := by decide +kernel
theorem d_M_cull_37 : decode prog_5_method_11_code 37 = .ok (.iconst 0, 1) := by decide +kernel
theorem d_M_cull_38 : decode prog_5_method_11_code 38 = .ok (.invokevirtual 83, 3) := by decide +kernel
theorem d_M_cull_41 : decode prog_5_method_11_code 41 = .ok (.ifCond .eq 5, 3) := by decide +kernel
theorem d_M_cull_44 : decode prog_5_method_11_code 44 = .ok (.iconst 0, 1) := by decide +kernel
theorem d_M_cull_45 : decode prog_5_method_11_code 45 = .ok (.ireturn, 1) := by decide +kernel
theorem d_M_cull_46 : decode prog_5_method_11_code 46 = .ok (.aload_n 0, 1) := by decide +kernel
theorem d_M_cull_47 : decode prog_5_method_11_code 47 = .ok (.getfield 22, 3) := by decide +kernel
theorem d_M_cull_50 : decode prog_5_method_11_code 50 = .ok (.iload_n 1, 1) := by decide +kernel
theorem d_M_cull_51 : decode prog_5_method_11_code 51 = .ok (.iconst 1, 1) := by decide +kernel
theorem d_M_cull_52 : decode prog_5_method_11_code 52 = .ok (.bastore, 1) := by decide +kernel
theorem d_M_cull_53 : decode prog_5_method_11_code 53 = .ok (.iconst 0, 1) := by decide +kernel
theorem d_M_cull_54 : decode prog_5_method_11_code 54 = .ok (.istore_n 2, 1) := by decide +kernel
theorem d_M_cull_55 : decode prog_5_method_11_code 55 = .ok (.iconst 0, 1) := by decide +kernel
theorem d_M_cull_56 : decode prog_5_method_11_code 56 = .ok (.istore_n 3, 1) := by decide +kernel
theorem d_M_cull_57 : decode prog_5_method_11_code 57 = .ok (.iload_n 3, 1) := by decide +kernel
theorem d_M_cull_58 : decode prog_5_method_11_code 58 = .ok (.aload_n 0, 1) := by decide +kernel
theorem d_M_cull_59 : decode prog_5_method_11_code 59 = .ok (.getfield 61, 3) := by decide +kernel
theorem d_M_cull_62 : decode prog_5_method_11_code 62 = .ok (.if_icmp .ge 26, 3) := by decide +kernel
theorem d_M_cull_65 : decode prog_5_method_11_code 65 = .ok (.aload_n 0, 1) := by decide +kernel
theorem d_M_cull_66 : decode prog_5_method_11_code 66 = .ok (.getfield 22, 3) := by decide +kernel
theorem d_M_cull_69 : decode prog_5_method_11_code 69 = .ok (.iload_n 3, 1) := by decide +kernel
theorem d_M_cull_70 : decode prog_5_method_11_code 70 = .ok (.baload, 1) := by decide +kernel
theorem d_M_cull_71 : decode prog_5_method_11_code 71 = .ok (.ifCond .eq 7, 3) := by decide +kernel
theorem d_M_cull_74 : decode prog_5_method_11_code 74 = .ok (.iload_n 2, 1) := by decide +kernel
theorem d_M_cull_75 : decode prog_5_method_11_code 75 = .ok (.goto 6, 3) := by decide +kernel
theorem d_M_cull_78 : decode prog_5_method_11_code 78 = .ok (.iload_n 2, 1) := by decide +kernel
theorem d_M_cull_79 : decode prog_5_method_11_code 79 = .ok (.iconst 1, 1) := by decide +kernel
theorem d_M_cull_80 : decode prog_5_method_11_code 80 = .ok (.iadd, 1) := by decide +kernel
theorem d_M_cull_81 : decode prog_5_method_11_code 81 = .ok (.istore_n 2, 1) := by decide +kernel
theorem d_M_cull_82 : decode prog_5_method_11_code 82 = .ok (.iinc 3 1, 3) := by decide +kernel
theorem d_M_cull_85 : decode prog_5_method_11_code 85 = .ok (.goto (-28), 3) := by decide +kernel
theorem d_M_cull_88 : decode prog_5_method_11_code 88 = .ok (.iload_n 2, 1) := by decide +kernel
theorem d_M_cull_89 : decode prog_5_method_11_code 89 = .ok (.ireturn, 1) := by decide +kernel
theorem d_M_depthOf_0 : decode prog_5_method_12_code 0 = .ok (.iconst 0, 1) := by decide +kernel
theorem d_M_depthOf_1 : decode prog_5_method_12_code 1 = .ok (.istore_n 2, 1) := by decide +kernel
theorem d_M_depthOf_2 : decode prog_5_method_12_code 2 = .ok (.iload_n 2, 1) := by decide +kernel
theorem d_M_depthOf_3 : decode prog_5_method_12_code 3 = .ok (.iload_n 1, 1) := by decide +kernel
theorem d_M_depthOf_4 : decode prog_5_method_12_code 4 = .ok (.if_icmp .gt 82, 3) := by decide +kernel
theorem d_M_depthOf_7 : decode prog_5_method_12_code 7 = .ok (.aload_n 0, 1) := by decide +kernel
theorem d_M_depthOf_8 : decode prog_5_method_12_code 8 = .ok (.getfield 7, 3) := by decide +kernel
theorem d_M_depthOf_11 : decode prog_5_method_12_code 11 = .ok (.iload_n 2, 1) := by decide +kernel
theorem d_M_depthOf_12 : decode prog_5_method_12_code 12 = .ok (.iaload, 1) := by decide +kernel
theorem d_M_depthOf_13 : decode prog_5_method_12_code 13 = .ok (.ifCond .ge 7, 3) := by decide +kernel
theorem d_M_depthOf_16 : decode prog_5_method_12_code 16 = .ok (.iconst 0, 1) := by decide +kernel
theorem d_M_depthOf_17 : decode prog_5_method_12_code 17 = .ok (.goto 16, 3) := by decide +kernel
theorem d_M_depthOf_20 : decode prog_5_method_12_code 20 = .ok (.aload_n 0, 1) := by decide +kernel
theorem d_M_depthOf_21 : decode prog_5_method_12_code 21 = .ok (.getfield 36, 3) := by decide +kernel
theorem d_M_depthOf_24 : decode prog_5_method_12_code 24 = .ok (.aload_n 0, 1) := by decide +kernel
theorem d_M_depthOf_25 : decode prog_5_method_12_code 25 = .ok (.getfield 7, 3) := by decide +kernel
theorem d_M_depthOf_28 : decode prog_5_method_12_code 28 = .ok (.iload_n 2, 1) := by decide +kernel
theorem d_M_depthOf_29 : decode prog_5_method_12_code 29 = .ok (.iaload, 1) := by decide +kernel
theorem d_M_depthOf_30 : decode prog_5_method_12_code 30 = .ok (.iaload, 1) := by decide +kernel
theorem d_M_depthOf_31 : decode prog_5_method_12_code 31 = .ok (.iconst 1, 1) := by decide +kernel
theorem d_M_depthOf_32 : decode prog_5_method_12_code 32 = .ok (.iadd, 1) := by decide +kernel
theorem d_M_depthOf_33 : decode prog_5_method_12_code 33 = .ok (.istore_n 3, 1) := by decide +kernel
theorem d_M_depthOf_34 : decode prog_5_method_12_code 34 = .ok (.aload_n 0, 1) := by decide +kernel
theorem d_M_depthOf_35 : decode prog_5_method_12_code 35 = .ok (.getfield 13, 3) := by decide +kernel
theorem d_M_depthOf_38 : decode prog_5_method_12_code 38 = .ok (.iload_n 2, 1) := by decide +kernel
theorem d_M_depthOf_39 : decode prog_5_method_12_code 39 = .ok (.iaload, 1) := by decide +kernel
theorem d_M_depthOf_40 : decode prog_5_method_12_code 40 = .ok (.ifCond .ge 7, 3) := by decide +kernel
theorem d_M_depthOf_43 : decode prog_5_method_12_code 43 = .ok (.iconst 0, 1) := by decide +kernel
theorem d_M_depthOf_44 : decode prog_5_method_12_code 44 = .ok (.goto 16, 3) := by decide +kernel
theorem d_M_depthOf_47 : decode prog_5_method_12_code 47 = .ok (.aload_n 0, 1) := by decide +kernel
theorem d_M_depthOf_48 : decode prog_5_method_12_code 48 = .ok (.getfield 36, 3) := by decide +kernel
theorem d_M_depthOf_51 : decode prog_5_method_12_code 51 = .ok (.aload_n 0, 1) := by decide +kernel
theorem d_M_depthOf_52 : decode prog_5_method_12_code 52 = .ok (.getfield 13, 3) := by decide +kernel
theorem d_M_depthOf_55 : decode prog_5_method_12_code 55 = .ok (.iload_n 2, 1) := by decide +kernel
theorem d_M_depthOf_56 : decode prog_5_method_12_code 56 = .ok (.iaload, 1) := by decide +kernel
theorem d_M_depthOf_57 : decode prog_5_method_12_code 57 = .ok (.iaload, 1) := by decide +kernel
theorem d_M_depthOf_58 : decode prog_5_method_12_code 58 = .ok (.iconst 1, 1) := by decide +kernel
theorem d_M_depthOf_59 : decode prog_5_method_12_code 59 = .ok (.iadd, 1) := by decide +kernel
theorem d_M_depthOf_60 : decode prog_5_method_12_code 60 = .ok (.istore 4, 2) := by decide +kernel
theorem d_M_depthOf_62 : decode prog_5_method_12_code 62 = .ok (.aload_n 0, 1) := by decide +kernel
theorem d_M_depthOf_63 : decode prog_5_method_12_code 63 = .ok (.getfield 36, 3) := by decide +kernel
theorem d_M_depthOf_66 : decode prog_5_method_12_code 66 = .ok (.iload_n 2, 1) := by decide +kernel
theorem d_M_depthOf_67 : decode prog_5_method_12_code 67 = .ok (.iload_n 3, 1) := by decide +kernel
theorem d_M_depthOf_68 : decode prog_5_method_12_code 68 = .ok (.iload 4, 2) := by decide +kernel
theorem d_M_depthOf_70 : decode prog_5_method_12_code 70 = .ok (.if_icmp .le 7, 3) := by decide +kernel
theorem d_M_depthOf_73 : decode prog_5_method_12_code 73 = .ok (.iload_n 3, 1) := by decide +kernel
theorem d_M_depthOf_74 : decode prog_5_method_12_code 74 = .ok (.goto 5, 3) := by decide +kernel
theorem d_M_depthOf_77 : decode prog_5_method_12_code 77 = .ok (.iload 4, 2) := by decide +kernel
theorem d_M_depthOf_79 : decode prog_5_method_12_code 79 = .ok (.iastore, 1) := by decide +kernel
theorem d_M_depthOf_80 : decode prog_5_method_12_code 80 = .ok (.iinc 2 1, 3) := by decide +kernel
theorem d_M_depthOf_83 : decode prog_5_method_12_code 83 = .ok (.goto (-81), 3) := by decide +kernel
theorem d_M_depthOf_86 : decode prog_5_method_12_code 86 = .ok (.aload_n 0, 1) := by decide +kernel
theorem d_M_depthOf_87 : decode prog_5_method_12_code 87 = .ok (.getfield 36, 3) := by decide +kernel
theorem d_M_depthOf_90 : decode prog_5_method_12_code 90 = .ok (.iload_n 1, 1) := by decide +kernel
theorem d_M_depthOf_91 : decode prog_5_method_12_code 91 = .ok (.iaload, 1) := by decide +kernel
theorem d_M_depthOf_92 : decode prog_5_method_12_code 92 = .ok (.ireturn, 1) := by decide +kernel
theorem d_M_of_0 : decode prog_5_method_13_code 0 = .ok (.aload_n 0, 1) := by decide +kernel
theorem d_M_of_1 : decode prog_5_method_13_code 1 = .ok (.aload_n 0, 1) := by decide +kernel
theorem d_M_of_2 : decode prog_5_method_13_code 2 = .ok (.iload_n 1, 1) := by decide +kernel
theorem d_M_of_3 : decode prog_5_method_13_code 3 = .ok (.invokevirtual 64, 3) := by decide +kernel
theorem d_M_of_6 : decode prog_5_method_13_code 6 = .ok (.ifCond .ne 7, 3) := by decide +kernel
theorem d_M_of_9 : decode prog_5_method_13_code 9 = .ok (.iconst 1, 1) := by decide +kernel
theorem d_M_of_10 : decode prog_5_method_13_code 10 = .ok (.goto 4, 3) := by decide +kernel
theorem d_M_of_13 : decode prog_5_method_13_code 13 = .ok (.iconst 0, 1) := by decide +kernel
theorem d_M_of_14 : decode prog_5_method_13_code 14 = .ok (.iload_n 2, 1) := by decide +kernel
theorem d_M_of_15 : decode prog_5_method_13_code 15 = .ok (.ifCond .lt 8, 3) := by decide +kernel
theorem d_M_of_18 : decode prog_5_method_13_code 18 = .ok (.iload_n 2, 1) := by decide +kernel
theorem d_M_of_19 : decode prog_5_method_13_code 19 = .ok (.iconst 5, 1) := by decide +kernel
theorem d_M_of_20 : decode prog_5_method_13_code 20 = .ok (.if_icmp .le 7, 3) := by decide +kernel
theorem d_M_of_23 : decode prog_5_method_13_code 23 = .ok (.iconst 1, 1) := by decide +kernel
theorem d_M_of_24 : decode prog_5_method_13_code 24 = .ok (.goto 4, 3) := by decide +kernel
theorem d_M_of_27 : decode prog_5_method_13_code 27 = .ok (.iconst 0, 1) := by decide +kernel
theorem d_M_of_28 : decode prog_5_method_13_code 28 = .ok (.iconst 0, 1) := by decide +kernel
theorem d_M_of_29 : decode prog_5_method_13_code 29 = .ok (.iconst 0, 1) := by decide +kernel
theorem d_M_of_30 : decode prog_5_method_13_code 30 = .ok (.invokevirtual 83, 3) := by decide +kernel
theorem d_M_of_33 : decode prog_5_method_13_code 33 = .ok (.ifCond .eq 5, 3) := by decide +kernel
theorem d_M_of_36 : decode prog_5_method_13_code 36 = .ok (.iconst 0, 1) := by decide +kernel
theorem d_M_of_37 : decode prog_5_method_13_code 37 = .ok (.ireturn, 1) := by decide +kernel
theorem d_M_of_38 : decode prog_5_method_13_code 38 = .ok (.iload_n 2, 1) := by decide +kernel
theorem d_M_of_39 : decode prog_5_method_13_code 39 = .ok (.tableswitch 76 0 4 #[33, 40, 47, 54, 61], 33) := by decide +kernel
theorem d_M_of_72 : decode prog_5_method_13_code 72 = .ok (.aload_n 0, 1) := by decide +kernel
theorem d_M_of_73 : decode prog_5_method_13_code 73 = .ok (.getfield 7, 3) := by decide +kernel
theorem d_M_of_76 : decode prog_5_method_13_code 76 = .ok (.iload_n 1, 1) := by decide +kernel
theorem d_M_of_77 : decode prog_5_method_13_code 77 = .ok (.iaload, 1) := by decide +kernel
theorem d_M_of_78 : decode prog_5_method_13_code 78 = .ok (.ireturn, 1) := by decide +kernel
theorem d_M_of_79 : decode prog_5_method_13_code 79 = .ok (.aload_n 0, 1) := by decide +kernel
theorem d_M_of_80 : decode prog_5_method_13_code 80 = .ok (.getfield 13, 3) := by decide +kernel
theorem d_M_of_83 : decode prog_5_method_13_code 83 = .ok (.iload_n 1, 1) := by decide +kernel
theorem d_M_of_84 : decode prog_5_method_13_code 84 = .ok (.iaload, 1) := by decide +kernel
theorem d_M_of_85 : decode prog_5_method_13_code 85 = .ok (.ireturn, 1) := by decide +kernel
theorem d_M_of_86 : decode prog_5_method_13_code 86 = .ok (.aload_n 0, 1) := by decide +kernel
theorem d_M_of_87 : decode prog_5_method_13_code 87 = .ok (.getfield 16, 3) := by decide +kernel
theorem d_M_of_90 : decode prog_5_method_13_code 90 = .ok (.iload_n 1, 1) := by decide +kernel
theorem d_M_of_91 : decode prog_5_method_13_code 91 = .ok (.iaload, 1) := by decide +kernel
theorem d_M_of_92 : decode prog_5_method_13_code 92 = .ok (.ireturn, 1) := by decide +kernel
theorem d_M_of_93 : decode prog_5_method_13_code 93 = .ok (.aload_n 0, 1) := by decide +kernel
theorem d_M_of_94 : decode prog_5_method_13_code 94 = .ok (.getfield 19, 3) := by decide +kernel
theorem d_M_of_97 : decode prog_5_method_13_code 97 = .ok (.iload_n 1, 1) := by decide +kernel
theorem d_M_of_98 : decode prog_5_method_13_code 98 = .ok (.iaload, 1) := by decide +kernel
theorem d_M_of_99 : decode prog_5_method_13_code 99 = .ok (.ireturn, 1) := by decide +kernel
theorem d_M_of_100 : decode prog_5_method_13_code 100 = .ok (.aload_n 0, 1) := by decide +kernel
theorem d_M_of_101 : decode prog_5_method_13_code 101 = .ok (.getfield 22, 3) := by decide +kernel
theorem d_M_of_104 : decode prog_5_method_13_code 104 = .ok (.iload_n 1, 1) := by decide +kernel
theorem d_M_of_105 : decode prog_5_method_13_code 105 = .ok (.baload, 1) := by decide +kernel
theorem d_M_of_106 : decode prog_5_method_13_code 106 = .ok (.ifCond .eq 7, 3) := by decide +kernel
theorem d_M_of_109 : decode prog_5_method_13_code 109 = .ok (.iconst 0, 1) := by decide +kernel
theorem d_M_of_110 : decode prog_5_method_13_code 110 = .ok (.goto 4, 3) := by decide +kernel
