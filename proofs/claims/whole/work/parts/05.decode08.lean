theorem d_M_findBest_82 : decode prog_5_method_36_code 82 = .ok (.istore 9, 2) := by decide +kernel
theorem d_M_findBest_84 : decode prog_5_method_36_code 84 = .ok (.iload 9, 2) := by decide +kernel
theorem d_M_findBest_86 : decode prog_5_method_36_code 86 = .ok (.aload_n 0, 1) := by decide +kernel
theorem d_M_findBest_87 : decode prog_5_method_36_code 87 = .ok (.getfield 111, 3) := by decide +kernel
theorem d_M_findBest_90 : decode prog_5_method_36_code 90 = .ok (.if_icmp .ge 23, 3) := by decide +kernel
theorem d_M_findBest_93 : decode prog_5_method_36_code 93 = .ok (.aload_n 0, 1) := by decide +kernel
theorem d_M_findBest_94 : decode prog_5_method_36_code 94 = .ok (.getfield 51, 3) := by decide +kernel
theorem d_M_findBest_97 : decode prog_5_method_36_code 97 = .ok (.iload 9, 2) := by decide +kernel
theorem d_M_findBest_99 : decode prog_5_method_36_code 99 = .ok (.aload_n 0, 1) := by decide +kernel
theorem d_M_findBest_100 : decode prog_5_method_36_code 100 = .ok (.getfield 48, 3) := by decide +kernel
theorem d_M_findBest_103 : decode prog_5_method_36_code 103 = .ok (.iload 9, 2) := by decide +kernel
theorem d_M_findBest_105 : decode prog_5_method_36_code 105 = .ok (.iaload, 1) := by decide +kernel
theorem d_M_findBest_106 : decode prog_5_method_36_code 106 = .ok (.iastore, 1) := by decide +kernel
theorem d_M_findBest_107 : decode prog_5_method_36_code 107 = .ok (.iinc 9 1, 3) := by decide +kernel
theorem d_M_findBest_110 : decode prog_5_method_36_code 110 = .ok (.goto (-26), 3) := by decide +kernel
theorem d_M_findBest_113 : decode prog_5_method_36_code 113 = .ok (.iinc 8 (-1), 3) := by decide +kernel
theorem d_M_findBest_116 : decode prog_5_method_36_code 116 = .ok (.goto (-53), 3) := by decide +kernel
theorem d_M_findBest_119 : decode prog_5_method_36_code 119 = .ok (.aload_n 0, 1) := by decide +kernel
theorem d_M_findBest_120 : decode prog_5_method_36_code 120 = .ok (.getfield 48, 3) := by decide +kernel
theorem d_M_findBest_123 : decode prog_5_method_36_code 123 = .ok (.iload 8, 2) := by decide +kernel
theorem d_M_findBest_125 : decode prog_5_method_36_code 125 = .ok (.iaload, 1) := by decide +kernel
theorem d_M_findBest_126 : decode prog_5_method_36_code 126 = .ok (.ifCond .lt 42, 3) := by decide +kernel
theorem d_M_findBest_129 : decode prog_5_method_36_code 129 = .ok (.aload_n 0, 1) := by decide +kernel
theorem d_M_findBest_130 : decode prog_5_method_36_code 130 = .ok (.getfield 54, 3) := by decide +kernel
theorem d_M_findBest_133 : decode prog_5_method_36_code 133 = .ok (.aload_n 0, 1) := by decide +kernel
theorem d_M_findBest_134 : decode prog_5_method_36_code 134 = .ok (.getfield 48, 3) := by decide +kernel
theorem d_M_findBest_137 : decode prog_5_method_36_code 137 = .ok (.iload 8, 2) := by decide +kernel
theorem d_M_findBest_139 : decode prog_5_method_36_code 139 = .ok (.iaload, 1) := by decide +kernel
theorem d_M_findBest_140 : decode prog_5_method_36_code 140 = .ok (.dup2, 1) := by decide +kernel
theorem d_M_findBest_141 : decode prog_5_method_36_code 141 = .ok (.iaload, 1) := by decide +kernel
theorem d_M_findBest_142 : decode prog_5_method_36_code 142 = .ok (.iconst 1, 1) := by decide +kernel
theorem d_M_findBest_143 : decode prog_5_method_36_code 143 = .ok (.isub, 1) := by decide +kernel
theorem d_M_findBest_144 : decode prog_5_method_36_code 144 = .ok (.iastore, 1) := by decide +kernel
theorem d_M_findBest_145 : decode prog_5_method_36_code 145 = .ok (.lload 6, 2) := by decide +kernel
theorem d_M_findBest_147 : decode prog_5_method_36_code 147 = .ok (.aload_n 0, 1) := by decide +kernel
theorem d_M_findBest_148 : decode prog_5_method_36_code 148 = .ok (.aload_n 0, 1) := by decide +kernel
theorem d_M_findBest_149 : decode prog_5_method_36_code 149 = .ok (.getfield 45, 3) := by decide +kernel
theorem d_M_findBest_152 : decode prog_5_method_36_code 152 = .ok (.iload 8, 2) := by decide +kernel
theorem d_M_findBest_154 : decode prog_5_method_36_code 154 = .ok (.iaload, 1) := by decide +kernel
theorem d_M_findBest_155 : decode prog_5_method_36_code 155 = .ok (.aload_n 0, 1) := by decide +kernel
theorem d_M_findBest_156 : decode prog_5_method_36_code 156 = .ok (.getfield 48, 3) := by decide +kernel
theorem d_M_findBest_159 : decode prog_5_method_36_code 159 = .ok (.iload 8, 2) := by decide +kernel
theorem d_M_findBest_161 : decode prog_5_method_36_code 161 = .ok (.iaload, 1) := by decide +kernel
theorem d_M_findBest_162 : decode prog_5_method_36_code 162 = .ok (.invokevirtual 68, 3) := by decide +kernel
theorem d_M_findBest_165 : decode prog_5_method_36_code 165 = .ok (.lsub, 1) := by decide +kernel
theorem d_M_findBest_166 : decode prog_5_method_36_code 166 = .ok (.lstore 6, 2) := by decide +kernel
theorem d_M_findBest_168 : decode prog_5_method_36_code 168 = .ok (.aload_n 0, 1) := by decide +kernel
theorem d_M_findBest_169 : decode prog_5_method_36_code 169 = .ok (.aload_n 0, 1) := by decide +kernel
theorem d_M_findBest_170 : decode prog_5_method_36_code 170 = .ok (.getfield 45, 3) := by decide +kernel
theorem d_M_findBest_173 : decode prog_5_method_36_code 173 = .ok (.iload 8, 2) := by decide +kernel
theorem d_M_findBest_175 : decode prog_5_method_36_code 175 = .ok (.iaload, 1) := by decide +kernel
theorem d_M_findBest_176 : decode prog_5_method_36_code 176 = .ok (.aload_n 0, 1) := by decide +kernel
theorem d_M_findBest_177 : decode prog_5_method_36_code 177 = .ok (.getfield 48, 3) := by decide +kernel
theorem d_M_findBest_180 : decode prog_5_method_36_code 180 = .ok (.iload 8, 2) := by decide +kernel
theorem d_M_findBest_182 : decode prog_5_method_36_code 182 = .ok (.iaload, 1) := by decide +kernel
theorem d_M_findBest_183 : decode prog_5_method_36_code 183 = .ok (.iconst 1, 1) := by decide +kernel
theorem d_M_findBest_184 : decode prog_5_method_36_code 184 = .ok (.iadd, 1) := by decide +kernel
theorem d_M_findBest_185 : decode prog_5_method_36_code 185 = .ok (.iload_n 1, 1) := by decide +kernel
theorem d_M_findBest_186 : decode prog_5_method_36_code 186 = .ok (.lload_n 2, 1) := by decide +kernel
theorem d_M_findBest_187 : decode prog_5_method_36_code 187 = .ok (.invokevirtual 116, 3) := by decide +kernel
theorem d_M_findBest_190 : decode prog_5_method_36_code 190 = .ok (.istore 9, 2) := by decide +kernel
theorem d_M_findBest_192 : decode prog_5_method_36_code 192 = .ok (.iload 9, 2) := by decide +kernel
theorem d_M_findBest_194 : decode prog_5_method_36_code 194 = .ok (.aload_n 0, 1) := by decide +kernel
theorem d_M_findBest_195 : decode prog_5_method_36_code 195 = .ok (.getfield 61, 3) := by decide +kernel
theorem d_M_findBest_198 : decode prog_5_method_36_code 198 = .ok (.if_icmp .ne 17, 3) := by decide +kernel
theorem d_M_findBest_201 : decode prog_5_method_36_code 201 = .ok (.aload_n 0, 1) := by decide +kernel
theorem d_M_findBest_202 : decode prog_5_method_36_code 202 = .ok (.getfield 48, 3) := by decide +kernel
theorem d_M_findBest_205 : decode prog_5_method_36_code 205 = .ok (.iload 8, 2) := by decide +kernel
theorem d_M_findBest_207 : decode prog_5_method_36_code 207 = .ok (.iconst (-1), 1) := by decide +kernel
theorem d_M_findBest_208 : decode prog_5_method_36_code 208 = .ok (.iastore, 1) := by decide +kernel
theorem d_M_findBest_209 : decode prog_5_method_36_code 209 = .ok (.iinc 8 (-1), 3) := by decide +kernel
theorem d_M_findBest_212 : decode prog_5_method_36_code 212 = .ok (.goto 89, 3) := by decide +kernel
theorem d_M_findBest_215 : decode prog_5_method_36_code 215 = .ok (.aload_n 0, 1) := by decide +kernel
theorem d_M_findBest_216 : decode prog_5_method_36_code 216 = .ok (.getfield 48, 3) := by decide +kernel
theorem d_M_findBest_219 : decode prog_5_method_36_code 219 = .ok (.iload 8, 2) := by decide +kernel
theorem d_M_findBest_221 : decode prog_5_method_36_code 221 = .ok (.iload 9, 2) := by decide +kernel
theorem d_M_findBest_223 : decode prog_5_method_36_code 223 = .ok (.iastore, 1) := by decide +kernel
theorem d_M_findBest_224 : decode prog_5_method_36_code 224 = .ok (.aload_n 0, 1) := by decide +kernel
theorem d_M_findBest_225 : decode prog_5_method_36_code 225 = .ok (.getfield 54, 3) := by decide +kernel
theorem d_M_findBest_228 : decode prog_5_method_36_code 228 = .ok (.iload 9, 2) := by decide +kernel
theorem d_M_findBest_230 : decode prog_5_method_36_code 230 = .ok (.dup2, 1) := by decide +kernel
theorem d_M_findBest_231 : decode prog_5_method_36_code 231 = .ok (.iaload, 1) := by decide +kernel
theorem d_M_findBest_232 : decode prog_5_method_36_code 232 = .ok (.iconst 1, 1) := by decide +kernel
theorem d_M_findBest_233 : decode prog_5_method_36_code 233 = .ok (.iadd, 1) := by decide +kernel
theorem d_M_findBest_234 : decode prog_5_method_36_code 234 = .ok (.iastore, 1) := by decide +kernel
theorem d_M_findBest_235 : decode prog_5_method_36_code 235 = .ok (.lload 6, 2) := by decide +kernel
theorem d_M_findBest_237 : decode prog_5_method_36_code 237 = .ok (.aload_n 0, 1) := by decide +kernel
theorem d_M_findBest_238 : decode prog_5_method_36_code 238 = .ok (.aload_n 0, 1) := by decide +kernel
theorem d_M_findBest_239 : decode prog_5_method_36_code 239 = .ok (.getfield 45, 3) := by decide +kernel
theorem d_M_findBest_242 : decode prog_5_method_36_code 242 = .ok (.iload 8, 2) := by decide +kernel
theorem d_M_findBest_244 : decode prog_5_method_36_code 244 = .ok (.iaload, 1) := by decide +kernel
theorem d_M_findBest_245 : decode prog_5_method_36_code 245 = .ok (.iload 9, 2) := by decide +kernel
theorem d_M_findBest_247 : decode prog_5_method_36_code 247 = .ok (.invokevirtual 68, 3) := by decide +kernel
theorem d_M_findBest_250 : decode prog_5_method_36_code 250 = .ok (.ladd, 1) := by decide +kernel
theorem d_M_findBest_251 : decode prog_5_method_36_code 251 = .ok (.lstore 6, 2) := by decide +kernel
theorem d_M_findBest_253 : decode prog_5_method_36_code 253 = .ok (.lload 4, 2) := by decide +kernel
theorem d_M_findBest_255 : decode prog_5_method_36_code 255 = .ok (.lconst 0, 1) := by decide +kernel
theorem d_M_findBest_256 : decode prog_5_method_36_code 256 = .ok (.lcmp, 1) := by decide +kernel
theorem d_M_findBest_257 : decode prog_5_method_36_code 257 = .ok (.ifCond .lt 21, 3) := by decide +kernel
theorem d_M_findBest_260 : decode prog_5_method_36_code 260 = .ok (.lload 6, 2) := by decide +kernel
theorem d_M_findBest_262 : decode prog_5_method_36_code 262 = .ok (.aload_n 0, 1) := by decide +kernel
theorem d_M_findBest_263 : decode prog_5_method_36_code 263 = .ok (.iload 8, 2) := by decide +kernel
theorem d_M_findBest_265 : decode prog_5_method_36_code 265 = .ok (.iconst 1, 1) := by decide +kernel
theorem d_M_findBest_266 : decode prog_5_method_36_code 266 = .ok (.iadd, 1) := by decide +kernel
theorem d_M_findBest_267 : decode prog_5_method_36_code 267 = .ok (.lload_n 2, 1) := by decide +kernel
theorem d_M_findBest_268 : decode prog_5_method_36_code 268 = .ok (.invokevirtual 120, 3) := by decide +kernel
theorem d_M_findBest_271 : decode prog_5_method_36_code 271 = .ok (.ladd, 1) := by decide +kernel
theorem d_M_findBest_272 : decode prog_5_method_36_code 272 = .ok (.lload 4, 2) := by decide +kernel
theorem d_M_findBest_274 : decode prog_5_method_36_code 274 = .ok (.lcmp, 1) := by decide +kernel
theorem d_M_findBest_275 : decode prog_5_method_36_code 275 = .ok (.ifCond .ge 7, 3) := by decide +kernel
theorem d_M_findBest_278 : decode prog_5_method_36_code 278 = .ok (.iconst 1, 1) := by decide +kernel
theorem d_M_findBest_279 : decode prog_5_method_36_code 279 = .ok (.goto 4, 3) := by decide +kernel
theorem d_M_findBest_282 : decode prog_5_method_36_code 282 = .ok (.iconst 0, 1) := by decide +kernel
theorem d_M_findBest_283 : decode prog_5_method_36_code 283 = .ok (.istore 10, 2) := by decide +kernel
theorem d_M_findBest_285 : decode prog_5_method_36_code 285 = .ok (.iload 10, 2) := by decide +kernel
theorem d_M_findBest_287 : decode prog_5_method_36_code 287 = .ok (.ifCond .eq 10, 3) := by decide +kernel
theorem d_M_findBest_290 : decode prog_5_method_36_code 290 = .ok (.iload 8, 2) := by decide +kernel
theorem d_M_findBest_292 : decode prog_5_method_36_code 292 = .ok (.iconst 1, 1) := by decide +kernel
theorem d_M_findBest_293 : decode prog_5_method_36_code 293 = .ok (.iadd, 1) := by decide +kernel
theorem d_M_findBest_294 : decode prog_5_method_36_code 294 = .ok (.goto 5, 3) := by decide +kernel
theorem d_M_findBest_297 : decode prog_5_method_36_code 297 = .ok (.iload 8, 2) := by decide +kernel
theorem d_M_findBest_299 : decode prog_5_method_36_code 299 = .ok (.istore 8, 2) := by decide +kernel
theorem d_M_findBest_301 : decode prog_5_method_36_code 301 = .ok (.goto (-238), 3) := by decide +kernel
theorem d_M_findBest_304 : decode prog_5_method_36_code 304 = .ok (.lload 4, 2) := by decide +kernel
theorem d_M_findBest_306 : decode prog_5_method_36_code 306 = .ok (.lreturn, 1) := by decide +kernel
theorem d_M_plan_0 : decode prog_5_method_37_code 0 = .ok (.iload_n 1, 1) := by decide +kernel
theorem d_M_plan_1 : decode prog_5_method_37_code 1 = .ok (.aload_n 0, 1) := by decide +kernel
theorem d_M_plan_2 : decode prog_5_method_37_code 2 = .ok (.getfield 61, 3) := by decide +kernel
theorem d_M_plan_5 : decode prog_5_method_37_code 5 = .ok (.ishr, 1) := by decide +kernel
theorem d_M_plan_6 : decode prog_5_method_37_code 6 = .ok (.ifCond .ne 7, 3) := by decide +kernel
theorem d_M_plan_9 : decode prog_5_method_37_code 9 = .ok (.iload_n 1, 1) := by decide +kernel
theorem d_M_plan_10 : decode prog_5_method_37_code 10 = .ok (.ifCond .ge 7, 3) := by decide +kernel
theorem d_M_plan_13 : decode prog_5_method_37_code 13 = .ok (.iconst 1, 1) := by decide +kernel
theorem d_M_plan_14 : decode prog_5_method_37_code 14 = .ok (.goto 4, 3) := by decide +kernel
theorem d_M_plan_17 : decode prog_5_method_37_code 17 = .ok (.iconst 0, 1) := by decide +kernel
theorem d_M_plan_18 : decode prog_5_method_37_code 18 = .ok (.istore 5, 2) := by decide +kernel
theorem d_M_plan_20 : decode prog_5_method_37_code 20 = .ok (.iconst 1, 1) := by decide +kernel
theorem d_M_plan_21 : decode prog_5_method_37_code 21 = .ok (.istore 6, 2) := by decide +kernel
theorem d_M_plan_23 : decode prog_5_method_37_code 23 = .ok (.iconst 0, 1) := by decide +kernel
theorem d_M_plan_24 : decode prog_5_method_37_code 24 = .ok (.istore 7, 2) := by decide +kernel
theorem d_M_plan_26 : decode prog_5_method_37_code 26 = .ok (.iload 7, 2) := by decide +kernel
theorem d_M_plan_28 : decode prog_5_method_37_code 28 = .ok (.aload_n 0, 1) := by decide +kernel
theorem d_M_plan_29 : decode prog_5_method_37_code 29 = .ok (.getfield 61, 3) := by decide +kernel
theorem d_M_plan_32 : decode prog_5_method_37_code 32 = .ok (.if_icmp .ge 51, 3) := by decide +kernel
theorem d_M_plan_35 : decode prog_5_method_37_code 35 = .ok (.iload 6, 2) := by decide +kernel
theorem d_M_plan_37 : decode prog_5_method_37_code 37 = .ok (.ifCond .eq 37, 3) := by decide +kernel
theorem d_M_plan_40 : decode prog_5_method_37_code 40 = .ok (.iload_n 1, 1) := by decide +kernel
theorem d_M_plan_41 : decode prog_5_method_37_code 41 = .ok (.iload 7, 2) := by decide +kernel
theorem d_M_plan_43 : decode prog_5_method_37_code 43 = .ok (.ishr, 1) := by decide +kernel
theorem d_M_plan_44 : decode prog_5_method_37_code 44 = .ok (.iconst 1, 1) := by decide +kernel
theorem d_M_plan_45 : decode prog_5_method_37_code 45 = .ok (.iand, 1) := by decide +kernel
theorem d_M_plan_46 : decode prog_5_method_37_code 46 = .ok (.ifCond .eq 24, 3) := by decide +kernel
theorem d_M_plan_49 : decode prog_5_method_37_code 49 = .ok (.aload_n 0, 1) := by decide +kernel
theorem d_M_plan_50 : decode prog_5_method_37_code 50 = .ok (.getfield 16, 3) := by decide +kernel
theorem d_M_plan_53 : decode prog_5_method_37_code 53 = .ok (.iload 7, 2) := by decide +kernel
theorem d_M_plan_55 : decode prog_5_method_37_code 55 = .ok (.iaload, 1) := by decide +kernel
theorem d_M_plan_56 : decode prog_5_method_37_code 56 = .ok (.iconst 1, 1) := by decide +kernel
theorem d_M_plan_57 : decode prog_5_method_37_code 57 = .ok (.if_icmp .ne 17, 3) := by decide +kernel
theorem d_M_plan_60 : decode prog_5_method_37_code 60 = .ok (.aload_n 0, 1) := by decide +kernel
theorem d_M_plan_61 : decode prog_5_method_37_code 61 = .ok (.getfield 22, 3) := by decide +kernel
theorem d_M_plan_64 : decode prog_5_method_37_code 64 = .ok (.iload 7, 2) := by decide +kernel
theorem d_M_plan_66 : decode prog_5_method_37_code 66 = .ok (.baload, 1) := by decide +kernel
theorem d_M_plan_67 : decode prog_5_method_37_code 67 = .ok (.ifCond .ne 7, 3) := by decide +kernel
theorem d_M_plan_70 : decode prog_5_method_37_code 70 = .ok (.iconst 1, 1) := by decide +kernel
theorem d_M_plan_71 : decode prog_5_method_37_code 71 = .ok (.goto 4, 3) := by decide +kernel
theorem d_M_plan_74 : decode prog_5_method_37_code 74 = .ok (.iconst 0, 1) := by decide +kernel
theorem d_M_plan_75 : decode prog_5_method_37_code 75 = .ok (.istore 6, 2) := by decide +kernel
theorem d_M_plan_77 : decode prog_5_method_37_code 77 = .ok (.iinc 7 1, 3) := by decide +kernel
theorem d_M_plan_80 : decode prog_5_method_37_code 80 = .ok (.goto (-54), 3) := by decide +kernel
theorem d_M_plan_83 : decode prog_5_method_37_code 83 = .ok (.aload_n 0, 1) := by decide +kernel
theorem d_M_plan_84 : decode prog_5_method_37_code 84 = .ok (.iload_n 2, 1) := by decide +kernel
theorem d_M_plan_85 : decode prog_5_method_37_code 85 = .ok (.iconst 1, 1) := by decide +kernel
theorem d_M_plan_86 : decode prog_5_method_37_code 86 = .ok (.if_icmp .lt 23, 3) := by decide +kernel
theorem d_M_plan_89 : decode prog_5_method_37_code 89 = .ok (.iload_n 2, 1) := by decide +kernel
theorem d_M_plan_90 : decode prog_5_method_37_code 90 = .ok (.bipush 8, 2) := by decide +kernel
theorem d_M_plan_92 : decode prog_5_method_37_code 92 = .ok (.if_icmp .gt 17, 3) := by decide +kernel
theorem d_M_plan_95 : decode prog_5_method_37_code 95 = .ok (.iload_n 1, 1) := by decide +kernel
theorem d_M_plan_96 : decode prog_5_method_37_code 96 = .ok (.invokestatic 124, 3) := by decide +kernel
theorem d_M_plan_99 : decode prog_5_method_37_code 99 = .ok (.iconst 5, 1) := by decide +kernel
theorem d_M_plan_100 : decode prog_5_method_37_code 100 = .ok (.if_icmp .gt 9, 3) := by decide +kernel
theorem d_M_plan_103 : decode prog_5_method_37_code 103 = .ok (.lload_n 3, 1) := by decide +kernel
theorem d_M_plan_104 : decode prog_5_method_37_code 104 = .ok (.lconst 0, 1) := by decide +kernel
theorem d_M_plan_105 : decode prog_5_method_37_code 105 = .ok (.lcmp, 1) := by decide +kernel
theorem d_M_plan_106 : decode prog_5_method_37_code 106 = .ok (.ifCond .ge 7, 3) := by decide +kernel
theorem d_M_plan_109 : decode prog_5_method_37_code 109 = .ok (.iconst 1, 1) := by decide +kernel
theorem d_M_plan_110 : decode prog_5_method_37_code 110 = .ok (.goto 4, 3) := by decide +kernel
theorem d_M_plan_113 : decode prog_5_method_37_code 113 = .ok (.iconst 0, 1) := by decide +kernel
theorem d_M_plan_114 : decode prog_5_method_37_code 114 = .ok (.iload 5, 2) := by decide +kernel
theorem d_M_plan_116 : decode prog_5_method_37_code 116 = .ok (.iload 6, 2) := by decide +kernel
theorem d_M_plan_118 : decode prog_5_method_37_code 118 = .ok (.ifCond .ne 7, 3) := by decide +kernel
theorem d_M_plan_121 : decode prog_5_method_37_code 121 = .ok (.iconst 1, 1) := by decide +kernel
theorem d_M_plan_122 : decode prog_5_method_37_code 122 = .ok (.goto 4, 3) := by decide +kernel
theorem d_M_plan_125 : decode prog_5_method_37_code 125 = .ok (.iconst 0, 1) := by decide +kernel
theorem d_M_plan_126 : decode prog_5_method_37_code 126 = .ok (.iconst 0, 1) := by decide +kernel
theorem d_M_plan_127 : decode prog_5_method_37_code 127 = .ok (.invokevirtual 83, 3) := by decide +kernel
theorem d_M_plan_130 : decode prog_5_method_37_code 130 = .ok (.ifCond .eq 5, 3) := by decide +kernel
theorem d_M_plan_133 : decode prog_5_method_37_code 133 = .ok (.lconst 0, 1) := by decide +kernel
theorem d_M_plan_134 : decode prog_5_method_37_code 134 = .ok (.lreturn, 1) := by decide +kernel
theorem d_M_plan_135 : decode prog_5_method_37_code 135 = .ok (.aload_n 0, 1) := by decide +kernel
theorem d_M_plan_136 : decode prog_5_method_37_code 136 = .ok (.iconst 0, 1) := by decide +kernel
theorem d_M_plan_137 : decode prog_5_method_37_code 137 = .ok (.putfield 111, 3) := by decide +kernel
theorem d_M_plan_140 : decode prog_5_method_37_code 140 = .ok (.iconst 0, 1) := by decide +kernel
theorem d_M_plan_141 : decode prog_5_method_37_code 141 = .ok (.istore 7, 2) := by decide +kernel
theorem d_M_plan_143 : decode prog_5_method_37_code 143 = .ok (.iload 7, 2) := by decide +kernel
theorem d_M_plan_145 : decode prog_5_method_37_code 145 = .ok (.aload_n 0, 1) := by decide +kernel
theorem d_M_plan_146 : decode prog_5_method_37_code 146 = .ok (.getfield 61, 3) := by decide +kernel
theorem d_M_plan_149 : decode prog_5_method_37_code 149 = .ok (.if_icmp .ge 48, 3) := by decide +kernel
theorem d_M_plan_152 : decode prog_5_method_37_code 152 = .ok (.aload_n 0, 1) := by decide +kernel
theorem d_M_plan_153 : decode prog_5_method_37_code 153 = .ok (.getfield 42, 3) := by decide +kernel
theorem d_M_plan_156 : decode prog_5_method_37_code 156 = .ok (.iload 7, 2) := by decide +kernel
theorem d_M_plan_158 : decode prog_5_method_37_code 158 = .ok (.iconst (-1), 1) := by decide +kernel
theorem d_M_plan_159 : decode prog_5_method_37_code 159 = .ok (.iastore, 1) := by decide +kernel
theorem d_M_plan_160 : decode prog_5_method_37_code 160 = .ok (.iload_n 1, 1) := by decide +kernel
theorem d_M_plan_161 : decode prog_5_method_37_code 161 = .ok (.iload 7, 2) := by decide +kernel
theorem d_M_plan_163 : decode prog_5_method_37_code 163 = .ok (.ishr, 1) := by decide +kernel
theorem d_M_plan_164 : decode prog_5_method_37_code 164 = .ok (.iconst 1, 1) := by decide +kernel
theorem d_M_plan_165 : decode prog_5_method_37_code 165 = .ok (.iand, 1) := by decide +kernel
theorem d_M_plan_166 : decode prog_5_method_37_code 166 = .ok (.iconst 1, 1) := by decide +kernel
theorem d_M_plan_167 : decode prog_5_method_37_code 167 = .ok (.if_icmp .ne 24, 3) := by decide +kernel
theorem d_M_plan_170 : decode prog_5_method_37_code 170 = .ok (.aload_n 0, 1) := by decide +kernel
theorem d_M_plan_171 : decode prog_5_method_37_code 171 = .ok (.getfield 45, 3) := by decide +kernel
theorem d_M_plan_174 : decode prog_5_method_37_code 174 = .ok (.aload_n 0, 1) := by decide +kernel
theorem d_M_plan_175 : decode prog_5_method_37_code 175 = .ok (.getfield 111, 3) := by decide +kernel
theorem d_M_plan_178 : decode prog_5_method_37_code 178 = .ok (.iload 7, 2) := by decide +kernel
theorem d_M_plan_180 : decode prog_5_method_37_code 180 = .ok (.iastore, 1) := by decide +kernel
theorem d_M_plan_181 : decode prog_5_method_37_code 181 = .ok (.aload_n 0, 1) := by decide +kernel
theorem d_M_plan_182 : decode prog_5_method_37_code 182 = .ok (.dup, 1) := by decide +kernel
theorem d_M_plan_183 : decode prog_5_method_37_code 183 = .ok (.getfield 111, 3) := by decide +kernel
theorem d_M_plan_186 : decode prog_5_method_37_code 186 = .ok (.iconst 1, 1) := by decide +kernel
theorem d_M_plan_187 : decode prog_5_method_37_code 187 = .ok (.iadd, 1) := by decide +kernel
theorem d_M_plan_188 : decode prog_5_method_37_code 188 = .ok (.putfield 111, 3) := by decide +kernel
theorem d_M_plan_191 : decode prog_5_method_37_code 191 = .ok (.iinc 7 1, 3) := by decide +kernel
theorem d_M_plan_194 : decode prog_5_method_37_code 194 = .ok (.goto (-51), 3) := by decide +kernel
theorem d_M_plan_197 : decode prog_5_method_37_code 197 = .ok (.aload_n 0, 1) := by decide +kernel
theorem d_M_plan_198 : decode prog_5_method_37_code 198 = .ok (.iload_n 2, 1) := by decide +kernel
theorem d_M_plan_199 : decode prog_5_method_37_code 199 = .ok (.lload_n 3, 1) := by decide +kernel
theorem d_M_plan_200 : decode prog_5_method_37_code 200 = .ok (.invokevirtual 127, 3) := by decide +kernel
theorem d_M_plan_203 : decode prog_5_method_37_code 203 = .ok (.lstore 7, 2) := by decide +kernel
theorem d_M_plan_205 : decode prog_5_method_37_code 205 = .ok (.aload_n 0, 1) := by decide +kernel
theorem d_M_plan_206 : decode prog_5_method_37_code 206 = .ok (.lload 7, 2) := by decide +kernel
theorem d_M_plan_208 : decode prog_5_method_37_code 208 = .ok (.lconst 0, 1) := by decide +kernel
theorem d_M_plan_209 : decode prog_5_method_37_code 209 = .ok (.lcmp, 1) := by decide +kernel
theorem d_M_plan_210 : decode prog_5_method_37_code 210 = .ok (.ifCond .lt 7, 3) := by decide +kernel
theorem d_M_plan_213 : decode prog_5_method_37_code 213 = .ok (.iconst 1, 1) := by decide +kernel
theorem d_M_plan_214 : decode prog_5_method_37_code 214 = .ok (.goto 4, 3) := by decide +kernel
theorem d_M_plan_217 : decode prog_5_method_37_code 217 = .ok (.iconst 0, 1) := by decide +kernel
theorem d_M_plan_218 : decode prog_5_method_37_code 218 = .ok (.putfield 130, 3) := by decide +kernel
theorem d_M_plan_221 : decode prog_5_method_37_code 221 = .ok (.iconst 0, 1) := by decide +kernel
theorem d_M_plan_222 : decode prog_5_method_37_code 222 = .ok (.istore 9, 2) := by decide +kernel
theorem d_M_plan_224 : decode prog_5_method_37_code 224 = .ok (.iload 9, 2) := by decide +kernel
theorem d_M_plan_226 : decode prog_5_method_37_code 226 = .ok (.aload_n 0, 1) := by decide +kernel
theorem d_M_plan_227 : decode prog_5_method_37_code 227 = .ok (.getfield 111, 3) := by decide +kernel
theorem d_M_plan_230 : decode prog_5_method_37_code 230 = .ok (.if_icmp .ge 35, 3) := by decide +kernel
theorem d_M_plan_233 : decode prog_5_method_37_code 233 = .ok (.aload_n 0, 1) := by decide +kernel
theorem d_M_plan_234 : decode prog_5_method_37_code 234 = .ok (.getfield 130, 3) := by decide +kernel
theorem d_M_plan_237 : decode prog_5_method_37_code 237 = .ok (.ifCond .eq 28, 3) := by decide +kernel
theorem d_M_plan_240 : decode prog_5_method_37_code 240 = .ok (.aload_n 0, 1) := by decide +kernel
theorem d_M_plan_241 : decode prog_5_method_37_code 241 = .ok (.getfield 42, 3) := by decide +kernel
theorem d_M_plan_244 : decode prog_5_method_37_code 244 = .ok (.aload_n 0, 1) := by decide +kernel
theorem d_M_plan_245 : decode prog_5_method_37_code 245 = .ok (.getfield 45, 3) := by decide +kernel
theorem d_M_plan_248 : decode prog_5_method_37_code 248 = .ok (.iload 9, 2) := by decide +kernel
theorem d_M_plan_250 : decode prog_5_method_37_code 250 = .ok (.iaload, 1) := by decide +kernel
theorem d_M_plan_251 : decode prog_5_method_37_code 251 = .ok (.aload_n 0, 1) := by decide +kernel
theorem d_M_plan_252 : decode prog_5_method_37_code 252 = .ok (.getfield 51, 3) := by decide +kernel
theorem d_M_plan_255 : decode prog_5_method_37_code 255 = .ok (.iload 9, 2) := by decide +kernel
theorem d_M_plan_257 : decode prog_5_method_37_code 257 = .ok (.iaload, 1) := by decide +kernel
theorem d_M_plan_258 : decode prog_5_method_37_code 258 = .ok (.iastore, 1) := by decide +kernel
theorem d_M_plan_259 : decode prog_5_method_37_code 259 = .ok (.iinc 9 1, 3) := by decide +kernel
theorem d_M_plan_262 : decode prog_5_method_37_code 262 = .ok (.goto (-38), 3) := by decide +kernel
theorem d_M_plan_265 : decode prog_5_method_37_code 265 = .ok (.lload 7, 2) := by decide +kernel
theorem d_M_plan_267 : decode prog_5_method_37_code 267 = .ok (.lreturn, 1) := by decide +kernel
theorem d_M_bull_0 : decode prog_5_method_38_code 0 = .ok (.aload_n 0, 1) := by decide +kernel
theorem d_M_bull_1 : decode prog_5_method_38_code 1 = .ok (.aload_n 0, 1) := by decide +kernel
theorem d_M_bull_2 : decode prog_5_method_38_code 2 = .ok (.iload_n 1, 1) := by decide +kernel
theorem d_M_bull_3 : decode prog_5_method_38_code 3 = .ok (.invokevirtual 64, 3) := by decide +kernel
theorem d_M_bull_6 : decode prog_5_method_38_code 6 = .ok (.ifCond .ne 7, 3) := by decide +kernel
theorem d_M_bull_9 : decode prog_5_method_38_code 9 = .ok (.iconst 1, 1) := by decide +kernel
theorem d_M_bull_10 : decode prog_5_method_38_code 10 = .ok (.goto 4, 3) := by decide +kernel
theorem d_M_bull_13 : decode prog_5_method_38_code 13 = .ok (.iconst 0, 1) := by decide +kernel
theorem d_M_bull_14 : decode prog_5_method_38_code 14 = .ok (.iconst 0, 1) := by decide +kernel
theorem d_M_bull_15 : decode prog_5_method_38_code 15 = .ok (.iconst 0, 1) := by decide +kernel
theorem d_M_bull_16 : decode prog_5_method_38_code 16 = .ok (.iconst 0, 1) := by decide +kernel
theorem d_M_bull_17 : decode prog_5_method_38_code 17 = .ok (.invokevirtual 83, 3) := by decide +kernel
theorem d_M_bull_20 : decode prog_5_method_38_code 20 = .ok (.ifCond .eq 7, 3) := by decide +kernel
theorem d_M_bull_23 : decode prog_5_method_38_code 23 = .ok (.iconst 0, 1) := by decide +kernel
theorem d_M_bull_24 : decode prog_5_method_38_code 24 = .ok (.goto 9, 3) := by decide +kernel
theorem d_M_bull_27 : decode prog_5_method_38_code 27 = .ok (.aload_n 0, 1) := by decide +kernel
theorem d_M_bull_28 : decode prog_5_method_38_code 28 = .ok (.getfield 42, 3) := by decide +kernel
theorem d_M_bull_31 : decode prog_5_method_38_code 31 = .ok (.iload_n 1, 1) := by decide +kernel
theorem d_M_bull_32 : decode prog_5_method_38_code 32 = .ok (.iaload, 1) := by decide +kernel
theorem d_M_bull_33 : decode prog_5_method_38_code 33 = .ok (.ireturn, 1) := by decide +kernel
theorem d_M_planned_0 : decode prog_5_method_39_code 0 = .ok (.aload_n 0, 1) := by decide +kernel
theorem d_M_planned_1 : decode prog_5_method_39_code 1 = .ok (.iconst 0, 1) := by decide +kernel
theorem d_M_planned_2 : decode prog_5_method_39_code 2 = .ok (.putfield 57, 3) := by decide +kernel
theorem d_M_planned_5 : decode prog_5_method_39_code 5 = .ok (.lconst 0, 1) := by decide +kernel
theorem d_M_planned_6 : decode prog_5_method_39_code 6 = .ok (.lstore_n 1, 1) := by decide +kernel
theorem d_M_planned_7 : decode prog_5_method_39_code 7 = .ok (.iconst 0, 1) := by decide +kernel
theorem d_M_planned_8 : decode prog_5_method_39_code 8 = .ok (.istore_n 3, 1) := by decide +kernel
theorem d_M_planned_9 : decode prog_5_method_39_code 9 = .ok (.iload_n 3, 1) := by decide +kernel
theorem d_M_planned_10 : decode prog_5_method_39_code 10 = .ok (.aload_n 0, 1) := by decide +kernel
theorem d_M_planned_11 : decode prog_5_method_39_code 11 = .ok (.getfield 61, 3) := by decide +kernel
theorem d_M_planned_14 : decode prog_5_method_39_code 14 = .ok (.if_icmp .ge 36, 3) := by decide +kernel
theorem d_M_planned_17 : decode prog_5_method_39_code 17 = .ok (.aload_n 0, 1) := by decide +kernel
theorem d_M_planned_18 : decode prog_5_method_39_code 18 = .ok (.getfield 42, 3) := by decide +kernel
theorem d_M_planned_21 : decode prog_5_method_39_code 21 = .ok (.iload_n 3, 1) := by decide +kernel
theorem d_M_planned_22 : decode prog_5_method_39_code 22 = .ok (.iaload, 1) := by decide +kernel
theorem d_M_planned_23 : decode prog_5_method_39_code 23 = .ok (.ifCond .ge 7, 3) := by decide +kernel
theorem d_M_planned_26 : decode prog_5_method_39_code 26 = .ok (.lload_n 1, 1) := by decide +kernel
theorem d_M_planned_27 : decode prog_5_method_39_code 27 = .ok (.goto 16, 3) := by decide +kernel
theorem d_M_planned_30 : decode prog_5_method_39_code 30 = .ok (.lload_n 1, 1) := by decide +kernel
theorem d_M_planned_31 : decode prog_5_method_39_code 31 = .ok (.aload_n 0, 1) := by decide +kernel
theorem d_M_planned_32 : decode prog_5_method_39_code 32 = .ok (.iload_n 3, 1) := by decide +kernel
theorem d_M_planned_33 : decode prog_5_method_39_code 33 = .ok (.aload_n 0, 1) := by decide +kernel
theorem d_M_planned_34 : decode prog_5_method_39_code 34 = .ok (.getfield 42, 3) := by decide +kernel
theorem d_M_planned_37 : decode prog_5_method_39_code 37 = .ok (.iload_n 3, 1) := by decide +kernel
theorem d_M_planned_38 : decode prog_5_method_39_code 38 = .ok (.iaload, 1) := by decide +kernel
theorem d_M_planned_39 : decode prog_5_method_39_code 39 = .ok (.invokevirtual 68, 3) := by decide +kernel
theorem d_M_planned_42 : decode prog_5_method_39_code 42 = .ok (.ladd, 1) := by decide +kernel
theorem d_M_planned_43 : decode prog_5_method_39_code 43 = .ok (.lstore_n 1, 1) := by decide +kernel
theorem d_M_planned_44 : decode prog_5_method_39_code 44 = .ok (.iinc 3 1, 3) := by decide +kernel
theorem d_M_planned_47 : decode prog_5_method_39_code 47 = .ok (.goto (-38), 3) := by decide +kernel
theorem d_M_planned_50 : decode prog_5_method_39_code 50 = .ok (.aload_n 0, 1) := by decide +kernel
theorem d_M_planned_51 : decode prog_5_method_39_code 51 = .ok (.getfield 130, 3) := by decide +kernel
theorem d_M_planned_54 : decode prog_5_method_39_code 54 = .ok (.ifCond .eq 7, 3) := by decide +kernel
theorem d_M_planned_57 : decode prog_5_method_39_code 57 = .ok (.lload_n 1, 1) := by decide +kernel
theorem d_M_planned_58 : decode prog_5_method_39_code 58 = .ok (.goto 6, 3) := by decide +kernel
theorem d_M_planned_61 : decode prog_5_method_39_code 61 = .ok (.ldc2_w 114, 3) := by decide +kernel
theorem d_M_planned_64 : decode prog_5_method_39_code 64 = .ok (.lreturn, 1) := by decide +kernel
theorem d_L_enter_0 : decode method_3_code 0 = .ok (.aload 5, 2) := by decide +kernel
theorem d_L_enter_2 : decode method_3_code 2 = .ok (.iconst 0, 1) := by decide +kernel
theorem d_L_enter_3 : decode method_3_code 3 = .ok (.aload_n 0, 1) := by decide +kernel
theorem d_L_enter_4 : decode method_3_code 4 = .ok (.iload_n 1, 1) := by decide +kernel
theorem d_L_enter_5 : decode method_3_code 5 = .ok (.iload_n 2, 1) := by decide +kernel
theorem d_L_enter_6 : decode method_3_code 6 = .ok (.iload_n 3, 1) := by decide +kernel
theorem d_L_enter_7 : decode method_3_code 7 = .ok (.iload 4, 2) := by decide +kernel
theorem d_L_enter_9 : decode method_3_code 9 = .ok (.invokevirtual 7, 3) := by decide +kernel
theorem d_L_enter_12 : decode method_3_code 12 = .ok (.i2l, 1) := by decide +kernel
theorem d_L_enter_13 : decode method_3_code 13 = .ok (.lastore, 1) := by decide +kernel
theorem d_L_enter_14 : decode method_3_code 14 = .ok (.goto 19, 3) := by decide +kernel
theorem d_L_enter_17 : decode method_3_code 17 = .ok (.astore 6, 2) := by decide +kernel
theorem d_L_enter_19 : decode method_3_code 19 = .ok (.iconst 1, 1) := by decide +kernel
theorem d_L_enter_20 : decode method_3_code 20 = .ok (.ireturn, 1) := by decide +kernel
theorem d_L_enter_21 : decode method_3_code 21 = .ok (.astore 6, 2) := by decide +kernel
theorem d_L_enter_23 : decode method_3_code 23 = .ok (.iconst 2, 1) := by decide +kernel
theorem d_L_enter_24 : decode method_3_code 24 = .ok (.ireturn, 1) := by decide +kernel
theorem d_L_enter_25 : decode method_3_code 25 = .ok (.astore 6, 2) := by decide +kernel
theorem d_L_enter_27 : decode method_3_code 27 = .ok (.iconst 3, 1) := by decide +kernel
theorem d_L_enter_28 : decode method_3_code 28 = .ok (.ireturn, 1) := by decide +kernel
theorem d_L_enter_29 : decode method_3_code 29 = .ok (.astore 6, 2) := by decide +kernel
theorem d_L_enter_31 : decode method_3_code 31 = .ok (.iconst 4, 1) := by decide +kernel
theorem d_L_enter_32 : decode method_3_code 32 = .ok (.ireturn, 1) := by decide +kernel
theorem d_L_enter_33 : decode method_3_code 33 = .ok (.iconst 0, 1) := by decide +kernel
theorem d_L_enter_34 : decode method_3_code 34 = .ok (.ireturn, 1) := by decide +kernel
theorem d_L_correct_0 : decode method_4_code 0 = .ok (.aload 4, 2) := by decide +kernel
theorem d_L_correct_2 : decode method_4_code 2 = .ok (.iconst 0, 1) := by decide +kernel
theorem d_L_correct_3 : decode method_4_code 3 = .ok (.aload_n 0, 1) := by decide +kernel
theorem d_L_correct_4 : decode method_4_code 4 = .ok (.iload_n 1, 1) := by decide +kernel
theorem d_L_correct_5 : decode method_4_code 5 = .ok (.iload_n 2, 1) := by decide +kernel
theorem d_L_correct_6 : decode method_4_code 6 = .ok (.iload_n 3, 1) := by decide +kernel
theorem d_L_correct_7 : decode method_4_code 7 = .ok (.invokevirtual 21, 3) := by decide +kernel
theorem d_L_correct_10 : decode method_4_code 10 = .ok (.i2l, 1) := by decide +kernel
theorem d_L_correct_11 : decode method_4_code 11 = .ok (.lastore, 1) := by decide +kernel
theorem d_L_correct_12 : decode method_4_code 12 = .ok (.goto 11, 3) := by decide +kernel
theorem d_L_correct_15 : decode method_4_code 15 = .ok (.astore 5, 2) := by decide +kernel
theorem d_L_correct_17 : decode method_4_code 17 = .ok (.iconst 1, 1) := by decide +kernel
theorem d_L_correct_18 : decode method_4_code 18 = .ok (.ireturn, 1) := by decide +kernel
theorem d_L_correct_19 : decode method_4_code 19 = .ok (.astore 5, 2) := by decide +kernel
theorem d_L_correct_21 : decode method_4_code 21 = .ok (.iconst 2, 1) := by decide +kernel
theorem d_L_correct_22 : decode method_4_code 22 = .ok (.ireturn, 1) := by decide +kernel
theorem d_L_correct_23 : decode method_4_code 23 = .ok (.iconst 0, 1) := by decide +kernel
theorem d_L_correct_24 : decode method_4_code 24 = .ok (.ireturn, 1) := by decide +kernel
theorem d_L_cull_0 : decode method_5_code 0 = .ok (.aload_n 2, 1) := by decide +kernel
theorem d_L_cull_1 : decode method_5_code 1 = .ok (.iconst 0, 1) := by decide +kernel
theorem d_L_cull_2 : decode method_5_code 2 = .ok (.aload_n 0, 1) := by decide +kernel
theorem d_L_cull_3 : decode method_5_code 3 = .ok (.iload_n 1, 1) := by decide +kernel
theorem d_L_cull_4 : decode method_5_code 4 = .ok (.invokevirtual 25, 3) := by decide +kernel
theorem d_L_cull_7 : decode method_5_code 7 = .ok (.i2l, 1) := by decide +kernel
theorem d_L_cull_8 : decode method_5_code 8 = .ok (.lastore, 1) := by decide +kernel
theorem d_L_cull_9 : decode method_5_code 9 = .ok (.goto 9, 3) := by decide +kernel
theorem d_L_cull_12 : decode method_5_code 12 = .ok (.astore_n 3, 1) := by decide +kernel
theorem d_L_cull_13 : decode method_5_code 13 = .ok (.iconst 1, 1) := by decide +kernel
theorem d_L_cull_14 : decode method_5_code 14 = .ok (.ireturn, 1) := by decide +kernel
theorem d_L_cull_15 : decode method_5_code 15 = .ok (.astore_n 3, 1) := by decide +kernel
theorem d_L_cull_16 : decode method_5_code 16 = .ok (.iconst 2, 1) := by decide +kernel
theorem d_L_cull_17 : decode method_5_code 17 = .ok (.ireturn, 1) := by decide +kernel
theorem d_L_cull_18 : decode method_5_code 18 = .ok (.iconst 0, 1) := by decide +kernel
theorem d_L_cull_19 : decode method_5_code 19 = .ok (.ireturn, 1) := by decide +kernel
theorem d_L_of_0 : decode method_6_code 0 = .ok (.aload_n 3, 1) := by decide +kernel
theorem d_L_of_1 : decode method_6_code 1 = .ok (.iconst 0, 1) := by decide +kernel
theorem d_L_of_2 : decode method_6_code 2 = .ok (.aload_n 0, 1) := by decide +kernel
theorem d_L_of_3 : decode method_6_code 3 = .ok (.iload_n 1, 1) := by decide +kernel
theorem d_L_of_4 : decode method_6_code 4 = .ok (.iload_n 2, 1) := by decide +kernel
theorem d_L_of_5 : decode method_6_code 5 = .ok (.invokevirtual 29, 3) := by decide +kernel
theorem d_L_of_8 : decode method_6_code 8 = .ok (.i2l, 1) := by decide +kernel
theorem d_L_of_9 : decode method_6_code 9 = .ok (.lastore, 1) := by decide +kernel
theorem d_L_of_10 : decode method_6_code 10 = .ok (.goto 11, 3) := by decide +kernel
theorem d_L_of_13 : decode method_6_code 13 = .ok (.astore 4, 2) := by decide +kernel
theorem d_L_of_15 : decode method_6_code 15 = .ok (.iconst 1, 1) := by decide +kernel
theorem d_L_of_16 : decode method_6_code 16 = .ok (.ireturn, 1) := by decide +kernel
theorem d_L_of_17 : decode method_6_code 17 = .ok (.astore 4, 2) := by decide +kernel
