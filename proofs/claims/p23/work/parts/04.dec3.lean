theorem dL_cell_0 : decode cL_cell 0 = .ok (.iload_n 1, 1) := by decide +kernel
theorem dL_cell_1 : decode cL_cell 1 = .ok (.aload_n 0, 1) := by decide +kernel
theorem dL_cell_2 : decode cL_cell 2 = .ok (.arraylength, 1) := by decide +kernel
theorem dL_cell_3 : decode cL_cell 3 = .ok (.if_icmp .ge 9, 3) := by decide +kernel
theorem dL_cell_6 : decode cL_cell 6 = .ok (.aload_n 0, 1) := by decide +kernel
theorem dL_cell_7 : decode cL_cell 7 = .ok (.iload_n 1, 1) := by decide +kernel
theorem dL_cell_8 : decode cL_cell 8 = .ok (.iaload, 1) := by decide +kernel
theorem dL_cell_9 : decode cL_cell 9 = .ok (.goto 15, 3) := by decide +kernel
theorem dL_cell_12 : decode cL_cell 12 = .ok (.sipush 7919, 3) := by decide +kernel
theorem dL_cell_15 : decode cL_cell 15 = .ok (.iload_n 1, 1) := by decide +kernel
theorem dL_cell_16 : decode cL_cell 16 = .ok (.iconst 3, 1) := by decide +kernel
theorem dL_cell_17 : decode cL_cell 17 = .ok (.iadd, 1) := by decide +kernel
theorem dL_cell_18 : decode cL_cell 18 = .ok (.imul, 1) := by decide +kernel
theorem dL_cell_19 : decode cL_cell 19 = .ok (.iload_n 1, 1) := by decide +kernel
theorem dL_cell_20 : decode cL_cell 20 = .ok (.bipush 11, 2) := by decide +kernel
theorem dL_cell_22 : decode cL_cell 22 = .ok (.iadd, 1) := by decide +kernel
theorem dL_cell_23 : decode cL_cell 23 = .ok (.imul, 1) := by decide +kernel
theorem dL_cell_24 : decode cL_cell 24 = .ok (.ireturn, 1) := by decide +kernel
theorem dL_low_0 : decode cL_low 0 = .ok (.iload_n 0, 1) := by decide +kernel
theorem dL_low_1 : decode cL_low 1 = .ok (.ldc 7, 2) := by decide +kernel
theorem dL_low_3 : decode cL_low 3 = .ok (.iand, 1) := by decide +kernel
theorem dL_low_4 : decode cL_low 4 = .ok (.iload_n 1, 1) := by decide +kernel
theorem dL_low_5 : decode cL_low 5 = .ok (.irem, 1) := by decide +kernel
theorem dL_low_6 : decode cL_low 6 = .ok (.ireturn, 1) := by decide +kernel
theorem dL_areShelves_0 : decode cL_areShelves 0 = .ok (.aload_n 0, 1) := by decide +kernel
theorem dL_areShelves_1 : decode cL_areShelves 1 = .ok (.bipush 15, 2) := by decide +kernel
theorem dL_areShelves_3 : decode cL_areShelves 3 = .ok (.invokevirtual 8, 3) := by decide +kernel
theorem dL_areShelves_6 : decode cL_areShelves 6 = .ok (.istore_n 1, 1) := by decide +kernel
theorem dL_areShelves_7 : decode cL_areShelves 7 = .ok (.iconst 0, 1) := by decide +kernel
theorem dL_areShelves_8 : decode cL_areShelves 8 = .ok (.istore_n 2, 1) := by decide +kernel
theorem dL_areShelves_9 : decode cL_areShelves 9 = .ok (.iconst 0, 1) := by decide +kernel
theorem dL_areShelves_10 : decode cL_areShelves 10 = .ok (.istore_n 3, 1) := by decide +kernel
theorem dL_areShelves_11 : decode cL_areShelves 11 = .ok (.iconst 0, 1) := by decide +kernel
theorem dL_areShelves_12 : decode cL_areShelves 12 = .ok (.istore 4, 2) := by decide +kernel
theorem dL_areShelves_14 : decode cL_areShelves 14 = .ok (.iconst (-1), 1) := by decide +kernel
theorem dL_areShelves_15 : decode cL_areShelves 15 = .ok (.istore 5, 2) := by decide +kernel
theorem dL_areShelves_17 : decode cL_areShelves 17 = .ok (.ldc 14, 2) := by decide +kernel
theorem dL_areShelves_19 : decode cL_areShelves 19 = .ok (.istore 6, 2) := by decide +kernel
theorem dL_areShelves_21 : decode cL_areShelves 21 = .ok (.iconst 0, 1) := by decide +kernel
theorem dL_areShelves_22 : decode cL_areShelves 22 = .ok (.istore 7, 2) := by decide +kernel
theorem dL_areShelves_24 : decode cL_areShelves 24 = .ok (.iload 7, 2) := by decide +kernel
theorem dL_areShelves_26 : decode cL_areShelves 26 = .ok (.iload_n 1, 1) := by decide +kernel
theorem dL_areShelves_27 : decode cL_areShelves 27 = .ok (.if_icmp .ge 220, 3) := by decide +kernel
theorem dL_areShelves_30 : decode cL_areShelves 30 = .ok (.iload 7, 2) := by decide +kernel
theorem dL_areShelves_32 : decode cL_areShelves 32 = .ok (.bipush 24, 2) := by decide +kernel
theorem dL_areShelves_34 : decode cL_areShelves 34 = .ok (.if_icmp .ge 213, 3) := by decide +kernel
theorem dL_areShelves_37 : decode cL_areShelves 37 = .ok (.aload_n 0, 1) := by decide +kernel
theorem dL_areShelves_38 : decode cL_areShelves 38 = .ok (.iload 7, 2) := by decide +kernel
theorem dL_areShelves_40 : decode cL_areShelves 40 = .ok (.invokevirtual 15, 3) := by decide +kernel
theorem dL_areShelves_43 : decode cL_areShelves 43 = .ok (.istore 8, 2) := by decide +kernel
theorem dL_areShelves_45 : decode cL_areShelves 45 = .ok (.aload_n 0, 1) := by decide +kernel
theorem dL_areShelves_46 : decode cL_areShelves 46 = .ok (.iload 8, 2) := by decide +kernel
theorem dL_areShelves_48 : decode cL_areShelves 48 = .ok (.iconst 1, 1) := by decide +kernel
theorem dL_areShelves_49 : decode cL_areShelves 49 = .ok (.invokevirtual 18, 3) := by decide +kernel
theorem dL_areShelves_52 : decode cL_areShelves 52 = .ok (.istore 9, 2) := by decide +kernel
theorem dL_areShelves_54 : decode cL_areShelves 54 = .ok (.aload_n 0, 1) := by decide +kernel
theorem dL_areShelves_55 : decode cL_areShelves 55 = .ok (.iload 8, 2) := by decide +kernel
theorem dL_areShelves_57 : decode cL_areShelves 57 = .ok (.iconst 2, 1) := by decide +kernel
theorem dL_areShelves_58 : decode cL_areShelves 58 = .ok (.invokevirtual 18, 3) := by decide +kernel
theorem dL_areShelves_61 : decode cL_areShelves 61 = .ok (.istore 10, 2) := by decide +kernel
theorem dL_areShelves_63 : decode cL_areShelves 63 = .ok (.iload 9, 2) := by decide +kernel
theorem dL_areShelves_65 : decode cL_areShelves 65 = .ok (.aload_n 0, 1) := by decide +kernel
theorem dL_areShelves_66 : decode cL_areShelves 66 = .ok (.iconst 1, 1) := by decide +kernel
theorem dL_areShelves_67 : decode cL_areShelves 67 = .ok (.invokevirtual 8, 3) := by decide +kernel
theorem dL_areShelves_70 : decode cL_areShelves 70 = .ok (.if_icmp .lt 7, 3) := by decide +kernel
theorem dL_areShelves_73 : decode cL_areShelves 73 = .ok (.iconst 0, 1) := by decide +kernel
theorem dL_areShelves_74 : decode cL_areShelves 74 = .ok (.goto 18, 3) := by decide +kernel
theorem dL_areShelves_77 : decode cL_areShelves 77 = .ok (.iload 9, 2) := by decide +kernel
theorem dL_areShelves_79 : decode cL_areShelves 79 = .ok (.aload_n 0, 1) := by decide +kernel
theorem dL_areShelves_80 : decode cL_areShelves 80 = .ok (.iconst 2, 1) := by decide +kernel
theorem dL_areShelves_81 : decode cL_areShelves 81 = .ok (.invokevirtual 8, 3) := by decide +kernel
theorem dL_areShelves_84 : decode cL_areShelves 84 = .ok (.if_icmp .lt 7, 3) := by decide +kernel
theorem dL_areShelves_87 : decode cL_areShelves 87 = .ok (.iconst 1, 1) := by decide +kernel
theorem dL_areShelves_88 : decode cL_areShelves 88 = .ok (.goto 4, 3) := by decide +kernel
theorem dL_areShelves_91 : decode cL_areShelves 91 = .ok (.iconst 2, 1) := by decide +kernel
theorem dL_areShelves_92 : decode cL_areShelves 92 = .ok (.istore 11, 2) := by decide +kernel
theorem dL_areShelves_94 : decode cL_areShelves 94 = .ok (.iload 8, 2) := by decide +kernel
theorem dL_areShelves_96 : decode cL_areShelves 96 = .ok (.ifCond .lt 96, 3) := by decide +kernel
theorem dL_areShelves_99 : decode cL_areShelves 99 = .ok (.iload 8, 2) := by decide +kernel
theorem dL_areShelves_101 : decode cL_areShelves 101 = .ok (.aload_n 0, 1) := by decide +kernel
theorem dL_areShelves_102 : decode cL_areShelves 102 = .ok (.bipush 16, 2) := by decide +kernel
theorem dL_areShelves_104 : decode cL_areShelves 104 = .ok (.invokevirtual 8, 3) := by decide +kernel
theorem dL_areShelves_107 : decode cL_areShelves 107 = .ok (.if_icmp .ge 85, 3) := by decide +kernel
theorem dL_areShelves_110 : decode cL_areShelves 110 = .ok (.iload 9, 2) := by decide +kernel
theorem dL_areShelves_112 : decode cL_areShelves 112 = .ok (.ifCond .lt 80, 3) := by decide +kernel
theorem dL_areShelves_115 : decode cL_areShelves 115 = .ok (.iload 9, 2) := by decide +kernel
theorem dL_areShelves_117 : decode cL_areShelves 117 = .ok (.ldc 14, 2) := by decide +kernel
theorem dL_areShelves_119 : decode cL_areShelves 119 = .ok (.if_icmp .ge 73, 3) := by decide +kernel
theorem dL_areShelves_122 : decode cL_areShelves 122 = .ok (.iload 9, 2) := by decide +kernel
theorem dL_areShelves_124 : decode cL_areShelves 124 = .ok (.iload 6, 2) := by decide +kernel
theorem dL_areShelves_126 : decode cL_areShelves 126 = .ok (.if_icmp .lt 17, 3) := by decide +kernel
theorem dL_areShelves_129 : decode cL_areShelves 129 = .ok (.iload 9, 2) := by decide +kernel
theorem dL_areShelves_131 : decode cL_areShelves 131 = .ok (.iload 6, 2) := by decide +kernel
theorem dL_areShelves_133 : decode cL_areShelves 133 = .ok (.if_icmp .ne 59, 3) := by decide +kernel
theorem dL_areShelves_136 : decode cL_areShelves 136 = .ok (.iload 8, 2) := by decide +kernel
theorem dL_areShelves_138 : decode cL_areShelves 138 = .ok (.iload 5, 2) := by decide +kernel
theorem dL_areShelves_140 : decode cL_areShelves 140 = .ok (.if_icmp .le 52, 3) := by decide +kernel
theorem dL_areShelves_143 : decode cL_areShelves 143 = .ok (.iload 10, 2) := by decide +kernel
theorem dL_areShelves_145 : decode cL_areShelves 145 = .ok (.ifCond .lt 47, 3) := by decide +kernel
theorem dL_areShelves_148 : decode cL_areShelves 148 = .ok (.iload 10, 2) := by decide +kernel
theorem dL_areShelves_150 : decode cL_areShelves 150 = .ok (.iconst 3, 1) := by decide +kernel
theorem dL_areShelves_151 : decode cL_areShelves 151 = .ok (.if_icmp .ge 41, 3) := by decide +kernel
theorem dL_areShelves_154 : decode cL_areShelves 154 = .ok (.aload_n 0, 1) := by decide +kernel
theorem dL_areShelves_155 : decode cL_areShelves 155 = .ok (.iload 8, 2) := by decide +kernel
theorem dL_areShelves_157 : decode cL_areShelves 157 = .ok (.iconst 3, 1) := by decide +kernel
theorem dL_areShelves_158 : decode cL_areShelves 158 = .ok (.invokevirtual 18, 3) := by decide +kernel
theorem dL_areShelves_161 : decode cL_areShelves 161 = .ok (.iload 11, 2) := by decide +kernel
theorem dL_areShelves_163 : decode cL_areShelves 163 = .ok (.if_icmp .ne 29, 3) := by decide +kernel
theorem dL_areShelves_166 : decode cL_areShelves 166 = .ok (.aload_n 0, 1) := by decide +kernel
theorem dL_areShelves_167 : decode cL_areShelves 167 = .ok (.iload 8, 2) := by decide +kernel
theorem dL_areShelves_169 : decode cL_areShelves 169 = .ok (.iconst 0, 1) := by decide +kernel
theorem dL_areShelves_170 : decode cL_areShelves 170 = .ok (.invokevirtual 18, 3) := by decide +kernel
theorem dL_areShelves_173 : decode cL_areShelves 173 = .ok (.ifCond .le 19, 3) := by decide +kernel
theorem dL_areShelves_176 : decode cL_areShelves 176 = .ok (.aload_n 0, 1) := by decide +kernel
theorem dL_areShelves_177 : decode cL_areShelves 177 = .ok (.iload 8, 2) := by decide +kernel
theorem dL_areShelves_179 : decode cL_areShelves 179 = .ok (.iconst 0, 1) := by decide +kernel
theorem dL_areShelves_180 : decode cL_areShelves 180 = .ok (.invokevirtual 18, 3) := by decide +kernel
theorem dL_areShelves_183 : decode cL_areShelves 183 = .ok (.bipush 10, 2) := by decide +kernel
theorem dL_areShelves_185 : decode cL_areShelves 185 = .ok (.if_icmp .ge 7, 3) := by decide +kernel
theorem dL_areShelves_188 : decode cL_areShelves 188 = .ok (.iconst 1, 1) := by decide +kernel
theorem dL_areShelves_189 : decode cL_areShelves 189 = .ok (.goto 4, 3) := by decide +kernel
theorem dL_areShelves_192 : decode cL_areShelves 192 = .ok (.iconst 0, 1) := by decide +kernel
theorem dL_areShelves_193 : decode cL_areShelves 193 = .ok (.istore 12, 2) := by decide +kernel
theorem dL_areShelves_195 : decode cL_areShelves 195 = .ok (.iload 12, 2) := by decide +kernel
theorem dL_areShelves_197 : decode cL_areShelves 197 = .ok (.ifCond .eq 19, 3) := by decide +kernel
theorem dL_areShelves_200 : decode cL_areShelves 200 = .ok (.aload_n 0, 1) := by decide +kernel
theorem dL_areShelves_201 : decode cL_areShelves 201 = .ok (.iload 8, 2) := by decide +kernel
theorem dL_areShelves_203 : decode cL_areShelves 203 = .ok (.iconst 5, 1) := by decide +kernel
theorem dL_areShelves_204 : decode cL_areShelves 204 = .ok (.invokevirtual 18, 3) := by decide +kernel
theorem dL_areShelves_207 : decode cL_areShelves 207 = .ok (.ifCond .le 11, 3) := by decide +kernel
theorem dL_areShelves_210 : decode cL_areShelves 210 = .ok (.iload 10, 2) := by decide +kernel
theorem dL_areShelves_212 : decode cL_areShelves 212 = .ok (.iconst 2, 1) := by decide +kernel
theorem dL_areShelves_213 : decode cL_areShelves 213 = .ok (.if_icmp .eq 5, 3) := by decide +kernel
theorem dL_areShelves_216 : decode cL_areShelves 216 = .ok (.iconst 0, 1) := by decide +kernel
theorem dL_areShelves_217 : decode cL_areShelves 217 = .ok (.ireturn, 1) := by decide +kernel
theorem dL_areShelves_218 : decode cL_areShelves 218 = .ok (.iload_n 2, 1) := by decide +kernel
theorem dL_areShelves_219 : decode cL_areShelves 219 = .ok (.iload 9, 2) := by decide +kernel
theorem dL_areShelves_221 : decode cL_areShelves 221 = .ok (.iadd, 1) := by decide +kernel
theorem dL_areShelves_222 : decode cL_areShelves 222 = .ok (.istore_n 2, 1) := by decide +kernel
theorem dL_areShelves_223 : decode cL_areShelves 223 = .ok (.iload_n 3, 1) := by decide +kernel
theorem dL_areShelves_224 : decode cL_areShelves 224 = .ok (.aload_n 0, 1) := by decide +kernel
theorem dL_areShelves_225 : decode cL_areShelves 225 = .ok (.iload 8, 2) := by decide +kernel
theorem dL_areShelves_227 : decode cL_areShelves 227 = .ok (.iconst 4, 1) := by decide +kernel
theorem dL_areShelves_228 : decode cL_areShelves 228 = .ok (.invokevirtual 18, 3) := by decide +kernel
theorem dL_areShelves_231 : decode cL_areShelves 231 = .ok (.iadd, 1) := by decide +kernel
theorem dL_areShelves_232 : decode cL_areShelves 232 = .ok (.istore_n 3, 1) := by decide +kernel
theorem dL_areShelves_233 : decode cL_areShelves 233 = .ok (.iload 8, 2) := by decide +kernel
theorem dL_areShelves_235 : decode cL_areShelves 235 = .ok (.istore 5, 2) := by decide +kernel
theorem dL_areShelves_237 : decode cL_areShelves 237 = .ok (.iload 9, 2) := by decide +kernel
theorem dL_areShelves_239 : decode cL_areShelves 239 = .ok (.istore 6, 2) := by decide +kernel
theorem dL_areShelves_241 : decode cL_areShelves 241 = .ok (.iinc 7 1, 3) := by decide +kernel
theorem dL_areShelves_244 : decode cL_areShelves 244 = .ok (.goto (-220), 3) := by decide +kernel
theorem dL_areShelves_247 : decode cL_areShelves 247 = .ok (.iconst 0, 1) := by decide +kernel
theorem dL_areShelves_248 : decode cL_areShelves 248 = .ok (.istore 7, 2) := by decide +kernel
theorem dL_areShelves_250 : decode cL_areShelves 250 = .ok (.iload 7, 2) := by decide +kernel
theorem dL_areShelves_252 : decode cL_areShelves 252 = .ok (.iconst 3, 1) := by decide +kernel
theorem dL_areShelves_253 : decode cL_areShelves 253 = .ok (.if_icmp .ge 222, 3) := by decide +kernel
theorem dL_areShelves_256 : decode cL_areShelves 256 = .ok (.iconst 0, 1) := by decide +kernel
theorem dL_areShelves_257 : decode cL_areShelves 257 = .ok (.istore 8, 2) := by decide +kernel
theorem dL_areShelves_259 : decode cL_areShelves 259 = .ok (.iconst 0, 1) := by decide +kernel
theorem dL_areShelves_260 : decode cL_areShelves 260 = .ok (.istore 9, 2) := by decide +kernel
theorem dL_areShelves_262 : decode cL_areShelves 262 = .ok (.iconst 0, 1) := by decide +kernel
theorem dL_areShelves_263 : decode cL_areShelves 263 = .ok (.istore 10, 2) := by decide +kernel
theorem dL_areShelves_265 : decode cL_areShelves 265 = .ok (.iconst 0, 1) := by decide +kernel
theorem dL_areShelves_266 : decode cL_areShelves 266 = .ok (.istore 11, 2) := by decide +kernel
theorem dL_areShelves_268 : decode cL_areShelves 268 = .ok (.iload 11, 2) := by decide +kernel
theorem dL_areShelves_270 : decode cL_areShelves 270 = .ok (.iload_n 1, 1) := by decide +kernel
theorem dL_areShelves_271 : decode cL_areShelves 271 = .ok (.if_icmp .ge 100, 3) := by decide +kernel
theorem dL_areShelves_274 : decode cL_areShelves 274 = .ok (.iload 11, 2) := by decide +kernel
theorem dL_areShelves_276 : decode cL_areShelves 276 = .ok (.bipush 24, 2) := by decide +kernel
theorem dL_areShelves_278 : decode cL_areShelves 278 = .ok (.if_icmp .ge 93, 3) := by decide +kernel
theorem dL_areShelves_281 : decode cL_areShelves 281 = .ok (.aload_n 0, 1) := by decide +kernel
theorem dL_areShelves_282 : decode cL_areShelves 282 = .ok (.iload 11, 2) := by decide +kernel
theorem dL_areShelves_284 : decode cL_areShelves 284 = .ok (.invokevirtual 15, 3) := by decide +kernel
theorem dL_areShelves_287 : decode cL_areShelves 287 = .ok (.istore 12, 2) := by decide +kernel
theorem dL_areShelves_289 : decode cL_areShelves 289 = .ok (.aload_n 0, 1) := by decide +kernel
theorem dL_areShelves_290 : decode cL_areShelves 290 = .ok (.iload 12, 2) := by decide +kernel
theorem dL_areShelves_292 : decode cL_areShelves 292 = .ok (.iconst 2, 1) := by decide +kernel
theorem dL_areShelves_293 : decode cL_areShelves 293 = .ok (.invokevirtual 18, 3) := by decide +kernel
theorem dL_areShelves_296 : decode cL_areShelves 296 = .ok (.iload 7, 2) := by decide +kernel
theorem dL_areShelves_298 : decode cL_areShelves 298 = .ok (.if_icmp .ne 7, 3) := by decide +kernel
theorem dL_areShelves_301 : decode cL_areShelves 301 = .ok (.iconst 1, 1) := by decide +kernel
theorem dL_areShelves_302 : decode cL_areShelves 302 = .ok (.goto 4, 3) := by decide +kernel
theorem dL_areShelves_305 : decode cL_areShelves 305 = .ok (.iconst 0, 1) := by decide +kernel
theorem dL_areShelves_306 : decode cL_areShelves 306 = .ok (.istore 13, 2) := by decide +kernel
theorem dL_areShelves_308 : decode cL_areShelves 308 = .ok (.iload 8, 2) := by decide +kernel
theorem dL_areShelves_310 : decode cL_areShelves 310 = .ok (.iload 13, 2) := by decide +kernel
theorem dL_areShelves_312 : decode cL_areShelves 312 = .ok (.ifCond .eq 13, 3) := by decide +kernel
theorem dL_areShelves_315 : decode cL_areShelves 315 = .ok (.aload_n 0, 1) := by decide +kernel
theorem dL_areShelves_316 : decode cL_areShelves 316 = .ok (.iload 12, 2) := by decide +kernel
theorem dL_areShelves_318 : decode cL_areShelves 318 = .ok (.iconst 0, 1) := by decide +kernel
theorem dL_areShelves_319 : decode cL_areShelves 319 = .ok (.invokevirtual 18, 3) := by decide +kernel
theorem dL_areShelves_322 : decode cL_areShelves 322 = .ok (.goto 4, 3) := by decide +kernel
theorem dL_areShelves_325 : decode cL_areShelves 325 = .ok (.iconst 0, 1) := by decide +kernel
theorem dL_areShelves_326 : decode cL_areShelves 326 = .ok (.iadd, 1) := by decide +kernel
theorem dL_areShelves_327 : decode cL_areShelves 327 = .ok (.istore 8, 2) := by decide +kernel
theorem dL_areShelves_329 : decode cL_areShelves 329 = .ok (.iload 9, 2) := by decide +kernel
theorem dL_areShelves_331 : decode cL_areShelves 331 = .ok (.iload 13, 2) := by decide +kernel
theorem dL_areShelves_333 : decode cL_areShelves 333 = .ok (.ifCond .eq 7, 3) := by decide +kernel
theorem dL_areShelves_336 : decode cL_areShelves 336 = .ok (.iconst 1, 1) := by decide +kernel
theorem dL_areShelves_337 : decode cL_areShelves 337 = .ok (.goto 4, 3) := by decide +kernel
theorem dL_areShelves_340 : decode cL_areShelves 340 = .ok (.iconst 0, 1) := by decide +kernel
theorem dL_areShelves_341 : decode cL_areShelves 341 = .ok (.iadd, 1) := by decide +kernel
theorem dL_areShelves_342 : decode cL_areShelves 342 = .ok (.istore 9, 2) := by decide +kernel
theorem dL_areShelves_344 : decode cL_areShelves 344 = .ok (.iload 10, 2) := by decide +kernel
theorem dL_areShelves_346 : decode cL_areShelves 346 = .ok (.iload 13, 2) := by decide +kernel
theorem dL_areShelves_348 : decode cL_areShelves 348 = .ok (.ifCond .eq 13, 3) := by decide +kernel
theorem dL_areShelves_351 : decode cL_areShelves 351 = .ok (.aload_n 0, 1) := by decide +kernel
theorem dL_areShelves_352 : decode cL_areShelves 352 = .ok (.iload 12, 2) := by decide +kernel
theorem dL_areShelves_354 : decode cL_areShelves 354 = .ok (.iconst 1, 1) := by decide +kernel
theorem dL_areShelves_355 : decode cL_areShelves 355 = .ok (.invokevirtual 18, 3) := by decide +kernel
theorem dL_areShelves_358 : decode cL_areShelves 358 = .ok (.goto 4, 3) := by decide +kernel
theorem dL_areShelves_361 : decode cL_areShelves 361 = .ok (.iconst 0, 1) := by decide +kernel
theorem dL_areShelves_362 : decode cL_areShelves 362 = .ok (.iadd, 1) := by decide +kernel
theorem dL_areShelves_363 : decode cL_areShelves 363 = .ok (.istore 10, 2) := by decide +kernel
theorem dL_areShelves_365 : decode cL_areShelves 365 = .ok (.iinc 11 1, 3) := by decide +kernel
theorem dL_areShelves_368 : decode cL_areShelves 368 = .ok (.goto (-100), 3) := by decide +kernel
theorem dL_areShelves_371 : decode cL_areShelves 371 = .ok (.aload_n 0, 1) := by decide +kernel
theorem dL_areShelves_372 : decode cL_areShelves 372 = .ok (.iload 7, 2) := by decide +kernel
theorem dL_areShelves_374 : decode cL_areShelves 374 = .ok (.iconst 0, 1) := by decide +kernel
theorem dL_areShelves_375 : decode cL_areShelves 375 = .ok (.invokevirtual 22, 3) := by decide +kernel
theorem dL_areShelves_378 : decode cL_areShelves 378 = .ok (.aload_n 0, 1) := by decide +kernel
theorem dL_areShelves_379 : decode cL_areShelves 379 = .ok (.bipush 6, 2) := by decide +kernel
theorem dL_areShelves_381 : decode cL_areShelves 381 = .ok (.iload 7, 2) := by decide +kernel
theorem dL_areShelves_383 : decode cL_areShelves 383 = .ok (.iadd, 1) := by decide +kernel
theorem dL_areShelves_384 : decode cL_areShelves 384 = .ok (.invokevirtual 8, 3) := by decide +kernel
theorem dL_areShelves_387 : decode cL_areShelves 387 = .ok (.if_icmp .ne 73, 3) := by decide +kernel
theorem dL_areShelves_390 : decode cL_areShelves 390 = .ok (.aload_n 0, 1) := by decide +kernel
theorem dL_areShelves_391 : decode cL_areShelves 391 = .ok (.iload 7, 2) := by decide +kernel
theorem dL_areShelves_393 : decode cL_areShelves 393 = .ok (.iconst 1, 1) := by decide +kernel
theorem dL_areShelves_394 : decode cL_areShelves 394 = .ok (.invokevirtual 22, 3) := by decide +kernel
theorem dL_areShelves_397 : decode cL_areShelves 397 = .ok (.iload 8, 2) := by decide +kernel
theorem dL_areShelves_399 : decode cL_areShelves 399 = .ok (.if_icmp .ne 61, 3) := by decide +kernel
theorem dL_areShelves_402 : decode cL_areShelves 402 = .ok (.iload 8, 2) := by decide +kernel
theorem dL_areShelves_404 : decode cL_areShelves 404 = .ok (.aload_n 0, 1) := by decide +kernel
theorem dL_areShelves_405 : decode cL_areShelves 405 = .ok (.iload 7, 2) := by decide +kernel
theorem dL_areShelves_407 : decode cL_areShelves 407 = .ok (.iconst 0, 1) := by decide +kernel
theorem dL_areShelves_408 : decode cL_areShelves 408 = .ok (.invokevirtual 22, 3) := by decide +kernel
theorem dL_areShelves_411 : decode cL_areShelves 411 = .ok (.if_icmp .gt 49, 3) := by decide +kernel
theorem dL_areShelves_414 : decode cL_areShelves 414 = .ok (.aload_n 0, 1) := by decide +kernel
theorem dL_areShelves_415 : decode cL_areShelves 415 = .ok (.iload 7, 2) := by decide +kernel
theorem dL_areShelves_417 : decode cL_areShelves 417 = .ok (.iconst 2, 1) := by decide +kernel
theorem dL_areShelves_418 : decode cL_areShelves 418 = .ok (.invokevirtual 22, 3) := by decide +kernel
theorem dL_areShelves_421 : decode cL_areShelves 421 = .ok (.iload 9, 2) := by decide +kernel
theorem dL_areShelves_423 : decode cL_areShelves 423 = .ok (.if_icmp .ne 37, 3) := by decide +kernel
theorem dL_areShelves_426 : decode cL_areShelves 426 = .ok (.aload_n 0, 1) := by decide +kernel
theorem dL_areShelves_427 : decode cL_areShelves 427 = .ok (.iload 7, 2) := by decide +kernel
theorem dL_areShelves_429 : decode cL_areShelves 429 = .ok (.iconst 3, 1) := by decide +kernel
theorem dL_areShelves_430 : decode cL_areShelves 430 = .ok (.invokevirtual 22, 3) := by decide +kernel
theorem dL_areShelves_433 : decode cL_areShelves 433 = .ok (.iload 10, 2) := by decide +kernel
theorem dL_areShelves_435 : decode cL_areShelves 435 = .ok (.if_icmp .ne 25, 3) := by decide +kernel
theorem dL_areShelves_438 : decode cL_areShelves 438 = .ok (.aload_n 0, 1) := by decide +kernel
theorem dL_areShelves_439 : decode cL_areShelves 439 = .ok (.iload 7, 2) := by decide +kernel
theorem dL_areShelves_441 : decode cL_areShelves 441 = .ok (.iconst 4, 1) := by decide +kernel
theorem dL_areShelves_442 : decode cL_areShelves 442 = .ok (.invokevirtual 22, 3) := by decide +kernel
theorem dL_areShelves_445 : decode cL_areShelves 445 = .ok (.iload 8, 2) := by decide +kernel
theorem dL_areShelves_447 : decode cL_areShelves 447 = .ok (.aload_n 0, 1) := by decide +kernel
theorem dL_areShelves_448 : decode cL_areShelves 448 = .ok (.bipush 9, 2) := by decide +kernel
theorem dL_areShelves_450 : decode cL_areShelves 450 = .ok (.iload 7, 2) := by decide +kernel
theorem dL_areShelves_452 : decode cL_areShelves 452 = .ok (.iadd, 1) := by decide +kernel
theorem dL_areShelves_453 : decode cL_areShelves 453 = .ok (.invokevirtual 8, 3) := by decide +kernel
theorem dL_areShelves_456 : decode cL_areShelves 456 = .ok (.imul, 1) := by decide +kernel
theorem dL_areShelves_457 : decode cL_areShelves 457 = .ok (.if_icmp .eq 5, 3) := by decide +kernel
theorem dL_areShelves_460 : decode cL_areShelves 460 = .ok (.iconst 0, 1) := by decide +kernel
theorem dL_areShelves_461 : decode cL_areShelves 461 = .ok (.ireturn, 1) := by decide +kernel
theorem dL_areShelves_462 : decode cL_areShelves 462 = .ok (.iload 4, 2) := by decide +kernel
theorem dL_areShelves_464 : decode cL_areShelves 464 = .ok (.iload 9, 2) := by decide +kernel
theorem dL_areShelves_466 : decode cL_areShelves 466 = .ok (.iadd, 1) := by decide +kernel
theorem dL_areShelves_467 : decode cL_areShelves 467 = .ok (.istore 4, 2) := by decide +kernel
theorem dL_areShelves_469 : decode cL_areShelves 469 = .ok (.iinc 7 1, 3) := by decide +kernel
theorem dL_areShelves_472 : decode cL_areShelves 472 = .ok (.goto (-222), 3) := by decide +kernel
theorem dL_areShelves_475 : decode cL_areShelves 475 = .ok (.iload 4, 2) := by decide +kernel
theorem dL_areShelves_477 : decode cL_areShelves 477 = .ok (.iload_n 1, 1) := by decide +kernel
theorem dL_areShelves_478 : decode cL_areShelves 478 = .ok (.if_icmp .ne 66, 3) := by decide +kernel
theorem dL_areShelves_481 : decode cL_areShelves 481 = .ok (.iload_n 1, 1) := by decide +kernel
theorem dL_areShelves_482 : decode cL_areShelves 482 = .ok (.bipush 24, 2) := by decide +kernel
theorem dL_areShelves_484 : decode cL_areShelves 484 = .ok (.if_icmp .gt 60, 3) := by decide +kernel
theorem dL_areShelves_487 : decode cL_areShelves 487 = .ok (.aload_n 0, 1) := by decide +kernel
theorem dL_areShelves_488 : decode cL_areShelves 488 = .ok (.iload_n 1, 1) := by decide +kernel
theorem dL_areShelves_489 : decode cL_areShelves 489 = .ok (.invokevirtual 15, 3) := by decide +kernel
theorem dL_areShelves_492 : decode cL_areShelves 492 = .ok (.bipush (-5), 2) := by decide +kernel
theorem dL_areShelves_494 : decode cL_areShelves 494 = .ok (.if_icmp .ne 50, 3) := by decide +kernel
theorem dL_areShelves_497 : decode cL_areShelves 497 = .ok (.aload_n 0, 1) := by decide +kernel
theorem dL_areShelves_498 : decode cL_areShelves 498 = .ok (.iconst (-1), 1) := by decide +kernel
theorem dL_areShelves_499 : decode cL_areShelves 499 = .ok (.invokevirtual 15, 3) := by decide +kernel
theorem dL_areShelves_502 : decode cL_areShelves 502 = .ok (.bipush (-2), 2) := by decide +kernel
theorem dL_areShelves_504 : decode cL_areShelves 504 = .ok (.if_icmp .ne 40, 3) := by decide +kernel
theorem dL_areShelves_507 : decode cL_areShelves 507 = .ok (.aload_n 0, 1) := by decide +kernel
theorem dL_areShelves_508 : decode cL_areShelves 508 = .ok (.bipush 24, 2) := by decide +kernel
theorem dL_areShelves_510 : decode cL_areShelves 510 = .ok (.invokevirtual 8, 3) := by decide +kernel
theorem dL_areShelves_513 : decode cL_areShelves 513 = .ok (.iload_n 2, 1) := by decide +kernel
theorem dL_areShelves_514 : decode cL_areShelves 514 = .ok (.if_icmp .ne 30, 3) := by decide +kernel
theorem dL_areShelves_517 : decode cL_areShelves 517 = .ok (.aload_n 0, 1) := by decide +kernel
theorem dL_areShelves_518 : decode cL_areShelves 518 = .ok (.bipush 23, 2) := by decide +kernel
theorem dL_areShelves_520 : decode cL_areShelves 520 = .ok (.invokevirtual 8, 3) := by decide +kernel
theorem dL_areShelves_523 : decode cL_areShelves 523 = .ok (.iload_n 3, 1) := by decide +kernel
theorem dL_areShelves_524 : decode cL_areShelves 524 = .ok (.if_icmp .ne 20, 3) := by decide +kernel
theorem dL_areShelves_527 : decode cL_areShelves 527 = .ok (.aload_n 0, 1) := by decide +kernel
theorem dL_areShelves_528 : decode cL_areShelves 528 = .ok (.iconst 2, 1) := by decide +kernel
theorem dL_areShelves_529 : decode cL_areShelves 529 = .ok (.invokevirtual 8, 3) := by decide +kernel
theorem dL_areShelves_532 : decode cL_areShelves 532 = .ok (.aload_n 0, 1) := by decide +kernel
theorem dL_areShelves_533 : decode cL_areShelves 533 = .ok (.iconst 1, 1) := by decide +kernel
theorem dL_areShelves_534 : decode cL_areShelves 534 = .ok (.invokevirtual 8, 3) := by decide +kernel
theorem dL_areShelves_537 : decode cL_areShelves 537 = .ok (.if_icmp .gt 7, 3) := by decide +kernel
theorem dL_areShelves_540 : decode cL_areShelves 540 = .ok (.iconst 1, 1) := by decide +kernel
theorem dL_areShelves_541 : decode cL_areShelves 541 = .ok (.goto 4, 3) := by decide +kernel
theorem dL_areShelves_544 : decode cL_areShelves 544 = .ok (.iconst 0, 1) := by decide +kernel
theorem dL_areShelves_545 : decode cL_areShelves 545 = .ok (.ireturn, 1) := by decide +kernel
theorem dL_isNight_0 : decode cL_isNight 0 = .ok (.aload_n 0, 1) := by decide +kernel
theorem dL_isNight_1 : decode cL_isNight 1 = .ok (.bipush 15, 2) := by decide +kernel
theorem dL_isNight_3 : decode cL_isNight 3 = .ok (.invokevirtual 8, 3) := by decide +kernel
theorem dL_isNight_6 : decode cL_isNight 6 = .ok (.istore_n 3, 1) := by decide +kernel
theorem dL_isNight_7 : decode cL_isNight 7 = .ok (.aload_n 0, 1) := by decide +kernel
theorem dL_isNight_8 : decode cL_isNight 8 = .ok (.iconst 0, 1) := by decide +kernel
theorem dL_isNight_9 : decode cL_isNight 9 = .ok (.iconst 4, 1) := by decide +kernel
theorem dL_isNight_10 : decode cL_isNight 10 = .ok (.invokevirtual 22, 3) := by decide +kernel
theorem dL_isNight_13 : decode cL_isNight 13 = .ok (.aload_n 0, 1) := by decide +kernel
theorem dL_isNight_14 : decode cL_isNight 14 = .ok (.iconst 1, 1) := by decide +kernel
theorem dL_isNight_15 : decode cL_isNight 15 = .ok (.iconst 4, 1) := by decide +kernel
theorem dL_isNight_16 : decode cL_isNight 16 = .ok (.invokevirtual 22, 3) := by decide +kernel
theorem dL_isNight_19 : decode cL_isNight 19 = .ok (.iadd, 1) := by decide +kernel
theorem dL_isNight_20 : decode cL_isNight 20 = .ok (.aload_n 0, 1) := by decide +kernel
theorem dL_isNight_21 : decode cL_isNight 21 = .ok (.iconst 2, 1) := by decide +kernel
theorem dL_isNight_22 : decode cL_isNight 22 = .ok (.iconst 4, 1) := by decide +kernel
theorem dL_isNight_23 : decode cL_isNight 23 = .ok (.invokevirtual 22, 3) := by decide +kernel
theorem dL_isNight_26 : decode cL_isNight 26 = .ok (.iadd, 1) := by decide +kernel
theorem dL_isNight_27 : decode cL_isNight 27 = .ok (.istore 4, 2) := by decide +kernel
theorem dL_isNight_29 : decode cL_isNight 29 = .ok (.aload_n 0, 1) := by decide +kernel
theorem dL_isNight_30 : decode cL_isNight 30 = .ok (.bipush 18, 2) := by decide +kernel
theorem dL_isNight_32 : decode cL_isNight 32 = .ok (.invokevirtual 8, 3) := by decide +kernel
theorem dL_isNight_35 : decode cL_isNight 35 = .ok (.istore 5, 2) := by decide +kernel
theorem dL_isNight_37 : decode cL_isNight 37 = .ok (.aload_n 0, 1) := by decide +kernel
theorem dL_isNight_38 : decode cL_isNight 38 = .ok (.bipush 21, 2) := by decide +kernel
theorem dL_isNight_40 : decode cL_isNight 40 = .ok (.invokevirtual 8, 3) := by decide +kernel
theorem dL_isNight_43 : decode cL_isNight 43 = .ok (.istore 6, 2) := by decide +kernel
theorem dL_isNight_45 : decode cL_isNight 45 = .ok (.iconst 0, 1) := by decide +kernel
theorem dL_isNight_46 : decode cL_isNight 46 = .ok (.istore 7, 2) := by decide +kernel
theorem dL_isNight_48 : decode cL_isNight 48 = .ok (.iconst 0, 1) := by decide +kernel
theorem dL_isNight_49 : decode cL_isNight 49 = .ok (.istore 8, 2) := by decide +kernel
theorem dL_isNight_51 : decode cL_isNight 51 = .ok (.aload_n 0, 1) := by decide +kernel
theorem dL_isNight_52 : decode cL_isNight 52 = .ok (.bipush 17, 2) := by decide +kernel
theorem dL_isNight_54 : decode cL_isNight 54 = .ok (.invokevirtual 8, 3) := by decide +kernel
theorem dL_isNight_57 : decode cL_isNight 57 = .ok (.sipush 4900, 3) := by decide +kernel
theorem dL_isNight_60 : decode cL_isNight 60 = .ok (.if_icmp .le 5, 3) := by decide +kernel
theorem dL_isNight_63 : decode cL_isNight 63 = .ok (.iconst 1, 1) := by decide +kernel
theorem dL_isNight_64 : decode cL_isNight 64 = .ok (.ireturn, 1) := by decide +kernel
theorem dL_isNight_65 : decode cL_isNight 65 = .ok (.iconst 0, 1) := by decide +kernel
theorem dL_isNight_66 : decode cL_isNight 66 = .ok (.istore 9, 2) := by decide +kernel
theorem dL_isNight_68 : decode cL_isNight 68 = .ok (.iload 9, 2) := by decide +kernel
theorem dL_isNight_70 : decode cL_isNight 70 = .ok (.iload_n 3, 1) := by decide +kernel
theorem dL_isNight_71 : decode cL_isNight 71 = .ok (.if_icmp .ge 174, 3) := by decide +kernel
theorem dL_isNight_74 : decode cL_isNight 74 = .ok (.iload 9, 2) := by decide +kernel
theorem dL_isNight_76 : decode cL_isNight 76 = .ok (.bipush 24, 2) := by decide +kernel
theorem dL_isNight_78 : decode cL_isNight 78 = .ok (.if_icmp .ge 167, 3) := by decide +kernel
theorem dL_isNight_81 : decode cL_isNight 81 = .ok (.aload_n 0, 1) := by decide +kernel
theorem dL_isNight_82 : decode cL_isNight 82 = .ok (.iload 9, 2) := by decide +kernel
theorem dL_isNight_84 : decode cL_isNight 84 = .ok (.invokevirtual 15, 3) := by decide +kernel
theorem dL_isNight_87 : decode cL_isNight 87 = .ok (.istore 10, 2) := by decide +kernel
theorem dL_isNight_89 : decode cL_isNight 89 = .ok (.aload_n 0, 1) := by decide +kernel
theorem dL_isNight_90 : decode cL_isNight 90 = .ok (.iload 10, 2) := by decide +kernel
theorem dL_isNight_92 : decode cL_isNight 92 = .ok (.bipush 8, 2) := by decide +kernel
theorem dL_isNight_94 : decode cL_isNight 94 = .ok (.invokevirtual 18, 3) := by decide +kernel
theorem dL_isNight_97 : decode cL_isNight 97 = .ok (.istore 11, 2) := by decide +kernel
theorem dL_isNight_99 : decode cL_isNight 99 = .ok (.aload_n 1, 1) := by decide +kernel
theorem dL_isNight_100 : decode cL_isNight 100 = .ok (.iload 9, 2) := by decide +kernel
theorem dL_isNight_102 : decode cL_isNight 102 = .ok (.iload 10, 2) := by decide +kernel
theorem dL_isNight_104 : decode cL_isNight 104 = .ok (.iastore, 1) := by decide +kernel
theorem dL_isNight_105 : decode cL_isNight 105 = .ok (.aload_n 2, 1) := by decide +kernel
theorem dL_isNight_106 : decode cL_isNight 106 = .ok (.iload 9, 2) := by decide +kernel
theorem dL_isNight_108 : decode cL_isNight 108 = .ok (.bipush 8, 2) := by decide +kernel
theorem dL_isNight_110 : decode cL_isNight 110 = .ok (.aload_n 0, 1) := by decide +kernel
theorem dL_isNight_111 : decode cL_isNight 111 = .ok (.iload 10, 2) := by decide +kernel
theorem dL_isNight_113 : decode cL_isNight 113 = .ok (.bipush 7, 2) := by decide +kernel
theorem dL_isNight_115 : decode cL_isNight 115 = .ok (.invokevirtual 18, 3) := by decide +kernel
theorem dL_isNight_118 : decode cL_isNight 118 = .ok (.imul, 1) := by decide +kernel
theorem dL_isNight_119 : decode cL_isNight 119 = .ok (.iload 11, 2) := by decide +kernel
theorem dL_isNight_121 : decode cL_isNight 121 = .ok (.ifCond .ne 7, 3) := by decide +kernel
theorem dL_isNight_124 : decode cL_isNight 124 = .ok (.iconst 4, 1) := by decide +kernel
theorem dL_isNight_125 : decode cL_isNight 125 = .ok (.goto 4, 3) := by decide +kernel
theorem dL_isNight_128 : decode cL_isNight 128 = .ok (.iconst 0, 1) := by decide +kernel
theorem dL_isNight_129 : decode cL_isNight 129 = .ok (.iadd, 1) := by decide +kernel
theorem dL_isNight_130 : decode cL_isNight 130 = .ok (.aload_n 0, 1) := by decide +kernel
theorem dL_isNight_131 : decode cL_isNight 131 = .ok (.iload 10, 2) := by decide +kernel
theorem dL_isNight_133 : decode cL_isNight 133 = .ok (.iconst 2, 1) := by decide +kernel
theorem dL_isNight_134 : decode cL_isNight 134 = .ok (.invokevirtual 18, 3) := by decide +kernel
theorem dL_isNight_137 : decode cL_isNight 137 = .ok (.iadd, 1) := by decide +kernel
theorem dL_isNight_138 : decode cL_isNight 138 = .ok (.iastore, 1) := by decide +kernel
theorem dL_isNight_139 : decode cL_isNight 139 = .ok (.iload 7, 2) := by decide +kernel
theorem dL_isNight_141 : decode cL_isNight 141 = .ok (.iload 11, 2) := by decide +kernel
theorem dL_isNight_143 : decode cL_isNight 143 = .ok (.ifCond .ne 7, 3) := by decide +kernel
theorem dL_isNight_146 : decode cL_isNight 146 = .ok (.iconst 1, 1) := by decide +kernel
theorem dL_isNight_147 : decode cL_isNight 147 = .ok (.goto 4, 3) := by decide +kernel
theorem dL_isNight_150 : decode cL_isNight 150 = .ok (.iconst 0, 1) := by decide +kernel
theorem dL_isNight_151 : decode cL_isNight 151 = .ok (.iadd, 1) := by decide +kernel
theorem dL_isNight_152 : decode cL_isNight 152 = .ok (.istore 7, 2) := by decide +kernel
theorem dL_isNight_154 : decode cL_isNight 154 = .ok (.iload 8, 2) := by decide +kernel
theorem dL_isNight_156 : decode cL_isNight 156 = .ok (.aload_n 0, 1) := by decide +kernel
theorem dL_isNight_157 : decode cL_isNight 157 = .ok (.iload 10, 2) := by decide +kernel
theorem dL_isNight_159 : decode cL_isNight 159 = .ok (.iconst 1, 1) := by decide +kernel
theorem dL_isNight_160 : decode cL_isNight 160 = .ok (.invokevirtual 18, 3) := by decide +kernel
theorem dL_isNight_163 : decode cL_isNight 163 = .ok (.aload_n 0, 1) := by decide +kernel
theorem dL_isNight_164 : decode cL_isNight 164 = .ok (.iconst 0, 1) := by decide +kernel
theorem dL_isNight_165 : decode cL_isNight 165 = .ok (.invokevirtual 8, 3) := by decide +kernel
theorem dL_isNight_168 : decode cL_isNight 168 = .ok (.imul, 1) := by decide +kernel
theorem dL_isNight_169 : decode cL_isNight 169 = .ok (.bipush 100, 2) := by decide +kernel
theorem dL_isNight_171 : decode cL_isNight 171 = .ok (.idiv, 1) := by decide +kernel
theorem dL_isNight_172 : decode cL_isNight 172 = .ok (.iadd, 1) := by decide +kernel
theorem dL_isNight_173 : decode cL_isNight 173 = .ok (.istore 8, 2) := by decide +kernel
theorem dL_isNight_175 : decode cL_isNight 175 = .ok (.aload_n 0, 1) := by decide +kernel
theorem dL_isNight_176 : decode cL_isNight 176 = .ok (.iload 10, 2) := by decide +kernel
theorem dL_isNight_178 : decode cL_isNight 178 = .ok (.iconst 5, 1) := by decide +kernel
theorem dL_isNight_179 : decode cL_isNight 179 = .ok (.invokevirtual 18, 3) := by decide +kernel
theorem dL_isNight_182 : decode cL_isNight 182 = .ok (.istore 12, 2) := by decide +kernel
theorem dL_isNight_184 : decode cL_isNight 184 = .ok (.iload 11, 2) := by decide +kernel
theorem dL_isNight_186 : decode cL_isNight 186 = .ok (.ifCond .lt 51, 3) := by decide +kernel
theorem dL_isNight_189 : decode cL_isNight 189 = .ok (.iload 11, 2) := by decide +kernel
theorem dL_isNight_191 : decode cL_isNight 191 = .ok (.iconst 5, 1) := by decide +kernel
theorem dL_isNight_192 : decode cL_isNight 192 = .ok (.if_icmp .gt 45, 3) := by decide +kernel
theorem dL_isNight_195 : decode cL_isNight 195 = .ok (.iload 11, 2) := by decide +kernel
theorem dL_isNight_197 : decode cL_isNight 197 = .ok (.iconst 1, 1) := by decide +kernel
theorem dL_isNight_198 : decode cL_isNight 198 = .ok (.if_icmp .ne 7, 3) := by decide +kernel
theorem dL_isNight_201 : decode cL_isNight 201 = .ok (.iconst 1, 1) := by decide +kernel
theorem dL_isNight_202 : decode cL_isNight 202 = .ok (.goto 4, 3) := by decide +kernel
theorem dL_isNight_205 : decode cL_isNight 205 = .ok (.iconst 0, 1) := by decide +kernel
theorem dL_isNight_206 : decode cL_isNight 206 = .ok (.aload_n 0, 1) := by decide +kernel
theorem dL_isNight_207 : decode cL_isNight 207 = .ok (.iload 10, 2) := by decide +kernel
theorem dL_isNight_209 : decode cL_isNight 209 = .ok (.iconst 4, 1) := by decide +kernel
theorem dL_isNight_210 : decode cL_isNight 210 = .ok (.invokevirtual 18, 3) := by decide +kernel
theorem dL_isNight_213 : decode cL_isNight 213 = .ok (.iconst 1, 1) := by decide +kernel
theorem dL_isNight_214 : decode cL_isNight 214 = .ok (.if_icmp .ne 7, 3) := by decide +kernel
theorem dL_isNight_217 : decode cL_isNight 217 = .ok (.iconst 1, 1) := by decide +kernel
theorem dL_isNight_218 : decode cL_isNight 218 = .ok (.goto 4, 3) := by decide +kernel
theorem dL_isNight_221 : decode cL_isNight 221 = .ok (.iconst 0, 1) := by decide +kernel
theorem dL_isNight_222 : decode cL_isNight 222 = .ok (.if_icmp .ne 15, 3) := by decide +kernel
theorem dL_isNight_225 : decode cL_isNight 225 = .ok (.iload 11, 2) := by decide +kernel
theorem dL_isNight_227 : decode cL_isNight 227 = .ok (.iconst 2, 1) := by decide +kernel
theorem dL_isNight_228 : decode cL_isNight 228 = .ok (.if_icmp .ne 11, 3) := by decide +kernel
theorem dL_isNight_231 : decode cL_isNight 231 = .ok (.iload 12, 2) := by decide +kernel
theorem dL_isNight_233 : decode cL_isNight 233 = .ok (.iconst 2, 1) := by decide +kernel
theorem dL_isNight_234 : decode cL_isNight 234 = .ok (.if_icmp .ge 5, 3) := by decide +kernel
theorem dL_isNight_237 : decode cL_isNight 237 = .ok (.iconst 0, 1) := by decide +kernel
theorem dL_isNight_238 : decode cL_isNight 238 = .ok (.ireturn, 1) := by decide +kernel
theorem dL_isNight_239 : decode cL_isNight 239 = .ok (.iinc 9 1, 3) := by decide +kernel
theorem dL_isNight_242 : decode cL_isNight 242 = .ok (.goto (-174), 3) := by decide +kernel
theorem dL_isNight_245 : decode cL_isNight 245 = .ok (.aload_n 0, 1) := by decide +kernel
theorem dL_isNight_246 : decode cL_isNight 246 = .ok (.iconst 1, 1) := by decide +kernel
theorem dL_isNight_247 : decode cL_isNight 247 = .ok (.iconst 0, 1) := by decide +kernel
theorem dL_isNight_248 : decode cL_isNight 248 = .ok (.invokevirtual 25, 3) := by decide +kernel
theorem dL_isNight_251 : decode cL_isNight 251 = .ok (.iload 4, 2) := by decide +kernel
theorem dL_isNight_253 : decode cL_isNight 253 = .ok (.if_icmp .ne 61, 3) := by decide +kernel
theorem dL_isNight_256 : decode cL_isNight 256 = .ok (.aload_n 0, 1) := by decide +kernel
theorem dL_isNight_257 : decode cL_isNight 257 = .ok (.iconst 1, 1) := by decide +kernel
theorem dL_isNight_258 : decode cL_isNight 258 = .ok (.iconst 1, 1) := by decide +kernel
theorem dL_isNight_259 : decode cL_isNight 259 = .ok (.invokevirtual 25, 3) := by decide +kernel
theorem dL_isNight_262 : decode cL_isNight 262 = .ok (.iload 7, 2) := by decide +kernel
theorem dL_isNight_264 : decode cL_isNight 264 = .ok (.if_icmp .ne 50, 3) := by decide +kernel
theorem dL_isNight_267 : decode cL_isNight 267 = .ok (.aload_n 0, 1) := by decide +kernel
theorem dL_isNight_268 : decode cL_isNight 268 = .ok (.iconst 1, 1) := by decide +kernel
theorem dL_isNight_269 : decode cL_isNight 269 = .ok (.iconst 2, 1) := by decide +kernel
theorem dL_isNight_270 : decode cL_isNight 270 = .ok (.invokevirtual 25, 3) := by decide +kernel
theorem dL_isNight_273 : decode cL_isNight 273 = .ok (.iload 8, 2) := by decide +kernel
theorem dL_isNight_275 : decode cL_isNight 275 = .ok (.if_icmp .ne 39, 3) := by decide +kernel
theorem dL_isNight_278 : decode cL_isNight 278 = .ok (.aload_n 0, 1) := by decide +kernel
theorem dL_isNight_279 : decode cL_isNight 279 = .ok (.invokevirtual 28, 3) := by decide +kernel
theorem dL_isNight_282 : decode cL_isNight 282 = .ok (.iconst 1, 1) := by decide +kernel
theorem dL_isNight_283 : decode cL_isNight 283 = .ok (.if_icmp .ne 7, 3) := by decide +kernel
theorem dL_isNight_286 : decode cL_isNight 286 = .ok (.iconst 1, 1) := by decide +kernel
theorem dL_isNight_287 : decode cL_isNight 287 = .ok (.goto 4, 3) := by decide +kernel
theorem dL_isNight_290 : decode cL_isNight 290 = .ok (.iconst 0, 1) := by decide +kernel
theorem dL_isNight_291 : decode cL_isNight 291 = .ok (.iload 7, 2) := by decide +kernel
