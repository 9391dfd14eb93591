theorem dM_shutsLeast_0 : decode mM_shutsLeast.2.1 0 = .ok (.aload_n 0, 1) := by decide +kernel
theorem dM_shutsLeast_1 : decode mM_shutsLeast.2.1 1 = .ok (.iconst 0, 1) := by decide +kernel
theorem dM_shutsLeast_2 : decode mM_shutsLeast.2.1 2 = .ok (.putfield 286, 3) := by decide +kernel
theorem dM_shutsLeast_5 : decode mM_shutsLeast.2.1 5 = .ok (.aload_n 0, 1) := by decide +kernel
theorem dM_shutsLeast_6 : decode mM_shutsLeast.2.1 6 = .ok (.invokevirtual 348, 3) := by decide +kernel
theorem dM_shutsLeast_9 : decode mM_shutsLeast.2.1 9 = .ok (.aload_n 0, 1) := by decide +kernel
theorem dM_shutsLeast_10 : decode mM_shutsLeast.2.1 10 = .ok (.invokevirtual 326, 3) := by decide +kernel
theorem dM_shutsLeast_13 : decode mM_shutsLeast.2.1 13 = .ok (.istore_n 1, 1) := by decide +kernel
theorem dM_shutsLeast_14 : decode mM_shutsLeast.2.1 14 = .ok (.iconst 0, 1) := by decide +kernel
theorem dM_shutsLeast_15 : decode mM_shutsLeast.2.1 15 = .ok (.istore_n 2, 1) := by decide +kernel
theorem dM_shutsLeast_16 : decode mM_shutsLeast.2.1 16 = .ok (.iload_n 2, 1) := by decide +kernel
theorem dM_shutsLeast_17 : decode mM_shutsLeast.2.1 17 = .ok (.iload_n 1, 1) := by decide +kernel
theorem dM_shutsLeast_18 : decode mM_shutsLeast.2.1 18 = .ok (.if_icmp .ge 18, 3) := by decide +kernel
theorem dM_shutsLeast_21 : decode mM_shutsLeast.2.1 21 = .ok (.aload_n 0, 1) := by decide +kernel
theorem dM_shutsLeast_22 : decode mM_shutsLeast.2.1 22 = .ok (.getfield 31, 3) := by decide +kernel
theorem dM_shutsLeast_25 : decode mM_shutsLeast.2.1 25 = .ok (.iload_n 2, 1) := by decide +kernel
theorem dM_shutsLeast_26 : decode mM_shutsLeast.2.1 26 = .ok (.ldc_w 329, 3) := by decide +kernel
theorem dM_shutsLeast_29 : decode mM_shutsLeast.2.1 29 = .ok (.iastore, 1) := by decide +kernel
theorem dM_shutsLeast_30 : decode mM_shutsLeast.2.1 30 = .ok (.iinc 2 1, 3) := by decide +kernel
theorem dM_shutsLeast_33 : decode mM_shutsLeast.2.1 33 = .ok (.goto (-17), 3) := by decide +kernel
theorem dM_shutsLeast_36 : decode mM_shutsLeast.2.1 36 = .ok (.aload_n 0, 1) := by decide +kernel
theorem dM_shutsLeast_37 : decode mM_shutsLeast.2.1 37 = .ok (.invokevirtual 330, 3) := by decide +kernel
theorem dM_shutsLeast_40 : decode mM_shutsLeast.2.1 40 = .ok (.istore_n 2, 1) := by decide +kernel
theorem dM_shutsLeast_41 : decode mM_shutsLeast.2.1 41 = .ok (.aload_n 0, 1) := by decide +kernel
theorem dM_shutsLeast_42 : decode mM_shutsLeast.2.1 42 = .ok (.getfield 31, 3) := by decide +kernel
theorem dM_shutsLeast_45 : decode mM_shutsLeast.2.1 45 = .ok (.iload_n 2, 1) := by decide +kernel
theorem dM_shutsLeast_46 : decode mM_shutsLeast.2.1 46 = .ok (.iconst 0, 1) := by decide +kernel
theorem dM_shutsLeast_47 : decode mM_shutsLeast.2.1 47 = .ok (.iastore, 1) := by decide +kernel
theorem dM_shutsLeast_48 : decode mM_shutsLeast.2.1 48 = .ok (.aload_n 0, 1) := by decide +kernel
theorem dM_shutsLeast_49 : decode mM_shutsLeast.2.1 49 = .ok (.getfield 37, 3) := by decide +kernel
theorem dM_shutsLeast_52 : decode mM_shutsLeast.2.1 52 = .ok (.iconst 0, 1) := by decide +kernel
theorem dM_shutsLeast_53 : decode mM_shutsLeast.2.1 53 = .ok (.iload_n 2, 1) := by decide +kernel
theorem dM_shutsLeast_54 : decode mM_shutsLeast.2.1 54 = .ok (.iastore, 1) := by decide +kernel
theorem dM_shutsLeast_55 : decode mM_shutsLeast.2.1 55 = .ok (.iconst 1, 1) := by decide +kernel
theorem dM_shutsLeast_56 : decode mM_shutsLeast.2.1 56 = .ok (.istore_n 3, 1) := by decide +kernel
theorem dM_shutsLeast_57 : decode mM_shutsLeast.2.1 57 = .ok (.iconst 0, 1) := by decide +kernel
theorem dM_shutsLeast_58 : decode mM_shutsLeast.2.1 58 = .ok (.istore 4, 2) := by decide +kernel
theorem dM_shutsLeast_60 : decode mM_shutsLeast.2.1 60 = .ok (.iload_n 3, 1) := by decide +kernel
theorem dM_shutsLeast_61 : decode mM_shutsLeast.2.1 61 = .ok (.ifCond .le 258, 3) := by decide +kernel
theorem dM_shutsLeast_64 : decode mM_shutsLeast.2.1 64 = .ok (.iconst 0, 1) := by decide +kernel
theorem dM_shutsLeast_65 : decode mM_shutsLeast.2.1 65 = .ok (.istore 5, 2) := by decide +kernel
theorem dM_shutsLeast_67 : decode mM_shutsLeast.2.1 67 = .ok (.iconst 0, 1) := by decide +kernel
theorem dM_shutsLeast_68 : decode mM_shutsLeast.2.1 68 = .ok (.istore 6, 2) := by decide +kernel
theorem dM_shutsLeast_70 : decode mM_shutsLeast.2.1 70 = .ok (.iload 6, 2) := by decide +kernel
theorem dM_shutsLeast_72 : decode mM_shutsLeast.2.1 72 = .ok (.iload_n 3, 1) := by decide +kernel
theorem dM_shutsLeast_73 : decode mM_shutsLeast.2.1 73 = .ok (.if_icmp .ge 186, 3) := by decide +kernel
theorem dM_shutsLeast_76 : decode mM_shutsLeast.2.1 76 = .ok (.aload_n 0, 1) := by decide +kernel
theorem dM_shutsLeast_77 : decode mM_shutsLeast.2.1 77 = .ok (.getfield 37, 3) := by decide +kernel
theorem dM_shutsLeast_80 : decode mM_shutsLeast.2.1 80 = .ok (.iload 6, 2) := by decide +kernel
theorem dM_shutsLeast_82 : decode mM_shutsLeast.2.1 82 = .ok (.iaload, 1) := by decide +kernel
theorem dM_shutsLeast_83 : decode mM_shutsLeast.2.1 83 = .ok (.istore 7, 2) := by decide +kernel
theorem dM_shutsLeast_85 : decode mM_shutsLeast.2.1 85 = .ok (.aload_n 0, 1) := by decide +kernel
theorem dM_shutsLeast_86 : decode mM_shutsLeast.2.1 86 = .ok (.getfield 31, 3) := by decide +kernel
theorem dM_shutsLeast_89 : decode mM_shutsLeast.2.1 89 = .ok (.iload 7, 2) := by decide +kernel
theorem dM_shutsLeast_91 : decode mM_shutsLeast.2.1 91 = .ok (.iaload, 1) := by decide +kernel
theorem dM_shutsLeast_92 : decode mM_shutsLeast.2.1 92 = .ok (.iload 4, 2) := by decide +kernel
theorem dM_shutsLeast_94 : decode mM_shutsLeast.2.1 94 = .ok (.if_icmp .eq 6, 3) := by decide +kernel
theorem dM_shutsLeast_97 : decode mM_shutsLeast.2.1 97 = .ok (.goto 156, 3) := by decide +kernel
theorem dM_shutsLeast_100 : decode mM_shutsLeast.2.1 100 = .ok (.iconst 0, 1) := by decide +kernel
theorem dM_shutsLeast_101 : decode mM_shutsLeast.2.1 101 = .ok (.istore 8, 2) := by decide +kernel
theorem dM_shutsLeast_103 : decode mM_shutsLeast.2.1 103 = .ok (.iload 8, 2) := by decide +kernel
theorem dM_shutsLeast_105 : decode mM_shutsLeast.2.1 105 = .ok (.aload_n 0, 1) := by decide +kernel
theorem dM_shutsLeast_106 : decode mM_shutsLeast.2.1 106 = .ok (.invokevirtual 336, 3) := by decide +kernel
theorem dM_shutsLeast_109 : decode mM_shutsLeast.2.1 109 = .ok (.if_icmp .ge 144, 3) := by decide +kernel
theorem dM_shutsLeast_112 : decode mM_shutsLeast.2.1 112 = .ok (.aload_n 0, 1) := by decide +kernel
theorem dM_shutsLeast_113 : decode mM_shutsLeast.2.1 113 = .ok (.iload 7, 2) := by decide +kernel
theorem dM_shutsLeast_115 : decode mM_shutsLeast.2.1 115 = .ok (.invokevirtual 339, 3) := by decide +kernel
theorem dM_shutsLeast_118 : decode mM_shutsLeast.2.1 118 = .ok (.aload_n 0, 1) := by decide +kernel
theorem dM_shutsLeast_119 : decode mM_shutsLeast.2.1 119 = .ok (.iload 8, 2) := by decide +kernel
theorem dM_shutsLeast_121 : decode mM_shutsLeast.2.1 121 = .ok (.invokevirtual 342, 3) := by decide +kernel
theorem dM_shutsLeast_124 : decode mM_shutsLeast.2.1 124 = .ok (.ifCond .ne 6, 3) := by decide +kernel
theorem dM_shutsLeast_127 : decode mM_shutsLeast.2.1 127 = .ok (.goto 120, 3) := by decide +kernel
theorem dM_shutsLeast_130 : decode mM_shutsLeast.2.1 130 = .ok (.aload_n 0, 1) := by decide +kernel
theorem dM_shutsLeast_131 : decode mM_shutsLeast.2.1 131 = .ok (.iload 8, 2) := by decide +kernel
theorem dM_shutsLeast_133 : decode mM_shutsLeast.2.1 133 = .ok (.invokevirtual 345, 3) := by decide +kernel
theorem dM_shutsLeast_136 : decode mM_shutsLeast.2.1 136 = .ok (.istore 9, 2) := by decide +kernel
theorem dM_shutsLeast_138 : decode mM_shutsLeast.2.1 138 = .ok (.aload_n 0, 1) := by decide +kernel
theorem dM_shutsLeast_139 : decode mM_shutsLeast.2.1 139 = .ok (.invokevirtual 330, 3) := by decide +kernel
theorem dM_shutsLeast_142 : decode mM_shutsLeast.2.1 142 = .ok (.istore 10, 2) := by decide +kernel
theorem dM_shutsLeast_144 : decode mM_shutsLeast.2.1 144 = .ok (.aload_n 0, 1) := by decide +kernel
theorem dM_shutsLeast_145 : decode mM_shutsLeast.2.1 145 = .ok (.getfield 31, 3) := by decide +kernel
theorem dM_shutsLeast_148 : decode mM_shutsLeast.2.1 148 = .ok (.iload 10, 2) := by decide +kernel
theorem dM_shutsLeast_150 : decode mM_shutsLeast.2.1 150 = .ok (.iaload, 1) := by decide +kernel
theorem dM_shutsLeast_151 : decode mM_shutsLeast.2.1 151 = .ok (.iload 4, 2) := by decide +kernel
theorem dM_shutsLeast_153 : decode mM_shutsLeast.2.1 153 = .ok (.iload 9, 2) := by decide +kernel
theorem dM_shutsLeast_155 : decode mM_shutsLeast.2.1 155 = .ok (.ifCond .eq 7, 3) := by decide +kernel
theorem dM_shutsLeast_158 : decode mM_shutsLeast.2.1 158 = .ok (.iconst 1, 1) := by decide +kernel
theorem dM_shutsLeast_159 : decode mM_shutsLeast.2.1 159 = .ok (.goto 4, 3) := by decide +kernel
theorem dM_shutsLeast_162 : decode mM_shutsLeast.2.1 162 = .ok (.iconst 0, 1) := by decide +kernel
theorem dM_shutsLeast_163 : decode mM_shutsLeast.2.1 163 = .ok (.iadd, 1) := by decide +kernel
theorem dM_shutsLeast_164 : decode mM_shutsLeast.2.1 164 = .ok (.if_icmp .gt 6, 3) := by decide +kernel
theorem dM_shutsLeast_167 : decode mM_shutsLeast.2.1 167 = .ok (.goto 80, 3) := by decide +kernel
theorem dM_shutsLeast_170 : decode mM_shutsLeast.2.1 170 = .ok (.aload_n 0, 1) := by decide +kernel
theorem dM_shutsLeast_171 : decode mM_shutsLeast.2.1 171 = .ok (.getfield 31, 3) := by decide +kernel
theorem dM_shutsLeast_174 : decode mM_shutsLeast.2.1 174 = .ok (.iload 10, 2) := by decide +kernel
theorem dM_shutsLeast_176 : decode mM_shutsLeast.2.1 176 = .ok (.iaload, 1) := by decide +kernel
theorem dM_shutsLeast_177 : decode mM_shutsLeast.2.1 177 = .ok (.iload 4, 2) := by decide +kernel
theorem dM_shutsLeast_179 : decode mM_shutsLeast.2.1 179 = .ok (.iconst 1, 1) := by decide +kernel
theorem dM_shutsLeast_180 : decode mM_shutsLeast.2.1 180 = .ok (.iadd, 1) := by decide +kernel
theorem dM_shutsLeast_181 : decode mM_shutsLeast.2.1 181 = .ok (.if_icmp .ne 7, 3) := by decide +kernel
theorem dM_shutsLeast_184 : decode mM_shutsLeast.2.1 184 = .ok (.iconst 1, 1) := by decide +kernel
theorem dM_shutsLeast_185 : decode mM_shutsLeast.2.1 185 = .ok (.goto 4, 3) := by decide +kernel
theorem dM_shutsLeast_188 : decode mM_shutsLeast.2.1 188 = .ok (.iconst 0, 1) := by decide +kernel
theorem dM_shutsLeast_189 : decode mM_shutsLeast.2.1 189 = .ok (.istore 11, 2) := by decide +kernel
theorem dM_shutsLeast_191 : decode mM_shutsLeast.2.1 191 = .ok (.aload_n 0, 1) := by decide +kernel
theorem dM_shutsLeast_192 : decode mM_shutsLeast.2.1 192 = .ok (.getfield 31, 3) := by decide +kernel
theorem dM_shutsLeast_195 : decode mM_shutsLeast.2.1 195 = .ok (.iload 10, 2) := by decide +kernel
theorem dM_shutsLeast_197 : decode mM_shutsLeast.2.1 197 = .ok (.iload 4, 2) := by decide +kernel
theorem dM_shutsLeast_199 : decode mM_shutsLeast.2.1 199 = .ok (.iload 9, 2) := by decide +kernel
theorem dM_shutsLeast_201 : decode mM_shutsLeast.2.1 201 = .ok (.ifCond .eq 7, 3) := by decide +kernel
theorem dM_shutsLeast_204 : decode mM_shutsLeast.2.1 204 = .ok (.iconst 1, 1) := by decide +kernel
theorem dM_shutsLeast_205 : decode mM_shutsLeast.2.1 205 = .ok (.goto 4, 3) := by decide +kernel
theorem dM_shutsLeast_208 : decode mM_shutsLeast.2.1 208 = .ok (.iconst 0, 1) := by decide +kernel
theorem dM_shutsLeast_209 : decode mM_shutsLeast.2.1 209 = .ok (.iadd, 1) := by decide +kernel
theorem dM_shutsLeast_210 : decode mM_shutsLeast.2.1 210 = .ok (.iastore, 1) := by decide +kernel
theorem dM_shutsLeast_211 : decode mM_shutsLeast.2.1 211 = .ok (.iload 9, 2) := by decide +kernel
theorem dM_shutsLeast_213 : decode mM_shutsLeast.2.1 213 = .ok (.ifCond .ne 17, 3) := by decide +kernel
theorem dM_shutsLeast_216 : decode mM_shutsLeast.2.1 216 = .ok (.aload_n 0, 1) := by decide +kernel
theorem dM_shutsLeast_217 : decode mM_shutsLeast.2.1 217 = .ok (.getfield 37, 3) := by decide +kernel
theorem dM_shutsLeast_220 : decode mM_shutsLeast.2.1 220 = .ok (.iload_n 3, 1) := by decide +kernel
theorem dM_shutsLeast_221 : decode mM_shutsLeast.2.1 221 = .ok (.iload 10, 2) := by decide +kernel
theorem dM_shutsLeast_223 : decode mM_shutsLeast.2.1 223 = .ok (.iastore, 1) := by decide +kernel
theorem dM_shutsLeast_224 : decode mM_shutsLeast.2.1 224 = .ok (.iinc 3 1, 3) := by decide +kernel
theorem dM_shutsLeast_227 : decode mM_shutsLeast.2.1 227 = .ok (.goto 20, 3) := by decide +kernel
theorem dM_shutsLeast_230 : decode mM_shutsLeast.2.1 230 = .ok (.iload 11, 2) := by decide +kernel
theorem dM_shutsLeast_232 : decode mM_shutsLeast.2.1 232 = .ok (.ifCond .ne 15, 3) := by decide +kernel
theorem dM_shutsLeast_235 : decode mM_shutsLeast.2.1 235 = .ok (.aload_n 0, 1) := by decide +kernel
theorem dM_shutsLeast_236 : decode mM_shutsLeast.2.1 236 = .ok (.getfield 40, 3) := by decide +kernel
theorem dM_shutsLeast_239 : decode mM_shutsLeast.2.1 239 = .ok (.iload 5, 2) := by decide +kernel
theorem dM_shutsLeast_241 : decode mM_shutsLeast.2.1 241 = .ok (.iload 10, 2) := by decide +kernel
theorem dM_shutsLeast_243 : decode mM_shutsLeast.2.1 243 = .ok (.iastore, 1) := by decide +kernel
theorem dM_shutsLeast_244 : decode mM_shutsLeast.2.1 244 = .ok (.iinc 5 1, 3) := by decide +kernel
theorem dM_shutsLeast_247 : decode mM_shutsLeast.2.1 247 = .ok (.iinc 8 1, 3) := by decide +kernel
theorem dM_shutsLeast_250 : decode mM_shutsLeast.2.1 250 = .ok (.goto (-147), 3) := by decide +kernel
theorem dM_shutsLeast_253 : decode mM_shutsLeast.2.1 253 = .ok (.iinc 6 1, 3) := by decide +kernel
theorem dM_shutsLeast_256 : decode mM_shutsLeast.2.1 256 = .ok (.goto (-186), 3) := by decide +kernel
theorem dM_shutsLeast_259 : decode mM_shutsLeast.2.1 259 = .ok (.iconst 0, 1) := by decide +kernel
theorem dM_shutsLeast_260 : decode mM_shutsLeast.2.1 260 = .ok (.istore_n 3, 1) := by decide +kernel
theorem dM_shutsLeast_261 : decode mM_shutsLeast.2.1 261 = .ok (.iinc 4 1, 3) := by decide +kernel
theorem dM_shutsLeast_264 : decode mM_shutsLeast.2.1 264 = .ok (.iconst 0, 1) := by decide +kernel
theorem dM_shutsLeast_265 : decode mM_shutsLeast.2.1 265 = .ok (.istore 6, 2) := by decide +kernel
theorem dM_shutsLeast_267 : decode mM_shutsLeast.2.1 267 = .ok (.iload 6, 2) := by decide +kernel
theorem dM_shutsLeast_269 : decode mM_shutsLeast.2.1 269 = .ok (.iload 5, 2) := by decide +kernel
theorem dM_shutsLeast_271 : decode mM_shutsLeast.2.1 271 = .ok (.if_icmp .ge 45, 3) := by decide +kernel
theorem dM_shutsLeast_274 : decode mM_shutsLeast.2.1 274 = .ok (.aload_n 0, 1) := by decide +kernel
theorem dM_shutsLeast_275 : decode mM_shutsLeast.2.1 275 = .ok (.getfield 31, 3) := by decide +kernel
theorem dM_shutsLeast_278 : decode mM_shutsLeast.2.1 278 = .ok (.aload_n 0, 1) := by decide +kernel
theorem dM_shutsLeast_279 : decode mM_shutsLeast.2.1 279 = .ok (.getfield 40, 3) := by decide +kernel
theorem dM_shutsLeast_282 : decode mM_shutsLeast.2.1 282 = .ok (.iload 6, 2) := by decide +kernel
theorem dM_shutsLeast_284 : decode mM_shutsLeast.2.1 284 = .ok (.iaload, 1) := by decide +kernel
theorem dM_shutsLeast_285 : decode mM_shutsLeast.2.1 285 = .ok (.iaload, 1) := by decide +kernel
theorem dM_shutsLeast_286 : decode mM_shutsLeast.2.1 286 = .ok (.iload 4, 2) := by decide +kernel
theorem dM_shutsLeast_288 : decode mM_shutsLeast.2.1 288 = .ok (.if_icmp .eq 6, 3) := by decide +kernel
theorem dM_shutsLeast_291 : decode mM_shutsLeast.2.1 291 = .ok (.goto 19, 3) := by decide +kernel
theorem dM_shutsLeast_294 : decode mM_shutsLeast.2.1 294 = .ok (.aload_n 0, 1) := by decide +kernel
theorem dM_shutsLeast_295 : decode mM_shutsLeast.2.1 295 = .ok (.getfield 37, 3) := by decide +kernel
theorem dM_shutsLeast_298 : decode mM_shutsLeast.2.1 298 = .ok (.iload_n 3, 1) := by decide +kernel
theorem dM_shutsLeast_299 : decode mM_shutsLeast.2.1 299 = .ok (.aload_n 0, 1) := by decide +kernel
theorem dM_shutsLeast_300 : decode mM_shutsLeast.2.1 300 = .ok (.getfield 40, 3) := by decide +kernel
theorem dM_shutsLeast_303 : decode mM_shutsLeast.2.1 303 = .ok (.iload 6, 2) := by decide +kernel
theorem dM_shutsLeast_305 : decode mM_shutsLeast.2.1 305 = .ok (.iaload, 1) := by decide +kernel
theorem dM_shutsLeast_306 : decode mM_shutsLeast.2.1 306 = .ok (.iastore, 1) := by decide +kernel
theorem dM_shutsLeast_307 : decode mM_shutsLeast.2.1 307 = .ok (.iinc 3 1, 3) := by decide +kernel
theorem dM_shutsLeast_310 : decode mM_shutsLeast.2.1 310 = .ok (.iinc 6 1, 3) := by decide +kernel
theorem dM_shutsLeast_313 : decode mM_shutsLeast.2.1 313 = .ok (.goto (-46), 3) := by decide +kernel
theorem dM_shutsLeast_316 : decode mM_shutsLeast.2.1 316 = .ok (.goto (-256), 3) := by decide +kernel
theorem dM_shutsLeast_319 : decode mM_shutsLeast.2.1 319 = .ok (.return_, 1) := by decide +kernel
theorem dM_shuttings_0 : decode mM_shuttings.2.1 0 = .ok (.aload_n 0, 1) := by decide +kernel
theorem dM_shuttings_1 : decode mM_shuttings.2.1 1 = .ok (.iconst 0, 1) := by decide +kernel
theorem dM_shuttings_2 : decode mM_shuttings.2.1 2 = .ok (.putfield 46, 3) := by decide +kernel
theorem dM_shuttings_5 : decode mM_shuttings.2.1 5 = .ok (.aload_n 0, 1) := by decide +kernel
theorem dM_shuttings_6 : decode mM_shuttings.2.1 6 = .ok (.iload_n 1, 1) := by decide +kernel
theorem dM_shuttings_7 : decode mM_shuttings.2.1 7 = .ok (.invokevirtual 379, 3) := by decide +kernel
theorem dM_shuttings_10 : decode mM_shuttings.2.1 10 = .ok (.istore_n 2, 1) := by decide +kernel
theorem dM_shuttings_11 : decode mM_shuttings.2.1 11 = .ok (.iload_n 2, 1) := by decide +kernel
theorem dM_shuttings_12 : decode mM_shuttings.2.1 12 = .ok (.ifCond .le 9, 3) := by decide +kernel
theorem dM_shuttings_15 : decode mM_shuttings.2.1 15 = .ok (.aload_n 0, 1) := by decide +kernel
theorem dM_shuttings_16 : decode mM_shuttings.2.1 16 = .ok (.iload_n 2, 1) := by decide +kernel
theorem dM_shuttings_17 : decode mM_shuttings.2.1 17 = .ok (.invokevirtual 52, 3) := by decide +kernel
theorem dM_shuttings_20 : decode mM_shuttings.2.1 20 = .ok (.ireturn, 1) := by decide +kernel
theorem dM_shuttings_21 : decode mM_shuttings.2.1 21 = .ok (.aload_n 0, 1) := by decide +kernel
theorem dM_shuttings_22 : decode mM_shuttings.2.1 22 = .ok (.invokevirtual 385, 3) := by decide +kernel
theorem dM_shuttings_25 : decode mM_shuttings.2.1 25 = .ok (.ldc_w 329, 3) := by decide +kernel
theorem dM_shuttings_28 : decode mM_shuttings.2.1 28 = .ok (.istore_n 3, 1) := by decide +kernel
theorem dM_shuttings_29 : decode mM_shuttings.2.1 29 = .ok (.aload_n 0, 1) := by decide +kernel
theorem dM_shuttings_30 : decode mM_shuttings.2.1 30 = .ok (.invokevirtual 326, 3) := by decide +kernel
theorem dM_shuttings_33 : decode mM_shuttings.2.1 33 = .ok (.iconst 1, 1) := by decide +kernel
theorem dM_shuttings_34 : decode mM_shuttings.2.1 34 = .ok (.isub, 1) := by decide +kernel
theorem dM_shuttings_35 : decode mM_shuttings.2.1 35 = .ok (.istore 4, 2) := by decide +kernel
theorem dM_shuttings_37 : decode mM_shuttings.2.1 37 = .ok (.iload 4, 2) := by decide +kernel
theorem dM_shuttings_39 : decode mM_shuttings.2.1 39 = .ok (.ifCond .lt 45, 3) := by decide +kernel
theorem dM_shuttings_42 : decode mM_shuttings.2.1 42 = .ok (.aload_n 0, 1) := by decide +kernel
theorem dM_shuttings_43 : decode mM_shuttings.2.1 43 = .ok (.getfield 31, 3) := by decide +kernel
theorem dM_shuttings_46 : decode mM_shuttings.2.1 46 = .ok (.iload 4, 2) := by decide +kernel
theorem dM_shuttings_48 : decode mM_shuttings.2.1 48 = .ok (.iaload, 1) := by decide +kernel
theorem dM_shuttings_49 : decode mM_shuttings.2.1 49 = .ok (.iload_n 3, 1) := by decide +kernel
theorem dM_shuttings_50 : decode mM_shuttings.2.1 50 = .ok (.if_icmp .lt 6, 3) := by decide +kernel
theorem dM_shuttings_53 : decode mM_shuttings.2.1 53 = .ok (.goto 25, 3) := by decide +kernel
theorem dM_shuttings_56 : decode mM_shuttings.2.1 56 = .ok (.aload_n 0, 1) := by decide +kernel
theorem dM_shuttings_57 : decode mM_shuttings.2.1 57 = .ok (.iload 4, 2) := by decide +kernel
theorem dM_shuttings_59 : decode mM_shuttings.2.1 59 = .ok (.invokevirtual 339, 3) := by decide +kernel
theorem dM_shuttings_62 : decode mM_shuttings.2.1 62 = .ok (.aload_n 0, 1) := by decide +kernel
theorem dM_shuttings_63 : decode mM_shuttings.2.1 63 = .ok (.iload_n 1, 1) := by decide +kernel
theorem dM_shuttings_64 : decode mM_shuttings.2.1 64 = .ok (.invokevirtual 376, 3) := by decide +kernel
theorem dM_shuttings_67 : decode mM_shuttings.2.1 67 = .ok (.ifCond .eq 11, 3) := by decide +kernel
theorem dM_shuttings_70 : decode mM_shuttings.2.1 70 = .ok (.aload_n 0, 1) := by decide +kernel
theorem dM_shuttings_71 : decode mM_shuttings.2.1 71 = .ok (.getfield 31, 3) := by decide +kernel
theorem dM_shuttings_74 : decode mM_shuttings.2.1 74 = .ok (.iload 4, 2) := by decide +kernel
theorem dM_shuttings_76 : decode mM_shuttings.2.1 76 = .ok (.iaload, 1) := by decide +kernel
theorem dM_shuttings_77 : decode mM_shuttings.2.1 77 = .ok (.istore_n 3, 1) := by decide +kernel
theorem dM_shuttings_78 : decode mM_shuttings.2.1 78 = .ok (.iinc 4 (-1), 3) := by decide +kernel
theorem dM_shuttings_81 : decode mM_shuttings.2.1 81 = .ok (.goto (-44), 3) := by decide +kernel
theorem dM_shuttings_84 : decode mM_shuttings.2.1 84 = .ok (.aload_n 0, 1) := by decide +kernel
theorem dM_shuttings_85 : decode mM_shuttings.2.1 85 = .ok (.iload_n 3, 1) := by decide +kernel
theorem dM_shuttings_86 : decode mM_shuttings.2.1 86 = .ok (.ldc_w 329, 3) := by decide +kernel
theorem dM_shuttings_89 : decode mM_shuttings.2.1 89 = .ok (.if_icmp .ne 8, 3) := by decide +kernel
theorem dM_shuttings_92 : decode mM_shuttings.2.1 92 = .ok (.bipush (-2), 2) := by decide +kernel
theorem dM_shuttings_94 : decode mM_shuttings.2.1 94 = .ok (.goto 4, 3) := by decide +kernel
theorem dM_shuttings_97 : decode mM_shuttings.2.1 97 = .ok (.iload_n 3, 1) := by decide +kernel
theorem dM_shuttings_98 : decode mM_shuttings.2.1 98 = .ok (.invokevirtual 56, 3) := by decide +kernel
theorem dM_shuttings_101 : decode mM_shuttings.2.1 101 = .ok (.ireturn, 1) := by decide +kernel
section Mod38
variable {G : GE} {V V' V1 V2 : Nat → Nat → Int} {σ : Shp} {K : Option AV → Mem → Prop} {l : Nat} {c : Cfg} {n : Nat} {S : PS}
theorem fl_one {f : Nat → Nat} {k m : Nat} {L : List Nat} (h : f m = k) : (L ++ [m]).filter (fun m => f m == k) = L.filter (fun m => f m == k) ++ [m] := by
  rw [List.filter_append, List.filter_cons_of_pos (by rw [h]; exact beq_self_eq_true k)]; rfl
theorem fl_no {f : Nat → Nat} {k m : Nat} {L : List Nat} (h : f m ≠ k) : (L ++ [m]).filter (fun m => f m == k) = L.filter (fun m => f m == k) := by
  rw [List.filter_append, List.filter_cons_of_neg (p := fun m => f m == k) (a := m) (fun q => h (beq_iff_eq.mp q))]; exact List.append_nil _
theorem tk_s {L : List Nat} {i m : Nat} (h : L[i]? = some m) : L.take (i + 1) = L.take i ++ [m] := by
  rw [List.take_succ, h]; rfl
theorem wM_shutsLeast (h : MW V σ l S) (hd : 0 < tDn (psT S)) (hK : ∀ V' m f, MF V V' → V' 53 26 = 0 → AR (V' 56) (psC S) m → FF (psC S) (psA S) f → (∀ m, m < spc (psC S) → V' 59 (mnN (psC S) m) = f m) → K none (V', σ)) : Wp G 3 mM_shutsLeast [vR 53] (V, σ) 0 0 K := by
  have hM := h.mo
  have hl := h.la hd
  have h64 := h.h64 hd
  have hc := h.hc
  have hn := h.hn hd
  have hLC := h.lc hd
  have hAS : ∀ V2 : Nat → Nat → Int, (∀ k, k < 12 → V2 56 k = V 55 k) → AR (V2 56) (psC S) (psA S) := fun V2 g => AR.now h hd g
  generalize psC S = c at hc hn hLC hAS hK
  generalize psA S = n0 at hn hAS hK
  have hsp := spc_le hc
  have hst : stN c ≤ 16 := stN_le hc
  have hmn0 := mnN_lt hn
  refine wp_intro mM_shutsLeast_i.1 [some (vR 53), none, none, none, none, none, none, none, none, none, none, none] rfl rfl (Nat.le_of_ble_eq_true rfl) ?_
  intro X hG F C
  have hm := C.rm
  -- one step more of one arrangement
  have steps : ∀ (k a w : Nat) (y2 y6 : Int), k ≤ spc c → y6 = a → w < spc c → (∀ (V1 : Nat → Nat → Int) (f : Nat → Nat) (Qs Os : List Nat) (m1 : Nat) (y3 y4 y5 y7 : Int) (u8 u9 u10 u11 : Option AV), MF V V1 → V1 53 26 = 0 → AR (V1 56) c m1 → LI c n0 k f Qs Os → RR V1 c f Qs Os → PRc c k f Qs a (stN c) → Qs[a]? = some w → y3 = Qs.length → y4 = k → y5 = Os.length → AW X 253 [some (vR 53), some (vI (spc c)), some (vI y2), some (vI y3), some (vI y4), some (vI y5), some (vI y6), some (vI y7), u8, u9, u10, u11] [] (V1, σ) 0 0) → ∀ (j s : Nat), s + j = stN c → ∀ (V1 : Nat → Nat → Int) (f : Nat → Nat) (Qs Os : List Nat) (m1 : Nat) (y3 y4 y5 y7 y8 : Int) (u9 u10 u11 : Option AV), MF V V1 → V1 53 26 = 0 → AR (V1 56) c m1 → LI c n0 k f Qs Os → RR V1 c f Qs Os → PRc c k f Qs a s → Qs[a]? = some w → y3 = Qs.length → y4 = k → y5 = Os.length → y7 = mnN c w → y8 = s → AW X 103 [some (vR 53), some (vI (spc c)), some (vI y2), some (vI y3), some (vI y4), some (vI y5), some (vI y6), some (vI y7), some (vI y8), u9, u10, u11] [] (V1, σ) 0 0 := by
    intro k a w y2 y6 hk h6 hw hE j
    induction j with
    | zero =>
      intro s hs V1 f Qs Os m1 y3 y4 y5 y7 y8 u9 u10 u11 hF h26 hA hI hR hP hQ h3 h4 h5 h7 h8
      rw [show s = stN c by omega] at hP
      refine aw_iload_8 (q := 105) F dM_shutsLeast_103 rfl ?_
      refine aw_aload_0 (q := 106) F dM_shutsLeast_105 rfl ?_
      refine av_callV0 (q := 109) (ci := 9) F hm mM_stepsMany_i mM_stepsMany_n lM_336 dM_shutsLeast_106 rfl rfl rfl (by first | exact hM.o | exact hl.o | exact hM.a55 | exact hM.a56 | exact hM.a59 | exact hM.a60 | exact hM.a61 | exact hM.a62) (by decide) (Nat.le_refl _) (Nat.le_refl _) (Nat.le_of_ble_eq_true rfl) (wM_stepsMany hM hl (hF.lc h64 hLC) hc ?_)
      refine aw_icmp_ge (q := 112) (t := 253) F dM_shutsLeast_109 rfl (by decide) (fun c109 => ?_) (fun c109 => by omega)
      exact hE V1 f Qs Os m1 _ _ _ _ _ _ _ _ hF h26 hA hI hR hP hQ h3 h4 h5
    | succ j ih =>
      intro s hs V1 f Qs Os m1 y3 y4 y5 y7 y8 u9 u10 u11 hF h26 hA hI hR hP hQ h3 h4 h5 h7 h8
      have hC1 := hF.lc h64 hLC
      have hal := (List.getElem?_eq_some_iff.mp hQ).1
      have hwS : SCt c n0 k w := by
        have := (hI.2.2.1 w).mp (List.mem_of_getElem? hQ)
        have h9 := (hI.1 w this.1 (by omega)).2
        rw [this.2] at h9
        exact h9
      have hlQ := hI.lenQ
      have hlO := hI.lenO
      -- the arrangement come to
      have step : mayN c w (allP c) s = true → ∀ (V3 : Nat → Nat → Int), XF V1 V3 → AR (V3 56) c (aftN c w s) → ∀ (y9 : Int), y9 = sh1 c s → ∀ (y7 : Int) (u11 : Option AV), y7 = mnN c w → AW X 144 [some (vR 53), some (vI (spc c)), some (vI y2), some (vI y3), some (vI y4), some (vI y5), some (vI y6), some (vI y7), some (vI y8), some (vI y9), some (vI (mnN c (aftN c w s))), u11] [] (V3, σ) 0 0 := by
        intro hma V3 hX hA3 y9 h9 y7 u11 h7
        have haft : aftN c w s < spc c := aft_lt hw (by omega) hma
        have hmna := mnN_lt haft
        have hS1 := hwS.s (show s < stN c by omega) hma
        have hR3 := hR.xf hX
        have e59 : V3 59 (mnN c (aftN c w s)) = f (aftN c w s) := hR3.1 _ haft
        have hsh : sh1 c s ≤ 1 := by unfold sh1; split <;> omega
        have hF3 := hF.xf hX
        have h263 : V3 53 26 = 0 := by rw [hX 53 (by decide)]; exact h26
        have hfar : k + 1 < f (aftN c w s) → f (aftN c w s) = 999999 := fun q => Classical.byContradiction fun z => by have := (hI.1 _ haft z).1; omega
        have hnone : f (aftN c w s) ≤ k + sh1 c s → ∀ (u11 : Option AV) (y8' : Int), y8' = y8 + 1 → AW X 103 [some (vR 53), some (vI (spc c)), some (vI y2), some (vI y3), some (vI y4), some (vI y5), some (vI y6), some (vI y7), some (vI y8'), some (vI y9), some (vI (mnN c (aftN c w s))), u11] [] (V3, σ) 0 0 := fun q u11 y8' hy =>
          ih (s + 1) (by omega) V3 f Qs Os _ _ _ _ _ _ _ _ _ hF3 h263 hA3 hI hR3 (hP.no hQ (fun _ => q)) hQ h3 h4 h5 h7 (by omega)
        have hfree : sh1 c s = 0 → k < f (aftN c w s) → Qs.length < spc c ∧ ∀ (u11 : Option AV) (v8 : Int), v8 = y8 + 1 → AW X 103 [some (vR 53), some (vI (spc c)), some (vI y2), some (vI (y3 + 1)), some (vI y4), some (vI y5), some (vI y6), some (vI y7), some (vI v8), some (vI y9), some (vI (mnN c (aftN c w s))), u11] [] (up2 (up2 V3 59 (mnN c (aftN c w s)) (k : Nat)) 61 Qs.length (mnN c (aftN c w s)), σ) 0 0 := fun q1 q2 => by
          rw [q1, Nat.add_zero] at hS1
          have hI2 := hI.free haft q2 hS1
          have hl2 := hI2.lenQ
          rw [List.length_append, List.length_singleton] at hl2
          refine ⟨by omega, fun u11 v8 hv8 => ih (s + 1) (by omega) _ (updN f (aftN c w s) k) (Qs ++ [aftN c w s]) Os _ _ _ _ _ _ _ _ _ ((hF3.up rfl).up rfl) (by rw [up2_nea _ _ (by decide), up2_nea _ _ (by decide)]; exact h263) (by rw [up2_nea _ _ (by decide), up2_nea _ _ (by decide)]; exact hA3) hI2 (hR3.far haft).qu (hP.up hal ⟨_, rfl⟩ (by omega) hQ (by omega) (fun _ => by rw [updN_at]; omega)) (by rw [List.getElem?_append_left hal]; exact hQ) (by rw [List.length_append, List.length_singleton]; omega) h4 h5 h7 (by omega)⟩
        have hshut : sh1 c s = 1 → k + 1 < f (aftN c w s) → Os.length < spc c ∧ ∀ (u11 : Option AV) (v8 : Int), v8 = y8 + 1 → AW X 103 [some (vR 53), some (vI (spc c)), some (vI y2), some (vI y3), some (vI y4), some (vI (y5 + 1)), some (vI y6), some (vI y7), some (vI v8), some (vI y9), some (vI (mnN c (aftN c w s))), u11] [] (up2 (up2 V3 59 (mnN c (aftN c w s)) (k + 1 : Nat)) 62 Os.length (mnN c (aftN c w s)), σ) 0 0 := fun q1 q2 => by
          rw [q1] at hS1
          have hI2 := hI.shut haft q2 hS1
          have hl2 := hI2.lenO
          rw [List.length_append, List.length_singleton] at hl2
          refine ⟨by omega, fun u11 v8 hv8 => ih (s + 1) (by omega) _ (updN f (aftN c w s) (k + 1)) Qs (Os ++ [aftN c w s]) _ _ _ _ _ _ _ _ _ ((hF3.up rfl).up rfl) (by rw [up2_nea _ _ (by decide), up2_nea _ _ (by decide)]; exact h263) (by rw [up2_nea _ _ (by decide), up2_nea _ _ (by decide)]; exact hA3) hI2 (hR3.far haft).ot (hP.up hal ⟨[], (List.append_nil _).symm⟩ (by omega) hQ (by omega) (fun _ => by rw [updN_at]; omega)) hQ h3 h4 (by rw [List.length_append, List.length_singleton]; omega) h7 (by omega)⟩
        clear ih hE hI hR hP hR3 hwS hS1
        generalize f (aftN c w s) = fv at *
        generalize sh1 c s = sv at *
        refine aw_aload_0 (q := 145) F dM_shutsLeast_144 rfl ?_
        refine av_getaE (q := 148) F fM_31 dM_shutsLeast_145 rfl rfl (by first | exact hM.o | exact hl.o | exact hM.a55 | exact hM.a56 | exact hM.a59 | exact hM.a60 | exact hM.a61 | exact hM.a62) hM.p21 ?_
        refine aw_iload_10 (q := 150) F dM_shutsLeast_148 rfl ?_
        refine av_iaload (q := 151) F dM_shutsLeast_150 rfl (by first | exact hM.o | exact hl.o | exact hM.a55 | exact hM.a56 | exact hM.a59 | exact hM.a60 | exact hM.a61 | exact hM.a62) (by omega) (by omega) ?_
        rw [Int.toNat_natCast, e59]
        refine aw_iload_4 (q := 153) F dM_shutsLeast_151 rfl ?_
        refine aw_iload_9 (q := 155) F dM_shutsLeast_153 rfl ?_
        refine aw_if_eq (q := 158) (t := 162) F dM_shutsLeast_155 rfl (by decide) (fun c155 => ?_) (fun c155 => ?_)
        · refine aw_iconst (q := 163) F dM_shutsLeast_162 rfl (by decide) ?_
          refine aw_iadd (q := 164) F dM_shutsLeast_163 rfl (by constructor <;> omega) ?_
          refine aw_icmp_gt (q := 167) (t := 170) F dM_shutsLeast_164 rfl (by decide) (fun c164 => ?_) (fun c164 => ?_)
          · refine aw_aload_0 (q := 171) F dM_shutsLeast_170 rfl ?_
            refine av_getaE (q := 174) F fM_31 dM_shutsLeast_171 rfl rfl (by first | exact hM.o | exact hl.o | exact hM.a55 | exact hM.a56 | exact hM.a59 | exact hM.a60 | exact hM.a61 | exact hM.a62) hM.p21 ?_
            refine aw_iload_10 (q := 176) F dM_shutsLeast_174 rfl ?_
            refine av_iaload (q := 177) F dM_shutsLeast_176 rfl (by first | exact hM.o | exact hl.o | exact hM.a55 | exact hM.a56 | exact hM.a59 | exact hM.a60 | exact hM.a61 | exact hM.a62) (by omega) (by omega) ?_
            rw [Int.toNat_natCast, e59]
            refine aw_iload_4 (q := 179) F dM_shutsLeast_177 rfl ?_
            refine aw_iconst (q := 180) F dM_shutsLeast_179 rfl (by decide) ?_
            refine aw_iadd (q := 181) F dM_shutsLeast_180 rfl (by constructor <;> omega) ?_
            refine aw_icmp_ne (q := 184) (t := 188) F dM_shutsLeast_181 rfl (by decide) (fun c181 => ?_) (fun c181 => ?_)
            · refine aw_iconst (q := 189) F dM_shutsLeast_188 rfl (by decide) ?_
              refine aw_istore_11 (q := 191) F dM_shutsLeast_189 rfl trivial ?_
              refine aw_aload_0 (q := 192) F dM_shutsLeast_191 rfl ?_
              refine av_getaE (q := 195) F fM_31 dM_shutsLeast_192 rfl rfl (by first | exact hM.o | exact hl.o | exact hM.a55 | exact hM.a56 | exact hM.a59 | exact hM.a60 | exact hM.a61 | exact hM.a62) hM.p21 ?_
              refine aw_iload_10 (q := 197) F dM_shutsLeast_195 rfl ?_
              refine aw_iload_4 (q := 199) F dM_shutsLeast_197 rfl ?_
              refine aw_iload_9 (q := 201) F dM_shutsLeast_199 rfl ?_
              refine aw_if_eq (q := 204) (t := 208) F dM_shutsLeast_201 rfl (by decide) (fun c201 => ?_) (fun c201 => ?_)
              · refine aw_iconst (q := 209) F dM_shutsLeast_208 rfl (by decide) ?_
                refine aw_iadd (q := 210) F dM_shutsLeast_209 rfl (by constructor <;> omega) ?_
                refine av_iastore (q := 211) F dM_shutsLeast_210 rfl (by first | exact hM.o | exact hl.o | exact hM.a55 | exact hM.a56 | exact hM.a59 | exact hM.a60 | exact hM.a61 | exact hM.a62) (by omega) (by omega) ?_
                refine aw_iload_9 (q := 213) F dM_shutsLeast_211 rfl ?_
                refine aw_if_ne (q := 216) (t := 230) F dM_shutsLeast_213 rfl (by decide) (fun c213 => ?_) (fun c213 => ?_)
                · refine aw_iload_11 (q := 232) F dM_shutsLeast_230 rfl ?_
                  refine aw_if_ne (q := 235) (t := 247) F dM_shutsLeast_232 rfl (by decide) (fun c232 => absurd c232 (by decide)) (fun c232 => ?_)
                  have hq := hshut (by omega) (by omega)
                  refine aw_aload_0 (q := 236) F dM_shutsLeast_235 rfl ?_
                  refine av_getaE (q := 239) F fM_40 dM_shutsLeast_236 rfl rfl (by first | exact hM.o | exact hl.o | exact hM.a55 | exact hM.a56 | exact hM.a59 | exact hM.a60 | exact hM.a61 | exact hM.a62) hM.p24 ?_
                  refine aw_iload_5 (q := 241) F dM_shutsLeast_239 rfl ?_
                  refine aw_iload_10 (q := 243) F dM_shutsLeast_241 rfl ?_
                  refine av_iastore (q := 244) F dM_shutsLeast_243 rfl (by first | exact hM.o | exact hl.o | exact hM.a55 | exact hM.a56 | exact hM.a59 | exact hM.a60 | exact hM.a61 | exact hM.a62) (by omega) (by omega) ?_
                  refine aw_iinc_5 (q := 247) F dM_shutsLeast_244 rfl trivial (by constructor <;> omega) ?_
                  refine aw_iinc_8 (q := 250) F dM_shutsLeast_247 rfl trivial (by constructor <;> omega) ?_
                  refine aw_goto (t := 103) F dM_shutsLeast_250 (by decide) ?_
                  first
                  | exact hnone (by omega) _ _ rfl
                  | (rw [Int.toNat_natCast, show y3.toNat = Qs.length by omega, show y4 + 0 = (k : Nat) by omega]; exact hq.2 _ _ rfl)
                  | (rw [Int.toNat_natCast, show y5.toNat = Os.length by omega, show y4 + 1 = (k + 1 : Nat) by omega]; exact hq.2 _ _ rfl)
                  | (exfalso; have := hfar (by omega); omega)
                  | (exfalso; omega)
                · have hq := hfree (by omega) (by omega)
                  refine aw_aload_0 (q := 217) F dM_shutsLeast_216 rfl ?_
                  refine av_getaE (q := 220) F fM_37 dM_shutsLeast_217 rfl rfl (by first | exact hM.o | exact hl.o | exact hM.a55 | exact hM.a56 | exact hM.a59 | exact hM.a60 | exact hM.a61 | exact hM.a62) hM.p23 ?_
                  refine aw_iload_3 (q := 221) F dM_shutsLeast_220 rfl ?_
                  refine aw_iload_10 (q := 223) F dM_shutsLeast_221 rfl ?_
                  refine av_iastore (q := 224) F dM_shutsLeast_223 rfl (by first | exact hM.o | exact hl.o | exact hM.a55 | exact hM.a56 | exact hM.a59 | exact hM.a60 | exact hM.a61 | exact hM.a62) (by omega) (by omega) ?_
                  refine aw_iinc_3 (q := 227) F dM_shutsLeast_224 rfl trivial (by constructor <;> omega) ?_
                  refine aw_goto (t := 247) F dM_shutsLeast_227 (by decide) ?_
                  refine aw_iinc_8 (q := 250) F dM_shutsLeast_247 rfl trivial (by constructor <;> omega) ?_
                  refine aw_goto (t := 103) F dM_shutsLeast_250 (by decide) ?_
                  first
                  | exact hnone (by omega) _ _ rfl
                  | (rw [Int.toNat_natCast, show y3.toNat = Qs.length by omega, show y4 + 0 = (k : Nat) by omega]; exact hq.2 _ _ rfl)
                  | (rw [Int.toNat_natCast, show y5.toNat = Os.length by omega, show y4 + 1 = (k + 1 : Nat) by omega]; exact hq.2 _ _ rfl)
                  | (exfalso; have := hfar (by omega); omega)
                  | (exfalso; omega)
              · refine aw_iconst (q := 205) F dM_shutsLeast_204 rfl (by decide) ?_
                refine aw_goto (t := 209) F dM_shutsLeast_205 (by decide) ?_
                refine aw_iadd (q := 210) F dM_shutsLeast_209 rfl (by constructor <;> omega) ?_
                refine av_iastore (q := 211) F dM_shutsLeast_210 rfl (by first | exact hM.o | exact hl.o | exact hM.a55 | exact hM.a56 | exact hM.a59 | exact hM.a60 | exact hM.a61 | exact hM.a62) (by omega) (by omega) ?_
                refine aw_iload_9 (q := 213) F dM_shutsLeast_211 rfl ?_
                refine aw_if_ne (q := 216) (t := 230) F dM_shutsLeast_213 rfl (by decide) (fun c213 => ?_) (fun c213 => ?_)
                · refine aw_iload_11 (q := 232) F dM_shutsLeast_230 rfl ?_
                  refine aw_if_ne (q := 235) (t := 247) F dM_shutsLeast_232 rfl (by decide) (fun c232 => absurd c232 (by decide)) (fun c232 => ?_)
                  have hq := hshut (by omega) (by omega)
                  refine aw_aload_0 (q := 236) F dM_shutsLeast_235 rfl ?_
                  refine av_getaE (q := 239) F fM_40 dM_shutsLeast_236 rfl rfl (by first | exact hM.o | exact hl.o | exact hM.a55 | exact hM.a56 | exact hM.a59 | exact hM.a60 | exact hM.a61 | exact hM.a62) hM.p24 ?_
                  refine aw_iload_5 (q := 241) F dM_shutsLeast_239 rfl ?_
                  refine aw_iload_10 (q := 243) F dM_shutsLeast_241 rfl ?_
                  refine av_iastore (q := 244) F dM_shutsLeast_243 rfl (by first | exact hM.o | exact hl.o | exact hM.a55 | exact hM.a56 | exact hM.a59 | exact hM.a60 | exact hM.a61 | exact hM.a62) (by omega) (by omega) ?_
                  refine aw_iinc_5 (q := 247) F dM_shutsLeast_244 rfl trivial (by constructor <;> omega) ?_
                  refine aw_iinc_8 (q := 250) F dM_shutsLeast_247 rfl trivial (by constructor <;> omega) ?_
                  refine aw_goto (t := 103) F dM_shutsLeast_250 (by decide) ?_
                  first
                  | exact hnone (by omega) _ _ rfl
                  | (rw [Int.toNat_natCast, show y3.toNat = Qs.length by omega, show y4 + 0 = (k : Nat) by omega]; exact hq.2 _ _ rfl)
                  | (rw [Int.toNat_natCast, show y5.toNat = Os.length by omega, show y4 + 1 = (k + 1 : Nat) by omega]; exact hq.2 _ _ rfl)
                  | (exfalso; have := hfar (by omega); omega)
                  | (exfalso; omega)
                · have hq := hfree (by omega) (by omega)
                  refine aw_aload_0 (q := 217) F dM_shutsLeast_216 rfl ?_
                  refine av_getaE (q := 220) F fM_37 dM_shutsLeast_217 rfl rfl (by first | exact hM.o | exact hl.o | exact hM.a55 | exact hM.a56 | exact hM.a59 | exact hM.a60 | exact hM.a61 | exact hM.a62) hM.p23 ?_
                  refine aw_iload_3 (q := 221) F dM_shutsLeast_220 rfl ?_
                  refine aw_iload_10 (q := 223) F dM_shutsLeast_221 rfl ?_
                  refine av_iastore (q := 224) F dM_shutsLeast_223 rfl (by first | exact hM.o | exact hl.o | exact hM.a55 | exact hM.a56 | exact hM.a59 | exact hM.a60 | exact hM.a61 | exact hM.a62) (by omega) (by omega) ?_
                  refine aw_iinc_3 (q := 227) F dM_shutsLeast_224 rfl trivial (by constructor <;> omega) ?_
                  refine aw_goto (t := 247) F dM_shutsLeast_227 (by decide) ?_
                  refine aw_iinc_8 (q := 250) F dM_shutsLeast_247 rfl trivial (by constructor <;> omega) ?_
                  refine aw_goto (t := 103) F dM_shutsLeast_250 (by decide) ?_
                  first
                  | exact hnone (by omega) _ _ rfl
                  | (rw [Int.toNat_natCast, show y3.toNat = Qs.length by omega, show y4 + 0 = (k : Nat) by omega]; exact hq.2 _ _ rfl)
                  | (rw [Int.toNat_natCast, show y5.toNat = Os.length by omega, show y4 + 1 = (k + 1 : Nat) by omega]; exact hq.2 _ _ rfl)
                  | (exfalso; have := hfar (by omega); omega)
                  | (exfalso; omega)
            · refine aw_iconst (q := 185) F dM_shutsLeast_184 rfl (by decide) ?_
              refine aw_goto (t := 189) F dM_shutsLeast_185 (by decide) ?_
              refine aw_istore_11 (q := 191) F dM_shutsLeast_189 rfl trivial ?_
              refine aw_aload_0 (q := 192) F dM_shutsLeast_191 rfl ?_
              refine av_getaE (q := 195) F fM_31 dM_shutsLeast_192 rfl rfl (by first | exact hM.o | exact hl.o | exact hM.a55 | exact hM.a56 | exact hM.a59 | exact hM.a60 | exact hM.a61 | exact hM.a62) hM.p21 ?_
              refine aw_iload_10 (q := 197) F dM_shutsLeast_195 rfl ?_
              refine aw_iload_4 (q := 199) F dM_shutsLeast_197 rfl ?_
              refine aw_iload_9 (q := 201) F dM_shutsLeast_199 rfl ?_
              refine aw_if_eq (q := 204) (t := 208) F dM_shutsLeast_201 rfl (by decide) (fun c201 => ?_) (fun c201 => ?_)
              · refine aw_iconst (q := 209) F dM_shutsLeast_208 rfl (by decide) ?_
                refine aw_iadd (q := 210) F dM_shutsLeast_209 rfl (by constructor <;> omega) ?_
                refine av_iastore (q := 211) F dM_shutsLeast_210 rfl (by first | exact hM.o | exact hl.o | exact hM.a55 | exact hM.a56 | exact hM.a59 | exact hM.a60 | exact hM.a61 | exact hM.a62) (by omega) (by omega) ?_
                refine aw_iload_9 (q := 213) F dM_shutsLeast_211 rfl ?_
                refine aw_if_ne (q := 216) (t := 230) F dM_shutsLeast_213 rfl (by decide) (fun c213 => ?_) (fun c213 => ?_)
                · refine aw_iload_11 (q := 232) F dM_shutsLeast_230 rfl ?_
                  refine aw_if_ne (q := 235) (t := 247) F dM_shutsLeast_232 rfl (by decide) (fun c232 => ?_) (fun c232 => absurd c232 (by decide))
                  refine aw_iinc_8 (q := 250) F dM_shutsLeast_247 rfl trivial (by constructor <;> omega) ?_
                  refine aw_goto (t := 103) F dM_shutsLeast_250 (by decide) ?_
                  first
                  | exact hnone (by omega) _ _ rfl
                  | (rw [Int.toNat_natCast, show y3.toNat = Qs.length by omega, show y4 + 0 = (k : Nat) by omega]; exact hq.2 _ _ rfl)
                  | (rw [Int.toNat_natCast, show y5.toNat = Os.length by omega, show y4 + 1 = (k + 1 : Nat) by omega]; exact hq.2 _ _ rfl)
                  | (exfalso; have := hfar (by omega); omega)
                  | (exfalso; omega)
                · have hq := hfree (by omega) (by omega)
                  refine aw_aload_0 (q := 217) F dM_shutsLeast_216 rfl ?_
                  refine av_getaE (q := 220) F fM_37 dM_shutsLeast_217 rfl rfl (by first | exact hM.o | exact hl.o | exact hM.a55 | exact hM.a56 | exact hM.a59 | exact hM.a60 | exact hM.a61 | exact hM.a62) hM.p23 ?_
                  refine aw_iload_3 (q := 221) F dM_shutsLeast_220 rfl ?_
                  refine aw_iload_10 (q := 223) F dM_shutsLeast_221 rfl ?_
                  refine av_iastore (q := 224) F dM_shutsLeast_223 rfl (by first | exact hM.o | exact hl.o | exact hM.a55 | exact hM.a56 | exact hM.a59 | exact hM.a60 | exact hM.a61 | exact hM.a62) (by omega) (by omega) ?_
                  refine aw_iinc_3 (q := 227) F dM_shutsLeast_224 rfl trivial (by constructor <;> omega) ?_
                  refine aw_goto (t := 247) F dM_shutsLeast_227 (by decide) ?_
                  refine aw_iinc_8 (q := 250) F dM_shutsLeast_247 rfl trivial (by constructor <;> omega) ?_
                  refine aw_goto (t := 103) F dM_shutsLeast_250 (by decide) ?_
                  first
                  | exact hnone (by omega) _ _ rfl
                  | (rw [Int.toNat_natCast, show y3.toNat = Qs.length by omega, show y4 + 0 = (k : Nat) by omega]; exact hq.2 _ _ rfl)
                  | (rw [Int.toNat_natCast, show y5.toNat = Os.length by omega, show y4 + 1 = (k + 1 : Nat) by omega]; exact hq.2 _ _ rfl)
                  | (exfalso; have := hfar (by omega); omega)
                  | (exfalso; omega)
              · refine aw_iconst (q := 205) F dM_shutsLeast_204 rfl (by decide) ?_
                refine aw_goto (t := 209) F dM_shutsLeast_205 (by decide) ?_
                refine aw_iadd (q := 210) F dM_shutsLeast_209 rfl (by constructor <;> omega) ?_
                refine av_iastore (q := 211) F dM_shutsLeast_210 rfl (by first | exact hM.o | exact hl.o | exact hM.a55 | exact hM.a56 | exact hM.a59 | exact hM.a60 | exact hM.a61 | exact hM.a62) (by omega) (by omega) ?_
                refine aw_iload_9 (q := 213) F dM_shutsLeast_211 rfl ?_
                refine aw_if_ne (q := 216) (t := 230) F dM_shutsLeast_213 rfl (by decide) (fun c213 => ?_) (fun c213 => ?_)
                · refine aw_iload_11 (q := 232) F dM_shutsLeast_230 rfl ?_
                  refine aw_if_ne (q := 235) (t := 247) F dM_shutsLeast_232 rfl (by decide) (fun c232 => ?_) (fun c232 => absurd c232 (by decide))
                  refine aw_iinc_8 (q := 250) F dM_shutsLeast_247 rfl trivial (by constructor <;> omega) ?_
                  refine aw_goto (t := 103) F dM_shutsLeast_250 (by decide) ?_
                  first
                  | exact hnone (by omega) _ _ rfl
                  | (rw [Int.toNat_natCast, show y3.toNat = Qs.length by omega, show y4 + 0 = (k : Nat) by omega]; exact hq.2 _ _ rfl)
                  | (rw [Int.toNat_natCast, show y5.toNat = Os.length by omega, show y4 + 1 = (k + 1 : Nat) by omega]; exact hq.2 _ _ rfl)
                  | (exfalso; have := hfar (by omega); omega)
                  | (exfalso; omega)
                · have hq := hfree (by omega) (by omega)
                  refine aw_aload_0 (q := 217) F dM_shutsLeast_216 rfl ?_
                  refine av_getaE (q := 220) F fM_37 dM_shutsLeast_217 rfl rfl (by first | exact hM.o | exact hl.o | exact hM.a55 | exact hM.a56 | exact hM.a59 | exact hM.a60 | exact hM.a61 | exact hM.a62) hM.p23 ?_
                  refine aw_iload_3 (q := 221) F dM_shutsLeast_220 rfl ?_
                  refine aw_iload_10 (q := 223) F dM_shutsLeast_221 rfl ?_
                  refine av_iastore (q := 224) F dM_shutsLeast_223 rfl (by first | exact hM.o | exact hl.o | exact hM.a55 | exact hM.a56 | exact hM.a59 | exact hM.a60 | exact hM.a61 | exact hM.a62) (by omega) (by omega) ?_
                  refine aw_iinc_3 (q := 227) F dM_shutsLeast_224 rfl trivial (by constructor <;> omega) ?_
                  refine aw_goto (t := 247) F dM_shutsLeast_227 (by decide) ?_
                  refine aw_iinc_8 (q := 250) F dM_shutsLeast_247 rfl trivial (by constructor <;> omega) ?_
                  refine aw_goto (t := 103) F dM_shutsLeast_250 (by decide) ?_
                  first
                  | exact hnone (by omega) _ _ rfl
                  | (rw [Int.toNat_natCast, show y3.toNat = Qs.length by omega, show y4 + 0 = (k : Nat) by omega]; exact hq.2 _ _ rfl)
                  | (rw [Int.toNat_natCast, show y5.toNat = Os.length by omega, show y4 + 1 = (k + 1 : Nat) by omega]; exact hq.2 _ _ rfl)
                  | (exfalso; have := hfar (by omega); omega)
                  | (exfalso; omega)
          · refine aw_goto (t := 247) F dM_shutsLeast_167 (by decide) ?_
            refine aw_iinc_8 (q := 250) F dM_shutsLeast_247 rfl trivial (by constructor <;> omega) ?_
            refine aw_goto (t := 103) F dM_shutsLeast_250 (by decide) ?_
            first
            | exact hnone (by omega) _ _ rfl
            | (rw [Int.toNat_natCast, show y3.toNat = Qs.length by omega, show y4 + 0 = (k : Nat) by omega]; exact hq.2 _ _ rfl)
            | (rw [Int.toNat_natCast, show y5.toNat = Os.length by omega, show y4 + 1 = (k + 1 : Nat) by omega]; exact hq.2 _ _ rfl)
            | (exfalso; have := hfar (by omega); omega)
            | (exfalso; omega)
        · refine aw_iconst (q := 159) F dM_shutsLeast_158 rfl (by decide) ?_
          refine aw_goto (t := 163) F dM_shutsLeast_159 (by decide) ?_
          refine aw_iadd (q := 164) F dM_shutsLeast_163 rfl (by constructor <;> omega) ?_
          refine aw_icmp_gt (q := 167) (t := 170) F dM_shutsLeast_164 rfl (by decide) (fun c164 => ?_) (fun c164 => ?_)
          · refine aw_aload_0 (q := 171) F dM_shutsLeast_170 rfl ?_
            refine av_getaE (q := 174) F fM_31 dM_shutsLeast_171 rfl rfl (by first | exact hM.o | exact hl.o | exact hM.a55 | exact hM.a56 | exact hM.a59 | exact hM.a60 | exact hM.a61 | exact hM.a62) hM.p21 ?_
            refine aw_iload_10 (q := 176) F dM_shutsLeast_174 rfl ?_
            refine av_iaload (q := 177) F dM_shutsLeast_176 rfl (by first | exact hM.o | exact hl.o | exact hM.a55 | exact hM.a56 | exact hM.a59 | exact hM.a60 | exact hM.a61 | exact hM.a62) (by omega) (by omega) ?_
            rw [Int.toNat_natCast, e59]
            refine aw_iload_4 (q := 179) F dM_shutsLeast_177 rfl ?_
            refine aw_iconst (q := 180) F dM_shutsLeast_179 rfl (by decide) ?_
            refine aw_iadd (q := 181) F dM_shutsLeast_180 rfl (by constructor <;> omega) ?_
            refine aw_icmp_ne (q := 184) (t := 188) F dM_shutsLeast_181 rfl (by decide) (fun c181 => ?_) (fun c181 => ?_)
            · refine aw_iconst (q := 189) F dM_shutsLeast_188 rfl (by decide) ?_
              refine aw_istore_11 (q := 191) F dM_shutsLeast_189 rfl trivial ?_
              refine aw_aload_0 (q := 192) F dM_shutsLeast_191 rfl ?_
              refine av_getaE (q := 195) F fM_31 dM_shutsLeast_192 rfl rfl (by first | exact hM.o | exact hl.o | exact hM.a55 | exact hM.a56 | exact hM.a59 | exact hM.a60 | exact hM.a61 | exact hM.a62) hM.p21 ?_
              refine aw_iload_10 (q := 197) F dM_shutsLeast_195 rfl ?_
              refine aw_iload_4 (q := 199) F dM_shutsLeast_197 rfl ?_
              refine aw_iload_9 (q := 201) F dM_shutsLeast_199 rfl ?_
              refine aw_if_eq (q := 204) (t := 208) F dM_shutsLeast_201 rfl (by decide) (fun c201 => ?_) (fun c201 => ?_)
              · refine aw_iconst (q := 209) F dM_shutsLeast_208 rfl (by decide) ?_
                refine aw_iadd (q := 210) F dM_shutsLeast_209 rfl (by constructor <;> omega) ?_
                refine av_iastore (q := 211) F dM_shutsLeast_210 rfl (by first | exact hM.o | exact hl.o | exact hM.a55 | exact hM.a56 | exact hM.a59 | exact hM.a60 | exact hM.a61 | exact hM.a62) (by omega) (by omega) ?_
                refine aw_iload_9 (q := 213) F dM_shutsLeast_211 rfl ?_
                refine aw_if_ne (q := 216) (t := 230) F dM_shutsLeast_213 rfl (by decide) (fun c213 => ?_) (fun c213 => ?_)
                · refine aw_iload_11 (q := 232) F dM_shutsLeast_230 rfl ?_
                  refine aw_if_ne (q := 235) (t := 247) F dM_shutsLeast_232 rfl (by decide) (fun c232 => absurd c232 (by decide)) (fun c232 => ?_)
                  have hq := hshut (by omega) (by omega)
                  refine aw_aload_0 (q := 236) F dM_shutsLeast_235 rfl ?_
                  refine av_getaE (q := 239) F fM_40 dM_shutsLeast_236 rfl rfl (by first | exact hM.o | exact hl.o | exact hM.a55 | exact hM.a56 | exact hM.a59 | exact hM.a60 | exact hM.a61 | exact hM.a62) hM.p24 ?_
                  refine aw_iload_5 (q := 241) F dM_shutsLeast_239 rfl ?_
                  refine aw_iload_10 (q := 243) F dM_shutsLeast_241 rfl ?_
                  refine av_iastore (q := 244) F dM_shutsLeast_243 rfl (by first | exact hM.o | exact hl.o | exact hM.a55 | exact hM.a56 | exact hM.a59 | exact hM.a60 | exact hM.a61 | exact hM.a62) (by omega) (by omega) ?_
                  refine aw_iinc_5 (q := 247) F dM_shutsLeast_244 rfl trivial (by constructor <;> omega) ?_
                  refine aw_iinc_8 (q := 250) F dM_shutsLeast_247 rfl trivial (by constructor <;> omega) ?_
                  refine aw_goto (t := 103) F dM_shutsLeast_250 (by decide) ?_
                  first
                  | exact hnone (by omega) _ _ rfl
                  | (rw [Int.toNat_natCast, show y3.toNat = Qs.length by omega, show y4 + 0 = (k : Nat) by omega]; exact hq.2 _ _ rfl)
                  | (rw [Int.toNat_natCast, show y5.toNat = Os.length by omega, show y4 + 1 = (k + 1 : Nat) by omega]; exact hq.2 _ _ rfl)
                  | (exfalso; have := hfar (by omega); omega)
                  | (exfalso; omega)
                · have hq := hfree (by omega) (by omega)
                  refine aw_aload_0 (q := 217) F dM_shutsLeast_216 rfl ?_
                  refine av_getaE (q := 220) F fM_37 dM_shutsLeast_217 rfl rfl (by first | exact hM.o | exact hl.o | exact hM.a55 | exact hM.a56 | exact hM.a59 | exact hM.a60 | exact hM.a61 | exact hM.a62) hM.p23 ?_
                  refine aw_iload_3 (q := 221) F dM_shutsLeast_220 rfl ?_
                  refine aw_iload_10 (q := 223) F dM_shutsLeast_221 rfl ?_
                  refine av_iastore (q := 224) F dM_shutsLeast_223 rfl (by first | exact hM.o | exact hl.o | exact hM.a55 | exact hM.a56 | exact hM.a59 | exact hM.a60 | exact hM.a61 | exact hM.a62) (by omega) (by omega) ?_
                  refine aw_iinc_3 (q := 227) F dM_shutsLeast_224 rfl trivial (by constructor <;> omega) ?_
                  refine aw_goto (t := 247) F dM_shutsLeast_227 (by decide) ?_
                  refine aw_iinc_8 (q := 250) F dM_shutsLeast_247 rfl trivial (by constructor <;> omega) ?_
                  refine aw_goto (t := 103) F dM_shutsLeast_250 (by decide) ?_
                  first
                  | exact hnone (by omega) _ _ rfl
                  | (rw [Int.toNat_natCast, show y3.toNat = Qs.length by omega, show y4 + 0 = (k : Nat) by omega]; exact hq.2 _ _ rfl)
                  | (rw [Int.toNat_natCast, show y5.toNat = Os.length by omega, show y4 + 1 = (k + 1 : Nat) by omega]; exact hq.2 _ _ rfl)
                  | (exfalso; have := hfar (by omega); omega)
                  | (exfalso; omega)
              · refine aw_iconst (q := 205) F dM_shutsLeast_204 rfl (by decide) ?_
                refine aw_goto (t := 209) F dM_shutsLeast_205 (by decide) ?_
                refine aw_iadd (q := 210) F dM_shutsLeast_209 rfl (by constructor <;> omega) ?_
                refine av_iastore (q := 211) F dM_shutsLeast_210 rfl (by first | exact hM.o | exact hl.o | exact hM.a55 | exact hM.a56 | exact hM.a59 | exact hM.a60 | exact hM.a61 | exact hM.a62) (by omega) (by omega) ?_
                refine aw_iload_9 (q := 213) F dM_shutsLeast_211 rfl ?_
                refine aw_if_ne (q := 216) (t := 230) F dM_shutsLeast_213 rfl (by decide) (fun c213 => ?_) (fun c213 => ?_)
                · refine aw_iload_11 (q := 232) F dM_shutsLeast_230 rfl ?_
                  refine aw_if_ne (q := 235) (t := 247) F dM_shutsLeast_232 rfl (by decide) (fun c232 => absurd c232 (by decide)) (fun c232 => ?_)
                  have hq := hshut (by omega) (by omega)
                  refine aw_aload_0 (q := 236) F dM_shutsLeast_235 rfl ?_
                  refine av_getaE (q := 239) F fM_40 dM_shutsLeast_236 rfl rfl (by first | exact hM.o | exact hl.o | exact hM.a55 | exact hM.a56 | exact hM.a59 | exact hM.a60 | exact hM.a61 | exact hM.a62) hM.p24 ?_
                  refine aw_iload_5 (q := 241) F dM_shutsLeast_239 rfl ?_
                  refine aw_iload_10 (q := 243) F dM_shutsLeast_241 rfl ?_
                  refine av_iastore (q := 244) F dM_shutsLeast_243 rfl (by first | exact hM.o | exact hl.o | exact hM.a55 | exact hM.a56 | exact hM.a59 | exact hM.a60 | exact hM.a61 | exact hM.a62) (by omega) (by omega) ?_
                  refine aw_iinc_5 (q := 247) F dM_shutsLeast_244 rfl trivial (by constructor <;> omega) ?_
                  refine aw_iinc_8 (q := 250) F dM_shutsLeast_247 rfl trivial (by constructor <;> omega) ?_
                  refine aw_goto (t := 103) F dM_shutsLeast_250 (by decide) ?_
                  first
                  | exact hnone (by omega) _ _ rfl
                  | (rw [Int.toNat_natCast, show y3.toNat = Qs.length by omega, show y4 + 0 = (k : Nat) by omega]; exact hq.2 _ _ rfl)
                  | (rw [Int.toNat_natCast, show y5.toNat = Os.length by omega, show y4 + 1 = (k + 1 : Nat) by omega]; exact hq.2 _ _ rfl)
                  | (exfalso; have := hfar (by omega); omega)
                  | (exfalso; omega)
                · have hq := hfree (by omega) (by omega)
                  refine aw_aload_0 (q := 217) F dM_shutsLeast_216 rfl ?_
                  refine av_getaE (q := 220) F fM_37 dM_shutsLeast_217 rfl rfl (by first | exact hM.o | exact hl.o | exact hM.a55 | exact hM.a56 | exact hM.a59 | exact hM.a60 | exact hM.a61 | exact hM.a62) hM.p23 ?_
                  refine aw_iload_3 (q := 221) F dM_shutsLeast_220 rfl ?_
                  refine aw_iload_10 (q := 223) F dM_shutsLeast_221 rfl ?_
                  refine av_iastore (q := 224) F dM_shutsLeast_223 rfl (by first | exact hM.o | exact hl.o | exact hM.a55 | exact hM.a56 | exact hM.a59 | exact hM.a60 | exact hM.a61 | exact hM.a62) (by omega) (by omega) ?_
                  refine aw_iinc_3 (q := 227) F dM_shutsLeast_224 rfl trivial (by constructor <;> omega) ?_
                  refine aw_goto (t := 247) F dM_shutsLeast_227 (by decide) ?_
                  refine aw_iinc_8 (q := 250) F dM_shutsLeast_247 rfl trivial (by constructor <;> omega) ?_
                  refine aw_goto (t := 103) F dM_shutsLeast_250 (by decide) ?_
                  first
                  | exact hnone (by omega) _ _ rfl
                  | (rw [Int.toNat_natCast, show y3.toNat = Qs.length by omega, show y4 + 0 = (k : Nat) by omega]; exact hq.2 _ _ rfl)
                  | (rw [Int.toNat_natCast, show y5.toNat = Os.length by omega, show y4 + 1 = (k + 1 : Nat) by omega]; exact hq.2 _ _ rfl)
                  | (exfalso; have := hfar (by omega); omega)
                  | (exfalso; omega)
            · refine aw_iconst (q := 185) F dM_shutsLeast_184 rfl (by decide) ?_
              refine aw_goto (t := 189) F dM_shutsLeast_185 (by decide) ?_
              refine aw_istore_11 (q := 191) F dM_shutsLeast_189 rfl trivial ?_
              refine aw_aload_0 (q := 192) F dM_shutsLeast_191 rfl ?_
              refine av_getaE (q := 195) F fM_31 dM_shutsLeast_192 rfl rfl (by first | exact hM.o | exact hl.o | exact hM.a55 | exact hM.a56 | exact hM.a59 | exact hM.a60 | exact hM.a61 | exact hM.a62) hM.p21 ?_
              refine aw_iload_10 (q := 197) F dM_shutsLeast_195 rfl ?_
              refine aw_iload_4 (q := 199) F dM_shutsLeast_197 rfl ?_
              refine aw_iload_9 (q := 201) F dM_shutsLeast_199 rfl ?_
              refine aw_if_eq (q := 204) (t := 208) F dM_shutsLeast_201 rfl (by decide) (fun c201 => ?_) (fun c201 => ?_)
              · refine aw_iconst (q := 209) F dM_shutsLeast_208 rfl (by decide) ?_
                refine aw_iadd (q := 210) F dM_shutsLeast_209 rfl (by constructor <;> omega) ?_
                refine av_iastore (q := 211) F dM_shutsLeast_210 rfl (by first | exact hM.o | exact hl.o | exact hM.a55 | exact hM.a56 | exact hM.a59 | exact hM.a60 | exact hM.a61 | exact hM.a62) (by omega) (by omega) ?_
                refine aw_iload_9 (q := 213) F dM_shutsLeast_211 rfl ?_
                refine aw_if_ne (q := 216) (t := 230) F dM_shutsLeast_213 rfl (by decide) (fun c213 => ?_) (fun c213 => ?_)
                · refine aw_iload_11 (q := 232) F dM_shutsLeast_230 rfl ?_
                  refine aw_if_ne (q := 235) (t := 247) F dM_shutsLeast_232 rfl (by decide) (fun c232 => ?_) (fun c232 => absurd c232 (by decide))
                  refine aw_iinc_8 (q := 250) F dM_shutsLeast_247 rfl trivial (by constructor <;> omega) ?_
                  refine aw_goto (t := 103) F dM_shutsLeast_250 (by decide) ?_
                  first
                  | exact hnone (by omega) _ _ rfl
                  | (rw [Int.toNat_natCast, show y3.toNat = Qs.length by omega, show y4 + 0 = (k : Nat) by omega]; exact hq.2 _ _ rfl)
                  | (rw [Int.toNat_natCast, show y5.toNat = Os.length by omega, show y4 + 1 = (k + 1 : Nat) by omega]; exact hq.2 _ _ rfl)
                  | (exfalso; have := hfar (by omega); omega)
                  | (exfalso; omega)
                · have hq := hfree (by omega) (by omega)
                  refine aw_aload_0 (q := 217) F dM_shutsLeast_216 rfl ?_
                  refine av_getaE (q := 220) F fM_37 dM_shutsLeast_217 rfl rfl (by first | exact hM.o | exact hl.o | exact hM.a55 | exact hM.a56 | exact hM.a59 | exact hM.a60 | exact hM.a61 | exact hM.a62) hM.p23 ?_
                  refine aw_iload_3 (q := 221) F dM_shutsLeast_220 rfl ?_
                  refine aw_iload_10 (q := 223) F dM_shutsLeast_221 rfl ?_
                  refine av_iastore (q := 224) F dM_shutsLeast_223 rfl (by first | exact hM.o | exact hl.o | exact hM.a55 | exact hM.a56 | exact hM.a59 | exact hM.a60 | exact hM.a61 | exact hM.a62) (by omega) (by omega) ?_
                  refine aw_iinc_3 (q := 227) F dM_shutsLeast_224 rfl trivial (by constructor <;> omega) ?_
                  refine aw_goto (t := 247) F dM_shutsLeast_227 (by decide) ?_
                  refine aw_iinc_8 (q := 250) F dM_shutsLeast_247 rfl trivial (by constructor <;> omega) ?_
                  refine aw_goto (t := 103) F dM_shutsLeast_250 (by decide) ?_
                  first
                  | exact hnone (by omega) _ _ rfl
                  | (rw [Int.toNat_natCast, show y3.toNat = Qs.length by omega, show y4 + 0 = (k : Nat) by omega]; exact hq.2 _ _ rfl)
                  | (rw [Int.toNat_natCast, show y5.toNat = Os.length by omega, show y4 + 1 = (k + 1 : Nat) by omega]; exact hq.2 _ _ rfl)
                  | (exfalso; have := hfar (by omega); omega)
                  | (exfalso; omega)
              · refine aw_iconst (q := 205) F dM_shutsLeast_204 rfl (by decide) ?_
                refine aw_goto (t := 209) F dM_shutsLeast_205 (by decide) ?_
                refine aw_iadd (q := 210) F dM_shutsLeast_209 rfl (by constructor <;> omega) ?_
                refine av_iastore (q := 211) F dM_shutsLeast_210 rfl (by first | exact hM.o | exact hl.o | exact hM.a55 | exact hM.a56 | exact hM.a59 | exact hM.a60 | exact hM.a61 | exact hM.a62) (by omega) (by omega) ?_
                refine aw_iload_9 (q := 213) F dM_shutsLeast_211 rfl ?_
                refine aw_if_ne (q := 216) (t := 230) F dM_shutsLeast_213 rfl (by decide) (fun c213 => ?_) (fun c213 => ?_)
                · refine aw_iload_11 (q := 232) F dM_shutsLeast_230 rfl ?_
                  refine aw_if_ne (q := 235) (t := 247) F dM_shutsLeast_232 rfl (by decide) (fun c232 => ?_) (fun c232 => absurd c232 (by decide))
                  refine aw_iinc_8 (q := 250) F dM_shutsLeast_247 rfl trivial (by constructor <;> omega) ?_
                  refine aw_goto (t := 103) F dM_shutsLeast_250 (by decide) ?_
                  first
                  | exact hnone (by omega) _ _ rfl
                  | (rw [Int.toNat_natCast, show y3.toNat = Qs.length by omega, show y4 + 0 = (k : Nat) by omega]; exact hq.2 _ _ rfl)
                  | (rw [Int.toNat_natCast, show y5.toNat = Os.length by omega, show y4 + 1 = (k + 1 : Nat) by omega]; exact hq.2 _ _ rfl)
                  | (exfalso; have := hfar (by omega); omega)
                  | (exfalso; omega)
                · have hq := hfree (by omega) (by omega)
                  refine aw_aload_0 (q := 217) F dM_shutsLeast_216 rfl ?_
                  refine av_getaE (q := 220) F fM_37 dM_shutsLeast_217 rfl rfl (by first | exact hM.o | exact hl.o | exact hM.a55 | exact hM.a56 | exact hM.a59 | exact hM.a60 | exact hM.a61 | exact hM.a62) hM.p23 ?_
                  refine aw_iload_3 (q := 221) F dM_shutsLeast_220 rfl ?_
                  refine aw_iload_10 (q := 223) F dM_shutsLeast_221 rfl ?_
                  refine av_iastore (q := 224) F dM_shutsLeast_223 rfl (by first | exact hM.o | exact hl.o | exact hM.a55 | exact hM.a56 | exact hM.a59 | exact hM.a60 | exact hM.a61 | exact hM.a62) (by omega) (by omega) ?_
                  refine aw_iinc_3 (q := 227) F dM_shutsLeast_224 rfl trivial (by constructor <;> omega) ?_
                  refine aw_goto (t := 247) F dM_shutsLeast_227 (by decide) ?_
                  refine aw_iinc_8 (q := 250) F dM_shutsLeast_247 rfl trivial (by constructor <;> omega) ?_
                  refine aw_goto (t := 103) F dM_shutsLeast_250 (by decide) ?_
                  first
                  | exact hnone (by omega) _ _ rfl
                  | (rw [Int.toNat_natCast, show y3.toNat = Qs.length by omega, show y4 + 0 = (k : Nat) by omega]; exact hq.2 _ _ rfl)
                  | (rw [Int.toNat_natCast, show y5.toNat = Os.length by omega, show y4 + 1 = (k + 1 : Nat) by omega]; exact hq.2 _ _ rfl)
                  | (exfalso; have := hfar (by omega); omega)
                  | (exfalso; omega)
          · refine aw_goto (t := 247) F dM_shutsLeast_167 (by decide) ?_
            refine aw_iinc_8 (q := 250) F dM_shutsLeast_247 rfl trivial (by constructor <;> omega) ?_
            refine aw_goto (t := 103) F dM_shutsLeast_250 (by decide) ?_
            first
            | exact hnone (by omega) _ _ rfl
            | (rw [Int.toNat_natCast, show y3.toNat = Qs.length by omega, show y4 + 0 = (k : Nat) by omega]; exact hq.2 _ _ rfl)
            | (rw [Int.toNat_natCast, show y5.toNat = Os.length by omega, show y4 + 1 = (k + 1 : Nat) by omega]; exact hq.2 _ _ rfl)
            | (exfalso; have := hfar (by omega); omega)
            | (exfalso; omega)
      have sh_1 : shS c s = true → sh1 c s = 1 := fun q => by unfold sh1; rw [q]; rfl
      have sh_0 : shS c s = false → sh1 c s = 0 := fun q => by unfold sh1; rw [q]; rfl
      refine aw_iload_8 (q := 105) F dM_shutsLeast_103 rfl ?_
      refine aw_aload_0 (q := 106) F dM_shutsLeast_105 rfl ?_
      refine av_callV0 (q := 109) (ci := 9) F hm mM_stepsMany_i mM_stepsMany_n lM_336 dM_shutsLeast_106 rfl rfl rfl (by first | exact hM.o | exact hl.o | exact hM.a55 | exact hM.a56 | exact hM.a59 | exact hM.a60 | exact hM.a61 | exact hM.a62) (by decide) (Nat.le_refl _) (Nat.le_refl _) (Nat.le_of_ble_eq_true rfl) (wM_stepsMany hM hl hC1 hc ?_)
      refine aw_icmp_ge (q := 112) (t := 253) F dM_shutsLeast_109 rfl (by decide) (fun c109 => by omega) (fun c109 => ?_)
      refine aw_aload_0 (q := 113) F dM_shutsLeast_112 rfl ?_
      refine aw_iload_7 (q := 115) F dM_shutsLeast_113 rfl ?_
      refine av_callV1 (q := 118) (ci := 9) F hm mM_lays_i mM_lays_n lM_339 dM_shutsLeast_115 rfl rfl rfl (by first | exact hM.o | exact hl.o | exact hM.a55 | exact hM.a56 | exact hM.a59 | exact hM.a60 | exact hM.a61 | exact hM.a62) (by decide) (Nat.le_refl _) (Nat.le_refl _) (Nat.le_of_ble_eq_true rfl) (wM_lays (n := w) h7 hw hM hl hC1 hA hc (by omega) (fun V2 f115 g115 => ?_))
      refine aw_aload_0 (q := 119) F dM_shutsLeast_118 rfl ?_
      refine aw_iload_8 (q := 121) F dM_shutsLeast_119 rfl ?_
      refine av_callV1 (q := 124) (ci := 9) F hm mM_canStep_i mM_canStep_n lM_342 dM_shutsLeast_121 rfl rfl rfl (by first | exact hM.o | exact hl.o | exact hM.a55 | exact hM.a56 | exact hM.a59 | exact hM.a60 | exact hM.a61 | exact hM.a62) (by decide) (Nat.le_refl _) (Nat.le_refl _) (Nat.le_of_ble_eq_true rfl) (wM_canStep (s := s) h8 (by omega) hM hl (f115.lc h64 hC1) g115 hc (fun c121 => ?_) (fun c121 => ?_))
      · refine aw_if_ne (q := 127) (t := 130) F dM_shutsLeast_124 rfl (by decide) (fun c124 => ?_) (fun c124 => absurd c124 (by decide))
        refine aw_aload_0 (q := 131) F dM_shutsLeast_130 rfl ?_
        refine aw_iload_8 (q := 133) F dM_shutsLeast_131 rfl ?_
        refine av_callV1 (q := 136) (ci := 9) F hm mM_steps_i mM_steps_n lM_345 dM_shutsLeast_133 rfl rfl rfl (by first | exact hM.o | exact hl.o | exact hM.a55 | exact hM.a56 | exact hM.a59 | exact hM.a60 | exact hM.a61 | exact hM.a62) (by decide) (Nat.le_refl _) (Nat.le_refl _) (Nat.le_of_ble_eq_true rfl) (wM_steps (s := s) h8 (by omega) hw c121 hM hl (f115.lc h64 hC1) g115 hc (fun b133 V3 f133 g133 => ?_) (fun b133 V3 f133 g133 => ?_))
        · refine aw_istore_9 (q := 138) F dM_shutsLeast_136 rfl trivial ?_
          refine aw_aload_0 (q := 139) F dM_shutsLeast_138 rfl ?_
          refine av_callV0 (q := 142) (ci := 9) F hm mM_numbered_i mM_numbered_n lM_330 dM_shutsLeast_139 rfl rfl rfl (by first | exact hM.o | exact hl.o | exact hM.a55 | exact hM.a56 | exact hM.a59 | exact hM.a60 | exact hM.a61 | exact hM.a62) (by decide) (Nat.le_refl _) (Nat.le_refl _) (Nat.le_of_ble_eq_true rfl) (wM_numbered (aft_lt hw (by omega) c121) hM hl ((f115.trans f133).lc h64 hC1) g133 hc ?_)
          refine aw_istore_10 (q := 144) F dM_shutsLeast_142 rfl trivial ?_
          first | exact step c121 V3 (f115.trans f133) g133 _ (by rw [sh_1 b133]; rfl) _ _ h7 | exact step c121 V3 (f115.trans f133) g133 _ (by rw [sh_0 b133]; rfl) _ _ h7
        · refine aw_istore_9 (q := 138) F dM_shutsLeast_136 rfl trivial ?_
          refine aw_aload_0 (q := 139) F dM_shutsLeast_138 rfl ?_
          refine av_callV0 (q := 142) (ci := 9) F hm mM_numbered_i mM_numbered_n lM_330 dM_shutsLeast_139 rfl rfl rfl (by first | exact hM.o | exact hl.o | exact hM.a55 | exact hM.a56 | exact hM.a59 | exact hM.a60 | exact hM.a61 | exact hM.a62) (by decide) (Nat.le_refl _) (Nat.le_refl _) (Nat.le_of_ble_eq_true rfl) (wM_numbered (aft_lt hw (by omega) c121) hM hl ((f115.trans f133).lc h64 hC1) g133 hc ?_)
          refine aw_istore_10 (q := 144) F dM_shutsLeast_142 rfl trivial ?_
          first | exact step c121 V3 (f115.trans f133) g133 _ (by rw [sh_1 b133]; rfl) _ _ h7 | exact step c121 V3 (f115.trans f133) g133 _ (by rw [sh_0 b133]; rfl) _ _ h7
      · refine aw_if_ne (q := 127) (t := 130) F dM_shutsLeast_124 rfl (by decide) (fun c124 => absurd c124 (by decide)) (fun c124 => ?_)
        refine aw_goto (t := 247) F dM_shutsLeast_127 (by decide) ?_
        refine aw_iinc_8 (q := 250) F dM_shutsLeast_247 rfl trivial (by constructor <;> omega) ?_
        refine aw_goto (t := 103) F dM_shutsLeast_250 (by decide) ?_
        exact ih (s + 1) (by omega) V2 f Qs Os _ _ _ _ _ _ _ _ _ (hF.xf f115) (by rw [f115 53 (by decide)]; exact h26) g115 hI (hR.xf f115) (hP.no hQ (fun q => by rw [c121] at q; cases q)) hQ h3 h4 h5 h7 (by omega)
  have top : ∀ (j k : Nat), spc c + 1 - k = j → ∀ (V1 : Nat → Nat → Int) (f : Nat → Nat) (Qs : List Nat) (m1 : Nat) (y2 y3 y4 : Int) (u5 u6 u7 u8 u9 u10 u11 : Option AV), MF V V1 → V1 53 26 = 0 → AR (V1 56) c m1 → LI c n0 k f Qs [] → RR V1 c f Qs [] → y3 = Qs.length → y4 = k → AW X 60 [some (vR 53), some (vI (spc c)), some (vI y2), some (vI y3), some (vI y4), u5, u6, u7, u8, u9, u10, u11] [] (V1, σ) 0 0 := by
    intro j
    induction j using Nat.strongRecOn with
    | ind j ih =>
      intro k hj V1 f Qs m1 y2 y3 y4 u5 u6 u7 u8 u9 u10 u11 hF h26 hA hI hR h3 h4
      have hk := hI.lek
      have hlQ := hI.lenQ
      -- what waits becomes the next level
      have copy : ∀ (f : Nat → Nat) (Qs Os : List Nat), LI c n0 k f Qs Os → PRc c k f Qs Qs.length 0 → 0 < Qs.length → ∀ (j i : Nat), i + j = Os.length → ∀ (V1 : Nat → Nat → Int) (m1 : Nat) (y3 y4 y5 y6 : Int) (u7 u8 u9 u10 u11 : Option AV), MF V V1 → V1 53 26 = 0 → AR (V1 56) c m1 → RR V1 c f ((Os.take i).filter (fun m => f m == k + 1)) Os → y3 = ((Os.take i).filter (fun m => f m == k + 1)).length → y4 = (k + 1 : Nat) → y5 = Os.length → y6 = i → AW X 267 [some (vR 53), some (vI (spc c)), some (vI y2), some (vI y3), some (vI y4), some (vI y5), some (vI y6), u7, u8, u9, u10, u11] [] (V1, σ) 0 0 := by
        intro f Qs Os hI hP h0 j
        have hlO := hI.lenO
        have hI' := hI.next hsp hP h0
        induction j with
        | zero =>
          intro i hi V1 m1 y3 y4 y5 y6 u7 u8 u9 u10 u11 hF h26 hA hR h3 h4 h5 h6
          rw [show i = Os.length by omega, List.take_length] at hR h3
          refine aw_iload_6 (q := 269) F dM_shutsLeast_267 rfl ?_
          refine aw_iload_5 (q := 271) F dM_shutsLeast_269 rfl ?_
          refine aw_icmp_ge (q := 274) (t := 316) F dM_shutsLeast_271 rfl (by decide) (fun c271 => ?_) (fun c271 => by omega)
          refine aw_goto (t := 60) F dM_shutsLeast_316 (by decide) ?_
          exact ih _ (by have := hI'.lek; omega) (k + 1) rfl V1 f _ m1 _ _ _ _ _ _ _ _ _ _ hF h26 hA hI' ⟨hR.1, hR.2.1, fun i m hm => by cases hm⟩ h3 h4
        | succ j ihj =>
          intro i hi V1 m1 y3 y4 y5 y6 u7 u8 u9 u10 u11 hF h26 hA hR h3 h4 h5 h6
          have hm : Os[i]? = some Os[i] := List.getElem?_eq_getElem (by omega)
          generalize Os[i] = m at hm
          have hms := (hI.2.2.2.2.1 m (List.mem_of_getElem? hm)).1
          have hmn := mnN_lt hms
          have e62 : V1 62 y6.toNat = mnN c m := by rw [show y6.toNat = i by omega]; exact hR.2.2 i m hm
          have e59 : V1 59 (mnN c m) = f m := hR.1 m hms
          have hts := tk_s hm
          have hfl : ((Os.take i).filter (fun m => f m == k + 1)).length ≤ i := Nat.le_trans (List.length_filter_le _ _) (by rw [List.length_take]; omega)
          have hyes : f m = k + 1 → (Os.take (i + 1)).filter (fun m => f m == k + 1) = (Os.take i).filter (fun m => f m == k + 1) ++ [m] := fun q => by rw [hts, fl_one q]
          have hnot : f m ≠ k + 1 → (Os.take (i + 1)).filter (fun m => f m == k + 1) = (Os.take i).filter (fun m => f m == k + 1) := fun q => by rw [hts, fl_no q]
          generalize (Os.take i).filter (fun m => f m == k + 1) = Q0 at *
          refine aw_iload_6 (q := 269) F dM_shutsLeast_267 rfl ?_
          refine aw_iload_5 (q := 271) F dM_shutsLeast_269 rfl ?_
          refine aw_icmp_ge (q := 274) (t := 316) F dM_shutsLeast_271 rfl (by decide) (fun c271 => by omega) (fun c271 => ?_)
          refine aw_aload_0 (q := 275) F dM_shutsLeast_274 rfl ?_
          refine av_getaE (q := 278) F fM_31 dM_shutsLeast_275 rfl rfl (by first | exact hM.o | exact hl.o | exact hM.a55 | exact hM.a56 | exact hM.a59 | exact hM.a60 | exact hM.a61 | exact hM.a62) hM.p21 ?_
          refine aw_aload_0 (q := 279) F dM_shutsLeast_278 rfl ?_
          refine av_getaE (q := 282) F fM_40 dM_shutsLeast_279 rfl rfl (by first | exact hM.o | exact hl.o | exact hM.a55 | exact hM.a56 | exact hM.a59 | exact hM.a60 | exact hM.a61 | exact hM.a62) hM.p24 ?_
          refine aw_iload_6 (q := 284) F dM_shutsLeast_282 rfl ?_
          refine av_iaload (q := 285) F dM_shutsLeast_284 rfl (by first | exact hM.o | exact hl.o | exact hM.a55 | exact hM.a56 | exact hM.a59 | exact hM.a60 | exact hM.a61 | exact hM.a62) (by omega) (by omega) ?_
          rw [e62]
          refine av_iaload (q := 286) F dM_shutsLeast_285 rfl (by first | exact hM.o | exact hl.o | exact hM.a55 | exact hM.a56 | exact hM.a59 | exact hM.a60 | exact hM.a61 | exact hM.a62) (by omega) (by omega) ?_
          rw [Int.toNat_natCast, e59]
          refine aw_iload_4 (q := 288) F dM_shutsLeast_286 rfl ?_
          refine aw_icmp_eq (q := 291) (t := 294) F dM_shutsLeast_288 rfl (by decide) (fun c288 => ?_) (fun c288 => ?_)
          · refine aw_aload_0 (q := 295) F dM_shutsLeast_294 rfl ?_
            refine av_getaE (q := 298) F fM_37 dM_shutsLeast_295 rfl rfl (by first | exact hM.o | exact hl.o | exact hM.a55 | exact hM.a56 | exact hM.a59 | exact hM.a60 | exact hM.a61 | exact hM.a62) hM.p23 ?_
            refine aw_iload_3 (q := 299) F dM_shutsLeast_298 rfl ?_
            refine aw_aload_0 (q := 300) F dM_shutsLeast_299 rfl ?_
            refine av_getaE (q := 303) F fM_40 dM_shutsLeast_300 rfl rfl (by first | exact hM.o | exact hl.o | exact hM.a55 | exact hM.a56 | exact hM.a59 | exact hM.a60 | exact hM.a61 | exact hM.a62) hM.p24 ?_
            refine aw_iload_6 (q := 305) F dM_shutsLeast_303 rfl ?_
            refine av_iaload (q := 306) F dM_shutsLeast_305 rfl (by first | exact hM.o | exact hl.o | exact hM.a55 | exact hM.a56 | exact hM.a59 | exact hM.a60 | exact hM.a61 | exact hM.a62) (by omega) (by omega) ?_
            rw [e62]
            refine av_iastore (q := 307) F dM_shutsLeast_306 rfl (by first | exact hM.o | exact hl.o | exact hM.a55 | exact hM.a56 | exact hM.a59 | exact hM.a60 | exact hM.a61 | exact hM.a62) (by omega) (by omega) ?_
            refine aw_iinc_3 (q := 310) F dM_shutsLeast_307 rfl trivial (by constructor <;> omega) ?_
            refine aw_iinc_6 (q := 313) F dM_shutsLeast_310 rfl trivial (by constructor <;> omega) ?_
            refine aw_goto (t := 267) F dM_shutsLeast_313 (by decide) ?_
            first
            | (have hq := hnot (by omega)
               exact ihj (i + 1) (by omega) V1 m1 _ _ _ _ _ _ _ _ _ hF h26 hA (by rw [hq]; exact hR) (by rw [hq]; exact h3) h4 h5 (by omega))
            | (have hq := hyes (by omega)
               rw [show y3.toNat = Q0.length by omega]
               exact ihj (i + 1) (by omega) _ m1 _ _ _ _ _ _ _ _ _ (hF.up rfl) (by rw [up2_nea _ _ (by decide)]; exact h26) (by rw [up2_nea _ _ (by decide)]; exact hA) (by rw [hq]; exact hR.qu) (by rw [hq, List.length_append, List.length_singleton]; omega) h4 h5 (by omega))
          · refine aw_goto (t := 310) F dM_shutsLeast_291 (by decide) ?_
            refine aw_iinc_6 (q := 313) F dM_shutsLeast_310 rfl trivial (by constructor <;> omega) ?_
            refine aw_goto (t := 267) F dM_shutsLeast_313 (by decide) ?_
            first
            | (have hq := hnot (by omega)
               exact ihj (i + 1) (by omega) V1 m1 _ _ _ _ _ _ _ _ _ hF h26 hA (by rw [hq]; exact hR) (by rw [hq]; exact h3) h4 h5 (by omega))
            | (have hq := hyes (by omega)
               rw [show y3.toNat = Q0.length by omega]
               exact ihj (i + 1) (by omega) _ m1 _ _ _ _ _ _ _ _ _ (hF.up rfl) (by rw [up2_nea _ _ (by decide)]; exact h26) (by rw [up2_nea _ _ (by decide)]; exact hA) (by rw [hq]; exact hR.qu) (by rw [hq, List.length_append, List.length_singleton]; omega) h4 h5 (by omega))
      have level : ∀ (j a : Nat), spc c - a = j → ∀ (V1 : Nat → Nat → Int) (f : Nat → Nat) (Qs Os : List Nat) (m1 : Nat) (y3 y4 y5 y6 : Int) (u7 u8 u9 u10 u11 : Option AV), 0 < Qs.length → a ≤ Qs.length → MF V V1 → V1 53 26 = 0 → AR (V1 56) c m1 → LI c n0 k f Qs Os → RR V1 c f Qs Os → PRc c k f Qs a 0 → y3 = Qs.length → y4 = k → y5 = Os.length → y6 = a → AW X 70 [some (vR 53), some (vI (spc c)), some (vI y2), some (vI y3), some (vI y4), some (vI y5), some (vI y6), u7, u8, u9, u10, u11] [] (V1, σ) 0 0 := by
        intro j
        induction j using Nat.strongRecOn with
        | ind j ihl =>
          intro a hja V1 f Qs Os m1 y3 y4 y5 y6 u7 u8 u9 u10 u11 h0 hal hF h26 hA hI hR hP h3 h4 h5 h6
          have hlQ := hI.lenQ
          by_cases hlt : a < Qs.length
          · have hq : Qs[a]? = some Qs[a] := List.getElem?_eq_getElem hlt
            generalize Qs[a] = w at hq
            have hw := (hI.2.2.1 w).mp (List.mem_of_getElem? hq)
            have hmw := mnN_lt hw.1
            have e61 : V1 61 y6.toNat = mnN c w := by rw [show y6.toNat = a by omega]; exact hR.2.1 a w hq
            have e59 : V1 59 (mnN c w) = k := by rw [hR.1 w hw.1, hw.2]
            have hE : ∀ (V1 : Nat → Nat → Int) (f : Nat → Nat) (Qs Os : List Nat) (m1 : Nat) (y3 y4 y5 y7 : Int) (u8 u9 u10 u11 : Option AV), MF V V1 → V1 53 26 = 0 → AR (V1 56) c m1 → LI c n0 k f Qs Os → RR V1 c f Qs Os → PRc c k f Qs a (stN c) → Qs[a]? = some w → y3 = Qs.length → y4 = k → y5 = Os.length → AW X 253 [some (vR 53), some (vI (spc c)), some (vI y2), some (vI y3), some (vI y4), some (vI y5), some (vI y6), some (vI y7), u8, u9, u10, u11] [] (V1, σ) 0 0 := by
              intro V2 f2 Qs2 Os2 m2 z3 z4 z5 z7 v8 v9 v10 v11 hF2 h262 hA2 hI2 hR2 hP2 hQ2 a3 a4 a5
              have hl2 := (List.getElem?_eq_some_iff.mp hQ2).1
              have hl3 := hI2.lenQ
              refine aw_iinc_6 (q := 256) F dM_shutsLeast_253 rfl trivial (by constructor <;> omega) ?_
              refine aw_goto (t := 70) F dM_shutsLeast_256 (by decide) ?_
              exact ihl _ (by omega) (a + 1) rfl V2 f2 Qs2 Os2 m2 _ _ _ _ _ _ _ _ _ (by omega) (by omega) hF2 h262 hA2 hI2 hR2 (hP2.nx hQ2) a3 a4 a5 (by omega)
            refine aw_iload_6 (q := 72) F dM_shutsLeast_70 rfl ?_
            refine aw_iload_3 (q := 73) F dM_shutsLeast_72 rfl ?_
            refine aw_icmp_ge (q := 76) (t := 259) F dM_shutsLeast_73 rfl (by decide) (fun c73 => by omega) (fun c73 => ?_)
            refine aw_aload_0 (q := 77) F dM_shutsLeast_76 rfl ?_
            refine av_getaE (q := 80) F fM_37 dM_shutsLeast_77 rfl rfl (by first | exact hM.o | exact hl.o | exact hM.a55 | exact hM.a56 | exact hM.a59 | exact hM.a60 | exact hM.a61 | exact hM.a62) hM.p23 ?_
            refine aw_iload_6 (q := 82) F dM_shutsLeast_80 rfl ?_
            refine av_iaload (q := 83) F dM_shutsLeast_82 rfl (by first | exact hM.o | exact hl.o | exact hM.a55 | exact hM.a56 | exact hM.a59 | exact hM.a60 | exact hM.a61 | exact hM.a62) (by omega) (by omega) ?_
            rw [e61]
            refine aw_istore_7 (q := 85) F dM_shutsLeast_83 rfl trivial ?_
            refine aw_aload_0 (q := 86) F dM_shutsLeast_85 rfl ?_
            refine av_getaE (q := 89) F fM_31 dM_shutsLeast_86 rfl rfl (by first | exact hM.o | exact hl.o | exact hM.a55 | exact hM.a56 | exact hM.a59 | exact hM.a60 | exact hM.a61 | exact hM.a62) hM.p21 ?_
            refine aw_iload_7 (q := 91) F dM_shutsLeast_89 rfl ?_
            refine av_iaload (q := 92) F dM_shutsLeast_91 rfl (by first | exact hM.o | exact hl.o | exact hM.a55 | exact hM.a56 | exact hM.a59 | exact hM.a60 | exact hM.a61 | exact hM.a62) (by omega) (by omega) ?_
            rw [Int.toNat_natCast, e59]
            refine aw_iload_4 (q := 94) F dM_shutsLeast_92 rfl ?_
            refine aw_icmp_eq (q := 97) (t := 100) F dM_shutsLeast_94 rfl (by decide) (fun c94 => ?_) (fun c94 => by omega)
            refine aw_iconst (q := 101) F dM_shutsLeast_100 rfl (by decide) ?_
            refine aw_istore_8 (q := 103) F dM_shutsLeast_101 rfl trivial ?_
            exact steps k a w _ _ hk h6 hw.1 hE (stN c) 0 (Nat.zero_add _) V1 f Qs Os m1 _ _ _ _ _ _ _ _ hF h26 hA hI hR hP hq h3 h4 h5 rfl rfl
          · have ea : a = Qs.length := by omega
            rw [ea] at hP
            refine aw_iload_6 (q := 72) F dM_shutsLeast_70 rfl ?_
            refine aw_iload_3 (q := 73) F dM_shutsLeast_72 rfl ?_
            refine aw_icmp_ge (q := 76) (t := 259) F dM_shutsLeast_73 rfl (by decide) (fun c73 => ?_) (fun c73 => by omega)
            refine aw_iconst (q := 260) F dM_shutsLeast_259 rfl (by decide) ?_
            refine aw_istore_3 (q := 261) F dM_shutsLeast_260 rfl trivial ?_
            refine aw_iinc_4 (q := 264) F dM_shutsLeast_261 rfl trivial (by constructor <;> omega) ?_
            refine aw_iconst (q := 265) F dM_shutsLeast_264 rfl (by decide) ?_
            refine aw_istore_6 (q := 267) F dM_shutsLeast_265 rfl trivial ?_
            exact copy f Qs Os hI hP h0 _ 0 (Nat.zero_add _) V1 m1 _ _ _ _ _ _ _ _ _ hF h26 hA ⟨hR.1, fun i m hm => (by cases hm), hR.2.2⟩ rfl (by omega) h5 rfl
      refine aw_iload_3 (q := 61) F dM_shutsLeast_60 rfl ?_
      refine aw_if_le (q := 64) (t := 319) F dM_shutsLeast_61 rfl (by decide) (fun c61 => ?_) (fun c61 => ?_)
      · refine aw_vret F C dM_shutsLeast_319 rfl (Nat.le_refl _) (Nat.le_refl _) ?_
        have hQ0 : Qs = [] := List.length_eq_zero_iff.mp (by omega)
        rw [hQ0] at hI
        exact hK V1 m1 f hF h26 hA (hI.done hsp) hR.1
      · refine aw_iconst (q := 65) F dM_shutsLeast_64 rfl (by decide) ?_
        refine aw_istore_5 (q := 67) F dM_shutsLeast_65 rfl trivial ?_
        refine aw_iconst (q := 68) F dM_shutsLeast_67 rfl (by decide) ?_
        refine aw_istore_6 (q := 70) F dM_shutsLeast_68 rfl trivial ?_
        exact level _ 0 rfl V1 f Qs [] m1 _ _ _ _ _ _ _ _ _ (by omega) (Nat.zero_le _) hF h26 hA hI hR ⟨fun i m hi => absurd hi (by omega), fun m hm s' hs' => absurd hs' (by omega)⟩ h3 h4 rfl rfl
  have fill : ∀ (j i : Nat), i + j = spc c → ∀ (V1 : Nat → Nat → Int) (w : Int), MF V V1 → V1 53 26 = 0 → AR (V1 56) c n0 → (∀ e, e < i → V1 59 e = 999999) → w = i → AW X 16 [some (vR 53), some (vI (spc c)), some (vI w), none, none, none, none, none, none, none, none, none] [] (V1, σ) 0 0 := by
    intro j
    induction j with
    | zero =>
      intro i hi V1 w hF h26 hA hI hw
      have hR0 : RR V1 c (fun _ => 999999) [] [] := ⟨fun m hm => hI _ (by have := mnN_lt hm; omega), fun i m hm => (by cases hm), fun i m hm => (by cases hm)⟩
      refine aw_iload_2 (q := 17) F dM_shutsLeast_16 rfl ?_
      refine aw_iload_1 (q := 18) F dM_shutsLeast_17 rfl ?_
      refine aw_icmp_ge (q := 21) (t := 36) F dM_shutsLeast_18 rfl (by decide) (fun c18 => ?_) (fun c18 => by omega)
      refine aw_aload_0 (q := 37) F dM_shutsLeast_36 rfl ?_
      refine av_callV0 (q := 40) (ci := 9) F hm mM_numbered_i mM_numbered_n lM_330 dM_shutsLeast_37 rfl rfl rfl (by first | exact hM.o | exact hl.o | exact hM.a55 | exact hM.a56 | exact hM.a59 | exact hM.a60 | exact hM.a61 | exact hM.a62) (by decide) (Nat.le_refl _) (Nat.le_refl _) (Nat.le_of_ble_eq_true rfl) (wM_numbered hn hM hl (hF.lc h64 hLC) hA hc ?_)
      refine aw_istore_2 (q := 41) F dM_shutsLeast_40 rfl trivial ?_
      refine aw_aload_0 (q := 42) F dM_shutsLeast_41 rfl ?_
      refine av_getaE (q := 45) F fM_31 dM_shutsLeast_42 rfl rfl (by first | exact hM.o | exact hl.o | exact hM.a55 | exact hM.a56 | exact hM.a59 | exact hM.a60 | exact hM.a61 | exact hM.a62) hM.p21 ?_
      refine aw_iload_2 (q := 46) F dM_shutsLeast_45 rfl ?_
      refine aw_iconst (q := 47) F dM_shutsLeast_46 rfl (by decide) ?_
      refine av_iastore (q := 48) F dM_shutsLeast_47 rfl (by first | exact hM.o | exact hl.o | exact hM.a55 | exact hM.a56 | exact hM.a59 | exact hM.a60 | exact hM.a61 | exact hM.a62) (by omega) (by omega) ?_
      refine aw_aload_0 (q := 49) F dM_shutsLeast_48 rfl ?_
      refine av_getaE (q := 52) F fM_37 dM_shutsLeast_49 rfl rfl (by first | exact hM.o | exact hl.o | exact hM.a55 | exact hM.a56 | exact hM.a59 | exact hM.a60 | exact hM.a61 | exact hM.a62) hM.p23 ?_
      refine aw_iconst (q := 53) F dM_shutsLeast_52 rfl (by decide) ?_
      refine aw_iload_2 (q := 54) F dM_shutsLeast_53 rfl ?_
      refine av_iastore (q := 55) F dM_shutsLeast_54 rfl (by first | exact hM.o | exact hl.o | exact hM.a55 | exact hM.a56 | exact hM.a59 | exact hM.a60 | exact hM.a61 | exact hM.a62) (by omega) (by omega) ?_
      refine aw_iconst (q := 56) F dM_shutsLeast_55 rfl (by decide) ?_
      refine aw_istore_3 (q := 57) F dM_shutsLeast_56 rfl trivial ?_
      refine aw_iconst (q := 58) F dM_shutsLeast_57 rfl (by decide) ?_
      refine aw_istore_4 (q := 60) F dM_shutsLeast_58 rfl trivial ?_
      refine top _ 0 rfl _ _ [n0] n0 _ _ _ _ _ _ _ _ _ _ ((hF.up rfl).up rfl) (by rw [up2_nea _ _ (by decide), up2_nea _ _ (by decide)]; exact h26) (by rw [up2_nea _ _ (by decide), up2_nea _ _ (by decide)]; exact hA) (LI.one hn) ?_ rfl rfl
      rw [Int.toNat_natCast]
      exact (hR0.far (v := 0) hn).qu (m := n0)
    | succ j ih =>
      intro i hi V1 w hF h26 hA hI hw
      refine aw_iload_2 (q := 17) F dM_shutsLeast_16 rfl ?_
      refine aw_iload_1 (q := 18) F dM_shutsLeast_17 rfl ?_
      refine aw_icmp_ge (q := 21) (t := 36) F dM_shutsLeast_18 rfl (by decide) (fun c18 => by omega) (fun c18 => ?_)
      refine aw_aload_0 (q := 22) F dM_shutsLeast_21 rfl ?_
      refine av_getaE (q := 25) F fM_31 dM_shutsLeast_22 rfl rfl (by first | exact hM.o | exact hl.o | exact hM.a55 | exact hM.a56 | exact hM.a59 | exact hM.a60 | exact hM.a61 | exact hM.a62) hM.p21 ?_
      refine aw_iload_2 (q := 26) F dM_shutsLeast_25 rfl ?_
      refine aw_ldcw (q := 29) (z := 999999) F dM_shutsLeast_26 rfl kM_329 (by decide) ?_
      refine av_iastore (q := 30) F dM_shutsLeast_29 rfl (by first | exact hM.o | exact hl.o | exact hM.a55 | exact hM.a56 | exact hM.a59 | exact hM.a60 | exact hM.a61 | exact hM.a62) (by omega) (by omega) ?_
      refine aw_iinc_2 (q := 33) F dM_shutsLeast_30 rfl trivial (by constructor <;> omega) ?_
      refine aw_goto (t := 16) F dM_shutsLeast_33 (by decide) ?_
      refine ih (i + 1) (by omega) _ _ (hF.up rfl) (by rw [up2_nea _ _ (by decide)]; exact h26) (by rw [up2_nea _ _ (by decide)]; exact hA) (fun e he => ?_) (by omega)
      rw [show w.toNat = i by omega]
      by_cases q : e = i
      · rw [q, up2_same]
      · rw [up2_nek _ _ q]; exact hI e (by omega)
  have hF0 : MF V (up2 V 53 26 0) := (MF.rf V).fl (by decide)
  refine aw_aload_0 (q := 1) F dM_shutsLeast_0 rfl ?_
  refine aw_iconst (q := 2) F dM_shutsLeast_1 rfl (by decide) ?_
  refine av_putz (q := 5) F fM_286 dM_shutsLeast_2 rfl rfl (wr_9_26 _) (by first | exact hM.o | exact hl.o | exact hM.a55 | exact hM.a56 | exact hM.a59 | exact hM.a60 | exact hM.a61 | exact hM.a62) (by first | exact Or.inl rfl | exact Or.inr rfl | omega) ?_
  refine aw_aload_0 (q := 6) F dM_shutsLeast_5 rfl ?_
  refine av_callV0 (q := 9) (ci := 9) F hm mM_works_i mM_works_n lM_348 dM_shutsLeast_6 rfl rfl rfl (by first | exact hM.o | exact hl.o | exact hM.a55 | exact hM.a56 | exact hM.a59 | exact hM.a60 | exact hM.a61 | exact hM.a62) (by decide) (Nat.le_refl _) (Nat.le_refl _) (Nat.le_of_ble_eq_true rfl) (wM_works hM (fun V2 f6 g6 => ?_))
  have hX : XF (up2 V 53 26 0) V2 := f6
  refine aw_aload_0 (q := 10) F dM_shutsLeast_9 rfl ?_
  refine av_callV0 (q := 13) (ci := 9) F hm mM_arrangedMany_i mM_arrangedMany_n lM_326 dM_shutsLeast_10 rfl rfl rfl (by first | exact hM.o | exact hl.o | exact hM.a55 | exact hM.a56 | exact hM.a59 | exact hM.a60 | exact hM.a61 | exact hM.a62) (by decide) (Nat.le_refl _) (Nat.le_refl _) (Nat.le_of_ble_eq_true rfl) (wM_arrangedMany (c := c) hM hl ((hF0.xf hX).lc h64 hLC) hc ?_)
  refine aw_istore_1 (q := 14) F dM_shutsLeast_13 rfl trivial ?_
  refine aw_iconst (q := 15) F dM_shutsLeast_14 rfl (by decide) ?_
  refine aw_istore_2 (q := 16) F dM_shutsLeast_15 rfl trivial ?_
  exact fill _ 0 (Nat.zero_add _) V2 _ (hF0.xf hX) (by rw [hX 53 (by decide)]; exact up2_same _ _ _ _) (hAS V2 (fun k hk => (g6 k hk).trans (by rw [up2_nea _ _ (by decide)]))) (fun e he => absurd he (by omega)) rfl
theorem wM_shuttings {w : Int} {Q : Nat} (hQ : spc (psC S) ≤ Q) (h : MW V σ l S) (hK : MK K V σ l (setR S (wy (0 < tDn (psT S)) (0 ≤ w ∧ w ≤ 2))) (some (vI (rfD (wy (0 < tDn (psT S)) (0 ≤ w ∧ w ≤ 2)) (fsF (psC S) (goN S w) (Q + 1) [(psA S, 0)] 0 0) (-1))))) : Wp G 4 mM_shuttings [vR 53, vI w] (V, σ) 0 0 K := by
  obtain ⟨g, r1, r2⟩ := m3 vI hK
  have hM := h.mo
  have hc := h.hc
  have hsp := spc_le hc
  refine wp_intro mM_shuttings_i.1 [some (vR 53), some (vI w), none, none, none] rfl rfl (Nat.le_of_ble_eq_true rfl) ?_
  intro X hG F C
  have hm := C.rm
  have loop : ∀ (hd : 0 < tDn (psT S)) (hw : 0 ≤ w ∧ w ≤ 2) (f : Nat → Nat), FF (psC S) (psA S) f → ∀ (i : Nat), i ≤ spc (psC S) → ∀ (V1 : Nat → Nat → Int) (y2 z : Int) (y m1 : Nat), MF (up2 V 53 0 0) V1 → V1 53 26 = 0 → AR (V1 56) (psC S) m1 → (∀ m, m < spc (psC S) → V1 59 (mnN (psC S) m) = f m) → (y = 999999 ∨ ∃ m, m < spc (psC S) ∧ fitP (psC S) (goN S w) (m, 0) = true ∧ f m = y ∧ y ≠ 999999) → (∀ m, m < spc (psC S) → i ≤ mnN (psC S) m → fitP (psC S) (goN S w) (m, 0) = true → y ≤ f m) → y ≤ 999999 → z = (i : Int) - 1 → AW X 37 [some (vR 53), some (vI w), some (vI y2), some (vI y), some (vI z)] [] (V1, σ) 0 0 := by
    intro hd hw f hFF i
    have hl := h.la hd
    have h64 := h.h64 hd
    have hn := h.hn hd
    have hLC := h.th (z := 0) |>.lc hd
    have g' := g hd hw
    induction i with
    | zero =>
      intro hi V1 y2 z y m1 hF h26 hA hV hY hL hy9 hz
      have hres : fsF (psC S) (goN S w) (Q + 1) [(psA S, 0)] 0 0 = if y = 999999 then -2 else (y : Int) := by
        refine SH.one (fsF_SH hn hQ) ?_
        have hle : ∀ k m, SCt (psC S) (psA S) k m → fitP (psC S) (goN S w) (m, 0) = true → y ≤ k ∧ y ≠ 999999 := fun k m hS hfit => by
          obtain ⟨a1, a2, a3⟩ := hFF.le hn hS
          have := hL m a1 (Nat.zero_le _) hfit
          have := (hFF.2.1 m a1 a2).1
          exact ⟨by omega, by omega⟩
        rcases hY with q | ⟨m, q1, q2, q3, q4⟩
        · rw [if_pos q]
          refine Or.inl ⟨rfl, fun k m hS => ?_⟩
          cases hfit : fitP (psC S) (goN S w) (m, 0)
          · rfl
          · exact absurd q (hle k m hS hfit).2
        · rw [if_neg q4]
          have hSm := (hFF.2.1 m q1 (by omega)).2
          rw [q3] at hSm
          exact Or.inr ⟨y, rfl, ⟨m, hSm, q2⟩, fun k m hS hfit => (hle k m hS hfit).1⟩
      rw [hres] at g'
      clear hY hL
      refine aw_iload_4 (q := 39) F dM_shuttings_37 rfl ?_
      refine aw_if_lt (q := 42) (t := 84) F dM_shuttings_39 rfl (by decide) (fun c39 => ?_) (fun c39 => by omega)
      refine aw_aload_0 (q := 85) F dM_shuttings_84 rfl ?_
      refine aw_iload_3 (q := 86) F dM_shuttings_85 rfl ?_
      refine aw_ldcw (q := 89) (z := 999999) F dM_shuttings_86 rfl kM_329 (by decide) ?_
      refine aw_icmp_ne (q := 92) (t := 97) F dM_shuttings_89 rfl (by decide) (fun c89 => ?_) (fun c89 => ?_)
      · refine aw_iload_3 (q := 98) F dM_shuttings_97 rfl ?_
        refine av_callV1 (q := 101) (ci := 9) F hm mM_good_i mM_good_n lM_56 dM_shuttings_98 rfl rfl rfl (by first | exact hM.o | exact hl.o | exact hM.a55 | exact hM.a56 | exact hM.a59 | exact hM.a60 | exact hM.a61 | exact hM.a62) (by decide) (Nat.le_refl _) (Nat.le_refl _) (Nat.le_of_ble_eq_true rfl) (wM_good hM ?_)
        refine aw_iret F C dM_shuttings_101 rfl (Nat.le_refl _) (Nat.le_refl _) ?_
        first | (rw [if_pos (by omega)] at g'; exact MK.fin (S := S) g' h (by decide) hF (Or.inl h26)) | (rw [if_neg (by omega)] at g'; exact MK.fin (S := S) g' h (by decide) hF (Or.inl h26))
      · refine aw_bipush (q := 94) F dM_shuttings_92 rfl (by decide) ?_
        refine aw_goto (t := 98) F dM_shuttings_94 (by decide) ?_
        refine av_callV1 (q := 101) (ci := 9) F hm mM_good_i mM_good_n lM_56 dM_shuttings_98 rfl rfl rfl (by first | exact hM.o | exact hl.o | exact hM.a55 | exact hM.a56 | exact hM.a59 | exact hM.a60 | exact hM.a61 | exact hM.a62) (by decide) (Nat.le_refl _) (Nat.le_refl _) (Nat.le_of_ble_eq_true rfl) (wM_good hM ?_)
        refine aw_iret F C dM_shuttings_101 rfl (Nat.le_refl _) (Nat.le_refl _) ?_
        first | (rw [if_pos (by omega)] at g'; exact MK.fin (S := S) g' h (by decide) hF (Or.inl h26)) | (rw [if_neg (by omega)] at g'; exact MK.fin (S := S) g' h (by decide) hF (Or.inl h26))
    | succ i ih =>
      intro hi V1 y2 z y m1 hF h26 hA hV hY hL hy9 hz
      have hi' : i < spc (psC S) := by omega
      obtain ⟨iv1, iv2⟩ := ivN_sp hi'
      have e59 : ∀ V2 : Nat → Nat → Int, V2 59 = V1 59 → V2 59 z.toNat = f (ivN (psC S) i) := fun V2 e => by rw [e, show z.toNat = mnN (psC S) (ivN (psC S) i) by omega]; exact hV _ iv1
      have hmm : ∀ m, m < spc (psC S) → i ≤ mnN (psC S) m → m = ivN (psC S) i ∨ i + 1 ≤ mnN (psC S) m := fun m h1 h2 => by
        rcases Nat.eq_or_lt_of_le h2 with q | q
        · exact Or.inl (mn_inj h1 iv1 (by omega))
        · exact Or.inr q
      have keep : (fitP (psC S) (goN S w) (ivN (psC S) i, 0) = true → y ≤ f (ivN (psC S) i)) → ∀ (V2 : Nat → Nat → Int) (m2 : Nat) (z' : Int), MF (up2 V 53 0 0) V2 → V2 53 26 = 0 → AR (V2 56) (psC S) m2 → V2 59 = V1 59 → z' = z + -1 → AW X 37 [some (vR 53), some (vI w), some (vI y2), some (vI y), some (vI z')] [] (V2, σ) 0 0 := fun q V2 m2 z' hF2 h262 hA2 e2 hz' =>
        ih (by omega) V2 y2 _ y m2 hF2 h262 hA2 (by rw [e2]; exact hV) hY (fun m h1 h2 h3 => by rcases hmm m h1 h2 with e | e; rw [e] at h3 ⊢; exact q h3; exact hL m h1 e h3) hy9 (by omega)
      have take : fitP (psC S) (goN S w) (ivN (psC S) i, 0) = true → f (ivN (psC S) i) < y → ∀ (V2 : Nat → Nat → Int) (m2 : Nat) (z' : Int), MF (up2 V 53 0 0) V2 → V2 53 26 = 0 → AR (V2 56) (psC S) m2 → V2 59 = V1 59 → z' = z + -1 → AW X 37 [some (vR 53), some (vI w), some (vI y2), some (vI (f (ivN (psC S) i) : Nat)), some (vI z')] [] (V2, σ) 0 0 := fun q1 q2 V2 m2 z' hF2 h262 hA2 e2 hz' =>
        ih (by omega) V2 y2 _ _ m2 hF2 h262 hA2 (by rw [e2]; exact hV) (Or.inr ⟨_, iv1, q1, rfl, by omega⟩) (fun m h1 h2 h3 => by rcases hmm m h1 h2 with e | e; rw [e]; exact Nat.le_refl _; have := hL m h1 e h3; omega) (by omega) (by omega)
      clear ih hY hL
      refine aw_iload_4 (q := 39) F dM_shuttings_37 rfl ?_
      refine aw_if_lt (q := 42) (t := 84) F dM_shuttings_39 rfl (by decide) (fun c39 => by omega) (fun c39 => ?_)
      refine aw_aload_0 (q := 43) F dM_shuttings_42 rfl ?_
      refine av_getaE (q := 46) F fM_31 dM_shuttings_43 rfl rfl (by first | exact hM.o | exact hl.o | exact hM.a55 | exact hM.a56 | exact hM.a59 | exact hM.a60 | exact hM.a61 | exact hM.a62) hM.p21 ?_
      refine aw_iload_4 (q := 48) F dM_shuttings_46 rfl ?_
      refine av_iaload (q := 49) F dM_shuttings_48 rfl (by first | exact hM.o | exact hl.o | exact hM.a55 | exact hM.a56 | exact hM.a59 | exact hM.a60 | exact hM.a61 | exact hM.a62) (by omega) (by omega) ?_
      rw [e59 V1 rfl]
      refine aw_iload_3 (q := 50) F dM_shuttings_49 rfl ?_
      refine aw_icmp_lt (q := 53) (t := 56) F dM_shuttings_50 rfl (by decide) (fun c50 => ?_) (fun c50 => ?_)
      · refine aw_aload_0 (q := 57) F dM_shuttings_56 rfl ?_
        refine aw_iload_4 (q := 59) F dM_shuttings_57 rfl ?_
        refine av_callV1 (q := 62) (ci := 9) F hm mM_lays_i mM_lays_n lM_339 dM_shuttings_59 rfl rfl rfl (by first | exact hM.o | exact hl.o | exact hM.a55 | exact hM.a56 | exact hM.a59 | exact hM.a60 | exact hM.a61 | exact hM.a62) (by decide) (Nat.le_refl _) (Nat.le_refl _) (Nat.le_of_ble_eq_true rfl) (wM_lays (n := ivN (psC S) i) (by omega) iv1 hM hl (hF.lc h64 hLC) hA hc (by omega) (fun V2 f59 g59 => ?_))
        refine aw_aload_0 (q := 63) F dM_shuttings_62 rfl ?_
        refine aw_iload_1 (q := 64) F dM_shuttings_63 rfl ?_
        refine av_callV1 (q := 67) (ci := 9) F hm mM_isDone_i mM_isDone_n lM_376 dM_shuttings_64 rfl rfl rfl (by first | exact hM.o | exact hl.o | exact hM.a55 | exact hM.a56 | exact hM.a59 | exact hM.a60 | exact hM.a61 | exact hM.a62) (by decide) (Nat.le_refl _) (Nat.le_refl _) (Nat.le_of_ble_eq_true rfl) (wM_isDone (n := ivN (psC S) i) hw hM hl ((hF.xf f59).lc h64 hLC) ((hF.xf f59).lv h64 ((h.th (z := 0)).lv hd)) g59 hc (fun c64 => ?_) (fun c64 => ?_))
        · refine aw_if_eq (q := 70) (t := 78) F dM_shuttings_67 rfl (by decide) (fun c67 => absurd c67 (by decide)) (fun c67 => ?_)
          refine aw_aload_0 (q := 71) F dM_shuttings_70 rfl ?_
          refine av_getaE (q := 74) F fM_31 dM_shuttings_71 rfl rfl (by first | exact hM.o | exact hl.o | exact hM.a55 | exact hM.a56 | exact hM.a59 | exact hM.a60 | exact hM.a61 | exact hM.a62) hM.p21 ?_
          refine aw_iload_4 (q := 76) F dM_shuttings_74 rfl ?_
          refine av_iaload (q := 77) F dM_shuttings_76 rfl (by first | exact hM.o | exact hl.o | exact hM.a55 | exact hM.a56 | exact hM.a59 | exact hM.a60 | exact hM.a61 | exact hM.a62) (by omega) (by omega) ?_
          rw [e59 V2 (f59 59 (by decide))]
          refine aw_istore_3 (q := 78) F dM_shuttings_77 rfl trivial ?_
          refine aw_iinc_4 (q := 81) F dM_shuttings_78 rfl trivial (by constructor <;> omega) ?_
          refine aw_goto (t := 37) F dM_shuttings_81 (by decide) ?_
          first
          | exact keep (fun _ => by omega) V1 m1 _ hF h26 hA rfl rfl
          | exact keep (fun q => by rw [c64] at q; cases q) V2 _ _ (hF.xf f59) (by rw [f59 53 (by decide)]; exact h26) g59 (f59 59 (by decide)) rfl
          | exact take c64 (by omega) V2 _ _ (hF.xf f59) (by rw [f59 53 (by decide)]; exact h26) g59 (f59 59 (by decide)) rfl
        · refine aw_if_eq (q := 70) (t := 78) F dM_shuttings_67 rfl (by decide) (fun c67 => ?_) (fun c67 => absurd c67 (by decide))
          refine aw_iinc_4 (q := 81) F dM_shuttings_78 rfl trivial (by constructor <;> omega) ?_
          refine aw_goto (t := 37) F dM_shuttings_81 (by decide) ?_
          first
          | exact keep (fun _ => by omega) V1 m1 _ hF h26 hA rfl rfl
          | exact keep (fun q => by rw [c64] at q; cases q) V2 _ _ (hF.xf f59) (by rw [f59 53 (by decide)]; exact h26) g59 (f59 59 (by decide)) rfl
          | exact take c64 (by omega) V2 _ _ (hF.xf f59) (by rw [f59 53 (by decide)]; exact h26) g59 (f59 59 (by decide)) rfl
      · refine aw_goto (t := 78) F dM_shuttings_53 (by decide) ?_
        refine aw_iinc_4 (q := 81) F dM_shuttings_78 rfl trivial (by constructor <;> omega) ?_
        refine aw_goto (t := 37) F dM_shuttings_81 (by decide) ?_
        first
        | exact keep (fun _ => by omega) V1 m1 _ hF h26 hA rfl rfl
        | exact keep (fun q => by rw [c64] at q; cases q) V2 _ _ (hF.xf f59) (by rw [f59 53 (by decide)]; exact h26) g59 (f59 59 (by decide)) rfl
        | exact take c64 (by omega) V2 _ _ (hF.xf f59) (by rw [f59 53 (by decide)]; exact h26) g59 (f59 59 (by decide)) rfl
  refine aw_aload_0 (q := 1) F dM_shuttings_0 rfl ?_
  refine aw_iconst (q := 2) F dM_shuttings_1 rfl (by decide) ?_
  refine av_puti (q := 5) F fM_46 dM_shuttings_2 rfl rfl (wr_9_0 _) (by first | exact hM.o | exact hl.o | exact hM.a55 | exact hM.a56 | exact hM.a59 | exact hM.a60 | exact hM.a61 | exact hM.a62) ?_
  refine aw_aload_0 (q := 6) F dM_shuttings_5 rfl ?_
  refine aw_iload_1 (q := 7) F dM_shuttings_6 rfl ?_
  refine av_callV1 (q := 10) (ci := 9) F hm mM_refusesWhat_i mM_refusesWhat_n lM_379 dM_shuttings_7 rfl rfl rfl (by first | exact hM.o | exact hl.o | exact hM.a55 | exact hM.a56 | exact hM.a59 | exact hM.a60 | exact hM.a61 | exact hM.a62) (by decide) (Nat.le_refl _) (Nat.le_refl _) (Nat.le_of_ble_eq_true rfl) (wM_refusesWhat h.th (fun d7 w7 => ?_) (fun d7 => ?_) (fun d7 w7 => ?_))
  · refine aw_istore_2 (q := 11) F dM_shuttings_10 rfl trivial ?_
    refine aw_iload_2 (q := 12) F dM_shuttings_11 rfl ?_
    refine aw_if_le (q := 15) (t := 21) F dM_shuttings_12 rfl (by decide) (fun c12 => ?_) (fun c12 => absurd c12 (by decide))
    refine aw_aload_0 (q := 22) F dM_shuttings_21 rfl ?_
    refine av_callV0 (q := 25) (ci := 9) F hm mM_shutsLeast_i mM_shutsLeast_n lM_385 dM_shuttings_22 rfl rfl rfl (by first | exact hM.o | exact hl.o | exact hM.a55 | exact hM.a56 | exact hM.a59 | exact hM.a60 | exact hM.a61 | exact hM.a62) (by decide) (Nat.le_refl _) (Nat.le_refl _) (Nat.le_of_ble_eq_true rfl) (wM_shutsLeast h.th d7 (fun V2 m22 f22 u22 o22 A F9 v22 => ?_))
    refine aw_ldcw (q := 28) (z := 999999) F dM_shuttings_25 rfl kM_329 (by decide) ?_
    refine aw_istore_3 (q := 29) F dM_shuttings_28 rfl trivial ?_
    refine aw_aload_0 (q := 30) F dM_shuttings_29 rfl ?_
    refine av_callV0 (q := 33) (ci := 9) F hm mM_arrangedMany_i mM_arrangedMany_n lM_326 dM_shuttings_30 rfl rfl rfl (by first | exact hM.o | exact hl.o | exact hM.a55 | exact hM.a56 | exact hM.a59 | exact hM.a60 | exact hM.a61 | exact hM.a62) (by decide) (Nat.le_refl _) (Nat.le_refl _) (Nat.le_of_ble_eq_true rfl) (wM_arrangedMany (c := psC S) hM (h.la d7) (u22.lc (h.h64 d7) (h.th.lc d7)) hc ?_)
    refine aw_iconst (q := 34) F dM_shuttings_33 rfl (by decide) ?_
    refine aw_isub (q := 35) F dM_shuttings_34 rfl (by constructor <;> omega) ?_
    refine aw_istore_4 (q := 37) F dM_shuttings_35 rfl trivial ?_
    exact loop d7 w7 f22 F9 (spc (psC S)) (Nat.le_refl _) V2 _ _ 999999 m22 u22 o22 A v22 (Or.inl rfl) (fun m h1 h2 => absurd (mnN_lt h1) (by omega)) (Nat.le_refl _) rfl
  · refine aw_istore_2 (q := 11) F dM_shuttings_10 rfl trivial ?_
    refine aw_iload_2 (q := 12) F dM_shuttings_11 rfl ?_
    refine aw_if_le (q := 15) (t := 21) F dM_shuttings_12 rfl (by decide) (fun c12 => absurd c12 (by decide)) (fun c12 => ?_)
    refine aw_aload_0 (q := 16) F dM_shuttings_15 rfl ?_
    refine aw_iload_2 (q := 17) F dM_shuttings_16 rfl ?_
    refine av_callV1 (q := 20) (ci := 9) F hm mM_refused_i mM_refused_n lM_52 dM_shuttings_17 rfl rfl rfl (by first | exact hM.o | exact hl.o | exact hM.a55 | exact hM.a56 | exact hM.a59 | exact hM.a60 | exact hM.a61 | exact hM.a62) (by decide) (Nat.le_refl _) (Nat.le_refl _) (Nat.le_of_ble_eq_true rfl) (wM_refused hM ?_)
    refine aw_iret F C dM_shuttings_20 rfl (Nat.le_refl _) (Nat.le_refl _) ?_
    first | exact MK.fin0 (r1 d7) h (by decide) | exact MK.fin0 (r2 d7 w7) h (by decide)
  · refine aw_istore_2 (q := 11) F dM_shuttings_10 rfl trivial ?_
    refine aw_iload_2 (q := 12) F dM_shuttings_11 rfl ?_
    refine aw_if_le (q := 15) (t := 21) F dM_shuttings_12 rfl (by decide) (fun c12 => absurd c12 (by decide)) (fun c12 => ?_)
    refine aw_aload_0 (q := 16) F dM_shuttings_15 rfl ?_
    refine aw_iload_2 (q := 17) F dM_shuttings_16 rfl ?_
    refine av_callV1 (q := 20) (ci := 9) F hm mM_refused_i mM_refused_n lM_52 dM_shuttings_17 rfl rfl rfl (by first | exact hM.o | exact hl.o | exact hM.a55 | exact hM.a56 | exact hM.a59 | exact hM.a60 | exact hM.a61 | exact hM.a62) (by decide) (Nat.le_refl _) (Nat.le_refl _) (Nat.le_of_ble_eq_true rfl) (wM_refused hM ?_)
    refine aw_iret F C dM_shuttings_20 rfl (Nat.le_refl _) (Nat.le_refl _) ?_
    first | exact MK.fin0 (r1 d7) h (by decide) | exact MK.fin0 (r2 d7 w7) h (by decide)
end Mod38
