theorem dM_goesOn_0 : decode mM_goesOn.2.1 0 = .ok (.aload_n 0, 1) := by decide +kernel
theorem dM_goesOn_1 : decode mM_goesOn.2.1 1 = .ok (.getfield 78, 3) := by decide +kernel
theorem dM_goesOn_4 : decode mM_goesOn.2.1 4 = .ok (.iconst 5, 1) := by decide +kernel
theorem dM_goesOn_5 : decode mM_goesOn.2.1 5 = .ok (.if_icmp .ne 4, 3) := by decide +kernel
theorem dM_goesOn_8 : decode mM_goesOn.2.1 8 = .ok (.return_, 1) := by decide +kernel
theorem dM_goesOn_9 : decode mM_goesOn.2.1 9 = .ok (.aload_n 0, 1) := by decide +kernel
theorem dM_goesOn_10 : decode mM_goesOn.2.1 10 = .ok (.aload_n 0, 1) := by decide +kernel
theorem dM_goesOn_11 : decode mM_goesOn.2.1 11 = .ok (.getfield 81, 3) := by decide +kernel
theorem dM_goesOn_14 : decode mM_goesOn.2.1 14 = .ok (.invokevirtual 84, 3) := by decide +kernel
theorem dM_goesOn_17 : decode mM_goesOn.2.1 17 = .ok (.bipush 32, 2) := by decide +kernel
theorem dM_goesOn_19 : decode mM_goesOn.2.1 19 = .ok (.if_icmp .ne 16, 3) := by decide +kernel
theorem dM_goesOn_22 : decode mM_goesOn.2.1 22 = .ok (.aload_n 0, 1) := by decide +kernel
theorem dM_goesOn_23 : decode mM_goesOn.2.1 23 = .ok (.dup, 1) := by decide +kernel
theorem dM_goesOn_24 : decode mM_goesOn.2.1 24 = .ok (.getfield 81, 3) := by decide +kernel
theorem dM_goesOn_27 : decode mM_goesOn.2.1 27 = .ok (.iconst 1, 1) := by decide +kernel
theorem dM_goesOn_28 : decode mM_goesOn.2.1 28 = .ok (.iadd, 1) := by decide +kernel
theorem dM_goesOn_29 : decode mM_goesOn.2.1 29 = .ok (.putfield 81, 3) := by decide +kernel
theorem dM_goesOn_32 : decode mM_goesOn.2.1 32 = .ok (.goto (-23), 3) := by decide +kernel
theorem dM_goesOn_35 : decode mM_goesOn.2.1 35 = .ok (.aload_n 0, 1) := by decide +kernel
theorem dM_goesOn_36 : decode mM_goesOn.2.1 36 = .ok (.aload_n 0, 1) := by decide +kernel
theorem dM_goesOn_37 : decode mM_goesOn.2.1 37 = .ok (.getfield 81, 3) := by decide +kernel
theorem dM_goesOn_40 : decode mM_goesOn.2.1 40 = .ok (.putfield 87, 3) := by decide +kernel
theorem dM_goesOn_43 : decode mM_goesOn.2.1 43 = .ok (.aload_n 0, 1) := by decide +kernel
theorem dM_goesOn_44 : decode mM_goesOn.2.1 44 = .ok (.iconst 0, 1) := by decide +kernel
theorem dM_goesOn_45 : decode mM_goesOn.2.1 45 = .ok (.putfield 78, 3) := by decide +kernel
theorem dM_goesOn_48 : decode mM_goesOn.2.1 48 = .ok (.aload_n 0, 1) := by decide +kernel
theorem dM_goesOn_49 : decode mM_goesOn.2.1 49 = .ok (.aload_n 0, 1) := by decide +kernel
theorem dM_goesOn_50 : decode mM_goesOn.2.1 50 = .ok (.getfield 81, 3) := by decide +kernel
theorem dM_goesOn_53 : decode mM_goesOn.2.1 53 = .ok (.invokevirtual 84, 3) := by decide +kernel
theorem dM_goesOn_56 : decode mM_goesOn.2.1 56 = .ok (.istore_n 1, 1) := by decide +kernel
theorem dM_goesOn_57 : decode mM_goesOn.2.1 57 = .ok (.iconst 0, 1) := by decide +kernel
theorem dM_goesOn_58 : decode mM_goesOn.2.1 58 = .ok (.istore_n 2, 1) := by decide +kernel
theorem dM_goesOn_59 : decode mM_goesOn.2.1 59 = .ok (.iload_n 1, 1) := by decide +kernel
theorem dM_goesOn_60 : decode mM_goesOn.2.1 60 = .ok (.iconst (-1), 1) := by decide +kernel
theorem dM_goesOn_61 : decode mM_goesOn.2.1 61 = .ok (.if_icmp .ne 11, 3) := by decide +kernel
theorem dM_goesOn_64 : decode mM_goesOn.2.1 64 = .ok (.aload_n 0, 1) := by decide +kernel
theorem dM_goesOn_65 : decode mM_goesOn.2.1 65 = .ok (.iconst 1, 1) := by decide +kernel
theorem dM_goesOn_66 : decode mM_goesOn.2.1 66 = .ok (.putfield 78, 3) := by decide +kernel
theorem dM_goesOn_69 : decode mM_goesOn.2.1 69 = .ok (.goto 196, 3) := by decide +kernel
theorem dM_goesOn_72 : decode mM_goesOn.2.1 72 = .ok (.iload_n 1, 1) := by decide +kernel
theorem dM_goesOn_73 : decode mM_goesOn.2.1 73 = .ok (.invokestatic 90, 3) := by decide +kernel
theorem dM_goesOn_76 : decode mM_goesOn.2.1 76 = .ok (.ifCond .eq 85, 3) := by decide +kernel
theorem dM_goesOn_79 : decode mM_goesOn.2.1 79 = .ok (.aload_n 0, 1) := by decide +kernel
theorem dM_goesOn_80 : decode mM_goesOn.2.1 80 = .ok (.lconst 0, 1) := by decide +kernel
theorem dM_goesOn_81 : decode mM_goesOn.2.1 81 = .ok (.putfield 94, 3) := by decide +kernel
theorem dM_goesOn_84 : decode mM_goesOn.2.1 84 = .ok (.aload_n 0, 1) := by decide +kernel
theorem dM_goesOn_85 : decode mM_goesOn.2.1 85 = .ok (.aload_n 0, 1) := by decide +kernel
theorem dM_goesOn_86 : decode mM_goesOn.2.1 86 = .ok (.getfield 81, 3) := by decide +kernel
theorem dM_goesOn_89 : decode mM_goesOn.2.1 89 = .ok (.invokevirtual 84, 3) := by decide +kernel
theorem dM_goesOn_92 : decode mM_goesOn.2.1 92 = .ok (.invokestatic 90, 3) := by decide +kernel
theorem dM_goesOn_95 : decode mM_goesOn.2.1 95 = .ok (.ifCond .eq 52, 3) := by decide +kernel
theorem dM_goesOn_98 : decode mM_goesOn.2.1 98 = .ok (.iload_n 2, 1) := by decide +kernel
theorem dM_goesOn_99 : decode mM_goesOn.2.1 99 = .ok (.bipush 8, 2) := by decide +kernel
theorem dM_goesOn_101 : decode mM_goesOn.2.1 101 = .ok (.if_icmp .ge 30, 3) := by decide +kernel
theorem dM_goesOn_104 : decode mM_goesOn.2.1 104 = .ok (.aload_n 0, 1) := by decide +kernel
theorem dM_goesOn_105 : decode mM_goesOn.2.1 105 = .ok (.ldc2_w 72, 3) := by decide +kernel
theorem dM_goesOn_108 : decode mM_goesOn.2.1 108 = .ok (.aload_n 0, 1) := by decide +kernel
theorem dM_goesOn_109 : decode mM_goesOn.2.1 109 = .ok (.getfield 94, 3) := by decide +kernel
theorem dM_goesOn_112 : decode mM_goesOn.2.1 112 = .ok (.lmul, 1) := by decide +kernel
theorem dM_goesOn_113 : decode mM_goesOn.2.1 113 = .ok (.aload_n 0, 1) := by decide +kernel
theorem dM_goesOn_114 : decode mM_goesOn.2.1 114 = .ok (.aload_n 0, 1) := by decide +kernel
theorem dM_goesOn_115 : decode mM_goesOn.2.1 115 = .ok (.getfield 81, 3) := by decide +kernel
theorem dM_goesOn_118 : decode mM_goesOn.2.1 118 = .ok (.invokevirtual 84, 3) := by decide +kernel
theorem dM_goesOn_121 : decode mM_goesOn.2.1 121 = .ok (.bipush 97, 2) := by decide +kernel
theorem dM_goesOn_123 : decode mM_goesOn.2.1 123 = .ok (.isub, 1) := by decide +kernel
theorem dM_goesOn_124 : decode mM_goesOn.2.1 124 = .ok (.iconst 1, 1) := by decide +kernel
theorem dM_goesOn_125 : decode mM_goesOn.2.1 125 = .ok (.iadd, 1) := by decide +kernel
theorem dM_goesOn_126 : decode mM_goesOn.2.1 126 = .ok (.i2l, 1) := by decide +kernel
theorem dM_goesOn_127 : decode mM_goesOn.2.1 127 = .ok (.ladd, 1) := by decide +kernel
theorem dM_goesOn_128 : decode mM_goesOn.2.1 128 = .ok (.putfield 94, 3) := by decide +kernel
theorem dM_goesOn_131 : decode mM_goesOn.2.1 131 = .ok (.iinc 2 1, 3) := by decide +kernel
theorem dM_goesOn_134 : decode mM_goesOn.2.1 134 = .ok (.aload_n 0, 1) := by decide +kernel
theorem dM_goesOn_135 : decode mM_goesOn.2.1 135 = .ok (.dup, 1) := by decide +kernel
theorem dM_goesOn_136 : decode mM_goesOn.2.1 136 = .ok (.getfield 81, 3) := by decide +kernel
theorem dM_goesOn_139 : decode mM_goesOn.2.1 139 = .ok (.iconst 1, 1) := by decide +kernel
theorem dM_goesOn_140 : decode mM_goesOn.2.1 140 = .ok (.iadd, 1) := by decide +kernel
theorem dM_goesOn_141 : decode mM_goesOn.2.1 141 = .ok (.putfield 81, 3) := by decide +kernel
theorem dM_goesOn_144 : decode mM_goesOn.2.1 144 = .ok (.goto (-60), 3) := by decide +kernel
theorem dM_goesOn_147 : decode mM_goesOn.2.1 147 = .ok (.iload_n 2, 1) := by decide +kernel
theorem dM_goesOn_148 : decode mM_goesOn.2.1 148 = .ok (.bipush 8, 2) := by decide +kernel
theorem dM_goesOn_150 : decode mM_goesOn.2.1 150 = .ok (.if_icmp .gt 115, 3) := by decide +kernel
theorem dM_goesOn_153 : decode mM_goesOn.2.1 153 = .ok (.aload_n 0, 1) := by decide +kernel
theorem dM_goesOn_154 : decode mM_goesOn.2.1 154 = .ok (.iconst 2, 1) := by decide +kernel
theorem dM_goesOn_155 : decode mM_goesOn.2.1 155 = .ok (.putfield 78, 3) := by decide +kernel
theorem dM_goesOn_158 : decode mM_goesOn.2.1 158 = .ok (.goto 107, 3) := by decide +kernel
theorem dM_goesOn_161 : decode mM_goesOn.2.1 161 = .ok (.iload_n 1, 1) := by decide +kernel
theorem dM_goesOn_162 : decode mM_goesOn.2.1 162 = .ok (.invokestatic 98, 3) := by decide +kernel
theorem dM_goesOn_165 : decode mM_goesOn.2.1 165 = .ok (.ifCond .eq 79, 3) := by decide +kernel
theorem dM_goesOn_168 : decode mM_goesOn.2.1 168 = .ok (.aload_n 0, 1) := by decide +kernel
theorem dM_goesOn_169 : decode mM_goesOn.2.1 169 = .ok (.iconst 0, 1) := by decide +kernel
theorem dM_goesOn_170 : decode mM_goesOn.2.1 170 = .ok (.putfield 101, 3) := by decide +kernel
theorem dM_goesOn_173 : decode mM_goesOn.2.1 173 = .ok (.aload_n 0, 1) := by decide +kernel
theorem dM_goesOn_174 : decode mM_goesOn.2.1 174 = .ok (.aload_n 0, 1) := by decide +kernel
theorem dM_goesOn_175 : decode mM_goesOn.2.1 175 = .ok (.getfield 81, 3) := by decide +kernel
theorem dM_goesOn_178 : decode mM_goesOn.2.1 178 = .ok (.invokevirtual 84, 3) := by decide +kernel
theorem dM_goesOn_181 : decode mM_goesOn.2.1 181 = .ok (.invokestatic 98, 3) := by decide +kernel
theorem dM_goesOn_184 : decode mM_goesOn.2.1 184 = .ok (.ifCond .eq 47, 3) := by decide +kernel
theorem dM_goesOn_187 : decode mM_goesOn.2.1 187 = .ok (.iload_n 2, 1) := by decide +kernel
theorem dM_goesOn_188 : decode mM_goesOn.2.1 188 = .ok (.iconst 3, 1) := by decide +kernel
theorem dM_goesOn_189 : decode mM_goesOn.2.1 189 = .ok (.if_icmp .ge 26, 3) := by decide +kernel
theorem dM_goesOn_192 : decode mM_goesOn.2.1 192 = .ok (.aload_n 0, 1) := by decide +kernel
theorem dM_goesOn_193 : decode mM_goesOn.2.1 193 = .ok (.bipush 10, 2) := by decide +kernel
theorem dM_goesOn_195 : decode mM_goesOn.2.1 195 = .ok (.aload_n 0, 1) := by decide +kernel
theorem dM_goesOn_196 : decode mM_goesOn.2.1 196 = .ok (.getfield 101, 3) := by decide +kernel
theorem dM_goesOn_199 : decode mM_goesOn.2.1 199 = .ok (.imul, 1) := by decide +kernel
theorem dM_goesOn_200 : decode mM_goesOn.2.1 200 = .ok (.aload_n 0, 1) := by decide +kernel
theorem dM_goesOn_201 : decode mM_goesOn.2.1 201 = .ok (.aload_n 0, 1) := by decide +kernel
theorem dM_goesOn_202 : decode mM_goesOn.2.1 202 = .ok (.getfield 81, 3) := by decide +kernel
theorem dM_goesOn_205 : decode mM_goesOn.2.1 205 = .ok (.invokevirtual 84, 3) := by decide +kernel
theorem dM_goesOn_208 : decode mM_goesOn.2.1 208 = .ok (.iadd, 1) := by decide +kernel
theorem dM_goesOn_209 : decode mM_goesOn.2.1 209 = .ok (.bipush 48, 2) := by decide +kernel
theorem dM_goesOn_211 : decode mM_goesOn.2.1 211 = .ok (.isub, 1) := by decide +kernel
theorem dM_goesOn_212 : decode mM_goesOn.2.1 212 = .ok (.putfield 101, 3) := by decide +kernel
theorem dM_goesOn_215 : decode mM_goesOn.2.1 215 = .ok (.iinc 2 1, 3) := by decide +kernel
theorem dM_goesOn_218 : decode mM_goesOn.2.1 218 = .ok (.aload_n 0, 1) := by decide +kernel
theorem dM_goesOn_219 : decode mM_goesOn.2.1 219 = .ok (.dup, 1) := by decide +kernel
theorem dM_goesOn_220 : decode mM_goesOn.2.1 220 = .ok (.getfield 81, 3) := by decide +kernel
theorem dM_goesOn_223 : decode mM_goesOn.2.1 223 = .ok (.iconst 1, 1) := by decide +kernel
theorem dM_goesOn_224 : decode mM_goesOn.2.1 224 = .ok (.iadd, 1) := by decide +kernel
theorem dM_goesOn_225 : decode mM_goesOn.2.1 225 = .ok (.putfield 81, 3) := by decide +kernel
theorem dM_goesOn_228 : decode mM_goesOn.2.1 228 = .ok (.goto (-55), 3) := by decide +kernel
theorem dM_goesOn_231 : decode mM_goesOn.2.1 231 = .ok (.iload_n 2, 1) := by decide +kernel
theorem dM_goesOn_232 : decode mM_goesOn.2.1 232 = .ok (.iconst 3, 1) := by decide +kernel
theorem dM_goesOn_233 : decode mM_goesOn.2.1 233 = .ok (.if_icmp .gt 32, 3) := by decide +kernel
theorem dM_goesOn_236 : decode mM_goesOn.2.1 236 = .ok (.aload_n 0, 1) := by decide +kernel
theorem dM_goesOn_237 : decode mM_goesOn.2.1 237 = .ok (.iconst 3, 1) := by decide +kernel
theorem dM_goesOn_238 : decode mM_goesOn.2.1 238 = .ok (.putfield 78, 3) := by decide +kernel
theorem dM_goesOn_241 : decode mM_goesOn.2.1 241 = .ok (.goto 24, 3) := by decide +kernel
theorem dM_goesOn_244 : decode mM_goesOn.2.1 244 = .ok (.iload_n 1, 1) := by decide +kernel
theorem dM_goesOn_245 : decode mM_goesOn.2.1 245 = .ok (.bipush 59, 2) := by decide +kernel
theorem dM_goesOn_247 : decode mM_goesOn.2.1 247 = .ok (.if_icmp .ne 18, 3) := by decide +kernel
theorem dM_goesOn_250 : decode mM_goesOn.2.1 250 = .ok (.aload_n 0, 1) := by decide +kernel
theorem dM_goesOn_251 : decode mM_goesOn.2.1 251 = .ok (.iconst 4, 1) := by decide +kernel
theorem dM_goesOn_252 : decode mM_goesOn.2.1 252 = .ok (.putfield 78, 3) := by decide +kernel
theorem dM_goesOn_255 : decode mM_goesOn.2.1 255 = .ok (.aload_n 0, 1) := by decide +kernel
theorem dM_goesOn_256 : decode mM_goesOn.2.1 256 = .ok (.dup, 1) := by decide +kernel
theorem dM_goesOn_257 : decode mM_goesOn.2.1 257 = .ok (.getfield 81, 3) := by decide +kernel
theorem dM_goesOn_260 : decode mM_goesOn.2.1 260 = .ok (.iconst 1, 1) := by decide +kernel
theorem dM_goesOn_261 : decode mM_goesOn.2.1 261 = .ok (.iadd, 1) := by decide +kernel
theorem dM_goesOn_262 : decode mM_goesOn.2.1 262 = .ok (.putfield 81, 3) := by decide +kernel
theorem dM_goesOn_265 : decode mM_goesOn.2.1 265 = .ok (.return_, 1) := by decide +kernel
theorem dM_byteAt_0 : decode mM_byteAt.2.1 0 = .ok (.iload_n 1, 1) := by decide +kernel
theorem dM_byteAt_1 : decode mM_byteAt.2.1 1 = .ok (.aload_n 0, 1) := by decide +kernel
theorem dM_byteAt_2 : decode mM_byteAt.2.1 2 = .ok (.getfield 63, 3) := by decide +kernel
theorem dM_byteAt_5 : decode mM_byteAt.2.1 5 = .ok (.if_icmp .ge 16, 3) := by decide +kernel
theorem dM_byteAt_8 : decode mM_byteAt.2.1 8 = .ok (.aload_n 0, 1) := by decide +kernel
theorem dM_byteAt_9 : decode mM_byteAt.2.1 9 = .ok (.getfield 13, 3) := by decide +kernel
theorem dM_byteAt_12 : decode mM_byteAt.2.1 12 = .ok (.iload_n 1, 1) := by decide +kernel
theorem dM_byteAt_13 : decode mM_byteAt.2.1 13 = .ok (.baload, 1) := by decide +kernel
theorem dM_byteAt_14 : decode mM_byteAt.2.1 14 = .ok (.sipush 255, 3) := by decide +kernel
theorem dM_byteAt_17 : decode mM_byteAt.2.1 17 = .ok (.iand, 1) := by decide +kernel
theorem dM_byteAt_18 : decode mM_byteAt.2.1 18 = .ok (.goto 4, 3) := by decide +kernel
theorem dM_byteAt_21 : decode mM_byteAt.2.1 21 = .ok (.iconst (-1), 1) := by decide +kernel
theorem dM_byteAt_22 : decode mM_byteAt.2.1 22 = .ok (.ireturn, 1) := by decide +kernel
theorem dM_isLetter_0 : decode mM_isLetter.2.1 0 = .ok (.iload_n 0, 1) := by decide +kernel
theorem dM_isLetter_1 : decode mM_isLetter.2.1 1 = .ok (.bipush 97, 2) := by decide +kernel
theorem dM_isLetter_3 : decode mM_isLetter.2.1 3 = .ok (.if_icmp .lt 13, 3) := by decide +kernel
theorem dM_isLetter_6 : decode mM_isLetter.2.1 6 = .ok (.iload_n 0, 1) := by decide +kernel
theorem dM_isLetter_7 : decode mM_isLetter.2.1 7 = .ok (.bipush 122, 2) := by decide +kernel
theorem dM_isLetter_9 : decode mM_isLetter.2.1 9 = .ok (.if_icmp .gt 7, 3) := by decide +kernel
theorem dM_isLetter_12 : decode mM_isLetter.2.1 12 = .ok (.iconst 1, 1) := by decide +kernel
theorem dM_isLetter_13 : decode mM_isLetter.2.1 13 = .ok (.goto 4, 3) := by decide +kernel
theorem dM_isLetter_16 : decode mM_isLetter.2.1 16 = .ok (.iconst 0, 1) := by decide +kernel
theorem dM_isLetter_17 : decode mM_isLetter.2.1 17 = .ok (.ireturn, 1) := by decide +kernel
theorem dM_isDigit_0 : decode mM_isDigit.2.1 0 = .ok (.iload_n 0, 1) := by decide +kernel
theorem dM_isDigit_1 : decode mM_isDigit.2.1 1 = .ok (.bipush 48, 2) := by decide +kernel
theorem dM_isDigit_3 : decode mM_isDigit.2.1 3 = .ok (.if_icmp .lt 13, 3) := by decide +kernel
theorem dM_isDigit_6 : decode mM_isDigit.2.1 6 = .ok (.iload_n 0, 1) := by decide +kernel
theorem dM_isDigit_7 : decode mM_isDigit.2.1 7 = .ok (.bipush 57, 2) := by decide +kernel
theorem dM_isDigit_9 : decode mM_isDigit.2.1 9 = .ok (.if_icmp .gt 7, 3) := by decide +kernel
theorem dM_isDigit_12 : decode mM_isDigit.2.1 12 = .ok (.iconst 1, 1) := by decide +kernel
theorem dM_isDigit_13 : decode mM_isDigit.2.1 13 = .ok (.goto 4, 3) := by decide +kernel
theorem dM_isDigit_16 : decode mM_isDigit.2.1 16 = .ok (.iconst 0, 1) := by decide +kernel
theorem dM_isDigit_17 : decode mM_isDigit.2.1 17 = .ok (.ireturn, 1) := by decide +kernel
theorem dM_packed_0 : decode mM_packed.2.1 0 = .ok (.lconst 0, 1) := by decide +kernel
theorem dM_packed_1 : decode mM_packed.2.1 1 = .ok (.lstore_n 1, 1) := by decide +kernel
theorem dM_packed_2 : decode mM_packed.2.1 2 = .ok (.iconst 0, 1) := by decide +kernel
theorem dM_packed_3 : decode mM_packed.2.1 3 = .ok (.istore_n 3, 1) := by decide +kernel
theorem dM_packed_4 : decode mM_packed.2.1 4 = .ok (.iload_n 3, 1) := by decide +kernel
theorem dM_packed_5 : decode mM_packed.2.1 5 = .ok (.aload_n 0, 1) := by decide +kernel
theorem dM_packed_6 : decode mM_packed.2.1 6 = .ok (.invokevirtual 66, 3) := by decide +kernel
theorem dM_packed_9 : decode mM_packed.2.1 9 = .ok (.if_icmp .ge 27, 3) := by decide +kernel
theorem dM_packed_12 : decode mM_packed.2.1 12 = .ok (.ldc2_w 72, 3) := by decide +kernel
theorem dM_packed_15 : decode mM_packed.2.1 15 = .ok (.lload_n 1, 1) := by decide +kernel
theorem dM_packed_16 : decode mM_packed.2.1 16 = .ok (.lmul, 1) := by decide +kernel
theorem dM_packed_17 : decode mM_packed.2.1 17 = .ok (.aload_n 0, 1) := by decide +kernel
theorem dM_packed_18 : decode mM_packed.2.1 18 = .ok (.iload_n 3, 1) := by decide +kernel
theorem dM_packed_19 : decode mM_packed.2.1 19 = .ok (.invokevirtual 74, 3) := by decide +kernel
theorem dM_packed_22 : decode mM_packed.2.1 22 = .ok (.bipush 97, 2) := by decide +kernel
theorem dM_packed_24 : decode mM_packed.2.1 24 = .ok (.isub, 1) := by decide +kernel
theorem dM_packed_25 : decode mM_packed.2.1 25 = .ok (.iconst 1, 1) := by decide +kernel
theorem dM_packed_26 : decode mM_packed.2.1 26 = .ok (.iadd, 1) := by decide +kernel
theorem dM_packed_27 : decode mM_packed.2.1 27 = .ok (.i2l, 1) := by decide +kernel
theorem dM_packed_28 : decode mM_packed.2.1 28 = .ok (.ladd, 1) := by decide +kernel
theorem dM_packed_29 : decode mM_packed.2.1 29 = .ok (.lstore_n 1, 1) := by decide +kernel
theorem dM_packed_30 : decode mM_packed.2.1 30 = .ok (.iinc 3 1, 3) := by decide +kernel
theorem dM_packed_33 : decode mM_packed.2.1 33 = .ok (.goto (-29), 3) := by decide +kernel
theorem dM_packed_36 : decode mM_packed.2.1 36 = .ok (.lload_n 1, 1) := by decide +kernel
theorem dM_packed_37 : decode mM_packed.2.1 37 = .ok (.lreturn, 1) := by decide +kernel
theorem dM_isWord_0 : decode mM_isWord.2.1 0 = .ok (.aload_n 0, 1) := by decide +kernel
theorem dM_isWord_1 : decode mM_isWord.2.1 1 = .ok (.getfield 78, 3) := by decide +kernel
theorem dM_isWord_4 : decode mM_isWord.2.1 4 = .ok (.iconst 2, 1) := by decide +kernel
theorem dM_isWord_5 : decode mM_isWord.2.1 5 = .ok (.if_icmp .ne 19, 3) := by decide +kernel
theorem dM_isWord_8 : decode mM_isWord.2.1 8 = .ok (.aload_n 0, 1) := by decide +kernel
theorem dM_isWord_9 : decode mM_isWord.2.1 9 = .ok (.getfield 94, 3) := by decide +kernel
theorem dM_isWord_12 : decode mM_isWord.2.1 12 = .ok (.aload_n 1, 1) := by decide +kernel
theorem dM_isWord_13 : decode mM_isWord.2.1 13 = .ok (.invokestatic 110, 3) := by decide +kernel
theorem dM_isWord_16 : decode mM_isWord.2.1 16 = .ok (.lcmp, 1) := by decide +kernel
theorem dM_isWord_17 : decode mM_isWord.2.1 17 = .ok (.ifCond .ne 7, 3) := by decide +kernel
theorem dM_isWord_20 : decode mM_isWord.2.1 20 = .ok (.iconst 1, 1) := by decide +kernel
theorem dM_isWord_21 : decode mM_isWord.2.1 21 = .ok (.goto 4, 3) := by decide +kernel
theorem dM_isWord_24 : decode mM_isWord.2.1 24 = .ok (.iconst 0, 1) := by decide +kernel
theorem dM_isWord_25 : decode mM_isWord.2.1 25 = .ok (.ireturn, 1) := by decide +kernel
theorem dM_isName_0 : decode mM_isName.2.1 0 = .ok (.aload_n 0, 1) := by decide +kernel
theorem dM_isName_1 : decode mM_isName.2.1 1 = .ok (.getfield 78, 3) := by decide +kernel
theorem dM_isName_4 : decode mM_isName.2.1 4 = .ok (.iconst 2, 1) := by decide +kernel
theorem dM_isName_5 : decode mM_isName.2.1 5 = .ok (.if_icmp .ne 57, 3) := by decide +kernel
theorem dM_isName_8 : decode mM_isName.2.1 8 = .ok (.aload_n 0, 1) := by decide +kernel
theorem dM_isName_9 : decode mM_isName.2.1 9 = .ok (.ldc 117, 2) := by decide +kernel
theorem dM_isName_11 : decode mM_isName.2.1 11 = .ok (.invokevirtual 119, 3) := by decide +kernel
theorem dM_isName_14 : decode mM_isName.2.1 14 = .ok (.ifCond .ne 48, 3) := by decide +kernel
theorem dM_isName_17 : decode mM_isName.2.1 17 = .ok (.aload_n 0, 1) := by decide +kernel
theorem dM_isName_18 : decode mM_isName.2.1 18 = .ok (.ldc 123, 2) := by decide +kernel
theorem dM_isName_20 : decode mM_isName.2.1 20 = .ok (.invokevirtual 119, 3) := by decide +kernel
theorem dM_isName_23 : decode mM_isName.2.1 23 = .ok (.ifCond .ne 39, 3) := by decide +kernel
theorem dM_isName_26 : decode mM_isName.2.1 26 = .ok (.aload_n 0, 1) := by decide +kernel
theorem dM_isName_27 : decode mM_isName.2.1 27 = .ok (.ldc 125, 2) := by decide +kernel
theorem dM_isName_29 : decode mM_isName.2.1 29 = .ok (.invokevirtual 119, 3) := by decide +kernel
theorem dM_isName_32 : decode mM_isName.2.1 32 = .ok (.ifCond .ne 30, 3) := by decide +kernel
theorem dM_isName_35 : decode mM_isName.2.1 35 = .ok (.aload_n 0, 1) := by decide +kernel
theorem dM_isName_36 : decode mM_isName.2.1 36 = .ok (.ldc 127, 2) := by decide +kernel
theorem dM_isName_38 : decode mM_isName.2.1 38 = .ok (.invokevirtual 119, 3) := by decide +kernel
theorem dM_isName_41 : decode mM_isName.2.1 41 = .ok (.ifCond .ne 21, 3) := by decide +kernel
theorem dM_isName_44 : decode mM_isName.2.1 44 = .ok (.aload_n 0, 1) := by decide +kernel
theorem dM_isName_45 : decode mM_isName.2.1 45 = .ok (.ldc 129, 2) := by decide +kernel
theorem dM_isName_47 : decode mM_isName.2.1 47 = .ok (.invokevirtual 119, 3) := by decide +kernel
theorem dM_isName_50 : decode mM_isName.2.1 50 = .ok (.ifCond .ne 12, 3) := by decide +kernel
theorem dM_isName_53 : decode mM_isName.2.1 53 = .ok (.aload_n 0, 1) := by decide +kernel
theorem dM_isName_54 : decode mM_isName.2.1 54 = .ok (.ldc 131, 2) := by decide +kernel
theorem dM_isName_56 : decode mM_isName.2.1 56 = .ok (.invokevirtual 119, 3) := by decide +kernel
theorem dM_isName_59 : decode mM_isName.2.1 59 = .ok (.ifCond .eq 5, 3) := by decide +kernel
theorem dM_isName_62 : decode mM_isName.2.1 62 = .ok (.iconst 0, 1) := by decide +kernel
theorem dM_isName_63 : decode mM_isName.2.1 63 = .ok (.ireturn, 1) := by decide +kernel
theorem dM_isName_64 : decode mM_isName.2.1 64 = .ok (.aload_n 0, 1) := by decide +kernel
theorem dM_isName_65 : decode mM_isName.2.1 65 = .ok (.ldc 133, 2) := by decide +kernel
theorem dM_isName_67 : decode mM_isName.2.1 67 = .ok (.invokevirtual 119, 3) := by decide +kernel
theorem dM_isName_70 : decode mM_isName.2.1 70 = .ok (.ifCond .ne 43, 3) := by decide +kernel
theorem dM_isName_73 : decode mM_isName.2.1 73 = .ok (.aload_n 0, 1) := by decide +kernel
theorem dM_isName_74 : decode mM_isName.2.1 74 = .ok (.ldc 135, 2) := by decide +kernel
theorem dM_isName_76 : decode mM_isName.2.1 76 = .ok (.invokevirtual 119, 3) := by decide +kernel
theorem dM_isName_79 : decode mM_isName.2.1 79 = .ok (.ifCond .ne 34, 3) := by decide +kernel
theorem dM_isName_82 : decode mM_isName.2.1 82 = .ok (.aload_n 0, 1) := by decide +kernel
theorem dM_isName_83 : decode mM_isName.2.1 83 = .ok (.ldc 137, 2) := by decide +kernel
theorem dM_isName_85 : decode mM_isName.2.1 85 = .ok (.invokevirtual 119, 3) := by decide +kernel
theorem dM_isName_88 : decode mM_isName.2.1 88 = .ok (.ifCond .ne 25, 3) := by decide +kernel
theorem dM_isName_91 : decode mM_isName.2.1 91 = .ok (.aload_n 0, 1) := by decide +kernel
theorem dM_isName_92 : decode mM_isName.2.1 92 = .ok (.ldc 139, 2) := by decide +kernel
theorem dM_isName_94 : decode mM_isName.2.1 94 = .ok (.invokevirtual 119, 3) := by decide +kernel
theorem dM_isName_97 : decode mM_isName.2.1 97 = .ok (.ifCond .ne 16, 3) := by decide +kernel
theorem dM_isName_100 : decode mM_isName.2.1 100 = .ok (.aload_n 0, 1) := by decide +kernel
theorem dM_isName_101 : decode mM_isName.2.1 101 = .ok (.ldc 141, 2) := by decide +kernel
theorem dM_isName_103 : decode mM_isName.2.1 103 = .ok (.invokevirtual 119, 3) := by decide +kernel
theorem dM_isName_106 : decode mM_isName.2.1 106 = .ok (.ifCond .ne 7, 3) := by decide +kernel
theorem dM_isName_109 : decode mM_isName.2.1 109 = .ok (.iconst 1, 1) := by decide +kernel
theorem dM_isName_110 : decode mM_isName.2.1 110 = .ok (.goto 4, 3) := by decide +kernel
theorem dM_isName_113 : decode mM_isName.2.1 113 = .ok (.iconst 0, 1) := by decide +kernel
theorem dM_isName_114 : decode mM_isName.2.1 114 = .ok (.ireturn, 1) := by decide +kernel
theorem dM_flaw_0 : decode mM_flaw.2.1 0 = .ok (.aload_n 0, 1) := by decide +kernel
theorem dM_flaw_1 : decode mM_flaw.2.1 1 = .ok (.getfield 78, 3) := by decide +kernel
theorem dM_flaw_4 : decode mM_flaw.2.1 4 = .ok (.iconst 5, 1) := by decide +kernel
theorem dM_flaw_5 : decode mM_flaw.2.1 5 = .ok (.if_icmp .ne 4, 3) := by decide +kernel
theorem dM_flaw_8 : decode mM_flaw.2.1 8 = .ok (.return_, 1) := by decide +kernel
theorem dM_flaw_9 : decode mM_flaw.2.1 9 = .ok (.aload_n 0, 1) := by decide +kernel
theorem dM_flaw_10 : decode mM_flaw.2.1 10 = .ok (.iload_n 1, 1) := by decide +kernel
theorem dM_flaw_11 : decode mM_flaw.2.1 11 = .ok (.putfield 104, 3) := by decide +kernel
theorem dM_flaw_14 : decode mM_flaw.2.1 14 = .ok (.aload_n 0, 1) := by decide +kernel
theorem dM_flaw_15 : decode mM_flaw.2.1 15 = .ok (.aload_n 0, 1) := by decide +kernel
theorem dM_flaw_16 : decode mM_flaw.2.1 16 = .ok (.getfield 87, 3) := by decide +kernel
theorem dM_flaw_19 : decode mM_flaw.2.1 19 = .ok (.putfield 107, 3) := by decide +kernel
theorem dM_flaw_22 : decode mM_flaw.2.1 22 = .ok (.aload_n 0, 1) := by decide +kernel
theorem dM_flaw_23 : decode mM_flaw.2.1 23 = .ok (.iconst 5, 1) := by decide +kernel
theorem dM_flaw_24 : decode mM_flaw.2.1 24 = .ok (.putfield 78, 3) := by decide +kernel
theorem dM_flaw_27 : decode mM_flaw.2.1 27 = .ok (.return_, 1) := by decide +kernel
theorem dM_eatsSemicolon_0 : decode mM_eatsSemicolon.2.1 0 = .ok (.aload_n 0, 1) := by decide +kernel
theorem dM_eatsSemicolon_1 : decode mM_eatsSemicolon.2.1 1 = .ok (.getfield 78, 3) := by decide +kernel
theorem dM_eatsSemicolon_4 : decode mM_eatsSemicolon.2.1 4 = .ok (.iconst 4, 1) := by decide +kernel
theorem dM_eatsSemicolon_5 : decode mM_eatsSemicolon.2.1 5 = .ok (.if_icmp .ne 7, 3) := by decide +kernel
theorem dM_eatsSemicolon_8 : decode mM_eatsSemicolon.2.1 8 = .ok (.iconst 1, 1) := by decide +kernel
theorem dM_eatsSemicolon_9 : decode mM_eatsSemicolon.2.1 9 = .ok (.goto 4, 3) := by decide +kernel
theorem dM_eatsSemicolon_12 : decode mM_eatsSemicolon.2.1 12 = .ok (.iconst 0, 1) := by decide +kernel
theorem dM_eatsSemicolon_13 : decode mM_eatsSemicolon.2.1 13 = .ok (.istore_n 1, 1) := by decide +kernel
theorem dM_eatsSemicolon_14 : decode mM_eatsSemicolon.2.1 14 = .ok (.iload_n 1, 1) := by decide +kernel
theorem dM_eatsSemicolon_15 : decode mM_eatsSemicolon.2.1 15 = .ok (.ifCond .eq 7, 3) := by decide +kernel
theorem dM_eatsSemicolon_18 : decode mM_eatsSemicolon.2.1 18 = .ok (.aload_n 0, 1) := by decide +kernel
theorem dM_eatsSemicolon_19 : decode mM_eatsSemicolon.2.1 19 = .ok (.invokevirtual 114, 3) := by decide +kernel
theorem dM_eatsSemicolon_22 : decode mM_eatsSemicolon.2.1 22 = .ok (.iload_n 1, 1) := by decide +kernel
theorem dM_eatsSemicolon_23 : decode mM_eatsSemicolon.2.1 23 = .ok (.ireturn, 1) := by decide +kernel
theorem dN_find_0 : decode mN_find.2.1 0 = .ok (.iconst 0, 1) := by decide +kernel
theorem dN_find_1 : decode mN_find.2.1 1 = .ok (.istore_n 3, 1) := by decide +kernel
theorem dN_find_2 : decode mN_find.2.1 2 = .ok (.iload_n 3, 1) := by decide +kernel
theorem dN_find_3 : decode mN_find.2.1 3 = .ok (.aload_n 0, 1) := by decide +kernel
theorem dN_find_4 : decode mN_find.2.1 4 = .ok (.getfield 44, 3) := by decide +kernel
theorem dN_find_7 : decode mN_find.2.1 7 = .ok (.if_icmp .ge 22, 3) := by decide +kernel
theorem dN_find_10 : decode mN_find.2.1 10 = .ok (.aload_n 0, 1) := by decide +kernel
theorem dN_find_11 : decode mN_find.2.1 11 = .ok (.getfield 34, 3) := by decide +kernel
theorem dN_find_14 : decode mN_find.2.1 14 = .ok (.iload_n 3, 1) := by decide +kernel
theorem dN_find_15 : decode mN_find.2.1 15 = .ok (.laload, 1) := by decide +kernel
theorem dN_find_16 : decode mN_find.2.1 16 = .ok (.lload_n 1, 1) := by decide +kernel
theorem dN_find_17 : decode mN_find.2.1 17 = .ok (.lcmp, 1) := by decide +kernel
theorem dN_find_18 : decode mN_find.2.1 18 = .ok (.ifCond .ne 5, 3) := by decide +kernel
theorem dN_find_21 : decode mN_find.2.1 21 = .ok (.iload_n 3, 1) := by decide +kernel
theorem dN_find_22 : decode mN_find.2.1 22 = .ok (.ireturn, 1) := by decide +kernel
theorem dN_find_23 : decode mN_find.2.1 23 = .ok (.iinc 3 1, 3) := by decide +kernel
theorem dN_find_26 : decode mN_find.2.1 26 = .ok (.goto (-24), 3) := by decide +kernel
theorem dN_find_29 : decode mN_find.2.1 29 = .ok (.iconst (-1), 1) := by decide +kernel
theorem dN_find_30 : decode mN_find.2.1 30 = .ok (.ireturn, 1) := by decide +kernel
/-- the reference's tape, its tokens -/
def MTX (V : Nat → Nat → Int) (n : Nat) (B : Nat → Int) : Prop := V 53 7 = n ∧ n ≤ 800 ∧ (∀ i, i < n → V 54 i = B i) ∧ ∀ i, -128 ≤ B i ∧ B i < 128
def MT (V : Nat → Nat → Int) (t : TK) : Prop := (V 53 10 = t.2.1 ∧ V 53 9 ≠ 5) ∧ (t.1 ≠ 4 → V 53 8 = t.2.2.1) ∧ (t.1 = 0 ↔ V 53 9 = 1) ∧ (t.1 = 1 ↔ V 53 9 = 2) ∧ (t.1 = 1 → V 53 14 = t.2.2.2) ∧ (t.1 = 2 ↔ V 53 9 = 3) ∧ (t.1 = 2 → V 53 11 = t.2.2.2) ∧ (t.1 = 3 ↔ V 53 9 = 4)
def GF (V V' : Nat → Nat → Int) : Prop := (∀ b, b ≠ 53 → V' b = V b) ∧ ∀ j, j < 8 ∨ j = 12 ∨ j = 13 ∨ 14 < j → V' 53 j = V 53 j
theorem MT.bad {V : Nat → Nat → Int} {s e v : Nat} (h9 : V 53 9 = 0) (h10 : V 53 10 = s) : MT V (4, s, e, v) := by simp [MT, h9, h10]
theorem MT.word {V : Nat → Nat → Int} {s e v : Nat} (h9 : V 53 9 = 2) (h10 : V 53 10 = s) (h8 : V 53 8 = e) (h14 : V 53 14 = v) : MT V (1, s, e, v) := by simp [MT, h9, h10, h8, h14]
theorem MT.whole {V : Nat → Nat → Int} {s e v : Nat} (h9 : V 53 9 = 3) (h10 : V 53 10 = s) (h8 : V 53 8 = e) (h11 : V 53 11 = v) : MT V (2, s, e, v) := by simp [MT, h9, h10, h8, h11]
theorem MT.sign {V : Nat → Nat → Int} {s e v : Nat} (h9 : V 53 9 = 4) (h10 : V 53 10 = s) (h8 : V 53 8 = e) : MT V (3, s, e, v) := by simp [MT, h9, h10, h8]
theorem MT.fin {V : Nat → Nat → Int} {s e v : Nat} (h9 : V 53 9 = 1) (h10 : V 53 10 = s) (h8 : V 53 8 = e) : MT V (0, s, e, v) := by simp [MT, h9, h10, h8]
section Mod39
variable {G : GE} {V V' V1 V2 : Nat → Nat → Int} {σ : Shp} {K : Option AV → Mem → Prop} {l n : Nat} {B : Nat → Int}
theorem GF.rf (V : Nat → Nat → Int) : GF V V := ⟨fun _ _ => rfl, fun _ _ => rfl⟩
theorem GF.tr (h : GF V V1) (g : GF V1 V2) : GF V V2 := ⟨fun b hb => (g.1 b hb).trans (h.1 b hb), fun j hj => (g.2 j hj).trans (h.2 j hj)⟩
theorem GF.up {k : Nat} {z : Int} (h : GF V V1) (hk : k = 8 ∨ k = 9 ∨ k = 10 ∨ k = 11 ∨ k = 14) : GF V (up2 V1 53 k z) := ⟨fun b hb => (up2_nea _ _ hb).trans (h.1 b hb), fun j hj => by rw [up2_nek _ _ (by omega)]; exact h.2 j hj⟩
theorem MTX.gf (h : MTX V n B) (g : GF V V1) : MTX V1 n B := by
  unfold MTX
  rw [g.2 7 (by omega), g.1 54 (by decide)]
  exact h
theorem wM_byteAt {x : Int} {i : Nat} (hx : x = i) (hM : moS σ l) (hT : MTX V n B) (hK : K (some (vI (byN B n i))) (V, σ)) : Wp G 0 mM_byteAt [vR 53, vI x] (V, σ) 0 0 K := by
  have h7 := hT.1
  have hn := hT.2.1
  have e1 : i < n → byN B n i = B i % 256 := fun h => by unfold byN; rw [if_pos h]
  have e2 : ¬ i < n → byN B n i = -1 := fun h => by unfold byN; rw [if_neg h]
  have hb := hT.2.2.2 i
  have e3 : i < n → V 54 x.toNat = B i := fun h => by rw [show x.toNat = i by omega]; exact hT.2.2.1 i h
  refine wp_intro mM_byteAt_i.1 [some (vR 53), some (vI x)] rfl rfl (Nat.le_of_ble_eq_true rfl) ?_
  intro X hG F C
  have hm := C.rm
  refine aw_iload_1 (q := 1) F dM_byteAt_0 rfl ?_
  refine aw_aload_0 (q := 2) F dM_byteAt_1 rfl ?_
  refine av_geti (q := 5) F fM_63 dM_byteAt_2 rfl rfl (by first | exact hM.o | exact hM.a54) ?_
  rw [h7]
  refine aw_icmp_ge (q := 8) (t := 21) F dM_byteAt_5 rfl (by decide) (fun c5 => ?_) (fun c5 => ?_)
  · refine aw_iconst (q := 22) F dM_byteAt_21 rfl (by decide) ?_
    refine aw_iret F C dM_byteAt_22 rfl (Nat.le_refl _) (Nat.le_refl _) ?_
    refine kI hK ?_; first | (rw [e1 (by omega)]; rfl) | (rw [e2 (by omega)])
  · refine aw_aload_0 (q := 9) F dM_byteAt_8 rfl ?_
    refine av_getaE (q := 12) F fM_13 dM_byteAt_9 rfl rfl (by first | exact hM.o | exact hM.a54) hM.p5 ?_
    refine aw_iload_1 (q := 13) F dM_byteAt_12 rfl ?_
    refine av_baload (q := 14) F dM_byteAt_13 rfl (by first | exact hM.o | exact hM.a54) (by omega) (by omega) ?_
    rw [e3 (by omega)]
    refine aw_sipush (q := 17) F dM_byteAt_14 rfl (by decide) ?_
    rw [show (255 : Int) = ((255 : Nat) : Int) from rfl]
    refine aw_iand (q := 18) F dM_byteAt_17 rfl ?_
    rw [zand_mask 8 (by decide) (by decide)]
    refine aw_goto (t := 22) F dM_byteAt_18 (by decide) ?_
    refine aw_iret F C dM_byteAt_22 rfl (Nat.le_refl _) (Nat.le_refl _) ?_
    refine kI hK ?_; first | (rw [e1 (by omega)]; rfl) | (rw [e2 (by omega)])
theorem wM_isLetter {x : Int} (h1 : isLb x = true → K (some (vI 1)) (V, σ)) (h0 : isLb x = false → K (some (vI 0)) (V, σ)) : Wp G 0 mM_isLetter [vI x] (V, σ) 0 0 K := by
  have e1 : 97 ≤ x → x ≤ 122 → isLb x = true := fun a b => by unfold isLb; rw [decide_eq_true a, decide_eq_true b]; rfl
  have e0 : ¬ (97 ≤ x ∧ x ≤ 122) → isLb x = false := fun a => by
    cases h : isLb x
    · rfl
    · unfold isLb at h; rw [Bool.and_eq_true, decide_eq_true_eq, decide_eq_true_eq] at h; exact absurd h a
  refine wp_intro mM_isLetter_i.1 [some (vI x)] rfl rfl (Nat.le_of_ble_eq_true rfl) ?_
  intro X hG F C
  have hm := C.rm
  refine aw_iload_0 (q := 1) F dM_isLetter_0 rfl ?_
  refine aw_bipush (q := 3) F dM_isLetter_1 rfl (by decide) ?_
  refine aw_icmp_lt (q := 6) (t := 16) F dM_isLetter_3 rfl (by decide) (fun c3 => ?_) (fun c3 => ?_)
  · refine aw_iconst (q := 17) F dM_isLetter_16 rfl (by decide) ?_
    refine aw_zret F C dM_isLetter_17 rfl (by decide) (Nat.le_refl _) (Nat.le_refl _) ?_
    exact h0 (e0 (by omega))
  · refine aw_iload_0 (q := 7) F dM_isLetter_6 rfl ?_
    refine aw_bipush (q := 9) F dM_isLetter_7 rfl (by decide) ?_
    refine aw_icmp_gt (q := 12) (t := 16) F dM_isLetter_9 rfl (by decide) (fun c9 => ?_) (fun c9 => ?_)
    · refine aw_iconst (q := 17) F dM_isLetter_16 rfl (by decide) ?_
      refine aw_zret F C dM_isLetter_17 rfl (by decide) (Nat.le_refl _) (Nat.le_refl _) ?_
      exact h0 (e0 (by omega))
    · refine aw_iconst (q := 13) F dM_isLetter_12 rfl (by decide) ?_
      refine aw_goto (t := 17) F dM_isLetter_13 (by decide) ?_
      refine aw_zret F C dM_isLetter_17 rfl (by decide) (Nat.le_refl _) (Nat.le_refl _) ?_
      exact h1 (e1 (by omega) (by omega))
theorem wM_isDigit {x : Int} (h1 : isDb x = true → K (some (vI 1)) (V, σ)) (h0 : isDb x = false → K (some (vI 0)) (V, σ)) : Wp G 0 mM_isDigit [vI x] (V, σ) 0 0 K := by
  have e1 : 48 ≤ x → x ≤ 57 → isDb x = true := fun a b => by unfold isDb; rw [decide_eq_true a, decide_eq_true b]; rfl
  have e0 : ¬ (48 ≤ x ∧ x ≤ 57) → isDb x = false := fun a => by
    cases h : isDb x
    · rfl
    · unfold isDb at h; rw [Bool.and_eq_true, decide_eq_true_eq, decide_eq_true_eq] at h; exact absurd h a
  refine wp_intro mM_isDigit_i.1 [some (vI x)] rfl rfl (Nat.le_of_ble_eq_true rfl) ?_
  intro X hG F C
  have hm := C.rm
  refine aw_iload_0 (q := 1) F dM_isDigit_0 rfl ?_
  refine aw_bipush (q := 3) F dM_isDigit_1 rfl (by decide) ?_
  refine aw_icmp_lt (q := 6) (t := 16) F dM_isDigit_3 rfl (by decide) (fun c3 => ?_) (fun c3 => ?_)
  · refine aw_iconst (q := 17) F dM_isDigit_16 rfl (by decide) ?_
    refine aw_zret F C dM_isDigit_17 rfl (by decide) (Nat.le_refl _) (Nat.le_refl _) ?_
    exact h0 (e0 (by omega))
  · refine aw_iload_0 (q := 7) F dM_isDigit_6 rfl ?_
    refine aw_bipush (q := 9) F dM_isDigit_7 rfl (by decide) ?_
    refine aw_icmp_gt (q := 12) (t := 16) F dM_isDigit_9 rfl (by decide) (fun c9 => ?_) (fun c9 => ?_)
    · refine aw_iconst (q := 17) F dM_isDigit_16 rfl (by decide) ?_
      refine aw_zret F C dM_isDigit_17 rfl (by decide) (Nat.le_refl _) (Nat.le_refl _) ?_
      exact h0 (e0 (by omega))
    · refine aw_iconst (q := 13) F dM_isDigit_12 rfl (by decide) ?_
      refine aw_goto (t := 17) F dM_isDigit_13 (by decide) ?_
      refine aw_zret F C dM_isDigit_17 rfl (by decide) (Nat.le_refl _) (Nat.le_refl _) ?_
      exact h1 (e1 (by omega) (by omega))
theorem rnF_1 {p : Int → Bool} {f i : Nat} (h : p (byN B n i) = true) : rnF p B n (f + 1) i = rnF p B n f (i + 1) + 1 := by rw [rnF, if_pos h]
theorem rnF_0 {p : Int → Bool} {f i : Nat} (h : p (byN B n i) = false) : rnF p B n f i = 0 := by
  cases f with
  | zero => rfl
  | succ f => rw [rnF, if_neg (by rw [h]; exact Bool.false_ne_true)]
theorem rnT_run {p : Int → Bool} {s j : Nat} (h : j < rnT p B n s) : p (byN B n (s + j)) = true := by
  have key : ∀ (f i j : Nat), j < rnF p B n f i → p (byN B n (i + j)) = true := by
    intro f
    induction f with
    | zero => intro i j h; exact absurd h (by show ¬ j < 0; omega)
    | succ f ih =>
      intro i j h
      cases hp : p (byN B n i) with
      | false => rw [rnF_0 hp] at h; exact absurd h (by omega)
      | true =>
        rw [rnF_1 hp] at h
        cases j with
        | zero => exact hp
        | succ j =>
          have := ih (i + 1) j (by omega)
          rw [show i + (j + 1) = i + 1 + j by omega]
          exact this
  exact key n s j h
theorem wM_goesOn {p : Nat} (hs : V 53 9 ≠ 5) (h8 : V 53 8 = p) (hp : p ≤ n) (hT : MTX V n B) (hM : moS σ l) (hK : ∀ V', GF V V' → MT V' (lexT B n p) → K none (V', σ)) : Wp G 1 mM_goesOn [vR 53] (V, σ) 0 0 K := by
  have hn := hT.2.1
  have isL : ∀ x, isLb x = true → 97 ≤ x ∧ x ≤ 122 := fun x h => by unfold isLb at h; rw [Bool.and_eq_true, decide_eq_true_eq, decide_eq_true_eq] at h; exact h
  have isD : ∀ x, isDb x = true → 48 ≤ x ∧ x ≤ 57 := fun x h => by unfold isDb at h; rw [Bool.and_eq_true, decide_eq_true_eq, decide_eq_true_eq] at h; exact h
  refine wp_intro mM_goesOn_i.1 [some (vR 53), none, none] rfl rfl (Nat.le_of_ble_eq_true rfl) ?_
  intro X hG F C
  have hm := C.rm
  have words : ∀ (s : Nat), s < n → byN B n s ≠ -1 → isLb (byN B n s) = true → lexT B n p = lexS B n s → ∀ (f k : Nat), f + k = n → ∀ (V1 : Nat → Nat → Int) (y1 y2 : Int), s + k ≤ n → GF V V1 → V1 53 9 = 0 → V1 53 10 = s → V1 53 8 = (s + k : Nat) → V1 53 14 = (wvT B n s (if k < 8 then k else 8) : Nat) → y2 = k → s + k + rnF isLb B n f (s + k) = s + rnT isLb B n s → AW X 84 [some (vR 53), some (vI y1), some (vI y2)] [] (V1, σ) 0 0 := by
    intro s hsn hb1 hb2 hlex f
    have elex : lexS B n s = (if rnT isLb B n s ≤ 8 then 1 else 4, s, s + rnT isLb B n s, wvT B n s (rnT isLb B n s)) := by unfold lexS; rw [if_neg hb1, if_pos hb2]
    have fin : ∀ (k : Nat) (V1 : Nat → Nat → Int) (y1 y2 : Int), rnT isLb B n s = k → GF V V1 → V1 53 9 = 0 → V1 53 10 = s → V1 53 8 = (s + k : Nat) → V1 53 14 = (wvT B n s (if k < 8 then k else 8) : Nat) → y2 = k → AW X 147 [some (vR 53), some (vI y1), some (vI y2)] [] (V1, σ) 0 0 := by
      intro k V1 y1 y2 hk hF f9 f10 f8 f14 h2
      rw [hk] at elex
      refine aw_iload_2 (q := 148) F dM_goesOn_147 rfl ?_
      refine aw_bipush (q := 150) F dM_goesOn_148 rfl (by decide) ?_
      refine aw_icmp_gt (q := 153) (t := 265) F dM_goesOn_150 rfl (by decide) (fun c150 => ?_) (fun c150 => ?_)
      · refine aw_vret F C dM_goesOn_265 rfl (Nat.le_refl _) (Nat.le_refl _) ?_
        first
        | (have hk8 : 8 < k := by omega
           refine hK _ hF ?_
           rw [hlex, elex, if_neg (by omega)]
           exact MT.bad f9 f10)
        | (have hk8 : k ≤ 8 := by omega
           refine hK _ (hF.up (by decide)) ?_
           rw [hlex, elex, if_pos hk8]
           refine MT.word (up2_same _ _ _ _) ((up2_nek _ _ (by decide)).trans f10) ((up2_nek _ _ (by decide)).trans f8) ((up2_nek _ _ (by decide)).trans ?_)
           rw [f14]
           by_cases q : k < 8
           · rw [if_pos q]
           · rw [if_neg q, show k = 8 by omega])
      · refine aw_aload_0 (q := 154) F dM_goesOn_153 rfl ?_
        refine aw_iconst (q := 155) F dM_goesOn_154 rfl (by decide) ?_
        refine av_puti (q := 158) F fM_78 dM_goesOn_155 rfl rfl (wr_9_9 _) (by first | exact hM.o | exact hM.a54) ?_
        refine aw_goto (t := 265) F dM_goesOn_158 (by decide) ?_
        refine aw_vret F C dM_goesOn_265 rfl (Nat.le_refl _) (Nat.le_refl _) ?_
        first
        | (have hk8 : 8 < k := by omega
           refine hK _ hF ?_
           rw [hlex, elex, if_neg (by omega)]
           exact MT.bad f9 f10)
        | (have hk8 : k ≤ 8 := by omega
           refine hK _ (hF.up (by decide)) ?_
           rw [hlex, elex, if_pos hk8]
           refine MT.word (up2_same _ _ _ _) ((up2_nek _ _ (by decide)).trans f10) ((up2_nek _ _ (by decide)).trans f8) ((up2_nek _ _ (by decide)).trans ?_)
           rw [f14]
           by_cases q : k < 8
           · rw [if_pos q]
           · rw [if_neg q, show k = 8 by omega])
    induction f with
    | zero =>
      intro k hk V1 y1 y2 hkn hF f9 f10 f8 f14 h2 hr
      have hT1 := hT.gf hF
      have hb0 : isLb (byN B n (s + k)) = false := by unfold byN; rw [if_neg (by omega)]; rfl
      refine aw_aload_0 (q := 85) F dM_goesOn_84 rfl ?_
      refine aw_aload_0 (q := 86) F dM_goesOn_85 rfl ?_
      refine av_geti (q := 89) F fM_81 dM_goesOn_86 rfl rfl (by first | exact hM.o | exact hM.a54) ?_
      rw [f8]
      refine av_callV1 (q := 92) (ci := 9) F hm mM_byteAt_i mM_byteAt_n lM_84 dM_goesOn_89 rfl rfl rfl (by first | exact hM.o | exact hM.a54) (by decide) (Nat.le_refl _) (Nat.le_refl _) (Nat.le_of_ble_eq_true rfl) (wM_byteAt (i := s + k) rfl hM hT1 ?_)
      refine av_callS1 (q := 95) F hm mM_isLetter_i mM_isLetter_n lM_90 dM_goesOn_92 rfl (by decide) (Nat.le_refl _) (Nat.le_refl _) (Nat.le_of_ble_eq_true rfl) (wM_isLetter (fun c92 => ?_) (fun c92 => ?_))
      · refine aw_if_eq (q := 98) (t := 147) F dM_goesOn_95 rfl (by decide) (fun c95 => absurd c95 (by decide)) (fun c95 => ?_)
        rw [hb0] at c92; cases c92
        skip
      · refine aw_if_eq (q := 98) (t := 147) F dM_goesOn_95 rfl (by decide) (fun c95 => ?_) (fun c95 => absurd c95 (by decide))
        exact fin k V1 _ _ (by rw [rnF] at hr; omega) hF f9 f10 f8 f14 h2
    | succ f ih =>
      intro k hk V1 y1 y2 hkn hF f9 f10 f8 f14 h2 hr
      have hT1 := hT.gf hF
      have go : isLb (byN B n (s + k)) = true → ∀ (V2 : Nat → Nat → Int), GF V V2 → V2 53 9 = 0 → V2 53 10 = s → V2 53 8 = (s + k : Nat) → V2 53 14 = (wvT B n s (if k + 1 < 8 then k + 1 else 8) : Nat) → AW X 131 [some (vR 53), some (vI y1), some (vI y2)] [] (V2, σ) 0 0 := by
        intro hL V2 hF2 g9 g10 g8 g14
        have hkn2 : s + k < n := byN_in (fun e => by rw [e] at hL; cases hL)
        rw [rnF_1 hL] at hr
        refine aw_iinc_2 (q := 134) F dM_goesOn_131 rfl trivial (by constructor <;> omega) ?_
        refine aw_aload_0 (q := 135) F dM_goesOn_134 rfl ?_
        refine aw_dup (q := 136) F dM_goesOn_135 rfl trivial ?_
        refine av_geti (q := 139) F fM_81 dM_goesOn_136 rfl rfl (by first | exact hM.o | exact hM.a54) ?_
        rw [g8]
        refine aw_iconst (q := 140) F dM_goesOn_139 rfl (by decide) ?_
        refine aw_iadd (q := 141) F dM_goesOn_140 rfl (by constructor <;> omega) ?_
        refine av_puti (q := 144) F fM_81 dM_goesOn_141 rfl rfl (wr_9_8 _) (by first | exact hM.o | exact hM.a54) ?_
        refine aw_goto (t := 84) F dM_goesOn_144 (by decide) ?_
        refine ih (k + 1) (by omega) _ _ _ (by omega) (hF2.up (by decide)) ?_ ?_ ?_ ?_ (by omega) (by rw [← Nat.add_assoc]; omega)
        · rw [up2_nek _ _ (by decide)]; exact g9
        · rw [up2_nek _ _ (by decide)]; exact g10
        · rw [up2_same]; omega
        · rw [up2_nek _ _ (by decide)]; exact g14
      have hw8 : (if k < 8 then k else 8) ≤ 8 := by split <;> omega
      have hwl := wvT_lt (B := B) (n := n) (s := s) (if k < 8 then k else 8)
      have hwl2 : 32 ^ (if k < 8 then k else 8) ≤ 32 ^ 8 := Nat.pow_le_pow_right (by decide) hw8
      have hw3 : wvT B n s (if k < 8 then k else 8) < 1099511627776 := Nat.lt_of_lt_of_le hwl hwl2
      have ev : isLb (byN B n (s + k)) = true → k < 8 → 32 * ((wvT B n s (if k < 8 then k else 8) : Nat) : Int) + (byN B n (s + k) - 97 + 1) = (wvT B n s (if k + 1 < 8 then k + 1 else 8) : Nat) := fun hL q => by
        have hb := isL _ hL
        rw [if_pos q, show (if k + 1 < 8 then k + 1 else 8) = k + 1 by split <;> omega, wvT]
        omega
      have ev2 : ¬ k < 8 → wvT B n s (if k < 8 then k else 8) = wvT B n s (if k + 1 < 8 then k + 1 else 8) := fun q => by rw [if_neg q, if_neg (by omega)]
      have hbd := byN_bd B n (s + k)
      refine aw_aload_0 (q := 85) F dM_goesOn_84 rfl ?_
      refine aw_aload_0 (q := 86) F dM_goesOn_85 rfl ?_
      refine av_geti (q := 89) F fM_81 dM_goesOn_86 rfl rfl (by first | exact hM.o | exact hM.a54) ?_
      rw [f8]
      refine av_callV1 (q := 92) (ci := 9) F hm mM_byteAt_i mM_byteAt_n lM_84 dM_goesOn_89 rfl rfl rfl (by first | exact hM.o | exact hM.a54) (by decide) (Nat.le_refl _) (Nat.le_refl _) (Nat.le_of_ble_eq_true rfl) (wM_byteAt (i := s + k) rfl hM hT1 ?_)
      refine av_callS1 (q := 95) F hm mM_isLetter_i mM_isLetter_n lM_90 dM_goesOn_92 rfl (by decide) (Nat.le_refl _) (Nat.le_refl _) (Nat.le_of_ble_eq_true rfl) (wM_isLetter (fun c92 => ?_) (fun c92 => ?_))
      · refine aw_if_eq (q := 98) (t := 147) F dM_goesOn_95 rfl (by decide) (fun c95 => absurd c95 (by decide)) (fun c95 => ?_)
        refine aw_iload_2 (q := 99) F dM_goesOn_98 rfl ?_
        refine aw_bipush (q := 101) F dM_goesOn_99 rfl (by decide) ?_
        refine aw_icmp_ge (q := 104) (t := 131) F dM_goesOn_101 rfl (by decide) (fun c101 => ?_) (fun c101 => ?_)
        · first
          | (refine go c92 _ (hF.up (by decide)) ?_ ?_ ?_ (up2_same _ _ _ _)
             · rw [up2_nek _ _ (by decide)]; exact f9
             · rw [up2_nek _ _ (by decide)]; exact f10
             · rw [up2_nek _ _ (by decide)]; exact f8)
          | exact go c92 V1 hF f9 f10 f8 (by rw [f14, ev2 (by omega)])
        · refine aw_aload_0 (q := 105) F dM_goesOn_104 rfl ?_
          refine aw_ldc2 (q := 108) (z := 32) F dM_goesOn_105 rfl kM_72 (by decide) ?_
          refine aw_aload_0 (q := 109) F dM_goesOn_108 rfl ?_
          refine av_getl (q := 112) F fM_94 dM_goesOn_109 rfl rfl (by first | exact hM.o | exact hM.a54) ?_
          rw [f14]
          refine aw_lmul (q := 113) F dM_goesOn_112 rfl (by constructor <;> omega) ?_
          refine aw_aload_0 (q := 114) F dM_goesOn_113 rfl ?_
          refine aw_aload_0 (q := 115) F dM_goesOn_114 rfl ?_
          refine av_geti (q := 118) F fM_81 dM_goesOn_115 rfl rfl (by first | exact hM.o | exact hM.a54) ?_
          rw [f8]
          refine av_callV1 (q := 121) (ci := 9) F hm mM_byteAt_i mM_byteAt_n lM_84 dM_goesOn_118 rfl rfl rfl (by first | exact hM.o | exact hM.a54) (by decide) (Nat.le_refl _) (Nat.le_refl _) (Nat.le_of_ble_eq_true rfl) (wM_byteAt (i := s + k) rfl hM hT1 ?_)
          refine aw_bipush (q := 123) F dM_goesOn_121 rfl (by decide) ?_
          refine aw_isub (q := 124) F dM_goesOn_123 rfl (by constructor <;> omega) ?_
          refine aw_iconst (q := 125) F dM_goesOn_124 rfl (by decide) ?_
          refine aw_iadd (q := 126) F dM_goesOn_125 rfl (by constructor <;> omega) ?_
          refine aw_i2l (q := 127) F dM_goesOn_126 rfl ?_
          refine aw_ladd (q := 128) F dM_goesOn_127 rfl (by constructor <;> omega) ?_
          rw [ev c92 (by omega)]
          refine av_putl (q := 131) F fM_94 dM_goesOn_128 rfl rfl (wr_9_14 _) (by first | exact hM.o | exact hM.a54) ?_
          first
          | (refine go c92 _ (hF.up (by decide)) ?_ ?_ ?_ (up2_same _ _ _ _)
             · rw [up2_nek _ _ (by decide)]; exact f9
             · rw [up2_nek _ _ (by decide)]; exact f10
             · rw [up2_nek _ _ (by decide)]; exact f8)
          | exact go c92 V1 hF f9 f10 f8 (by rw [f14, ev2 (by omega)])
      · refine aw_if_eq (q := 98) (t := 147) F dM_goesOn_95 rfl (by decide) (fun c95 => ?_) (fun c95 => absurd c95 (by decide))
        exact fin k V1 _ _ (by rw [rnF_0 c92] at hr; omega) hF f9 f10 f8 f14 h2
  have digs : ∀ (s : Nat), s < n → byN B n s ≠ -1 → isLb (byN B n s) = false → isDb (byN B n s) = true → lexT B n p = lexS B n s → ∀ (f k : Nat), f + k = n → ∀ (V1 : Nat → Nat → Int) (y1 y2 : Int), s + k ≤ n → GF V V1 → V1 53 9 = 0 → V1 53 10 = s → V1 53 8 = (s + k : Nat) → V1 53 11 = (dvT B n s k : Nat) → dvT B n s k < 1000 → y2 = k → s + k + rnF isDb B n f (s + k) = s + rnT isDb B n s → AW X 173 [some (vR 53), some (vI y1), some (vI y2)] [] (V1, σ) 0 0 := by
    intro s hsn hb1 hb2 hb3 hlex f
    have elex : lexS B n s = (if rnT isDb B n s ≤ 3 then 2 else 4, s, s + rnT isDb B n s, dvT B n s (rnT isDb B n s)) := by unfold lexS; rw [if_neg hb1, if_neg (by rw [hb2]; exact Bool.false_ne_true), if_pos hb3]
    have fin : ∀ (k : Nat) (V1 : Nat → Nat → Int) (y1 y2 : Int), rnT isDb B n s = k → GF V V1 → V1 53 9 = 0 → V1 53 10 = s → V1 53 8 = (s + k : Nat) → V1 53 11 = (dvT B n s k : Nat) → y2 = k → AW X 231 [some (vR 53), some (vI y1), some (vI y2)] [] (V1, σ) 0 0 := by
      intro k V1 y1 y2 hk hF f9 f10 f8 f11 h2
      rw [hk] at elex
      refine aw_iload_2 (q := 232) F dM_goesOn_231 rfl ?_
      refine aw_iconst (q := 233) F dM_goesOn_232 rfl (by decide) ?_
      refine aw_icmp_gt (q := 236) (t := 265) F dM_goesOn_233 rfl (by decide) (fun c233 => ?_) (fun c233 => ?_)
      · refine aw_vret F C dM_goesOn_265 rfl (Nat.le_refl _) (Nat.le_refl _) ?_
        first
        | (have hk8 : 3 < k := by omega
           refine hK _ hF ?_
           rw [hlex, elex, if_neg (by omega)]
           exact MT.bad f9 f10)
        | (have hk8 : k ≤ 3 := by omega
           refine hK _ (hF.up (by decide)) ?_
           rw [hlex, elex, if_pos hk8]
           exact MT.whole (up2_same _ _ _ _) ((up2_nek _ _ (by decide)).trans f10) ((up2_nek _ _ (by decide)).trans f8) ((up2_nek _ _ (by decide)).trans f11))
      · refine aw_aload_0 (q := 237) F dM_goesOn_236 rfl ?_
        refine aw_iconst (q := 238) F dM_goesOn_237 rfl (by decide) ?_
        refine av_puti (q := 241) F fM_78 dM_goesOn_238 rfl rfl (wr_9_9 _) (by first | exact hM.o | exact hM.a54) ?_
        refine aw_goto (t := 265) F dM_goesOn_241 (by decide) ?_
        refine aw_vret F C dM_goesOn_265 rfl (Nat.le_refl _) (Nat.le_refl _) ?_
        first
        | (have hk8 : 3 < k := by omega
           refine hK _ hF ?_
           rw [hlex, elex, if_neg (by omega)]
           exact MT.bad f9 f10)
        | (have hk8 : k ≤ 3 := by omega
           refine hK _ (hF.up (by decide)) ?_
           rw [hlex, elex, if_pos hk8]
           exact MT.whole (up2_same _ _ _ _) ((up2_nek _ _ (by decide)).trans f10) ((up2_nek _ _ (by decide)).trans f8) ((up2_nek _ _ (by decide)).trans f11))
    induction f with
    | zero =>
      intro k hk V1 y1 y2 hkn hF f9 f10 f8 f11 hdl h2 hr
      have hT1 := hT.gf hF
      have hb0 : isDb (byN B n (s + k)) = false := by unfold byN; rw [if_neg (by omega)]; rfl
      refine aw_aload_0 (q := 174) F dM_goesOn_173 rfl ?_
      refine aw_aload_0 (q := 175) F dM_goesOn_174 rfl ?_
      refine av_geti (q := 178) F fM_81 dM_goesOn_175 rfl rfl (by first | exact hM.o | exact hM.a54) ?_
      rw [f8]
      refine av_callV1 (q := 181) (ci := 9) F hm mM_byteAt_i mM_byteAt_n lM_84 dM_goesOn_178 rfl rfl rfl (by first | exact hM.o | exact hM.a54) (by decide) (Nat.le_refl _) (Nat.le_refl _) (Nat.le_of_ble_eq_true rfl) (wM_byteAt (i := s + k) rfl hM hT1 ?_)
      refine av_callS1 (q := 184) F hm mM_isDigit_i mM_isDigit_n lM_98 dM_goesOn_181 rfl (by decide) (Nat.le_refl _) (Nat.le_refl _) (Nat.le_of_ble_eq_true rfl) (wM_isDigit (fun c181 => ?_) (fun c181 => ?_))
      · refine aw_if_eq (q := 187) (t := 231) F dM_goesOn_184 rfl (by decide) (fun c184 => absurd c184 (by decide)) (fun c184 => ?_)
        rw [hb0] at c181; cases c181
        skip
      · refine aw_if_eq (q := 187) (t := 231) F dM_goesOn_184 rfl (by decide) (fun c184 => ?_) (fun c184 => absurd c184 (by decide))
        exact fin k V1 _ _ (by rw [rnF] at hr; omega) hF f9 f10 f8 f11 h2
    | succ f ih =>
      intro k hk V1 y1 y2 hkn hF f9 f10 f8 f11 hdl h2 hr
      have hT1 := hT.gf hF
      have go : isDb (byN B n (s + k)) = true → ∀ (V2 : Nat → Nat → Int), GF V V2 → V2 53 9 = 0 → V2 53 10 = s → V2 53 8 = (s + k : Nat) → V2 53 11 = (dvT B n s (k + 1) : Nat) → dvT B n s (k + 1) < 1000 → AW X 215 [some (vR 53), some (vI y1), some (vI y2)] [] (V2, σ) 0 0 := by
        intro hL V2 hF2 g9 g10 g8 g11 gl
        have hkn2 : s + k < n := byN_in (fun e => by rw [e] at hL; cases hL)
        rw [rnF_1 hL] at hr
        refine aw_iinc_2 (q := 218) F dM_goesOn_215 rfl trivial (by constructor <;> omega) ?_
        refine aw_aload_0 (q := 219) F dM_goesOn_218 rfl ?_
        refine aw_dup (q := 220) F dM_goesOn_219 rfl trivial ?_
        refine av_geti (q := 223) F fM_81 dM_goesOn_220 rfl rfl (by first | exact hM.o | exact hM.a54) ?_
        rw [g8]
        refine aw_iconst (q := 224) F dM_goesOn_223 rfl (by decide) ?_
        refine aw_iadd (q := 225) F dM_goesOn_224 rfl (by constructor <;> omega) ?_
        refine av_puti (q := 228) F fM_81 dM_goesOn_225 rfl rfl (wr_9_8 _) (by first | exact hM.o | exact hM.a54) ?_
        refine aw_goto (t := 173) F dM_goesOn_228 (by decide) ?_
        refine ih (k + 1) (by omega) _ _ _ (by omega) (hF2.up (by decide)) ?_ ?_ ?_ ?_ gl (by omega) (by rw [← Nat.add_assoc]; omega)
        · rw [up2_nek _ _ (by decide)]; exact g9
        · rw [up2_nek _ _ (by decide)]; exact g10
        · rw [up2_same]; omega
        · rw [up2_nek _ _ (by decide)]; exact g11
      have ev : isDb (byN B n (s + k)) = true → k < 3 → 10 * ((dvT B n s k : Nat) : Int) + byN B n (s + k) - 48 = (dvT B n s (k + 1) : Nat) := fun hL q => by
        have hb := isD _ hL
        rw [dvT, if_pos q]
        omega
      have ev2 : ¬ k < 3 → dvT B n s (k + 1) = dvT B n s k := fun q => by rw [dvT, if_neg q]
      have hbd := byN_bd B n (s + k)
      have hdl1 : isDb (byN B n (s + k)) = true → dvT B n s (k + 1) < 1000 := fun hL => by
        refine (dvT_lt (k + 1) (fun j hj => ?_)).2
        have hr2 := hr
        rw [rnF_1 hL] at hr2
        exact rnT_run (by omega)
      refine aw_aload_0 (q := 174) F dM_goesOn_173 rfl ?_
      refine aw_aload_0 (q := 175) F dM_goesOn_174 rfl ?_
      refine av_geti (q := 178) F fM_81 dM_goesOn_175 rfl rfl (by first | exact hM.o | exact hM.a54) ?_
      rw [f8]
      refine av_callV1 (q := 181) (ci := 9) F hm mM_byteAt_i mM_byteAt_n lM_84 dM_goesOn_178 rfl rfl rfl (by first | exact hM.o | exact hM.a54) (by decide) (Nat.le_refl _) (Nat.le_refl _) (Nat.le_of_ble_eq_true rfl) (wM_byteAt (i := s + k) rfl hM hT1 ?_)
      refine av_callS1 (q := 184) F hm mM_isDigit_i mM_isDigit_n lM_98 dM_goesOn_181 rfl (by decide) (Nat.le_refl _) (Nat.le_refl _) (Nat.le_of_ble_eq_true rfl) (wM_isDigit (fun c181 => ?_) (fun c181 => ?_))
      · refine aw_if_eq (q := 187) (t := 231) F dM_goesOn_184 rfl (by decide) (fun c184 => absurd c184 (by decide)) (fun c184 => ?_)
        refine aw_iload_2 (q := 188) F dM_goesOn_187 rfl ?_
        refine aw_iconst (q := 189) F dM_goesOn_188 rfl (by decide) ?_
        refine aw_icmp_ge (q := 192) (t := 215) F dM_goesOn_189 rfl (by decide) (fun c189 => ?_) (fun c189 => ?_)
        · first
          | (refine go c181 _ (hF.up (by decide)) ?_ ?_ ?_ (up2_same _ _ _ _) (hdl1 c181)
             · rw [up2_nek _ _ (by decide)]; exact f9
             · rw [up2_nek _ _ (by decide)]; exact f10
             · rw [up2_nek _ _ (by decide)]; exact f8)
          | exact go c181 V1 hF f9 f10 f8 (by rw [f11, ev2 (by omega)]) (hdl1 c181)
        · refine aw_aload_0 (q := 193) F dM_goesOn_192 rfl ?_
          refine aw_bipush (q := 195) F dM_goesOn_193 rfl (by decide) ?_
          refine aw_aload_0 (q := 196) F dM_goesOn_195 rfl ?_
          refine av_geti (q := 199) F fM_101 dM_goesOn_196 rfl rfl (by first | exact hM.o | exact hM.a54) ?_
          rw [f11]
          refine aw_imul (q := 200) F dM_goesOn_199 rfl (by constructor <;> omega) ?_
          refine aw_aload_0 (q := 201) F dM_goesOn_200 rfl ?_
          refine aw_aload_0 (q := 202) F dM_goesOn_201 rfl ?_
          refine av_geti (q := 205) F fM_81 dM_goesOn_202 rfl rfl (by first | exact hM.o | exact hM.a54) ?_
          rw [f8]
          refine av_callV1 (q := 208) (ci := 9) F hm mM_byteAt_i mM_byteAt_n lM_84 dM_goesOn_205 rfl rfl rfl (by first | exact hM.o | exact hM.a54) (by decide) (Nat.le_refl _) (Nat.le_refl _) (Nat.le_of_ble_eq_true rfl) (wM_byteAt (i := s + k) rfl hM hT1 ?_)
          refine aw_iadd (q := 209) F dM_goesOn_208 rfl (by constructor <;> omega) ?_
          refine aw_bipush (q := 211) F dM_goesOn_209 rfl (by decide) ?_
          refine aw_isub (q := 212) F dM_goesOn_211 rfl (by constructor <;> omega) ?_
          rw [ev c181 (by omega)]
          refine av_puti (q := 215) F fM_101 dM_goesOn_212 rfl rfl (wr_9_11 _) (by first | exact hM.o | exact hM.a54) ?_
          first
          | (refine go c181 _ (hF.up (by decide)) ?_ ?_ ?_ (up2_same _ _ _ _) (hdl1 c181)
             · rw [up2_nek _ _ (by decide)]; exact f9
             · rw [up2_nek _ _ (by decide)]; exact f10
             · rw [up2_nek _ _ (by decide)]; exact f8)
          | exact go c181 V1 hF f9 f10 f8 (by rw [f11, ev2 (by omega)]) (hdl1 c181)
      · refine aw_if_eq (q := 187) (t := 231) F dM_goesOn_184 rfl (by decide) (fun c184 => ?_) (fun c184 => absurd c184 (by decide))
        exact fin k V1 _ _ (by rw [rnF_0 c181] at hr; omega) hF f9 f10 f8 f11 h2
  have tok : ∀ (s : Nat), s ≤ n → lexT B n p = lexS B n s → ∀ (V1 : Nat → Nat → Int), GF V V1 → V1 53 8 = s → AW X 35 [some (vR 53), none, none] [] (V1, σ) 0 0 := by
    intro s hs hlex V1 hF f8
    have hF2 := (hF.up (k := 10) (z := (s : Int)) (by decide)).up (k := 9) (z := 0) (by decide)
    have g8 : up2 (up2 V1 53 10 (s : Int)) 53 9 0 53 8 = s := by rw [up2_nek _ _ (by decide), up2_nek _ _ (by decide)]; exact f8
    have g9 : up2 (up2 V1 53 10 (s : Int)) 53 9 0 53 9 = 0 := up2_same _ _ _ _
    have g10 : up2 (up2 V1 53 10 (s : Int)) 53 9 0 53 10 = s := by rw [up2_nek _ _ (by decide)]; exact up2_same _ _ _ _
    have eE : byN B n s = -1 → lexS B n s = (0, s, s, 0) := fun q => by unfold lexS; rw [if_pos q]
    have eS : byN B n s = 59 → lexS B n s = (3, s, s + 1, 0) := fun q => by unfold lexS; rw [q]; rfl
    have eB : byN B n s ≠ -1 → isLb (byN B n s) = false → isDb (byN B n s) = false → byN B n s ≠ 59 → lexS B n s = (4, s, s + 1, 0) := fun q1 q2 q3 q4 => by unfold lexS; rw [if_neg q1, if_neg (by rw [q2]; exact Bool.false_ne_true), if_neg (by rw [q3]; exact Bool.false_ne_true), if_neg q4]
    have hsn : byN B n s ≠ -1 → s < n := fun q => byN_in q
    refine aw_aload_0 (q := 36) F dM_goesOn_35 rfl ?_
    refine aw_aload_0 (q := 37) F dM_goesOn_36 rfl ?_
    refine av_geti (q := 40) F fM_81 dM_goesOn_37 rfl rfl (by first | exact hM.o | exact hM.a54) ?_
    rw [f8]
    refine av_puti (q := 43) F fM_87 dM_goesOn_40 rfl rfl (wr_9_10 _) (by first | exact hM.o | exact hM.a54) ?_
    refine aw_aload_0 (q := 44) F dM_goesOn_43 rfl ?_
    refine aw_iconst (q := 45) F dM_goesOn_44 rfl (by decide) ?_
    refine av_puti (q := 48) F fM_78 dM_goesOn_45 rfl rfl (wr_9_9 _) (by first | exact hM.o | exact hM.a54) ?_
    refine aw_aload_0 (q := 49) F dM_goesOn_48 rfl ?_
    refine aw_aload_0 (q := 50) F dM_goesOn_49 rfl ?_
    refine av_geti (q := 53) F fM_81 dM_goesOn_50 rfl rfl (by first | exact hM.o | exact hM.a54) ?_
    rw [g8]
    refine av_callV1 (q := 56) (ci := 9) F hm mM_byteAt_i mM_byteAt_n lM_84 dM_goesOn_53 rfl rfl rfl (by first | exact hM.o | exact hM.a54) (by decide) (Nat.le_refl _) (Nat.le_refl _) (Nat.le_of_ble_eq_true rfl) (wM_byteAt (i := s) rfl hM (hT.gf hF2) ?_)
    refine aw_istore_1 (q := 57) F dM_goesOn_56 rfl trivial ?_
    refine aw_iconst (q := 58) F dM_goesOn_57 rfl (by decide) ?_
    refine aw_istore_2 (q := 59) F dM_goesOn_58 rfl trivial ?_
    refine aw_iload_1 (q := 60) F dM_goesOn_59 rfl ?_
    refine aw_iconst (q := 61) F dM_goesOn_60 rfl (by decide) ?_
    refine aw_icmp_ne (q := 64) (t := 72) F dM_goesOn_61 rfl (by decide) (fun c61 => ?_) (fun c61 => ?_)
    · refine aw_iload_1 (q := 73) F dM_goesOn_72 rfl ?_
      refine av_callS1 (q := 76) F hm mM_isLetter_i mM_isLetter_n lM_90 dM_goesOn_73 rfl (by decide) (Nat.le_refl _) (Nat.le_refl _) (Nat.le_of_ble_eq_true rfl) (wM_isLetter (fun c73 => ?_) (fun c73 => ?_))
      · refine aw_if_eq (q := 79) (t := 161) F dM_goesOn_76 rfl (by decide) (fun c76 => absurd c76 (by decide)) (fun c76 => ?_)
        refine aw_aload_0 (q := 80) F dM_goesOn_79 rfl ?_
        refine aw_lconst (q := 81) (z := 0) F dM_goesOn_80 rfl rfl ?_
        refine av_putl (q := 84) F fM_94 dM_goesOn_81 rfl rfl (wr_9_14 _) (by first | exact hM.o | exact hM.a54) ?_
        refine words s (hsn c61) c61 c73 hlex n 0 rfl _ _ _ hs (hF2.up (by decide)) ((up2_nek _ _ (by decide)).trans g9) ((up2_nek _ _ (by decide)).trans g10) ((up2_nek _ _ (by decide)).trans g8) (up2_same _ _ _ _) rfl rfl
      · refine aw_if_eq (q := 79) (t := 161) F dM_goesOn_76 rfl (by decide) (fun c76 => ?_) (fun c76 => absurd c76 (by decide))
        refine aw_iload_1 (q := 162) F dM_goesOn_161 rfl ?_
        refine av_callS1 (q := 165) F hm mM_isDigit_i mM_isDigit_n lM_98 dM_goesOn_162 rfl (by decide) (Nat.le_refl _) (Nat.le_refl _) (Nat.le_of_ble_eq_true rfl) (wM_isDigit (fun c162 => ?_) (fun c162 => ?_))
        · refine aw_if_eq (q := 168) (t := 244) F dM_goesOn_165 rfl (by decide) (fun c165 => absurd c165 (by decide)) (fun c165 => ?_)
          refine aw_aload_0 (q := 169) F dM_goesOn_168 rfl ?_
          refine aw_iconst (q := 170) F dM_goesOn_169 rfl (by decide) ?_
          refine av_puti (q := 173) F fM_101 dM_goesOn_170 rfl rfl (wr_9_11 _) (by first | exact hM.o | exact hM.a54) ?_
          refine digs s (hsn c61) c61 c73 c162 hlex n 0 rfl _ _ _ hs (hF2.up (by decide)) ((up2_nek _ _ (by decide)).trans g9) ((up2_nek _ _ (by decide)).trans g10) ((up2_nek _ _ (by decide)).trans g8) (up2_same _ _ _ _) (by show 0 < 1000; decide) rfl rfl
        · refine aw_if_eq (q := 168) (t := 244) F dM_goesOn_165 rfl (by decide) (fun c165 => ?_) (fun c165 => absurd c165 (by decide))
          refine aw_iload_1 (q := 245) F dM_goesOn_244 rfl ?_
          refine aw_bipush (q := 247) F dM_goesOn_245 rfl (by decide) ?_
          refine aw_icmp_ne (q := 250) (t := 265) F dM_goesOn_247 rfl (by decide) (fun c247 => ?_) (fun c247 => ?_)
          · refine aw_vret F C dM_goesOn_265 rfl (Nat.le_refl _) (Nat.le_refl _) ?_
            first
            | (refine hK _ (hF2.up (by decide)) ?_
               rw [hlex, eE c61]
               exact MT.fin (up2_same _ _ _ _) ((up2_nek _ _ (by decide)).trans g10) ((up2_nek _ _ (by decide)).trans g8))
            | (have e := eS c247
               refine hK _ ((hF2.up (by decide)).up (by decide)) ?_
               rw [hlex, e]
               exact MT.sign ((up2_nek _ _ (by decide)).trans (up2_same _ _ _ _)) ((up2_nek _ _ (by decide)).trans ((up2_nek _ _ (by decide)).trans g10)) (by rw [up2_same]; omega))
            | (have e := eB c61 c73 c162 c247
               refine hK _ hF2 ?_
               rw [hlex, e]
               exact MT.bad g9 g10)
          · refine aw_aload_0 (q := 251) F dM_goesOn_250 rfl ?_
            refine aw_iconst (q := 252) F dM_goesOn_251 rfl (by decide) ?_
            refine av_puti (q := 255) F fM_78 dM_goesOn_252 rfl rfl (wr_9_9 _) (by first | exact hM.o | exact hM.a54) ?_
            refine aw_aload_0 (q := 256) F dM_goesOn_255 rfl ?_
            refine aw_dup (q := 257) F dM_goesOn_256 rfl trivial ?_
            refine av_geti (q := 260) F fM_81 dM_goesOn_257 rfl rfl (by first | exact hM.o | exact hM.a54) ?_
            rw [up2_nek _ _ (by decide), g8]
            refine aw_iconst (q := 261) F dM_goesOn_260 rfl (by decide) ?_
            refine aw_iadd (q := 262) F dM_goesOn_261 rfl (by constructor <;> omega) ?_
            refine av_puti (q := 265) F fM_81 dM_goesOn_262 rfl rfl (wr_9_8 _) (by first | exact hM.o | exact hM.a54) ?_
            refine aw_vret F C dM_goesOn_265 rfl (Nat.le_refl _) (Nat.le_refl _) ?_
            first
            | (refine hK _ (hF2.up (by decide)) ?_
               rw [hlex, eE c61]
               exact MT.fin (up2_same _ _ _ _) ((up2_nek _ _ (by decide)).trans g10) ((up2_nek _ _ (by decide)).trans g8))
            | (have e := eS c247
               refine hK _ ((hF2.up (by decide)).up (by decide)) ?_
               rw [hlex, e]
               exact MT.sign ((up2_nek _ _ (by decide)).trans (up2_same _ _ _ _)) ((up2_nek _ _ (by decide)).trans ((up2_nek _ _ (by decide)).trans g10)) (by rw [up2_same]; omega))
            | (have e := eB c61 c73 c162 c247
               refine hK _ hF2 ?_
               rw [hlex, e]
               exact MT.bad g9 g10)
    · refine aw_aload_0 (q := 65) F dM_goesOn_64 rfl ?_
      refine aw_iconst (q := 66) F dM_goesOn_65 rfl (by decide) ?_
      refine av_puti (q := 69) F fM_78 dM_goesOn_66 rfl rfl (wr_9_9 _) (by first | exact hM.o | exact hM.a54) ?_
      refine aw_goto (t := 265) F dM_goesOn_69 (by decide) ?_
      refine aw_vret F C dM_goesOn_265 rfl (Nat.le_refl _) (Nat.le_refl _) ?_
      first
      | (refine hK _ (hF2.up (by decide)) ?_
         rw [hlex, eE c61]
         exact MT.fin (up2_same _ _ _ _) ((up2_nek _ _ (by decide)).trans g10) ((up2_nek _ _ (by decide)).trans g8))
      | (have e := eS c247
         refine hK _ ((hF2.up (by decide)).up (by decide)) ?_
         rw [hlex, e]
         exact MT.sign ((up2_nek _ _ (by decide)).trans (up2_same _ _ _ _)) ((up2_nek _ _ (by decide)).trans ((up2_nek _ _ (by decide)).trans g10)) (by rw [up2_same]; omega))
      | (have e := eB c61 c73 c162 c247
         refine hK _ hF2 ?_
         rw [hlex, e]
         exact MT.bad g9 g10)
  have spaces : ∀ (f q : Nat), f + q = n + p → p ≤ q → q ≤ n → ∀ (V1 : Nat → Nat → Int), GF V V1 → V1 53 8 = q → q + rnF isSb B n f q = p + rnT isSb B n p → AW X 9 [some (vR 53), none, none] [] (V1, σ) 0 0 := by
    intro f
    induction f with
    | zero =>
      intro q hq hpq hqn V1 hF f8 hr
      have hb0 : byN B n q = -1 := by unfold byN; rw [if_neg (by omega)]
      refine aw_aload_0 (q := 10) F dM_goesOn_9 rfl ?_
      refine aw_aload_0 (q := 11) F dM_goesOn_10 rfl ?_
      refine av_geti (q := 14) F fM_81 dM_goesOn_11 rfl rfl (by first | exact hM.o | exact hM.a54) ?_
      rw [f8]
      refine av_callV1 (q := 17) (ci := 9) F hm mM_byteAt_i mM_byteAt_n lM_84 dM_goesOn_14 rfl rfl rfl (by first | exact hM.o | exact hM.a54) (by decide) (Nat.le_refl _) (Nat.le_refl _) (Nat.le_of_ble_eq_true rfl) (wM_byteAt (i := q) rfl hM (hT.gf hF) ?_)
      refine aw_bipush (q := 19) F dM_goesOn_17 rfl (by decide) ?_
      refine aw_icmp_ne (q := 22) (t := 35) F dM_goesOn_19 rfl (by decide) (fun c19 => ?_) (fun c19 => by rw [hb0] at c19; exact absurd c19 (by decide))
      refine tok q hqn ?_ V1 hF f8
      show lexS B n (p + rnT isSb B n p) = _
      rw [← hr]; rfl
    | succ f ih =>
      intro q hq hpq hqn V1 hF f8 hr
      have y1 : byN B n q = 32 → isSb (byN B n q) = true := fun e => by rw [e]; rfl
      have y0 : byN B n q ≠ 32 → isSb (byN B n q) = false := fun e => decide_eq_false e
      have hqn2 : byN B n q = 32 → q < n := fun e => byN_in (by rw [e]; decide)
      refine aw_aload_0 (q := 10) F dM_goesOn_9 rfl ?_
      refine aw_aload_0 (q := 11) F dM_goesOn_10 rfl ?_
      refine av_geti (q := 14) F fM_81 dM_goesOn_11 rfl rfl (by first | exact hM.o | exact hM.a54) ?_
      rw [f8]
      refine av_callV1 (q := 17) (ci := 9) F hm mM_byteAt_i mM_byteAt_n lM_84 dM_goesOn_14 rfl rfl rfl (by first | exact hM.o | exact hM.a54) (by decide) (Nat.le_refl _) (Nat.le_refl _) (Nat.le_of_ble_eq_true rfl) (wM_byteAt (i := q) rfl hM (hT.gf hF) ?_)
      refine aw_bipush (q := 19) F dM_goesOn_17 rfl (by decide) ?_
      refine aw_icmp_ne (q := 22) (t := 35) F dM_goesOn_19 rfl (by decide) (fun c19 => ?_) (fun c19 => ?_)
      · refine tok q hqn ?_ V1 hF f8
        show lexS B n (p + rnT isSb B n p) = _
        rw [← hr, rnF_0 (y0 c19)]; rfl
      · refine aw_aload_0 (q := 23) F dM_goesOn_22 rfl ?_
        refine aw_dup (q := 24) F dM_goesOn_23 rfl trivial ?_
        refine av_geti (q := 27) F fM_81 dM_goesOn_24 rfl rfl (by first | exact hM.o | exact hM.a54) ?_
        rw [f8]
        refine aw_iconst (q := 28) F dM_goesOn_27 rfl (by decide) ?_
        refine aw_iadd (q := 29) F dM_goesOn_28 rfl (by constructor <;> omega) ?_
        refine av_puti (q := 32) F fM_81 dM_goesOn_29 rfl rfl (wr_9_8 _) (by first | exact hM.o | exact hM.a54) ?_
        refine aw_goto (t := 9) F dM_goesOn_32 (by decide) ?_
        have e32 : byN B n q = 32 := by omega
        have hq2 := hqn2 e32
        rw [rnF_1 (y1 e32)] at hr
        exact ih (q + 1) (by omega) (by omega) (by omega) _ (hF.up (by decide)) (by rw [up2_same]; omega) (by omega)
  refine aw_aload_0 (q := 1) F dM_goesOn_0 rfl ?_
  refine av_geti (q := 4) F fM_78 dM_goesOn_1 rfl rfl (by first | exact hM.o | exact hM.a54) ?_
  refine aw_iconst (q := 5) F dM_goesOn_4 rfl (by decide) ?_
  refine aw_icmp_ne (q := 8) (t := 9) F dM_goesOn_5 rfl (by decide) (fun c5 => ?_) (fun c5 => by exact absurd c5 hs)
  exact spaces n p rfl (Nat.le_refl _) hp V (GF.rf V) h8 rfl
end Mod39
