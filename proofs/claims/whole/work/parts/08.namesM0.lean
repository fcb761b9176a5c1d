abbrev b_M_init : ByteArray := prog_9_method_1_code
def y_M_init : MethodName := ⟨"RangeExchangeModel", "<init>", "(II)V"⟩
theorem d_M_init_0 : decode b_M_init 0 = .ok (.aload_n 0, 1) := by decide +kernel
theorem d_M_init_1 : decode b_M_init 1 = .ok (.invokespecial 1, 3) := by decide +kernel
theorem d_M_init_4 : decode b_M_init 4 = .ok (.aload_n 0, 1) := by decide +kernel
theorem d_M_init_5 : decode b_M_init 5 = .ok (.bipush 81, 2) := by decide +kernel
theorem d_M_init_7 : decode b_M_init 7 = .ok (.newarray .long, 2) := by decide +kernel
theorem d_M_init_9 : decode b_M_init 9 = .ok (.putfield 7, 3) := by decide +kernel
theorem d_M_init_12 : decode b_M_init 12 = .ok (.aload_n 0, 1) := by decide +kernel
theorem d_M_init_13 : decode b_M_init 13 = .ok (.bipush 12, 2) := by decide +kernel
theorem d_M_init_15 : decode b_M_init 15 = .ok (.newarray .long, 2) := by decide +kernel
theorem d_M_init_17 : decode b_M_init 17 = .ok (.putfield 13, 3) := by decide +kernel
theorem d_M_init_20 : decode b_M_init 20 = .ok (.aload_n 0, 1) := by decide +kernel
theorem d_M_init_21 : decode b_M_init 21 = .ok (.iconst 3, 1) := by decide +kernel
theorem d_M_init_22 : decode b_M_init 22 = .ok (.newarray .long, 2) := by decide +kernel
theorem d_M_init_24 : decode b_M_init 24 = .ok (.putfield 16, 3) := by decide +kernel
theorem d_M_init_27 : decode b_M_init 27 = .ok (.aload_n 0, 1) := by decide +kernel
theorem d_M_init_28 : decode b_M_init 28 = .ok (.iconst 3, 1) := by decide +kernel
theorem d_M_init_29 : decode b_M_init 29 = .ok (.newarray .long, 2) := by decide +kernel
theorem d_M_init_31 : decode b_M_init 31 = .ok (.putfield 19, 3) := by decide +kernel
theorem d_M_init_34 : decode b_M_init 34 = .ok (.aload_n 0, 1) := by decide +kernel
theorem d_M_init_35 : decode b_M_init 35 = .ok (.iconst 2, 1) := by decide +kernel
theorem d_M_init_36 : decode b_M_init 36 = .ok (.newarray .int, 2) := by decide +kernel
theorem d_M_init_38 : decode b_M_init 38 = .ok (.putfield 22, 3) := by decide +kernel
theorem d_M_init_41 : decode b_M_init 41 = .ok (.aload_n 0, 1) := by decide +kernel
theorem d_M_init_42 : decode b_M_init 42 = .ok (.iconst 2, 1) := by decide +kernel
theorem d_M_init_43 : decode b_M_init 43 = .ok (.newarray .long, 2) := by decide +kernel
theorem d_M_init_45 : decode b_M_init 45 = .ok (.putfield 26, 3) := by decide +kernel
theorem d_M_init_48 : decode b_M_init 48 = .ok (.aload_n 0, 1) := by decide +kernel
theorem d_M_init_49 : decode b_M_init 49 = .ok (.iconst 2, 1) := by decide +kernel
theorem d_M_init_50 : decode b_M_init 50 = .ok (.newarray .int, 2) := by decide +kernel
theorem d_M_init_52 : decode b_M_init 52 = .ok (.putfield 29, 3) := by decide +kernel
theorem d_M_init_55 : decode b_M_init 55 = .ok (.aload_n 0, 1) := by decide +kernel
theorem d_M_init_56 : decode b_M_init 56 = .ok (.iconst 4, 1) := by decide +kernel
theorem d_M_init_57 : decode b_M_init 57 = .ok (.newarray .long, 2) := by decide +kernel
theorem d_M_init_59 : decode b_M_init 59 = .ok (.putfield 32, 3) := by decide +kernel
theorem d_M_init_62 : decode b_M_init 62 = .ok (.aload_n 0, 1) := by decide +kernel
theorem d_M_init_63 : decode b_M_init 63 = .ok (.bipush 12, 2) := by decide +kernel
theorem d_M_init_65 : decode b_M_init 65 = .ok (.newarray .boolean, 2) := by decide +kernel
theorem d_M_init_67 : decode b_M_init 67 = .ok (.putfield 35, 3) := by decide +kernel
theorem d_M_init_70 : decode b_M_init 70 = .ok (.aload_n 0, 1) := by decide +kernel
theorem d_M_init_71 : decode b_M_init 71 = .ok (.bipush 12, 2) := by decide +kernel
theorem d_M_init_73 : decode b_M_init 73 = .ok (.newarray .int, 2) := by decide +kernel
theorem d_M_init_75 : decode b_M_init 75 = .ok (.putfield 39, 3) := by decide +kernel
theorem d_M_init_78 : decode b_M_init 78 = .ok (.aload_n 0, 1) := by decide +kernel
theorem d_M_init_79 : decode b_M_init 79 = .ok (.bipush 12, 2) := by decide +kernel
theorem d_M_init_81 : decode b_M_init 81 = .ok (.newarray .int, 2) := by decide +kernel
theorem d_M_init_83 : decode b_M_init 83 = .ok (.putfield 42, 3) := by decide +kernel
theorem d_M_init_86 : decode b_M_init 86 = .ok (.aload_n 0, 1) := by decide +kernel
theorem d_M_init_87 : decode b_M_init 87 = .ok (.bipush 12, 2) := by decide +kernel
theorem d_M_init_89 : decode b_M_init 89 = .ok (.newarray .int, 2) := by decide +kernel
theorem d_M_init_91 : decode b_M_init 91 = .ok (.putfield 45, 3) := by decide +kernel
theorem d_M_init_94 : decode b_M_init 94 = .ok (.aload_n 0, 1) := by decide +kernel
theorem d_M_init_95 : decode b_M_init 95 = .ok (.bipush 12, 2) := by decide +kernel
theorem d_M_init_97 : decode b_M_init 97 = .ok (.newarray .int, 2) := by decide +kernel
theorem d_M_init_99 : decode b_M_init 99 = .ok (.putfield 48, 3) := by decide +kernel
theorem d_M_init_102 : decode b_M_init 102 = .ok (.aload_n 0, 1) := by decide +kernel
theorem d_M_init_103 : decode b_M_init 103 = .ok (.bipush 12, 2) := by decide +kernel
theorem d_M_init_105 : decode b_M_init 105 = .ok (.newarray .long, 2) := by decide +kernel
theorem d_M_init_107 : decode b_M_init 107 = .ok (.putfield 51, 3) := by decide +kernel
theorem d_M_init_110 : decode b_M_init 110 = .ok (.aload_n 0, 1) := by decide +kernel
theorem d_M_init_111 : decode b_M_init 111 = .ok (.bipush 24, 2) := by decide +kernel
theorem d_M_init_113 : decode b_M_init 113 = .ok (.newarray .long, 2) := by decide +kernel
theorem d_M_init_115 : decode b_M_init 115 = .ok (.putfield 54, 3) := by decide +kernel
theorem d_M_init_118 : decode b_M_init 118 = .ok (.aload_n 0, 1) := by decide +kernel
theorem d_M_init_119 : decode b_M_init 119 = .ok (.bipush 24, 2) := by decide +kernel
theorem d_M_init_121 : decode b_M_init 121 = .ok (.newarray .long, 2) := by decide +kernel
theorem d_M_init_123 : decode b_M_init 123 = .ok (.putfield 57, 3) := by decide +kernel
theorem d_M_init_126 : decode b_M_init 126 = .ok (.aload_n 0, 1) := by decide +kernel
theorem d_M_init_127 : decode b_M_init 127 = .ok (.iconst 2, 1) := by decide +kernel
theorem d_M_init_128 : decode b_M_init 128 = .ok (.newarray .long, 2) := by decide +kernel
theorem d_M_init_130 : decode b_M_init 130 = .ok (.putfield 60, 3) := by decide +kernel
theorem d_M_init_133 : decode b_M_init 133 = .ok (.aload_n 0, 1) := by decide +kernel
theorem d_M_init_134 : decode b_M_init 134 = .ok (.iconst 2, 1) := by decide +kernel
theorem d_M_init_135 : decode b_M_init 135 = .ok (.newarray .int, 2) := by decide +kernel
theorem d_M_init_137 : decode b_M_init 137 = .ok (.putfield 63, 3) := by decide +kernel
theorem d_M_init_140 : decode b_M_init 140 = .ok (.aload_n 0, 1) := by decide +kernel
theorem d_M_init_141 : decode b_M_init 141 = .ok (.iconst 2, 1) := by decide +kernel
theorem d_M_init_142 : decode b_M_init 142 = .ok (.newarray .long, 2) := by decide +kernel
theorem d_M_init_144 : decode b_M_init 144 = .ok (.putfield 66, 3) := by decide +kernel
theorem d_M_init_147 : decode b_M_init 147 = .ok (.aload_n 0, 1) := by decide +kernel
theorem d_M_init_148 : decode b_M_init 148 = .ok (.iconst 2, 1) := by decide +kernel
theorem d_M_init_149 : decode b_M_init 149 = .ok (.newarray .long, 2) := by decide +kernel
theorem d_M_init_151 : decode b_M_init 151 = .ok (.putfield 69, 3) := by decide +kernel
theorem d_M_init_154 : decode b_M_init 154 = .ok (.aload_n 0, 1) := by decide +kernel
theorem d_M_init_155 : decode b_M_init 155 = .ok (.iconst 2, 1) := by decide +kernel
theorem d_M_init_156 : decode b_M_init 156 = .ok (.newarray .long, 2) := by decide +kernel
theorem d_M_init_158 : decode b_M_init 158 = .ok (.putfield 72, 3) := by decide +kernel
theorem d_M_init_161 : decode b_M_init 161 = .ok (.aload_n 0, 1) := by decide +kernel
theorem d_M_init_162 : decode b_M_init 162 = .ok (.bipush 12, 2) := by decide +kernel
theorem d_M_init_164 : decode b_M_init 164 = .ok (.newarray .long, 2) := by decide +kernel
theorem d_M_init_166 : decode b_M_init 166 = .ok (.putfield 75, 3) := by decide +kernel
theorem d_M_init_169 : decode b_M_init 169 = .ok (.aload_n 0, 1) := by decide +kernel
theorem d_M_init_170 : decode b_M_init 170 = .ok (.getfield 22, 3) := by decide +kernel
theorem d_M_init_173 : decode b_M_init 173 = .ok (.iconst 0, 1) := by decide +kernel
theorem d_M_init_174 : decode b_M_init 174 = .ok (.iload_n 1, 1) := by decide +kernel
theorem d_M_init_175 : decode b_M_init 175 = .ok (.ifCond .ge 7, 3) := by decide +kernel
theorem d_M_init_178 : decode b_M_init 178 = .ok (.iconst 0, 1) := by decide +kernel
theorem d_M_init_179 : decode b_M_init 179 = .ok (.goto 15, 3) := by decide +kernel
theorem d_M_init_182 : decode b_M_init 182 = .ok (.iload_n 1, 1) := by decide +kernel
theorem d_M_init_183 : decode b_M_init 183 = .ok (.bipush 100, 2) := by decide +kernel
theorem d_M_init_185 : decode b_M_init 185 = .ok (.if_icmp .le 8, 3) := by decide +kernel
theorem d_M_init_188 : decode b_M_init 188 = .ok (.bipush 100, 2) := by decide +kernel
theorem d_M_init_190 : decode b_M_init 190 = .ok (.goto 4, 3) := by decide +kernel
theorem d_M_init_193 : decode b_M_init 193 = .ok (.iload_n 1, 1) := by decide +kernel
theorem d_M_init_194 : decode b_M_init 194 = .ok (.iastore, 1) := by decide +kernel
theorem d_M_init_195 : decode b_M_init 195 = .ok (.aload_n 0, 1) := by decide +kernel
theorem d_M_init_196 : decode b_M_init 196 = .ok (.getfield 22, 3) := by decide +kernel
theorem d_M_init_199 : decode b_M_init 199 = .ok (.iconst 1, 1) := by decide +kernel
theorem d_M_init_200 : decode b_M_init 200 = .ok (.iload_n 2, 1) := by decide +kernel
theorem d_M_init_201 : decode b_M_init 201 = .ok (.ifCond .ge 7, 3) := by decide +kernel
theorem d_M_init_204 : decode b_M_init 204 = .ok (.iconst 0, 1) := by decide +kernel
theorem d_M_init_205 : decode b_M_init 205 = .ok (.goto 15, 3) := by decide +kernel
theorem d_M_init_208 : decode b_M_init 208 = .ok (.iload_n 2, 1) := by decide +kernel
theorem d_M_init_209 : decode b_M_init 209 = .ok (.bipush 100, 2) := by decide +kernel
theorem d_M_init_211 : decode b_M_init 211 = .ok (.if_icmp .le 8, 3) := by decide +kernel
theorem d_M_init_214 : decode b_M_init 214 = .ok (.bipush 100, 2) := by decide +kernel
theorem d_M_init_216 : decode b_M_init 216 = .ok (.goto 4, 3) := by decide +kernel
theorem d_M_init_219 : decode b_M_init 219 = .ok (.iload_n 2, 1) := by decide +kernel
theorem d_M_init_220 : decode b_M_init 220 = .ok (.iastore, 1) := by decide +kernel
theorem d_M_init_221 : decode b_M_init 221 = .ok (.aload_n 0, 1) := by decide +kernel
theorem d_M_init_222 : decode b_M_init 222 = .ok (.getfield 7, 3) := by decide +kernel
theorem d_M_init_225 : decode b_M_init 225 = .ok (.bipush 40, 2) := by decide +kernel
theorem d_M_init_227 : decode b_M_init 227 = .ok (.ldc2_w 78, 3) := by decide +kernel
theorem d_M_init_230 : decode b_M_init 230 = .ok (.lastore, 1) := by decide +kernel
theorem d_M_init_231 : decode b_M_init 231 = .ok (.iconst 0, 1) := by decide +kernel
theorem d_M_init_232 : decode b_M_init 232 = .ok (.istore_n 3, 1) := by decide +kernel
theorem d_M_init_233 : decode b_M_init 233 = .ok (.iload_n 3, 1) := by decide +kernel
theorem d_M_init_234 : decode b_M_init 234 = .ok (.bipush 40, 2) := by decide +kernel
theorem d_M_init_236 : decode b_M_init 236 = .ok (.if_icmp .ge 73, 3) := by decide +kernel
theorem d_M_init_239 : decode b_M_init 239 = .ok (.aload_n 0, 1) := by decide +kernel
theorem d_M_init_240 : decode b_M_init 240 = .ok (.getfield 7, 3) := by decide +kernel
theorem d_M_init_243 : decode b_M_init 243 = .ok (.bipush 41, 2) := by decide +kernel
theorem d_M_init_245 : decode b_M_init 245 = .ok (.iload_n 3, 1) := by decide +kernel
theorem d_M_init_246 : decode b_M_init 246 = .ok (.iadd, 1) := by decide +kernel
theorem d_M_init_247 : decode b_M_init 247 = .ok (.aload_n 0, 1) := by decide +kernel
theorem d_M_init_248 : decode b_M_init 248 = .ok (.getfield 7, 3) := by decide +kernel
theorem d_M_init_251 : decode b_M_init 251 = .ok (.bipush 40, 2) := by decide +kernel
theorem d_M_init_253 : decode b_M_init 253 = .ok (.iload_n 3, 1) := by decide +kernel
theorem d_M_init_254 : decode b_M_init 254 = .ok (.iadd, 1) := by decide +kernel
theorem d_M_init_255 : decode b_M_init 255 = .ok (.laload, 1) := by decide +kernel
theorem d_M_init_256 : decode b_M_init 256 = .ok (.aload_n 0, 1) := by decide +kernel
theorem d_M_init_257 : decode b_M_init 257 = .ok (.getfield 7, 3) := by decide +kernel
theorem d_M_init_260 : decode b_M_init 260 = .ok (.bipush 40, 2) := by decide +kernel
theorem d_M_init_262 : decode b_M_init 262 = .ok (.iload_n 3, 1) := by decide +kernel
theorem d_M_init_263 : decode b_M_init 263 = .ok (.iadd, 1) := by decide +kernel
theorem d_M_init_264 : decode b_M_init 264 = .ok (.laload, 1) := by decide +kernel
theorem d_M_init_265 : decode b_M_init 265 = .ok (.ldc2_w 80, 3) := by decide +kernel
theorem d_M_init_268 : decode b_M_init 268 = .ok (.ldiv, 1) := by decide +kernel
theorem d_M_init_269 : decode b_M_init 269 = .ok (.ladd, 1) := by decide +kernel
theorem d_M_init_270 : decode b_M_init 270 = .ok (.lastore, 1) := by decide +kernel
theorem d_M_init_271 : decode b_M_init 271 = .ok (.aload_n 0, 1) := by decide +kernel
theorem d_M_init_272 : decode b_M_init 272 = .ok (.getfield 7, 3) := by decide +kernel
theorem d_M_init_275 : decode b_M_init 275 = .ok (.bipush 39, 2) := by decide +kernel
theorem d_M_init_277 : decode b_M_init 277 = .ok (.iload_n 3, 1) := by decide +kernel
theorem d_M_init_278 : decode b_M_init 278 = .ok (.isub, 1) := by decide +kernel
theorem d_M_init_279 : decode b_M_init 279 = .ok (.aload_n 0, 1) := by decide +kernel
theorem d_M_init_280 : decode b_M_init 280 = .ok (.getfield 7, 3) := by decide +kernel
theorem d_M_init_283 : decode b_M_init 283 = .ok (.bipush 40, 2) := by decide +kernel
theorem d_M_init_285 : decode b_M_init 285 = .ok (.iload_n 3, 1) := by decide +kernel
theorem d_M_init_286 : decode b_M_init 286 = .ok (.isub, 1) := by decide +kernel
theorem d_M_init_287 : decode b_M_init 287 = .ok (.laload, 1) := by decide +kernel
theorem d_M_init_288 : decode b_M_init 288 = .ok (.aload_n 0, 1) := by decide +kernel
theorem d_M_init_289 : decode b_M_init 289 = .ok (.getfield 7, 3) := by decide +kernel
theorem d_M_init_292 : decode b_M_init 292 = .ok (.bipush 40, 2) := by decide +kernel
theorem d_M_init_294 : decode b_M_init 294 = .ok (.iload_n 3, 1) := by decide +kernel
theorem d_M_init_295 : decode b_M_init 295 = .ok (.isub, 1) := by decide +kernel
theorem d_M_init_296 : decode b_M_init 296 = .ok (.laload, 1) := by decide +kernel
theorem d_M_init_297 : decode b_M_init 297 = .ok (.ldc2_w 82, 3) := by decide +kernel
theorem d_M_init_300 : decode b_M_init 300 = .ok (.ldiv, 1) := by decide +kernel
theorem d_M_init_301 : decode b_M_init 301 = .ok (.lsub, 1) := by decide +kernel
theorem d_M_init_302 : decode b_M_init 302 = .ok (.lastore, 1) := by decide +kernel
theorem d_M_init_303 : decode b_M_init 303 = .ok (.iinc 3 1, 3) := by decide +kernel
theorem d_M_init_306 : decode b_M_init 306 = .ok (.goto (-73), 3) := by decide +kernel
theorem d_M_init_309 : decode b_M_init 309 = .ok (.aload_n 0, 1) := by decide +kernel
theorem d_M_init_310 : decode b_M_init 310 = .ok (.getfield 26, 3) := by decide +kernel
theorem d_M_init_313 : decode b_M_init 313 = .ok (.iconst 0, 1) := by decide +kernel
theorem d_M_init_314 : decode b_M_init 314 = .ok (.ldc2_w 78, 3) := by decide +kernel
theorem d_M_init_317 : decode b_M_init 317 = .ok (.lastore, 1) := by decide +kernel
theorem d_M_init_318 : decode b_M_init 318 = .ok (.aload_n 0, 1) := by decide +kernel
theorem d_M_init_319 : decode b_M_init 319 = .ok (.getfield 26, 3) := by decide +kernel
theorem d_M_init_322 : decode b_M_init 322 = .ok (.iconst 1, 1) := by decide +kernel
theorem d_M_init_323 : decode b_M_init 323 = .ok (.ldc2_w 78, 3) := by decide +kernel
theorem d_M_init_326 : decode b_M_init 326 = .ok (.lastore, 1) := by decide +kernel
theorem d_M_init_327 : decode b_M_init 327 = .ok (.return_, 1) := by decide +kernel
abbrev b_M_thrown : ByteArray := prog_9_method_2_code
def y_M_thrown : MethodName := ⟨"RangeExchangeModel", "thrown", "()I"⟩
theorem d_M_thrown_0 : decode b_M_thrown 0 = .ok (.aload_n 0, 1) := by decide +kernel
theorem d_M_thrown_1 : decode b_M_thrown 1 = .ok (.getfield 84, 3) := by decide +kernel
theorem d_M_thrown_4 : decode b_M_thrown 4 = .ok (.ireturn, 1) := by decide +kernel
abbrev b_M_quotient : ByteArray := prog_9_method_3_code
def y_M_quotient : MethodName := ⟨"RangeExchangeModel", "quotient", "(JJZ)J"⟩
theorem d_M_quotient_0 : decode b_M_quotient 0 = .ok (.lload_n 0, 1) := by decide +kernel
theorem d_M_quotient_1 : decode b_M_quotient 1 = .ok (.lload_n 2, 1) := by decide +kernel
theorem d_M_quotient_2 : decode b_M_quotient 2 = .ok (.ldiv, 1) := by decide +kernel
theorem d_M_quotient_3 : decode b_M_quotient 3 = .ok (.iload 4, 2) := by decide +kernel
theorem d_M_quotient_5 : decode b_M_quotient 5 = .ok (.ifCond .eq 15, 3) := by decide +kernel
theorem d_M_quotient_8 : decode b_M_quotient 8 = .ok (.lload_n 0, 1) := by decide +kernel
theorem d_M_quotient_9 : decode b_M_quotient 9 = .ok (.lload_n 2, 1) := by decide +kernel
theorem d_M_quotient_10 : decode b_M_quotient 10 = .ok (.lrem, 1) := by decide +kernel
theorem d_M_quotient_11 : decode b_M_quotient 11 = .ok (.lconst 0, 1) := by decide +kernel
theorem d_M_quotient_12 : decode b_M_quotient 12 = .ok (.lcmp, 1) := by decide +kernel
theorem d_M_quotient_13 : decode b_M_quotient 13 = .ok (.ifCond .eq 7, 3) := by decide +kernel
theorem d_M_quotient_16 : decode b_M_quotient 16 = .ok (.lconst 1, 1) := by decide +kernel
theorem d_M_quotient_17 : decode b_M_quotient 17 = .ok (.goto 4, 3) := by decide +kernel
theorem d_M_quotient_20 : decode b_M_quotient 20 = .ok (.lconst 0, 1) := by decide +kernel
theorem d_M_quotient_21 : decode b_M_quotient 21 = .ok (.ladd, 1) := by decide +kernel
theorem d_M_quotient_22 : decode b_M_quotient 22 = .ok (.lreturn, 1) := by decide +kernel
abbrev b_M_part : ByteArray := prog_9_method_4_code
def y_M_part : MethodName := ⟨"RangeExchangeModel", "part", "(JJJZ)J"⟩
theorem d_M_part_0 : decode b_M_part 0 = .ok (.lload_n 0, 1) := by decide +kernel
theorem d_M_part_1 : decode b_M_part 1 = .ok (.lload 4, 2) := by decide +kernel
theorem d_M_part_3 : decode b_M_part 3 = .ok (.ldiv, 1) := by decide +kernel
theorem d_M_part_4 : decode b_M_part 4 = .ok (.lload_n 2, 1) := by decide +kernel
theorem d_M_part_5 : decode b_M_part 5 = .ok (.lmul, 1) := by decide +kernel
theorem d_M_part_6 : decode b_M_part 6 = .ok (.lstore 7, 2) := by decide +kernel
theorem d_M_part_8 : decode b_M_part 8 = .ok (.lload_n 0, 1) := by decide +kernel
theorem d_M_part_9 : decode b_M_part 9 = .ok (.lload 4, 2) := by decide +kernel
theorem d_M_part_11 : decode b_M_part 11 = .ok (.lrem, 1) := by decide +kernel
theorem d_M_part_12 : decode b_M_part 12 = .ok (.lstore 9, 2) := by decide +kernel
theorem d_M_part_14 : decode b_M_part 14 = .ok (.lload 9, 2) := by decide +kernel
theorem d_M_part_16 : decode b_M_part 16 = .ok (.lload_n 2, 1) := by decide +kernel
theorem d_M_part_17 : decode b_M_part 17 = .ok (.bipush 17, 2) := by decide +kernel
theorem d_M_part_19 : decode b_M_part 19 = .ok (.lshr, 1) := by decide +kernel
theorem d_M_part_20 : decode b_M_part 20 = .ok (.lmul, 1) := by decide +kernel
theorem d_M_part_21 : decode b_M_part 21 = .ok (.lstore 11, 2) := by decide +kernel
theorem d_M_part_23 : decode b_M_part 23 = .ok (.lload 11, 2) := by decide +kernel
theorem d_M_part_25 : decode b_M_part 25 = .ok (.lload 4, 2) := by decide +kernel
theorem d_M_part_27 : decode b_M_part 27 = .ok (.ldiv, 1) := by decide +kernel
theorem d_M_part_28 : decode b_M_part 28 = .ok (.lstore 13, 2) := by decide +kernel
theorem d_M_part_30 : decode b_M_part 30 = .ok (.lload 11, 2) := by decide +kernel
theorem d_M_part_32 : decode b_M_part 32 = .ok (.lload 4, 2) := by decide +kernel
theorem d_M_part_34 : decode b_M_part 34 = .ok (.lrem, 1) := by decide +kernel
theorem d_M_part_35 : decode b_M_part 35 = .ok (.bipush 17, 2) := by decide +kernel
theorem d_M_part_37 : decode b_M_part 37 = .ok (.lshl, 1) := by decide +kernel
theorem d_M_part_38 : decode b_M_part 38 = .ok (.lload 9, 2) := by decide +kernel
theorem d_M_part_40 : decode b_M_part 40 = .ok (.lload_n 2, 1) := by decide +kernel
theorem d_M_part_41 : decode b_M_part 41 = .ok (.ldc2_w 88, 3) := by decide +kernel
theorem d_M_part_44 : decode b_M_part 44 = .ok (.land, 1) := by decide +kernel
theorem d_M_part_45 : decode b_M_part 45 = .ok (.lmul, 1) := by decide +kernel
theorem d_M_part_46 : decode b_M_part 46 = .ok (.ladd, 1) := by decide +kernel
theorem d_M_part_47 : decode b_M_part 47 = .ok (.lstore 15, 2) := by decide +kernel
theorem d_M_part_49 : decode b_M_part 49 = .ok (.lload 7, 2) := by decide +kernel
theorem d_M_part_51 : decode b_M_part 51 = .ok (.lload 13, 2) := by decide +kernel
theorem d_M_part_53 : decode b_M_part 53 = .ok (.bipush 17, 2) := by decide +kernel
theorem d_M_part_55 : decode b_M_part 55 = .ok (.lshl, 1) := by decide +kernel
theorem d_M_part_56 : decode b_M_part 56 = .ok (.ladd, 1) := by decide +kernel
theorem d_M_part_57 : decode b_M_part 57 = .ok (.lload 15, 2) := by decide +kernel
theorem d_M_part_59 : decode b_M_part 59 = .ok (.lload 4, 2) := by decide +kernel
theorem d_M_part_61 : decode b_M_part 61 = .ok (.iload 6, 2) := by decide +kernel
theorem d_M_part_63 : decode b_M_part 63 = .ok (.invokestatic 90, 3) := by decide +kernel
theorem d_M_part_66 : decode b_M_part 66 = .ok (.ladd, 1) := by decide +kernel
theorem d_M_part_67 : decode b_M_part 67 = .ok (.lreturn, 1) := by decide +kernel
abbrev b_M_share : ByteArray := prog_9_method_5_code
def y_M_share : MethodName := ⟨"RangeExchangeModel", "share", "(JJJZ)J"⟩
theorem d_M_share_0 : decode b_M_share 0 = .ok (.lconst 0, 1) := by decide +kernel
theorem d_M_share_1 : decode b_M_share 1 = .ok (.lstore 7, 2) := by decide +kernel
theorem d_M_share_3 : decode b_M_share 3 = .ok (.lconst 0, 1) := by decide +kernel
theorem d_M_share_4 : decode b_M_share 4 = .ok (.lstore 9, 2) := by decide +kernel
theorem d_M_share_6 : decode b_M_share 6 = .ok (.bipush 34, 2) := by decide +kernel
theorem d_M_share_8 : decode b_M_share 8 = .ok (.istore 11, 2) := by decide +kernel
theorem d_M_share_10 : decode b_M_share 10 = .ok (.iload 11, 2) := by decide +kernel
theorem d_M_share_12 : decode b_M_share 12 = .ok (.ifCond .lt 87, 3) := by decide +kernel
theorem d_M_share_15 : decode b_M_share 15 = .ok (.ldc2_w 94, 3) := by decide +kernel
theorem d_M_share_18 : decode b_M_share 18 = .ok (.lload 7, 2) := by decide +kernel
theorem d_M_share_20 : decode b_M_share 20 = .ok (.lmul, 1) := by decide +kernel
theorem d_M_share_21 : decode b_M_share 21 = .ok (.lstore 7, 2) := by decide +kernel
theorem d_M_share_23 : decode b_M_share 23 = .ok (.ldc2_w 94, 3) := by decide +kernel
theorem d_M_share_26 : decode b_M_share 26 = .ok (.lload 9, 2) := by decide +kernel
theorem d_M_share_28 : decode b_M_share 28 = .ok (.lmul, 1) := by decide +kernel
theorem d_M_share_29 : decode b_M_share 29 = .ok (.lstore 9, 2) := by decide +kernel
theorem d_M_share_31 : decode b_M_share 31 = .ok (.lload 9, 2) := by decide +kernel
theorem d_M_share_33 : decode b_M_share 33 = .ok (.lload 4, 2) := by decide +kernel
theorem d_M_share_35 : decode b_M_share 35 = .ok (.lcmp, 1) := by decide +kernel
theorem d_M_share_36 : decode b_M_share 36 = .ok (.ifCond .lt 16, 3) := by decide +kernel
theorem d_M_share_39 : decode b_M_share 39 = .ok (.lload 9, 2) := by decide +kernel
theorem d_M_share_41 : decode b_M_share 41 = .ok (.lload 4, 2) := by decide +kernel
theorem d_M_share_43 : decode b_M_share 43 = .ok (.lsub, 1) := by decide +kernel
theorem d_M_share_44 : decode b_M_share 44 = .ok (.lstore 9, 2) := by decide +kernel
theorem d_M_share_46 : decode b_M_share 46 = .ok (.lload 7, 2) := by decide +kernel
theorem d_M_share_48 : decode b_M_share 48 = .ok (.lconst 1, 1) := by decide +kernel
theorem d_M_share_49 : decode b_M_share 49 = .ok (.ladd, 1) := by decide +kernel
theorem d_M_share_50 : decode b_M_share 50 = .ok (.lstore 7, 2) := by decide +kernel
theorem d_M_share_52 : decode b_M_share 52 = .ok (.lload_n 2, 1) := by decide +kernel
theorem d_M_share_53 : decode b_M_share 53 = .ok (.iload 11, 2) := by decide +kernel
theorem d_M_share_55 : decode b_M_share 55 = .ok (.lshr, 1) := by decide +kernel
theorem d_M_share_56 : decode b_M_share 56 = .ok (.lconst 1, 1) := by decide +kernel
theorem d_M_share_57 : decode b_M_share 57 = .ok (.land, 1) := by decide +kernel
theorem d_M_share_58 : decode b_M_share 58 = .ok (.lconst 1, 1) := by decide +kernel
theorem d_M_share_59 : decode b_M_share 59 = .ok (.lcmp, 1) := by decide +kernel
theorem d_M_share_60 : decode b_M_share 60 = .ok (.ifCond .ne 9, 3) := by decide +kernel
theorem d_M_share_63 : decode b_M_share 63 = .ok (.lload 9, 2) := by decide +kernel
theorem d_M_share_65 : decode b_M_share 65 = .ok (.lload_n 0, 1) := by decide +kernel
theorem d_M_share_66 : decode b_M_share 66 = .ok (.ladd, 1) := by decide +kernel
theorem d_M_share_67 : decode b_M_share 67 = .ok (.lstore 9, 2) := by decide +kernel
theorem d_M_share_69 : decode b_M_share 69 = .ok (.lload 9, 2) := by decide +kernel
theorem d_M_share_71 : decode b_M_share 71 = .ok (.lload 4, 2) := by decide +kernel
theorem d_M_share_73 : decode b_M_share 73 = .ok (.lcmp, 1) := by decide +kernel
theorem d_M_share_74 : decode b_M_share 74 = .ok (.ifCond .lt 19, 3) := by decide +kernel
theorem d_M_share_77 : decode b_M_share 77 = .ok (.lload 9, 2) := by decide +kernel
theorem d_M_share_79 : decode b_M_share 79 = .ok (.lload 4, 2) := by decide +kernel
theorem d_M_share_81 : decode b_M_share 81 = .ok (.lsub, 1) := by decide +kernel
theorem d_M_share_82 : decode b_M_share 82 = .ok (.lstore 9, 2) := by decide +kernel
theorem d_M_share_84 : decode b_M_share 84 = .ok (.lload 7, 2) := by decide +kernel
theorem d_M_share_86 : decode b_M_share 86 = .ok (.lconst 1, 1) := by decide +kernel
theorem d_M_share_87 : decode b_M_share 87 = .ok (.ladd, 1) := by decide +kernel
theorem d_M_share_88 : decode b_M_share 88 = .ok (.lstore 7, 2) := by decide +kernel
theorem d_M_share_90 : decode b_M_share 90 = .ok (.goto (-21), 3) := by decide +kernel
theorem d_M_share_93 : decode b_M_share 93 = .ok (.iinc 11 (-1), 3) := by decide +kernel
theorem d_M_share_96 : decode b_M_share 96 = .ok (.goto (-86), 3) := by decide +kernel
theorem d_M_share_99 : decode b_M_share 99 = .ok (.iload 6, 2) := by decide +kernel
theorem d_M_share_101 : decode b_M_share 101 = .ok (.ifCond .eq 17, 3) := by decide +kernel
theorem d_M_share_104 : decode b_M_share 104 = .ok (.lload 9, 2) := by decide +kernel
theorem d_M_share_106 : decode b_M_share 106 = .ok (.lconst 0, 1) := by decide +kernel
theorem d_M_share_107 : decode b_M_share 107 = .ok (.lcmp, 1) := by decide +kernel
theorem d_M_share_108 : decode b_M_share 108 = .ok (.ifCond .le 10, 3) := by decide +kernel
theorem d_M_share_111 : decode b_M_share 111 = .ok (.lload 7, 2) := by decide +kernel
theorem d_M_share_113 : decode b_M_share 113 = .ok (.lconst 1, 1) := by decide +kernel
theorem d_M_share_114 : decode b_M_share 114 = .ok (.ladd, 1) := by decide +kernel
theorem d_M_share_115 : decode b_M_share 115 = .ok (.goto 5, 3) := by decide +kernel
theorem d_M_share_118 : decode b_M_share 118 = .ok (.lload 7, 2) := by decide +kernel
theorem d_M_share_120 : decode b_M_share 120 = .ok (.lreturn, 1) := by decide +kernel
abbrev b_M_near : ByteArray := prog_9_method_6_code
def y_M_near : MethodName := ⟨"RangeExchangeModel", "near", "(JJJZ)J"⟩
theorem d_M_near_0 : decode b_M_near 0 = .ok (.lload 4, 2) := by decide +kernel
theorem d_M_near_2 : decode b_M_near 2 = .ok (.ldc2_w 78, 3) := by decide +kernel
theorem d_M_near_5 : decode b_M_near 5 = .ok (.lmul, 1) := by decide +kernel
theorem d_M_near_6 : decode b_M_near 6 = .ok (.lload_n 2, 1) := by decide +kernel
theorem d_M_near_7 : decode b_M_near 7 = .ok (.lload_n 0, 1) := by decide +kernel
theorem d_M_near_8 : decode b_M_near 8 = .ok (.lsub, 1) := by decide +kernel
theorem d_M_near_9 : decode b_M_near 9 = .ok (.lload_n 2, 1) := by decide +kernel
theorem d_M_near_10 : decode b_M_near 10 = .ok (.iload 6, 2) := by decide +kernel
theorem d_M_near_12 : decode b_M_near 12 = .ok (.invokestatic 96, 3) := by decide +kernel
theorem d_M_near_15 : decode b_M_near 15 = .ok (.lstore 7, 2) := by decide +kernel
theorem d_M_near_17 : decode b_M_near 17 = .ok (.lload 7, 2) := by decide +kernel
theorem d_M_near_19 : decode b_M_near 19 = .ok (.lload_n 0, 1) := by decide +kernel
theorem d_M_near_20 : decode b_M_near 20 = .ok (.iload 6, 2) := by decide +kernel
theorem d_M_near_22 : decode b_M_near 22 = .ok (.invokestatic 90, 3) := by decide +kernel
theorem d_M_near_25 : decode b_M_near 25 = .ok (.lreturn, 1) := by decide +kernel
abbrev b_M_far : ByteArray := prog_9_method_7_code
def y_M_far : MethodName := ⟨"RangeExchangeModel", "far", "(JJJZ)J"⟩
theorem d_M_far_0 : decode b_M_far 0 = .ok (.lload 4, 2) := by decide +kernel
theorem d_M_far_2 : decode b_M_far 2 = .ok (.lload_n 2, 1) := by decide +kernel
theorem d_M_far_3 : decode b_M_far 3 = .ok (.lload_n 0, 1) := by decide +kernel
theorem d_M_far_4 : decode b_M_far 4 = .ok (.lsub, 1) := by decide +kernel
theorem d_M_far_5 : decode b_M_far 5 = .ok (.lmul, 1) := by decide +kernel
theorem d_M_far_6 : decode b_M_far 6 = .ok (.ldc2_w 78, 3) := by decide +kernel
theorem d_M_far_9 : decode b_M_far 9 = .ok (.iload 6, 2) := by decide +kernel
theorem d_M_far_11 : decode b_M_far 11 = .ok (.invokestatic 90, 3) := by decide +kernel
theorem d_M_far_14 : decode b_M_far 14 = .ok (.lreturn, 1) := by decide +kernel
abbrev b_M_rootOf : ByteArray := prog_9_method_8_code
def y_M_rootOf : MethodName := ⟨"RangeExchangeModel", "rootOf", "(I)J"⟩
theorem d_M_rootOf_0 : decode b_M_rootOf 0 = .ok (.aload_n 0, 1) := by decide +kernel
theorem d_M_rootOf_1 : decode b_M_rootOf 1 = .ok (.getfield 7, 3) := by decide +kernel
theorem d_M_rootOf_4 : decode b_M_rootOf 4 = .ok (.iload_n 1, 1) := by decide +kernel
theorem d_M_rootOf_5 : decode b_M_rootOf 5 = .ok (.bipush 40, 2) := by decide +kernel
theorem d_M_rootOf_7 : decode b_M_rootOf 7 = .ok (.iadd, 1) := by decide +kernel
theorem d_M_rootOf_8 : decode b_M_rootOf 8 = .ok (.laload, 1) := by decide +kernel
theorem d_M_rootOf_9 : decode b_M_rootOf 9 = .ok (.lreturn, 1) := by decide +kernel
abbrev b_M_worthNear : ByteArray := prog_9_method_9_code
def y_M_worthNear : MethodName := ⟨"RangeExchangeModel", "worthNear", "(IIIJZ)J"⟩
theorem d_M_worthNear_0 : decode b_M_worthNear 0 = .ok (.aload_n 0, 1) := by decide +kernel
theorem d_M_worthNear_1 : decode b_M_worthNear 1 = .ok (.getfield 29, 3) := by decide +kernel
theorem d_M_worthNear_4 : decode b_M_worthNear 4 = .ok (.iload_n 1, 1) := by decide +kernel
theorem d_M_worthNear_5 : decode b_M_worthNear 5 = .ok (.iaload, 1) := by decide +kernel
theorem d_M_worthNear_6 : decode b_M_worthNear 6 = .ok (.iload_n 3, 1) := by decide +kernel
theorem d_M_worthNear_7 : decode b_M_worthNear 7 = .ok (.if_icmp .lt 5, 3) := by decide +kernel
theorem d_M_worthNear_10 : decode b_M_worthNear 10 = .ok (.lconst 0, 1) := by decide +kernel
theorem d_M_worthNear_11 : decode b_M_worthNear 11 = .ok (.lreturn, 1) := by decide +kernel
theorem d_M_worthNear_12 : decode b_M_worthNear 12 = .ok (.aload_n 0, 1) := by decide +kernel
theorem d_M_worthNear_13 : decode b_M_worthNear 13 = .ok (.getfield 29, 3) := by decide +kernel
theorem d_M_worthNear_16 : decode b_M_worthNear 16 = .ok (.iload_n 1, 1) := by decide +kernel
theorem d_M_worthNear_17 : decode b_M_worthNear 17 = .ok (.iaload, 1) := by decide +kernel
theorem d_M_worthNear_18 : decode b_M_worthNear 18 = .ok (.iload_n 2, 1) := by decide +kernel
theorem d_M_worthNear_19 : decode b_M_worthNear 19 = .ok (.if_icmp .ge 11, 3) := by decide +kernel
theorem d_M_worthNear_22 : decode b_M_worthNear 22 = .ok (.aload_n 0, 1) := by decide +kernel
theorem d_M_worthNear_23 : decode b_M_worthNear 23 = .ok (.iload_n 2, 1) := by decide +kernel
theorem d_M_worthNear_24 : decode b_M_worthNear 24 = .ok (.invokevirtual 100, 3) := by decide +kernel
theorem d_M_worthNear_27 : decode b_M_worthNear 27 = .ok (.goto 9, 3) := by decide +kernel
theorem d_M_worthNear_30 : decode b_M_worthNear 30 = .ok (.aload_n 0, 1) := by decide +kernel
theorem d_M_worthNear_31 : decode b_M_worthNear 31 = .ok (.getfield 26, 3) := by decide +kernel
theorem d_M_worthNear_34 : decode b_M_worthNear 34 = .ok (.iload_n 1, 1) := by decide +kernel
theorem d_M_worthNear_35 : decode b_M_worthNear 35 = .ok (.laload, 1) := by decide +kernel
theorem d_M_worthNear_36 : decode b_M_worthNear 36 = .ok (.aload_n 0, 1) := by decide +kernel
theorem d_M_worthNear_37 : decode b_M_worthNear 37 = .ok (.iload_n 3, 1) := by decide +kernel
theorem d_M_worthNear_38 : decode b_M_worthNear 38 = .ok (.invokevirtual 100, 3) := by decide +kernel
theorem d_M_worthNear_41 : decode b_M_worthNear 41 = .ok (.lload 4, 2) := by decide +kernel
theorem d_M_worthNear_43 : decode b_M_worthNear 43 = .ok (.iload 6, 2) := by decide +kernel
theorem d_M_worthNear_45 : decode b_M_worthNear 45 = .ok (.invokestatic 104, 3) := by decide +kernel
theorem d_M_worthNear_48 : decode b_M_worthNear 48 = .ok (.lreturn, 1) := by decide +kernel
