theorem dX12_init_0 : decode cX12_init 0 = .ok (.aload_n 0, 1) := by decide +kernel
theorem dX12_init_1 : decode cX12_init 1 = .ok (.invokespecial 1, 3) := by decide +kernel
theorem dX12_init_4 : decode cX12_init 4 = .ok (.aload_n 0, 1) := by decide +kernel
theorem dX12_init_5 : decode cX12_init 5 = .ok (.bipush 8, 2) := by decide +kernel
theorem dX12_init_7 : decode cX12_init 7 = .ok (.newarray .int, 2) := by decide +kernel
theorem dX12_init_9 : decode cX12_init 9 = .ok (.putfield 7, 3) := by decide +kernel
theorem dX12_init_12 : decode cX12_init 12 = .ok (.aload_n 0, 1) := by decide +kernel
theorem dX12_init_13 : decode cX12_init 13 = .ok (.bipush 8, 2) := by decide +kernel
theorem dX12_init_15 : decode cX12_init 15 = .ok (.newarray .int, 2) := by decide +kernel
theorem dX12_init_17 : decode cX12_init 17 = .ok (.putfield 13, 3) := by decide +kernel
theorem dX12_init_20 : decode cX12_init 20 = .ok (.aload_n 0, 1) := by decide +kernel
theorem dX12_init_21 : decode cX12_init 21 = .ok (.bipush 8, 2) := by decide +kernel
theorem dX12_init_23 : decode cX12_init 23 = .ok (.newarray .int, 2) := by decide +kernel
theorem dX12_init_25 : decode cX12_init 25 = .ok (.putfield 16, 3) := by decide +kernel
theorem dX12_init_28 : decode cX12_init 28 = .ok (.aload_n 0, 1) := by decide +kernel
theorem dX12_init_29 : decode cX12_init 29 = .ok (.bipush 8, 2) := by decide +kernel
theorem dX12_init_31 : decode cX12_init 31 = .ok (.newarray .int, 2) := by decide +kernel
theorem dX12_init_33 : decode cX12_init 33 = .ok (.putfield 19, 3) := by decide +kernel
theorem dX12_init_36 : decode cX12_init 36 = .ok (.aload_n 0, 1) := by decide +kernel
theorem dX12_init_37 : decode cX12_init 37 = .ok (.iconst 4, 1) := by decide +kernel
theorem dX12_init_38 : decode cX12_init 38 = .ok (.newarray .int, 2) := by decide +kernel
theorem dX12_init_40 : decode cX12_init 40 = .ok (.dup, 1) := by decide +kernel
theorem dX12_init_41 : decode cX12_init 41 = .ok (.iconst 0, 1) := by decide +kernel
theorem dX12_init_42 : decode cX12_init 42 = .ok (.iconst 0, 1) := by decide +kernel
theorem dX12_init_43 : decode cX12_init 43 = .ok (.iastore, 1) := by decide +kernel
theorem dX12_init_44 : decode cX12_init 44 = .ok (.dup, 1) := by decide +kernel
theorem dX12_init_45 : decode cX12_init 45 = .ok (.iconst 1, 1) := by decide +kernel
theorem dX12_init_46 : decode cX12_init 46 = .ok (.bipush 8, 2) := by decide +kernel
theorem dX12_init_48 : decode cX12_init 48 = .ok (.iastore, 1) := by decide +kernel
theorem dX12_init_49 : decode cX12_init 49 = .ok (.dup, 1) := by decide +kernel
theorem dX12_init_50 : decode cX12_init 50 = .ok (.iconst 2, 1) := by decide +kernel
theorem dX12_init_51 : decode cX12_init 51 = .ok (.bipush 8, 2) := by decide +kernel
theorem dX12_init_53 : decode cX12_init 53 = .ok (.iastore, 1) := by decide +kernel
theorem dX12_init_54 : decode cX12_init 54 = .ok (.dup, 1) := by decide +kernel
theorem dX12_init_55 : decode cX12_init 55 = .ok (.iconst 3, 1) := by decide +kernel
theorem dX12_init_56 : decode cX12_init 56 = .ok (.iconst 4, 1) := by decide +kernel
theorem dX12_init_57 : decode cX12_init 57 = .ok (.iastore, 1) := by decide +kernel
theorem dX12_init_58 : decode cX12_init 58 = .ok (.putfield 22, 3) := by decide +kernel
theorem dX12_init_61 : decode cX12_init 61 = .ok (.aload_n 0, 1) := by decide +kernel
theorem dX12_init_62 : decode cX12_init 62 = .ok (.iconst (-1), 1) := by decide +kernel
theorem dX12_init_63 : decode cX12_init 63 = .ok (.putfield 25, 3) := by decide +kernel
theorem dX12_init_66 : decode cX12_init 66 = .ok (.aload_n 0, 1) := by decide +kernel
theorem dX12_init_67 : decode cX12_init 67 = .ok (.bipush 40, 2) := by decide +kernel
theorem dX12_init_69 : decode cX12_init 69 = .ok (.newarray .int, 2) := by decide +kernel
theorem dX12_init_71 : decode cX12_init 71 = .ok (.putfield 29, 3) := by decide +kernel
theorem dX12_init_74 : decode cX12_init 74 = .ok (.aload_n 0, 1) := by decide +kernel
theorem dX12_init_75 : decode cX12_init 75 = .ok (.bipush 40, 2) := by decide +kernel
theorem dX12_init_77 : decode cX12_init 77 = .ok (.newarray .int, 2) := by decide +kernel
theorem dX12_init_79 : decode cX12_init 79 = .ok (.putfield 32, 3) := by decide +kernel
theorem dX12_init_82 : decode cX12_init 82 = .ok (.aload_n 0, 1) := by decide +kernel
theorem dX12_init_83 : decode cX12_init 83 = .ok (.bipush 40, 2) := by decide +kernel
theorem dX12_init_85 : decode cX12_init 85 = .ok (.newarray .int, 2) := by decide +kernel
theorem dX12_init_87 : decode cX12_init 87 = .ok (.putfield 35, 3) := by decide +kernel
theorem dX12_init_90 : decode cX12_init 90 = .ok (.aload_n 0, 1) := by decide +kernel
theorem dX12_init_91 : decode cX12_init 91 = .ok (.bipush 40, 2) := by decide +kernel
theorem dX12_init_93 : decode cX12_init 93 = .ok (.newarray .int, 2) := by decide +kernel
theorem dX12_init_95 : decode cX12_init 95 = .ok (.putfield 38, 3) := by decide +kernel
theorem dX12_init_98 : decode cX12_init 98 = .ok (.aload_n 0, 1) := by decide +kernel
theorem dX12_init_99 : decode cX12_init 99 = .ok (.bipush 120, 2) := by decide +kernel
theorem dX12_init_101 : decode cX12_init 101 = .ok (.newarray .byte, 2) := by decide +kernel
theorem dX12_init_103 : decode cX12_init 103 = .ok (.putfield 41, 3) := by decide +kernel
theorem dX12_init_106 : decode cX12_init 106 = .ok (.aload_n 0, 1) := by decide +kernel
theorem dX12_init_107 : decode cX12_init 107 = .ok (.sipush 260, 3) := by decide +kernel
theorem dX12_init_110 : decode cX12_init 110 = .ok (.newarray .byte, 2) := by decide +kernel
theorem dX12_init_112 : decode cX12_init 112 = .ok (.putfield 45, 3) := by decide +kernel
theorem dX12_init_115 : decode cX12_init 115 = .ok (.aload_n 0, 1) := by decide +kernel
theorem dX12_init_116 : decode cX12_init 116 = .ok (.sipush 260, 3) := by decide +kernel
theorem dX12_init_119 : decode cX12_init 119 = .ok (.newarray .int, 2) := by decide +kernel
theorem dX12_init_121 : decode cX12_init 121 = .ok (.putfield 48, 3) := by decide +kernel
theorem dX12_init_124 : decode cX12_init 124 = .ok (.aload_n 0, 1) := by decide +kernel
theorem dX12_init_125 : decode cX12_init 125 = .ok (.iconst 2, 1) := by decide +kernel
theorem dX12_init_126 : decode cX12_init 126 = .ok (.newarray .int, 2) := by decide +kernel
theorem dX12_init_128 : decode cX12_init 128 = .ok (.putfield 51, 3) := by decide +kernel
theorem dX12_init_131 : decode cX12_init 131 = .ok (.aload_n 0, 1) := by decide +kernel
theorem dX12_init_132 : decode cX12_init 132 = .ok (.bipush 122, 2) := by decide +kernel
theorem dX12_init_134 : decode cX12_init 134 = .ok (.newarray .short, 2) := by decide +kernel
theorem dX12_init_136 : decode cX12_init 136 = .ok (.putfield 54, 3) := by decide +kernel
theorem dX12_init_139 : decode cX12_init 139 = .ok (.aload_n 0, 1) := by decide +kernel
theorem dX12_init_140 : decode cX12_init 140 = .ok (.bipush 122, 2) := by decide +kernel
theorem dX12_init_142 : decode cX12_init 142 = .ok (.newarray .short, 2) := by decide +kernel
theorem dX12_init_144 : decode cX12_init 144 = .ok (.putfield 58, 3) := by decide +kernel
theorem dX12_init_147 : decode cX12_init 147 = .ok (.aload_n 0, 1) := by decide +kernel
theorem dX12_init_148 : decode cX12_init 148 = .ok (.bipush 6, 2) := by decide +kernel
theorem dX12_init_150 : decode cX12_init 150 = .ok (.newarray .int, 2) := by decide +kernel
theorem dX12_init_152 : decode cX12_init 152 = .ok (.putfield 61, 3) := by decide +kernel
theorem dX12_init_155 : decode cX12_init 155 = .ok (.aload_n 0, 1) := by decide +kernel
theorem dX12_init_156 : decode cX12_init 156 = .ok (.sipush 130, 3) := by decide +kernel
theorem dX12_init_159 : decode cX12_init 159 = .ok (.newarray .int, 2) := by decide +kernel
theorem dX12_init_161 : decode cX12_init 161 = .ok (.putfield 64, 3) := by decide +kernel
theorem dX12_init_164 : decode cX12_init 164 = .ok (.aload_n 0, 1) := by decide +kernel
theorem dX12_init_165 : decode cX12_init 165 = .ok (.bipush 8, 2) := by decide +kernel
theorem dX12_init_167 : decode cX12_init 167 = .ok (.newarray .int, 2) := by decide +kernel
theorem dX12_init_169 : decode cX12_init 169 = .ok (.putfield 67, 3) := by decide +kernel
theorem dX12_init_172 : decode cX12_init 172 = .ok (.aload_n 0, 1) := by decide +kernel
theorem dX12_init_173 : decode cX12_init 173 = .ok (.bipush 8, 2) := by decide +kernel
theorem dX12_init_175 : decode cX12_init 175 = .ok (.newarray .int, 2) := by decide +kernel
theorem dX12_init_177 : decode cX12_init 177 = .ok (.putfield 70, 3) := by decide +kernel
theorem dX12_init_180 : decode cX12_init 180 = .ok (.aload_n 0, 1) := by decide +kernel
theorem dX12_init_181 : decode cX12_init 181 = .ok (.bipush 8, 2) := by decide +kernel
theorem dX12_init_183 : decode cX12_init 183 = .ok (.newarray .int, 2) := by decide +kernel
theorem dX12_init_185 : decode cX12_init 185 = .ok (.putfield 73, 3) := by decide +kernel
theorem dX12_init_188 : decode cX12_init 188 = .ok (.aload_n 0, 1) := by decide +kernel
theorem dX12_init_189 : decode cX12_init 189 = .ok (.bipush 8, 2) := by decide +kernel
theorem dX12_init_191 : decode cX12_init 191 = .ok (.newarray .int, 2) := by decide +kernel
theorem dX12_init_193 : decode cX12_init 193 = .ok (.putfield 76, 3) := by decide +kernel
theorem dX12_init_196 : decode cX12_init 196 = .ok (.aload_n 0, 1) := by decide +kernel
theorem dX12_init_197 : decode cX12_init 197 = .ok (.bipush 7, 2) := by decide +kernel
theorem dX12_init_199 : decode cX12_init 199 = .ok (.newarray .int, 2) := by decide +kernel
theorem dX12_init_201 : decode cX12_init 201 = .ok (.putfield 79, 3) := by decide +kernel
theorem dX12_init_204 : decode cX12_init 204 = .ok (.aload_n 0, 1) := by decide +kernel
theorem dX12_init_205 : decode cX12_init 205 = .ok (.bipush 7, 2) := by decide +kernel
theorem dX12_init_207 : decode cX12_init 207 = .ok (.newarray .int, 2) := by decide +kernel
theorem dX12_init_209 : decode cX12_init 209 = .ok (.putfield 82, 3) := by decide +kernel
theorem dX12_init_212 : decode cX12_init 212 = .ok (.aload_n 0, 1) := by decide +kernel
theorem dX12_init_213 : decode cX12_init 213 = .ok (.iconst 5, 1) := by decide +kernel
theorem dX12_init_214 : decode cX12_init 214 = .ok (.newarray .int, 2) := by decide +kernel
theorem dX12_init_216 : decode cX12_init 216 = .ok (.putfield 85, 3) := by decide +kernel
theorem dX12_init_219 : decode cX12_init 219 = .ok (.aload_n 0, 1) := by decide +kernel
theorem dX12_init_220 : decode cX12_init 220 = .ok (.bipush 8, 2) := by decide +kernel
theorem dX12_init_222 : decode cX12_init 222 = .ok (.newarray .int, 2) := by decide +kernel
theorem dX12_init_224 : decode cX12_init 224 = .ok (.putfield 88, 3) := by decide +kernel
theorem dX12_init_227 : decode cX12_init 227 = .ok (.aload_n 0, 1) := by decide +kernel
theorem dX12_init_228 : decode cX12_init 228 = .ok (.bipush 8, 2) := by decide +kernel
theorem dX12_init_230 : decode cX12_init 230 = .ok (.newarray .int, 2) := by decide +kernel
theorem dX12_init_232 : decode cX12_init 232 = .ok (.putfield 91, 3) := by decide +kernel
theorem dX12_init_235 : decode cX12_init 235 = .ok (.aload_n 0, 1) := by decide +kernel
theorem dX12_init_236 : decode cX12_init 236 = .ok (.iconst 5, 1) := by decide +kernel
theorem dX12_init_237 : decode cX12_init 237 = .ok (.newarray .int, 2) := by decide +kernel
theorem dX12_init_239 : decode cX12_init 239 = .ok (.putfield 94, 3) := by decide +kernel
theorem dX12_init_242 : decode cX12_init 242 = .ok (.aload_n 0, 1) := by decide +kernel
theorem dX12_init_243 : decode cX12_init 243 = .ok (.bipush 50, 2) := by decide +kernel
theorem dX12_init_245 : decode cX12_init 245 = .ok (.newarray .int, 2) := by decide +kernel
theorem dX12_init_247 : decode cX12_init 247 = .ok (.putfield 97, 3) := by decide +kernel
theorem dX12_init_250 : decode cX12_init 250 = .ok (.aload_n 0, 1) := by decide +kernel
theorem dX12_init_251 : decode cX12_init 251 = .ok (.bipush 24, 2) := by decide +kernel
theorem dX12_init_253 : decode cX12_init 253 = .ok (.newarray .int, 2) := by decide +kernel
theorem dX12_init_255 : decode cX12_init 255 = .ok (.putfield 100, 3) := by decide +kernel
theorem dX12_init_258 : decode cX12_init 258 = .ok (.aload_n 0, 1) := by decide +kernel
theorem dX12_init_259 : decode cX12_init 259 = .ok (.bipush 6, 2) := by decide +kernel
theorem dX12_init_261 : decode cX12_init 261 = .ok (.newarray .int, 2) := by decide +kernel
theorem dX12_init_263 : decode cX12_init 263 = .ok (.dup, 1) := by decide +kernel
theorem dX12_init_264 : decode cX12_init 264 = .ok (.iconst 0, 1) := by decide +kernel
theorem dX12_init_265 : decode cX12_init 265 = .ok (.iconst (-1), 1) := by decide +kernel
theorem dX12_init_266 : decode cX12_init 266 = .ok (.iastore, 1) := by decide +kernel
theorem dX12_init_267 : decode cX12_init 267 = .ok (.dup, 1) := by decide +kernel
theorem dX12_init_268 : decode cX12_init 268 = .ok (.iconst 1, 1) := by decide +kernel
theorem dX12_init_269 : decode cX12_init 269 = .ok (.iconst (-1), 1) := by decide +kernel
theorem dX12_init_270 : decode cX12_init 270 = .ok (.iastore, 1) := by decide +kernel
theorem dX12_init_271 : decode cX12_init 271 = .ok (.dup, 1) := by decide +kernel
theorem dX12_init_272 : decode cX12_init 272 = .ok (.iconst 2, 1) := by decide +kernel
theorem dX12_init_273 : decode cX12_init 273 = .ok (.iconst (-1), 1) := by decide +kernel
theorem dX12_init_274 : decode cX12_init 274 = .ok (.iastore, 1) := by decide +kernel
theorem dX12_init_275 : decode cX12_init 275 = .ok (.dup, 1) := by decide +kernel
theorem dX12_init_276 : decode cX12_init 276 = .ok (.iconst 3, 1) := by decide +kernel
theorem dX12_init_277 : decode cX12_init 277 = .ok (.iconst (-1), 1) := by decide +kernel
theorem dX12_init_278 : decode cX12_init 278 = .ok (.iastore, 1) := by decide +kernel
theorem dX12_init_279 : decode cX12_init 279 = .ok (.dup, 1) := by decide +kernel
theorem dX12_init_280 : decode cX12_init 280 = .ok (.iconst 4, 1) := by decide +kernel
theorem dX12_init_281 : decode cX12_init 281 = .ok (.iconst (-1), 1) := by decide +kernel
theorem dX12_init_282 : decode cX12_init 282 = .ok (.iastore, 1) := by decide +kernel
theorem dX12_init_283 : decode cX12_init 283 = .ok (.dup, 1) := by decide +kernel
theorem dX12_init_284 : decode cX12_init 284 = .ok (.iconst 5, 1) := by decide +kernel
theorem dX12_init_285 : decode cX12_init 285 = .ok (.iconst (-1), 1) := by decide +kernel
theorem dX12_init_286 : decode cX12_init 286 = .ok (.iastore, 1) := by decide +kernel
theorem dX12_init_287 : decode cX12_init 287 = .ok (.putfield 103, 3) := by decide +kernel
theorem dX12_init_290 : decode cX12_init 290 = .ok (.aload_n 0, 1) := by decide +kernel
theorem dX12_init_291 : decode cX12_init 291 = .ok (.bipush 6, 2) := by decide +kernel
theorem dX12_init_293 : decode cX12_init 293 = .ok (.newarray .int, 2) := by decide +kernel
theorem dX12_init_295 : decode cX12_init 295 = .ok (.putfield 106, 3) := by decide +kernel
theorem dX12_init_298 : decode cX12_init 298 = .ok (.aload_n 0, 1) := by decide +kernel
theorem dX12_init_299 : decode cX12_init 299 = .ok (.sipush 360, 3) := by decide +kernel
theorem dX12_init_302 : decode cX12_init 302 = .ok (.newarray .long, 2) := by decide +kernel
theorem dX12_init_304 : decode cX12_init 304 = .ok (.putfield 109, 3) := by decide +kernel
theorem dX12_init_307 : decode cX12_init 307 = .ok (.aload_n 0, 1) := by decide +kernel
theorem dX12_init_308 : decode cX12_init 308 = .ok (.bipush 60, 2) := by decide +kernel
theorem dX12_init_310 : decode cX12_init 310 = .ok (.newarray .long, 2) := by decide +kernel
theorem dX12_init_312 : decode cX12_init 312 = .ok (.putfield 113, 3) := by decide +kernel
theorem dX12_init_315 : decode cX12_init 315 = .ok (.return_, 1) := by decide +kernel
theorem dX12_in_0 : decode cX12_in 0 = .ok (.iload_n 0, 1) := by decide +kernel
theorem dX12_in_1 : decode cX12_in 1 = .ok (.iload_n 1, 1) := by decide +kernel
theorem dX12_in_2 : decode cX12_in 2 = .ok (.if_icmp .lt 12, 3) := by decide +kernel
theorem dX12_in_5 : decode cX12_in 5 = .ok (.iload_n 0, 1) := by decide +kernel
theorem dX12_in_6 : decode cX12_in 6 = .ok (.iload_n 2, 1) := by decide +kernel
theorem dX12_in_7 : decode cX12_in 7 = .ok (.if_icmp .gt 7, 3) := by decide +kernel
theorem dX12_in_10 : decode cX12_in 10 = .ok (.iconst 1, 1) := by decide +kernel
theorem dX12_in_11 : decode cX12_in 11 = .ok (.goto 4, 3) := by decide +kernel
theorem dX12_in_14 : decode cX12_in 14 = .ok (.iconst 0, 1) := by decide +kernel
theorem dX12_in_15 : decode cX12_in 15 = .ok (.ireturn, 1) := by decide +kernel
theorem dX12_apart_0 : decode cX12_apart 0 = .ok (.iload_n 0, 1) := by decide +kernel
theorem dX12_apart_1 : decode cX12_apart 1 = .ok (.iload_n 1, 1) := by decide +kernel
theorem dX12_apart_2 : decode cX12_apart 2 = .ok (.if_icmp .ge 9, 3) := by decide +kernel
theorem dX12_apart_5 : decode cX12_apart 5 = .ok (.iload_n 1, 1) := by decide +kernel
theorem dX12_apart_6 : decode cX12_apart 6 = .ok (.iload_n 0, 1) := by decide +kernel
theorem dX12_apart_7 : decode cX12_apart 7 = .ok (.isub, 1) := by decide +kernel
theorem dX12_apart_8 : decode cX12_apart 8 = .ok (.goto 6, 3) := by decide +kernel
theorem dX12_apart_11 : decode cX12_apart 11 = .ok (.iload_n 0, 1) := by decide +kernel
theorem dX12_apart_12 : decode cX12_apart 12 = .ok (.iload_n 1, 1) := by decide +kernel
theorem dX12_apart_13 : decode cX12_apart 13 = .ok (.isub, 1) := by decide +kernel
theorem dX12_apart_14 : decode cX12_apart 14 = .ok (.ireturn, 1) := by decide +kernel
theorem dX12_far_0 : decode cX12_far 0 = .ok (.iload_n 0, 1) := by decide +kernel
theorem dX12_far_1 : decode cX12_far 1 = .ok (.bipush 16, 2) := by decide +kernel
theorem dX12_far_3 : decode cX12_far 3 = .ok (.irem, 1) := by decide +kernel
theorem dX12_far_4 : decode cX12_far 4 = .ok (.iload_n 1, 1) := by decide +kernel
theorem dX12_far_5 : decode cX12_far 5 = .ok (.bipush 16, 2) := by decide +kernel
theorem dX12_far_7 : decode cX12_far 7 = .ok (.irem, 1) := by decide +kernel
theorem dX12_far_8 : decode cX12_far 8 = .ok (.invokestatic 119, 3) := by decide +kernel
theorem dX12_far_11 : decode cX12_far 11 = .ok (.iload_n 0, 1) := by decide +kernel
theorem dX12_far_12 : decode cX12_far 12 = .ok (.bipush 16, 2) := by decide +kernel
theorem dX12_far_14 : decode cX12_far 14 = .ok (.idiv, 1) := by decide +kernel
theorem dX12_far_15 : decode cX12_far 15 = .ok (.iload_n 1, 1) := by decide +kernel
theorem dX12_far_16 : decode cX12_far 16 = .ok (.bipush 16, 2) := by decide +kernel
theorem dX12_far_18 : decode cX12_far 18 = .ok (.idiv, 1) := by decide +kernel
theorem dX12_far_19 : decode cX12_far 19 = .ok (.invokestatic 119, 3) := by decide +kernel
theorem dX12_far_22 : decode cX12_far 22 = .ok (.iadd, 1) := by decide +kernel
theorem dX12_far_23 : decode cX12_far 23 = .ok (.ireturn, 1) := by decide +kernel
theorem dX12_bitsOf_0 : decode cX12_bitsOf 0 = .ok (.iconst 0, 1) := by decide +kernel
theorem dX12_bitsOf_1 : decode cX12_bitsOf 1 = .ok (.istore_n 1, 1) := by decide +kernel
theorem dX12_bitsOf_2 : decode cX12_bitsOf 2 = .ok (.iload_n 0, 1) := by decide +kernel
theorem dX12_bitsOf_3 : decode cX12_bitsOf 3 = .ok (.istore_n 2, 1) := by decide +kernel
theorem dX12_bitsOf_4 : decode cX12_bitsOf 4 = .ok (.iload_n 2, 1) := by decide +kernel
theorem dX12_bitsOf_5 : decode cX12_bitsOf 5 = .ok (.ifCond .eq 15, 3) := by decide +kernel
theorem dX12_bitsOf_8 : decode cX12_bitsOf 8 = .ok (.iinc 1 1, 3) := by decide +kernel
theorem dX12_bitsOf_11 : decode cX12_bitsOf 11 = .ok (.iload_n 2, 1) := by decide +kernel
theorem dX12_bitsOf_12 : decode cX12_bitsOf 12 = .ok (.iload_n 2, 1) := by decide +kernel
theorem dX12_bitsOf_13 : decode cX12_bitsOf 13 = .ok (.iconst 1, 1) := by decide +kernel
theorem dX12_bitsOf_14 : decode cX12_bitsOf 14 = .ok (.isub, 1) := by decide +kernel
theorem dX12_bitsOf_15 : decode cX12_bitsOf 15 = .ok (.iand, 1) := by decide +kernel
theorem dX12_bitsOf_16 : decode cX12_bitsOf 16 = .ok (.istore_n 2, 1) := by decide +kernel
theorem dX12_bitsOf_17 : decode cX12_bitsOf 17 = .ok (.goto (-13), 3) := by decide +kernel
theorem dX12_bitsOf_20 : decode cX12_bitsOf 20 = .ok (.iload_n 1, 1) := by decide +kernel
theorem dX12_bitsOf_21 : decode cX12_bitsOf 21 = .ok (.ireturn, 1) := by decide +kernel
theorem dX12_isOne_0 : decode cX12_isOne 0 = .ok (.iload_n 1, 1) := by decide +kernel
theorem dX12_isOne_1 : decode cX12_isOne 1 = .ok (.iconst 0, 1) := by decide +kernel
theorem dX12_isOne_2 : decode cX12_isOne 2 = .ok (.aload_n 0, 1) := by decide +kernel
theorem dX12_isOne_3 : decode cX12_isOne 3 = .ok (.getfield 123, 3) := by decide +kernel
theorem dX12_isOne_6 : decode cX12_isOne 6 = .ok (.iconst 1, 1) := by decide +kernel
theorem dX12_isOne_7 : decode cX12_isOne 7 = .ok (.isub, 1) := by decide +kernel
theorem dX12_isOne_8 : decode cX12_isOne 8 = .ok (.invokestatic 126, 3) := by decide +kernel
theorem dX12_isOne_11 : decode cX12_isOne 11 = .ok (.ireturn, 1) := by decide +kernel
theorem dX12_areTwo_0 : decode cX12_areTwo 0 = .ok (.iload_n 1, 1) := by decide +kernel
theorem dX12_areTwo_1 : decode cX12_areTwo 1 = .ok (.ifCond .lt 40, 3) := by decide +kernel
theorem dX12_areTwo_4 : decode cX12_areTwo 4 = .ok (.aload_n 0, 1) := by decide +kernel
theorem dX12_areTwo_5 : decode cX12_areTwo 5 = .ok (.iload_n 1, 1) := by decide +kernel
theorem dX12_areTwo_6 : decode cX12_areTwo 6 = .ok (.bipush 10, 2) := by decide +kernel
theorem dX12_areTwo_8 : decode cX12_areTwo 8 = .ok (.idiv, 1) := by decide +kernel
theorem dX12_areTwo_9 : decode cX12_areTwo 9 = .ok (.invokevirtual 130, 3) := by decide +kernel
theorem dX12_areTwo_12 : decode cX12_areTwo 12 = .ok (.ifCond .eq 29, 3) := by decide +kernel
theorem dX12_areTwo_15 : decode cX12_areTwo 15 = .ok (.aload_n 0, 1) := by decide +kernel
theorem dX12_areTwo_16 : decode cX12_areTwo 16 = .ok (.iload_n 1, 1) := by decide +kernel
theorem dX12_areTwo_17 : decode cX12_areTwo 17 = .ok (.bipush 10, 2) := by decide +kernel
theorem dX12_areTwo_19 : decode cX12_areTwo 19 = .ok (.irem, 1) := by decide +kernel
theorem dX12_areTwo_20 : decode cX12_areTwo 20 = .ok (.invokevirtual 130, 3) := by decide +kernel
theorem dX12_areTwo_23 : decode cX12_areTwo 23 = .ok (.ifCond .eq 18, 3) := by decide +kernel
theorem dX12_areTwo_26 : decode cX12_areTwo 26 = .ok (.iload_n 1, 1) := by decide +kernel
theorem dX12_areTwo_27 : decode cX12_areTwo 27 = .ok (.bipush 10, 2) := by decide +kernel
theorem dX12_areTwo_29 : decode cX12_areTwo 29 = .ok (.idiv, 1) := by decide +kernel
theorem dX12_areTwo_30 : decode cX12_areTwo 30 = .ok (.iload_n 1, 1) := by decide +kernel
theorem dX12_areTwo_31 : decode cX12_areTwo 31 = .ok (.bipush 10, 2) := by decide +kernel
theorem dX12_areTwo_33 : decode cX12_areTwo 33 = .ok (.irem, 1) := by decide +kernel
theorem dX12_areTwo_34 : decode cX12_areTwo 34 = .ok (.if_icmp .eq 7, 3) := by decide +kernel
theorem dX12_areTwo_37 : decode cX12_areTwo 37 = .ok (.iconst 1, 1) := by decide +kernel
theorem dX12_areTwo_38 : decode cX12_areTwo 38 = .ok (.goto 4, 3) := by decide +kernel
theorem dX12_areTwo_41 : decode cX12_areTwo 41 = .ok (.iconst 0, 1) := by decide +kernel
theorem dX12_areTwo_42 : decode cX12_areTwo 42 = .ok (.ireturn, 1) := by decide +kernel
theorem dX12_isCell_0 : decode cX12_isCell 0 = .ok (.iload_n 0, 1) := by decide +kernel
theorem dX12_isCell_1 : decode cX12_isCell 1 = .ok (.iconst 0, 1) := by decide +kernel
theorem dX12_isCell_2 : decode cX12_isCell 2 = .ok (.sipush 255, 3) := by decide +kernel
theorem dX12_isCell_5 : decode cX12_isCell 5 = .ok (.invokestatic 126, 3) := by decide +kernel
theorem dX12_isCell_8 : decode cX12_isCell 8 = .ok (.ireturn, 1) := by decide +kernel
theorem dX12_addOne_0 : decode cX12_addOne 0 = .ok (.aload_n 0, 1) := by decide +kernel
theorem dX12_addOne_1 : decode cX12_addOne 1 = .ok (.getfield 7, 3) := by decide +kernel
theorem dX12_addOne_4 : decode cX12_addOne 4 = .ok (.aload_n 0, 1) := by decide +kernel
theorem dX12_addOne_5 : decode cX12_addOne 5 = .ok (.getfield 123, 3) := by decide +kernel
theorem dX12_addOne_8 : decode cX12_addOne 8 = .ok (.iload_n 1, 1) := by decide +kernel
theorem dX12_addOne_9 : decode cX12_addOne 9 = .ok (.iastore, 1) := by decide +kernel
theorem dX12_addOne_10 : decode cX12_addOne 10 = .ok (.aload_n 0, 1) := by decide +kernel
theorem dX12_addOne_11 : decode cX12_addOne 11 = .ok (.getfield 13, 3) := by decide +kernel
theorem dX12_addOne_14 : decode cX12_addOne 14 = .ok (.aload_n 0, 1) := by decide +kernel
theorem dX12_addOne_15 : decode cX12_addOne 15 = .ok (.getfield 123, 3) := by decide +kernel
theorem dX12_addOne_18 : decode cX12_addOne 18 = .ok (.iload_n 2, 1) := by decide +kernel
theorem dX12_addOne_19 : decode cX12_addOne 19 = .ok (.iastore, 1) := by decide +kernel
theorem dX12_addOne_20 : decode cX12_addOne 20 = .ok (.aload_n 0, 1) := by decide +kernel
theorem dX12_addOne_21 : decode cX12_addOne 21 = .ok (.getfield 16, 3) := by decide +kernel
theorem dX12_addOne_24 : decode cX12_addOne 24 = .ok (.aload_n 0, 1) := by decide +kernel
theorem dX12_addOne_25 : decode cX12_addOne 25 = .ok (.getfield 123, 3) := by decide +kernel
theorem dX12_addOne_28 : decode cX12_addOne 28 = .ok (.iload_n 3, 1) := by decide +kernel
theorem dX12_addOne_29 : decode cX12_addOne 29 = .ok (.iastore, 1) := by decide +kernel
theorem dX12_addOne_30 : decode cX12_addOne 30 = .ok (.aload_n 0, 1) := by decide +kernel
theorem dX12_addOne_31 : decode cX12_addOne 31 = .ok (.getfield 19, 3) := by decide +kernel
theorem dX12_addOne_34 : decode cX12_addOne 34 = .ok (.aload_n 0, 1) := by decide +kernel
theorem dX12_addOne_35 : decode cX12_addOne 35 = .ok (.getfield 123, 3) := by decide +kernel
theorem dX12_addOne_38 : decode cX12_addOne 38 = .ok (.bipush 10, 2) := by decide +kernel
theorem dX12_addOne_40 : decode cX12_addOne 40 = .ok (.iastore, 1) := by decide +kernel
theorem dX12_addOne_41 : decode cX12_addOne 41 = .ok (.aload_n 0, 1) := by decide +kernel
theorem dX12_addOne_42 : decode cX12_addOne 42 = .ok (.dup, 1) := by decide +kernel
theorem dX12_addOne_43 : decode cX12_addOne 43 = .ok (.getfield 123, 3) := by decide +kernel
theorem dX12_addOne_46 : decode cX12_addOne 46 = .ok (.iconst 1, 1) := by decide +kernel
theorem dX12_addOne_47 : decode cX12_addOne 47 = .ok (.iadd, 1) := by decide +kernel
theorem dX12_addOne_48 : decode cX12_addOne 48 = .ok (.putfield 123, 3) := by decide +kernel
theorem dX12_addOne_51 : decode cX12_addOne 51 = .ok (.aload_n 0, 1) := by decide +kernel
theorem dX12_addOne_52 : decode cX12_addOne 52 = .ok (.getfield 123, 3) := by decide +kernel
theorem dX12_addOne_55 : decode cX12_addOne 55 = .ok (.iconst 1, 1) := by decide +kernel
theorem dX12_addOne_56 : decode cX12_addOne 56 = .ok (.isub, 1) := by decide +kernel
theorem dX12_addOne_57 : decode cX12_addOne 57 = .ok (.ireturn, 1) := by decide +kernel
theorem dX12_person_0 : decode cX12_person 0 = .ok (.iload_n 1, 1) := by decide +kernel
theorem dX12_person_1 : decode cX12_person 1 = .ok (.invokestatic 134, 3) := by decide +kernel
theorem dX12_person_4 : decode cX12_person 4 = .ok (.ifCond .ne 5, 3) := by decide +kernel
theorem dX12_person_7 : decode cX12_person 7 = .ok (.iconst (-1), 1) := by decide +kernel
theorem dX12_person_8 : decode cX12_person 8 = .ok (.ireturn, 1) := by decide +kernel
theorem dX12_person_9 : decode cX12_person 9 = .ok (.aload_n 0, 1) := by decide +kernel
theorem dX12_person_10 : decode cX12_person 10 = .ok (.getfield 123, 3) := by decide +kernel
theorem dX12_person_13 : decode cX12_person 13 = .ok (.bipush 8, 2) := by decide +kernel
theorem dX12_person_15 : decode cX12_person 15 = .ok (.if_icmp .ne 8, 3) := by decide +kernel
theorem dX12_person_18 : decode cX12_person 18 = .ok (.bipush (-3), 2) := by decide +kernel
theorem dX12_person_20 : decode cX12_person 20 = .ok (.goto 11, 3) := by decide +kernel
theorem dX12_person_23 : decode cX12_person 23 = .ok (.aload_n 0, 1) := by decide +kernel
theorem dX12_person_24 : decode cX12_person 24 = .ok (.iload_n 1, 1) := by decide +kernel
theorem dX12_person_25 : decode cX12_person 25 = .ok (.bipush 6, 2) := by decide +kernel
theorem dX12_person_27 : decode cX12_person 27 = .ok (.iconst 0, 1) := by decide +kernel
theorem dX12_person_28 : decode cX12_person 28 = .ok (.invokevirtual 137, 3) := by decide +kernel
theorem dX12_person_31 : decode cX12_person 31 = .ok (.ireturn, 1) := by decide +kernel
theorem dX12_people_0 : decode cX12_people 0 = .ok (.iload_n 1, 1) := by decide +kernel
theorem dX12_people_1 : decode cX12_people 1 = .ok (.invokestatic 141, 3) := by decide +kernel
theorem dX12_people_4 : decode cX12_people 4 = .ok (.ifCond .eq 13, 3) := by decide +kernel
theorem dX12_people_7 : decode cX12_people 7 = .ok (.iload_n 3, 1) := by decide +kernel
theorem dX12_people_8 : decode cX12_people 8 = .ok (.iconst 1, 1) := by decide +kernel
theorem dX12_people_9 : decode cX12_people 9 = .ok (.bipush 8, 2) := by decide +kernel
theorem dX12_people_11 : decode cX12_people 11 = .ok (.invokestatic 126, 3) := by decide +kernel
theorem dX12_people_14 : decode cX12_people 14 = .ok (.ifCond .ne 5, 3) := by decide +kernel
theorem dX12_people_17 : decode cX12_people 17 = .ok (.iconst (-1), 1) := by decide +kernel
theorem dX12_people_18 : decode cX12_people 18 = .ok (.ireturn, 1) := by decide +kernel
theorem dX12_people_19 : decode cX12_people 19 = .ok (.aload_n 0, 1) := by decide +kernel
theorem dX12_people_20 : decode cX12_people 20 = .ok (.getfield 103, 3) := by decide +kernel
theorem dX12_people_23 : decode cX12_people 23 = .ok (.iload_n 1, 1) := by decide +kernel
theorem dX12_people_24 : decode cX12_people 24 = .ok (.iaload, 1) := by decide +kernel
theorem dX12_people_25 : decode cX12_people 25 = .ok (.iconst (-1), 1) := by decide +kernel
theorem dX12_people_26 : decode cX12_people 26 = .ok (.if_icmp .eq 17, 3) := by decide +kernel
theorem dX12_people_29 : decode cX12_people 29 = .ok (.aload_n 0, 1) := by decide +kernel
theorem dX12_people_30 : decode cX12_people 30 = .ok (.getfield 103, 3) := by decide +kernel
theorem dX12_people_33 : decode cX12_people 33 = .ok (.iload_n 1, 1) := by decide +kernel
theorem dX12_people_34 : decode cX12_people 34 = .ok (.iaload, 1) := by decide +kernel
theorem dX12_people_35 : decode cX12_people 35 = .ok (.bipush (-3), 2) := by decide +kernel
theorem dX12_people_37 : decode cX12_people 37 = .ok (.if_icmp .eq 6, 3) := by decide +kernel
theorem dX12_people_40 : decode cX12_people 40 = .ok (.bipush (-12), 2) := by decide +kernel
theorem dX12_people_42 : decode cX12_people 42 = .ok (.ireturn, 1) := by decide +kernel
theorem dX12_people_43 : decode cX12_people 43 = .ok (.aload_n 0, 1) := by decide +kernel
theorem dX12_people_44 : decode cX12_people 44 = .ok (.getfield 103, 3) := by decide +kernel
theorem dX12_people_47 : decode cX12_people 47 = .ok (.iload_n 1, 1) := by decide +kernel
theorem dX12_people_48 : decode cX12_people 48 = .ok (.iaload, 1) := by decide +kernel
theorem dX12_people_49 : decode cX12_people 49 = .ok (.iconst (-1), 1) := by decide +kernel
theorem dX12_people_50 : decode cX12_people 50 = .ok (.if_icmp .ne 5, 3) := by decide +kernel
theorem dX12_people_53 : decode cX12_people 53 = .ok (.iconst 0, 1) := by decide +kernel
theorem dX12_people_54 : decode cX12_people 54 = .ok (.ireturn, 1) := by decide +kernel
theorem dX12_people_55 : decode cX12_people 55 = .ok (.iconst 0, 1) := by decide +kernel
theorem dX12_people_56 : decode cX12_people 56 = .ok (.istore 4, 2) := by decide +kernel
theorem dX12_people_58 : decode cX12_people 58 = .ok (.iload 4, 2) := by decide +kernel
theorem dX12_people_60 : decode cX12_people 60 = .ok (.iload_n 3, 1) := by decide +kernel
theorem dX12_people_61 : decode cX12_people 61 = .ok (.if_icmp .ge 153, 3) := by decide +kernel
theorem dX12_people_64 : decode cX12_people 64 = .ok (.iload_n 2, 1) := by decide +kernel
theorem dX12_people_65 : decode cX12_people 65 = .ok (.i2l, 1) := by decide +kernel
theorem dX12_people_66 : decode cX12_people 66 = .ok (.iconst 3, 1) := by decide +kernel
theorem dX12_people_67 : decode cX12_people 67 = .ok (.iload 4, 2) := by decide +kernel
theorem dX12_people_69 : decode cX12_people 69 = .ok (.imul, 1) := by decide +kernel
theorem dX12_people_70 : decode cX12_people 70 = .ok (.i2l, 1) := by decide +kernel
theorem dX12_people_71 : decode cX12_people 71 = .ok (.ladd, 1) := by decide +kernel
theorem dX12_people_72 : decode cX12_people 72 = .ok (.lstore 5, 2) := by decide +kernel
theorem dX12_people_74 : decode cX12_people 74 = .ok (.lload 5, 2) := by decide +kernel
theorem dX12_people_76 : decode cX12_people 76 = .ok (.lconst 0, 1) := by decide +kernel
theorem dX12_people_77 : decode cX12_people 77 = .ok (.lcmp, 1) := by decide +kernel
theorem dX12_people_78 : decode cX12_people 78 = .ok (.ifCond .lt 29, 3) := by decide +kernel
theorem dX12_people_81 : decode cX12_people 81 = .ok (.lload 5, 2) := by decide +kernel
theorem dX12_people_83 : decode cX12_people 83 = .ok (.ldc2_w 144, 3) := by decide +kernel
theorem dX12_people_86 : decode cX12_people 86 = .ok (.ladd, 1) := by decide +kernel
theorem dX12_people_87 : decode cX12_people 87 = .ok (.aload_n 0, 1) := by decide +kernel
theorem dX12_people_88 : decode cX12_people 88 = .ok (.getfield 106, 3) := by decide +kernel
theorem dX12_people_91 : decode cX12_people 91 = .ok (.iload_n 1, 1) := by decide +kernel
theorem dX12_people_92 : decode cX12_people 92 = .ok (.iaload, 1) := by decide +kernel
theorem dX12_people_93 : decode cX12_people 93 = .ok (.i2l, 1) := by decide +kernel
theorem dX12_people_94 : decode cX12_people 94 = .ok (.lcmp, 1) := by decide +kernel
theorem dX12_people_95 : decode cX12_people 95 = .ok (.ifCond .ge 12, 3) := by decide +kernel
theorem dX12_people_98 : decode cX12_people 98 = .ok (.aload_n 0, 1) := by decide +kernel
theorem dX12_people_99 : decode cX12_people 99 = .ok (.getfield 123, 3) := by decide +kernel
theorem dX12_people_102 : decode cX12_people 102 = .ok (.bipush 8, 2) := by decide +kernel
theorem dX12_people_104 : decode cX12_people 104 = .ok (.if_icmp .ne 6, 3) := by decide +kernel
theorem dX12_people_107 : decode cX12_people 107 = .ok (.iload 4, 2) := by decide +kernel
theorem dX12_people_109 : decode cX12_people 109 = .ok (.ireturn, 1) := by decide +kernel
theorem dX12_people_110 : decode cX12_people 110 = .ok (.bipush 60, 2) := by decide +kernel
theorem dX12_people_112 : decode cX12_people 112 = .ok (.iload_n 1, 1) := by decide +kernel
theorem dX12_people_113 : decode cX12_people 113 = .ok (.imul, 1) := by decide +kernel
theorem dX12_people_114 : decode cX12_people 114 = .ok (.lload 5, 2) := by decide +kernel
theorem dX12_people_116 : decode cX12_people 116 = .ok (.l2i, 1) := by decide +kernel
theorem dX12_people_117 : decode cX12_people 117 = .ok (.iadd, 1) := by decide +kernel
theorem dX12_people_118 : decode cX12_people 118 = .ok (.istore 7, 2) := by decide +kernel
theorem dX12_people_120 : decode cX12_people 120 = .ok (.aload_n 0, 1) := by decide +kernel
theorem dX12_people_121 : decode cX12_people 121 = .ok (.getfield 109, 3) := by decide +kernel
theorem dX12_people_124 : decode cX12_people 124 = .ok (.iload 7, 2) := by decide +kernel
theorem dX12_people_126 : decode cX12_people 126 = .ok (.laload, 1) := by decide +kernel
theorem dX12_people_127 : decode cX12_people 127 = .ok (.l2i, 1) := by decide +kernel
theorem dX12_people_128 : decode cX12_people 128 = .ok (.invokestatic 134, 3) := by decide +kernel
theorem dX12_people_131 : decode cX12_people 131 = .ok (.ifCond .eq 41, 3) := by decide +kernel
theorem dX12_people_134 : decode cX12_people 134 = .ok (.aload_n 0, 1) := by decide +kernel
theorem dX12_people_135 : decode cX12_people 135 = .ok (.getfield 109, 3) := by decide +kernel
theorem dX12_people_138 : decode cX12_people 138 = .ok (.iload 7, 2) := by decide +kernel
theorem dX12_people_140 : decode cX12_people 140 = .ok (.iconst 1, 1) := by decide +kernel
theorem dX12_people_141 : decode cX12_people 141 = .ok (.iadd, 1) := by decide +kernel
theorem dX12_people_142 : decode cX12_people 142 = .ok (.laload, 1) := by decide +kernel
theorem dX12_people_143 : decode cX12_people 143 = .ok (.l2i, 1) := by decide +kernel
theorem dX12_people_144 : decode cX12_people 144 = .ok (.iconst 0, 1) := by decide +kernel
theorem dX12_people_145 : decode cX12_people 145 = .ok (.bipush 12, 2) := by decide +kernel
theorem dX12_people_147 : decode cX12_people 147 = .ok (.invokestatic 126, 3) := by decide +kernel
theorem dX12_people_150 : decode cX12_people 150 = .ok (.ifCond .eq 22, 3) := by decide +kernel
theorem dX12_people_153 : decode cX12_people 153 = .ok (.aload_n 0, 1) := by decide +kernel
theorem dX12_people_154 : decode cX12_people 154 = .ok (.getfield 109, 3) := by decide +kernel
theorem dX12_people_157 : decode cX12_people 157 = .ok (.iload 7, 2) := by decide +kernel
theorem dX12_people_159 : decode cX12_people 159 = .ok (.iconst 2, 1) := by decide +kernel
theorem dX12_people_160 : decode cX12_people 160 = .ok (.iadd, 1) := by decide +kernel
theorem dX12_people_161 : decode cX12_people 161 = .ok (.laload, 1) := by decide +kernel
theorem dX12_people_162 : decode cX12_people 162 = .ok (.l2i, 1) := by decide +kernel
theorem dX12_people_163 : decode cX12_people 163 = .ok (.iconst 0, 1) := by decide +kernel
theorem dX12_people_164 : decode cX12_people 164 = .ok (.bipush 9, 2) := by decide +kernel
theorem dX12_people_166 : decode cX12_people 166 = .ok (.invokestatic 126, 3) := by decide +kernel
theorem dX12_people_169 : decode cX12_people 169 = .ok (.ifCond .ne 6, 3) := by decide +kernel
theorem dX12_people_172 : decode cX12_people 172 = .ok (.iload 4, 2) := by decide +kernel
theorem dX12_people_174 : decode cX12_people 174 = .ok (.ireturn, 1) := by decide +kernel
theorem dX12_people_175 : decode cX12_people 175 = .ok (.aload_n 0, 1) := by decide +kernel
theorem dX12_people_176 : decode cX12_people 176 = .ok (.aload_n 0, 1) := by decide +kernel
theorem dX12_people_177 : decode cX12_people 177 = .ok (.getfield 109, 3) := by decide +kernel
theorem dX12_people_180 : decode cX12_people 180 = .ok (.iload 7, 2) := by decide +kernel
theorem dX12_people_182 : decode cX12_people 182 = .ok (.laload, 1) := by decide +kernel
theorem dX12_people_183 : decode cX12_people 183 = .ok (.l2i, 1) := by decide +kernel
theorem dX12_people_184 : decode cX12_people 184 = .ok (.aload_n 0, 1) := by decide +kernel
theorem dX12_people_185 : decode cX12_people 185 = .ok (.getfield 109, 3) := by decide +kernel
theorem dX12_people_188 : decode cX12_people 188 = .ok (.iload 7, 2) := by decide +kernel
theorem dX12_people_190 : decode cX12_people 190 = .ok (.iconst 1, 1) := by decide +kernel
theorem dX12_people_191 : decode cX12_people 191 = .ok (.iadd, 1) := by decide +kernel
theorem dX12_people_192 : decode cX12_people 192 = .ok (.laload, 1) := by decide +kernel
theorem dX12_people_193 : decode cX12_people 193 = .ok (.l2i, 1) := by decide +kernel
theorem dX12_people_194 : decode cX12_people 194 = .ok (.aload_n 0, 1) := by decide +kernel
theorem dX12_people_195 : decode cX12_people 195 = .ok (.getfield 109, 3) := by decide +kernel
theorem dX12_people_198 : decode cX12_people 198 = .ok (.iload 7, 2) := by decide +kernel
theorem dX12_people_200 : decode cX12_people 200 = .ok (.iconst 2, 1) := by decide +kernel
theorem dX12_people_201 : decode cX12_people 201 = .ok (.iadd, 1) := by decide +kernel
theorem dX12_people_202 : decode cX12_people 202 = .ok (.laload, 1) := by decide +kernel
theorem dX12_people_203 : decode cX12_people 203 = .ok (.l2i, 1) := by decide +kernel
theorem dX12_people_204 : decode cX12_people 204 = .ok (.invokevirtual 137, 3) := by decide +kernel
theorem dX12_people_207 : decode cX12_people 207 = .ok (.pop, 1) := by decide +kernel
theorem dX12_people_208 : decode cX12_people 208 = .ok (.iinc 4 1, 3) := by decide +kernel
theorem dX12_people_211 : decode cX12_people 211 = .ok (.goto (-153), 3) := by decide +kernel
theorem dX12_people_214 : decode cX12_people 214 = .ok (.iload_n 3, 1) := by decide +kernel
theorem dX12_people_215 : decode cX12_people 215 = .ok (.ireturn, 1) := by decide +kernel
theorem dX12_valueAt_0 : decode cX12_valueAt 0 = .ok (.iload_n 1, 1) := by decide +kernel
theorem dX12_valueAt_1 : decode cX12_valueAt 1 = .ok (.tableswitch 59 0 3 #[31, 38, 45, 52], 31) := by decide +kernel
theorem dX12_valueAt_32 : decode cX12_valueAt 32 = .ok (.aload_n 0, 1) := by decide +kernel
theorem dX12_valueAt_33 : decode cX12_valueAt 33 = .ok (.getfield 7, 3) := by decide +kernel
theorem dX12_valueAt_36 : decode cX12_valueAt 36 = .ok (.iload_n 2, 1) := by decide +kernel
theorem dX12_valueAt_37 : decode cX12_valueAt 37 = .ok (.iaload, 1) := by decide +kernel
theorem dX12_valueAt_38 : decode cX12_valueAt 38 = .ok (.ireturn, 1) := by decide +kernel
theorem dX12_valueAt_39 : decode cX12_valueAt 39 = .ok (.aload_n 0, 1) := by decide +kernel
theorem dX12_valueAt_40 : decode cX12_valueAt 40 = .ok (.getfield 13, 3) := by decide +kernel
theorem dX12_valueAt_43 : decode cX12_valueAt 43 = .ok (.iload_n 2, 1) := by decide +kernel
theorem dX12_valueAt_44 : decode cX12_valueAt 44 = .ok (.iaload, 1) := by decide +kernel
theorem dX12_valueAt_45 : decode cX12_valueAt 45 = .ok (.ireturn, 1) := by decide +kernel
theorem dX12_valueAt_46 : decode cX12_valueAt 46 = .ok (.aload_n 0, 1) := by decide +kernel
theorem dX12_valueAt_47 : decode cX12_valueAt 47 = .ok (.getfield 16, 3) := by decide +kernel
theorem dX12_valueAt_50 : decode cX12_valueAt 50 = .ok (.iload_n 2, 1) := by decide +kernel
theorem dX12_valueAt_51 : decode cX12_valueAt 51 = .ok (.iaload, 1) := by decide +kernel
theorem dX12_valueAt_52 : decode cX12_valueAt 52 = .ok (.ireturn, 1) := by decide +kernel
theorem dX12_valueAt_53 : decode cX12_valueAt 53 = .ok (.aload_n 0, 1) := by decide +kernel
theorem dX12_valueAt_54 : decode cX12_valueAt 54 = .ok (.getfield 19, 3) := by decide +kernel
theorem dX12_valueAt_57 : decode cX12_valueAt 57 = .ok (.iload_n 2, 1) := by decide +kernel
theorem dX12_valueAt_58 : decode cX12_valueAt 58 = .ok (.iaload, 1) := by decide +kernel
theorem dX12_valueAt_59 : decode cX12_valueAt 59 = .ok (.ireturn, 1) := by decide +kernel
theorem dX12_valueAt_60 : decode cX12_valueAt 60 = .ok (.aload_n 0, 1) := by decide +kernel
theorem dX12_valueAt_61 : decode cX12_valueAt 61 = .ok (.getfield 22, 3) := by decide +kernel
theorem dX12_valueAt_64 : decode cX12_valueAt 64 = .ok (.iload_n 1, 1) := by decide +kernel
theorem dX12_valueAt_65 : decode cX12_valueAt 65 = .ok (.iconst 4, 1) := by decide +kernel
theorem dX12_valueAt_66 : decode cX12_valueAt 66 = .ok (.isub, 1) := by decide +kernel
theorem dX12_valueAt_67 : decode cX12_valueAt 67 = .ok (.iaload, 1) := by decide +kernel
theorem dX12_valueAt_68 : decode cX12_valueAt 68 = .ok (.ireturn, 1) := by decide +kernel
theorem dX12_lays_0 : decode cX12_lays 0 = .ok (.iload_n 1, 1) := by decide +kernel
theorem dX12_lays_1 : decode cX12_lays 1 = .ok (.tableswitch 71 0 3 #[31, 41, 51, 61], 31) := by decide +kernel
theorem dX12_lays_32 : decode cX12_lays 32 = .ok (.aload_n 0, 1) := by decide +kernel
theorem dX12_lays_33 : decode cX12_lays 33 = .ok (.getfield 7, 3) := by decide +kernel
theorem dX12_lays_36 : decode cX12_lays 36 = .ok (.iload_n 2, 1) := by decide +kernel
theorem dX12_lays_37 : decode cX12_lays 37 = .ok (.iload_n 3, 1) := by decide +kernel
theorem dX12_lays_38 : decode cX12_lays 38 = .ok (.iastore, 1) := by decide +kernel
theorem dX12_lays_39 : decode cX12_lays 39 = .ok (.goto 42, 3) := by decide +kernel
theorem dX12_lays_42 : decode cX12_lays 42 = .ok (.aload_n 0, 1) := by decide +kernel
theorem dX12_lays_43 : decode cX12_lays 43 = .ok (.getfield 13, 3) := by decide +kernel
theorem dX12_lays_46 : decode cX12_lays 46 = .ok (.iload_n 2, 1) := by decide +kernel
theorem dX12_lays_47 : decode cX12_lays 47 = .ok (.iload_n 3, 1) := by decide +kernel
theorem dX12_lays_48 : decode cX12_lays 48 = .ok (.iastore, 1) := by decide +kernel
theorem dX12_lays_49 : decode cX12_lays 49 = .ok (.goto 32, 3) := by decide +kernel
theorem dX12_lays_52 : decode cX12_lays 52 = .ok (.aload_n 0, 1) := by decide +kernel
theorem dX12_lays_53 : decode cX12_lays 53 = .ok (.getfield 16, 3) := by decide +kernel
theorem dX12_lays_56 : decode cX12_lays 56 = .ok (.iload_n 2, 1) := by decide +kernel
theorem dX12_lays_57 : decode cX12_lays 57 = .ok (.iload_n 3, 1) := by decide +kernel
theorem dX12_lays_58 : decode cX12_lays 58 = .ok (.iastore, 1) := by decide +kernel
theorem dX12_lays_59 : decode cX12_lays 59 = .ok (.goto 22, 3) := by decide +kernel
theorem dX12_lays_62 : decode cX12_lays 62 = .ok (.aload_n 0, 1) := by decide +kernel
theorem dX12_lays_63 : decode cX12_lays 63 = .ok (.getfield 19, 3) := by decide +kernel
theorem dX12_lays_66 : decode cX12_lays 66 = .ok (.iload_n 2, 1) := by decide +kernel
theorem dX12_lays_67 : decode cX12_lays 67 = .ok (.iload_n 3, 1) := by decide +kernel
theorem dX12_lays_68 : decode cX12_lays 68 = .ok (.iastore, 1) := by decide +kernel
theorem dX12_lays_69 : decode cX12_lays 69 = .ok (.goto 12, 3) := by decide +kernel
theorem dX12_lays_72 : decode cX12_lays 72 = .ok (.aload_n 0, 1) := by decide +kernel
theorem dX12_lays_73 : decode cX12_lays 73 = .ok (.getfield 22, 3) := by decide +kernel
theorem dX12_lays_76 : decode cX12_lays 76 = .ok (.iload_n 1, 1) := by decide +kernel
theorem dX12_lays_77 : decode cX12_lays 77 = .ok (.iconst 4, 1) := by decide +kernel
theorem dX12_lays_78 : decode cX12_lays 78 = .ok (.isub, 1) := by decide +kernel
theorem dX12_lays_79 : decode cX12_lays 79 = .ok (.iload_n 3, 1) := by decide +kernel
theorem dX12_lays_80 : decode cX12_lays 80 = .ok (.iastore, 1) := by decide +kernel
theorem dX12_lays_81 : decode cX12_lays 81 = .ok (.return_, 1) := by decide +kernel
theorem dX12_changes_0 : decode cX12_changes 0 = .ok (.aload_n 0, 1) := by decide +kernel
theorem dX12_changes_1 : decode cX12_changes 1 = .ok (.iload_n 1, 1) := by decide +kernel
theorem dX12_changes_2 : decode cX12_changes 2 = .ok (.iload_n 2, 1) := by decide +kernel
theorem dX12_changes_3 : decode cX12_changes 3 = .ok (.invokevirtual 146, 3) := by decide +kernel
theorem dX12_changes_6 : decode cX12_changes 6 = .ok (.istore 4, 2) := by decide +kernel
theorem dX12_changes_8 : decode cX12_changes 8 = .ok (.iload 4, 2) := by decide +kernel
theorem dX12_changes_10 : decode cX12_changes 10 = .ok (.iload_n 3, 1) := by decide +kernel
theorem dX12_changes_11 : decode cX12_changes 11 = .ok (.if_icmp .ne 6, 3) := by decide +kernel
theorem dX12_changes_14 : decode cX12_changes 14 = .ok (.iload 4, 2) := by decide +kernel
theorem dX12_changes_16 : decode cX12_changes 16 = .ok (.ireturn, 1) := by decide +kernel
theorem dX12_changes_17 : decode cX12_changes 17 = .ok (.aload_n 0, 1) := by decide +kernel
theorem dX12_changes_18 : decode cX12_changes 18 = .ok (.iconst 0, 1) := by decide +kernel
theorem dX12_changes_19 : decode cX12_changes 19 = .ok (.putfield 149, 3) := by decide +kernel
theorem dX12_changes_22 : decode cX12_changes 22 = .ok (.aload_n 0, 1) := by decide +kernel
theorem dX12_changes_23 : decode cX12_changes 23 = .ok (.getfield 152, 3) := by decide +kernel
theorem dX12_changes_26 : decode cX12_changes 26 = .ok (.bipush 40, 2) := by decide +kernel
theorem dX12_changes_28 : decode cX12_changes 28 = .ok (.if_icmp .ne 93, 3) := by decide +kernel
theorem dX12_changes_31 : decode cX12_changes 31 = .ok (.iconst 1, 1) := by decide +kernel
theorem dX12_changes_32 : decode cX12_changes 32 = .ok (.istore 5, 2) := by decide +kernel
theorem dX12_changes_34 : decode cX12_changes 34 = .ok (.iload 5, 2) := by decide +kernel
theorem dX12_changes_36 : decode cX12_changes 36 = .ok (.bipush 40, 2) := by decide +kernel
theorem dX12_changes_38 : decode cX12_changes 38 = .ok (.if_icmp .ge 73, 3) := by decide +kernel
theorem dX12_changes_41 : decode cX12_changes 41 = .ok (.aload_n 0, 1) := by decide +kernel
theorem dX12_changes_42 : decode cX12_changes 42 = .ok (.getfield 29, 3) := by decide +kernel
theorem dX12_changes_45 : decode cX12_changes 45 = .ok (.iload 5, 2) := by decide +kernel
theorem dX12_changes_47 : decode cX12_changes 47 = .ok (.iconst 1, 1) := by decide +kernel
theorem dX12_changes_48 : decode cX12_changes 48 = .ok (.isub, 1) := by decide +kernel
theorem dX12_changes_49 : decode cX12_changes 49 = .ok (.aload_n 0, 1) := by decide +kernel
theorem dX12_changes_50 : decode cX12_changes 50 = .ok (.getfield 29, 3) := by decide +kernel
theorem dX12_changes_53 : decode cX12_changes 53 = .ok (.iload 5, 2) := by decide +kernel
theorem dX12_changes_55 : decode cX12_changes 55 = .ok (.iaload, 1) := by decide +kernel
theorem dX12_changes_56 : decode cX12_changes 56 = .ok (.iastore, 1) := by decide +kernel
theorem dX12_changes_57 : decode cX12_changes 57 = .ok (.aload_n 0, 1) := by decide +kernel
theorem dX12_changes_58 : decode cX12_changes 58 = .ok (.getfield 32, 3) := by decide +kernel
theorem dX12_changes_61 : decode cX12_changes 61 = .ok (.iload 5, 2) := by decide +kernel
theorem dX12_changes_63 : decode cX12_changes 63 = .ok (.iconst 1, 1) := by decide +kernel
theorem dX12_changes_64 : decode cX12_changes 64 = .ok (.isub, 1) := by decide +kernel
theorem dX12_changes_65 : decode cX12_changes 65 = .ok (.aload_n 0, 1) := by decide +kernel
theorem dX12_changes_66 : decode cX12_changes 66 = .ok (.getfield 32, 3) := by decide +kernel
theorem dX12_changes_69 : decode cX12_changes 69 = .ok (.iload 5, 2) := by decide +kernel
theorem dX12_changes_71 : decode cX12_changes 71 = .ok (.iaload, 1) := by decide +kernel
theorem dX12_changes_72 : decode cX12_changes 72 = .ok (.iastore, 1) := by decide +kernel
theorem dX12_changes_73 : decode cX12_changes 73 = .ok (.aload_n 0, 1) := by decide +kernel
theorem dX12_changes_74 : decode cX12_changes 74 = .ok (.getfield 35, 3) := by decide +kernel
theorem dX12_changes_77 : decode cX12_changes 77 = .ok (.iload 5, 2) := by decide +kernel
theorem dX12_changes_79 : decode cX12_changes 79 = .ok (.iconst 1, 1) := by decide +kernel
theorem dX12_changes_80 : decode cX12_changes 80 = .ok (.isub, 1) := by decide +kernel
theorem dX12_changes_81 : decode cX12_changes 81 = .ok (.aload_n 0, 1) := by decide +kernel
theorem dX12_changes_82 : decode cX12_changes 82 = .ok (.getfield 35, 3) := by decide +kernel
theorem dX12_changes_85 : decode cX12_changes 85 = .ok (.iload 5, 2) := by decide +kernel
theorem dX12_changes_87 : decode cX12_changes 87 = .ok (.iaload, 1) := by decide +kernel
theorem dX12_changes_88 : decode cX12_changes 88 = .ok (.iastore, 1) := by decide +kernel
theorem dX12_changes_89 : decode cX12_changes 89 = .ok (.aload_n 0, 1) := by decide +kernel
theorem dX12_changes_90 : decode cX12_changes 90 = .ok (.getfield 38, 3) := by decide +kernel
theorem dX12_changes_93 : decode cX12_changes 93 = .ok (.iload 5, 2) := by decide +kernel
theorem dX12_changes_95 : decode cX12_changes 95 = .ok (.iconst 1, 1) := by decide +kernel
theorem dX12_changes_96 : decode cX12_changes 96 = .ok (.isub, 1) := by decide +kernel
theorem dX12_changes_97 : decode cX12_changes 97 = .ok (.aload_n 0, 1) := by decide +kernel
theorem dX12_changes_98 : decode cX12_changes 98 = .ok (.getfield 38, 3) := by decide +kernel
theorem dX12_changes_101 : decode cX12_changes 101 = .ok (.iload 5, 2) := by decide +kernel
theorem dX12_changes_103 : decode cX12_changes 103 = .ok (.iaload, 1) := by decide +kernel
theorem dX12_changes_104 : decode cX12_changes 104 = .ok (.iastore, 1) := by decide +kernel
theorem dX12_changes_105 : decode cX12_changes 105 = .ok (.iinc 5 1, 3) := by decide +kernel
theorem dX12_changes_108 : decode cX12_changes 108 = .ok (.goto (-74), 3) := by decide +kernel
theorem dX12_changes_111 : decode cX12_changes 111 = .ok (.aload_n 0, 1) := by decide +kernel
theorem dX12_changes_112 : decode cX12_changes 112 = .ok (.dup, 1) := by decide +kernel
theorem dX12_changes_113 : decode cX12_changes 113 = .ok (.getfield 152, 3) := by decide +kernel
theorem dX12_changes_116 : decode cX12_changes 116 = .ok (.iconst 1, 1) := by decide +kernel
theorem dX12_changes_117 : decode cX12_changes 117 = .ok (.isub, 1) := by decide +kernel
theorem dX12_changes_118 : decode cX12_changes 118 = .ok (.putfield 152, 3) := by decide +kernel
theorem dX12_changes_121 : decode cX12_changes 121 = .ok (.aload_n 0, 1) := by decide +kernel
theorem dX12_changes_122 : decode cX12_changes 122 = .ok (.getfield 29, 3) := by decide +kernel
theorem dX12_changes_125 : decode cX12_changes 125 = .ok (.aload_n 0, 1) := by decide +kernel
theorem dX12_changes_126 : decode cX12_changes 126 = .ok (.getfield 152, 3) := by decide +kernel
theorem dX12_changes_129 : decode cX12_changes 129 = .ok (.iload_n 1, 1) := by decide +kernel
theorem dX12_changes_130 : decode cX12_changes 130 = .ok (.iastore, 1) := by decide +kernel
theorem dX12_changes_131 : decode cX12_changes 131 = .ok (.aload_n 0, 1) := by decide +kernel
theorem dX12_changes_132 : decode cX12_changes 132 = .ok (.getfield 32, 3) := by decide +kernel
theorem dX12_changes_135 : decode cX12_changes 135 = .ok (.aload_n 0, 1) := by decide +kernel
theorem dX12_changes_136 : decode cX12_changes 136 = .ok (.getfield 152, 3) := by decide +kernel
theorem dX12_changes_139 : decode cX12_changes 139 = .ok (.iload_n 2, 1) := by decide +kernel
theorem dX12_changes_140 : decode cX12_changes 140 = .ok (.iastore, 1) := by decide +kernel
theorem dX12_changes_141 : decode cX12_changes 141 = .ok (.aload_n 0, 1) := by decide +kernel
theorem dX12_changes_142 : decode cX12_changes 142 = .ok (.getfield 35, 3) := by decide +kernel
theorem dX12_changes_145 : decode cX12_changes 145 = .ok (.aload_n 0, 1) := by decide +kernel
theorem dX12_changes_146 : decode cX12_changes 146 = .ok (.getfield 152, 3) := by decide +kernel
theorem dX12_changes_149 : decode cX12_changes 149 = .ok (.iload 4, 2) := by decide +kernel
theorem dX12_changes_151 : decode cX12_changes 151 = .ok (.iastore, 1) := by decide +kernel
theorem dX12_changes_152 : decode cX12_changes 152 = .ok (.aload_n 0, 1) := by decide +kernel
theorem dX12_changes_153 : decode cX12_changes 153 = .ok (.getfield 38, 3) := by decide +kernel
theorem dX12_changes_156 : decode cX12_changes 156 = .ok (.aload_n 0, 1) := by decide +kernel
theorem dX12_changes_157 : decode cX12_changes 157 = .ok (.getfield 152, 3) := by decide +kernel
theorem dX12_changes_160 : decode cX12_changes 160 = .ok (.iload_n 3, 1) := by decide +kernel
theorem dX12_changes_161 : decode cX12_changes 161 = .ok (.iastore, 1) := by decide +kernel
theorem dX12_changes_162 : decode cX12_changes 162 = .ok (.aload_n 0, 1) := by decide +kernel
theorem dX12_changes_163 : decode cX12_changes 163 = .ok (.dup, 1) := by decide +kernel
theorem dX12_changes_164 : decode cX12_changes 164 = .ok (.getfield 152, 3) := by decide +kernel
theorem dX12_changes_167 : decode cX12_changes 167 = .ok (.iconst 1, 1) := by decide +kernel
theorem dX12_changes_168 : decode cX12_changes 168 = .ok (.iadd, 1) := by decide +kernel
theorem dX12_changes_169 : decode cX12_changes 169 = .ok (.putfield 152, 3) := by decide +kernel
theorem dX12_changes_172 : decode cX12_changes 172 = .ok (.aload_n 0, 1) := by decide +kernel
theorem dX12_changes_173 : decode cX12_changes 173 = .ok (.iload_n 1, 1) := by decide +kernel
theorem dX12_changes_174 : decode cX12_changes 174 = .ok (.iload_n 2, 1) := by decide +kernel
theorem dX12_changes_175 : decode cX12_changes 175 = .ok (.iload_n 3, 1) := by decide +kernel
theorem dX12_changes_176 : decode cX12_changes 176 = .ok (.invokevirtual 155, 3) := by decide +kernel
theorem dX12_changes_179 : decode cX12_changes 179 = .ok (.iload 4, 2) := by decide +kernel
theorem dX12_changes_181 : decode cX12_changes 181 = .ok (.ireturn, 1) := by decide +kernel
theorem dX12_undo_0 : decode cX12_undo 0 = .ok (.aload_n 0, 1) := by decide +kernel
theorem dX12_undo_1 : decode cX12_undo 1 = .ok (.getfield 152, 3) := by decide +kernel
theorem dX12_undo_4 : decode cX12_undo 4 = .ok (.ifCond .ne 6, 3) := by decide +kernel
theorem dX12_undo_7 : decode cX12_undo 7 = .ok (.bipush (-5), 2) := by decide +kernel
theorem dX12_undo_9 : decode cX12_undo 9 = .ok (.ireturn, 1) := by decide +kernel
theorem dX12_undo_10 : decode cX12_undo 10 = .ok (.aload_n 0, 1) := by decide +kernel
theorem dX12_undo_11 : decode cX12_undo 11 = .ok (.dup, 1) := by decide +kernel
theorem dX12_undo_12 : decode cX12_undo 12 = .ok (.getfield 152, 3) := by decide +kernel
theorem dX12_undo_15 : decode cX12_undo 15 = .ok (.iconst 1, 1) := by decide +kernel
theorem dX12_undo_16 : decode cX12_undo 16 = .ok (.isub, 1) := by decide +kernel
theorem dX12_undo_17 : decode cX12_undo 17 = .ok (.putfield 152, 3) := by decide +kernel
theorem dX12_undo_20 : decode cX12_undo 20 = .ok (.aload_n 0, 1) := by decide +kernel
theorem dX12_undo_21 : decode cX12_undo 21 = .ok (.dup, 1) := by decide +kernel
theorem dX12_undo_22 : decode cX12_undo 22 = .ok (.getfield 149, 3) := by decide +kernel
theorem dX12_undo_25 : decode cX12_undo 25 = .ok (.iconst 1, 1) := by decide +kernel
theorem dX12_undo_26 : decode cX12_undo 26 = .ok (.iadd, 1) := by decide +kernel
theorem dX12_undo_27 : decode cX12_undo 27 = .ok (.putfield 149, 3) := by decide +kernel
theorem dX12_undo_30 : decode cX12_undo 30 = .ok (.aload_n 0, 1) := by decide +kernel
theorem dX12_undo_31 : decode cX12_undo 31 = .ok (.aload_n 0, 1) := by decide +kernel
theorem dX12_undo_32 : decode cX12_undo 32 = .ok (.getfield 29, 3) := by decide +kernel
theorem dX12_undo_35 : decode cX12_undo 35 = .ok (.aload_n 0, 1) := by decide +kernel
theorem dX12_undo_36 : decode cX12_undo 36 = .ok (.getfield 152, 3) := by decide +kernel
theorem dX12_undo_39 : decode cX12_undo 39 = .ok (.iaload, 1) := by decide +kernel
theorem dX12_undo_40 : decode cX12_undo 40 = .ok (.aload_n 0, 1) := by decide +kernel
theorem dX12_undo_41 : decode cX12_undo 41 = .ok (.getfield 32, 3) := by decide +kernel
theorem dX12_undo_44 : decode cX12_undo 44 = .ok (.aload_n 0, 1) := by decide +kernel
theorem dX12_undo_45 : decode cX12_undo 45 = .ok (.getfield 152, 3) := by decide +kernel
theorem dX12_undo_48 : decode cX12_undo 48 = .ok (.iaload, 1) := by decide +kernel
theorem dX12_undo_49 : decode cX12_undo 49 = .ok (.aload_n 0, 1) := by decide +kernel
theorem dX12_undo_50 : decode cX12_undo 50 = .ok (.getfield 35, 3) := by decide +kernel
theorem dX12_undo_53 : decode cX12_undo 53 = .ok (.aload_n 0, 1) := by decide +kernel
theorem dX12_undo_54 : decode cX12_undo 54 = .ok (.getfield 152, 3) := by decide +kernel
theorem dX12_undo_57 : decode cX12_undo 57 = .ok (.iaload, 1) := by decide +kernel
theorem dX12_undo_58 : decode cX12_undo 58 = .ok (.invokevirtual 155, 3) := by decide +kernel
theorem dX12_undo_61 : decode cX12_undo 61 = .ok (.aload_n 0, 1) := by decide +kernel
theorem dX12_undo_62 : decode cX12_undo 62 = .ok (.getfield 152, 3) := by decide +kernel
theorem dX12_undo_65 : decode cX12_undo 65 = .ok (.ireturn, 1) := by decide +kernel
theorem dX12_redo_0 : decode cX12_redo 0 = .ok (.aload_n 0, 1) := by decide +kernel
theorem dX12_redo_1 : decode cX12_redo 1 = .ok (.getfield 149, 3) := by decide +kernel
theorem dX12_redo_4 : decode cX12_redo 4 = .ok (.ifCond .ne 6, 3) := by decide +kernel
theorem dX12_redo_7 : decode cX12_redo 7 = .ok (.bipush (-5), 2) := by decide +kernel
theorem dX12_redo_9 : decode cX12_redo 9 = .ok (.ireturn, 1) := by decide +kernel
theorem dX12_redo_10 : decode cX12_redo 10 = .ok (.aload_n 0, 1) := by decide +kernel
theorem dX12_redo_11 : decode cX12_redo 11 = .ok (.aload_n 0, 1) := by decide +kernel
theorem dX12_redo_12 : decode cX12_redo 12 = .ok (.getfield 29, 3) := by decide +kernel
theorem dX12_redo_15 : decode cX12_redo 15 = .ok (.aload_n 0, 1) := by decide +kernel
theorem dX12_redo_16 : decode cX12_redo 16 = .ok (.getfield 152, 3) := by decide +kernel
theorem dX12_redo_19 : decode cX12_redo 19 = .ok (.iaload, 1) := by decide +kernel
theorem dX12_redo_20 : decode cX12_redo 20 = .ok (.aload_n 0, 1) := by decide +kernel
theorem dX12_redo_21 : decode cX12_redo 21 = .ok (.getfield 32, 3) := by decide +kernel
theorem dX12_redo_24 : decode cX12_redo 24 = .ok (.aload_n 0, 1) := by decide +kernel
theorem dX12_redo_25 : decode cX12_redo 25 = .ok (.getfield 152, 3) := by decide +kernel
theorem dX12_redo_28 : decode cX12_redo 28 = .ok (.iaload, 1) := by decide +kernel
theorem dX12_redo_29 : decode cX12_redo 29 = .ok (.aload_n 0, 1) := by decide +kernel
theorem dX12_redo_30 : decode cX12_redo 30 = .ok (.getfield 38, 3) := by decide +kernel
theorem dX12_redo_33 : decode cX12_redo 33 = .ok (.aload_n 0, 1) := by decide +kernel
theorem dX12_redo_34 : decode cX12_redo 34 = .ok (.getfield 152, 3) := by decide +kernel
theorem dX12_redo_37 : decode cX12_redo 37 = .ok (.iaload, 1) := by decide +kernel
theorem dX12_redo_38 : decode cX12_redo 38 = .ok (.invokevirtual 155, 3) := by decide +kernel
theorem dX12_redo_41 : decode cX12_redo 41 = .ok (.aload_n 0, 1) := by decide +kernel
theorem dX12_redo_42 : decode cX12_redo 42 = .ok (.dup, 1) := by decide +kernel
theorem dX12_redo_43 : decode cX12_redo 43 = .ok (.getfield 152, 3) := by decide +kernel
theorem dX12_redo_46 : decode cX12_redo 46 = .ok (.iconst 1, 1) := by decide +kernel
theorem dX12_redo_47 : decode cX12_redo 47 = .ok (.iadd, 1) := by decide +kernel
theorem dX12_redo_48 : decode cX12_redo 48 = .ok (.putfield 152, 3) := by decide +kernel
theorem dX12_redo_51 : decode cX12_redo 51 = .ok (.aload_n 0, 1) := by decide +kernel
theorem dX12_redo_52 : decode cX12_redo 52 = .ok (.dup, 1) := by decide +kernel
theorem dX12_redo_53 : decode cX12_redo 53 = .ok (.getfield 149, 3) := by decide +kernel
theorem dX12_redo_56 : decode cX12_redo 56 = .ok (.iconst 1, 1) := by decide +kernel
theorem dX12_redo_57 : decode cX12_redo 57 = .ok (.isub, 1) := by decide +kernel
theorem dX12_redo_58 : decode cX12_redo 58 = .ok (.putfield 149, 3) := by decide +kernel
theorem dX12_redo_61 : decode cX12_redo 61 = .ok (.aload_n 0, 1) := by decide +kernel
theorem dX12_redo_62 : decode cX12_redo 62 = .ok (.getfield 149, 3) := by decide +kernel
theorem dX12_redo_65 : decode cX12_redo 65 = .ok (.ireturn, 1) := by decide +kernel
theorem dX12_isPlace_0 : decode cX12_isPlace 0 = .ok (.iload_n 2, 1) := by decide +kernel
theorem dX12_isPlace_1 : decode cX12_isPlace 1 = .ok (.iconst 0, 1) := by decide +kernel
theorem dX12_isPlace_2 : decode cX12_isPlace 2 = .ok (.iconst 3, 1) := by decide +kernel
theorem dX12_isPlace_3 : decode cX12_isPlace 3 = .ok (.invokestatic 126, 3) := by decide +kernel
theorem dX12_isPlace_6 : decode cX12_isPlace 6 = .ok (.ifCond .eq 11, 3) := by decide +kernel
theorem dX12_isPlace_9 : decode cX12_isPlace 9 = .ok (.aload_n 0, 1) := by decide +kernel
theorem dX12_isPlace_10 : decode cX12_isPlace 10 = .ok (.iload_n 1, 1) := by decide +kernel
theorem dX12_isPlace_11 : decode cX12_isPlace 11 = .ok (.invokevirtual 130, 3) := by decide +kernel
theorem dX12_isPlace_14 : decode cX12_isPlace 14 = .ok (.goto 22, 3) := by decide +kernel
theorem dX12_isPlace_17 : decode cX12_isPlace 17 = .ok (.iload_n 2, 1) := by decide +kernel
theorem dX12_isPlace_18 : decode cX12_isPlace 18 = .ok (.iconst 4, 1) := by decide +kernel
theorem dX12_isPlace_19 : decode cX12_isPlace 19 = .ok (.bipush 7, 2) := by decide +kernel
theorem dX12_isPlace_21 : decode cX12_isPlace 21 = .ok (.invokestatic 126, 3) := by decide +kernel
theorem dX12_isPlace_24 : decode cX12_isPlace 24 = .ok (.ifCond .eq 11, 3) := by decide +kernel
theorem dX12_isPlace_27 : decode cX12_isPlace 27 = .ok (.iload_n 1, 1) := by decide +kernel
theorem dX12_isPlace_28 : decode cX12_isPlace 28 = .ok (.ifCond .ne 7, 3) := by decide +kernel
theorem dX12_isPlace_31 : decode cX12_isPlace 31 = .ok (.iconst 1, 1) := by decide +kernel
theorem dX12_isPlace_32 : decode cX12_isPlace 32 = .ok (.goto 4, 3) := by decide +kernel
theorem dX12_isPlace_35 : decode cX12_isPlace 35 = .ok (.iconst 0, 1) := by decide +kernel
theorem dX12_isPlace_36 : decode cX12_isPlace 36 = .ok (.ireturn, 1) := by decide +kernel
theorem dX12_mayHave_0 : decode cX12_mayHave 0 = .ok (.iload_n 0, 1) := by decide +kernel
theorem dX12_mayHave_1 : decode cX12_mayHave 1 = .ok (.tableswitch 91 1 7 #[43, 51, 59, 91, 67, 75, 83], 43) := by decide +kernel
theorem dX12_mayHave_44 : decode cX12_mayHave 44 = .ok (.iload_n 1, 1) := by decide +kernel
theorem dX12_mayHave_45 : decode cX12_mayHave 45 = .ok (.iconst 0, 1) := by decide +kernel
theorem dX12_mayHave_46 : decode cX12_mayHave 46 = .ok (.bipush 12, 2) := by decide +kernel
theorem dX12_mayHave_48 : decode cX12_mayHave 48 = .ok (.invokestatic 126, 3) := by decide +kernel
theorem dX12_mayHave_51 : decode cX12_mayHave 51 = .ok (.ireturn, 1) := by decide +kernel
theorem dX12_mayHave_52 : decode cX12_mayHave 52 = .ok (.iload_n 1, 1) := by decide +kernel
theorem dX12_mayHave_53 : decode cX12_mayHave 53 = .ok (.iconst 0, 1) := by decide +kernel
theorem dX12_mayHave_54 : decode cX12_mayHave 54 = .ok (.bipush 9, 2) := by decide +kernel
theorem dX12_mayHave_56 : decode cX12_mayHave 56 = .ok (.invokestatic 126, 3) := by decide +kernel
theorem dX12_mayHave_59 : decode cX12_mayHave 59 = .ok (.ireturn, 1) := by decide +kernel
theorem dX12_mayHave_60 : decode cX12_mayHave 60 = .ok (.iload_n 1, 1) := by decide +kernel
theorem dX12_mayHave_61 : decode cX12_mayHave 61 = .ok (.iconst 0, 1) := by decide +kernel
theorem dX12_mayHave_62 : decode cX12_mayHave 62 = .ok (.bipush 99, 2) := by decide +kernel
theorem dX12_mayHave_64 : decode cX12_mayHave 64 = .ok (.invokestatic 126, 3) := by decide +kernel
theorem dX12_mayHave_67 : decode cX12_mayHave 67 = .ok (.ireturn, 1) := by decide +kernel
theorem dX12_mayHave_68 : decode cX12_mayHave 68 = .ok (.iload_n 1, 1) := by decide +kernel
theorem dX12_mayHave_69 : decode cX12_mayHave 69 = .ok (.iconst 1, 1) := by decide +kernel
theorem dX12_mayHave_70 : decode cX12_mayHave 70 = .ok (.bipush 20, 2) := by decide +kernel
theorem dX12_mayHave_72 : decode cX12_mayHave 72 = .ok (.invokestatic 126, 3) := by decide +kernel
theorem dX12_mayHave_75 : decode cX12_mayHave 75 = .ok (.ireturn, 1) := by decide +kernel
theorem dX12_mayHave_76 : decode cX12_mayHave 76 = .ok (.iload_n 1, 1) := by decide +kernel
theorem dX12_mayHave_77 : decode cX12_mayHave 77 = .ok (.iconst 0, 1) := by decide +kernel
theorem dX12_mayHave_78 : decode cX12_mayHave 78 = .ok (.bipush 23, 2) := by decide +kernel
theorem dX12_mayHave_80 : decode cX12_mayHave 80 = .ok (.invokestatic 126, 3) := by decide +kernel
theorem dX12_mayHave_83 : decode cX12_mayHave 83 = .ok (.ireturn, 1) := by decide +kernel
theorem dX12_mayHave_84 : decode cX12_mayHave 84 = .ok (.iload_n 1, 1) := by decide +kernel
theorem dX12_mayHave_85 : decode cX12_mayHave 85 = .ok (.iconst 1, 1) := by decide +kernel
theorem dX12_mayHave_86 : decode cX12_mayHave 86 = .ok (.bipush 9, 2) := by decide +kernel
theorem dX12_mayHave_88 : decode cX12_mayHave 88 = .ok (.invokestatic 126, 3) := by decide +kernel
theorem dX12_mayHave_91 : decode cX12_mayHave 91 = .ok (.ireturn, 1) := by decide +kernel
theorem dX12_mayHave_92 : decode cX12_mayHave 92 = .ok (.iload_n 1, 1) := by decide +kernel
theorem dX12_mayHave_93 : decode cX12_mayHave 93 = .ok (.invokestatic 134, 3) := by decide +kernel
theorem dX12_mayHave_96 : decode cX12_mayHave 96 = .ok (.ireturn, 1) := by decide +kernel
theorem dX12_mend_0 : decode cX12_mend 0 = .ok (.aload_n 0, 1) := by decide +kernel
theorem dX12_mend_1 : decode cX12_mend 1 = .ok (.iload_n 1, 1) := by decide +kernel
theorem dX12_mend_2 : decode cX12_mend 2 = .ok (.iload_n 2, 1) := by decide +kernel
theorem dX12_mend_3 : decode cX12_mend 3 = .ok (.invokevirtual 159, 3) := by decide +kernel
theorem dX12_mend_6 : decode cX12_mend 6 = .ok (.ifCond .eq 21, 3) := by decide +kernel
theorem dX12_mend_9 : decode cX12_mend 9 = .ok (.iload_n 2, 1) := by decide +kernel
theorem dX12_mend_10 : decode cX12_mend 10 = .ok (.iload_n 3, 1) := by decide +kernel
theorem dX12_mend_11 : decode cX12_mend 11 = .ok (.invokestatic 163, 3) := by decide +kernel
theorem dX12_mend_14 : decode cX12_mend 14 = .ok (.ifCond .eq 13, 3) := by decide +kernel
theorem dX12_mend_17 : decode cX12_mend 17 = .ok (.aload_n 0, 1) := by decide +kernel
theorem dX12_mend_18 : decode cX12_mend 18 = .ok (.iload_n 2, 1) := by decide +kernel
theorem dX12_mend_19 : decode cX12_mend 19 = .ok (.iload_n 1, 1) := by decide +kernel
theorem dX12_mend_20 : decode cX12_mend 20 = .ok (.iload_n 3, 1) := by decide +kernel
theorem dX12_mend_21 : decode cX12_mend 21 = .ok (.invokevirtual 166, 3) := by decide +kernel
theorem dX12_mend_24 : decode cX12_mend 24 = .ok (.goto 4, 3) := by decide +kernel
theorem dX12_mend_27 : decode cX12_mend 27 = .ok (.iconst (-1), 1) := by decide +kernel
theorem dX12_mend_28 : decode cX12_mend 28 = .ok (.ireturn, 1) := by decide +kernel
theorem dX12_of_0 : decode cX12_of 0 = .ok (.aload_n 0, 1) := by decide +kernel
theorem dX12_of_1 : decode cX12_of 1 = .ok (.iload_n 1, 1) := by decide +kernel
theorem dX12_of_2 : decode cX12_of 2 = .ok (.iload_n 2, 1) := by decide +kernel
theorem dX12_of_3 : decode cX12_of 3 = .ok (.invokevirtual 159, 3) := by decide +kernel
theorem dX12_of_6 : decode cX12_of 6 = .ok (.ifCond .eq 12, 3) := by decide +kernel
theorem dX12_of_9 : decode cX12_of 9 = .ok (.aload_n 0, 1) := by decide +kernel
theorem dX12_of_10 : decode cX12_of 10 = .ok (.iload_n 2, 1) := by decide +kernel
theorem dX12_of_11 : decode cX12_of 11 = .ok (.iload_n 1, 1) := by decide +kernel
theorem dX12_of_12 : decode cX12_of 12 = .ok (.invokevirtual 146, 3) := by decide +kernel
theorem dX12_of_15 : decode cX12_of 15 = .ok (.goto 4, 3) := by decide +kernel
theorem dX12_of_18 : decode cX12_of 18 = .ok (.iconst (-1), 1) := by decide +kernel
theorem dX12_of_19 : decode cX12_of 19 = .ok (.ireturn, 1) := by decide +kernel
theorem dX12_feed_0 : decode cX12_feed 0 = .ok (.iload_n 1, 1) := by decide +kernel
theorem dX12_feed_1 : decode cX12_feed 1 = .ok (.iconst 0, 1) := by decide +kernel
theorem dX12_feed_2 : decode cX12_feed 2 = .ok (.sipush 255, 3) := by decide +kernel
theorem dX12_feed_5 : decode cX12_feed 5 = .ok (.invokestatic 126, 3) := by decide +kernel
theorem dX12_feed_8 : decode cX12_feed 8 = .ok (.ifCond .ne 5, 3) := by decide +kernel
theorem dX12_feed_11 : decode cX12_feed 11 = .ok (.iconst (-1), 1) := by decide +kernel
theorem dX12_feed_12 : decode cX12_feed 12 = .ok (.ireturn, 1) := by decide +kernel
theorem dX12_feed_13 : decode cX12_feed 13 = .ok (.aload_n 0, 1) := by decide +kernel
theorem dX12_feed_14 : decode cX12_feed 14 = .ok (.getfield 169, 3) := by decide +kernel
theorem dX12_feed_17 : decode cX12_feed 17 = .ok (.bipush 120, 2) := by decide +kernel
theorem dX12_feed_19 : decode cX12_feed 19 = .ok (.if_icmp .ne 6, 3) := by decide +kernel
theorem dX12_feed_22 : decode cX12_feed 22 = .ok (.bipush (-3), 2) := by decide +kernel
theorem dX12_feed_24 : decode cX12_feed 24 = .ok (.ireturn, 1) := by decide +kernel
theorem dX12_feed_25 : decode cX12_feed 25 = .ok (.aload_n 0, 1) := by decide +kernel
theorem dX12_feed_26 : decode cX12_feed 26 = .ok (.getfield 41, 3) := by decide +kernel
theorem dX12_feed_29 : decode cX12_feed 29 = .ok (.aload_n 0, 1) := by decide +kernel
theorem dX12_feed_30 : decode cX12_feed 30 = .ok (.getfield 169, 3) := by decide +kernel
theorem dX12_feed_33 : decode cX12_feed 33 = .ok (.iload_n 1, 1) := by decide +kernel
theorem dX12_feed_34 : decode cX12_feed 34 = .ok (.i2b, 1) := by decide +kernel
theorem dX12_feed_35 : decode cX12_feed 35 = .ok (.bastore, 1) := by decide +kernel
theorem dX12_feed_36 : decode cX12_feed 36 = .ok (.aload_n 0, 1) := by decide +kernel
theorem dX12_feed_37 : decode cX12_feed 37 = .ok (.dup, 1) := by decide +kernel
theorem dX12_feed_38 : decode cX12_feed 38 = .ok (.getfield 169, 3) := by decide +kernel
theorem dX12_feed_41 : decode cX12_feed 41 = .ok (.iconst 1, 1) := by decide +kernel
theorem dX12_feed_42 : decode cX12_feed 42 = .ok (.iadd, 1) := by decide +kernel
theorem dX12_feed_43 : decode cX12_feed 43 = .ok (.putfield 169, 3) := by decide +kernel
theorem dX12_feed_46 : decode cX12_feed 46 = .ok (.aload_n 0, 1) := by decide +kernel
theorem dX12_feed_47 : decode cX12_feed 47 = .ok (.getfield 169, 3) := by decide +kernel
theorem dX12_feed_50 : decode cX12_feed 50 = .ok (.ireturn, 1) := by decide +kernel
theorem dX12_look_0 : decode cX12_look 0 = .ok (.aload_n 0, 1) := by decide +kernel
theorem dX12_look_1 : decode cX12_look 1 = .ok (.getfield 172, 3) := by decide +kernel
theorem dX12_look_4 : decode cX12_look 4 = .ok (.aload_n 0, 1) := by decide +kernel
theorem dX12_look_5 : decode cX12_look 5 = .ok (.getfield 169, 3) := by decide +kernel
theorem dX12_look_8 : decode cX12_look 8 = .ok (.if_icmp .ge 15, 3) := by decide +kernel
theorem dX12_look_11 : decode cX12_look 11 = .ok (.aload_n 0, 1) := by decide +kernel
theorem dX12_look_12 : decode cX12_look 12 = .ok (.getfield 41, 3) := by decide +kernel
theorem dX12_look_15 : decode cX12_look 15 = .ok (.aload_n 0, 1) := by decide +kernel
theorem dX12_look_16 : decode cX12_look 16 = .ok (.getfield 172, 3) := by decide +kernel
theorem dX12_look_19 : decode cX12_look 19 = .ok (.baload, 1) := by decide +kernel
theorem dX12_look_20 : decode cX12_look 20 = .ok (.goto 4, 3) := by decide +kernel
theorem dX12_look_23 : decode cX12_look 23 = .ok (.iconst (-1), 1) := by decide +kernel
theorem dX12_look_24 : decode cX12_look 24 = .ok (.ireturn, 1) := by decide +kernel
theorem dX12_wrong_0 : decode cX12_wrong 0 = .ok (.aload_n 0, 1) := by decide +kernel
theorem dX12_wrong_1 : decode cX12_wrong 1 = .ok (.getfield 175, 3) := by decide +kernel
theorem dX12_wrong_4 : decode cX12_wrong 4 = .ok (.ifCond .ge 11, 3) := by decide +kernel
theorem dX12_wrong_7 : decode cX12_wrong 7 = .ok (.aload_n 0, 1) := by decide +kernel
theorem dX12_wrong_8 : decode cX12_wrong 8 = .ok (.aload_n 0, 1) := by decide +kernel
theorem dX12_wrong_9 : decode cX12_wrong 9 = .ok (.getfield 172, 3) := by decide +kernel
theorem dX12_wrong_12 : decode cX12_wrong 12 = .ok (.putfield 175, 3) := by decide +kernel
theorem dX12_wrong_15 : decode cX12_wrong 15 = .ok (.return_, 1) := by decide +kernel
theorem dX12_addStep_0 : decode cX12_addStep 0 = .ok (.aload_n 0, 1) := by decide +kernel
theorem dX12_addStep_1 : decode cX12_addStep 1 = .ok (.getfield 45, 3) := by decide +kernel
theorem dX12_addStep_4 : decode cX12_addStep 4 = .ok (.sipush 130, 3) := by decide +kernel
theorem dX12_addStep_7 : decode cX12_addStep 7 = .ok (.aload_n 0, 1) := by decide +kernel
theorem dX12_addStep_8 : decode cX12_addStep 8 = .ok (.getfield 178, 3) := by decide +kernel
theorem dX12_addStep_11 : decode cX12_addStep 11 = .ok (.iadd, 1) := by decide +kernel
theorem dX12_addStep_12 : decode cX12_addStep 12 = .ok (.iload_n 1, 1) := by decide +kernel
theorem dX12_addStep_13 : decode cX12_addStep 13 = .ok (.i2b, 1) := by decide +kernel
theorem dX12_addStep_14 : decode cX12_addStep 14 = .ok (.bastore, 1) := by decide +kernel
theorem dX12_addStep_15 : decode cX12_addStep 15 = .ok (.aload_n 0, 1) := by decide +kernel
theorem dX12_addStep_16 : decode cX12_addStep 16 = .ok (.getfield 48, 3) := by decide +kernel
theorem dX12_addStep_19 : decode cX12_addStep 19 = .ok (.sipush 130, 3) := by decide +kernel
theorem dX12_addStep_22 : decode cX12_addStep 22 = .ok (.aload_n 0, 1) := by decide +kernel
theorem dX12_addStep_23 : decode cX12_addStep 23 = .ok (.getfield 178, 3) := by decide +kernel
theorem dX12_addStep_26 : decode cX12_addStep 26 = .ok (.iadd, 1) := by decide +kernel
theorem dX12_addStep_27 : decode cX12_addStep 27 = .ok (.iload_n 2, 1) := by decide +kernel
theorem dX12_addStep_28 : decode cX12_addStep 28 = .ok (.iastore, 1) := by decide +kernel
theorem dX12_addStep_29 : decode cX12_addStep 29 = .ok (.aload_n 0, 1) := by decide +kernel
theorem dX12_addStep_30 : decode cX12_addStep 30 = .ok (.dup, 1) := by decide +kernel
theorem dX12_addStep_31 : decode cX12_addStep 31 = .ok (.getfield 178, 3) := by decide +kernel
theorem dX12_addStep_34 : decode cX12_addStep 34 = .ok (.iconst 1, 1) := by decide +kernel
theorem dX12_addStep_35 : decode cX12_addStep 35 = .ok (.iadd, 1) := by decide +kernel
theorem dX12_addStep_36 : decode cX12_addStep 36 = .ok (.putfield 178, 3) := by decide +kernel
theorem dX12_addStep_39 : decode cX12_addStep 39 = .ok (.return_, 1) := by decide +kernel
theorem dX12_nameOf_0 : decode cX12_nameOf 0 = .ok (.iload_n 0, 1) := by decide +kernel
theorem dX12_nameOf_1 : decode cX12_nameOf 1 = .ok (.tableswitch 75 99 110 #[63, 67, 75, 75, 65, 69, 75, 75, 73, 75, 75, 71], 63) := by decide +kernel
theorem dX12_nameOf_64 : decode cX12_nameOf 64 = .ok (.iconst 0, 1) := by decide +kernel
theorem dX12_nameOf_65 : decode cX12_nameOf 65 = .ok (.ireturn, 1) := by decide +kernel
theorem dX12_nameOf_66 : decode cX12_nameOf 66 = .ok (.iconst 1, 1) := by decide +kernel
theorem dX12_nameOf_67 : decode cX12_nameOf 67 = .ok (.ireturn, 1) := by decide +kernel
theorem dX12_nameOf_68 : decode cX12_nameOf 68 = .ok (.iconst 2, 1) := by decide +kernel
theorem dX12_nameOf_69 : decode cX12_nameOf 69 = .ok (.ireturn, 1) := by decide +kernel
theorem dX12_nameOf_70 : decode cX12_nameOf 70 = .ok (.iconst 3, 1) := by decide +kernel
theorem dX12_nameOf_71 : decode cX12_nameOf 71 = .ok (.ireturn, 1) := by decide +kernel
theorem dX12_nameOf_72 : decode cX12_nameOf 72 = .ok (.iconst 4, 1) := by decide +kernel
theorem dX12_nameOf_73 : decode cX12_nameOf 73 = .ok (.ireturn, 1) := by decide +kernel
theorem dX12_nameOf_74 : decode cX12_nameOf 74 = .ok (.iconst 5, 1) := by decide +kernel
theorem dX12_nameOf_75 : decode cX12_nameOf 75 = .ok (.ireturn, 1) := by decide +kernel
theorem dX12_nameOf_76 : decode cX12_nameOf 76 = .ok (.iconst (-1), 1) := by decide +kernel
theorem dX12_nameOf_77 : decode cX12_nameOf 77 = .ok (.ireturn, 1) := by decide +kernel
theorem dX12_opens_0 : decode cX12_opens 0 = .ok (.aload_n 0, 1) := by decide +kernel
theorem dX12_opens_1 : decode cX12_opens 1 = .ok (.getfield 181, 3) := by decide +kernel
theorem dX12_opens_4 : decode cX12_opens 4 = .ok (.bipush 6, 2) := by decide +kernel
theorem dX12_opens_6 : decode cX12_opens 6 = .ok (.if_icmp .ne 9, 3) := by decide +kernel
theorem dX12_opens_9 : decode cX12_opens 9 = .ok (.aload_n 0, 1) := by decide +kernel
theorem dX12_opens_10 : decode cX12_opens 10 = .ok (.invokevirtual 184, 3) := by decide +kernel
theorem dX12_opens_13 : decode cX12_opens 13 = .ok (.iconst 0, 1) := by decide +kernel
theorem dX12_opens_14 : decode cX12_opens 14 = .ok (.ireturn, 1) := by decide +kernel
theorem dX12_opens_15 : decode cX12_opens 15 = .ok (.aload_n 0, 1) := by decide +kernel
theorem dX12_opens_16 : decode cX12_opens 16 = .ok (.dup, 1) := by decide +kernel
theorem dX12_opens_17 : decode cX12_opens 17 = .ok (.getfield 181, 3) := by decide +kernel
theorem dX12_opens_20 : decode cX12_opens 20 = .ok (.iconst 1, 1) := by decide +kernel
theorem dX12_opens_21 : decode cX12_opens 21 = .ok (.iadd, 1) := by decide +kernel
theorem dX12_opens_22 : decode cX12_opens 22 = .ok (.putfield 181, 3) := by decide +kernel
theorem dX12_opens_25 : decode cX12_opens 25 = .ok (.aload_n 0, 1) := by decide +kernel
theorem dX12_opens_26 : decode cX12_opens 26 = .ok (.dup, 1) := by decide +kernel
theorem dX12_opens_27 : decode cX12_opens 27 = .ok (.getfield 172, 3) := by decide +kernel
theorem dX12_opens_30 : decode cX12_opens 30 = .ok (.iconst 1, 1) := by decide +kernel
theorem dX12_opens_31 : decode cX12_opens 31 = .ok (.iadd, 1) := by decide +kernel
theorem dX12_opens_32 : decode cX12_opens 32 = .ok (.putfield 172, 3) := by decide +kernel
theorem dX12_opens_35 : decode cX12_opens 35 = .ok (.iconst 1, 1) := by decide +kernel
theorem dX12_opens_36 : decode cX12_opens 36 = .ok (.ireturn, 1) := by decide +kernel
theorem dX12_figure_0 : decode cX12_figure 0 = .ok (.iconst 0, 1) := by decide +kernel
theorem dX12_figure_1 : decode cX12_figure 1 = .ok (.istore_n 1, 1) := by decide +kernel
theorem dX12_figure_2 : decode cX12_figure 2 = .ok (.iconst 0, 1) := by decide +kernel
theorem dX12_figure_3 : decode cX12_figure 3 = .ok (.istore_n 2, 1) := by decide +kernel
theorem dX12_figure_4 : decode cX12_figure 4 = .ok (.iload_n 2, 1) := by decide +kernel
theorem dX12_figure_5 : decode cX12_figure 5 = .ok (.iconst 4, 1) := by decide +kernel
theorem dX12_figure_6 : decode cX12_figure 6 = .ok (.if_icmp .ge 46, 3) := by decide +kernel
theorem dX12_figure_9 : decode cX12_figure 9 = .ok (.aload_n 0, 1) := by decide +kernel
theorem dX12_figure_10 : decode cX12_figure 10 = .ok (.invokevirtual 187, 3) := by decide +kernel
theorem dX12_figure_13 : decode cX12_figure 13 = .ok (.bipush 48, 2) := by decide +kernel
theorem dX12_figure_15 : decode cX12_figure 15 = .ok (.bipush 57, 2) := by decide +kernel
theorem dX12_figure_17 : decode cX12_figure 17 = .ok (.invokestatic 126, 3) := by decide +kernel
theorem dX12_figure_20 : decode cX12_figure 20 = .ok (.ifCond .eq 32, 3) := by decide +kernel
theorem dX12_figure_23 : decode cX12_figure 23 = .ok (.bipush 10, 2) := by decide +kernel
theorem dX12_figure_25 : decode cX12_figure 25 = .ok (.iload_n 1, 1) := by decide +kernel
theorem dX12_figure_26 : decode cX12_figure 26 = .ok (.imul, 1) := by decide +kernel
theorem dX12_figure_27 : decode cX12_figure 27 = .ok (.aload_n 0, 1) := by decide +kernel
theorem dX12_figure_28 : decode cX12_figure 28 = .ok (.invokevirtual 187, 3) := by decide +kernel
theorem dX12_figure_31 : decode cX12_figure 31 = .ok (.iadd, 1) := by decide +kernel
theorem dX12_figure_32 : decode cX12_figure 32 = .ok (.bipush 48, 2) := by decide +kernel
theorem dX12_figure_34 : decode cX12_figure 34 = .ok (.isub, 1) := by decide +kernel
theorem dX12_figure_35 : decode cX12_figure 35 = .ok (.istore_n 1, 1) := by decide +kernel
theorem dX12_figure_36 : decode cX12_figure 36 = .ok (.iinc 2 1, 3) := by decide +kernel
theorem dX12_figure_39 : decode cX12_figure 39 = .ok (.aload_n 0, 1) := by decide +kernel
theorem dX12_figure_40 : decode cX12_figure 40 = .ok (.dup, 1) := by decide +kernel
theorem dX12_figure_41 : decode cX12_figure 41 = .ok (.getfield 172, 3) := by decide +kernel
theorem dX12_figure_44 : decode cX12_figure 44 = .ok (.iconst 1, 1) := by decide +kernel
theorem dX12_figure_45 : decode cX12_figure 45 = .ok (.iadd, 1) := by decide +kernel
theorem dX12_figure_46 : decode cX12_figure 46 = .ok (.putfield 172, 3) := by decide +kernel
theorem dX12_figure_49 : decode cX12_figure 49 = .ok (.goto (-45), 3) := by decide +kernel
theorem dX12_figure_52 : decode cX12_figure 52 = .ok (.iload_n 2, 1) := by decide +kernel
theorem dX12_figure_53 : decode cX12_figure 53 = .ok (.ifCond .eq 17, 3) := by decide +kernel
theorem dX12_figure_56 : decode cX12_figure 56 = .ok (.aload_n 0, 1) := by decide +kernel
theorem dX12_figure_57 : decode cX12_figure 57 = .ok (.invokevirtual 187, 3) := by decide +kernel
theorem dX12_figure_60 : decode cX12_figure 60 = .ok (.bipush 48, 2) := by decide +kernel
theorem dX12_figure_62 : decode cX12_figure 62 = .ok (.bipush 57, 2) := by decide +kernel
theorem dX12_figure_64 : decode cX12_figure 64 = .ok (.invokestatic 126, 3) := by decide +kernel
theorem dX12_figure_67 : decode cX12_figure 67 = .ok (.ifCond .eq 7, 3) := by decide +kernel
theorem dX12_figure_70 : decode cX12_figure 70 = .ok (.aload_n 0, 1) := by decide +kernel
theorem dX12_figure_71 : decode cX12_figure 71 = .ok (.invokevirtual 184, 3) := by decide +kernel
theorem dX12_figure_74 : decode cX12_figure 74 = .ok (.aload_n 0, 1) := by decide +kernel
theorem dX12_figure_75 : decode cX12_figure 75 = .ok (.iconst 1, 1) := by decide +kernel
theorem dX12_figure_76 : decode cX12_figure 76 = .ok (.iload_n 1, 1) := by decide +kernel
theorem dX12_figure_77 : decode cX12_figure 77 = .ok (.invokevirtual 191, 3) := by decide +kernel
theorem dX12_figure_80 : decode cX12_figure 80 = .ok (.return_, 1) := by decide +kernel
theorem dX12_operand_0 : decode cX12_operand 0 = .ok (.aload_n 0, 1) := by decide +kernel
theorem dX12_operand_1 : decode cX12_operand 1 = .ok (.invokevirtual 187, 3) := by decide +kernel
theorem dX12_operand_4 : decode cX12_operand 4 = .ok (.istore_n 1, 1) := by decide +kernel
theorem dX12_operand_5 : decode cX12_operand 5 = .ok (.iload_n 1, 1) := by decide +kernel
theorem dX12_operand_6 : decode cX12_operand 6 = .ok (.invokestatic 195, 3) := by decide +kernel
theorem dX12_operand_9 : decode cX12_operand 9 = .ok (.ifCond .lt 25, 3) := by decide +kernel
theorem dX12_operand_12 : decode cX12_operand 12 = .ok (.aload_n 0, 1) := by decide +kernel
theorem dX12_operand_13 : decode cX12_operand 13 = .ok (.iconst 2, 1) := by decide +kernel
theorem dX12_operand_14 : decode cX12_operand 14 = .ok (.iload_n 1, 1) := by decide +kernel
theorem dX12_operand_15 : decode cX12_operand 15 = .ok (.invokestatic 195, 3) := by decide +kernel
theorem dX12_operand_18 : decode cX12_operand 18 = .ok (.invokevirtual 191, 3) := by decide +kernel
theorem dX12_operand_21 : decode cX12_operand 21 = .ok (.aload_n 0, 1) := by decide +kernel
theorem dX12_operand_22 : decode cX12_operand 22 = .ok (.dup, 1) := by decide +kernel
theorem dX12_operand_23 : decode cX12_operand 23 = .ok (.getfield 172, 3) := by decide +kernel
theorem dX12_operand_26 : decode cX12_operand 26 = .ok (.iconst 1, 1) := by decide +kernel
theorem dX12_operand_27 : decode cX12_operand 27 = .ok (.iadd, 1) := by decide +kernel
theorem dX12_operand_28 : decode cX12_operand 28 = .ok (.putfield 172, 3) := by decide +kernel
theorem dX12_operand_31 : decode cX12_operand 31 = .ok (.goto 123, 3) := by decide +kernel
theorem dX12_operand_34 : decode cX12_operand 34 = .ok (.iload_n 1, 1) := by decide +kernel
theorem dX12_operand_35 : decode cX12_operand 35 = .ok (.bipush 33, 2) := by decide +kernel
theorem dX12_operand_37 : decode cX12_operand 37 = .ok (.if_icmp .eq 9, 3) := by decide +kernel
theorem dX12_operand_40 : decode cX12_operand 40 = .ok (.iload_n 1, 1) := by decide +kernel
theorem dX12_operand_41 : decode cX12_operand 41 = .ok (.bipush 45, 2) := by decide +kernel
theorem dX12_operand_43 : decode cX12_operand 43 = .ok (.if_icmp .ne 44, 3) := by decide +kernel
theorem dX12_operand_46 : decode cX12_operand 46 = .ok (.aload_n 0, 1) := by decide +kernel
theorem dX12_operand_47 : decode cX12_operand 47 = .ok (.invokevirtual 199, 3) := by decide +kernel
theorem dX12_operand_50 : decode cX12_operand 50 = .ok (.ifCond .ne 4, 3) := by decide +kernel
theorem dX12_operand_53 : decode cX12_operand 53 = .ok (.return_, 1) := by decide +kernel
theorem dX12_operand_54 : decode cX12_operand 54 = .ok (.aload_n 0, 1) := by decide +kernel
theorem dX12_operand_55 : decode cX12_operand 55 = .ok (.invokevirtual 203, 3) := by decide +kernel
theorem dX12_operand_58 : decode cX12_operand 58 = .ok (.aload_n 0, 1) := by decide +kernel
theorem dX12_operand_59 : decode cX12_operand 59 = .ok (.dup, 1) := by decide +kernel
theorem dX12_operand_60 : decode cX12_operand 60 = .ok (.getfield 181, 3) := by decide +kernel
theorem dX12_operand_63 : decode cX12_operand 63 = .ok (.iconst 1, 1) := by decide +kernel
theorem dX12_operand_64 : decode cX12_operand 64 = .ok (.isub, 1) := by decide +kernel
theorem dX12_operand_65 : decode cX12_operand 65 = .ok (.putfield 181, 3) := by decide +kernel
theorem dX12_operand_68 : decode cX12_operand 68 = .ok (.aload_n 0, 1) := by decide +kernel
theorem dX12_operand_69 : decode cX12_operand 69 = .ok (.iload_n 1, 1) := by decide +kernel
theorem dX12_operand_70 : decode cX12_operand 70 = .ok (.bipush 33, 2) := by decide +kernel
theorem dX12_operand_72 : decode cX12_operand 72 = .ok (.if_icmp .ne 7, 3) := by decide +kernel
theorem dX12_operand_75 : decode cX12_operand 75 = .ok (.iconst 3, 1) := by decide +kernel
theorem dX12_operand_76 : decode cX12_operand 76 = .ok (.goto 4, 3) := by decide +kernel
theorem dX12_operand_79 : decode cX12_operand 79 = .ok (.iconst 4, 1) := by decide +kernel
theorem dX12_operand_80 : decode cX12_operand 80 = .ok (.iconst 0, 1) := by decide +kernel
theorem dX12_operand_81 : decode cX12_operand 81 = .ok (.invokevirtual 191, 3) := by decide +kernel
theorem dX12_operand_84 : decode cX12_operand 84 = .ok (.goto 70, 3) := by decide +kernel
theorem dX12_operand_87 : decode cX12_operand 87 = .ok (.iload_n 1, 1) := by decide +kernel
theorem dX12_operand_88 : decode cX12_operand 88 = .ok (.bipush 40, 2) := by decide +kernel
theorem dX12_operand_90 : decode cX12_operand 90 = .ok (.if_icmp .ne 60, 3) := by decide +kernel
theorem dX12_operand_93 : decode cX12_operand 93 = .ok (.aload_n 0, 1) := by decide +kernel
theorem dX12_operand_94 : decode cX12_operand 94 = .ok (.invokevirtual 199, 3) := by decide +kernel
theorem dX12_operand_97 : decode cX12_operand 97 = .ok (.ifCond .ne 4, 3) := by decide +kernel
theorem dX12_operand_100 : decode cX12_operand 100 = .ok (.return_, 1) := by decide +kernel
theorem dX12_operand_101 : decode cX12_operand 101 = .ok (.aload_n 0, 1) := by decide +kernel
theorem dX12_operand_102 : decode cX12_operand 102 = .ok (.invokevirtual 206, 3) := by decide +kernel
theorem dX12_operand_105 : decode cX12_operand 105 = .ok (.aload_n 0, 1) := by decide +kernel
theorem dX12_operand_106 : decode cX12_operand 106 = .ok (.getfield 175, 3) := by decide +kernel
theorem dX12_operand_109 : decode cX12_operand 109 = .ok (.ifCond .lt 4, 3) := by decide +kernel
theorem dX12_operand_112 : decode cX12_operand 112 = .ok (.return_, 1) := by decide +kernel
theorem dX12_operand_113 : decode cX12_operand 113 = .ok (.aload_n 0, 1) := by decide +kernel
theorem dX12_operand_114 : decode cX12_operand 114 = .ok (.invokevirtual 187, 3) := by decide +kernel
theorem dX12_operand_117 : decode cX12_operand 117 = .ok (.bipush 41, 2) := by decide +kernel
theorem dX12_operand_119 : decode cX12_operand 119 = .ok (.if_icmp .eq 8, 3) := by decide +kernel
theorem dX12_operand_122 : decode cX12_operand 122 = .ok (.aload_n 0, 1) := by decide +kernel
theorem dX12_operand_123 : decode cX12_operand 123 = .ok (.invokevirtual 184, 3) := by decide +kernel
theorem dX12_operand_126 : decode cX12_operand 126 = .ok (.return_, 1) := by decide +kernel
theorem dX12_operand_127 : decode cX12_operand 127 = .ok (.aload_n 0, 1) := by decide +kernel
theorem dX12_operand_128 : decode cX12_operand 128 = .ok (.dup, 1) := by decide +kernel
theorem dX12_operand_129 : decode cX12_operand 129 = .ok (.getfield 172, 3) := by decide +kernel
theorem dX12_operand_132 : decode cX12_operand 132 = .ok (.iconst 1, 1) := by decide +kernel
theorem dX12_operand_133 : decode cX12_operand 133 = .ok (.iadd, 1) := by decide +kernel
theorem dX12_operand_134 : decode cX12_operand 134 = .ok (.putfield 172, 3) := by decide +kernel
theorem dX12_operand_137 : decode cX12_operand 137 = .ok (.aload_n 0, 1) := by decide +kernel
theorem dX12_operand_138 : decode cX12_operand 138 = .ok (.dup, 1) := by decide +kernel
theorem dX12_operand_139 : decode cX12_operand 139 = .ok (.getfield 181, 3) := by decide +kernel
theorem dX12_operand_142 : decode cX12_operand 142 = .ok (.iconst 1, 1) := by decide +kernel
theorem dX12_operand_143 : decode cX12_operand 143 = .ok (.isub, 1) := by decide +kernel
theorem dX12_operand_144 : decode cX12_operand 144 = .ok (.putfield 181, 3) := by decide +kernel
theorem dX12_operand_147 : decode cX12_operand 147 = .ok (.goto 7, 3) := by decide +kernel
theorem dX12_operand_150 : decode cX12_operand 150 = .ok (.aload_n 0, 1) := by decide +kernel
theorem dX12_operand_151 : decode cX12_operand 151 = .ok (.invokevirtual 209, 3) := by decide +kernel
theorem dX12_operand_154 : decode cX12_operand 154 = .ok (.return_, 1) := by decide +kernel
theorem dX12_product_0 : decode cX12_product 0 = .ok (.aload_n 0, 1) := by decide +kernel
theorem dX12_product_1 : decode cX12_product 1 = .ok (.invokevirtual 203, 3) := by decide +kernel
theorem dX12_product_4 : decode cX12_product 4 = .ok (.aload_n 0, 1) := by decide +kernel
theorem dX12_product_5 : decode cX12_product 5 = .ok (.getfield 175, 3) := by decide +kernel
theorem dX12_product_8 : decode cX12_product 8 = .ok (.ifCond .ge 58, 3) := by decide +kernel
theorem dX12_product_11 : decode cX12_product 11 = .ok (.aload_n 0, 1) := by decide +kernel
theorem dX12_product_12 : decode cX12_product 12 = .ok (.invokevirtual 187, 3) := by decide +kernel
theorem dX12_product_15 : decode cX12_product 15 = .ok (.bipush 42, 2) := by decide +kernel
theorem dX12_product_17 : decode cX12_product 17 = .ok (.if_icmp .eq 21, 3) := by decide +kernel
theorem dX12_product_20 : decode cX12_product 20 = .ok (.aload_n 0, 1) := by decide +kernel
theorem dX12_product_21 : decode cX12_product 21 = .ok (.invokevirtual 187, 3) := by decide +kernel
theorem dX12_product_24 : decode cX12_product 24 = .ok (.bipush 47, 2) := by decide +kernel
theorem dX12_product_26 : decode cX12_product 26 = .ok (.if_icmp .eq 12, 3) := by decide +kernel
theorem dX12_product_29 : decode cX12_product 29 = .ok (.aload_n 0, 1) := by decide +kernel
theorem dX12_product_30 : decode cX12_product 30 = .ok (.invokevirtual 187, 3) := by decide +kernel
theorem dX12_product_33 : decode cX12_product 33 = .ok (.bipush 37, 2) := by decide +kernel
theorem dX12_product_35 : decode cX12_product 35 = .ok (.if_icmp .ne 31, 3) := by decide +kernel
theorem dX12_product_38 : decode cX12_product 38 = .ok (.aload_n 0, 1) := by decide +kernel
theorem dX12_product_39 : decode cX12_product 39 = .ok (.invokevirtual 187, 3) := by decide +kernel
theorem dX12_product_42 : decode cX12_product 42 = .ok (.istore_n 1, 1) := by decide +kernel
theorem dX12_product_43 : decode cX12_product 43 = .ok (.aload_n 0, 1) := by decide +kernel
theorem dX12_product_44 : decode cX12_product 44 = .ok (.dup, 1) := by decide +kernel
theorem dX12_product_45 : decode cX12_product 45 = .ok (.getfield 172, 3) := by decide +kernel
theorem dX12_product_48 : decode cX12_product 48 = .ok (.iconst 1, 1) := by decide +kernel
theorem dX12_product_49 : decode cX12_product 49 = .ok (.iadd, 1) := by decide +kernel
theorem dX12_product_50 : decode cX12_product 50 = .ok (.putfield 172, 3) := by decide +kernel
theorem dX12_product_53 : decode cX12_product 53 = .ok (.aload_n 0, 1) := by decide +kernel
theorem dX12_product_54 : decode cX12_product 54 = .ok (.invokevirtual 203, 3) := by decide +kernel
theorem dX12_product_57 : decode cX12_product 57 = .ok (.aload_n 0, 1) := by decide +kernel
theorem dX12_product_58 : decode cX12_product 58 = .ok (.iload_n 1, 1) := by decide +kernel
theorem dX12_product_59 : decode cX12_product 59 = .ok (.iconst 0, 1) := by decide +kernel
theorem dX12_product_60 : decode cX12_product 60 = .ok (.invokevirtual 191, 3) := by decide +kernel
theorem dX12_product_63 : decode cX12_product 63 = .ok (.goto (-59), 3) := by decide +kernel
theorem dX12_product_66 : decode cX12_product 66 = .ok (.return_, 1) := by decide +kernel
theorem dX12_sum_0 : decode cX12_sum 0 = .ok (.aload_n 0, 1) := by decide +kernel
theorem dX12_sum_1 : decode cX12_sum 1 = .ok (.invokevirtual 212, 3) := by decide +kernel
theorem dX12_sum_4 : decode cX12_sum 4 = .ok (.aload_n 0, 1) := by decide +kernel
theorem dX12_sum_5 : decode cX12_sum 5 = .ok (.getfield 175, 3) := by decide +kernel
theorem dX12_sum_8 : decode cX12_sum 8 = .ok (.ifCond .ge 49, 3) := by decide +kernel
theorem dX12_sum_11 : decode cX12_sum 11 = .ok (.aload_n 0, 1) := by decide +kernel
theorem dX12_sum_12 : decode cX12_sum 12 = .ok (.invokevirtual 187, 3) := by decide +kernel
theorem dX12_sum_15 : decode cX12_sum 15 = .ok (.bipush 43, 2) := by decide +kernel
theorem dX12_sum_17 : decode cX12_sum 17 = .ok (.if_icmp .eq 12, 3) := by decide +kernel
theorem dX12_sum_20 : decode cX12_sum 20 = .ok (.aload_n 0, 1) := by decide +kernel
theorem dX12_sum_21 : decode cX12_sum 21 = .ok (.invokevirtual 187, 3) := by decide +kernel
theorem dX12_sum_24 : decode cX12_sum 24 = .ok (.bipush 45, 2) := by decide +kernel
theorem dX12_sum_26 : decode cX12_sum 26 = .ok (.if_icmp .ne 31, 3) := by decide +kernel
theorem dX12_sum_29 : decode cX12_sum 29 = .ok (.aload_n 0, 1) := by decide +kernel
theorem dX12_sum_30 : decode cX12_sum 30 = .ok (.invokevirtual 187, 3) := by decide +kernel
theorem dX12_sum_33 : decode cX12_sum 33 = .ok (.istore_n 1, 1) := by decide +kernel
theorem dX12_sum_34 : decode cX12_sum 34 = .ok (.aload_n 0, 1) := by decide +kernel
theorem dX12_sum_35 : decode cX12_sum 35 = .ok (.dup, 1) := by decide +kernel
theorem dX12_sum_36 : decode cX12_sum 36 = .ok (.getfield 172, 3) := by decide +kernel
theorem dX12_sum_39 : decode cX12_sum 39 = .ok (.iconst 1, 1) := by decide +kernel
theorem dX12_sum_40 : decode cX12_sum 40 = .ok (.iadd, 1) := by decide +kernel
theorem dX12_sum_41 : decode cX12_sum 41 = .ok (.putfield 172, 3) := by decide +kernel
theorem dX12_sum_44 : decode cX12_sum 44 = .ok (.aload_n 0, 1) := by decide +kernel
theorem dX12_sum_45 : decode cX12_sum 45 = .ok (.invokevirtual 212, 3) := by decide +kernel
theorem dX12_sum_48 : decode cX12_sum 48 = .ok (.aload_n 0, 1) := by decide +kernel
theorem dX12_sum_49 : decode cX12_sum 49 = .ok (.iload_n 1, 1) := by decide +kernel
theorem dX12_sum_50 : decode cX12_sum 50 = .ok (.iconst 0, 1) := by decide +kernel
theorem dX12_sum_51 : decode cX12_sum 51 = .ok (.invokevirtual 191, 3) := by decide +kernel
theorem dX12_sum_54 : decode cX12_sum 54 = .ok (.goto (-50), 3) := by decide +kernel
theorem dX12_sum_57 : decode cX12_sum 57 = .ok (.return_, 1) := by decide +kernel
theorem dX12_compared_0 : decode cX12_compared 0 = .ok (.aload_n 0, 1) := by decide +kernel
theorem dX12_compared_1 : decode cX12_compared 1 = .ok (.invokevirtual 215, 3) := by decide +kernel
theorem dX12_compared_4 : decode cX12_compared 4 = .ok (.aload_n 0, 1) := by decide +kernel
theorem dX12_compared_5 : decode cX12_compared 5 = .ok (.invokevirtual 187, 3) := by decide +kernel
theorem dX12_compared_8 : decode cX12_compared 8 = .ok (.istore_n 1, 1) := by decide +kernel
theorem dX12_compared_9 : decode cX12_compared 9 = .ok (.aload_n 0, 1) := by decide +kernel
theorem dX12_compared_10 : decode cX12_compared 10 = .ok (.getfield 175, 3) := by decide +kernel
theorem dX12_compared_13 : decode cX12_compared 13 = .ok (.ifCond .ge 21, 3) := by decide +kernel
theorem dX12_compared_16 : decode cX12_compared 16 = .ok (.iload_n 1, 1) := by decide +kernel
theorem dX12_compared_17 : decode cX12_compared 17 = .ok (.bipush 60, 2) := by decide +kernel
theorem dX12_compared_19 : decode cX12_compared 19 = .ok (.if_icmp .eq 16, 3) := by decide +kernel
theorem dX12_compared_22 : decode cX12_compared 22 = .ok (.iload_n 1, 1) := by decide +kernel
theorem dX12_compared_23 : decode cX12_compared 23 = .ok (.bipush 61, 2) := by decide +kernel
theorem dX12_compared_25 : decode cX12_compared 25 = .ok (.if_icmp .eq 10, 3) := by decide +kernel
theorem dX12_compared_28 : decode cX12_compared 28 = .ok (.iload_n 1, 1) := by decide +kernel
theorem dX12_compared_29 : decode cX12_compared 29 = .ok (.bipush 62, 2) := by decide +kernel
theorem dX12_compared_31 : decode cX12_compared 31 = .ok (.if_icmp .eq 4, 3) := by decide +kernel
theorem dX12_compared_34 : decode cX12_compared 34 = .ok (.return_, 1) := by decide +kernel
theorem dX12_compared_35 : decode cX12_compared 35 = .ok (.aload_n 0, 1) := by decide +kernel
theorem dX12_compared_36 : decode cX12_compared 36 = .ok (.dup, 1) := by decide +kernel
theorem dX12_compared_37 : decode cX12_compared 37 = .ok (.getfield 172, 3) := by decide +kernel
theorem dX12_compared_40 : decode cX12_compared 40 = .ok (.iconst 1, 1) := by decide +kernel
theorem dX12_compared_41 : decode cX12_compared 41 = .ok (.iadd, 1) := by decide +kernel
theorem dX12_compared_42 : decode cX12_compared 42 = .ok (.putfield 172, 3) := by decide +kernel
theorem dX12_compared_45 : decode cX12_compared 45 = .ok (.aload_n 0, 1) := by decide +kernel
theorem dX12_compared_46 : decode cX12_compared 46 = .ok (.invokevirtual 215, 3) := by decide +kernel
theorem dX12_compared_49 : decode cX12_compared 49 = .ok (.aload_n 0, 1) := by decide +kernel
theorem dX12_compared_50 : decode cX12_compared 50 = .ok (.iload_n 1, 1) := by decide +kernel
theorem dX12_compared_51 : decode cX12_compared 51 = .ok (.iconst 0, 1) := by decide +kernel
theorem dX12_compared_52 : decode cX12_compared 52 = .ok (.invokevirtual 191, 3) := by decide +kernel
theorem dX12_compared_55 : decode cX12_compared 55 = .ok (.return_, 1) := by decide +kernel
theorem dX12_both_0 : decode cX12_both 0 = .ok (.aload_n 0, 1) := by decide +kernel
theorem dX12_both_1 : decode cX12_both 1 = .ok (.invokevirtual 218, 3) := by decide +kernel
theorem dX12_both_4 : decode cX12_both 4 = .ok (.aload_n 0, 1) := by decide +kernel
theorem dX12_both_5 : decode cX12_both 5 = .ok (.getfield 175, 3) := by decide +kernel
theorem dX12_both_8 : decode cX12_both 8 = .ok (.ifCond .ge 36, 3) := by decide +kernel
theorem dX12_both_11 : decode cX12_both 11 = .ok (.aload_n 0, 1) := by decide +kernel
theorem dX12_both_12 : decode cX12_both 12 = .ok (.invokevirtual 187, 3) := by decide +kernel
theorem dX12_both_15 : decode cX12_both 15 = .ok (.bipush 38, 2) := by decide +kernel
theorem dX12_both_17 : decode cX12_both 17 = .ok (.if_icmp .ne 27, 3) := by decide +kernel
theorem dX12_both_20 : decode cX12_both 20 = .ok (.aload_n 0, 1) := by decide +kernel
theorem dX12_both_21 : decode cX12_both 21 = .ok (.dup, 1) := by decide +kernel
theorem dX12_both_22 : decode cX12_both 22 = .ok (.getfield 172, 3) := by decide +kernel
theorem dX12_both_25 : decode cX12_both 25 = .ok (.iconst 1, 1) := by decide +kernel
theorem dX12_both_26 : decode cX12_both 26 = .ok (.iadd, 1) := by decide +kernel
theorem dX12_both_27 : decode cX12_both 27 = .ok (.putfield 172, 3) := by decide +kernel
theorem dX12_both_30 : decode cX12_both 30 = .ok (.aload_n 0, 1) := by decide +kernel
theorem dX12_both_31 : decode cX12_both 31 = .ok (.invokevirtual 218, 3) := by decide +kernel
theorem dX12_both_34 : decode cX12_both 34 = .ok (.aload_n 0, 1) := by decide +kernel
theorem dX12_both_35 : decode cX12_both 35 = .ok (.bipush 38, 2) := by decide +kernel
theorem dX12_both_37 : decode cX12_both 37 = .ok (.iconst 0, 1) := by decide +kernel
theorem dX12_both_38 : decode cX12_both 38 = .ok (.invokevirtual 191, 3) := by decide +kernel
theorem dX12_both_41 : decode cX12_both 41 = .ok (.goto (-37), 3) := by decide +kernel
theorem dX12_both_44 : decode cX12_both 44 = .ok (.return_, 1) := by decide +kernel
theorem dX12_either_0 : decode cX12_either 0 = .ok (.aload_n 0, 1) := by decide +kernel
theorem dX12_either_1 : decode cX12_either 1 = .ok (.invokevirtual 221, 3) := by decide +kernel
theorem dX12_either_4 : decode cX12_either 4 = .ok (.aload_n 0, 1) := by decide +kernel
theorem dX12_either_5 : decode cX12_either 5 = .ok (.getfield 175, 3) := by decide +kernel
theorem dX12_either_8 : decode cX12_either 8 = .ok (.ifCond .ge 36, 3) := by decide +kernel
theorem dX12_either_11 : decode cX12_either 11 = .ok (.aload_n 0, 1) := by decide +kernel
theorem dX12_either_12 : decode cX12_either 12 = .ok (.invokevirtual 187, 3) := by decide +kernel
theorem dX12_either_15 : decode cX12_either 15 = .ok (.bipush 124, 2) := by decide +kernel
theorem dX12_either_17 : decode cX12_either 17 = .ok (.if_icmp .ne 27, 3) := by decide +kernel
theorem dX12_either_20 : decode cX12_either 20 = .ok (.aload_n 0, 1) := by decide +kernel
theorem dX12_either_21 : decode cX12_either 21 = .ok (.dup, 1) := by decide +kernel
theorem dX12_either_22 : decode cX12_either 22 = .ok (.getfield 172, 3) := by decide +kernel
theorem dX12_either_25 : decode cX12_either 25 = .ok (.iconst 1, 1) := by decide +kernel
theorem dX12_either_26 : decode cX12_either 26 = .ok (.iadd, 1) := by decide +kernel
theorem dX12_either_27 : decode cX12_either 27 = .ok (.putfield 172, 3) := by decide +kernel
theorem dX12_either_30 : decode cX12_either 30 = .ok (.aload_n 0, 1) := by decide +kernel
theorem dX12_either_31 : decode cX12_either 31 = .ok (.invokevirtual 221, 3) := by decide +kernel
theorem dX12_either_34 : decode cX12_either 34 = .ok (.aload_n 0, 1) := by decide +kernel
theorem dX12_either_35 : decode cX12_either 35 = .ok (.bipush 124, 2) := by decide +kernel
theorem dX12_either_37 : decode cX12_either 37 = .ok (.iconst 0, 1) := by decide +kernel
theorem dX12_either_38 : decode cX12_either 38 = .ok (.invokevirtual 191, 3) := by decide +kernel
theorem dX12_either_41 : decode cX12_either 41 = .ok (.goto (-37), 3) := by decide +kernel
theorem dX12_either_44 : decode cX12_either 44 = .ok (.return_, 1) := by decide +kernel
theorem dX12_line_0 : decode cX12_line 0 = .ok (.bipush 61, 2) := by decide +kernel
theorem dX12_line_2 : decode cX12_line 2 = .ok (.aload_n 0, 1) := by decide +kernel
theorem dX12_line_3 : decode cX12_line 3 = .ok (.getfield 51, 3) := by decide +kernel
theorem dX12_line_6 : decode cX12_line 6 = .ok (.iconst 1, 1) := by decide +kernel
theorem dX12_line_7 : decode cX12_line 7 = .ok (.iaload, 1) := by decide +kernel
theorem dX12_line_8 : decode cX12_line 8 = .ok (.iadd, 1) := by decide +kernel
theorem dX12_line_9 : decode cX12_line 9 = .ok (.istore_n 1, 1) := by decide +kernel
theorem dX12_line_10 : decode cX12_line 10 = .ok (.aload_n 0, 1) := by decide +kernel
theorem dX12_line_11 : decode cX12_line 11 = .ok (.getfield 54, 3) := by decide +kernel
theorem dX12_line_14 : decode cX12_line 14 = .ok (.iload_n 1, 1) := by decide +kernel
theorem dX12_line_15 : decode cX12_line 15 = .ok (.aload_n 0, 1) := by decide +kernel
theorem dX12_line_16 : decode cX12_line 16 = .ok (.getfield 178, 3) := by decide +kernel
theorem dX12_line_19 : decode cX12_line 19 = .ok (.i2s, 1) := by decide +kernel
theorem dX12_line_20 : decode cX12_line 20 = .ok (.sastore, 1) := by decide +kernel
theorem dX12_line_21 : decode cX12_line 21 = .ok (.aload_n 0, 1) := by decide +kernel
theorem dX12_line_22 : decode cX12_line 22 = .ok (.invokevirtual 206, 3) := by decide +kernel
theorem dX12_line_25 : decode cX12_line 25 = .ok (.aload_n 0, 1) := by decide +kernel
theorem dX12_line_26 : decode cX12_line 26 = .ok (.getfield 175, 3) := by decide +kernel
theorem dX12_line_29 : decode cX12_line 29 = .ok (.ifCond .ge 37, 3) := by decide +kernel
theorem dX12_line_32 : decode cX12_line 32 = .ok (.aload_n 0, 1) := by decide +kernel
theorem dX12_line_33 : decode cX12_line 33 = .ok (.invokevirtual 187, 3) := by decide +kernel
theorem dX12_line_36 : decode cX12_line 36 = .ok (.bipush 63, 2) := by decide +kernel
theorem dX12_line_38 : decode cX12_line 38 = .ok (.if_icmp .ne 28, 3) := by decide +kernel
theorem dX12_line_41 : decode cX12_line 41 = .ok (.aload_n 0, 1) := by decide +kernel
theorem dX12_line_42 : decode cX12_line 42 = .ok (.dup, 1) := by decide +kernel
theorem dX12_line_43 : decode cX12_line 43 = .ok (.getfield 172, 3) := by decide +kernel
theorem dX12_line_46 : decode cX12_line 46 = .ok (.iconst 1, 1) := by decide +kernel
theorem dX12_line_47 : decode cX12_line 47 = .ok (.iadd, 1) := by decide +kernel
theorem dX12_line_48 : decode cX12_line 48 = .ok (.putfield 172, 3) := by decide +kernel
theorem dX12_line_51 : decode cX12_line 51 = .ok (.aload_n 0, 1) := by decide +kernel
theorem dX12_line_52 : decode cX12_line 52 = .ok (.getfield 54, 3) := by decide +kernel
theorem dX12_line_55 : decode cX12_line 55 = .ok (.iload_n 1, 1) := by decide +kernel
theorem dX12_line_56 : decode cX12_line 56 = .ok (.aload_n 0, 1) := by decide +kernel
theorem dX12_line_57 : decode cX12_line 57 = .ok (.getfield 178, 3) := by decide +kernel
theorem dX12_line_60 : decode cX12_line 60 = .ok (.i2s, 1) := by decide +kernel
theorem dX12_line_61 : decode cX12_line 61 = .ok (.sastore, 1) := by decide +kernel
theorem dX12_line_62 : decode cX12_line 62 = .ok (.aload_n 0, 1) := by decide +kernel
theorem dX12_line_63 : decode cX12_line 63 = .ok (.invokevirtual 206, 3) := by decide +kernel
theorem dX12_line_66 : decode cX12_line 66 = .ok (.aload_n 0, 1) := by decide +kernel
theorem dX12_line_67 : decode cX12_line 67 = .ok (.getfield 58, 3) := by decide +kernel
theorem dX12_line_70 : decode cX12_line 70 = .ok (.iload_n 1, 1) := by decide +kernel
theorem dX12_line_71 : decode cX12_line 71 = .ok (.aload_n 0, 1) := by decide +kernel
theorem dX12_line_72 : decode cX12_line 72 = .ok (.getfield 178, 3) := by decide +kernel
theorem dX12_line_75 : decode cX12_line 75 = .ok (.i2s, 1) := by decide +kernel
theorem dX12_line_76 : decode cX12_line 76 = .ok (.sastore, 1) := by decide +kernel
theorem dX12_line_77 : decode cX12_line 77 = .ok (.aload_n 0, 1) := by decide +kernel
theorem dX12_line_78 : decode cX12_line 78 = .ok (.getfield 51, 3) := by decide +kernel
theorem dX12_line_81 : decode cX12_line 81 = .ok (.iconst 1, 1) := by decide +kernel
theorem dX12_line_82 : decode cX12_line 82 = .ok (.dup2, 1) := by decide +kernel
theorem dX12_line_83 : decode cX12_line 83 = .ok (.iaload, 1) := by decide +kernel
theorem dX12_line_84 : decode cX12_line 84 = .ok (.iconst 1, 1) := by decide +kernel
theorem dX12_line_85 : decode cX12_line 85 = .ok (.iadd, 1) := by decide +kernel
theorem dX12_line_86 : decode cX12_line 86 = .ok (.iastore, 1) := by decide +kernel
theorem dX12_line_87 : decode cX12_line 87 = .ok (.return_, 1) := by decide +kernel
theorem dX12_readText_0 : decode cX12_readText 0 = .ok (.aload_n 0, 1) := by decide +kernel
theorem dX12_readText_1 : decode cX12_readText 1 = .ok (.iconst 0, 1) := by decide +kernel
theorem dX12_readText_2 : decode cX12_readText 2 = .ok (.putfield 172, 3) := by decide +kernel
theorem dX12_readText_5 : decode cX12_readText 5 = .ok (.aload_n 0, 1) := by decide +kernel
theorem dX12_readText_6 : decode cX12_readText 6 = .ok (.iconst (-1), 1) := by decide +kernel
theorem dX12_readText_7 : decode cX12_readText 7 = .ok (.putfield 175, 3) := by decide +kernel
theorem dX12_readText_10 : decode cX12_readText 10 = .ok (.aload_n 0, 1) := by decide +kernel
theorem dX12_readText_11 : decode cX12_readText 11 = .ok (.iconst 0, 1) := by decide +kernel
theorem dX12_readText_12 : decode cX12_readText 12 = .ok (.putfield 181, 3) := by decide +kernel
theorem dX12_readText_15 : decode cX12_readText 15 = .ok (.aload_n 0, 1) := by decide +kernel
theorem dX12_readText_16 : decode cX12_readText 16 = .ok (.iconst 0, 1) := by decide +kernel
theorem dX12_readText_17 : decode cX12_readText 17 = .ok (.putfield 178, 3) := by decide +kernel
theorem dX12_readText_20 : decode cX12_readText 20 = .ok (.aload_n 0, 1) := by decide +kernel
theorem dX12_readText_21 : decode cX12_readText 21 = .ok (.getfield 51, 3) := by decide +kernel
theorem dX12_readText_24 : decode cX12_readText 24 = .ok (.iconst 1, 1) := by decide +kernel
theorem dX12_readText_25 : decode cX12_readText 25 = .ok (.iconst 0, 1) := by decide +kernel
theorem dX12_readText_26 : decode cX12_readText 26 = .ok (.iastore, 1) := by decide +kernel
theorem dX12_readText_27 : decode cX12_readText 27 = .ok (.aload_n 0, 1) := by decide +kernel
theorem dX12_readText_28 : decode cX12_readText 28 = .ok (.invokevirtual 224, 3) := by decide +kernel
theorem dX12_readText_31 : decode cX12_readText 31 = .ok (.aload_n 0, 1) := by decide +kernel
theorem dX12_readText_32 : decode cX12_readText 32 = .ok (.getfield 175, 3) := by decide +kernel
theorem dX12_readText_35 : decode cX12_readText 35 = .ok (.ifCond .ge 29, 3) := by decide +kernel
theorem dX12_readText_38 : decode cX12_readText 38 = .ok (.aload_n 0, 1) := by decide +kernel
theorem dX12_readText_39 : decode cX12_readText 39 = .ok (.invokevirtual 187, 3) := by decide +kernel
theorem dX12_readText_42 : decode cX12_readText 42 = .ok (.bipush 59, 2) := by decide +kernel
theorem dX12_readText_44 : decode cX12_readText 44 = .ok (.if_icmp .ne 20, 3) := by decide +kernel
theorem dX12_readText_47 : decode cX12_readText 47 = .ok (.aload_n 0, 1) := by decide +kernel
theorem dX12_readText_48 : decode cX12_readText 48 = .ok (.dup, 1) := by decide +kernel
theorem dX12_readText_49 : decode cX12_readText 49 = .ok (.getfield 172, 3) := by decide +kernel
theorem dX12_readText_52 : decode cX12_readText 52 = .ok (.iconst 1, 1) := by decide +kernel
theorem dX12_readText_53 : decode cX12_readText 53 = .ok (.iadd, 1) := by decide +kernel
theorem dX12_readText_54 : decode cX12_readText 54 = .ok (.putfield 172, 3) := by decide +kernel
theorem dX12_readText_57 : decode cX12_readText 57 = .ok (.aload_n 0, 1) := by decide +kernel
theorem dX12_readText_58 : decode cX12_readText 58 = .ok (.invokevirtual 224, 3) := by decide +kernel
theorem dX12_readText_61 : decode cX12_readText 61 = .ok (.goto (-30), 3) := by decide +kernel
theorem dX12_readText_64 : decode cX12_readText 64 = .ok (.aload_n 0, 1) := by decide +kernel
theorem dX12_readText_65 : decode cX12_readText 65 = .ok (.getfield 175, 3) := by decide +kernel
theorem dX12_readText_68 : decode cX12_readText 68 = .ok (.ifCond .ge 18, 3) := by decide +kernel
theorem dX12_readText_71 : decode cX12_readText 71 = .ok (.aload_n 0, 1) := by decide +kernel
theorem dX12_readText_72 : decode cX12_readText 72 = .ok (.getfield 172, 3) := by decide +kernel
theorem dX12_readText_75 : decode cX12_readText 75 = .ok (.aload_n 0, 1) := by decide +kernel
theorem dX12_readText_76 : decode cX12_readText 76 = .ok (.getfield 169, 3) := by decide +kernel
theorem dX12_readText_79 : decode cX12_readText 79 = .ok (.if_icmp .ge 7, 3) := by decide +kernel
theorem dX12_readText_82 : decode cX12_readText 82 = .ok (.aload_n 0, 1) := by decide +kernel
theorem dX12_readText_83 : decode cX12_readText 83 = .ok (.invokevirtual 184, 3) := by decide +kernel
theorem dX12_readText_86 : decode cX12_readText 86 = .ok (.aload_n 0, 1) := by decide +kernel
theorem dX12_readText_87 : decode cX12_readText 87 = .ok (.iconst 0, 1) := by decide +kernel
theorem dX12_readText_88 : decode cX12_readText 88 = .ok (.putfield 169, 3) := by decide +kernel
theorem dX12_readText_91 : decode cX12_readText 91 = .ok (.aload_n 0, 1) := by decide +kernel
theorem dX12_readText_92 : decode cX12_readText 92 = .ok (.getfield 175, 3) := by decide +kernel
theorem dX12_readText_95 : decode cX12_readText 95 = .ok (.ifCond .lt 8, 3) := by decide +kernel
theorem dX12_readText_98 : decode cX12_readText 98 = .ok (.aload_n 0, 1) := by decide +kernel
theorem dX12_readText_99 : decode cX12_readText 99 = .ok (.getfield 175, 3) := by decide +kernel
theorem dX12_readText_102 : decode cX12_readText 102 = .ok (.ireturn, 1) := by decide +kernel
theorem dX12_readText_103 : decode cX12_readText 103 = .ok (.iconst 0, 1) := by decide +kernel
theorem dX12_readText_104 : decode cX12_readText 104 = .ok (.istore_n 2, 1) := by decide +kernel
theorem dX12_readText_105 : decode cX12_readText 105 = .ok (.iload_n 2, 1) := by decide +kernel
theorem dX12_readText_106 : decode cX12_readText 106 = .ok (.aload_n 0, 1) := by decide +kernel
theorem dX12_readText_107 : decode cX12_readText 107 = .ok (.getfield 178, 3) := by decide +kernel
theorem dX12_readText_110 : decode cX12_readText 110 = .ok (.if_icmp .ge 53, 3) := by decide +kernel
theorem dX12_readText_113 : decode cX12_readText 113 = .ok (.aload_n 0, 1) := by decide +kernel
theorem dX12_readText_114 : decode cX12_readText 114 = .ok (.getfield 45, 3) := by decide +kernel
theorem dX12_readText_117 : decode cX12_readText 117 = .ok (.sipush 130, 3) := by decide +kernel
theorem dX12_readText_120 : decode cX12_readText 120 = .ok (.iload_n 1, 1) := by decide +kernel
theorem dX12_readText_121 : decode cX12_readText 121 = .ok (.imul, 1) := by decide +kernel
theorem dX12_readText_122 : decode cX12_readText 122 = .ok (.iload_n 2, 1) := by decide +kernel
theorem dX12_readText_123 : decode cX12_readText 123 = .ok (.iadd, 1) := by decide +kernel
theorem dX12_readText_124 : decode cX12_readText 124 = .ok (.aload_n 0, 1) := by decide +kernel
theorem dX12_readText_125 : decode cX12_readText 125 = .ok (.getfield 45, 3) := by decide +kernel
theorem dX12_readText_128 : decode cX12_readText 128 = .ok (.sipush 130, 3) := by decide +kernel
theorem dX12_readText_131 : decode cX12_readText 131 = .ok (.iload_n 2, 1) := by decide +kernel
theorem dX12_readText_132 : decode cX12_readText 132 = .ok (.iadd, 1) := by decide +kernel
theorem dX12_readText_133 : decode cX12_readText 133 = .ok (.baload, 1) := by decide +kernel
theorem dX12_readText_134 : decode cX12_readText 134 = .ok (.bastore, 1) := by decide +kernel
theorem dX12_readText_135 : decode cX12_readText 135 = .ok (.aload_n 0, 1) := by decide +kernel
theorem dX12_readText_136 : decode cX12_readText 136 = .ok (.getfield 48, 3) := by decide +kernel
theorem dX12_readText_139 : decode cX12_readText 139 = .ok (.sipush 130, 3) := by decide +kernel
theorem dX12_readText_142 : decode cX12_readText 142 = .ok (.iload_n 1, 1) := by decide +kernel
theorem dX12_readText_143 : decode cX12_readText 143 = .ok (.imul, 1) := by decide +kernel
theorem dX12_readText_144 : decode cX12_readText 144 = .ok (.iload_n 2, 1) := by decide +kernel
theorem dX12_readText_145 : decode cX12_readText 145 = .ok (.iadd, 1) := by decide +kernel
theorem dX12_readText_146 : decode cX12_readText 146 = .ok (.aload_n 0, 1) := by decide +kernel
theorem dX12_readText_147 : decode cX12_readText 147 = .ok (.getfield 48, 3) := by decide +kernel
theorem dX12_readText_150 : decode cX12_readText 150 = .ok (.sipush 130, 3) := by decide +kernel
theorem dX12_readText_153 : decode cX12_readText 153 = .ok (.iload_n 2, 1) := by decide +kernel
theorem dX12_readText_154 : decode cX12_readText 154 = .ok (.iadd, 1) := by decide +kernel
theorem dX12_readText_155 : decode cX12_readText 155 = .ok (.iaload, 1) := by decide +kernel
theorem dX12_readText_156 : decode cX12_readText 156 = .ok (.iastore, 1) := by decide +kernel
theorem dX12_readText_157 : decode cX12_readText 157 = .ok (.iinc 2 1, 3) := by decide +kernel
theorem dX12_readText_160 : decode cX12_readText 160 = .ok (.goto (-55), 3) := by decide +kernel
theorem dX12_readText_163 : decode cX12_readText 163 = .ok (.aload_n 0, 1) := by decide +kernel
theorem dX12_readText_164 : decode cX12_readText 164 = .ok (.getfield 51, 3) := by decide +kernel
theorem dX12_readText_167 : decode cX12_readText 167 = .ok (.iload_n 1, 1) := by decide +kernel
theorem dX12_readText_168 : decode cX12_readText 168 = .ok (.aload_n 0, 1) := by decide +kernel
theorem dX12_readText_169 : decode cX12_readText 169 = .ok (.getfield 51, 3) := by decide +kernel
theorem dX12_readText_172 : decode cX12_readText 172 = .ok (.iconst 1, 1) := by decide +kernel
theorem dX12_readText_173 : decode cX12_readText 173 = .ok (.iaload, 1) := by decide +kernel
theorem dX12_readText_174 : decode cX12_readText 174 = .ok (.iastore, 1) := by decide +kernel
theorem dX12_readText_175 : decode cX12_readText 175 = .ok (.iconst 0, 1) := by decide +kernel
theorem dX12_readText_176 : decode cX12_readText 176 = .ok (.istore_n 2, 1) := by decide +kernel
theorem dX12_readText_177 : decode cX12_readText 177 = .ok (.iload_n 2, 1) := by decide +kernel
theorem dX12_readText_178 : decode cX12_readText 178 = .ok (.aload_n 0, 1) := by decide +kernel
theorem dX12_readText_179 : decode cX12_readText 179 = .ok (.getfield 51, 3) := by decide +kernel
theorem dX12_readText_182 : decode cX12_readText 182 = .ok (.iload_n 1, 1) := by decide +kernel
theorem dX12_readText_183 : decode cX12_readText 183 = .ok (.iaload, 1) := by decide +kernel
theorem dX12_readText_184 : decode cX12_readText 184 = .ok (.if_icmp .ge 49, 3) := by decide +kernel
theorem dX12_readText_187 : decode cX12_readText 187 = .ok (.aload_n 0, 1) := by decide +kernel
theorem dX12_readText_188 : decode cX12_readText 188 = .ok (.getfield 54, 3) := by decide +kernel
theorem dX12_readText_191 : decode cX12_readText 191 = .ok (.bipush 61, 2) := by decide +kernel
theorem dX12_readText_193 : decode cX12_readText 193 = .ok (.iload_n 1, 1) := by decide +kernel
theorem dX12_readText_194 : decode cX12_readText 194 = .ok (.imul, 1) := by decide +kernel
theorem dX12_readText_195 : decode cX12_readText 195 = .ok (.iload_n 2, 1) := by decide +kernel
theorem dX12_readText_196 : decode cX12_readText 196 = .ok (.iadd, 1) := by decide +kernel
theorem dX12_readText_197 : decode cX12_readText 197 = .ok (.aload_n 0, 1) := by decide +kernel
theorem dX12_readText_198 : decode cX12_readText 198 = .ok (.getfield 54, 3) := by decide +kernel
theorem dX12_readText_201 : decode cX12_readText 201 = .ok (.bipush 61, 2) := by decide +kernel
theorem dX12_readText_203 : decode cX12_readText 203 = .ok (.iload_n 2, 1) := by decide +kernel
theorem dX12_readText_204 : decode cX12_readText 204 = .ok (.iadd, 1) := by decide +kernel
theorem dX12_readText_205 : decode cX12_readText 205 = .ok (.saload, 1) := by decide +kernel
theorem dX12_readText_206 : decode cX12_readText 206 = .ok (.sastore, 1) := by decide +kernel
theorem dX12_readText_207 : decode cX12_readText 207 = .ok (.aload_n 0, 1) := by decide +kernel
theorem dX12_readText_208 : decode cX12_readText 208 = .ok (.getfield 58, 3) := by decide +kernel
theorem dX12_readText_211 : decode cX12_readText 211 = .ok (.bipush 61, 2) := by decide +kernel
theorem dX12_readText_213 : decode cX12_readText 213 = .ok (.iload_n 1, 1) := by decide +kernel
theorem dX12_readText_214 : decode cX12_readText 214 = .ok (.imul, 1) := by decide +kernel
theorem dX12_readText_215 : decode cX12_readText 215 = .ok (.iload_n 2, 1) := by decide +kernel
theorem dX12_readText_216 : decode cX12_readText 216 = .ok (.iadd, 1) := by decide +kernel
theorem dX12_readText_217 : decode cX12_readText 217 = .ok (.aload_n 0, 1) := by decide +kernel
theorem dX12_readText_218 : decode cX12_readText 218 = .ok (.getfield 58, 3) := by decide +kernel
theorem dX12_readText_221 : decode cX12_readText 221 = .ok (.bipush 61, 2) := by decide +kernel
theorem dX12_readText_223 : decode cX12_readText 223 = .ok (.iload_n 2, 1) := by decide +kernel
theorem dX12_readText_224 : decode cX12_readText 224 = .ok (.iadd, 1) := by decide +kernel
theorem dX12_readText_225 : decode cX12_readText 225 = .ok (.saload, 1) := by decide +kernel
theorem dX12_readText_226 : decode cX12_readText 226 = .ok (.sastore, 1) := by decide +kernel
theorem dX12_readText_227 : decode cX12_readText 227 = .ok (.iinc 2 1, 3) := by decide +kernel
theorem dX12_readText_230 : decode cX12_readText 230 = .ok (.goto (-53), 3) := by decide +kernel
theorem dX12_readText_233 : decode cX12_readText 233 = .ok (.iconst (-1), 1) := by decide +kernel
theorem dX12_readText_234 : decode cX12_readText 234 = .ok (.ireturn, 1) := by decide +kernel
theorem dX12_twoOf_0 : decode cX12_twoOf 0 = .ok (.iload_n 0, 1) := by decide +kernel
theorem dX12_twoOf_1 : decode cX12_twoOf 1 = .ok (.tableswitch 217 37 62 #[153, 203, 217, 217, 217, 127, 119, 217, 123, 217, 131, 217, 217, 217, 217, 217, 217, 217, 217, 217, 217, 217, 217, 170, 181, 192], 119) := by decide +kernel
theorem dX12_twoOf_120 : decode cX12_twoOf 120 = .ok (.iload_n 1, 1) := by decide +kernel
theorem dX12_twoOf_121 : decode cX12_twoOf 121 = .ok (.iload_n 2, 1) := by decide +kernel
theorem dX12_twoOf_122 : decode cX12_twoOf 122 = .ok (.iadd, 1) := by decide +kernel
theorem dX12_twoOf_123 : decode cX12_twoOf 123 = .ok (.ireturn, 1) := by decide +kernel
theorem dX12_twoOf_124 : decode cX12_twoOf 124 = .ok (.iload_n 1, 1) := by decide +kernel
theorem dX12_twoOf_125 : decode cX12_twoOf 125 = .ok (.iload_n 2, 1) := by decide +kernel
theorem dX12_twoOf_126 : decode cX12_twoOf 126 = .ok (.isub, 1) := by decide +kernel
theorem dX12_twoOf_127 : decode cX12_twoOf 127 = .ok (.ireturn, 1) := by decide +kernel
theorem dX12_twoOf_128 : decode cX12_twoOf 128 = .ok (.iload_n 1, 1) := by decide +kernel
theorem dX12_twoOf_129 : decode cX12_twoOf 129 = .ok (.iload_n 2, 1) := by decide +kernel
theorem dX12_twoOf_130 : decode cX12_twoOf 130 = .ok (.imul, 1) := by decide +kernel
theorem dX12_twoOf_131 : decode cX12_twoOf 131 = .ok (.ireturn, 1) := by decide +kernel
theorem dX12_twoOf_132 : decode cX12_twoOf 132 = .ok (.iload_n 2, 1) := by decide +kernel
theorem dX12_twoOf_133 : decode cX12_twoOf 133 = .ok (.ifCond .ne 7, 3) := by decide +kernel
theorem dX12_twoOf_136 : decode cX12_twoOf 136 = .ok (.iconst 0, 1) := by decide +kernel
theorem dX12_twoOf_137 : decode cX12_twoOf 137 = .ok (.goto 16, 3) := by decide +kernel
theorem dX12_twoOf_140 : decode cX12_twoOf 140 = .ok (.iload_n 2, 1) := by decide +kernel
theorem dX12_twoOf_141 : decode cX12_twoOf 141 = .ok (.iconst (-1), 1) := by decide +kernel
theorem dX12_twoOf_142 : decode cX12_twoOf 142 = .ok (.if_icmp .ne 8, 3) := by decide +kernel
theorem dX12_twoOf_145 : decode cX12_twoOf 145 = .ok (.iload_n 1, 1) := by decide +kernel
theorem dX12_twoOf_146 : decode cX12_twoOf 146 = .ok (.ineg, 1) := by decide +kernel
theorem dX12_twoOf_147 : decode cX12_twoOf 147 = .ok (.goto 6, 3) := by decide +kernel
theorem dX12_twoOf_150 : decode cX12_twoOf 150 = .ok (.iload_n 1, 1) := by decide +kernel
theorem dX12_twoOf_151 : decode cX12_twoOf 151 = .ok (.iload_n 2, 1) := by decide +kernel
theorem dX12_twoOf_152 : decode cX12_twoOf 152 = .ok (.idiv, 1) := by decide +kernel
theorem dX12_twoOf_153 : decode cX12_twoOf 153 = .ok (.ireturn, 1) := by decide +kernel
theorem dX12_twoOf_154 : decode cX12_twoOf 154 = .ok (.iload_n 2, 1) := by decide +kernel
theorem dX12_twoOf_155 : decode cX12_twoOf 155 = .ok (.ifCond .eq 8, 3) := by decide +kernel
theorem dX12_twoOf_158 : decode cX12_twoOf 158 = .ok (.iload_n 2, 1) := by decide +kernel
theorem dX12_twoOf_159 : decode cX12_twoOf 159 = .ok (.iconst (-1), 1) := by decide +kernel
theorem dX12_twoOf_160 : decode cX12_twoOf 160 = .ok (.if_icmp .ne 7, 3) := by decide +kernel
theorem dX12_twoOf_163 : decode cX12_twoOf 163 = .ok (.iconst 0, 1) := by decide +kernel
theorem dX12_twoOf_164 : decode cX12_twoOf 164 = .ok (.goto 6, 3) := by decide +kernel
theorem dX12_twoOf_167 : decode cX12_twoOf 167 = .ok (.iload_n 1, 1) := by decide +kernel
theorem dX12_twoOf_168 : decode cX12_twoOf 168 = .ok (.iload_n 2, 1) := by decide +kernel
theorem dX12_twoOf_169 : decode cX12_twoOf 169 = .ok (.irem, 1) := by decide +kernel
theorem dX12_twoOf_170 : decode cX12_twoOf 170 = .ok (.ireturn, 1) := by decide +kernel
theorem dX12_twoOf_171 : decode cX12_twoOf 171 = .ok (.iload_n 1, 1) := by decide +kernel
theorem dX12_twoOf_172 : decode cX12_twoOf 172 = .ok (.iload_n 2, 1) := by decide +kernel
theorem dX12_twoOf_173 : decode cX12_twoOf 173 = .ok (.if_icmp .ge 7, 3) := by decide +kernel
theorem dX12_twoOf_176 : decode cX12_twoOf 176 = .ok (.iconst 1, 1) := by decide +kernel
theorem dX12_twoOf_177 : decode cX12_twoOf 177 = .ok (.goto 4, 3) := by decide +kernel
theorem dX12_twoOf_180 : decode cX12_twoOf 180 = .ok (.iconst 0, 1) := by decide +kernel
theorem dX12_twoOf_181 : decode cX12_twoOf 181 = .ok (.ireturn, 1) := by decide +kernel
theorem dX12_twoOf_182 : decode cX12_twoOf 182 = .ok (.iload_n 1, 1) := by decide +kernel
theorem dX12_twoOf_183 : decode cX12_twoOf 183 = .ok (.iload_n 2, 1) := by decide +kernel
theorem dX12_twoOf_184 : decode cX12_twoOf 184 = .ok (.if_icmp .ne 7, 3) := by decide +kernel
theorem dX12_twoOf_187 : decode cX12_twoOf 187 = .ok (.iconst 1, 1) := by decide +kernel
theorem dX12_twoOf_188 : decode cX12_twoOf 188 = .ok (.goto 4, 3) := by decide +kernel
theorem dX12_twoOf_191 : decode cX12_twoOf 191 = .ok (.iconst 0, 1) := by decide +kernel
theorem dX12_twoOf_192 : decode cX12_twoOf 192 = .ok (.ireturn, 1) := by decide +kernel
theorem dX12_twoOf_193 : decode cX12_twoOf 193 = .ok (.iload_n 1, 1) := by decide +kernel
theorem dX12_twoOf_194 : decode cX12_twoOf 194 = .ok (.iload_n 2, 1) := by decide +kernel
theorem dX12_twoOf_195 : decode cX12_twoOf 195 = .ok (.if_icmp .le 7, 3) := by decide +kernel
theorem dX12_twoOf_198 : decode cX12_twoOf 198 = .ok (.iconst 1, 1) := by decide +kernel
theorem dX12_twoOf_199 : decode cX12_twoOf 199 = .ok (.goto 4, 3) := by decide +kernel
theorem dX12_twoOf_202 : decode cX12_twoOf 202 = .ok (.iconst 0, 1) := by decide +kernel
theorem dX12_twoOf_203 : decode cX12_twoOf 203 = .ok (.ireturn, 1) := by decide +kernel
theorem dX12_twoOf_204 : decode cX12_twoOf 204 = .ok (.iload_n 1, 1) := by decide +kernel
theorem dX12_twoOf_205 : decode cX12_twoOf 205 = .ok (.ifCond .eq 11, 3) := by decide +kernel
theorem dX12_twoOf_208 : decode cX12_twoOf 208 = .ok (.iload_n 2, 1) := by decide +kernel
theorem dX12_twoOf_209 : decode cX12_twoOf 209 = .ok (.ifCond .eq 7, 3) := by decide +kernel
theorem dX12_twoOf_212 : decode cX12_twoOf 212 = .ok (.iconst 1, 1) := by decide +kernel
theorem dX12_twoOf_213 : decode cX12_twoOf 213 = .ok (.goto 4, 3) := by decide +kernel
theorem dX12_twoOf_216 : decode cX12_twoOf 216 = .ok (.iconst 0, 1) := by decide +kernel
theorem dX12_twoOf_217 : decode cX12_twoOf 217 = .ok (.ireturn, 1) := by decide +kernel
theorem dX12_twoOf_218 : decode cX12_twoOf 218 = .ok (.iload_n 1, 1) := by decide +kernel
theorem dX12_twoOf_219 : decode cX12_twoOf 219 = .ok (.ifCond .ne 7, 3) := by decide +kernel
theorem dX12_twoOf_222 : decode cX12_twoOf 222 = .ok (.iload_n 2, 1) := by decide +kernel
theorem dX12_twoOf_223 : decode cX12_twoOf 223 = .ok (.ifCond .eq 7, 3) := by decide +kernel
theorem dX12_twoOf_226 : decode cX12_twoOf 226 = .ok (.iconst 1, 1) := by decide +kernel
theorem dX12_twoOf_227 : decode cX12_twoOf 227 = .ok (.goto 4, 3) := by decide +kernel
theorem dX12_twoOf_230 : decode cX12_twoOf 230 = .ok (.iconst 0, 1) := by decide +kernel
theorem dX12_twoOf_231 : decode cX12_twoOf 231 = .ok (.ireturn, 1) := by decide +kernel
theorem dX12_worked_0 : decode cX12_worked 0 = .ok (.iconst 0, 1) := by decide +kernel
theorem dX12_worked_1 : decode cX12_worked 1 = .ok (.istore 4, 2) := by decide +kernel
theorem dX12_worked_3 : decode cX12_worked 3 = .ok (.sipush 130, 3) := by decide +kernel
theorem dX12_worked_6 : decode cX12_worked 6 = .ok (.iload_n 1, 1) := by decide +kernel
theorem dX12_worked_7 : decode cX12_worked 7 = .ok (.imul, 1) := by decide +kernel
theorem dX12_worked_8 : decode cX12_worked 8 = .ok (.iload_n 2, 1) := by decide +kernel
theorem dX12_worked_9 : decode cX12_worked 9 = .ok (.iadd, 1) := by decide +kernel
theorem dX12_worked_10 : decode cX12_worked 10 = .ok (.istore 5, 2) := by decide +kernel
theorem dX12_worked_12 : decode cX12_worked 12 = .ok (.iload 5, 2) := by decide +kernel
theorem dX12_worked_14 : decode cX12_worked 14 = .ok (.sipush 130, 3) := by decide +kernel
theorem dX12_worked_17 : decode cX12_worked 17 = .ok (.iload_n 1, 1) := by decide +kernel
theorem dX12_worked_18 : decode cX12_worked 18 = .ok (.imul, 1) := by decide +kernel
theorem dX12_worked_19 : decode cX12_worked 19 = .ok (.iload_n 3, 1) := by decide +kernel
theorem dX12_worked_20 : decode cX12_worked 20 = .ok (.iadd, 1) := by decide +kernel
theorem dX12_worked_21 : decode cX12_worked 21 = .ok (.if_icmp .ge 167, 3) := by decide +kernel
theorem dX12_worked_24 : decode cX12_worked 24 = .ok (.aload_n 0, 1) := by decide +kernel
theorem dX12_worked_25 : decode cX12_worked 25 = .ok (.getfield 45, 3) := by decide +kernel
theorem dX12_worked_28 : decode cX12_worked 28 = .ok (.iload 5, 2) := by decide +kernel
theorem dX12_worked_30 : decode cX12_worked 30 = .ok (.baload, 1) := by decide +kernel
theorem dX12_worked_31 : decode cX12_worked 31 = .ok (.istore 6, 2) := by decide +kernel
theorem dX12_worked_33 : decode cX12_worked 33 = .ok (.iload 6, 2) := by decide +kernel
theorem dX12_worked_35 : decode cX12_worked 35 = .ok (.iconst 1, 1) := by decide +kernel
theorem dX12_worked_36 : decode cX12_worked 36 = .ok (.if_icmp .eq 9, 3) := by decide +kernel
theorem dX12_worked_39 : decode cX12_worked 39 = .ok (.iload 6, 2) := by decide +kernel
theorem dX12_worked_41 : decode cX12_worked 41 = .ok (.iconst 2, 1) := by decide +kernel
theorem dX12_worked_42 : decode cX12_worked 42 = .ok (.if_icmp .ne 44, 3) := by decide +kernel
theorem dX12_worked_45 : decode cX12_worked 45 = .ok (.aload_n 0, 1) := by decide +kernel
theorem dX12_worked_46 : decode cX12_worked 46 = .ok (.getfield 64, 3) := by decide +kernel
theorem dX12_worked_49 : decode cX12_worked 49 = .ok (.iload 4, 2) := by decide +kernel
theorem dX12_worked_51 : decode cX12_worked 51 = .ok (.iload 6, 2) := by decide +kernel
theorem dX12_worked_53 : decode cX12_worked 53 = .ok (.iconst 1, 1) := by decide +kernel
theorem dX12_worked_54 : decode cX12_worked 54 = .ok (.if_icmp .ne 13, 3) := by decide +kernel
theorem dX12_worked_57 : decode cX12_worked 57 = .ok (.aload_n 0, 1) := by decide +kernel
theorem dX12_worked_58 : decode cX12_worked 58 = .ok (.getfield 48, 3) := by decide +kernel
theorem dX12_worked_61 : decode cX12_worked 61 = .ok (.iload 5, 2) := by decide +kernel
theorem dX12_worked_63 : decode cX12_worked 63 = .ok (.iaload, 1) := by decide +kernel
theorem dX12_worked_64 : decode cX12_worked 64 = .ok (.goto 15, 3) := by decide +kernel
theorem dX12_worked_67 : decode cX12_worked 67 = .ok (.aload_n 0, 1) := by decide +kernel
theorem dX12_worked_68 : decode cX12_worked 68 = .ok (.getfield 61, 3) := by decide +kernel
theorem dX12_worked_71 : decode cX12_worked 71 = .ok (.aload_n 0, 1) := by decide +kernel
theorem dX12_worked_72 : decode cX12_worked 72 = .ok (.getfield 48, 3) := by decide +kernel
theorem dX12_worked_75 : decode cX12_worked 75 = .ok (.iload 5, 2) := by decide +kernel
theorem dX12_worked_77 : decode cX12_worked 77 = .ok (.iaload, 1) := by decide +kernel
theorem dX12_worked_78 : decode cX12_worked 78 = .ok (.iaload, 1) := by decide +kernel
theorem dX12_worked_79 : decode cX12_worked 79 = .ok (.iastore, 1) := by decide +kernel
theorem dX12_worked_80 : decode cX12_worked 80 = .ok (.iinc 4 1, 3) := by decide +kernel
theorem dX12_worked_83 : decode cX12_worked 83 = .ok (.goto 99, 3) := by decide +kernel
theorem dX12_worked_86 : decode cX12_worked 86 = .ok (.iload 6, 2) := by decide +kernel
theorem dX12_worked_88 : decode cX12_worked 88 = .ok (.iconst 3, 1) := by decide +kernel
theorem dX12_worked_89 : decode cX12_worked 89 = .ok (.if_icmp .ne 32, 3) := by decide +kernel
theorem dX12_worked_92 : decode cX12_worked 92 = .ok (.aload_n 0, 1) := by decide +kernel
theorem dX12_worked_93 : decode cX12_worked 93 = .ok (.getfield 64, 3) := by decide +kernel
theorem dX12_worked_96 : decode cX12_worked 96 = .ok (.iload 4, 2) := by decide +kernel
theorem dX12_worked_98 : decode cX12_worked 98 = .ok (.iconst 1, 1) := by decide +kernel
theorem dX12_worked_99 : decode cX12_worked 99 = .ok (.isub, 1) := by decide +kernel
theorem dX12_worked_100 : decode cX12_worked 100 = .ok (.aload_n 0, 1) := by decide +kernel
theorem dX12_worked_101 : decode cX12_worked 101 = .ok (.getfield 64, 3) := by decide +kernel
theorem dX12_worked_104 : decode cX12_worked 104 = .ok (.iload 4, 2) := by decide +kernel
theorem dX12_worked_106 : decode cX12_worked 106 = .ok (.iconst 1, 1) := by decide +kernel
theorem dX12_worked_107 : decode cX12_worked 107 = .ok (.isub, 1) := by decide +kernel
theorem dX12_worked_108 : decode cX12_worked 108 = .ok (.iaload, 1) := by decide +kernel
theorem dX12_worked_109 : decode cX12_worked 109 = .ok (.ifCond .ne 7, 3) := by decide +kernel
theorem dX12_worked_112 : decode cX12_worked 112 = .ok (.iconst 1, 1) := by decide +kernel
theorem dX12_worked_113 : decode cX12_worked 113 = .ok (.goto 4, 3) := by decide +kernel
theorem dX12_worked_116 : decode cX12_worked 116 = .ok (.iconst 0, 1) := by decide +kernel
theorem dX12_worked_117 : decode cX12_worked 117 = .ok (.iastore, 1) := by decide +kernel
theorem dX12_worked_118 : decode cX12_worked 118 = .ok (.goto 64, 3) := by decide +kernel
theorem dX12_worked_121 : decode cX12_worked 121 = .ok (.iload 6, 2) := by decide +kernel
theorem dX12_worked_123 : decode cX12_worked 123 = .ok (.iconst 4, 1) := by decide +kernel
theorem dX12_worked_124 : decode cX12_worked 124 = .ok (.if_icmp .ne 25, 3) := by decide +kernel
theorem dX12_worked_127 : decode cX12_worked 127 = .ok (.aload_n 0, 1) := by decide +kernel
theorem dX12_worked_128 : decode cX12_worked 128 = .ok (.getfield 64, 3) := by decide +kernel
theorem dX12_worked_131 : decode cX12_worked 131 = .ok (.iload 4, 2) := by decide +kernel
theorem dX12_worked_133 : decode cX12_worked 133 = .ok (.iconst 1, 1) := by decide +kernel
theorem dX12_worked_134 : decode cX12_worked 134 = .ok (.isub, 1) := by decide +kernel
theorem dX12_worked_135 : decode cX12_worked 135 = .ok (.aload_n 0, 1) := by decide +kernel
theorem dX12_worked_136 : decode cX12_worked 136 = .ok (.getfield 64, 3) := by decide +kernel
theorem dX12_worked_139 : decode cX12_worked 139 = .ok (.iload 4, 2) := by decide +kernel
theorem dX12_worked_141 : decode cX12_worked 141 = .ok (.iconst 1, 1) := by decide +kernel
theorem dX12_worked_142 : decode cX12_worked 142 = .ok (.isub, 1) := by decide +kernel
theorem dX12_worked_143 : decode cX12_worked 143 = .ok (.iaload, 1) := by decide +kernel
theorem dX12_worked_144 : decode cX12_worked 144 = .ok (.ineg, 1) := by decide +kernel
theorem dX12_worked_145 : decode cX12_worked 145 = .ok (.iastore, 1) := by decide +kernel
theorem dX12_worked_146 : decode cX12_worked 146 = .ok (.goto 36, 3) := by decide +kernel
theorem dX12_worked_149 : decode cX12_worked 149 = .ok (.iinc 4 (-1), 3) := by decide +kernel
theorem dX12_worked_152 : decode cX12_worked 152 = .ok (.aload_n 0, 1) := by decide +kernel
theorem dX12_worked_153 : decode cX12_worked 153 = .ok (.getfield 64, 3) := by decide +kernel
theorem dX12_worked_156 : decode cX12_worked 156 = .ok (.iload 4, 2) := by decide +kernel
theorem dX12_worked_158 : decode cX12_worked 158 = .ok (.iconst 1, 1) := by decide +kernel
theorem dX12_worked_159 : decode cX12_worked 159 = .ok (.isub, 1) := by decide +kernel
theorem dX12_worked_160 : decode cX12_worked 160 = .ok (.iload 6, 2) := by decide +kernel
theorem dX12_worked_162 : decode cX12_worked 162 = .ok (.aload_n 0, 1) := by decide +kernel
theorem dX12_worked_163 : decode cX12_worked 163 = .ok (.getfield 64, 3) := by decide +kernel
theorem dX12_worked_166 : decode cX12_worked 166 = .ok (.iload 4, 2) := by decide +kernel
theorem dX12_worked_168 : decode cX12_worked 168 = .ok (.iconst 1, 1) := by decide +kernel
theorem dX12_worked_169 : decode cX12_worked 169 = .ok (.isub, 1) := by decide +kernel
theorem dX12_worked_170 : decode cX12_worked 170 = .ok (.iaload, 1) := by decide +kernel
theorem dX12_worked_171 : decode cX12_worked 171 = .ok (.aload_n 0, 1) := by decide +kernel
theorem dX12_worked_172 : decode cX12_worked 172 = .ok (.getfield 64, 3) := by decide +kernel
theorem dX12_worked_175 : decode cX12_worked 175 = .ok (.iload 4, 2) := by decide +kernel
theorem dX12_worked_177 : decode cX12_worked 177 = .ok (.iaload, 1) := by decide +kernel
theorem dX12_worked_178 : decode cX12_worked 178 = .ok (.invokestatic 227, 3) := by decide +kernel
theorem dX12_worked_181 : decode cX12_worked 181 = .ok (.iastore, 1) := by decide +kernel
theorem dX12_worked_182 : decode cX12_worked 182 = .ok (.iinc 5 1, 3) := by decide +kernel
theorem dX12_worked_185 : decode cX12_worked 185 = .ok (.goto (-173), 3) := by decide +kernel
theorem dX12_worked_188 : decode cX12_worked 188 = .ok (.aload_n 0, 1) := by decide +kernel
theorem dX12_worked_189 : decode cX12_worked 189 = .ok (.getfield 64, 3) := by decide +kernel
theorem dX12_worked_192 : decode cX12_worked 192 = .ok (.iconst 0, 1) := by decide +kernel
theorem dX12_worked_193 : decode cX12_worked 193 = .ok (.iaload, 1) := by decide +kernel
theorem dX12_worked_194 : decode cX12_worked 194 = .ok (.ireturn, 1) := by decide +kernel
theorem dX12_gives_0 : decode cX12_gives 0 = .ok (.iconst 0, 1) := by decide +kernel
theorem dX12_gives_1 : decode cX12_gives 1 = .ok (.istore_n 2, 1) := by decide +kernel
theorem dX12_gives_2 : decode cX12_gives 2 = .ok (.bipush 61, 2) := by decide +kernel
theorem dX12_gives_4 : decode cX12_gives 4 = .ok (.iload_n 1, 1) := by decide +kernel
theorem dX12_gives_5 : decode cX12_gives 5 = .ok (.imul, 1) := by decide +kernel
theorem dX12_gives_6 : decode cX12_gives 6 = .ok (.istore_n 3, 1) := by decide +kernel
theorem dX12_gives_7 : decode cX12_gives 7 = .ok (.iload_n 3, 1) := by decide +kernel
theorem dX12_gives_8 : decode cX12_gives 8 = .ok (.bipush 61, 2) := by decide +kernel
theorem dX12_gives_10 : decode cX12_gives 10 = .ok (.iload_n 1, 1) := by decide +kernel
theorem dX12_gives_11 : decode cX12_gives 11 = .ok (.imul, 1) := by decide +kernel
theorem dX12_gives_12 : decode cX12_gives 12 = .ok (.aload_n 0, 1) := by decide +kernel
theorem dX12_gives_13 : decode cX12_gives 13 = .ok (.getfield 51, 3) := by decide +kernel
theorem dX12_gives_16 : decode cX12_gives 16 = .ok (.iload_n 1, 1) := by decide +kernel
theorem dX12_gives_17 : decode cX12_gives 17 = .ok (.iaload, 1) := by decide +kernel
theorem dX12_gives_18 : decode cX12_gives 18 = .ok (.iadd, 1) := by decide +kernel
theorem dX12_gives_19 : decode cX12_gives 19 = .ok (.if_icmp .ge 59, 3) := by decide +kernel
theorem dX12_gives_22 : decode cX12_gives 22 = .ok (.aload_n 0, 1) := by decide +kernel
theorem dX12_gives_23 : decode cX12_gives 23 = .ok (.getfield 54, 3) := by decide +kernel
theorem dX12_gives_26 : decode cX12_gives 26 = .ok (.iload_n 3, 1) := by decide +kernel
theorem dX12_gives_27 : decode cX12_gives 27 = .ok (.saload, 1) := by decide +kernel
theorem dX12_gives_28 : decode cX12_gives 28 = .ok (.iload_n 2, 1) := by decide +kernel
theorem dX12_gives_29 : decode cX12_gives 29 = .ok (.if_icmp .eq 18, 3) := by decide +kernel
theorem dX12_gives_32 : decode cX12_gives 32 = .ok (.aload_n 0, 1) := by decide +kernel
theorem dX12_gives_33 : decode cX12_gives 33 = .ok (.iload_n 1, 1) := by decide +kernel
theorem dX12_gives_34 : decode cX12_gives 34 = .ok (.iload_n 2, 1) := by decide +kernel
theorem dX12_gives_35 : decode cX12_gives 35 = .ok (.aload_n 0, 1) := by decide +kernel
theorem dX12_gives_36 : decode cX12_gives 36 = .ok (.getfield 54, 3) := by decide +kernel
theorem dX12_gives_39 : decode cX12_gives 39 = .ok (.iload_n 3, 1) := by decide +kernel
theorem dX12_gives_40 : decode cX12_gives 40 = .ok (.saload, 1) := by decide +kernel
theorem dX12_gives_41 : decode cX12_gives 41 = .ok (.invokevirtual 230, 3) := by decide +kernel
theorem dX12_gives_44 : decode cX12_gives 44 = .ok (.ifCond .eq 21, 3) := by decide +kernel
theorem dX12_gives_47 : decode cX12_gives 47 = .ok (.aload_n 0, 1) := by decide +kernel
theorem dX12_gives_48 : decode cX12_gives 48 = .ok (.iload_n 1, 1) := by decide +kernel
theorem dX12_gives_49 : decode cX12_gives 49 = .ok (.aload_n 0, 1) := by decide +kernel
theorem dX12_gives_50 : decode cX12_gives 50 = .ok (.getfield 54, 3) := by decide +kernel
theorem dX12_gives_53 : decode cX12_gives 53 = .ok (.iload_n 3, 1) := by decide +kernel
theorem dX12_gives_54 : decode cX12_gives 54 = .ok (.saload, 1) := by decide +kernel
theorem dX12_gives_55 : decode cX12_gives 55 = .ok (.aload_n 0, 1) := by decide +kernel
theorem dX12_gives_56 : decode cX12_gives 56 = .ok (.getfield 58, 3) := by decide +kernel
theorem dX12_gives_59 : decode cX12_gives 59 = .ok (.iload_n 3, 1) := by decide +kernel
theorem dX12_gives_60 : decode cX12_gives 60 = .ok (.saload, 1) := by decide +kernel
theorem dX12_gives_61 : decode cX12_gives 61 = .ok (.invokevirtual 230, 3) := by decide +kernel
theorem dX12_gives_64 : decode cX12_gives 64 = .ok (.ireturn, 1) := by decide +kernel
theorem dX12_gives_65 : decode cX12_gives 65 = .ok (.aload_n 0, 1) := by decide +kernel
theorem dX12_gives_66 : decode cX12_gives 66 = .ok (.getfield 58, 3) := by decide +kernel
theorem dX12_gives_69 : decode cX12_gives 69 = .ok (.iload_n 3, 1) := by decide +kernel
theorem dX12_gives_70 : decode cX12_gives 70 = .ok (.saload, 1) := by decide +kernel
theorem dX12_gives_71 : decode cX12_gives 71 = .ok (.istore_n 2, 1) := by decide +kernel
theorem dX12_gives_72 : decode cX12_gives 72 = .ok (.iinc 3 1, 3) := by decide +kernel
theorem dX12_gives_75 : decode cX12_gives 75 = .ok (.goto (-68), 3) := by decide +kernel
theorem dX12_gives_78 : decode cX12_gives 78 = .ok (.iconst 0, 1) := by decide +kernel
theorem dX12_gives_79 : decode cX12_gives 79 = .ok (.ireturn, 1) := by decide +kernel
theorem dX12_law_0 : decode cX12_law 0 = .ok (.aload_n 0, 1) := by decide +kernel
theorem dX12_law_1 : decode cX12_law 1 = .ok (.iconst 0, 1) := by decide +kernel
theorem dX12_law_2 : decode cX12_law 2 = .ok (.invokevirtual 233, 3) := by decide +kernel
theorem dX12_law_5 : decode cX12_law 5 = .ok (.istore_n 1, 1) := by decide +kernel
theorem dX12_law_6 : decode cX12_law 6 = .ok (.iload_n 1, 1) := by decide +kernel
theorem dX12_law_7 : decode cX12_law 7 = .ok (.ifCond .lt 8, 3) := by decide +kernel
theorem dX12_law_10 : decode cX12_law 10 = .ok (.bipush (-100), 2) := by decide +kernel
theorem dX12_law_12 : decode cX12_law 12 = .ok (.iload_n 1, 1) := by decide +kernel
theorem dX12_law_13 : decode cX12_law 13 = .ok (.isub, 1) := by decide +kernel
theorem dX12_law_14 : decode cX12_law 14 = .ok (.ireturn, 1) := by decide +kernel
theorem dX12_law_15 : decode cX12_law 15 = .ok (.aload_n 0, 1) := by decide +kernel
theorem dX12_law_16 : decode cX12_law 16 = .ok (.iconst 1, 1) := by decide +kernel
theorem dX12_law_17 : decode cX12_law 17 = .ok (.putfield 236, 3) := by decide +kernel
theorem dX12_law_20 : decode cX12_law 20 = .ok (.iconst 1, 1) := by decide +kernel
theorem dX12_law_21 : decode cX12_law 21 = .ok (.ireturn, 1) := by decide +kernel
theorem dX12_layNow_0 : decode cX12_layNow 0 = .ok (.aload_n 0, 1) := by decide +kernel
theorem dX12_layNow_1 : decode cX12_layNow 1 = .ok (.aload_n 0, 1) := by decide +kernel
theorem dX12_layNow_2 : decode cX12_layNow 2 = .ok (.getfield 22, 3) := by decide +kernel
theorem dX12_layNow_5 : decode cX12_layNow 5 = .ok (.iconst 0, 1) := by decide +kernel
theorem dX12_layNow_6 : decode cX12_layNow 6 = .ok (.iaload, 1) := by decide +kernel
theorem dX12_layNow_7 : decode cX12_layNow 7 = .ok (.putfield 240, 3) := by decide +kernel
theorem dX12_layNow_10 : decode cX12_layNow 10 = .ok (.aload_n 0, 1) := by decide +kernel
theorem dX12_layNow_11 : decode cX12_layNow 11 = .ok (.aload_n 0, 1) := by decide +kernel
theorem dX12_layNow_12 : decode cX12_layNow 12 = .ok (.getfield 25, 3) := by decide +kernel
theorem dX12_layNow_15 : decode cX12_layNow 15 = .ok (.putfield 243, 3) := by decide +kernel
theorem dX12_layNow_18 : decode cX12_layNow 18 = .ok (.aload_n 0, 1) := by decide +kernel
theorem dX12_layNow_19 : decode cX12_layNow 19 = .ok (.aload_n 0, 1) := by decide +kernel
theorem dX12_layNow_20 : decode cX12_layNow 20 = .ok (.getfield 22, 3) := by decide +kernel
theorem dX12_layNow_23 : decode cX12_layNow 23 = .ok (.iconst 2, 1) := by decide +kernel
theorem dX12_layNow_24 : decode cX12_layNow 24 = .ok (.iaload, 1) := by decide +kernel
theorem dX12_layNow_25 : decode cX12_layNow 25 = .ok (.putfield 246, 3) := by decide +kernel
theorem dX12_layNow_28 : decode cX12_layNow 28 = .ok (.aload_n 0, 1) := by decide +kernel
theorem dX12_layNow_29 : decode cX12_layNow 29 = .ok (.iload_n 1, 1) := by decide +kernel
theorem dX12_layNow_30 : decode cX12_layNow 30 = .ok (.putfield 249, 3) := by decide +kernel
theorem dX12_layNow_33 : decode cX12_layNow 33 = .ok (.iconst 0, 1) := by decide +kernel
theorem dX12_layNow_34 : decode cX12_layNow 34 = .ok (.istore_n 2, 1) := by decide +kernel
theorem dX12_layNow_35 : decode cX12_layNow 35 = .ok (.iload_n 2, 1) := by decide +kernel
theorem dX12_layNow_36 : decode cX12_layNow 36 = .ok (.aload_n 0, 1) := by decide +kernel
theorem dX12_layNow_37 : decode cX12_layNow 37 = .ok (.getfield 123, 3) := by decide +kernel
theorem dX12_layNow_40 : decode cX12_layNow 40 = .ok (.if_icmp .ge 21, 3) := by decide +kernel
theorem dX12_layNow_43 : decode cX12_layNow 43 = .ok (.aload_n 0, 1) := by decide +kernel
theorem dX12_layNow_44 : decode cX12_layNow 44 = .ok (.getfield 67, 3) := by decide +kernel
theorem dX12_layNow_47 : decode cX12_layNow 47 = .ok (.iload_n 2, 1) := by decide +kernel
theorem dX12_layNow_48 : decode cX12_layNow 48 = .ok (.aload_n 0, 1) := by decide +kernel
theorem dX12_layNow_49 : decode cX12_layNow 49 = .ok (.getfield 16, 3) := by decide +kernel
theorem dX12_layNow_52 : decode cX12_layNow 52 = .ok (.iload_n 2, 1) := by decide +kernel
theorem dX12_layNow_53 : decode cX12_layNow 53 = .ok (.iaload, 1) := by decide +kernel
theorem dX12_layNow_54 : decode cX12_layNow 54 = .ok (.iastore, 1) := by decide +kernel
theorem dX12_layNow_55 : decode cX12_layNow 55 = .ok (.iinc 2 1, 3) := by decide +kernel
theorem dX12_layNow_58 : decode cX12_layNow 58 = .ok (.goto (-23), 3) := by decide +kernel
theorem dX12_layNow_61 : decode cX12_layNow 61 = .ok (.return_, 1) := by decide +kernel
theorem dX12_within_0 : decode cX12_within 0 = .ok (.iconst 0, 1) := by decide +kernel
theorem dX12_within_1 : decode cX12_within 1 = .ok (.istore_n 2, 1) := by decide +kernel
theorem dX12_within_2 : decode cX12_within 2 = .ok (.iconst 0, 1) := by decide +kernel
theorem dX12_within_3 : decode cX12_within 3 = .ok (.istore_n 3, 1) := by decide +kernel
theorem dX12_within_4 : decode cX12_within 4 = .ok (.iload_n 3, 1) := by decide +kernel
theorem dX12_within_5 : decode cX12_within 5 = .ok (.aload_n 0, 1) := by decide +kernel
theorem dX12_within_6 : decode cX12_within 6 = .ok (.getfield 123, 3) := by decide +kernel
theorem dX12_within_9 : decode cX12_within 9 = .ok (.if_icmp .ge 34, 3) := by decide +kernel
theorem dX12_within_12 : decode cX12_within 12 = .ok (.iload_n 1, 1) := by decide +kernel
theorem dX12_within_13 : decode cX12_within 13 = .ok (.aload_n 0, 1) := by decide +kernel
theorem dX12_within_14 : decode cX12_within 14 = .ok (.getfield 7, 3) := by decide +kernel
theorem dX12_within_17 : decode cX12_within 17 = .ok (.iload_n 3, 1) := by decide +kernel
theorem dX12_within_18 : decode cX12_within 18 = .ok (.iaload, 1) := by decide +kernel
theorem dX12_within_19 : decode cX12_within 19 = .ok (.invokestatic 252, 3) := by decide +kernel
theorem dX12_within_22 : decode cX12_within 22 = .ok (.aload_n 0, 1) := by decide +kernel
theorem dX12_within_23 : decode cX12_within 23 = .ok (.getfield 22, 3) := by decide +kernel
theorem dX12_within_26 : decode cX12_within 26 = .ok (.iconst 1, 1) := by decide +kernel
theorem dX12_within_27 : decode cX12_within 27 = .ok (.iaload, 1) := by decide +kernel
theorem dX12_within_28 : decode cX12_within 28 = .ok (.if_icmp .gt 9, 3) := by decide +kernel
theorem dX12_within_31 : decode cX12_within 31 = .ok (.iload_n 2, 1) := by decide +kernel
theorem dX12_within_32 : decode cX12_within 32 = .ok (.iconst 1, 1) := by decide +kernel
theorem dX12_within_33 : decode cX12_within 33 = .ok (.iload_n 3, 1) := by decide +kernel
theorem dX12_within_34 : decode cX12_within 34 = .ok (.ishl, 1) := by decide +kernel
theorem dX12_within_35 : decode cX12_within 35 = .ok (.ior, 1) := by decide +kernel
theorem dX12_within_36 : decode cX12_within 36 = .ok (.istore_n 2, 1) := by decide +kernel
theorem dX12_within_37 : decode cX12_within 37 = .ok (.iinc 3 1, 3) := by decide +kernel
theorem dX12_within_40 : decode cX12_within 40 = .ok (.goto (-36), 3) := by decide +kernel
theorem dX12_within_43 : decode cX12_within 43 = .ok (.iload_n 2, 1) := by decide +kernel
theorem dX12_within_44 : decode cX12_within 44 = .ok (.ireturn, 1) := by decide +kernel
theorem dX12_loudOf_0 : decode cX12_loudOf 0 = .ok (.bipush 10, 2) := by decide +kernel
theorem dX12_loudOf_2 : decode cX12_loudOf 2 = .ok (.aload_n 0, 1) := by decide +kernel
theorem dX12_loudOf_3 : decode cX12_loudOf 3 = .ok (.getfield 249, 3) := by decide +kernel
theorem dX12_loudOf_6 : decode cX12_loudOf 6 = .ok (.iadd, 1) := by decide +kernel
theorem dX12_loudOf_7 : decode cX12_loudOf 7 = .ok (.aload_n 0, 1) := by decide +kernel
theorem dX12_loudOf_8 : decode cX12_loudOf 8 = .ok (.getfield 7, 3) := by decide +kernel
theorem dX12_loudOf_11 : decode cX12_loudOf 11 = .ok (.iload_n 1, 1) := by decide +kernel
theorem dX12_loudOf_12 : decode cX12_loudOf 12 = .ok (.iaload, 1) := by decide +kernel
theorem dX12_loudOf_13 : decode cX12_loudOf 13 = .ok (.aload_n 0, 1) := by decide +kernel
theorem dX12_loudOf_14 : decode cX12_loudOf 14 = .ok (.getfield 240, 3) := by decide +kernel
theorem dX12_loudOf_17 : decode cX12_loudOf 17 = .ok (.invokestatic 252, 3) := by decide +kernel
theorem dX12_loudOf_20 : decode cX12_loudOf 20 = .ok (.isub, 1) := by decide +kernel
theorem dX12_loudOf_21 : decode cX12_loudOf 21 = .ok (.aload_n 0, 1) := by decide +kernel
theorem dX12_loudOf_22 : decode cX12_loudOf 22 = .ok (.getfield 13, 3) := by decide +kernel
theorem dX12_loudOf_25 : decode cX12_loudOf 25 = .ok (.iload_n 1, 1) := by decide +kernel
theorem dX12_loudOf_26 : decode cX12_loudOf 26 = .ok (.iaload, 1) := by decide +kernel
theorem dX12_loudOf_27 : decode cX12_loudOf 27 = .ok (.iconst 2, 1) := by decide +kernel
theorem dX12_loudOf_28 : decode cX12_loudOf 28 = .ok (.idiv, 1) := by decide +kernel
theorem dX12_loudOf_29 : decode cX12_loudOf 29 = .ok (.isub, 1) := by decide +kernel
theorem dX12_loudOf_30 : decode cX12_loudOf 30 = .ok (.istore_n 2, 1) := by decide +kernel
theorem dX12_loudOf_31 : decode cX12_loudOf 31 = .ok (.aload_n 0, 1) := by decide +kernel
theorem dX12_loudOf_32 : decode cX12_loudOf 32 = .ok (.getfield 236, 3) := by decide +kernel
theorem dX12_loudOf_35 : decode cX12_loudOf 35 = .ok (.ifCond .eq 91, 3) := by decide +kernel
theorem dX12_loudOf_38 : decode cX12_loudOf 38 = .ok (.aload_n 0, 1) := by decide +kernel
theorem dX12_loudOf_39 : decode cX12_loudOf 39 = .ok (.getfield 61, 3) := by decide +kernel
theorem dX12_loudOf_42 : decode cX12_loudOf 42 = .ok (.iconst 0, 1) := by decide +kernel
theorem dX12_loudOf_43 : decode cX12_loudOf 43 = .ok (.aload_n 0, 1) := by decide +kernel
theorem dX12_loudOf_44 : decode cX12_loudOf 44 = .ok (.getfield 13, 3) := by decide +kernel
theorem dX12_loudOf_47 : decode cX12_loudOf 47 = .ok (.iload_n 1, 1) := by decide +kernel
theorem dX12_loudOf_48 : decode cX12_loudOf 48 = .ok (.iaload, 1) := by decide +kernel
theorem dX12_loudOf_49 : decode cX12_loudOf 49 = .ok (.iastore, 1) := by decide +kernel
theorem dX12_loudOf_50 : decode cX12_loudOf 50 = .ok (.aload_n 0, 1) := by decide +kernel
theorem dX12_loudOf_51 : decode cX12_loudOf 51 = .ok (.getfield 61, 3) := by decide +kernel
theorem dX12_loudOf_54 : decode cX12_loudOf 54 = .ok (.iconst 1, 1) := by decide +kernel
theorem dX12_loudOf_55 : decode cX12_loudOf 55 = .ok (.aload_n 0, 1) := by decide +kernel
theorem dX12_loudOf_56 : decode cX12_loudOf 56 = .ok (.getfield 67, 3) := by decide +kernel
theorem dX12_loudOf_59 : decode cX12_loudOf 59 = .ok (.iload_n 1, 1) := by decide +kernel
theorem dX12_loudOf_60 : decode cX12_loudOf 60 = .ok (.iaload, 1) := by decide +kernel
theorem dX12_loudOf_61 : decode cX12_loudOf 61 = .ok (.iastore, 1) := by decide +kernel
theorem dX12_loudOf_62 : decode cX12_loudOf 62 = .ok (.aload_n 0, 1) := by decide +kernel
theorem dX12_loudOf_63 : decode cX12_loudOf 63 = .ok (.getfield 61, 3) := by decide +kernel
theorem dX12_loudOf_66 : decode cX12_loudOf 66 = .ok (.iconst 2, 1) := by decide +kernel
theorem dX12_loudOf_67 : decode cX12_loudOf 67 = .ok (.aload_n 0, 1) := by decide +kernel
theorem dX12_loudOf_68 : decode cX12_loudOf 68 = .ok (.getfield 7, 3) := by decide +kernel
theorem dX12_loudOf_71 : decode cX12_loudOf 71 = .ok (.iload_n 1, 1) := by decide +kernel
theorem dX12_loudOf_72 : decode cX12_loudOf 72 = .ok (.iaload, 1) := by decide +kernel
theorem dX12_loudOf_73 : decode cX12_loudOf 73 = .ok (.aload_n 0, 1) := by decide +kernel
theorem dX12_loudOf_74 : decode cX12_loudOf 74 = .ok (.getfield 240, 3) := by decide +kernel
theorem dX12_loudOf_77 : decode cX12_loudOf 77 = .ok (.invokestatic 252, 3) := by decide +kernel
theorem dX12_loudOf_80 : decode cX12_loudOf 80 = .ok (.iastore, 1) := by decide +kernel
theorem dX12_loudOf_81 : decode cX12_loudOf 81 = .ok (.aload_n 0, 1) := by decide +kernel
theorem dX12_loudOf_82 : decode cX12_loudOf 82 = .ok (.getfield 61, 3) := by decide +kernel
theorem dX12_loudOf_85 : decode cX12_loudOf 85 = .ok (.iconst 3, 1) := by decide +kernel
theorem dX12_loudOf_86 : decode cX12_loudOf 86 = .ok (.aload_n 0, 1) := by decide +kernel
theorem dX12_loudOf_87 : decode cX12_loudOf 87 = .ok (.getfield 246, 3) := by decide +kernel
theorem dX12_loudOf_90 : decode cX12_loudOf 90 = .ok (.iastore, 1) := by decide +kernel
theorem dX12_loudOf_91 : decode cX12_loudOf 91 = .ok (.aload_n 0, 1) := by decide +kernel
theorem dX12_loudOf_92 : decode cX12_loudOf 92 = .ok (.getfield 61, 3) := by decide +kernel
theorem dX12_loudOf_95 : decode cX12_loudOf 95 = .ok (.iconst 4, 1) := by decide +kernel
theorem dX12_loudOf_96 : decode cX12_loudOf 96 = .ok (.aload_n 0, 1) := by decide +kernel
theorem dX12_loudOf_97 : decode cX12_loudOf 97 = .ok (.getfield 249, 3) := by decide +kernel
theorem dX12_loudOf_100 : decode cX12_loudOf 100 = .ok (.iastore, 1) := by decide +kernel
theorem dX12_loudOf_101 : decode cX12_loudOf 101 = .ok (.aload_n 0, 1) := by decide +kernel
theorem dX12_loudOf_102 : decode cX12_loudOf 102 = .ok (.getfield 61, 3) := by decide +kernel
theorem dX12_loudOf_105 : decode cX12_loudOf 105 = .ok (.iconst 5, 1) := by decide +kernel
theorem dX12_loudOf_106 : decode cX12_loudOf 106 = .ok (.aload_n 0, 1) := by decide +kernel
theorem dX12_loudOf_107 : decode cX12_loudOf 107 = .ok (.aload_n 0, 1) := by decide +kernel
theorem dX12_loudOf_108 : decode cX12_loudOf 108 = .ok (.getfield 7, 3) := by decide +kernel
theorem dX12_loudOf_111 : decode cX12_loudOf 111 = .ok (.iload_n 1, 1) := by decide +kernel
theorem dX12_loudOf_112 : decode cX12_loudOf 112 = .ok (.iaload, 1) := by decide +kernel
theorem dX12_loudOf_113 : decode cX12_loudOf 113 = .ok (.invokevirtual 255, 3) := by decide +kernel
theorem dX12_loudOf_116 : decode cX12_loudOf 116 = .ok (.invokestatic 258, 3) := by decide +kernel
theorem dX12_loudOf_119 : decode cX12_loudOf 119 = .ok (.iastore, 1) := by decide +kernel
theorem dX12_loudOf_120 : decode cX12_loudOf 120 = .ok (.aload_n 0, 1) := by decide +kernel
theorem dX12_loudOf_121 : decode cX12_loudOf 121 = .ok (.iconst 0, 1) := by decide +kernel
theorem dX12_loudOf_122 : decode cX12_loudOf 122 = .ok (.invokevirtual 261, 3) := by decide +kernel
theorem dX12_loudOf_125 : decode cX12_loudOf 125 = .ok (.istore_n 2, 1) := by decide +kernel
theorem dX12_loudOf_126 : decode cX12_loudOf 126 = .ok (.iload_n 2, 1) := by decide +kernel
theorem dX12_loudOf_127 : decode cX12_loudOf 127 = .ok (.ifCond .ge 7, 3) := by decide +kernel
theorem dX12_loudOf_130 : decode cX12_loudOf 130 = .ok (.iconst 0, 1) := by decide +kernel
theorem dX12_loudOf_131 : decode cX12_loudOf 131 = .ok (.goto 15, 3) := by decide +kernel
theorem dX12_loudOf_134 : decode cX12_loudOf 134 = .ok (.iload_n 2, 1) := by decide +kernel
theorem dX12_loudOf_135 : decode cX12_loudOf 135 = .ok (.bipush 99, 2) := by decide +kernel
theorem dX12_loudOf_137 : decode cX12_loudOf 137 = .ok (.if_icmp .le 8, 3) := by decide +kernel
theorem dX12_loudOf_140 : decode cX12_loudOf 140 = .ok (.bipush 99, 2) := by decide +kernel
theorem dX12_loudOf_142 : decode cX12_loudOf 142 = .ok (.goto 4, 3) := by decide +kernel
theorem dX12_loudOf_145 : decode cX12_loudOf 145 = .ok (.iload_n 2, 1) := by decide +kernel
theorem dX12_loudOf_146 : decode cX12_loudOf 146 = .ok (.ireturn, 1) := by decide +kernel
theorem dX12_nearer_0 : decode cX12_nearer 0 = .ok (.iload_n 0, 1) := by decide +kernel
theorem dX12_nearer_1 : decode cX12_nearer 1 = .ok (.iload_n 1, 1) := by decide +kernel
theorem dX12_nearer_2 : decode cX12_nearer 2 = .ok (.if_icmp .ge 20, 3) := by decide +kernel
theorem dX12_nearer_5 : decode cX12_nearer 5 = .ok (.iload_n 1, 1) := by decide +kernel
theorem dX12_nearer_6 : decode cX12_nearer 6 = .ok (.iload_n 0, 1) := by decide +kernel
theorem dX12_nearer_7 : decode cX12_nearer 7 = .ok (.isub, 1) := by decide +kernel
theorem dX12_nearer_8 : decode cX12_nearer 8 = .ok (.iload_n 2, 1) := by decide +kernel
theorem dX12_nearer_9 : decode cX12_nearer 9 = .ok (.if_icmp .ge 7, 3) := by decide +kernel
theorem dX12_nearer_12 : decode cX12_nearer 12 = .ok (.iload_n 1, 1) := by decide +kernel
theorem dX12_nearer_13 : decode cX12_nearer 13 = .ok (.goto 23, 3) := by decide +kernel
theorem dX12_nearer_16 : decode cX12_nearer 16 = .ok (.iload_n 0, 1) := by decide +kernel
theorem dX12_nearer_17 : decode cX12_nearer 17 = .ok (.iload_n 2, 1) := by decide +kernel
theorem dX12_nearer_18 : decode cX12_nearer 18 = .ok (.iadd, 1) := by decide +kernel
theorem dX12_nearer_19 : decode cX12_nearer 19 = .ok (.goto 17, 3) := by decide +kernel
theorem dX12_nearer_22 : decode cX12_nearer 22 = .ok (.iload_n 0, 1) := by decide +kernel
theorem dX12_nearer_23 : decode cX12_nearer 23 = .ok (.iload_n 1, 1) := by decide +kernel
theorem dX12_nearer_24 : decode cX12_nearer 24 = .ok (.isub, 1) := by decide +kernel
theorem dX12_nearer_25 : decode cX12_nearer 25 = .ok (.iload_n 2, 1) := by decide +kernel
theorem dX12_nearer_26 : decode cX12_nearer 26 = .ok (.if_icmp .ge 7, 3) := by decide +kernel
theorem dX12_nearer_29 : decode cX12_nearer 29 = .ok (.iload_n 1, 1) := by decide +kernel
theorem dX12_nearer_30 : decode cX12_nearer 30 = .ok (.goto 6, 3) := by decide +kernel
theorem dX12_nearer_33 : decode cX12_nearer 33 = .ok (.iload_n 0, 1) := by decide +kernel
theorem dX12_nearer_34 : decode cX12_nearer 34 = .ok (.iload_n 2, 1) := by decide +kernel
theorem dX12_nearer_35 : decode cX12_nearer 35 = .ok (.isub, 1) := by decide +kernel
theorem dX12_nearer_36 : decode cX12_nearer 36 = .ok (.ireturn, 1) := by decide +kernel
theorem dX12_flies_0 : decode cX12_flies 0 = .ok (.aload_n 0, 1) := by decide +kernel
theorem dX12_flies_1 : decode cX12_flies 1 = .ok (.getfield 240, 3) := by decide +kernel
theorem dX12_flies_4 : decode cX12_flies 4 = .ok (.bipush 16, 2) := by decide +kernel
theorem dX12_flies_6 : decode cX12_flies 6 = .ok (.irem, 1) := by decide +kernel
theorem dX12_flies_7 : decode cX12_flies 7 = .ok (.iload_n 1, 1) := by decide +kernel
theorem dX12_flies_8 : decode cX12_flies 8 = .ok (.bipush 16, 2) := by decide +kernel
theorem dX12_flies_10 : decode cX12_flies 10 = .ok (.irem, 1) := by decide +kernel
theorem dX12_flies_11 : decode cX12_flies 11 = .ok (.aload_n 0, 1) := by decide +kernel
theorem dX12_flies_12 : decode cX12_flies 12 = .ok (.getfield 22, 3) := by decide +kernel
theorem dX12_flies_15 : decode cX12_flies 15 = .ok (.iconst 3, 1) := by decide +kernel
theorem dX12_flies_16 : decode cX12_flies 16 = .ok (.iaload, 1) := by decide +kernel
theorem dX12_flies_17 : decode cX12_flies 17 = .ok (.invokestatic 264, 3) := by decide +kernel
theorem dX12_flies_20 : decode cX12_flies 20 = .ok (.istore_n 2, 1) := by decide +kernel
theorem dX12_flies_21 : decode cX12_flies 21 = .ok (.aload_n 0, 1) := by decide +kernel
theorem dX12_flies_22 : decode cX12_flies 22 = .ok (.getfield 22, 3) := by decide +kernel
theorem dX12_flies_25 : decode cX12_flies 25 = .ok (.iconst 3, 1) := by decide +kernel
theorem dX12_flies_26 : decode cX12_flies 26 = .ok (.iaload, 1) := by decide +kernel
theorem dX12_flies_27 : decode cX12_flies 27 = .ok (.iload_n 2, 1) := by decide +kernel
theorem dX12_flies_28 : decode cX12_flies 28 = .ok (.aload_n 0, 1) := by decide +kernel
theorem dX12_flies_29 : decode cX12_flies 29 = .ok (.getfield 240, 3) := by decide +kernel
theorem dX12_flies_32 : decode cX12_flies 32 = .ok (.bipush 16, 2) := by decide +kernel
theorem dX12_flies_34 : decode cX12_flies 34 = .ok (.irem, 1) := by decide +kernel
theorem dX12_flies_35 : decode cX12_flies 35 = .ok (.invokestatic 119, 3) := by decide +kernel
theorem dX12_flies_38 : decode cX12_flies 38 = .ok (.isub, 1) := by decide +kernel
theorem dX12_flies_39 : decode cX12_flies 39 = .ok (.istore_n 3, 1) := by decide +kernel
theorem dX12_flies_40 : decode cX12_flies 40 = .ok (.aload_n 0, 1) := by decide +kernel
theorem dX12_flies_41 : decode cX12_flies 41 = .ok (.getfield 240, 3) := by decide +kernel
theorem dX12_flies_44 : decode cX12_flies 44 = .ok (.bipush 16, 2) := by decide +kernel
theorem dX12_flies_46 : decode cX12_flies 46 = .ok (.idiv, 1) := by decide +kernel
theorem dX12_flies_47 : decode cX12_flies 47 = .ok (.iload_n 1, 1) := by decide +kernel
theorem dX12_flies_48 : decode cX12_flies 48 = .ok (.bipush 16, 2) := by decide +kernel
theorem dX12_flies_50 : decode cX12_flies 50 = .ok (.idiv, 1) := by decide +kernel
theorem dX12_flies_51 : decode cX12_flies 51 = .ok (.iload_n 3, 1) := by decide +kernel
theorem dX12_flies_52 : decode cX12_flies 52 = .ok (.invokestatic 264, 3) := by decide +kernel
theorem dX12_flies_55 : decode cX12_flies 55 = .ok (.istore 4, 2) := by decide +kernel
theorem dX12_flies_57 : decode cX12_flies 57 = .ok (.aload_n 0, 1) := by decide +kernel
theorem dX12_flies_58 : decode cX12_flies 58 = .ok (.bipush 16, 2) := by decide +kernel
theorem dX12_flies_60 : decode cX12_flies 60 = .ok (.iload 4, 2) := by decide +kernel
theorem dX12_flies_62 : decode cX12_flies 62 = .ok (.imul, 1) := by decide +kernel
theorem dX12_flies_63 : decode cX12_flies 63 = .ok (.iload_n 2, 1) := by decide +kernel
theorem dX12_flies_64 : decode cX12_flies 64 = .ok (.iadd, 1) := by decide +kernel
theorem dX12_flies_65 : decode cX12_flies 65 = .ok (.putfield 240, 3) := by decide +kernel
theorem dX12_flies_68 : decode cX12_flies 68 = .ok (.return_, 1) := by decide +kernel
theorem dX12_goSaying_0 : decode cX12_goSaying 0 = .ok (.aload_n 0, 1) := by decide +kernel
theorem dX12_goSaying_1 : decode cX12_goSaying 1 = .ok (.iconst 0, 1) := by decide +kernel
theorem dX12_goSaying_2 : decode cX12_goSaying 2 = .ok (.putfield 267, 3) := by decide +kernel
theorem dX12_goSaying_5 : decode cX12_goSaying 5 = .ok (.aload_n 0, 1) := by decide +kernel
theorem dX12_goSaying_6 : decode cX12_goSaying 6 = .ok (.iconst 0, 1) := by decide +kernel
theorem dX12_goSaying_7 : decode cX12_goSaying 7 = .ok (.putfield 270, 3) := by decide +kernel
theorem dX12_goSaying_10 : decode cX12_goSaying 10 = .ok (.iload_n 2, 1) := by decide +kernel
theorem dX12_goSaying_11 : decode cX12_goSaying 11 = .ok (.ifCond .eq 42, 3) := by decide +kernel
theorem dX12_goSaying_14 : decode cX12_goSaying 14 = .ok (.aload_n 0, 1) := by decide +kernel
theorem dX12_goSaying_15 : decode cX12_goSaying 15 = .ok (.aload_n 0, 1) := by decide +kernel
theorem dX12_goSaying_16 : decode cX12_goSaying 16 = .ok (.iload_n 1, 1) := by decide +kernel
theorem dX12_goSaying_17 : decode cX12_goSaying 17 = .ok (.invokevirtual 273, 3) := by decide +kernel
theorem dX12_goSaying_20 : decode cX12_goSaying 20 = .ok (.ifCond .le 7, 3) := by decide +kernel
theorem dX12_goSaying_23 : decode cX12_goSaying 23 = .ok (.iconst 1, 1) := by decide +kernel
theorem dX12_goSaying_24 : decode cX12_goSaying 24 = .ok (.goto 4, 3) := by decide +kernel
theorem dX12_goSaying_27 : decode cX12_goSaying 27 = .ok (.iconst 0, 1) := by decide +kernel
theorem dX12_goSaying_28 : decode cX12_goSaying 28 = .ok (.putfield 270, 3) := by decide +kernel
theorem dX12_goSaying_31 : decode cX12_goSaying 31 = .ok (.aload_n 0, 1) := by decide +kernel
theorem dX12_goSaying_32 : decode cX12_goSaying 32 = .ok (.dup, 1) := by decide +kernel
theorem dX12_goSaying_33 : decode cX12_goSaying 33 = .ok (.getfield 249, 3) := by decide +kernel
theorem dX12_goSaying_36 : decode cX12_goSaying 36 = .ok (.iconst 1, 1) := by decide +kernel
theorem dX12_goSaying_37 : decode cX12_goSaying 37 = .ok (.iadd, 1) := by decide +kernel
theorem dX12_goSaying_38 : decode cX12_goSaying 38 = .ok (.putfield 249, 3) := by decide +kernel
theorem dX12_goSaying_41 : decode cX12_goSaying 41 = .ok (.aload_n 0, 1) := by decide +kernel
theorem dX12_goSaying_42 : decode cX12_goSaying 42 = .ok (.getfield 270, 3) := by decide +kernel
theorem dX12_goSaying_45 : decode cX12_goSaying 45 = .ok (.ifCond .eq 8, 3) := by decide +kernel
theorem dX12_goSaying_48 : decode cX12_goSaying 48 = .ok (.aload_n 0, 1) := by decide +kernel
theorem dX12_goSaying_49 : decode cX12_goSaying 49 = .ok (.iload_n 1, 1) := by decide +kernel
theorem dX12_goSaying_50 : decode cX12_goSaying 50 = .ok (.putfield 243, 3) := by decide +kernel
theorem dX12_goSaying_53 : decode cX12_goSaying 53 = .ok (.aload_n 0, 1) := by decide +kernel
theorem dX12_goSaying_54 : decode cX12_goSaying 54 = .ok (.aload_n 0, 1) := by decide +kernel
theorem dX12_goSaying_55 : decode cX12_goSaying 55 = .ok (.getfield 246, 3) := by decide +kernel
theorem dX12_goSaying_58 : decode cX12_goSaying 58 = .ok (.iconst 1, 1) := by decide +kernel
theorem dX12_goSaying_59 : decode cX12_goSaying 59 = .ok (.iadd, 1) := by decide +kernel
theorem dX12_goSaying_60 : decode cX12_goSaying 60 = .ok (.bipush 24, 2) := by decide +kernel
theorem dX12_goSaying_62 : decode cX12_goSaying 62 = .ok (.irem, 1) := by decide +kernel
theorem dX12_goSaying_63 : decode cX12_goSaying 63 = .ok (.putfield 246, 3) := by decide +kernel
theorem dX12_goSaying_66 : decode cX12_goSaying 66 = .ok (.aload_n 0, 1) := by decide +kernel
theorem dX12_goSaying_67 : decode cX12_goSaying 67 = .ok (.getfield 243, 3) := by decide +kernel
theorem dX12_goSaying_70 : decode cX12_goSaying 70 = .ok (.ifCond .lt 28, 3) := by decide +kernel
theorem dX12_goSaying_73 : decode cX12_goSaying 73 = .ok (.aload_n 0, 1) := by decide +kernel
theorem dX12_goSaying_74 : decode cX12_goSaying 74 = .ok (.getfield 240, 3) := by decide +kernel
theorem dX12_goSaying_77 : decode cX12_goSaying 77 = .ok (.aload_n 0, 1) := by decide +kernel
theorem dX12_goSaying_78 : decode cX12_goSaying 78 = .ok (.getfield 7, 3) := by decide +kernel
theorem dX12_goSaying_81 : decode cX12_goSaying 81 = .ok (.aload_n 0, 1) := by decide +kernel
theorem dX12_goSaying_82 : decode cX12_goSaying 82 = .ok (.getfield 243, 3) := by decide +kernel
theorem dX12_goSaying_85 : decode cX12_goSaying 85 = .ok (.iaload, 1) := by decide +kernel
theorem dX12_goSaying_86 : decode cX12_goSaying 86 = .ok (.invokestatic 252, 3) := by decide +kernel
theorem dX12_goSaying_89 : decode cX12_goSaying 89 = .ok (.aload_n 0, 1) := by decide +kernel
theorem dX12_goSaying_90 : decode cX12_goSaying 90 = .ok (.getfield 22, 3) := by decide +kernel
theorem dX12_goSaying_93 : decode cX12_goSaying 93 = .ok (.iconst 1, 1) := by decide +kernel
theorem dX12_goSaying_94 : decode cX12_goSaying 94 = .ok (.iaload, 1) := by decide +kernel
theorem dX12_goSaying_95 : decode cX12_goSaying 95 = .ok (.if_icmp .le 5, 3) := by decide +kernel
theorem dX12_goSaying_98 : decode cX12_goSaying 98 = .ok (.iconst (-1), 1) := by decide +kernel
theorem dX12_goSaying_99 : decode cX12_goSaying 99 = .ok (.ireturn, 1) := by decide +kernel
theorem dX12_goSaying_100 : decode cX12_goSaying 100 = .ok (.aload_n 0, 1) := by decide +kernel
theorem dX12_goSaying_101 : decode cX12_goSaying 101 = .ok (.aload_n 0, 1) := by decide +kernel
theorem dX12_goSaying_102 : decode cX12_goSaying 102 = .ok (.getfield 7, 3) := by decide +kernel
theorem dX12_goSaying_105 : decode cX12_goSaying 105 = .ok (.aload_n 0, 1) := by decide +kernel
theorem dX12_goSaying_106 : decode cX12_goSaying 106 = .ok (.getfield 243, 3) := by decide +kernel
theorem dX12_goSaying_109 : decode cX12_goSaying 109 = .ok (.iaload, 1) := by decide +kernel
theorem dX12_goSaying_110 : decode cX12_goSaying 110 = .ok (.invokevirtual 276, 3) := by decide +kernel
theorem dX12_goSaying_113 : decode cX12_goSaying 113 = .ok (.aload_n 0, 1) := by decide +kernel
theorem dX12_goSaying_114 : decode cX12_goSaying 114 = .ok (.getfield 240, 3) := by decide +kernel
theorem dX12_goSaying_117 : decode cX12_goSaying 117 = .ok (.aload_n 0, 1) := by decide +kernel
theorem dX12_goSaying_118 : decode cX12_goSaying 118 = .ok (.getfield 7, 3) := by decide +kernel
theorem dX12_goSaying_121 : decode cX12_goSaying 121 = .ok (.aload_n 0, 1) := by decide +kernel
theorem dX12_goSaying_122 : decode cX12_goSaying 122 = .ok (.getfield 243, 3) := by decide +kernel
theorem dX12_goSaying_125 : decode cX12_goSaying 125 = .ok (.iaload, 1) := by decide +kernel
theorem dX12_goSaying_126 : decode cX12_goSaying 126 = .ok (.if_icmp .eq 5, 3) := by decide +kernel
theorem dX12_goSaying_129 : decode cX12_goSaying 129 = .ok (.iconst (-1), 1) := by decide +kernel
theorem dX12_goSaying_130 : decode cX12_goSaying 130 = .ok (.ireturn, 1) := by decide +kernel
theorem dX12_goSaying_131 : decode cX12_goSaying 131 = .ok (.aload_n 0, 1) := by decide +kernel
theorem dX12_goSaying_132 : decode cX12_goSaying 132 = .ok (.getfield 243, 3) := by decide +kernel
theorem dX12_goSaying_135 : decode cX12_goSaying 135 = .ok (.istore_n 3, 1) := by decide +kernel
theorem dX12_goSaying_136 : decode cX12_goSaying 136 = .ok (.aload_n 0, 1) := by decide +kernel
theorem dX12_goSaying_137 : decode cX12_goSaying 137 = .ok (.iconst (-1), 1) := by decide +kernel
theorem dX12_goSaying_138 : decode cX12_goSaying 138 = .ok (.putfield 243, 3) := by decide +kernel
theorem dX12_goSaying_141 : decode cX12_goSaying 141 = .ok (.aload_n 0, 1) := by decide +kernel
theorem dX12_goSaying_142 : decode cX12_goSaying 142 = .ok (.aload_n 0, 1) := by decide +kernel
theorem dX12_goSaying_143 : decode cX12_goSaying 143 = .ok (.getfield 67, 3) := by decide +kernel
theorem dX12_goSaying_146 : decode cX12_goSaying 146 = .ok (.iload_n 3, 1) := by decide +kernel
theorem dX12_goSaying_147 : decode cX12_goSaying 147 = .ok (.iaload, 1) := by decide +kernel
theorem dX12_goSaying_148 : decode cX12_goSaying 148 = .ok (.ifCond .ne 7, 3) := by decide +kernel
theorem dX12_goSaying_151 : decode cX12_goSaying 151 = .ok (.iconst 1, 1) := by decide +kernel
theorem dX12_goSaying_152 : decode cX12_goSaying 152 = .ok (.goto 4, 3) := by decide +kernel
theorem dX12_goSaying_155 : decode cX12_goSaying 155 = .ok (.iconst 0, 1) := by decide +kernel
theorem dX12_goSaying_156 : decode cX12_goSaying 156 = .ok (.putfield 267, 3) := by decide +kernel
theorem dX12_goSaying_159 : decode cX12_goSaying 159 = .ok (.aload_n 0, 1) := by decide +kernel
theorem dX12_goSaying_160 : decode cX12_goSaying 160 = .ok (.getfield 267, 3) := by decide +kernel
theorem dX12_goSaying_163 : decode cX12_goSaying 163 = .ok (.ifCond .ne 13, 3) := by decide +kernel
theorem dX12_goSaying_166 : decode cX12_goSaying 166 = .ok (.aload_n 0, 1) := by decide +kernel
theorem dX12_goSaying_167 : decode cX12_goSaying 167 = .ok (.getfield 67, 3) := by decide +kernel
theorem dX12_goSaying_170 : decode cX12_goSaying 170 = .ok (.iload_n 3, 1) := by decide +kernel
theorem dX12_goSaying_171 : decode cX12_goSaying 171 = .ok (.dup2, 1) := by decide +kernel
theorem dX12_goSaying_172 : decode cX12_goSaying 172 = .ok (.iaload, 1) := by decide +kernel
theorem dX12_goSaying_173 : decode cX12_goSaying 173 = .ok (.iconst 1, 1) := by decide +kernel
theorem dX12_goSaying_174 : decode cX12_goSaying 174 = .ok (.isub, 1) := by decide +kernel
theorem dX12_goSaying_175 : decode cX12_goSaying 175 = .ok (.iastore, 1) := by decide +kernel
theorem dX12_goSaying_176 : decode cX12_goSaying 176 = .ok (.iload_n 3, 1) := by decide +kernel
theorem dX12_goSaying_177 : decode cX12_goSaying 177 = .ok (.ireturn, 1) := by decide +kernel
theorem dX12_loud_0 : decode cX12_loud 0 = .ok (.aload_n 0, 1) := by decide +kernel
theorem dX12_loud_1 : decode cX12_loud 1 = .ok (.iload_n 1, 1) := by decide +kernel
theorem dX12_loud_2 : decode cX12_loud 2 = .ok (.invokevirtual 130, 3) := by decide +kernel
theorem dX12_loud_5 : decode cX12_loud 5 = .ok (.ifCond .ne 5, 3) := by decide +kernel
theorem dX12_loud_8 : decode cX12_loud 8 = .ok (.iconst (-1), 1) := by decide +kernel
theorem dX12_loud_9 : decode cX12_loud 9 = .ok (.ireturn, 1) := by decide +kernel
theorem dX12_loud_10 : decode cX12_loud 10 = .ok (.aload_n 0, 1) := by decide +kernel
theorem dX12_loud_11 : decode cX12_loud 11 = .ok (.iconst 0, 1) := by decide +kernel
theorem dX12_loud_12 : decode cX12_loud 12 = .ok (.invokevirtual 280, 3) := by decide +kernel
theorem dX12_loud_15 : decode cX12_loud 15 = .ok (.aload_n 0, 1) := by decide +kernel
theorem dX12_loud_16 : decode cX12_loud 16 = .ok (.iload_n 1, 1) := by decide +kernel
theorem dX12_loud_17 : decode cX12_loud 17 = .ok (.invokevirtual 273, 3) := by decide +kernel
theorem dX12_loud_20 : decode cX12_loud 20 = .ok (.ireturn, 1) := by decide +kernel
theorem dX12_rowFault_0 : decode cX12_rowFault 0 = .ok (.aload_n 0, 1) := by decide +kernel
theorem dX12_rowFault_1 : decode cX12_rowFault 1 = .ok (.getfield 103, 3) := by decide +kernel
theorem dX12_rowFault_4 : decode cX12_rowFault 4 = .ok (.iload_n 1, 1) := by decide +kernel
theorem dX12_rowFault_5 : decode cX12_rowFault 5 = .ok (.iaload, 1) := by decide +kernel
theorem dX12_rowFault_6 : decode cX12_rowFault 6 = .ok (.iconst (-1), 1) := by decide +kernel
theorem dX12_rowFault_7 : decode cX12_rowFault 7 = .ok (.if_icmp .ne 8, 3) := by decide +kernel
theorem dX12_rowFault_10 : decode cX12_rowFault 10 = .ok (.bipush (-11), 2) := by decide +kernel
theorem dX12_rowFault_12 : decode cX12_rowFault 12 = .ok (.goto 22, 3) := by decide +kernel
theorem dX12_rowFault_15 : decode cX12_rowFault 15 = .ok (.aload_n 0, 1) := by decide +kernel
theorem dX12_rowFault_16 : decode cX12_rowFault 16 = .ok (.getfield 103, 3) := by decide +kernel
theorem dX12_rowFault_19 : decode cX12_rowFault 19 = .ok (.iload_n 1, 1) := by decide +kernel
theorem dX12_rowFault_20 : decode cX12_rowFault 20 = .ok (.iaload, 1) := by decide +kernel
theorem dX12_rowFault_21 : decode cX12_rowFault 21 = .ok (.bipush (-2), 2) := by decide +kernel
theorem dX12_rowFault_23 : decode cX12_rowFault 23 = .ok (.iload_n 2, 1) := by decide +kernel
theorem dX12_rowFault_24 : decode cX12_rowFault 24 = .ok (.isub, 1) := by decide +kernel
theorem dX12_rowFault_25 : decode cX12_rowFault 25 = .ok (.if_icmp .ne 7, 3) := by decide +kernel
theorem dX12_rowFault_28 : decode cX12_rowFault 28 = .ok (.iconst 0, 1) := by decide +kernel
theorem dX12_rowFault_29 : decode cX12_rowFault 29 = .ok (.goto 5, 3) := by decide +kernel
theorem dX12_rowFault_32 : decode cX12_rowFault 32 = .ok (.bipush (-12), 2) := by decide +kernel
theorem dX12_rowFault_34 : decode cX12_rowFault 34 = .ok (.ireturn, 1) := by decide +kernel
theorem dX12_at_0 : decode cX12_at 0 = .ok (.aload_n 0, 1) := by decide +kernel
theorem dX12_at_1 : decode cX12_at 1 = .ok (.getfield 109, 3) := by decide +kernel
theorem dX12_at_4 : decode cX12_at 4 = .ok (.bipush 60, 2) := by decide +kernel
theorem dX12_at_6 : decode cX12_at 6 = .ok (.iload_n 1, 1) := by decide +kernel
theorem dX12_at_7 : decode cX12_at 7 = .ok (.imul, 1) := by decide +kernel
theorem dX12_at_8 : decode cX12_at 8 = .ok (.iload_n 2, 1) := by decide +kernel
theorem dX12_at_9 : decode cX12_at 9 = .ok (.iadd, 1) := by decide +kernel
theorem dX12_at_10 : decode cX12_at 10 = .ok (.laload, 1) := by decide +kernel
theorem dX12_at_11 : decode cX12_at 11 = .ok (.l2i, 1) := by decide +kernel
theorem dX12_at_12 : decode cX12_at 12 = .ok (.ireturn, 1) := by decide +kernel
theorem dX12_longOf_0 : decode cX12_longOf 0 = .ok (.iconst 0, 1) := by decide +kernel
theorem dX12_longOf_1 : decode cX12_longOf 1 = .ok (.istore_n 3, 1) := by decide +kernel
theorem dX12_longOf_2 : decode cX12_longOf 2 = .ok (.iload_n 3, 1) := by decide +kernel
theorem dX12_longOf_3 : decode cX12_longOf 3 = .ok (.iload_n 2, 1) := by decide +kernel
theorem dX12_longOf_4 : decode cX12_longOf 4 = .ok (.if_icmp .ge 43, 3) := by decide +kernel
theorem dX12_longOf_7 : decode cX12_longOf 7 = .ok (.iload_n 3, 1) := by decide +kernel
theorem dX12_longOf_8 : decode cX12_longOf 8 = .ok (.aload_n 0, 1) := by decide +kernel
theorem dX12_longOf_9 : decode cX12_longOf 9 = .ok (.getfield 106, 3) := by decide +kernel
theorem dX12_longOf_12 : decode cX12_longOf 12 = .ok (.iload_n 1, 1) := by decide +kernel
theorem dX12_longOf_13 : decode cX12_longOf 13 = .ok (.iaload, 1) := by decide +kernel
theorem dX12_longOf_14 : decode cX12_longOf 14 = .ok (.if_icmp .ge 33, 3) := by decide +kernel
theorem dX12_longOf_17 : decode cX12_longOf 17 = .ok (.aload_n 0, 1) := by decide +kernel
theorem dX12_longOf_18 : decode cX12_longOf 18 = .ok (.iload_n 1, 1) := by decide +kernel
theorem dX12_longOf_19 : decode cX12_longOf 19 = .ok (.iload_n 3, 1) := by decide +kernel
theorem dX12_longOf_20 : decode cX12_longOf 20 = .ok (.invokevirtual 283, 3) := by decide +kernel
theorem dX12_longOf_23 : decode cX12_longOf 23 = .ok (.ifCond .lt 24, 3) := by decide +kernel
theorem dX12_longOf_26 : decode cX12_longOf 26 = .ok (.aload_n 0, 1) := by decide +kernel
theorem dX12_longOf_27 : decode cX12_longOf 27 = .ok (.aload_n 0, 1) := by decide +kernel
theorem dX12_longOf_28 : decode cX12_longOf 28 = .ok (.iload_n 1, 1) := by decide +kernel
theorem dX12_longOf_29 : decode cX12_longOf 29 = .ok (.iload_n 3, 1) := by decide +kernel
theorem dX12_longOf_30 : decode cX12_longOf 30 = .ok (.invokevirtual 283, 3) := by decide +kernel
theorem dX12_longOf_33 : decode cX12_longOf 33 = .ok (.iconst 2, 1) := by decide +kernel
theorem dX12_longOf_34 : decode cX12_longOf 34 = .ok (.idiv, 1) := by decide +kernel
theorem dX12_longOf_35 : decode cX12_longOf 35 = .ok (.invokevirtual 130, 3) := by decide +kernel
theorem dX12_longOf_38 : decode cX12_longOf 38 = .ok (.ifCond .eq 9, 3) := by decide +kernel
theorem dX12_longOf_41 : decode cX12_longOf 41 = .ok (.iinc 3 1, 3) := by decide +kernel
theorem dX12_longOf_44 : decode cX12_longOf 44 = .ok (.goto (-42), 3) := by decide +kernel
theorem dX12_longOf_47 : decode cX12_longOf 47 = .ok (.iload_n 3, 1) := by decide +kernel
theorem dX12_longOf_48 : decode cX12_longOf 48 = .ok (.ireturn, 1) := by decide +kernel
theorem dX12_goDay_0 : decode cX12_goDay 0 = .ok (.aload_n 0, 1) := by decide +kernel
theorem dX12_goDay_1 : decode cX12_goDay 1 = .ok (.iconst 0, 1) := by decide +kernel
theorem dX12_goDay_2 : decode cX12_goDay 2 = .ok (.invokevirtual 280, 3) := by decide +kernel
theorem dX12_goDay_5 : decode cX12_goDay 5 = .ok (.aload_n 0, 1) := by decide +kernel
theorem dX12_goDay_6 : decode cX12_goDay 6 = .ok (.iconst 0, 1) := by decide +kernel
theorem dX12_goDay_7 : decode cX12_goDay 7 = .ok (.putfield 286, 3) := by decide +kernel
theorem dX12_goDay_10 : decode cX12_goDay 10 = .ok (.iconst 0, 1) := by decide +kernel
theorem dX12_goDay_11 : decode cX12_goDay 11 = .ok (.istore_n 3, 1) := by decide +kernel
theorem dX12_goDay_12 : decode cX12_goDay 12 = .ok (.iload_n 3, 1) := by decide +kernel
theorem dX12_goDay_13 : decode cX12_goDay 13 = .ok (.aload_n 0, 1) := by decide +kernel
theorem dX12_goDay_14 : decode cX12_goDay 14 = .ok (.getfield 123, 3) := by decide +kernel
theorem dX12_goDay_17 : decode cX12_goDay 17 = .ok (.if_icmp .ge 31, 3) := by decide +kernel
theorem dX12_goDay_20 : decode cX12_goDay 20 = .ok (.aload_n 0, 1) := by decide +kernel
theorem dX12_goDay_21 : decode cX12_goDay 21 = .ok (.getfield 70, 3) := by decide +kernel
theorem dX12_goDay_24 : decode cX12_goDay 24 = .ok (.iload_n 3, 1) := by decide +kernel
theorem dX12_goDay_25 : decode cX12_goDay 25 = .ok (.iconst 0, 1) := by decide +kernel
theorem dX12_goDay_26 : decode cX12_goDay 26 = .ok (.iastore, 1) := by decide +kernel
theorem dX12_goDay_27 : decode cX12_goDay 27 = .ok (.aload_n 0, 1) := by decide +kernel
theorem dX12_goDay_28 : decode cX12_goDay 28 = .ok (.getfield 73, 3) := by decide +kernel
theorem dX12_goDay_31 : decode cX12_goDay 31 = .ok (.iload_n 3, 1) := by decide +kernel
theorem dX12_goDay_32 : decode cX12_goDay 32 = .ok (.iconst 0, 1) := by decide +kernel
theorem dX12_goDay_33 : decode cX12_goDay 33 = .ok (.iastore, 1) := by decide +kernel
theorem dX12_goDay_34 : decode cX12_goDay 34 = .ok (.aload_n 0, 1) := by decide +kernel
theorem dX12_goDay_35 : decode cX12_goDay 35 = .ok (.getfield 76, 3) := by decide +kernel
theorem dX12_goDay_38 : decode cX12_goDay 38 = .ok (.iload_n 3, 1) := by decide +kernel
theorem dX12_goDay_39 : decode cX12_goDay 39 = .ok (.bipush (-2), 2) := by decide +kernel
theorem dX12_goDay_41 : decode cX12_goDay 41 = .ok (.iastore, 1) := by decide +kernel
theorem dX12_goDay_42 : decode cX12_goDay 42 = .ok (.iinc 3 1, 3) := by decide +kernel
theorem dX12_goDay_45 : decode cX12_goDay 45 = .ok (.goto (-33), 3) := by decide +kernel
theorem dX12_goDay_48 : decode cX12_goDay 48 = .ok (.aload_n 0, 1) := by decide +kernel
theorem dX12_goDay_49 : decode cX12_goDay 49 = .ok (.iload_n 1, 1) := by decide +kernel
theorem dX12_goDay_50 : decode cX12_goDay 50 = .ok (.iload_n 2, 1) := by decide +kernel
theorem dX12_goDay_51 : decode cX12_goDay 51 = .ok (.invokevirtual 289, 3) := by decide +kernel
theorem dX12_goDay_54 : decode cX12_goDay 54 = .ok (.istore_n 3, 1) := by decide +kernel
theorem dX12_goDay_55 : decode cX12_goDay 55 = .ok (.iconst 0, 1) := by decide +kernel
theorem dX12_goDay_56 : decode cX12_goDay 56 = .ok (.istore 4, 2) := by decide +kernel
theorem dX12_goDay_58 : decode cX12_goDay 58 = .ok (.iload 4, 2) := by decide +kernel
theorem dX12_goDay_60 : decode cX12_goDay 60 = .ok (.iload_n 3, 1) := by decide +kernel
theorem dX12_goDay_61 : decode cX12_goDay 61 = .ok (.if_icmp .ge 118, 3) := by decide +kernel
theorem dX12_goDay_64 : decode cX12_goDay 64 = .ok (.aload_n 0, 1) := by decide +kernel
theorem dX12_goDay_65 : decode cX12_goDay 65 = .ok (.aload_n 0, 1) := by decide +kernel
theorem dX12_goDay_66 : decode cX12_goDay 66 = .ok (.iload_n 1, 1) := by decide +kernel
theorem dX12_goDay_67 : decode cX12_goDay 67 = .ok (.iload 4, 2) := by decide +kernel
theorem dX12_goDay_69 : decode cX12_goDay 69 = .ok (.invokevirtual 283, 3) := by decide +kernel
theorem dX12_goDay_72 : decode cX12_goDay 72 = .ok (.iconst 2, 1) := by decide +kernel
theorem dX12_goDay_73 : decode cX12_goDay 73 = .ok (.idiv, 1) := by decide +kernel
theorem dX12_goDay_74 : decode cX12_goDay 74 = .ok (.aload_n 0, 1) := by decide +kernel
theorem dX12_goDay_75 : decode cX12_goDay 75 = .ok (.iload_n 1, 1) := by decide +kernel
theorem dX12_goDay_76 : decode cX12_goDay 76 = .ok (.iload 4, 2) := by decide +kernel
theorem dX12_goDay_78 : decode cX12_goDay 78 = .ok (.invokevirtual 283, 3) := by decide +kernel
theorem dX12_goDay_81 : decode cX12_goDay 81 = .ok (.iconst 2, 1) := by decide +kernel
theorem dX12_goDay_82 : decode cX12_goDay 82 = .ok (.irem, 1) := by decide +kernel
theorem dX12_goDay_83 : decode cX12_goDay 83 = .ok (.iconst 1, 1) := by decide +kernel
theorem dX12_goDay_84 : decode cX12_goDay 84 = .ok (.if_icmp .ne 7, 3) := by decide +kernel
theorem dX12_goDay_87 : decode cX12_goDay 87 = .ok (.iconst 1, 1) := by decide +kernel
theorem dX12_goDay_88 : decode cX12_goDay 88 = .ok (.goto 4, 3) := by decide +kernel
theorem dX12_goDay_91 : decode cX12_goDay 91 = .ok (.iconst 0, 1) := by decide +kernel
theorem dX12_goDay_92 : decode cX12_goDay 92 = .ok (.invokevirtual 292, 3) := by decide +kernel
theorem dX12_goDay_95 : decode cX12_goDay 95 = .ok (.istore 5, 2) := by decide +kernel
theorem dX12_goDay_97 : decode cX12_goDay 97 = .ok (.aload_n 0, 1) := by decide +kernel
theorem dX12_goDay_98 : decode cX12_goDay 98 = .ok (.getfield 270, 3) := by decide +kernel
theorem dX12_goDay_101 : decode cX12_goDay 101 = .ok (.ifCond .eq 16, 3) := by decide +kernel
theorem dX12_goDay_104 : decode cX12_goDay 104 = .ok (.aload_n 0, 1) := by decide +kernel
theorem dX12_goDay_105 : decode cX12_goDay 105 = .ok (.dup, 1) := by decide +kernel
theorem dX12_goDay_106 : decode cX12_goDay 106 = .ok (.getfield 286, 3) := by decide +kernel
theorem dX12_goDay_109 : decode cX12_goDay 109 = .ok (.iconst 1, 1) := by decide +kernel
theorem dX12_goDay_110 : decode cX12_goDay 110 = .ok (.iload 4, 2) := by decide +kernel
theorem dX12_goDay_112 : decode cX12_goDay 112 = .ok (.ishl, 1) := by decide +kernel
theorem dX12_goDay_113 : decode cX12_goDay 113 = .ok (.ior, 1) := by decide +kernel
theorem dX12_goDay_114 : decode cX12_goDay 114 = .ok (.putfield 286, 3) := by decide +kernel
theorem dX12_goDay_117 : decode cX12_goDay 117 = .ok (.iload 5, 2) := by decide +kernel
theorem dX12_goDay_119 : decode cX12_goDay 119 = .ok (.ifCond .ge 6, 3) := by decide +kernel
theorem dX12_goDay_122 : decode cX12_goDay 122 = .ok (.goto 51, 3) := by decide +kernel
theorem dX12_goDay_125 : decode cX12_goDay 125 = .ok (.aload_n 0, 1) := by decide +kernel
theorem dX12_goDay_126 : decode cX12_goDay 126 = .ok (.getfield 70, 3) := by decide +kernel
theorem dX12_goDay_129 : decode cX12_goDay 129 = .ok (.iload 5, 2) := by decide +kernel
theorem dX12_goDay_131 : decode cX12_goDay 131 = .ok (.iaload, 1) := by decide +kernel
theorem dX12_goDay_132 : decode cX12_goDay 132 = .ok (.ifCond .ne 12, 3) := by decide +kernel
theorem dX12_goDay_135 : decode cX12_goDay 135 = .ok (.aload_n 0, 1) := by decide +kernel
theorem dX12_goDay_136 : decode cX12_goDay 136 = .ok (.getfield 76, 3) := by decide +kernel
theorem dX12_goDay_139 : decode cX12_goDay 139 = .ok (.iload 5, 2) := by decide +kernel
theorem dX12_goDay_141 : decode cX12_goDay 141 = .ok (.iload 4, 2) := by decide +kernel
theorem dX12_goDay_143 : decode cX12_goDay 143 = .ok (.iastore, 1) := by decide +kernel
theorem dX12_goDay_144 : decode cX12_goDay 144 = .ok (.aload_n 0, 1) := by decide +kernel
theorem dX12_goDay_145 : decode cX12_goDay 145 = .ok (.getfield 70, 3) := by decide +kernel
theorem dX12_goDay_148 : decode cX12_goDay 148 = .ok (.iload 5, 2) := by decide +kernel
theorem dX12_goDay_150 : decode cX12_goDay 150 = .ok (.dup2, 1) := by decide +kernel
theorem dX12_goDay_151 : decode cX12_goDay 151 = .ok (.iaload, 1) := by decide +kernel
theorem dX12_goDay_152 : decode cX12_goDay 152 = .ok (.iconst 1, 1) := by decide +kernel
theorem dX12_goDay_153 : decode cX12_goDay 153 = .ok (.iadd, 1) := by decide +kernel
theorem dX12_goDay_154 : decode cX12_goDay 154 = .ok (.iastore, 1) := by decide +kernel
theorem dX12_goDay_155 : decode cX12_goDay 155 = .ok (.aload_n 0, 1) := by decide +kernel
theorem dX12_goDay_156 : decode cX12_goDay 156 = .ok (.getfield 267, 3) := by decide +kernel
theorem dX12_goDay_159 : decode cX12_goDay 159 = .ok (.ifCond .eq 14, 3) := by decide +kernel
theorem dX12_goDay_162 : decode cX12_goDay 162 = .ok (.aload_n 0, 1) := by decide +kernel
theorem dX12_goDay_163 : decode cX12_goDay 163 = .ok (.getfield 73, 3) := by decide +kernel
theorem dX12_goDay_166 : decode cX12_goDay 166 = .ok (.iload 5, 2) := by decide +kernel
theorem dX12_goDay_168 : decode cX12_goDay 168 = .ok (.dup2, 1) := by decide +kernel
theorem dX12_goDay_169 : decode cX12_goDay 169 = .ok (.iaload, 1) := by decide +kernel
theorem dX12_goDay_170 : decode cX12_goDay 170 = .ok (.iconst 1, 1) := by decide +kernel
theorem dX12_goDay_171 : decode cX12_goDay 171 = .ok (.iadd, 1) := by decide +kernel
theorem dX12_goDay_172 : decode cX12_goDay 172 = .ok (.iastore, 1) := by decide +kernel
theorem dX12_goDay_173 : decode cX12_goDay 173 = .ok (.iinc 4 1, 3) := by decide +kernel
theorem dX12_goDay_176 : decode cX12_goDay 176 = .ok (.goto (-118), 3) := by decide +kernel
theorem dX12_goDay_179 : decode cX12_goDay 179 = .ok (.return_, 1) := by decide +kernel
theorem dX12_areMany_0 : decode cX12_areMany 0 = .ok (.iload_n 0, 1) := by decide +kernel
theorem dX12_areMany_1 : decode cX12_areMany 1 = .ok (.iconst 0, 1) := by decide +kernel
theorem dX12_areMany_2 : decode cX12_areMany 2 = .ok (.bipush 24, 2) := by decide +kernel
theorem dX12_areMany_4 : decode cX12_areMany 4 = .ok (.invokestatic 126, 3) := by decide +kernel
theorem dX12_areMany_7 : decode cX12_areMany 7 = .ok (.ireturn, 1) := by decide +kernel
theorem dX12_day_0 : decode cX12_day 0 = .ok (.iload_n 1, 1) := by decide +kernel
theorem dX12_day_1 : decode cX12_day 1 = .ok (.invokestatic 141, 3) := by decide +kernel
theorem dX12_day_4 : decode cX12_day 4 = .ok (.ifCond .eq 19, 3) := by decide +kernel
theorem dX12_day_7 : decode cX12_day 7 = .ok (.iload_n 2, 1) := by decide +kernel
theorem dX12_day_8 : decode cX12_day 8 = .ok (.invokestatic 296, 3) := by decide +kernel
theorem dX12_day_11 : decode cX12_day 11 = .ok (.ifCond .eq 12, 3) := by decide +kernel
theorem dX12_day_14 : decode cX12_day 14 = .ok (.iload_n 3, 1) := by decide +kernel
theorem dX12_day_15 : decode cX12_day 15 = .ok (.iconst 0, 1) := by decide +kernel
theorem dX12_day_16 : decode cX12_day 16 = .ok (.iconst 2, 1) := by decide +kernel
theorem dX12_day_17 : decode cX12_day 17 = .ok (.invokestatic 126, 3) := by decide +kernel
theorem dX12_day_20 : decode cX12_day 20 = .ok (.ifCond .ne 5, 3) := by decide +kernel
theorem dX12_day_23 : decode cX12_day 23 = .ok (.iconst (-1), 1) := by decide +kernel
theorem dX12_day_24 : decode cX12_day 24 = .ok (.ireturn, 1) := by decide +kernel
theorem dX12_day_25 : decode cX12_day 25 = .ok (.aload_n 0, 1) := by decide +kernel
theorem dX12_day_26 : decode cX12_day 26 = .ok (.iload_n 1, 1) := by decide +kernel
theorem dX12_day_27 : decode cX12_day 27 = .ok (.iconst 0, 1) := by decide +kernel
theorem dX12_day_28 : decode cX12_day 28 = .ok (.invokevirtual 299, 3) := by decide +kernel
theorem dX12_day_31 : decode cX12_day 31 = .ok (.ifCond .ge 10, 3) := by decide +kernel
theorem dX12_day_34 : decode cX12_day 34 = .ok (.aload_n 0, 1) := by decide +kernel
theorem dX12_day_35 : decode cX12_day 35 = .ok (.iload_n 1, 1) := by decide +kernel
theorem dX12_day_36 : decode cX12_day 36 = .ok (.iconst 0, 1) := by decide +kernel
theorem dX12_day_37 : decode cX12_day 37 = .ok (.invokevirtual 299, 3) := by decide +kernel
theorem dX12_day_40 : decode cX12_day 40 = .ok (.ireturn, 1) := by decide +kernel
theorem dX12_day_41 : decode cX12_day 41 = .ok (.aload_n 0, 1) := by decide +kernel
theorem dX12_day_42 : decode cX12_day 42 = .ok (.iload_n 1, 1) := by decide +kernel
theorem dX12_day_43 : decode cX12_day 43 = .ok (.iload_n 2, 1) := by decide +kernel
theorem dX12_day_44 : decode cX12_day 44 = .ok (.invokevirtual 302, 3) := by decide +kernel
theorem dX12_day_47 : decode cX12_day 47 = .ok (.iload_n 3, 1) := by decide +kernel
theorem dX12_day_48 : decode cX12_day 48 = .ok (.ifCond .ne 22, 3) := by decide +kernel
theorem dX12_day_51 : decode cX12_day 51 = .ok (.aload_n 0, 1) := by decide +kernel
theorem dX12_day_52 : decode cX12_day 52 = .ok (.getfield 243, 3) := by decide +kernel
theorem dX12_day_55 : decode cX12_day 55 = .ok (.ifCond .ge 8, 3) := by decide +kernel
theorem dX12_day_58 : decode cX12_day 58 = .ok (.bipush (-2), 2) := by decide +kernel
theorem dX12_day_60 : decode cX12_day 60 = .ok (.goto 26, 3) := by decide +kernel
theorem dX12_day_63 : decode cX12_day 63 = .ok (.aload_n 0, 1) := by decide +kernel
theorem dX12_day_64 : decode cX12_day 64 = .ok (.getfield 243, 3) := by decide +kernel
theorem dX12_day_67 : decode cX12_day 67 = .ok (.goto 19, 3) := by decide +kernel
theorem dX12_day_70 : decode cX12_day 70 = .ok (.iload_n 3, 1) := by decide +kernel
theorem dX12_day_71 : decode cX12_day 71 = .ok (.iconst 1, 1) := by decide +kernel
theorem dX12_day_72 : decode cX12_day 72 = .ok (.if_icmp .ne 10, 3) := by decide +kernel
theorem dX12_day_75 : decode cX12_day 75 = .ok (.aload_n 0, 1) := by decide +kernel
theorem dX12_day_76 : decode cX12_day 76 = .ok (.getfield 240, 3) := by decide +kernel
theorem dX12_day_79 : decode cX12_day 79 = .ok (.goto 7, 3) := by decide +kernel
theorem dX12_day_82 : decode cX12_day 82 = .ok (.aload_n 0, 1) := by decide +kernel
theorem dX12_day_83 : decode cX12_day 83 = .ok (.getfield 286, 3) := by decide +kernel
theorem dX12_day_86 : decode cX12_day 86 = .ok (.ireturn, 1) := by decide +kernel
theorem dX12_stung_0 : decode cX12_stung 0 = .ok (.iload_n 1, 1) := by decide +kernel
theorem dX12_stung_1 : decode cX12_stung 1 = .ok (.invokestatic 141, 3) := by decide +kernel
theorem dX12_stung_4 : decode cX12_stung 4 = .ok (.ifCond .eq 28, 3) := by decide +kernel
theorem dX12_stung_7 : decode cX12_stung 7 = .ok (.iload_n 2, 1) := by decide +kernel
theorem dX12_stung_8 : decode cX12_stung 8 = .ok (.invokestatic 296, 3) := by decide +kernel
theorem dX12_stung_11 : decode cX12_stung 11 = .ok (.ifCond .eq 21, 3) := by decide +kernel
theorem dX12_stung_14 : decode cX12_stung 14 = .ok (.aload_n 0, 1) := by decide +kernel
theorem dX12_stung_15 : decode cX12_stung 15 = .ok (.iload_n 3, 1) := by decide +kernel
theorem dX12_stung_16 : decode cX12_stung 16 = .ok (.invokevirtual 130, 3) := by decide +kernel
theorem dX12_stung_19 : decode cX12_stung 19 = .ok (.ifCond .eq 13, 3) := by decide +kernel
theorem dX12_stung_22 : decode cX12_stung 22 = .ok (.iload 4, 2) := by decide +kernel
theorem dX12_stung_24 : decode cX12_stung 24 = .ok (.iconst 0, 1) := by decide +kernel
theorem dX12_stung_25 : decode cX12_stung 25 = .ok (.iconst 2, 1) := by decide +kernel
theorem dX12_stung_26 : decode cX12_stung 26 = .ok (.invokestatic 126, 3) := by decide +kernel
theorem dX12_stung_29 : decode cX12_stung 29 = .ok (.ifCond .ne 5, 3) := by decide +kernel
theorem dX12_stung_32 : decode cX12_stung 32 = .ok (.iconst (-1), 1) := by decide +kernel
theorem dX12_stung_33 : decode cX12_stung 33 = .ok (.ireturn, 1) := by decide +kernel
theorem dX12_stung_34 : decode cX12_stung 34 = .ok (.aload_n 0, 1) := by decide +kernel
theorem dX12_stung_35 : decode cX12_stung 35 = .ok (.iload_n 1, 1) := by decide +kernel
theorem dX12_stung_36 : decode cX12_stung 36 = .ok (.iconst 0, 1) := by decide +kernel
theorem dX12_stung_37 : decode cX12_stung 37 = .ok (.invokevirtual 299, 3) := by decide +kernel
theorem dX12_stung_40 : decode cX12_stung 40 = .ok (.ifCond .ge 10, 3) := by decide +kernel
theorem dX12_stung_43 : decode cX12_stung 43 = .ok (.aload_n 0, 1) := by decide +kernel
theorem dX12_stung_44 : decode cX12_stung 44 = .ok (.iload_n 1, 1) := by decide +kernel
theorem dX12_stung_45 : decode cX12_stung 45 = .ok (.iconst 0, 1) := by decide +kernel
theorem dX12_stung_46 : decode cX12_stung 46 = .ok (.invokevirtual 299, 3) := by decide +kernel
theorem dX12_stung_49 : decode cX12_stung 49 = .ok (.ireturn, 1) := by decide +kernel
theorem dX12_stung_50 : decode cX12_stung 50 = .ok (.aload_n 0, 1) := by decide +kernel
theorem dX12_stung_51 : decode cX12_stung 51 = .ok (.iload_n 1, 1) := by decide +kernel
theorem dX12_stung_52 : decode cX12_stung 52 = .ok (.iload_n 2, 1) := by decide +kernel
theorem dX12_stung_53 : decode cX12_stung 53 = .ok (.invokevirtual 302, 3) := by decide +kernel
theorem dX12_stung_56 : decode cX12_stung 56 = .ok (.iload 4, 2) := by decide +kernel
theorem dX12_stung_58 : decode cX12_stung 58 = .ok (.ifCond .ne 12, 3) := by decide +kernel
theorem dX12_stung_61 : decode cX12_stung 61 = .ok (.aload_n 0, 1) := by decide +kernel
theorem dX12_stung_62 : decode cX12_stung 62 = .ok (.getfield 70, 3) := by decide +kernel
theorem dX12_stung_65 : decode cX12_stung 65 = .ok (.iload_n 3, 1) := by decide +kernel
theorem dX12_stung_66 : decode cX12_stung 66 = .ok (.iaload, 1) := by decide +kernel
theorem dX12_stung_67 : decode cX12_stung 67 = .ok (.goto 24, 3) := by decide +kernel
theorem dX12_stung_70 : decode cX12_stung 70 = .ok (.iload 4, 2) := by decide +kernel
theorem dX12_stung_72 : decode cX12_stung 72 = .ok (.iconst 1, 1) := by decide +kernel
theorem dX12_stung_73 : decode cX12_stung 73 = .ok (.if_icmp .ne 12, 3) := by decide +kernel
theorem dX12_stung_76 : decode cX12_stung 76 = .ok (.aload_n 0, 1) := by decide +kernel
theorem dX12_stung_77 : decode cX12_stung 77 = .ok (.getfield 73, 3) := by decide +kernel
theorem dX12_stung_80 : decode cX12_stung 80 = .ok (.iload_n 3, 1) := by decide +kernel
theorem dX12_stung_81 : decode cX12_stung 81 = .ok (.iaload, 1) := by decide +kernel
theorem dX12_stung_82 : decode cX12_stung 82 = .ok (.goto 9, 3) := by decide +kernel
theorem dX12_stung_85 : decode cX12_stung 85 = .ok (.aload_n 0, 1) := by decide +kernel
theorem dX12_stung_86 : decode cX12_stung 86 = .ok (.getfield 76, 3) := by decide +kernel
theorem dX12_stung_89 : decode cX12_stung 89 = .ok (.iload_n 3, 1) := by decide +kernel
theorem dX12_stung_90 : decode cX12_stung 90 = .ok (.iaload, 1) := by decide +kernel
theorem dX12_stung_91 : decode cX12_stung 91 = .ok (.ireturn, 1) := by decide +kernel
theorem dX12_reach_0 : decode cX12_reach 0 = .ok (.aload_n 0, 1) := by decide +kernel
theorem dX12_reach_1 : decode cX12_reach 1 = .ok (.aload_n 0, 1) := by decide +kernel
theorem dX12_reach_2 : decode cX12_reach 2 = .ok (.getfield 22, 3) := by decide +kernel
theorem dX12_reach_5 : decode cX12_reach 5 = .ok (.iconst 0, 1) := by decide +kernel
theorem dX12_reach_6 : decode cX12_reach 6 = .ok (.iaload, 1) := by decide +kernel
theorem dX12_reach_7 : decode cX12_reach 7 = .ok (.invokevirtual 255, 3) := by decide +kernel
theorem dX12_reach_10 : decode cX12_reach 10 = .ok (.ireturn, 1) := by decide +kernel
theorem dX12_stungBehind_0 : decode cX12_stungBehind 0 = .ok (.aload_n 0, 1) := by decide +kernel
theorem dX12_stungBehind_1 : decode cX12_stungBehind 1 = .ok (.iload_n 1, 1) := by decide +kernel
theorem dX12_stungBehind_2 : decode cX12_stungBehind 2 = .ok (.iconst 1, 1) := by decide +kernel
theorem dX12_stungBehind_3 : decode cX12_stungBehind 3 = .ok (.invokevirtual 292, 3) := by decide +kernel
theorem dX12_stungBehind_6 : decode cX12_stungBehind 6 = .ok (.iload_n 1, 1) := by decide +kernel
theorem dX12_stungBehind_7 : decode cX12_stungBehind 7 = .ok (.if_icmp .ne 5, 3) := by decide +kernel
theorem dX12_stungBehind_10 : decode cX12_stungBehind 10 = .ok (.iconst 0, 1) := by decide +kernel
theorem dX12_stungBehind_11 : decode cX12_stungBehind 11 = .ok (.ireturn, 1) := by decide +kernel
theorem dX12_stungBehind_12 : decode cX12_stungBehind 12 = .ok (.iconst 1, 1) := by decide +kernel
theorem dX12_stungBehind_13 : decode cX12_stungBehind 13 = .ok (.istore_n 3, 1) := by decide +kernel
theorem dX12_stungBehind_14 : decode cX12_stungBehind 14 = .ok (.iload_n 3, 1) := by decide +kernel
theorem dX12_stungBehind_15 : decode cX12_stungBehind 15 = .ok (.iload_n 2, 1) := by decide +kernel
theorem dX12_stungBehind_16 : decode cX12_stungBehind 16 = .ok (.if_icmp .gt 21, 3) := by decide +kernel
theorem dX12_stungBehind_19 : decode cX12_stungBehind 19 = .ok (.aload_n 0, 1) := by decide +kernel
theorem dX12_stungBehind_20 : decode cX12_stungBehind 20 = .ok (.iload_n 1, 1) := by decide +kernel
theorem dX12_stungBehind_21 : decode cX12_stungBehind 21 = .ok (.iconst 0, 1) := by decide +kernel
theorem dX12_stungBehind_22 : decode cX12_stungBehind 22 = .ok (.invokevirtual 292, 3) := by decide +kernel
theorem dX12_stungBehind_25 : decode cX12_stungBehind 25 = .ok (.iload_n 1, 1) := by decide +kernel
theorem dX12_stungBehind_26 : decode cX12_stungBehind 26 = .ok (.if_icmp .ne 5, 3) := by decide +kernel
theorem dX12_stungBehind_29 : decode cX12_stungBehind 29 = .ok (.iload_n 3, 1) := by decide +kernel
theorem dX12_stungBehind_30 : decode cX12_stungBehind 30 = .ok (.ireturn, 1) := by decide +kernel
theorem dX12_stungBehind_31 : decode cX12_stungBehind 31 = .ok (.iinc 3 1, 3) := by decide +kernel
theorem dX12_stungBehind_34 : decode cX12_stungBehind 34 = .ok (.goto (-20), 3) := by decide +kernel
theorem dX12_stungBehind_37 : decode cX12_stungBehind 37 = .ok (.bipush (-2), 2) := by decide +kernel
theorem dX12_stungBehind_39 : decode cX12_stungBehind 39 = .ok (.ireturn, 1) := by decide +kernel
theorem dX12_soon_0 : decode cX12_soon 0 = .ok (.aload_n 0, 1) := by decide +kernel
theorem dX12_soon_1 : decode cX12_soon 1 = .ok (.iload_n 1, 1) := by decide +kernel
theorem dX12_soon_2 : decode cX12_soon 2 = .ok (.invokevirtual 130, 3) := by decide +kernel
theorem dX12_soon_5 : decode cX12_soon 5 = .ok (.ifCond .ne 5, 3) := by decide +kernel
theorem dX12_soon_8 : decode cX12_soon 8 = .ok (.iconst (-1), 1) := by decide +kernel
theorem dX12_soon_9 : decode cX12_soon 9 = .ok (.ireturn, 1) := by decide +kernel
theorem dX12_soon_10 : decode cX12_soon 10 = .ok (.aload_n 0, 1) := by decide +kernel
theorem dX12_soon_11 : decode cX12_soon 11 = .ok (.iconst 0, 1) := by decide +kernel
theorem dX12_soon_12 : decode cX12_soon 12 = .ok (.invokevirtual 280, 3) := by decide +kernel
theorem dX12_soon_15 : decode cX12_soon 15 = .ok (.aload_n 0, 1) := by decide +kernel
theorem dX12_soon_16 : decode cX12_soon 16 = .ok (.iload_n 1, 1) := by decide +kernel
theorem dX12_soon_17 : decode cX12_soon 17 = .ok (.invokevirtual 273, 3) := by decide +kernel
theorem dX12_soon_20 : decode cX12_soon 20 = .ok (.ifCond .ne 8, 3) := by decide +kernel
theorem dX12_soon_23 : decode cX12_soon 23 = .ok (.bipush (-2), 2) := by decide +kernel
theorem dX12_soon_25 : decode cX12_soon 25 = .ok (.goto 10, 3) := by decide +kernel
theorem dX12_soon_28 : decode cX12_soon 28 = .ok (.aload_n 0, 1) := by decide +kernel
theorem dX12_soon_29 : decode cX12_soon 29 = .ok (.iload_n 1, 1) := by decide +kernel
theorem dX12_soon_30 : decode cX12_soon 30 = .ok (.bipush 24, 2) := by decide +kernel
theorem dX12_soon_32 : decode cX12_soon 32 = .ok (.invokevirtual 305, 3) := by decide +kernel
theorem dX12_soon_35 : decode cX12_soon 35 = .ok (.ireturn, 1) := by decide +kernel
theorem dX12_passOn_0 : decode cX12_passOn 0 = .ok (.iload_n 1, 1) := by decide +kernel
theorem dX12_passOn_1 : decode cX12_passOn 1 = .ok (.invokestatic 141, 3) := by decide +kernel
theorem dX12_passOn_4 : decode cX12_passOn 4 = .ok (.ifCond .eq 20, 3) := by decide +kernel
theorem dX12_passOn_7 : decode cX12_passOn 7 = .ok (.aload_n 0, 1) := by decide +kernel
theorem dX12_passOn_8 : decode cX12_passOn 8 = .ok (.iload_n 2, 1) := by decide +kernel
theorem dX12_passOn_9 : decode cX12_passOn 9 = .ok (.invokevirtual 130, 3) := by decide +kernel
theorem dX12_passOn_12 : decode cX12_passOn 12 = .ok (.ifCond .eq 12, 3) := by decide +kernel
theorem dX12_passOn_15 : decode cX12_passOn 15 = .ok (.iload_n 3, 1) := by decide +kernel
theorem dX12_passOn_16 : decode cX12_passOn 16 = .ok (.iconst 0, 1) := by decide +kernel
theorem dX12_passOn_17 : decode cX12_passOn 17 = .ok (.iconst 1, 1) := by decide +kernel
theorem dX12_passOn_18 : decode cX12_passOn 18 = .ok (.invokestatic 126, 3) := by decide +kernel
theorem dX12_passOn_21 : decode cX12_passOn 21 = .ok (.ifCond .ne 5, 3) := by decide +kernel
theorem dX12_passOn_24 : decode cX12_passOn 24 = .ok (.iconst (-1), 1) := by decide +kernel
theorem dX12_passOn_25 : decode cX12_passOn 25 = .ok (.ireturn, 1) := by decide +kernel
theorem dX12_passOn_26 : decode cX12_passOn 26 = .ok (.aload_n 0, 1) := by decide +kernel
theorem dX12_passOn_27 : decode cX12_passOn 27 = .ok (.iload_n 1, 1) := by decide +kernel
theorem dX12_passOn_28 : decode cX12_passOn 28 = .ok (.iconst 0, 1) := by decide +kernel
theorem dX12_passOn_29 : decode cX12_passOn 29 = .ok (.invokevirtual 299, 3) := by decide +kernel
theorem dX12_passOn_32 : decode cX12_passOn 32 = .ok (.ifCond .ge 10, 3) := by decide +kernel
theorem dX12_passOn_35 : decode cX12_passOn 35 = .ok (.aload_n 0, 1) := by decide +kernel
theorem dX12_passOn_36 : decode cX12_passOn 36 = .ok (.iload_n 1, 1) := by decide +kernel
theorem dX12_passOn_37 : decode cX12_passOn 37 = .ok (.iconst 0, 1) := by decide +kernel
theorem dX12_passOn_38 : decode cX12_passOn 38 = .ok (.invokevirtual 299, 3) := by decide +kernel
theorem dX12_passOn_41 : decode cX12_passOn 41 = .ok (.ireturn, 1) := by decide +kernel
theorem dX12_passOn_42 : decode cX12_passOn 42 = .ok (.bipush (-2), 2) := by decide +kernel
theorem dX12_passOn_44 : decode cX12_passOn 44 = .ok (.istore 4, 2) := by decide +kernel
theorem dX12_passOn_46 : decode cX12_passOn 46 = .ok (.bipush (-2), 2) := by decide +kernel
theorem dX12_passOn_48 : decode cX12_passOn 48 = .ok (.istore 5, 2) := by decide +kernel
theorem dX12_passOn_50 : decode cX12_passOn 50 = .ok (.iconst 0, 1) := by decide +kernel
theorem dX12_passOn_51 : decode cX12_passOn 51 = .ok (.istore 6, 2) := by decide +kernel
theorem dX12_passOn_53 : decode cX12_passOn 53 = .ok (.iload 6, 2) := by decide +kernel
theorem dX12_passOn_55 : decode cX12_passOn 55 = .ok (.aload_n 0, 1) := by decide +kernel
theorem dX12_passOn_56 : decode cX12_passOn 56 = .ok (.getfield 123, 3) := by decide +kernel
theorem dX12_passOn_59 : decode cX12_passOn 59 = .ok (.if_icmp .ge 84, 3) := by decide +kernel
theorem dX12_passOn_62 : decode cX12_passOn 62 = .ok (.iload 6, 2) := by decide +kernel
theorem dX12_passOn_64 : decode cX12_passOn 64 = .ok (.iload_n 2, 1) := by decide +kernel
theorem dX12_passOn_65 : decode cX12_passOn 65 = .ok (.if_icmp .ne 6, 3) := by decide +kernel
theorem dX12_passOn_68 : decode cX12_passOn 68 = .ok (.goto 69, 3) := by decide +kernel
theorem dX12_passOn_71 : decode cX12_passOn 71 = .ok (.aload_n 0, 1) := by decide +kernel
theorem dX12_passOn_72 : decode cX12_passOn 72 = .ok (.iload_n 1, 1) := by decide +kernel
theorem dX12_passOn_73 : decode cX12_passOn 73 = .ok (.bipush 24, 2) := by decide +kernel
theorem dX12_passOn_75 : decode cX12_passOn 75 = .ok (.invokevirtual 302, 3) := by decide +kernel
theorem dX12_passOn_78 : decode cX12_passOn 78 = .ok (.aload_n 0, 1) := by decide +kernel
theorem dX12_passOn_79 : decode cX12_passOn 79 = .ok (.iload_n 2, 1) := by decide +kernel
theorem dX12_passOn_80 : decode cX12_passOn 80 = .ok (.putfield 243, 3) := by decide +kernel
theorem dX12_passOn_83 : decode cX12_passOn 83 = .ok (.aload_n 0, 1) := by decide +kernel
theorem dX12_passOn_84 : decode cX12_passOn 84 = .ok (.iload 6, 2) := by decide +kernel
theorem dX12_passOn_86 : decode cX12_passOn 86 = .ok (.invokevirtual 273, 3) := by decide +kernel
theorem dX12_passOn_89 : decode cX12_passOn 89 = .ok (.ifCond .ne 6, 3) := by decide +kernel
theorem dX12_passOn_92 : decode cX12_passOn 92 = .ok (.goto 45, 3) := by decide +kernel
theorem dX12_passOn_95 : decode cX12_passOn 95 = .ok (.aload_n 0, 1) := by decide +kernel
theorem dX12_passOn_96 : decode cX12_passOn 96 = .ok (.iload 6, 2) := by decide +kernel
theorem dX12_passOn_98 : decode cX12_passOn 98 = .ok (.bipush 23, 2) := by decide +kernel
theorem dX12_passOn_100 : decode cX12_passOn 100 = .ok (.invokevirtual 305, 3) := by decide +kernel
theorem dX12_passOn_103 : decode cX12_passOn 103 = .ok (.istore 7, 2) := by decide +kernel
theorem dX12_passOn_105 : decode cX12_passOn 105 = .ok (.iload 7, 2) := by decide +kernel
theorem dX12_passOn_107 : decode cX12_passOn 107 = .ok (.ifCond .ge 7, 3) := by decide +kernel
theorem dX12_passOn_110 : decode cX12_passOn 110 = .ok (.bipush 24, 2) := by decide +kernel
theorem dX12_passOn_112 : decode cX12_passOn 112 = .ok (.istore 7, 2) := by decide +kernel
theorem dX12_passOn_114 : decode cX12_passOn 114 = .ok (.iload 4, 2) := by decide +kernel
theorem dX12_passOn_116 : decode cX12_passOn 116 = .ok (.ifCond .lt 13, 3) := by decide +kernel
theorem dX12_passOn_119 : decode cX12_passOn 119 = .ok (.iload 7, 2) := by decide +kernel
theorem dX12_passOn_121 : decode cX12_passOn 121 = .ok (.iload 5, 2) := by decide +kernel
theorem dX12_passOn_123 : decode cX12_passOn 123 = .ok (.if_icmp .gt 6, 3) := by decide +kernel
theorem dX12_passOn_126 : decode cX12_passOn 126 = .ok (.goto 11, 3) := by decide +kernel
theorem dX12_passOn_129 : decode cX12_passOn 129 = .ok (.iload 6, 2) := by decide +kernel
theorem dX12_passOn_131 : decode cX12_passOn 131 = .ok (.istore 4, 2) := by decide +kernel
theorem dX12_passOn_133 : decode cX12_passOn 133 = .ok (.iload 7, 2) := by decide +kernel
theorem dX12_passOn_135 : decode cX12_passOn 135 = .ok (.istore 5, 2) := by decide +kernel
theorem dX12_passOn_137 : decode cX12_passOn 137 = .ok (.iinc 6 1, 3) := by decide +kernel
theorem dX12_passOn_140 : decode cX12_passOn 140 = .ok (.goto (-87), 3) := by decide +kernel
theorem dX12_passOn_143 : decode cX12_passOn 143 = .ok (.iload_n 3, 1) := by decide +kernel
theorem dX12_passOn_144 : decode cX12_passOn 144 = .ok (.ifCond .ne 8, 3) := by decide +kernel
theorem dX12_passOn_147 : decode cX12_passOn 147 = .ok (.iload 4, 2) := by decide +kernel
theorem dX12_passOn_149 : decode cX12_passOn 149 = .ok (.goto 5, 3) := by decide +kernel
theorem dX12_passOn_152 : decode cX12_passOn 152 = .ok (.iload 5, 2) := by decide +kernel
theorem dX12_passOn_154 : decode cX12_passOn 154 = .ok (.ireturn, 1) := by decide +kernel
theorem dX12_goOrders_0 : decode cX12_goOrders 0 = .ok (.iload_n 2, 1) := by decide +kernel
theorem dX12_goOrders_1 : decode cX12_goOrders 1 = .ok (.aload_n 0, 1) := by decide +kernel
theorem dX12_goOrders_2 : decode cX12_goOrders 2 = .ok (.getfield 308, 3) := by decide +kernel
theorem dX12_goOrders_5 : decode cX12_goOrders 5 = .ok (.if_icmp .ne 71, 3) := by decide +kernel
theorem dX12_goOrders_8 : decode cX12_goOrders 8 = .ok (.iload 4, 2) := by decide +kernel
theorem dX12_goOrders_10 : decode cX12_goOrders 10 = .ok (.ifCond .ne 13, 3) := by decide +kernel
theorem dX12_goOrders_13 : decode cX12_goOrders 13 = .ok (.aload_n 0, 1) := by decide +kernel
theorem dX12_goOrders_14 : decode cX12_goOrders 14 = .ok (.dup, 1) := by decide +kernel
theorem dX12_goOrders_15 : decode cX12_goOrders 15 = .ok (.getfield 311, 3) := by decide +kernel
theorem dX12_goOrders_18 : decode cX12_goOrders 18 = .ok (.iconst 1, 1) := by decide +kernel
theorem dX12_goOrders_19 : decode cX12_goOrders 19 = .ok (.iadd, 1) := by decide +kernel
theorem dX12_goOrders_20 : decode cX12_goOrders 20 = .ok (.putfield 311, 3) := by decide +kernel
theorem dX12_goOrders_23 : decode cX12_goOrders 23 = .ok (.aload_n 0, 1) := by decide +kernel
theorem dX12_goOrders_24 : decode cX12_goOrders 24 = .ok (.getfield 314, 3) := by decide +kernel
theorem dX12_goOrders_27 : decode cX12_goOrders 27 = .ok (.ifCond .lt 13, 3) := by decide +kernel
theorem dX12_goOrders_30 : decode cX12_goOrders 30 = .ok (.iload 4, 2) := by decide +kernel
theorem dX12_goOrders_32 : decode cX12_goOrders 32 = .ok (.aload_n 0, 1) := by decide +kernel
theorem dX12_goOrders_33 : decode cX12_goOrders 33 = .ok (.getfield 314, 3) := by decide +kernel
theorem dX12_goOrders_36 : decode cX12_goOrders 36 = .ok (.if_icmp .lt 4, 3) := by decide +kernel
theorem dX12_goOrders_39 : decode cX12_goOrders 39 = .ok (.return_, 1) := by decide +kernel
theorem dX12_goOrders_40 : decode cX12_goOrders 40 = .ok (.aload_n 0, 1) := by decide +kernel
theorem dX12_goOrders_41 : decode cX12_goOrders 41 = .ok (.iload 4, 2) := by decide +kernel
theorem dX12_goOrders_43 : decode cX12_goOrders 43 = .ok (.putfield 314, 3) := by decide +kernel
theorem dX12_goOrders_46 : decode cX12_goOrders 46 = .ok (.iconst 0, 1) := by decide +kernel
theorem dX12_goOrders_47 : decode cX12_goOrders 47 = .ok (.istore 5, 2) := by decide +kernel
theorem dX12_goOrders_49 : decode cX12_goOrders 49 = .ok (.iload 5, 2) := by decide +kernel
theorem dX12_goOrders_51 : decode cX12_goOrders 51 = .ok (.iload_n 2, 1) := by decide +kernel
theorem dX12_goOrders_52 : decode cX12_goOrders 52 = .ok (.if_icmp .ge 23, 3) := by decide +kernel
theorem dX12_goOrders_55 : decode cX12_goOrders 55 = .ok (.aload_n 0, 1) := by decide +kernel
theorem dX12_goOrders_56 : decode cX12_goOrders 56 = .ok (.getfield 82, 3) := by decide +kernel
theorem dX12_goOrders_59 : decode cX12_goOrders 59 = .ok (.iload 5, 2) := by decide +kernel
theorem dX12_goOrders_61 : decode cX12_goOrders 61 = .ok (.aload_n 0, 1) := by decide +kernel
theorem dX12_goOrders_62 : decode cX12_goOrders 62 = .ok (.getfield 79, 3) := by decide +kernel
theorem dX12_goOrders_65 : decode cX12_goOrders 65 = .ok (.iload 5, 2) := by decide +kernel
theorem dX12_goOrders_67 : decode cX12_goOrders 67 = .ok (.iaload, 1) := by decide +kernel
theorem dX12_goOrders_68 : decode cX12_goOrders 68 = .ok (.iastore, 1) := by decide +kernel
theorem dX12_goOrders_69 : decode cX12_goOrders 69 = .ok (.iinc 5 1, 3) := by decide +kernel
theorem dX12_goOrders_72 : decode cX12_goOrders 72 = .ok (.goto (-23), 3) := by decide +kernel
theorem dX12_goOrders_75 : decode cX12_goOrders 75 = .ok (.return_, 1) := by decide +kernel
theorem dX12_goOrders_76 : decode cX12_goOrders 76 = .ok (.aload_n 0, 1) := by decide +kernel
theorem dX12_goOrders_77 : decode cX12_goOrders 77 = .ok (.getfield 240, 3) := by decide +kernel
theorem dX12_goOrders_80 : decode cX12_goOrders 80 = .ok (.istore 5, 2) := by decide +kernel
theorem dX12_goOrders_82 : decode cX12_goOrders 82 = .ok (.aload_n 0, 1) := by decide +kernel
theorem dX12_goOrders_83 : decode cX12_goOrders 83 = .ok (.getfield 243, 3) := by decide +kernel
theorem dX12_goOrders_86 : decode cX12_goOrders 86 = .ok (.istore 6, 2) := by decide +kernel
theorem dX12_goOrders_88 : decode cX12_goOrders 88 = .ok (.aload_n 0, 1) := by decide +kernel
theorem dX12_goOrders_89 : decode cX12_goOrders 89 = .ok (.getfield 246, 3) := by decide +kernel
theorem dX12_goOrders_92 : decode cX12_goOrders 92 = .ok (.istore 7, 2) := by decide +kernel
theorem dX12_goOrders_94 : decode cX12_goOrders 94 = .ok (.aload_n 0, 1) := by decide +kernel
theorem dX12_goOrders_95 : decode cX12_goOrders 95 = .ok (.getfield 249, 3) := by decide +kernel
theorem dX12_goOrders_98 : decode cX12_goOrders 98 = .ok (.istore 8, 2) := by decide +kernel
theorem dX12_goOrders_100 : decode cX12_goOrders 100 = .ok (.iconst 0, 1) := by decide +kernel
theorem dX12_goOrders_101 : decode cX12_goOrders 101 = .ok (.istore 9, 2) := by decide +kernel
theorem dX12_goOrders_103 : decode cX12_goOrders 103 = .ok (.iload 9, 2) := by decide +kernel
theorem dX12_goOrders_105 : decode cX12_goOrders 105 = .ok (.aload_n 0, 1) := by decide +kernel
theorem dX12_goOrders_106 : decode cX12_goOrders 106 = .ok (.getfield 308, 3) := by decide +kernel
theorem dX12_goOrders_109 : decode cX12_goOrders 109 = .ok (.if_icmp .ge 147, 3) := by decide +kernel
theorem dX12_goOrders_112 : decode cX12_goOrders 112 = .ok (.iload_n 3, 1) := by decide +kernel
theorem dX12_goOrders_113 : decode cX12_goOrders 113 = .ok (.iload 9, 2) := by decide +kernel
theorem dX12_goOrders_115 : decode cX12_goOrders 115 = .ok (.ishr, 1) := by decide +kernel
theorem dX12_goOrders_116 : decode cX12_goOrders 116 = .ok (.iconst 1, 1) := by decide +kernel
theorem dX12_goOrders_117 : decode cX12_goOrders 117 = .ok (.iand, 1) := by decide +kernel
theorem dX12_goOrders_118 : decode cX12_goOrders 118 = .ok (.iconst 1, 1) := by decide +kernel
theorem dX12_goOrders_119 : decode cX12_goOrders 119 = .ok (.if_icmp .ne 6, 3) := by decide +kernel
theorem dX12_goOrders_122 : decode cX12_goOrders 122 = .ok (.goto 128, 3) := by decide +kernel
theorem dX12_goOrders_125 : decode cX12_goOrders 125 = .ok (.aload_n 0, 1) := by decide +kernel
theorem dX12_goOrders_126 : decode cX12_goOrders 126 = .ok (.getfield 79, 3) := by decide +kernel
theorem dX12_goOrders_129 : decode cX12_goOrders 129 = .ok (.iload_n 2, 1) := by decide +kernel
theorem dX12_goOrders_130 : decode cX12_goOrders 130 = .ok (.iload 9, 2) := by decide +kernel
theorem dX12_goOrders_132 : decode cX12_goOrders 132 = .ok (.iastore, 1) := by decide +kernel
theorem dX12_goOrders_133 : decode cX12_goOrders 133 = .ok (.aload_n 0, 1) := by decide +kernel
theorem dX12_goOrders_134 : decode cX12_goOrders 134 = .ok (.aload_n 0, 1) := by decide +kernel
theorem dX12_goOrders_135 : decode cX12_goOrders 135 = .ok (.iload_n 1, 1) := by decide +kernel
theorem dX12_goOrders_136 : decode cX12_goOrders 136 = .ok (.iload 9, 2) := by decide +kernel
theorem dX12_goOrders_138 : decode cX12_goOrders 138 = .ok (.invokevirtual 283, 3) := by decide +kernel
theorem dX12_goOrders_141 : decode cX12_goOrders 141 = .ok (.iconst 2, 1) := by decide +kernel
theorem dX12_goOrders_142 : decode cX12_goOrders 142 = .ok (.idiv, 1) := by decide +kernel
theorem dX12_goOrders_143 : decode cX12_goOrders 143 = .ok (.aload_n 0, 1) := by decide +kernel
theorem dX12_goOrders_144 : decode cX12_goOrders 144 = .ok (.iload_n 1, 1) := by decide +kernel
theorem dX12_goOrders_145 : decode cX12_goOrders 145 = .ok (.iload 9, 2) := by decide +kernel
theorem dX12_goOrders_147 : decode cX12_goOrders 147 = .ok (.invokevirtual 283, 3) := by decide +kernel
theorem dX12_goOrders_150 : decode cX12_goOrders 150 = .ok (.iconst 2, 1) := by decide +kernel
theorem dX12_goOrders_151 : decode cX12_goOrders 151 = .ok (.irem, 1) := by decide +kernel
theorem dX12_goOrders_152 : decode cX12_goOrders 152 = .ok (.iconst 1, 1) := by decide +kernel
theorem dX12_goOrders_153 : decode cX12_goOrders 153 = .ok (.if_icmp .ne 7, 3) := by decide +kernel
theorem dX12_goOrders_156 : decode cX12_goOrders 156 = .ok (.iconst 1, 1) := by decide +kernel
theorem dX12_goOrders_157 : decode cX12_goOrders 157 = .ok (.goto 4, 3) := by decide +kernel
theorem dX12_goOrders_160 : decode cX12_goOrders 160 = .ok (.iconst 0, 1) := by decide +kernel
theorem dX12_goOrders_161 : decode cX12_goOrders 161 = .ok (.invokevirtual 292, 3) := by decide +kernel
theorem dX12_goOrders_164 : decode cX12_goOrders 164 = .ok (.istore 10, 2) := by decide +kernel
theorem dX12_goOrders_166 : decode cX12_goOrders 166 = .ok (.aload_n 0, 1) := by decide +kernel
theorem dX12_goOrders_167 : decode cX12_goOrders 167 = .ok (.getfield 267, 3) := by decide +kernel
theorem dX12_goOrders_170 : decode cX12_goOrders 170 = .ok (.istore 11, 2) := by decide +kernel
theorem dX12_goOrders_172 : decode cX12_goOrders 172 = .ok (.aload_n 0, 1) := by decide +kernel
theorem dX12_goOrders_173 : decode cX12_goOrders 173 = .ok (.iload_n 1, 1) := by decide +kernel
theorem dX12_goOrders_174 : decode cX12_goOrders 174 = .ok (.iload_n 2, 1) := by decide +kernel
theorem dX12_goOrders_175 : decode cX12_goOrders 175 = .ok (.iconst 1, 1) := by decide +kernel
theorem dX12_goOrders_176 : decode cX12_goOrders 176 = .ok (.iadd, 1) := by decide +kernel
theorem dX12_goOrders_177 : decode cX12_goOrders 177 = .ok (.iload_n 3, 1) := by decide +kernel
theorem dX12_goOrders_178 : decode cX12_goOrders 178 = .ok (.iconst 1, 1) := by decide +kernel
theorem dX12_goOrders_179 : decode cX12_goOrders 179 = .ok (.iload 9, 2) := by decide +kernel
theorem dX12_goOrders_181 : decode cX12_goOrders 181 = .ok (.ishl, 1) := by decide +kernel
theorem dX12_goOrders_182 : decode cX12_goOrders 182 = .ok (.ior, 1) := by decide +kernel
theorem dX12_goOrders_183 : decode cX12_goOrders 183 = .ok (.iload 10, 2) := by decide +kernel
theorem dX12_goOrders_185 : decode cX12_goOrders 185 = .ok (.ifCond .lt 15, 3) := by decide +kernel
theorem dX12_goOrders_188 : decode cX12_goOrders 188 = .ok (.iload 11, 2) := by decide +kernel
theorem dX12_goOrders_190 : decode cX12_goOrders 190 = .ok (.ifCond .eq 10, 3) := by decide +kernel
theorem dX12_goOrders_193 : decode cX12_goOrders 193 = .ok (.iload 4, 2) := by decide +kernel
theorem dX12_goOrders_195 : decode cX12_goOrders 195 = .ok (.iconst 1, 1) := by decide +kernel
theorem dX12_goOrders_196 : decode cX12_goOrders 196 = .ok (.iadd, 1) := by decide +kernel
theorem dX12_goOrders_197 : decode cX12_goOrders 197 = .ok (.goto 5, 3) := by decide +kernel
theorem dX12_goOrders_200 : decode cX12_goOrders 200 = .ok (.iload 4, 2) := by decide +kernel
theorem dX12_goOrders_202 : decode cX12_goOrders 202 = .ok (.invokevirtual 317, 3) := by decide +kernel
theorem dX12_goOrders_205 : decode cX12_goOrders 205 = .ok (.iload 10, 2) := by decide +kernel
theorem dX12_goOrders_207 : decode cX12_goOrders 207 = .ok (.ifCond .lt 19, 3) := by decide +kernel
theorem dX12_goOrders_210 : decode cX12_goOrders 210 = .ok (.iload 11, 2) := by decide +kernel
theorem dX12_goOrders_212 : decode cX12_goOrders 212 = .ok (.ifCond .ne 14, 3) := by decide +kernel
theorem dX12_goOrders_215 : decode cX12_goOrders 215 = .ok (.aload_n 0, 1) := by decide +kernel
theorem dX12_goOrders_216 : decode cX12_goOrders 216 = .ok (.getfield 67, 3) := by decide +kernel
theorem dX12_goOrders_219 : decode cX12_goOrders 219 = .ok (.iload 10, 2) := by decide +kernel
theorem dX12_goOrders_221 : decode cX12_goOrders 221 = .ok (.dup2, 1) := by decide +kernel
theorem dX12_goOrders_222 : decode cX12_goOrders 222 = .ok (.iaload, 1) := by decide +kernel
theorem dX12_goOrders_223 : decode cX12_goOrders 223 = .ok (.iconst 1, 1) := by decide +kernel
theorem dX12_goOrders_224 : decode cX12_goOrders 224 = .ok (.iadd, 1) := by decide +kernel
theorem dX12_goOrders_225 : decode cX12_goOrders 225 = .ok (.iastore, 1) := by decide +kernel
theorem dX12_goOrders_226 : decode cX12_goOrders 226 = .ok (.aload_n 0, 1) := by decide +kernel
theorem dX12_goOrders_227 : decode cX12_goOrders 227 = .ok (.iload 5, 2) := by decide +kernel
theorem dX12_goOrders_229 : decode cX12_goOrders 229 = .ok (.putfield 240, 3) := by decide +kernel
theorem dX12_goOrders_232 : decode cX12_goOrders 232 = .ok (.aload_n 0, 1) := by decide +kernel
theorem dX12_goOrders_233 : decode cX12_goOrders 233 = .ok (.iload 6, 2) := by decide +kernel
theorem dX12_goOrders_235 : decode cX12_goOrders 235 = .ok (.putfield 243, 3) := by decide +kernel
theorem dX12_goOrders_238 : decode cX12_goOrders 238 = .ok (.aload_n 0, 1) := by decide +kernel
theorem dX12_goOrders_239 : decode cX12_goOrders 239 = .ok (.iload 7, 2) := by decide +kernel
theorem dX12_goOrders_241 : decode cX12_goOrders 241 = .ok (.putfield 246, 3) := by decide +kernel
theorem dX12_goOrders_244 : decode cX12_goOrders 244 = .ok (.aload_n 0, 1) := by decide +kernel
theorem dX12_goOrders_245 : decode cX12_goOrders 245 = .ok (.iload 8, 2) := by decide +kernel
theorem dX12_goOrders_247 : decode cX12_goOrders 247 = .ok (.putfield 249, 3) := by decide +kernel
theorem dX12_goOrders_250 : decode cX12_goOrders 250 = .ok (.iinc 9 1, 3) := by decide +kernel
theorem dX12_goOrders_253 : decode cX12_goOrders 253 = .ok (.goto (-150), 3) := by decide +kernel
theorem dX12_goOrders_256 : decode cX12_goOrders 256 = .ok (.return_, 1) := by decide +kernel
theorem dX12_orders_0 : decode cX12_orders 0 = .ok (.iload_n 1, 1) := by decide +kernel
theorem dX12_orders_1 : decode cX12_orders 1 = .ok (.invokestatic 141, 3) := by decide +kernel
theorem dX12_orders_4 : decode cX12_orders 4 = .ok (.ifCond .eq 9, 3) := by decide +kernel
theorem dX12_orders_7 : decode cX12_orders 7 = .ok (.iload_n 2, 1) := by decide +kernel
theorem dX12_orders_8 : decode cX12_orders 8 = .ok (.bipush (-2), 2) := by decide +kernel
theorem dX12_orders_10 : decode cX12_orders 10 = .ok (.if_icmp .ge 5, 3) := by decide +kernel
theorem dX12_orders_13 : decode cX12_orders 13 = .ok (.iconst (-1), 1) := by decide +kernel
theorem dX12_orders_14 : decode cX12_orders 14 = .ok (.ireturn, 1) := by decide +kernel
theorem dX12_orders_15 : decode cX12_orders 15 = .ok (.aload_n 0, 1) := by decide +kernel
theorem dX12_orders_16 : decode cX12_orders 16 = .ok (.iload_n 1, 1) := by decide +kernel
theorem dX12_orders_17 : decode cX12_orders 17 = .ok (.iconst 0, 1) := by decide +kernel
theorem dX12_orders_18 : decode cX12_orders 18 = .ok (.invokevirtual 299, 3) := by decide +kernel
theorem dX12_orders_21 : decode cX12_orders 21 = .ok (.ifCond .ge 10, 3) := by decide +kernel
theorem dX12_orders_24 : decode cX12_orders 24 = .ok (.aload_n 0, 1) := by decide +kernel
theorem dX12_orders_25 : decode cX12_orders 25 = .ok (.iload_n 1, 1) := by decide +kernel
theorem dX12_orders_26 : decode cX12_orders 26 = .ok (.iconst 0, 1) := by decide +kernel
theorem dX12_orders_27 : decode cX12_orders 27 = .ok (.invokevirtual 299, 3) := by decide +kernel
theorem dX12_orders_30 : decode cX12_orders 30 = .ok (.ireturn, 1) := by decide +kernel
theorem dX12_orders_31 : decode cX12_orders 31 = .ok (.aload_n 0, 1) := by decide +kernel
theorem dX12_orders_32 : decode cX12_orders 32 = .ok (.aload_n 0, 1) := by decide +kernel
theorem dX12_orders_33 : decode cX12_orders 33 = .ok (.iload_n 1, 1) := by decide +kernel
theorem dX12_orders_34 : decode cX12_orders 34 = .ok (.bipush 24, 2) := by decide +kernel
theorem dX12_orders_36 : decode cX12_orders 36 = .ok (.invokevirtual 289, 3) := by decide +kernel
theorem dX12_orders_39 : decode cX12_orders 39 = .ok (.putfield 308, 3) := by decide +kernel
theorem dX12_orders_42 : decode cX12_orders 42 = .ok (.aload_n 0, 1) := by decide +kernel
theorem dX12_orders_43 : decode cX12_orders 43 = .ok (.getfield 308, 3) := by decide +kernel
theorem dX12_orders_46 : decode cX12_orders 46 = .ok (.bipush 7, 2) := by decide +kernel
theorem dX12_orders_48 : decode cX12_orders 48 = .ok (.if_icmp .le 6, 3) := by decide +kernel
theorem dX12_orders_51 : decode cX12_orders 51 = .ok (.bipush (-5), 2) := by decide +kernel
theorem dX12_orders_53 : decode cX12_orders 53 = .ok (.ireturn, 1) := by decide +kernel
theorem dX12_orders_54 : decode cX12_orders 54 = .ok (.aload_n 0, 1) := by decide +kernel
theorem dX12_orders_55 : decode cX12_orders 55 = .ok (.iconst 0, 1) := by decide +kernel
theorem dX12_orders_56 : decode cX12_orders 56 = .ok (.invokevirtual 280, 3) := by decide +kernel
theorem dX12_orders_59 : decode cX12_orders 59 = .ok (.aload_n 0, 1) := by decide +kernel
theorem dX12_orders_60 : decode cX12_orders 60 = .ok (.iconst (-1), 1) := by decide +kernel
theorem dX12_orders_61 : decode cX12_orders 61 = .ok (.putfield 314, 3) := by decide +kernel
theorem dX12_orders_64 : decode cX12_orders 64 = .ok (.aload_n 0, 1) := by decide +kernel
theorem dX12_orders_65 : decode cX12_orders 65 = .ok (.iconst 0, 1) := by decide +kernel
theorem dX12_orders_66 : decode cX12_orders 66 = .ok (.putfield 311, 3) := by decide +kernel
theorem dX12_orders_69 : decode cX12_orders 69 = .ok (.aload_n 0, 1) := by decide +kernel
theorem dX12_orders_70 : decode cX12_orders 70 = .ok (.iload_n 1, 1) := by decide +kernel
theorem dX12_orders_71 : decode cX12_orders 71 = .ok (.iconst 0, 1) := by decide +kernel
theorem dX12_orders_72 : decode cX12_orders 72 = .ok (.iconst 0, 1) := by decide +kernel
theorem dX12_orders_73 : decode cX12_orders 73 = .ok (.iconst 0, 1) := by decide +kernel
theorem dX12_orders_74 : decode cX12_orders 74 = .ok (.invokevirtual 317, 3) := by decide +kernel
theorem dX12_orders_77 : decode cX12_orders 77 = .ok (.iload_n 2, 1) := by decide +kernel
theorem dX12_orders_78 : decode cX12_orders 78 = .ok (.bipush (-2), 2) := by decide +kernel
theorem dX12_orders_80 : decode cX12_orders 80 = .ok (.if_icmp .ne 8, 3) := by decide +kernel
theorem dX12_orders_83 : decode cX12_orders 83 = .ok (.aload_n 0, 1) := by decide +kernel
theorem dX12_orders_84 : decode cX12_orders 84 = .ok (.getfield 311, 3) := by decide +kernel
theorem dX12_orders_87 : decode cX12_orders 87 = .ok (.ireturn, 1) := by decide +kernel
theorem dX12_orders_88 : decode cX12_orders 88 = .ok (.iload_n 2, 1) := by decide +kernel
theorem dX12_orders_89 : decode cX12_orders 89 = .ok (.ifCond .ge 10, 3) := by decide +kernel
theorem dX12_orders_92 : decode cX12_orders 92 = .ok (.aload_n 0, 1) := by decide +kernel
theorem dX12_orders_93 : decode cX12_orders 93 = .ok (.getfield 314, 3) := by decide +kernel
theorem dX12_orders_96 : decode cX12_orders 96 = .ok (.goto 22, 3) := by decide +kernel
theorem dX12_orders_99 : decode cX12_orders 99 = .ok (.iload_n 2, 1) := by decide +kernel
theorem dX12_orders_100 : decode cX12_orders 100 = .ok (.aload_n 0, 1) := by decide +kernel
theorem dX12_orders_101 : decode cX12_orders 101 = .ok (.getfield 308, 3) := by decide +kernel
theorem dX12_orders_104 : decode cX12_orders 104 = .ok (.if_icmp .ge 12, 3) := by decide +kernel
theorem dX12_orders_107 : decode cX12_orders 107 = .ok (.aload_n 0, 1) := by decide +kernel
theorem dX12_orders_108 : decode cX12_orders 108 = .ok (.getfield 82, 3) := by decide +kernel
theorem dX12_orders_111 : decode cX12_orders 111 = .ok (.iload_n 2, 1) := by decide +kernel
theorem dX12_orders_112 : decode cX12_orders 112 = .ok (.iaload, 1) := by decide +kernel
theorem dX12_orders_113 : decode cX12_orders 113 = .ok (.goto 5, 3) := by decide +kernel
theorem dX12_orders_116 : decode cX12_orders 116 = .ok (.bipush (-2), 2) := by decide +kernel
theorem dX12_orders_118 : decode cX12_orders 118 = .ok (.ireturn, 1) := by decide +kernel
theorem dX12_stand_0 : decode cX12_stand 0 = .ok (.iload_n 1, 1) := by decide +kernel
theorem dX12_stand_1 : decode cX12_stand 1 = .ok (.invokestatic 141, 3) := by decide +kernel
theorem dX12_stand_4 : decode cX12_stand 4 = .ok (.ifCond .eq 20, 3) := by decide +kernel
theorem dX12_stand_7 : decode cX12_stand 7 = .ok (.aload_n 0, 1) := by decide +kernel
theorem dX12_stand_8 : decode cX12_stand 8 = .ok (.iload_n 2, 1) := by decide +kernel
theorem dX12_stand_9 : decode cX12_stand 9 = .ok (.invokevirtual 130, 3) := by decide +kernel
theorem dX12_stand_12 : decode cX12_stand 12 = .ok (.ifCond .eq 12, 3) := by decide +kernel
theorem dX12_stand_15 : decode cX12_stand 15 = .ok (.iload_n 3, 1) := by decide +kernel
theorem dX12_stand_16 : decode cX12_stand 16 = .ok (.iconst 0, 1) := by decide +kernel
theorem dX12_stand_17 : decode cX12_stand 17 = .ok (.iconst 1, 1) := by decide +kernel
theorem dX12_stand_18 : decode cX12_stand 18 = .ok (.invokestatic 126, 3) := by decide +kernel
theorem dX12_stand_21 : decode cX12_stand 21 = .ok (.ifCond .ne 5, 3) := by decide +kernel
theorem dX12_stand_24 : decode cX12_stand 24 = .ok (.iconst (-1), 1) := by decide +kernel
theorem dX12_stand_25 : decode cX12_stand 25 = .ok (.ireturn, 1) := by decide +kernel
theorem dX12_stand_26 : decode cX12_stand 26 = .ok (.aload_n 0, 1) := by decide +kernel
theorem dX12_stand_27 : decode cX12_stand 27 = .ok (.iload_n 1, 1) := by decide +kernel
theorem dX12_stand_28 : decode cX12_stand 28 = .ok (.iconst 0, 1) := by decide +kernel
theorem dX12_stand_29 : decode cX12_stand 29 = .ok (.invokevirtual 299, 3) := by decide +kernel
theorem dX12_stand_32 : decode cX12_stand 32 = .ok (.ifCond .ge 10, 3) := by decide +kernel
theorem dX12_stand_35 : decode cX12_stand 35 = .ok (.aload_n 0, 1) := by decide +kernel
theorem dX12_stand_36 : decode cX12_stand 36 = .ok (.iload_n 1, 1) := by decide +kernel
theorem dX12_stand_37 : decode cX12_stand 37 = .ok (.iconst 0, 1) := by decide +kernel
theorem dX12_stand_38 : decode cX12_stand 38 = .ok (.invokevirtual 299, 3) := by decide +kernel
theorem dX12_stand_41 : decode cX12_stand 41 = .ok (.ireturn, 1) := by decide +kernel
theorem dX12_stand_42 : decode cX12_stand 42 = .ok (.aload_n 0, 1) := by decide +kernel
theorem dX12_stand_43 : decode cX12_stand 43 = .ok (.getfield 7, 3) := by decide +kernel
theorem dX12_stand_46 : decode cX12_stand 46 = .ok (.iload_n 2, 1) := by decide +kernel
theorem dX12_stand_47 : decode cX12_stand 47 = .ok (.iaload, 1) := by decide +kernel
theorem dX12_stand_48 : decode cX12_stand 48 = .ok (.istore 4, 2) := by decide +kernel
theorem dX12_stand_50 : decode cX12_stand 50 = .ok (.bipush (-2), 2) := by decide +kernel
theorem dX12_stand_52 : decode cX12_stand 52 = .ok (.istore 5, 2) := by decide +kernel
theorem dX12_stand_54 : decode cX12_stand 54 = .ok (.iconst 0, 1) := by decide +kernel
theorem dX12_stand_55 : decode cX12_stand 55 = .ok (.istore 6, 2) := by decide +kernel
theorem dX12_stand_57 : decode cX12_stand 57 = .ok (.iconst 0, 1) := by decide +kernel
theorem dX12_stand_58 : decode cX12_stand 58 = .ok (.istore 7, 2) := by decide +kernel
theorem dX12_stand_60 : decode cX12_stand 60 = .ok (.iload 7, 2) := by decide +kernel
theorem dX12_stand_62 : decode cX12_stand 62 = .ok (.sipush 256, 3) := by decide +kernel
theorem dX12_stand_65 : decode cX12_stand 65 = .ok (.if_icmp .ge 48, 3) := by decide +kernel
theorem dX12_stand_68 : decode cX12_stand 68 = .ok (.aload_n 0, 1) := by decide +kernel
theorem dX12_stand_69 : decode cX12_stand 69 = .ok (.getfield 7, 3) := by decide +kernel
theorem dX12_stand_72 : decode cX12_stand 72 = .ok (.iload_n 2, 1) := by decide +kernel
theorem dX12_stand_73 : decode cX12_stand 73 = .ok (.iload 7, 2) := by decide +kernel
theorem dX12_stand_75 : decode cX12_stand 75 = .ok (.iastore, 1) := by decide +kernel
theorem dX12_stand_76 : decode cX12_stand 76 = .ok (.aload_n 0, 1) := by decide +kernel
theorem dX12_stand_77 : decode cX12_stand 77 = .ok (.iload_n 1, 1) := by decide +kernel
theorem dX12_stand_78 : decode cX12_stand 78 = .ok (.bipush 24, 2) := by decide +kernel
theorem dX12_stand_80 : decode cX12_stand 80 = .ok (.invokevirtual 302, 3) := by decide +kernel
theorem dX12_stand_83 : decode cX12_stand 83 = .ok (.aload_n 0, 1) := by decide +kernel
theorem dX12_stand_84 : decode cX12_stand 84 = .ok (.getfield 70, 3) := by decide +kernel
theorem dX12_stand_87 : decode cX12_stand 87 = .ok (.iload_n 2, 1) := by decide +kernel
theorem dX12_stand_88 : decode cX12_stand 88 = .ok (.iaload, 1) := by decide +kernel
theorem dX12_stand_89 : decode cX12_stand 89 = .ok (.ifCond .le 6, 3) := by decide +kernel
theorem dX12_stand_92 : decode cX12_stand 92 = .ok (.goto 15, 3) := by decide +kernel
theorem dX12_stand_95 : decode cX12_stand 95 = .ok (.iload 6, 2) := by decide +kernel
theorem dX12_stand_97 : decode cX12_stand 97 = .ok (.ifCond .ne 7, 3) := by decide +kernel
theorem dX12_stand_100 : decode cX12_stand 100 = .ok (.iload 7, 2) := by decide +kernel
theorem dX12_stand_102 : decode cX12_stand 102 = .ok (.istore 5, 2) := by decide +kernel
theorem dX12_stand_104 : decode cX12_stand 104 = .ok (.iinc 6 1, 3) := by decide +kernel
theorem dX12_stand_107 : decode cX12_stand 107 = .ok (.iinc 7 1, 3) := by decide +kernel
theorem dX12_stand_110 : decode cX12_stand 110 = .ok (.goto (-50), 3) := by decide +kernel
theorem dX12_stand_113 : decode cX12_stand 113 = .ok (.aload_n 0, 1) := by decide +kernel
theorem dX12_stand_114 : decode cX12_stand 114 = .ok (.getfield 7, 3) := by decide +kernel
theorem dX12_stand_117 : decode cX12_stand 117 = .ok (.iload_n 2, 1) := by decide +kernel
theorem dX12_stand_118 : decode cX12_stand 118 = .ok (.iload 4, 2) := by decide +kernel
theorem dX12_stand_120 : decode cX12_stand 120 = .ok (.iastore, 1) := by decide +kernel
theorem dX12_stand_121 : decode cX12_stand 121 = .ok (.iload_n 3, 1) := by decide +kernel
theorem dX12_stand_122 : decode cX12_stand 122 = .ok (.ifCond .ne 8, 3) := by decide +kernel
theorem dX12_stand_125 : decode cX12_stand 125 = .ok (.iload 5, 2) := by decide +kernel
theorem dX12_stand_127 : decode cX12_stand 127 = .ok (.goto 5, 3) := by decide +kernel
theorem dX12_stand_130 : decode cX12_stand 130 = .ok (.iload 6, 2) := by decide +kernel
theorem dX12_stand_132 : decode cX12_stand 132 = .ok (.ireturn, 1) := by decide +kernel
theorem dX12_bitOf_0 : decode cX12_bitOf 0 = .ok (.iload_n 1, 1) := by decide +kernel
theorem dX12_bitOf_1 : decode cX12_bitOf 1 = .ok (.aload_n 0, 1) := by decide +kernel
theorem dX12_bitOf_2 : decode cX12_bitOf 2 = .ok (.getfield 321, 3) := by decide +kernel
theorem dX12_bitOf_5 : decode cX12_bitOf 5 = .ok (.if_icmp .ne 7, 3) := by decide +kernel
theorem dX12_bitOf_8 : decode cX12_bitOf 8 = .ok (.iconst 1, 1) := by decide +kernel
theorem dX12_bitOf_9 : decode cX12_bitOf 9 = .ok (.goto 16, 3) := by decide +kernel
theorem dX12_bitOf_12 : decode cX12_bitOf 12 = .ok (.iload_n 1, 1) := by decide +kernel
theorem dX12_bitOf_13 : decode cX12_bitOf 13 = .ok (.aload_n 0, 1) := by decide +kernel
theorem dX12_bitOf_14 : decode cX12_bitOf 14 = .ok (.getfield 324, 3) := by decide +kernel
theorem dX12_bitOf_17 : decode cX12_bitOf 17 = .ok (.if_icmp .ne 7, 3) := by decide +kernel
theorem dX12_bitOf_20 : decode cX12_bitOf 20 = .ok (.iconst 2, 1) := by decide +kernel
theorem dX12_bitOf_21 : decode cX12_bitOf 21 = .ok (.goto 4, 3) := by decide +kernel
theorem dX12_bitOf_24 : decode cX12_bitOf 24 = .ok (.iconst 0, 1) := by decide +kernel
theorem dX12_bitOf_25 : decode cX12_bitOf 25 = .ok (.ireturn, 1) := by decide +kernel
theorem dX12_likes_0 : decode cX12_likes 0 = .ok (.iload_n 0, 1) := by decide +kernel
theorem dX12_likes_1 : decode cX12_likes 1 = .ok (.iload_n 1, 1) := by decide +kernel
theorem dX12_likes_2 : decode cX12_likes 2 = .ok (.iand, 1) := by decide +kernel
theorem dX12_likes_3 : decode cX12_likes 3 = .ok (.ifCond .ne 7, 3) := by decide +kernel
theorem dX12_likes_6 : decode cX12_likes 6 = .ok (.iconst 2, 1) := by decide +kernel
theorem dX12_likes_7 : decode cX12_likes 7 = .ok (.goto 4, 3) := by decide +kernel
theorem dX12_likes_10 : decode cX12_likes 10 = .ok (.iconst 0, 1) := by decide +kernel
theorem dX12_likes_11 : decode cX12_likes 11 = .ok (.iload_n 0, 1) := by decide +kernel
theorem dX12_likes_12 : decode cX12_likes 12 = .ok (.iconst 3, 1) := by decide +kernel
theorem dX12_likes_13 : decode cX12_likes 13 = .ok (.iload_n 1, 1) := by decide +kernel
theorem dX12_likes_14 : decode cX12_likes 14 = .ok (.isub, 1) := by decide +kernel
theorem dX12_likes_15 : decode cX12_likes 15 = .ok (.iand, 1) := by decide +kernel
theorem dX12_likes_16 : decode cX12_likes 16 = .ok (.ifCond .eq 7, 3) := by decide +kernel
theorem dX12_likes_19 : decode cX12_likes 19 = .ok (.iconst 1, 1) := by decide +kernel
theorem dX12_likes_20 : decode cX12_likes 20 = .ok (.goto 4, 3) := by decide +kernel
theorem dX12_likes_23 : decode cX12_likes 23 = .ok (.iconst 0, 1) := by decide +kernel
theorem dX12_likes_24 : decode cX12_likes 24 = .ok (.iadd, 1) := by decide +kernel
theorem dX12_likes_25 : decode cX12_likes 25 = .ok (.ireturn, 1) := by decide +kernel
theorem dX12_lastStill_0 : decode cX12_lastStill 0 = .ok (.iload_n 1, 1) := by decide +kernel
theorem dX12_lastStill_1 : decode cX12_lastStill 1 = .ok (.istore_n 2, 1) := by decide +kernel
theorem dX12_lastStill_2 : decode cX12_lastStill 2 = .ok (.iconst 0, 1) := by decide +kernel
theorem dX12_lastStill_3 : decode cX12_lastStill 3 = .ok (.istore_n 3, 1) := by decide +kernel
theorem dX12_lastStill_4 : decode cX12_lastStill 4 = .ok (.iload_n 3, 1) := by decide +kernel
theorem dX12_lastStill_5 : decode cX12_lastStill 5 = .ok (.iconst 4, 1) := by decide +kernel
theorem dX12_lastStill_6 : decode cX12_lastStill 6 = .ok (.if_icmp .ge 34, 3) := by decide +kernel
theorem dX12_lastStill_9 : decode cX12_lastStill 9 = .ok (.aload_n 0, 1) := by decide +kernel
theorem dX12_lastStill_10 : decode cX12_lastStill 10 = .ok (.aload_n 0, 1) := by decide +kernel
theorem dX12_lastStill_11 : decode cX12_lastStill 11 = .ok (.getfield 321, 3) := by decide +kernel
theorem dX12_lastStill_14 : decode cX12_lastStill 14 = .ok (.iconst 0, 1) := by decide +kernel
theorem dX12_lastStill_15 : decode cX12_lastStill 15 = .ok (.invokevirtual 292, 3) := by decide +kernel
theorem dX12_lastStill_18 : decode cX12_lastStill 18 = .ok (.istore 4, 2) := by decide +kernel
theorem dX12_lastStill_20 : decode cX12_lastStill 20 = .ok (.iload 4, 2) := by decide +kernel
theorem dX12_lastStill_22 : decode cX12_lastStill 22 = .ok (.ifCond .lt 12, 3) := by decide +kernel
theorem dX12_lastStill_25 : decode cX12_lastStill 25 = .ok (.iload_n 2, 1) := by decide +kernel
theorem dX12_lastStill_26 : decode cX12_lastStill 26 = .ok (.aload_n 0, 1) := by decide +kernel
theorem dX12_lastStill_27 : decode cX12_lastStill 27 = .ok (.iload 4, 2) := by decide +kernel
theorem dX12_lastStill_29 : decode cX12_lastStill 29 = .ok (.invokevirtual 327, 3) := by decide +kernel
theorem dX12_lastStill_32 : decode cX12_lastStill 32 = .ok (.ior, 1) := by decide +kernel
theorem dX12_lastStill_33 : decode cX12_lastStill 33 = .ok (.istore_n 2, 1) := by decide +kernel
theorem dX12_lastStill_34 : decode cX12_lastStill 34 = .ok (.iinc 3 1, 3) := by decide +kernel
theorem dX12_lastStill_37 : decode cX12_lastStill 37 = .ok (.goto (-33), 3) := by decide +kernel
theorem dX12_lastStill_40 : decode cX12_lastStill 40 = .ok (.iload_n 2, 1) := by decide +kernel
theorem dX12_lastStill_41 : decode cX12_lastStill 41 = .ok (.ireturn, 1) := by decide +kernel
theorem dX12_lastBy_0 : decode cX12_lastBy 0 = .ok (.aload_n 0, 1) := by decide +kernel
theorem dX12_lastBy_1 : decode cX12_lastBy 1 = .ok (.getfield 240, 3) := by decide +kernel
theorem dX12_lastBy_4 : decode cX12_lastBy 4 = .ok (.istore 5, 2) := by decide +kernel
theorem dX12_lastBy_6 : decode cX12_lastBy 6 = .ok (.aload_n 0, 1) := by decide +kernel
theorem dX12_lastBy_7 : decode cX12_lastBy 7 = .ok (.getfield 243, 3) := by decide +kernel
theorem dX12_lastBy_10 : decode cX12_lastBy 10 = .ok (.istore 6, 2) := by decide +kernel
theorem dX12_lastBy_12 : decode cX12_lastBy 12 = .ok (.aload_n 0, 1) := by decide +kernel
theorem dX12_lastBy_13 : decode cX12_lastBy 13 = .ok (.getfield 246, 3) := by decide +kernel
theorem dX12_lastBy_16 : decode cX12_lastBy 16 = .ok (.istore 7, 2) := by decide +kernel
theorem dX12_lastBy_18 : decode cX12_lastBy 18 = .ok (.aload_n 0, 1) := by decide +kernel
theorem dX12_lastBy_19 : decode cX12_lastBy 19 = .ok (.getfield 249, 3) := by decide +kernel
theorem dX12_lastBy_22 : decode cX12_lastBy 22 = .ok (.istore 8, 2) := by decide +kernel
theorem dX12_lastBy_24 : decode cX12_lastBy 24 = .ok (.aload_n 0, 1) := by decide +kernel
theorem dX12_lastBy_25 : decode cX12_lastBy 25 = .ok (.iload_n 2, 1) := by decide +kernel
theorem dX12_lastBy_26 : decode cX12_lastBy 26 = .ok (.ifCond .eq 10, 3) := by decide +kernel
theorem dX12_lastBy_29 : decode cX12_lastBy 29 = .ok (.aload_n 0, 1) := by decide +kernel
theorem dX12_lastBy_30 : decode cX12_lastBy 30 = .ok (.getfield 321, 3) := by decide +kernel
theorem dX12_lastBy_33 : decode cX12_lastBy 33 = .ok (.goto 7, 3) := by decide +kernel
theorem dX12_lastBy_36 : decode cX12_lastBy 36 = .ok (.aload_n 0, 1) := by decide +kernel
theorem dX12_lastBy_37 : decode cX12_lastBy 37 = .ok (.getfield 324, 3) := by decide +kernel
theorem dX12_lastBy_40 : decode cX12_lastBy 40 = .ok (.iload 4, 2) := by decide +kernel
theorem dX12_lastBy_42 : decode cX12_lastBy 42 = .ok (.invokevirtual 292, 3) := by decide +kernel
theorem dX12_lastBy_45 : decode cX12_lastBy 45 = .ok (.istore 9, 2) := by decide +kernel
theorem dX12_lastBy_47 : decode cX12_lastBy 47 = .ok (.aload_n 0, 1) := by decide +kernel
theorem dX12_lastBy_48 : decode cX12_lastBy 48 = .ok (.getfield 267, 3) := by decide +kernel
theorem dX12_lastBy_51 : decode cX12_lastBy 51 = .ok (.istore 10, 2) := by decide +kernel
theorem dX12_lastBy_53 : decode cX12_lastBy 53 = .ok (.aload_n 0, 1) := by decide +kernel
theorem dX12_lastBy_54 : decode cX12_lastBy 54 = .ok (.iload_n 1, 1) := by decide +kernel
theorem dX12_lastBy_55 : decode cX12_lastBy 55 = .ok (.iconst 1, 1) := by decide +kernel
theorem dX12_lastBy_56 : decode cX12_lastBy 56 = .ok (.isub, 1) := by decide +kernel
theorem dX12_lastBy_57 : decode cX12_lastBy 57 = .ok (.iload_n 2, 1) := by decide +kernel
theorem dX12_lastBy_58 : decode cX12_lastBy 58 = .ok (.ifCond .ne 7, 3) := by decide +kernel
theorem dX12_lastBy_61 : decode cX12_lastBy 61 = .ok (.iconst 1, 1) := by decide +kernel
theorem dX12_lastBy_62 : decode cX12_lastBy 62 = .ok (.goto 4, 3) := by decide +kernel
theorem dX12_lastBy_65 : decode cX12_lastBy 65 = .ok (.iconst 0, 1) := by decide +kernel
theorem dX12_lastBy_66 : decode cX12_lastBy 66 = .ok (.iload 9, 2) := by decide +kernel
theorem dX12_lastBy_68 : decode cX12_lastBy 68 = .ok (.ifCond .ge 7, 3) := by decide +kernel
theorem dX12_lastBy_71 : decode cX12_lastBy 71 = .ok (.iload_n 3, 1) := by decide +kernel
theorem dX12_lastBy_72 : decode cX12_lastBy 72 = .ok (.goto 11, 3) := by decide +kernel
theorem dX12_lastBy_75 : decode cX12_lastBy 75 = .ok (.iload_n 3, 1) := by decide +kernel
theorem dX12_lastBy_76 : decode cX12_lastBy 76 = .ok (.aload_n 0, 1) := by decide +kernel
theorem dX12_lastBy_77 : decode cX12_lastBy 77 = .ok (.iload 9, 2) := by decide +kernel
theorem dX12_lastBy_79 : decode cX12_lastBy 79 = .ok (.invokevirtual 327, 3) := by decide +kernel
theorem dX12_lastBy_82 : decode cX12_lastBy 82 = .ok (.ior, 1) := by decide +kernel
theorem dX12_lastBy_83 : decode cX12_lastBy 83 = .ok (.invokevirtual 330, 3) := by decide +kernel
theorem dX12_lastBy_86 : decode cX12_lastBy 86 = .ok (.istore 11, 2) := by decide +kernel
theorem dX12_lastBy_88 : decode cX12_lastBy 88 = .ok (.iload 9, 2) := by decide +kernel
theorem dX12_lastBy_90 : decode cX12_lastBy 90 = .ok (.ifCond .lt 19, 3) := by decide +kernel
theorem dX12_lastBy_93 : decode cX12_lastBy 93 = .ok (.iload 10, 2) := by decide +kernel
theorem dX12_lastBy_95 : decode cX12_lastBy 95 = .ok (.ifCond .ne 14, 3) := by decide +kernel
theorem dX12_lastBy_98 : decode cX12_lastBy 98 = .ok (.aload_n 0, 1) := by decide +kernel
theorem dX12_lastBy_99 : decode cX12_lastBy 99 = .ok (.getfield 67, 3) := by decide +kernel
theorem dX12_lastBy_102 : decode cX12_lastBy 102 = .ok (.iload 9, 2) := by decide +kernel
theorem dX12_lastBy_104 : decode cX12_lastBy 104 = .ok (.dup2, 1) := by decide +kernel
theorem dX12_lastBy_105 : decode cX12_lastBy 105 = .ok (.iaload, 1) := by decide +kernel
theorem dX12_lastBy_106 : decode cX12_lastBy 106 = .ok (.iconst 1, 1) := by decide +kernel
theorem dX12_lastBy_107 : decode cX12_lastBy 107 = .ok (.iadd, 1) := by decide +kernel
theorem dX12_lastBy_108 : decode cX12_lastBy 108 = .ok (.iastore, 1) := by decide +kernel
theorem dX12_lastBy_109 : decode cX12_lastBy 109 = .ok (.aload_n 0, 1) := by decide +kernel
theorem dX12_lastBy_110 : decode cX12_lastBy 110 = .ok (.iload 5, 2) := by decide +kernel
theorem dX12_lastBy_112 : decode cX12_lastBy 112 = .ok (.putfield 240, 3) := by decide +kernel
theorem dX12_lastBy_115 : decode cX12_lastBy 115 = .ok (.aload_n 0, 1) := by decide +kernel
theorem dX12_lastBy_116 : decode cX12_lastBy 116 = .ok (.iload 6, 2) := by decide +kernel
theorem dX12_lastBy_118 : decode cX12_lastBy 118 = .ok (.putfield 243, 3) := by decide +kernel
theorem dX12_lastBy_121 : decode cX12_lastBy 121 = .ok (.aload_n 0, 1) := by decide +kernel
theorem dX12_lastBy_122 : decode cX12_lastBy 122 = .ok (.iload 7, 2) := by decide +kernel
theorem dX12_lastBy_124 : decode cX12_lastBy 124 = .ok (.putfield 246, 3) := by decide +kernel
theorem dX12_lastBy_127 : decode cX12_lastBy 127 = .ok (.aload_n 0, 1) := by decide +kernel
theorem dX12_lastBy_128 : decode cX12_lastBy 128 = .ok (.iload 8, 2) := by decide +kernel
theorem dX12_lastBy_130 : decode cX12_lastBy 130 = .ok (.putfield 249, 3) := by decide +kernel
theorem dX12_lastBy_133 : decode cX12_lastBy 133 = .ok (.iload 11, 2) := by decide +kernel
theorem dX12_lastBy_135 : decode cX12_lastBy 135 = .ok (.ireturn, 1) := by decide +kernel
theorem dX12_lastOf_0 : decode cX12_lastOf 0 = .ok (.iload_n 1, 1) := by decide +kernel
theorem dX12_lastOf_1 : decode cX12_lastOf 1 = .ok (.ifCond .ne 81, 3) := by decide +kernel
theorem dX12_lastOf_4 : decode cX12_lastOf 4 = .ok (.aload_n 0, 1) := by decide +kernel
theorem dX12_lastOf_5 : decode cX12_lastOf 5 = .ok (.getfield 240, 3) := by decide +kernel
theorem dX12_lastOf_8 : decode cX12_lastOf 8 = .ok (.istore 4, 2) := by decide +kernel
theorem dX12_lastOf_10 : decode cX12_lastOf 10 = .ok (.aload_n 0, 1) := by decide +kernel
theorem dX12_lastOf_11 : decode cX12_lastOf 11 = .ok (.getfield 243, 3) := by decide +kernel
theorem dX12_lastOf_14 : decode cX12_lastOf 14 = .ok (.istore 5, 2) := by decide +kernel
theorem dX12_lastOf_16 : decode cX12_lastOf 16 = .ok (.aload_n 0, 1) := by decide +kernel
theorem dX12_lastOf_17 : decode cX12_lastOf 17 = .ok (.getfield 246, 3) := by decide +kernel
theorem dX12_lastOf_20 : decode cX12_lastOf 20 = .ok (.istore 6, 2) := by decide +kernel
theorem dX12_lastOf_22 : decode cX12_lastOf 22 = .ok (.iload 5, 2) := by decide +kernel
theorem dX12_lastOf_24 : decode cX12_lastOf 24 = .ok (.ifCond .ge 7, 3) := by decide +kernel
theorem dX12_lastOf_27 : decode cX12_lastOf 27 = .ok (.iconst 0, 1) := by decide +kernel
theorem dX12_lastOf_28 : decode cX12_lastOf 28 = .ok (.goto 10, 3) := by decide +kernel
theorem dX12_lastOf_31 : decode cX12_lastOf 31 = .ok (.aload_n 0, 1) := by decide +kernel
theorem dX12_lastOf_32 : decode cX12_lastOf 32 = .ok (.getfield 67, 3) := by decide +kernel
theorem dX12_lastOf_35 : decode cX12_lastOf 35 = .ok (.iload 5, 2) := by decide +kernel
theorem dX12_lastOf_37 : decode cX12_lastOf 37 = .ok (.iaload, 1) := by decide +kernel
theorem dX12_lastOf_38 : decode cX12_lastOf 38 = .ok (.istore 7, 2) := by decide +kernel
theorem dX12_lastOf_40 : decode cX12_lastOf 40 = .ok (.aload_n 0, 1) := by decide +kernel
theorem dX12_lastOf_41 : decode cX12_lastOf 41 = .ok (.iload_n 3, 1) := by decide +kernel
theorem dX12_lastOf_42 : decode cX12_lastOf 42 = .ok (.invokevirtual 334, 3) := by decide +kernel
theorem dX12_lastOf_45 : decode cX12_lastOf 45 = .ok (.istore 8, 2) := by decide +kernel
theorem dX12_lastOf_47 : decode cX12_lastOf 47 = .ok (.aload_n 0, 1) := by decide +kernel
theorem dX12_lastOf_48 : decode cX12_lastOf 48 = .ok (.iload 4, 2) := by decide +kernel
theorem dX12_lastOf_50 : decode cX12_lastOf 50 = .ok (.putfield 240, 3) := by decide +kernel
theorem dX12_lastOf_53 : decode cX12_lastOf 53 = .ok (.aload_n 0, 1) := by decide +kernel
theorem dX12_lastOf_54 : decode cX12_lastOf 54 = .ok (.iload 5, 2) := by decide +kernel
theorem dX12_lastOf_56 : decode cX12_lastOf 56 = .ok (.putfield 243, 3) := by decide +kernel
theorem dX12_lastOf_59 : decode cX12_lastOf 59 = .ok (.aload_n 0, 1) := by decide +kernel
theorem dX12_lastOf_60 : decode cX12_lastOf 60 = .ok (.iload 6, 2) := by decide +kernel
theorem dX12_lastOf_62 : decode cX12_lastOf 62 = .ok (.putfield 246, 3) := by decide +kernel
theorem dX12_lastOf_65 : decode cX12_lastOf 65 = .ok (.iload 5, 2) := by decide +kernel
theorem dX12_lastOf_67 : decode cX12_lastOf 67 = .ok (.ifCond .lt 12, 3) := by decide +kernel
theorem dX12_lastOf_70 : decode cX12_lastOf 70 = .ok (.aload_n 0, 1) := by decide +kernel
theorem dX12_lastOf_71 : decode cX12_lastOf 71 = .ok (.getfield 67, 3) := by decide +kernel
theorem dX12_lastOf_74 : decode cX12_lastOf 74 = .ok (.iload 5, 2) := by decide +kernel
theorem dX12_lastOf_76 : decode cX12_lastOf 76 = .ok (.iload 7, 2) := by decide +kernel
theorem dX12_lastOf_78 : decode cX12_lastOf 78 = .ok (.iastore, 1) := by decide +kernel
theorem dX12_lastOf_79 : decode cX12_lastOf 79 = .ok (.iload 8, 2) := by decide +kernel
theorem dX12_lastOf_81 : decode cX12_lastOf 81 = .ok (.ireturn, 1) := by decide +kernel
theorem dX12_lastOf_82 : decode cX12_lastOf 82 = .ok (.aload_n 0, 1) := by decide +kernel
theorem dX12_lastOf_83 : decode cX12_lastOf 83 = .ok (.iload_n 1, 1) := by decide +kernel
theorem dX12_lastOf_84 : decode cX12_lastOf 84 = .ok (.iload_n 2, 1) := by decide +kernel
theorem dX12_lastOf_85 : decode cX12_lastOf 85 = .ok (.iload_n 3, 1) := by decide +kernel
theorem dX12_lastOf_86 : decode cX12_lastOf 86 = .ok (.iconst 0, 1) := by decide +kernel
theorem dX12_lastOf_87 : decode cX12_lastOf 87 = .ok (.invokevirtual 337, 3) := by decide +kernel
theorem dX12_lastOf_90 : decode cX12_lastOf 90 = .ok (.istore 4, 2) := by decide +kernel
theorem dX12_lastOf_92 : decode cX12_lastOf 92 = .ok (.aload_n 0, 1) := by decide +kernel
theorem dX12_lastOf_93 : decode cX12_lastOf 93 = .ok (.iload_n 1, 1) := by decide +kernel
theorem dX12_lastOf_94 : decode cX12_lastOf 94 = .ok (.iload_n 2, 1) := by decide +kernel
theorem dX12_lastOf_95 : decode cX12_lastOf 95 = .ok (.iload_n 3, 1) := by decide +kernel
theorem dX12_lastOf_96 : decode cX12_lastOf 96 = .ok (.iconst 1, 1) := by decide +kernel
theorem dX12_lastOf_97 : decode cX12_lastOf 97 = .ok (.invokevirtual 337, 3) := by decide +kernel
theorem dX12_lastOf_100 : decode cX12_lastOf 100 = .ok (.istore 5, 2) := by decide +kernel
theorem dX12_lastOf_102 : decode cX12_lastOf 102 = .ok (.iload_n 2, 1) := by decide +kernel
theorem dX12_lastOf_103 : decode cX12_lastOf 103 = .ok (.ifCond .eq 7, 3) := by decide +kernel
theorem dX12_lastOf_106 : decode cX12_lastOf 106 = .ok (.iconst 1, 1) := by decide +kernel
theorem dX12_lastOf_107 : decode cX12_lastOf 107 = .ok (.goto 4, 3) := by decide +kernel
theorem dX12_lastOf_110 : decode cX12_lastOf 110 = .ok (.iconst 2, 1) := by decide +kernel
theorem dX12_lastOf_111 : decode cX12_lastOf 111 = .ok (.istore 6, 2) := by decide +kernel
theorem dX12_lastOf_113 : decode cX12_lastOf 113 = .ok (.iload 5, 2) := by decide +kernel
theorem dX12_lastOf_115 : decode cX12_lastOf 115 = .ok (.iload 6, 2) := by decide +kernel
theorem dX12_lastOf_117 : decode cX12_lastOf 117 = .ok (.invokestatic 341, 3) := by decide +kernel
theorem dX12_lastOf_120 : decode cX12_lastOf 120 = .ok (.iload 4, 2) := by decide +kernel
theorem dX12_lastOf_122 : decode cX12_lastOf 122 = .ok (.iload 6, 2) := by decide +kernel
theorem dX12_lastOf_124 : decode cX12_lastOf 124 = .ok (.invokestatic 341, 3) := by decide +kernel
theorem dX12_lastOf_127 : decode cX12_lastOf 127 = .ok (.if_icmp .le 8, 3) := by decide +kernel
theorem dX12_lastOf_130 : decode cX12_lastOf 130 = .ok (.iload 5, 2) := by decide +kernel
theorem dX12_lastOf_132 : decode cX12_lastOf 132 = .ok (.goto 5, 3) := by decide +kernel
theorem dX12_lastOf_135 : decode cX12_lastOf 135 = .ok (.iload 4, 2) := by decide +kernel
theorem dX12_lastOf_137 : decode cX12_lastOf 137 = .ok (.ireturn, 1) := by decide +kernel
theorem dX12_lastWord_0 : decode cX12_lastWord 0 = .ok (.aload_n 0, 1) := by decide +kernel
theorem dX12_lastWord_1 : decode cX12_lastWord 1 = .ok (.iload_n 1, 1) := by decide +kernel
theorem dX12_lastWord_2 : decode cX12_lastWord 2 = .ok (.invokevirtual 344, 3) := by decide +kernel
theorem dX12_lastWord_5 : decode cX12_lastWord 5 = .ok (.ifCond .eq 22, 3) := by decide +kernel
theorem dX12_lastWord_8 : decode cX12_lastWord 8 = .ok (.iload_n 2, 1) := by decide +kernel
theorem dX12_lastWord_9 : decode cX12_lastWord 9 = .ok (.iconst 1, 1) := by decide +kernel
theorem dX12_lastWord_10 : decode cX12_lastWord 10 = .ok (.bipush 6, 2) := by decide +kernel
theorem dX12_lastWord_12 : decode cX12_lastWord 12 = .ok (.invokestatic 126, 3) := by decide +kernel
theorem dX12_lastWord_15 : decode cX12_lastWord 15 = .ok (.ifCond .eq 12, 3) := by decide +kernel
theorem dX12_lastWord_18 : decode cX12_lastWord 18 = .ok (.iload_n 3, 1) := by decide +kernel
theorem dX12_lastWord_19 : decode cX12_lastWord 19 = .ok (.iconst 0, 1) := by decide +kernel
theorem dX12_lastWord_20 : decode cX12_lastWord 20 = .ok (.iconst 1, 1) := by decide +kernel
theorem dX12_lastWord_21 : decode cX12_lastWord 21 = .ok (.invokestatic 126, 3) := by decide +kernel
theorem dX12_lastWord_24 : decode cX12_lastWord 24 = .ok (.ifCond .ne 5, 3) := by decide +kernel
theorem dX12_lastWord_27 : decode cX12_lastWord 27 = .ok (.iconst (-1), 1) := by decide +kernel
theorem dX12_lastWord_28 : decode cX12_lastWord 28 = .ok (.ireturn, 1) := by decide +kernel
theorem dX12_lastWord_29 : decode cX12_lastWord 29 = .ok (.aload_n 0, 1) := by decide +kernel
theorem dX12_lastWord_30 : decode cX12_lastWord 30 = .ok (.iload_n 1, 1) := by decide +kernel
theorem dX12_lastWord_31 : decode cX12_lastWord 31 = .ok (.bipush 10, 2) := by decide +kernel
theorem dX12_lastWord_33 : decode cX12_lastWord 33 = .ok (.idiv, 1) := by decide +kernel
theorem dX12_lastWord_34 : decode cX12_lastWord 34 = .ok (.putfield 321, 3) := by decide +kernel
theorem dX12_lastWord_37 : decode cX12_lastWord 37 = .ok (.aload_n 0, 1) := by decide +kernel
theorem dX12_lastWord_38 : decode cX12_lastWord 38 = .ok (.iload_n 1, 1) := by decide +kernel
theorem dX12_lastWord_39 : decode cX12_lastWord 39 = .ok (.bipush 10, 2) := by decide +kernel
theorem dX12_lastWord_41 : decode cX12_lastWord 41 = .ok (.irem, 1) := by decide +kernel
theorem dX12_lastWord_42 : decode cX12_lastWord 42 = .ok (.putfield 324, 3) := by decide +kernel
theorem dX12_lastWord_45 : decode cX12_lastWord 45 = .ok (.aload_n 0, 1) := by decide +kernel
theorem dX12_lastWord_46 : decode cX12_lastWord 46 = .ok (.iconst 0, 1) := by decide +kernel
theorem dX12_lastWord_47 : decode cX12_lastWord 47 = .ok (.invokevirtual 280, 3) := by decide +kernel
theorem dX12_lastWord_50 : decode cX12_lastWord 50 = .ok (.aload_n 0, 1) := by decide +kernel
theorem dX12_lastWord_51 : decode cX12_lastWord 51 = .ok (.iload_n 2, 1) := by decide +kernel
theorem dX12_lastWord_52 : decode cX12_lastWord 52 = .ok (.iconst 1, 1) := by decide +kernel
theorem dX12_lastWord_53 : decode cX12_lastWord 53 = .ok (.iconst 0, 1) := by decide +kernel
theorem dX12_lastWord_54 : decode cX12_lastWord 54 = .ok (.iconst 0, 1) := by decide +kernel
theorem dX12_lastWord_55 : decode cX12_lastWord 55 = .ok (.invokevirtual 337, 3) := by decide +kernel
theorem dX12_lastWord_58 : decode cX12_lastWord 58 = .ok (.istore 4, 2) := by decide +kernel
theorem dX12_lastWord_60 : decode cX12_lastWord 60 = .ok (.aload_n 0, 1) := by decide +kernel
theorem dX12_lastWord_61 : decode cX12_lastWord 61 = .ok (.iload_n 2, 1) := by decide +kernel
theorem dX12_lastWord_62 : decode cX12_lastWord 62 = .ok (.iconst 1, 1) := by decide +kernel
theorem dX12_lastWord_63 : decode cX12_lastWord 63 = .ok (.iconst 0, 1) := by decide +kernel
theorem dX12_lastWord_64 : decode cX12_lastWord 64 = .ok (.iconst 1, 1) := by decide +kernel
theorem dX12_lastWord_65 : decode cX12_lastWord 65 = .ok (.invokevirtual 337, 3) := by decide +kernel
theorem dX12_lastWord_68 : decode cX12_lastWord 68 = .ok (.istore 5, 2) := by decide +kernel
theorem dX12_lastWord_70 : decode cX12_lastWord 70 = .ok (.iload 5, 2) := by decide +kernel
theorem dX12_lastWord_72 : decode cX12_lastWord 72 = .ok (.iconst 1, 1) := by decide +kernel
theorem dX12_lastWord_73 : decode cX12_lastWord 73 = .ok (.invokestatic 341, 3) := by decide +kernel
theorem dX12_lastWord_76 : decode cX12_lastWord 76 = .ok (.iload 4, 2) := by decide +kernel
theorem dX12_lastWord_78 : decode cX12_lastWord 78 = .ok (.iconst 1, 1) := by decide +kernel
theorem dX12_lastWord_79 : decode cX12_lastWord 79 = .ok (.invokestatic 341, 3) := by decide +kernel
theorem dX12_lastWord_82 : decode cX12_lastWord 82 = .ok (.if_icmp .le 7, 3) := by decide +kernel
theorem dX12_lastWord_85 : decode cX12_lastWord 85 = .ok (.iconst 1, 1) := by decide +kernel
theorem dX12_lastWord_86 : decode cX12_lastWord 86 = .ok (.goto 4, 3) := by decide +kernel
theorem dX12_lastWord_89 : decode cX12_lastWord 89 = .ok (.iconst 0, 1) := by decide +kernel
theorem dX12_lastWord_90 : decode cX12_lastWord 90 = .ok (.istore 6, 2) := by decide +kernel
theorem dX12_lastWord_92 : decode cX12_lastWord 92 = .ok (.iload_n 3, 1) := by decide +kernel
theorem dX12_lastWord_93 : decode cX12_lastWord 93 = .ok (.iconst 1, 1) := by decide +kernel
theorem dX12_lastWord_94 : decode cX12_lastWord 94 = .ok (.if_icmp .ne 16, 3) := by decide +kernel
theorem dX12_lastWord_97 : decode cX12_lastWord 97 = .ok (.iload 6, 2) := by decide +kernel
theorem dX12_lastWord_99 : decode cX12_lastWord 99 = .ok (.ifCond .eq 7, 3) := by decide +kernel
theorem dX12_lastWord_102 : decode cX12_lastWord 102 = .ok (.iconst 1, 1) := by decide +kernel
theorem dX12_lastWord_103 : decode cX12_lastWord 103 = .ok (.goto 19, 3) := by decide +kernel
theorem dX12_lastWord_106 : decode cX12_lastWord 106 = .ok (.iconst 0, 1) := by decide +kernel
theorem dX12_lastWord_107 : decode cX12_lastWord 107 = .ok (.goto 15, 3) := by decide +kernel
theorem dX12_lastWord_110 : decode cX12_lastWord 110 = .ok (.iload 6, 2) := by decide +kernel
theorem dX12_lastWord_112 : decode cX12_lastWord 112 = .ok (.ifCond .eq 8, 3) := by decide +kernel
theorem dX12_lastWord_115 : decode cX12_lastWord 115 = .ok (.iload 5, 2) := by decide +kernel
theorem dX12_lastWord_117 : decode cX12_lastWord 117 = .ok (.goto 5, 3) := by decide +kernel
theorem dX12_lastWord_120 : decode cX12_lastWord 120 = .ok (.iload 4, 2) := by decide +kernel
theorem dX12_lastWord_122 : decode cX12_lastWord 122 = .ok (.ireturn, 1) := by decide +kernel
theorem dX12_takes_0 : decode cX12_takes 0 = .ok (.aload_n 0, 1) := by decide +kernel
theorem dX12_takes_1 : decode cX12_takes 1 = .ok (.getfield 16, 3) := by decide +kernel
theorem dX12_takes_4 : decode cX12_takes 4 = .ok (.iload_n 1, 1) := by decide +kernel
theorem dX12_takes_5 : decode cX12_takes 5 = .ok (.iaload, 1) := by decide +kernel
theorem dX12_takes_6 : decode cX12_takes 6 = .ok (.ifCond .le 14, 3) := by decide +kernel
theorem dX12_takes_9 : decode cX12_takes 9 = .ok (.aload_n 0, 1) := by decide +kernel
theorem dX12_takes_10 : decode cX12_takes 10 = .ok (.getfield 19, 3) := by decide +kernel
theorem dX12_takes_13 : decode cX12_takes 13 = .ok (.iload_n 1, 1) := by decide +kernel
theorem dX12_takes_14 : decode cX12_takes 14 = .ok (.iaload, 1) := by decide +kernel
theorem dX12_takes_15 : decode cX12_takes 15 = .ok (.iconst 2, 1) := by decide +kernel
theorem dX12_takes_16 : decode cX12_takes 16 = .ok (.idiv, 1) := by decide +kernel
theorem dX12_takes_17 : decode cX12_takes 17 = .ok (.goto 9, 3) := by decide +kernel
theorem dX12_takes_20 : decode cX12_takes 20 = .ok (.aload_n 0, 1) := by decide +kernel
theorem dX12_takes_21 : decode cX12_takes 21 = .ok (.getfield 19, 3) := by decide +kernel
theorem dX12_takes_24 : decode cX12_takes 24 = .ok (.iload_n 1, 1) := by decide +kernel
theorem dX12_takes_25 : decode cX12_takes 25 = .ok (.iaload, 1) := by decide +kernel
theorem dX12_takes_26 : decode cX12_takes 26 = .ok (.ireturn, 1) := by decide +kernel
theorem dX12_crier_0 : decode cX12_crier 0 = .ok (.aload_n 0, 1) := by decide +kernel
theorem dX12_crier_1 : decode cX12_crier 1 = .ok (.iload_n 1, 1) := by decide +kernel
theorem dX12_crier_2 : decode cX12_crier 2 = .ok (.invokevirtual 130, 3) := by decide +kernel
theorem dX12_crier_5 : decode cX12_crier 5 = .ok (.ifCond .eq 12, 3) := by decide +kernel
theorem dX12_crier_8 : decode cX12_crier 8 = .ok (.iload_n 2, 1) := by decide +kernel
theorem dX12_crier_9 : decode cX12_crier 9 = .ok (.iconst 0, 1) := by decide +kernel
theorem dX12_crier_10 : decode cX12_crier 10 = .ok (.iconst 1, 1) := by decide +kernel
theorem dX12_crier_11 : decode cX12_crier 11 = .ok (.invokestatic 126, 3) := by decide +kernel
theorem dX12_crier_14 : decode cX12_crier 14 = .ok (.ifCond .ne 5, 3) := by decide +kernel
theorem dX12_crier_17 : decode cX12_crier 17 = .ok (.iconst (-1), 1) := by decide +kernel
theorem dX12_crier_18 : decode cX12_crier 18 = .ok (.ireturn, 1) := by decide +kernel
theorem dX12_crier_19 : decode cX12_crier 19 = .ok (.bipush (-2), 2) := by decide +kernel
theorem dX12_crier_21 : decode cX12_crier 21 = .ok (.istore_n 3, 1) := by decide +kernel
theorem dX12_crier_22 : decode cX12_crier 22 = .ok (.iconst 0, 1) := by decide +kernel
theorem dX12_crier_23 : decode cX12_crier 23 = .ok (.istore 4, 2) := by decide +kernel
theorem dX12_crier_25 : decode cX12_crier 25 = .ok (.iload 4, 2) := by decide +kernel
theorem dX12_crier_27 : decode cX12_crier 27 = .ok (.aload_n 0, 1) := by decide +kernel
theorem dX12_crier_28 : decode cX12_crier 28 = .ok (.getfield 123, 3) := by decide +kernel
theorem dX12_crier_31 : decode cX12_crier 31 = .ok (.if_icmp .ge 51, 3) := by decide +kernel
theorem dX12_crier_34 : decode cX12_crier 34 = .ok (.iload 4, 2) := by decide +kernel
theorem dX12_crier_36 : decode cX12_crier 36 = .ok (.iload_n 1, 1) := by decide +kernel
theorem dX12_crier_37 : decode cX12_crier 37 = .ok (.if_icmp .eq 39, 3) := by decide +kernel
theorem dX12_crier_40 : decode cX12_crier 40 = .ok (.aload_n 0, 1) := by decide +kernel
theorem dX12_crier_41 : decode cX12_crier 41 = .ok (.invokevirtual 347, 3) := by decide +kernel
theorem dX12_crier_44 : decode cX12_crier 44 = .ok (.iload 4, 2) := by decide +kernel
theorem dX12_crier_46 : decode cX12_crier 46 = .ok (.ishr, 1) := by decide +kernel
theorem dX12_crier_47 : decode cX12_crier 47 = .ok (.iconst 1, 1) := by decide +kernel
theorem dX12_crier_48 : decode cX12_crier 48 = .ok (.iand, 1) := by decide +kernel
theorem dX12_crier_49 : decode cX12_crier 49 = .ok (.ifCond .ne 6, 3) := by decide +kernel
theorem dX12_crier_52 : decode cX12_crier 52 = .ok (.goto 24, 3) := by decide +kernel
theorem dX12_crier_55 : decode cX12_crier 55 = .ok (.iload_n 3, 1) := by decide +kernel
theorem dX12_crier_56 : decode cX12_crier 56 = .ok (.ifCond .lt 17, 3) := by decide +kernel
theorem dX12_crier_59 : decode cX12_crier 59 = .ok (.aload_n 0, 1) := by decide +kernel
theorem dX12_crier_60 : decode cX12_crier 60 = .ok (.iload 4, 2) := by decide +kernel
theorem dX12_crier_62 : decode cX12_crier 62 = .ok (.invokevirtual 350, 3) := by decide +kernel
theorem dX12_crier_65 : decode cX12_crier 65 = .ok (.aload_n 0, 1) := by decide +kernel
theorem dX12_crier_66 : decode cX12_crier 66 = .ok (.iload_n 3, 1) := by decide +kernel
theorem dX12_crier_67 : decode cX12_crier 67 = .ok (.invokevirtual 350, 3) := by decide +kernel
theorem dX12_crier_70 : decode cX12_crier 70 = .ok (.if_icmp .ge 6, 3) := by decide +kernel
theorem dX12_crier_73 : decode cX12_crier 73 = .ok (.iload 4, 2) := by decide +kernel
theorem dX12_crier_75 : decode cX12_crier 75 = .ok (.istore_n 3, 1) := by decide +kernel
theorem dX12_crier_76 : decode cX12_crier 76 = .ok (.iinc 4 1, 3) := by decide +kernel
theorem dX12_crier_79 : decode cX12_crier 79 = .ok (.goto (-54), 3) := by decide +kernel
theorem dX12_crier_82 : decode cX12_crier 82 = .ok (.iload_n 3, 1) := by decide +kernel
theorem dX12_crier_83 : decode cX12_crier 83 = .ok (.ifCond .lt 7, 3) := by decide +kernel
theorem dX12_crier_86 : decode cX12_crier 86 = .ok (.iload_n 2, 1) := by decide +kernel
theorem dX12_crier_87 : decode cX12_crier 87 = .ok (.ifCond .ne 7, 3) := by decide +kernel
theorem dX12_crier_90 : decode cX12_crier 90 = .ok (.iload_n 3, 1) := by decide +kernel
theorem dX12_crier_91 : decode cX12_crier 91 = .ok (.goto 8, 3) := by decide +kernel
theorem dX12_crier_94 : decode cX12_crier 94 = .ok (.aload_n 0, 1) := by decide +kernel
theorem dX12_crier_95 : decode cX12_crier 95 = .ok (.iload_n 3, 1) := by decide +kernel
theorem dX12_crier_96 : decode cX12_crier 96 = .ok (.invokevirtual 350, 3) := by decide +kernel
theorem dX12_crier_99 : decode cX12_crier 99 = .ok (.ireturn, 1) := by decide +kernel
theorem dX12_keepNear_0 : decode cX12_keepNear 0 = .ok (.aload_n 0, 1) := by decide +kernel
theorem dX12_keepNear_1 : decode cX12_keepNear 1 = .ok (.iload_n 1, 1) := by decide +kernel
theorem dX12_keepNear_2 : decode cX12_keepNear 2 = .ok (.invokevirtual 130, 3) := by decide +kernel
theorem dX12_keepNear_5 : decode cX12_keepNear 5 = .ok (.ifCond .ne 5, 3) := by decide +kernel
theorem dX12_keepNear_8 : decode cX12_keepNear 8 = .ok (.iconst (-1), 1) := by decide +kernel
theorem dX12_keepNear_9 : decode cX12_keepNear 9 = .ok (.ireturn, 1) := by decide +kernel
theorem dX12_keepNear_10 : decode cX12_keepNear 10 = .ok (.bipush (-2), 2) := by decide +kernel
theorem dX12_keepNear_12 : decode cX12_keepNear 12 = .ok (.istore_n 2, 1) := by decide +kernel
theorem dX12_keepNear_13 : decode cX12_keepNear 13 = .ok (.iconst 0, 1) := by decide +kernel
theorem dX12_keepNear_14 : decode cX12_keepNear 14 = .ok (.istore_n 3, 1) := by decide +kernel
theorem dX12_keepNear_15 : decode cX12_keepNear 15 = .ok (.iload_n 3, 1) := by decide +kernel
theorem dX12_keepNear_16 : decode cX12_keepNear 16 = .ok (.aload_n 0, 1) := by decide +kernel
theorem dX12_keepNear_17 : decode cX12_keepNear 17 = .ok (.getfield 123, 3) := by decide +kernel
theorem dX12_keepNear_20 : decode cX12_keepNear 20 = .ok (.if_icmp .ge 94, 3) := by decide +kernel
theorem dX12_keepNear_23 : decode cX12_keepNear 23 = .ok (.iload_n 3, 1) := by decide +kernel
theorem dX12_keepNear_24 : decode cX12_keepNear 24 = .ok (.iload_n 1, 1) := by decide +kernel
theorem dX12_keepNear_25 : decode cX12_keepNear 25 = .ok (.if_icmp .ne 6, 3) := by decide +kernel
theorem dX12_keepNear_28 : decode cX12_keepNear 28 = .ok (.goto 80, 3) := by decide +kernel
theorem dX12_keepNear_31 : decode cX12_keepNear 31 = .ok (.aload_n 0, 1) := by decide +kernel
theorem dX12_keepNear_32 : decode cX12_keepNear 32 = .ok (.getfield 7, 3) := by decide +kernel
theorem dX12_keepNear_35 : decode cX12_keepNear 35 = .ok (.iload_n 3, 1) := by decide +kernel
theorem dX12_keepNear_36 : decode cX12_keepNear 36 = .ok (.iaload, 1) := by decide +kernel
theorem dX12_keepNear_37 : decode cX12_keepNear 37 = .ok (.aload_n 0, 1) := by decide +kernel
theorem dX12_keepNear_38 : decode cX12_keepNear 38 = .ok (.getfield 7, 3) := by decide +kernel
theorem dX12_keepNear_41 : decode cX12_keepNear 41 = .ok (.iload_n 1, 1) := by decide +kernel
theorem dX12_keepNear_42 : decode cX12_keepNear 42 = .ok (.iaload, 1) := by decide +kernel
theorem dX12_keepNear_43 : decode cX12_keepNear 43 = .ok (.invokestatic 252, 3) := by decide +kernel
theorem dX12_keepNear_46 : decode cX12_keepNear 46 = .ok (.istore 4, 2) := by decide +kernel
theorem dX12_keepNear_48 : decode cX12_keepNear 48 = .ok (.iload_n 2, 1) := by decide +kernel
theorem dX12_keepNear_49 : decode cX12_keepNear 49 = .ok (.ifCond .ge 7, 3) := by decide +kernel
theorem dX12_keepNear_52 : decode cX12_keepNear 52 = .ok (.iconst 0, 1) := by decide +kernel
theorem dX12_keepNear_53 : decode cX12_keepNear 53 = .ok (.goto 18, 3) := by decide +kernel
theorem dX12_keepNear_56 : decode cX12_keepNear 56 = .ok (.aload_n 0, 1) := by decide +kernel
theorem dX12_keepNear_57 : decode cX12_keepNear 57 = .ok (.getfield 7, 3) := by decide +kernel
theorem dX12_keepNear_60 : decode cX12_keepNear 60 = .ok (.iload_n 2, 1) := by decide +kernel
theorem dX12_keepNear_61 : decode cX12_keepNear 61 = .ok (.iaload, 1) := by decide +kernel
theorem dX12_keepNear_62 : decode cX12_keepNear 62 = .ok (.aload_n 0, 1) := by decide +kernel
theorem dX12_keepNear_63 : decode cX12_keepNear 63 = .ok (.getfield 7, 3) := by decide +kernel
theorem dX12_keepNear_66 : decode cX12_keepNear 66 = .ok (.iload_n 1, 1) := by decide +kernel
theorem dX12_keepNear_67 : decode cX12_keepNear 67 = .ok (.iaload, 1) := by decide +kernel
theorem dX12_keepNear_68 : decode cX12_keepNear 68 = .ok (.invokestatic 252, 3) := by decide +kernel
theorem dX12_keepNear_71 : decode cX12_keepNear 71 = .ok (.istore 5, 2) := by decide +kernel
theorem dX12_keepNear_73 : decode cX12_keepNear 73 = .ok (.iload_n 2, 1) := by decide +kernel
theorem dX12_keepNear_74 : decode cX12_keepNear 74 = .ok (.ifCond .lt 32, 3) := by decide +kernel
theorem dX12_keepNear_77 : decode cX12_keepNear 77 = .ok (.iload 4, 2) := by decide +kernel
theorem dX12_keepNear_79 : decode cX12_keepNear 79 = .ok (.iload 5, 2) := by decide +kernel
theorem dX12_keepNear_81 : decode cX12_keepNear 81 = .ok (.if_icmp .lt 25, 3) := by decide +kernel
theorem dX12_keepNear_84 : decode cX12_keepNear 84 = .ok (.iload 4, 2) := by decide +kernel
theorem dX12_keepNear_86 : decode cX12_keepNear 86 = .ok (.iload 5, 2) := by decide +kernel
theorem dX12_keepNear_88 : decode cX12_keepNear 88 = .ok (.if_icmp .ne 20, 3) := by decide +kernel
theorem dX12_keepNear_91 : decode cX12_keepNear 91 = .ok (.aload_n 0, 1) := by decide +kernel
theorem dX12_keepNear_92 : decode cX12_keepNear 92 = .ok (.getfield 13, 3) := by decide +kernel
theorem dX12_keepNear_95 : decode cX12_keepNear 95 = .ok (.iload_n 3, 1) := by decide +kernel
theorem dX12_keepNear_96 : decode cX12_keepNear 96 = .ok (.iaload, 1) := by decide +kernel
theorem dX12_keepNear_97 : decode cX12_keepNear 97 = .ok (.aload_n 0, 1) := by decide +kernel
theorem dX12_keepNear_98 : decode cX12_keepNear 98 = .ok (.getfield 13, 3) := by decide +kernel
theorem dX12_keepNear_101 : decode cX12_keepNear 101 = .ok (.iload_n 2, 1) := by decide +kernel
theorem dX12_keepNear_102 : decode cX12_keepNear 102 = .ok (.iaload, 1) := by decide +kernel
theorem dX12_keepNear_103 : decode cX12_keepNear 103 = .ok (.if_icmp .ge 5, 3) := by decide +kernel
theorem dX12_keepNear_106 : decode cX12_keepNear 106 = .ok (.iload_n 3, 1) := by decide +kernel
theorem dX12_keepNear_107 : decode cX12_keepNear 107 = .ok (.istore_n 2, 1) := by decide +kernel
theorem dX12_keepNear_108 : decode cX12_keepNear 108 = .ok (.iinc 3 1, 3) := by decide +kernel
theorem dX12_keepNear_111 : decode cX12_keepNear 111 = .ok (.goto (-96), 3) := by decide +kernel
theorem dX12_keepNear_114 : decode cX12_keepNear 114 = .ok (.iload_n 2, 1) := by decide +kernel
theorem dX12_keepNear_115 : decode cX12_keepNear 115 = .ok (.ireturn, 1) := by decide +kernel
theorem dX12_whoseCell_0 : decode cX12_whoseCell 0 = .ok (.iconst 0, 1) := by decide +kernel
theorem dX12_whoseCell_1 : decode cX12_whoseCell 1 = .ok (.istore_n 1, 1) := by decide +kernel
theorem dX12_whoseCell_2 : decode cX12_whoseCell 2 = .ok (.iload_n 1, 1) := by decide +kernel
theorem dX12_whoseCell_3 : decode cX12_whoseCell 3 = .ok (.aload_n 0, 1) := by decide +kernel
theorem dX12_whoseCell_4 : decode cX12_whoseCell 4 = .ok (.getfield 123, 3) := by decide +kernel
theorem dX12_whoseCell_7 : decode cX12_whoseCell 7 = .ok (.if_icmp .ge 24, 3) := by decide +kernel
theorem dX12_whoseCell_10 : decode cX12_whoseCell 10 = .ok (.aload_n 0, 1) := by decide +kernel
theorem dX12_whoseCell_11 : decode cX12_whoseCell 11 = .ok (.getfield 7, 3) := by decide +kernel
theorem dX12_whoseCell_14 : decode cX12_whoseCell 14 = .ok (.iload_n 1, 1) := by decide +kernel
theorem dX12_whoseCell_15 : decode cX12_whoseCell 15 = .ok (.iaload, 1) := by decide +kernel
theorem dX12_whoseCell_16 : decode cX12_whoseCell 16 = .ok (.aload_n 0, 1) := by decide +kernel
theorem dX12_whoseCell_17 : decode cX12_whoseCell 17 = .ok (.getfield 240, 3) := by decide +kernel
theorem dX12_whoseCell_20 : decode cX12_whoseCell 20 = .ok (.if_icmp .ne 5, 3) := by decide +kernel
theorem dX12_whoseCell_23 : decode cX12_whoseCell 23 = .ok (.iload_n 1, 1) := by decide +kernel
theorem dX12_whoseCell_24 : decode cX12_whoseCell 24 = .ok (.ireturn, 1) := by decide +kernel
theorem dX12_whoseCell_25 : decode cX12_whoseCell 25 = .ok (.iinc 1 1, 3) := by decide +kernel
theorem dX12_whoseCell_28 : decode cX12_whoseCell 28 = .ok (.goto (-26), 3) := by decide +kernel
theorem dX12_whoseCell_31 : decode cX12_whoseCell 31 = .ok (.bipush 8, 2) := by decide +kernel
theorem dX12_whoseCell_33 : decode cX12_whoseCell 33 = .ok (.ireturn, 1) := by decide +kernel
theorem dX12_goHeard_0 : decode cX12_goHeard 0 = .ok (.iload_n 1, 1) := by decide +kernel
theorem dX12_goHeard_1 : decode cX12_goHeard 1 = .ok (.aload_n 0, 1) := by decide +kernel
theorem dX12_goHeard_2 : decode cX12_goHeard 2 = .ok (.getfield 353, 3) := by decide +kernel
theorem dX12_goHeard_5 : decode cX12_goHeard 5 = .ok (.if_icmp .ne 75, 3) := by decide +kernel
theorem dX12_goHeard_8 : decode cX12_goHeard 8 = .ok (.aload_n 0, 1) := by decide +kernel
theorem dX12_goHeard_9 : decode cX12_goHeard 9 = .ok (.dup, 1) := by decide +kernel
theorem dX12_goHeard_10 : decode cX12_goHeard 10 = .ok (.getfield 356, 3) := by decide +kernel
theorem dX12_goHeard_13 : decode cX12_goHeard 13 = .ok (.iconst 1, 1) := by decide +kernel
theorem dX12_goHeard_14 : decode cX12_goHeard 14 = .ok (.iadd, 1) := by decide +kernel
theorem dX12_goHeard_15 : decode cX12_goHeard 15 = .ok (.putfield 356, 3) := by decide +kernel
theorem dX12_goHeard_18 : decode cX12_goHeard 18 = .ok (.aload_n 0, 1) := by decide +kernel
theorem dX12_goHeard_19 : decode cX12_goHeard 19 = .ok (.dup, 1) := by decide +kernel
theorem dX12_goHeard_20 : decode cX12_goHeard 20 = .ok (.getfield 359, 3) := by decide +kernel
theorem dX12_goHeard_23 : decode cX12_goHeard 23 = .ok (.iload_n 2, 1) := by decide +kernel
theorem dX12_goHeard_24 : decode cX12_goHeard 24 = .ok (.iand, 1) := by decide +kernel
theorem dX12_goHeard_25 : decode cX12_goHeard 25 = .ok (.putfield 359, 3) := by decide +kernel
theorem dX12_goHeard_28 : decode cX12_goHeard 28 = .ok (.aload_n 0, 1) := by decide +kernel
theorem dX12_goHeard_29 : decode cX12_goHeard 29 = .ok (.getfield 362, 3) := by decide +kernel
theorem dX12_goHeard_32 : decode cX12_goHeard 32 = .ok (.ifCond .lt 34, 3) := by decide +kernel
theorem dX12_goHeard_35 : decode cX12_goHeard 35 = .ok (.iload_n 2, 1) := by decide +kernel
theorem dX12_goHeard_36 : decode cX12_goHeard 36 = .ok (.invokestatic 258, 3) := by decide +kernel
theorem dX12_goHeard_39 : decode cX12_goHeard 39 = .ok (.aload_n 0, 1) := by decide +kernel
theorem dX12_goHeard_40 : decode cX12_goHeard 40 = .ok (.getfield 362, 3) := by decide +kernel
theorem dX12_goHeard_43 : decode cX12_goHeard 43 = .ok (.if_icmp .gt 22, 3) := by decide +kernel
theorem dX12_goHeard_46 : decode cX12_goHeard 46 = .ok (.iload_n 2, 1) := by decide +kernel
theorem dX12_goHeard_47 : decode cX12_goHeard 47 = .ok (.invokestatic 258, 3) := by decide +kernel
theorem dX12_goHeard_50 : decode cX12_goHeard 50 = .ok (.aload_n 0, 1) := by decide +kernel
theorem dX12_goHeard_51 : decode cX12_goHeard 51 = .ok (.getfield 362, 3) := by decide +kernel
theorem dX12_goHeard_54 : decode cX12_goHeard 54 = .ok (.if_icmp .ne 12, 3) := by decide +kernel
theorem dX12_goHeard_57 : decode cX12_goHeard 57 = .ok (.iload_n 2, 1) := by decide +kernel
theorem dX12_goHeard_58 : decode cX12_goHeard 58 = .ok (.aload_n 0, 1) := by decide +kernel
theorem dX12_goHeard_59 : decode cX12_goHeard 59 = .ok (.getfield 365, 3) := by decide +kernel
theorem dX12_goHeard_62 : decode cX12_goHeard 62 = .ok (.if_icmp .le 4, 3) := by decide +kernel
theorem dX12_goHeard_65 : decode cX12_goHeard 65 = .ok (.return_, 1) := by decide +kernel
theorem dX12_goHeard_66 : decode cX12_goHeard 66 = .ok (.aload_n 0, 1) := by decide +kernel
theorem dX12_goHeard_67 : decode cX12_goHeard 67 = .ok (.iload_n 2, 1) := by decide +kernel
theorem dX12_goHeard_68 : decode cX12_goHeard 68 = .ok (.invokestatic 258, 3) := by decide +kernel
theorem dX12_goHeard_71 : decode cX12_goHeard 71 = .ok (.putfield 362, 3) := by decide +kernel
theorem dX12_goHeard_74 : decode cX12_goHeard 74 = .ok (.aload_n 0, 1) := by decide +kernel
theorem dX12_goHeard_75 : decode cX12_goHeard 75 = .ok (.iload_n 2, 1) := by decide +kernel
theorem dX12_goHeard_76 : decode cX12_goHeard 76 = .ok (.putfield 365, 3) := by decide +kernel
theorem dX12_goHeard_79 : decode cX12_goHeard 79 = .ok (.return_, 1) := by decide +kernel
theorem dX12_goHeard_80 : decode cX12_goHeard 80 = .ok (.aload_n 0, 1) := by decide +kernel
theorem dX12_goHeard_81 : decode cX12_goHeard 81 = .ok (.getfield 240, 3) := by decide +kernel
theorem dX12_goHeard_84 : decode cX12_goHeard 84 = .ok (.istore_n 3, 1) := by decide +kernel
theorem dX12_goHeard_85 : decode cX12_goHeard 85 = .ok (.aload_n 0, 1) := by decide +kernel
theorem dX12_goHeard_86 : decode cX12_goHeard 86 = .ok (.getfield 243, 3) := by decide +kernel
theorem dX12_goHeard_89 : decode cX12_goHeard 89 = .ok (.istore 4, 2) := by decide +kernel
theorem dX12_goHeard_91 : decode cX12_goHeard 91 = .ok (.aload_n 0, 1) := by decide +kernel
theorem dX12_goHeard_92 : decode cX12_goHeard 92 = .ok (.getfield 246, 3) := by decide +kernel
theorem dX12_goHeard_95 : decode cX12_goHeard 95 = .ok (.istore 5, 2) := by decide +kernel
theorem dX12_goHeard_97 : decode cX12_goHeard 97 = .ok (.aload_n 0, 1) := by decide +kernel
theorem dX12_goHeard_98 : decode cX12_goHeard 98 = .ok (.getfield 249, 3) := by decide +kernel
theorem dX12_goHeard_101 : decode cX12_goHeard 101 = .ok (.istore 6, 2) := by decide +kernel
theorem dX12_goHeard_103 : decode cX12_goHeard 103 = .ok (.iconst 0, 1) := by decide +kernel
theorem dX12_goHeard_104 : decode cX12_goHeard 104 = .ok (.istore 7, 2) := by decide +kernel
theorem dX12_goHeard_106 : decode cX12_goHeard 106 = .ok (.iload 7, 2) := by decide +kernel
theorem dX12_goHeard_108 : decode cX12_goHeard 108 = .ok (.iconst 2, 1) := by decide +kernel
theorem dX12_goHeard_109 : decode cX12_goHeard 109 = .ok (.if_icmp .ge 129, 3) := by decide +kernel
theorem dX12_goHeard_112 : decode cX12_goHeard 112 = .ok (.aload_n 0, 1) := by decide +kernel
theorem dX12_goHeard_113 : decode cX12_goHeard 113 = .ok (.aload_n 0, 1) := by decide +kernel
theorem dX12_goHeard_114 : decode cX12_goHeard 114 = .ok (.aload_n 0, 1) := by decide +kernel
theorem dX12_goHeard_115 : decode cX12_goHeard 115 = .ok (.getfield 368, 3) := by decide +kernel
theorem dX12_goHeard_118 : decode cX12_goHeard 118 = .ok (.iload_n 1, 1) := by decide +kernel
theorem dX12_goHeard_119 : decode cX12_goHeard 119 = .ok (.invokevirtual 283, 3) := by decide +kernel
theorem dX12_goHeard_122 : decode cX12_goHeard 122 = .ok (.iconst 2, 1) := by decide +kernel
theorem dX12_goHeard_123 : decode cX12_goHeard 123 = .ok (.idiv, 1) := by decide +kernel
theorem dX12_goHeard_124 : decode cX12_goHeard 124 = .ok (.iload 7, 2) := by decide +kernel
theorem dX12_goHeard_126 : decode cX12_goHeard 126 = .ok (.iconst 1, 1) := by decide +kernel
theorem dX12_goHeard_127 : decode cX12_goHeard 127 = .ok (.if_icmp .ne 7, 3) := by decide +kernel
theorem dX12_goHeard_130 : decode cX12_goHeard 130 = .ok (.iconst 1, 1) := by decide +kernel
theorem dX12_goHeard_131 : decode cX12_goHeard 131 = .ok (.goto 4, 3) := by decide +kernel
theorem dX12_goHeard_134 : decode cX12_goHeard 134 = .ok (.iconst 0, 1) := by decide +kernel
theorem dX12_goHeard_135 : decode cX12_goHeard 135 = .ok (.invokevirtual 292, 3) := by decide +kernel
theorem dX12_goHeard_138 : decode cX12_goHeard 138 = .ok (.istore 8, 2) := by decide +kernel
theorem dX12_goHeard_140 : decode cX12_goHeard 140 = .ok (.aload_n 0, 1) := by decide +kernel
theorem dX12_goHeard_141 : decode cX12_goHeard 141 = .ok (.getfield 267, 3) := by decide +kernel
theorem dX12_goHeard_144 : decode cX12_goHeard 144 = .ok (.istore 9, 2) := by decide +kernel
theorem dX12_goHeard_146 : decode cX12_goHeard 146 = .ok (.iload_n 1, 1) := by decide +kernel
theorem dX12_goHeard_147 : decode cX12_goHeard 147 = .ok (.aload_n 0, 1) := by decide +kernel
theorem dX12_goHeard_148 : decode cX12_goHeard 148 = .ok (.getfield 106, 3) := by decide +kernel
theorem dX12_goHeard_151 : decode cX12_goHeard 151 = .ok (.aload_n 0, 1) := by decide +kernel
theorem dX12_goHeard_152 : decode cX12_goHeard 152 = .ok (.getfield 371, 3) := by decide +kernel
theorem dX12_goHeard_155 : decode cX12_goHeard 155 = .ok (.iaload, 1) := by decide +kernel
theorem dX12_goHeard_156 : decode cX12_goHeard 156 = .ok (.if_icmp .ge 19, 3) := by decide +kernel
theorem dX12_goHeard_159 : decode cX12_goHeard 159 = .ok (.aload_n 0, 1) := by decide +kernel
theorem dX12_goHeard_160 : decode cX12_goHeard 160 = .ok (.aload_n 0, 1) := by decide +kernel
theorem dX12_goHeard_161 : decode cX12_goHeard 161 = .ok (.getfield 371, 3) := by decide +kernel
theorem dX12_goHeard_164 : decode cX12_goHeard 164 = .ok (.iload_n 1, 1) := by decide +kernel
theorem dX12_goHeard_165 : decode cX12_goHeard 165 = .ok (.invokevirtual 283, 3) := by decide +kernel
theorem dX12_goHeard_168 : decode cX12_goHeard 168 = .ok (.aload_n 0, 1) := by decide +kernel
theorem dX12_goHeard_169 : decode cX12_goHeard 169 = .ok (.invokevirtual 374, 3) := by decide +kernel
theorem dX12_goHeard_172 : decode cX12_goHeard 172 = .ok (.if_icmp .ne 16, 3) := by decide +kernel
theorem dX12_goHeard_175 : decode cX12_goHeard 175 = .ok (.aload_n 0, 1) := by decide +kernel
theorem dX12_goHeard_176 : decode cX12_goHeard 176 = .ok (.iload_n 1, 1) := by decide +kernel
theorem dX12_goHeard_177 : decode cX12_goHeard 177 = .ok (.iconst 1, 1) := by decide +kernel
theorem dX12_goHeard_178 : decode cX12_goHeard 178 = .ok (.iadd, 1) := by decide +kernel
theorem dX12_goHeard_179 : decode cX12_goHeard 179 = .ok (.iload_n 2, 1) := by decide +kernel
theorem dX12_goHeard_180 : decode cX12_goHeard 180 = .ok (.iload 7, 2) := by decide +kernel
theorem dX12_goHeard_182 : decode cX12_goHeard 182 = .ok (.iload_n 1, 1) := by decide +kernel
theorem dX12_goHeard_183 : decode cX12_goHeard 183 = .ok (.ishl, 1) := by decide +kernel
theorem dX12_goHeard_184 : decode cX12_goHeard 184 = .ok (.ior, 1) := by decide +kernel
theorem dX12_goHeard_185 : decode cX12_goHeard 185 = .ok (.invokevirtual 377, 3) := by decide +kernel
theorem dX12_goHeard_188 : decode cX12_goHeard 188 = .ok (.iload 8, 2) := by decide +kernel
theorem dX12_goHeard_190 : decode cX12_goHeard 190 = .ok (.ifCond .lt 19, 3) := by decide +kernel
theorem dX12_goHeard_193 : decode cX12_goHeard 193 = .ok (.iload 9, 2) := by decide +kernel
theorem dX12_goHeard_195 : decode cX12_goHeard 195 = .ok (.ifCond .ne 14, 3) := by decide +kernel
theorem dX12_goHeard_198 : decode cX12_goHeard 198 = .ok (.aload_n 0, 1) := by decide +kernel
theorem dX12_goHeard_199 : decode cX12_goHeard 199 = .ok (.getfield 67, 3) := by decide +kernel
theorem dX12_goHeard_202 : decode cX12_goHeard 202 = .ok (.iload 8, 2) := by decide +kernel
theorem dX12_goHeard_204 : decode cX12_goHeard 204 = .ok (.dup2, 1) := by decide +kernel
theorem dX12_goHeard_205 : decode cX12_goHeard 205 = .ok (.iaload, 1) := by decide +kernel
theorem dX12_goHeard_206 : decode cX12_goHeard 206 = .ok (.iconst 1, 1) := by decide +kernel
theorem dX12_goHeard_207 : decode cX12_goHeard 207 = .ok (.iadd, 1) := by decide +kernel
theorem dX12_goHeard_208 : decode cX12_goHeard 208 = .ok (.iastore, 1) := by decide +kernel
theorem dX12_goHeard_209 : decode cX12_goHeard 209 = .ok (.aload_n 0, 1) := by decide +kernel
theorem dX12_goHeard_210 : decode cX12_goHeard 210 = .ok (.iload_n 3, 1) := by decide +kernel
theorem dX12_goHeard_211 : decode cX12_goHeard 211 = .ok (.putfield 240, 3) := by decide +kernel
theorem dX12_goHeard_214 : decode cX12_goHeard 214 = .ok (.aload_n 0, 1) := by decide +kernel
theorem dX12_goHeard_215 : decode cX12_goHeard 215 = .ok (.iload 4, 2) := by decide +kernel
theorem dX12_goHeard_217 : decode cX12_goHeard 217 = .ok (.putfield 243, 3) := by decide +kernel
theorem dX12_goHeard_220 : decode cX12_goHeard 220 = .ok (.aload_n 0, 1) := by decide +kernel
theorem dX12_goHeard_221 : decode cX12_goHeard 221 = .ok (.iload 5, 2) := by decide +kernel
theorem dX12_goHeard_223 : decode cX12_goHeard 223 = .ok (.putfield 246, 3) := by decide +kernel
theorem dX12_goHeard_226 : decode cX12_goHeard 226 = .ok (.aload_n 0, 1) := by decide +kernel
theorem dX12_goHeard_227 : decode cX12_goHeard 227 = .ok (.iload 6, 2) := by decide +kernel
theorem dX12_goHeard_229 : decode cX12_goHeard 229 = .ok (.putfield 249, 3) := by decide +kernel
theorem dX12_goHeard_232 : decode cX12_goHeard 232 = .ok (.iinc 7 1, 3) := by decide +kernel
theorem dX12_goHeard_235 : decode cX12_goHeard 235 = .ok (.goto (-129), 3) := by decide +kernel
theorem dX12_goHeard_238 : decode cX12_goHeard 238 = .ok (.return_, 1) := by decide +kernel
theorem dX12_heard_0 : decode cX12_heard 0 = .ok (.iload_n 1, 1) := by decide +kernel
theorem dX12_heard_1 : decode cX12_heard 1 = .ok (.invokestatic 141, 3) := by decide +kernel
theorem dX12_heard_4 : decode cX12_heard 4 = .ok (.ifCond .eq 19, 3) := by decide +kernel
theorem dX12_heard_7 : decode cX12_heard 7 = .ok (.iload_n 2, 1) := by decide +kernel
theorem dX12_heard_8 : decode cX12_heard 8 = .ok (.invokestatic 141, 3) := by decide +kernel
theorem dX12_heard_11 : decode cX12_heard 11 = .ok (.ifCond .eq 12, 3) := by decide +kernel
theorem dX12_heard_14 : decode cX12_heard 14 = .ok (.iload_n 3, 1) := by decide +kernel
theorem dX12_heard_15 : decode cX12_heard 15 = .ok (.iconst 0, 1) := by decide +kernel
theorem dX12_heard_16 : decode cX12_heard 16 = .ok (.iconst 3, 1) := by decide +kernel
theorem dX12_heard_17 : decode cX12_heard 17 = .ok (.invokestatic 126, 3) := by decide +kernel
theorem dX12_heard_20 : decode cX12_heard 20 = .ok (.ifCond .ne 5, 3) := by decide +kernel
theorem dX12_heard_23 : decode cX12_heard 23 = .ok (.iconst (-1), 1) := by decide +kernel
theorem dX12_heard_24 : decode cX12_heard 24 = .ok (.ireturn, 1) := by decide +kernel
theorem dX12_heard_25 : decode cX12_heard 25 = .ok (.aload_n 0, 1) := by decide +kernel
theorem dX12_heard_26 : decode cX12_heard 26 = .ok (.iload_n 1, 1) := by decide +kernel
theorem dX12_heard_27 : decode cX12_heard 27 = .ok (.iconst 0, 1) := by decide +kernel
theorem dX12_heard_28 : decode cX12_heard 28 = .ok (.invokevirtual 299, 3) := by decide +kernel
theorem dX12_heard_31 : decode cX12_heard 31 = .ok (.ifCond .ge 10, 3) := by decide +kernel
theorem dX12_heard_34 : decode cX12_heard 34 = .ok (.aload_n 0, 1) := by decide +kernel
theorem dX12_heard_35 : decode cX12_heard 35 = .ok (.iload_n 1, 1) := by decide +kernel
theorem dX12_heard_36 : decode cX12_heard 36 = .ok (.iconst 0, 1) := by decide +kernel
theorem dX12_heard_37 : decode cX12_heard 37 = .ok (.invokevirtual 299, 3) := by decide +kernel
theorem dX12_heard_40 : decode cX12_heard 40 = .ok (.ireturn, 1) := by decide +kernel
theorem dX12_heard_41 : decode cX12_heard 41 = .ok (.aload_n 0, 1) := by decide +kernel
theorem dX12_heard_42 : decode cX12_heard 42 = .ok (.iload_n 2, 1) := by decide +kernel
theorem dX12_heard_43 : decode cX12_heard 43 = .ok (.iconst 0, 1) := by decide +kernel
theorem dX12_heard_44 : decode cX12_heard 44 = .ok (.invokevirtual 299, 3) := by decide +kernel
theorem dX12_heard_47 : decode cX12_heard 47 = .ok (.ifCond .ge 10, 3) := by decide +kernel
theorem dX12_heard_50 : decode cX12_heard 50 = .ok (.aload_n 0, 1) := by decide +kernel
theorem dX12_heard_51 : decode cX12_heard 51 = .ok (.iload_n 2, 1) := by decide +kernel
theorem dX12_heard_52 : decode cX12_heard 52 = .ok (.iconst 0, 1) := by decide +kernel
theorem dX12_heard_53 : decode cX12_heard 53 = .ok (.invokevirtual 299, 3) := by decide +kernel
theorem dX12_heard_56 : decode cX12_heard 56 = .ok (.ireturn, 1) := by decide +kernel
theorem dX12_heard_57 : decode cX12_heard 57 = .ok (.aload_n 0, 1) := by decide +kernel
theorem dX12_heard_58 : decode cX12_heard 58 = .ok (.aload_n 0, 1) := by decide +kernel
theorem dX12_heard_59 : decode cX12_heard 59 = .ok (.iload_n 1, 1) := by decide +kernel
theorem dX12_heard_60 : decode cX12_heard 60 = .ok (.bipush 24, 2) := by decide +kernel
theorem dX12_heard_62 : decode cX12_heard 62 = .ok (.invokevirtual 289, 3) := by decide +kernel
theorem dX12_heard_65 : decode cX12_heard 65 = .ok (.putfield 353, 3) := by decide +kernel
theorem dX12_heard_68 : decode cX12_heard 68 = .ok (.aload_n 0, 1) := by decide +kernel
theorem dX12_heard_69 : decode cX12_heard 69 = .ok (.getfield 353, 3) := by decide +kernel
theorem dX12_heard_72 : decode cX12_heard 72 = .ok (.bipush 12, 2) := by decide +kernel
theorem dX12_heard_74 : decode cX12_heard 74 = .ok (.if_icmp .le 6, 3) := by decide +kernel
theorem dX12_heard_77 : decode cX12_heard 77 = .ok (.bipush (-5), 2) := by decide +kernel
theorem dX12_heard_79 : decode cX12_heard 79 = .ok (.ireturn, 1) := by decide +kernel
theorem dX12_heard_80 : decode cX12_heard 80 = .ok (.aload_n 0, 1) := by decide +kernel
theorem dX12_heard_81 : decode cX12_heard 81 = .ok (.iload_n 1, 1) := by decide +kernel
theorem dX12_heard_82 : decode cX12_heard 82 = .ok (.putfield 368, 3) := by decide +kernel
theorem dX12_heard_85 : decode cX12_heard 85 = .ok (.aload_n 0, 1) := by decide +kernel
theorem dX12_heard_86 : decode cX12_heard 86 = .ok (.iload_n 2, 1) := by decide +kernel
theorem dX12_heard_87 : decode cX12_heard 87 = .ok (.putfield 371, 3) := by decide +kernel
theorem dX12_heard_90 : decode cX12_heard 90 = .ok (.aload_n 0, 1) := by decide +kernel
theorem dX12_heard_91 : decode cX12_heard 91 = .ok (.iconst 0, 1) := by decide +kernel
theorem dX12_heard_92 : decode cX12_heard 92 = .ok (.putfield 356, 3) := by decide +kernel
theorem dX12_heard_95 : decode cX12_heard 95 = .ok (.aload_n 0, 1) := by decide +kernel
theorem dX12_heard_96 : decode cX12_heard 96 = .ok (.bipush (-2), 2) := by decide +kernel
theorem dX12_heard_98 : decode cX12_heard 98 = .ok (.putfield 362, 3) := by decide +kernel
theorem dX12_heard_101 : decode cX12_heard 101 = .ok (.aload_n 0, 1) := by decide +kernel
theorem dX12_heard_102 : decode cX12_heard 102 = .ok (.bipush (-2), 2) := by decide +kernel
theorem dX12_heard_104 : decode cX12_heard 104 = .ok (.putfield 365, 3) := by decide +kernel
theorem dX12_heard_107 : decode cX12_heard 107 = .ok (.aload_n 0, 1) := by decide +kernel
theorem dX12_heard_108 : decode cX12_heard 108 = .ok (.iconst (-1), 1) := by decide +kernel
theorem dX12_heard_109 : decode cX12_heard 109 = .ok (.putfield 359, 3) := by decide +kernel
theorem dX12_heard_112 : decode cX12_heard 112 = .ok (.aload_n 0, 1) := by decide +kernel
theorem dX12_heard_113 : decode cX12_heard 113 = .ok (.iconst 0, 1) := by decide +kernel
theorem dX12_heard_114 : decode cX12_heard 114 = .ok (.invokevirtual 280, 3) := by decide +kernel
theorem dX12_heard_117 : decode cX12_heard 117 = .ok (.aload_n 0, 1) := by decide +kernel
theorem dX12_heard_118 : decode cX12_heard 118 = .ok (.iconst 0, 1) := by decide +kernel
theorem dX12_heard_119 : decode cX12_heard 119 = .ok (.iconst 0, 1) := by decide +kernel
theorem dX12_heard_120 : decode cX12_heard 120 = .ok (.invokevirtual 377, 3) := by decide +kernel
theorem dX12_heard_123 : decode cX12_heard 123 = .ok (.iload_n 3, 1) := by decide +kernel
theorem dX12_heard_124 : decode cX12_heard 124 = .ok (.tableswitch 43 0 2 #[28, 33, 38], 28) := by decide +kernel
theorem dX12_heard_152 : decode cX12_heard 152 = .ok (.aload_n 0, 1) := by decide +kernel
theorem dX12_heard_153 : decode cX12_heard 153 = .ok (.getfield 356, 3) := by decide +kernel
theorem dX12_heard_156 : decode cX12_heard 156 = .ok (.ireturn, 1) := by decide +kernel
theorem dX12_heard_157 : decode cX12_heard 157 = .ok (.aload_n 0, 1) := by decide +kernel
theorem dX12_heard_158 : decode cX12_heard 158 = .ok (.getfield 362, 3) := by decide +kernel
theorem dX12_heard_161 : decode cX12_heard 161 = .ok (.ireturn, 1) := by decide +kernel
theorem dX12_heard_162 : decode cX12_heard 162 = .ok (.aload_n 0, 1) := by decide +kernel
theorem dX12_heard_163 : decode cX12_heard 163 = .ok (.getfield 365, 3) := by decide +kernel
theorem dX12_heard_166 : decode cX12_heard 166 = .ok (.ireturn, 1) := by decide +kernel
theorem dX12_heard_167 : decode cX12_heard 167 = .ok (.aload_n 0, 1) := by decide +kernel
theorem dX12_heard_168 : decode cX12_heard 168 = .ok (.getfield 356, 3) := by decide +kernel
theorem dX12_heard_171 : decode cX12_heard 171 = .ok (.ifCond .ne 7, 3) := by decide +kernel
theorem dX12_heard_174 : decode cX12_heard 174 = .ok (.iconst 0, 1) := by decide +kernel
theorem dX12_heard_175 : decode cX12_heard 175 = .ok (.goto 7, 3) := by decide +kernel
theorem dX12_heard_178 : decode cX12_heard 178 = .ok (.aload_n 0, 1) := by decide +kernel
theorem dX12_heard_179 : decode cX12_heard 179 = .ok (.getfield 359, 3) := by decide +kernel
theorem dX12_heard_182 : decode cX12_heard 182 = .ok (.ireturn, 1) := by decide +kernel
theorem dX12_drawn_0 : decode cX12_drawn 0 = .ok (.iload_n 2, 1) := by decide +kernel
theorem dX12_drawn_1 : decode cX12_drawn 1 = .ok (.ifCond .lt 43, 3) := by decide +kernel
theorem dX12_drawn_4 : decode cX12_drawn 4 = .ok (.iload_n 2, 1) := by decide +kernel
theorem dX12_drawn_5 : decode cX12_drawn 5 = .ok (.bipush 100, 2) := by decide +kernel
theorem dX12_drawn_7 : decode cX12_drawn 7 = .ok (.idiv, 1) := by decide +kernel
theorem dX12_drawn_8 : decode cX12_drawn 8 = .ok (.iconst 1, 1) := by decide +kernel
theorem dX12_drawn_9 : decode cX12_drawn 9 = .ok (.bipush 30, 2) := by decide +kernel
theorem dX12_drawn_11 : decode cX12_drawn 11 = .ok (.invokestatic 126, 3) := by decide +kernel
theorem dX12_drawn_14 : decode cX12_drawn 14 = .ok (.ifCond .eq 30, 3) := by decide +kernel
theorem dX12_drawn_17 : decode cX12_drawn 17 = .ok (.iload_n 2, 1) := by decide +kernel
theorem dX12_drawn_18 : decode cX12_drawn 18 = .ok (.bipush 100, 2) := by decide +kernel
theorem dX12_drawn_20 : decode cX12_drawn 20 = .ok (.irem, 1) := by decide +kernel
theorem dX12_drawn_21 : decode cX12_drawn 21 = .ok (.iconst 1, 1) := by decide +kernel
theorem dX12_drawn_22 : decode cX12_drawn 22 = .ok (.bipush 40, 2) := by decide +kernel
theorem dX12_drawn_24 : decode cX12_drawn 24 = .ok (.invokestatic 126, 3) := by decide +kernel
theorem dX12_drawn_27 : decode cX12_drawn 27 = .ok (.ifCond .eq 17, 3) := by decide +kernel
theorem dX12_drawn_30 : decode cX12_drawn 30 = .ok (.iload_n 3, 1) := by decide +kernel
theorem dX12_drawn_31 : decode cX12_drawn 31 = .ok (.iconst (-1), 1) := by decide +kernel
theorem dX12_drawn_32 : decode cX12_drawn 32 = .ok (.aload_n 0, 1) := by decide +kernel
theorem dX12_drawn_33 : decode cX12_drawn 33 = .ok (.getfield 123, 3) := by decide +kernel
theorem dX12_drawn_36 : decode cX12_drawn 36 = .ok (.iconst 1, 1) := by decide +kernel
theorem dX12_drawn_37 : decode cX12_drawn 37 = .ok (.isub, 1) := by decide +kernel
theorem dX12_drawn_38 : decode cX12_drawn 38 = .ok (.invokestatic 126, 3) := by decide +kernel
theorem dX12_drawn_41 : decode cX12_drawn 41 = .ok (.ifCond .ne 5, 3) := by decide +kernel
theorem dX12_drawn_44 : decode cX12_drawn 44 = .ok (.iconst (-1), 1) := by decide +kernel
theorem dX12_drawn_45 : decode cX12_drawn 45 = .ok (.ireturn, 1) := by decide +kernel
theorem dX12_drawn_46 : decode cX12_drawn 46 = .ok (.iload_n 1, 1) := by decide +kernel
theorem dX12_drawn_47 : decode cX12_drawn 47 = .ok (.istore 4, 2) := by decide +kernel
theorem dX12_drawn_49 : decode cX12_drawn 49 = .ok (.iconst 0, 1) := by decide +kernel
theorem dX12_drawn_50 : decode cX12_drawn 50 = .ok (.istore 5, 2) := by decide +kernel
theorem dX12_drawn_52 : decode cX12_drawn 52 = .ok (.iconst 0, 1) := by decide +kernel
theorem dX12_drawn_53 : decode cX12_drawn 53 = .ok (.istore 6, 2) := by decide +kernel
theorem dX12_drawn_55 : decode cX12_drawn 55 = .ok (.iconst 0, 1) := by decide +kernel
theorem dX12_drawn_56 : decode cX12_drawn 56 = .ok (.istore 7, 2) := by decide +kernel
theorem dX12_drawn_58 : decode cX12_drawn 58 = .ok (.iload 7, 2) := by decide +kernel
theorem dX12_drawn_60 : decode cX12_drawn 60 = .ok (.iload_n 2, 1) := by decide +kernel
theorem dX12_drawn_61 : decode cX12_drawn 61 = .ok (.bipush 100, 2) := by decide +kernel
theorem dX12_drawn_63 : decode cX12_drawn 63 = .ok (.idiv, 1) := by decide +kernel
theorem dX12_drawn_64 : decode cX12_drawn 64 = .ok (.if_icmp .ge 121, 3) := by decide +kernel
theorem dX12_drawn_67 : decode cX12_drawn 67 = .ok (.aload_n 0, 1) := by decide +kernel
theorem dX12_drawn_68 : decode cX12_drawn 68 = .ok (.getfield 123, 3) := by decide +kernel
theorem dX12_drawn_71 : decode cX12_drawn 71 = .ok (.ifCond .le 114, 3) := by decide +kernel
theorem dX12_drawn_74 : decode cX12_drawn 74 = .ok (.aload_n 0, 1) := by decide +kernel
theorem dX12_drawn_75 : decode cX12_drawn 75 = .ok (.iconst 0, 1) := by decide +kernel
theorem dX12_drawn_76 : decode cX12_drawn 76 = .ok (.invokevirtual 280, 3) := by decide +kernel
theorem dX12_drawn_79 : decode cX12_drawn 79 = .ok (.iconst 0, 1) := by decide +kernel
theorem dX12_drawn_80 : decode cX12_drawn 80 = .ok (.istore 8, 2) := by decide +kernel
theorem dX12_drawn_82 : decode cX12_drawn 82 = .ok (.iload 8, 2) := by decide +kernel
theorem dX12_drawn_84 : decode cX12_drawn 84 = .ok (.iload_n 2, 1) := by decide +kernel
theorem dX12_drawn_85 : decode cX12_drawn 85 = .ok (.bipush 100, 2) := by decide +kernel
theorem dX12_drawn_87 : decode cX12_drawn 87 = .ok (.irem, 1) := by decide +kernel
theorem dX12_drawn_88 : decode cX12_drawn 88 = .ok (.if_icmp .ge 91, 3) := by decide +kernel
theorem dX12_drawn_91 : decode cX12_drawn 91 = .ok (.iload 4, 2) := by decide +kernel
theorem dX12_drawn_93 : decode cX12_drawn 93 = .ok (.ldc_w 380, 3) := by decide +kernel
theorem dX12_drawn_96 : decode cX12_drawn 96 = .ok (.imul, 1) := by decide +kernel
theorem dX12_drawn_97 : decode cX12_drawn 97 = .ok (.sipush 12345, 3) := by decide +kernel
theorem dX12_drawn_100 : decode cX12_drawn 100 = .ok (.iadd, 1) := by decide +kernel
theorem dX12_drawn_101 : decode cX12_drawn 101 = .ok (.istore 4, 2) := by decide +kernel
theorem dX12_drawn_103 : decode cX12_drawn 103 = .ok (.iload 4, 2) := by decide +kernel
theorem dX12_drawn_105 : decode cX12_drawn 105 = .ok (.bipush 8, 2) := by decide +kernel
theorem dX12_drawn_107 : decode cX12_drawn 107 = .ok (.iushr, 1) := by decide +kernel
theorem dX12_drawn_108 : decode cX12_drawn 108 = .ok (.aload_n 0, 1) := by decide +kernel
theorem dX12_drawn_109 : decode cX12_drawn 109 = .ok (.getfield 123, 3) := by decide +kernel
theorem dX12_drawn_112 : decode cX12_drawn 112 = .ok (.irem, 1) := by decide +kernel
theorem dX12_drawn_113 : decode cX12_drawn 113 = .ok (.istore 9, 2) := by decide +kernel
theorem dX12_drawn_115 : decode cX12_drawn 115 = .ok (.aload_n 0, 1) := by decide +kernel
theorem dX12_drawn_116 : decode cX12_drawn 116 = .ok (.iload 9, 2) := by decide +kernel
theorem dX12_drawn_118 : decode cX12_drawn 118 = .ok (.iload 4, 2) := by decide +kernel
theorem dX12_drawn_120 : decode cX12_drawn 120 = .ok (.bipush 16, 2) := by decide +kernel
theorem dX12_drawn_122 : decode cX12_drawn 122 = .ok (.iushr, 1) := by decide +kernel
theorem dX12_drawn_123 : decode cX12_drawn 123 = .ok (.bipush 12, 2) := by decide +kernel
theorem dX12_drawn_125 : decode cX12_drawn 125 = .ok (.irem, 1) := by decide +kernel
theorem dX12_drawn_126 : decode cX12_drawn 126 = .ok (.aload_n 0, 1) := by decide +kernel
theorem dX12_drawn_127 : decode cX12_drawn 127 = .ok (.getfield 13, 3) := by decide +kernel
theorem dX12_drawn_130 : decode cX12_drawn 130 = .ok (.iload 9, 2) := by decide +kernel
theorem dX12_drawn_132 : decode cX12_drawn 132 = .ok (.iaload, 1) := by decide +kernel
theorem dX12_drawn_133 : decode cX12_drawn 133 = .ok (.if_icmp .ge 7, 3) := by decide +kernel
theorem dX12_drawn_136 : decode cX12_drawn 136 = .ok (.iconst 1, 1) := by decide +kernel
theorem dX12_drawn_137 : decode cX12_drawn 137 = .ok (.goto 4, 3) := by decide +kernel
theorem dX12_drawn_140 : decode cX12_drawn 140 = .ok (.iconst 0, 1) := by decide +kernel
theorem dX12_drawn_141 : decode cX12_drawn 141 = .ok (.invokevirtual 292, 3) := by decide +kernel
theorem dX12_drawn_144 : decode cX12_drawn 144 = .ok (.istore 10, 2) := by decide +kernel
theorem dX12_drawn_146 : decode cX12_drawn 146 = .ok (.iload 10, 2) := by decide +kernel
theorem dX12_drawn_148 : decode cX12_drawn 148 = .ok (.ifCond .ge 6, 3) := by decide +kernel
theorem dX12_drawn_151 : decode cX12_drawn 151 = .ok (.goto 22, 3) := by decide +kernel
theorem dX12_drawn_154 : decode cX12_drawn 154 = .ok (.iload 10, 2) := by decide +kernel
theorem dX12_drawn_156 : decode cX12_drawn 156 = .ok (.iload_n 3, 1) := by decide +kernel
theorem dX12_drawn_157 : decode cX12_drawn 157 = .ok (.if_icmp .ne 6, 3) := by decide +kernel
theorem dX12_drawn_160 : decode cX12_drawn 160 = .ok (.iinc 5 1, 3) := by decide +kernel
theorem dX12_drawn_163 : decode cX12_drawn 163 = .ok (.aload_n 0, 1) := by decide +kernel
theorem dX12_drawn_164 : decode cX12_drawn 164 = .ok (.getfield 267, 3) := by decide +kernel
theorem dX12_drawn_167 : decode cX12_drawn 167 = .ok (.ifCond .eq 6, 3) := by decide +kernel
theorem dX12_drawn_170 : decode cX12_drawn 170 = .ok (.iinc 6 1, 3) := by decide +kernel
theorem dX12_drawn_173 : decode cX12_drawn 173 = .ok (.iinc 8 1, 3) := by decide +kernel
theorem dX12_drawn_176 : decode cX12_drawn 176 = .ok (.goto (-94), 3) := by decide +kernel
theorem dX12_drawn_179 : decode cX12_drawn 179 = .ok (.iinc 7 1, 3) := by decide +kernel
theorem dX12_drawn_182 : decode cX12_drawn 182 = .ok (.goto (-124), 3) := by decide +kernel
theorem dX12_drawn_185 : decode cX12_drawn 185 = .ok (.iload_n 3, 1) := by decide +kernel
theorem dX12_drawn_186 : decode cX12_drawn 186 = .ok (.ifCond .ge 8, 3) := by decide +kernel
theorem dX12_drawn_189 : decode cX12_drawn 189 = .ok (.iload 6, 2) := by decide +kernel
theorem dX12_drawn_191 : decode cX12_drawn 191 = .ok (.goto 5, 3) := by decide +kernel
theorem dX12_drawn_194 : decode cX12_drawn 194 = .ok (.iload 5, 2) := by decide +kernel
theorem dX12_drawn_196 : decode cX12_drawn 196 = .ok (.ireturn, 1) := by decide +kernel
theorem dX12_say_0 : decode cX12_say 0 = .ok (.aload_n 0, 1) := by decide +kernel
theorem dX12_say_1 : decode cX12_say 1 = .ok (.iload_n 1, 1) := by decide +kernel
theorem dX12_say_2 : decode cX12_say 2 = .ok (.invokevirtual 130, 3) := by decide +kernel
theorem dX12_say_5 : decode cX12_say 5 = .ok (.ifCond .eq 12, 3) := by decide +kernel
theorem dX12_say_8 : decode cX12_say 8 = .ok (.iload_n 2, 1) := by decide +kernel
theorem dX12_say_9 : decode cX12_say 9 = .ok (.iconst 0, 1) := by decide +kernel
theorem dX12_say_10 : decode cX12_say 10 = .ok (.iconst 1, 1) := by decide +kernel
theorem dX12_say_11 : decode cX12_say 11 = .ok (.invokestatic 126, 3) := by decide +kernel
theorem dX12_say_14 : decode cX12_say 14 = .ok (.ifCond .ne 5, 3) := by decide +kernel
theorem dX12_say_17 : decode cX12_say 17 = .ok (.iconst (-1), 1) := by decide +kernel
theorem dX12_say_18 : decode cX12_say 18 = .ok (.ireturn, 1) := by decide +kernel
theorem dX12_say_19 : decode cX12_say 19 = .ok (.aload_n 0, 1) := by decide +kernel
theorem dX12_say_20 : decode cX12_say 20 = .ok (.aload_n 0, 1) := by decide +kernel
theorem dX12_say_21 : decode cX12_say 21 = .ok (.getfield 85, 3) := by decide +kernel
theorem dX12_say_24 : decode cX12_say 24 = .ok (.iconst 1, 1) := by decide +kernel
theorem dX12_say_25 : decode cX12_say 25 = .ok (.iaload, 1) := by decide +kernel
theorem dX12_say_26 : decode cX12_say 26 = .ok (.invokevirtual 280, 3) := by decide +kernel
theorem dX12_say_29 : decode cX12_say 29 = .ok (.aload_n 0, 1) := by decide +kernel
theorem dX12_say_30 : decode cX12_say 30 = .ok (.iload_n 1, 1) := by decide +kernel
theorem dX12_say_31 : decode cX12_say 31 = .ok (.iload_n 2, 1) := by decide +kernel
theorem dX12_say_32 : decode cX12_say 32 = .ok (.iconst 1, 1) := by decide +kernel
theorem dX12_say_33 : decode cX12_say 33 = .ok (.if_icmp .ne 7, 3) := by decide +kernel
theorem dX12_say_36 : decode cX12_say 36 = .ok (.iconst 1, 1) := by decide +kernel
theorem dX12_say_37 : decode cX12_say 37 = .ok (.goto 4, 3) := by decide +kernel
theorem dX12_say_40 : decode cX12_say 40 = .ok (.iconst 0, 1) := by decide +kernel
theorem dX12_say_41 : decode cX12_say 41 = .ok (.invokevirtual 292, 3) := by decide +kernel
theorem dX12_say_44 : decode cX12_say 44 = .ok (.istore_n 3, 1) := by decide +kernel
theorem dX12_say_45 : decode cX12_say 45 = .ok (.aload_n 0, 1) := by decide +kernel
theorem dX12_say_46 : decode cX12_say 46 = .ok (.getfield 22, 3) := by decide +kernel
theorem dX12_say_49 : decode cX12_say 49 = .ok (.iconst 0, 1) := by decide +kernel
theorem dX12_say_50 : decode cX12_say 50 = .ok (.aload_n 0, 1) := by decide +kernel
theorem dX12_say_51 : decode cX12_say 51 = .ok (.getfield 240, 3) := by decide +kernel
theorem dX12_say_54 : decode cX12_say 54 = .ok (.iastore, 1) := by decide +kernel
theorem dX12_say_55 : decode cX12_say 55 = .ok (.aload_n 0, 1) := by decide +kernel
theorem dX12_say_56 : decode cX12_say 56 = .ok (.getfield 22, 3) := by decide +kernel
theorem dX12_say_59 : decode cX12_say 59 = .ok (.iconst 2, 1) := by decide +kernel
theorem dX12_say_60 : decode cX12_say 60 = .ok (.aload_n 0, 1) := by decide +kernel
theorem dX12_say_61 : decode cX12_say 61 = .ok (.getfield 246, 3) := by decide +kernel
theorem dX12_say_64 : decode cX12_say 64 = .ok (.iastore, 1) := by decide +kernel
theorem dX12_say_65 : decode cX12_say 65 = .ok (.aload_n 0, 1) := by decide +kernel
theorem dX12_say_66 : decode cX12_say 66 = .ok (.aload_n 0, 1) := by decide +kernel
theorem dX12_say_67 : decode cX12_say 67 = .ok (.getfield 243, 3) := by decide +kernel
theorem dX12_say_70 : decode cX12_say 70 = .ok (.putfield 25, 3) := by decide +kernel
theorem dX12_say_73 : decode cX12_say 73 = .ok (.iconst 0, 1) := by decide +kernel
theorem dX12_say_74 : decode cX12_say 74 = .ok (.istore 4, 2) := by decide +kernel
theorem dX12_say_76 : decode cX12_say 76 = .ok (.iload 4, 2) := by decide +kernel
theorem dX12_say_78 : decode cX12_say 78 = .ok (.aload_n 0, 1) := by decide +kernel
theorem dX12_say_79 : decode cX12_say 79 = .ok (.getfield 123, 3) := by decide +kernel
theorem dX12_say_82 : decode cX12_say 82 = .ok (.if_icmp .ge 23, 3) := by decide +kernel
theorem dX12_say_85 : decode cX12_say 85 = .ok (.aload_n 0, 1) := by decide +kernel
theorem dX12_say_86 : decode cX12_say 86 = .ok (.getfield 16, 3) := by decide +kernel
theorem dX12_say_89 : decode cX12_say 89 = .ok (.iload 4, 2) := by decide +kernel
theorem dX12_say_91 : decode cX12_say 91 = .ok (.aload_n 0, 1) := by decide +kernel
theorem dX12_say_92 : decode cX12_say 92 = .ok (.getfield 67, 3) := by decide +kernel
theorem dX12_say_95 : decode cX12_say 95 = .ok (.iload 4, 2) := by decide +kernel
theorem dX12_say_97 : decode cX12_say 97 = .ok (.iaload, 1) := by decide +kernel
theorem dX12_say_98 : decode cX12_say 98 = .ok (.iastore, 1) := by decide +kernel
theorem dX12_say_99 : decode cX12_say 99 = .ok (.iinc 4 1, 3) := by decide +kernel
theorem dX12_say_102 : decode cX12_say 102 = .ok (.goto (-26), 3) := by decide +kernel
theorem dX12_say_105 : decode cX12_say 105 = .ok (.aload_n 0, 1) := by decide +kernel
theorem dX12_say_106 : decode cX12_say 106 = .ok (.getfield 85, 3) := by decide +kernel
theorem dX12_say_109 : decode cX12_say 109 = .ok (.iconst 0, 1) := by decide +kernel
theorem dX12_say_110 : decode cX12_say 110 = .ok (.dup2, 1) := by decide +kernel
theorem dX12_say_111 : decode cX12_say 111 = .ok (.iaload, 1) := by decide +kernel
theorem dX12_say_112 : decode cX12_say 112 = .ok (.iconst 1, 1) := by decide +kernel
theorem dX12_say_113 : decode cX12_say 113 = .ok (.iadd, 1) := by decide +kernel
theorem dX12_say_114 : decode cX12_say 114 = .ok (.iastore, 1) := by decide +kernel
theorem dX12_say_115 : decode cX12_say 115 = .ok (.aload_n 0, 1) := by decide +kernel
theorem dX12_say_116 : decode cX12_say 116 = .ok (.getfield 85, 3) := by decide +kernel
theorem dX12_say_119 : decode cX12_say 119 = .ok (.iconst 1, 1) := by decide +kernel
theorem dX12_say_120 : decode cX12_say 120 = .ok (.dup2, 1) := by decide +kernel
theorem dX12_say_121 : decode cX12_say 121 = .ok (.iaload, 1) := by decide +kernel
theorem dX12_say_122 : decode cX12_say 122 = .ok (.iload_n 2, 1) := by decide +kernel
theorem dX12_say_123 : decode cX12_say 123 = .ok (.iadd, 1) := by decide +kernel
theorem dX12_say_124 : decode cX12_say 124 = .ok (.iastore, 1) := by decide +kernel
theorem dX12_say_125 : decode cX12_say 125 = .ok (.aload_n 0, 1) := by decide +kernel
theorem dX12_say_126 : decode cX12_say 126 = .ok (.getfield 270, 3) := by decide +kernel
theorem dX12_say_129 : decode cX12_say 129 = .ok (.ifCond .eq 13, 3) := by decide +kernel
theorem dX12_say_132 : decode cX12_say 132 = .ok (.aload_n 0, 1) := by decide +kernel
theorem dX12_say_133 : decode cX12_say 133 = .ok (.getfield 85, 3) := by decide +kernel
theorem dX12_say_136 : decode cX12_say 136 = .ok (.iconst 2, 1) := by decide +kernel
theorem dX12_say_137 : decode cX12_say 137 = .ok (.dup2, 1) := by decide +kernel
theorem dX12_say_138 : decode cX12_say 138 = .ok (.iaload, 1) := by decide +kernel
theorem dX12_say_139 : decode cX12_say 139 = .ok (.iconst 1, 1) := by decide +kernel
theorem dX12_say_140 : decode cX12_say 140 = .ok (.iadd, 1) := by decide +kernel
theorem dX12_say_141 : decode cX12_say 141 = .ok (.iastore, 1) := by decide +kernel
theorem dX12_say_142 : decode cX12_say 142 = .ok (.iload_n 3, 1) := by decide +kernel
theorem dX12_say_143 : decode cX12_say 143 = .ok (.ifCond .ge 6, 3) := by decide +kernel
theorem dX12_say_146 : decode cX12_say 146 = .ok (.bipush (-2), 2) := by decide +kernel
theorem dX12_say_148 : decode cX12_say 148 = .ok (.ireturn, 1) := by decide +kernel
theorem dX12_say_149 : decode cX12_say 149 = .ok (.aload_n 0, 1) := by decide +kernel
theorem dX12_say_150 : decode cX12_say 150 = .ok (.getfield 85, 3) := by decide +kernel
theorem dX12_say_153 : decode cX12_say 153 = .ok (.iconst 3, 1) := by decide +kernel
theorem dX12_say_154 : decode cX12_say 154 = .ok (.dup2, 1) := by decide +kernel
theorem dX12_say_155 : decode cX12_say 155 = .ok (.iaload, 1) := by decide +kernel
theorem dX12_say_156 : decode cX12_say 156 = .ok (.iconst 1, 1) := by decide +kernel
theorem dX12_say_157 : decode cX12_say 157 = .ok (.iadd, 1) := by decide +kernel
theorem dX12_say_158 : decode cX12_say 158 = .ok (.iastore, 1) := by decide +kernel
theorem dX12_say_159 : decode cX12_say 159 = .ok (.aload_n 0, 1) := by decide +kernel
theorem dX12_say_160 : decode cX12_say 160 = .ok (.getfield 267, 3) := by decide +kernel
theorem dX12_say_163 : decode cX12_say 163 = .ok (.ifCond .eq 13, 3) := by decide +kernel
theorem dX12_say_166 : decode cX12_say 166 = .ok (.aload_n 0, 1) := by decide +kernel
theorem dX12_say_167 : decode cX12_say 167 = .ok (.getfield 85, 3) := by decide +kernel
theorem dX12_say_170 : decode cX12_say 170 = .ok (.iconst 4, 1) := by decide +kernel
theorem dX12_say_171 : decode cX12_say 171 = .ok (.dup2, 1) := by decide +kernel
theorem dX12_say_172 : decode cX12_say 172 = .ok (.iaload, 1) := by decide +kernel
theorem dX12_say_173 : decode cX12_say 173 = .ok (.iconst 1, 1) := by decide +kernel
theorem dX12_say_174 : decode cX12_say 174 = .ok (.iadd, 1) := by decide +kernel
theorem dX12_say_175 : decode cX12_say 175 = .ok (.iastore, 1) := by decide +kernel
theorem dX12_say_176 : decode cX12_say 176 = .ok (.iload_n 3, 1) := by decide +kernel
theorem dX12_say_177 : decode cX12_say 177 = .ok (.ireturn, 1) := by decide +kernel
theorem dX12_go_0 : decode cX12_go 0 = .ok (.aload_n 0, 1) := by decide +kernel
theorem dX12_go_1 : decode cX12_go 1 = .ok (.iload_n 1, 1) := by decide +kernel
theorem dX12_go_2 : decode cX12_go 2 = .ok (.invokevirtual 130, 3) := by decide +kernel
theorem dX12_go_5 : decode cX12_go 5 = .ok (.ifCond .eq 10, 3) := by decide +kernel
theorem dX12_go_8 : decode cX12_go 8 = .ok (.iload_n 2, 1) := by decide +kernel
theorem dX12_go_9 : decode cX12_go 9 = .ok (.invokestatic 134, 3) := by decide +kernel
theorem dX12_go_12 : decode cX12_go 12 = .ok (.ifCond .ne 5, 3) := by decide +kernel
theorem dX12_go_15 : decode cX12_go 15 = .ok (.iconst (-1), 1) := by decide +kernel
theorem dX12_go_16 : decode cX12_go 16 = .ok (.ireturn, 1) := by decide +kernel
theorem dX12_go_17 : decode cX12_go 17 = .ok (.aload_n 0, 1) := by decide +kernel
theorem dX12_go_18 : decode cX12_go 18 = .ok (.getfield 7, 3) := by decide +kernel
theorem dX12_go_21 : decode cX12_go 21 = .ok (.iload_n 1, 1) := by decide +kernel
theorem dX12_go_22 : decode cX12_go 22 = .ok (.iaload, 1) := by decide +kernel
theorem dX12_go_23 : decode cX12_go 23 = .ok (.istore_n 3, 1) := by decide +kernel
theorem dX12_go_24 : decode cX12_go 24 = .ok (.aload_n 0, 1) := by decide +kernel
theorem dX12_go_25 : decode cX12_go 25 = .ok (.getfield 7, 3) := by decide +kernel
theorem dX12_go_28 : decode cX12_go 28 = .ok (.iload_n 1, 1) := by decide +kernel
theorem dX12_go_29 : decode cX12_go 29 = .ok (.iload_n 2, 1) := by decide +kernel
theorem dX12_go_30 : decode cX12_go 30 = .ok (.iastore, 1) := by decide +kernel
theorem dX12_go_31 : decode cX12_go 31 = .ok (.iload_n 3, 1) := by decide +kernel
theorem dX12_go_32 : decode cX12_go 32 = .ok (.ireturn, 1) := by decide +kernel
theorem dX12_pad_0 : decode cX12_pad 0 = .ok (.aload_n 0, 1) := by decide +kernel
theorem dX12_pad_1 : decode cX12_pad 1 = .ok (.iload_n 1, 1) := by decide +kernel
theorem dX12_pad_2 : decode cX12_pad 2 = .ok (.invokevirtual 130, 3) := by decide +kernel
theorem dX12_pad_5 : decode cX12_pad 5 = .ok (.ifCond .ne 5, 3) := by decide +kernel
theorem dX12_pad_8 : decode cX12_pad 8 = .ok (.iconst (-1), 1) := by decide +kernel
theorem dX12_pad_9 : decode cX12_pad 9 = .ok (.ireturn, 1) := by decide +kernel
theorem dX12_pad_10 : decode cX12_pad 10 = .ok (.aload_n 0, 1) := by decide +kernel
theorem dX12_pad_11 : decode cX12_pad 11 = .ok (.getfield 16, 3) := by decide +kernel
theorem dX12_pad_14 : decode cX12_pad 14 = .ok (.iload_n 1, 1) := by decide +kernel
theorem dX12_pad_15 : decode cX12_pad 15 = .ok (.iaload, 1) := by decide +kernel
theorem dX12_pad_16 : decode cX12_pad 16 = .ok (.bipush 9, 2) := by decide +kernel
theorem dX12_pad_18 : decode cX12_pad 18 = .ok (.if_icmp .ge 13, 3) := by decide +kernel
theorem dX12_pad_21 : decode cX12_pad 21 = .ok (.aload_n 0, 1) := by decide +kernel
theorem dX12_pad_22 : decode cX12_pad 22 = .ok (.getfield 16, 3) := by decide +kernel
theorem dX12_pad_25 : decode cX12_pad 25 = .ok (.iload_n 1, 1) := by decide +kernel
theorem dX12_pad_26 : decode cX12_pad 26 = .ok (.dup2, 1) := by decide +kernel
theorem dX12_pad_27 : decode cX12_pad 27 = .ok (.iaload, 1) := by decide +kernel
theorem dX12_pad_28 : decode cX12_pad 28 = .ok (.iconst 1, 1) := by decide +kernel
theorem dX12_pad_29 : decode cX12_pad 29 = .ok (.iadd, 1) := by decide +kernel
theorem dX12_pad_30 : decode cX12_pad 30 = .ok (.iastore, 1) := by decide +kernel
theorem dX12_pad_31 : decode cX12_pad 31 = .ok (.aload_n 0, 1) := by decide +kernel
theorem dX12_pad_32 : decode cX12_pad 32 = .ok (.getfield 16, 3) := by decide +kernel
theorem dX12_pad_35 : decode cX12_pad 35 = .ok (.iload_n 1, 1) := by decide +kernel
theorem dX12_pad_36 : decode cX12_pad 36 = .ok (.iaload, 1) := by decide +kernel
theorem dX12_pad_37 : decode cX12_pad 37 = .ok (.ireturn, 1) := by decide +kernel
theorem dX12_led_0 : decode cX12_led 0 = .ok (.iload_n 1, 1) := by decide +kernel
theorem dX12_led_1 : decode cX12_led 1 = .ok (.iconst 5, 1) := by decide +kernel
theorem dX12_led_2 : decode cX12_led 2 = .ok (.if_icmp .ne 20, 3) := by decide +kernel
theorem dX12_led_5 : decode cX12_led 5 = .ok (.aload_n 0, 1) := by decide +kernel
theorem dX12_led_6 : decode cX12_led 6 = .ok (.getfield 25, 3) := by decide +kernel
theorem dX12_led_9 : decode cX12_led 9 = .ok (.ifCond .ge 8, 3) := by decide +kernel
theorem dX12_led_12 : decode cX12_led 12 = .ok (.bipush (-2), 2) := by decide +kernel
theorem dX12_led_14 : decode cX12_led 14 = .ok (.goto 7, 3) := by decide +kernel
theorem dX12_led_17 : decode cX12_led 17 = .ok (.aload_n 0, 1) := by decide +kernel
theorem dX12_led_18 : decode cX12_led 18 = .ok (.getfield 25, 3) := by decide +kernel
theorem dX12_led_21 : decode cX12_led 21 = .ok (.ireturn, 1) := by decide +kernel
theorem dX12_led_22 : decode cX12_led 22 = .ok (.iload_n 1, 1) := by decide +kernel
theorem dX12_led_23 : decode cX12_led 23 = .ok (.bipush 6, 2) := by decide +kernel
theorem dX12_led_25 : decode cX12_led 25 = .ok (.if_icmp .ne 10, 3) := by decide +kernel
theorem dX12_led_28 : decode cX12_led 28 = .ok (.aload_n 0, 1) := by decide +kernel
theorem dX12_led_29 : decode cX12_led 29 = .ok (.getfield 22, 3) := by decide +kernel
theorem dX12_led_32 : decode cX12_led 32 = .ok (.iconst 0, 1) := by decide +kernel
theorem dX12_led_33 : decode cX12_led 33 = .ok (.iaload, 1) := by decide +kernel
theorem dX12_led_34 : decode cX12_led 34 = .ok (.ireturn, 1) := by decide +kernel
theorem dX12_led_35 : decode cX12_led 35 = .ok (.iload_n 1, 1) := by decide +kernel
theorem dX12_led_36 : decode cX12_led 36 = .ok (.iconst 0, 1) := by decide +kernel
theorem dX12_led_37 : decode cX12_led 37 = .ok (.iconst 4, 1) := by decide +kernel
theorem dX12_led_38 : decode cX12_led 38 = .ok (.invokestatic 126, 3) := by decide +kernel
theorem dX12_led_41 : decode cX12_led 41 = .ok (.ifCond .eq 12, 3) := by decide +kernel
theorem dX12_led_44 : decode cX12_led 44 = .ok (.aload_n 0, 1) := by decide +kernel
theorem dX12_led_45 : decode cX12_led 45 = .ok (.getfield 85, 3) := by decide +kernel
theorem dX12_led_48 : decode cX12_led 48 = .ok (.iload_n 1, 1) := by decide +kernel
theorem dX12_led_49 : decode cX12_led 49 = .ok (.iaload, 1) := by decide +kernel
theorem dX12_led_50 : decode cX12_led 50 = .ok (.goto 4, 3) := by decide +kernel
theorem dX12_led_53 : decode cX12_led 53 = .ok (.iconst (-1), 1) := by decide +kernel
theorem dX12_led_54 : decode cX12_led 54 = .ok (.ireturn, 1) := by decide +kernel
theorem dX12_image_0 : decode cX12_image 0 = .ok (.aload_n 0, 1) := by decide +kernel
theorem dX12_image_1 : decode cX12_image 1 = .ok (.iconst 1, 1) := by decide +kernel
theorem dX12_image_2 : decode cX12_image 2 = .ok (.putfield 381, 3) := by decide +kernel
theorem dX12_image_5 : decode cX12_image 5 = .ok (.aload_n 0, 1) := by decide +kernel
theorem dX12_image_6 : decode cX12_image 6 = .ok (.aload_n 0, 1) := by decide +kernel
theorem dX12_image_7 : decode cX12_image 7 = .ok (.getfield 123, 3) := by decide +kernel
theorem dX12_image_10 : decode cX12_image 10 = .ok (.putfield 384, 3) := by decide +kernel
theorem dX12_image_13 : decode cX12_image 13 = .ok (.aload_n 0, 1) := by decide +kernel
theorem dX12_image_14 : decode cX12_image 14 = .ok (.aload_n 0, 1) := by decide +kernel
theorem dX12_image_15 : decode cX12_image 15 = .ok (.getfield 22, 3) := by decide +kernel
theorem dX12_image_18 : decode cX12_image 18 = .ok (.iconst 0, 1) := by decide +kernel
theorem dX12_image_19 : decode cX12_image 19 = .ok (.iaload, 1) := by decide +kernel
theorem dX12_image_20 : decode cX12_image 20 = .ok (.putfield 387, 3) := by decide +kernel
theorem dX12_image_23 : decode cX12_image 23 = .ok (.aload_n 0, 1) := by decide +kernel
theorem dX12_image_24 : decode cX12_image 24 = .ok (.aload_n 0, 1) := by decide +kernel
theorem dX12_image_25 : decode cX12_image 25 = .ok (.getfield 22, 3) := by decide +kernel
theorem dX12_image_28 : decode cX12_image 28 = .ok (.iconst 2, 1) := by decide +kernel
theorem dX12_image_29 : decode cX12_image 29 = .ok (.iaload, 1) := by decide +kernel
theorem dX12_image_30 : decode cX12_image 30 = .ok (.putfield 390, 3) := by decide +kernel
theorem dX12_image_33 : decode cX12_image 33 = .ok (.aload_n 0, 1) := by decide +kernel
theorem dX12_image_34 : decode cX12_image 34 = .ok (.aload_n 0, 1) := by decide +kernel
theorem dX12_image_35 : decode cX12_image 35 = .ok (.getfield 25, 3) := by decide +kernel
theorem dX12_image_38 : decode cX12_image 38 = .ok (.putfield 393, 3) := by decide +kernel
theorem dX12_image_41 : decode cX12_image 41 = .ok (.iconst 0, 1) := by decide +kernel
theorem dX12_image_42 : decode cX12_image 42 = .ok (.istore_n 1, 1) := by decide +kernel
theorem dX12_image_43 : decode cX12_image 43 = .ok (.iload_n 1, 1) := by decide +kernel
theorem dX12_image_44 : decode cX12_image 44 = .ok (.aload_n 0, 1) := by decide +kernel
theorem dX12_image_45 : decode cX12_image 45 = .ok (.getfield 123, 3) := by decide +kernel
theorem dX12_image_48 : decode cX12_image 48 = .ok (.if_icmp .ge 33, 3) := by decide +kernel
theorem dX12_image_51 : decode cX12_image 51 = .ok (.aload_n 0, 1) := by decide +kernel
theorem dX12_image_52 : decode cX12_image 52 = .ok (.getfield 88, 3) := by decide +kernel
theorem dX12_image_55 : decode cX12_image 55 = .ok (.iload_n 1, 1) := by decide +kernel
theorem dX12_image_56 : decode cX12_image 56 = .ok (.aload_n 0, 1) := by decide +kernel
theorem dX12_image_57 : decode cX12_image 57 = .ok (.getfield 7, 3) := by decide +kernel
theorem dX12_image_60 : decode cX12_image 60 = .ok (.iload_n 1, 1) := by decide +kernel
theorem dX12_image_61 : decode cX12_image 61 = .ok (.iaload, 1) := by decide +kernel
theorem dX12_image_62 : decode cX12_image 62 = .ok (.iastore, 1) := by decide +kernel
theorem dX12_image_63 : decode cX12_image 63 = .ok (.aload_n 0, 1) := by decide +kernel
theorem dX12_image_64 : decode cX12_image 64 = .ok (.getfield 91, 3) := by decide +kernel
theorem dX12_image_67 : decode cX12_image 67 = .ok (.iload_n 1, 1) := by decide +kernel
theorem dX12_image_68 : decode cX12_image 68 = .ok (.aload_n 0, 1) := by decide +kernel
theorem dX12_image_69 : decode cX12_image 69 = .ok (.getfield 16, 3) := by decide +kernel
theorem dX12_image_72 : decode cX12_image 72 = .ok (.iload_n 1, 1) := by decide +kernel
theorem dX12_image_73 : decode cX12_image 73 = .ok (.iaload, 1) := by decide +kernel
theorem dX12_image_74 : decode cX12_image 74 = .ok (.iastore, 1) := by decide +kernel
theorem dX12_image_75 : decode cX12_image 75 = .ok (.iinc 1 1, 3) := by decide +kernel
theorem dX12_image_78 : decode cX12_image 78 = .ok (.goto (-35), 3) := by decide +kernel
theorem dX12_image_81 : decode cX12_image 81 = .ok (.iconst 0, 1) := by decide +kernel
theorem dX12_image_82 : decode cX12_image 82 = .ok (.istore_n 1, 1) := by decide +kernel
theorem dX12_image_83 : decode cX12_image 83 = .ok (.iload_n 1, 1) := by decide +kernel
theorem dX12_image_84 : decode cX12_image 84 = .ok (.iconst 5, 1) := by decide +kernel
theorem dX12_image_85 : decode cX12_image 85 = .ok (.if_icmp .ge 21, 3) := by decide +kernel
theorem dX12_image_88 : decode cX12_image 88 = .ok (.aload_n 0, 1) := by decide +kernel
theorem dX12_image_89 : decode cX12_image 89 = .ok (.getfield 94, 3) := by decide +kernel
theorem dX12_image_92 : decode cX12_image 92 = .ok (.iload_n 1, 1) := by decide +kernel
theorem dX12_image_93 : decode cX12_image 93 = .ok (.aload_n 0, 1) := by decide +kernel
theorem dX12_image_94 : decode cX12_image 94 = .ok (.getfield 85, 3) := by decide +kernel
theorem dX12_image_97 : decode cX12_image 97 = .ok (.iload_n 1, 1) := by decide +kernel
theorem dX12_image_98 : decode cX12_image 98 = .ok (.iaload, 1) := by decide +kernel
theorem dX12_image_99 : decode cX12_image 99 = .ok (.iastore, 1) := by decide +kernel
theorem dX12_image_100 : decode cX12_image 100 = .ok (.iinc 1 1, 3) := by decide +kernel
theorem dX12_image_103 : decode cX12_image 103 = .ok (.goto (-20), 3) := by decide +kernel
theorem dX12_image_106 : decode cX12_image 106 = .ok (.aload_n 0, 1) := by decide +kernel
theorem dX12_image_107 : decode cX12_image 107 = .ok (.getfield 85, 3) := by decide +kernel
theorem dX12_image_110 : decode cX12_image 110 = .ok (.iconst 0, 1) := by decide +kernel
theorem dX12_image_111 : decode cX12_image 111 = .ok (.iaload, 1) := by decide +kernel
theorem dX12_image_112 : decode cX12_image 112 = .ok (.ireturn, 1) := by decide +kernel
theorem dX12_back_0 : decode cX12_back 0 = .ok (.aload_n 0, 1) := by decide +kernel
theorem dX12_back_1 : decode cX12_back 1 = .ok (.getfield 381, 3) := by decide +kernel
theorem dX12_back_4 : decode cX12_back 4 = .ok (.ifCond .ne 6, 3) := by decide +kernel
theorem dX12_back_7 : decode cX12_back 7 = .ok (.bipush (-5), 2) := by decide +kernel
theorem dX12_back_9 : decode cX12_back 9 = .ok (.ireturn, 1) := by decide +kernel
theorem dX12_back_10 : decode cX12_back 10 = .ok (.aload_n 0, 1) := by decide +kernel
theorem dX12_back_11 : decode cX12_back 11 = .ok (.getfield 22, 3) := by decide +kernel
theorem dX12_back_14 : decode cX12_back 14 = .ok (.iconst 0, 1) := by decide +kernel
theorem dX12_back_15 : decode cX12_back 15 = .ok (.aload_n 0, 1) := by decide +kernel
theorem dX12_back_16 : decode cX12_back 16 = .ok (.getfield 387, 3) := by decide +kernel
theorem dX12_back_19 : decode cX12_back 19 = .ok (.iastore, 1) := by decide +kernel
theorem dX12_back_20 : decode cX12_back 20 = .ok (.aload_n 0, 1) := by decide +kernel
theorem dX12_back_21 : decode cX12_back 21 = .ok (.getfield 22, 3) := by decide +kernel
theorem dX12_back_24 : decode cX12_back 24 = .ok (.iconst 2, 1) := by decide +kernel
theorem dX12_back_25 : decode cX12_back 25 = .ok (.aload_n 0, 1) := by decide +kernel
theorem dX12_back_26 : decode cX12_back 26 = .ok (.getfield 390, 3) := by decide +kernel
theorem dX12_back_29 : decode cX12_back 29 = .ok (.iastore, 1) := by decide +kernel
theorem dX12_back_30 : decode cX12_back 30 = .ok (.aload_n 0, 1) := by decide +kernel
theorem dX12_back_31 : decode cX12_back 31 = .ok (.aload_n 0, 1) := by decide +kernel
theorem dX12_back_32 : decode cX12_back 32 = .ok (.getfield 393, 3) := by decide +kernel
theorem dX12_back_35 : decode cX12_back 35 = .ok (.putfield 25, 3) := by decide +kernel
theorem dX12_back_38 : decode cX12_back 38 = .ok (.iconst 0, 1) := by decide +kernel
theorem dX12_back_39 : decode cX12_back 39 = .ok (.istore_n 1, 1) := by decide +kernel
theorem dX12_back_40 : decode cX12_back 40 = .ok (.iload_n 1, 1) := by decide +kernel
theorem dX12_back_41 : decode cX12_back 41 = .ok (.aload_n 0, 1) := by decide +kernel
theorem dX12_back_42 : decode cX12_back 42 = .ok (.getfield 384, 3) := by decide +kernel
theorem dX12_back_45 : decode cX12_back 45 = .ok (.if_icmp .ge 33, 3) := by decide +kernel
theorem dX12_back_48 : decode cX12_back 48 = .ok (.aload_n 0, 1) := by decide +kernel
theorem dX12_back_49 : decode cX12_back 49 = .ok (.getfield 7, 3) := by decide +kernel
theorem dX12_back_52 : decode cX12_back 52 = .ok (.iload_n 1, 1) := by decide +kernel
theorem dX12_back_53 : decode cX12_back 53 = .ok (.aload_n 0, 1) := by decide +kernel
theorem dX12_back_54 : decode cX12_back 54 = .ok (.getfield 88, 3) := by decide +kernel
theorem dX12_back_57 : decode cX12_back 57 = .ok (.iload_n 1, 1) := by decide +kernel
theorem dX12_back_58 : decode cX12_back 58 = .ok (.iaload, 1) := by decide +kernel
theorem dX12_back_59 : decode cX12_back 59 = .ok (.iastore, 1) := by decide +kernel
theorem dX12_back_60 : decode cX12_back 60 = .ok (.aload_n 0, 1) := by decide +kernel
theorem dX12_back_61 : decode cX12_back 61 = .ok (.getfield 16, 3) := by decide +kernel
theorem dX12_back_64 : decode cX12_back 64 = .ok (.iload_n 1, 1) := by decide +kernel
theorem dX12_back_65 : decode cX12_back 65 = .ok (.aload_n 0, 1) := by decide +kernel
theorem dX12_back_66 : decode cX12_back 66 = .ok (.getfield 91, 3) := by decide +kernel
theorem dX12_back_69 : decode cX12_back 69 = .ok (.iload_n 1, 1) := by decide +kernel
theorem dX12_back_70 : decode cX12_back 70 = .ok (.iaload, 1) := by decide +kernel
theorem dX12_back_71 : decode cX12_back 71 = .ok (.iastore, 1) := by decide +kernel
theorem dX12_back_72 : decode cX12_back 72 = .ok (.iinc 1 1, 3) := by decide +kernel
theorem dX12_back_75 : decode cX12_back 75 = .ok (.goto (-35), 3) := by decide +kernel
theorem dX12_back_78 : decode cX12_back 78 = .ok (.iconst 0, 1) := by decide +kernel
theorem dX12_back_79 : decode cX12_back 79 = .ok (.istore_n 1, 1) := by decide +kernel
theorem dX12_back_80 : decode cX12_back 80 = .ok (.iload_n 1, 1) := by decide +kernel
theorem dX12_back_81 : decode cX12_back 81 = .ok (.iconst 5, 1) := by decide +kernel
theorem dX12_back_82 : decode cX12_back 82 = .ok (.if_icmp .ge 21, 3) := by decide +kernel
theorem dX12_back_85 : decode cX12_back 85 = .ok (.aload_n 0, 1) := by decide +kernel
theorem dX12_back_86 : decode cX12_back 86 = .ok (.getfield 85, 3) := by decide +kernel
theorem dX12_back_89 : decode cX12_back 89 = .ok (.iload_n 1, 1) := by decide +kernel
theorem dX12_back_90 : decode cX12_back 90 = .ok (.aload_n 0, 1) := by decide +kernel
theorem dX12_back_91 : decode cX12_back 91 = .ok (.getfield 94, 3) := by decide +kernel
theorem dX12_back_94 : decode cX12_back 94 = .ok (.iload_n 1, 1) := by decide +kernel
theorem dX12_back_95 : decode cX12_back 95 = .ok (.iaload, 1) := by decide +kernel
theorem dX12_back_96 : decode cX12_back 96 = .ok (.iastore, 1) := by decide +kernel
theorem dX12_back_97 : decode cX12_back 97 = .ok (.iinc 1 1, 3) := by decide +kernel
theorem dX12_back_100 : decode cX12_back 100 = .ok (.goto (-20), 3) := by decide +kernel
theorem dX12_back_103 : decode cX12_back 103 = .ok (.aload_n 0, 1) := by decide +kernel
theorem dX12_back_104 : decode cX12_back 104 = .ok (.getfield 85, 3) := by decide +kernel
theorem dX12_back_107 : decode cX12_back 107 = .ok (.iconst 0, 1) := by decide +kernel
theorem dX12_back_108 : decode cX12_back 108 = .ok (.iaload, 1) := by decide +kernel
theorem dX12_back_109 : decode cX12_back 109 = .ok (.ireturn, 1) := by decide +kernel
theorem dX12_isBody_0 : decode cX12_isBody 0 = .ok (.iload_n 1, 1) := by decide +kernel
theorem dX12_isBody_1 : decode cX12_isBody 1 = .ok (.iconst 0, 1) := by decide +kernel
theorem dX12_isBody_2 : decode cX12_isBody 2 = .ok (.aload_n 0, 1) := by decide +kernel
theorem dX12_isBody_3 : decode cX12_isBody 3 = .ok (.getfield 396, 3) := by decide +kernel
theorem dX12_isBody_6 : decode cX12_isBody 6 = .ok (.iconst 1, 1) := by decide +kernel
theorem dX12_isBody_7 : decode cX12_isBody 7 = .ok (.isub, 1) := by decide +kernel
theorem dX12_isBody_8 : decode cX12_isBody 8 = .ok (.invokestatic 126, 3) := by decide +kernel
theorem dX12_isBody_11 : decode cX12_isBody 11 = .ok (.ireturn, 1) := by decide +kernel
theorem dX12_ran_0 : decode cX12_ran 0 = .ok (.aload_n 0, 1) := by decide +kernel
theorem dX12_ran_1 : decode cX12_ran 1 = .ok (.getfield 399, 3) := by decide +kernel
theorem dX12_ran_4 : decode cX12_ran 4 = .ok (.bipush 24, 2) := by decide +kernel
theorem dX12_ran_6 : decode cX12_ran 6 = .ok (.if_icmp .ge 13, 3) := by decide +kernel
theorem dX12_ran_9 : decode cX12_ran 9 = .ok (.aload_n 0, 1) := by decide +kernel
theorem dX12_ran_10 : decode cX12_ran 10 = .ok (.getfield 100, 3) := by decide +kernel
theorem dX12_ran_13 : decode cX12_ran 13 = .ok (.aload_n 0, 1) := by decide +kernel
theorem dX12_ran_14 : decode cX12_ran 14 = .ok (.getfield 399, 3) := by decide +kernel
theorem dX12_ran_17 : decode cX12_ran 17 = .ok (.iload_n 1, 1) := by decide +kernel
theorem dX12_ran_18 : decode cX12_ran 18 = .ok (.iastore, 1) := by decide +kernel
theorem dX12_ran_19 : decode cX12_ran 19 = .ok (.aload_n 0, 1) := by decide +kernel
theorem dX12_ran_20 : decode cX12_ran 20 = .ok (.dup, 1) := by decide +kernel
theorem dX12_ran_21 : decode cX12_ran 21 = .ok (.getfield 399, 3) := by decide +kernel
theorem dX12_ran_24 : decode cX12_ran 24 = .ok (.iconst 1, 1) := by decide +kernel
theorem dX12_ran_25 : decode cX12_ran 25 = .ok (.iadd, 1) := by decide +kernel
theorem dX12_ran_26 : decode cX12_ran 26 = .ok (.putfield 399, 3) := by decide +kernel
theorem dX12_ran_29 : decode cX12_ran 29 = .ok (.return_, 1) := by decide +kernel
theorem dX12_trace_0 : decode cX12_trace 0 = .ok (.iload_n 1, 1) := by decide +kernel
theorem dX12_trace_1 : decode cX12_trace 1 = .ok (.ifCond .lt 26, 3) := by decide +kernel
theorem dX12_trace_4 : decode cX12_trace 4 = .ok (.iload_n 1, 1) := by decide +kernel
theorem dX12_trace_5 : decode cX12_trace 5 = .ok (.aload_n 0, 1) := by decide +kernel
theorem dX12_trace_6 : decode cX12_trace 6 = .ok (.getfield 399, 3) := by decide +kernel
theorem dX12_trace_9 : decode cX12_trace 9 = .ok (.if_icmp .ge 18, 3) := by decide +kernel
theorem dX12_trace_12 : decode cX12_trace 12 = .ok (.iload_n 1, 1) := by decide +kernel
theorem dX12_trace_13 : decode cX12_trace 13 = .ok (.bipush 24, 2) := by decide +kernel
theorem dX12_trace_15 : decode cX12_trace 15 = .ok (.if_icmp .ge 12, 3) := by decide +kernel
theorem dX12_trace_18 : decode cX12_trace 18 = .ok (.aload_n 0, 1) := by decide +kernel
theorem dX12_trace_19 : decode cX12_trace 19 = .ok (.getfield 100, 3) := by decide +kernel
theorem dX12_trace_22 : decode cX12_trace 22 = .ok (.iload_n 1, 1) := by decide +kernel
theorem dX12_trace_23 : decode cX12_trace 23 = .ok (.iaload, 1) := by decide +kernel
theorem dX12_trace_24 : decode cX12_trace 24 = .ok (.goto 4, 3) := by decide +kernel
theorem dX12_trace_27 : decode cX12_trace 27 = .ok (.iconst (-1), 1) := by decide +kernel
theorem dX12_trace_28 : decode cX12_trace 28 = .ok (.ireturn, 1) := by decide +kernel
theorem dX12_body_0 : decode cX12_body 0 = .ok (.iload_n 1, 1) := by decide +kernel
theorem dX12_body_1 : decode cX12_body 1 = .ok (.iconst 0, 1) := by decide +kernel
theorem dX12_body_2 : decode cX12_body 2 = .ok (.bipush 7, 2) := by decide +kernel
theorem dX12_body_4 : decode cX12_body 4 = .ok (.invokestatic 126, 3) := by decide +kernel
theorem dX12_body_7 : decode cX12_body 7 = .ok (.ifCond .ne 5, 3) := by decide +kernel
theorem dX12_body_10 : decode cX12_body 10 = .ok (.iconst (-1), 1) := by decide +kernel
theorem dX12_body_11 : decode cX12_body 11 = .ok (.ireturn, 1) := by decide +kernel
theorem dX12_body_12 : decode cX12_body 12 = .ok (.aload_n 0, 1) := by decide +kernel
theorem dX12_body_13 : decode cX12_body 13 = .ok (.getfield 396, 3) := by decide +kernel
theorem dX12_body_16 : decode cX12_body 16 = .ok (.bipush 50, 2) := by decide +kernel
theorem dX12_body_18 : decode cX12_body 18 = .ok (.if_icmp .ne 6, 3) := by decide +kernel
theorem dX12_body_21 : decode cX12_body 21 = .ok (.bipush (-3), 2) := by decide +kernel
theorem dX12_body_23 : decode cX12_body 23 = .ok (.ireturn, 1) := by decide +kernel
theorem dX12_body_24 : decode cX12_body 24 = .ok (.aload_n 0, 1) := by decide +kernel
theorem dX12_body_25 : decode cX12_body 25 = .ok (.getfield 97, 3) := by decide +kernel
theorem dX12_body_28 : decode cX12_body 28 = .ok (.aload_n 0, 1) := by decide +kernel
theorem dX12_body_29 : decode cX12_body 29 = .ok (.getfield 396, 3) := by decide +kernel
theorem dX12_body_32 : decode cX12_body 32 = .ok (.iload_n 1, 1) := by decide +kernel
theorem dX12_body_33 : decode cX12_body 33 = .ok (.iastore, 1) := by decide +kernel
theorem dX12_body_34 : decode cX12_body 34 = .ok (.aload_n 0, 1) := by decide +kernel
theorem dX12_body_35 : decode cX12_body 35 = .ok (.dup, 1) := by decide +kernel
theorem dX12_body_36 : decode cX12_body 36 = .ok (.getfield 396, 3) := by decide +kernel
theorem dX12_body_39 : decode cX12_body 39 = .ok (.iconst 1, 1) := by decide +kernel
theorem dX12_body_40 : decode cX12_body 40 = .ok (.iadd, 1) := by decide +kernel
theorem dX12_body_41 : decode cX12_body 41 = .ok (.putfield 396, 3) := by decide +kernel
theorem dX12_body_44 : decode cX12_body 44 = .ok (.aload_n 0, 1) := by decide +kernel
theorem dX12_body_45 : decode cX12_body 45 = .ok (.getfield 396, 3) := by decide +kernel
theorem dX12_body_48 : decode cX12_body 48 = .ok (.iconst 1, 1) := by decide +kernel
theorem dX12_body_49 : decode cX12_body 49 = .ok (.isub, 1) := by decide +kernel
theorem dX12_body_50 : decode cX12_body 50 = .ok (.ireturn, 1) := by decide +kernel
theorem dX12_isUnder_0 : decode cX12_isUnder 0 = .ok (.iload_n 1, 1) := by decide +kernel
theorem dX12_isUnder_1 : decode cX12_isUnder 1 = .ok (.ifCond .eq 55, 3) := by decide +kernel
theorem dX12_isUnder_4 : decode cX12_isUnder 4 = .ok (.iload_n 0, 1) := by decide +kernel
theorem dX12_isUnder_5 : decode cX12_isUnder 5 = .ok (.iload_n 1, 1) := by decide +kernel
theorem dX12_isUnder_6 : decode cX12_isUnder 6 = .ok (.if_icmp .eq 50, 3) := by decide +kernel
theorem dX12_isUnder_9 : decode cX12_isUnder 9 = .ok (.iload_n 1, 1) := by decide +kernel
theorem dX12_isUnder_10 : decode cX12_isUnder 10 = .ok (.iconst 1, 1) := by decide +kernel
theorem dX12_isUnder_11 : decode cX12_isUnder 11 = .ok (.if_icmp .ne 8, 3) := by decide +kernel
theorem dX12_isUnder_14 : decode cX12_isUnder 14 = .ok (.iload_n 0, 1) := by decide +kernel
theorem dX12_isUnder_15 : decode cX12_isUnder 15 = .ok (.iconst 4, 1) := by decide +kernel
theorem dX12_isUnder_16 : decode cX12_isUnder 16 = .ok (.if_icmp .eq 40, 3) := by decide +kernel
theorem dX12_isUnder_19 : decode cX12_isUnder 19 = .ok (.iload_n 1, 1) := by decide +kernel
theorem dX12_isUnder_20 : decode cX12_isUnder 20 = .ok (.iconst 2, 1) := by decide +kernel
theorem dX12_isUnder_21 : decode cX12_isUnder 21 = .ok (.if_icmp .ne 13, 3) := by decide +kernel
theorem dX12_isUnder_24 : decode cX12_isUnder 24 = .ok (.iload_n 0, 1) := by decide +kernel
theorem dX12_isUnder_25 : decode cX12_isUnder 25 = .ok (.iconst 3, 1) := by decide +kernel
theorem dX12_isUnder_26 : decode cX12_isUnder 26 = .ok (.if_icmp .eq 30, 3) := by decide +kernel
theorem dX12_isUnder_29 : decode cX12_isUnder 29 = .ok (.iload_n 0, 1) := by decide +kernel
theorem dX12_isUnder_30 : decode cX12_isUnder 30 = .ok (.iconst 5, 1) := by decide +kernel
theorem dX12_isUnder_31 : decode cX12_isUnder 31 = .ok (.if_icmp .eq 25, 3) := by decide +kernel
theorem dX12_isUnder_34 : decode cX12_isUnder 34 = .ok (.iload_n 1, 1) := by decide +kernel
theorem dX12_isUnder_35 : decode cX12_isUnder 35 = .ok (.iconst 3, 1) := by decide +kernel
theorem dX12_isUnder_36 : decode cX12_isUnder 36 = .ok (.if_icmp .ne 8, 3) := by decide +kernel
theorem dX12_isUnder_39 : decode cX12_isUnder 39 = .ok (.iload_n 0, 1) := by decide +kernel
theorem dX12_isUnder_40 : decode cX12_isUnder 40 = .ok (.iconst 5, 1) := by decide +kernel
theorem dX12_isUnder_41 : decode cX12_isUnder 41 = .ok (.if_icmp .eq 15, 3) := by decide +kernel
theorem dX12_isUnder_44 : decode cX12_isUnder 44 = .ok (.iload_n 1, 1) := by decide +kernel
theorem dX12_isUnder_45 : decode cX12_isUnder 45 = .ok (.bipush 6, 2) := by decide +kernel
theorem dX12_isUnder_47 : decode cX12_isUnder 47 = .ok (.if_icmp .ne 13, 3) := by decide +kernel
theorem dX12_isUnder_50 : decode cX12_isUnder 50 = .ok (.iload_n 0, 1) := by decide +kernel
theorem dX12_isUnder_51 : decode cX12_isUnder 51 = .ok (.bipush 7, 2) := by decide +kernel
theorem dX12_isUnder_53 : decode cX12_isUnder 53 = .ok (.if_icmp .ne 7, 3) := by decide +kernel
theorem dX12_isUnder_56 : decode cX12_isUnder 56 = .ok (.iconst 1, 1) := by decide +kernel
theorem dX12_isUnder_57 : decode cX12_isUnder 57 = .ok (.goto 4, 3) := by decide +kernel
theorem dX12_isUnder_60 : decode cX12_isUnder 60 = .ok (.iconst 0, 1) := by decide +kernel
theorem dX12_isUnder_61 : decode cX12_isUnder 61 = .ok (.ireturn, 1) := by decide +kernel
theorem dX12_plainFlies_0 : decode cX12_plainFlies 0 = .ok (.aload_n 0, 1) := by decide +kernel
theorem dX12_plainFlies_1 : decode cX12_plainFlies 1 = .ok (.iconst 1, 1) := by decide +kernel
theorem dX12_plainFlies_2 : decode cX12_plainFlies 2 = .ok (.invokevirtual 402, 3) := by decide +kernel
theorem dX12_plainFlies_5 : decode cX12_plainFlies 5 = .ok (.iload_n 2, 1) := by decide +kernel
theorem dX12_plainFlies_6 : decode cX12_plainFlies 6 = .ok (.iload_n 1, 1) := by decide +kernel
theorem dX12_plainFlies_7 : decode cX12_plainFlies 7 = .ok (.iadd, 1) := by decide +kernel
theorem dX12_plainFlies_8 : decode cX12_plainFlies 8 = .ok (.ireturn, 1) := by decide +kernel
theorem dX12_coatFlies_0 : decode cX12_coatFlies 0 = .ok (.aload_n 0, 1) := by decide +kernel
theorem dX12_coatFlies_1 : decode cX12_coatFlies 1 = .ok (.bipush 70, 2) := by decide +kernel
theorem dX12_coatFlies_3 : decode cX12_coatFlies 3 = .ok (.invokevirtual 402, 3) := by decide +kernel
theorem dX12_coatFlies_6 : decode cX12_coatFlies 6 = .ok (.aload_n 0, 1) := by decide +kernel
theorem dX12_coatFlies_7 : decode cX12_coatFlies 7 = .ok (.iload_n 1, 1) := by decide +kernel
theorem dX12_coatFlies_8 : decode cX12_coatFlies 8 = .ok (.iload_n 2, 1) := by decide +kernel
theorem dX12_coatFlies_9 : decode cX12_coatFlies 9 = .ok (.invokevirtual 405, 3) := by decide +kernel
theorem dX12_coatFlies_12 : decode cX12_coatFlies 12 = .ok (.iconst 2, 1) := by decide +kernel
theorem dX12_coatFlies_13 : decode cX12_coatFlies 13 = .ok (.imul, 1) := by decide +kernel
theorem dX12_coatFlies_14 : decode cX12_coatFlies 14 = .ok (.ireturn, 1) := by decide +kernel
theorem dX12_flying_0 : decode cX12_flying 0 = .ok (.aload_n 0, 1) := by decide +kernel
theorem dX12_flying_1 : decode cX12_flying 1 = .ok (.getfield 97, 3) := by decide +kernel
theorem dX12_flying_4 : decode cX12_flying 4 = .ok (.iload_n 1, 1) := by decide +kernel
theorem dX12_flying_5 : decode cX12_flying 5 = .ok (.iaload, 1) := by decide +kernel
theorem dX12_flying_6 : decode cX12_flying 6 = .ok (.iconst 1, 1) := by decide +kernel
theorem dX12_flying_7 : decode cX12_flying 7 = .ok (.invokestatic 408, 3) := by decide +kernel
theorem dX12_flying_10 : decode cX12_flying 10 = .ok (.ifCond .eq 18, 3) := by decide +kernel
theorem dX12_flying_13 : decode cX12_flying 13 = .ok (.aload_n 0, 1) := by decide +kernel
theorem dX12_flying_14 : decode cX12_flying 14 = .ok (.bipush 20, 2) := by decide +kernel
theorem dX12_flying_16 : decode cX12_flying 16 = .ok (.invokevirtual 402, 3) := by decide +kernel
theorem dX12_flying_19 : decode cX12_flying 19 = .ok (.aload_n 0, 1) := by decide +kernel
theorem dX12_flying_20 : decode cX12_flying 20 = .ok (.iload_n 1, 1) := by decide +kernel
theorem dX12_flying_21 : decode cX12_flying 21 = .ok (.iload_n 2, 1) := by decide +kernel
theorem dX12_flying_22 : decode cX12_flying 22 = .ok (.invokevirtual 405, 3) := by decide +kernel
theorem dX12_flying_25 : decode cX12_flying 25 = .ok (.iconst 3, 1) := by decide +kernel
theorem dX12_flying_26 : decode cX12_flying 26 = .ok (.iadd, 1) := by decide +kernel
theorem dX12_flying_27 : decode cX12_flying 27 = .ok (.ireturn, 1) := by decide +kernel
theorem dX12_flying_28 : decode cX12_flying 28 = .ok (.aload_n 0, 1) := by decide +kernel
theorem dX12_flying_29 : decode cX12_flying 29 = .ok (.getfield 97, 3) := by decide +kernel
theorem dX12_flying_32 : decode cX12_flying 32 = .ok (.iload_n 1, 1) := by decide +kernel
theorem dX12_flying_33 : decode cX12_flying 33 = .ok (.iaload, 1) := by decide +kernel
theorem dX12_flying_34 : decode cX12_flying 34 = .ok (.bipush 7, 2) := by decide +kernel
theorem dX12_flying_36 : decode cX12_flying 36 = .ok (.if_icmp .ne 18, 3) := by decide +kernel
theorem dX12_flying_39 : decode cX12_flying 39 = .ok (.aload_n 0, 1) := by decide +kernel
theorem dX12_flying_40 : decode cX12_flying 40 = .ok (.bipush 81, 2) := by decide +kernel
theorem dX12_flying_42 : decode cX12_flying 42 = .ok (.invokevirtual 402, 3) := by decide +kernel
theorem dX12_flying_45 : decode cX12_flying 45 = .ok (.aload_n 0, 1) := by decide +kernel
theorem dX12_flying_46 : decode cX12_flying 46 = .ok (.iload_n 1, 1) := by decide +kernel
theorem dX12_flying_47 : decode cX12_flying 47 = .ok (.iload_n 2, 1) := by decide +kernel
theorem dX12_flying_48 : decode cX12_flying 48 = .ok (.invokevirtual 411, 3) := by decide +kernel
theorem dX12_flying_51 : decode cX12_flying 51 = .ok (.iconst 1, 1) := by decide +kernel
theorem dX12_flying_52 : decode cX12_flying 52 = .ok (.isub, 1) := by decide +kernel
theorem dX12_flying_53 : decode cX12_flying 53 = .ok (.ireturn, 1) := by decide +kernel
theorem dX12_flying_54 : decode cX12_flying 54 = .ok (.aload_n 0, 1) := by decide +kernel
theorem dX12_flying_55 : decode cX12_flying 55 = .ok (.getfield 97, 3) := by decide +kernel
theorem dX12_flying_58 : decode cX12_flying 58 = .ok (.iload_n 1, 1) := by decide +kernel
theorem dX12_flying_59 : decode cX12_flying 59 = .ok (.iaload, 1) := by decide +kernel
theorem dX12_flying_60 : decode cX12_flying 60 = .ok (.bipush 6, 2) := by decide +kernel
theorem dX12_flying_62 : decode cX12_flying 62 = .ok (.if_icmp .ne 12, 3) := by decide +kernel
theorem dX12_flying_65 : decode cX12_flying 65 = .ok (.aload_n 0, 1) := by decide +kernel
theorem dX12_flying_66 : decode cX12_flying 66 = .ok (.iload_n 1, 1) := by decide +kernel
theorem dX12_flying_67 : decode cX12_flying 67 = .ok (.iload_n 2, 1) := by decide +kernel
theorem dX12_flying_68 : decode cX12_flying 68 = .ok (.invokevirtual 411, 3) := by decide +kernel
theorem dX12_flying_71 : decode cX12_flying 71 = .ok (.goto 9, 3) := by decide +kernel
theorem dX12_flying_74 : decode cX12_flying 74 = .ok (.aload_n 0, 1) := by decide +kernel
theorem dX12_flying_75 : decode cX12_flying 75 = .ok (.iload_n 1, 1) := by decide +kernel
theorem dX12_flying_76 : decode cX12_flying 76 = .ok (.iload_n 2, 1) := by decide +kernel
theorem dX12_flying_77 : decode cX12_flying 77 = .ok (.invokevirtual 405, 3) := by decide +kernel
theorem dX12_flying_80 : decode cX12_flying 80 = .ok (.ireturn, 1) := by decide +kernel
theorem dX12_plainStings_0 : decode cX12_plainStings 0 = .ok (.aload_n 0, 1) := by decide +kernel
theorem dX12_plainStings_1 : decode cX12_plainStings 1 = .ok (.bipush 10, 2) := by decide +kernel
theorem dX12_plainStings_3 : decode cX12_plainStings 3 = .ok (.invokevirtual 402, 3) := by decide +kernel
theorem dX12_plainStings_6 : decode cX12_plainStings 6 = .ok (.aload_n 0, 1) := by decide +kernel
theorem dX12_plainStings_7 : decode cX12_plainStings 7 = .ok (.iload_n 1, 1) := by decide +kernel
theorem dX12_plainStings_8 : decode cX12_plainStings 8 = .ok (.iload_n 2, 1) := by decide +kernel
theorem dX12_plainStings_9 : decode cX12_plainStings 9 = .ok (.invokevirtual 414, 3) := by decide +kernel
theorem dX12_plainStings_12 : decode cX12_plainStings 12 = .ok (.iconst 2, 1) := by decide +kernel
theorem dX12_plainStings_13 : decode cX12_plainStings 13 = .ok (.imul, 1) := by decide +kernel
theorem dX12_plainStings_14 : decode cX12_plainStings 14 = .ok (.ireturn, 1) := by decide +kernel
theorem dX12_brookStings_0 : decode cX12_brookStings 0 = .ok (.aload_n 0, 1) := by decide +kernel
theorem dX12_brookStings_1 : decode cX12_brookStings 1 = .ok (.bipush 30, 2) := by decide +kernel
theorem dX12_brookStings_3 : decode cX12_brookStings 3 = .ok (.invokevirtual 402, 3) := by decide +kernel
theorem dX12_brookStings_6 : decode cX12_brookStings 6 = .ok (.aload_n 0, 1) := by decide +kernel
theorem dX12_brookStings_7 : decode cX12_brookStings 7 = .ok (.iload_n 1, 1) := by decide +kernel
theorem dX12_brookStings_8 : decode cX12_brookStings 8 = .ok (.iload_n 2, 1) := by decide +kernel
theorem dX12_brookStings_9 : decode cX12_brookStings 9 = .ok (.invokevirtual 417, 3) := by decide +kernel
theorem dX12_brookStings_12 : decode cX12_brookStings 12 = .ok (.ineg, 1) := by decide +kernel
theorem dX12_brookStings_13 : decode cX12_brookStings 13 = .ok (.ireturn, 1) := by decide +kernel
theorem dX12_stinging_0 : decode cX12_stinging 0 = .ok (.aload_n 0, 1) := by decide +kernel
theorem dX12_stinging_1 : decode cX12_stinging 1 = .ok (.getfield 97, 3) := by decide +kernel
theorem dX12_stinging_4 : decode cX12_stinging 4 = .ok (.iload_n 1, 1) := by decide +kernel
theorem dX12_stinging_5 : decode cX12_stinging 5 = .ok (.iaload, 1) := by decide +kernel
theorem dX12_stinging_6 : decode cX12_stinging 6 = .ok (.iconst 3, 1) := by decide +kernel
theorem dX12_stinging_7 : decode cX12_stinging 7 = .ok (.invokestatic 408, 3) := by decide +kernel
theorem dX12_stinging_10 : decode cX12_stinging 10 = .ok (.ifCond .eq 18, 3) := by decide +kernel
theorem dX12_stinging_13 : decode cX12_stinging 13 = .ok (.aload_n 0, 1) := by decide +kernel
theorem dX12_stinging_14 : decode cX12_stinging 14 = .ok (.bipush 41, 2) := by decide +kernel
theorem dX12_stinging_16 : decode cX12_stinging 16 = .ok (.invokevirtual 402, 3) := by decide +kernel
theorem dX12_stinging_19 : decode cX12_stinging 19 = .ok (.aload_n 0, 1) := by decide +kernel
theorem dX12_stinging_20 : decode cX12_stinging 20 = .ok (.iload_n 1, 1) := by decide +kernel
theorem dX12_stinging_21 : decode cX12_stinging 21 = .ok (.iload_n 2, 1) := by decide +kernel
theorem dX12_stinging_22 : decode cX12_stinging 22 = .ok (.iconst 1, 1) := by decide +kernel
theorem dX12_stinging_23 : decode cX12_stinging 23 = .ok (.iadd, 1) := by decide +kernel
theorem dX12_stinging_24 : decode cX12_stinging 24 = .ok (.invokevirtual 420, 3) := by decide +kernel
theorem dX12_stinging_27 : decode cX12_stinging 27 = .ok (.ireturn, 1) := by decide +kernel
theorem dX12_stinging_28 : decode cX12_stinging 28 = .ok (.aload_n 0, 1) := by decide +kernel
theorem dX12_stinging_29 : decode cX12_stinging 29 = .ok (.getfield 97, 3) := by decide +kernel
theorem dX12_stinging_32 : decode cX12_stinging 32 = .ok (.iload_n 1, 1) := by decide +kernel
theorem dX12_stinging_33 : decode cX12_stinging 33 = .ok (.iaload, 1) := by decide +kernel
theorem dX12_stinging_34 : decode cX12_stinging 34 = .ok (.bipush 7, 2) := by decide +kernel
theorem dX12_stinging_36 : decode cX12_stinging 36 = .ok (.if_icmp .ne 25, 3) := by decide +kernel
theorem dX12_stinging_39 : decode cX12_stinging 39 = .ok (.aload_n 0, 1) := by decide +kernel
theorem dX12_stinging_40 : decode cX12_stinging 40 = .ok (.bipush 80, 2) := by decide +kernel
theorem dX12_stinging_42 : decode cX12_stinging 42 = .ok (.invokevirtual 402, 3) := by decide +kernel
theorem dX12_stinging_45 : decode cX12_stinging 45 = .ok (.aload_n 0, 1) := by decide +kernel
theorem dX12_stinging_46 : decode cX12_stinging 46 = .ok (.iload_n 1, 1) := by decide +kernel
theorem dX12_stinging_47 : decode cX12_stinging 47 = .ok (.iload_n 2, 1) := by decide +kernel
theorem dX12_stinging_48 : decode cX12_stinging 48 = .ok (.invokevirtual 417, 3) := by decide +kernel
theorem dX12_stinging_51 : decode cX12_stinging 51 = .ok (.istore_n 3, 1) := by decide +kernel
theorem dX12_stinging_52 : decode cX12_stinging 52 = .ok (.iload_n 3, 1) := by decide +kernel
theorem dX12_stinging_53 : decode cX12_stinging 53 = .ok (.aload_n 0, 1) := by decide +kernel
theorem dX12_stinging_54 : decode cX12_stinging 54 = .ok (.iload_n 1, 1) := by decide +kernel
theorem dX12_stinging_55 : decode cX12_stinging 55 = .ok (.iconst 2, 1) := by decide +kernel
theorem dX12_stinging_56 : decode cX12_stinging 56 = .ok (.invokevirtual 423, 3) := by decide +kernel
theorem dX12_stinging_59 : decode cX12_stinging 59 = .ok (.iadd, 1) := by decide +kernel
theorem dX12_stinging_60 : decode cX12_stinging 60 = .ok (.ireturn, 1) := by decide +kernel
theorem dX12_stinging_61 : decode cX12_stinging 61 = .ok (.aload_n 0, 1) := by decide +kernel
theorem dX12_stinging_62 : decode cX12_stinging 62 = .ok (.getfield 97, 3) := by decide +kernel
theorem dX12_stinging_65 : decode cX12_stinging 65 = .ok (.iload_n 1, 1) := by decide +kernel
theorem dX12_stinging_66 : decode cX12_stinging 66 = .ok (.iaload, 1) := by decide +kernel
theorem dX12_stinging_67 : decode cX12_stinging 67 = .ok (.iconst 2, 1) := by decide +kernel
theorem dX12_stinging_68 : decode cX12_stinging 68 = .ok (.if_icmp .ne 12, 3) := by decide +kernel
theorem dX12_stinging_71 : decode cX12_stinging 71 = .ok (.aload_n 0, 1) := by decide +kernel
theorem dX12_stinging_72 : decode cX12_stinging 72 = .ok (.iload_n 1, 1) := by decide +kernel
theorem dX12_stinging_73 : decode cX12_stinging 73 = .ok (.iload_n 2, 1) := by decide +kernel
theorem dX12_stinging_74 : decode cX12_stinging 74 = .ok (.invokevirtual 420, 3) := by decide +kernel
theorem dX12_stinging_77 : decode cX12_stinging 77 = .ok (.goto 9, 3) := by decide +kernel
theorem dX12_stinging_80 : decode cX12_stinging 80 = .ok (.aload_n 0, 1) := by decide +kernel
theorem dX12_stinging_81 : decode cX12_stinging 81 = .ok (.iload_n 1, 1) := by decide +kernel
theorem dX12_stinging_82 : decode cX12_stinging 82 = .ok (.iload_n 2, 1) := by decide +kernel
theorem dX12_stinging_83 : decode cX12_stinging 83 = .ok (.invokevirtual 417, 3) := by decide +kernel
theorem dX12_stinging_86 : decode cX12_stinging 86 = .ok (.ireturn, 1) := by decide +kernel
theorem dX12_plainSettles_0 : decode cX12_plainSettles 0 = .ok (.aload_n 0, 1) := by decide +kernel
theorem dX12_plainSettles_1 : decode cX12_plainSettles 1 = .ok (.bipush 11, 2) := by decide +kernel
theorem dX12_plainSettles_3 : decode cX12_plainSettles 3 = .ok (.invokevirtual 402, 3) := by decide +kernel
theorem dX12_plainSettles_6 : decode cX12_plainSettles 6 = .ok (.iload_n 2, 1) := by decide +kernel
theorem dX12_plainSettles_7 : decode cX12_plainSettles 7 = .ok (.iload_n 1, 1) := by decide +kernel
theorem dX12_plainSettles_8 : decode cX12_plainSettles 8 = .ok (.ixor, 1) := by decide +kernel
theorem dX12_plainSettles_9 : decode cX12_plainSettles 9 = .ok (.ireturn, 1) := by decide +kernel
theorem dX12_courtSettles_0 : decode cX12_courtSettles 0 = .ok (.aload_n 0, 1) := by decide +kernel
theorem dX12_courtSettles_1 : decode cX12_courtSettles 1 = .ok (.bipush 40, 2) := by decide +kernel
theorem dX12_courtSettles_3 : decode cX12_courtSettles 3 = .ok (.invokevirtual 402, 3) := by decide +kernel
theorem dX12_courtSettles_6 : decode cX12_courtSettles 6 = .ok (.aload_n 0, 1) := by decide +kernel
theorem dX12_courtSettles_7 : decode cX12_courtSettles 7 = .ok (.iload_n 1, 1) := by decide +kernel
theorem dX12_courtSettles_8 : decode cX12_courtSettles 8 = .ok (.iload_n 2, 1) := by decide +kernel
theorem dX12_courtSettles_9 : decode cX12_courtSettles 9 = .ok (.invokevirtual 426, 3) := by decide +kernel
theorem dX12_courtSettles_12 : decode cX12_courtSettles 12 = .ok (.iconst 3, 1) := by decide +kernel
theorem dX12_courtSettles_13 : decode cX12_courtSettles 13 = .ok (.imul, 1) := by decide +kernel
theorem dX12_courtSettles_14 : decode cX12_courtSettles 14 = .ok (.ireturn, 1) := by decide +kernel
theorem dX12_settling_0 : decode cX12_settling 0 = .ok (.aload_n 0, 1) := by decide +kernel
theorem dX12_settling_1 : decode cX12_settling 1 = .ok (.getfield 97, 3) := by decide +kernel
theorem dX12_settling_4 : decode cX12_settling 4 = .ok (.iload_n 1, 1) := by decide +kernel
theorem dX12_settling_5 : decode cX12_settling 5 = .ok (.iaload, 1) := by decide +kernel
theorem dX12_settling_6 : decode cX12_settling 6 = .ok (.iconst 5, 1) := by decide +kernel
theorem dX12_settling_7 : decode cX12_settling 7 = .ok (.if_icmp .ne 25, 3) := by decide +kernel
theorem dX12_settling_10 : decode cX12_settling 10 = .ok (.aload_n 0, 1) := by decide +kernel
theorem dX12_settling_11 : decode cX12_settling 11 = .ok (.bipush 60, 2) := by decide +kernel
theorem dX12_settling_13 : decode cX12_settling 13 = .ok (.invokevirtual 402, 3) := by decide +kernel
theorem dX12_settling_16 : decode cX12_settling 16 = .ok (.aload_n 0, 1) := by decide +kernel
theorem dX12_settling_17 : decode cX12_settling 17 = .ok (.iload_n 1, 1) := by decide +kernel
theorem dX12_settling_18 : decode cX12_settling 18 = .ok (.iload_n 2, 1) := by decide +kernel
theorem dX12_settling_19 : decode cX12_settling 19 = .ok (.invokevirtual 429, 3) := by decide +kernel
theorem dX12_settling_22 : decode cX12_settling 22 = .ok (.istore_n 3, 1) := by decide +kernel
theorem dX12_settling_23 : decode cX12_settling 23 = .ok (.iload_n 3, 1) := by decide +kernel
theorem dX12_settling_24 : decode cX12_settling 24 = .ok (.aload_n 0, 1) := by decide +kernel
theorem dX12_settling_25 : decode cX12_settling 25 = .ok (.iload_n 1, 1) := by decide +kernel
theorem dX12_settling_26 : decode cX12_settling 26 = .ok (.iconst 2, 1) := by decide +kernel
theorem dX12_settling_27 : decode cX12_settling 27 = .ok (.invokevirtual 414, 3) := by decide +kernel
theorem dX12_settling_30 : decode cX12_settling 30 = .ok (.isub, 1) := by decide +kernel
theorem dX12_settling_31 : decode cX12_settling 31 = .ok (.ireturn, 1) := by decide +kernel
theorem dX12_settling_32 : decode cX12_settling 32 = .ok (.aload_n 0, 1) := by decide +kernel
theorem dX12_settling_33 : decode cX12_settling 33 = .ok (.getfield 97, 3) := by decide +kernel
theorem dX12_settling_36 : decode cX12_settling 36 = .ok (.iload_n 1, 1) := by decide +kernel
theorem dX12_settling_37 : decode cX12_settling 37 = .ok (.iaload, 1) := by decide +kernel
theorem dX12_settling_38 : decode cX12_settling 38 = .ok (.iconst 3, 1) := by decide +kernel
theorem dX12_settling_39 : decode cX12_settling 39 = .ok (.if_icmp .ne 12, 3) := by decide +kernel
theorem dX12_settling_42 : decode cX12_settling 42 = .ok (.aload_n 0, 1) := by decide +kernel
theorem dX12_settling_43 : decode cX12_settling 43 = .ok (.iload_n 1, 1) := by decide +kernel
theorem dX12_settling_44 : decode cX12_settling 44 = .ok (.iload_n 2, 1) := by decide +kernel
theorem dX12_settling_45 : decode cX12_settling 45 = .ok (.invokevirtual 429, 3) := by decide +kernel
theorem dX12_settling_48 : decode cX12_settling 48 = .ok (.goto 9, 3) := by decide +kernel
theorem dX12_settling_51 : decode cX12_settling 51 = .ok (.aload_n 0, 1) := by decide +kernel
theorem dX12_settling_52 : decode cX12_settling 52 = .ok (.iload_n 1, 1) := by decide +kernel
theorem dX12_settling_53 : decode cX12_settling 53 = .ok (.iload_n 2, 1) := by decide +kernel
theorem dX12_settling_54 : decode cX12_settling 54 = .ok (.invokevirtual 426, 3) := by decide +kernel
theorem dX12_settling_57 : decode cX12_settling 57 = .ok (.ireturn, 1) := by decide +kernel
theorem dX12_plainTells_0 : decode cX12_plainTells 0 = .ok (.aload_n 0, 1) := by decide +kernel
theorem dX12_plainTells_1 : decode cX12_plainTells 1 = .ok (.iconst 2, 1) := by decide +kernel
theorem dX12_plainTells_2 : decode cX12_plainTells 2 = .ok (.invokevirtual 402, 3) := by decide +kernel
theorem dX12_plainTells_5 : decode cX12_plainTells 5 = .ok (.aload_n 0, 1) := by decide +kernel
theorem dX12_plainTells_6 : decode cX12_plainTells 6 = .ok (.iload_n 1, 1) := by decide +kernel
theorem dX12_plainTells_7 : decode cX12_plainTells 7 = .ok (.iload_n 2, 1) := by decide +kernel
theorem dX12_plainTells_8 : decode cX12_plainTells 8 = .ok (.invokevirtual 432, 3) := by decide +kernel
theorem dX12_plainTells_11 : decode cX12_plainTells 11 = .ok (.istore_n 3, 1) := by decide +kernel
theorem dX12_plainTells_12 : decode cX12_plainTells 12 = .ok (.iload_n 3, 1) := by decide +kernel
theorem dX12_plainTells_13 : decode cX12_plainTells 13 = .ok (.aload_n 0, 1) := by decide +kernel
theorem dX12_plainTells_14 : decode cX12_plainTells 14 = .ok (.iload_n 1, 1) := by decide +kernel
theorem dX12_plainTells_15 : decode cX12_plainTells 15 = .ok (.iconst 1, 1) := by decide +kernel
theorem dX12_plainTells_16 : decode cX12_plainTells 16 = .ok (.invokevirtual 423, 3) := by decide +kernel
theorem dX12_plainTells_19 : decode cX12_plainTells 19 = .ok (.isub, 1) := by decide +kernel
theorem dX12_plainTells_20 : decode cX12_plainTells 20 = .ok (.ireturn, 1) := by decide +kernel
theorem dX12_telling_0 : decode cX12_telling 0 = .ok (.aload_n 0, 1) := by decide +kernel
theorem dX12_telling_1 : decode cX12_telling 1 = .ok (.getfield 97, 3) := by decide +kernel
theorem dX12_telling_4 : decode cX12_telling 4 = .ok (.iload_n 1, 1) := by decide +kernel
theorem dX12_telling_5 : decode cX12_telling 5 = .ok (.iaload, 1) := by decide +kernel
theorem dX12_telling_6 : decode cX12_telling 6 = .ok (.iconst 4, 1) := by decide +kernel
theorem dX12_telling_7 : decode cX12_telling 7 = .ok (.if_icmp .ne 18, 3) := by decide +kernel
theorem dX12_telling_10 : decode cX12_telling 10 = .ok (.aload_n 0, 1) := by decide +kernel
theorem dX12_telling_11 : decode cX12_telling 11 = .ok (.bipush 50, 2) := by decide +kernel
theorem dX12_telling_13 : decode cX12_telling 13 = .ok (.invokevirtual 402, 3) := by decide +kernel
theorem dX12_telling_16 : decode cX12_telling 16 = .ok (.aload_n 0, 1) := by decide +kernel
theorem dX12_telling_17 : decode cX12_telling 17 = .ok (.iload_n 1, 1) := by decide +kernel
theorem dX12_telling_18 : decode cX12_telling 18 = .ok (.iload_n 2, 1) := by decide +kernel
theorem dX12_telling_19 : decode cX12_telling 19 = .ok (.invokevirtual 435, 3) := by decide +kernel
theorem dX12_telling_22 : decode cX12_telling 22 = .ok (.iconst 5, 1) := by decide +kernel
theorem dX12_telling_23 : decode cX12_telling 23 = .ok (.ixor, 1) := by decide +kernel
theorem dX12_telling_24 : decode cX12_telling 24 = .ok (.ireturn, 1) := by decide +kernel
theorem dX12_telling_25 : decode cX12_telling 25 = .ok (.aload_n 0, 1) := by decide +kernel
theorem dX12_telling_26 : decode cX12_telling 26 = .ok (.getfield 97, 3) := by decide +kernel
theorem dX12_telling_29 : decode cX12_telling 29 = .ok (.iload_n 1, 1) := by decide +kernel
theorem dX12_telling_30 : decode cX12_telling 30 = .ok (.iaload, 1) := by decide +kernel
theorem dX12_telling_31 : decode cX12_telling 31 = .ok (.iconst 5, 1) := by decide +kernel
theorem dX12_telling_32 : decode cX12_telling 32 = .ok (.if_icmp .ne 18, 3) := by decide +kernel
theorem dX12_telling_35 : decode cX12_telling 35 = .ok (.aload_n 0, 1) := by decide +kernel
theorem dX12_telling_36 : decode cX12_telling 36 = .ok (.bipush 61, 2) := by decide +kernel
theorem dX12_telling_38 : decode cX12_telling 38 = .ok (.invokevirtual 402, 3) := by decide +kernel
theorem dX12_telling_41 : decode cX12_telling 41 = .ok (.aload_n 0, 1) := by decide +kernel
theorem dX12_telling_42 : decode cX12_telling 42 = .ok (.iload_n 1, 1) := by decide +kernel
theorem dX12_telling_43 : decode cX12_telling 43 = .ok (.iload_n 2, 1) := by decide +kernel
theorem dX12_telling_44 : decode cX12_telling 44 = .ok (.invokevirtual 435, 3) := by decide +kernel
theorem dX12_telling_47 : decode cX12_telling 47 = .ok (.iconst 1, 1) := by decide +kernel
theorem dX12_telling_48 : decode cX12_telling 48 = .ok (.iadd, 1) := by decide +kernel
theorem dX12_telling_49 : decode cX12_telling 49 = .ok (.ireturn, 1) := by decide +kernel
theorem dX12_telling_50 : decode cX12_telling 50 = .ok (.aload_n 0, 1) := by decide +kernel
theorem dX12_telling_51 : decode cX12_telling 51 = .ok (.iload_n 1, 1) := by decide +kernel
theorem dX12_telling_52 : decode cX12_telling 52 = .ok (.iload_n 2, 1) := by decide +kernel
theorem dX12_telling_53 : decode cX12_telling 53 = .ok (.invokevirtual 435, 3) := by decide +kernel
theorem dX12_telling_56 : decode cX12_telling 56 = .ok (.ireturn, 1) := by decide +kernel
theorem dX12_act_0 : decode cX12_act 0 = .ok (.aload_n 0, 1) := by decide +kernel
theorem dX12_act_1 : decode cX12_act 1 = .ok (.iconst 0, 1) := by decide +kernel
theorem dX12_act_2 : decode cX12_act 2 = .ok (.putfield 399, 3) := by decide +kernel
theorem dX12_act_5 : decode cX12_act 5 = .ok (.aload_n 0, 1) := by decide +kernel
theorem dX12_act_6 : decode cX12_act 6 = .ok (.iload_n 1, 1) := by decide +kernel
theorem dX12_act_7 : decode cX12_act 7 = .ok (.invokevirtual 438, 3) := by decide +kernel
theorem dX12_act_10 : decode cX12_act 10 = .ok (.ifCond .eq 12, 3) := by decide +kernel
theorem dX12_act_13 : decode cX12_act 13 = .ok (.iload_n 2, 1) := by decide +kernel
theorem dX12_act_14 : decode cX12_act 14 = .ok (.iconst 0, 1) := by decide +kernel
theorem dX12_act_15 : decode cX12_act 15 = .ok (.iconst 3, 1) := by decide +kernel
theorem dX12_act_16 : decode cX12_act 16 = .ok (.invokestatic 126, 3) := by decide +kernel
theorem dX12_act_19 : decode cX12_act 19 = .ok (.ifCond .ne 5, 3) := by decide +kernel
theorem dX12_act_22 : decode cX12_act 22 = .ok (.iconst 0, 1) := by decide +kernel
theorem dX12_act_23 : decode cX12_act 23 = .ok (.ireturn, 1) := by decide +kernel
theorem dX12_act_24 : decode cX12_act 24 = .ok (.iload_n 2, 1) := by decide +kernel
theorem dX12_act_25 : decode cX12_act 25 = .ok (.ifCond .ne 12, 3) := by decide +kernel
theorem dX12_act_28 : decode cX12_act 28 = .ok (.aload_n 0, 1) := by decide +kernel
theorem dX12_act_29 : decode cX12_act 29 = .ok (.iload_n 1, 1) := by decide +kernel
theorem dX12_act_30 : decode cX12_act 30 = .ok (.iload_n 3, 1) := by decide +kernel
theorem dX12_act_31 : decode cX12_act 31 = .ok (.invokevirtual 414, 3) := by decide +kernel
theorem dX12_act_34 : decode cX12_act 34 = .ok (.goto 37, 3) := by decide +kernel
theorem dX12_act_37 : decode cX12_act 37 = .ok (.iload_n 2, 1) := by decide +kernel
theorem dX12_act_38 : decode cX12_act 38 = .ok (.iconst 1, 1) := by decide +kernel
theorem dX12_act_39 : decode cX12_act 39 = .ok (.if_icmp .ne 12, 3) := by decide +kernel
theorem dX12_act_42 : decode cX12_act 42 = .ok (.aload_n 0, 1) := by decide +kernel
theorem dX12_act_43 : decode cX12_act 43 = .ok (.iload_n 1, 1) := by decide +kernel
theorem dX12_act_44 : decode cX12_act 44 = .ok (.iload_n 3, 1) := by decide +kernel
theorem dX12_act_45 : decode cX12_act 45 = .ok (.invokevirtual 432, 3) := by decide +kernel
theorem dX12_act_48 : decode cX12_act 48 = .ok (.goto 23, 3) := by decide +kernel
theorem dX12_act_51 : decode cX12_act 51 = .ok (.iload_n 2, 1) := by decide +kernel
theorem dX12_act_52 : decode cX12_act 52 = .ok (.iconst 2, 1) := by decide +kernel
theorem dX12_act_53 : decode cX12_act 53 = .ok (.if_icmp .ne 12, 3) := by decide +kernel
theorem dX12_act_56 : decode cX12_act 56 = .ok (.aload_n 0, 1) := by decide +kernel
theorem dX12_act_57 : decode cX12_act 57 = .ok (.iload_n 1, 1) := by decide +kernel
theorem dX12_act_58 : decode cX12_act 58 = .ok (.iload_n 3, 1) := by decide +kernel
theorem dX12_act_59 : decode cX12_act 59 = .ok (.invokevirtual 423, 3) := by decide +kernel
theorem dX12_act_62 : decode cX12_act 62 = .ok (.goto 9, 3) := by decide +kernel
theorem dX12_act_65 : decode cX12_act 65 = .ok (.aload_n 0, 1) := by decide +kernel
theorem dX12_act_66 : decode cX12_act 66 = .ok (.iload_n 1, 1) := by decide +kernel
theorem dX12_act_67 : decode cX12_act 67 = .ok (.iload_n 3, 1) := by decide +kernel
theorem dX12_act_68 : decode cX12_act 68 = .ok (.invokevirtual 441, 3) := by decide +kernel
theorem dX12_act_71 : decode cX12_act 71 = .ok (.ireturn, 1) := by decide +kernel
theorem dX12_count_0 : decode cX12_count 0 = .ok (.iload_n 1, 1) := by decide +kernel
theorem dX12_count_1 : decode cX12_count 1 = .ok (.tableswitch 60 0 4 #[35, 40, 45, 50, 55], 35) := by decide +kernel
theorem dX12_count_36 : decode cX12_count 36 = .ok (.aload_n 0, 1) := by decide +kernel
theorem dX12_count_37 : decode cX12_count 37 = .ok (.getfield 123, 3) := by decide +kernel
theorem dX12_count_40 : decode cX12_count 40 = .ok (.ireturn, 1) := by decide +kernel
theorem dX12_count_41 : decode cX12_count 41 = .ok (.aload_n 0, 1) := by decide +kernel
theorem dX12_count_42 : decode cX12_count 42 = .ok (.getfield 169, 3) := by decide +kernel
theorem dX12_count_45 : decode cX12_count 45 = .ok (.ireturn, 1) := by decide +kernel
theorem dX12_count_46 : decode cX12_count 46 = .ok (.aload_n 0, 1) := by decide +kernel
theorem dX12_count_47 : decode cX12_count 47 = .ok (.getfield 152, 3) := by decide +kernel
theorem dX12_count_50 : decode cX12_count 50 = .ok (.ireturn, 1) := by decide +kernel
theorem dX12_count_51 : decode cX12_count 51 = .ok (.aload_n 0, 1) := by decide +kernel
theorem dX12_count_52 : decode cX12_count 52 = .ok (.getfield 396, 3) := by decide +kernel
theorem dX12_count_55 : decode cX12_count 55 = .ok (.ireturn, 1) := by decide +kernel
theorem dX12_count_56 : decode cX12_count 56 = .ok (.aload_n 0, 1) := by decide +kernel
theorem dX12_count_57 : decode cX12_count 57 = .ok (.getfield 399, 3) := by decide +kernel
theorem dX12_count_60 : decode cX12_count 60 = .ok (.ireturn, 1) := by decide +kernel
theorem dX12_count_61 : decode cX12_count 61 = .ok (.iconst (-1), 1) := by decide +kernel
theorem dX12_count_62 : decode cX12_count 62 = .ok (.ireturn, 1) := by decide +kernel
theorem dX12_isShelf_0 : decode cX12_isShelf 0 = .ok (.iload_n 0, 1) := by decide +kernel
theorem dX12_isShelf_1 : decode cX12_isShelf 1 = .ok (.iconst 0, 1) := by decide +kernel
theorem dX12_isShelf_2 : decode cX12_isShelf 2 = .ok (.iconst 5, 1) := by decide +kernel
theorem dX12_isShelf_3 : decode cX12_isShelf 3 = .ok (.invokestatic 126, 3) := by decide +kernel
theorem dX12_isShelf_6 : decode cX12_isShelf 6 = .ok (.ireturn, 1) := by decide +kernel
theorem dX12_keep_0 : decode cX12_keep 0 = .ok (.iload_n 1, 1) := by decide +kernel
theorem dX12_keep_1 : decode cX12_keep 1 = .ok (.invokestatic 141, 3) := by decide +kernel
theorem dX12_keep_4 : decode cX12_keep 4 = .ok (.ifCond .eq 16, 3) := by decide +kernel
theorem dX12_keep_7 : decode cX12_keep 7 = .ok (.iload_n 2, 1) := by decide +kernel
theorem dX12_keep_8 : decode cX12_keep 8 = .ok (.iconst (-1), 1) := by decide +kernel
theorem dX12_keep_9 : decode cX12_keep 9 = .ok (.if_icmp .eq 13, 3) := by decide +kernel
theorem dX12_keep_12 : decode cX12_keep 12 = .ok (.aload_n 0, 1) := by decide +kernel
theorem dX12_keep_13 : decode cX12_keep 13 = .ok (.iload_n 2, 1) := by decide +kernel
theorem dX12_keep_14 : decode cX12_keep 14 = .ok (.invokevirtual 438, 3) := by decide +kernel
theorem dX12_keep_17 : decode cX12_keep 17 = .ok (.ifCond .ne 5, 3) := by decide +kernel
theorem dX12_keep_20 : decode cX12_keep 20 = .ok (.iconst (-1), 1) := by decide +kernel
theorem dX12_keep_21 : decode cX12_keep 21 = .ok (.ireturn, 1) := by decide +kernel
theorem dX12_keep_22 : decode cX12_keep 22 = .ok (.aload_n 0, 1) := by decide +kernel
theorem dX12_keep_23 : decode cX12_keep 23 = .ok (.getfield 103, 3) := by decide +kernel
theorem dX12_keep_26 : decode cX12_keep 26 = .ok (.iload_n 1, 1) := by decide +kernel
theorem dX12_keep_27 : decode cX12_keep 27 = .ok (.iload_n 2, 1) := by decide +kernel
theorem dX12_keep_28 : decode cX12_keep 28 = .ok (.iastore, 1) := by decide +kernel
theorem dX12_keep_29 : decode cX12_keep 29 = .ok (.iconst 1, 1) := by decide +kernel
theorem dX12_keep_30 : decode cX12_keep 30 = .ok (.ireturn, 1) := by decide +kernel
theorem dX12_row_0 : decode cX12_row 0 = .ok (.iload_n 1, 1) := by decide +kernel
theorem dX12_row_1 : decode cX12_row 1 = .ok (.invokestatic 141, 3) := by decide +kernel
theorem dX12_row_4 : decode cX12_row 4 = .ok (.ifCond .eq 18, 3) := by decide +kernel
theorem dX12_row_7 : decode cX12_row 7 = .ok (.iload_n 2, 1) := by decide +kernel
theorem dX12_row_8 : decode cX12_row 8 = .ok (.iconst 0, 1) := by decide +kernel
theorem dX12_row_9 : decode cX12_row 9 = .ok (.iconst 4, 1) := by decide +kernel
theorem dX12_row_10 : decode cX12_row 10 = .ok (.invokestatic 126, 3) := by decide +kernel
theorem dX12_row_13 : decode cX12_row 13 = .ok (.ifCond .eq 9, 3) := by decide +kernel
theorem dX12_row_16 : decode cX12_row 16 = .ok (.iload_n 3, 1) := by decide +kernel
theorem dX12_row_17 : decode cX12_row 17 = .ok (.bipush 60, 2) := by decide +kernel
theorem dX12_row_19 : decode cX12_row 19 = .ok (.if_icmp .le 5, 3) := by decide +kernel
theorem dX12_row_22 : decode cX12_row 22 = .ok (.iconst (-1), 1) := by decide +kernel
theorem dX12_row_23 : decode cX12_row 23 = .ok (.ireturn, 1) := by decide +kernel
theorem dX12_row_24 : decode cX12_row 24 = .ok (.iload_n 3, 1) := by decide +kernel
theorem dX12_row_25 : decode cX12_row 25 = .ok (.ifCond .ge 6, 3) := by decide +kernel
theorem dX12_row_28 : decode cX12_row 28 = .ok (.bipush (-14), 2) := by decide +kernel
theorem dX12_row_30 : decode cX12_row 30 = .ok (.ireturn, 1) := by decide +kernel
theorem dX12_row_31 : decode cX12_row 31 = .ok (.aload_n 0, 1) := by decide +kernel
theorem dX12_row_32 : decode cX12_row 32 = .ok (.getfield 103, 3) := by decide +kernel
theorem dX12_row_35 : decode cX12_row 35 = .ok (.iload_n 1, 1) := by decide +kernel
theorem dX12_row_36 : decode cX12_row 36 = .ok (.bipush (-2), 2) := by decide +kernel
theorem dX12_row_38 : decode cX12_row 38 = .ok (.iload_n 2, 1) := by decide +kernel
theorem dX12_row_39 : decode cX12_row 39 = .ok (.isub, 1) := by decide +kernel
theorem dX12_row_40 : decode cX12_row 40 = .ok (.iastore, 1) := by decide +kernel
theorem dX12_row_41 : decode cX12_row 41 = .ok (.aload_n 0, 1) := by decide +kernel
theorem dX12_row_42 : decode cX12_row 42 = .ok (.getfield 106, 3) := by decide +kernel
theorem dX12_row_45 : decode cX12_row 45 = .ok (.iload_n 1, 1) := by decide +kernel
theorem dX12_row_46 : decode cX12_row 46 = .ok (.iload_n 3, 1) := by decide +kernel
theorem dX12_row_47 : decode cX12_row 47 = .ok (.iastore, 1) := by decide +kernel
theorem dX12_row_48 : decode cX12_row 48 = .ok (.bipush 60, 2) := by decide +kernel
theorem dX12_row_50 : decode cX12_row 50 = .ok (.iload_n 1, 1) := by decide +kernel
theorem dX12_row_51 : decode cX12_row 51 = .ok (.imul, 1) := by decide +kernel
theorem dX12_row_52 : decode cX12_row 52 = .ok (.istore 4, 2) := by decide +kernel
theorem dX12_row_54 : decode cX12_row 54 = .ok (.iload 4, 2) := by decide +kernel
theorem dX12_row_56 : decode cX12_row 56 = .ok (.bipush 60, 2) := by decide +kernel
theorem dX12_row_58 : decode cX12_row 58 = .ok (.iload_n 1, 1) := by decide +kernel
theorem dX12_row_59 : decode cX12_row 59 = .ok (.imul, 1) := by decide +kernel
theorem dX12_row_60 : decode cX12_row 60 = .ok (.bipush 60, 2) := by decide +kernel
theorem dX12_row_62 : decode cX12_row 62 = .ok (.iadd, 1) := by decide +kernel
theorem dX12_row_63 : decode cX12_row 63 = .ok (.if_icmp .ge 17, 3) := by decide +kernel
theorem dX12_row_66 : decode cX12_row 66 = .ok (.aload_n 0, 1) := by decide +kernel
theorem dX12_row_67 : decode cX12_row 67 = .ok (.getfield 109, 3) := by decide +kernel
theorem dX12_row_70 : decode cX12_row 70 = .ok (.iload 4, 2) := by decide +kernel
theorem dX12_row_72 : decode cX12_row 72 = .ok (.lconst 0, 1) := by decide +kernel
theorem dX12_row_73 : decode cX12_row 73 = .ok (.lastore, 1) := by decide +kernel
theorem dX12_row_74 : decode cX12_row 74 = .ok (.iinc 4 1, 3) := by decide +kernel
theorem dX12_row_77 : decode cX12_row 77 = .ok (.goto (-23), 3) := by decide +kernel
theorem dX12_row_80 : decode cX12_row 80 = .ok (.iconst 1, 1) := by decide +kernel
theorem dX12_row_81 : decode cX12_row 81 = .ok (.ireturn, 1) := by decide +kernel
theorem dX12_whyNoPlace_0 : decode cX12_whyNoPlace 0 = .ok (.iload_n 1, 1) := by decide +kernel
theorem dX12_whyNoPlace_1 : decode cX12_whyNoPlace 1 = .ok (.invokestatic 141, 3) := by decide +kernel
theorem dX12_whyNoPlace_4 : decode cX12_whyNoPlace 4 = .ok (.ifCond .ne 5, 3) := by decide +kernel
theorem dX12_whyNoPlace_7 : decode cX12_whyNoPlace 7 = .ok (.iconst (-1), 1) := by decide +kernel
theorem dX12_whyNoPlace_8 : decode cX12_whyNoPlace 8 = .ok (.ireturn, 1) := by decide +kernel
theorem dX12_whyNoPlace_9 : decode cX12_whyNoPlace 9 = .ok (.aload_n 0, 1) := by decide +kernel
theorem dX12_whyNoPlace_10 : decode cX12_whyNoPlace 10 = .ok (.getfield 103, 3) := by decide +kernel
theorem dX12_whyNoPlace_13 : decode cX12_whyNoPlace 13 = .ok (.iload_n 1, 1) := by decide +kernel
theorem dX12_whyNoPlace_14 : decode cX12_whyNoPlace 14 = .ok (.iaload, 1) := by decide +kernel
theorem dX12_whyNoPlace_15 : decode cX12_whyNoPlace 15 = .ok (.iconst (-1), 1) := by decide +kernel
theorem dX12_whyNoPlace_16 : decode cX12_whyNoPlace 16 = .ok (.if_icmp .ne 6, 3) := by decide +kernel
theorem dX12_whyNoPlace_19 : decode cX12_whyNoPlace 19 = .ok (.bipush (-11), 2) := by decide +kernel
theorem dX12_whyNoPlace_21 : decode cX12_whyNoPlace 21 = .ok (.ireturn, 1) := by decide +kernel
theorem dX12_whyNoPlace_22 : decode cX12_whyNoPlace 22 = .ok (.aload_n 0, 1) := by decide +kernel
theorem dX12_whyNoPlace_23 : decode cX12_whyNoPlace 23 = .ok (.getfield 103, 3) := by decide +kernel
theorem dX12_whyNoPlace_26 : decode cX12_whyNoPlace 26 = .ok (.iload_n 1, 1) := by decide +kernel
theorem dX12_whyNoPlace_27 : decode cX12_whyNoPlace 27 = .ok (.iaload, 1) := by decide +kernel
theorem dX12_whyNoPlace_28 : decode cX12_whyNoPlace 28 = .ok (.ifCond .lt 6, 3) := by decide +kernel
theorem dX12_whyNoPlace_31 : decode cX12_whyNoPlace 31 = .ok (.bipush (-12), 2) := by decide +kernel
theorem dX12_whyNoPlace_33 : decode cX12_whyNoPlace 33 = .ok (.ireturn, 1) := by decide +kernel
theorem dX12_whyNoPlace_34 : decode cX12_whyNoPlace 34 = .ok (.iload_n 2, 1) := by decide +kernel
theorem dX12_whyNoPlace_35 : decode cX12_whyNoPlace 35 = .ok (.iconst 0, 1) := by decide +kernel
theorem dX12_whyNoPlace_36 : decode cX12_whyNoPlace 36 = .ok (.aload_n 0, 1) := by decide +kernel
theorem dX12_whyNoPlace_37 : decode cX12_whyNoPlace 37 = .ok (.getfield 106, 3) := by decide +kernel
theorem dX12_whyNoPlace_40 : decode cX12_whyNoPlace 40 = .ok (.iload_n 1, 1) := by decide +kernel
theorem dX12_whyNoPlace_41 : decode cX12_whyNoPlace 41 = .ok (.iaload, 1) := by decide +kernel
theorem dX12_whyNoPlace_42 : decode cX12_whyNoPlace 42 = .ok (.iconst 1, 1) := by decide +kernel
theorem dX12_whyNoPlace_43 : decode cX12_whyNoPlace 43 = .ok (.isub, 1) := by decide +kernel
theorem dX12_whyNoPlace_44 : decode cX12_whyNoPlace 44 = .ok (.invokestatic 126, 3) := by decide +kernel
theorem dX12_whyNoPlace_47 : decode cX12_whyNoPlace 47 = .ok (.ifCond .eq 7, 3) := by decide +kernel
theorem dX12_whyNoPlace_50 : decode cX12_whyNoPlace 50 = .ok (.iconst 0, 1) := by decide +kernel
theorem dX12_whyNoPlace_51 : decode cX12_whyNoPlace 51 = .ok (.goto 5, 3) := by decide +kernel
theorem dX12_whyNoPlace_54 : decode cX12_whyNoPlace 54 = .ok (.bipush (-13), 2) := by decide +kernel
theorem dX12_whyNoPlace_56 : decode cX12_whyNoPlace 56 = .ok (.ireturn, 1) := by decide +kernel
theorem dX12_put_0 : decode cX12_put 0 = .ok (.aload_n 0, 1) := by decide +kernel
theorem dX12_put_1 : decode cX12_put 1 = .ok (.iload_n 1, 1) := by decide +kernel
theorem dX12_put_2 : decode cX12_put 2 = .ok (.iload_n 2, 1) := by decide +kernel
theorem dX12_put_3 : decode cX12_put 3 = .ok (.invokevirtual 444, 3) := by decide +kernel
theorem dX12_put_6 : decode cX12_put 6 = .ok (.istore 5, 2) := by decide +kernel
theorem dX12_put_8 : decode cX12_put 8 = .ok (.iload 5, 2) := by decide +kernel
theorem dX12_put_10 : decode cX12_put 10 = .ok (.ifCond .ge 6, 3) := by decide +kernel
theorem dX12_put_13 : decode cX12_put 13 = .ok (.iload 5, 2) := by decide +kernel
theorem dX12_put_15 : decode cX12_put 15 = .ok (.ireturn, 1) := by decide +kernel
theorem dX12_put_16 : decode cX12_put 16 = .ok (.bipush (-2), 2) := by decide +kernel
theorem dX12_put_18 : decode cX12_put 18 = .ok (.aload_n 0, 1) := by decide +kernel
theorem dX12_put_19 : decode cX12_put 19 = .ok (.getfield 103, 3) := by decide +kernel
theorem dX12_put_22 : decode cX12_put 22 = .ok (.iload_n 1, 1) := by decide +kernel
theorem dX12_put_23 : decode cX12_put 23 = .ok (.iaload, 1) := by decide +kernel
theorem dX12_put_24 : decode cX12_put 24 = .ok (.isub, 1) := by decide +kernel
theorem dX12_put_25 : decode cX12_put 25 = .ok (.istore 6, 2) := by decide +kernel
theorem dX12_put_27 : decode cX12_put 27 = .ok (.aload_n 0, 1) := by decide +kernel
theorem dX12_put_28 : decode cX12_put 28 = .ok (.getfield 109, 3) := by decide +kernel
theorem dX12_put_31 : decode cX12_put 31 = .ok (.bipush 60, 2) := by decide +kernel
theorem dX12_put_33 : decode cX12_put 33 = .ok (.iload_n 1, 1) := by decide +kernel
theorem dX12_put_34 : decode cX12_put 34 = .ok (.imul, 1) := by decide +kernel
theorem dX12_put_35 : decode cX12_put 35 = .ok (.iload_n 2, 1) := by decide +kernel
theorem dX12_put_36 : decode cX12_put 36 = .ok (.iadd, 1) := by decide +kernel
theorem dX12_put_37 : decode cX12_put 37 = .ok (.iload 6, 2) := by decide +kernel
theorem dX12_put_39 : decode cX12_put 39 = .ok (.ifCond .ne 10, 3) := by decide +kernel
theorem dX12_put_42 : decode cX12_put 42 = .ok (.lload_n 3, 1) := by decide +kernel
theorem dX12_put_43 : decode cX12_put 43 = .ok (.l2i, 1) := by decide +kernel
theorem dX12_put_44 : decode cX12_put 44 = .ok (.i2b, 1) := by decide +kernel
theorem dX12_put_45 : decode cX12_put 45 = .ok (.i2l, 1) := by decide +kernel
theorem dX12_put_46 : decode cX12_put 46 = .ok (.goto 49, 3) := by decide +kernel
theorem dX12_put_49 : decode cX12_put 49 = .ok (.iload 6, 2) := by decide +kernel
theorem dX12_put_51 : decode cX12_put 51 = .ok (.iconst 1, 1) := by decide +kernel
theorem dX12_put_52 : decode cX12_put 52 = .ok (.if_icmp .ne 10, 3) := by decide +kernel
theorem dX12_put_55 : decode cX12_put 55 = .ok (.lload_n 3, 1) := by decide +kernel
theorem dX12_put_56 : decode cX12_put 56 = .ok (.l2i, 1) := by decide +kernel
theorem dX12_put_57 : decode cX12_put 57 = .ok (.i2s, 1) := by decide +kernel
theorem dX12_put_58 : decode cX12_put 58 = .ok (.i2l, 1) := by decide +kernel
theorem dX12_put_59 : decode cX12_put 59 = .ok (.goto 36, 3) := by decide +kernel
theorem dX12_put_62 : decode cX12_put 62 = .ok (.iload 6, 2) := by decide +kernel
theorem dX12_put_64 : decode cX12_put 64 = .ok (.iconst 2, 1) := by decide +kernel
theorem dX12_put_65 : decode cX12_put 65 = .ok (.if_icmp .ne 9, 3) := by decide +kernel
theorem dX12_put_68 : decode cX12_put 68 = .ok (.lload_n 3, 1) := by decide +kernel
theorem dX12_put_69 : decode cX12_put 69 = .ok (.l2i, 1) := by decide +kernel
theorem dX12_put_70 : decode cX12_put 70 = .ok (.i2l, 1) := by decide +kernel
theorem dX12_put_71 : decode cX12_put 71 = .ok (.goto 24, 3) := by decide +kernel
theorem dX12_put_74 : decode cX12_put 74 = .ok (.iload 6, 2) := by decide +kernel
theorem dX12_put_76 : decode cX12_put 76 = .ok (.iconst 3, 1) := by decide +kernel
theorem dX12_put_77 : decode cX12_put 77 = .ok (.if_icmp .ne 7, 3) := by decide +kernel
theorem dX12_put_80 : decode cX12_put 80 = .ok (.lload_n 3, 1) := by decide +kernel
theorem dX12_put_81 : decode cX12_put 81 = .ok (.goto 14, 3) := by decide +kernel
theorem dX12_put_84 : decode cX12_put 84 = .ok (.lload_n 3, 1) := by decide +kernel
theorem dX12_put_85 : decode cX12_put 85 = .ok (.lconst 0, 1) := by decide +kernel
theorem dX12_put_86 : decode cX12_put 86 = .ok (.lcmp, 1) := by decide +kernel
theorem dX12_put_87 : decode cX12_put 87 = .ok (.ifCond .eq 7, 3) := by decide +kernel
theorem dX12_put_90 : decode cX12_put 90 = .ok (.lconst 1, 1) := by decide +kernel
theorem dX12_put_91 : decode cX12_put 91 = .ok (.goto 4, 3) := by decide +kernel
theorem dX12_put_94 : decode cX12_put 94 = .ok (.lconst 0, 1) := by decide +kernel
theorem dX12_put_95 : decode cX12_put 95 = .ok (.lastore, 1) := by decide +kernel
theorem dX12_put_96 : decode cX12_put 96 = .ok (.iconst 1, 1) := by decide +kernel
theorem dX12_put_97 : decode cX12_put 97 = .ok (.ireturn, 1) := by decide +kernel
theorem dX12_element_0 : decode cX12_element 0 = .ok (.aload_n 0, 1) := by decide +kernel
theorem dX12_element_1 : decode cX12_element 1 = .ok (.iload_n 1, 1) := by decide +kernel
theorem dX12_element_2 : decode cX12_element 2 = .ok (.iload_n 2, 1) := by decide +kernel
theorem dX12_element_3 : decode cX12_element 3 = .ok (.invokevirtual 444, 3) := by decide +kernel
theorem dX12_element_6 : decode cX12_element 6 = .ok (.ifCond .ge 9, 3) := by decide +kernel
theorem dX12_element_9 : decode cX12_element 9 = .ok (.ldc2_w 449, 3) := by decide +kernel
theorem dX12_element_12 : decode cX12_element 12 = .ok (.goto 14, 3) := by decide +kernel
theorem dX12_element_15 : decode cX12_element 15 = .ok (.aload_n 0, 1) := by decide +kernel
theorem dX12_element_16 : decode cX12_element 16 = .ok (.getfield 109, 3) := by decide +kernel
theorem dX12_element_19 : decode cX12_element 19 = .ok (.bipush 60, 2) := by decide +kernel
theorem dX12_element_21 : decode cX12_element 21 = .ok (.iload_n 1, 1) := by decide +kernel
theorem dX12_element_22 : decode cX12_element 22 = .ok (.imul, 1) := by decide +kernel
theorem dX12_element_23 : decode cX12_element 23 = .ok (.iload_n 2, 1) := by decide +kernel
theorem dX12_element_24 : decode cX12_element 24 = .ok (.iadd, 1) := by decide +kernel
theorem dX12_element_25 : decode cX12_element 25 = .ok (.laload, 1) := by decide +kernel
theorem dX12_element_26 : decode cX12_element 26 = .ok (.lreturn, 1) := by decide +kernel
theorem dX12_shift_0 : decode cX12_shift 0 = .ok (.iload_n 1, 1) := by decide +kernel
theorem dX12_shift_1 : decode cX12_shift 1 = .ok (.invokestatic 141, 3) := by decide +kernel
theorem dX12_shift_4 : decode cX12_shift 4 = .ok (.ifCond .eq 10, 3) := by decide +kernel
theorem dX12_shift_7 : decode cX12_shift 7 = .ok (.iload_n 3, 1) := by decide +kernel
theorem dX12_shift_8 : decode cX12_shift 8 = .ok (.invokestatic 141, 3) := by decide +kernel
theorem dX12_shift_11 : decode cX12_shift 11 = .ok (.ifCond .ne 5, 3) := by decide +kernel
theorem dX12_shift_14 : decode cX12_shift 14 = .ok (.iconst (-1), 1) := by decide +kernel
theorem dX12_shift_15 : decode cX12_shift 15 = .ok (.ireturn, 1) := by decide +kernel
theorem dX12_shift_16 : decode cX12_shift 16 = .ok (.aload_n 0, 1) := by decide +kernel
theorem dX12_shift_17 : decode cX12_shift 17 = .ok (.getfield 103, 3) := by decide +kernel
theorem dX12_shift_20 : decode cX12_shift 20 = .ok (.iload_n 1, 1) := by decide +kernel
theorem dX12_shift_21 : decode cX12_shift 21 = .ok (.iaload, 1) := by decide +kernel
theorem dX12_shift_22 : decode cX12_shift 22 = .ok (.iconst (-1), 1) := by decide +kernel
theorem dX12_shift_23 : decode cX12_shift 23 = .ok (.if_icmp .eq 13, 3) := by decide +kernel
theorem dX12_shift_26 : decode cX12_shift 26 = .ok (.aload_n 0, 1) := by decide +kernel
theorem dX12_shift_27 : decode cX12_shift 27 = .ok (.getfield 103, 3) := by decide +kernel
theorem dX12_shift_30 : decode cX12_shift 30 = .ok (.iload_n 3, 1) := by decide +kernel
theorem dX12_shift_31 : decode cX12_shift 31 = .ok (.iaload, 1) := by decide +kernel
theorem dX12_shift_32 : decode cX12_shift 32 = .ok (.iconst (-1), 1) := by decide +kernel
theorem dX12_shift_33 : decode cX12_shift 33 = .ok (.if_icmp .ne 6, 3) := by decide +kernel
theorem dX12_shift_36 : decode cX12_shift 36 = .ok (.bipush (-11), 2) := by decide +kernel
theorem dX12_shift_38 : decode cX12_shift 38 = .ok (.ireturn, 1) := by decide +kernel
theorem dX12_shift_39 : decode cX12_shift 39 = .ok (.aload_n 0, 1) := by decide +kernel
theorem dX12_shift_40 : decode cX12_shift 40 = .ok (.getfield 103, 3) := by decide +kernel
theorem dX12_shift_43 : decode cX12_shift 43 = .ok (.iload_n 1, 1) := by decide +kernel
theorem dX12_shift_44 : decode cX12_shift 44 = .ok (.iaload, 1) := by decide +kernel
theorem dX12_shift_45 : decode cX12_shift 45 = .ok (.ifCond .ge 18, 3) := by decide +kernel
theorem dX12_shift_48 : decode cX12_shift 48 = .ok (.aload_n 0, 1) := by decide +kernel
theorem dX12_shift_49 : decode cX12_shift 49 = .ok (.getfield 103, 3) := by decide +kernel
theorem dX12_shift_52 : decode cX12_shift 52 = .ok (.iload_n 1, 1) := by decide +kernel
theorem dX12_shift_53 : decode cX12_shift 53 = .ok (.iaload, 1) := by decide +kernel
theorem dX12_shift_54 : decode cX12_shift 54 = .ok (.aload_n 0, 1) := by decide +kernel
theorem dX12_shift_55 : decode cX12_shift 55 = .ok (.getfield 103, 3) := by decide +kernel
theorem dX12_shift_58 : decode cX12_shift 58 = .ok (.iload_n 3, 1) := by decide +kernel
theorem dX12_shift_59 : decode cX12_shift 59 = .ok (.iaload, 1) := by decide +kernel
theorem dX12_shift_60 : decode cX12_shift 60 = .ok (.if_icmp .eq 6, 3) := by decide +kernel
theorem dX12_shift_63 : decode cX12_shift 63 = .ok (.bipush (-12), 2) := by decide +kernel
theorem dX12_shift_65 : decode cX12_shift 65 = .ok (.ireturn, 1) := by decide +kernel
theorem dX12_shift_66 : decode cX12_shift 66 = .ok (.iload 5, 2) := by decide +kernel
theorem dX12_shift_68 : decode cX12_shift 68 = .ok (.ifCond .lt 39, 3) := by decide +kernel
theorem dX12_shift_71 : decode cX12_shift 71 = .ok (.iload_n 2, 1) := by decide +kernel
theorem dX12_shift_72 : decode cX12_shift 72 = .ok (.ifCond .lt 35, 3) := by decide +kernel
theorem dX12_shift_75 : decode cX12_shift 75 = .ok (.iload 4, 2) := by decide +kernel
theorem dX12_shift_77 : decode cX12_shift 77 = .ok (.ifCond .lt 30, 3) := by decide +kernel
theorem dX12_shift_80 : decode cX12_shift 80 = .ok (.iload_n 2, 1) := by decide +kernel
theorem dX12_shift_81 : decode cX12_shift 81 = .ok (.aload_n 0, 1) := by decide +kernel
theorem dX12_shift_82 : decode cX12_shift 82 = .ok (.getfield 106, 3) := by decide +kernel
theorem dX12_shift_85 : decode cX12_shift 85 = .ok (.iload_n 1, 1) := by decide +kernel
theorem dX12_shift_86 : decode cX12_shift 86 = .ok (.iaload, 1) := by decide +kernel
theorem dX12_shift_87 : decode cX12_shift 87 = .ok (.iload 5, 2) := by decide +kernel
theorem dX12_shift_89 : decode cX12_shift 89 = .ok (.isub, 1) := by decide +kernel
theorem dX12_shift_90 : decode cX12_shift 90 = .ok (.if_icmp .gt 17, 3) := by decide +kernel
theorem dX12_shift_93 : decode cX12_shift 93 = .ok (.iload 4, 2) := by decide +kernel
theorem dX12_shift_95 : decode cX12_shift 95 = .ok (.aload_n 0, 1) := by decide +kernel
theorem dX12_shift_96 : decode cX12_shift 96 = .ok (.getfield 106, 3) := by decide +kernel
theorem dX12_shift_99 : decode cX12_shift 99 = .ok (.iload_n 3, 1) := by decide +kernel
theorem dX12_shift_100 : decode cX12_shift 100 = .ok (.iaload, 1) := by decide +kernel
theorem dX12_shift_101 : decode cX12_shift 101 = .ok (.iload 5, 2) := by decide +kernel
theorem dX12_shift_103 : decode cX12_shift 103 = .ok (.isub, 1) := by decide +kernel
theorem dX12_shift_104 : decode cX12_shift 104 = .ok (.if_icmp .le 6, 3) := by decide +kernel
theorem dX12_shift_107 : decode cX12_shift 107 = .ok (.bipush (-13), 2) := by decide +kernel
theorem dX12_shift_109 : decode cX12_shift 109 = .ok (.ireturn, 1) := by decide +kernel
theorem dX12_shift_110 : decode cX12_shift 110 = .ok (.iconst 0, 1) := by decide +kernel
theorem dX12_shift_111 : decode cX12_shift 111 = .ok (.istore 6, 2) := by decide +kernel
theorem dX12_shift_113 : decode cX12_shift 113 = .ok (.iload 6, 2) := by decide +kernel
theorem dX12_shift_115 : decode cX12_shift 115 = .ok (.iload 5, 2) := by decide +kernel
theorem dX12_shift_117 : decode cX12_shift 117 = .ok (.if_icmp .ge 30, 3) := by decide +kernel
theorem dX12_shift_120 : decode cX12_shift 120 = .ok (.aload_n 0, 1) := by decide +kernel
theorem dX12_shift_121 : decode cX12_shift 121 = .ok (.getfield 113, 3) := by decide +kernel
theorem dX12_shift_124 : decode cX12_shift 124 = .ok (.iload 6, 2) := by decide +kernel
theorem dX12_shift_126 : decode cX12_shift 126 = .ok (.aload_n 0, 1) := by decide +kernel
theorem dX12_shift_127 : decode cX12_shift 127 = .ok (.getfield 109, 3) := by decide +kernel
theorem dX12_shift_130 : decode cX12_shift 130 = .ok (.bipush 60, 2) := by decide +kernel
theorem dX12_shift_132 : decode cX12_shift 132 = .ok (.iload_n 1, 1) := by decide +kernel
theorem dX12_shift_133 : decode cX12_shift 133 = .ok (.imul, 1) := by decide +kernel
theorem dX12_shift_134 : decode cX12_shift 134 = .ok (.iload_n 2, 1) := by decide +kernel
theorem dX12_shift_135 : decode cX12_shift 135 = .ok (.iadd, 1) := by decide +kernel
theorem dX12_shift_136 : decode cX12_shift 136 = .ok (.iload 6, 2) := by decide +kernel
theorem dX12_shift_138 : decode cX12_shift 138 = .ok (.iadd, 1) := by decide +kernel
theorem dX12_shift_139 : decode cX12_shift 139 = .ok (.laload, 1) := by decide +kernel
theorem dX12_shift_140 : decode cX12_shift 140 = .ok (.lastore, 1) := by decide +kernel
theorem dX12_shift_141 : decode cX12_shift 141 = .ok (.iinc 6 1, 3) := by decide +kernel
theorem dX12_shift_144 : decode cX12_shift 144 = .ok (.goto (-31), 3) := by decide +kernel
theorem dX12_shift_147 : decode cX12_shift 147 = .ok (.iconst 0, 1) := by decide +kernel
theorem dX12_shift_148 : decode cX12_shift 148 = .ok (.istore 6, 2) := by decide +kernel
theorem dX12_shift_150 : decode cX12_shift 150 = .ok (.iload 6, 2) := by decide +kernel
theorem dX12_shift_152 : decode cX12_shift 152 = .ok (.iload 5, 2) := by decide +kernel
theorem dX12_shift_154 : decode cX12_shift 154 = .ok (.if_icmp .ge 31, 3) := by decide +kernel
theorem dX12_shift_157 : decode cX12_shift 157 = .ok (.aload_n 0, 1) := by decide +kernel
theorem dX12_shift_158 : decode cX12_shift 158 = .ok (.getfield 109, 3) := by decide +kernel
theorem dX12_shift_161 : decode cX12_shift 161 = .ok (.bipush 60, 2) := by decide +kernel
theorem dX12_shift_163 : decode cX12_shift 163 = .ok (.iload_n 3, 1) := by decide +kernel
theorem dX12_shift_164 : decode cX12_shift 164 = .ok (.imul, 1) := by decide +kernel
theorem dX12_shift_165 : decode cX12_shift 165 = .ok (.iload 4, 2) := by decide +kernel
theorem dX12_shift_167 : decode cX12_shift 167 = .ok (.iadd, 1) := by decide +kernel
theorem dX12_shift_168 : decode cX12_shift 168 = .ok (.iload 6, 2) := by decide +kernel
theorem dX12_shift_170 : decode cX12_shift 170 = .ok (.iadd, 1) := by decide +kernel
theorem dX12_shift_171 : decode cX12_shift 171 = .ok (.aload_n 0, 1) := by decide +kernel
theorem dX12_shift_172 : decode cX12_shift 172 = .ok (.getfield 113, 3) := by decide +kernel
theorem dX12_shift_175 : decode cX12_shift 175 = .ok (.iload 6, 2) := by decide +kernel
theorem dX12_shift_177 : decode cX12_shift 177 = .ok (.laload, 1) := by decide +kernel
theorem dX12_shift_178 : decode cX12_shift 178 = .ok (.lastore, 1) := by decide +kernel
theorem dX12_shift_179 : decode cX12_shift 179 = .ok (.iinc 6 1, 3) := by decide +kernel
theorem dX12_shift_182 : decode cX12_shift 182 = .ok (.goto (-32), 3) := by decide +kernel
theorem dX12_shift_185 : decode cX12_shift 185 = .ok (.iload 5, 2) := by decide +kernel
theorem dX12_shift_187 : decode cX12_shift 187 = .ok (.ireturn, 1) := by decide +kernel
theorem dX12_taken_0 : decode cX12_taken 0 = .ok (.iload_n 1, 1) := by decide +kernel
theorem dX12_taken_1 : decode cX12_taken 1 = .ok (.invokestatic 141, 3) := by decide +kernel
theorem dX12_taken_4 : decode cX12_taken 4 = .ok (.ifCond .eq 13, 3) := by decide +kernel
theorem dX12_taken_7 : decode cX12_taken 7 = .ok (.iload_n 2, 1) := by decide +kernel
theorem dX12_taken_8 : decode cX12_taken 8 = .ok (.iconst 0, 1) := by decide +kernel
theorem dX12_taken_9 : decode cX12_taken 9 = .ok (.bipush 7, 2) := by decide +kernel
theorem dX12_taken_11 : decode cX12_taken 11 = .ok (.invokestatic 126, 3) := by decide +kernel
theorem dX12_taken_14 : decode cX12_taken 14 = .ok (.ifCond .ne 5, 3) := by decide +kernel
theorem dX12_taken_17 : decode cX12_taken 17 = .ok (.iconst (-1), 1) := by decide +kernel
theorem dX12_taken_18 : decode cX12_taken 18 = .ok (.ireturn, 1) := by decide +kernel
theorem dX12_taken_19 : decode cX12_taken 19 = .ok (.aload_n 0, 1) := by decide +kernel
theorem dX12_taken_20 : decode cX12_taken 20 = .ok (.getfield 103, 3) := by decide +kernel
theorem dX12_taken_23 : decode cX12_taken 23 = .ok (.iload_n 1, 1) := by decide +kernel
theorem dX12_taken_24 : decode cX12_taken 24 = .ok (.iaload, 1) := by decide +kernel
theorem dX12_taken_25 : decode cX12_taken 25 = .ok (.iconst (-1), 1) := by decide +kernel
theorem dX12_taken_26 : decode cX12_taken 26 = .ok (.if_icmp .ne 6, 3) := by decide +kernel
theorem dX12_taken_29 : decode cX12_taken 29 = .ok (.bipush (-11), 2) := by decide +kernel
theorem dX12_taken_31 : decode cX12_taken 31 = .ok (.ireturn, 1) := by decide +kernel
theorem dX12_taken_32 : decode cX12_taken 32 = .ok (.aload_n 0, 1) := by decide +kernel
theorem dX12_taken_33 : decode cX12_taken 33 = .ok (.getfield 103, 3) := by decide +kernel
theorem dX12_taken_36 : decode cX12_taken 36 = .ok (.iload_n 1, 1) := by decide +kernel
theorem dX12_taken_37 : decode cX12_taken 37 = .ok (.iaload, 1) := by decide +kernel
theorem dX12_taken_38 : decode cX12_taken 38 = .ok (.ifCond .lt 35, 3) := by decide +kernel
theorem dX12_taken_41 : decode cX12_taken 41 = .ok (.aload_n 0, 1) := by decide +kernel
theorem dX12_taken_42 : decode cX12_taken 42 = .ok (.getfield 97, 3) := by decide +kernel
theorem dX12_taken_45 : decode cX12_taken 45 = .ok (.aload_n 0, 1) := by decide +kernel
theorem dX12_taken_46 : decode cX12_taken 46 = .ok (.getfield 103, 3) := by decide +kernel
theorem dX12_taken_49 : decode cX12_taken 49 = .ok (.iload_n 1, 1) := by decide +kernel
theorem dX12_taken_50 : decode cX12_taken 50 = .ok (.iaload, 1) := by decide +kernel
theorem dX12_taken_51 : decode cX12_taken 51 = .ok (.iaload, 1) := by decide +kernel
theorem dX12_taken_52 : decode cX12_taken 52 = .ok (.iload_n 2, 1) := by decide +kernel
theorem dX12_taken_53 : decode cX12_taken 53 = .ok (.invokestatic 408, 3) := by decide +kernel
theorem dX12_taken_56 : decode cX12_taken 56 = .ok (.ifCond .eq 17, 3) := by decide +kernel
theorem dX12_taken_59 : decode cX12_taken 59 = .ok (.aload_n 0, 1) := by decide +kernel
theorem dX12_taken_60 : decode cX12_taken 60 = .ok (.getfield 97, 3) := by decide +kernel
theorem dX12_taken_63 : decode cX12_taken 63 = .ok (.aload_n 0, 1) := by decide +kernel
theorem dX12_taken_64 : decode cX12_taken 64 = .ok (.getfield 103, 3) := by decide +kernel
theorem dX12_taken_67 : decode cX12_taken 67 = .ok (.iload_n 1, 1) := by decide +kernel
theorem dX12_taken_68 : decode cX12_taken 68 = .ok (.iaload, 1) := by decide +kernel
theorem dX12_taken_69 : decode cX12_taken 69 = .ok (.iaload, 1) := by decide +kernel
theorem dX12_taken_70 : decode cX12_taken 70 = .ok (.goto 5, 3) := by decide +kernel
theorem dX12_taken_73 : decode cX12_taken 73 = .ok (.bipush (-12), 2) := by decide +kernel
theorem dX12_taken_75 : decode cX12_taken 75 = .ok (.ireturn, 1) := by decide +kernel
