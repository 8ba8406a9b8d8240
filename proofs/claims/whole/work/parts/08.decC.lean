theorem dX9_init_0 : decode cX9_init 0 = .ok (.aload_n 0, 1) := by decide +kernel
theorem dX9_init_1 : decode cX9_init 1 = .ok (.invokespecial 1, 3) := by decide +kernel
theorem dX9_init_4 : decode cX9_init 4 = .ok (.aload_n 0, 1) := by decide +kernel
theorem dX9_init_5 : decode cX9_init 5 = .ok (.bipush 36, 2) := by decide +kernel
theorem dX9_init_7 : decode cX9_init 7 = .ok (.newarray .int, 2) := by decide +kernel
theorem dX9_init_9 : decode cX9_init 9 = .ok (.putfield 9, 3) := by decide +kernel
theorem dX9_init_12 : decode cX9_init 12 = .ok (.aload_n 0, 1) := by decide +kernel
theorem dX9_init_13 : decode cX9_init 13 = .ok (.bipush 36, 2) := by decide +kernel
theorem dX9_init_15 : decode cX9_init 15 = .ok (.newarray .boolean, 2) := by decide +kernel
theorem dX9_init_17 : decode cX9_init 17 = .ok (.putfield 13, 3) := by decide +kernel
theorem dX9_init_20 : decode cX9_init 20 = .ok (.aload_n 0, 1) := by decide +kernel
theorem dX9_init_21 : decode cX9_init 21 = .ok (.bipush 12, 2) := by decide +kernel
theorem dX9_init_23 : decode cX9_init 23 = .ok (.newarray .int, 2) := by decide +kernel
theorem dX9_init_25 : decode cX9_init 25 = .ok (.putfield 17, 3) := by decide +kernel
theorem dX9_init_28 : decode cX9_init 28 = .ok (.aload_n 0, 1) := by decide +kernel
theorem dX9_init_29 : decode cX9_init 29 = .ok (.bipush 12, 2) := by decide +kernel
theorem dX9_init_31 : decode cX9_init 31 = .ok (.newarray .int, 2) := by decide +kernel
theorem dX9_init_33 : decode cX9_init 33 = .ok (.putfield 20, 3) := by decide +kernel
theorem dX9_init_36 : decode cX9_init 36 = .ok (.aload_n 0, 1) := by decide +kernel
theorem dX9_init_37 : decode cX9_init 37 = .ok (.bipush 12, 2) := by decide +kernel
theorem dX9_init_39 : decode cX9_init 39 = .ok (.newarray .int, 2) := by decide +kernel
theorem dX9_init_41 : decode cX9_init 41 = .ok (.putfield 23, 3) := by decide +kernel
theorem dX9_init_44 : decode cX9_init 44 = .ok (.aload_n 0, 1) := by decide +kernel
theorem dX9_init_45 : decode cX9_init 45 = .ok (.bipush 12, 2) := by decide +kernel
theorem dX9_init_47 : decode cX9_init 47 = .ok (.newarray .int, 2) := by decide +kernel
theorem dX9_init_49 : decode cX9_init 49 = .ok (.putfield 26, 3) := by decide +kernel
theorem dX9_init_52 : decode cX9_init 52 = .ok (.aload_n 0, 1) := by decide +kernel
theorem dX9_init_53 : decode cX9_init 53 = .ok (.bipush 12, 2) := by decide +kernel
theorem dX9_init_55 : decode cX9_init 55 = .ok (.newarray .int, 2) := by decide +kernel
theorem dX9_init_57 : decode cX9_init 57 = .ok (.putfield 29, 3) := by decide +kernel
theorem dX9_init_60 : decode cX9_init 60 = .ok (.aload_n 0, 1) := by decide +kernel
theorem dX9_init_61 : decode cX9_init 61 = .ok (.bipush 12, 2) := by decide +kernel
theorem dX9_init_63 : decode cX9_init 63 = .ok (.newarray .int, 2) := by decide +kernel
theorem dX9_init_65 : decode cX9_init 65 = .ok (.putfield 32, 3) := by decide +kernel
theorem dX9_init_68 : decode cX9_init 68 = .ok (.aload_n 0, 1) := by decide +kernel
theorem dX9_init_69 : decode cX9_init 69 = .ok (.bipush 96, 2) := by decide +kernel
theorem dX9_init_71 : decode cX9_init 71 = .ok (.newarray .int, 2) := by decide +kernel
theorem dX9_init_73 : decode cX9_init 73 = .ok (.putfield 35, 3) := by decide +kernel
theorem dX9_init_76 : decode cX9_init 76 = .ok (.aload_n 0, 1) := by decide +kernel
theorem dX9_init_77 : decode cX9_init 77 = .ok (.bipush 96, 2) := by decide +kernel
theorem dX9_init_79 : decode cX9_init 79 = .ok (.newarray .int, 2) := by decide +kernel
theorem dX9_init_81 : decode cX9_init 81 = .ok (.putfield 38, 3) := by decide +kernel
theorem dX9_init_84 : decode cX9_init 84 = .ok (.aload_n 0, 1) := by decide +kernel
theorem dX9_init_85 : decode cX9_init 85 = .ok (.iconst 4, 1) := by decide +kernel
theorem dX9_init_86 : decode cX9_init 86 = .ok (.newarray .int, 2) := by decide +kernel
theorem dX9_init_88 : decode cX9_init 88 = .ok (.putfield 41, 3) := by decide +kernel
theorem dX9_init_91 : decode cX9_init 91 = .ok (.aload_n 0, 1) := by decide +kernel
theorem dX9_init_92 : decode cX9_init 92 = .ok (.iconst 4, 1) := by decide +kernel
theorem dX9_init_93 : decode cX9_init 93 = .ok (.newarray .int, 2) := by decide +kernel
theorem dX9_init_95 : decode cX9_init 95 = .ok (.putfield 44, 3) := by decide +kernel
theorem dX9_init_98 : decode cX9_init 98 = .ok (.aload_n 0, 1) := by decide +kernel
theorem dX9_init_99 : decode cX9_init 99 = .ok (.iconst 4, 1) := by decide +kernel
theorem dX9_init_100 : decode cX9_init 100 = .ok (.newarray .int, 2) := by decide +kernel
theorem dX9_init_102 : decode cX9_init 102 = .ok (.putfield 47, 3) := by decide +kernel
theorem dX9_init_105 : decode cX9_init 105 = .ok (.aload_n 0, 1) := by decide +kernel
theorem dX9_init_106 : decode cX9_init 106 = .ok (.sipush 400, 3) := by decide +kernel
theorem dX9_init_109 : decode cX9_init 109 = .ok (.newarray .int, 2) := by decide +kernel
theorem dX9_init_111 : decode cX9_init 111 = .ok (.putfield 50, 3) := by decide +kernel
theorem dX9_init_114 : decode cX9_init 114 = .ok (.aload_n 0, 1) := by decide +kernel
theorem dX9_init_115 : decode cX9_init 115 = .ok (.sipush 400, 3) := by decide +kernel
theorem dX9_init_118 : decode cX9_init 118 = .ok (.newarray .int, 2) := by decide +kernel
theorem dX9_init_120 : decode cX9_init 120 = .ok (.putfield 53, 3) := by decide +kernel
theorem dX9_init_123 : decode cX9_init 123 = .ok (.aload_n 0, 1) := by decide +kernel
theorem dX9_init_124 : decode cX9_init 124 = .ok (.sipush 400, 3) := by decide +kernel
theorem dX9_init_127 : decode cX9_init 127 = .ok (.newarray .int, 2) := by decide +kernel
theorem dX9_init_129 : decode cX9_init 129 = .ok (.putfield 56, 3) := by decide +kernel
theorem dX9_init_132 : decode cX9_init 132 = .ok (.aload_n 0, 1) := by decide +kernel
theorem dX9_init_133 : decode cX9_init 133 = .ok (.sipush 400, 3) := by decide +kernel
theorem dX9_init_136 : decode cX9_init 136 = .ok (.newarray .int, 2) := by decide +kernel
theorem dX9_init_138 : decode cX9_init 138 = .ok (.putfield 59, 3) := by decide +kernel
theorem dX9_init_141 : decode cX9_init 141 = .ok (.aload_n 0, 1) := by decide +kernel
theorem dX9_init_142 : decode cX9_init 142 = .ok (.sipush 400, 3) := by decide +kernel
theorem dX9_init_145 : decode cX9_init 145 = .ok (.newarray .int, 2) := by decide +kernel
theorem dX9_init_147 : decode cX9_init 147 = .ok (.putfield 62, 3) := by decide +kernel
theorem dX9_init_150 : decode cX9_init 150 = .ok (.aload_n 0, 1) := by decide +kernel
theorem dX9_init_151 : decode cX9_init 151 = .ok (.sipush 400, 3) := by decide +kernel
theorem dX9_init_154 : decode cX9_init 154 = .ok (.newarray .int, 2) := by decide +kernel
theorem dX9_init_156 : decode cX9_init 156 = .ok (.putfield 65, 3) := by decide +kernel
theorem dX9_init_159 : decode cX9_init 159 = .ok (.aload_n 0, 1) := by decide +kernel
theorem dX9_init_160 : decode cX9_init 160 = .ok (.sipush 400, 3) := by decide +kernel
theorem dX9_init_163 : decode cX9_init 163 = .ok (.newarray .int, 2) := by decide +kernel
theorem dX9_init_165 : decode cX9_init 165 = .ok (.putfield 68, 3) := by decide +kernel
theorem dX9_init_168 : decode cX9_init 168 = .ok (.aload_n 0, 1) := by decide +kernel
theorem dX9_init_169 : decode cX9_init 169 = .ok (.sipush 400, 3) := by decide +kernel
theorem dX9_init_172 : decode cX9_init 172 = .ok (.newarray .int, 2) := by decide +kernel
theorem dX9_init_174 : decode cX9_init 174 = .ok (.putfield 71, 3) := by decide +kernel
theorem dX9_init_177 : decode cX9_init 177 = .ok (.aload_n 0, 1) := by decide +kernel
theorem dX9_init_178 : decode cX9_init 178 = .ok (.sipush 400, 3) := by decide +kernel
theorem dX9_init_181 : decode cX9_init 181 = .ok (.newarray .int, 2) := by decide +kernel
theorem dX9_init_183 : decode cX9_init 183 = .ok (.putfield 74, 3) := by decide +kernel
theorem dX9_init_186 : decode cX9_init 186 = .ok (.aload_n 0, 1) := by decide +kernel
theorem dX9_init_187 : decode cX9_init 187 = .ok (.sipush 400, 3) := by decide +kernel
theorem dX9_init_190 : decode cX9_init 190 = .ok (.newarray .int, 2) := by decide +kernel
theorem dX9_init_192 : decode cX9_init 192 = .ok (.putfield 77, 3) := by decide +kernel
theorem dX9_init_195 : decode cX9_init 195 = .ok (.aload_n 0, 1) := by decide +kernel
theorem dX9_init_196 : decode cX9_init 196 = .ok (.sipush 400, 3) := by decide +kernel
theorem dX9_init_199 : decode cX9_init 199 = .ok (.newarray .int, 2) := by decide +kernel
theorem dX9_init_201 : decode cX9_init 201 = .ok (.putfield 80, 3) := by decide +kernel
theorem dX9_init_204 : decode cX9_init 204 = .ok (.aload_n 0, 1) := by decide +kernel
theorem dX9_init_205 : decode cX9_init 205 = .ok (.sipush 300, 3) := by decide +kernel
theorem dX9_init_208 : decode cX9_init 208 = .ok (.putfield 83, 3) := by decide +kernel
theorem dX9_init_211 : decode cX9_init 211 = .ok (.aload_n 0, 1) := by decide +kernel
theorem dX9_init_212 : decode cX9_init 212 = .ok (.bipush 12, 2) := by decide +kernel
theorem dX9_init_214 : decode cX9_init 214 = .ok (.newarray .int, 2) := by decide +kernel
theorem dX9_init_216 : decode cX9_init 216 = .ok (.putfield 87, 3) := by decide +kernel
theorem dX9_init_219 : decode cX9_init 219 = .ok (.aload_n 0, 1) := by decide +kernel
theorem dX9_init_220 : decode cX9_init 220 = .ok (.bipush 12, 2) := by decide +kernel
theorem dX9_init_222 : decode cX9_init 222 = .ok (.newarray .int, 2) := by decide +kernel
theorem dX9_init_224 : decode cX9_init 224 = .ok (.putfield 90, 3) := by decide +kernel
theorem dX9_init_227 : decode cX9_init 227 = .ok (.aload_n 0, 1) := by decide +kernel
theorem dX9_init_228 : decode cX9_init 228 = .ok (.bipush 12, 2) := by decide +kernel
theorem dX9_init_230 : decode cX9_init 230 = .ok (.newarray .boolean, 2) := by decide +kernel
theorem dX9_init_232 : decode cX9_init 232 = .ok (.putfield 93, 3) := by decide +kernel
theorem dX9_init_235 : decode cX9_init 235 = .ok (.aload_n 0, 1) := by decide +kernel
theorem dX9_init_236 : decode cX9_init 236 = .ok (.bipush 12, 2) := by decide +kernel
theorem dX9_init_238 : decode cX9_init 238 = .ok (.newarray .int, 2) := by decide +kernel
theorem dX9_init_240 : decode cX9_init 240 = .ok (.putfield 96, 3) := by decide +kernel
theorem dX9_init_243 : decode cX9_init 243 = .ok (.aload_n 0, 1) := by decide +kernel
theorem dX9_init_244 : decode cX9_init 244 = .ok (.bipush 36, 2) := by decide +kernel
theorem dX9_init_246 : decode cX9_init 246 = .ok (.newarray .int, 2) := by decide +kernel
theorem dX9_init_248 : decode cX9_init 248 = .ok (.putfield 99, 3) := by decide +kernel
theorem dX9_init_251 : decode cX9_init 251 = .ok (.aload_n 0, 1) := by decide +kernel
theorem dX9_init_252 : decode cX9_init 252 = .ok (.iconst 4, 1) := by decide +kernel
theorem dX9_init_253 : decode cX9_init 253 = .ok (.newarray .int, 2) := by decide +kernel
theorem dX9_init_255 : decode cX9_init 255 = .ok (.putfield 102, 3) := by decide +kernel
theorem dX9_init_258 : decode cX9_init 258 = .ok (.aload_n 0, 1) := by decide +kernel
theorem dX9_init_259 : decode cX9_init 259 = .ok (.bipush 12, 2) := by decide +kernel
theorem dX9_init_261 : decode cX9_init 261 = .ok (.newarray .boolean, 2) := by decide +kernel
theorem dX9_init_263 : decode cX9_init 263 = .ok (.putfield 105, 3) := by decide +kernel
theorem dX9_init_266 : decode cX9_init 266 = .ok (.aload_n 0, 1) := by decide +kernel
theorem dX9_init_267 : decode cX9_init 267 = .ok (.bipush 6, 2) := by decide +kernel
theorem dX9_init_269 : decode cX9_init 269 = .ok (.newarray .int, 2) := by decide +kernel
theorem dX9_init_271 : decode cX9_init 271 = .ok (.putfield 108, 3) := by decide +kernel
theorem dX9_init_274 : decode cX9_init 274 = .ok (.aload_n 0, 1) := by decide +kernel
theorem dX9_init_275 : decode cX9_init 275 = .ok (.sipush 220, 3) := by decide +kernel
theorem dX9_init_278 : decode cX9_init 278 = .ok (.newarray .int, 2) := by decide +kernel
theorem dX9_init_280 : decode cX9_init 280 = .ok (.putfield 111, 3) := by decide +kernel
theorem dX9_init_283 : decode cX9_init 283 = .ok (.aload_n 0, 1) := by decide +kernel
theorem dX9_init_284 : decode cX9_init 284 = .ok (.sipush 1680, 3) := by decide +kernel
theorem dX9_init_287 : decode cX9_init 287 = .ok (.newarray .int, 2) := by decide +kernel
theorem dX9_init_289 : decode cX9_init 289 = .ok (.putfield 114, 3) := by decide +kernel
theorem dX9_init_292 : decode cX9_init 292 = .ok (.aload_n 0, 1) := by decide +kernel
theorem dX9_init_293 : decode cX9_init 293 = .ok (.sipush 420, 3) := by decide +kernel
theorem dX9_init_296 : decode cX9_init 296 = .ok (.newarray .int, 2) := by decide +kernel
theorem dX9_init_298 : decode cX9_init 298 = .ok (.putfield 117, 3) := by decide +kernel
theorem dX9_init_301 : decode cX9_init 301 = .ok (.aload_n 0, 1) := by decide +kernel
theorem dX9_init_302 : decode cX9_init 302 = .ok (.iconst 4, 1) := by decide +kernel
theorem dX9_init_303 : decode cX9_init 303 = .ok (.newarray .boolean, 2) := by decide +kernel
theorem dX9_init_305 : decode cX9_init 305 = .ok (.putfield 120, 3) := by decide +kernel
theorem dX9_init_308 : decode cX9_init 308 = .ok (.aload_n 0, 1) := by decide +kernel
theorem dX9_init_309 : decode cX9_init 309 = .ok (.sipush 420, 3) := by decide +kernel
theorem dX9_init_312 : decode cX9_init 312 = .ok (.newarray .boolean, 2) := by decide +kernel
theorem dX9_init_314 : decode cX9_init 314 = .ok (.putfield 123, 3) := by decide +kernel
theorem dX9_init_317 : decode cX9_init 317 = .ok (.return_, 1) := by decide +kernel
theorem dX9_in_0 : decode cX9_in 0 = .ok (.iload_n 0, 1) := by decide +kernel
theorem dX9_in_1 : decode cX9_in 1 = .ok (.iload_n 1, 1) := by decide +kernel
theorem dX9_in_2 : decode cX9_in 2 = .ok (.if_icmp .lt 12, 3) := by decide +kernel
theorem dX9_in_5 : decode cX9_in 5 = .ok (.iload_n 0, 1) := by decide +kernel
theorem dX9_in_6 : decode cX9_in 6 = .ok (.iload_n 2, 1) := by decide +kernel
theorem dX9_in_7 : decode cX9_in 7 = .ok (.if_icmp .gt 7, 3) := by decide +kernel
theorem dX9_in_10 : decode cX9_in 10 = .ok (.iconst 1, 1) := by decide +kernel
theorem dX9_in_11 : decode cX9_in 11 = .ok (.goto 4, 3) := by decide +kernel
theorem dX9_in_14 : decode cX9_in 14 = .ok (.iconst 0, 1) := by decide +kernel
theorem dX9_in_15 : decode cX9_in 15 = .ok (.ireturn, 1) := by decide +kernel
theorem dX9_isBoat_0 : decode cX9_isBoat 0 = .ok (.iload_n 1, 1) := by decide +kernel
theorem dX9_isBoat_1 : decode cX9_isBoat 1 = .ok (.iconst 0, 1) := by decide +kernel
theorem dX9_isBoat_2 : decode cX9_isBoat 2 = .ok (.aload_n 0, 1) := by decide +kernel
theorem dX9_isBoat_3 : decode cX9_isBoat 3 = .ok (.getfield 126, 3) := by decide +kernel
theorem dX9_isBoat_6 : decode cX9_isBoat 6 = .ok (.iconst 1, 1) := by decide +kernel
theorem dX9_isBoat_7 : decode cX9_isBoat 7 = .ok (.isub, 1) := by decide +kernel
theorem dX9_isBoat_8 : decode cX9_isBoat 8 = .ok (.invokestatic 129, 3) := by decide +kernel
theorem dX9_isBoat_11 : decode cX9_isBoat 11 = .ok (.ireturn, 1) := by decide +kernel
theorem dX9_partAmong_0 : decode cX9_partAmong 0 = .ok (.lconst 0, 1) := by decide +kernel
theorem dX9_partAmong_1 : decode cX9_partAmong 1 = .ok (.lstore 4, 2) := by decide +kernel
theorem dX9_partAmong_3 : decode cX9_partAmong 3 = .ok (.iconst 0, 1) := by decide +kernel
theorem dX9_partAmong_4 : decode cX9_partAmong 4 = .ok (.istore 6, 2) := by decide +kernel
theorem dX9_partAmong_6 : decode cX9_partAmong 6 = .ok (.iload 6, 2) := by decide +kernel
theorem dX9_partAmong_8 : decode cX9_partAmong 8 = .ok (.iload_n 3, 1) := by decide +kernel
theorem dX9_partAmong_9 : decode cX9_partAmong 9 = .ok (.if_icmp .ge 22, 3) := by decide +kernel
theorem dX9_partAmong_12 : decode cX9_partAmong 12 = .ok (.lload 4, 2) := by decide +kernel
theorem dX9_partAmong_14 : decode cX9_partAmong 14 = .ok (.aload_n 0, 1) := by decide +kernel
theorem dX9_partAmong_15 : decode cX9_partAmong 15 = .ok (.getfield 87, 3) := by decide +kernel
theorem dX9_partAmong_18 : decode cX9_partAmong 18 = .ok (.iload 6, 2) := by decide +kernel
theorem dX9_partAmong_20 : decode cX9_partAmong 20 = .ok (.iaload, 1) := by decide +kernel
theorem dX9_partAmong_21 : decode cX9_partAmong 21 = .ok (.i2l, 1) := by decide +kernel
theorem dX9_partAmong_22 : decode cX9_partAmong 22 = .ok (.ladd, 1) := by decide +kernel
theorem dX9_partAmong_23 : decode cX9_partAmong 23 = .ok (.lstore 4, 2) := by decide +kernel
theorem dX9_partAmong_25 : decode cX9_partAmong 25 = .ok (.iinc 6 1, 3) := by decide +kernel
theorem dX9_partAmong_28 : decode cX9_partAmong 28 = .ok (.goto (-22), 3) := by decide +kernel
theorem dX9_partAmong_31 : decode cX9_partAmong 31 = .ok (.lload_n 1, 1) := by decide +kernel
theorem dX9_partAmong_32 : decode cX9_partAmong 32 = .ok (.lstore 6, 2) := by decide +kernel
theorem dX9_partAmong_34 : decode cX9_partAmong 34 = .ok (.iconst 0, 1) := by decide +kernel
theorem dX9_partAmong_35 : decode cX9_partAmong 35 = .ok (.istore 8, 2) := by decide +kernel
theorem dX9_partAmong_37 : decode cX9_partAmong 37 = .ok (.iload 8, 2) := by decide +kernel
theorem dX9_partAmong_39 : decode cX9_partAmong 39 = .ok (.iload_n 3, 1) := by decide +kernel
theorem dX9_partAmong_40 : decode cX9_partAmong 40 = .ok (.if_icmp .ge 51, 3) := by decide +kernel
theorem dX9_partAmong_43 : decode cX9_partAmong 43 = .ok (.aload_n 0, 1) := by decide +kernel
theorem dX9_partAmong_44 : decode cX9_partAmong 44 = .ok (.getfield 90, 3) := by decide +kernel
theorem dX9_partAmong_47 : decode cX9_partAmong 47 = .ok (.iload 8, 2) := by decide +kernel
theorem dX9_partAmong_49 : decode cX9_partAmong 49 = .ok (.lload_n 1, 1) := by decide +kernel
theorem dX9_partAmong_50 : decode cX9_partAmong 50 = .ok (.aload_n 0, 1) := by decide +kernel
theorem dX9_partAmong_51 : decode cX9_partAmong 51 = .ok (.getfield 87, 3) := by decide +kernel
theorem dX9_partAmong_54 : decode cX9_partAmong 54 = .ok (.iload 8, 2) := by decide +kernel
theorem dX9_partAmong_56 : decode cX9_partAmong 56 = .ok (.iaload, 1) := by decide +kernel
theorem dX9_partAmong_57 : decode cX9_partAmong 57 = .ok (.i2l, 1) := by decide +kernel
theorem dX9_partAmong_58 : decode cX9_partAmong 58 = .ok (.lmul, 1) := by decide +kernel
theorem dX9_partAmong_59 : decode cX9_partAmong 59 = .ok (.lload 4, 2) := by decide +kernel
theorem dX9_partAmong_61 : decode cX9_partAmong 61 = .ok (.ldiv, 1) := by decide +kernel
theorem dX9_partAmong_62 : decode cX9_partAmong 62 = .ok (.l2i, 1) := by decide +kernel
theorem dX9_partAmong_63 : decode cX9_partAmong 63 = .ok (.iastore, 1) := by decide +kernel
theorem dX9_partAmong_64 : decode cX9_partAmong 64 = .ok (.lload 6, 2) := by decide +kernel
theorem dX9_partAmong_66 : decode cX9_partAmong 66 = .ok (.aload_n 0, 1) := by decide +kernel
theorem dX9_partAmong_67 : decode cX9_partAmong 67 = .ok (.getfield 90, 3) := by decide +kernel
theorem dX9_partAmong_70 : decode cX9_partAmong 70 = .ok (.iload 8, 2) := by decide +kernel
theorem dX9_partAmong_72 : decode cX9_partAmong 72 = .ok (.iaload, 1) := by decide +kernel
theorem dX9_partAmong_73 : decode cX9_partAmong 73 = .ok (.i2l, 1) := by decide +kernel
theorem dX9_partAmong_74 : decode cX9_partAmong 74 = .ok (.lsub, 1) := by decide +kernel
theorem dX9_partAmong_75 : decode cX9_partAmong 75 = .ok (.lstore 6, 2) := by decide +kernel
theorem dX9_partAmong_77 : decode cX9_partAmong 77 = .ok (.aload_n 0, 1) := by decide +kernel
theorem dX9_partAmong_78 : decode cX9_partAmong 78 = .ok (.getfield 93, 3) := by decide +kernel
theorem dX9_partAmong_81 : decode cX9_partAmong 81 = .ok (.iload 8, 2) := by decide +kernel
theorem dX9_partAmong_83 : decode cX9_partAmong 83 = .ok (.iconst 0, 1) := by decide +kernel
theorem dX9_partAmong_84 : decode cX9_partAmong 84 = .ok (.bastore, 1) := by decide +kernel
theorem dX9_partAmong_85 : decode cX9_partAmong 85 = .ok (.iinc 8 1, 3) := by decide +kernel
theorem dX9_partAmong_88 : decode cX9_partAmong 88 = .ok (.goto (-51), 3) := by decide +kernel
theorem dX9_partAmong_91 : decode cX9_partAmong 91 = .ok (.lload 6, 2) := by decide +kernel
theorem dX9_partAmong_93 : decode cX9_partAmong 93 = .ok (.lconst 0, 1) := by decide +kernel
theorem dX9_partAmong_94 : decode cX9_partAmong 94 = .ok (.lcmp, 1) := by decide +kernel
theorem dX9_partAmong_95 : decode cX9_partAmong 95 = .ok (.ifCond .le 99, 3) := by decide +kernel
theorem dX9_partAmong_98 : decode cX9_partAmong 98 = .ok (.iconst (-1), 1) := by decide +kernel
theorem dX9_partAmong_99 : decode cX9_partAmong 99 = .ok (.istore 8, 2) := by decide +kernel
theorem dX9_partAmong_101 : decode cX9_partAmong 101 = .ok (.lconst 0, 1) := by decide +kernel
theorem dX9_partAmong_102 : decode cX9_partAmong 102 = .ok (.lstore 9, 2) := by decide +kernel
theorem dX9_partAmong_104 : decode cX9_partAmong 104 = .ok (.iconst 0, 1) := by decide +kernel
theorem dX9_partAmong_105 : decode cX9_partAmong 105 = .ok (.istore 11, 2) := by decide +kernel
theorem dX9_partAmong_107 : decode cX9_partAmong 107 = .ok (.iload 11, 2) := by decide +kernel
theorem dX9_partAmong_109 : decode cX9_partAmong 109 = .ok (.iload_n 3, 1) := by decide +kernel
theorem dX9_partAmong_110 : decode cX9_partAmong 110 = .ok (.if_icmp .ge 56, 3) := by decide +kernel
theorem dX9_partAmong_113 : decode cX9_partAmong 113 = .ok (.lload_n 1, 1) := by decide +kernel
theorem dX9_partAmong_114 : decode cX9_partAmong 114 = .ok (.aload_n 0, 1) := by decide +kernel
theorem dX9_partAmong_115 : decode cX9_partAmong 115 = .ok (.getfield 87, 3) := by decide +kernel
theorem dX9_partAmong_118 : decode cX9_partAmong 118 = .ok (.iload 11, 2) := by decide +kernel
theorem dX9_partAmong_120 : decode cX9_partAmong 120 = .ok (.iaload, 1) := by decide +kernel
theorem dX9_partAmong_121 : decode cX9_partAmong 121 = .ok (.i2l, 1) := by decide +kernel
theorem dX9_partAmong_122 : decode cX9_partAmong 122 = .ok (.lmul, 1) := by decide +kernel
theorem dX9_partAmong_123 : decode cX9_partAmong 123 = .ok (.lload 4, 2) := by decide +kernel
theorem dX9_partAmong_125 : decode cX9_partAmong 125 = .ok (.lrem, 1) := by decide +kernel
theorem dX9_partAmong_126 : decode cX9_partAmong 126 = .ok (.lstore 12, 2) := by decide +kernel
theorem dX9_partAmong_128 : decode cX9_partAmong 128 = .ok (.aload_n 0, 1) := by decide +kernel
theorem dX9_partAmong_129 : decode cX9_partAmong 129 = .ok (.getfield 93, 3) := by decide +kernel
theorem dX9_partAmong_132 : decode cX9_partAmong 132 = .ok (.iload 11, 2) := by decide +kernel
theorem dX9_partAmong_134 : decode cX9_partAmong 134 = .ok (.baload, 1) := by decide +kernel
theorem dX9_partAmong_135 : decode cX9_partAmong 135 = .ok (.ifCond .ne 25, 3) := by decide +kernel
theorem dX9_partAmong_138 : decode cX9_partAmong 138 = .ok (.iload 8, 2) := by decide +kernel
theorem dX9_partAmong_140 : decode cX9_partAmong 140 = .ok (.iconst (-1), 1) := by decide +kernel
theorem dX9_partAmong_141 : decode cX9_partAmong 141 = .ok (.if_icmp .eq 11, 3) := by decide +kernel
theorem dX9_partAmong_144 : decode cX9_partAmong 144 = .ok (.lload 12, 2) := by decide +kernel
theorem dX9_partAmong_146 : decode cX9_partAmong 146 = .ok (.lload 9, 2) := by decide +kernel
theorem dX9_partAmong_148 : decode cX9_partAmong 148 = .ok (.lcmp, 1) := by decide +kernel
theorem dX9_partAmong_149 : decode cX9_partAmong 149 = .ok (.ifCond .le 11, 3) := by decide +kernel
theorem dX9_partAmong_152 : decode cX9_partAmong 152 = .ok (.iload 11, 2) := by decide +kernel
theorem dX9_partAmong_154 : decode cX9_partAmong 154 = .ok (.istore 8, 2) := by decide +kernel
theorem dX9_partAmong_156 : decode cX9_partAmong 156 = .ok (.lload 12, 2) := by decide +kernel
theorem dX9_partAmong_158 : decode cX9_partAmong 158 = .ok (.lstore 9, 2) := by decide +kernel
theorem dX9_partAmong_160 : decode cX9_partAmong 160 = .ok (.iinc 11 1, 3) := by decide +kernel
theorem dX9_partAmong_163 : decode cX9_partAmong 163 = .ok (.goto (-56), 3) := by decide +kernel
theorem dX9_partAmong_166 : decode cX9_partAmong 166 = .ok (.aload_n 0, 1) := by decide +kernel
theorem dX9_partAmong_167 : decode cX9_partAmong 167 = .ok (.getfield 93, 3) := by decide +kernel
theorem dX9_partAmong_170 : decode cX9_partAmong 170 = .ok (.iload 8, 2) := by decide +kernel
theorem dX9_partAmong_172 : decode cX9_partAmong 172 = .ok (.iconst 1, 1) := by decide +kernel
theorem dX9_partAmong_173 : decode cX9_partAmong 173 = .ok (.bastore, 1) := by decide +kernel
theorem dX9_partAmong_174 : decode cX9_partAmong 174 = .ok (.aload_n 0, 1) := by decide +kernel
theorem dX9_partAmong_175 : decode cX9_partAmong 175 = .ok (.getfield 90, 3) := by decide +kernel
theorem dX9_partAmong_178 : decode cX9_partAmong 178 = .ok (.iload 8, 2) := by decide +kernel
theorem dX9_partAmong_180 : decode cX9_partAmong 180 = .ok (.dup2, 1) := by decide +kernel
theorem dX9_partAmong_181 : decode cX9_partAmong 181 = .ok (.iaload, 1) := by decide +kernel
theorem dX9_partAmong_182 : decode cX9_partAmong 182 = .ok (.iconst 1, 1) := by decide +kernel
theorem dX9_partAmong_183 : decode cX9_partAmong 183 = .ok (.iadd, 1) := by decide +kernel
theorem dX9_partAmong_184 : decode cX9_partAmong 184 = .ok (.iastore, 1) := by decide +kernel
theorem dX9_partAmong_185 : decode cX9_partAmong 185 = .ok (.lload 6, 2) := by decide +kernel
theorem dX9_partAmong_187 : decode cX9_partAmong 187 = .ok (.lconst 1, 1) := by decide +kernel
theorem dX9_partAmong_188 : decode cX9_partAmong 188 = .ok (.lsub, 1) := by decide +kernel
theorem dX9_partAmong_189 : decode cX9_partAmong 189 = .ok (.lstore 6, 2) := by decide +kernel
theorem dX9_partAmong_191 : decode cX9_partAmong 191 = .ok (.goto (-100), 3) := by decide +kernel
theorem dX9_partAmong_194 : decode cX9_partAmong 194 = .ok (.return_, 1) := by decide +kernel
theorem dX9_shoal_0 : decode cX9_shoal 0 = .ok (.iload_n 1, 1) := by decide +kernel
theorem dX9_shoal_1 : decode cX9_shoal 1 = .ok (.iconst 0, 1) := by decide +kernel
theorem dX9_shoal_2 : decode cX9_shoal 2 = .ok (.bipush 35, 2) := by decide +kernel
theorem dX9_shoal_4 : decode cX9_shoal 4 = .ok (.invokestatic 129, 3) := by decide +kernel
theorem dX9_shoal_7 : decode cX9_shoal 7 = .ok (.ifCond .eq 14, 3) := by decide +kernel
theorem dX9_shoal_10 : decode cX9_shoal 10 = .ok (.iload_n 2, 1) := by decide +kernel
theorem dX9_shoal_11 : decode cX9_shoal 11 = .ok (.iconst 0, 1) := by decide +kernel
theorem dX9_shoal_12 : decode cX9_shoal 12 = .ok (.sipush 10000, 3) := by decide +kernel
theorem dX9_shoal_15 : decode cX9_shoal 15 = .ok (.invokestatic 129, 3) := by decide +kernel
theorem dX9_shoal_18 : decode cX9_shoal 18 = .ok (.ifCond .ne 5, 3) := by decide +kernel
theorem dX9_shoal_21 : decode cX9_shoal 21 = .ok (.iconst 0, 1) := by decide +kernel
theorem dX9_shoal_22 : decode cX9_shoal 22 = .ok (.ireturn, 1) := by decide +kernel
theorem dX9_shoal_23 : decode cX9_shoal 23 = .ok (.aload_n 0, 1) := by decide +kernel
theorem dX9_shoal_24 : decode cX9_shoal 24 = .ok (.getfield 9, 3) := by decide +kernel
theorem dX9_shoal_27 : decode cX9_shoal 27 = .ok (.iload_n 1, 1) := by decide +kernel
theorem dX9_shoal_28 : decode cX9_shoal 28 = .ok (.iload_n 2, 1) := by decide +kernel
theorem dX9_shoal_29 : decode cX9_shoal 29 = .ok (.iastore, 1) := by decide +kernel
theorem dX9_shoal_30 : decode cX9_shoal 30 = .ok (.iconst 1, 1) := by decide +kernel
theorem dX9_shoal_31 : decode cX9_shoal 31 = .ok (.ireturn, 1) := by decide +kernel
theorem dX9_open_0 : decode cX9_open 0 = .ok (.iload_n 1, 1) := by decide +kernel
theorem dX9_open_1 : decode cX9_open 1 = .ok (.iconst 0, 1) := by decide +kernel
theorem dX9_open_2 : decode cX9_open 2 = .ok (.bipush 35, 2) := by decide +kernel
theorem dX9_open_4 : decode cX9_open 4 = .ok (.invokestatic 129, 3) := by decide +kernel
theorem dX9_open_7 : decode cX9_open 7 = .ok (.ifCond .eq 13, 3) := by decide +kernel
theorem dX9_open_10 : decode cX9_open 10 = .ok (.aload_n 0, 1) := by decide +kernel
theorem dX9_open_11 : decode cX9_open 11 = .ok (.getfield 13, 3) := by decide +kernel
theorem dX9_open_14 : decode cX9_open 14 = .ok (.iload_n 1, 1) := by decide +kernel
theorem dX9_open_15 : decode cX9_open 15 = .ok (.baload, 1) := by decide +kernel
theorem dX9_open_16 : decode cX9_open 16 = .ok (.iload_n 2, 1) := by decide +kernel
theorem dX9_open_17 : decode cX9_open 17 = .ok (.if_icmp .ne 5, 3) := by decide +kernel
theorem dX9_open_20 : decode cX9_open 20 = .ok (.iconst 0, 1) := by decide +kernel
theorem dX9_open_21 : decode cX9_open 21 = .ok (.ireturn, 1) := by decide +kernel
theorem dX9_open_22 : decode cX9_open 22 = .ok (.aload_n 0, 1) := by decide +kernel
theorem dX9_open_23 : decode cX9_open 23 = .ok (.getfield 13, 3) := by decide +kernel
theorem dX9_open_26 : decode cX9_open 26 = .ok (.iload_n 1, 1) := by decide +kernel
theorem dX9_open_27 : decode cX9_open 27 = .ok (.iload_n 2, 1) := by decide +kernel
theorem dX9_open_28 : decode cX9_open 28 = .ok (.bastore, 1) := by decide +kernel
theorem dX9_open_29 : decode cX9_open 29 = .ok (.iconst 1, 1) := by decide +kernel
theorem dX9_open_30 : decode cX9_open 30 = .ok (.ireturn, 1) := by decide +kernel
theorem dX9_drift_0 : decode cX9_drift 0 = .ok (.iload_n 1, 1) := by decide +kernel
theorem dX9_drift_1 : decode cX9_drift 1 = .ok (.iconst 0, 1) := by decide +kernel
theorem dX9_drift_2 : decode cX9_drift 2 = .ok (.iconst 4, 1) := by decide +kernel
theorem dX9_drift_3 : decode cX9_drift 3 = .ok (.invokestatic 129, 3) := by decide +kernel
theorem dX9_drift_6 : decode cX9_drift 6 = .ok (.ifCond .ne 5, 3) := by decide +kernel
theorem dX9_drift_9 : decode cX9_drift 9 = .ok (.iconst 0, 1) := by decide +kernel
theorem dX9_drift_10 : decode cX9_drift 10 = .ok (.ireturn, 1) := by decide +kernel
theorem dX9_drift_11 : decode cX9_drift 11 = .ok (.aload_n 0, 1) := by decide +kernel
theorem dX9_drift_12 : decode cX9_drift 12 = .ok (.iload_n 1, 1) := by decide +kernel
theorem dX9_drift_13 : decode cX9_drift 13 = .ok (.putfield 133, 3) := by decide +kernel
theorem dX9_drift_16 : decode cX9_drift 16 = .ok (.iconst 1, 1) := by decide +kernel
theorem dX9_drift_17 : decode cX9_drift 17 = .ok (.ireturn, 1) := by decide +kernel
theorem dX9_boat_0 : decode cX9_boat 0 = .ok (.aload_n 0, 1) := by decide +kernel
theorem dX9_boat_1 : decode cX9_boat 1 = .ok (.getfield 126, 3) := by decide +kernel
theorem dX9_boat_4 : decode cX9_boat 4 = .ok (.bipush 12, 2) := by decide +kernel
theorem dX9_boat_6 : decode cX9_boat 6 = .ok (.if_icmp .eq 13, 3) := by decide +kernel
theorem dX9_boat_9 : decode cX9_boat 9 = .ok (.iload_n 1, 1) := by decide +kernel
theorem dX9_boat_10 : decode cX9_boat 10 = .ok (.iconst 0, 1) := by decide +kernel
theorem dX9_boat_11 : decode cX9_boat 11 = .ok (.bipush 60, 2) := by decide +kernel
theorem dX9_boat_13 : decode cX9_boat 13 = .ok (.invokestatic 129, 3) := by decide +kernel
theorem dX9_boat_16 : decode cX9_boat 16 = .ok (.ifCond .ne 5, 3) := by decide +kernel
theorem dX9_boat_19 : decode cX9_boat 19 = .ok (.iconst (-1), 1) := by decide +kernel
theorem dX9_boat_20 : decode cX9_boat 20 = .ok (.ireturn, 1) := by decide +kernel
theorem dX9_boat_21 : decode cX9_boat 21 = .ok (.aload_n 0, 1) := by decide +kernel
theorem dX9_boat_22 : decode cX9_boat 22 = .ok (.getfield 17, 3) := by decide +kernel
theorem dX9_boat_25 : decode cX9_boat 25 = .ok (.aload_n 0, 1) := by decide +kernel
theorem dX9_boat_26 : decode cX9_boat 26 = .ok (.getfield 126, 3) := by decide +kernel
theorem dX9_boat_29 : decode cX9_boat 29 = .ok (.iload_n 1, 1) := by decide +kernel
theorem dX9_boat_30 : decode cX9_boat 30 = .ok (.iastore, 1) := by decide +kernel
theorem dX9_boat_31 : decode cX9_boat 31 = .ok (.aload_n 0, 1) := by decide +kernel
theorem dX9_boat_32 : decode cX9_boat 32 = .ok (.getfield 20, 3) := by decide +kernel
theorem dX9_boat_35 : decode cX9_boat 35 = .ok (.aload_n 0, 1) := by decide +kernel
theorem dX9_boat_36 : decode cX9_boat 36 = .ok (.getfield 126, 3) := by decide +kernel
theorem dX9_boat_39 : decode cX9_boat 39 = .ok (.iconst (-1), 1) := by decide +kernel
theorem dX9_boat_40 : decode cX9_boat 40 = .ok (.iastore, 1) := by decide +kernel
theorem dX9_boat_41 : decode cX9_boat 41 = .ok (.aload_n 0, 1) := by decide +kernel
theorem dX9_boat_42 : decode cX9_boat 42 = .ok (.dup, 1) := by decide +kernel
theorem dX9_boat_43 : decode cX9_boat 43 = .ok (.getfield 126, 3) := by decide +kernel
theorem dX9_boat_46 : decode cX9_boat 46 = .ok (.iconst 1, 1) := by decide +kernel
theorem dX9_boat_47 : decode cX9_boat 47 = .ok (.iadd, 1) := by decide +kernel
theorem dX9_boat_48 : decode cX9_boat 48 = .ok (.putfield 126, 3) := by decide +kernel
theorem dX9_boat_51 : decode cX9_boat 51 = .ok (.aload_n 0, 1) := by decide +kernel
theorem dX9_boat_52 : decode cX9_boat 52 = .ok (.getfield 126, 3) := by decide +kernel
theorem dX9_boat_55 : decode cX9_boat 55 = .ok (.iconst 1, 1) := by decide +kernel
theorem dX9_boat_56 : decode cX9_boat 56 = .ok (.isub, 1) := by decide +kernel
theorem dX9_boat_57 : decode cX9_boat 57 = .ok (.ireturn, 1) := by decide +kernel
theorem dX9_go_0 : decode cX9_go 0 = .ok (.aload_n 0, 1) := by decide +kernel
theorem dX9_go_1 : decode cX9_go 1 = .ok (.iload_n 1, 1) := by decide +kernel
theorem dX9_go_2 : decode cX9_go 2 = .ok (.invokevirtual 136, 3) := by decide +kernel
theorem dX9_go_5 : decode cX9_go 5 = .ok (.ifCond .eq 13, 3) := by decide +kernel
theorem dX9_go_8 : decode cX9_go 8 = .ok (.iload_n 2, 1) := by decide +kernel
theorem dX9_go_9 : decode cX9_go 9 = .ok (.iconst (-1), 1) := by decide +kernel
theorem dX9_go_10 : decode cX9_go 10 = .ok (.bipush 35, 2) := by decide +kernel
theorem dX9_go_12 : decode cX9_go 12 = .ok (.invokestatic 129, 3) := by decide +kernel
theorem dX9_go_15 : decode cX9_go 15 = .ok (.ifCond .ne 5, 3) := by decide +kernel
theorem dX9_go_18 : decode cX9_go 18 = .ok (.iconst 0, 1) := by decide +kernel
theorem dX9_go_19 : decode cX9_go 19 = .ok (.ireturn, 1) := by decide +kernel
theorem dX9_go_20 : decode cX9_go 20 = .ok (.aload_n 0, 1) := by decide +kernel
theorem dX9_go_21 : decode cX9_go 21 = .ok (.getfield 20, 3) := by decide +kernel
theorem dX9_go_24 : decode cX9_go 24 = .ok (.iload_n 1, 1) := by decide +kernel
theorem dX9_go_25 : decode cX9_go 25 = .ok (.iload_n 2, 1) := by decide +kernel
theorem dX9_go_26 : decode cX9_go 26 = .ok (.iastore, 1) := by decide +kernel
theorem dX9_go_27 : decode cX9_go 27 = .ok (.iconst 1, 1) := by decide +kernel
theorem dX9_go_28 : decode cX9_go 28 = .ok (.ireturn, 1) := by decide +kernel
theorem dX9_mend_0 : decode cX9_mend 0 = .ok (.aload_n 0, 1) := by decide +kernel
theorem dX9_mend_1 : decode cX9_mend 1 = .ok (.iload_n 1, 1) := by decide +kernel
theorem dX9_mend_2 : decode cX9_mend 2 = .ok (.invokevirtual 136, 3) := by decide +kernel
theorem dX9_mend_5 : decode cX9_mend 5 = .ok (.ifCond .eq 26, 3) := by decide +kernel
theorem dX9_mend_8 : decode cX9_mend 8 = .ok (.iload_n 2, 1) := by decide +kernel
theorem dX9_mend_9 : decode cX9_mend 9 = .ok (.iconst 1, 1) := by decide +kernel
theorem dX9_mend_10 : decode cX9_mend 10 = .ok (.bipush 60, 2) := by decide +kernel
theorem dX9_mend_12 : decode cX9_mend 12 = .ok (.invokestatic 129, 3) := by decide +kernel
theorem dX9_mend_15 : decode cX9_mend 15 = .ok (.ifCond .eq 16, 3) := by decide +kernel
theorem dX9_mend_18 : decode cX9_mend 18 = .ok (.aload_n 0, 1) := by decide +kernel
theorem dX9_mend_19 : decode cX9_mend 19 = .ok (.getfield 17, 3) := by decide +kernel
theorem dX9_mend_22 : decode cX9_mend 22 = .ok (.iload_n 1, 1) := by decide +kernel
theorem dX9_mend_23 : decode cX9_mend 23 = .ok (.iaload, 1) := by decide +kernel
theorem dX9_mend_24 : decode cX9_mend 24 = .ok (.iload_n 2, 1) := by decide +kernel
theorem dX9_mend_25 : decode cX9_mend 25 = .ok (.iadd, 1) := by decide +kernel
theorem dX9_mend_26 : decode cX9_mend 26 = .ok (.bipush 60, 2) := by decide +kernel
theorem dX9_mend_28 : decode cX9_mend 28 = .ok (.if_icmp .le 5, 3) := by decide +kernel
theorem dX9_mend_31 : decode cX9_mend 31 = .ok (.iconst (-1), 1) := by decide +kernel
theorem dX9_mend_32 : decode cX9_mend 32 = .ok (.ireturn, 1) := by decide +kernel
theorem dX9_mend_33 : decode cX9_mend 33 = .ok (.aload_n 0, 1) := by decide +kernel
theorem dX9_mend_34 : decode cX9_mend 34 = .ok (.getfield 17, 3) := by decide +kernel
theorem dX9_mend_37 : decode cX9_mend 37 = .ok (.iload_n 1, 1) := by decide +kernel
theorem dX9_mend_38 : decode cX9_mend 38 = .ok (.dup2, 1) := by decide +kernel
theorem dX9_mend_39 : decode cX9_mend 39 = .ok (.iaload, 1) := by decide +kernel
theorem dX9_mend_40 : decode cX9_mend 40 = .ok (.iload_n 2, 1) := by decide +kernel
theorem dX9_mend_41 : decode cX9_mend 41 = .ok (.iadd, 1) := by decide +kernel
theorem dX9_mend_42 : decode cX9_mend 42 = .ok (.iastore, 1) := by decide +kernel
theorem dX9_mend_43 : decode cX9_mend 43 = .ok (.aload_n 0, 1) := by decide +kernel
theorem dX9_mend_44 : decode cX9_mend 44 = .ok (.getfield 17, 3) := by decide +kernel
theorem dX9_mend_47 : decode cX9_mend 47 = .ok (.iload_n 1, 1) := by decide +kernel
theorem dX9_mend_48 : decode cX9_mend 48 = .ok (.iaload, 1) := by decide +kernel
theorem dX9_mend_49 : decode cX9_mend 49 = .ok (.ireturn, 1) := by decide +kernel
theorem dX9_yard_0 : decode cX9_yard 0 = .ok (.aload_n 0, 1) := by decide +kernel
theorem dX9_yard_1 : decode cX9_yard 1 = .ok (.getfield 140, 3) := by decide +kernel
theorem dX9_yard_4 : decode cX9_yard 4 = .ok (.iconst 4, 1) := by decide +kernel
theorem dX9_yard_5 : decode cX9_yard 5 = .ok (.if_icmp .eq 24, 3) := by decide +kernel
theorem dX9_yard_8 : decode cX9_yard 8 = .ok (.iload_n 1, 1) := by decide +kernel
theorem dX9_yard_9 : decode cX9_yard 9 = .ok (.iconst 1, 1) := by decide +kernel
theorem dX9_yard_10 : decode cX9_yard 10 = .ok (.bipush 6, 2) := by decide +kernel
theorem dX9_yard_12 : decode cX9_yard 12 = .ok (.invokestatic 129, 3) := by decide +kernel
theorem dX9_yard_15 : decode cX9_yard 15 = .ok (.ifCond .eq 14, 3) := by decide +kernel
theorem dX9_yard_18 : decode cX9_yard 18 = .ok (.iload_n 2, 1) := by decide +kernel
theorem dX9_yard_19 : decode cX9_yard 19 = .ok (.iconst 1, 1) := by decide +kernel
theorem dX9_yard_20 : decode cX9_yard 20 = .ok (.sipush 500, 3) := by decide +kernel
theorem dX9_yard_23 : decode cX9_yard 23 = .ok (.invokestatic 129, 3) := by decide +kernel
theorem dX9_yard_26 : decode cX9_yard 26 = .ok (.ifCond .ne 5, 3) := by decide +kernel
theorem dX9_yard_29 : decode cX9_yard 29 = .ok (.iconst (-1), 1) := by decide +kernel
theorem dX9_yard_30 : decode cX9_yard 30 = .ok (.ireturn, 1) := by decide +kernel
theorem dX9_yard_31 : decode cX9_yard 31 = .ok (.aload_n 0, 1) := by decide +kernel
theorem dX9_yard_32 : decode cX9_yard 32 = .ok (.getfield 41, 3) := by decide +kernel
theorem dX9_yard_35 : decode cX9_yard 35 = .ok (.aload_n 0, 1) := by decide +kernel
theorem dX9_yard_36 : decode cX9_yard 36 = .ok (.getfield 140, 3) := by decide +kernel
theorem dX9_yard_39 : decode cX9_yard 39 = .ok (.iload_n 1, 1) := by decide +kernel
theorem dX9_yard_40 : decode cX9_yard 40 = .ok (.iastore, 1) := by decide +kernel
theorem dX9_yard_41 : decode cX9_yard 41 = .ok (.aload_n 0, 1) := by decide +kernel
theorem dX9_yard_42 : decode cX9_yard 42 = .ok (.getfield 44, 3) := by decide +kernel
theorem dX9_yard_45 : decode cX9_yard 45 = .ok (.aload_n 0, 1) := by decide +kernel
theorem dX9_yard_46 : decode cX9_yard 46 = .ok (.getfield 140, 3) := by decide +kernel
theorem dX9_yard_49 : decode cX9_yard 49 = .ok (.iload_n 2, 1) := by decide +kernel
theorem dX9_yard_50 : decode cX9_yard 50 = .ok (.iastore, 1) := by decide +kernel
theorem dX9_yard_51 : decode cX9_yard 51 = .ok (.aload_n 0, 1) := by decide +kernel
theorem dX9_yard_52 : decode cX9_yard 52 = .ok (.dup, 1) := by decide +kernel
theorem dX9_yard_53 : decode cX9_yard 53 = .ok (.getfield 140, 3) := by decide +kernel
theorem dX9_yard_56 : decode cX9_yard 56 = .ok (.iconst 1, 1) := by decide +kernel
theorem dX9_yard_57 : decode cX9_yard 57 = .ok (.iadd, 1) := by decide +kernel
theorem dX9_yard_58 : decode cX9_yard 58 = .ok (.putfield 140, 3) := by decide +kernel
theorem dX9_yard_61 : decode cX9_yard 61 = .ok (.aload_n 0, 1) := by decide +kernel
theorem dX9_yard_62 : decode cX9_yard 62 = .ok (.getfield 140, 3) := by decide +kernel
theorem dX9_yard_65 : decode cX9_yard 65 = .ok (.iconst 1, 1) := by decide +kernel
theorem dX9_yard_66 : decode cX9_yard 66 = .ok (.isub, 1) := by decide +kernel
theorem dX9_yard_67 : decode cX9_yard 67 = .ok (.ireturn, 1) := by decide +kernel
theorem dX9_bid_0 : decode cX9_bid 0 = .ok (.iload_n 1, 1) := by decide +kernel
theorem dX9_bid_1 : decode cX9_bid 1 = .ok (.iconst 0, 1) := by decide +kernel
theorem dX9_bid_2 : decode cX9_bid 2 = .ok (.aload_n 0, 1) := by decide +kernel
theorem dX9_bid_3 : decode cX9_bid 3 = .ok (.getfield 140, 3) := by decide +kernel
theorem dX9_bid_6 : decode cX9_bid 6 = .ok (.iconst 1, 1) := by decide +kernel
theorem dX9_bid_7 : decode cX9_bid 7 = .ok (.isub, 1) := by decide +kernel
theorem dX9_bid_8 : decode cX9_bid 8 = .ok (.invokestatic 129, 3) := by decide +kernel
theorem dX9_bid_11 : decode cX9_bid 11 = .ok (.ifCond .eq 13, 3) := by decide +kernel
theorem dX9_bid_14 : decode cX9_bid 14 = .ok (.iload_n 2, 1) := by decide +kernel
theorem dX9_bid_15 : decode cX9_bid 15 = .ok (.iconst 0, 1) := by decide +kernel
theorem dX9_bid_16 : decode cX9_bid 16 = .ok (.bipush 100, 2) := by decide +kernel
theorem dX9_bid_18 : decode cX9_bid 18 = .ok (.invokestatic 129, 3) := by decide +kernel
theorem dX9_bid_21 : decode cX9_bid 21 = .ok (.ifCond .ne 5, 3) := by decide +kernel
theorem dX9_bid_24 : decode cX9_bid 24 = .ok (.iconst 0, 1) := by decide +kernel
theorem dX9_bid_25 : decode cX9_bid 25 = .ok (.ireturn, 1) := by decide +kernel
theorem dX9_bid_26 : decode cX9_bid 26 = .ok (.aload_n 0, 1) := by decide +kernel
theorem dX9_bid_27 : decode cX9_bid 27 = .ok (.getfield 47, 3) := by decide +kernel
theorem dX9_bid_30 : decode cX9_bid 30 = .ok (.iload_n 1, 1) := by decide +kernel
theorem dX9_bid_31 : decode cX9_bid 31 = .ok (.iload_n 2, 1) := by decide +kernel
theorem dX9_bid_32 : decode cX9_bid 32 = .ok (.iastore, 1) := by decide +kernel
theorem dX9_bid_33 : decode cX9_bid 33 = .ok (.iconst 1, 1) := by decide +kernel
theorem dX9_bid_34 : decode cX9_bid 34 = .ok (.ireturn, 1) := by decide +kernel
theorem dX9_soft_0 : decode cX9_soft 0 = .ok (.iload_n 1, 1) := by decide +kernel
theorem dX9_soft_1 : decode cX9_soft 1 = .ok (.iconst 0, 1) := by decide +kernel
theorem dX9_soft_2 : decode cX9_soft 2 = .ok (.sipush 2000, 3) := by decide +kernel
theorem dX9_soft_5 : decode cX9_soft 5 = .ok (.invokestatic 129, 3) := by decide +kernel
theorem dX9_soft_8 : decode cX9_soft 8 = .ok (.ifCond .ne 5, 3) := by decide +kernel
theorem dX9_soft_11 : decode cX9_soft 11 = .ok (.iconst 0, 1) := by decide +kernel
theorem dX9_soft_12 : decode cX9_soft 12 = .ok (.ireturn, 1) := by decide +kernel
theorem dX9_soft_13 : decode cX9_soft 13 = .ok (.aload_n 0, 1) := by decide +kernel
theorem dX9_soft_14 : decode cX9_soft 14 = .ok (.iload_n 1, 1) := by decide +kernel
theorem dX9_soft_15 : decode cX9_soft 15 = .ok (.putfield 83, 3) := by decide +kernel
theorem dX9_soft_18 : decode cX9_soft 18 = .ok (.iconst 1, 1) := by decide +kernel
theorem dX9_soft_19 : decode cX9_soft 19 = .ok (.ireturn, 1) := by decide +kernel
theorem dX9_haul_0 : decode cX9_haul 0 = .ok (.iconst 0, 1) := by decide +kernel
theorem dX9_haul_1 : decode cX9_haul 1 = .ok (.istore_n 2, 1) := by decide +kernel
theorem dX9_haul_2 : decode cX9_haul 2 = .ok (.iconst 0, 1) := by decide +kernel
theorem dX9_haul_3 : decode cX9_haul 3 = .ok (.istore_n 3, 1) := by decide +kernel
theorem dX9_haul_4 : decode cX9_haul 4 = .ok (.iconst 0, 1) := by decide +kernel
theorem dX9_haul_5 : decode cX9_haul 5 = .ok (.istore 4, 2) := by decide +kernel
theorem dX9_haul_7 : decode cX9_haul 7 = .ok (.iload 4, 2) := by decide +kernel
theorem dX9_haul_9 : decode cX9_haul 9 = .ok (.aload_n 0, 1) := by decide +kernel
theorem dX9_haul_10 : decode cX9_haul 10 = .ok (.getfield 126, 3) := by decide +kernel
theorem dX9_haul_13 : decode cX9_haul 13 = .ok (.if_icmp .ge 64, 3) := by decide +kernel
theorem dX9_haul_16 : decode cX9_haul 16 = .ok (.aload_n 0, 1) := by decide +kernel
theorem dX9_haul_17 : decode cX9_haul 17 = .ok (.getfield 20, 3) := by decide +kernel
theorem dX9_haul_20 : decode cX9_haul 20 = .ok (.iload 4, 2) := by decide +kernel
theorem dX9_haul_22 : decode cX9_haul 22 = .ok (.iaload, 1) := by decide +kernel
theorem dX9_haul_23 : decode cX9_haul 23 = .ok (.iload_n 1, 1) := by decide +kernel
theorem dX9_haul_24 : decode cX9_haul 24 = .ok (.if_icmp .ne 47, 3) := by decide +kernel
theorem dX9_haul_27 : decode cX9_haul 27 = .ok (.aload_n 0, 1) := by decide +kernel
theorem dX9_haul_28 : decode cX9_haul 28 = .ok (.getfield 17, 3) := by decide +kernel
theorem dX9_haul_31 : decode cX9_haul 31 = .ok (.iload 4, 2) := by decide +kernel
theorem dX9_haul_33 : decode cX9_haul 33 = .ok (.iaload, 1) := by decide +kernel
theorem dX9_haul_34 : decode cX9_haul 34 = .ok (.ifCond .le 37, 3) := by decide +kernel
theorem dX9_haul_37 : decode cX9_haul 37 = .ok (.aload_n 0, 1) := by decide +kernel
theorem dX9_haul_38 : decode cX9_haul 38 = .ok (.getfield 96, 3) := by decide +kernel
theorem dX9_haul_41 : decode cX9_haul 41 = .ok (.iload_n 2, 1) := by decide +kernel
theorem dX9_haul_42 : decode cX9_haul 42 = .ok (.iload 4, 2) := by decide +kernel
theorem dX9_haul_44 : decode cX9_haul 44 = .ok (.iastore, 1) := by decide +kernel
theorem dX9_haul_45 : decode cX9_haul 45 = .ok (.aload_n 0, 1) := by decide +kernel
theorem dX9_haul_46 : decode cX9_haul 46 = .ok (.getfield 87, 3) := by decide +kernel
theorem dX9_haul_49 : decode cX9_haul 49 = .ok (.iload_n 2, 1) := by decide +kernel
theorem dX9_haul_50 : decode cX9_haul 50 = .ok (.aload_n 0, 1) := by decide +kernel
theorem dX9_haul_51 : decode cX9_haul 51 = .ok (.getfield 17, 3) := by decide +kernel
theorem dX9_haul_54 : decode cX9_haul 54 = .ok (.iload 4, 2) := by decide +kernel
theorem dX9_haul_56 : decode cX9_haul 56 = .ok (.iaload, 1) := by decide +kernel
theorem dX9_haul_57 : decode cX9_haul 57 = .ok (.iastore, 1) := by decide +kernel
theorem dX9_haul_58 : decode cX9_haul 58 = .ok (.iload_n 3, 1) := by decide +kernel
theorem dX9_haul_59 : decode cX9_haul 59 = .ok (.aload_n 0, 1) := by decide +kernel
theorem dX9_haul_60 : decode cX9_haul 60 = .ok (.getfield 17, 3) := by decide +kernel
theorem dX9_haul_63 : decode cX9_haul 63 = .ok (.iload 4, 2) := by decide +kernel
theorem dX9_haul_65 : decode cX9_haul 65 = .ok (.iaload, 1) := by decide +kernel
theorem dX9_haul_66 : decode cX9_haul 66 = .ok (.iadd, 1) := by decide +kernel
theorem dX9_haul_67 : decode cX9_haul 67 = .ok (.istore_n 3, 1) := by decide +kernel
theorem dX9_haul_68 : decode cX9_haul 68 = .ok (.iinc 2 1, 3) := by decide +kernel
theorem dX9_haul_71 : decode cX9_haul 71 = .ok (.iinc 4 1, 3) := by decide +kernel
theorem dX9_haul_74 : decode cX9_haul 74 = .ok (.goto (-67), 3) := by decide +kernel
theorem dX9_haul_77 : decode cX9_haul 77 = .ok (.iload_n 2, 1) := by decide +kernel
theorem dX9_haul_78 : decode cX9_haul 78 = .ok (.ifCond .ne 5, 3) := by decide +kernel
theorem dX9_haul_81 : decode cX9_haul 81 = .ok (.iconst 0, 1) := by decide +kernel
theorem dX9_haul_82 : decode cX9_haul 82 = .ok (.ireturn, 1) := by decide +kernel
theorem dX9_haul_83 : decode cX9_haul 83 = .ok (.iconst 2, 1) := by decide +kernel
theorem dX9_haul_84 : decode cX9_haul 84 = .ok (.iload_n 3, 1) := by decide +kernel
theorem dX9_haul_85 : decode cX9_haul 85 = .ok (.imul, 1) := by decide +kernel
theorem dX9_haul_86 : decode cX9_haul 86 = .ok (.aload_n 0, 1) := by decide +kernel
theorem dX9_haul_87 : decode cX9_haul 87 = .ok (.getfield 9, 3) := by decide +kernel
theorem dX9_haul_90 : decode cX9_haul 90 = .ok (.iload_n 1, 1) := by decide +kernel
theorem dX9_haul_91 : decode cX9_haul 91 = .ok (.iaload, 1) := by decide +kernel
theorem dX9_haul_92 : decode cX9_haul 92 = .ok (.invokestatic 143, 3) := by decide +kernel
theorem dX9_haul_95 : decode cX9_haul 95 = .ok (.istore 4, 2) := by decide +kernel
theorem dX9_haul_97 : decode cX9_haul 97 = .ok (.aload_n 0, 1) := by decide +kernel
theorem dX9_haul_98 : decode cX9_haul 98 = .ok (.iload 4, 2) := by decide +kernel
theorem dX9_haul_100 : decode cX9_haul 100 = .ok (.i2l, 1) := by decide +kernel
theorem dX9_haul_101 : decode cX9_haul 101 = .ok (.iload_n 2, 1) := by decide +kernel
theorem dX9_haul_102 : decode cX9_haul 102 = .ok (.invokevirtual 149, 3) := by decide +kernel
theorem dX9_haul_105 : decode cX9_haul 105 = .ok (.iconst 0, 1) := by decide +kernel
theorem dX9_haul_106 : decode cX9_haul 106 = .ok (.istore 5, 2) := by decide +kernel
theorem dX9_haul_108 : decode cX9_haul 108 = .ok (.iload 5, 2) := by decide +kernel
theorem dX9_haul_110 : decode cX9_haul 110 = .ok (.iload_n 2, 1) := by decide +kernel
theorem dX9_haul_111 : decode cX9_haul 111 = .ok (.if_icmp .ge 50, 3) := by decide +kernel
theorem dX9_haul_114 : decode cX9_haul 114 = .ok (.aload_n 0, 1) := by decide +kernel
theorem dX9_haul_115 : decode cX9_haul 115 = .ok (.getfield 26, 3) := by decide +kernel
theorem dX9_haul_118 : decode cX9_haul 118 = .ok (.aload_n 0, 1) := by decide +kernel
theorem dX9_haul_119 : decode cX9_haul 119 = .ok (.getfield 96, 3) := by decide +kernel
theorem dX9_haul_122 : decode cX9_haul 122 = .ok (.iload 5, 2) := by decide +kernel
theorem dX9_haul_124 : decode cX9_haul 124 = .ok (.iaload, 1) := by decide +kernel
theorem dX9_haul_125 : decode cX9_haul 125 = .ok (.aload_n 0, 1) := by decide +kernel
theorem dX9_haul_126 : decode cX9_haul 126 = .ok (.getfield 90, 3) := by decide +kernel
theorem dX9_haul_129 : decode cX9_haul 129 = .ok (.iload 5, 2) := by decide +kernel
theorem dX9_haul_131 : decode cX9_haul 131 = .ok (.iaload, 1) := by decide +kernel
theorem dX9_haul_132 : decode cX9_haul 132 = .ok (.iastore, 1) := by decide +kernel
theorem dX9_haul_133 : decode cX9_haul 133 = .ok (.aload_n 0, 1) := by decide +kernel
theorem dX9_haul_134 : decode cX9_haul 134 = .ok (.getfield 23, 3) := by decide +kernel
theorem dX9_haul_137 : decode cX9_haul 137 = .ok (.aload_n 0, 1) := by decide +kernel
theorem dX9_haul_138 : decode cX9_haul 138 = .ok (.getfield 96, 3) := by decide +kernel
theorem dX9_haul_141 : decode cX9_haul 141 = .ok (.iload 5, 2) := by decide +kernel
theorem dX9_haul_143 : decode cX9_haul 143 = .ok (.iaload, 1) := by decide +kernel
theorem dX9_haul_144 : decode cX9_haul 144 = .ok (.dup2, 1) := by decide +kernel
theorem dX9_haul_145 : decode cX9_haul 145 = .ok (.iaload, 1) := by decide +kernel
theorem dX9_haul_146 : decode cX9_haul 146 = .ok (.aload_n 0, 1) := by decide +kernel
theorem dX9_haul_147 : decode cX9_haul 147 = .ok (.getfield 90, 3) := by decide +kernel
theorem dX9_haul_150 : decode cX9_haul 150 = .ok (.iload 5, 2) := by decide +kernel
theorem dX9_haul_152 : decode cX9_haul 152 = .ok (.iaload, 1) := by decide +kernel
theorem dX9_haul_153 : decode cX9_haul 153 = .ok (.iadd, 1) := by decide +kernel
theorem dX9_haul_154 : decode cX9_haul 154 = .ok (.iastore, 1) := by decide +kernel
theorem dX9_haul_155 : decode cX9_haul 155 = .ok (.iinc 5 1, 3) := by decide +kernel
theorem dX9_haul_158 : decode cX9_haul 158 = .ok (.goto (-50), 3) := by decide +kernel
theorem dX9_haul_161 : decode cX9_haul 161 = .ok (.aload_n 0, 1) := by decide +kernel
theorem dX9_haul_162 : decode cX9_haul 162 = .ok (.getfield 9, 3) := by decide +kernel
theorem dX9_haul_165 : decode cX9_haul 165 = .ok (.iload_n 1, 1) := by decide +kernel
theorem dX9_haul_166 : decode cX9_haul 166 = .ok (.dup2, 1) := by decide +kernel
theorem dX9_haul_167 : decode cX9_haul 167 = .ok (.iaload, 1) := by decide +kernel
theorem dX9_haul_168 : decode cX9_haul 168 = .ok (.iload 4, 2) := by decide +kernel
theorem dX9_haul_170 : decode cX9_haul 170 = .ok (.isub, 1) := by decide +kernel
theorem dX9_haul_171 : decode cX9_haul 171 = .ok (.iastore, 1) := by decide +kernel
theorem dX9_haul_172 : decode cX9_haul 172 = .ok (.iload 4, 2) := by decide +kernel
theorem dX9_haul_174 : decode cX9_haul 174 = .ok (.ireturn, 1) := by decide +kernel
theorem dX9_storm_0 : decode cX9_storm 0 = .ok (.iconst 0, 1) := by decide +kernel
theorem dX9_storm_1 : decode cX9_storm 1 = .ok (.istore_n 1, 1) := by decide +kernel
theorem dX9_storm_2 : decode cX9_storm 2 = .ok (.iload_n 1, 1) := by decide +kernel
theorem dX9_storm_3 : decode cX9_storm 3 = .ok (.aload_n 0, 1) := by decide +kernel
theorem dX9_storm_4 : decode cX9_storm 4 = .ok (.getfield 126, 3) := by decide +kernel
theorem dX9_storm_7 : decode cX9_storm 7 = .ok (.if_icmp .ge 62, 3) := by decide +kernel
theorem dX9_storm_10 : decode cX9_storm 10 = .ok (.aload_n 0, 1) := by decide +kernel
theorem dX9_storm_11 : decode cX9_storm 11 = .ok (.getfield 20, 3) := by decide +kernel
theorem dX9_storm_14 : decode cX9_storm 14 = .ok (.iload_n 1, 1) := by decide +kernel
theorem dX9_storm_15 : decode cX9_storm 15 = .ok (.iaload, 1) := by decide +kernel
theorem dX9_storm_16 : decode cX9_storm 16 = .ok (.iconst (-1), 1) := by decide +kernel
theorem dX9_storm_17 : decode cX9_storm 17 = .ok (.if_icmp .eq 46, 3) := by decide +kernel
theorem dX9_storm_20 : decode cX9_storm 20 = .ok (.aload_n 0, 1) := by decide +kernel
theorem dX9_storm_21 : decode cX9_storm 21 = .ok (.getfield 13, 3) := by decide +kernel
theorem dX9_storm_24 : decode cX9_storm 24 = .ok (.aload_n 0, 1) := by decide +kernel
theorem dX9_storm_25 : decode cX9_storm 25 = .ok (.getfield 20, 3) := by decide +kernel
theorem dX9_storm_28 : decode cX9_storm 28 = .ok (.iload_n 1, 1) := by decide +kernel
theorem dX9_storm_29 : decode cX9_storm 29 = .ok (.iaload, 1) := by decide +kernel
theorem dX9_storm_30 : decode cX9_storm 30 = .ok (.baload, 1) := by decide +kernel
theorem dX9_storm_31 : decode cX9_storm 31 = .ok (.ifCond .eq 32, 3) := by decide +kernel
theorem dX9_storm_34 : decode cX9_storm 34 = .ok (.aload_n 0, 1) := by decide +kernel
theorem dX9_storm_35 : decode cX9_storm 35 = .ok (.getfield 17, 3) := by decide +kernel
theorem dX9_storm_38 : decode cX9_storm 38 = .ok (.iload_n 1, 1) := by decide +kernel
theorem dX9_storm_39 : decode cX9_storm 39 = .ok (.iaload, 1) := by decide +kernel
theorem dX9_storm_40 : decode cX9_storm 40 = .ok (.iconst 5, 1) := by decide +kernel
theorem dX9_storm_41 : decode cX9_storm 41 = .ok (.idiv, 1) := by decide +kernel
theorem dX9_storm_42 : decode cX9_storm 42 = .ok (.istore_n 2, 1) := by decide +kernel
theorem dX9_storm_43 : decode cX9_storm 43 = .ok (.aload_n 0, 1) := by decide +kernel
theorem dX9_storm_44 : decode cX9_storm 44 = .ok (.getfield 17, 3) := by decide +kernel
theorem dX9_storm_47 : decode cX9_storm 47 = .ok (.iload_n 1, 1) := by decide +kernel
theorem dX9_storm_48 : decode cX9_storm 48 = .ok (.dup2, 1) := by decide +kernel
theorem dX9_storm_49 : decode cX9_storm 49 = .ok (.iaload, 1) := by decide +kernel
theorem dX9_storm_50 : decode cX9_storm 50 = .ok (.iload_n 2, 1) := by decide +kernel
theorem dX9_storm_51 : decode cX9_storm 51 = .ok (.isub, 1) := by decide +kernel
theorem dX9_storm_52 : decode cX9_storm 52 = .ok (.iastore, 1) := by decide +kernel
theorem dX9_storm_53 : decode cX9_storm 53 = .ok (.aload_n 0, 1) := by decide +kernel
theorem dX9_storm_54 : decode cX9_storm 54 = .ok (.getfield 32, 3) := by decide +kernel
theorem dX9_storm_57 : decode cX9_storm 57 = .ok (.iload_n 1, 1) := by decide +kernel
theorem dX9_storm_58 : decode cX9_storm 58 = .ok (.dup2, 1) := by decide +kernel
theorem dX9_storm_59 : decode cX9_storm 59 = .ok (.iaload, 1) := by decide +kernel
theorem dX9_storm_60 : decode cX9_storm 60 = .ok (.iload_n 2, 1) := by decide +kernel
theorem dX9_storm_61 : decode cX9_storm 61 = .ok (.iadd, 1) := by decide +kernel
theorem dX9_storm_62 : decode cX9_storm 62 = .ok (.iastore, 1) := by decide +kernel
theorem dX9_storm_63 : decode cX9_storm 63 = .ok (.iinc 1 1, 3) := by decide +kernel
theorem dX9_storm_66 : decode cX9_storm 66 = .ok (.goto (-64), 3) := by decide +kernel
theorem dX9_storm_69 : decode cX9_storm 69 = .ok (.return_, 1) := by decide +kernel
theorem dX9_beside_0 : decode cX9_beside 0 = .ok (.iload_n 1, 1) := by decide +kernel
theorem dX9_beside_1 : decode cX9_beside 1 = .ok (.bipush 6, 2) := by decide +kernel
theorem dX9_beside_3 : decode cX9_beside 3 = .ok (.irem, 1) := by decide +kernel
theorem dX9_beside_4 : decode cX9_beside 4 = .ok (.aload_n 0, 1) := by decide +kernel
theorem dX9_beside_5 : decode cX9_beside 5 = .ok (.getfield 133, 3) := by decide +kernel
theorem dX9_beside_8 : decode cX9_beside 8 = .ok (.iconst 1, 1) := by decide +kernel
theorem dX9_beside_9 : decode cX9_beside 9 = .ok (.if_icmp .ne 7, 3) := by decide +kernel
theorem dX9_beside_12 : decode cX9_beside 12 = .ok (.iconst 1, 1) := by decide +kernel
theorem dX9_beside_13 : decode cX9_beside 13 = .ok (.goto 16, 3) := by decide +kernel
theorem dX9_beside_16 : decode cX9_beside 16 = .ok (.aload_n 0, 1) := by decide +kernel
theorem dX9_beside_17 : decode cX9_beside 17 = .ok (.getfield 133, 3) := by decide +kernel
theorem dX9_beside_20 : decode cX9_beside 20 = .ok (.iconst 2, 1) := by decide +kernel
theorem dX9_beside_21 : decode cX9_beside 21 = .ok (.if_icmp .ne 7, 3) := by decide +kernel
theorem dX9_beside_24 : decode cX9_beside 24 = .ok (.iconst (-1), 1) := by decide +kernel
theorem dX9_beside_25 : decode cX9_beside 25 = .ok (.goto 4, 3) := by decide +kernel
theorem dX9_beside_28 : decode cX9_beside 28 = .ok (.iconst 0, 1) := by decide +kernel
theorem dX9_beside_29 : decode cX9_beside 29 = .ok (.iadd, 1) := by decide +kernel
theorem dX9_beside_30 : decode cX9_beside 30 = .ok (.istore_n 2, 1) := by decide +kernel
theorem dX9_beside_31 : decode cX9_beside 31 = .ok (.iload_n 1, 1) := by decide +kernel
theorem dX9_beside_32 : decode cX9_beside 32 = .ok (.bipush 6, 2) := by decide +kernel
theorem dX9_beside_34 : decode cX9_beside 34 = .ok (.idiv, 1) := by decide +kernel
theorem dX9_beside_35 : decode cX9_beside 35 = .ok (.aload_n 0, 1) := by decide +kernel
theorem dX9_beside_36 : decode cX9_beside 36 = .ok (.getfield 133, 3) := by decide +kernel
theorem dX9_beside_39 : decode cX9_beside 39 = .ok (.iconst 3, 1) := by decide +kernel
theorem dX9_beside_40 : decode cX9_beside 40 = .ok (.if_icmp .ne 7, 3) := by decide +kernel
theorem dX9_beside_43 : decode cX9_beside 43 = .ok (.iconst 1, 1) := by decide +kernel
theorem dX9_beside_44 : decode cX9_beside 44 = .ok (.goto 16, 3) := by decide +kernel
theorem dX9_beside_47 : decode cX9_beside 47 = .ok (.aload_n 0, 1) := by decide +kernel
theorem dX9_beside_48 : decode cX9_beside 48 = .ok (.getfield 133, 3) := by decide +kernel
theorem dX9_beside_51 : decode cX9_beside 51 = .ok (.iconst 4, 1) := by decide +kernel
theorem dX9_beside_52 : decode cX9_beside 52 = .ok (.if_icmp .ne 7, 3) := by decide +kernel
theorem dX9_beside_55 : decode cX9_beside 55 = .ok (.iconst (-1), 1) := by decide +kernel
theorem dX9_beside_56 : decode cX9_beside 56 = .ok (.goto 4, 3) := by decide +kernel
theorem dX9_beside_59 : decode cX9_beside 59 = .ok (.iconst 0, 1) := by decide +kernel
theorem dX9_beside_60 : decode cX9_beside 60 = .ok (.iadd, 1) := by decide +kernel
theorem dX9_beside_61 : decode cX9_beside 61 = .ok (.istore_n 3, 1) := by decide +kernel
theorem dX9_beside_62 : decode cX9_beside 62 = .ok (.iload_n 2, 1) := by decide +kernel
theorem dX9_beside_63 : decode cX9_beside 63 = .ok (.iconst 0, 1) := by decide +kernel
theorem dX9_beside_64 : decode cX9_beside 64 = .ok (.iconst 5, 1) := by decide +kernel
theorem dX9_beside_65 : decode cX9_beside 65 = .ok (.invokestatic 129, 3) := by decide +kernel
theorem dX9_beside_68 : decode cX9_beside 68 = .ok (.ifCond .eq 21, 3) := by decide +kernel
theorem dX9_beside_71 : decode cX9_beside 71 = .ok (.iload_n 3, 1) := by decide +kernel
theorem dX9_beside_72 : decode cX9_beside 72 = .ok (.iconst 0, 1) := by decide +kernel
theorem dX9_beside_73 : decode cX9_beside 73 = .ok (.iconst 5, 1) := by decide +kernel
theorem dX9_beside_74 : decode cX9_beside 74 = .ok (.invokestatic 129, 3) := by decide +kernel
theorem dX9_beside_77 : decode cX9_beside 77 = .ok (.ifCond .eq 12, 3) := by decide +kernel
theorem dX9_beside_80 : decode cX9_beside 80 = .ok (.bipush 6, 2) := by decide +kernel
theorem dX9_beside_82 : decode cX9_beside 82 = .ok (.iload_n 3, 1) := by decide +kernel
theorem dX9_beside_83 : decode cX9_beside 83 = .ok (.imul, 1) := by decide +kernel
theorem dX9_beside_84 : decode cX9_beside 84 = .ok (.iload_n 2, 1) := by decide +kernel
theorem dX9_beside_85 : decode cX9_beside 85 = .ok (.iadd, 1) := by decide +kernel
theorem dX9_beside_86 : decode cX9_beside 86 = .ok (.goto 4, 3) := by decide +kernel
theorem dX9_beside_89 : decode cX9_beside 89 = .ok (.iload_n 1, 1) := by decide +kernel
theorem dX9_beside_90 : decode cX9_beside 90 = .ok (.ireturn, 1) := by decide +kernel
theorem dX9_driftAll_0 : decode cX9_driftAll 0 = .ok (.iconst 0, 1) := by decide +kernel
theorem dX9_driftAll_1 : decode cX9_driftAll 1 = .ok (.istore_n 1, 1) := by decide +kernel
theorem dX9_driftAll_2 : decode cX9_driftAll 2 = .ok (.iload_n 1, 1) := by decide +kernel
theorem dX9_driftAll_3 : decode cX9_driftAll 3 = .ok (.bipush 36, 2) := by decide +kernel
theorem dX9_driftAll_5 : decode cX9_driftAll 5 = .ok (.if_icmp .ge 16, 3) := by decide +kernel
theorem dX9_driftAll_8 : decode cX9_driftAll 8 = .ok (.aload_n 0, 1) := by decide +kernel
theorem dX9_driftAll_9 : decode cX9_driftAll 9 = .ok (.getfield 99, 3) := by decide +kernel
theorem dX9_driftAll_12 : decode cX9_driftAll 12 = .ok (.iload_n 1, 1) := by decide +kernel
theorem dX9_driftAll_13 : decode cX9_driftAll 13 = .ok (.iconst 0, 1) := by decide +kernel
theorem dX9_driftAll_14 : decode cX9_driftAll 14 = .ok (.iastore, 1) := by decide +kernel
theorem dX9_driftAll_15 : decode cX9_driftAll 15 = .ok (.iinc 1 1, 3) := by decide +kernel
theorem dX9_driftAll_18 : decode cX9_driftAll 18 = .ok (.goto (-16), 3) := by decide +kernel
theorem dX9_driftAll_21 : decode cX9_driftAll 21 = .ok (.iconst 0, 1) := by decide +kernel
theorem dX9_driftAll_22 : decode cX9_driftAll 22 = .ok (.istore_n 1, 1) := by decide +kernel
theorem dX9_driftAll_23 : decode cX9_driftAll 23 = .ok (.iload_n 1, 1) := by decide +kernel
theorem dX9_driftAll_24 : decode cX9_driftAll 24 = .ok (.bipush 36, 2) := by decide +kernel
theorem dX9_driftAll_26 : decode cX9_driftAll 26 = .ok (.if_icmp .ge 42, 3) := by decide +kernel
theorem dX9_driftAll_29 : decode cX9_driftAll 29 = .ok (.aload_n 0, 1) := by decide +kernel
theorem dX9_driftAll_30 : decode cX9_driftAll 30 = .ok (.getfield 9, 3) := by decide +kernel
theorem dX9_driftAll_33 : decode cX9_driftAll 33 = .ok (.iload_n 1, 1) := by decide +kernel
theorem dX9_driftAll_34 : decode cX9_driftAll 34 = .ok (.iaload, 1) := by decide +kernel
theorem dX9_driftAll_35 : decode cX9_driftAll 35 = .ok (.iconst 4, 1) := by decide +kernel
theorem dX9_driftAll_36 : decode cX9_driftAll 36 = .ok (.idiv, 1) := by decide +kernel
theorem dX9_driftAll_37 : decode cX9_driftAll 37 = .ok (.istore_n 2, 1) := by decide +kernel
theorem dX9_driftAll_38 : decode cX9_driftAll 38 = .ok (.aload_n 0, 1) := by decide +kernel
theorem dX9_driftAll_39 : decode cX9_driftAll 39 = .ok (.getfield 99, 3) := by decide +kernel
theorem dX9_driftAll_42 : decode cX9_driftAll 42 = .ok (.aload_n 0, 1) := by decide +kernel
theorem dX9_driftAll_43 : decode cX9_driftAll 43 = .ok (.iload_n 1, 1) := by decide +kernel
theorem dX9_driftAll_44 : decode cX9_driftAll 44 = .ok (.invokevirtual 153, 3) := by decide +kernel
theorem dX9_driftAll_47 : decode cX9_driftAll 47 = .ok (.dup2, 1) := by decide +kernel
theorem dX9_driftAll_48 : decode cX9_driftAll 48 = .ok (.iaload, 1) := by decide +kernel
theorem dX9_driftAll_49 : decode cX9_driftAll 49 = .ok (.iload_n 2, 1) := by decide +kernel
theorem dX9_driftAll_50 : decode cX9_driftAll 50 = .ok (.iadd, 1) := by decide +kernel
theorem dX9_driftAll_51 : decode cX9_driftAll 51 = .ok (.iastore, 1) := by decide +kernel
theorem dX9_driftAll_52 : decode cX9_driftAll 52 = .ok (.aload_n 0, 1) := by decide +kernel
theorem dX9_driftAll_53 : decode cX9_driftAll 53 = .ok (.getfield 99, 3) := by decide +kernel
theorem dX9_driftAll_56 : decode cX9_driftAll 56 = .ok (.iload_n 1, 1) := by decide +kernel
theorem dX9_driftAll_57 : decode cX9_driftAll 57 = .ok (.dup2, 1) := by decide +kernel
theorem dX9_driftAll_58 : decode cX9_driftAll 58 = .ok (.iaload, 1) := by decide +kernel
theorem dX9_driftAll_59 : decode cX9_driftAll 59 = .ok (.iload_n 2, 1) := by decide +kernel
theorem dX9_driftAll_60 : decode cX9_driftAll 60 = .ok (.isub, 1) := by decide +kernel
theorem dX9_driftAll_61 : decode cX9_driftAll 61 = .ok (.iastore, 1) := by decide +kernel
theorem dX9_driftAll_62 : decode cX9_driftAll 62 = .ok (.iinc 1 1, 3) := by decide +kernel
theorem dX9_driftAll_65 : decode cX9_driftAll 65 = .ok (.goto (-42), 3) := by decide +kernel
theorem dX9_driftAll_68 : decode cX9_driftAll 68 = .ok (.iconst 0, 1) := by decide +kernel
theorem dX9_driftAll_69 : decode cX9_driftAll 69 = .ok (.istore_n 1, 1) := by decide +kernel
theorem dX9_driftAll_70 : decode cX9_driftAll 70 = .ok (.iload_n 1, 1) := by decide +kernel
theorem dX9_driftAll_71 : decode cX9_driftAll 71 = .ok (.bipush 36, 2) := by decide +kernel
theorem dX9_driftAll_73 : decode cX9_driftAll 73 = .ok (.if_icmp .ge 54, 3) := by decide +kernel
theorem dX9_driftAll_76 : decode cX9_driftAll 76 = .ok (.aload_n 0, 1) := by decide +kernel
theorem dX9_driftAll_77 : decode cX9_driftAll 77 = .ok (.getfield 9, 3) := by decide +kernel
theorem dX9_driftAll_80 : decode cX9_driftAll 80 = .ok (.iload_n 1, 1) := by decide +kernel
theorem dX9_driftAll_81 : decode cX9_driftAll 81 = .ok (.iaload, 1) := by decide +kernel
theorem dX9_driftAll_82 : decode cX9_driftAll 82 = .ok (.aload_n 0, 1) := by decide +kernel
theorem dX9_driftAll_83 : decode cX9_driftAll 83 = .ok (.getfield 99, 3) := by decide +kernel
theorem dX9_driftAll_86 : decode cX9_driftAll 86 = .ok (.iload_n 1, 1) := by decide +kernel
theorem dX9_driftAll_87 : decode cX9_driftAll 87 = .ok (.iaload, 1) := by decide +kernel
theorem dX9_driftAll_88 : decode cX9_driftAll 88 = .ok (.iadd, 1) := by decide +kernel
theorem dX9_driftAll_89 : decode cX9_driftAll 89 = .ok (.istore_n 2, 1) := by decide +kernel
theorem dX9_driftAll_90 : decode cX9_driftAll 90 = .ok (.aload_n 0, 1) := by decide +kernel
theorem dX9_driftAll_91 : decode cX9_driftAll 91 = .ok (.dup, 1) := by decide +kernel
theorem dX9_driftAll_92 : decode cX9_driftAll 92 = .ok (.getfield 157, 3) := by decide +kernel
theorem dX9_driftAll_95 : decode cX9_driftAll 95 = .ok (.iconst 0, 1) := by decide +kernel
theorem dX9_driftAll_96 : decode cX9_driftAll 96 = .ok (.iload_n 2, 1) := by decide +kernel
theorem dX9_driftAll_97 : decode cX9_driftAll 97 = .ok (.sipush 10000, 3) := by decide +kernel
theorem dX9_driftAll_100 : decode cX9_driftAll 100 = .ok (.isub, 1) := by decide +kernel
theorem dX9_driftAll_101 : decode cX9_driftAll 101 = .ok (.invokestatic 160, 3) := by decide +kernel
theorem dX9_driftAll_104 : decode cX9_driftAll 104 = .ok (.iadd, 1) := by decide +kernel
theorem dX9_driftAll_105 : decode cX9_driftAll 105 = .ok (.putfield 157, 3) := by decide +kernel
theorem dX9_driftAll_108 : decode cX9_driftAll 108 = .ok (.aload_n 0, 1) := by decide +kernel
theorem dX9_driftAll_109 : decode cX9_driftAll 109 = .ok (.getfield 9, 3) := by decide +kernel
theorem dX9_driftAll_112 : decode cX9_driftAll 112 = .ok (.iload_n 1, 1) := by decide +kernel
theorem dX9_driftAll_113 : decode cX9_driftAll 113 = .ok (.sipush 10000, 3) := by decide +kernel
theorem dX9_driftAll_116 : decode cX9_driftAll 116 = .ok (.iload_n 2, 1) := by decide +kernel
theorem dX9_driftAll_117 : decode cX9_driftAll 117 = .ok (.invokestatic 143, 3) := by decide +kernel
theorem dX9_driftAll_120 : decode cX9_driftAll 120 = .ok (.iastore, 1) := by decide +kernel
theorem dX9_driftAll_121 : decode cX9_driftAll 121 = .ok (.iinc 1 1, 3) := by decide +kernel
theorem dX9_driftAll_124 : decode cX9_driftAll 124 = .ok (.goto (-54), 3) := by decide +kernel
theorem dX9_driftAll_127 : decode cX9_driftAll 127 = .ok (.return_, 1) := by decide +kernel
theorem dX9_minute_0 : decode cX9_minute 0 = .ok (.bipush 30, 2) := by decide +kernel
theorem dX9_minute_2 : decode cX9_minute 2 = .ok (.aload_n 0, 1) := by decide +kernel
theorem dX9_minute_3 : decode cX9_minute 3 = .ok (.getfield 20, 3) := by decide +kernel
theorem dX9_minute_6 : decode cX9_minute 6 = .ok (.iload_n 1, 1) := by decide +kernel
theorem dX9_minute_7 : decode cX9_minute 7 = .ok (.iaload, 1) := by decide +kernel
theorem dX9_minute_8 : decode cX9_minute 8 = .ok (.bipush 6, 2) := by decide +kernel
theorem dX9_minute_10 : decode cX9_minute 10 = .ok (.irem, 1) := by decide +kernel
theorem dX9_minute_11 : decode cX9_minute 11 = .ok (.aload_n 0, 1) := by decide +kernel
theorem dX9_minute_12 : decode cX9_minute 12 = .ok (.getfield 20, 3) := by decide +kernel
theorem dX9_minute_15 : decode cX9_minute 15 = .ok (.iload_n 1, 1) := by decide +kernel
theorem dX9_minute_16 : decode cX9_minute 16 = .ok (.iaload, 1) := by decide +kernel
theorem dX9_minute_17 : decode cX9_minute 17 = .ok (.bipush 6, 2) := by decide +kernel
theorem dX9_minute_19 : decode cX9_minute 19 = .ok (.idiv, 1) := by decide +kernel
theorem dX9_minute_20 : decode cX9_minute 20 = .ok (.iadd, 1) := by decide +kernel
theorem dX9_minute_21 : decode cX9_minute 21 = .ok (.iconst 1, 1) := by decide +kernel
theorem dX9_minute_22 : decode cX9_minute 22 = .ok (.iadd, 1) := by decide +kernel
theorem dX9_minute_23 : decode cX9_minute 23 = .ok (.imul, 1) := by decide +kernel
theorem dX9_minute_24 : decode cX9_minute 24 = .ok (.ireturn, 1) := by decide +kernel
theorem dX9_nextBoat_0 : decode cX9_nextBoat 0 = .ok (.iconst (-1), 1) := by decide +kernel
theorem dX9_nextBoat_1 : decode cX9_nextBoat 1 = .ok (.istore_n 1, 1) := by decide +kernel
theorem dX9_nextBoat_2 : decode cX9_nextBoat 2 = .ok (.iconst 0, 1) := by decide +kernel
theorem dX9_nextBoat_3 : decode cX9_nextBoat 3 = .ok (.istore_n 2, 1) := by decide +kernel
theorem dX9_nextBoat_4 : decode cX9_nextBoat 4 = .ok (.iload_n 2, 1) := by decide +kernel
theorem dX9_nextBoat_5 : decode cX9_nextBoat 5 = .ok (.aload_n 0, 1) := by decide +kernel
theorem dX9_nextBoat_6 : decode cX9_nextBoat 6 = .ok (.getfield 126, 3) := by decide +kernel
theorem dX9_nextBoat_9 : decode cX9_nextBoat 9 = .ok (.if_icmp .ge 47, 3) := by decide +kernel
theorem dX9_nextBoat_12 : decode cX9_nextBoat 12 = .ok (.aload_n 0, 1) := by decide +kernel
theorem dX9_nextBoat_13 : decode cX9_nextBoat 13 = .ok (.getfield 105, 3) := by decide +kernel
theorem dX9_nextBoat_16 : decode cX9_nextBoat 16 = .ok (.iload_n 2, 1) := by decide +kernel
theorem dX9_nextBoat_17 : decode cX9_nextBoat 17 = .ok (.baload, 1) := by decide +kernel
theorem dX9_nextBoat_18 : decode cX9_nextBoat 18 = .ok (.ifCond .ne 32, 3) := by decide +kernel
theorem dX9_nextBoat_21 : decode cX9_nextBoat 21 = .ok (.aload_n 0, 1) := by decide +kernel
theorem dX9_nextBoat_22 : decode cX9_nextBoat 22 = .ok (.getfield 26, 3) := by decide +kernel
theorem dX9_nextBoat_25 : decode cX9_nextBoat 25 = .ok (.iload_n 2, 1) := by decide +kernel
theorem dX9_nextBoat_26 : decode cX9_nextBoat 26 = .ok (.iaload, 1) := by decide +kernel
theorem dX9_nextBoat_27 : decode cX9_nextBoat 27 = .ok (.ifCond .le 23, 3) := by decide +kernel
theorem dX9_nextBoat_30 : decode cX9_nextBoat 30 = .ok (.iload_n 1, 1) := by decide +kernel
theorem dX9_nextBoat_31 : decode cX9_nextBoat 31 = .ok (.iconst (-1), 1) := by decide +kernel
theorem dX9_nextBoat_32 : decode cX9_nextBoat 32 = .ok (.if_icmp .eq 16, 3) := by decide +kernel
theorem dX9_nextBoat_35 : decode cX9_nextBoat 35 = .ok (.aload_n 0, 1) := by decide +kernel
theorem dX9_nextBoat_36 : decode cX9_nextBoat 36 = .ok (.iload_n 2, 1) := by decide +kernel
theorem dX9_nextBoat_37 : decode cX9_nextBoat 37 = .ok (.invokevirtual 163, 3) := by decide +kernel
theorem dX9_nextBoat_40 : decode cX9_nextBoat 40 = .ok (.aload_n 0, 1) := by decide +kernel
theorem dX9_nextBoat_41 : decode cX9_nextBoat 41 = .ok (.iload_n 1, 1) := by decide +kernel
theorem dX9_nextBoat_42 : decode cX9_nextBoat 42 = .ok (.invokevirtual 163, 3) := by decide +kernel
theorem dX9_nextBoat_45 : decode cX9_nextBoat 45 = .ok (.if_icmp .ge 5, 3) := by decide +kernel
theorem dX9_nextBoat_48 : decode cX9_nextBoat 48 = .ok (.iload_n 2, 1) := by decide +kernel
theorem dX9_nextBoat_49 : decode cX9_nextBoat 49 = .ok (.istore_n 1, 1) := by decide +kernel
theorem dX9_nextBoat_50 : decode cX9_nextBoat 50 = .ok (.iinc 2 1, 3) := by decide +kernel
theorem dX9_nextBoat_53 : decode cX9_nextBoat 53 = .ok (.goto (-49), 3) := by decide +kernel
theorem dX9_nextBoat_56 : decode cX9_nextBoat 56 = .ok (.iload_n 1, 1) := by decide +kernel
theorem dX9_nextBoat_57 : decode cX9_nextBoat 57 = .ok (.ireturn, 1) := by decide +kernel
theorem dX9_bestYard_0 : decode cX9_bestYard 0 = .ok (.iconst (-1), 1) := by decide +kernel
theorem dX9_bestYard_1 : decode cX9_bestYard 1 = .ok (.istore_n 1, 1) := by decide +kernel
theorem dX9_bestYard_2 : decode cX9_bestYard 2 = .ok (.iconst 0, 1) := by decide +kernel
theorem dX9_bestYard_3 : decode cX9_bestYard 3 = .ok (.istore_n 2, 1) := by decide +kernel
theorem dX9_bestYard_4 : decode cX9_bestYard 4 = .ok (.iload_n 2, 1) := by decide +kernel
theorem dX9_bestYard_5 : decode cX9_bestYard 5 = .ok (.aload_n 0, 1) := by decide +kernel
theorem dX9_bestYard_6 : decode cX9_bestYard 6 = .ok (.getfield 140, 3) := by decide +kernel
theorem dX9_bestYard_9 : decode cX9_bestYard 9 = .ok (.if_icmp .ge 40, 3) := by decide +kernel
theorem dX9_bestYard_12 : decode cX9_bestYard 12 = .ok (.aload_n 0, 1) := by decide +kernel
theorem dX9_bestYard_13 : decode cX9_bestYard 13 = .ok (.getfield 102, 3) := by decide +kernel
theorem dX9_bestYard_16 : decode cX9_bestYard 16 = .ok (.iload_n 2, 1) := by decide +kernel
theorem dX9_bestYard_17 : decode cX9_bestYard 17 = .ok (.iaload, 1) := by decide +kernel
theorem dX9_bestYard_18 : decode cX9_bestYard 18 = .ok (.ifCond .le 25, 3) := by decide +kernel
theorem dX9_bestYard_21 : decode cX9_bestYard 21 = .ok (.iload_n 1, 1) := by decide +kernel
theorem dX9_bestYard_22 : decode cX9_bestYard 22 = .ok (.iconst (-1), 1) := by decide +kernel
theorem dX9_bestYard_23 : decode cX9_bestYard 23 = .ok (.if_icmp .eq 18, 3) := by decide +kernel
theorem dX9_bestYard_26 : decode cX9_bestYard 26 = .ok (.aload_n 0, 1) := by decide +kernel
theorem dX9_bestYard_27 : decode cX9_bestYard 27 = .ok (.getfield 47, 3) := by decide +kernel
theorem dX9_bestYard_30 : decode cX9_bestYard 30 = .ok (.iload_n 2, 1) := by decide +kernel
theorem dX9_bestYard_31 : decode cX9_bestYard 31 = .ok (.iaload, 1) := by decide +kernel
theorem dX9_bestYard_32 : decode cX9_bestYard 32 = .ok (.aload_n 0, 1) := by decide +kernel
theorem dX9_bestYard_33 : decode cX9_bestYard 33 = .ok (.getfield 47, 3) := by decide +kernel
theorem dX9_bestYard_36 : decode cX9_bestYard 36 = .ok (.iload_n 1, 1) := by decide +kernel
theorem dX9_bestYard_37 : decode cX9_bestYard 37 = .ok (.iaload, 1) := by decide +kernel
theorem dX9_bestYard_38 : decode cX9_bestYard 38 = .ok (.if_icmp .le 5, 3) := by decide +kernel
theorem dX9_bestYard_41 : decode cX9_bestYard 41 = .ok (.iload_n 2, 1) := by decide +kernel
theorem dX9_bestYard_42 : decode cX9_bestYard 42 = .ok (.istore_n 1, 1) := by decide +kernel
theorem dX9_bestYard_43 : decode cX9_bestYard 43 = .ok (.iinc 2 1, 3) := by decide +kernel
theorem dX9_bestYard_46 : decode cX9_bestYard 46 = .ok (.goto (-42), 3) := by decide +kernel
theorem dX9_bestYard_49 : decode cX9_bestYard 49 = .ok (.iload_n 1, 1) := by decide +kernel
theorem dX9_bestYard_50 : decode cX9_bestYard 50 = .ok (.ireturn, 1) := by decide +kernel
theorem dX9_sellAll_0 : decode cX9_sellAll 0 = .ok (.iconst 0, 1) := by decide +kernel
theorem dX9_sellAll_1 : decode cX9_sellAll 1 = .ok (.istore_n 1, 1) := by decide +kernel
theorem dX9_sellAll_2 : decode cX9_sellAll 2 = .ok (.iload_n 1, 1) := by decide +kernel
theorem dX9_sellAll_3 : decode cX9_sellAll 3 = .ok (.aload_n 0, 1) := by decide +kernel
theorem dX9_sellAll_4 : decode cX9_sellAll 4 = .ok (.getfield 140, 3) := by decide +kernel
theorem dX9_sellAll_7 : decode cX9_sellAll 7 = .ok (.if_icmp .ge 21, 3) := by decide +kernel
theorem dX9_sellAll_10 : decode cX9_sellAll 10 = .ok (.aload_n 0, 1) := by decide +kernel
theorem dX9_sellAll_11 : decode cX9_sellAll 11 = .ok (.getfield 102, 3) := by decide +kernel
theorem dX9_sellAll_14 : decode cX9_sellAll 14 = .ok (.iload_n 1, 1) := by decide +kernel
theorem dX9_sellAll_15 : decode cX9_sellAll 15 = .ok (.aload_n 0, 1) := by decide +kernel
theorem dX9_sellAll_16 : decode cX9_sellAll 16 = .ok (.getfield 44, 3) := by decide +kernel
theorem dX9_sellAll_19 : decode cX9_sellAll 19 = .ok (.iload_n 1, 1) := by decide +kernel
theorem dX9_sellAll_20 : decode cX9_sellAll 20 = .ok (.iaload, 1) := by decide +kernel
theorem dX9_sellAll_21 : decode cX9_sellAll 21 = .ok (.iastore, 1) := by decide +kernel
theorem dX9_sellAll_22 : decode cX9_sellAll 22 = .ok (.iinc 1 1, 3) := by decide +kernel
theorem dX9_sellAll_25 : decode cX9_sellAll 25 = .ok (.goto (-23), 3) := by decide +kernel
theorem dX9_sellAll_28 : decode cX9_sellAll 28 = .ok (.iconst 0, 1) := by decide +kernel
theorem dX9_sellAll_29 : decode cX9_sellAll 29 = .ok (.istore_n 1, 1) := by decide +kernel
theorem dX9_sellAll_30 : decode cX9_sellAll 30 = .ok (.iload_n 1, 1) := by decide +kernel
theorem dX9_sellAll_31 : decode cX9_sellAll 31 = .ok (.aload_n 0, 1) := by decide +kernel
theorem dX9_sellAll_32 : decode cX9_sellAll 32 = .ok (.getfield 126, 3) := by decide +kernel
theorem dX9_sellAll_35 : decode cX9_sellAll 35 = .ok (.if_icmp .ge 16, 3) := by decide +kernel
theorem dX9_sellAll_38 : decode cX9_sellAll 38 = .ok (.aload_n 0, 1) := by decide +kernel
theorem dX9_sellAll_39 : decode cX9_sellAll 39 = .ok (.getfield 105, 3) := by decide +kernel
theorem dX9_sellAll_42 : decode cX9_sellAll 42 = .ok (.iload_n 1, 1) := by decide +kernel
theorem dX9_sellAll_43 : decode cX9_sellAll 43 = .ok (.iconst 0, 1) := by decide +kernel
theorem dX9_sellAll_44 : decode cX9_sellAll 44 = .ok (.bastore, 1) := by decide +kernel
theorem dX9_sellAll_45 : decode cX9_sellAll 45 = .ok (.iinc 1 1, 3) := by decide +kernel
theorem dX9_sellAll_48 : decode cX9_sellAll 48 = .ok (.goto (-18), 3) := by decide +kernel
theorem dX9_sellAll_51 : decode cX9_sellAll 51 = .ok (.aload_n 0, 1) := by decide +kernel
theorem dX9_sellAll_52 : decode cX9_sellAll 52 = .ok (.invokevirtual 166, 3) := by decide +kernel
theorem dX9_sellAll_55 : decode cX9_sellAll 55 = .ok (.istore_n 1, 1) := by decide +kernel
theorem dX9_sellAll_56 : decode cX9_sellAll 56 = .ok (.iload_n 1, 1) := by decide +kernel
theorem dX9_sellAll_57 : decode cX9_sellAll 57 = .ok (.iconst (-1), 1) := by decide +kernel
theorem dX9_sellAll_58 : decode cX9_sellAll 58 = .ok (.if_icmp .eq 92, 3) := by decide +kernel
theorem dX9_sellAll_61 : decode cX9_sellAll 61 = .ok (.aload_n 0, 1) := by decide +kernel
theorem dX9_sellAll_62 : decode cX9_sellAll 62 = .ok (.getfield 105, 3) := by decide +kernel
theorem dX9_sellAll_65 : decode cX9_sellAll 65 = .ok (.iload_n 1, 1) := by decide +kernel
theorem dX9_sellAll_66 : decode cX9_sellAll 66 = .ok (.iconst 1, 1) := by decide +kernel
theorem dX9_sellAll_67 : decode cX9_sellAll 67 = .ok (.bastore, 1) := by decide +kernel
theorem dX9_sellAll_68 : decode cX9_sellAll 68 = .ok (.aload_n 0, 1) := by decide +kernel
theorem dX9_sellAll_69 : decode cX9_sellAll 69 = .ok (.getfield 26, 3) := by decide +kernel
theorem dX9_sellAll_72 : decode cX9_sellAll 72 = .ok (.iload_n 1, 1) := by decide +kernel
theorem dX9_sellAll_73 : decode cX9_sellAll 73 = .ok (.iaload, 1) := by decide +kernel
theorem dX9_sellAll_74 : decode cX9_sellAll 74 = .ok (.istore_n 2, 1) := by decide +kernel
theorem dX9_sellAll_75 : decode cX9_sellAll 75 = .ok (.aload_n 0, 1) := by decide +kernel
theorem dX9_sellAll_76 : decode cX9_sellAll 76 = .ok (.invokevirtual 170, 3) := by decide +kernel
theorem dX9_sellAll_79 : decode cX9_sellAll 79 = .ok (.istore_n 3, 1) := by decide +kernel
theorem dX9_sellAll_80 : decode cX9_sellAll 80 = .ok (.iload_n 2, 1) := by decide +kernel
theorem dX9_sellAll_81 : decode cX9_sellAll 81 = .ok (.ifCond .le 51, 3) := by decide +kernel
theorem dX9_sellAll_84 : decode cX9_sellAll 84 = .ok (.iload_n 3, 1) := by decide +kernel
theorem dX9_sellAll_85 : decode cX9_sellAll 85 = .ok (.iconst (-1), 1) := by decide +kernel
theorem dX9_sellAll_86 : decode cX9_sellAll 86 = .ok (.if_icmp .eq 46, 3) := by decide +kernel
theorem dX9_sellAll_89 : decode cX9_sellAll 89 = .ok (.aload_n 0, 1) := by decide +kernel
theorem dX9_sellAll_90 : decode cX9_sellAll 90 = .ok (.getfield 173, 3) := by decide +kernel
theorem dX9_sellAll_93 : decode cX9_sellAll 93 = .ok (.sipush 400, 3) := by decide +kernel
theorem dX9_sellAll_96 : decode cX9_sellAll 96 = .ok (.if_icmp .ge 36, 3) := by decide +kernel
theorem dX9_sellAll_99 : decode cX9_sellAll 99 = .ok (.iload_n 2, 1) := by decide +kernel
theorem dX9_sellAll_100 : decode cX9_sellAll 100 = .ok (.aload_n 0, 1) := by decide +kernel
theorem dX9_sellAll_101 : decode cX9_sellAll 101 = .ok (.getfield 102, 3) := by decide +kernel
theorem dX9_sellAll_104 : decode cX9_sellAll 104 = .ok (.iload_n 3, 1) := by decide +kernel
theorem dX9_sellAll_105 : decode cX9_sellAll 105 = .ok (.iaload, 1) := by decide +kernel
theorem dX9_sellAll_106 : decode cX9_sellAll 106 = .ok (.invokestatic 143, 3) := by decide +kernel
theorem dX9_sellAll_109 : decode cX9_sellAll 109 = .ok (.istore 4, 2) := by decide +kernel
theorem dX9_sellAll_111 : decode cX9_sellAll 111 = .ok (.aload_n 0, 1) := by decide +kernel
theorem dX9_sellAll_112 : decode cX9_sellAll 112 = .ok (.iload_n 1, 1) := by decide +kernel
theorem dX9_sellAll_113 : decode cX9_sellAll 113 = .ok (.iload_n 3, 1) := by decide +kernel
theorem dX9_sellAll_114 : decode cX9_sellAll 114 = .ok (.iload 4, 2) := by decide +kernel
theorem dX9_sellAll_116 : decode cX9_sellAll 116 = .ok (.invokevirtual 176, 3) := by decide +kernel
theorem dX9_sellAll_119 : decode cX9_sellAll 119 = .ok (.iload_n 2, 1) := by decide +kernel
theorem dX9_sellAll_120 : decode cX9_sellAll 120 = .ok (.iload 4, 2) := by decide +kernel
theorem dX9_sellAll_122 : decode cX9_sellAll 122 = .ok (.isub, 1) := by decide +kernel
theorem dX9_sellAll_123 : decode cX9_sellAll 123 = .ok (.istore_n 2, 1) := by decide +kernel
theorem dX9_sellAll_124 : decode cX9_sellAll 124 = .ok (.aload_n 0, 1) := by decide +kernel
theorem dX9_sellAll_125 : decode cX9_sellAll 125 = .ok (.invokevirtual 170, 3) := by decide +kernel
theorem dX9_sellAll_128 : decode cX9_sellAll 128 = .ok (.istore_n 3, 1) := by decide +kernel
theorem dX9_sellAll_129 : decode cX9_sellAll 129 = .ok (.goto (-49), 3) := by decide +kernel
theorem dX9_sellAll_132 : decode cX9_sellAll 132 = .ok (.aload_n 0, 1) := by decide +kernel
theorem dX9_sellAll_133 : decode cX9_sellAll 133 = .ok (.dup, 1) := by decide +kernel
theorem dX9_sellAll_134 : decode cX9_sellAll 134 = .ok (.getfield 180, 3) := by decide +kernel
theorem dX9_sellAll_137 : decode cX9_sellAll 137 = .ok (.iload_n 2, 1) := by decide +kernel
theorem dX9_sellAll_138 : decode cX9_sellAll 138 = .ok (.iadd, 1) := by decide +kernel
theorem dX9_sellAll_139 : decode cX9_sellAll 139 = .ok (.putfield 180, 3) := by decide +kernel
theorem dX9_sellAll_142 : decode cX9_sellAll 142 = .ok (.aload_n 0, 1) := by decide +kernel
theorem dX9_sellAll_143 : decode cX9_sellAll 143 = .ok (.invokevirtual 166, 3) := by decide +kernel
theorem dX9_sellAll_146 : decode cX9_sellAll 146 = .ok (.istore_n 1, 1) := by decide +kernel
theorem dX9_sellAll_147 : decode cX9_sellAll 147 = .ok (.goto (-91), 3) := by decide +kernel
theorem dX9_sellAll_150 : decode cX9_sellAll 150 = .ok (.return_, 1) := by decide +kernel
theorem dX9_sell_0 : decode cX9_sell 0 = .ok (.aload_n 0, 1) := by decide +kernel
theorem dX9_sell_1 : decode cX9_sell 1 = .ok (.getfield 102, 3) := by decide +kernel
theorem dX9_sell_4 : decode cX9_sell 4 = .ok (.iload_n 2, 1) := by decide +kernel
theorem dX9_sell_5 : decode cX9_sell 5 = .ok (.dup2, 1) := by decide +kernel
theorem dX9_sell_6 : decode cX9_sell 6 = .ok (.iaload, 1) := by decide +kernel
theorem dX9_sell_7 : decode cX9_sell 7 = .ok (.iload_n 3, 1) := by decide +kernel
theorem dX9_sell_8 : decode cX9_sell 8 = .ok (.isub, 1) := by decide +kernel
theorem dX9_sell_9 : decode cX9_sell 9 = .ok (.iastore, 1) := by decide +kernel
theorem dX9_sell_10 : decode cX9_sell 10 = .ok (.aload_n 0, 1) := by decide +kernel
theorem dX9_sell_11 : decode cX9_sell 11 = .ok (.getfield 29, 3) := by decide +kernel
theorem dX9_sell_14 : decode cX9_sell 14 = .ok (.iload_n 1, 1) := by decide +kernel
theorem dX9_sell_15 : decode cX9_sell 15 = .ok (.dup2, 1) := by decide +kernel
theorem dX9_sell_16 : decode cX9_sell 16 = .ok (.iaload, 1) := by decide +kernel
theorem dX9_sell_17 : decode cX9_sell 17 = .ok (.iload_n 3, 1) := by decide +kernel
theorem dX9_sell_18 : decode cX9_sell 18 = .ok (.aload_n 0, 1) := by decide +kernel
theorem dX9_sell_19 : decode cX9_sell 19 = .ok (.getfield 47, 3) := by decide +kernel
theorem dX9_sell_22 : decode cX9_sell 22 = .ok (.iload_n 2, 1) := by decide +kernel
theorem dX9_sell_23 : decode cX9_sell 23 = .ok (.iaload, 1) := by decide +kernel
theorem dX9_sell_24 : decode cX9_sell 24 = .ok (.imul, 1) := by decide +kernel
theorem dX9_sell_25 : decode cX9_sell 25 = .ok (.iadd, 1) := by decide +kernel
theorem dX9_sell_26 : decode cX9_sell 26 = .ok (.iastore, 1) := by decide +kernel
theorem dX9_sell_27 : decode cX9_sell 27 = .ok (.aload_n 0, 1) := by decide +kernel
theorem dX9_sell_28 : decode cX9_sell 28 = .ok (.getfield 50, 3) := by decide +kernel
theorem dX9_sell_31 : decode cX9_sell 31 = .ok (.aload_n 0, 1) := by decide +kernel
theorem dX9_sell_32 : decode cX9_sell 32 = .ok (.getfield 173, 3) := by decide +kernel
theorem dX9_sell_35 : decode cX9_sell 35 = .ok (.aload_n 0, 1) := by decide +kernel
theorem dX9_sell_36 : decode cX9_sell 36 = .ok (.getfield 183, 3) := by decide +kernel
theorem dX9_sell_39 : decode cX9_sell 39 = .ok (.iastore, 1) := by decide +kernel
theorem dX9_sell_40 : decode cX9_sell 40 = .ok (.aload_n 0, 1) := by decide +kernel
theorem dX9_sell_41 : decode cX9_sell 41 = .ok (.getfield 53, 3) := by decide +kernel
theorem dX9_sell_44 : decode cX9_sell 44 = .ok (.aload_n 0, 1) := by decide +kernel
theorem dX9_sell_45 : decode cX9_sell 45 = .ok (.getfield 173, 3) := by decide +kernel
theorem dX9_sell_48 : decode cX9_sell 48 = .ok (.iload_n 1, 1) := by decide +kernel
theorem dX9_sell_49 : decode cX9_sell 49 = .ok (.iastore, 1) := by decide +kernel
theorem dX9_sell_50 : decode cX9_sell 50 = .ok (.aload_n 0, 1) := by decide +kernel
theorem dX9_sell_51 : decode cX9_sell 51 = .ok (.getfield 56, 3) := by decide +kernel
theorem dX9_sell_54 : decode cX9_sell 54 = .ok (.aload_n 0, 1) := by decide +kernel
theorem dX9_sell_55 : decode cX9_sell 55 = .ok (.getfield 173, 3) := by decide +kernel
theorem dX9_sell_58 : decode cX9_sell 58 = .ok (.aload_n 0, 1) := by decide +kernel
theorem dX9_sell_59 : decode cX9_sell 59 = .ok (.getfield 20, 3) := by decide +kernel
theorem dX9_sell_62 : decode cX9_sell 62 = .ok (.iload_n 1, 1) := by decide +kernel
theorem dX9_sell_63 : decode cX9_sell 63 = .ok (.iaload, 1) := by decide +kernel
theorem dX9_sell_64 : decode cX9_sell 64 = .ok (.iastore, 1) := by decide +kernel
theorem dX9_sell_65 : decode cX9_sell 65 = .ok (.aload_n 0, 1) := by decide +kernel
theorem dX9_sell_66 : decode cX9_sell 66 = .ok (.getfield 59, 3) := by decide +kernel
theorem dX9_sell_69 : decode cX9_sell 69 = .ok (.aload_n 0, 1) := by decide +kernel
theorem dX9_sell_70 : decode cX9_sell 70 = .ok (.getfield 173, 3) := by decide +kernel
theorem dX9_sell_73 : decode cX9_sell 73 = .ok (.iload_n 2, 1) := by decide +kernel
theorem dX9_sell_74 : decode cX9_sell 74 = .ok (.iastore, 1) := by decide +kernel
theorem dX9_sell_75 : decode cX9_sell 75 = .ok (.aload_n 0, 1) := by decide +kernel
theorem dX9_sell_76 : decode cX9_sell 76 = .ok (.getfield 62, 3) := by decide +kernel
theorem dX9_sell_79 : decode cX9_sell 79 = .ok (.aload_n 0, 1) := by decide +kernel
theorem dX9_sell_80 : decode cX9_sell 80 = .ok (.getfield 173, 3) := by decide +kernel
theorem dX9_sell_83 : decode cX9_sell 83 = .ok (.iload_n 3, 1) := by decide +kernel
theorem dX9_sell_84 : decode cX9_sell 84 = .ok (.iastore, 1) := by decide +kernel
theorem dX9_sell_85 : decode cX9_sell 85 = .ok (.aload_n 0, 1) := by decide +kernel
theorem dX9_sell_86 : decode cX9_sell 86 = .ok (.getfield 71, 3) := by decide +kernel
theorem dX9_sell_89 : decode cX9_sell 89 = .ok (.aload_n 0, 1) := by decide +kernel
theorem dX9_sell_90 : decode cX9_sell 90 = .ok (.getfield 173, 3) := by decide +kernel
theorem dX9_sell_93 : decode cX9_sell 93 = .ok (.aload_n 0, 1) := by decide +kernel
theorem dX9_sell_94 : decode cX9_sell 94 = .ok (.iload_n 1, 1) := by decide +kernel
theorem dX9_sell_95 : decode cX9_sell 95 = .ok (.invokevirtual 163, 3) := by decide +kernel
theorem dX9_sell_98 : decode cX9_sell 98 = .ok (.iastore, 1) := by decide +kernel
theorem dX9_sell_99 : decode cX9_sell 99 = .ok (.aload_n 0, 1) := by decide +kernel
theorem dX9_sell_100 : decode cX9_sell 100 = .ok (.getfield 74, 3) := by decide +kernel
theorem dX9_sell_103 : decode cX9_sell 103 = .ok (.aload_n 0, 1) := by decide +kernel
theorem dX9_sell_104 : decode cX9_sell 104 = .ok (.getfield 173, 3) := by decide +kernel
theorem dX9_sell_107 : decode cX9_sell 107 = .ok (.aload_n 0, 1) := by decide +kernel
theorem dX9_sell_108 : decode cX9_sell 108 = .ok (.getfield 47, 3) := by decide +kernel
theorem dX9_sell_111 : decode cX9_sell 111 = .ok (.iload_n 2, 1) := by decide +kernel
theorem dX9_sell_112 : decode cX9_sell 112 = .ok (.iaload, 1) := by decide +kernel
theorem dX9_sell_113 : decode cX9_sell 113 = .ok (.iastore, 1) := by decide +kernel
theorem dX9_sell_114 : decode cX9_sell 114 = .ok (.aload_n 0, 1) := by decide +kernel
theorem dX9_sell_115 : decode cX9_sell 115 = .ok (.dup, 1) := by decide +kernel
theorem dX9_sell_116 : decode cX9_sell 116 = .ok (.getfield 173, 3) := by decide +kernel
theorem dX9_sell_119 : decode cX9_sell 119 = .ok (.iconst 1, 1) := by decide +kernel
theorem dX9_sell_120 : decode cX9_sell 120 = .ok (.iadd, 1) := by decide +kernel
theorem dX9_sell_121 : decode cX9_sell 121 = .ok (.putfield 173, 3) := by decide +kernel
theorem dX9_sell_124 : decode cX9_sell 124 = .ok (.return_, 1) := by decide +kernel
theorem dX9_work_0 : decode cX9_work 0 = .ok (.iconst 0, 1) := by decide +kernel
theorem dX9_work_1 : decode cX9_work 1 = .ok (.istore_n 3, 1) := by decide +kernel
theorem dX9_work_2 : decode cX9_work 2 = .ok (.iload_n 3, 1) := by decide +kernel
theorem dX9_work_3 : decode cX9_work 3 = .ok (.aload_n 0, 1) := by decide +kernel
theorem dX9_work_4 : decode cX9_work 4 = .ok (.getfield 41, 3) := by decide +kernel
theorem dX9_work_7 : decode cX9_work 7 = .ok (.iload_n 1, 1) := by decide +kernel
theorem dX9_work_8 : decode cX9_work 8 = .ok (.iaload, 1) := by decide +kernel
theorem dX9_work_9 : decode cX9_work 9 = .ok (.if_icmp .ge 16, 3) := by decide +kernel
theorem dX9_work_12 : decode cX9_work 12 = .ok (.aload_n 0, 1) := by decide +kernel
theorem dX9_work_13 : decode cX9_work 13 = .ok (.getfield 108, 3) := by decide +kernel
theorem dX9_work_16 : decode cX9_work 16 = .ok (.iload_n 3, 1) := by decide +kernel
theorem dX9_work_17 : decode cX9_work 17 = .ok (.iconst 0, 1) := by decide +kernel
theorem dX9_work_18 : decode cX9_work 18 = .ok (.iastore, 1) := by decide +kernel
theorem dX9_work_19 : decode cX9_work 19 = .ok (.iinc 3 1, 3) := by decide +kernel
theorem dX9_work_22 : decode cX9_work 22 = .ok (.goto (-20), 3) := by decide +kernel
theorem dX9_work_25 : decode cX9_work 25 = .ok (.iload_n 2, 1) := by decide +kernel
theorem dX9_work_26 : decode cX9_work 26 = .ok (.istore_n 3, 1) := by decide +kernel
theorem dX9_work_27 : decode cX9_work 27 = .ok (.iload_n 3, 1) := by decide +kernel
theorem dX9_work_28 : decode cX9_work 28 = .ok (.aload_n 0, 1) := by decide +kernel
theorem dX9_work_29 : decode cX9_work 29 = .ok (.getfield 173, 3) := by decide +kernel
theorem dX9_work_32 : decode cX9_work 32 = .ok (.if_icmp .ge 209, 3) := by decide +kernel
theorem dX9_work_35 : decode cX9_work 35 = .ok (.iconst 0, 1) := by decide +kernel
theorem dX9_work_36 : decode cX9_work 36 = .ok (.istore 4, 2) := by decide +kernel
theorem dX9_work_38 : decode cX9_work 38 = .ok (.aload_n 0, 1) := by decide +kernel
theorem dX9_work_39 : decode cX9_work 39 = .ok (.getfield 59, 3) := by decide +kernel
theorem dX9_work_42 : decode cX9_work 42 = .ok (.iload_n 3, 1) := by decide +kernel
theorem dX9_work_43 : decode cX9_work 43 = .ok (.iaload, 1) := by decide +kernel
theorem dX9_work_44 : decode cX9_work 44 = .ok (.iload_n 1, 1) := by decide +kernel
theorem dX9_work_45 : decode cX9_work 45 = .ok (.if_icmp .ne 190, 3) := by decide +kernel
theorem dX9_work_48 : decode cX9_work 48 = .ok (.iload 4, 2) := by decide +kernel
theorem dX9_work_50 : decode cX9_work 50 = .ok (.aload_n 0, 1) := by decide +kernel
theorem dX9_work_51 : decode cX9_work 51 = .ok (.getfield 62, 3) := by decide +kernel
theorem dX9_work_54 : decode cX9_work 54 = .ok (.iload_n 3, 1) := by decide +kernel
theorem dX9_work_55 : decode cX9_work 55 = .ok (.iaload, 1) := by decide +kernel
theorem dX9_work_56 : decode cX9_work 56 = .ok (.if_icmp .ge 179, 3) := by decide +kernel
theorem dX9_work_59 : decode cX9_work 59 = .ok (.iconst 0, 1) := by decide +kernel
theorem dX9_work_60 : decode cX9_work 60 = .ok (.istore 5, 2) := by decide +kernel
theorem dX9_work_62 : decode cX9_work 62 = .ok (.iconst 1, 1) := by decide +kernel
theorem dX9_work_63 : decode cX9_work 63 = .ok (.istore 6, 2) := by decide +kernel
theorem dX9_work_65 : decode cX9_work 65 = .ok (.iload 6, 2) := by decide +kernel
theorem dX9_work_67 : decode cX9_work 67 = .ok (.aload_n 0, 1) := by decide +kernel
theorem dX9_work_68 : decode cX9_work 68 = .ok (.getfield 41, 3) := by decide +kernel
theorem dX9_work_71 : decode cX9_work 71 = .ok (.iload_n 1, 1) := by decide +kernel
theorem dX9_work_72 : decode cX9_work 72 = .ok (.iaload, 1) := by decide +kernel
theorem dX9_work_73 : decode cX9_work 73 = .ok (.if_icmp .ge 35, 3) := by decide +kernel
theorem dX9_work_76 : decode cX9_work 76 = .ok (.aload_n 0, 1) := by decide +kernel
theorem dX9_work_77 : decode cX9_work 77 = .ok (.getfield 108, 3) := by decide +kernel
theorem dX9_work_80 : decode cX9_work 80 = .ok (.iload 6, 2) := by decide +kernel
theorem dX9_work_82 : decode cX9_work 82 = .ok (.iaload, 1) := by decide +kernel
theorem dX9_work_83 : decode cX9_work 83 = .ok (.aload_n 0, 1) := by decide +kernel
theorem dX9_work_84 : decode cX9_work 84 = .ok (.getfield 108, 3) := by decide +kernel
theorem dX9_work_87 : decode cX9_work 87 = .ok (.iload 5, 2) := by decide +kernel
theorem dX9_work_89 : decode cX9_work 89 = .ok (.iaload, 1) := by decide +kernel
theorem dX9_work_90 : decode cX9_work 90 = .ok (.if_icmp .ge 8, 3) := by decide +kernel
theorem dX9_work_93 : decode cX9_work 93 = .ok (.iload 6, 2) := by decide +kernel
theorem dX9_work_95 : decode cX9_work 95 = .ok (.goto 5, 3) := by decide +kernel
theorem dX9_work_98 : decode cX9_work 98 = .ok (.iload 5, 2) := by decide +kernel
theorem dX9_work_100 : decode cX9_work 100 = .ok (.istore 5, 2) := by decide +kernel
theorem dX9_work_102 : decode cX9_work 102 = .ok (.iinc 6 1, 3) := by decide +kernel
theorem dX9_work_105 : decode cX9_work 105 = .ok (.goto (-40), 3) := by decide +kernel
theorem dX9_work_108 : decode cX9_work 108 = .ok (.aload_n 0, 1) := by decide +kernel
theorem dX9_work_109 : decode cX9_work 109 = .ok (.getfield 108, 3) := by decide +kernel
theorem dX9_work_112 : decode cX9_work 112 = .ok (.iload 5, 2) := by decide +kernel
theorem dX9_work_114 : decode cX9_work 114 = .ok (.iaload, 1) := by decide +kernel
theorem dX9_work_115 : decode cX9_work 115 = .ok (.aload_n 0, 1) := by decide +kernel
theorem dX9_work_116 : decode cX9_work 116 = .ok (.getfield 71, 3) := by decide +kernel
theorem dX9_work_119 : decode cX9_work 119 = .ok (.iload_n 3, 1) := by decide +kernel
theorem dX9_work_120 : decode cX9_work 120 = .ok (.iaload, 1) := by decide +kernel
theorem dX9_work_121 : decode cX9_work 121 = .ok (.invokestatic 160, 3) := by decide +kernel
theorem dX9_work_124 : decode cX9_work 124 = .ok (.istore 6, 2) := by decide +kernel
theorem dX9_work_126 : decode cX9_work 126 = .ok (.iload 6, 2) := by decide +kernel
theorem dX9_work_128 : decode cX9_work 128 = .ok (.aload_n 0, 1) := by decide +kernel
theorem dX9_work_129 : decode cX9_work 129 = .ok (.getfield 71, 3) := by decide +kernel
theorem dX9_work_132 : decode cX9_work 132 = .ok (.iload_n 3, 1) := by decide +kernel
theorem dX9_work_133 : decode cX9_work 133 = .ok (.iaload, 1) := by decide +kernel
theorem dX9_work_134 : decode cX9_work 134 = .ok (.isub, 1) := by decide +kernel
theorem dX9_work_135 : decode cX9_work 135 = .ok (.istore 7, 2) := by decide +kernel
theorem dX9_work_137 : decode cX9_work 137 = .ok (.iload 7, 2) := by decide +kernel
theorem dX9_work_139 : decode cX9_work 139 = .ok (.aload_n 0, 1) := by decide +kernel
theorem dX9_work_140 : decode cX9_work 140 = .ok (.getfield 83, 3) := by decide +kernel
theorem dX9_work_143 : decode cX9_work 143 = .ok (.if_icmp .le 26, 3) := by decide +kernel
theorem dX9_work_146 : decode cX9_work 146 = .ok (.aload_n 0, 1) := by decide +kernel
theorem dX9_work_147 : decode cX9_work 147 = .ok (.getfield 68, 3) := by decide +kernel
theorem dX9_work_150 : decode cX9_work 150 = .ok (.iload_n 3, 1) := by decide +kernel
theorem dX9_work_151 : decode cX9_work 151 = .ok (.dup2, 1) := by decide +kernel
theorem dX9_work_152 : decode cX9_work 152 = .ok (.iaload, 1) := by decide +kernel
theorem dX9_work_153 : decode cX9_work 153 = .ok (.iconst 1, 1) := by decide +kernel
theorem dX9_work_154 : decode cX9_work 154 = .ok (.iadd, 1) := by decide +kernel
theorem dX9_work_155 : decode cX9_work 155 = .ok (.iastore, 1) := by decide +kernel
theorem dX9_work_156 : decode cX9_work 156 = .ok (.aload_n 0, 1) := by decide +kernel
theorem dX9_work_157 : decode cX9_work 157 = .ok (.dup, 1) := by decide +kernel
theorem dX9_work_158 : decode cX9_work 158 = .ok (.getfield 186, 3) := by decide +kernel
theorem dX9_work_161 : decode cX9_work 161 = .ok (.iconst 1, 1) := by decide +kernel
theorem dX9_work_162 : decode cX9_work 162 = .ok (.iadd, 1) := by decide +kernel
theorem dX9_work_163 : decode cX9_work 163 = .ok (.putfield 186, 3) := by decide +kernel
theorem dX9_work_166 : decode cX9_work 166 = .ok (.goto 63, 3) := by decide +kernel
theorem dX9_work_169 : decode cX9_work 169 = .ok (.aload_n 0, 1) := by decide +kernel
theorem dX9_work_170 : decode cX9_work 170 = .ok (.getfield 108, 3) := by decide +kernel
theorem dX9_work_173 : decode cX9_work 173 = .ok (.iload 5, 2) := by decide +kernel
theorem dX9_work_175 : decode cX9_work 175 = .ok (.iload 6, 2) := by decide +kernel
theorem dX9_work_177 : decode cX9_work 177 = .ok (.bipush 12, 2) := by decide +kernel
theorem dX9_work_179 : decode cX9_work 179 = .ok (.iadd, 1) := by decide +kernel
theorem dX9_work_180 : decode cX9_work 180 = .ok (.iastore, 1) := by decide +kernel
theorem dX9_work_181 : decode cX9_work 181 = .ok (.aload_n 0, 1) := by decide +kernel
theorem dX9_work_182 : decode cX9_work 182 = .ok (.getfield 65, 3) := by decide +kernel
theorem dX9_work_185 : decode cX9_work 185 = .ok (.iload_n 3, 1) := by decide +kernel
theorem dX9_work_186 : decode cX9_work 186 = .ok (.dup2, 1) := by decide +kernel
theorem dX9_work_187 : decode cX9_work 187 = .ok (.iaload, 1) := by decide +kernel
theorem dX9_work_188 : decode cX9_work 188 = .ok (.iconst 1, 1) := by decide +kernel
theorem dX9_work_189 : decode cX9_work 189 = .ok (.iadd, 1) := by decide +kernel
theorem dX9_work_190 : decode cX9_work 190 = .ok (.iastore, 1) := by decide +kernel
theorem dX9_work_191 : decode cX9_work 191 = .ok (.aload_n 0, 1) := by decide +kernel
theorem dX9_work_192 : decode cX9_work 192 = .ok (.dup, 1) := by decide +kernel
theorem dX9_work_193 : decode cX9_work 193 = .ok (.getfield 189, 3) := by decide +kernel
theorem dX9_work_196 : decode cX9_work 196 = .ok (.iconst 1, 1) := by decide +kernel
theorem dX9_work_197 : decode cX9_work 197 = .ok (.iadd, 1) := by decide +kernel
theorem dX9_work_198 : decode cX9_work 198 = .ok (.putfield 189, 3) := by decide +kernel
theorem dX9_work_201 : decode cX9_work 201 = .ok (.aload_n 0, 1) := by decide +kernel
theorem dX9_work_202 : decode cX9_work 202 = .ok (.getfield 77, 3) := by decide +kernel
theorem dX9_work_205 : decode cX9_work 205 = .ok (.iload_n 3, 1) := by decide +kernel
theorem dX9_work_206 : decode cX9_work 206 = .ok (.aload_n 0, 1) := by decide +kernel
theorem dX9_work_207 : decode cX9_work 207 = .ok (.getfield 77, 3) := by decide +kernel
theorem dX9_work_210 : decode cX9_work 210 = .ok (.iload_n 3, 1) := by decide +kernel
theorem dX9_work_211 : decode cX9_work 211 = .ok (.iaload, 1) := by decide +kernel
theorem dX9_work_212 : decode cX9_work 212 = .ok (.iload 7, 2) := by decide +kernel
theorem dX9_work_214 : decode cX9_work 214 = .ok (.invokestatic 160, 3) := by decide +kernel
theorem dX9_work_217 : decode cX9_work 217 = .ok (.iastore, 1) := by decide +kernel
theorem dX9_work_218 : decode cX9_work 218 = .ok (.aload_n 0, 1) := by decide +kernel
theorem dX9_work_219 : decode cX9_work 219 = .ok (.getfield 80, 3) := by decide +kernel
theorem dX9_work_222 : decode cX9_work 222 = .ok (.iload_n 3, 1) := by decide +kernel
theorem dX9_work_223 : decode cX9_work 223 = .ok (.iload 6, 2) := by decide +kernel
theorem dX9_work_225 : decode cX9_work 225 = .ok (.bipush 12, 2) := by decide +kernel
theorem dX9_work_227 : decode cX9_work 227 = .ok (.iadd, 1) := by decide +kernel
theorem dX9_work_228 : decode cX9_work 228 = .ok (.iastore, 1) := by decide +kernel
theorem dX9_work_229 : decode cX9_work 229 = .ok (.iinc 4 1, 3) := by decide +kernel
theorem dX9_work_232 : decode cX9_work 232 = .ok (.goto (-194), 3) := by decide +kernel
theorem dX9_work_235 : decode cX9_work 235 = .ok (.iinc 3 1, 3) := by decide +kernel
theorem dX9_work_238 : decode cX9_work 238 = .ok (.goto (-211), 3) := by decide +kernel
theorem dX9_work_241 : decode cX9_work 241 = .ok (.return_, 1) := by decide +kernel
theorem dX9_night_0 : decode cX9_night 0 = .ok (.aload_n 0, 1) := by decide +kernel
theorem dX9_night_1 : decode cX9_night 1 = .ok (.getfield 183, 3) := by decide +kernel
theorem dX9_night_4 : decode cX9_night 4 = .ok (.sipush 300, 3) := by decide +kernel
theorem dX9_night_7 : decode cX9_night 7 = .ok (.if_icmp .ne 5, 3) := by decide +kernel
theorem dX9_night_10 : decode cX9_night 10 = .ok (.iconst (-1), 1) := by decide +kernel
theorem dX9_night_11 : decode cX9_night 11 = .ok (.ireturn, 1) := by decide +kernel
theorem dX9_night_12 : decode cX9_night 12 = .ok (.iconst 0, 1) := by decide +kernel
theorem dX9_night_13 : decode cX9_night 13 = .ok (.istore_n 2, 1) := by decide +kernel
theorem dX9_night_14 : decode cX9_night 14 = .ok (.iconst 0, 1) := by decide +kernel
theorem dX9_night_15 : decode cX9_night 15 = .ok (.istore_n 3, 1) := by decide +kernel
theorem dX9_night_16 : decode cX9_night 16 = .ok (.iload_n 3, 1) := by decide +kernel
theorem dX9_night_17 : decode cX9_night 17 = .ok (.aload_n 0, 1) := by decide +kernel
theorem dX9_night_18 : decode cX9_night 18 = .ok (.getfield 126, 3) := by decide +kernel
theorem dX9_night_21 : decode cX9_night 21 = .ok (.if_icmp .ge 16, 3) := by decide +kernel
theorem dX9_night_24 : decode cX9_night 24 = .ok (.aload_n 0, 1) := by decide +kernel
theorem dX9_night_25 : decode cX9_night 25 = .ok (.getfield 26, 3) := by decide +kernel
theorem dX9_night_28 : decode cX9_night 28 = .ok (.iload_n 3, 1) := by decide +kernel
theorem dX9_night_29 : decode cX9_night 29 = .ok (.iconst 0, 1) := by decide +kernel
theorem dX9_night_30 : decode cX9_night 30 = .ok (.iastore, 1) := by decide +kernel
theorem dX9_night_31 : decode cX9_night 31 = .ok (.iinc 3 1, 3) := by decide +kernel
theorem dX9_night_34 : decode cX9_night 34 = .ok (.goto (-18), 3) := by decide +kernel
theorem dX9_night_37 : decode cX9_night 37 = .ok (.iconst 0, 1) := by decide +kernel
theorem dX9_night_38 : decode cX9_night 38 = .ok (.istore_n 3, 1) := by decide +kernel
theorem dX9_night_39 : decode cX9_night 39 = .ok (.iload_n 3, 1) := by decide +kernel
theorem dX9_night_40 : decode cX9_night 40 = .ok (.bipush 36, 2) := by decide +kernel
theorem dX9_night_42 : decode cX9_night 42 = .ok (.if_icmp .ge 34, 3) := by decide +kernel
theorem dX9_night_45 : decode cX9_night 45 = .ok (.iload_n 2, 1) := by decide +kernel
theorem dX9_night_46 : decode cX9_night 46 = .ok (.iload_n 1, 1) := by decide +kernel
theorem dX9_night_47 : decode cX9_night 47 = .ok (.ifCond .eq 16, 3) := by decide +kernel
theorem dX9_night_50 : decode cX9_night 50 = .ok (.aload_n 0, 1) := by decide +kernel
theorem dX9_night_51 : decode cX9_night 51 = .ok (.getfield 13, 3) := by decide +kernel
theorem dX9_night_54 : decode cX9_night 54 = .ok (.iload_n 3, 1) := by decide +kernel
theorem dX9_night_55 : decode cX9_night 55 = .ok (.baload, 1) := by decide +kernel
theorem dX9_night_56 : decode cX9_night 56 = .ok (.ifCond .eq 7, 3) := by decide +kernel
theorem dX9_night_59 : decode cX9_night 59 = .ok (.iconst 0, 1) := by decide +kernel
theorem dX9_night_60 : decode cX9_night 60 = .ok (.goto 8, 3) := by decide +kernel
theorem dX9_night_63 : decode cX9_night 63 = .ok (.aload_n 0, 1) := by decide +kernel
theorem dX9_night_64 : decode cX9_night 64 = .ok (.iload_n 3, 1) := by decide +kernel
theorem dX9_night_65 : decode cX9_night 65 = .ok (.invokevirtual 192, 3) := by decide +kernel
theorem dX9_night_68 : decode cX9_night 68 = .ok (.iadd, 1) := by decide +kernel
theorem dX9_night_69 : decode cX9_night 69 = .ok (.istore_n 2, 1) := by decide +kernel
theorem dX9_night_70 : decode cX9_night 70 = .ok (.iinc 3 1, 3) := by decide +kernel
theorem dX9_night_73 : decode cX9_night 73 = .ok (.goto (-34), 3) := by decide +kernel
theorem dX9_night_76 : decode cX9_night 76 = .ok (.iload_n 1, 1) := by decide +kernel
theorem dX9_night_77 : decode cX9_night 77 = .ok (.ifCond .eq 7, 3) := by decide +kernel
theorem dX9_night_80 : decode cX9_night 80 = .ok (.aload_n 0, 1) := by decide +kernel
theorem dX9_night_81 : decode cX9_night 81 = .ok (.invokevirtual 195, 3) := by decide +kernel
theorem dX9_night_84 : decode cX9_night 84 = .ok (.aload_n 0, 1) := by decide +kernel
theorem dX9_night_85 : decode cX9_night 85 = .ok (.dup, 1) := by decide +kernel
theorem dX9_night_86 : decode cX9_night 86 = .ok (.getfield 198, 3) := by decide +kernel
theorem dX9_night_89 : decode cX9_night 89 = .ok (.iload_n 2, 1) := by decide +kernel
theorem dX9_night_90 : decode cX9_night 90 = .ok (.iadd, 1) := by decide +kernel
theorem dX9_night_91 : decode cX9_night 91 = .ok (.putfield 198, 3) := by decide +kernel
theorem dX9_night_94 : decode cX9_night 94 = .ok (.aload_n 0, 1) := by decide +kernel
theorem dX9_night_95 : decode cX9_night 95 = .ok (.invokevirtual 201, 3) := by decide +kernel
theorem dX9_night_98 : decode cX9_night 98 = .ok (.aload_n 0, 1) := by decide +kernel
theorem dX9_night_99 : decode cX9_night 99 = .ok (.getfield 173, 3) := by decide +kernel
theorem dX9_night_102 : decode cX9_night 102 = .ok (.istore_n 3, 1) := by decide +kernel
theorem dX9_night_103 : decode cX9_night 103 = .ok (.aload_n 0, 1) := by decide +kernel
theorem dX9_night_104 : decode cX9_night 104 = .ok (.invokevirtual 204, 3) := by decide +kernel
theorem dX9_night_107 : decode cX9_night 107 = .ok (.iconst 0, 1) := by decide +kernel
theorem dX9_night_108 : decode cX9_night 108 = .ok (.istore 4, 2) := by decide +kernel
theorem dX9_night_110 : decode cX9_night 110 = .ok (.iload 4, 2) := by decide +kernel
theorem dX9_night_112 : decode cX9_night 112 = .ok (.aload_n 0, 1) := by decide +kernel
theorem dX9_night_113 : decode cX9_night 113 = .ok (.getfield 140, 3) := by decide +kernel
theorem dX9_night_116 : decode cX9_night 116 = .ok (.if_icmp .ge 16, 3) := by decide +kernel
theorem dX9_night_119 : decode cX9_night 119 = .ok (.aload_n 0, 1) := by decide +kernel
theorem dX9_night_120 : decode cX9_night 120 = .ok (.iload 4, 2) := by decide +kernel
theorem dX9_night_122 : decode cX9_night 122 = .ok (.iload_n 3, 1) := by decide +kernel
theorem dX9_night_123 : decode cX9_night 123 = .ok (.invokevirtual 207, 3) := by decide +kernel
theorem dX9_night_126 : decode cX9_night 126 = .ok (.iinc 4 1, 3) := by decide +kernel
theorem dX9_night_129 : decode cX9_night 129 = .ok (.goto (-19), 3) := by decide +kernel
theorem dX9_night_132 : decode cX9_night 132 = .ok (.aload_n 0, 1) := by decide +kernel
theorem dX9_night_133 : decode cX9_night 133 = .ok (.dup, 1) := by decide +kernel
theorem dX9_night_134 : decode cX9_night 134 = .ok (.getfield 183, 3) := by decide +kernel
theorem dX9_night_137 : decode cX9_night 137 = .ok (.iconst 1, 1) := by decide +kernel
theorem dX9_night_138 : decode cX9_night 138 = .ok (.iadd, 1) := by decide +kernel
theorem dX9_night_139 : decode cX9_night 139 = .ok (.putfield 183, 3) := by decide +kernel
theorem dX9_night_142 : decode cX9_night 142 = .ok (.iload_n 2, 1) := by decide +kernel
theorem dX9_night_143 : decode cX9_night 143 = .ok (.ireturn, 1) := by decide +kernel
theorem dX9_byteOf_0 : decode cX9_byteOf 0 = .ok (.iload 5, 2) := by decide +kernel
theorem dX9_byteOf_2 : decode cX9_byteOf 2 = .ok (.iconst 4, 1) := by decide +kernel
theorem dX9_byteOf_3 : decode cX9_byteOf 3 = .ok (.if_icmp .ge 7, 3) := by decide +kernel
theorem dX9_byteOf_6 : decode cX9_byteOf 6 = .ok (.iload_n 0, 1) := by decide +kernel
theorem dX9_byteOf_7 : decode cX9_byteOf 7 = .ok (.goto 38, 3) := by decide +kernel
theorem dX9_byteOf_10 : decode cX9_byteOf 10 = .ok (.iload 5, 2) := by decide +kernel
theorem dX9_byteOf_12 : decode cX9_byteOf 12 = .ok (.bipush 8, 2) := by decide +kernel
theorem dX9_byteOf_14 : decode cX9_byteOf 14 = .ok (.if_icmp .ge 7, 3) := by decide +kernel
theorem dX9_byteOf_17 : decode cX9_byteOf 17 = .ok (.iload_n 1, 1) := by decide +kernel
theorem dX9_byteOf_18 : decode cX9_byteOf 18 = .ok (.goto 27, 3) := by decide +kernel
theorem dX9_byteOf_21 : decode cX9_byteOf 21 = .ok (.iload 5, 2) := by decide +kernel
theorem dX9_byteOf_23 : decode cX9_byteOf 23 = .ok (.bipush 12, 2) := by decide +kernel
theorem dX9_byteOf_25 : decode cX9_byteOf 25 = .ok (.if_icmp .ge 7, 3) := by decide +kernel
theorem dX9_byteOf_28 : decode cX9_byteOf 28 = .ok (.iload_n 2, 1) := by decide +kernel
theorem dX9_byteOf_29 : decode cX9_byteOf 29 = .ok (.goto 16, 3) := by decide +kernel
theorem dX9_byteOf_32 : decode cX9_byteOf 32 = .ok (.iload 5, 2) := by decide +kernel
theorem dX9_byteOf_34 : decode cX9_byteOf 34 = .ok (.bipush 16, 2) := by decide +kernel
theorem dX9_byteOf_36 : decode cX9_byteOf 36 = .ok (.if_icmp .ge 7, 3) := by decide +kernel
theorem dX9_byteOf_39 : decode cX9_byteOf 39 = .ok (.iload_n 3, 1) := by decide +kernel
theorem dX9_byteOf_40 : decode cX9_byteOf 40 = .ok (.goto 5, 3) := by decide +kernel
theorem dX9_byteOf_43 : decode cX9_byteOf 43 = .ok (.iload 4, 2) := by decide +kernel
theorem dX9_byteOf_45 : decode cX9_byteOf 45 = .ok (.istore 6, 2) := by decide +kernel
theorem dX9_byteOf_47 : decode cX9_byteOf 47 = .ok (.iload 6, 2) := by decide +kernel
theorem dX9_byteOf_49 : decode cX9_byteOf 49 = .ok (.bipush 24, 2) := by decide +kernel
theorem dX9_byteOf_51 : decode cX9_byteOf 51 = .ok (.bipush 8, 2) := by decide +kernel
theorem dX9_byteOf_53 : decode cX9_byteOf 53 = .ok (.iload 5, 2) := by decide +kernel
theorem dX9_byteOf_55 : decode cX9_byteOf 55 = .ok (.iconst 4, 1) := by decide +kernel
theorem dX9_byteOf_56 : decode cX9_byteOf 56 = .ok (.irem, 1) := by decide +kernel
theorem dX9_byteOf_57 : decode cX9_byteOf 57 = .ok (.imul, 1) := by decide +kernel
theorem dX9_byteOf_58 : decode cX9_byteOf 58 = .ok (.isub, 1) := by decide +kernel
theorem dX9_byteOf_59 : decode cX9_byteOf 59 = .ok (.ishr, 1) := by decide +kernel
theorem dX9_byteOf_60 : decode cX9_byteOf 60 = .ok (.sipush 255, 3) := by decide +kernel
theorem dX9_byteOf_63 : decode cX9_byteOf 63 = .ok (.iand, 1) := by decide +kernel
theorem dX9_byteOf_64 : decode cX9_byteOf 64 = .ok (.ireturn, 1) := by decide +kernel
theorem dX9_feed_0 : decode cX9_feed 0 = .ok (.iconst 0, 1) := by decide +kernel
theorem dX9_feed_1 : decode cX9_feed 1 = .ok (.istore 6, 2) := by decide +kernel
theorem dX9_feed_3 : decode cX9_feed 3 = .ok (.iconst 0, 1) := by decide +kernel
theorem dX9_feed_4 : decode cX9_feed 4 = .ok (.istore 7, 2) := by decide +kernel
theorem dX9_feed_6 : decode cX9_feed 6 = .ok (.iload 7, 2) := by decide +kernel
theorem dX9_feed_8 : decode cX9_feed 8 = .ok (.bipush 20, 2) := by decide +kernel
theorem dX9_feed_10 : decode cX9_feed 10 = .ok (.if_icmp .ge 34, 3) := by decide +kernel
theorem dX9_feed_13 : decode cX9_feed 13 = .ok (.iload 6, 2) := by decide +kernel
theorem dX9_feed_15 : decode cX9_feed 15 = .ok (.iload_n 1, 1) := by decide +kernel
theorem dX9_feed_16 : decode cX9_feed 16 = .ok (.iload_n 2, 1) := by decide +kernel
theorem dX9_feed_17 : decode cX9_feed 17 = .ok (.iload_n 3, 1) := by decide +kernel
theorem dX9_feed_18 : decode cX9_feed 18 = .ok (.iload 4, 2) := by decide +kernel
theorem dX9_feed_20 : decode cX9_feed 20 = .ok (.iload 5, 2) := by decide +kernel
theorem dX9_feed_22 : decode cX9_feed 22 = .ok (.iload 7, 2) := by decide +kernel
theorem dX9_feed_24 : decode cX9_feed 24 = .ok (.invokestatic 211, 3) := by decide +kernel
theorem dX9_feed_27 : decode cX9_feed 27 = .ok (.ifCond .eq 7, 3) := by decide +kernel
theorem dX9_feed_30 : decode cX9_feed 30 = .ok (.iconst 1, 1) := by decide +kernel
theorem dX9_feed_31 : decode cX9_feed 31 = .ok (.goto 4, 3) := by decide +kernel
theorem dX9_feed_34 : decode cX9_feed 34 = .ok (.iconst 0, 1) := by decide +kernel
theorem dX9_feed_35 : decode cX9_feed 35 = .ok (.iadd, 1) := by decide +kernel
theorem dX9_feed_36 : decode cX9_feed 36 = .ok (.istore 6, 2) := by decide +kernel
theorem dX9_feed_38 : decode cX9_feed 38 = .ok (.iinc 7 1, 3) := by decide +kernel
theorem dX9_feed_41 : decode cX9_feed 41 = .ok (.goto (-35), 3) := by decide +kernel
theorem dX9_feed_44 : decode cX9_feed 44 = .ok (.aload_n 0, 1) := by decide +kernel
theorem dX9_feed_45 : decode cX9_feed 45 = .ok (.getfield 215, 3) := by decide +kernel
theorem dX9_feed_48 : decode cX9_feed 48 = .ok (.iload 6, 2) := by decide +kernel
theorem dX9_feed_50 : decode cX9_feed 50 = .ok (.iadd, 1) := by decide +kernel
theorem dX9_feed_51 : decode cX9_feed 51 = .ok (.sipush 200, 3) := by decide +kernel
theorem dX9_feed_54 : decode cX9_feed 54 = .ok (.if_icmp .le 5, 3) := by decide +kernel
theorem dX9_feed_57 : decode cX9_feed 57 = .ok (.iconst (-1), 1) := by decide +kernel
theorem dX9_feed_58 : decode cX9_feed 58 = .ok (.ireturn, 1) := by decide +kernel
theorem dX9_feed_59 : decode cX9_feed 59 = .ok (.iconst 0, 1) := by decide +kernel
theorem dX9_feed_60 : decode cX9_feed 60 = .ok (.istore 7, 2) := by decide +kernel
theorem dX9_feed_62 : decode cX9_feed 62 = .ok (.iload 7, 2) := by decide +kernel
theorem dX9_feed_64 : decode cX9_feed 64 = .ok (.bipush 20, 2) := by decide +kernel
theorem dX9_feed_66 : decode cX9_feed 66 = .ok (.if_icmp .ge 49, 3) := by decide +kernel
theorem dX9_feed_69 : decode cX9_feed 69 = .ok (.iload_n 1, 1) := by decide +kernel
theorem dX9_feed_70 : decode cX9_feed 70 = .ok (.iload_n 2, 1) := by decide +kernel
theorem dX9_feed_71 : decode cX9_feed 71 = .ok (.iload_n 3, 1) := by decide +kernel
theorem dX9_feed_72 : decode cX9_feed 72 = .ok (.iload 4, 2) := by decide +kernel
theorem dX9_feed_74 : decode cX9_feed 74 = .ok (.iload 5, 2) := by decide +kernel
theorem dX9_feed_76 : decode cX9_feed 76 = .ok (.iload 7, 2) := by decide +kernel
theorem dX9_feed_78 : decode cX9_feed 78 = .ok (.invokestatic 211, 3) := by decide +kernel
theorem dX9_feed_81 : decode cX9_feed 81 = .ok (.istore 8, 2) := by decide +kernel
theorem dX9_feed_83 : decode cX9_feed 83 = .ok (.iload 8, 2) := by decide +kernel
theorem dX9_feed_85 : decode cX9_feed 85 = .ok (.ifCond .eq 24, 3) := by decide +kernel
theorem dX9_feed_88 : decode cX9_feed 88 = .ok (.aload_n 0, 1) := by decide +kernel
theorem dX9_feed_89 : decode cX9_feed 89 = .ok (.getfield 111, 3) := by decide +kernel
theorem dX9_feed_92 : decode cX9_feed 92 = .ok (.aload_n 0, 1) := by decide +kernel
theorem dX9_feed_93 : decode cX9_feed 93 = .ok (.getfield 215, 3) := by decide +kernel
theorem dX9_feed_96 : decode cX9_feed 96 = .ok (.iload 8, 2) := by decide +kernel
theorem dX9_feed_98 : decode cX9_feed 98 = .ok (.iastore, 1) := by decide +kernel
theorem dX9_feed_99 : decode cX9_feed 99 = .ok (.aload_n 0, 1) := by decide +kernel
theorem dX9_feed_100 : decode cX9_feed 100 = .ok (.dup, 1) := by decide +kernel
theorem dX9_feed_101 : decode cX9_feed 101 = .ok (.getfield 215, 3) := by decide +kernel
theorem dX9_feed_104 : decode cX9_feed 104 = .ok (.iconst 1, 1) := by decide +kernel
theorem dX9_feed_105 : decode cX9_feed 105 = .ok (.iadd, 1) := by decide +kernel
theorem dX9_feed_106 : decode cX9_feed 106 = .ok (.putfield 215, 3) := by decide +kernel
theorem dX9_feed_109 : decode cX9_feed 109 = .ok (.iinc 7 1, 3) := by decide +kernel
theorem dX9_feed_112 : decode cX9_feed 112 = .ok (.goto (-50), 3) := by decide +kernel
theorem dX9_feed_115 : decode cX9_feed 115 = .ok (.aload_n 0, 1) := by decide +kernel
theorem dX9_feed_116 : decode cX9_feed 116 = .ok (.getfield 215, 3) := by decide +kernel
theorem dX9_feed_119 : decode cX9_feed 119 = .ok (.ireturn, 1) := by decide +kernel
theorem dX9_end_0 : decode cX9_end 0 = .ok (.iload_n 1, 1) := by decide +kernel
theorem dX9_end_1 : decode cX9_end 1 = .ok (.ifCond .lt 11, 3) := by decide +kernel
theorem dX9_end_4 : decode cX9_end 4 = .ok (.iload_n 1, 1) := by decide +kernel
theorem dX9_end_5 : decode cX9_end 5 = .ok (.aload_n 0, 1) := by decide +kernel
theorem dX9_end_6 : decode cX9_end 6 = .ok (.getfield 215, 3) := by decide +kernel
theorem dX9_end_9 : decode cX9_end 9 = .ok (.if_icmp .le 5, 3) := by decide +kernel
theorem dX9_end_12 : decode cX9_end 12 = .ok (.iconst 0, 1) := by decide +kernel
theorem dX9_end_13 : decode cX9_end 13 = .ok (.ireturn, 1) := by decide +kernel
theorem dX9_end_14 : decode cX9_end 14 = .ok (.aload_n 0, 1) := by decide +kernel
theorem dX9_end_15 : decode cX9_end 15 = .ok (.iload_n 1, 1) := by decide +kernel
theorem dX9_end_16 : decode cX9_end 16 = .ok (.putfield 215, 3) := by decide +kernel
theorem dX9_end_19 : decode cX9_end 19 = .ok (.iconst 1, 1) := by decide +kernel
theorem dX9_end_20 : decode cX9_end 20 = .ok (.ireturn, 1) := by decide +kernel
theorem dX9_look_0 : decode cX9_look 0 = .ok (.aload_n 0, 1) := by decide +kernel
theorem dX9_look_1 : decode cX9_look 1 = .ok (.getfield 218, 3) := by decide +kernel
theorem dX9_look_4 : decode cX9_look 4 = .ok (.aload_n 0, 1) := by decide +kernel
theorem dX9_look_5 : decode cX9_look 5 = .ok (.getfield 215, 3) := by decide +kernel
theorem dX9_look_8 : decode cX9_look 8 = .ok (.if_icmp .ge 30, 3) := by decide +kernel
theorem dX9_look_11 : decode cX9_look 11 = .ok (.aload_n 0, 1) := by decide +kernel
theorem dX9_look_12 : decode cX9_look 12 = .ok (.getfield 111, 3) := by decide +kernel
theorem dX9_look_15 : decode cX9_look 15 = .ok (.aload_n 0, 1) := by decide +kernel
theorem dX9_look_16 : decode cX9_look 16 = .ok (.getfield 218, 3) := by decide +kernel
theorem dX9_look_19 : decode cX9_look 19 = .ok (.iaload, 1) := by decide +kernel
theorem dX9_look_20 : decode cX9_look 20 = .ok (.bipush 32, 2) := by decide +kernel
theorem dX9_look_22 : decode cX9_look 22 = .ok (.if_icmp .ne 16, 3) := by decide +kernel
theorem dX9_look_25 : decode cX9_look 25 = .ok (.aload_n 0, 1) := by decide +kernel
theorem dX9_look_26 : decode cX9_look 26 = .ok (.dup, 1) := by decide +kernel
theorem dX9_look_27 : decode cX9_look 27 = .ok (.getfield 218, 3) := by decide +kernel
theorem dX9_look_30 : decode cX9_look 30 = .ok (.iconst 1, 1) := by decide +kernel
theorem dX9_look_31 : decode cX9_look 31 = .ok (.iadd, 1) := by decide +kernel
theorem dX9_look_32 : decode cX9_look 32 = .ok (.putfield 218, 3) := by decide +kernel
theorem dX9_look_35 : decode cX9_look 35 = .ok (.goto (-35), 3) := by decide +kernel
theorem dX9_look_38 : decode cX9_look 38 = .ok (.aload_n 0, 1) := by decide +kernel
theorem dX9_look_39 : decode cX9_look 39 = .ok (.getfield 218, 3) := by decide +kernel
theorem dX9_look_42 : decode cX9_look 42 = .ok (.aload_n 0, 1) := by decide +kernel
theorem dX9_look_43 : decode cX9_look 43 = .ok (.getfield 215, 3) := by decide +kernel
theorem dX9_look_46 : decode cX9_look 46 = .ok (.if_icmp .ge 15, 3) := by decide +kernel
theorem dX9_look_49 : decode cX9_look 49 = .ok (.aload_n 0, 1) := by decide +kernel
theorem dX9_look_50 : decode cX9_look 50 = .ok (.getfield 111, 3) := by decide +kernel
theorem dX9_look_53 : decode cX9_look 53 = .ok (.aload_n 0, 1) := by decide +kernel
theorem dX9_look_54 : decode cX9_look 54 = .ok (.getfield 218, 3) := by decide +kernel
theorem dX9_look_57 : decode cX9_look 57 = .ok (.iaload, 1) := by decide +kernel
theorem dX9_look_58 : decode cX9_look 58 = .ok (.goto 4, 3) := by decide +kernel
theorem dX9_look_61 : decode cX9_look 61 = .ok (.iconst (-1), 1) := by decide +kernel
theorem dX9_look_62 : decode cX9_look 62 = .ok (.ireturn, 1) := by decide +kernel
theorem dX9_fail_0 : decode cX9_fail 0 = .ok (.aload_n 0, 1) := by decide +kernel
theorem dX9_fail_1 : decode cX9_fail 1 = .ok (.aload_n 0, 1) := by decide +kernel
theorem dX9_fail_2 : decode cX9_fail 2 = .ok (.getfield 221, 3) := by decide +kernel
theorem dX9_fail_5 : decode cX9_fail 5 = .ok (.iconst (-1), 1) := by decide +kernel
theorem dX9_fail_6 : decode cX9_fail 6 = .ok (.if_icmp .ne 10, 3) := by decide +kernel
theorem dX9_fail_9 : decode cX9_fail 9 = .ok (.aload_n 0, 1) := by decide +kernel
theorem dX9_fail_10 : decode cX9_fail 10 = .ok (.getfield 218, 3) := by decide +kernel
theorem dX9_fail_13 : decode cX9_fail 13 = .ok (.goto 7, 3) := by decide +kernel
theorem dX9_fail_16 : decode cX9_fail 16 = .ok (.aload_n 0, 1) := by decide +kernel
theorem dX9_fail_17 : decode cX9_fail 17 = .ok (.getfield 221, 3) := by decide +kernel
theorem dX9_fail_20 : decode cX9_fail 20 = .ok (.putfield 221, 3) := by decide +kernel
theorem dX9_fail_23 : decode cX9_fail 23 = .ok (.return_, 1) := by decide +kernel
theorem dX9_say_0 : decode cX9_say 0 = .ok (.aload_n 0, 1) := by decide +kernel
theorem dX9_say_1 : decode cX9_say 1 = .ok (.getfield 117, 3) := by decide +kernel
theorem dX9_say_4 : decode cX9_say 4 = .ok (.aload_n 0, 1) := by decide +kernel
theorem dX9_say_5 : decode cX9_say 5 = .ok (.getfield 224, 3) := by decide +kernel
theorem dX9_say_8 : decode cX9_say 8 = .ok (.iload_n 1, 1) := by decide +kernel
theorem dX9_say_9 : decode cX9_say 9 = .ok (.iastore, 1) := by decide +kernel
theorem dX9_say_10 : decode cX9_say 10 = .ok (.aload_n 0, 1) := by decide +kernel
theorem dX9_say_11 : decode cX9_say 11 = .ok (.dup, 1) := by decide +kernel
theorem dX9_say_12 : decode cX9_say 12 = .ok (.getfield 224, 3) := by decide +kernel
theorem dX9_say_15 : decode cX9_say 15 = .ok (.iconst 1, 1) := by decide +kernel
theorem dX9_say_16 : decode cX9_say 16 = .ok (.iadd, 1) := by decide +kernel
theorem dX9_say_17 : decode cX9_say 17 = .ok (.putfield 224, 3) := by decide +kernel
theorem dX9_say_20 : decode cX9_say 20 = .ok (.return_, 1) := by decide +kernel
theorem dX9_unit_0 : decode cX9_unit 0 = .ok (.aload_n 0, 1) := by decide +kernel
theorem dX9_unit_1 : decode cX9_unit 1 = .ok (.invokevirtual 227, 3) := by decide +kernel
theorem dX9_unit_4 : decode cX9_unit 4 = .ok (.istore_n 1, 1) := by decide +kernel
theorem dX9_unit_5 : decode cX9_unit 5 = .ok (.iload_n 1, 1) := by decide +kernel
theorem dX9_unit_6 : decode cX9_unit 6 = .ok (.bipush 40, 2) := by decide +kernel
theorem dX9_unit_8 : decode cX9_unit 8 = .ok (.if_icmp .ne 78, 3) := by decide +kernel
theorem dX9_unit_11 : decode cX9_unit 11 = .ok (.aload_n 0, 1) := by decide +kernel
theorem dX9_unit_12 : decode cX9_unit 12 = .ok (.getfield 230, 3) := by decide +kernel
theorem dX9_unit_15 : decode cX9_unit 15 = .ok (.bipush 8, 2) := by decide +kernel
theorem dX9_unit_17 : decode cX9_unit 17 = .ok (.if_icmp .ge 69, 3) := by decide +kernel
theorem dX9_unit_20 : decode cX9_unit 20 = .ok (.aload_n 0, 1) := by decide +kernel
theorem dX9_unit_21 : decode cX9_unit 21 = .ok (.dup, 1) := by decide +kernel
theorem dX9_unit_22 : decode cX9_unit 22 = .ok (.getfield 230, 3) := by decide +kernel
theorem dX9_unit_25 : decode cX9_unit 25 = .ok (.iconst 1, 1) := by decide +kernel
theorem dX9_unit_26 : decode cX9_unit 26 = .ok (.iadd, 1) := by decide +kernel
theorem dX9_unit_27 : decode cX9_unit 27 = .ok (.putfield 230, 3) := by decide +kernel
theorem dX9_unit_30 : decode cX9_unit 30 = .ok (.aload_n 0, 1) := by decide +kernel
theorem dX9_unit_31 : decode cX9_unit 31 = .ok (.dup, 1) := by decide +kernel
theorem dX9_unit_32 : decode cX9_unit 32 = .ok (.getfield 218, 3) := by decide +kernel
theorem dX9_unit_35 : decode cX9_unit 35 = .ok (.iconst 1, 1) := by decide +kernel
theorem dX9_unit_36 : decode cX9_unit 36 = .ok (.iadd, 1) := by decide +kernel
theorem dX9_unit_37 : decode cX9_unit 37 = .ok (.putfield 218, 3) := by decide +kernel
theorem dX9_unit_40 : decode cX9_unit 40 = .ok (.aload_n 0, 1) := by decide +kernel
theorem dX9_unit_41 : decode cX9_unit 41 = .ok (.invokevirtual 233, 3) := by decide +kernel
theorem dX9_unit_44 : decode cX9_unit 44 = .ok (.aload_n 0, 1) := by decide +kernel
theorem dX9_unit_45 : decode cX9_unit 45 = .ok (.getfield 221, 3) := by decide +kernel
theorem dX9_unit_48 : decode cX9_unit 48 = .ok (.iconst (-1), 1) := by decide +kernel
theorem dX9_unit_49 : decode cX9_unit 49 = .ok (.if_icmp .ne 16, 3) := by decide +kernel
theorem dX9_unit_52 : decode cX9_unit 52 = .ok (.aload_n 0, 1) := by decide +kernel
theorem dX9_unit_53 : decode cX9_unit 53 = .ok (.invokevirtual 227, 3) := by decide +kernel
theorem dX9_unit_56 : decode cX9_unit 56 = .ok (.bipush 41, 2) := by decide +kernel
theorem dX9_unit_58 : decode cX9_unit 58 = .ok (.if_icmp .eq 7, 3) := by decide +kernel
theorem dX9_unit_61 : decode cX9_unit 61 = .ok (.aload_n 0, 1) := by decide +kernel
theorem dX9_unit_62 : decode cX9_unit 62 = .ok (.invokevirtual 236, 3) := by decide +kernel
theorem dX9_unit_65 : decode cX9_unit 65 = .ok (.aload_n 0, 1) := by decide +kernel
theorem dX9_unit_66 : decode cX9_unit 66 = .ok (.dup, 1) := by decide +kernel
theorem dX9_unit_67 : decode cX9_unit 67 = .ok (.getfield 218, 3) := by decide +kernel
theorem dX9_unit_70 : decode cX9_unit 70 = .ok (.iconst 1, 1) := by decide +kernel
theorem dX9_unit_71 : decode cX9_unit 71 = .ok (.iadd, 1) := by decide +kernel
theorem dX9_unit_72 : decode cX9_unit 72 = .ok (.putfield 218, 3) := by decide +kernel
theorem dX9_unit_75 : decode cX9_unit 75 = .ok (.aload_n 0, 1) := by decide +kernel
theorem dX9_unit_76 : decode cX9_unit 76 = .ok (.dup, 1) := by decide +kernel
theorem dX9_unit_77 : decode cX9_unit 77 = .ok (.getfield 230, 3) := by decide +kernel
theorem dX9_unit_80 : decode cX9_unit 80 = .ok (.iconst 1, 1) := by decide +kernel
theorem dX9_unit_81 : decode cX9_unit 81 = .ok (.isub, 1) := by decide +kernel
theorem dX9_unit_82 : decode cX9_unit 82 = .ok (.putfield 230, 3) := by decide +kernel
theorem dX9_unit_85 : decode cX9_unit 85 = .ok (.return_, 1) := by decide +kernel
theorem dX9_unit_86 : decode cX9_unit 86 = .ok (.iload_n 1, 1) := by decide +kernel
theorem dX9_unit_87 : decode cX9_unit 87 = .ok (.bipush 99, 2) := by decide +kernel
theorem dX9_unit_89 : decode cX9_unit 89 = .ok (.if_icmp .ne 7, 3) := by decide +kernel
theorem dX9_unit_92 : decode cX9_unit 92 = .ok (.iconst 0, 1) := by decide +kernel
theorem dX9_unit_93 : decode cX9_unit 93 = .ok (.goto 44, 3) := by decide +kernel
theorem dX9_unit_96 : decode cX9_unit 96 = .ok (.iload_n 1, 1) := by decide +kernel
theorem dX9_unit_97 : decode cX9_unit 97 = .ok (.bipush 115, 2) := by decide +kernel
theorem dX9_unit_99 : decode cX9_unit 99 = .ok (.if_icmp .ne 7, 3) := by decide +kernel
theorem dX9_unit_102 : decode cX9_unit 102 = .ok (.iconst 1, 1) := by decide +kernel
theorem dX9_unit_103 : decode cX9_unit 103 = .ok (.goto 34, 3) := by decide +kernel
theorem dX9_unit_106 : decode cX9_unit 106 = .ok (.iload_n 1, 1) := by decide +kernel
theorem dX9_unit_107 : decode cX9_unit 107 = .ok (.bipush 119, 2) := by decide +kernel
theorem dX9_unit_109 : decode cX9_unit 109 = .ok (.if_icmp .ne 7, 3) := by decide +kernel
theorem dX9_unit_112 : decode cX9_unit 112 = .ok (.iconst 2, 1) := by decide +kernel
theorem dX9_unit_113 : decode cX9_unit 113 = .ok (.goto 24, 3) := by decide +kernel
theorem dX9_unit_116 : decode cX9_unit 116 = .ok (.iload_n 1, 1) := by decide +kernel
theorem dX9_unit_117 : decode cX9_unit 117 = .ok (.bipush 97, 2) := by decide +kernel
theorem dX9_unit_119 : decode cX9_unit 119 = .ok (.if_icmp .ne 7, 3) := by decide +kernel
theorem dX9_unit_122 : decode cX9_unit 122 = .ok (.iconst 3, 1) := by decide +kernel
theorem dX9_unit_123 : decode cX9_unit 123 = .ok (.goto 14, 3) := by decide +kernel
theorem dX9_unit_126 : decode cX9_unit 126 = .ok (.iload_n 1, 1) := by decide +kernel
theorem dX9_unit_127 : decode cX9_unit 127 = .ok (.bipush 112, 2) := by decide +kernel
theorem dX9_unit_129 : decode cX9_unit 129 = .ok (.if_icmp .ne 7, 3) := by decide +kernel
theorem dX9_unit_132 : decode cX9_unit 132 = .ok (.iconst 4, 1) := by decide +kernel
theorem dX9_unit_133 : decode cX9_unit 133 = .ok (.goto 4, 3) := by decide +kernel
theorem dX9_unit_136 : decode cX9_unit 136 = .ok (.iconst (-1), 1) := by decide +kernel
theorem dX9_unit_137 : decode cX9_unit 137 = .ok (.istore_n 2, 1) := by decide +kernel
theorem dX9_unit_138 : decode cX9_unit 138 = .ok (.iload_n 2, 1) := by decide +kernel
theorem dX9_unit_139 : decode cX9_unit 139 = .ok (.iconst (-1), 1) := by decide +kernel
theorem dX9_unit_140 : decode cX9_unit 140 = .ok (.if_icmp .ne 8, 3) := by decide +kernel
theorem dX9_unit_143 : decode cX9_unit 143 = .ok (.aload_n 0, 1) := by decide +kernel
theorem dX9_unit_144 : decode cX9_unit 144 = .ok (.invokevirtual 236, 3) := by decide +kernel
theorem dX9_unit_147 : decode cX9_unit 147 = .ok (.return_, 1) := by decide +kernel
theorem dX9_unit_148 : decode cX9_unit 148 = .ok (.aload_n 0, 1) := by decide +kernel
theorem dX9_unit_149 : decode cX9_unit 149 = .ok (.dup, 1) := by decide +kernel
theorem dX9_unit_150 : decode cX9_unit 150 = .ok (.getfield 218, 3) := by decide +kernel
theorem dX9_unit_153 : decode cX9_unit 153 = .ok (.iconst 1, 1) := by decide +kernel
theorem dX9_unit_154 : decode cX9_unit 154 = .ok (.iadd, 1) := by decide +kernel
theorem dX9_unit_155 : decode cX9_unit 155 = .ok (.putfield 218, 3) := by decide +kernel
theorem dX9_unit_158 : decode cX9_unit 158 = .ok (.aload_n 0, 1) := by decide +kernel
theorem dX9_unit_159 : decode cX9_unit 159 = .ok (.invokevirtual 227, 3) := by decide +kernel
theorem dX9_unit_162 : decode cX9_unit 162 = .ok (.istore_n 3, 1) := by decide +kernel
theorem dX9_unit_163 : decode cX9_unit 163 = .ok (.iload_n 3, 1) := by decide +kernel
theorem dX9_unit_164 : decode cX9_unit 164 = .ok (.bipush 61, 2) := by decide +kernel
theorem dX9_unit_166 : decode cX9_unit 166 = .ok (.if_icmp .eq 20, 3) := by decide +kernel
theorem dX9_unit_169 : decode cX9_unit 169 = .ok (.iload_n 3, 1) := by decide +kernel
theorem dX9_unit_170 : decode cX9_unit 170 = .ok (.bipush 60, 2) := by decide +kernel
theorem dX9_unit_172 : decode cX9_unit 172 = .ok (.if_icmp .eq 14, 3) := by decide +kernel
theorem dX9_unit_175 : decode cX9_unit 175 = .ok (.iload_n 3, 1) := by decide +kernel
theorem dX9_unit_176 : decode cX9_unit 176 = .ok (.bipush 62, 2) := by decide +kernel
theorem dX9_unit_178 : decode cX9_unit 178 = .ok (.if_icmp .eq 8, 3) := by decide +kernel
theorem dX9_unit_181 : decode cX9_unit 181 = .ok (.aload_n 0, 1) := by decide +kernel
theorem dX9_unit_182 : decode cX9_unit 182 = .ok (.invokevirtual 236, 3) := by decide +kernel
theorem dX9_unit_185 : decode cX9_unit 185 = .ok (.return_, 1) := by decide +kernel
theorem dX9_unit_186 : decode cX9_unit 186 = .ok (.aload_n 0, 1) := by decide +kernel
theorem dX9_unit_187 : decode cX9_unit 187 = .ok (.dup, 1) := by decide +kernel
theorem dX9_unit_188 : decode cX9_unit 188 = .ok (.getfield 218, 3) := by decide +kernel
theorem dX9_unit_191 : decode cX9_unit 191 = .ok (.iconst 1, 1) := by decide +kernel
theorem dX9_unit_192 : decode cX9_unit 192 = .ok (.iadd, 1) := by decide +kernel
theorem dX9_unit_193 : decode cX9_unit 193 = .ok (.putfield 218, 3) := by decide +kernel
theorem dX9_unit_196 : decode cX9_unit 196 = .ok (.aload_n 0, 1) := by decide +kernel
theorem dX9_unit_197 : decode cX9_unit 197 = .ok (.iconst 0, 1) := by decide +kernel
theorem dX9_unit_198 : decode cX9_unit 198 = .ok (.invokevirtual 239, 3) := by decide +kernel
theorem dX9_unit_201 : decode cX9_unit 201 = .ok (.aload_n 0, 1) := by decide +kernel
theorem dX9_unit_202 : decode cX9_unit 202 = .ok (.iload_n 2, 1) := by decide +kernel
theorem dX9_unit_203 : decode cX9_unit 203 = .ok (.invokevirtual 239, 3) := by decide +kernel
theorem dX9_unit_206 : decode cX9_unit 206 = .ok (.aload_n 0, 1) := by decide +kernel
theorem dX9_unit_207 : decode cX9_unit 207 = .ok (.iload_n 3, 1) := by decide +kernel
theorem dX9_unit_208 : decode cX9_unit 208 = .ok (.invokevirtual 239, 3) := by decide +kernel
theorem dX9_unit_211 : decode cX9_unit 211 = .ok (.aload_n 0, 1) := by decide +kernel
theorem dX9_unit_212 : decode cX9_unit 212 = .ok (.invokevirtual 243, 3) := by decide +kernel
theorem dX9_unit_215 : decode cX9_unit 215 = .ok (.return_, 1) := by decide +kernel
theorem dX9_number_0 : decode cX9_number 0 = .ok (.aload_n 0, 1) := by decide +kernel
theorem dX9_number_1 : decode cX9_number 1 = .ok (.invokevirtual 227, 3) := by decide +kernel
theorem dX9_number_4 : decode cX9_number 4 = .ok (.istore_n 1, 1) := by decide +kernel
theorem dX9_number_5 : decode cX9_number 5 = .ok (.iload_n 1, 1) := by decide +kernel
theorem dX9_number_6 : decode cX9_number 6 = .ok (.bipush 48, 2) := by decide +kernel
theorem dX9_number_8 : decode cX9_number 8 = .ok (.if_icmp .lt 9, 3) := by decide +kernel
theorem dX9_number_11 : decode cX9_number 11 = .ok (.iload_n 1, 1) := by decide +kernel
theorem dX9_number_12 : decode cX9_number 12 = .ok (.bipush 57, 2) := by decide +kernel
theorem dX9_number_14 : decode cX9_number 14 = .ok (.if_icmp .le 8, 3) := by decide +kernel
theorem dX9_number_17 : decode cX9_number 17 = .ok (.aload_n 0, 1) := by decide +kernel
theorem dX9_number_18 : decode cX9_number 18 = .ok (.invokevirtual 236, 3) := by decide +kernel
theorem dX9_number_21 : decode cX9_number 21 = .ok (.return_, 1) := by decide +kernel
theorem dX9_number_22 : decode cX9_number 22 = .ok (.iconst 0, 1) := by decide +kernel
theorem dX9_number_23 : decode cX9_number 23 = .ok (.istore_n 2, 1) := by decide +kernel
theorem dX9_number_24 : decode cX9_number 24 = .ok (.iconst 0, 1) := by decide +kernel
theorem dX9_number_25 : decode cX9_number 25 = .ok (.istore_n 3, 1) := by decide +kernel
theorem dX9_number_26 : decode cX9_number 26 = .ok (.aload_n 0, 1) := by decide +kernel
theorem dX9_number_27 : decode cX9_number 27 = .ok (.getfield 218, 3) := by decide +kernel
theorem dX9_number_30 : decode cX9_number 30 = .ok (.aload_n 0, 1) := by decide +kernel
theorem dX9_number_31 : decode cX9_number 31 = .ok (.getfield 215, 3) := by decide +kernel
theorem dX9_number_34 : decode cX9_number 34 = .ok (.if_icmp .ge 75, 3) := by decide +kernel
theorem dX9_number_37 : decode cX9_number 37 = .ok (.aload_n 0, 1) := by decide +kernel
theorem dX9_number_38 : decode cX9_number 38 = .ok (.getfield 111, 3) := by decide +kernel
theorem dX9_number_41 : decode cX9_number 41 = .ok (.aload_n 0, 1) := by decide +kernel
theorem dX9_number_42 : decode cX9_number 42 = .ok (.getfield 218, 3) := by decide +kernel
theorem dX9_number_45 : decode cX9_number 45 = .ok (.iaload, 1) := by decide +kernel
theorem dX9_number_46 : decode cX9_number 46 = .ok (.bipush 48, 2) := by decide +kernel
theorem dX9_number_48 : decode cX9_number 48 = .ok (.if_icmp .lt 61, 3) := by decide +kernel
theorem dX9_number_51 : decode cX9_number 51 = .ok (.aload_n 0, 1) := by decide +kernel
theorem dX9_number_52 : decode cX9_number 52 = .ok (.getfield 111, 3) := by decide +kernel
theorem dX9_number_55 : decode cX9_number 55 = .ok (.aload_n 0, 1) := by decide +kernel
theorem dX9_number_56 : decode cX9_number 56 = .ok (.getfield 218, 3) := by decide +kernel
theorem dX9_number_59 : decode cX9_number 59 = .ok (.iaload, 1) := by decide +kernel
theorem dX9_number_60 : decode cX9_number 60 = .ok (.bipush 57, 2) := by decide +kernel
theorem dX9_number_62 : decode cX9_number 62 = .ok (.if_icmp .gt 47, 3) := by decide +kernel
theorem dX9_number_65 : decode cX9_number 65 = .ok (.iload_n 3, 1) := by decide +kernel
theorem dX9_number_66 : decode cX9_number 66 = .ok (.iconst 5, 1) := by decide +kernel
theorem dX9_number_67 : decode cX9_number 67 = .ok (.if_icmp .ne 8, 3) := by decide +kernel
theorem dX9_number_70 : decode cX9_number 70 = .ok (.aload_n 0, 1) := by decide +kernel
theorem dX9_number_71 : decode cX9_number 71 = .ok (.invokevirtual 236, 3) := by decide +kernel
theorem dX9_number_74 : decode cX9_number 74 = .ok (.return_, 1) := by decide +kernel
theorem dX9_number_75 : decode cX9_number 75 = .ok (.bipush 10, 2) := by decide +kernel
theorem dX9_number_77 : decode cX9_number 77 = .ok (.iload_n 2, 1) := by decide +kernel
theorem dX9_number_78 : decode cX9_number 78 = .ok (.imul, 1) := by decide +kernel
theorem dX9_number_79 : decode cX9_number 79 = .ok (.aload_n 0, 1) := by decide +kernel
theorem dX9_number_80 : decode cX9_number 80 = .ok (.getfield 111, 3) := by decide +kernel
theorem dX9_number_83 : decode cX9_number 83 = .ok (.aload_n 0, 1) := by decide +kernel
theorem dX9_number_84 : decode cX9_number 84 = .ok (.getfield 218, 3) := by decide +kernel
theorem dX9_number_87 : decode cX9_number 87 = .ok (.iaload, 1) := by decide +kernel
theorem dX9_number_88 : decode cX9_number 88 = .ok (.iadd, 1) := by decide +kernel
theorem dX9_number_89 : decode cX9_number 89 = .ok (.bipush 48, 2) := by decide +kernel
theorem dX9_number_91 : decode cX9_number 91 = .ok (.isub, 1) := by decide +kernel
theorem dX9_number_92 : decode cX9_number 92 = .ok (.istore_n 2, 1) := by decide +kernel
theorem dX9_number_93 : decode cX9_number 93 = .ok (.iinc 3 1, 3) := by decide +kernel
theorem dX9_number_96 : decode cX9_number 96 = .ok (.aload_n 0, 1) := by decide +kernel
theorem dX9_number_97 : decode cX9_number 97 = .ok (.dup, 1) := by decide +kernel
theorem dX9_number_98 : decode cX9_number 98 = .ok (.getfield 218, 3) := by decide +kernel
theorem dX9_number_101 : decode cX9_number 101 = .ok (.iconst 1, 1) := by decide +kernel
theorem dX9_number_102 : decode cX9_number 102 = .ok (.iadd, 1) := by decide +kernel
theorem dX9_number_103 : decode cX9_number 103 = .ok (.putfield 218, 3) := by decide +kernel
theorem dX9_number_106 : decode cX9_number 106 = .ok (.goto (-80), 3) := by decide +kernel
theorem dX9_number_109 : decode cX9_number 109 = .ok (.aload_n 0, 1) := by decide +kernel
theorem dX9_number_110 : decode cX9_number 110 = .ok (.iload_n 2, 1) := by decide +kernel
theorem dX9_number_111 : decode cX9_number 111 = .ok (.invokevirtual 239, 3) := by decide +kernel
theorem dX9_number_114 : decode cX9_number 114 = .ok (.return_, 1) := by decide +kernel
theorem dX9_part_0 : decode cX9_part 0 = .ok (.aload_n 0, 1) := by decide +kernel
theorem dX9_part_1 : decode cX9_part 1 = .ok (.invokevirtual 246, 3) := by decide +kernel
theorem dX9_part_4 : decode cX9_part 4 = .ok (.aload_n 0, 1) := by decide +kernel
theorem dX9_part_5 : decode cX9_part 5 = .ok (.getfield 221, 3) := by decide +kernel
theorem dX9_part_8 : decode cX9_part 8 = .ok (.iconst (-1), 1) := by decide +kernel
theorem dX9_part_9 : decode cX9_part 9 = .ok (.if_icmp .ne 34, 3) := by decide +kernel
theorem dX9_part_12 : decode cX9_part 12 = .ok (.aload_n 0, 1) := by decide +kernel
theorem dX9_part_13 : decode cX9_part 13 = .ok (.invokevirtual 227, 3) := by decide +kernel
theorem dX9_part_16 : decode cX9_part 16 = .ok (.bipush 38, 2) := by decide +kernel
theorem dX9_part_18 : decode cX9_part 18 = .ok (.if_icmp .ne 25, 3) := by decide +kernel
theorem dX9_part_21 : decode cX9_part 21 = .ok (.aload_n 0, 1) := by decide +kernel
theorem dX9_part_22 : decode cX9_part 22 = .ok (.dup, 1) := by decide +kernel
theorem dX9_part_23 : decode cX9_part 23 = .ok (.getfield 218, 3) := by decide +kernel
theorem dX9_part_26 : decode cX9_part 26 = .ok (.iconst 1, 1) := by decide +kernel
theorem dX9_part_27 : decode cX9_part 27 = .ok (.iadd, 1) := by decide +kernel
theorem dX9_part_28 : decode cX9_part 28 = .ok (.putfield 218, 3) := by decide +kernel
theorem dX9_part_31 : decode cX9_part 31 = .ok (.aload_n 0, 1) := by decide +kernel
theorem dX9_part_32 : decode cX9_part 32 = .ok (.invokevirtual 246, 3) := by decide +kernel
theorem dX9_part_35 : decode cX9_part 35 = .ok (.aload_n 0, 1) := by decide +kernel
theorem dX9_part_36 : decode cX9_part 36 = .ok (.iconst 1, 1) := by decide +kernel
theorem dX9_part_37 : decode cX9_part 37 = .ok (.invokevirtual 239, 3) := by decide +kernel
theorem dX9_part_40 : decode cX9_part 40 = .ok (.goto (-36), 3) := by decide +kernel
theorem dX9_part_43 : decode cX9_part 43 = .ok (.return_, 1) := by decide +kernel
theorem dX9_whole_0 : decode cX9_whole 0 = .ok (.aload_n 0, 1) := by decide +kernel
theorem dX9_whole_1 : decode cX9_whole 1 = .ok (.invokevirtual 249, 3) := by decide +kernel
theorem dX9_whole_4 : decode cX9_whole 4 = .ok (.aload_n 0, 1) := by decide +kernel
theorem dX9_whole_5 : decode cX9_whole 5 = .ok (.getfield 221, 3) := by decide +kernel
theorem dX9_whole_8 : decode cX9_whole 8 = .ok (.iconst (-1), 1) := by decide +kernel
theorem dX9_whole_9 : decode cX9_whole 9 = .ok (.if_icmp .ne 34, 3) := by decide +kernel
theorem dX9_whole_12 : decode cX9_whole 12 = .ok (.aload_n 0, 1) := by decide +kernel
theorem dX9_whole_13 : decode cX9_whole 13 = .ok (.invokevirtual 227, 3) := by decide +kernel
theorem dX9_whole_16 : decode cX9_whole 16 = .ok (.bipush 124, 2) := by decide +kernel
theorem dX9_whole_18 : decode cX9_whole 18 = .ok (.if_icmp .ne 25, 3) := by decide +kernel
theorem dX9_whole_21 : decode cX9_whole 21 = .ok (.aload_n 0, 1) := by decide +kernel
theorem dX9_whole_22 : decode cX9_whole 22 = .ok (.dup, 1) := by decide +kernel
theorem dX9_whole_23 : decode cX9_whole 23 = .ok (.getfield 218, 3) := by decide +kernel
theorem dX9_whole_26 : decode cX9_whole 26 = .ok (.iconst 1, 1) := by decide +kernel
theorem dX9_whole_27 : decode cX9_whole 27 = .ok (.iadd, 1) := by decide +kernel
theorem dX9_whole_28 : decode cX9_whole 28 = .ok (.putfield 218, 3) := by decide +kernel
theorem dX9_whole_31 : decode cX9_whole 31 = .ok (.aload_n 0, 1) := by decide +kernel
theorem dX9_whole_32 : decode cX9_whole 32 = .ok (.invokevirtual 249, 3) := by decide +kernel
theorem dX9_whole_35 : decode cX9_whole 35 = .ok (.aload_n 0, 1) := by decide +kernel
theorem dX9_whole_36 : decode cX9_whole 36 = .ok (.iconst 2, 1) := by decide +kernel
theorem dX9_whole_37 : decode cX9_whole 37 = .ok (.invokevirtual 239, 3) := by decide +kernel
theorem dX9_whole_40 : decode cX9_whole 40 = .ok (.goto (-36), 3) := by decide +kernel
theorem dX9_whole_43 : decode cX9_whole 43 = .ok (.return_, 1) := by decide +kernel
theorem dX9_fault_0 : decode cX9_fault 0 = .ok (.aload_n 0, 1) := by decide +kernel
theorem dX9_fault_1 : decode cX9_fault 1 = .ok (.iconst 0, 1) := by decide +kernel
theorem dX9_fault_2 : decode cX9_fault 2 = .ok (.putfield 218, 3) := by decide +kernel
theorem dX9_fault_5 : decode cX9_fault 5 = .ok (.aload_n 0, 1) := by decide +kernel
theorem dX9_fault_6 : decode cX9_fault 6 = .ok (.iconst (-1), 1) := by decide +kernel
theorem dX9_fault_7 : decode cX9_fault 7 = .ok (.putfield 221, 3) := by decide +kernel
theorem dX9_fault_10 : decode cX9_fault 10 = .ok (.aload_n 0, 1) := by decide +kernel
theorem dX9_fault_11 : decode cX9_fault 11 = .ok (.iconst 0, 1) := by decide +kernel
theorem dX9_fault_12 : decode cX9_fault 12 = .ok (.putfield 230, 3) := by decide +kernel
theorem dX9_fault_15 : decode cX9_fault 15 = .ok (.aload_n 0, 1) := by decide +kernel
theorem dX9_fault_16 : decode cX9_fault 16 = .ok (.iconst 0, 1) := by decide +kernel
theorem dX9_fault_17 : decode cX9_fault 17 = .ok (.putfield 224, 3) := by decide +kernel
theorem dX9_fault_20 : decode cX9_fault 20 = .ok (.aload_n 0, 1) := by decide +kernel
theorem dX9_fault_21 : decode cX9_fault 21 = .ok (.invokevirtual 233, 3) := by decide +kernel
theorem dX9_fault_24 : decode cX9_fault 24 = .ok (.aload_n 0, 1) := by decide +kernel
theorem dX9_fault_25 : decode cX9_fault 25 = .ok (.getfield 221, 3) := by decide +kernel
theorem dX9_fault_28 : decode cX9_fault 28 = .ok (.iconst (-1), 1) := by decide +kernel
theorem dX9_fault_29 : decode cX9_fault 29 = .ok (.if_icmp .ne 15, 3) := by decide +kernel
theorem dX9_fault_32 : decode cX9_fault 32 = .ok (.aload_n 0, 1) := by decide +kernel
theorem dX9_fault_33 : decode cX9_fault 33 = .ok (.invokevirtual 227, 3) := by decide +kernel
theorem dX9_fault_36 : decode cX9_fault 36 = .ok (.iconst (-1), 1) := by decide +kernel
theorem dX9_fault_37 : decode cX9_fault 37 = .ok (.if_icmp .eq 7, 3) := by decide +kernel
theorem dX9_fault_40 : decode cX9_fault 40 = .ok (.aload_n 0, 1) := by decide +kernel
theorem dX9_fault_41 : decode cX9_fault 41 = .ok (.invokevirtual 236, 3) := by decide +kernel
theorem dX9_fault_44 : decode cX9_fault 44 = .ok (.aload_n 0, 1) := by decide +kernel
theorem dX9_fault_45 : decode cX9_fault 45 = .ok (.getfield 221, 3) := by decide +kernel
theorem dX9_fault_48 : decode cX9_fault 48 = .ok (.ireturn, 1) := by decide +kernel
theorem dX9_brand_0 : decode cX9_brand 0 = .ok (.iload_n 1, 1) := by decide +kernel
theorem dX9_brand_1 : decode cX9_brand 1 = .ok (.iconst 0, 1) := by decide +kernel
theorem dX9_brand_2 : decode cX9_brand 2 = .ok (.iconst 3, 1) := by decide +kernel
theorem dX9_brand_3 : decode cX9_brand 3 = .ok (.invokestatic 129, 3) := by decide +kernel
theorem dX9_brand_6 : decode cX9_brand 6 = .ok (.ifCond .eq 11, 3) := by decide +kernel
theorem dX9_brand_9 : decode cX9_brand 9 = .ok (.aload_n 0, 1) := by decide +kernel
theorem dX9_brand_10 : decode cX9_brand 10 = .ok (.invokevirtual 252, 3) := by decide +kernel
theorem dX9_brand_13 : decode cX9_brand 13 = .ok (.iconst (-1), 1) := by decide +kernel
theorem dX9_brand_14 : decode cX9_brand 14 = .ok (.if_icmp .eq 5, 3) := by decide +kernel
theorem dX9_brand_17 : decode cX9_brand 17 = .ok (.iconst 0, 1) := by decide +kernel
theorem dX9_brand_18 : decode cX9_brand 18 = .ok (.ireturn, 1) := by decide +kernel
theorem dX9_brand_19 : decode cX9_brand 19 = .ok (.aload_n 0, 1) := by decide +kernel
theorem dX9_brand_20 : decode cX9_brand 20 = .ok (.iconst 3, 1) := by decide +kernel
theorem dX9_brand_21 : decode cX9_brand 21 = .ok (.invokevirtual 239, 3) := by decide +kernel
theorem dX9_brand_24 : decode cX9_brand 24 = .ok (.iconst 0, 1) := by decide +kernel
theorem dX9_brand_25 : decode cX9_brand 25 = .ok (.istore_n 2, 1) := by decide +kernel
theorem dX9_brand_26 : decode cX9_brand 26 = .ok (.iload_n 2, 1) := by decide +kernel
theorem dX9_brand_27 : decode cX9_brand 27 = .ok (.aload_n 0, 1) := by decide +kernel
theorem dX9_brand_28 : decode cX9_brand 28 = .ok (.getfield 224, 3) := by decide +kernel
theorem dX9_brand_31 : decode cX9_brand 31 = .ok (.if_icmp .ge 27, 3) := by decide +kernel
theorem dX9_brand_34 : decode cX9_brand 34 = .ok (.aload_n 0, 1) := by decide +kernel
theorem dX9_brand_35 : decode cX9_brand 35 = .ok (.getfield 114, 3) := by decide +kernel
theorem dX9_brand_38 : decode cX9_brand 38 = .ok (.sipush 420, 3) := by decide +kernel
theorem dX9_brand_41 : decode cX9_brand 41 = .ok (.iload_n 1, 1) := by decide +kernel
theorem dX9_brand_42 : decode cX9_brand 42 = .ok (.imul, 1) := by decide +kernel
theorem dX9_brand_43 : decode cX9_brand 43 = .ok (.iload_n 2, 1) := by decide +kernel
theorem dX9_brand_44 : decode cX9_brand 44 = .ok (.iadd, 1) := by decide +kernel
theorem dX9_brand_45 : decode cX9_brand 45 = .ok (.aload_n 0, 1) := by decide +kernel
theorem dX9_brand_46 : decode cX9_brand 46 = .ok (.getfield 117, 3) := by decide +kernel
theorem dX9_brand_49 : decode cX9_brand 49 = .ok (.iload_n 2, 1) := by decide +kernel
theorem dX9_brand_50 : decode cX9_brand 50 = .ok (.iaload, 1) := by decide +kernel
theorem dX9_brand_51 : decode cX9_brand 51 = .ok (.iastore, 1) := by decide +kernel
theorem dX9_brand_52 : decode cX9_brand 52 = .ok (.iinc 2 1, 3) := by decide +kernel
theorem dX9_brand_55 : decode cX9_brand 55 = .ok (.goto (-29), 3) := by decide +kernel
theorem dX9_brand_58 : decode cX9_brand 58 = .ok (.aload_n 0, 1) := by decide +kernel
theorem dX9_brand_59 : decode cX9_brand 59 = .ok (.getfield 120, 3) := by decide +kernel
theorem dX9_brand_62 : decode cX9_brand 62 = .ok (.iload_n 1, 1) := by decide +kernel
theorem dX9_brand_63 : decode cX9_brand 63 = .ok (.iconst 1, 1) := by decide +kernel
theorem dX9_brand_64 : decode cX9_brand 64 = .ok (.bastore, 1) := by decide +kernel
theorem dX9_brand_65 : decode cX9_brand 65 = .ok (.aload_n 0, 1) := by decide +kernel
theorem dX9_brand_66 : decode cX9_brand 66 = .ok (.iconst 0, 1) := by decide +kernel
theorem dX9_brand_67 : decode cX9_brand 67 = .ok (.putfield 215, 3) := by decide +kernel
theorem dX9_brand_70 : decode cX9_brand 70 = .ok (.iconst 1, 1) := by decide +kernel
theorem dX9_brand_71 : decode cX9_brand 71 = .ok (.ireturn, 1) := by decide +kernel
theorem dX9_value_0 : decode cX9_value 0 = .ok (.iload_n 2, 1) := by decide +kernel
theorem dX9_value_1 : decode cX9_value 1 = .ok (.tableswitch 64 0 3 #[31, 38, 45, 52], 31) := by decide +kernel
theorem dX9_value_32 : decode cX9_value 32 = .ok (.aload_n 0, 1) := by decide +kernel
theorem dX9_value_33 : decode cX9_value 33 = .ok (.getfield 65, 3) := by decide +kernel
theorem dX9_value_36 : decode cX9_value 36 = .ok (.iload_n 1, 1) := by decide +kernel
theorem dX9_value_37 : decode cX9_value 37 = .ok (.iaload, 1) := by decide +kernel
theorem dX9_value_38 : decode cX9_value 38 = .ok (.ireturn, 1) := by decide +kernel
theorem dX9_value_39 : decode cX9_value 39 = .ok (.aload_n 0, 1) := by decide +kernel
theorem dX9_value_40 : decode cX9_value 40 = .ok (.getfield 68, 3) := by decide +kernel
theorem dX9_value_43 : decode cX9_value 43 = .ok (.iload_n 1, 1) := by decide +kernel
theorem dX9_value_44 : decode cX9_value 44 = .ok (.iaload, 1) := by decide +kernel
theorem dX9_value_45 : decode cX9_value 45 = .ok (.ireturn, 1) := by decide +kernel
theorem dX9_value_46 : decode cX9_value 46 = .ok (.aload_n 0, 1) := by decide +kernel
theorem dX9_value_47 : decode cX9_value 47 = .ok (.getfield 77, 3) := by decide +kernel
theorem dX9_value_50 : decode cX9_value 50 = .ok (.iload_n 1, 1) := by decide +kernel
theorem dX9_value_51 : decode cX9_value 51 = .ok (.iaload, 1) := by decide +kernel
theorem dX9_value_52 : decode cX9_value 52 = .ok (.ireturn, 1) := by decide +kernel
theorem dX9_value_53 : decode cX9_value 53 = .ok (.aload_n 0, 1) := by decide +kernel
theorem dX9_value_54 : decode cX9_value 54 = .ok (.getfield 183, 3) := by decide +kernel
theorem dX9_value_57 : decode cX9_value 57 = .ok (.aload_n 0, 1) := by decide +kernel
theorem dX9_value_58 : decode cX9_value 58 = .ok (.getfield 50, 3) := by decide +kernel
theorem dX9_value_61 : decode cX9_value 61 = .ok (.iload_n 1, 1) := by decide +kernel
theorem dX9_value_62 : decode cX9_value 62 = .ok (.iaload, 1) := by decide +kernel
theorem dX9_value_63 : decode cX9_value 63 = .ok (.isub, 1) := by decide +kernel
theorem dX9_value_64 : decode cX9_value 64 = .ok (.ireturn, 1) := by decide +kernel
theorem dX9_value_65 : decode cX9_value 65 = .ok (.aload_n 0, 1) := by decide +kernel
theorem dX9_value_66 : decode cX9_value 66 = .ok (.getfield 74, 3) := by decide +kernel
theorem dX9_value_69 : decode cX9_value 69 = .ok (.iload_n 1, 1) := by decide +kernel
theorem dX9_value_70 : decode cX9_value 70 = .ok (.iaload, 1) := by decide +kernel
theorem dX9_value_71 : decode cX9_value 71 = .ok (.ireturn, 1) := by decide +kernel
theorem dX9_holds_0 : decode cX9_holds 0 = .ok (.sipush 420, 3) := by decide +kernel
theorem dX9_holds_3 : decode cX9_holds 3 = .ok (.iload_n 1, 1) := by decide +kernel
theorem dX9_holds_4 : decode cX9_holds 4 = .ok (.imul, 1) := by decide +kernel
theorem dX9_holds_5 : decode cX9_holds 5 = .ok (.istore_n 3, 1) := by decide +kernel
theorem dX9_holds_6 : decode cX9_holds 6 = .ok (.iconst 0, 1) := by decide +kernel
theorem dX9_holds_7 : decode cX9_holds 7 = .ok (.istore 4, 2) := by decide +kernel
theorem dX9_holds_9 : decode cX9_holds 9 = .ok (.aload_n 0, 1) := by decide +kernel
theorem dX9_holds_10 : decode cX9_holds 10 = .ok (.getfield 114, 3) := by decide +kernel
theorem dX9_holds_13 : decode cX9_holds 13 = .ok (.iload_n 3, 1) := by decide +kernel
theorem dX9_holds_14 : decode cX9_holds 14 = .ok (.iaload, 1) := by decide +kernel
theorem dX9_holds_15 : decode cX9_holds 15 = .ok (.iconst 3, 1) := by decide +kernel
theorem dX9_holds_16 : decode cX9_holds 16 = .ok (.if_icmp .eq 206, 3) := by decide +kernel
theorem dX9_holds_19 : decode cX9_holds 19 = .ok (.aload_n 0, 1) := by decide +kernel
theorem dX9_holds_20 : decode cX9_holds 20 = .ok (.getfield 114, 3) := by decide +kernel
theorem dX9_holds_23 : decode cX9_holds 23 = .ok (.iload_n 3, 1) := by decide +kernel
theorem dX9_holds_24 : decode cX9_holds 24 = .ok (.iaload, 1) := by decide +kernel
theorem dX9_holds_25 : decode cX9_holds 25 = .ok (.ifCond .ne 112, 3) := by decide +kernel
theorem dX9_holds_28 : decode cX9_holds 28 = .ok (.aload_n 0, 1) := by decide +kernel
theorem dX9_holds_29 : decode cX9_holds 29 = .ok (.iload_n 2, 1) := by decide +kernel
theorem dX9_holds_30 : decode cX9_holds 30 = .ok (.aload_n 0, 1) := by decide +kernel
theorem dX9_holds_31 : decode cX9_holds 31 = .ok (.getfield 114, 3) := by decide +kernel
theorem dX9_holds_34 : decode cX9_holds 34 = .ok (.iload_n 3, 1) := by decide +kernel
theorem dX9_holds_35 : decode cX9_holds 35 = .ok (.iconst 1, 1) := by decide +kernel
theorem dX9_holds_36 : decode cX9_holds 36 = .ok (.iadd, 1) := by decide +kernel
theorem dX9_holds_37 : decode cX9_holds 37 = .ok (.iaload, 1) := by decide +kernel
theorem dX9_holds_38 : decode cX9_holds 38 = .ok (.invokevirtual 255, 3) := by decide +kernel
theorem dX9_holds_41 : decode cX9_holds 41 = .ok (.istore 5, 2) := by decide +kernel
theorem dX9_holds_43 : decode cX9_holds 43 = .ok (.aload_n 0, 1) := by decide +kernel
theorem dX9_holds_44 : decode cX9_holds 44 = .ok (.getfield 114, 3) := by decide +kernel
theorem dX9_holds_47 : decode cX9_holds 47 = .ok (.iload_n 3, 1) := by decide +kernel
theorem dX9_holds_48 : decode cX9_holds 48 = .ok (.iconst 3, 1) := by decide +kernel
theorem dX9_holds_49 : decode cX9_holds 49 = .ok (.iadd, 1) := by decide +kernel
theorem dX9_holds_50 : decode cX9_holds 50 = .ok (.iaload, 1) := by decide +kernel
theorem dX9_holds_51 : decode cX9_holds 51 = .ok (.istore 6, 2) := by decide +kernel
theorem dX9_holds_53 : decode cX9_holds 53 = .ok (.aload_n 0, 1) := by decide +kernel
theorem dX9_holds_54 : decode cX9_holds 54 = .ok (.getfield 123, 3) := by decide +kernel
theorem dX9_holds_57 : decode cX9_holds 57 = .ok (.iload 4, 2) := by decide +kernel
theorem dX9_holds_59 : decode cX9_holds 59 = .ok (.aload_n 0, 1) := by decide +kernel
theorem dX9_holds_60 : decode cX9_holds 60 = .ok (.getfield 114, 3) := by decide +kernel
theorem dX9_holds_63 : decode cX9_holds 63 = .ok (.iload_n 3, 1) := by decide +kernel
theorem dX9_holds_64 : decode cX9_holds 64 = .ok (.iconst 2, 1) := by decide +kernel
theorem dX9_holds_65 : decode cX9_holds 65 = .ok (.iadd, 1) := by decide +kernel
theorem dX9_holds_66 : decode cX9_holds 66 = .ok (.iaload, 1) := by decide +kernel
theorem dX9_holds_67 : decode cX9_holds 67 = .ok (.bipush 61, 2) := by decide +kernel
theorem dX9_holds_69 : decode cX9_holds 69 = .ok (.if_icmp .ne 18, 3) := by decide +kernel
theorem dX9_holds_72 : decode cX9_holds 72 = .ok (.iload 5, 2) := by decide +kernel
theorem dX9_holds_74 : decode cX9_holds 74 = .ok (.iload 6, 2) := by decide +kernel
theorem dX9_holds_76 : decode cX9_holds 76 = .ok (.if_icmp .ne 7, 3) := by decide +kernel
theorem dX9_holds_79 : decode cX9_holds 79 = .ok (.iconst 1, 1) := by decide +kernel
theorem dX9_holds_80 : decode cX9_holds 80 = .ok (.goto 47, 3) := by decide +kernel
theorem dX9_holds_83 : decode cX9_holds 83 = .ok (.iconst 0, 1) := by decide +kernel
theorem dX9_holds_84 : decode cX9_holds 84 = .ok (.goto 43, 3) := by decide +kernel
theorem dX9_holds_87 : decode cX9_holds 87 = .ok (.aload_n 0, 1) := by decide +kernel
theorem dX9_holds_88 : decode cX9_holds 88 = .ok (.getfield 114, 3) := by decide +kernel
theorem dX9_holds_91 : decode cX9_holds 91 = .ok (.iload_n 3, 1) := by decide +kernel
theorem dX9_holds_92 : decode cX9_holds 92 = .ok (.iconst 2, 1) := by decide +kernel
theorem dX9_holds_93 : decode cX9_holds 93 = .ok (.iadd, 1) := by decide +kernel
theorem dX9_holds_94 : decode cX9_holds 94 = .ok (.iaload, 1) := by decide +kernel
theorem dX9_holds_95 : decode cX9_holds 95 = .ok (.bipush 60, 2) := by decide +kernel
theorem dX9_holds_97 : decode cX9_holds 97 = .ok (.if_icmp .ne 18, 3) := by decide +kernel
theorem dX9_holds_100 : decode cX9_holds 100 = .ok (.iload 5, 2) := by decide +kernel
theorem dX9_holds_102 : decode cX9_holds 102 = .ok (.iload 6, 2) := by decide +kernel
theorem dX9_holds_104 : decode cX9_holds 104 = .ok (.if_icmp .ge 7, 3) := by decide +kernel
theorem dX9_holds_107 : decode cX9_holds 107 = .ok (.iconst 1, 1) := by decide +kernel
theorem dX9_holds_108 : decode cX9_holds 108 = .ok (.goto 19, 3) := by decide +kernel
theorem dX9_holds_111 : decode cX9_holds 111 = .ok (.iconst 0, 1) := by decide +kernel
theorem dX9_holds_112 : decode cX9_holds 112 = .ok (.goto 15, 3) := by decide +kernel
theorem dX9_holds_115 : decode cX9_holds 115 = .ok (.iload 5, 2) := by decide +kernel
theorem dX9_holds_117 : decode cX9_holds 117 = .ok (.iload 6, 2) := by decide +kernel
theorem dX9_holds_119 : decode cX9_holds 119 = .ok (.if_icmp .le 7, 3) := by decide +kernel
theorem dX9_holds_122 : decode cX9_holds 122 = .ok (.iconst 1, 1) := by decide +kernel
theorem dX9_holds_123 : decode cX9_holds 123 = .ok (.goto 4, 3) := by decide +kernel
theorem dX9_holds_126 : decode cX9_holds 126 = .ok (.iconst 0, 1) := by decide +kernel
theorem dX9_holds_127 : decode cX9_holds 127 = .ok (.bastore, 1) := by decide +kernel
theorem dX9_holds_128 : decode cX9_holds 128 = .ok (.iinc 4 1, 3) := by decide +kernel
theorem dX9_holds_131 : decode cX9_holds 131 = .ok (.iinc 3 4, 3) := by decide +kernel
theorem dX9_holds_134 : decode cX9_holds 134 = .ok (.goto (-125), 3) := by decide +kernel
theorem dX9_holds_137 : decode cX9_holds 137 = .ok (.iinc 4 (-1), 3) := by decide +kernel
theorem dX9_holds_140 : decode cX9_holds 140 = .ok (.aload_n 0, 1) := by decide +kernel
theorem dX9_holds_141 : decode cX9_holds 141 = .ok (.getfield 123, 3) := by decide +kernel
theorem dX9_holds_144 : decode cX9_holds 144 = .ok (.iload 4, 2) := by decide +kernel
theorem dX9_holds_146 : decode cX9_holds 146 = .ok (.iconst 1, 1) := by decide +kernel
theorem dX9_holds_147 : decode cX9_holds 147 = .ok (.isub, 1) := by decide +kernel
theorem dX9_holds_148 : decode cX9_holds 148 = .ok (.aload_n 0, 1) := by decide +kernel
theorem dX9_holds_149 : decode cX9_holds 149 = .ok (.getfield 114, 3) := by decide +kernel
theorem dX9_holds_152 : decode cX9_holds 152 = .ok (.iload_n 3, 1) := by decide +kernel
theorem dX9_holds_153 : decode cX9_holds 153 = .ok (.iaload, 1) := by decide +kernel
theorem dX9_holds_154 : decode cX9_holds 154 = .ok (.iconst 1, 1) := by decide +kernel
theorem dX9_holds_155 : decode cX9_holds 155 = .ok (.if_icmp .ne 33, 3) := by decide +kernel
theorem dX9_holds_158 : decode cX9_holds 158 = .ok (.aload_n 0, 1) := by decide +kernel
theorem dX9_holds_159 : decode cX9_holds 159 = .ok (.getfield 123, 3) := by decide +kernel
theorem dX9_holds_162 : decode cX9_holds 162 = .ok (.iload 4, 2) := by decide +kernel
theorem dX9_holds_164 : decode cX9_holds 164 = .ok (.iconst 1, 1) := by decide +kernel
theorem dX9_holds_165 : decode cX9_holds 165 = .ok (.isub, 1) := by decide +kernel
theorem dX9_holds_166 : decode cX9_holds 166 = .ok (.baload, 1) := by decide +kernel
theorem dX9_holds_167 : decode cX9_holds 167 = .ok (.ifCond .eq 17, 3) := by decide +kernel
theorem dX9_holds_170 : decode cX9_holds 170 = .ok (.aload_n 0, 1) := by decide +kernel
theorem dX9_holds_171 : decode cX9_holds 171 = .ok (.getfield 123, 3) := by decide +kernel
theorem dX9_holds_174 : decode cX9_holds 174 = .ok (.iload 4, 2) := by decide +kernel
theorem dX9_holds_176 : decode cX9_holds 176 = .ok (.baload, 1) := by decide +kernel
theorem dX9_holds_177 : decode cX9_holds 177 = .ok (.ifCond .eq 7, 3) := by decide +kernel
theorem dX9_holds_180 : decode cX9_holds 180 = .ok (.iconst 1, 1) := by decide +kernel
theorem dX9_holds_181 : decode cX9_holds 181 = .ok (.goto 34, 3) := by decide +kernel
theorem dX9_holds_184 : decode cX9_holds 184 = .ok (.iconst 0, 1) := by decide +kernel
theorem dX9_holds_185 : decode cX9_holds 185 = .ok (.goto 30, 3) := by decide +kernel
theorem dX9_holds_188 : decode cX9_holds 188 = .ok (.aload_n 0, 1) := by decide +kernel
theorem dX9_holds_189 : decode cX9_holds 189 = .ok (.getfield 123, 3) := by decide +kernel
theorem dX9_holds_192 : decode cX9_holds 192 = .ok (.iload 4, 2) := by decide +kernel
theorem dX9_holds_194 : decode cX9_holds 194 = .ok (.iconst 1, 1) := by decide +kernel
theorem dX9_holds_195 : decode cX9_holds 195 = .ok (.isub, 1) := by decide +kernel
theorem dX9_holds_196 : decode cX9_holds 196 = .ok (.baload, 1) := by decide +kernel
theorem dX9_holds_197 : decode cX9_holds 197 = .ok (.ifCond .ne 13, 3) := by decide +kernel
theorem dX9_holds_200 : decode cX9_holds 200 = .ok (.aload_n 0, 1) := by decide +kernel
theorem dX9_holds_201 : decode cX9_holds 201 = .ok (.getfield 123, 3) := by decide +kernel
theorem dX9_holds_204 : decode cX9_holds 204 = .ok (.iload 4, 2) := by decide +kernel
theorem dX9_holds_206 : decode cX9_holds 206 = .ok (.baload, 1) := by decide +kernel
theorem dX9_holds_207 : decode cX9_holds 207 = .ok (.ifCond .eq 7, 3) := by decide +kernel
theorem dX9_holds_210 : decode cX9_holds 210 = .ok (.iconst 1, 1) := by decide +kernel
theorem dX9_holds_211 : decode cX9_holds 211 = .ok (.goto 4, 3) := by decide +kernel
theorem dX9_holds_214 : decode cX9_holds 214 = .ok (.iconst 0, 1) := by decide +kernel
theorem dX9_holds_215 : decode cX9_holds 215 = .ok (.bastore, 1) := by decide +kernel
theorem dX9_holds_216 : decode cX9_holds 216 = .ok (.iinc 3 1, 3) := by decide +kernel
theorem dX9_holds_219 : decode cX9_holds 219 = .ok (.goto (-210), 3) := by decide +kernel
theorem dX9_holds_222 : decode cX9_holds 222 = .ok (.aload_n 0, 1) := by decide +kernel
theorem dX9_holds_223 : decode cX9_holds 223 = .ok (.getfield 123, 3) := by decide +kernel
theorem dX9_holds_226 : decode cX9_holds 226 = .ok (.iconst 0, 1) := by decide +kernel
theorem dX9_holds_227 : decode cX9_holds 227 = .ok (.baload, 1) := by decide +kernel
theorem dX9_holds_228 : decode cX9_holds 228 = .ok (.ireturn, 1) := by decide +kernel
theorem dX9_isLot_0 : decode cX9_isLot 0 = .ok (.iload_n 1, 1) := by decide +kernel
theorem dX9_isLot_1 : decode cX9_isLot 1 = .ok (.iconst 0, 1) := by decide +kernel
theorem dX9_isLot_2 : decode cX9_isLot 2 = .ok (.aload_n 0, 1) := by decide +kernel
theorem dX9_isLot_3 : decode cX9_isLot 3 = .ok (.getfield 173, 3) := by decide +kernel
theorem dX9_isLot_6 : decode cX9_isLot 6 = .ok (.iconst 1, 1) := by decide +kernel
theorem dX9_isLot_7 : decode cX9_isLot 7 = .ok (.isub, 1) := by decide +kernel
theorem dX9_isLot_8 : decode cX9_isLot 8 = .ok (.invokestatic 129, 3) := by decide +kernel
theorem dX9_isLot_11 : decode cX9_isLot 11 = .ok (.ireturn, 1) := by decide +kernel
theorem dX9_judge_0 : decode cX9_judge 0 = .ok (.iload_n 1, 1) := by decide +kernel
theorem dX9_judge_1 : decode cX9_judge 1 = .ok (.iconst 0, 1) := by decide +kernel
theorem dX9_judge_2 : decode cX9_judge 2 = .ok (.iconst 3, 1) := by decide +kernel
theorem dX9_judge_3 : decode cX9_judge 3 = .ok (.invokestatic 129, 3) := by decide +kernel
theorem dX9_judge_6 : decode cX9_judge 6 = .ok (.ifCond .eq 20, 3) := by decide +kernel
theorem dX9_judge_9 : decode cX9_judge 9 = .ok (.aload_n 0, 1) := by decide +kernel
theorem dX9_judge_10 : decode cX9_judge 10 = .ok (.getfield 120, 3) := by decide +kernel
theorem dX9_judge_13 : decode cX9_judge 13 = .ok (.iload_n 1, 1) := by decide +kernel
theorem dX9_judge_14 : decode cX9_judge 14 = .ok (.baload, 1) := by decide +kernel
theorem dX9_judge_15 : decode cX9_judge 15 = .ok (.ifCond .eq 11, 3) := by decide +kernel
theorem dX9_judge_18 : decode cX9_judge 18 = .ok (.aload_n 0, 1) := by decide +kernel
theorem dX9_judge_19 : decode cX9_judge 19 = .ok (.iload_n 2, 1) := by decide +kernel
theorem dX9_judge_20 : decode cX9_judge 20 = .ok (.invokevirtual 258, 3) := by decide +kernel
theorem dX9_judge_23 : decode cX9_judge 23 = .ok (.ifCond .ne 5, 3) := by decide +kernel
theorem dX9_judge_26 : decode cX9_judge 26 = .ok (.iconst (-1), 1) := by decide +kernel
theorem dX9_judge_27 : decode cX9_judge 27 = .ok (.ireturn, 1) := by decide +kernel
theorem dX9_judge_28 : decode cX9_judge 28 = .ok (.aload_n 0, 1) := by decide +kernel
theorem dX9_judge_29 : decode cX9_judge 29 = .ok (.iload_n 1, 1) := by decide +kernel
theorem dX9_judge_30 : decode cX9_judge 30 = .ok (.iload_n 2, 1) := by decide +kernel
theorem dX9_judge_31 : decode cX9_judge 31 = .ok (.invokevirtual 261, 3) := by decide +kernel
theorem dX9_judge_34 : decode cX9_judge 34 = .ok (.ifCond .eq 7, 3) := by decide +kernel
theorem dX9_judge_37 : decode cX9_judge 37 = .ok (.iconst 1, 1) := by decide +kernel
theorem dX9_judge_38 : decode cX9_judge 38 = .ok (.goto 4, 3) := by decide +kernel
theorem dX9_judge_41 : decode cX9_judge 41 = .ok (.iconst 0, 1) := by decide +kernel
theorem dX9_judge_42 : decode cX9_judge 42 = .ok (.ireturn, 1) := by decide +kernel
theorem dX9_branded_0 : decode cX9_branded 0 = .ok (.iconst 0, 1) := by decide +kernel
theorem dX9_branded_1 : decode cX9_branded 1 = .ok (.istore_n 2, 1) := by decide +kernel
theorem dX9_branded_2 : decode cX9_branded 2 = .ok (.iload_n 2, 1) := by decide +kernel
theorem dX9_branded_3 : decode cX9_branded 3 = .ok (.iconst 4, 1) := by decide +kernel
theorem dX9_branded_4 : decode cX9_branded 4 = .ok (.if_icmp .ge 37, 3) := by decide +kernel
theorem dX9_branded_7 : decode cX9_branded 7 = .ok (.aload_n 0, 1) := by decide +kernel
theorem dX9_branded_8 : decode cX9_branded 8 = .ok (.iload_n 1, 1) := by decide +kernel
theorem dX9_branded_9 : decode cX9_branded 9 = .ok (.invokevirtual 258, 3) := by decide +kernel
theorem dX9_branded_12 : decode cX9_branded 12 = .ok (.ifCond .eq 29, 3) := by decide +kernel
theorem dX9_branded_15 : decode cX9_branded 15 = .ok (.aload_n 0, 1) := by decide +kernel
theorem dX9_branded_16 : decode cX9_branded 16 = .ok (.getfield 120, 3) := by decide +kernel
theorem dX9_branded_19 : decode cX9_branded 19 = .ok (.iload_n 2, 1) := by decide +kernel
theorem dX9_branded_20 : decode cX9_branded 20 = .ok (.baload, 1) := by decide +kernel
theorem dX9_branded_21 : decode cX9_branded 21 = .ok (.ifCond .eq 14, 3) := by decide +kernel
theorem dX9_branded_24 : decode cX9_branded 24 = .ok (.aload_n 0, 1) := by decide +kernel
theorem dX9_branded_25 : decode cX9_branded 25 = .ok (.iload_n 2, 1) := by decide +kernel
theorem dX9_branded_26 : decode cX9_branded 26 = .ok (.iload_n 1, 1) := by decide +kernel
theorem dX9_branded_27 : decode cX9_branded 27 = .ok (.invokevirtual 261, 3) := by decide +kernel
theorem dX9_branded_30 : decode cX9_branded 30 = .ok (.ifCond .eq 5, 3) := by decide +kernel
theorem dX9_branded_33 : decode cX9_branded 33 = .ok (.iload_n 2, 1) := by decide +kernel
theorem dX9_branded_34 : decode cX9_branded 34 = .ok (.ireturn, 1) := by decide +kernel
theorem dX9_branded_35 : decode cX9_branded 35 = .ok (.iinc 2 1, 3) := by decide +kernel
theorem dX9_branded_38 : decode cX9_branded 38 = .ok (.goto (-36), 3) := by decide +kernel
theorem dX9_branded_41 : decode cX9_branded 41 = .ok (.iconst (-1), 1) := by decide +kernel
theorem dX9_branded_42 : decode cX9_branded 42 = .ok (.ireturn, 1) := by decide +kernel
theorem dX9_share_0 : decode cX9_share 0 = .ok (.aload_n 0, 1) := by decide +kernel
theorem dX9_share_1 : decode cX9_share 1 = .ok (.iload_n 1, 1) := by decide +kernel
theorem dX9_share_2 : decode cX9_share 2 = .ok (.invokevirtual 136, 3) := by decide +kernel
theorem dX9_share_5 : decode cX9_share 5 = .ok (.ifCond .eq 23, 3) := by decide +kernel
theorem dX9_share_8 : decode cX9_share 8 = .ok (.iload_n 2, 1) := by decide +kernel
theorem dX9_share_9 : decode cX9_share 9 = .ok (.iconst 0, 1) := by decide +kernel
theorem dX9_share_10 : decode cX9_share 10 = .ok (.bipush 7, 2) := by decide +kernel
theorem dX9_share_12 : decode cX9_share 12 = .ok (.invokestatic 129, 3) := by decide +kernel
theorem dX9_share_15 : decode cX9_share 15 = .ok (.ifCond .eq 13, 3) := by decide +kernel
theorem dX9_share_18 : decode cX9_share 18 = .ok (.iload_n 3, 1) := by decide +kernel
theorem dX9_share_19 : decode cX9_share 19 = .ok (.iconst 0, 1) := by decide +kernel
theorem dX9_share_20 : decode cX9_share 20 = .ok (.bipush 100, 2) := by decide +kernel
theorem dX9_share_22 : decode cX9_share 22 = .ok (.invokestatic 129, 3) := by decide +kernel
theorem dX9_share_25 : decode cX9_share 25 = .ok (.ifCond .ne 5, 3) := by decide +kernel
theorem dX9_share_28 : decode cX9_share 28 = .ok (.iconst 0, 1) := by decide +kernel
theorem dX9_share_29 : decode cX9_share 29 = .ok (.ireturn, 1) := by decide +kernel
theorem dX9_share_30 : decode cX9_share 30 = .ok (.aload_n 0, 1) := by decide +kernel
theorem dX9_share_31 : decode cX9_share 31 = .ok (.getfield 35, 3) := by decide +kernel
theorem dX9_share_34 : decode cX9_share 34 = .ok (.bipush 8, 2) := by decide +kernel
theorem dX9_share_36 : decode cX9_share 36 = .ok (.iload_n 1, 1) := by decide +kernel
theorem dX9_share_37 : decode cX9_share 37 = .ok (.imul, 1) := by decide +kernel
theorem dX9_share_38 : decode cX9_share 38 = .ok (.iload_n 2, 1) := by decide +kernel
theorem dX9_share_39 : decode cX9_share 39 = .ok (.iadd, 1) := by decide +kernel
theorem dX9_share_40 : decode cX9_share 40 = .ok (.iload_n 3, 1) := by decide +kernel
theorem dX9_share_41 : decode cX9_share 41 = .ok (.iastore, 1) := by decide +kernel
theorem dX9_share_42 : decode cX9_share 42 = .ok (.iconst 1, 1) := by decide +kernel
theorem dX9_share_43 : decode cX9_share 43 = .ok (.ireturn, 1) := by decide +kernel
theorem dX9_settle_0 : decode cX9_settle 0 = .ok (.iconst 0, 1) := by decide +kernel
theorem dX9_settle_1 : decode cX9_settle 1 = .ok (.istore_n 2, 1) := by decide +kernel
theorem dX9_settle_2 : decode cX9_settle 2 = .ok (.iconst 0, 1) := by decide +kernel
theorem dX9_settle_3 : decode cX9_settle 3 = .ok (.istore_n 3, 1) := by decide +kernel
theorem dX9_settle_4 : decode cX9_settle 4 = .ok (.iload_n 3, 1) := by decide +kernel
theorem dX9_settle_5 : decode cX9_settle 5 = .ok (.bipush 8, 2) := by decide +kernel
theorem dX9_settle_7 : decode cX9_settle 7 = .ok (.if_icmp .ge 43, 3) := by decide +kernel
theorem dX9_settle_10 : decode cX9_settle 10 = .ok (.aload_n 0, 1) := by decide +kernel
theorem dX9_settle_11 : decode cX9_settle 11 = .ok (.iload_n 1, 1) := by decide +kernel
theorem dX9_settle_12 : decode cX9_settle 12 = .ok (.invokevirtual 136, 3) := by decide +kernel
theorem dX9_settle_15 : decode cX9_settle 15 = .ok (.ifCond .eq 35, 3) := by decide +kernel
theorem dX9_settle_18 : decode cX9_settle 18 = .ok (.aload_n 0, 1) := by decide +kernel
theorem dX9_settle_19 : decode cX9_settle 19 = .ok (.getfield 87, 3) := by decide +kernel
theorem dX9_settle_22 : decode cX9_settle 22 = .ok (.iload_n 3, 1) := by decide +kernel
theorem dX9_settle_23 : decode cX9_settle 23 = .ok (.aload_n 0, 1) := by decide +kernel
theorem dX9_settle_24 : decode cX9_settle 24 = .ok (.getfield 35, 3) := by decide +kernel
theorem dX9_settle_27 : decode cX9_settle 27 = .ok (.bipush 8, 2) := by decide +kernel
theorem dX9_settle_29 : decode cX9_settle 29 = .ok (.iload_n 1, 1) := by decide +kernel
theorem dX9_settle_30 : decode cX9_settle 30 = .ok (.imul, 1) := by decide +kernel
theorem dX9_settle_31 : decode cX9_settle 31 = .ok (.iload_n 3, 1) := by decide +kernel
theorem dX9_settle_32 : decode cX9_settle 32 = .ok (.iadd, 1) := by decide +kernel
theorem dX9_settle_33 : decode cX9_settle 33 = .ok (.iaload, 1) := by decide +kernel
theorem dX9_settle_34 : decode cX9_settle 34 = .ok (.iastore, 1) := by decide +kernel
theorem dX9_settle_35 : decode cX9_settle 35 = .ok (.iload_n 2, 1) := by decide +kernel
theorem dX9_settle_36 : decode cX9_settle 36 = .ok (.aload_n 0, 1) := by decide +kernel
theorem dX9_settle_37 : decode cX9_settle 37 = .ok (.getfield 87, 3) := by decide +kernel
theorem dX9_settle_40 : decode cX9_settle 40 = .ok (.iload_n 3, 1) := by decide +kernel
theorem dX9_settle_41 : decode cX9_settle 41 = .ok (.iaload, 1) := by decide +kernel
theorem dX9_settle_42 : decode cX9_settle 42 = .ok (.iadd, 1) := by decide +kernel
theorem dX9_settle_43 : decode cX9_settle 43 = .ok (.istore_n 2, 1) := by decide +kernel
theorem dX9_settle_44 : decode cX9_settle 44 = .ok (.iinc 3 1, 3) := by decide +kernel
theorem dX9_settle_47 : decode cX9_settle 47 = .ok (.goto (-43), 3) := by decide +kernel
theorem dX9_settle_50 : decode cX9_settle 50 = .ok (.iload_n 2, 1) := by decide +kernel
theorem dX9_settle_51 : decode cX9_settle 51 = .ok (.ifCond .eq 12, 3) := by decide +kernel
theorem dX9_settle_54 : decode cX9_settle 54 = .ok (.aload_n 0, 1) := by decide +kernel
theorem dX9_settle_55 : decode cX9_settle 55 = .ok (.getfield 29, 3) := by decide +kernel
theorem dX9_settle_58 : decode cX9_settle 58 = .ok (.iload_n 1, 1) := by decide +kernel
theorem dX9_settle_59 : decode cX9_settle 59 = .ok (.iaload, 1) := by decide +kernel
theorem dX9_settle_60 : decode cX9_settle 60 = .ok (.ifCond .ne 5, 3) := by decide +kernel
theorem dX9_settle_63 : decode cX9_settle 63 = .ok (.iconst (-1), 1) := by decide +kernel
theorem dX9_settle_64 : decode cX9_settle 64 = .ok (.ireturn, 1) := by decide +kernel
theorem dX9_settle_65 : decode cX9_settle 65 = .ok (.aload_n 0, 1) := by decide +kernel
theorem dX9_settle_66 : decode cX9_settle 66 = .ok (.getfield 29, 3) := by decide +kernel
theorem dX9_settle_69 : decode cX9_settle 69 = .ok (.iload_n 1, 1) := by decide +kernel
theorem dX9_settle_70 : decode cX9_settle 70 = .ok (.iaload, 1) := by decide +kernel
theorem dX9_settle_71 : decode cX9_settle 71 = .ok (.istore_n 3, 1) := by decide +kernel
theorem dX9_settle_72 : decode cX9_settle 72 = .ok (.aload_n 0, 1) := by decide +kernel
theorem dX9_settle_73 : decode cX9_settle 73 = .ok (.iload_n 3, 1) := by decide +kernel
theorem dX9_settle_74 : decode cX9_settle 74 = .ok (.i2l, 1) := by decide +kernel
theorem dX9_settle_75 : decode cX9_settle 75 = .ok (.bipush 8, 2) := by decide +kernel
theorem dX9_settle_77 : decode cX9_settle 77 = .ok (.invokevirtual 149, 3) := by decide +kernel
theorem dX9_settle_80 : decode cX9_settle 80 = .ok (.iconst 0, 1) := by decide +kernel
theorem dX9_settle_81 : decode cX9_settle 81 = .ok (.istore 4, 2) := by decide +kernel
theorem dX9_settle_83 : decode cX9_settle 83 = .ok (.iload 4, 2) := by decide +kernel
theorem dX9_settle_85 : decode cX9_settle 85 = .ok (.bipush 8, 2) := by decide +kernel
theorem dX9_settle_87 : decode cX9_settle 87 = .ok (.if_icmp .ge 31, 3) := by decide +kernel
theorem dX9_settle_90 : decode cX9_settle 90 = .ok (.aload_n 0, 1) := by decide +kernel
theorem dX9_settle_91 : decode cX9_settle 91 = .ok (.getfield 38, 3) := by decide +kernel
theorem dX9_settle_94 : decode cX9_settle 94 = .ok (.bipush 8, 2) := by decide +kernel
theorem dX9_settle_96 : decode cX9_settle 96 = .ok (.iload_n 1, 1) := by decide +kernel
theorem dX9_settle_97 : decode cX9_settle 97 = .ok (.imul, 1) := by decide +kernel
theorem dX9_settle_98 : decode cX9_settle 98 = .ok (.iload 4, 2) := by decide +kernel
theorem dX9_settle_100 : decode cX9_settle 100 = .ok (.iadd, 1) := by decide +kernel
theorem dX9_settle_101 : decode cX9_settle 101 = .ok (.dup2, 1) := by decide +kernel
theorem dX9_settle_102 : decode cX9_settle 102 = .ok (.iaload, 1) := by decide +kernel
theorem dX9_settle_103 : decode cX9_settle 103 = .ok (.aload_n 0, 1) := by decide +kernel
theorem dX9_settle_104 : decode cX9_settle 104 = .ok (.getfield 90, 3) := by decide +kernel
theorem dX9_settle_107 : decode cX9_settle 107 = .ok (.iload 4, 2) := by decide +kernel
theorem dX9_settle_109 : decode cX9_settle 109 = .ok (.iaload, 1) := by decide +kernel
theorem dX9_settle_110 : decode cX9_settle 110 = .ok (.iadd, 1) := by decide +kernel
theorem dX9_settle_111 : decode cX9_settle 111 = .ok (.iastore, 1) := by decide +kernel
theorem dX9_settle_112 : decode cX9_settle 112 = .ok (.iinc 4 1, 3) := by decide +kernel
theorem dX9_settle_115 : decode cX9_settle 115 = .ok (.goto (-32), 3) := by decide +kernel
theorem dX9_settle_118 : decode cX9_settle 118 = .ok (.aload_n 0, 1) := by decide +kernel
theorem dX9_settle_119 : decode cX9_settle 119 = .ok (.getfield 29, 3) := by decide +kernel
theorem dX9_settle_122 : decode cX9_settle 122 = .ok (.iload_n 1, 1) := by decide +kernel
theorem dX9_settle_123 : decode cX9_settle 123 = .ok (.iconst 0, 1) := by decide +kernel
theorem dX9_settle_124 : decode cX9_settle 124 = .ok (.iastore, 1) := by decide +kernel
theorem dX9_settle_125 : decode cX9_settle 125 = .ok (.iload_n 3, 1) := by decide +kernel
theorem dX9_settle_126 : decode cX9_settle 126 = .ok (.ireturn, 1) := by decide +kernel
theorem dX9_coins_0 : decode cX9_coins 0 = .ok (.aload_n 0, 1) := by decide +kernel
theorem dX9_coins_1 : decode cX9_coins 1 = .ok (.iload_n 1, 1) := by decide +kernel
theorem dX9_coins_2 : decode cX9_coins 2 = .ok (.invokevirtual 136, 3) := by decide +kernel
theorem dX9_coins_5 : decode cX9_coins 5 = .ok (.ifCond .eq 27, 3) := by decide +kernel
theorem dX9_coins_8 : decode cX9_coins 8 = .ok (.iload_n 2, 1) := by decide +kernel
theorem dX9_coins_9 : decode cX9_coins 9 = .ok (.iconst 0, 1) := by decide +kernel
theorem dX9_coins_10 : decode cX9_coins 10 = .ok (.bipush 7, 2) := by decide +kernel
theorem dX9_coins_12 : decode cX9_coins 12 = .ok (.invokestatic 129, 3) := by decide +kernel
theorem dX9_coins_15 : decode cX9_coins 15 = .ok (.ifCond .eq 17, 3) := by decide +kernel
theorem dX9_coins_18 : decode cX9_coins 18 = .ok (.aload_n 0, 1) := by decide +kernel
theorem dX9_coins_19 : decode cX9_coins 19 = .ok (.getfield 38, 3) := by decide +kernel
theorem dX9_coins_22 : decode cX9_coins 22 = .ok (.bipush 8, 2) := by decide +kernel
theorem dX9_coins_24 : decode cX9_coins 24 = .ok (.iload_n 1, 1) := by decide +kernel
theorem dX9_coins_25 : decode cX9_coins 25 = .ok (.imul, 1) := by decide +kernel
theorem dX9_coins_26 : decode cX9_coins 26 = .ok (.iload_n 2, 1) := by decide +kernel
theorem dX9_coins_27 : decode cX9_coins 27 = .ok (.iadd, 1) := by decide +kernel
theorem dX9_coins_28 : decode cX9_coins 28 = .ok (.iaload, 1) := by decide +kernel
theorem dX9_coins_29 : decode cX9_coins 29 = .ok (.goto 4, 3) := by decide +kernel
theorem dX9_coins_32 : decode cX9_coins 32 = .ok (.iconst 0, 1) := by decide +kernel
theorem dX9_coins_33 : decode cX9_coins 33 = .ok (.ireturn, 1) := by decide +kernel
theorem dX9_cell_0 : decode cX9_cell 0 = .ok (.iload_n 1, 1) := by decide +kernel
theorem dX9_cell_1 : decode cX9_cell 1 = .ok (.iconst 0, 1) := by decide +kernel
theorem dX9_cell_2 : decode cX9_cell 2 = .ok (.bipush 35, 2) := by decide +kernel
theorem dX9_cell_4 : decode cX9_cell 4 = .ok (.invokestatic 129, 3) := by decide +kernel
theorem dX9_cell_7 : decode cX9_cell 7 = .ok (.ifCond .ne 5, 3) := by decide +kernel
theorem dX9_cell_10 : decode cX9_cell 10 = .ok (.iconst (-1), 1) := by decide +kernel
theorem dX9_cell_11 : decode cX9_cell 11 = .ok (.ireturn, 1) := by decide +kernel
theorem dX9_cell_12 : decode cX9_cell 12 = .ok (.iload_n 2, 1) := by decide +kernel
theorem dX9_cell_13 : decode cX9_cell 13 = .ok (.ifCond .ne 12, 3) := by decide +kernel
theorem dX9_cell_16 : decode cX9_cell 16 = .ok (.aload_n 0, 1) := by decide +kernel
theorem dX9_cell_17 : decode cX9_cell 17 = .ok (.getfield 9, 3) := by decide +kernel
theorem dX9_cell_20 : decode cX9_cell 20 = .ok (.iload_n 1, 1) := by decide +kernel
theorem dX9_cell_21 : decode cX9_cell 21 = .ok (.iaload, 1) := by decide +kernel
theorem dX9_cell_22 : decode cX9_cell 22 = .ok (.goto 26, 3) := by decide +kernel
theorem dX9_cell_25 : decode cX9_cell 25 = .ok (.iload_n 2, 1) := by decide +kernel
theorem dX9_cell_26 : decode cX9_cell 26 = .ok (.iconst 1, 1) := by decide +kernel
theorem dX9_cell_27 : decode cX9_cell 27 = .ok (.if_icmp .ne 20, 3) := by decide +kernel
theorem dX9_cell_30 : decode cX9_cell 30 = .ok (.aload_n 0, 1) := by decide +kernel
theorem dX9_cell_31 : decode cX9_cell 31 = .ok (.getfield 13, 3) := by decide +kernel
theorem dX9_cell_34 : decode cX9_cell 34 = .ok (.iload_n 1, 1) := by decide +kernel
theorem dX9_cell_35 : decode cX9_cell 35 = .ok (.baload, 1) := by decide +kernel
theorem dX9_cell_36 : decode cX9_cell 36 = .ok (.ifCond .eq 7, 3) := by decide +kernel
theorem dX9_cell_39 : decode cX9_cell 39 = .ok (.iconst 1, 1) := by decide +kernel
theorem dX9_cell_40 : decode cX9_cell 40 = .ok (.goto 8, 3) := by decide +kernel
theorem dX9_cell_43 : decode cX9_cell 43 = .ok (.iconst 0, 1) := by decide +kernel
theorem dX9_cell_44 : decode cX9_cell 44 = .ok (.goto 4, 3) := by decide +kernel
theorem dX9_cell_47 : decode cX9_cell 47 = .ok (.iconst (-1), 1) := by decide +kernel
theorem dX9_cell_48 : decode cX9_cell 48 = .ok (.ireturn, 1) := by decide +kernel
theorem dX9_told_0 : decode cX9_told 0 = .ok (.aload_n 0, 1) := by decide +kernel
theorem dX9_told_1 : decode cX9_told 1 = .ok (.iload_n 1, 1) := by decide +kernel
theorem dX9_told_2 : decode cX9_told 2 = .ok (.invokevirtual 136, 3) := by decide +kernel
theorem dX9_told_5 : decode cX9_told 5 = .ok (.ifCond .ne 5, 3) := by decide +kernel
theorem dX9_told_8 : decode cX9_told 8 = .ok (.iconst (-1), 1) := by decide +kernel
theorem dX9_told_9 : decode cX9_told 9 = .ok (.ireturn, 1) := by decide +kernel
theorem dX9_told_10 : decode cX9_told 10 = .ok (.iload_n 2, 1) := by decide +kernel
theorem dX9_told_11 : decode cX9_told 11 = .ok (.tableswitch 79 0 5 #[37, 44, 51, 58, 65, 72], 37) := by decide +kernel
theorem dX9_told_48 : decode cX9_told 48 = .ok (.aload_n 0, 1) := by decide +kernel
theorem dX9_told_49 : decode cX9_told 49 = .ok (.getfield 17, 3) := by decide +kernel
theorem dX9_told_52 : decode cX9_told 52 = .ok (.iload_n 1, 1) := by decide +kernel
theorem dX9_told_53 : decode cX9_told 53 = .ok (.iaload, 1) := by decide +kernel
theorem dX9_told_54 : decode cX9_told 54 = .ok (.ireturn, 1) := by decide +kernel
theorem dX9_told_55 : decode cX9_told 55 = .ok (.aload_n 0, 1) := by decide +kernel
theorem dX9_told_56 : decode cX9_told 56 = .ok (.getfield 20, 3) := by decide +kernel
theorem dX9_told_59 : decode cX9_told 59 = .ok (.iload_n 1, 1) := by decide +kernel
theorem dX9_told_60 : decode cX9_told 60 = .ok (.iaload, 1) := by decide +kernel
theorem dX9_told_61 : decode cX9_told 61 = .ok (.ireturn, 1) := by decide +kernel
theorem dX9_told_62 : decode cX9_told 62 = .ok (.aload_n 0, 1) := by decide +kernel
theorem dX9_told_63 : decode cX9_told 63 = .ok (.getfield 23, 3) := by decide +kernel
theorem dX9_told_66 : decode cX9_told 66 = .ok (.iload_n 1, 1) := by decide +kernel
theorem dX9_told_67 : decode cX9_told 67 = .ok (.iaload, 1) := by decide +kernel
theorem dX9_told_68 : decode cX9_told 68 = .ok (.ireturn, 1) := by decide +kernel
theorem dX9_told_69 : decode cX9_told 69 = .ok (.aload_n 0, 1) := by decide +kernel
theorem dX9_told_70 : decode cX9_told 70 = .ok (.getfield 29, 3) := by decide +kernel
theorem dX9_told_73 : decode cX9_told 73 = .ok (.iload_n 1, 1) := by decide +kernel
theorem dX9_told_74 : decode cX9_told 74 = .ok (.iaload, 1) := by decide +kernel
theorem dX9_told_75 : decode cX9_told 75 = .ok (.ireturn, 1) := by decide +kernel
theorem dX9_told_76 : decode cX9_told 76 = .ok (.aload_n 0, 1) := by decide +kernel
theorem dX9_told_77 : decode cX9_told 77 = .ok (.getfield 32, 3) := by decide +kernel
theorem dX9_told_80 : decode cX9_told 80 = .ok (.iload_n 1, 1) := by decide +kernel
theorem dX9_told_81 : decode cX9_told 81 = .ok (.iaload, 1) := by decide +kernel
theorem dX9_told_82 : decode cX9_told 82 = .ok (.ireturn, 1) := by decide +kernel
theorem dX9_told_83 : decode cX9_told 83 = .ok (.aload_n 0, 1) := by decide +kernel
theorem dX9_told_84 : decode cX9_told 84 = .ok (.getfield 26, 3) := by decide +kernel
theorem dX9_told_87 : decode cX9_told 87 = .ok (.iload_n 1, 1) := by decide +kernel
theorem dX9_told_88 : decode cX9_told 88 = .ok (.iaload, 1) := by decide +kernel
theorem dX9_told_89 : decode cX9_told 89 = .ok (.ireturn, 1) := by decide +kernel
theorem dX9_told_90 : decode cX9_told 90 = .ok (.iconst (-1), 1) := by decide +kernel
theorem dX9_told_91 : decode cX9_told 91 = .ok (.ireturn, 1) := by decide +kernel
theorem dX9_lot_0 : decode cX9_lot 0 = .ok (.aload_n 0, 1) := by decide +kernel
theorem dX9_lot_1 : decode cX9_lot 1 = .ok (.iload_n 1, 1) := by decide +kernel
theorem dX9_lot_2 : decode cX9_lot 2 = .ok (.invokevirtual 258, 3) := by decide +kernel
theorem dX9_lot_5 : decode cX9_lot 5 = .ok (.ifCond .ne 5, 3) := by decide +kernel
theorem dX9_lot_8 : decode cX9_lot 8 = .ok (.iconst (-1), 1) := by decide +kernel
theorem dX9_lot_9 : decode cX9_lot 9 = .ok (.ireturn, 1) := by decide +kernel
theorem dX9_lot_10 : decode cX9_lot 10 = .ok (.iload_n 2, 1) := by decide +kernel
theorem dX9_lot_11 : decode cX9_lot 11 = .ok (.tableswitch 134 0 10 #[57, 64, 71, 78, 85, 92, 99, 106, 113, 120, 127], 57) := by decide +kernel
theorem dX9_lot_68 : decode cX9_lot 68 = .ok (.aload_n 0, 1) := by decide +kernel
theorem dX9_lot_69 : decode cX9_lot 69 = .ok (.getfield 50, 3) := by decide +kernel
theorem dX9_lot_72 : decode cX9_lot 72 = .ok (.iload_n 1, 1) := by decide +kernel
theorem dX9_lot_73 : decode cX9_lot 73 = .ok (.iaload, 1) := by decide +kernel
theorem dX9_lot_74 : decode cX9_lot 74 = .ok (.ireturn, 1) := by decide +kernel
theorem dX9_lot_75 : decode cX9_lot 75 = .ok (.aload_n 0, 1) := by decide +kernel
theorem dX9_lot_76 : decode cX9_lot 76 = .ok (.getfield 53, 3) := by decide +kernel
theorem dX9_lot_79 : decode cX9_lot 79 = .ok (.iload_n 1, 1) := by decide +kernel
theorem dX9_lot_80 : decode cX9_lot 80 = .ok (.iaload, 1) := by decide +kernel
theorem dX9_lot_81 : decode cX9_lot 81 = .ok (.ireturn, 1) := by decide +kernel
theorem dX9_lot_82 : decode cX9_lot 82 = .ok (.aload_n 0, 1) := by decide +kernel
theorem dX9_lot_83 : decode cX9_lot 83 = .ok (.getfield 56, 3) := by decide +kernel
theorem dX9_lot_86 : decode cX9_lot 86 = .ok (.iload_n 1, 1) := by decide +kernel
theorem dX9_lot_87 : decode cX9_lot 87 = .ok (.iaload, 1) := by decide +kernel
theorem dX9_lot_88 : decode cX9_lot 88 = .ok (.ireturn, 1) := by decide +kernel
theorem dX9_lot_89 : decode cX9_lot 89 = .ok (.aload_n 0, 1) := by decide +kernel
theorem dX9_lot_90 : decode cX9_lot 90 = .ok (.getfield 59, 3) := by decide +kernel
theorem dX9_lot_93 : decode cX9_lot 93 = .ok (.iload_n 1, 1) := by decide +kernel
theorem dX9_lot_94 : decode cX9_lot 94 = .ok (.iaload, 1) := by decide +kernel
theorem dX9_lot_95 : decode cX9_lot 95 = .ok (.ireturn, 1) := by decide +kernel
theorem dX9_lot_96 : decode cX9_lot 96 = .ok (.aload_n 0, 1) := by decide +kernel
theorem dX9_lot_97 : decode cX9_lot 97 = .ok (.getfield 62, 3) := by decide +kernel
theorem dX9_lot_100 : decode cX9_lot 100 = .ok (.iload_n 1, 1) := by decide +kernel
theorem dX9_lot_101 : decode cX9_lot 101 = .ok (.iaload, 1) := by decide +kernel
theorem dX9_lot_102 : decode cX9_lot 102 = .ok (.ireturn, 1) := by decide +kernel
theorem dX9_lot_103 : decode cX9_lot 103 = .ok (.aload_n 0, 1) := by decide +kernel
theorem dX9_lot_104 : decode cX9_lot 104 = .ok (.getfield 65, 3) := by decide +kernel
theorem dX9_lot_107 : decode cX9_lot 107 = .ok (.iload_n 1, 1) := by decide +kernel
theorem dX9_lot_108 : decode cX9_lot 108 = .ok (.iaload, 1) := by decide +kernel
theorem dX9_lot_109 : decode cX9_lot 109 = .ok (.ireturn, 1) := by decide +kernel
theorem dX9_lot_110 : decode cX9_lot 110 = .ok (.aload_n 0, 1) := by decide +kernel
theorem dX9_lot_111 : decode cX9_lot 111 = .ok (.getfield 68, 3) := by decide +kernel
theorem dX9_lot_114 : decode cX9_lot 114 = .ok (.iload_n 1, 1) := by decide +kernel
theorem dX9_lot_115 : decode cX9_lot 115 = .ok (.iaload, 1) := by decide +kernel
theorem dX9_lot_116 : decode cX9_lot 116 = .ok (.ireturn, 1) := by decide +kernel
theorem dX9_lot_117 : decode cX9_lot 117 = .ok (.aload_n 0, 1) := by decide +kernel
theorem dX9_lot_118 : decode cX9_lot 118 = .ok (.getfield 71, 3) := by decide +kernel
theorem dX9_lot_121 : decode cX9_lot 121 = .ok (.iload_n 1, 1) := by decide +kernel
theorem dX9_lot_122 : decode cX9_lot 122 = .ok (.iaload, 1) := by decide +kernel
theorem dX9_lot_123 : decode cX9_lot 123 = .ok (.ireturn, 1) := by decide +kernel
theorem dX9_lot_124 : decode cX9_lot 124 = .ok (.aload_n 0, 1) := by decide +kernel
theorem dX9_lot_125 : decode cX9_lot 125 = .ok (.getfield 74, 3) := by decide +kernel
theorem dX9_lot_128 : decode cX9_lot 128 = .ok (.iload_n 1, 1) := by decide +kernel
theorem dX9_lot_129 : decode cX9_lot 129 = .ok (.iaload, 1) := by decide +kernel
theorem dX9_lot_130 : decode cX9_lot 130 = .ok (.ireturn, 1) := by decide +kernel
theorem dX9_lot_131 : decode cX9_lot 131 = .ok (.aload_n 0, 1) := by decide +kernel
theorem dX9_lot_132 : decode cX9_lot 132 = .ok (.getfield 77, 3) := by decide +kernel
theorem dX9_lot_135 : decode cX9_lot 135 = .ok (.iload_n 1, 1) := by decide +kernel
theorem dX9_lot_136 : decode cX9_lot 136 = .ok (.iaload, 1) := by decide +kernel
theorem dX9_lot_137 : decode cX9_lot 137 = .ok (.ireturn, 1) := by decide +kernel
theorem dX9_lot_138 : decode cX9_lot 138 = .ok (.aload_n 0, 1) := by decide +kernel
theorem dX9_lot_139 : decode cX9_lot 139 = .ok (.getfield 80, 3) := by decide +kernel
theorem dX9_lot_142 : decode cX9_lot 142 = .ok (.iload_n 1, 1) := by decide +kernel
theorem dX9_lot_143 : decode cX9_lot 143 = .ok (.iaload, 1) := by decide +kernel
theorem dX9_lot_144 : decode cX9_lot 144 = .ok (.ireturn, 1) := by decide +kernel
theorem dX9_lot_145 : decode cX9_lot 145 = .ok (.iconst (-1), 1) := by decide +kernel
theorem dX9_lot_146 : decode cX9_lot 146 = .ok (.ireturn, 1) := by decide +kernel
theorem dX9_count_0 : decode cX9_count 0 = .ok (.iconst 0, 1) := by decide +kernel
theorem dX9_count_1 : decode cX9_count 1 = .ok (.istore_n 2, 1) := by decide +kernel
theorem dX9_count_2 : decode cX9_count 2 = .ok (.iconst 0, 1) := by decide +kernel
theorem dX9_count_3 : decode cX9_count 3 = .ok (.istore_n 3, 1) := by decide +kernel
theorem dX9_count_4 : decode cX9_count 4 = .ok (.iconst 0, 1) := by decide +kernel
theorem dX9_count_5 : decode cX9_count 5 = .ok (.istore 4, 2) := by decide +kernel
theorem dX9_count_7 : decode cX9_count 7 = .ok (.iload 4, 2) := by decide +kernel
theorem dX9_count_9 : decode cX9_count 9 = .ok (.bipush 36, 2) := by decide +kernel
theorem dX9_count_11 : decode cX9_count 11 = .ok (.if_icmp .ge 19, 3) := by decide +kernel
theorem dX9_count_14 : decode cX9_count 14 = .ok (.iload_n 2, 1) := by decide +kernel
theorem dX9_count_15 : decode cX9_count 15 = .ok (.aload_n 0, 1) := by decide +kernel
theorem dX9_count_16 : decode cX9_count 16 = .ok (.getfield 9, 3) := by decide +kernel
theorem dX9_count_19 : decode cX9_count 19 = .ok (.iload 4, 2) := by decide +kernel
theorem dX9_count_21 : decode cX9_count 21 = .ok (.iaload, 1) := by decide +kernel
theorem dX9_count_22 : decode cX9_count 22 = .ok (.iadd, 1) := by decide +kernel
theorem dX9_count_23 : decode cX9_count 23 = .ok (.istore_n 2, 1) := by decide +kernel
theorem dX9_count_24 : decode cX9_count 24 = .ok (.iinc 4 1, 3) := by decide +kernel
theorem dX9_count_27 : decode cX9_count 27 = .ok (.goto (-20), 3) := by decide +kernel
theorem dX9_count_30 : decode cX9_count 30 = .ok (.iconst 0, 1) := by decide +kernel
theorem dX9_count_31 : decode cX9_count 31 = .ok (.istore 4, 2) := by decide +kernel
theorem dX9_count_33 : decode cX9_count 33 = .ok (.iload 4, 2) := by decide +kernel
theorem dX9_count_35 : decode cX9_count 35 = .ok (.aload_n 0, 1) := by decide +kernel
theorem dX9_count_36 : decode cX9_count 36 = .ok (.getfield 126, 3) := by decide +kernel
theorem dX9_count_39 : decode cX9_count 39 = .ok (.if_icmp .ge 19, 3) := by decide +kernel
theorem dX9_count_42 : decode cX9_count 42 = .ok (.iload_n 3, 1) := by decide +kernel
theorem dX9_count_43 : decode cX9_count 43 = .ok (.aload_n 0, 1) := by decide +kernel
theorem dX9_count_44 : decode cX9_count 44 = .ok (.getfield 29, 3) := by decide +kernel
theorem dX9_count_47 : decode cX9_count 47 = .ok (.iload 4, 2) := by decide +kernel
theorem dX9_count_49 : decode cX9_count 49 = .ok (.iaload, 1) := by decide +kernel
theorem dX9_count_50 : decode cX9_count 50 = .ok (.iadd, 1) := by decide +kernel
theorem dX9_count_51 : decode cX9_count 51 = .ok (.istore_n 3, 1) := by decide +kernel
theorem dX9_count_52 : decode cX9_count 52 = .ok (.iinc 4 1, 3) := by decide +kernel
theorem dX9_count_55 : decode cX9_count 55 = .ok (.goto (-22), 3) := by decide +kernel
theorem dX9_count_58 : decode cX9_count 58 = .ok (.iload_n 1, 1) := by decide +kernel
theorem dX9_count_59 : decode cX9_count 59 = .ok (.tableswitch 115 0 11 #[61, 66, 71, 76, 81, 83, 88, 93, 98, 103, 108, 110], 61) := by decide +kernel
theorem dX9_count_120 : decode cX9_count 120 = .ok (.aload_n 0, 1) := by decide +kernel
theorem dX9_count_121 : decode cX9_count 121 = .ok (.getfield 183, 3) := by decide +kernel
theorem dX9_count_124 : decode cX9_count 124 = .ok (.ireturn, 1) := by decide +kernel
theorem dX9_count_125 : decode cX9_count 125 = .ok (.aload_n 0, 1) := by decide +kernel
theorem dX9_count_126 : decode cX9_count 126 = .ok (.getfield 126, 3) := by decide +kernel
theorem dX9_count_129 : decode cX9_count 129 = .ok (.ireturn, 1) := by decide +kernel
theorem dX9_count_130 : decode cX9_count 130 = .ok (.aload_n 0, 1) := by decide +kernel
theorem dX9_count_131 : decode cX9_count 131 = .ok (.getfield 140, 3) := by decide +kernel
theorem dX9_count_134 : decode cX9_count 134 = .ok (.ireturn, 1) := by decide +kernel
theorem dX9_count_135 : decode cX9_count 135 = .ok (.aload_n 0, 1) := by decide +kernel
theorem dX9_count_136 : decode cX9_count 136 = .ok (.getfield 173, 3) := by decide +kernel
theorem dX9_count_139 : decode cX9_count 139 = .ok (.ireturn, 1) := by decide +kernel
theorem dX9_count_140 : decode cX9_count 140 = .ok (.iload_n 2, 1) := by decide +kernel
theorem dX9_count_141 : decode cX9_count 141 = .ok (.ireturn, 1) := by decide +kernel
theorem dX9_count_142 : decode cX9_count 142 = .ok (.aload_n 0, 1) := by decide +kernel
theorem dX9_count_143 : decode cX9_count 143 = .ok (.getfield 198, 3) := by decide +kernel
theorem dX9_count_146 : decode cX9_count 146 = .ok (.ireturn, 1) := by decide +kernel
theorem dX9_count_147 : decode cX9_count 147 = .ok (.aload_n 0, 1) := by decide +kernel
theorem dX9_count_148 : decode cX9_count 148 = .ok (.getfield 189, 3) := by decide +kernel
theorem dX9_count_151 : decode cX9_count 151 = .ok (.ireturn, 1) := by decide +kernel
theorem dX9_count_152 : decode cX9_count 152 = .ok (.aload_n 0, 1) := by decide +kernel
theorem dX9_count_153 : decode cX9_count 153 = .ok (.getfield 186, 3) := by decide +kernel
theorem dX9_count_156 : decode cX9_count 156 = .ok (.ireturn, 1) := by decide +kernel
theorem dX9_count_157 : decode cX9_count 157 = .ok (.aload_n 0, 1) := by decide +kernel
theorem dX9_count_158 : decode cX9_count 158 = .ok (.getfield 157, 3) := by decide +kernel
theorem dX9_count_161 : decode cX9_count 161 = .ok (.ireturn, 1) := by decide +kernel
theorem dX9_count_162 : decode cX9_count 162 = .ok (.aload_n 0, 1) := by decide +kernel
theorem dX9_count_163 : decode cX9_count 163 = .ok (.getfield 180, 3) := by decide +kernel
theorem dX9_count_166 : decode cX9_count 166 = .ok (.ireturn, 1) := by decide +kernel
theorem dX9_count_167 : decode cX9_count 167 = .ok (.iload_n 3, 1) := by decide +kernel
theorem dX9_count_168 : decode cX9_count 168 = .ok (.ireturn, 1) := by decide +kernel
theorem dX9_count_169 : decode cX9_count 169 = .ok (.aload_n 0, 1) := by decide +kernel
theorem dX9_count_170 : decode cX9_count 170 = .ok (.getfield 215, 3) := by decide +kernel
theorem dX9_count_173 : decode cX9_count 173 = .ok (.ireturn, 1) := by decide +kernel
theorem dX9_count_174 : decode cX9_count 174 = .ok (.iconst (-1), 1) := by decide +kernel
theorem dX9_count_175 : decode cX9_count 175 = .ok (.ireturn, 1) := by decide +kernel
theorem dL_law_0 : decode cL_law 0 = .ok (.new 7, 3) := by decide +kernel
theorem dL_law_3 : decode cL_law 3 = .ok (.dup, 1) := by decide +kernel
theorem dL_law_4 : decode cL_law 4 = .ok (.invokespecial 9, 3) := by decide +kernel
theorem dL_law_7 : decode cL_law 7 = .ok (.astore_n 1, 1) := by decide +kernel
theorem dL_law_8 : decode cL_law 8 = .ok (.new 10, 3) := by decide +kernel
theorem dL_law_11 : decode cL_law 11 = .ok (.dup, 1) := by decide +kernel
theorem dL_law_12 : decode cL_law 12 = .ok (.invokespecial 12, 3) := by decide +kernel
theorem dL_law_15 : decode cL_law 15 = .ok (.astore_n 2, 1) := by decide +kernel
theorem dL_law_16 : decode cL_law 16 = .ok (.iconst 0, 1) := by decide +kernel
theorem dL_law_17 : decode cL_law 17 = .ok (.istore_n 3, 1) := by decide +kernel
theorem dL_law_18 : decode cL_law 18 = .ok (.iload_n 3, 1) := by decide +kernel
theorem dL_law_19 : decode cL_law 19 = .ok (.aload_n 0, 1) := by decide +kernel
theorem dL_law_20 : decode cL_law 20 = .ok (.arraylength, 1) := by decide +kernel
theorem dL_law_21 : decode cL_law 21 = .ok (.bipush 6, 2) := by decide +kernel
theorem dL_law_23 : decode cL_law 23 = .ok (.isub, 1) := by decide +kernel
theorem dL_law_24 : decode cL_law 24 = .ok (.if_icmp .gt 843, 3) := by decide +kernel
theorem dL_law_27 : decode cL_law 27 = .ok (.aload_n 0, 1) := by decide +kernel
theorem dL_law_28 : decode cL_law 28 = .ok (.iload_n 3, 1) := by decide +kernel
theorem dL_law_29 : decode cL_law 29 = .ok (.iaload, 1) := by decide +kernel
theorem dL_law_30 : decode cL_law 30 = .ok (.bipush 31, 2) := by decide +kernel
theorem dL_law_32 : decode cL_law 32 = .ok (.iand, 1) := by decide +kernel
theorem dL_law_33 : decode cL_law 33 = .ok (.tableswitch 828 0 22 #[107, 140, 189, 212, 235, 268, 301, 334, 367, 390, 429, 492, 515, 528, 551, 584, 607, 650, 673, 706, 739, 772, 805], 107) := by decide +kernel
theorem dL_law_140 : decode cL_law 140 = .ok (.aload_n 1, 1) := by decide +kernel
theorem dL_law_141 : decode cL_law 141 = .ok (.aload_n 0, 1) := by decide +kernel
theorem dL_law_142 : decode cL_law 142 = .ok (.iload_n 3, 1) := by decide +kernel
theorem dL_law_143 : decode cL_law 143 = .ok (.iconst 1, 1) := by decide +kernel
theorem dL_law_144 : decode cL_law 144 = .ok (.iadd, 1) := by decide +kernel
theorem dL_law_145 : decode cL_law 145 = .ok (.iaload, 1) := by decide +kernel
theorem dL_law_146 : decode cL_law 146 = .ok (.aload_n 0, 1) := by decide +kernel
theorem dL_law_147 : decode cL_law 147 = .ok (.iload_n 3, 1) := by decide +kernel
theorem dL_law_148 : decode cL_law 148 = .ok (.iconst 2, 1) := by decide +kernel
theorem dL_law_149 : decode cL_law 149 = .ok (.iadd, 1) := by decide +kernel
theorem dL_law_150 : decode cL_law 150 = .ok (.iaload, 1) := by decide +kernel
theorem dL_law_151 : decode cL_law 151 = .ok (.invokevirtual 13, 3) := by decide +kernel
theorem dL_law_154 : decode cL_law 154 = .ok (.aload_n 2, 1) := by decide +kernel
theorem dL_law_155 : decode cL_law 155 = .ok (.aload_n 0, 1) := by decide +kernel
theorem dL_law_156 : decode cL_law 156 = .ok (.iload_n 3, 1) := by decide +kernel
theorem dL_law_157 : decode cL_law 157 = .ok (.iconst 1, 1) := by decide +kernel
theorem dL_law_158 : decode cL_law 158 = .ok (.iadd, 1) := by decide +kernel
theorem dL_law_159 : decode cL_law 159 = .ok (.iaload, 1) := by decide +kernel
theorem dL_law_160 : decode cL_law 160 = .ok (.aload_n 0, 1) := by decide +kernel
theorem dL_law_161 : decode cL_law 161 = .ok (.iload_n 3, 1) := by decide +kernel
theorem dL_law_162 : decode cL_law 162 = .ok (.iconst 2, 1) := by decide +kernel
theorem dL_law_163 : decode cL_law 163 = .ok (.iadd, 1) := by decide +kernel
theorem dL_law_164 : decode cL_law 164 = .ok (.iaload, 1) := by decide +kernel
theorem dL_law_165 : decode cL_law 165 = .ok (.invokevirtual 17, 3) := by decide +kernel
theorem dL_law_168 : decode cL_law 168 = .ok (.if_icmp .eq 693, 3) := by decide +kernel
theorem dL_law_171 : decode cL_law 171 = .ok (.iconst 0, 1) := by decide +kernel
theorem dL_law_172 : decode cL_law 172 = .ok (.ireturn, 1) := by decide +kernel
theorem dL_law_173 : decode cL_law 173 = .ok (.aload_n 1, 1) := by decide +kernel
theorem dL_law_174 : decode cL_law 174 = .ok (.aload_n 0, 1) := by decide +kernel
theorem dL_law_175 : decode cL_law 175 = .ok (.iload_n 3, 1) := by decide +kernel
theorem dL_law_176 : decode cL_law 176 = .ok (.iconst 1, 1) := by decide +kernel
theorem dL_law_177 : decode cL_law 177 = .ok (.iadd, 1) := by decide +kernel
theorem dL_law_178 : decode cL_law 178 = .ok (.iaload, 1) := by decide +kernel
theorem dL_law_179 : decode cL_law 179 = .ok (.aload_n 0, 1) := by decide +kernel
theorem dL_law_180 : decode cL_law 180 = .ok (.iload_n 3, 1) := by decide +kernel
theorem dL_law_181 : decode cL_law 181 = .ok (.iconst 2, 1) := by decide +kernel
theorem dL_law_182 : decode cL_law 182 = .ok (.iadd, 1) := by decide +kernel
theorem dL_law_183 : decode cL_law 183 = .ok (.iaload, 1) := by decide +kernel
theorem dL_law_184 : decode cL_law 184 = .ok (.ifCond .eq 7, 3) := by decide +kernel
theorem dL_law_187 : decode cL_law 187 = .ok (.iconst 1, 1) := by decide +kernel
theorem dL_law_188 : decode cL_law 188 = .ok (.goto 4, 3) := by decide +kernel
theorem dL_law_191 : decode cL_law 191 = .ok (.iconst 0, 1) := by decide +kernel
theorem dL_law_192 : decode cL_law 192 = .ok (.invokevirtual 18, 3) := by decide +kernel
theorem dL_law_195 : decode cL_law 195 = .ok (.aload_n 2, 1) := by decide +kernel
theorem dL_law_196 : decode cL_law 196 = .ok (.aload_n 0, 1) := by decide +kernel
theorem dL_law_197 : decode cL_law 197 = .ok (.iload_n 3, 1) := by decide +kernel
theorem dL_law_198 : decode cL_law 198 = .ok (.iconst 1, 1) := by decide +kernel
theorem dL_law_199 : decode cL_law 199 = .ok (.iadd, 1) := by decide +kernel
theorem dL_law_200 : decode cL_law 200 = .ok (.iaload, 1) := by decide +kernel
theorem dL_law_201 : decode cL_law 201 = .ok (.aload_n 0, 1) := by decide +kernel
theorem dL_law_202 : decode cL_law 202 = .ok (.iload_n 3, 1) := by decide +kernel
theorem dL_law_203 : decode cL_law 203 = .ok (.iconst 2, 1) := by decide +kernel
theorem dL_law_204 : decode cL_law 204 = .ok (.iadd, 1) := by decide +kernel
theorem dL_law_205 : decode cL_law 205 = .ok (.iaload, 1) := by decide +kernel
theorem dL_law_206 : decode cL_law 206 = .ok (.ifCond .eq 7, 3) := by decide +kernel
theorem dL_law_209 : decode cL_law 209 = .ok (.iconst 1, 1) := by decide +kernel
theorem dL_law_210 : decode cL_law 210 = .ok (.goto 4, 3) := by decide +kernel
theorem dL_law_213 : decode cL_law 213 = .ok (.iconst 0, 1) := by decide +kernel
theorem dL_law_214 : decode cL_law 214 = .ok (.invokevirtual 22, 3) := by decide +kernel
theorem dL_law_217 : decode cL_law 217 = .ok (.if_icmp .eq 644, 3) := by decide +kernel
theorem dL_law_220 : decode cL_law 220 = .ok (.iconst 0, 1) := by decide +kernel
theorem dL_law_221 : decode cL_law 221 = .ok (.ireturn, 1) := by decide +kernel
theorem dL_law_222 : decode cL_law 222 = .ok (.aload_n 1, 1) := by decide +kernel
theorem dL_law_223 : decode cL_law 223 = .ok (.aload_n 0, 1) := by decide +kernel
theorem dL_law_224 : decode cL_law 224 = .ok (.iload_n 3, 1) := by decide +kernel
theorem dL_law_225 : decode cL_law 225 = .ok (.iconst 1, 1) := by decide +kernel
theorem dL_law_226 : decode cL_law 226 = .ok (.iadd, 1) := by decide +kernel
theorem dL_law_227 : decode cL_law 227 = .ok (.iaload, 1) := by decide +kernel
theorem dL_law_228 : decode cL_law 228 = .ok (.invokevirtual 23, 3) := by decide +kernel
theorem dL_law_231 : decode cL_law 231 = .ok (.aload_n 2, 1) := by decide +kernel
theorem dL_law_232 : decode cL_law 232 = .ok (.aload_n 0, 1) := by decide +kernel
theorem dL_law_233 : decode cL_law 233 = .ok (.iload_n 3, 1) := by decide +kernel
theorem dL_law_234 : decode cL_law 234 = .ok (.iconst 1, 1) := by decide +kernel
theorem dL_law_235 : decode cL_law 235 = .ok (.iadd, 1) := by decide +kernel
theorem dL_law_236 : decode cL_law 236 = .ok (.iaload, 1) := by decide +kernel
theorem dL_law_237 : decode cL_law 237 = .ok (.invokevirtual 27, 3) := by decide +kernel
theorem dL_law_240 : decode cL_law 240 = .ok (.if_icmp .eq 621, 3) := by decide +kernel
theorem dL_law_243 : decode cL_law 243 = .ok (.iconst 0, 1) := by decide +kernel
theorem dL_law_244 : decode cL_law 244 = .ok (.ireturn, 1) := by decide +kernel
theorem dL_law_245 : decode cL_law 245 = .ok (.aload_n 1, 1) := by decide +kernel
theorem dL_law_246 : decode cL_law 246 = .ok (.aload_n 0, 1) := by decide +kernel
theorem dL_law_247 : decode cL_law 247 = .ok (.iload_n 3, 1) := by decide +kernel
theorem dL_law_248 : decode cL_law 248 = .ok (.iconst 1, 1) := by decide +kernel
theorem dL_law_249 : decode cL_law 249 = .ok (.iadd, 1) := by decide +kernel
theorem dL_law_250 : decode cL_law 250 = .ok (.iaload, 1) := by decide +kernel
theorem dL_law_251 : decode cL_law 251 = .ok (.invokevirtual 28, 3) := by decide +kernel
theorem dL_law_254 : decode cL_law 254 = .ok (.aload_n 2, 1) := by decide +kernel
theorem dL_law_255 : decode cL_law 255 = .ok (.aload_n 0, 1) := by decide +kernel
theorem dL_law_256 : decode cL_law 256 = .ok (.iload_n 3, 1) := by decide +kernel
theorem dL_law_257 : decode cL_law 257 = .ok (.iconst 1, 1) := by decide +kernel
theorem dL_law_258 : decode cL_law 258 = .ok (.iadd, 1) := by decide +kernel
theorem dL_law_259 : decode cL_law 259 = .ok (.iaload, 1) := by decide +kernel
theorem dL_law_260 : decode cL_law 260 = .ok (.invokevirtual 32, 3) := by decide +kernel
theorem dL_law_263 : decode cL_law 263 = .ok (.if_icmp .eq 598, 3) := by decide +kernel
theorem dL_law_266 : decode cL_law 266 = .ok (.iconst 0, 1) := by decide +kernel
theorem dL_law_267 : decode cL_law 267 = .ok (.ireturn, 1) := by decide +kernel
theorem dL_law_268 : decode cL_law 268 = .ok (.aload_n 1, 1) := by decide +kernel
theorem dL_law_269 : decode cL_law 269 = .ok (.aload_n 0, 1) := by decide +kernel
theorem dL_law_270 : decode cL_law 270 = .ok (.iload_n 3, 1) := by decide +kernel
theorem dL_law_271 : decode cL_law 271 = .ok (.iconst 1, 1) := by decide +kernel
theorem dL_law_272 : decode cL_law 272 = .ok (.iadd, 1) := by decide +kernel
theorem dL_law_273 : decode cL_law 273 = .ok (.iaload, 1) := by decide +kernel
theorem dL_law_274 : decode cL_law 274 = .ok (.aload_n 0, 1) := by decide +kernel
theorem dL_law_275 : decode cL_law 275 = .ok (.iload_n 3, 1) := by decide +kernel
theorem dL_law_276 : decode cL_law 276 = .ok (.iconst 2, 1) := by decide +kernel
theorem dL_law_277 : decode cL_law 277 = .ok (.iadd, 1) := by decide +kernel
theorem dL_law_278 : decode cL_law 278 = .ok (.iaload, 1) := by decide +kernel
theorem dL_law_279 : decode cL_law 279 = .ok (.invokevirtual 33, 3) := by decide +kernel
theorem dL_law_282 : decode cL_law 282 = .ok (.aload_n 2, 1) := by decide +kernel
theorem dL_law_283 : decode cL_law 283 = .ok (.aload_n 0, 1) := by decide +kernel
theorem dL_law_284 : decode cL_law 284 = .ok (.iload_n 3, 1) := by decide +kernel
theorem dL_law_285 : decode cL_law 285 = .ok (.iconst 1, 1) := by decide +kernel
theorem dL_law_286 : decode cL_law 286 = .ok (.iadd, 1) := by decide +kernel
theorem dL_law_287 : decode cL_law 287 = .ok (.iaload, 1) := by decide +kernel
theorem dL_law_288 : decode cL_law 288 = .ok (.aload_n 0, 1) := by decide +kernel
theorem dL_law_289 : decode cL_law 289 = .ok (.iload_n 3, 1) := by decide +kernel
theorem dL_law_290 : decode cL_law 290 = .ok (.iconst 2, 1) := by decide +kernel
theorem dL_law_291 : decode cL_law 291 = .ok (.iadd, 1) := by decide +kernel
theorem dL_law_292 : decode cL_law 292 = .ok (.iaload, 1) := by decide +kernel
theorem dL_law_293 : decode cL_law 293 = .ok (.invokevirtual 36, 3) := by decide +kernel
theorem dL_law_296 : decode cL_law 296 = .ok (.if_icmp .eq 565, 3) := by decide +kernel
theorem dL_law_299 : decode cL_law 299 = .ok (.iconst 0, 1) := by decide +kernel
theorem dL_law_300 : decode cL_law 300 = .ok (.ireturn, 1) := by decide +kernel
theorem dL_law_301 : decode cL_law 301 = .ok (.aload_n 1, 1) := by decide +kernel
theorem dL_law_302 : decode cL_law 302 = .ok (.aload_n 0, 1) := by decide +kernel
theorem dL_law_303 : decode cL_law 303 = .ok (.iload_n 3, 1) := by decide +kernel
theorem dL_law_304 : decode cL_law 304 = .ok (.iconst 1, 1) := by decide +kernel
theorem dL_law_305 : decode cL_law 305 = .ok (.iadd, 1) := by decide +kernel
theorem dL_law_306 : decode cL_law 306 = .ok (.iaload, 1) := by decide +kernel
theorem dL_law_307 : decode cL_law 307 = .ok (.aload_n 0, 1) := by decide +kernel
theorem dL_law_308 : decode cL_law 308 = .ok (.iload_n 3, 1) := by decide +kernel
theorem dL_law_309 : decode cL_law 309 = .ok (.iconst 2, 1) := by decide +kernel
theorem dL_law_310 : decode cL_law 310 = .ok (.iadd, 1) := by decide +kernel
theorem dL_law_311 : decode cL_law 311 = .ok (.iaload, 1) := by decide +kernel
theorem dL_law_312 : decode cL_law 312 = .ok (.invokevirtual 37, 3) := by decide +kernel
theorem dL_law_315 : decode cL_law 315 = .ok (.aload_n 2, 1) := by decide +kernel
theorem dL_law_316 : decode cL_law 316 = .ok (.aload_n 0, 1) := by decide +kernel
theorem dL_law_317 : decode cL_law 317 = .ok (.iload_n 3, 1) := by decide +kernel
theorem dL_law_318 : decode cL_law 318 = .ok (.iconst 1, 1) := by decide +kernel
theorem dL_law_319 : decode cL_law 319 = .ok (.iadd, 1) := by decide +kernel
theorem dL_law_320 : decode cL_law 320 = .ok (.iaload, 1) := by decide +kernel
theorem dL_law_321 : decode cL_law 321 = .ok (.aload_n 0, 1) := by decide +kernel
theorem dL_law_322 : decode cL_law 322 = .ok (.iload_n 3, 1) := by decide +kernel
theorem dL_law_323 : decode cL_law 323 = .ok (.iconst 2, 1) := by decide +kernel
theorem dL_law_324 : decode cL_law 324 = .ok (.iadd, 1) := by decide +kernel
theorem dL_law_325 : decode cL_law 325 = .ok (.iaload, 1) := by decide +kernel
theorem dL_law_326 : decode cL_law 326 = .ok (.invokevirtual 41, 3) := by decide +kernel
theorem dL_law_329 : decode cL_law 329 = .ok (.if_icmp .eq 532, 3) := by decide +kernel
theorem dL_law_332 : decode cL_law 332 = .ok (.iconst 0, 1) := by decide +kernel
theorem dL_law_333 : decode cL_law 333 = .ok (.ireturn, 1) := by decide +kernel
theorem dL_law_334 : decode cL_law 334 = .ok (.aload_n 1, 1) := by decide +kernel
theorem dL_law_335 : decode cL_law 335 = .ok (.aload_n 0, 1) := by decide +kernel
theorem dL_law_336 : decode cL_law 336 = .ok (.iload_n 3, 1) := by decide +kernel
theorem dL_law_337 : decode cL_law 337 = .ok (.iconst 1, 1) := by decide +kernel
theorem dL_law_338 : decode cL_law 338 = .ok (.iadd, 1) := by decide +kernel
theorem dL_law_339 : decode cL_law 339 = .ok (.iaload, 1) := by decide +kernel
theorem dL_law_340 : decode cL_law 340 = .ok (.aload_n 0, 1) := by decide +kernel
theorem dL_law_341 : decode cL_law 341 = .ok (.iload_n 3, 1) := by decide +kernel
theorem dL_law_342 : decode cL_law 342 = .ok (.iconst 2, 1) := by decide +kernel
theorem dL_law_343 : decode cL_law 343 = .ok (.iadd, 1) := by decide +kernel
theorem dL_law_344 : decode cL_law 344 = .ok (.iaload, 1) := by decide +kernel
theorem dL_law_345 : decode cL_law 345 = .ok (.invokevirtual 42, 3) := by decide +kernel
theorem dL_law_348 : decode cL_law 348 = .ok (.aload_n 2, 1) := by decide +kernel
theorem dL_law_349 : decode cL_law 349 = .ok (.aload_n 0, 1) := by decide +kernel
theorem dL_law_350 : decode cL_law 350 = .ok (.iload_n 3, 1) := by decide +kernel
theorem dL_law_351 : decode cL_law 351 = .ok (.iconst 1, 1) := by decide +kernel
theorem dL_law_352 : decode cL_law 352 = .ok (.iadd, 1) := by decide +kernel
theorem dL_law_353 : decode cL_law 353 = .ok (.iaload, 1) := by decide +kernel
theorem dL_law_354 : decode cL_law 354 = .ok (.aload_n 0, 1) := by decide +kernel
theorem dL_law_355 : decode cL_law 355 = .ok (.iload_n 3, 1) := by decide +kernel
theorem dL_law_356 : decode cL_law 356 = .ok (.iconst 2, 1) := by decide +kernel
theorem dL_law_357 : decode cL_law 357 = .ok (.iadd, 1) := by decide +kernel
theorem dL_law_358 : decode cL_law 358 = .ok (.iaload, 1) := by decide +kernel
theorem dL_law_359 : decode cL_law 359 = .ok (.invokevirtual 45, 3) := by decide +kernel
theorem dL_law_362 : decode cL_law 362 = .ok (.if_icmp .eq 499, 3) := by decide +kernel
theorem dL_law_365 : decode cL_law 365 = .ok (.iconst 0, 1) := by decide +kernel
theorem dL_law_366 : decode cL_law 366 = .ok (.ireturn, 1) := by decide +kernel
theorem dL_law_367 : decode cL_law 367 = .ok (.aload_n 1, 1) := by decide +kernel
theorem dL_law_368 : decode cL_law 368 = .ok (.aload_n 0, 1) := by decide +kernel
theorem dL_law_369 : decode cL_law 369 = .ok (.iload_n 3, 1) := by decide +kernel
theorem dL_law_370 : decode cL_law 370 = .ok (.iconst 1, 1) := by decide +kernel
theorem dL_law_371 : decode cL_law 371 = .ok (.iadd, 1) := by decide +kernel
theorem dL_law_372 : decode cL_law 372 = .ok (.iaload, 1) := by decide +kernel
theorem dL_law_373 : decode cL_law 373 = .ok (.aload_n 0, 1) := by decide +kernel
theorem dL_law_374 : decode cL_law 374 = .ok (.iload_n 3, 1) := by decide +kernel
theorem dL_law_375 : decode cL_law 375 = .ok (.iconst 2, 1) := by decide +kernel
theorem dL_law_376 : decode cL_law 376 = .ok (.iadd, 1) := by decide +kernel
theorem dL_law_377 : decode cL_law 377 = .ok (.iaload, 1) := by decide +kernel
theorem dL_law_378 : decode cL_law 378 = .ok (.invokevirtual 46, 3) := by decide +kernel
theorem dL_law_381 : decode cL_law 381 = .ok (.aload_n 2, 1) := by decide +kernel
theorem dL_law_382 : decode cL_law 382 = .ok (.aload_n 0, 1) := by decide +kernel
theorem dL_law_383 : decode cL_law 383 = .ok (.iload_n 3, 1) := by decide +kernel
theorem dL_law_384 : decode cL_law 384 = .ok (.iconst 1, 1) := by decide +kernel
theorem dL_law_385 : decode cL_law 385 = .ok (.iadd, 1) := by decide +kernel
theorem dL_law_386 : decode cL_law 386 = .ok (.iaload, 1) := by decide +kernel
theorem dL_law_387 : decode cL_law 387 = .ok (.aload_n 0, 1) := by decide +kernel
theorem dL_law_388 : decode cL_law 388 = .ok (.iload_n 3, 1) := by decide +kernel
theorem dL_law_389 : decode cL_law 389 = .ok (.iconst 2, 1) := by decide +kernel
theorem dL_law_390 : decode cL_law 390 = .ok (.iadd, 1) := by decide +kernel
theorem dL_law_391 : decode cL_law 391 = .ok (.iaload, 1) := by decide +kernel
theorem dL_law_392 : decode cL_law 392 = .ok (.invokevirtual 49, 3) := by decide +kernel
theorem dL_law_395 : decode cL_law 395 = .ok (.if_icmp .eq 466, 3) := by decide +kernel
theorem dL_law_398 : decode cL_law 398 = .ok (.iconst 0, 1) := by decide +kernel
theorem dL_law_399 : decode cL_law 399 = .ok (.ireturn, 1) := by decide +kernel
theorem dL_law_400 : decode cL_law 400 = .ok (.aload_n 1, 1) := by decide +kernel
theorem dL_law_401 : decode cL_law 401 = .ok (.aload_n 0, 1) := by decide +kernel
theorem dL_law_402 : decode cL_law 402 = .ok (.iload_n 3, 1) := by decide +kernel
theorem dL_law_403 : decode cL_law 403 = .ok (.iconst 1, 1) := by decide +kernel
theorem dL_law_404 : decode cL_law 404 = .ok (.iadd, 1) := by decide +kernel
theorem dL_law_405 : decode cL_law 405 = .ok (.iaload, 1) := by decide +kernel
theorem dL_law_406 : decode cL_law 406 = .ok (.invokevirtual 50, 3) := by decide +kernel
theorem dL_law_409 : decode cL_law 409 = .ok (.aload_n 2, 1) := by decide +kernel
theorem dL_law_410 : decode cL_law 410 = .ok (.aload_n 0, 1) := by decide +kernel
theorem dL_law_411 : decode cL_law 411 = .ok (.iload_n 3, 1) := by decide +kernel
theorem dL_law_412 : decode cL_law 412 = .ok (.iconst 1, 1) := by decide +kernel
theorem dL_law_413 : decode cL_law 413 = .ok (.iadd, 1) := by decide +kernel
theorem dL_law_414 : decode cL_law 414 = .ok (.iaload, 1) := by decide +kernel
theorem dL_law_415 : decode cL_law 415 = .ok (.invokevirtual 53, 3) := by decide +kernel
theorem dL_law_418 : decode cL_law 418 = .ok (.if_icmp .eq 443, 3) := by decide +kernel
theorem dL_law_421 : decode cL_law 421 = .ok (.iconst 0, 1) := by decide +kernel
theorem dL_law_422 : decode cL_law 422 = .ok (.ireturn, 1) := by decide +kernel
theorem dL_law_423 : decode cL_law 423 = .ok (.aload_n 1, 1) := by decide +kernel
theorem dL_law_424 : decode cL_law 424 = .ok (.aload_n 0, 1) := by decide +kernel
theorem dL_law_425 : decode cL_law 425 = .ok (.iload_n 3, 1) := by decide +kernel
theorem dL_law_426 : decode cL_law 426 = .ok (.iconst 1, 1) := by decide +kernel
theorem dL_law_427 : decode cL_law 427 = .ok (.iadd, 1) := by decide +kernel
theorem dL_law_428 : decode cL_law 428 = .ok (.iaload, 1) := by decide +kernel
theorem dL_law_429 : decode cL_law 429 = .ok (.ifCond .eq 7, 3) := by decide +kernel
theorem dL_law_432 : decode cL_law 432 = .ok (.iconst 1, 1) := by decide +kernel
theorem dL_law_433 : decode cL_law 433 = .ok (.goto 4, 3) := by decide +kernel
theorem dL_law_436 : decode cL_law 436 = .ok (.iconst 0, 1) := by decide +kernel
theorem dL_law_437 : decode cL_law 437 = .ok (.invokevirtual 54, 3) := by decide +kernel
theorem dL_law_440 : decode cL_law 440 = .ok (.aload_n 2, 1) := by decide +kernel
theorem dL_law_441 : decode cL_law 441 = .ok (.aload_n 0, 1) := by decide +kernel
theorem dL_law_442 : decode cL_law 442 = .ok (.iload_n 3, 1) := by decide +kernel
theorem dL_law_443 : decode cL_law 443 = .ok (.iconst 1, 1) := by decide +kernel
theorem dL_law_444 : decode cL_law 444 = .ok (.iadd, 1) := by decide +kernel
theorem dL_law_445 : decode cL_law 445 = .ok (.iaload, 1) := by decide +kernel
theorem dL_law_446 : decode cL_law 446 = .ok (.ifCond .eq 7, 3) := by decide +kernel
theorem dL_law_449 : decode cL_law 449 = .ok (.iconst 1, 1) := by decide +kernel
theorem dL_law_450 : decode cL_law 450 = .ok (.goto 4, 3) := by decide +kernel
theorem dL_law_453 : decode cL_law 453 = .ok (.iconst 0, 1) := by decide +kernel
theorem dL_law_454 : decode cL_law 454 = .ok (.invokevirtual 58, 3) := by decide +kernel
theorem dL_law_457 : decode cL_law 457 = .ok (.if_icmp .eq 404, 3) := by decide +kernel
theorem dL_law_460 : decode cL_law 460 = .ok (.iconst 0, 1) := by decide +kernel
theorem dL_law_461 : decode cL_law 461 = .ok (.ireturn, 1) := by decide +kernel
theorem dL_law_462 : decode cL_law 462 = .ok (.aload_n 1, 1) := by decide +kernel
theorem dL_law_463 : decode cL_law 463 = .ok (.aload_n 0, 1) := by decide +kernel
theorem dL_law_464 : decode cL_law 464 = .ok (.iload_n 3, 1) := by decide +kernel
theorem dL_law_465 : decode cL_law 465 = .ok (.iconst 1, 1) := by decide +kernel
theorem dL_law_466 : decode cL_law 466 = .ok (.iadd, 1) := by decide +kernel
theorem dL_law_467 : decode cL_law 467 = .ok (.iaload, 1) := by decide +kernel
theorem dL_law_468 : decode cL_law 468 = .ok (.aload_n 0, 1) := by decide +kernel
theorem dL_law_469 : decode cL_law 469 = .ok (.iload_n 3, 1) := by decide +kernel
theorem dL_law_470 : decode cL_law 470 = .ok (.iconst 2, 1) := by decide +kernel
theorem dL_law_471 : decode cL_law 471 = .ok (.iadd, 1) := by decide +kernel
theorem dL_law_472 : decode cL_law 472 = .ok (.iaload, 1) := by decide +kernel
theorem dL_law_473 : decode cL_law 473 = .ok (.aload_n 0, 1) := by decide +kernel
theorem dL_law_474 : decode cL_law 474 = .ok (.iload_n 3, 1) := by decide +kernel
theorem dL_law_475 : decode cL_law 475 = .ok (.iconst 3, 1) := by decide +kernel
theorem dL_law_476 : decode cL_law 476 = .ok (.iadd, 1) := by decide +kernel
theorem dL_law_477 : decode cL_law 477 = .ok (.iaload, 1) := by decide +kernel
theorem dL_law_478 : decode cL_law 478 = .ok (.aload_n 0, 1) := by decide +kernel
theorem dL_law_479 : decode cL_law 479 = .ok (.iload_n 3, 1) := by decide +kernel
theorem dL_law_480 : decode cL_law 480 = .ok (.iconst 4, 1) := by decide +kernel
theorem dL_law_481 : decode cL_law 481 = .ok (.iadd, 1) := by decide +kernel
theorem dL_law_482 : decode cL_law 482 = .ok (.iaload, 1) := by decide +kernel
theorem dL_law_483 : decode cL_law 483 = .ok (.aload_n 0, 1) := by decide +kernel
theorem dL_law_484 : decode cL_law 484 = .ok (.iload_n 3, 1) := by decide +kernel
theorem dL_law_485 : decode cL_law 485 = .ok (.iconst 5, 1) := by decide +kernel
theorem dL_law_486 : decode cL_law 486 = .ok (.iadd, 1) := by decide +kernel
theorem dL_law_487 : decode cL_law 487 = .ok (.iaload, 1) := by decide +kernel
theorem dL_law_488 : decode cL_law 488 = .ok (.invokevirtual 59, 3) := by decide +kernel
theorem dL_law_491 : decode cL_law 491 = .ok (.aload_n 2, 1) := by decide +kernel
theorem dL_law_492 : decode cL_law 492 = .ok (.aload_n 0, 1) := by decide +kernel
theorem dL_law_493 : decode cL_law 493 = .ok (.iload_n 3, 1) := by decide +kernel
theorem dL_law_494 : decode cL_law 494 = .ok (.iconst 1, 1) := by decide +kernel
theorem dL_law_495 : decode cL_law 495 = .ok (.iadd, 1) := by decide +kernel
theorem dL_law_496 : decode cL_law 496 = .ok (.iaload, 1) := by decide +kernel
theorem dL_law_497 : decode cL_law 497 = .ok (.aload_n 0, 1) := by decide +kernel
theorem dL_law_498 : decode cL_law 498 = .ok (.iload_n 3, 1) := by decide +kernel
theorem dL_law_499 : decode cL_law 499 = .ok (.iconst 2, 1) := by decide +kernel
theorem dL_law_500 : decode cL_law 500 = .ok (.iadd, 1) := by decide +kernel
theorem dL_law_501 : decode cL_law 501 = .ok (.iaload, 1) := by decide +kernel
theorem dL_law_502 : decode cL_law 502 = .ok (.aload_n 0, 1) := by decide +kernel
theorem dL_law_503 : decode cL_law 503 = .ok (.iload_n 3, 1) := by decide +kernel
theorem dL_law_504 : decode cL_law 504 = .ok (.iconst 3, 1) := by decide +kernel
theorem dL_law_505 : decode cL_law 505 = .ok (.iadd, 1) := by decide +kernel
theorem dL_law_506 : decode cL_law 506 = .ok (.iaload, 1) := by decide +kernel
theorem dL_law_507 : decode cL_law 507 = .ok (.aload_n 0, 1) := by decide +kernel
theorem dL_law_508 : decode cL_law 508 = .ok (.iload_n 3, 1) := by decide +kernel
theorem dL_law_509 : decode cL_law 509 = .ok (.iconst 4, 1) := by decide +kernel
theorem dL_law_510 : decode cL_law 510 = .ok (.iadd, 1) := by decide +kernel
theorem dL_law_511 : decode cL_law 511 = .ok (.iaload, 1) := by decide +kernel
theorem dL_law_512 : decode cL_law 512 = .ok (.aload_n 0, 1) := by decide +kernel
theorem dL_law_513 : decode cL_law 513 = .ok (.iload_n 3, 1) := by decide +kernel
theorem dL_law_514 : decode cL_law 514 = .ok (.iconst 5, 1) := by decide +kernel
theorem dL_law_515 : decode cL_law 515 = .ok (.iadd, 1) := by decide +kernel
theorem dL_law_516 : decode cL_law 516 = .ok (.iaload, 1) := by decide +kernel
theorem dL_law_517 : decode cL_law 517 = .ok (.invokevirtual 63, 3) := by decide +kernel
theorem dL_law_520 : decode cL_law 520 = .ok (.if_icmp .eq 341, 3) := by decide +kernel
theorem dL_law_523 : decode cL_law 523 = .ok (.iconst 0, 1) := by decide +kernel
theorem dL_law_524 : decode cL_law 524 = .ok (.ireturn, 1) := by decide +kernel
theorem dL_law_525 : decode cL_law 525 = .ok (.aload_n 1, 1) := by decide +kernel
theorem dL_law_526 : decode cL_law 526 = .ok (.aload_n 0, 1) := by decide +kernel
theorem dL_law_527 : decode cL_law 527 = .ok (.iload_n 3, 1) := by decide +kernel
theorem dL_law_528 : decode cL_law 528 = .ok (.iconst 1, 1) := by decide +kernel
theorem dL_law_529 : decode cL_law 529 = .ok (.iadd, 1) := by decide +kernel
theorem dL_law_530 : decode cL_law 530 = .ok (.iaload, 1) := by decide +kernel
theorem dL_law_531 : decode cL_law 531 = .ok (.invokevirtual 64, 3) := by decide +kernel
theorem dL_law_534 : decode cL_law 534 = .ok (.aload_n 2, 1) := by decide +kernel
theorem dL_law_535 : decode cL_law 535 = .ok (.aload_n 0, 1) := by decide +kernel
theorem dL_law_536 : decode cL_law 536 = .ok (.iload_n 3, 1) := by decide +kernel
theorem dL_law_537 : decode cL_law 537 = .ok (.iconst 1, 1) := by decide +kernel
theorem dL_law_538 : decode cL_law 538 = .ok (.iadd, 1) := by decide +kernel
theorem dL_law_539 : decode cL_law 539 = .ok (.iaload, 1) := by decide +kernel
theorem dL_law_540 : decode cL_law 540 = .ok (.invokevirtual 67, 3) := by decide +kernel
theorem dL_law_543 : decode cL_law 543 = .ok (.if_icmp .eq 318, 3) := by decide +kernel
theorem dL_law_546 : decode cL_law 546 = .ok (.iconst 0, 1) := by decide +kernel
theorem dL_law_547 : decode cL_law 547 = .ok (.ireturn, 1) := by decide +kernel
theorem dL_law_548 : decode cL_law 548 = .ok (.aload_n 1, 1) := by decide +kernel
theorem dL_law_549 : decode cL_law 549 = .ok (.invokevirtual 68, 3) := by decide +kernel
theorem dL_law_552 : decode cL_law 552 = .ok (.aload_n 2, 1) := by decide +kernel
theorem dL_law_553 : decode cL_law 553 = .ok (.invokevirtual 72, 3) := by decide +kernel
theorem dL_law_556 : decode cL_law 556 = .ok (.if_icmp .eq 305, 3) := by decide +kernel
theorem dL_law_559 : decode cL_law 559 = .ok (.iconst 0, 1) := by decide +kernel
theorem dL_law_560 : decode cL_law 560 = .ok (.ireturn, 1) := by decide +kernel
theorem dL_law_561 : decode cL_law 561 = .ok (.aload_n 1, 1) := by decide +kernel
theorem dL_law_562 : decode cL_law 562 = .ok (.aload_n 0, 1) := by decide +kernel
theorem dL_law_563 : decode cL_law 563 = .ok (.iload_n 3, 1) := by decide +kernel
theorem dL_law_564 : decode cL_law 564 = .ok (.iconst 1, 1) := by decide +kernel
theorem dL_law_565 : decode cL_law 565 = .ok (.iadd, 1) := by decide +kernel
theorem dL_law_566 : decode cL_law 566 = .ok (.iaload, 1) := by decide +kernel
theorem dL_law_567 : decode cL_law 567 = .ok (.invokevirtual 73, 3) := by decide +kernel
theorem dL_law_570 : decode cL_law 570 = .ok (.aload_n 2, 1) := by decide +kernel
theorem dL_law_571 : decode cL_law 571 = .ok (.aload_n 0, 1) := by decide +kernel
theorem dL_law_572 : decode cL_law 572 = .ok (.iload_n 3, 1) := by decide +kernel
theorem dL_law_573 : decode cL_law 573 = .ok (.iconst 1, 1) := by decide +kernel
theorem dL_law_574 : decode cL_law 574 = .ok (.iadd, 1) := by decide +kernel
theorem dL_law_575 : decode cL_law 575 = .ok (.iaload, 1) := by decide +kernel
theorem dL_law_576 : decode cL_law 576 = .ok (.invokevirtual 76, 3) := by decide +kernel
theorem dL_law_579 : decode cL_law 579 = .ok (.if_icmp .eq 282, 3) := by decide +kernel
theorem dL_law_582 : decode cL_law 582 = .ok (.iconst 0, 1) := by decide +kernel
theorem dL_law_583 : decode cL_law 583 = .ok (.ireturn, 1) := by decide +kernel
theorem dL_law_584 : decode cL_law 584 = .ok (.aload_n 1, 1) := by decide +kernel
theorem dL_law_585 : decode cL_law 585 = .ok (.aload_n 0, 1) := by decide +kernel
theorem dL_law_586 : decode cL_law 586 = .ok (.iload_n 3, 1) := by decide +kernel
theorem dL_law_587 : decode cL_law 587 = .ok (.iconst 1, 1) := by decide +kernel
theorem dL_law_588 : decode cL_law 588 = .ok (.iadd, 1) := by decide +kernel
theorem dL_law_589 : decode cL_law 589 = .ok (.iaload, 1) := by decide +kernel
theorem dL_law_590 : decode cL_law 590 = .ok (.aload_n 0, 1) := by decide +kernel
theorem dL_law_591 : decode cL_law 591 = .ok (.iload_n 3, 1) := by decide +kernel
theorem dL_law_592 : decode cL_law 592 = .ok (.iconst 2, 1) := by decide +kernel
theorem dL_law_593 : decode cL_law 593 = .ok (.iadd, 1) := by decide +kernel
theorem dL_law_594 : decode cL_law 594 = .ok (.iaload, 1) := by decide +kernel
theorem dL_law_595 : decode cL_law 595 = .ok (.invokevirtual 77, 3) := by decide +kernel
theorem dL_law_598 : decode cL_law 598 = .ok (.aload_n 2, 1) := by decide +kernel
theorem dL_law_599 : decode cL_law 599 = .ok (.aload_n 0, 1) := by decide +kernel
theorem dL_law_600 : decode cL_law 600 = .ok (.iload_n 3, 1) := by decide +kernel
theorem dL_law_601 : decode cL_law 601 = .ok (.iconst 1, 1) := by decide +kernel
theorem dL_law_602 : decode cL_law 602 = .ok (.iadd, 1) := by decide +kernel
theorem dL_law_603 : decode cL_law 603 = .ok (.iaload, 1) := by decide +kernel
theorem dL_law_604 : decode cL_law 604 = .ok (.aload_n 0, 1) := by decide +kernel
theorem dL_law_605 : decode cL_law 605 = .ok (.iload_n 3, 1) := by decide +kernel
theorem dL_law_606 : decode cL_law 606 = .ok (.iconst 2, 1) := by decide +kernel
theorem dL_law_607 : decode cL_law 607 = .ok (.iadd, 1) := by decide +kernel
theorem dL_law_608 : decode cL_law 608 = .ok (.iaload, 1) := by decide +kernel
theorem dL_law_609 : decode cL_law 609 = .ok (.invokevirtual 80, 3) := by decide +kernel
theorem dL_law_612 : decode cL_law 612 = .ok (.if_icmp .eq 249, 3) := by decide +kernel
theorem dL_law_615 : decode cL_law 615 = .ok (.iconst 0, 1) := by decide +kernel
theorem dL_law_616 : decode cL_law 616 = .ok (.ireturn, 1) := by decide +kernel
theorem dL_law_617 : decode cL_law 617 = .ok (.aload_n 1, 1) := by decide +kernel
theorem dL_law_618 : decode cL_law 618 = .ok (.aload_n 0, 1) := by decide +kernel
theorem dL_law_619 : decode cL_law 619 = .ok (.iload_n 3, 1) := by decide +kernel
theorem dL_law_620 : decode cL_law 620 = .ok (.iconst 1, 1) := by decide +kernel
theorem dL_law_621 : decode cL_law 621 = .ok (.iadd, 1) := by decide +kernel
theorem dL_law_622 : decode cL_law 622 = .ok (.iaload, 1) := by decide +kernel
theorem dL_law_623 : decode cL_law 623 = .ok (.invokevirtual 81, 3) := by decide +kernel
theorem dL_law_626 : decode cL_law 626 = .ok (.aload_n 2, 1) := by decide +kernel
theorem dL_law_627 : decode cL_law 627 = .ok (.aload_n 0, 1) := by decide +kernel
theorem dL_law_628 : decode cL_law 628 = .ok (.iload_n 3, 1) := by decide +kernel
theorem dL_law_629 : decode cL_law 629 = .ok (.iconst 1, 1) := by decide +kernel
theorem dL_law_630 : decode cL_law 630 = .ok (.iadd, 1) := by decide +kernel
theorem dL_law_631 : decode cL_law 631 = .ok (.iaload, 1) := by decide +kernel
theorem dL_law_632 : decode cL_law 632 = .ok (.invokevirtual 84, 3) := by decide +kernel
theorem dL_law_635 : decode cL_law 635 = .ok (.if_icmp .eq 226, 3) := by decide +kernel
theorem dL_law_638 : decode cL_law 638 = .ok (.iconst 0, 1) := by decide +kernel
theorem dL_law_639 : decode cL_law 639 = .ok (.ireturn, 1) := by decide +kernel
theorem dL_law_640 : decode cL_law 640 = .ok (.aload_n 1, 1) := by decide +kernel
theorem dL_law_641 : decode cL_law 641 = .ok (.aload_n 0, 1) := by decide +kernel
theorem dL_law_642 : decode cL_law 642 = .ok (.iload_n 3, 1) := by decide +kernel
theorem dL_law_643 : decode cL_law 643 = .ok (.iconst 1, 1) := by decide +kernel
theorem dL_law_644 : decode cL_law 644 = .ok (.iadd, 1) := by decide +kernel
theorem dL_law_645 : decode cL_law 645 = .ok (.iaload, 1) := by decide +kernel
theorem dL_law_646 : decode cL_law 646 = .ok (.aload_n 0, 1) := by decide +kernel
theorem dL_law_647 : decode cL_law 647 = .ok (.iload_n 3, 1) := by decide +kernel
theorem dL_law_648 : decode cL_law 648 = .ok (.iconst 2, 1) := by decide +kernel
theorem dL_law_649 : decode cL_law 649 = .ok (.iadd, 1) := by decide +kernel
theorem dL_law_650 : decode cL_law 650 = .ok (.iaload, 1) := by decide +kernel
theorem dL_law_651 : decode cL_law 651 = .ok (.aload_n 0, 1) := by decide +kernel
theorem dL_law_652 : decode cL_law 652 = .ok (.iload_n 3, 1) := by decide +kernel
theorem dL_law_653 : decode cL_law 653 = .ok (.iconst 3, 1) := by decide +kernel
theorem dL_law_654 : decode cL_law 654 = .ok (.iadd, 1) := by decide +kernel
theorem dL_law_655 : decode cL_law 655 = .ok (.iaload, 1) := by decide +kernel
theorem dL_law_656 : decode cL_law 656 = .ok (.invokevirtual 85, 3) := by decide +kernel
theorem dL_law_659 : decode cL_law 659 = .ok (.aload_n 2, 1) := by decide +kernel
theorem dL_law_660 : decode cL_law 660 = .ok (.aload_n 0, 1) := by decide +kernel
theorem dL_law_661 : decode cL_law 661 = .ok (.iload_n 3, 1) := by decide +kernel
theorem dL_law_662 : decode cL_law 662 = .ok (.iconst 1, 1) := by decide +kernel
theorem dL_law_663 : decode cL_law 663 = .ok (.iadd, 1) := by decide +kernel
theorem dL_law_664 : decode cL_law 664 = .ok (.iaload, 1) := by decide +kernel
theorem dL_law_665 : decode cL_law 665 = .ok (.aload_n 0, 1) := by decide +kernel
theorem dL_law_666 : decode cL_law 666 = .ok (.iload_n 3, 1) := by decide +kernel
theorem dL_law_667 : decode cL_law 667 = .ok (.iconst 2, 1) := by decide +kernel
theorem dL_law_668 : decode cL_law 668 = .ok (.iadd, 1) := by decide +kernel
theorem dL_law_669 : decode cL_law 669 = .ok (.iaload, 1) := by decide +kernel
theorem dL_law_670 : decode cL_law 670 = .ok (.aload_n 0, 1) := by decide +kernel
theorem dL_law_671 : decode cL_law 671 = .ok (.iload_n 3, 1) := by decide +kernel
theorem dL_law_672 : decode cL_law 672 = .ok (.iconst 3, 1) := by decide +kernel
theorem dL_law_673 : decode cL_law 673 = .ok (.iadd, 1) := by decide +kernel
theorem dL_law_674 : decode cL_law 674 = .ok (.iaload, 1) := by decide +kernel
theorem dL_law_675 : decode cL_law 675 = .ok (.invokevirtual 89, 3) := by decide +kernel
theorem dL_law_678 : decode cL_law 678 = .ok (.if_icmp .eq 183, 3) := by decide +kernel
theorem dL_law_681 : decode cL_law 681 = .ok (.iconst 0, 1) := by decide +kernel
theorem dL_law_682 : decode cL_law 682 = .ok (.ireturn, 1) := by decide +kernel
theorem dL_law_683 : decode cL_law 683 = .ok (.aload_n 1, 1) := by decide +kernel
theorem dL_law_684 : decode cL_law 684 = .ok (.aload_n 0, 1) := by decide +kernel
theorem dL_law_685 : decode cL_law 685 = .ok (.iload_n 3, 1) := by decide +kernel
theorem dL_law_686 : decode cL_law 686 = .ok (.iconst 1, 1) := by decide +kernel
theorem dL_law_687 : decode cL_law 687 = .ok (.iadd, 1) := by decide +kernel
theorem dL_law_688 : decode cL_law 688 = .ok (.iaload, 1) := by decide +kernel
theorem dL_law_689 : decode cL_law 689 = .ok (.invokevirtual 90, 3) := by decide +kernel
theorem dL_law_692 : decode cL_law 692 = .ok (.aload_n 2, 1) := by decide +kernel
theorem dL_law_693 : decode cL_law 693 = .ok (.aload_n 0, 1) := by decide +kernel
theorem dL_law_694 : decode cL_law 694 = .ok (.iload_n 3, 1) := by decide +kernel
theorem dL_law_695 : decode cL_law 695 = .ok (.iconst 1, 1) := by decide +kernel
theorem dL_law_696 : decode cL_law 696 = .ok (.iadd, 1) := by decide +kernel
theorem dL_law_697 : decode cL_law 697 = .ok (.iaload, 1) := by decide +kernel
theorem dL_law_698 : decode cL_law 698 = .ok (.invokevirtual 93, 3) := by decide +kernel
theorem dL_law_701 : decode cL_law 701 = .ok (.if_icmp .eq 160, 3) := by decide +kernel
theorem dL_law_704 : decode cL_law 704 = .ok (.iconst 0, 1) := by decide +kernel
theorem dL_law_705 : decode cL_law 705 = .ok (.ireturn, 1) := by decide +kernel
theorem dL_law_706 : decode cL_law 706 = .ok (.aload_n 1, 1) := by decide +kernel
theorem dL_law_707 : decode cL_law 707 = .ok (.aload_n 0, 1) := by decide +kernel
theorem dL_law_708 : decode cL_law 708 = .ok (.iload_n 3, 1) := by decide +kernel
theorem dL_law_709 : decode cL_law 709 = .ok (.iconst 1, 1) := by decide +kernel
theorem dL_law_710 : decode cL_law 710 = .ok (.iadd, 1) := by decide +kernel
theorem dL_law_711 : decode cL_law 711 = .ok (.iaload, 1) := by decide +kernel
theorem dL_law_712 : decode cL_law 712 = .ok (.aload_n 0, 1) := by decide +kernel
theorem dL_law_713 : decode cL_law 713 = .ok (.iload_n 3, 1) := by decide +kernel
theorem dL_law_714 : decode cL_law 714 = .ok (.iconst 2, 1) := by decide +kernel
theorem dL_law_715 : decode cL_law 715 = .ok (.iadd, 1) := by decide +kernel
theorem dL_law_716 : decode cL_law 716 = .ok (.iaload, 1) := by decide +kernel
theorem dL_law_717 : decode cL_law 717 = .ok (.invokevirtual 94, 3) := by decide +kernel
theorem dL_law_720 : decode cL_law 720 = .ok (.aload_n 2, 1) := by decide +kernel
theorem dL_law_721 : decode cL_law 721 = .ok (.aload_n 0, 1) := by decide +kernel
theorem dL_law_722 : decode cL_law 722 = .ok (.iload_n 3, 1) := by decide +kernel
theorem dL_law_723 : decode cL_law 723 = .ok (.iconst 1, 1) := by decide +kernel
theorem dL_law_724 : decode cL_law 724 = .ok (.iadd, 1) := by decide +kernel
theorem dL_law_725 : decode cL_law 725 = .ok (.iaload, 1) := by decide +kernel
theorem dL_law_726 : decode cL_law 726 = .ok (.aload_n 0, 1) := by decide +kernel
theorem dL_law_727 : decode cL_law 727 = .ok (.iload_n 3, 1) := by decide +kernel
theorem dL_law_728 : decode cL_law 728 = .ok (.iconst 2, 1) := by decide +kernel
theorem dL_law_729 : decode cL_law 729 = .ok (.iadd, 1) := by decide +kernel
theorem dL_law_730 : decode cL_law 730 = .ok (.iaload, 1) := by decide +kernel
theorem dL_law_731 : decode cL_law 731 = .ok (.invokevirtual 97, 3) := by decide +kernel
theorem dL_law_734 : decode cL_law 734 = .ok (.if_icmp .eq 127, 3) := by decide +kernel
theorem dL_law_737 : decode cL_law 737 = .ok (.iconst 0, 1) := by decide +kernel
theorem dL_law_738 : decode cL_law 738 = .ok (.ireturn, 1) := by decide +kernel
theorem dL_law_739 : decode cL_law 739 = .ok (.aload_n 1, 1) := by decide +kernel
theorem dL_law_740 : decode cL_law 740 = .ok (.aload_n 0, 1) := by decide +kernel
theorem dL_law_741 : decode cL_law 741 = .ok (.iload_n 3, 1) := by decide +kernel
theorem dL_law_742 : decode cL_law 742 = .ok (.iconst 1, 1) := by decide +kernel
theorem dL_law_743 : decode cL_law 743 = .ok (.iadd, 1) := by decide +kernel
theorem dL_law_744 : decode cL_law 744 = .ok (.iaload, 1) := by decide +kernel
theorem dL_law_745 : decode cL_law 745 = .ok (.aload_n 0, 1) := by decide +kernel
theorem dL_law_746 : decode cL_law 746 = .ok (.iload_n 3, 1) := by decide +kernel
theorem dL_law_747 : decode cL_law 747 = .ok (.iconst 2, 1) := by decide +kernel
theorem dL_law_748 : decode cL_law 748 = .ok (.iadd, 1) := by decide +kernel
theorem dL_law_749 : decode cL_law 749 = .ok (.iaload, 1) := by decide +kernel
theorem dL_law_750 : decode cL_law 750 = .ok (.invokevirtual 98, 3) := by decide +kernel
theorem dL_law_753 : decode cL_law 753 = .ok (.aload_n 2, 1) := by decide +kernel
theorem dL_law_754 : decode cL_law 754 = .ok (.aload_n 0, 1) := by decide +kernel
theorem dL_law_755 : decode cL_law 755 = .ok (.iload_n 3, 1) := by decide +kernel
theorem dL_law_756 : decode cL_law 756 = .ok (.iconst 1, 1) := by decide +kernel
theorem dL_law_757 : decode cL_law 757 = .ok (.iadd, 1) := by decide +kernel
theorem dL_law_758 : decode cL_law 758 = .ok (.iaload, 1) := by decide +kernel
theorem dL_law_759 : decode cL_law 759 = .ok (.aload_n 0, 1) := by decide +kernel
theorem dL_law_760 : decode cL_law 760 = .ok (.iload_n 3, 1) := by decide +kernel
theorem dL_law_761 : decode cL_law 761 = .ok (.iconst 2, 1) := by decide +kernel
theorem dL_law_762 : decode cL_law 762 = .ok (.iadd, 1) := by decide +kernel
theorem dL_law_763 : decode cL_law 763 = .ok (.iaload, 1) := by decide +kernel
theorem dL_law_764 : decode cL_law 764 = .ok (.invokevirtual 101, 3) := by decide +kernel
theorem dL_law_767 : decode cL_law 767 = .ok (.if_icmp .eq 94, 3) := by decide +kernel
theorem dL_law_770 : decode cL_law 770 = .ok (.iconst 0, 1) := by decide +kernel
theorem dL_law_771 : decode cL_law 771 = .ok (.ireturn, 1) := by decide +kernel
theorem dL_law_772 : decode cL_law 772 = .ok (.aload_n 1, 1) := by decide +kernel
theorem dL_law_773 : decode cL_law 773 = .ok (.aload_n 0, 1) := by decide +kernel
theorem dL_law_774 : decode cL_law 774 = .ok (.iload_n 3, 1) := by decide +kernel
theorem dL_law_775 : decode cL_law 775 = .ok (.iconst 1, 1) := by decide +kernel
theorem dL_law_776 : decode cL_law 776 = .ok (.iadd, 1) := by decide +kernel
theorem dL_law_777 : decode cL_law 777 = .ok (.iaload, 1) := by decide +kernel
theorem dL_law_778 : decode cL_law 778 = .ok (.aload_n 0, 1) := by decide +kernel
theorem dL_law_779 : decode cL_law 779 = .ok (.iload_n 3, 1) := by decide +kernel
theorem dL_law_780 : decode cL_law 780 = .ok (.iconst 2, 1) := by decide +kernel
theorem dL_law_781 : decode cL_law 781 = .ok (.iadd, 1) := by decide +kernel
theorem dL_law_782 : decode cL_law 782 = .ok (.iaload, 1) := by decide +kernel
theorem dL_law_783 : decode cL_law 783 = .ok (.invokevirtual 102, 3) := by decide +kernel
theorem dL_law_786 : decode cL_law 786 = .ok (.aload_n 2, 1) := by decide +kernel
theorem dL_law_787 : decode cL_law 787 = .ok (.aload_n 0, 1) := by decide +kernel
theorem dL_law_788 : decode cL_law 788 = .ok (.iload_n 3, 1) := by decide +kernel
theorem dL_law_789 : decode cL_law 789 = .ok (.iconst 1, 1) := by decide +kernel
theorem dL_law_790 : decode cL_law 790 = .ok (.iadd, 1) := by decide +kernel
theorem dL_law_791 : decode cL_law 791 = .ok (.iaload, 1) := by decide +kernel
theorem dL_law_792 : decode cL_law 792 = .ok (.aload_n 0, 1) := by decide +kernel
theorem dL_law_793 : decode cL_law 793 = .ok (.iload_n 3, 1) := by decide +kernel
theorem dL_law_794 : decode cL_law 794 = .ok (.iconst 2, 1) := by decide +kernel
theorem dL_law_795 : decode cL_law 795 = .ok (.iadd, 1) := by decide +kernel
theorem dL_law_796 : decode cL_law 796 = .ok (.iaload, 1) := by decide +kernel
theorem dL_law_797 : decode cL_law 797 = .ok (.invokevirtual 105, 3) := by decide +kernel
theorem dL_law_800 : decode cL_law 800 = .ok (.if_icmp .eq 61, 3) := by decide +kernel
theorem dL_law_803 : decode cL_law 803 = .ok (.iconst 0, 1) := by decide +kernel
theorem dL_law_804 : decode cL_law 804 = .ok (.ireturn, 1) := by decide +kernel
theorem dL_law_805 : decode cL_law 805 = .ok (.aload_n 1, 1) := by decide +kernel
theorem dL_law_806 : decode cL_law 806 = .ok (.aload_n 0, 1) := by decide +kernel
theorem dL_law_807 : decode cL_law 807 = .ok (.iload_n 3, 1) := by decide +kernel
theorem dL_law_808 : decode cL_law 808 = .ok (.iconst 1, 1) := by decide +kernel
theorem dL_law_809 : decode cL_law 809 = .ok (.iadd, 1) := by decide +kernel
theorem dL_law_810 : decode cL_law 810 = .ok (.iaload, 1) := by decide +kernel
theorem dL_law_811 : decode cL_law 811 = .ok (.aload_n 0, 1) := by decide +kernel
theorem dL_law_812 : decode cL_law 812 = .ok (.iload_n 3, 1) := by decide +kernel
theorem dL_law_813 : decode cL_law 813 = .ok (.iconst 2, 1) := by decide +kernel
theorem dL_law_814 : decode cL_law 814 = .ok (.iadd, 1) := by decide +kernel
theorem dL_law_815 : decode cL_law 815 = .ok (.iaload, 1) := by decide +kernel
theorem dL_law_816 : decode cL_law 816 = .ok (.invokevirtual 106, 3) := by decide +kernel
theorem dL_law_819 : decode cL_law 819 = .ok (.aload_n 2, 1) := by decide +kernel
theorem dL_law_820 : decode cL_law 820 = .ok (.aload_n 0, 1) := by decide +kernel
theorem dL_law_821 : decode cL_law 821 = .ok (.iload_n 3, 1) := by decide +kernel
theorem dL_law_822 : decode cL_law 822 = .ok (.iconst 1, 1) := by decide +kernel
theorem dL_law_823 : decode cL_law 823 = .ok (.iadd, 1) := by decide +kernel
theorem dL_law_824 : decode cL_law 824 = .ok (.iaload, 1) := by decide +kernel
theorem dL_law_825 : decode cL_law 825 = .ok (.aload_n 0, 1) := by decide +kernel
theorem dL_law_826 : decode cL_law 826 = .ok (.iload_n 3, 1) := by decide +kernel
theorem dL_law_827 : decode cL_law 827 = .ok (.iconst 2, 1) := by decide +kernel
theorem dL_law_828 : decode cL_law 828 = .ok (.iadd, 1) := by decide +kernel
theorem dL_law_829 : decode cL_law 829 = .ok (.iaload, 1) := by decide +kernel
theorem dL_law_830 : decode cL_law 830 = .ok (.invokevirtual 109, 3) := by decide +kernel
theorem dL_law_833 : decode cL_law 833 = .ok (.if_icmp .eq 28, 3) := by decide +kernel
theorem dL_law_836 : decode cL_law 836 = .ok (.iconst 0, 1) := by decide +kernel
theorem dL_law_837 : decode cL_law 837 = .ok (.ireturn, 1) := by decide +kernel
theorem dL_law_838 : decode cL_law 838 = .ok (.aload_n 1, 1) := by decide +kernel
theorem dL_law_839 : decode cL_law 839 = .ok (.aload_n 0, 1) := by decide +kernel
theorem dL_law_840 : decode cL_law 840 = .ok (.iload_n 3, 1) := by decide +kernel
theorem dL_law_841 : decode cL_law 841 = .ok (.iconst 1, 1) := by decide +kernel
theorem dL_law_842 : decode cL_law 842 = .ok (.iadd, 1) := by decide +kernel
theorem dL_law_843 : decode cL_law 843 = .ok (.iaload, 1) := by decide +kernel
theorem dL_law_844 : decode cL_law 844 = .ok (.invokevirtual 110, 3) := by decide +kernel
theorem dL_law_847 : decode cL_law 847 = .ok (.aload_n 2, 1) := by decide +kernel
theorem dL_law_848 : decode cL_law 848 = .ok (.aload_n 0, 1) := by decide +kernel
theorem dL_law_849 : decode cL_law 849 = .ok (.iload_n 3, 1) := by decide +kernel
theorem dL_law_850 : decode cL_law 850 = .ok (.iconst 1, 1) := by decide +kernel
theorem dL_law_851 : decode cL_law 851 = .ok (.iadd, 1) := by decide +kernel
theorem dL_law_852 : decode cL_law 852 = .ok (.iaload, 1) := by decide +kernel
theorem dL_law_853 : decode cL_law 853 = .ok (.invokevirtual 113, 3) := by decide +kernel
theorem dL_law_856 : decode cL_law 856 = .ok (.if_icmp .eq 5, 3) := by decide +kernel
theorem dL_law_859 : decode cL_law 859 = .ok (.iconst 0, 1) := by decide +kernel
theorem dL_law_860 : decode cL_law 860 = .ok (.ireturn, 1) := by decide +kernel
theorem dL_law_861 : decode cL_law 861 = .ok (.iinc 3 6, 3) := by decide +kernel
theorem dL_law_864 : decode cL_law 864 = .ok (.goto (-846), 3) := by decide +kernel
theorem dL_law_867 : decode cL_law 867 = .ok (.iconst 1, 1) := by decide +kernel
theorem dL_law_868 : decode cL_law 868 = .ok (.ireturn, 1) := by decide +kernel
