theorem dX10_in_0 : decode cX10_in 0 = .ok (.iload_n 0, 1) := by decide +kernel
theorem dX10_in_1 : decode cX10_in 1 = .ok (.iload_n 1, 1) := by decide +kernel
theorem dX10_in_2 : decode cX10_in 2 = .ok (.if_icmp .lt 12, 3) := by decide +kernel
theorem dX10_in_5 : decode cX10_in 5 = .ok (.iload_n 0, 1) := by decide +kernel
theorem dX10_in_6 : decode cX10_in 6 = .ok (.iload_n 2, 1) := by decide +kernel
theorem dX10_in_7 : decode cX10_in 7 = .ok (.if_icmp .gt 7, 3) := by decide +kernel
theorem dX10_in_10 : decode cX10_in 10 = .ok (.iconst 1, 1) := by decide +kernel
theorem dX10_in_11 : decode cX10_in 11 = .ok (.goto 4, 3) := by decide +kernel
theorem dX10_in_14 : decode cX10_in 14 = .ok (.iconst 0, 1) := by decide +kernel
theorem dX10_in_15 : decode cX10_in 15 = .ok (.ireturn, 1) := by decide +kernel
theorem dX10_init_0 : decode cX10_init 0 = .ok (.aload_n 0, 1) := by decide +kernel
theorem dX10_init_1 : decode cX10_init 1 = .ok (.invokespecial 7, 3) := by decide +kernel
theorem dX10_init_4 : decode cX10_init 4 = .ok (.aload_n 0, 1) := by decide +kernel
theorem dX10_init_5 : decode cX10_init 5 = .ok (.sipush 1280, 3) := by decide +kernel
theorem dX10_init_8 : decode cX10_init 8 = .ok (.newarray .int, 2) := by decide +kernel
theorem dX10_init_10 : decode cX10_init 10 = .ok (.putfield 13, 3) := by decide +kernel
theorem dX10_init_13 : decode cX10_init 13 = .ok (.aload_n 0, 1) := by decide +kernel
theorem dX10_init_14 : decode cX10_init 14 = .ok (.bipush 8, 2) := by decide +kernel
theorem dX10_init_16 : decode cX10_init 16 = .ok (.newarray .int, 2) := by decide +kernel
theorem dX10_init_18 : decode cX10_init 18 = .ok (.putfield 17, 3) := by decide +kernel
theorem dX10_init_21 : decode cX10_init 21 = .ok (.aload_n 0, 1) := by decide +kernel
theorem dX10_init_22 : decode cX10_init 22 = .ok (.bipush 8, 2) := by decide +kernel
theorem dX10_init_24 : decode cX10_init 24 = .ok (.newarray .int, 2) := by decide +kernel
theorem dX10_init_26 : decode cX10_init 26 = .ok (.putfield 20, 3) := by decide +kernel
theorem dX10_init_29 : decode cX10_init 29 = .ok (.aload_n 0, 1) := by decide +kernel
theorem dX10_init_30 : decode cX10_init 30 = .ok (.bipush 33, 2) := by decide +kernel
theorem dX10_init_32 : decode cX10_init 32 = .ok (.newarray .long, 2) := by decide +kernel
theorem dX10_init_34 : decode cX10_init 34 = .ok (.putfield 23, 3) := by decide +kernel
theorem dX10_init_37 : decode cX10_init 37 = .ok (.aload_n 0, 1) := by decide +kernel
theorem dX10_init_38 : decode cX10_init 38 = .ok (.bipush 33, 2) := by decide +kernel
theorem dX10_init_40 : decode cX10_init 40 = .ok (.newarray .long, 2) := by decide +kernel
theorem dX10_init_42 : decode cX10_init 42 = .ok (.putfield 27, 3) := by decide +kernel
theorem dX10_init_45 : decode cX10_init 45 = .ok (.aload_n 0, 1) := by decide +kernel
theorem dX10_init_46 : decode cX10_init 46 = .ok (.sipush 960, 3) := by decide +kernel
theorem dX10_init_49 : decode cX10_init 49 = .ok (.newarray .int, 2) := by decide +kernel
theorem dX10_init_51 : decode cX10_init 51 = .ok (.putfield 30, 3) := by decide +kernel
theorem dX10_init_54 : decode cX10_init 54 = .ok (.aload_n 0, 1) := by decide +kernel
theorem dX10_init_55 : decode cX10_init 55 = .ok (.bipush 6, 2) := by decide +kernel
theorem dX10_init_57 : decode cX10_init 57 = .ok (.newarray .int, 2) := by decide +kernel
theorem dX10_init_59 : decode cX10_init 59 = .ok (.putfield 33, 3) := by decide +kernel
theorem dX10_init_62 : decode cX10_init 62 = .ok (.aload_n 0, 1) := by decide +kernel
theorem dX10_init_63 : decode cX10_init 63 = .ok (.sipush 160, 3) := by decide +kernel
theorem dX10_init_66 : decode cX10_init 66 = .ok (.newarray .int, 2) := by decide +kernel
theorem dX10_init_68 : decode cX10_init 68 = .ok (.putfield 36, 3) := by decide +kernel
theorem dX10_init_71 : decode cX10_init 71 = .ok (.aload_n 0, 1) := by decide +kernel
theorem dX10_init_72 : decode cX10_init 72 = .ok (.bipush 16, 2) := by decide +kernel
theorem dX10_init_74 : decode cX10_init 74 = .ok (.newarray .int, 2) := by decide +kernel
theorem dX10_init_76 : decode cX10_init 76 = .ok (.putfield 39, 3) := by decide +kernel
theorem dX10_init_79 : decode cX10_init 79 = .ok (.aload_n 0, 1) := by decide +kernel
theorem dX10_init_80 : decode cX10_init 80 = .ok (.bipush 16, 2) := by decide +kernel
theorem dX10_init_82 : decode cX10_init 82 = .ok (.newarray .int, 2) := by decide +kernel
theorem dX10_init_84 : decode cX10_init 84 = .ok (.putfield 42, 3) := by decide +kernel
theorem dX10_init_87 : decode cX10_init 87 = .ok (.aload_n 0, 1) := by decide +kernel
theorem dX10_init_88 : decode cX10_init 88 = .ok (.sipush 272, 3) := by decide +kernel
theorem dX10_init_91 : decode cX10_init 91 = .ok (.newarray .int, 2) := by decide +kernel
theorem dX10_init_93 : decode cX10_init 93 = .ok (.putfield 45, 3) := by decide +kernel
theorem dX10_init_96 : decode cX10_init 96 = .ok (.aload_n 0, 1) := by decide +kernel
theorem dX10_init_97 : decode cX10_init 97 = .ok (.bipush 16, 2) := by decide +kernel
theorem dX10_init_99 : decode cX10_init 99 = .ok (.newarray .int, 2) := by decide +kernel
theorem dX10_init_101 : decode cX10_init 101 = .ok (.putfield 48, 3) := by decide +kernel
theorem dX10_init_104 : decode cX10_init 104 = .ok (.aload_n 0, 1) := by decide +kernel
theorem dX10_init_105 : decode cX10_init 105 = .ok (.iconst 4, 1) := by decide +kernel
theorem dX10_init_106 : decode cX10_init 106 = .ok (.newarray .boolean, 2) := by decide +kernel
theorem dX10_init_108 : decode cX10_init 108 = .ok (.putfield 51, 3) := by decide +kernel
theorem dX10_init_111 : decode cX10_init 111 = .ok (.aload_n 0, 1) := by decide +kernel
theorem dX10_init_112 : decode cX10_init 112 = .ok (.iconst 4, 1) := by decide +kernel
theorem dX10_init_113 : decode cX10_init 113 = .ok (.newarray .int, 2) := by decide +kernel
theorem dX10_init_115 : decode cX10_init 115 = .ok (.putfield 55, 3) := by decide +kernel
theorem dX10_init_118 : decode cX10_init 118 = .ok (.aload_n 0, 1) := by decide +kernel
theorem dX10_init_119 : decode cX10_init 119 = .ok (.iconst 4, 1) := by decide +kernel
theorem dX10_init_120 : decode cX10_init 120 = .ok (.newarray .int, 2) := by decide +kernel
theorem dX10_init_122 : decode cX10_init 122 = .ok (.putfield 58, 3) := by decide +kernel
theorem dX10_init_125 : decode cX10_init 125 = .ok (.aload_n 0, 1) := by decide +kernel
theorem dX10_init_126 : decode cX10_init 126 = .ok (.sipush 160, 3) := by decide +kernel
theorem dX10_init_129 : decode cX10_init 129 = .ok (.newarray .int, 2) := by decide +kernel
theorem dX10_init_131 : decode cX10_init 131 = .ok (.putfield 61, 3) := by decide +kernel
theorem dX10_init_134 : decode cX10_init 134 = .ok (.iload_n 1, 1) := by decide +kernel
theorem dX10_init_135 : decode cX10_init 135 = .ok (.iconst 4, 1) := by decide +kernel
theorem dX10_init_136 : decode cX10_init 136 = .ok (.irem, 1) := by decide +kernel
theorem dX10_init_137 : decode cX10_init 137 = .ok (.iconst 4, 1) := by decide +kernel
theorem dX10_init_138 : decode cX10_init 138 = .ok (.iadd, 1) := by decide +kernel
theorem dX10_init_139 : decode cX10_init 139 = .ok (.iconst 4, 1) := by decide +kernel
theorem dX10_init_140 : decode cX10_init 140 = .ok (.irem, 1) := by decide +kernel
theorem dX10_init_141 : decode cX10_init 141 = .ok (.istore_n 2, 1) := by decide +kernel
theorem dX10_init_142 : decode cX10_init 142 = .ok (.aload_n 0, 1) := by decide +kernel
theorem dX10_init_143 : decode cX10_init 143 = .ok (.iload_n 2, 1) := by decide +kernel
theorem dX10_init_144 : decode cX10_init 144 = .ok (.ifCond .ne 8, 3) := by decide +kernel
theorem dX10_init_147 : decode cX10_init 147 = .ok (.bipush 97, 2) := by decide +kernel
theorem dX10_init_149 : decode cX10_init 149 = .ok (.goto 28, 3) := by decide +kernel
theorem dX10_init_152 : decode cX10_init 152 = .ok (.iload_n 2, 1) := by decide +kernel
theorem dX10_init_153 : decode cX10_init 153 = .ok (.iconst 1, 1) := by decide +kernel
theorem dX10_init_154 : decode cX10_init 154 = .ok (.if_icmp .ne 9, 3) := by decide +kernel
theorem dX10_init_157 : decode cX10_init 157 = .ok (.sipush 193, 3) := by decide +kernel
theorem dX10_init_160 : decode cX10_init 160 = .ok (.goto 17, 3) := by decide +kernel
theorem dX10_init_163 : decode cX10_init 163 = .ok (.iload_n 2, 1) := by decide +kernel
theorem dX10_init_164 : decode cX10_init 164 = .ok (.iconst 2, 1) := by decide +kernel
theorem dX10_init_165 : decode cX10_init 165 = .ok (.if_icmp .ne 9, 3) := by decide +kernel
theorem dX10_init_168 : decode cX10_init 168 = .ok (.sipush 257, 3) := by decide +kernel
theorem dX10_init_171 : decode cX10_init 171 = .ok (.goto 6, 3) := by decide +kernel
theorem dX10_init_174 : decode cX10_init 174 = .ok (.sipush 7681, 3) := by decide +kernel
theorem dX10_init_177 : decode cX10_init 177 = .ok (.putfield 64, 3) := by decide +kernel
theorem dX10_init_180 : decode cX10_init 180 = .ok (.iconst 0, 1) := by decide +kernel
theorem dX10_init_181 : decode cX10_init 181 = .ok (.istore_n 3, 1) := by decide +kernel
theorem dX10_init_182 : decode cX10_init 182 = .ok (.ldc2_w 67, 3) := by decide +kernel
theorem dX10_init_185 : decode cX10_init 185 = .ok (.lstore 4, 2) := by decide +kernel
theorem dX10_init_187 : decode cX10_init 187 = .ok (.ldc2_w 69, 3) := by decide +kernel
theorem dX10_init_190 : decode cX10_init 190 = .ok (.lstore 6, 2) := by decide +kernel
theorem dX10_init_192 : decode cX10_init 192 = .ok (.ldc2_w 71, 3) := by decide +kernel
theorem dX10_init_195 : decode cX10_init 195 = .ok (.lstore 8, 2) := by decide +kernel
theorem dX10_init_197 : decode cX10_init 197 = .ok (.ldc2_w 73, 3) := by decide +kernel
theorem dX10_init_200 : decode cX10_init 200 = .ok (.lstore 10, 2) := by decide +kernel
theorem dX10_init_202 : decode cX10_init 202 = .ok (.ldc2_w 75, 3) := by decide +kernel
theorem dX10_init_205 : decode cX10_init 205 = .ok (.lstore 12, 2) := by decide +kernel
theorem dX10_init_207 : decode cX10_init 207 = .ok (.bipush 7, 2) := by decide +kernel
theorem dX10_init_209 : decode cX10_init 209 = .ok (.istore 14, 2) := by decide +kernel
theorem dX10_init_211 : decode cX10_init 211 = .ok (.iload 14, 2) := by decide +kernel
theorem dX10_init_213 : decode cX10_init 213 = .ok (.ifCond .lt 119, 3) := by decide +kernel
theorem dX10_init_216 : decode cX10_init 216 = .ok (.aload_n 0, 1) := by decide +kernel
theorem dX10_init_217 : decode cX10_init 217 = .ok (.getfield 30, 3) := by decide +kernel
theorem dX10_init_220 : decode cX10_init 220 = .ok (.iload_n 3, 1) := by decide +kernel
theorem dX10_init_221 : decode cX10_init 221 = .ok (.lload 4, 2) := by decide +kernel
theorem dX10_init_223 : decode cX10_init 223 = .ok (.bipush 8, 2) := by decide +kernel
theorem dX10_init_225 : decode cX10_init 225 = .ok (.iload 14, 2) := by decide +kernel
theorem dX10_init_227 : decode cX10_init 227 = .ok (.imul, 1) := by decide +kernel
theorem dX10_init_228 : decode cX10_init 228 = .ok (.lshr, 1) := by decide +kernel
theorem dX10_init_229 : decode cX10_init 229 = .ok (.ldc2_w 77, 3) := by decide +kernel
theorem dX10_init_232 : decode cX10_init 232 = .ok (.land, 1) := by decide +kernel
theorem dX10_init_233 : decode cX10_init 233 = .ok (.l2i, 1) := by decide +kernel
theorem dX10_init_234 : decode cX10_init 234 = .ok (.iastore, 1) := by decide +kernel
theorem dX10_init_235 : decode cX10_init 235 = .ok (.aload_n 0, 1) := by decide +kernel
theorem dX10_init_236 : decode cX10_init 236 = .ok (.getfield 30, 3) := by decide +kernel
theorem dX10_init_239 : decode cX10_init 239 = .ok (.iload_n 3, 1) := by decide +kernel
theorem dX10_init_240 : decode cX10_init 240 = .ok (.bipush 8, 2) := by decide +kernel
theorem dX10_init_242 : decode cX10_init 242 = .ok (.iadd, 1) := by decide +kernel
theorem dX10_init_243 : decode cX10_init 243 = .ok (.lload 6, 2) := by decide +kernel
theorem dX10_init_245 : decode cX10_init 245 = .ok (.bipush 8, 2) := by decide +kernel
theorem dX10_init_247 : decode cX10_init 247 = .ok (.iload 14, 2) := by decide +kernel
theorem dX10_init_249 : decode cX10_init 249 = .ok (.imul, 1) := by decide +kernel
theorem dX10_init_250 : decode cX10_init 250 = .ok (.lshr, 1) := by decide +kernel
theorem dX10_init_251 : decode cX10_init 251 = .ok (.ldc2_w 77, 3) := by decide +kernel
theorem dX10_init_254 : decode cX10_init 254 = .ok (.land, 1) := by decide +kernel
theorem dX10_init_255 : decode cX10_init 255 = .ok (.l2i, 1) := by decide +kernel
theorem dX10_init_256 : decode cX10_init 256 = .ok (.iastore, 1) := by decide +kernel
theorem dX10_init_257 : decode cX10_init 257 = .ok (.aload_n 0, 1) := by decide +kernel
theorem dX10_init_258 : decode cX10_init 258 = .ok (.getfield 30, 3) := by decide +kernel
theorem dX10_init_261 : decode cX10_init 261 = .ok (.iload_n 3, 1) := by decide +kernel
theorem dX10_init_262 : decode cX10_init 262 = .ok (.bipush 16, 2) := by decide +kernel
theorem dX10_init_264 : decode cX10_init 264 = .ok (.iadd, 1) := by decide +kernel
theorem dX10_init_265 : decode cX10_init 265 = .ok (.lload 8, 2) := by decide +kernel
theorem dX10_init_267 : decode cX10_init 267 = .ok (.bipush 8, 2) := by decide +kernel
theorem dX10_init_269 : decode cX10_init 269 = .ok (.iload 14, 2) := by decide +kernel
theorem dX10_init_271 : decode cX10_init 271 = .ok (.imul, 1) := by decide +kernel
theorem dX10_init_272 : decode cX10_init 272 = .ok (.lshr, 1) := by decide +kernel
theorem dX10_init_273 : decode cX10_init 273 = .ok (.ldc2_w 77, 3) := by decide +kernel
theorem dX10_init_276 : decode cX10_init 276 = .ok (.land, 1) := by decide +kernel
theorem dX10_init_277 : decode cX10_init 277 = .ok (.l2i, 1) := by decide +kernel
theorem dX10_init_278 : decode cX10_init 278 = .ok (.iastore, 1) := by decide +kernel
theorem dX10_init_279 : decode cX10_init 279 = .ok (.aload_n 0, 1) := by decide +kernel
theorem dX10_init_280 : decode cX10_init 280 = .ok (.getfield 30, 3) := by decide +kernel
theorem dX10_init_283 : decode cX10_init 283 = .ok (.iload_n 3, 1) := by decide +kernel
theorem dX10_init_284 : decode cX10_init 284 = .ok (.bipush 24, 2) := by decide +kernel
theorem dX10_init_286 : decode cX10_init 286 = .ok (.iadd, 1) := by decide +kernel
theorem dX10_init_287 : decode cX10_init 287 = .ok (.lload 10, 2) := by decide +kernel
theorem dX10_init_289 : decode cX10_init 289 = .ok (.bipush 8, 2) := by decide +kernel
theorem dX10_init_291 : decode cX10_init 291 = .ok (.iload 14, 2) := by decide +kernel
theorem dX10_init_293 : decode cX10_init 293 = .ok (.imul, 1) := by decide +kernel
theorem dX10_init_294 : decode cX10_init 294 = .ok (.lshr, 1) := by decide +kernel
theorem dX10_init_295 : decode cX10_init 295 = .ok (.ldc2_w 77, 3) := by decide +kernel
theorem dX10_init_298 : decode cX10_init 298 = .ok (.land, 1) := by decide +kernel
theorem dX10_init_299 : decode cX10_init 299 = .ok (.l2i, 1) := by decide +kernel
theorem dX10_init_300 : decode cX10_init 300 = .ok (.iastore, 1) := by decide +kernel
theorem dX10_init_301 : decode cX10_init 301 = .ok (.aload_n 0, 1) := by decide +kernel
theorem dX10_init_302 : decode cX10_init 302 = .ok (.getfield 30, 3) := by decide +kernel
theorem dX10_init_305 : decode cX10_init 305 = .ok (.iload_n 3, 1) := by decide +kernel
theorem dX10_init_306 : decode cX10_init 306 = .ok (.bipush 32, 2) := by decide +kernel
theorem dX10_init_308 : decode cX10_init 308 = .ok (.iadd, 1) := by decide +kernel
theorem dX10_init_309 : decode cX10_init 309 = .ok (.lload 12, 2) := by decide +kernel
theorem dX10_init_311 : decode cX10_init 311 = .ok (.bipush 8, 2) := by decide +kernel
theorem dX10_init_313 : decode cX10_init 313 = .ok (.iload 14, 2) := by decide +kernel
theorem dX10_init_315 : decode cX10_init 315 = .ok (.imul, 1) := by decide +kernel
theorem dX10_init_316 : decode cX10_init 316 = .ok (.lshr, 1) := by decide +kernel
theorem dX10_init_317 : decode cX10_init 317 = .ok (.ldc2_w 77, 3) := by decide +kernel
theorem dX10_init_320 : decode cX10_init 320 = .ok (.land, 1) := by decide +kernel
theorem dX10_init_321 : decode cX10_init 321 = .ok (.l2i, 1) := by decide +kernel
theorem dX10_init_322 : decode cX10_init 322 = .ok (.iastore, 1) := by decide +kernel
theorem dX10_init_323 : decode cX10_init 323 = .ok (.iinc 3 1, 3) := by decide +kernel
theorem dX10_init_326 : decode cX10_init 326 = .ok (.iinc 14 (-1), 3) := by decide +kernel
theorem dX10_init_329 : decode cX10_init 329 = .ok (.goto (-118), 3) := by decide +kernel
theorem dX10_init_332 : decode cX10_init 332 = .ok (.aload_n 0, 1) := by decide +kernel
theorem dX10_init_333 : decode cX10_init 333 = .ok (.getfield 33, 3) := by decide +kernel
theorem dX10_init_336 : decode cX10_init 336 = .ok (.iconst 0, 1) := by decide +kernel
theorem dX10_init_337 : decode cX10_init 337 = .ok (.bipush 40, 2) := by decide +kernel
theorem dX10_init_339 : decode cX10_init 339 = .ok (.iastore, 1) := by decide +kernel
theorem dX10_init_340 : decode cX10_init 340 = .ok (.aload_n 0, 1) := by decide +kernel
theorem dX10_init_341 : decode cX10_init 341 = .ok (.iconst 1, 1) := by decide +kernel
theorem dX10_init_342 : decode cX10_init 342 = .ok (.putfield 79, 3) := by decide +kernel
theorem dX10_init_345 : decode cX10_init 345 = .ok (.return_, 1) := by decide +kernel
theorem dX10_rest_0 : decode cX10_rest 0 = .ok (.iload_n 1, 1) := by decide +kernel
theorem dX10_rest_1 : decode cX10_rest 1 = .ok (.aload_n 0, 1) := by decide +kernel
theorem dX10_rest_2 : decode cX10_rest 2 = .ok (.getfield 64, 3) := by decide +kernel
theorem dX10_rest_5 : decode cX10_rest 5 = .ok (.irem, 1) := by decide +kernel
theorem dX10_rest_6 : decode cX10_rest 6 = .ok (.aload_n 0, 1) := by decide +kernel
theorem dX10_rest_7 : decode cX10_rest 7 = .ok (.getfield 64, 3) := by decide +kernel
theorem dX10_rest_10 : decode cX10_rest 10 = .ok (.iadd, 1) := by decide +kernel
theorem dX10_rest_11 : decode cX10_rest 11 = .ok (.aload_n 0, 1) := by decide +kernel
theorem dX10_rest_12 : decode cX10_rest 12 = .ok (.getfield 64, 3) := by decide +kernel
theorem dX10_rest_15 : decode cX10_rest 15 = .ok (.irem, 1) := by decide +kernel
theorem dX10_rest_16 : decode cX10_rest 16 = .ok (.ireturn, 1) := by decide +kernel
theorem dX10_raised_0 : decode cX10_raised 0 = .ok (.iconst 1, 1) := by decide +kernel
theorem dX10_raised_1 : decode cX10_raised 1 = .ok (.istore_n 3, 1) := by decide +kernel
theorem dX10_raised_2 : decode cX10_raised 2 = .ok (.iload_n 1, 1) := by decide +kernel
theorem dX10_raised_3 : decode cX10_raised 3 = .ok (.istore 4, 2) := by decide +kernel
theorem dX10_raised_5 : decode cX10_raised 5 = .ok (.iload_n 2, 1) := by decide +kernel
theorem dX10_raised_6 : decode cX10_raised 6 = .ok (.istore 5, 2) := by decide +kernel
theorem dX10_raised_8 : decode cX10_raised 8 = .ok (.iload 5, 2) := by decide +kernel
theorem dX10_raised_10 : decode cX10_raised 10 = .ok (.ifCond .le 42, 3) := by decide +kernel
theorem dX10_raised_13 : decode cX10_raised 13 = .ok (.iload 5, 2) := by decide +kernel
theorem dX10_raised_15 : decode cX10_raised 15 = .ok (.iconst 1, 1) := by decide +kernel
theorem dX10_raised_16 : decode cX10_raised 16 = .ok (.iand, 1) := by decide +kernel
theorem dX10_raised_17 : decode cX10_raised 17 = .ok (.iconst 1, 1) := by decide +kernel
theorem dX10_raised_18 : decode cX10_raised 18 = .ok (.if_icmp .ne 13, 3) := by decide +kernel
theorem dX10_raised_21 : decode cX10_raised 21 = .ok (.iload_n 3, 1) := by decide +kernel
theorem dX10_raised_22 : decode cX10_raised 22 = .ok (.iload 4, 2) := by decide +kernel
theorem dX10_raised_24 : decode cX10_raised 24 = .ok (.imul, 1) := by decide +kernel
theorem dX10_raised_25 : decode cX10_raised 25 = .ok (.aload_n 0, 1) := by decide +kernel
theorem dX10_raised_26 : decode cX10_raised 26 = .ok (.getfield 64, 3) := by decide +kernel
theorem dX10_raised_29 : decode cX10_raised 29 = .ok (.irem, 1) := by decide +kernel
theorem dX10_raised_30 : decode cX10_raised 30 = .ok (.istore_n 3, 1) := by decide +kernel
theorem dX10_raised_31 : decode cX10_raised 31 = .ok (.iload 4, 2) := by decide +kernel
theorem dX10_raised_33 : decode cX10_raised 33 = .ok (.iload 4, 2) := by decide +kernel
theorem dX10_raised_35 : decode cX10_raised 35 = .ok (.imul, 1) := by decide +kernel
theorem dX10_raised_36 : decode cX10_raised 36 = .ok (.aload_n 0, 1) := by decide +kernel
theorem dX10_raised_37 : decode cX10_raised 37 = .ok (.getfield 64, 3) := by decide +kernel
theorem dX10_raised_40 : decode cX10_raised 40 = .ok (.irem, 1) := by decide +kernel
theorem dX10_raised_41 : decode cX10_raised 41 = .ok (.istore 4, 2) := by decide +kernel
theorem dX10_raised_43 : decode cX10_raised 43 = .ok (.iload 5, 2) := by decide +kernel
theorem dX10_raised_45 : decode cX10_raised 45 = .ok (.iconst 1, 1) := by decide +kernel
theorem dX10_raised_46 : decode cX10_raised 46 = .ok (.ishr, 1) := by decide +kernel
theorem dX10_raised_47 : decode cX10_raised 47 = .ok (.istore 5, 2) := by decide +kernel
theorem dX10_raised_49 : decode cX10_raised 49 = .ok (.goto (-41), 3) := by decide +kernel
theorem dX10_raised_52 : decode cX10_raised 52 = .ok (.iload_n 3, 1) := by decide +kernel
theorem dX10_raised_53 : decode cX10_raised 53 = .ok (.ireturn, 1) := by decide +kernel
theorem dX10_inverse_0 : decode cX10_inverse 0 = .ok (.aload_n 0, 1) := by decide +kernel
theorem dX10_inverse_1 : decode cX10_inverse 1 = .ok (.iload_n 1, 1) := by decide +kernel
theorem dX10_inverse_2 : decode cX10_inverse 2 = .ok (.aload_n 0, 1) := by decide +kernel
theorem dX10_inverse_3 : decode cX10_inverse 3 = .ok (.getfield 64, 3) := by decide +kernel
theorem dX10_inverse_6 : decode cX10_inverse 6 = .ok (.iconst 2, 1) := by decide +kernel
theorem dX10_inverse_7 : decode cX10_inverse 7 = .ok (.isub, 1) := by decide +kernel
theorem dX10_inverse_8 : decode cX10_inverse 8 = .ok (.invokevirtual 82, 3) := by decide +kernel
theorem dX10_inverse_11 : decode cX10_inverse 11 = .ok (.ireturn, 1) := by decide +kernel
theorem dX10_length_0 : decode cX10_length 0 = .ok (.bipush 80, 2) := by decide +kernel
theorem dX10_length_2 : decode cX10_length 2 = .ok (.istore_n 2, 1) := by decide +kernel
theorem dX10_length_3 : decode cX10_length 3 = .ok (.iload_n 2, 1) := by decide +kernel
theorem dX10_length_4 : decode cX10_length 4 = .ok (.ifCond .le 25, 3) := by decide +kernel
theorem dX10_length_7 : decode cX10_length 7 = .ok (.aload_n 0, 1) := by decide +kernel
theorem dX10_length_8 : decode cX10_length 8 = .ok (.getfield 13, 3) := by decide +kernel
theorem dX10_length_11 : decode cX10_length 11 = .ok (.bipush 80, 2) := by decide +kernel
theorem dX10_length_13 : decode cX10_length 13 = .ok (.iload_n 1, 1) := by decide +kernel
theorem dX10_length_14 : decode cX10_length 14 = .ok (.imul, 1) := by decide +kernel
theorem dX10_length_15 : decode cX10_length 15 = .ok (.iload_n 2, 1) := by decide +kernel
theorem dX10_length_16 : decode cX10_length 16 = .ok (.iadd, 1) := by decide +kernel
theorem dX10_length_17 : decode cX10_length 17 = .ok (.iconst 1, 1) := by decide +kernel
theorem dX10_length_18 : decode cX10_length 18 = .ok (.isub, 1) := by decide +kernel
theorem dX10_length_19 : decode cX10_length 19 = .ok (.iaload, 1) := by decide +kernel
theorem dX10_length_20 : decode cX10_length 20 = .ok (.ifCond .ne 9, 3) := by decide +kernel
theorem dX10_length_23 : decode cX10_length 23 = .ok (.iinc 2 (-1), 3) := by decide +kernel
theorem dX10_length_26 : decode cX10_length 26 = .ok (.goto (-23), 3) := by decide +kernel
theorem dX10_length_29 : decode cX10_length 29 = .ok (.iload_n 2, 1) := by decide +kernel
theorem dX10_length_30 : decode cX10_length 30 = .ok (.ireturn, 1) := by decide +kernel
theorem dX10_empty_0 : decode cX10_empty 0 = .ok (.iconst 0, 1) := by decide +kernel
theorem dX10_empty_1 : decode cX10_empty 1 = .ok (.istore_n 2, 1) := by decide +kernel
theorem dX10_empty_2 : decode cX10_empty 2 = .ok (.iload_n 2, 1) := by decide +kernel
theorem dX10_empty_3 : decode cX10_empty 3 = .ok (.bipush 80, 2) := by decide +kernel
theorem dX10_empty_5 : decode cX10_empty 5 = .ok (.if_icmp .ge 21, 3) := by decide +kernel
theorem dX10_empty_8 : decode cX10_empty 8 = .ok (.aload_n 0, 1) := by decide +kernel
theorem dX10_empty_9 : decode cX10_empty 9 = .ok (.getfield 13, 3) := by decide +kernel
theorem dX10_empty_12 : decode cX10_empty 12 = .ok (.bipush 80, 2) := by decide +kernel
theorem dX10_empty_14 : decode cX10_empty 14 = .ok (.iload_n 1, 1) := by decide +kernel
theorem dX10_empty_15 : decode cX10_empty 15 = .ok (.imul, 1) := by decide +kernel
theorem dX10_empty_16 : decode cX10_empty 16 = .ok (.iload_n 2, 1) := by decide +kernel
theorem dX10_empty_17 : decode cX10_empty 17 = .ok (.iadd, 1) := by decide +kernel
theorem dX10_empty_18 : decode cX10_empty 18 = .ok (.iconst 0, 1) := by decide +kernel
theorem dX10_empty_19 : decode cX10_empty 19 = .ok (.iastore, 1) := by decide +kernel
theorem dX10_empty_20 : decode cX10_empty 20 = .ok (.iinc 2 1, 3) := by decide +kernel
theorem dX10_empty_23 : decode cX10_empty 23 = .ok (.goto (-21), 3) := by decide +kernel
theorem dX10_empty_26 : decode cX10_empty 26 = .ok (.return_, 1) := by decide +kernel
theorem dX10_copy_0 : decode cX10_copy 0 = .ok (.iconst 0, 1) := by decide +kernel
theorem dX10_copy_1 : decode cX10_copy 1 = .ok (.istore_n 3, 1) := by decide +kernel
theorem dX10_copy_2 : decode cX10_copy 2 = .ok (.iload_n 3, 1) := by decide +kernel
theorem dX10_copy_3 : decode cX10_copy 3 = .ok (.bipush 80, 2) := by decide +kernel
theorem dX10_copy_5 : decode cX10_copy 5 = .ok (.if_icmp .ge 31, 3) := by decide +kernel
theorem dX10_copy_8 : decode cX10_copy 8 = .ok (.aload_n 0, 1) := by decide +kernel
theorem dX10_copy_9 : decode cX10_copy 9 = .ok (.getfield 13, 3) := by decide +kernel
theorem dX10_copy_12 : decode cX10_copy 12 = .ok (.bipush 80, 2) := by decide +kernel
theorem dX10_copy_14 : decode cX10_copy 14 = .ok (.iload_n 2, 1) := by decide +kernel
theorem dX10_copy_15 : decode cX10_copy 15 = .ok (.imul, 1) := by decide +kernel
theorem dX10_copy_16 : decode cX10_copy 16 = .ok (.iload_n 3, 1) := by decide +kernel
theorem dX10_copy_17 : decode cX10_copy 17 = .ok (.iadd, 1) := by decide +kernel
theorem dX10_copy_18 : decode cX10_copy 18 = .ok (.aload_n 0, 1) := by decide +kernel
theorem dX10_copy_19 : decode cX10_copy 19 = .ok (.getfield 13, 3) := by decide +kernel
theorem dX10_copy_22 : decode cX10_copy 22 = .ok (.bipush 80, 2) := by decide +kernel
theorem dX10_copy_24 : decode cX10_copy 24 = .ok (.iload_n 1, 1) := by decide +kernel
theorem dX10_copy_25 : decode cX10_copy 25 = .ok (.imul, 1) := by decide +kernel
theorem dX10_copy_26 : decode cX10_copy 26 = .ok (.iload_n 3, 1) := by decide +kernel
theorem dX10_copy_27 : decode cX10_copy 27 = .ok (.iadd, 1) := by decide +kernel
theorem dX10_copy_28 : decode cX10_copy 28 = .ok (.iaload, 1) := by decide +kernel
theorem dX10_copy_29 : decode cX10_copy 29 = .ok (.iastore, 1) := by decide +kernel
theorem dX10_copy_30 : decode cX10_copy 30 = .ok (.iinc 3 1, 3) := by decide +kernel
theorem dX10_copy_33 : decode cX10_copy 33 = .ok (.goto (-31), 3) := by decide +kernel
theorem dX10_copy_36 : decode cX10_copy 36 = .ok (.return_, 1) := by decide +kernel
theorem dX10_isPoly_0 : decode cX10_isPoly 0 = .ok (.iload_n 0, 1) := by decide +kernel
theorem dX10_isPoly_1 : decode cX10_isPoly 1 = .ok (.iconst 0, 1) := by decide +kernel
theorem dX10_isPoly_2 : decode cX10_isPoly 2 = .ok (.bipush 7, 2) := by decide +kernel
theorem dX10_isPoly_4 : decode cX10_isPoly 4 = .ok (.invokestatic 86, 3) := by decide +kernel
theorem dX10_isPoly_7 : decode cX10_isPoly 7 = .ok (.ireturn, 1) := by decide +kernel
theorem dX10_comes_0 : decode cX10_comes 0 = .ok (.aload_n 0, 1) := by decide +kernel
theorem dX10_comes_1 : decode cX10_comes 1 = .ok (.iload_n 2, 1) := by decide +kernel
theorem dX10_comes_2 : decode cX10_comes 2 = .ok (.iload_n 1, 1) := by decide +kernel
theorem dX10_comes_3 : decode cX10_comes 3 = .ok (.invokevirtual 90, 3) := by decide +kernel
theorem dX10_comes_6 : decode cX10_comes 6 = .ok (.aload_n 0, 1) := by decide +kernel
theorem dX10_comes_7 : decode cX10_comes 7 = .ok (.iload_n 1, 1) := by decide +kernel
theorem dX10_comes_8 : decode cX10_comes 8 = .ok (.invokevirtual 94, 3) := by decide +kernel
theorem dX10_comes_11 : decode cX10_comes 11 = .ok (.ireturn, 1) := by decide +kernel
theorem dX10_put_0 : decode cX10_put 0 = .ok (.iload_n 1, 1) := by decide +kernel
theorem dX10_put_1 : decode cX10_put 1 = .ok (.invokestatic 98, 3) := by decide +kernel
theorem dX10_put_4 : decode cX10_put 4 = .ok (.ifCond .eq 13, 3) := by decide +kernel
theorem dX10_put_7 : decode cX10_put 7 = .ok (.iload_n 2, 1) := by decide +kernel
theorem dX10_put_8 : decode cX10_put 8 = .ok (.iconst 0, 1) := by decide +kernel
theorem dX10_put_9 : decode cX10_put 9 = .ok (.bipush 31, 2) := by decide +kernel
theorem dX10_put_11 : decode cX10_put 11 = .ok (.invokestatic 86, 3) := by decide +kernel
theorem dX10_put_14 : decode cX10_put 14 = .ok (.ifCond .ne 6, 3) := by decide +kernel
theorem dX10_put_17 : decode cX10_put 17 = .ok (.bipush (-2), 2) := by decide +kernel
theorem dX10_put_19 : decode cX10_put 19 = .ok (.ireturn, 1) := by decide +kernel
theorem dX10_put_20 : decode cX10_put 20 = .ok (.aload_n 0, 1) := by decide +kernel
theorem dX10_put_21 : decode cX10_put 21 = .ok (.getfield 13, 3) := by decide +kernel
theorem dX10_put_24 : decode cX10_put 24 = .ok (.bipush 80, 2) := by decide +kernel
theorem dX10_put_26 : decode cX10_put 26 = .ok (.iload_n 1, 1) := by decide +kernel
theorem dX10_put_27 : decode cX10_put 27 = .ok (.imul, 1) := by decide +kernel
theorem dX10_put_28 : decode cX10_put 28 = .ok (.iload_n 2, 1) := by decide +kernel
theorem dX10_put_29 : decode cX10_put 29 = .ok (.iadd, 1) := by decide +kernel
theorem dX10_put_30 : decode cX10_put 30 = .ok (.iaload, 1) := by decide +kernel
theorem dX10_put_31 : decode cX10_put 31 = .ok (.istore 4, 2) := by decide +kernel
theorem dX10_put_33 : decode cX10_put 33 = .ok (.aload_n 0, 1) := by decide +kernel
theorem dX10_put_34 : decode cX10_put 34 = .ok (.getfield 13, 3) := by decide +kernel
theorem dX10_put_37 : decode cX10_put 37 = .ok (.bipush 80, 2) := by decide +kernel
theorem dX10_put_39 : decode cX10_put 39 = .ok (.iload_n 1, 1) := by decide +kernel
theorem dX10_put_40 : decode cX10_put 40 = .ok (.imul, 1) := by decide +kernel
theorem dX10_put_41 : decode cX10_put 41 = .ok (.iload_n 2, 1) := by decide +kernel
theorem dX10_put_42 : decode cX10_put 42 = .ok (.iadd, 1) := by decide +kernel
theorem dX10_put_43 : decode cX10_put 43 = .ok (.aload_n 0, 1) := by decide +kernel
theorem dX10_put_44 : decode cX10_put 44 = .ok (.iload_n 3, 1) := by decide +kernel
theorem dX10_put_45 : decode cX10_put 45 = .ok (.invokevirtual 102, 3) := by decide +kernel
theorem dX10_put_48 : decode cX10_put 48 = .ok (.iastore, 1) := by decide +kernel
theorem dX10_put_49 : decode cX10_put 49 = .ok (.iload 4, 2) := by decide +kernel
theorem dX10_put_51 : decode cX10_put 51 = .ok (.ireturn, 1) := by decide +kernel
theorem dX10_at_0 : decode cX10_at 0 = .ok (.iload_n 1, 1) := by decide +kernel
theorem dX10_at_1 : decode cX10_at 1 = .ok (.invokestatic 98, 3) := by decide +kernel
theorem dX10_at_4 : decode cX10_at 4 = .ok (.ifCond .eq 13, 3) := by decide +kernel
theorem dX10_at_7 : decode cX10_at 7 = .ok (.iload_n 2, 1) := by decide +kernel
theorem dX10_at_8 : decode cX10_at 8 = .ok (.iconst (-1), 1) := by decide +kernel
theorem dX10_at_9 : decode cX10_at 9 = .ok (.bipush 31, 2) := by decide +kernel
theorem dX10_at_11 : decode cX10_at 11 = .ok (.invokestatic 86, 3) := by decide +kernel
theorem dX10_at_14 : decode cX10_at 14 = .ok (.ifCond .ne 8, 3) := by decide +kernel
theorem dX10_at_17 : decode cX10_at 17 = .ok (.bipush (-2), 2) := by decide +kernel
theorem dX10_at_19 : decode cX10_at 19 = .ok (.goto 26, 3) := by decide +kernel
theorem dX10_at_22 : decode cX10_at 22 = .ok (.iload_n 2, 1) := by decide +kernel
theorem dX10_at_23 : decode cX10_at 23 = .ok (.ifCond .ge 11, 3) := by decide +kernel
theorem dX10_at_26 : decode cX10_at 26 = .ok (.aload_n 0, 1) := by decide +kernel
theorem dX10_at_27 : decode cX10_at 27 = .ok (.iload_n 1, 1) := by decide +kernel
theorem dX10_at_28 : decode cX10_at 28 = .ok (.invokevirtual 94, 3) := by decide +kernel
theorem dX10_at_31 : decode cX10_at 31 = .ok (.goto 14, 3) := by decide +kernel
theorem dX10_at_34 : decode cX10_at 34 = .ok (.aload_n 0, 1) := by decide +kernel
theorem dX10_at_35 : decode cX10_at 35 = .ok (.getfield 13, 3) := by decide +kernel
theorem dX10_at_38 : decode cX10_at 38 = .ok (.bipush 80, 2) := by decide +kernel
theorem dX10_at_40 : decode cX10_at 40 = .ok (.iload_n 1, 1) := by decide +kernel
theorem dX10_at_41 : decode cX10_at 41 = .ok (.imul, 1) := by decide +kernel
theorem dX10_at_42 : decode cX10_at 42 = .ok (.iload_n 2, 1) := by decide +kernel
theorem dX10_at_43 : decode cX10_at 43 = .ok (.iadd, 1) := by decide +kernel
theorem dX10_at_44 : decode cX10_at 44 = .ok (.iaload, 1) := by decide +kernel
theorem dX10_at_45 : decode cX10_at 45 = .ok (.ireturn, 1) := by decide +kernel
theorem dX10_clear_0 : decode cX10_clear 0 = .ok (.iload_n 1, 1) := by decide +kernel
theorem dX10_clear_1 : decode cX10_clear 1 = .ok (.invokestatic 98, 3) := by decide +kernel
theorem dX10_clear_4 : decode cX10_clear 4 = .ok (.ifCond .ne 6, 3) := by decide +kernel
theorem dX10_clear_7 : decode cX10_clear 7 = .ok (.bipush (-2), 2) := by decide +kernel
theorem dX10_clear_9 : decode cX10_clear 9 = .ok (.ireturn, 1) := by decide +kernel
theorem dX10_clear_10 : decode cX10_clear 10 = .ok (.aload_n 0, 1) := by decide +kernel
theorem dX10_clear_11 : decode cX10_clear 11 = .ok (.iload_n 1, 1) := by decide +kernel
theorem dX10_clear_12 : decode cX10_clear 12 = .ok (.invokevirtual 94, 3) := by decide +kernel
theorem dX10_clear_15 : decode cX10_clear 15 = .ok (.istore_n 2, 1) := by decide +kernel
theorem dX10_clear_16 : decode cX10_clear 16 = .ok (.aload_n 0, 1) := by decide +kernel
theorem dX10_clear_17 : decode cX10_clear 17 = .ok (.iload_n 1, 1) := by decide +kernel
theorem dX10_clear_18 : decode cX10_clear 18 = .ok (.invokevirtual 105, 3) := by decide +kernel
theorem dX10_clear_21 : decode cX10_clear 21 = .ok (.iload_n 2, 1) := by decide +kernel
theorem dX10_clear_22 : decode cX10_clear 22 = .ok (.ireturn, 1) := by decide +kernel
theorem dX10_sum_0 : decode cX10_sum 0 = .ok (.iload_n 1, 1) := by decide +kernel
theorem dX10_sum_1 : decode cX10_sum 1 = .ok (.invokestatic 98, 3) := by decide +kernel
theorem dX10_sum_4 : decode cX10_sum 4 = .ok (.ifCond .eq 18, 3) := by decide +kernel
theorem dX10_sum_7 : decode cX10_sum 7 = .ok (.iload_n 2, 1) := by decide +kernel
theorem dX10_sum_8 : decode cX10_sum 8 = .ok (.invokestatic 98, 3) := by decide +kernel
theorem dX10_sum_11 : decode cX10_sum 11 = .ok (.ifCond .eq 11, 3) := by decide +kernel
theorem dX10_sum_14 : decode cX10_sum 14 = .ok (.iload 4, 2) := by decide +kernel
theorem dX10_sum_16 : decode cX10_sum 16 = .ok (.invokestatic 98, 3) := by decide +kernel
theorem dX10_sum_19 : decode cX10_sum 19 = .ok (.ifCond .ne 6, 3) := by decide +kernel
theorem dX10_sum_22 : decode cX10_sum 22 = .ok (.bipush (-2), 2) := by decide +kernel
theorem dX10_sum_24 : decode cX10_sum 24 = .ok (.ireturn, 1) := by decide +kernel
theorem dX10_sum_25 : decode cX10_sum 25 = .ok (.aload_n 0, 1) := by decide +kernel
theorem dX10_sum_26 : decode cX10_sum 26 = .ok (.iload_n 3, 1) := by decide +kernel
theorem dX10_sum_27 : decode cX10_sum 27 = .ok (.invokevirtual 102, 3) := by decide +kernel
theorem dX10_sum_30 : decode cX10_sum 30 = .ok (.istore 5, 2) := by decide +kernel
theorem dX10_sum_32 : decode cX10_sum 32 = .ok (.iconst 0, 1) := by decide +kernel
theorem dX10_sum_33 : decode cX10_sum 33 = .ok (.istore 6, 2) := by decide +kernel
theorem dX10_sum_35 : decode cX10_sum 35 = .ok (.iload 6, 2) := by decide +kernel
theorem dX10_sum_37 : decode cX10_sum 37 = .ok (.bipush 80, 2) := by decide +kernel
theorem dX10_sum_39 : decode cX10_sum 39 = .ok (.if_icmp .ge 54, 3) := by decide +kernel
theorem dX10_sum_42 : decode cX10_sum 42 = .ok (.aload_n 0, 1) := by decide +kernel
theorem dX10_sum_43 : decode cX10_sum 43 = .ok (.getfield 13, 3) := by decide +kernel
theorem dX10_sum_46 : decode cX10_sum 46 = .ok (.sipush 1200, 3) := by decide +kernel
theorem dX10_sum_49 : decode cX10_sum 49 = .ok (.iload 6, 2) := by decide +kernel
theorem dX10_sum_51 : decode cX10_sum 51 = .ok (.iadd, 1) := by decide +kernel
theorem dX10_sum_52 : decode cX10_sum 52 = .ok (.aload_n 0, 1) := by decide +kernel
theorem dX10_sum_53 : decode cX10_sum 53 = .ok (.getfield 13, 3) := by decide +kernel
theorem dX10_sum_56 : decode cX10_sum 56 = .ok (.bipush 80, 2) := by decide +kernel
theorem dX10_sum_58 : decode cX10_sum 58 = .ok (.iload_n 2, 1) := by decide +kernel
theorem dX10_sum_59 : decode cX10_sum 59 = .ok (.imul, 1) := by decide +kernel
theorem dX10_sum_60 : decode cX10_sum 60 = .ok (.iload 6, 2) := by decide +kernel
theorem dX10_sum_62 : decode cX10_sum 62 = .ok (.iadd, 1) := by decide +kernel
theorem dX10_sum_63 : decode cX10_sum 63 = .ok (.iaload, 1) := by decide +kernel
theorem dX10_sum_64 : decode cX10_sum 64 = .ok (.iload 5, 2) := by decide +kernel
theorem dX10_sum_66 : decode cX10_sum 66 = .ok (.imul, 1) := by decide +kernel
theorem dX10_sum_67 : decode cX10_sum 67 = .ok (.aload_n 0, 1) := by decide +kernel
theorem dX10_sum_68 : decode cX10_sum 68 = .ok (.getfield 13, 3) := by decide +kernel
theorem dX10_sum_71 : decode cX10_sum 71 = .ok (.bipush 80, 2) := by decide +kernel
theorem dX10_sum_73 : decode cX10_sum 73 = .ok (.iload 4, 2) := by decide +kernel
theorem dX10_sum_75 : decode cX10_sum 75 = .ok (.imul, 1) := by decide +kernel
theorem dX10_sum_76 : decode cX10_sum 76 = .ok (.iload 6, 2) := by decide +kernel
theorem dX10_sum_78 : decode cX10_sum 78 = .ok (.iadd, 1) := by decide +kernel
theorem dX10_sum_79 : decode cX10_sum 79 = .ok (.iaload, 1) := by decide +kernel
theorem dX10_sum_80 : decode cX10_sum 80 = .ok (.iadd, 1) := by decide +kernel
theorem dX10_sum_81 : decode cX10_sum 81 = .ok (.aload_n 0, 1) := by decide +kernel
theorem dX10_sum_82 : decode cX10_sum 82 = .ok (.getfield 64, 3) := by decide +kernel
theorem dX10_sum_85 : decode cX10_sum 85 = .ok (.irem, 1) := by decide +kernel
theorem dX10_sum_86 : decode cX10_sum 86 = .ok (.iastore, 1) := by decide +kernel
theorem dX10_sum_87 : decode cX10_sum 87 = .ok (.iinc 6 1, 3) := by decide +kernel
theorem dX10_sum_90 : decode cX10_sum 90 = .ok (.goto (-55), 3) := by decide +kernel
theorem dX10_sum_93 : decode cX10_sum 93 = .ok (.aload_n 0, 1) := by decide +kernel
theorem dX10_sum_94 : decode cX10_sum 94 = .ok (.iload_n 1, 1) := by decide +kernel
theorem dX10_sum_95 : decode cX10_sum 95 = .ok (.bipush 15, 2) := by decide +kernel
theorem dX10_sum_97 : decode cX10_sum 97 = .ok (.invokevirtual 109, 3) := by decide +kernel
theorem dX10_sum_100 : decode cX10_sum 100 = .ok (.ireturn, 1) := by decide +kernel
theorem dX10_multiply_0 : decode cX10_multiply 0 = .ok (.aload_n 0, 1) := by decide +kernel
theorem dX10_multiply_1 : decode cX10_multiply 1 = .ok (.iload_n 3, 1) := by decide +kernel
theorem dX10_multiply_2 : decode cX10_multiply 2 = .ok (.invokevirtual 105, 3) := by decide +kernel
theorem dX10_multiply_5 : decode cX10_multiply 5 = .ok (.aload_n 0, 1) := by decide +kernel
theorem dX10_multiply_6 : decode cX10_multiply 6 = .ok (.iload_n 1, 1) := by decide +kernel
theorem dX10_multiply_7 : decode cX10_multiply 7 = .ok (.invokevirtual 94, 3) := by decide +kernel
theorem dX10_multiply_10 : decode cX10_multiply 10 = .ok (.istore 4, 2) := by decide +kernel
theorem dX10_multiply_12 : decode cX10_multiply 12 = .ok (.aload_n 0, 1) := by decide +kernel
theorem dX10_multiply_13 : decode cX10_multiply 13 = .ok (.iload_n 2, 1) := by decide +kernel
theorem dX10_multiply_14 : decode cX10_multiply 14 = .ok (.invokevirtual 94, 3) := by decide +kernel
theorem dX10_multiply_17 : decode cX10_multiply 17 = .ok (.istore 5, 2) := by decide +kernel
theorem dX10_multiply_19 : decode cX10_multiply 19 = .ok (.iconst 0, 1) := by decide +kernel
theorem dX10_multiply_20 : decode cX10_multiply 20 = .ok (.istore 6, 2) := by decide +kernel
theorem dX10_multiply_22 : decode cX10_multiply 22 = .ok (.iload 6, 2) := by decide +kernel
theorem dX10_multiply_24 : decode cX10_multiply 24 = .ok (.iload 4, 2) := by decide +kernel
theorem dX10_multiply_26 : decode cX10_multiply 26 = .ok (.if_icmp .ge 86, 3) := by decide +kernel
theorem dX10_multiply_29 : decode cX10_multiply 29 = .ok (.iconst 0, 1) := by decide +kernel
theorem dX10_multiply_30 : decode cX10_multiply 30 = .ok (.istore 7, 2) := by decide +kernel
theorem dX10_multiply_32 : decode cX10_multiply 32 = .ok (.iload 7, 2) := by decide +kernel
theorem dX10_multiply_34 : decode cX10_multiply 34 = .ok (.iload 5, 2) := by decide +kernel
theorem dX10_multiply_36 : decode cX10_multiply 36 = .ok (.if_icmp .ge 70, 3) := by decide +kernel
theorem dX10_multiply_39 : decode cX10_multiply 39 = .ok (.aload_n 0, 1) := by decide +kernel
theorem dX10_multiply_40 : decode cX10_multiply 40 = .ok (.getfield 13, 3) := by decide +kernel
theorem dX10_multiply_43 : decode cX10_multiply 43 = .ok (.bipush 80, 2) := by decide +kernel
theorem dX10_multiply_45 : decode cX10_multiply 45 = .ok (.iload_n 3, 1) := by decide +kernel
theorem dX10_multiply_46 : decode cX10_multiply 46 = .ok (.imul, 1) := by decide +kernel
theorem dX10_multiply_47 : decode cX10_multiply 47 = .ok (.iload 6, 2) := by decide +kernel
theorem dX10_multiply_49 : decode cX10_multiply 49 = .ok (.iadd, 1) := by decide +kernel
theorem dX10_multiply_50 : decode cX10_multiply 50 = .ok (.iload 7, 2) := by decide +kernel
theorem dX10_multiply_52 : decode cX10_multiply 52 = .ok (.iadd, 1) := by decide +kernel
theorem dX10_multiply_53 : decode cX10_multiply 53 = .ok (.aload_n 0, 1) := by decide +kernel
theorem dX10_multiply_54 : decode cX10_multiply 54 = .ok (.getfield 13, 3) := by decide +kernel
theorem dX10_multiply_57 : decode cX10_multiply 57 = .ok (.bipush 80, 2) := by decide +kernel
theorem dX10_multiply_59 : decode cX10_multiply 59 = .ok (.iload_n 3, 1) := by decide +kernel
theorem dX10_multiply_60 : decode cX10_multiply 60 = .ok (.imul, 1) := by decide +kernel
theorem dX10_multiply_61 : decode cX10_multiply 61 = .ok (.iload 6, 2) := by decide +kernel
theorem dX10_multiply_63 : decode cX10_multiply 63 = .ok (.iadd, 1) := by decide +kernel
theorem dX10_multiply_64 : decode cX10_multiply 64 = .ok (.iload 7, 2) := by decide +kernel
theorem dX10_multiply_66 : decode cX10_multiply 66 = .ok (.iadd, 1) := by decide +kernel
theorem dX10_multiply_67 : decode cX10_multiply 67 = .ok (.iaload, 1) := by decide +kernel
theorem dX10_multiply_68 : decode cX10_multiply 68 = .ok (.aload_n 0, 1) := by decide +kernel
theorem dX10_multiply_69 : decode cX10_multiply 69 = .ok (.getfield 13, 3) := by decide +kernel
theorem dX10_multiply_72 : decode cX10_multiply 72 = .ok (.bipush 80, 2) := by decide +kernel
theorem dX10_multiply_74 : decode cX10_multiply 74 = .ok (.iload_n 1, 1) := by decide +kernel
theorem dX10_multiply_75 : decode cX10_multiply 75 = .ok (.imul, 1) := by decide +kernel
theorem dX10_multiply_76 : decode cX10_multiply 76 = .ok (.iload 6, 2) := by decide +kernel
theorem dX10_multiply_78 : decode cX10_multiply 78 = .ok (.iadd, 1) := by decide +kernel
theorem dX10_multiply_79 : decode cX10_multiply 79 = .ok (.iaload, 1) := by decide +kernel
theorem dX10_multiply_80 : decode cX10_multiply 80 = .ok (.aload_n 0, 1) := by decide +kernel
theorem dX10_multiply_81 : decode cX10_multiply 81 = .ok (.getfield 13, 3) := by decide +kernel
theorem dX10_multiply_84 : decode cX10_multiply 84 = .ok (.bipush 80, 2) := by decide +kernel
theorem dX10_multiply_86 : decode cX10_multiply 86 = .ok (.iload_n 2, 1) := by decide +kernel
theorem dX10_multiply_87 : decode cX10_multiply 87 = .ok (.imul, 1) := by decide +kernel
theorem dX10_multiply_88 : decode cX10_multiply 88 = .ok (.iload 7, 2) := by decide +kernel
theorem dX10_multiply_90 : decode cX10_multiply 90 = .ok (.iadd, 1) := by decide +kernel
theorem dX10_multiply_91 : decode cX10_multiply 91 = .ok (.iaload, 1) := by decide +kernel
theorem dX10_multiply_92 : decode cX10_multiply 92 = .ok (.imul, 1) := by decide +kernel
theorem dX10_multiply_93 : decode cX10_multiply 93 = .ok (.iadd, 1) := by decide +kernel
theorem dX10_multiply_94 : decode cX10_multiply 94 = .ok (.aload_n 0, 1) := by decide +kernel
theorem dX10_multiply_95 : decode cX10_multiply 95 = .ok (.getfield 64, 3) := by decide +kernel
theorem dX10_multiply_98 : decode cX10_multiply 98 = .ok (.irem, 1) := by decide +kernel
theorem dX10_multiply_99 : decode cX10_multiply 99 = .ok (.iastore, 1) := by decide +kernel
theorem dX10_multiply_100 : decode cX10_multiply 100 = .ok (.iinc 7 1, 3) := by decide +kernel
theorem dX10_multiply_103 : decode cX10_multiply 103 = .ok (.goto (-71), 3) := by decide +kernel
theorem dX10_multiply_106 : decode cX10_multiply 106 = .ok (.iinc 6 1, 3) := by decide +kernel
theorem dX10_multiply_109 : decode cX10_multiply 109 = .ok (.goto (-87), 3) := by decide +kernel
theorem dX10_multiply_112 : decode cX10_multiply 112 = .ok (.return_, 1) := by decide +kernel
theorem dX10_isWay_0 : decode cX10_isWay 0 = .ok (.iload_n 1, 1) := by decide +kernel
theorem dX10_isWay_1 : decode cX10_isWay 1 = .ok (.iconst 0, 1) := by decide +kernel
theorem dX10_isWay_2 : decode cX10_isWay 2 = .ok (.aload_n 0, 1) := by decide +kernel
theorem dX10_isWay_3 : decode cX10_isWay 3 = .ok (.getfield 112, 3) := by decide +kernel
theorem dX10_isWay_6 : decode cX10_isWay 6 = .ok (.iconst 1, 1) := by decide +kernel
theorem dX10_isWay_7 : decode cX10_isWay 7 = .ok (.isub, 1) := by decide +kernel
theorem dX10_isWay_8 : decode cX10_isWay 8 = .ok (.invokestatic 86, 3) := by decide +kernel
theorem dX10_isWay_11 : decode cX10_isWay 11 = .ok (.ireturn, 1) := by decide +kernel
theorem dX10_way_0 : decode cX10_way 0 = .ok (.iload_n 1, 1) := by decide +kernel
theorem dX10_way_1 : decode cX10_way 1 = .ok (.iconst 0, 1) := by decide +kernel
theorem dX10_way_2 : decode cX10_way 2 = .ok (.iconst 5, 1) := by decide +kernel
theorem dX10_way_3 : decode cX10_way 3 = .ok (.invokestatic 86, 3) := by decide +kernel
theorem dX10_way_6 : decode cX10_way 6 = .ok (.ifCond .eq 13, 3) := by decide +kernel
theorem dX10_way_9 : decode cX10_way 9 = .ok (.iload_n 2, 1) := by decide +kernel
theorem dX10_way_10 : decode cX10_way 10 = .ok (.iconst 1, 1) := by decide +kernel
theorem dX10_way_11 : decode cX10_way 11 = .ok (.bipush 16, 2) := by decide +kernel
theorem dX10_way_13 : decode cX10_way 13 = .ok (.invokestatic 86, 3) := by decide +kernel
theorem dX10_way_16 : decode cX10_way 16 = .ok (.ifCond .ne 6, 3) := by decide +kernel
theorem dX10_way_19 : decode cX10_way 19 = .ok (.bipush (-2), 2) := by decide +kernel
theorem dX10_way_21 : decode cX10_way 21 = .ok (.ireturn, 1) := by decide +kernel
theorem dX10_way_22 : decode cX10_way 22 = .ok (.aload_n 0, 1) := by decide +kernel
theorem dX10_way_23 : decode cX10_way 23 = .ok (.getfield 112, 3) := by decide +kernel
theorem dX10_way_26 : decode cX10_way 26 = .ok (.bipush 8, 2) := by decide +kernel
theorem dX10_way_28 : decode cX10_way 28 = .ok (.if_icmp .ne 6, 3) := by decide +kernel
theorem dX10_way_31 : decode cX10_way 31 = .ok (.bipush (-4), 2) := by decide +kernel
theorem dX10_way_33 : decode cX10_way 33 = .ok (.ireturn, 1) := by decide +kernel
theorem dX10_way_34 : decode cX10_way 34 = .ok (.aload_n 0, 1) := by decide +kernel
theorem dX10_way_35 : decode cX10_way 35 = .ok (.getfield 17, 3) := by decide +kernel
theorem dX10_way_38 : decode cX10_way 38 = .ok (.aload_n 0, 1) := by decide +kernel
theorem dX10_way_39 : decode cX10_way 39 = .ok (.getfield 112, 3) := by decide +kernel
theorem dX10_way_42 : decode cX10_way 42 = .ok (.iload_n 1, 1) := by decide +kernel
theorem dX10_way_43 : decode cX10_way 43 = .ok (.iastore, 1) := by decide +kernel
theorem dX10_way_44 : decode cX10_way 44 = .ok (.aload_n 0, 1) := by decide +kernel
theorem dX10_way_45 : decode cX10_way 45 = .ok (.getfield 20, 3) := by decide +kernel
theorem dX10_way_48 : decode cX10_way 48 = .ok (.aload_n 0, 1) := by decide +kernel
theorem dX10_way_49 : decode cX10_way 49 = .ok (.getfield 112, 3) := by decide +kernel
theorem dX10_way_52 : decode cX10_way 52 = .ok (.iload_n 2, 1) := by decide +kernel
theorem dX10_way_53 : decode cX10_way 53 = .ok (.iastore, 1) := by decide +kernel
theorem dX10_way_54 : decode cX10_way 54 = .ok (.aload_n 0, 1) := by decide +kernel
theorem dX10_way_55 : decode cX10_way 55 = .ok (.dup, 1) := by decide +kernel
theorem dX10_way_56 : decode cX10_way 56 = .ok (.getfield 112, 3) := by decide +kernel
theorem dX10_way_59 : decode cX10_way 59 = .ok (.iconst 1, 1) := by decide +kernel
theorem dX10_way_60 : decode cX10_way 60 = .ok (.iadd, 1) := by decide +kernel
theorem dX10_way_61 : decode cX10_way 61 = .ok (.putfield 112, 3) := by decide +kernel
theorem dX10_way_64 : decode cX10_way 64 = .ok (.aload_n 0, 1) := by decide +kernel
theorem dX10_way_65 : decode cX10_way 65 = .ok (.getfield 112, 3) := by decide +kernel
theorem dX10_way_68 : decode cX10_way 68 = .ok (.iconst 1, 1) := by decide +kernel
theorem dX10_way_69 : decode cX10_way 69 = .ok (.isub, 1) := by decide +kernel
theorem dX10_way_70 : decode cX10_way 70 = .ok (.ireturn, 1) := by decide +kernel
theorem dX10_layOut_0 : decode cX10_layOut 0 = .ok (.aload_n 0, 1) := by decide +kernel
theorem dX10_layOut_1 : decode cX10_layOut 1 = .ok (.getfield 20, 3) := by decide +kernel
theorem dX10_layOut_4 : decode cX10_layOut 4 = .ok (.iload_n 1, 1) := by decide +kernel
theorem dX10_layOut_5 : decode cX10_layOut 5 = .ok (.iaload, 1) := by decide +kernel
theorem dX10_layOut_6 : decode cX10_layOut 6 = .ok (.istore_n 2, 1) := by decide +kernel
theorem dX10_layOut_7 : decode cX10_layOut 7 = .ok (.iconst 0, 1) := by decide +kernel
theorem dX10_layOut_8 : decode cX10_layOut 8 = .ok (.istore_n 3, 1) := by decide +kernel
theorem dX10_layOut_9 : decode cX10_layOut 9 = .ok (.iload_n 3, 1) := by decide +kernel
theorem dX10_layOut_10 : decode cX10_layOut 10 = .ok (.bipush 32, 2) := by decide +kernel
theorem dX10_layOut_12 : decode cX10_layOut 12 = .ok (.if_icmp .gt 150, 3) := by decide +kernel
theorem dX10_layOut_15 : decode cX10_layOut 15 = .ok (.iload_n 3, 1) := by decide +kernel
theorem dX10_layOut_16 : decode cX10_layOut 16 = .ok (.iconst 1, 1) := by decide +kernel
theorem dX10_layOut_17 : decode cX10_layOut 17 = .ok (.iadd, 1) := by decide +kernel
theorem dX10_layOut_18 : decode cX10_layOut 18 = .ok (.iconst 2, 1) := by decide +kernel
theorem dX10_layOut_19 : decode cX10_layOut 19 = .ok (.idiv, 1) := by decide +kernel
theorem dX10_layOut_20 : decode cX10_layOut 20 = .ok (.istore 4, 2) := by decide +kernel
theorem dX10_layOut_22 : decode cX10_layOut 22 = .ok (.aload_n 0, 1) := by decide +kernel
theorem dX10_layOut_23 : decode cX10_layOut 23 = .ok (.getfield 23, 3) := by decide +kernel
theorem dX10_layOut_26 : decode cX10_layOut 26 = .ok (.iload_n 3, 1) := by decide +kernel
theorem dX10_layOut_27 : decode cX10_layOut 27 = .ok (.iload_n 3, 1) := by decide +kernel
theorem dX10_layOut_28 : decode cX10_layOut 28 = .ok (.iload_n 2, 1) := by decide +kernel
theorem dX10_layOut_29 : decode cX10_layOut 29 = .ok (.if_icmp .gt 11, 3) := by decide +kernel
theorem dX10_layOut_32 : decode cX10_layOut 32 = .ok (.iload_n 3, 1) := by decide +kernel
theorem dX10_layOut_33 : decode cX10_layOut 33 = .ok (.i2l, 1) := by decide +kernel
theorem dX10_layOut_34 : decode cX10_layOut 34 = .ok (.iload_n 3, 1) := by decide +kernel
theorem dX10_layOut_35 : decode cX10_layOut 35 = .ok (.i2l, 1) := by decide +kernel
theorem dX10_layOut_36 : decode cX10_layOut 36 = .ok (.lmul, 1) := by decide +kernel
theorem dX10_layOut_37 : decode cX10_layOut 37 = .ok (.goto 24, 3) := by decide +kernel
theorem dX10_layOut_40 : decode cX10_layOut 40 = .ok (.ldc2_w 115, 3) := by decide +kernel
theorem dX10_layOut_43 : decode cX10_layOut 43 = .ok (.aload_n 0, 1) := by decide +kernel
theorem dX10_layOut_44 : decode cX10_layOut 44 = .ok (.getfield 23, 3) := by decide +kernel
theorem dX10_layOut_47 : decode cX10_layOut 47 = .ok (.iload 4, 2) := by decide +kernel
theorem dX10_layOut_49 : decode cX10_layOut 49 = .ok (.laload, 1) := by decide +kernel
theorem dX10_layOut_50 : decode cX10_layOut 50 = .ok (.lmul, 1) := by decide +kernel
theorem dX10_layOut_51 : decode cX10_layOut 51 = .ok (.aload_n 0, 1) := by decide +kernel
theorem dX10_layOut_52 : decode cX10_layOut 52 = .ok (.getfield 23, 3) := by decide +kernel
theorem dX10_layOut_55 : decode cX10_layOut 55 = .ok (.iload_n 3, 1) := by decide +kernel
theorem dX10_layOut_56 : decode cX10_layOut 56 = .ok (.iload 4, 2) := by decide +kernel
theorem dX10_layOut_58 : decode cX10_layOut 58 = .ok (.isub, 1) := by decide +kernel
theorem dX10_layOut_59 : decode cX10_layOut 59 = .ok (.laload, 1) := by decide +kernel
theorem dX10_layOut_60 : decode cX10_layOut 60 = .ok (.ladd, 1) := by decide +kernel
theorem dX10_layOut_61 : decode cX10_layOut 61 = .ok (.lastore, 1) := by decide +kernel
theorem dX10_layOut_62 : decode cX10_layOut 62 = .ok (.aload_n 0, 1) := by decide +kernel
theorem dX10_layOut_63 : decode cX10_layOut 63 = .ok (.getfield 17, 3) := by decide +kernel
theorem dX10_layOut_66 : decode cX10_layOut 66 = .ok (.iload_n 1, 1) := by decide +kernel
theorem dX10_layOut_67 : decode cX10_layOut 67 = .ok (.iaload, 1) := by decide +kernel
theorem dX10_layOut_68 : decode cX10_layOut 68 = .ok (.iconst 4, 1) := by decide +kernel
theorem dX10_layOut_69 : decode cX10_layOut 69 = .ok (.if_icmp .ne 18, 3) := by decide +kernel
theorem dX10_layOut_72 : decode cX10_layOut 72 = .ok (.iload_n 3, 1) := by decide +kernel
theorem dX10_layOut_73 : decode cX10_layOut 73 = .ok (.iconst 3, 1) := by decide +kernel
theorem dX10_layOut_74 : decode cX10_layOut 74 = .ok (.iload_n 2, 1) := by decide +kernel
theorem dX10_layOut_75 : decode cX10_layOut 75 = .ok (.imul, 1) := by decide +kernel
theorem dX10_layOut_76 : decode cX10_layOut 76 = .ok (.if_icmp .gt 7, 3) := by decide +kernel
theorem dX10_layOut_79 : decode cX10_layOut 79 = .ok (.iconst 1, 1) := by decide +kernel
theorem dX10_layOut_80 : decode cX10_layOut 80 = .ok (.goto 22, 3) := by decide +kernel
theorem dX10_layOut_83 : decode cX10_layOut 83 = .ok (.iconst 0, 1) := by decide +kernel
theorem dX10_layOut_84 : decode cX10_layOut 84 = .ok (.goto 18, 3) := by decide +kernel
theorem dX10_layOut_87 : decode cX10_layOut 87 = .ok (.iload_n 3, 1) := by decide +kernel
theorem dX10_layOut_88 : decode cX10_layOut 88 = .ok (.iload_n 2, 1) := by decide +kernel
theorem dX10_layOut_89 : decode cX10_layOut 89 = .ok (.if_icmp .le 8, 3) := by decide +kernel
theorem dX10_layOut_92 : decode cX10_layOut 92 = .ok (.iload_n 3, 1) := by decide +kernel
theorem dX10_layOut_93 : decode cX10_layOut 93 = .ok (.iconst 2, 1) := by decide +kernel
theorem dX10_layOut_94 : decode cX10_layOut 94 = .ok (.if_icmp .gt 7, 3) := by decide +kernel
theorem dX10_layOut_97 : decode cX10_layOut 97 = .ok (.iconst 1, 1) := by decide +kernel
theorem dX10_layOut_98 : decode cX10_layOut 98 = .ok (.goto 4, 3) := by decide +kernel
theorem dX10_layOut_101 : decode cX10_layOut 101 = .ok (.iconst 0, 1) := by decide +kernel
theorem dX10_layOut_102 : decode cX10_layOut 102 = .ok (.istore 5, 2) := by decide +kernel
theorem dX10_layOut_104 : decode cX10_layOut 104 = .ok (.aload_n 0, 1) := by decide +kernel
theorem dX10_layOut_105 : decode cX10_layOut 105 = .ok (.getfield 27, 3) := by decide +kernel
theorem dX10_layOut_108 : decode cX10_layOut 108 = .ok (.iload_n 3, 1) := by decide +kernel
theorem dX10_layOut_109 : decode cX10_layOut 109 = .ok (.iload 5, 2) := by decide +kernel
theorem dX10_layOut_111 : decode cX10_layOut 111 = .ok (.ifCond .ne 20, 3) := by decide +kernel
theorem dX10_layOut_114 : decode cX10_layOut 114 = .ok (.ldc2_w 117, 3) := by decide +kernel
theorem dX10_layOut_117 : decode cX10_layOut 117 = .ok (.aload_n 0, 1) := by decide +kernel
theorem dX10_layOut_118 : decode cX10_layOut 118 = .ok (.getfield 27, 3) := by decide +kernel
theorem dX10_layOut_121 : decode cX10_layOut 121 = .ok (.iload_n 3, 1) := by decide +kernel
theorem dX10_layOut_122 : decode cX10_layOut 122 = .ok (.iconst 2, 1) := by decide +kernel
theorem dX10_layOut_123 : decode cX10_layOut 123 = .ok (.iadd, 1) := by decide +kernel
theorem dX10_layOut_124 : decode cX10_layOut 124 = .ok (.iconst 3, 1) := by decide +kernel
theorem dX10_layOut_125 : decode cX10_layOut 125 = .ok (.idiv, 1) := by decide +kernel
theorem dX10_layOut_126 : decode cX10_layOut 126 = .ok (.laload, 1) := by decide +kernel
theorem dX10_layOut_127 : decode cX10_layOut 127 = .ok (.lmul, 1) := by decide +kernel
theorem dX10_layOut_128 : decode cX10_layOut 128 = .ok (.goto 27, 3) := by decide +kernel
theorem dX10_layOut_131 : decode cX10_layOut 131 = .ok (.aload_n 0, 1) := by decide +kernel
theorem dX10_layOut_132 : decode cX10_layOut 132 = .ok (.getfield 17, 3) := by decide +kernel
theorem dX10_layOut_135 : decode cX10_layOut 135 = .ok (.iload_n 1, 1) := by decide +kernel
theorem dX10_layOut_136 : decode cX10_layOut 136 = .ok (.iaload, 1) := by decide +kernel
theorem dX10_layOut_137 : decode cX10_layOut 137 = .ok (.iconst 4, 1) := by decide +kernel
theorem dX10_layOut_138 : decode cX10_layOut 138 = .ok (.if_icmp .ne 12, 3) := by decide +kernel
theorem dX10_layOut_141 : decode cX10_layOut 141 = .ok (.aload_n 0, 1) := by decide +kernel
theorem dX10_layOut_142 : decode cX10_layOut 142 = .ok (.getfield 23, 3) := by decide +kernel
theorem dX10_layOut_145 : decode cX10_layOut 145 = .ok (.iload_n 3, 1) := by decide +kernel
theorem dX10_layOut_146 : decode cX10_layOut 146 = .ok (.laload, 1) := by decide +kernel
theorem dX10_layOut_147 : decode cX10_layOut 147 = .ok (.goto 8, 3) := by decide +kernel
theorem dX10_layOut_150 : decode cX10_layOut 150 = .ok (.iload_n 3, 1) := by decide +kernel
theorem dX10_layOut_151 : decode cX10_layOut 151 = .ok (.i2l, 1) := by decide +kernel
theorem dX10_layOut_152 : decode cX10_layOut 152 = .ok (.iload_n 3, 1) := by decide +kernel
theorem dX10_layOut_153 : decode cX10_layOut 153 = .ok (.i2l, 1) := by decide +kernel
theorem dX10_layOut_154 : decode cX10_layOut 154 = .ok (.lmul, 1) := by decide +kernel
theorem dX10_layOut_155 : decode cX10_layOut 155 = .ok (.lastore, 1) := by decide +kernel
theorem dX10_layOut_156 : decode cX10_layOut 156 = .ok (.iinc 3 1, 3) := by decide +kernel
theorem dX10_layOut_159 : decode cX10_layOut 159 = .ok (.goto (-150), 3) := by decide +kernel
theorem dX10_layOut_162 : decode cX10_layOut 162 = .ok (.return_, 1) := by decide +kernel
theorem dX10_powerFor_0 : decode cX10_powerFor 0 = .ok (.iconst 0, 1) := by decide +kernel
theorem dX10_powerFor_1 : decode cX10_powerFor 1 = .ok (.istore_n 1, 1) := by decide +kernel
theorem dX10_powerFor_2 : decode cX10_powerFor 2 = .ok (.iconst 1, 1) := by decide +kernel
theorem dX10_powerFor_3 : decode cX10_powerFor 3 = .ok (.iload_n 1, 1) := by decide +kernel
theorem dX10_powerFor_4 : decode cX10_powerFor 4 = .ok (.ishl, 1) := by decide +kernel
theorem dX10_powerFor_5 : decode cX10_powerFor 5 = .ok (.iload_n 0, 1) := by decide +kernel
theorem dX10_powerFor_6 : decode cX10_powerFor 6 = .ok (.if_icmp .ge 9, 3) := by decide +kernel
theorem dX10_powerFor_9 : decode cX10_powerFor 9 = .ok (.iinc 1 1, 3) := by decide +kernel
theorem dX10_powerFor_12 : decode cX10_powerFor 12 = .ok (.goto (-10), 3) := by decide +kernel
theorem dX10_powerFor_15 : decode cX10_powerFor 15 = .ok (.iload_n 1, 1) := by decide +kernel
theorem dX10_powerFor_16 : decode cX10_powerFor 16 = .ok (.ireturn, 1) := by decide +kernel
theorem dX10_same_0 : decode cX10_same 0 = .ok (.iconst 1, 1) := by decide +kernel
theorem dX10_same_1 : decode cX10_same 1 = .ok (.istore_n 3, 1) := by decide +kernel
theorem dX10_same_2 : decode cX10_same 2 = .ok (.iconst 0, 1) := by decide +kernel
theorem dX10_same_3 : decode cX10_same 3 = .ok (.istore 4, 2) := by decide +kernel
theorem dX10_same_5 : decode cX10_same 5 = .ok (.iload 4, 2) := by decide +kernel
theorem dX10_same_7 : decode cX10_same 7 = .ok (.bipush 32, 2) := by decide +kernel
theorem dX10_same_9 : decode cX10_same 9 = .ok (.if_icmp .ge 46, 3) := by decide +kernel
theorem dX10_same_12 : decode cX10_same 12 = .ok (.iload_n 3, 1) := by decide +kernel
theorem dX10_same_13 : decode cX10_same 13 = .ok (.ifCond .eq 34, 3) := by decide +kernel
theorem dX10_same_16 : decode cX10_same 16 = .ok (.aload_n 0, 1) := by decide +kernel
theorem dX10_same_17 : decode cX10_same 17 = .ok (.getfield 13, 3) := by decide +kernel
theorem dX10_same_20 : decode cX10_same 20 = .ok (.bipush 80, 2) := by decide +kernel
theorem dX10_same_22 : decode cX10_same 22 = .ok (.iload_n 1, 1) := by decide +kernel
theorem dX10_same_23 : decode cX10_same 23 = .ok (.imul, 1) := by decide +kernel
theorem dX10_same_24 : decode cX10_same 24 = .ok (.iload 4, 2) := by decide +kernel
theorem dX10_same_26 : decode cX10_same 26 = .ok (.iadd, 1) := by decide +kernel
theorem dX10_same_27 : decode cX10_same 27 = .ok (.iaload, 1) := by decide +kernel
theorem dX10_same_28 : decode cX10_same 28 = .ok (.aload_n 0, 1) := by decide +kernel
theorem dX10_same_29 : decode cX10_same 29 = .ok (.getfield 13, 3) := by decide +kernel
theorem dX10_same_32 : decode cX10_same 32 = .ok (.bipush 80, 2) := by decide +kernel
theorem dX10_same_34 : decode cX10_same 34 = .ok (.iload_n 2, 1) := by decide +kernel
theorem dX10_same_35 : decode cX10_same 35 = .ok (.imul, 1) := by decide +kernel
theorem dX10_same_36 : decode cX10_same 36 = .ok (.iload 4, 2) := by decide +kernel
theorem dX10_same_38 : decode cX10_same 38 = .ok (.iadd, 1) := by decide +kernel
theorem dX10_same_39 : decode cX10_same 39 = .ok (.iaload, 1) := by decide +kernel
theorem dX10_same_40 : decode cX10_same 40 = .ok (.if_icmp .ne 7, 3) := by decide +kernel
theorem dX10_same_43 : decode cX10_same 43 = .ok (.iconst 1, 1) := by decide +kernel
theorem dX10_same_44 : decode cX10_same 44 = .ok (.goto 4, 3) := by decide +kernel
theorem dX10_same_47 : decode cX10_same 47 = .ok (.iconst 0, 1) := by decide +kernel
theorem dX10_same_48 : decode cX10_same 48 = .ok (.istore_n 3, 1) := by decide +kernel
theorem dX10_same_49 : decode cX10_same 49 = .ok (.iinc 4 1, 3) := by decide +kernel
theorem dX10_same_52 : decode cX10_same 52 = .ok (.goto (-47), 3) := by decide +kernel
theorem dX10_same_55 : decode cX10_same 55 = .ok (.iload_n 3, 1) := by decide +kernel
theorem dX10_same_56 : decode cX10_same 56 = .ok (.ireturn, 1) := by decide +kernel
theorem dX10_costOf_0 : decode cX10_costOf 0 = .ok (.aload_n 0, 1) := by decide +kernel
theorem dX10_costOf_1 : decode cX10_costOf 1 = .ok (.iload_n 1, 1) := by decide +kernel
theorem dX10_costOf_2 : decode cX10_costOf 2 = .ok (.invokevirtual 94, 3) := by decide +kernel
theorem dX10_costOf_5 : decode cX10_costOf 5 = .ok (.istore 4, 2) := by decide +kernel
theorem dX10_costOf_7 : decode cX10_costOf 7 = .ok (.aload_n 0, 1) := by decide +kernel
theorem dX10_costOf_8 : decode cX10_costOf 8 = .ok (.iload_n 2, 1) := by decide +kernel
theorem dX10_costOf_9 : decode cX10_costOf 9 = .ok (.invokevirtual 94, 3) := by decide +kernel
theorem dX10_costOf_12 : decode cX10_costOf 12 = .ok (.istore 5, 2) := by decide +kernel
theorem dX10_costOf_14 : decode cX10_costOf 14 = .ok (.iload 4, 2) := by decide +kernel
theorem dX10_costOf_16 : decode cX10_costOf 16 = .ok (.ifCond .eq 8, 3) := by decide +kernel
theorem dX10_costOf_19 : decode cX10_costOf 19 = .ok (.iload 5, 2) := by decide +kernel
theorem dX10_costOf_21 : decode cX10_costOf 21 = .ok (.ifCond .ne 5, 3) := by decide +kernel
theorem dX10_costOf_24 : decode cX10_costOf 24 = .ok (.lconst 0, 1) := by decide +kernel
theorem dX10_costOf_25 : decode cX10_costOf 25 = .ok (.lreturn, 1) := by decide +kernel
theorem dX10_costOf_26 : decode cX10_costOf 26 = .ok (.iload 4, 2) := by decide +kernel
theorem dX10_costOf_28 : decode cX10_costOf 28 = .ok (.iload 5, 2) := by decide +kernel
theorem dX10_costOf_30 : decode cX10_costOf 30 = .ok (.if_icmp .le 8, 3) := by decide +kernel
theorem dX10_costOf_33 : decode cX10_costOf 33 = .ok (.iload 4, 2) := by decide +kernel
theorem dX10_costOf_35 : decode cX10_costOf 35 = .ok (.goto 5, 3) := by decide +kernel
theorem dX10_costOf_38 : decode cX10_costOf 38 = .ok (.iload 5, 2) := by decide +kernel
theorem dX10_costOf_40 : decode cX10_costOf 40 = .ok (.istore 6, 2) := by decide +kernel
theorem dX10_costOf_42 : decode cX10_costOf 42 = .ok (.aload_n 0, 1) := by decide +kernel
theorem dX10_costOf_43 : decode cX10_costOf 43 = .ok (.getfield 17, 3) := by decide +kernel
theorem dX10_costOf_46 : decode cX10_costOf 46 = .ok (.iload_n 3, 1) := by decide +kernel
theorem dX10_costOf_47 : decode cX10_costOf 47 = .ok (.iaload, 1) := by decide +kernel
theorem dX10_costOf_48 : decode cX10_costOf 48 = .ok (.ifCond .ne 11, 3) := by decide +kernel
theorem dX10_costOf_51 : decode cX10_costOf 51 = .ok (.iload 4, 2) := by decide +kernel
theorem dX10_costOf_53 : decode cX10_costOf 53 = .ok (.i2l, 1) := by decide +kernel
theorem dX10_costOf_54 : decode cX10_costOf 54 = .ok (.iload 5, 2) := by decide +kernel
theorem dX10_costOf_56 : decode cX10_costOf 56 = .ok (.i2l, 1) := by decide +kernel
theorem dX10_costOf_57 : decode cX10_costOf 57 = .ok (.lmul, 1) := by decide +kernel
theorem dX10_costOf_58 : decode cX10_costOf 58 = .ok (.lreturn, 1) := by decide +kernel
theorem dX10_costOf_59 : decode cX10_costOf 59 = .ok (.aload_n 0, 1) := by decide +kernel
theorem dX10_costOf_60 : decode cX10_costOf 60 = .ok (.getfield 17, 3) := by decide +kernel
theorem dX10_costOf_63 : decode cX10_costOf 63 = .ok (.iload_n 3, 1) := by decide +kernel
theorem dX10_costOf_64 : decode cX10_costOf 64 = .ok (.iaload, 1) := by decide +kernel
theorem dX10_costOf_65 : decode cX10_costOf 65 = .ok (.iconst 3, 1) := by decide +kernel
theorem dX10_costOf_66 : decode cX10_costOf 66 = .ok (.if_icmp .eq 13, 3) := by decide +kernel
theorem dX10_costOf_69 : decode cX10_costOf 69 = .ok (.aload_n 0, 1) := by decide +kernel
theorem dX10_costOf_70 : decode cX10_costOf 70 = .ok (.getfield 17, 3) := by decide +kernel
theorem dX10_costOf_73 : decode cX10_costOf 73 = .ok (.iload_n 3, 1) := by decide +kernel
theorem dX10_costOf_74 : decode cX10_costOf 74 = .ok (.iaload, 1) := by decide +kernel
theorem dX10_costOf_75 : decode cX10_costOf 75 = .ok (.iconst 5, 1) := by decide +kernel
theorem dX10_costOf_76 : decode cX10_costOf 76 = .ok (.if_icmp .ne 74, 3) := by decide +kernel
theorem dX10_costOf_79 : decode cX10_costOf 79 = .ok (.iload 4, 2) := by decide +kernel
theorem dX10_costOf_81 : decode cX10_costOf 81 = .ok (.iload 5, 2) := by decide +kernel
theorem dX10_costOf_83 : decode cX10_costOf 83 = .ok (.iadd, 1) := by decide +kernel
theorem dX10_costOf_84 : decode cX10_costOf 84 = .ok (.iconst 1, 1) := by decide +kernel
theorem dX10_costOf_85 : decode cX10_costOf 85 = .ok (.isub, 1) := by decide +kernel
theorem dX10_costOf_86 : decode cX10_costOf 86 = .ok (.invokestatic 119, 3) := by decide +kernel
theorem dX10_costOf_89 : decode cX10_costOf 89 = .ok (.istore 7, 2) := by decide +kernel
theorem dX10_costOf_91 : decode cX10_costOf 91 = .ok (.iload 7, 2) := by decide +kernel
theorem dX10_costOf_93 : decode cX10_costOf 93 = .ok (.iconst 5, 1) := by decide +kernel
theorem dX10_costOf_94 : decode cX10_costOf 94 = .ok (.if_icmp .le 7, 3) := by decide +kernel
theorem dX10_costOf_97 : decode cX10_costOf 97 = .ok (.ldc2_w 122, 3) := by decide +kernel
theorem dX10_costOf_100 : decode cX10_costOf 100 = .ok (.lreturn, 1) := by decide +kernel
theorem dX10_costOf_101 : decode cX10_costOf 101 = .ok (.lconst 1, 1) := by decide +kernel
theorem dX10_costOf_102 : decode cX10_costOf 102 = .ok (.iload 7, 2) := by decide +kernel
theorem dX10_costOf_104 : decode cX10_costOf 104 = .ok (.lshl, 1) := by decide +kernel
theorem dX10_costOf_105 : decode cX10_costOf 105 = .ok (.lstore 8, 2) := by decide +kernel
theorem dX10_costOf_107 : decode cX10_costOf 107 = .ok (.aload_n 0, 1) := by decide +kernel
theorem dX10_costOf_108 : decode cX10_costOf 108 = .ok (.getfield 17, 3) := by decide +kernel
theorem dX10_costOf_111 : decode cX10_costOf 111 = .ok (.iload_n 3, 1) := by decide +kernel
theorem dX10_costOf_112 : decode cX10_costOf 112 = .ok (.iaload, 1) := by decide +kernel
theorem dX10_costOf_113 : decode cX10_costOf 113 = .ok (.iconst 5, 1) := by decide +kernel
theorem dX10_costOf_114 : decode cX10_costOf 114 = .ok (.if_icmp .ne 18, 3) := by decide +kernel
theorem dX10_costOf_117 : decode cX10_costOf 117 = .ok (.aload_n 0, 1) := by decide +kernel
theorem dX10_costOf_118 : decode cX10_costOf 118 = .ok (.iload_n 1, 1) := by decide +kernel
theorem dX10_costOf_119 : decode cX10_costOf 119 = .ok (.iload_n 2, 1) := by decide +kernel
theorem dX10_costOf_120 : decode cX10_costOf 120 = .ok (.invokevirtual 124, 3) := by decide +kernel
theorem dX10_costOf_123 : decode cX10_costOf 123 = .ok (.ifCond .eq 9, 3) := by decide +kernel
theorem dX10_costOf_126 : decode cX10_costOf 126 = .ok (.ldc2_w 115, 3) := by decide +kernel
theorem dX10_costOf_129 : decode cX10_costOf 129 = .ok (.goto 6, 3) := by decide +kernel
theorem dX10_costOf_132 : decode cX10_costOf 132 = .ok (.ldc2_w 128, 3) := by decide +kernel
theorem dX10_costOf_135 : decode cX10_costOf 135 = .ok (.iload 7, 2) := by decide +kernel
theorem dX10_costOf_137 : decode cX10_costOf 137 = .ok (.i2l, 1) := by decide +kernel
theorem dX10_costOf_138 : decode cX10_costOf 138 = .ok (.lmul, 1) := by decide +kernel
theorem dX10_costOf_139 : decode cX10_costOf 139 = .ok (.lload 8, 2) := by decide +kernel
theorem dX10_costOf_141 : decode cX10_costOf 141 = .ok (.lmul, 1) := by decide +kernel
theorem dX10_costOf_142 : decode cX10_costOf 142 = .ok (.ldc2_w 115, 3) := by decide +kernel
theorem dX10_costOf_145 : decode cX10_costOf 145 = .ok (.ldiv, 1) := by decide +kernel
theorem dX10_costOf_146 : decode cX10_costOf 146 = .ok (.lload 8, 2) := by decide +kernel
theorem dX10_costOf_148 : decode cX10_costOf 148 = .ok (.ladd, 1) := by decide +kernel
theorem dX10_costOf_149 : decode cX10_costOf 149 = .ok (.lreturn, 1) := by decide +kernel
theorem dX10_costOf_150 : decode cX10_costOf 150 = .ok (.aload_n 0, 1) := by decide +kernel
theorem dX10_costOf_151 : decode cX10_costOf 151 = .ok (.iload_n 3, 1) := by decide +kernel
theorem dX10_costOf_152 : decode cX10_costOf 152 = .ok (.invokevirtual 130, 3) := by decide +kernel
theorem dX10_costOf_155 : decode cX10_costOf 155 = .ok (.aload_n 0, 1) := by decide +kernel
theorem dX10_costOf_156 : decode cX10_costOf 156 = .ok (.getfield 17, 3) := by decide +kernel
theorem dX10_costOf_159 : decode cX10_costOf 159 = .ok (.iload_n 3, 1) := by decide +kernel
theorem dX10_costOf_160 : decode cX10_costOf 160 = .ok (.iaload, 1) := by decide +kernel
theorem dX10_costOf_161 : decode cX10_costOf 161 = .ok (.iconst 1, 1) := by decide +kernel
theorem dX10_costOf_162 : decode cX10_costOf 162 = .ok (.if_icmp .ne 13, 3) := by decide +kernel
theorem dX10_costOf_165 : decode cX10_costOf 165 = .ok (.aload_n 0, 1) := by decide +kernel
theorem dX10_costOf_166 : decode cX10_costOf 166 = .ok (.getfield 23, 3) := by decide +kernel
theorem dX10_costOf_169 : decode cX10_costOf 169 = .ok (.iload 6, 2) := by decide +kernel
theorem dX10_costOf_171 : decode cX10_costOf 171 = .ok (.laload, 1) := by decide +kernel
theorem dX10_costOf_172 : decode cX10_costOf 172 = .ok (.goto 10, 3) := by decide +kernel
theorem dX10_costOf_175 : decode cX10_costOf 175 = .ok (.aload_n 0, 1) := by decide +kernel
theorem dX10_costOf_176 : decode cX10_costOf 176 = .ok (.getfield 27, 3) := by decide +kernel
theorem dX10_costOf_179 : decode cX10_costOf 179 = .ok (.iload 6, 2) := by decide +kernel
theorem dX10_costOf_181 : decode cX10_costOf 181 = .ok (.laload, 1) := by decide +kernel
theorem dX10_costOf_182 : decode cX10_costOf 182 = .ok (.lreturn, 1) := by decide +kernel
theorem dX10_areBad_0 : decode cX10_areBad 0 = .ok (.iload_n 1, 1) := by decide +kernel
theorem dX10_areBad_1 : decode cX10_areBad 1 = .ok (.invokestatic 98, 3) := by decide +kernel
theorem dX10_areBad_4 : decode cX10_areBad 4 = .ok (.ifCond .eq 10, 3) := by decide +kernel
theorem dX10_areBad_7 : decode cX10_areBad 7 = .ok (.iload_n 2, 1) := by decide +kernel
theorem dX10_areBad_8 : decode cX10_areBad 8 = .ok (.invokestatic 98, 3) := by decide +kernel
theorem dX10_areBad_11 : decode cX10_areBad 11 = .ok (.ifCond .ne 7, 3) := by decide +kernel
theorem dX10_areBad_14 : decode cX10_areBad 14 = .ok (.iconst 1, 1) := by decide +kernel
theorem dX10_areBad_15 : decode cX10_areBad 15 = .ok (.goto 4, 3) := by decide +kernel
theorem dX10_areBad_18 : decode cX10_areBad 18 = .ok (.iconst 0, 1) := by decide +kernel
theorem dX10_areBad_19 : decode cX10_areBad 19 = .ok (.ireturn, 1) := by decide +kernel
theorem dX10_isLong_0 : decode cX10_isLong 0 = .ok (.aload_n 0, 1) := by decide +kernel
theorem dX10_isLong_1 : decode cX10_isLong 1 = .ok (.iload_n 1, 1) := by decide +kernel
theorem dX10_isLong_2 : decode cX10_isLong 2 = .ok (.invokevirtual 94, 3) := by decide +kernel
theorem dX10_isLong_5 : decode cX10_isLong 5 = .ok (.ifCond .le 33, 3) := by decide +kernel
theorem dX10_isLong_8 : decode cX10_isLong 8 = .ok (.aload_n 0, 1) := by decide +kernel
theorem dX10_isLong_9 : decode cX10_isLong 9 = .ok (.iload_n 2, 1) := by decide +kernel
theorem dX10_isLong_10 : decode cX10_isLong 10 = .ok (.invokevirtual 94, 3) := by decide +kernel
theorem dX10_isLong_13 : decode cX10_isLong 13 = .ok (.ifCond .le 25, 3) := by decide +kernel
theorem dX10_isLong_16 : decode cX10_isLong 16 = .ok (.aload_n 0, 1) := by decide +kernel
theorem dX10_isLong_17 : decode cX10_isLong 17 = .ok (.iload_n 1, 1) := by decide +kernel
theorem dX10_isLong_18 : decode cX10_isLong 18 = .ok (.invokevirtual 94, 3) := by decide +kernel
theorem dX10_isLong_21 : decode cX10_isLong 21 = .ok (.aload_n 0, 1) := by decide +kernel
theorem dX10_isLong_22 : decode cX10_isLong 22 = .ok (.iload_n 2, 1) := by decide +kernel
theorem dX10_isLong_23 : decode cX10_isLong 23 = .ok (.invokevirtual 94, 3) := by decide +kernel
theorem dX10_isLong_26 : decode cX10_isLong 26 = .ok (.iadd, 1) := by decide +kernel
theorem dX10_isLong_27 : decode cX10_isLong 27 = .ok (.iconst 1, 1) := by decide +kernel
theorem dX10_isLong_28 : decode cX10_isLong 28 = .ok (.isub, 1) := by decide +kernel
theorem dX10_isLong_29 : decode cX10_isLong 29 = .ok (.bipush 32, 2) := by decide +kernel
theorem dX10_isLong_31 : decode cX10_isLong 31 = .ok (.if_icmp .le 7, 3) := by decide +kernel
theorem dX10_isLong_34 : decode cX10_isLong 34 = .ok (.iconst 1, 1) := by decide +kernel
theorem dX10_isLong_35 : decode cX10_isLong 35 = .ok (.goto 4, 3) := by decide +kernel
theorem dX10_isLong_38 : decode cX10_isLong 38 = .ok (.iconst 0, 1) := by decide +kernel
theorem dX10_isLong_39 : decode cX10_isLong 39 = .ok (.ireturn, 1) := by decide +kernel
theorem dX10_times_0 : decode cX10_times 0 = .ok (.iload_n 1, 1) := by decide +kernel
theorem dX10_times_1 : decode cX10_times 1 = .ok (.invokestatic 98, 3) := by decide +kernel
theorem dX10_times_4 : decode cX10_times 4 = .ok (.ifCond .eq 21, 3) := by decide +kernel
theorem dX10_times_7 : decode cX10_times 7 = .ok (.aload_n 0, 1) := by decide +kernel
theorem dX10_times_8 : decode cX10_times 8 = .ok (.iload_n 2, 1) := by decide +kernel
theorem dX10_times_9 : decode cX10_times 9 = .ok (.iload_n 3, 1) := by decide +kernel
theorem dX10_times_10 : decode cX10_times 10 = .ok (.invokevirtual 133, 3) := by decide +kernel
theorem dX10_times_13 : decode cX10_times 13 = .ok (.ifCond .ne 12, 3) := by decide +kernel
theorem dX10_times_16 : decode cX10_times 16 = .ok (.aload_n 0, 1) := by decide +kernel
theorem dX10_times_17 : decode cX10_times 17 = .ok (.iload 4, 2) := by decide +kernel
theorem dX10_times_19 : decode cX10_times 19 = .ok (.invokevirtual 136, 3) := by decide +kernel
theorem dX10_times_22 : decode cX10_times 22 = .ok (.ifCond .ne 6, 3) := by decide +kernel
theorem dX10_times_25 : decode cX10_times 25 = .ok (.bipush (-2), 2) := by decide +kernel
theorem dX10_times_27 : decode cX10_times 27 = .ok (.ireturn, 1) := by decide +kernel
theorem dX10_times_28 : decode cX10_times 28 = .ok (.aload_n 0, 1) := by decide +kernel
theorem dX10_times_29 : decode cX10_times 29 = .ok (.iload_n 2, 1) := by decide +kernel
theorem dX10_times_30 : decode cX10_times 30 = .ok (.iload_n 3, 1) := by decide +kernel
theorem dX10_times_31 : decode cX10_times 31 = .ok (.iload 4, 2) := by decide +kernel
theorem dX10_times_33 : decode cX10_times 33 = .ok (.invokevirtual 139, 3) := by decide +kernel
theorem dX10_times_36 : decode cX10_times 36 = .ok (.lstore 5, 2) := by decide +kernel
theorem dX10_times_38 : decode cX10_times 38 = .ok (.aload_n 0, 1) := by decide +kernel
theorem dX10_times_39 : decode cX10_times 39 = .ok (.iload_n 2, 1) := by decide +kernel
theorem dX10_times_40 : decode cX10_times 40 = .ok (.iload_n 3, 1) := by decide +kernel
theorem dX10_times_41 : decode cX10_times 41 = .ok (.invokevirtual 143, 3) := by decide +kernel
theorem dX10_times_44 : decode cX10_times 44 = .ok (.ifCond .ne 10, 3) := by decide +kernel
theorem dX10_times_47 : decode cX10_times 47 = .ok (.lload 5, 2) := by decide +kernel
theorem dX10_times_49 : decode cX10_times 49 = .ok (.lconst 0, 1) := by decide +kernel
theorem dX10_times_50 : decode cX10_times 50 = .ok (.lcmp, 1) := by decide +kernel
theorem dX10_times_51 : decode cX10_times 51 = .ok (.ifCond .ge 6, 3) := by decide +kernel
theorem dX10_times_54 : decode cX10_times 54 = .ok (.bipush (-4), 2) := by decide +kernel
theorem dX10_times_56 : decode cX10_times 56 = .ok (.ireturn, 1) := by decide +kernel
theorem dX10_times_57 : decode cX10_times 57 = .ok (.aload_n 0, 1) := by decide +kernel
theorem dX10_times_58 : decode cX10_times 58 = .ok (.iload_n 2, 1) := by decide +kernel
theorem dX10_times_59 : decode cX10_times 59 = .ok (.iload_n 3, 1) := by decide +kernel
theorem dX10_times_60 : decode cX10_times 60 = .ok (.bipush 15, 2) := by decide +kernel
theorem dX10_times_62 : decode cX10_times 62 = .ok (.invokevirtual 146, 3) := by decide +kernel
theorem dX10_times_65 : decode cX10_times 65 = .ok (.aload_n 0, 1) := by decide +kernel
theorem dX10_times_66 : decode cX10_times 66 = .ok (.iload_n 1, 1) := by decide +kernel
theorem dX10_times_67 : decode cX10_times 67 = .ok (.bipush 15, 2) := by decide +kernel
theorem dX10_times_69 : decode cX10_times 69 = .ok (.invokevirtual 109, 3) := by decide +kernel
theorem dX10_times_72 : decode cX10_times 72 = .ok (.istore 7, 2) := by decide +kernel
theorem dX10_times_74 : decode cX10_times 74 = .ok (.aload_n 0, 1) := by decide +kernel
theorem dX10_times_75 : decode cX10_times 75 = .ok (.dup, 1) := by decide +kernel
theorem dX10_times_76 : decode cX10_times 76 = .ok (.getfield 150, 3) := by decide +kernel
theorem dX10_times_79 : decode cX10_times 79 = .ok (.lload 5, 2) := by decide +kernel
theorem dX10_times_81 : decode cX10_times 81 = .ok (.ladd, 1) := by decide +kernel
theorem dX10_times_82 : decode cX10_times 82 = .ok (.putfield 150, 3) := by decide +kernel
theorem dX10_times_85 : decode cX10_times 85 = .ok (.lload 5, 2) := by decide +kernel
theorem dX10_times_87 : decode cX10_times 87 = .ok (.l2i, 1) := by decide +kernel
theorem dX10_times_88 : decode cX10_times 88 = .ok (.ireturn, 1) := by decide +kernel
theorem dX10_cost_0 : decode cX10_cost 0 = .ok (.aload_n 0, 1) := by decide +kernel
theorem dX10_cost_1 : decode cX10_cost 1 = .ok (.iload_n 1, 1) := by decide +kernel
theorem dX10_cost_2 : decode cX10_cost 2 = .ok (.iload_n 2, 1) := by decide +kernel
theorem dX10_cost_3 : decode cX10_cost 3 = .ok (.invokevirtual 133, 3) := by decide +kernel
theorem dX10_cost_6 : decode cX10_cost 6 = .ok (.ifCond .ne 11, 3) := by decide +kernel
theorem dX10_cost_9 : decode cX10_cost 9 = .ok (.aload_n 0, 1) := by decide +kernel
theorem dX10_cost_10 : decode cX10_cost 10 = .ok (.iload_n 3, 1) := by decide +kernel
theorem dX10_cost_11 : decode cX10_cost 11 = .ok (.invokevirtual 136, 3) := by decide +kernel
theorem dX10_cost_14 : decode cX10_cost 14 = .ok (.ifCond .ne 8, 3) := by decide +kernel
theorem dX10_cost_17 : decode cX10_cost 17 = .ok (.bipush (-2), 2) := by decide +kernel
theorem dX10_cost_19 : decode cX10_cost 19 = .ok (.goto 11, 3) := by decide +kernel
theorem dX10_cost_22 : decode cX10_cost 22 = .ok (.aload_n 0, 1) := by decide +kernel
theorem dX10_cost_23 : decode cX10_cost 23 = .ok (.iload_n 1, 1) := by decide +kernel
theorem dX10_cost_24 : decode cX10_cost 24 = .ok (.iload_n 2, 1) := by decide +kernel
theorem dX10_cost_25 : decode cX10_cost 25 = .ok (.iload_n 3, 1) := by decide +kernel
theorem dX10_cost_26 : decode cX10_cost 26 = .ok (.invokevirtual 139, 3) := by decide +kernel
theorem dX10_cost_29 : decode cX10_cost 29 = .ok (.l2i, 1) := by decide +kernel
theorem dX10_cost_30 : decode cX10_cost 30 = .ok (.ireturn, 1) := by decide +kernel
theorem dX10_planOf_0 : decode cX10_planOf 0 = .ok (.iconst (-1), 1) := by decide +kernel
theorem dX10_planOf_1 : decode cX10_planOf 1 = .ok (.istore_n 3, 1) := by decide +kernel
theorem dX10_planOf_2 : decode cX10_planOf 2 = .ok (.iconst 0, 1) := by decide +kernel
theorem dX10_planOf_3 : decode cX10_planOf 3 = .ok (.istore 4, 2) := by decide +kernel
theorem dX10_planOf_5 : decode cX10_planOf 5 = .ok (.iconst 0, 1) := by decide +kernel
theorem dX10_planOf_6 : decode cX10_planOf 6 = .ok (.istore 5, 2) := by decide +kernel
theorem dX10_planOf_8 : decode cX10_planOf 8 = .ok (.iload 5, 2) := by decide +kernel
theorem dX10_planOf_10 : decode cX10_planOf 10 = .ok (.aload_n 0, 1) := by decide +kernel
theorem dX10_planOf_11 : decode cX10_planOf 11 = .ok (.getfield 112, 3) := by decide +kernel
theorem dX10_planOf_14 : decode cX10_planOf 14 = .ok (.if_icmp .ge 54, 3) := by decide +kernel
theorem dX10_planOf_17 : decode cX10_planOf 17 = .ok (.aload_n 0, 1) := by decide +kernel
theorem dX10_planOf_18 : decode cX10_planOf 18 = .ok (.iload_n 1, 1) := by decide +kernel
theorem dX10_planOf_19 : decode cX10_planOf 19 = .ok (.iload_n 2, 1) := by decide +kernel
theorem dX10_planOf_20 : decode cX10_planOf 20 = .ok (.iload 5, 2) := by decide +kernel
theorem dX10_planOf_22 : decode cX10_planOf 22 = .ok (.invokevirtual 139, 3) := by decide +kernel
theorem dX10_planOf_25 : decode cX10_planOf 25 = .ok (.lconst 0, 1) := by decide +kernel
theorem dX10_planOf_26 : decode cX10_planOf 26 = .ok (.lcmp, 1) := by decide +kernel
theorem dX10_planOf_27 : decode cX10_planOf 27 = .ok (.ifCond .ge 6, 3) := by decide +kernel
theorem dX10_planOf_30 : decode cX10_planOf 30 = .ok (.goto 32, 3) := by decide +kernel
theorem dX10_planOf_33 : decode cX10_planOf 33 = .ok (.aload_n 0, 1) := by decide +kernel
theorem dX10_planOf_34 : decode cX10_planOf 34 = .ok (.iload 5, 2) := by decide +kernel
theorem dX10_planOf_36 : decode cX10_planOf 36 = .ok (.iload_n 1, 1) := by decide +kernel
theorem dX10_planOf_37 : decode cX10_planOf 37 = .ok (.iload_n 2, 1) := by decide +kernel
theorem dX10_planOf_38 : decode cX10_planOf 38 = .ok (.invokevirtual 154, 3) := by decide +kernel
theorem dX10_planOf_41 : decode cX10_planOf 41 = .ok (.istore 6, 2) := by decide +kernel
theorem dX10_planOf_43 : decode cX10_planOf 43 = .ok (.iload_n 3, 1) := by decide +kernel
theorem dX10_planOf_44 : decode cX10_planOf 44 = .ok (.iconst (-1), 1) := by decide +kernel
theorem dX10_planOf_45 : decode cX10_planOf 45 = .ok (.if_icmp .eq 10, 3) := by decide +kernel
theorem dX10_planOf_48 : decode cX10_planOf 48 = .ok (.iload 6, 2) := by decide +kernel
theorem dX10_planOf_50 : decode cX10_planOf 50 = .ok (.iload 4, 2) := by decide +kernel
theorem dX10_planOf_52 : decode cX10_planOf 52 = .ok (.if_icmp .ge 10, 3) := by decide +kernel
theorem dX10_planOf_55 : decode cX10_planOf 55 = .ok (.iload 5, 2) := by decide +kernel
theorem dX10_planOf_57 : decode cX10_planOf 57 = .ok (.istore_n 3, 1) := by decide +kernel
theorem dX10_planOf_58 : decode cX10_planOf 58 = .ok (.iload 6, 2) := by decide +kernel
theorem dX10_planOf_60 : decode cX10_planOf 60 = .ok (.istore 4, 2) := by decide +kernel
theorem dX10_planOf_62 : decode cX10_planOf 62 = .ok (.iinc 5 1, 3) := by decide +kernel
theorem dX10_planOf_65 : decode cX10_planOf 65 = .ok (.goto (-57), 3) := by decide +kernel
theorem dX10_planOf_68 : decode cX10_planOf 68 = .ok (.iload_n 3, 1) := by decide +kernel
theorem dX10_planOf_69 : decode cX10_planOf 69 = .ok (.ireturn, 1) := by decide +kernel
theorem dX10_plan_0 : decode cX10_plan 0 = .ok (.aload_n 0, 1) := by decide +kernel
theorem dX10_plan_1 : decode cX10_plan 1 = .ok (.iload_n 1, 1) := by decide +kernel
theorem dX10_plan_2 : decode cX10_plan 2 = .ok (.iload_n 2, 1) := by decide +kernel
theorem dX10_plan_3 : decode cX10_plan 3 = .ok (.invokevirtual 133, 3) := by decide +kernel
theorem dX10_plan_6 : decode cX10_plan 6 = .ok (.ifCond .eq 8, 3) := by decide +kernel
theorem dX10_plan_9 : decode cX10_plan 9 = .ok (.bipush (-2), 2) := by decide +kernel
theorem dX10_plan_11 : decode cX10_plan 11 = .ok (.goto 9, 3) := by decide +kernel
theorem dX10_plan_14 : decode cX10_plan 14 = .ok (.aload_n 0, 1) := by decide +kernel
theorem dX10_plan_15 : decode cX10_plan 15 = .ok (.iload_n 1, 1) := by decide +kernel
theorem dX10_plan_16 : decode cX10_plan 16 = .ok (.iload_n 2, 1) := by decide +kernel
theorem dX10_plan_17 : decode cX10_plan 17 = .ok (.invokevirtual 158, 3) := by decide +kernel
theorem dX10_plan_20 : decode cX10_plan 20 = .ok (.ireturn, 1) := by decide +kernel
theorem dX10_planned_0 : decode cX10_planned 0 = .ok (.iload_n 1, 1) := by decide +kernel
theorem dX10_planned_1 : decode cX10_planned 1 = .ok (.invokestatic 98, 3) := by decide +kernel
theorem dX10_planned_4 : decode cX10_planned 4 = .ok (.ifCond .eq 12, 3) := by decide +kernel
theorem dX10_planned_7 : decode cX10_planned 7 = .ok (.aload_n 0, 1) := by decide +kernel
theorem dX10_planned_8 : decode cX10_planned 8 = .ok (.iload_n 2, 1) := by decide +kernel
theorem dX10_planned_9 : decode cX10_planned 9 = .ok (.iload_n 3, 1) := by decide +kernel
theorem dX10_planned_10 : decode cX10_planned 10 = .ok (.invokevirtual 133, 3) := by decide +kernel
theorem dX10_planned_13 : decode cX10_planned 13 = .ok (.ifCond .eq 6, 3) := by decide +kernel
theorem dX10_planned_16 : decode cX10_planned 16 = .ok (.bipush (-2), 2) := by decide +kernel
theorem dX10_planned_18 : decode cX10_planned 18 = .ok (.ireturn, 1) := by decide +kernel
theorem dX10_planned_19 : decode cX10_planned 19 = .ok (.aload_n 0, 1) := by decide +kernel
theorem dX10_planned_20 : decode cX10_planned 20 = .ok (.iload_n 2, 1) := by decide +kernel
theorem dX10_planned_21 : decode cX10_planned 21 = .ok (.iload_n 3, 1) := by decide +kernel
theorem dX10_planned_22 : decode cX10_planned 22 = .ok (.invokevirtual 158, 3) := by decide +kernel
theorem dX10_planned_25 : decode cX10_planned 25 = .ok (.istore 4, 2) := by decide +kernel
theorem dX10_planned_27 : decode cX10_planned 27 = .ok (.iload 4, 2) := by decide +kernel
theorem dX10_planned_29 : decode cX10_planned 29 = .ok (.iconst (-1), 1) := by decide +kernel
theorem dX10_planned_30 : decode cX10_planned 30 = .ok (.if_icmp .ne 6, 3) := by decide +kernel
theorem dX10_planned_33 : decode cX10_planned 33 = .ok (.bipush (-3), 2) := by decide +kernel
theorem dX10_planned_35 : decode cX10_planned 35 = .ok (.ireturn, 1) := by decide +kernel
theorem dX10_planned_36 : decode cX10_planned 36 = .ok (.aload_n 0, 1) := by decide +kernel
theorem dX10_planned_37 : decode cX10_planned 37 = .ok (.iload_n 1, 1) := by decide +kernel
theorem dX10_planned_38 : decode cX10_planned 38 = .ok (.iload_n 2, 1) := by decide +kernel
theorem dX10_planned_39 : decode cX10_planned 39 = .ok (.iload_n 3, 1) := by decide +kernel
theorem dX10_planned_40 : decode cX10_planned 40 = .ok (.iload 4, 2) := by decide +kernel
theorem dX10_planned_42 : decode cX10_planned 42 = .ok (.invokevirtual 161, 3) := by decide +kernel
theorem dX10_planned_45 : decode cX10_planned 45 = .ok (.bipush (-4), 2) := by decide +kernel
theorem dX10_planned_47 : decode cX10_planned 47 = .ok (.if_icmp .ne 8, 3) := by decide +kernel
theorem dX10_planned_50 : decode cX10_planned 50 = .ok (.bipush (-4), 2) := by decide +kernel
theorem dX10_planned_52 : decode cX10_planned 52 = .ok (.goto 5, 3) := by decide +kernel
theorem dX10_planned_55 : decode cX10_planned 55 = .ok (.iload 4, 2) := by decide +kernel
theorem dX10_planned_57 : decode cX10_planned 57 = .ok (.ireturn, 1) := by decide +kernel
theorem dX10_counted_0 : decode cX10_counted 0 = .ok (.aload_n 0, 1) := by decide +kernel
theorem dX10_counted_1 : decode cX10_counted 1 = .ok (.getfield 150, 3) := by decide +kernel
theorem dX10_counted_4 : decode cX10_counted 4 = .ok (.lreturn, 1) := by decide +kernel
theorem dX10_feed_0 : decode cX10_feed 0 = .ok (.iload_n 1, 1) := by decide +kernel
theorem dX10_feed_1 : decode cX10_feed 1 = .ok (.iconst 1, 1) := by decide +kernel
theorem dX10_feed_2 : decode cX10_feed 2 = .ok (.bipush 8, 2) := by decide +kernel
theorem dX10_feed_4 : decode cX10_feed 4 = .ok (.invokestatic 86, 3) := by decide +kernel
theorem dX10_feed_7 : decode cX10_feed 7 = .ok (.ifCond .ne 6, 3) := by decide +kernel
theorem dX10_feed_10 : decode cX10_feed 10 = .ok (.bipush (-2), 2) := by decide +kernel
theorem dX10_feed_12 : decode cX10_feed 12 = .ok (.ireturn, 1) := by decide +kernel
theorem dX10_feed_13 : decode cX10_feed 13 = .ok (.aload_n 0, 1) := by decide +kernel
theorem dX10_feed_14 : decode cX10_feed 14 = .ok (.getfield 165, 3) := by decide +kernel
theorem dX10_feed_17 : decode cX10_feed 17 = .ok (.iload_n 1, 1) := by decide +kernel
theorem dX10_feed_18 : decode cX10_feed 18 = .ok (.iadd, 1) := by decide +kernel
theorem dX10_feed_19 : decode cX10_feed 19 = .ok (.sipush 160, 3) := by decide +kernel
theorem dX10_feed_22 : decode cX10_feed 22 = .ok (.if_icmp .le 6, 3) := by decide +kernel
theorem dX10_feed_25 : decode cX10_feed 25 = .ok (.bipush (-4), 2) := by decide +kernel
theorem dX10_feed_27 : decode cX10_feed 27 = .ok (.ireturn, 1) := by decide +kernel
theorem dX10_feed_28 : decode cX10_feed 28 = .ok (.iconst 0, 1) := by decide +kernel
theorem dX10_feed_29 : decode cX10_feed 29 = .ok (.istore 4, 2) := by decide +kernel
theorem dX10_feed_31 : decode cX10_feed 31 = .ok (.iload 4, 2) := by decide +kernel
theorem dX10_feed_33 : decode cX10_feed 33 = .ok (.iload_n 1, 1) := by decide +kernel
theorem dX10_feed_34 : decode cX10_feed 34 = .ok (.if_icmp .ge 40, 3) := by decide +kernel
theorem dX10_feed_37 : decode cX10_feed 37 = .ok (.aload_n 0, 1) := by decide +kernel
theorem dX10_feed_38 : decode cX10_feed 38 = .ok (.getfield 36, 3) := by decide +kernel
theorem dX10_feed_41 : decode cX10_feed 41 = .ok (.aload_n 0, 1) := by decide +kernel
theorem dX10_feed_42 : decode cX10_feed 42 = .ok (.getfield 165, 3) := by decide +kernel
theorem dX10_feed_45 : decode cX10_feed 45 = .ok (.lload_n 2, 1) := by decide +kernel
theorem dX10_feed_46 : decode cX10_feed 46 = .ok (.bipush 8, 2) := by decide +kernel
theorem dX10_feed_48 : decode cX10_feed 48 = .ok (.iload 4, 2) := by decide +kernel
theorem dX10_feed_50 : decode cX10_feed 50 = .ok (.imul, 1) := by decide +kernel
theorem dX10_feed_51 : decode cX10_feed 51 = .ok (.lshr, 1) := by decide +kernel
theorem dX10_feed_52 : decode cX10_feed 52 = .ok (.ldc2_w 77, 3) := by decide +kernel
theorem dX10_feed_55 : decode cX10_feed 55 = .ok (.land, 1) := by decide +kernel
theorem dX10_feed_56 : decode cX10_feed 56 = .ok (.l2i, 1) := by decide +kernel
theorem dX10_feed_57 : decode cX10_feed 57 = .ok (.iastore, 1) := by decide +kernel
theorem dX10_feed_58 : decode cX10_feed 58 = .ok (.aload_n 0, 1) := by decide +kernel
theorem dX10_feed_59 : decode cX10_feed 59 = .ok (.dup, 1) := by decide +kernel
theorem dX10_feed_60 : decode cX10_feed 60 = .ok (.getfield 165, 3) := by decide +kernel
theorem dX10_feed_63 : decode cX10_feed 63 = .ok (.iconst 1, 1) := by decide +kernel
theorem dX10_feed_64 : decode cX10_feed 64 = .ok (.iadd, 1) := by decide +kernel
theorem dX10_feed_65 : decode cX10_feed 65 = .ok (.putfield 165, 3) := by decide +kernel
theorem dX10_feed_68 : decode cX10_feed 68 = .ok (.iinc 4 1, 3) := by decide +kernel
theorem dX10_feed_71 : decode cX10_feed 71 = .ok (.goto (-40), 3) := by decide +kernel
theorem dX10_feed_74 : decode cX10_feed 74 = .ok (.aload_n 0, 1) := by decide +kernel
theorem dX10_feed_75 : decode cX10_feed 75 = .ok (.getfield 165, 3) := by decide +kernel
theorem dX10_feed_78 : decode cX10_feed 78 = .ok (.ireturn, 1) := by decide +kernel
theorem dX10_byteAt_0 : decode cX10_byteAt 0 = .ok (.iload_n 1, 1) := by decide +kernel
theorem dX10_byteAt_1 : decode cX10_byteAt 1 = .ok (.aload_n 0, 1) := by decide +kernel
theorem dX10_byteAt_2 : decode cX10_byteAt 2 = .ok (.getfield 168, 3) := by decide +kernel
theorem dX10_byteAt_5 : decode cX10_byteAt 5 = .ok (.if_icmp .ge 17, 3) := by decide +kernel
theorem dX10_byteAt_8 : decode cX10_byteAt 8 = .ok (.aload_n 0, 1) := by decide +kernel
theorem dX10_byteAt_9 : decode cX10_byteAt 9 = .ok (.getfield 30, 3) := by decide +kernel
theorem dX10_byteAt_12 : decode cX10_byteAt 12 = .ok (.aload_n 0, 1) := by decide +kernel
theorem dX10_byteAt_13 : decode cX10_byteAt 13 = .ok (.getfield 171, 3) := by decide +kernel
theorem dX10_byteAt_16 : decode cX10_byteAt 16 = .ok (.iload_n 1, 1) := by decide +kernel
theorem dX10_byteAt_17 : decode cX10_byteAt 17 = .ok (.iadd, 1) := by decide +kernel
theorem dX10_byteAt_18 : decode cX10_byteAt 18 = .ok (.iaload, 1) := by decide +kernel
theorem dX10_byteAt_19 : decode cX10_byteAt 19 = .ok (.goto 4, 3) := by decide +kernel
theorem dX10_byteAt_22 : decode cX10_byteAt 22 = .ok (.iconst (-1), 1) := by decide +kernel
theorem dX10_byteAt_23 : decode cX10_byteAt 23 = .ok (.ireturn, 1) := by decide +kernel
theorem dX10_next_0 : decode cX10_next 0 = .ok (.aload_n 0, 1) := by decide +kernel
theorem dX10_next_1 : decode cX10_next 1 = .ok (.aload_n 0, 1) := by decide +kernel
theorem dX10_next_2 : decode cX10_next 2 = .ok (.getfield 174, 3) := by decide +kernel
theorem dX10_next_5 : decode cX10_next 5 = .ok (.invokevirtual 177, 3) := by decide +kernel
theorem dX10_next_8 : decode cX10_next 8 = .ok (.bipush 32, 2) := by decide +kernel
theorem dX10_next_10 : decode cX10_next 10 = .ok (.if_icmp .eq 16, 3) := by decide +kernel
theorem dX10_next_13 : decode cX10_next 13 = .ok (.aload_n 0, 1) := by decide +kernel
theorem dX10_next_14 : decode cX10_next 14 = .ok (.aload_n 0, 1) := by decide +kernel
theorem dX10_next_15 : decode cX10_next 15 = .ok (.getfield 174, 3) := by decide +kernel
theorem dX10_next_18 : decode cX10_next 18 = .ok (.invokevirtual 177, 3) := by decide +kernel
theorem dX10_next_21 : decode cX10_next 21 = .ok (.bipush 10, 2) := by decide +kernel
theorem dX10_next_23 : decode cX10_next 23 = .ok (.if_icmp .ne 16, 3) := by decide +kernel
theorem dX10_next_26 : decode cX10_next 26 = .ok (.aload_n 0, 1) := by decide +kernel
theorem dX10_next_27 : decode cX10_next 27 = .ok (.dup, 1) := by decide +kernel
theorem dX10_next_28 : decode cX10_next 28 = .ok (.getfield 174, 3) := by decide +kernel
theorem dX10_next_31 : decode cX10_next 31 = .ok (.iconst 1, 1) := by decide +kernel
theorem dX10_next_32 : decode cX10_next 32 = .ok (.iadd, 1) := by decide +kernel
theorem dX10_next_33 : decode cX10_next 33 = .ok (.putfield 174, 3) := by decide +kernel
theorem dX10_next_36 : decode cX10_next 36 = .ok (.goto (-36), 3) := by decide +kernel
theorem dX10_next_39 : decode cX10_next 39 = .ok (.aload_n 0, 1) := by decide +kernel
theorem dX10_next_40 : decode cX10_next 40 = .ok (.aload_n 0, 1) := by decide +kernel
theorem dX10_next_41 : decode cX10_next 41 = .ok (.getfield 174, 3) := by decide +kernel
theorem dX10_next_44 : decode cX10_next 44 = .ok (.putfield 180, 3) := by decide +kernel
theorem dX10_next_47 : decode cX10_next 47 = .ok (.aload_n 0, 1) := by decide +kernel
theorem dX10_next_48 : decode cX10_next 48 = .ok (.aload_n 0, 1) := by decide +kernel
theorem dX10_next_49 : decode cX10_next 49 = .ok (.getfield 174, 3) := by decide +kernel
theorem dX10_next_52 : decode cX10_next 52 = .ok (.invokevirtual 177, 3) := by decide +kernel
theorem dX10_next_55 : decode cX10_next 55 = .ok (.istore_n 1, 1) := by decide +kernel
theorem dX10_next_56 : decode cX10_next 56 = .ok (.aload_n 0, 1) := by decide +kernel
theorem dX10_next_57 : decode cX10_next 57 = .ok (.iconst 4, 1) := by decide +kernel
theorem dX10_next_58 : decode cX10_next 58 = .ok (.putfield 183, 3) := by decide +kernel
theorem dX10_next_61 : decode cX10_next 61 = .ok (.iload_n 1, 1) := by decide +kernel
theorem dX10_next_62 : decode cX10_next 62 = .ok (.ifCond .ge 19, 3) := by decide +kernel
theorem dX10_next_65 : decode cX10_next 65 = .ok (.aload_n 0, 1) := by decide +kernel
theorem dX10_next_66 : decode cX10_next 66 = .ok (.iconst 0, 1) := by decide +kernel
theorem dX10_next_67 : decode cX10_next 67 = .ok (.putfield 183, 3) := by decide +kernel
theorem dX10_next_70 : decode cX10_next 70 = .ok (.aload_n 0, 1) := by decide +kernel
theorem dX10_next_71 : decode cX10_next 71 = .ok (.aload_n 0, 1) := by decide +kernel
theorem dX10_next_72 : decode cX10_next 72 = .ok (.getfield 168, 3) := by decide +kernel
theorem dX10_next_75 : decode cX10_next 75 = .ok (.putfield 180, 3) := by decide +kernel
theorem dX10_next_78 : decode cX10_next 78 = .ok (.goto 272, 3) := by decide +kernel
theorem dX10_next_81 : decode cX10_next 81 = .ok (.iload_n 1, 1) := by decide +kernel
theorem dX10_next_82 : decode cX10_next 82 = .ok (.bipush 97, 2) := by decide +kernel
theorem dX10_next_84 : decode cX10_next 84 = .ok (.bipush 122, 2) := by decide +kernel
theorem dX10_next_86 : decode cX10_next 86 = .ok (.invokestatic 86, 3) := by decide +kernel
theorem dX10_next_89 : decode cX10_next 89 = .ok (.ifCond .eq 84, 3) := by decide +kernel
theorem dX10_next_92 : decode cX10_next 92 = .ok (.aload_n 0, 1) := by decide +kernel
theorem dX10_next_93 : decode cX10_next 93 = .ok (.iconst 1, 1) := by decide +kernel
theorem dX10_next_94 : decode cX10_next 94 = .ok (.putfield 183, 3) := by decide +kernel
theorem dX10_next_97 : decode cX10_next 97 = .ok (.aload_n 0, 1) := by decide +kernel
theorem dX10_next_98 : decode cX10_next 98 = .ok (.iconst 0, 1) := by decide +kernel
theorem dX10_next_99 : decode cX10_next 99 = .ok (.putfield 186, 3) := by decide +kernel
theorem dX10_next_102 : decode cX10_next 102 = .ok (.iconst 0, 1) := by decide +kernel
theorem dX10_next_103 : decode cX10_next 103 = .ok (.istore_n 2, 1) := by decide +kernel
theorem dX10_next_104 : decode cX10_next 104 = .ok (.aload_n 0, 1) := by decide +kernel
theorem dX10_next_105 : decode cX10_next 105 = .ok (.aload_n 0, 1) := by decide +kernel
theorem dX10_next_106 : decode cX10_next 106 = .ok (.getfield 174, 3) := by decide +kernel
theorem dX10_next_109 : decode cX10_next 109 = .ok (.invokevirtual 177, 3) := by decide +kernel
theorem dX10_next_112 : decode cX10_next 112 = .ok (.bipush 97, 2) := by decide +kernel
theorem dX10_next_114 : decode cX10_next 114 = .ok (.bipush 122, 2) := by decide +kernel
theorem dX10_next_116 : decode cX10_next 116 = .ok (.invokestatic 86, 3) := by decide +kernel
theorem dX10_next_119 : decode cX10_next 119 = .ok (.ifCond .eq 51, 3) := by decide +kernel
theorem dX10_next_122 : decode cX10_next 122 = .ok (.aload_n 0, 1) := by decide +kernel
theorem dX10_next_123 : decode cX10_next 123 = .ok (.iload_n 2, 1) := by decide +kernel
theorem dX10_next_124 : decode cX10_next 124 = .ok (.iconst 5, 1) := by decide +kernel
theorem dX10_next_125 : decode cX10_next 125 = .ok (.if_icmp .ge 25, 3) := by decide +kernel
theorem dX10_next_128 : decode cX10_next 128 = .ok (.bipush 27, 2) := by decide +kernel
theorem dX10_next_130 : decode cX10_next 130 = .ok (.aload_n 0, 1) := by decide +kernel
theorem dX10_next_131 : decode cX10_next 131 = .ok (.getfield 186, 3) := by decide +kernel
theorem dX10_next_134 : decode cX10_next 134 = .ok (.imul, 1) := by decide +kernel
theorem dX10_next_135 : decode cX10_next 135 = .ok (.aload_n 0, 1) := by decide +kernel
theorem dX10_next_136 : decode cX10_next 136 = .ok (.aload_n 0, 1) := by decide +kernel
theorem dX10_next_137 : decode cX10_next 137 = .ok (.getfield 174, 3) := by decide +kernel
theorem dX10_next_140 : decode cX10_next 140 = .ok (.invokevirtual 177, 3) := by decide +kernel
theorem dX10_next_143 : decode cX10_next 143 = .ok (.iadd, 1) := by decide +kernel
theorem dX10_next_144 : decode cX10_next 144 = .ok (.bipush 96, 2) := by decide +kernel
theorem dX10_next_146 : decode cX10_next 146 = .ok (.isub, 1) := by decide +kernel
theorem dX10_next_147 : decode cX10_next 147 = .ok (.goto 4, 3) := by decide +kernel
theorem dX10_next_150 : decode cX10_next 150 = .ok (.iconst (-1), 1) := by decide +kernel
theorem dX10_next_151 : decode cX10_next 151 = .ok (.putfield 186, 3) := by decide +kernel
theorem dX10_next_154 : decode cX10_next 154 = .ok (.iinc 2 1, 3) := by decide +kernel
theorem dX10_next_157 : decode cX10_next 157 = .ok (.aload_n 0, 1) := by decide +kernel
theorem dX10_next_158 : decode cX10_next 158 = .ok (.dup, 1) := by decide +kernel
theorem dX10_next_159 : decode cX10_next 159 = .ok (.getfield 174, 3) := by decide +kernel
theorem dX10_next_162 : decode cX10_next 162 = .ok (.iconst 1, 1) := by decide +kernel
theorem dX10_next_163 : decode cX10_next 163 = .ok (.iadd, 1) := by decide +kernel
theorem dX10_next_164 : decode cX10_next 164 = .ok (.putfield 174, 3) := by decide +kernel
theorem dX10_next_167 : decode cX10_next 167 = .ok (.goto (-63), 3) := by decide +kernel
theorem dX10_next_170 : decode cX10_next 170 = .ok (.goto 180, 3) := by decide +kernel
theorem dX10_next_173 : decode cX10_next 173 = .ok (.iload_n 1, 1) := by decide +kernel
theorem dX10_next_174 : decode cX10_next 174 = .ok (.bipush 48, 2) := by decide +kernel
theorem dX10_next_176 : decode cX10_next 176 = .ok (.bipush 57, 2) := by decide +kernel
theorem dX10_next_178 : decode cX10_next 178 = .ok (.invokestatic 86, 3) := by decide +kernel
theorem dX10_next_181 : decode cX10_next 181 = .ok (.ifCond .eq 101, 3) := by decide +kernel
theorem dX10_next_184 : decode cX10_next 184 = .ok (.aload_n 0, 1) := by decide +kernel
theorem dX10_next_185 : decode cX10_next 185 = .ok (.iconst 2, 1) := by decide +kernel
theorem dX10_next_186 : decode cX10_next 186 = .ok (.putfield 183, 3) := by decide +kernel
theorem dX10_next_189 : decode cX10_next 189 = .ok (.aload_n 0, 1) := by decide +kernel
theorem dX10_next_190 : decode cX10_next 190 = .ok (.iconst 0, 1) := by decide +kernel
theorem dX10_next_191 : decode cX10_next 191 = .ok (.putfield 186, 3) := by decide +kernel
theorem dX10_next_194 : decode cX10_next 194 = .ok (.iconst 0, 1) := by decide +kernel
theorem dX10_next_195 : decode cX10_next 195 = .ok (.istore_n 2, 1) := by decide +kernel
theorem dX10_next_196 : decode cX10_next 196 = .ok (.aload_n 0, 1) := by decide +kernel
theorem dX10_next_197 : decode cX10_next 197 = .ok (.aload_n 0, 1) := by decide +kernel
theorem dX10_next_198 : decode cX10_next 198 = .ok (.getfield 174, 3) := by decide +kernel
theorem dX10_next_201 : decode cX10_next 201 = .ok (.invokevirtual 177, 3) := by decide +kernel
theorem dX10_next_204 : decode cX10_next 204 = .ok (.bipush 48, 2) := by decide +kernel
theorem dX10_next_206 : decode cX10_next 206 = .ok (.bipush 57, 2) := by decide +kernel
theorem dX10_next_208 : decode cX10_next 208 = .ok (.invokestatic 86, 3) := by decide +kernel
theorem dX10_next_211 : decode cX10_next 211 = .ok (.ifCond .eq 54, 3) := by decide +kernel
theorem dX10_next_214 : decode cX10_next 214 = .ok (.aload_n 0, 1) := by decide +kernel
theorem dX10_next_215 : decode cX10_next 215 = .ok (.iload_n 2, 1) := by decide +kernel
theorem dX10_next_216 : decode cX10_next 216 = .ok (.iconst 4, 1) := by decide +kernel
theorem dX10_next_217 : decode cX10_next 217 = .ok (.if_icmp .ge 25, 3) := by decide +kernel
theorem dX10_next_220 : decode cX10_next 220 = .ok (.bipush 10, 2) := by decide +kernel
theorem dX10_next_222 : decode cX10_next 222 = .ok (.aload_n 0, 1) := by decide +kernel
theorem dX10_next_223 : decode cX10_next 223 = .ok (.getfield 186, 3) := by decide +kernel
theorem dX10_next_226 : decode cX10_next 226 = .ok (.imul, 1) := by decide +kernel
theorem dX10_next_227 : decode cX10_next 227 = .ok (.aload_n 0, 1) := by decide +kernel
theorem dX10_next_228 : decode cX10_next 228 = .ok (.aload_n 0, 1) := by decide +kernel
theorem dX10_next_229 : decode cX10_next 229 = .ok (.getfield 174, 3) := by decide +kernel
theorem dX10_next_232 : decode cX10_next 232 = .ok (.invokevirtual 177, 3) := by decide +kernel
theorem dX10_next_235 : decode cX10_next 235 = .ok (.iadd, 1) := by decide +kernel
theorem dX10_next_236 : decode cX10_next 236 = .ok (.bipush 48, 2) := by decide +kernel
theorem dX10_next_238 : decode cX10_next 238 = .ok (.isub, 1) := by decide +kernel
theorem dX10_next_239 : decode cX10_next 239 = .ok (.goto 7, 3) := by decide +kernel
theorem dX10_next_242 : decode cX10_next 242 = .ok (.aload_n 0, 1) := by decide +kernel
theorem dX10_next_243 : decode cX10_next 243 = .ok (.getfield 186, 3) := by decide +kernel
theorem dX10_next_246 : decode cX10_next 246 = .ok (.putfield 186, 3) := by decide +kernel
theorem dX10_next_249 : decode cX10_next 249 = .ok (.iinc 2 1, 3) := by decide +kernel
theorem dX10_next_252 : decode cX10_next 252 = .ok (.aload_n 0, 1) := by decide +kernel
theorem dX10_next_253 : decode cX10_next 253 = .ok (.dup, 1) := by decide +kernel
theorem dX10_next_254 : decode cX10_next 254 = .ok (.getfield 174, 3) := by decide +kernel
theorem dX10_next_257 : decode cX10_next 257 = .ok (.iconst 1, 1) := by decide +kernel
theorem dX10_next_258 : decode cX10_next 258 = .ok (.iadd, 1) := by decide +kernel
theorem dX10_next_259 : decode cX10_next 259 = .ok (.putfield 174, 3) := by decide +kernel
theorem dX10_next_262 : decode cX10_next 262 = .ok (.goto (-66), 3) := by decide +kernel
theorem dX10_next_265 : decode cX10_next 265 = .ok (.aload_n 0, 1) := by decide +kernel
theorem dX10_next_266 : decode cX10_next 266 = .ok (.iload_n 2, 1) := by decide +kernel
theorem dX10_next_267 : decode cX10_next 267 = .ok (.iconst 4, 1) := by decide +kernel
theorem dX10_next_268 : decode cX10_next 268 = .ok (.if_icmp .le 7, 3) := by decide +kernel
theorem dX10_next_271 : decode cX10_next 271 = .ok (.iconst 4, 1) := by decide +kernel
theorem dX10_next_272 : decode cX10_next 272 = .ok (.goto 4, 3) := by decide +kernel
theorem dX10_next_275 : decode cX10_next 275 = .ok (.iconst 2, 1) := by decide +kernel
theorem dX10_next_276 : decode cX10_next 276 = .ok (.putfield 183, 3) := by decide +kernel
theorem dX10_next_279 : decode cX10_next 279 = .ok (.goto 71, 3) := by decide +kernel
theorem dX10_next_282 : decode cX10_next 282 = .ok (.iload_n 1, 1) := by decide +kernel
theorem dX10_next_283 : decode cX10_next 283 = .ok (.bipush 40, 2) := by decide +kernel
theorem dX10_next_285 : decode cX10_next 285 = .ok (.if_icmp .eq 45, 3) := by decide +kernel
theorem dX10_next_288 : decode cX10_next 288 = .ok (.iload_n 1, 1) := by decide +kernel
theorem dX10_next_289 : decode cX10_next 289 = .ok (.bipush 41, 2) := by decide +kernel
theorem dX10_next_291 : decode cX10_next 291 = .ok (.if_icmp .eq 39, 3) := by decide +kernel
theorem dX10_next_294 : decode cX10_next 294 = .ok (.iload_n 1, 1) := by decide +kernel
theorem dX10_next_295 : decode cX10_next 295 = .ok (.bipush 59, 2) := by decide +kernel
theorem dX10_next_297 : decode cX10_next 297 = .ok (.if_icmp .eq 33, 3) := by decide +kernel
theorem dX10_next_300 : decode cX10_next 300 = .ok (.iload_n 1, 1) := by decide +kernel
theorem dX10_next_301 : decode cX10_next 301 = .ok (.bipush 43, 2) := by decide +kernel
theorem dX10_next_303 : decode cX10_next 303 = .ok (.if_icmp .eq 27, 3) := by decide +kernel
theorem dX10_next_306 : decode cX10_next 306 = .ok (.iload_n 1, 1) := by decide +kernel
theorem dX10_next_307 : decode cX10_next 307 = .ok (.bipush 45, 2) := by decide +kernel
theorem dX10_next_309 : decode cX10_next 309 = .ok (.if_icmp .eq 21, 3) := by decide +kernel
theorem dX10_next_312 : decode cX10_next 312 = .ok (.iload_n 1, 1) := by decide +kernel
theorem dX10_next_313 : decode cX10_next 313 = .ok (.bipush 42, 2) := by decide +kernel
theorem dX10_next_315 : decode cX10_next 315 = .ok (.if_icmp .eq 15, 3) := by decide +kernel
theorem dX10_next_318 : decode cX10_next 318 = .ok (.iload_n 1, 1) := by decide +kernel
theorem dX10_next_319 : decode cX10_next 319 = .ok (.bipush 60, 2) := by decide +kernel
theorem dX10_next_321 : decode cX10_next 321 = .ok (.if_icmp .eq 9, 3) := by decide +kernel
theorem dX10_next_324 : decode cX10_next 324 = .ok (.iload_n 1, 1) := by decide +kernel
theorem dX10_next_325 : decode cX10_next 325 = .ok (.bipush 61, 2) := by decide +kernel
theorem dX10_next_327 : decode cX10_next 327 = .ok (.if_icmp .ne 23, 3) := by decide +kernel
theorem dX10_next_330 : decode cX10_next 330 = .ok (.aload_n 0, 1) := by decide +kernel
theorem dX10_next_331 : decode cX10_next 331 = .ok (.iconst 3, 1) := by decide +kernel
theorem dX10_next_332 : decode cX10_next 332 = .ok (.putfield 183, 3) := by decide +kernel
theorem dX10_next_335 : decode cX10_next 335 = .ok (.aload_n 0, 1) := by decide +kernel
theorem dX10_next_336 : decode cX10_next 336 = .ok (.iload_n 1, 1) := by decide +kernel
theorem dX10_next_337 : decode cX10_next 337 = .ok (.putfield 186, 3) := by decide +kernel
theorem dX10_next_340 : decode cX10_next 340 = .ok (.aload_n 0, 1) := by decide +kernel
theorem dX10_next_341 : decode cX10_next 341 = .ok (.dup, 1) := by decide +kernel
theorem dX10_next_342 : decode cX10_next 342 = .ok (.getfield 174, 3) := by decide +kernel
theorem dX10_next_345 : decode cX10_next 345 = .ok (.iconst 1, 1) := by decide +kernel
theorem dX10_next_346 : decode cX10_next 346 = .ok (.iadd, 1) := by decide +kernel
theorem dX10_next_347 : decode cX10_next 347 = .ok (.putfield 174, 3) := by decide +kernel
theorem dX10_next_350 : decode cX10_next 350 = .ok (.return_, 1) := by decide +kernel
theorem dX10_fail_0 : decode cX10_fail 0 = .ok (.aload_n 0, 1) := by decide +kernel
theorem dX10_fail_1 : decode cX10_fail 1 = .ok (.getfield 189, 3) := by decide +kernel
theorem dX10_fail_4 : decode cX10_fail 4 = .ok (.ifCond .ne 16, 3) := by decide +kernel
theorem dX10_fail_7 : decode cX10_fail 7 = .ok (.aload_n 0, 1) := by decide +kernel
theorem dX10_fail_8 : decode cX10_fail 8 = .ok (.iconst 1, 1) := by decide +kernel
theorem dX10_fail_9 : decode cX10_fail 9 = .ok (.putfield 189, 3) := by decide +kernel
theorem dX10_fail_12 : decode cX10_fail 12 = .ok (.aload_n 0, 1) := by decide +kernel
theorem dX10_fail_13 : decode cX10_fail 13 = .ok (.aload_n 0, 1) := by decide +kernel
theorem dX10_fail_14 : decode cX10_fail 14 = .ok (.getfield 180, 3) := by decide +kernel
theorem dX10_fail_17 : decode cX10_fail 17 = .ok (.putfield 193, 3) := by decide +kernel
theorem dX10_fail_20 : decode cX10_fail 20 = .ok (.return_, 1) := by decide +kernel
theorem dX10_isWord_0 : decode cX10_isWord 0 = .ok (.aload_n 0, 1) := by decide +kernel
theorem dX10_isWord_1 : decode cX10_isWord 1 = .ok (.getfield 189, 3) := by decide +kernel
theorem dX10_isWord_4 : decode cX10_isWord 4 = .ok (.ifCond .ne 23, 3) := by decide +kernel
theorem dX10_isWord_7 : decode cX10_isWord 7 = .ok (.aload_n 0, 1) := by decide +kernel
theorem dX10_isWord_8 : decode cX10_isWord 8 = .ok (.getfield 183, 3) := by decide +kernel
theorem dX10_isWord_11 : decode cX10_isWord 11 = .ok (.iconst 1, 1) := by decide +kernel
theorem dX10_isWord_12 : decode cX10_isWord 12 = .ok (.if_icmp .ne 15, 3) := by decide +kernel
theorem dX10_isWord_15 : decode cX10_isWord 15 = .ok (.aload_n 0, 1) := by decide +kernel
theorem dX10_isWord_16 : decode cX10_isWord 16 = .ok (.getfield 186, 3) := by decide +kernel
theorem dX10_isWord_19 : decode cX10_isWord 19 = .ok (.iload_n 1, 1) := by decide +kernel
theorem dX10_isWord_20 : decode cX10_isWord 20 = .ok (.if_icmp .ne 7, 3) := by decide +kernel
theorem dX10_isWord_23 : decode cX10_isWord 23 = .ok (.iconst 1, 1) := by decide +kernel
theorem dX10_isWord_24 : decode cX10_isWord 24 = .ok (.goto 4, 3) := by decide +kernel
theorem dX10_isWord_27 : decode cX10_isWord 27 = .ok (.iconst 0, 1) := by decide +kernel
theorem dX10_isWord_28 : decode cX10_isWord 28 = .ok (.ireturn, 1) := by decide +kernel
theorem dX10_isSign_0 : decode cX10_isSign 0 = .ok (.aload_n 0, 1) := by decide +kernel
theorem dX10_isSign_1 : decode cX10_isSign 1 = .ok (.getfield 189, 3) := by decide +kernel
theorem dX10_isSign_4 : decode cX10_isSign 4 = .ok (.ifCond .ne 23, 3) := by decide +kernel
theorem dX10_isSign_7 : decode cX10_isSign 7 = .ok (.aload_n 0, 1) := by decide +kernel
theorem dX10_isSign_8 : decode cX10_isSign 8 = .ok (.getfield 183, 3) := by decide +kernel
theorem dX10_isSign_11 : decode cX10_isSign 11 = .ok (.iconst 3, 1) := by decide +kernel
theorem dX10_isSign_12 : decode cX10_isSign 12 = .ok (.if_icmp .ne 15, 3) := by decide +kernel
theorem dX10_isSign_15 : decode cX10_isSign 15 = .ok (.aload_n 0, 1) := by decide +kernel
theorem dX10_isSign_16 : decode cX10_isSign 16 = .ok (.getfield 186, 3) := by decide +kernel
theorem dX10_isSign_19 : decode cX10_isSign 19 = .ok (.iload_n 1, 1) := by decide +kernel
theorem dX10_isSign_20 : decode cX10_isSign 20 = .ok (.if_icmp .ne 7, 3) := by decide +kernel
theorem dX10_isSign_23 : decode cX10_isSign 23 = .ok (.iconst 1, 1) := by decide +kernel
theorem dX10_isSign_24 : decode cX10_isSign 24 = .ok (.goto 4, 3) := by decide +kernel
theorem dX10_isSign_27 : decode cX10_isSign 27 = .ok (.iconst 0, 1) := by decide +kernel
theorem dX10_isSign_28 : decode cX10_isSign 28 = .ok (.ireturn, 1) := by decide +kernel
theorem dX10_opens_0 : decode cX10_opens 0 = .ok (.aload_n 0, 1) := by decide +kernel
theorem dX10_opens_1 : decode cX10_opens 1 = .ok (.getfield 196, 3) := by decide +kernel
theorem dX10_opens_4 : decode cX10_opens 4 = .ok (.iconst 5, 1) := by decide +kernel
theorem dX10_opens_5 : decode cX10_opens 5 = .ok (.if_icmp .ne 9, 3) := by decide +kernel
theorem dX10_opens_8 : decode cX10_opens 8 = .ok (.aload_n 0, 1) := by decide +kernel
theorem dX10_opens_9 : decode cX10_opens 9 = .ok (.invokevirtual 199, 3) := by decide +kernel
theorem dX10_opens_12 : decode cX10_opens 12 = .ok (.iconst 0, 1) := by decide +kernel
theorem dX10_opens_13 : decode cX10_opens 13 = .ok (.ireturn, 1) := by decide +kernel
theorem dX10_opens_14 : decode cX10_opens 14 = .ok (.aload_n 0, 1) := by decide +kernel
theorem dX10_opens_15 : decode cX10_opens 15 = .ok (.dup, 1) := by decide +kernel
theorem dX10_opens_16 : decode cX10_opens 16 = .ok (.getfield 196, 3) := by decide +kernel
theorem dX10_opens_19 : decode cX10_opens 19 = .ok (.iconst 1, 1) := by decide +kernel
theorem dX10_opens_20 : decode cX10_opens 20 = .ok (.iadd, 1) := by decide +kernel
theorem dX10_opens_21 : decode cX10_opens 21 = .ok (.putfield 196, 3) := by decide +kernel
theorem dX10_opens_24 : decode cX10_opens 24 = .ok (.aload_n 0, 1) := by decide +kernel
theorem dX10_opens_25 : decode cX10_opens 25 = .ok (.invokevirtual 202, 3) := by decide +kernel
theorem dX10_opens_28 : decode cX10_opens 28 = .ok (.iconst 1, 1) := by decide +kernel
theorem dX10_opens_29 : decode cX10_opens 29 = .ok (.ireturn, 1) := by decide +kernel
theorem dX10_name_0 : decode cX10_name 0 = .ok (.aload_n 0, 1) := by decide +kernel
theorem dX10_name_1 : decode cX10_name 1 = .ok (.getfield 186, 3) := by decide +kernel
theorem dX10_name_4 : decode cX10_name 4 = .ok (.lookupswitch 108 #[(13, 65), (14, 60), (2774, 93), (223456, 98), (375062, 103), (381245, 70)], 60) := by decide +kernel
theorem dX10_name_64 : decode cX10_name 64 = .ok (.aload_n 0, 1) := by decide +kernel
theorem dX10_name_65 : decode cX10_name 65 = .ok (.getfield 205, 3) := by decide +kernel
theorem dX10_name_68 : decode cX10_name 68 = .ok (.ireturn, 1) := by decide +kernel
theorem dX10_name_69 : decode cX10_name 69 = .ok (.aload_n 0, 1) := by decide +kernel
theorem dX10_name_70 : decode cX10_name 70 = .ok (.getfield 208, 3) := by decide +kernel
theorem dX10_name_73 : decode cX10_name 73 = .ok (.ireturn, 1) := by decide +kernel
theorem dX10_name_74 : decode cX10_name 74 = .ok (.aload_n 0, 1) := by decide +kernel
theorem dX10_name_75 : decode cX10_name 75 = .ok (.getfield 205, 3) := by decide +kernel
theorem dX10_name_78 : decode cX10_name 78 = .ok (.aload_n 0, 1) := by decide +kernel
theorem dX10_name_79 : decode cX10_name 79 = .ok (.getfield 208, 3) := by decide +kernel
theorem dX10_name_82 : decode cX10_name 82 = .ok (.if_icmp .le 10, 3) := by decide +kernel
theorem dX10_name_85 : decode cX10_name 85 = .ok (.aload_n 0, 1) := by decide +kernel
theorem dX10_name_86 : decode cX10_name 86 = .ok (.getfield 205, 3) := by decide +kernel
theorem dX10_name_89 : decode cX10_name 89 = .ok (.goto 7, 3) := by decide +kernel
theorem dX10_name_92 : decode cX10_name 92 = .ok (.aload_n 0, 1) := by decide +kernel
theorem dX10_name_93 : decode cX10_name 93 = .ok (.getfield 208, 3) := by decide +kernel
theorem dX10_name_96 : decode cX10_name 96 = .ok (.ireturn, 1) := by decide +kernel
theorem dX10_name_97 : decode cX10_name 97 = .ok (.aload_n 0, 1) := by decide +kernel
theorem dX10_name_98 : decode cX10_name 98 = .ok (.getfield 211, 3) := by decide +kernel
theorem dX10_name_101 : decode cX10_name 101 = .ok (.ireturn, 1) := by decide +kernel
theorem dX10_name_102 : decode cX10_name 102 = .ok (.aload_n 0, 1) := by decide +kernel
theorem dX10_name_103 : decode cX10_name 103 = .ok (.getfield 214, 3) := by decide +kernel
theorem dX10_name_106 : decode cX10_name 106 = .ok (.ireturn, 1) := by decide +kernel
theorem dX10_name_107 : decode cX10_name 107 = .ok (.aload_n 0, 1) := by decide +kernel
theorem dX10_name_108 : decode cX10_name 108 = .ok (.getfield 217, 3) := by decide +kernel
theorem dX10_name_111 : decode cX10_name 111 = .ok (.ireturn, 1) := by decide +kernel
theorem dX10_name_112 : decode cX10_name 112 = .ok (.aload_n 0, 1) := by decide +kernel
theorem dX10_name_113 : decode cX10_name 113 = .ok (.invokevirtual 199, 3) := by decide +kernel
theorem dX10_name_116 : decode cX10_name 116 = .ok (.iconst 0, 1) := by decide +kernel
theorem dX10_name_117 : decode cX10_name 117 = .ok (.ireturn, 1) := by decide +kernel
theorem dX10_one_0 : decode cX10_one 0 = .ok (.iconst 0, 1) := by decide +kernel
theorem dX10_one_1 : decode cX10_one 1 = .ok (.istore_n 1, 1) := by decide +kernel
theorem dX10_one_2 : decode cX10_one 2 = .ok (.aload_n 0, 1) := by decide +kernel
theorem dX10_one_3 : decode cX10_one 3 = .ok (.bipush 45, 2) := by decide +kernel
theorem dX10_one_5 : decode cX10_one 5 = .ok (.invokevirtual 220, 3) := by decide +kernel
theorem dX10_one_8 : decode cX10_one 8 = .ok (.ifCond .eq 29, 3) := by decide +kernel
theorem dX10_one_11 : decode cX10_one 11 = .ok (.aload_n 0, 1) := by decide +kernel
theorem dX10_one_12 : decode cX10_one 12 = .ok (.invokevirtual 223, 3) := by decide +kernel
theorem dX10_one_15 : decode cX10_one 15 = .ok (.ifCond .eq 145, 3) := by decide +kernel
theorem dX10_one_18 : decode cX10_one 18 = .ok (.aload_n 0, 1) := by decide +kernel
theorem dX10_one_19 : decode cX10_one 19 = .ok (.invokevirtual 227, 3) := by decide +kernel
theorem dX10_one_22 : decode cX10_one 22 = .ok (.ineg, 1) := by decide +kernel
theorem dX10_one_23 : decode cX10_one 23 = .ok (.istore_n 1, 1) := by decide +kernel
theorem dX10_one_24 : decode cX10_one 24 = .ok (.aload_n 0, 1) := by decide +kernel
theorem dX10_one_25 : decode cX10_one 25 = .ok (.dup, 1) := by decide +kernel
theorem dX10_one_26 : decode cX10_one 26 = .ok (.getfield 196, 3) := by decide +kernel
theorem dX10_one_29 : decode cX10_one 29 = .ok (.iconst 1, 1) := by decide +kernel
theorem dX10_one_30 : decode cX10_one 30 = .ok (.isub, 1) := by decide +kernel
theorem dX10_one_31 : decode cX10_one 31 = .ok (.putfield 196, 3) := by decide +kernel
theorem dX10_one_34 : decode cX10_one 34 = .ok (.goto 126, 3) := by decide +kernel
theorem dX10_one_37 : decode cX10_one 37 = .ok (.aload_n 0, 1) := by decide +kernel
theorem dX10_one_38 : decode cX10_one 38 = .ok (.bipush 40, 2) := by decide +kernel
theorem dX10_one_40 : decode cX10_one 40 = .ok (.invokevirtual 220, 3) := by decide +kernel
theorem dX10_one_43 : decode cX10_one 43 = .ok (.ifCond .eq 52, 3) := by decide +kernel
theorem dX10_one_46 : decode cX10_one 46 = .ok (.aload_n 0, 1) := by decide +kernel
theorem dX10_one_47 : decode cX10_one 47 = .ok (.invokevirtual 223, 3) := by decide +kernel
theorem dX10_one_50 : decode cX10_one 50 = .ok (.ifCond .eq 110, 3) := by decide +kernel
theorem dX10_one_53 : decode cX10_one 53 = .ok (.aload_n 0, 1) := by decide +kernel
theorem dX10_one_54 : decode cX10_one 54 = .ok (.invokevirtual 231, 3) := by decide +kernel
theorem dX10_one_57 : decode cX10_one 57 = .ok (.istore_n 1, 1) := by decide +kernel
theorem dX10_one_58 : decode cX10_one 58 = .ok (.aload_n 0, 1) := by decide +kernel
theorem dX10_one_59 : decode cX10_one 59 = .ok (.bipush 41, 2) := by decide +kernel
theorem dX10_one_61 : decode cX10_one 61 = .ok (.invokevirtual 220, 3) := by decide +kernel
theorem dX10_one_64 : decode cX10_one 64 = .ok (.ifCond .ne 7, 3) := by decide +kernel
theorem dX10_one_67 : decode cX10_one 67 = .ok (.aload_n 0, 1) := by decide +kernel
theorem dX10_one_68 : decode cX10_one 68 = .ok (.invokevirtual 199, 3) := by decide +kernel
theorem dX10_one_71 : decode cX10_one 71 = .ok (.aload_n 0, 1) := by decide +kernel
theorem dX10_one_72 : decode cX10_one 72 = .ok (.dup, 1) := by decide +kernel
theorem dX10_one_73 : decode cX10_one 73 = .ok (.getfield 196, 3) := by decide +kernel
theorem dX10_one_76 : decode cX10_one 76 = .ok (.iconst 1, 1) := by decide +kernel
theorem dX10_one_77 : decode cX10_one 77 = .ok (.isub, 1) := by decide +kernel
theorem dX10_one_78 : decode cX10_one 78 = .ok (.putfield 196, 3) := by decide +kernel
theorem dX10_one_81 : decode cX10_one 81 = .ok (.aload_n 0, 1) := by decide +kernel
theorem dX10_one_82 : decode cX10_one 82 = .ok (.getfield 189, 3) := by decide +kernel
theorem dX10_one_85 : decode cX10_one 85 = .ok (.ifCond .ne 75, 3) := by decide +kernel
theorem dX10_one_88 : decode cX10_one 88 = .ok (.aload_n 0, 1) := by decide +kernel
theorem dX10_one_89 : decode cX10_one 89 = .ok (.invokevirtual 202, 3) := by decide +kernel
theorem dX10_one_92 : decode cX10_one 92 = .ok (.goto 68, 3) := by decide +kernel
theorem dX10_one_95 : decode cX10_one 95 = .ok (.aload_n 0, 1) := by decide +kernel
theorem dX10_one_96 : decode cX10_one 96 = .ok (.getfield 189, 3) := by decide +kernel
theorem dX10_one_99 : decode cX10_one 99 = .ok (.ifCond .ne 23, 3) := by decide +kernel
theorem dX10_one_102 : decode cX10_one 102 = .ok (.aload_n 0, 1) := by decide +kernel
theorem dX10_one_103 : decode cX10_one 103 = .ok (.getfield 183, 3) := by decide +kernel
theorem dX10_one_106 : decode cX10_one 106 = .ok (.iconst 2, 1) := by decide +kernel
theorem dX10_one_107 : decode cX10_one 107 = .ok (.if_icmp .ne 15, 3) := by decide +kernel
theorem dX10_one_110 : decode cX10_one 110 = .ok (.aload_n 0, 1) := by decide +kernel
theorem dX10_one_111 : decode cX10_one 111 = .ok (.getfield 186, 3) := by decide +kernel
theorem dX10_one_114 : decode cX10_one 114 = .ok (.istore_n 1, 1) := by decide +kernel
theorem dX10_one_115 : decode cX10_one 115 = .ok (.aload_n 0, 1) := by decide +kernel
theorem dX10_one_116 : decode cX10_one 116 = .ok (.invokevirtual 202, 3) := by decide +kernel
theorem dX10_one_119 : decode cX10_one 119 = .ok (.goto 41, 3) := by decide +kernel
theorem dX10_one_122 : decode cX10_one 122 = .ok (.aload_n 0, 1) := by decide +kernel
theorem dX10_one_123 : decode cX10_one 123 = .ok (.getfield 189, 3) := by decide +kernel
theorem dX10_one_126 : decode cX10_one 126 = .ok (.ifCond .ne 30, 3) := by decide +kernel
theorem dX10_one_129 : decode cX10_one 129 = .ok (.aload_n 0, 1) := by decide +kernel
theorem dX10_one_130 : decode cX10_one 130 = .ok (.getfield 183, 3) := by decide +kernel
theorem dX10_one_133 : decode cX10_one 133 = .ok (.iconst 1, 1) := by decide +kernel
theorem dX10_one_134 : decode cX10_one 134 = .ok (.if_icmp .ne 22, 3) := by decide +kernel
theorem dX10_one_137 : decode cX10_one 137 = .ok (.aload_n 0, 1) := by decide +kernel
theorem dX10_one_138 : decode cX10_one 138 = .ok (.invokevirtual 234, 3) := by decide +kernel
theorem dX10_one_141 : decode cX10_one 141 = .ok (.istore_n 1, 1) := by decide +kernel
theorem dX10_one_142 : decode cX10_one 142 = .ok (.aload_n 0, 1) := by decide +kernel
theorem dX10_one_143 : decode cX10_one 143 = .ok (.getfield 189, 3) := by decide +kernel
theorem dX10_one_146 : decode cX10_one 146 = .ok (.ifCond .ne 14, 3) := by decide +kernel
theorem dX10_one_149 : decode cX10_one 149 = .ok (.aload_n 0, 1) := by decide +kernel
theorem dX10_one_150 : decode cX10_one 150 = .ok (.invokevirtual 202, 3) := by decide +kernel
theorem dX10_one_153 : decode cX10_one 153 = .ok (.goto 7, 3) := by decide +kernel
theorem dX10_one_156 : decode cX10_one 156 = .ok (.aload_n 0, 1) := by decide +kernel
theorem dX10_one_157 : decode cX10_one 157 = .ok (.invokevirtual 199, 3) := by decide +kernel
theorem dX10_one_160 : decode cX10_one 160 = .ok (.iload_n 1, 1) := by decide +kernel
theorem dX10_one_161 : decode cX10_one 161 = .ok (.ireturn, 1) := by decide +kernel
theorem dX10_term_0 : decode cX10_term 0 = .ok (.aload_n 0, 1) := by decide +kernel
theorem dX10_term_1 : decode cX10_term 1 = .ok (.invokevirtual 227, 3) := by decide +kernel
theorem dX10_term_4 : decode cX10_term 4 = .ok (.istore_n 1, 1) := by decide +kernel
theorem dX10_term_5 : decode cX10_term 5 = .ok (.aload_n 0, 1) := by decide +kernel
theorem dX10_term_6 : decode cX10_term 6 = .ok (.bipush 42, 2) := by decide +kernel
theorem dX10_term_8 : decode cX10_term 8 = .ok (.invokevirtual 220, 3) := by decide +kernel
theorem dX10_term_11 : decode cX10_term 11 = .ok (.ifCond .eq 17, 3) := by decide +kernel
theorem dX10_term_14 : decode cX10_term 14 = .ok (.aload_n 0, 1) := by decide +kernel
theorem dX10_term_15 : decode cX10_term 15 = .ok (.invokevirtual 202, 3) := by decide +kernel
theorem dX10_term_18 : decode cX10_term 18 = .ok (.iload_n 1, 1) := by decide +kernel
theorem dX10_term_19 : decode cX10_term 19 = .ok (.aload_n 0, 1) := by decide +kernel
theorem dX10_term_20 : decode cX10_term 20 = .ok (.invokevirtual 227, 3) := by decide +kernel
theorem dX10_term_23 : decode cX10_term 23 = .ok (.imul, 1) := by decide +kernel
theorem dX10_term_24 : decode cX10_term 24 = .ok (.istore_n 1, 1) := by decide +kernel
theorem dX10_term_25 : decode cX10_term 25 = .ok (.goto (-20), 3) := by decide +kernel
theorem dX10_term_28 : decode cX10_term 28 = .ok (.iload_n 1, 1) := by decide +kernel
theorem dX10_term_29 : decode cX10_term 29 = .ok (.ireturn, 1) := by decide +kernel
theorem dX10_added_0 : decode cX10_added 0 = .ok (.aload_n 0, 1) := by decide +kernel
theorem dX10_added_1 : decode cX10_added 1 = .ok (.invokevirtual 237, 3) := by decide +kernel
theorem dX10_added_4 : decode cX10_added 4 = .ok (.istore_n 1, 1) := by decide +kernel
theorem dX10_added_5 : decode cX10_added 5 = .ok (.aload_n 0, 1) := by decide +kernel
theorem dX10_added_6 : decode cX10_added 6 = .ok (.bipush 43, 2) := by decide +kernel
theorem dX10_added_8 : decode cX10_added 8 = .ok (.invokevirtual 220, 3) := by decide +kernel
theorem dX10_added_11 : decode cX10_added 11 = .ok (.ifCond .ne 12, 3) := by decide +kernel
theorem dX10_added_14 : decode cX10_added 14 = .ok (.aload_n 0, 1) := by decide +kernel
theorem dX10_added_15 : decode cX10_added 15 = .ok (.bipush 45, 2) := by decide +kernel
theorem dX10_added_17 : decode cX10_added 17 = .ok (.invokevirtual 220, 3) := by decide +kernel
theorem dX10_added_20 : decode cX10_added 20 = .ok (.ifCond .eq 44, 3) := by decide +kernel
theorem dX10_added_23 : decode cX10_added 23 = .ok (.aload_n 0, 1) := by decide +kernel
theorem dX10_added_24 : decode cX10_added 24 = .ok (.getfield 186, 3) := by decide +kernel
theorem dX10_added_27 : decode cX10_added 27 = .ok (.bipush 43, 2) := by decide +kernel
theorem dX10_added_29 : decode cX10_added 29 = .ok (.if_icmp .ne 7, 3) := by decide +kernel
theorem dX10_added_32 : decode cX10_added 32 = .ok (.iconst 1, 1) := by decide +kernel
theorem dX10_added_33 : decode cX10_added 33 = .ok (.goto 4, 3) := by decide +kernel
theorem dX10_added_36 : decode cX10_added 36 = .ok (.iconst 0, 1) := by decide +kernel
theorem dX10_added_37 : decode cX10_added 37 = .ok (.istore_n 2, 1) := by decide +kernel
theorem dX10_added_38 : decode cX10_added 38 = .ok (.aload_n 0, 1) := by decide +kernel
theorem dX10_added_39 : decode cX10_added 39 = .ok (.invokevirtual 202, 3) := by decide +kernel
theorem dX10_added_42 : decode cX10_added 42 = .ok (.aload_n 0, 1) := by decide +kernel
theorem dX10_added_43 : decode cX10_added 43 = .ok (.invokevirtual 237, 3) := by decide +kernel
theorem dX10_added_46 : decode cX10_added 46 = .ok (.istore_n 3, 1) := by decide +kernel
theorem dX10_added_47 : decode cX10_added 47 = .ok (.iload_n 2, 1) := by decide +kernel
theorem dX10_added_48 : decode cX10_added 48 = .ok (.ifCond .eq 9, 3) := by decide +kernel
theorem dX10_added_51 : decode cX10_added 51 = .ok (.iload_n 1, 1) := by decide +kernel
theorem dX10_added_52 : decode cX10_added 52 = .ok (.iload_n 3, 1) := by decide +kernel
theorem dX10_added_53 : decode cX10_added 53 = .ok (.iadd, 1) := by decide +kernel
theorem dX10_added_54 : decode cX10_added 54 = .ok (.goto 6, 3) := by decide +kernel
theorem dX10_added_57 : decode cX10_added 57 = .ok (.iload_n 1, 1) := by decide +kernel
theorem dX10_added_58 : decode cX10_added 58 = .ok (.iload_n 3, 1) := by decide +kernel
theorem dX10_added_59 : decode cX10_added 59 = .ok (.isub, 1) := by decide +kernel
theorem dX10_added_60 : decode cX10_added 60 = .ok (.istore_n 1, 1) := by decide +kernel
theorem dX10_added_61 : decode cX10_added 61 = .ok (.goto (-56), 3) := by decide +kernel
theorem dX10_added_64 : decode cX10_added 64 = .ok (.iload_n 1, 1) := by decide +kernel
theorem dX10_added_65 : decode cX10_added 65 = .ok (.ireturn, 1) := by decide +kernel
theorem dX10_not_0 : decode cX10_not 0 = .ok (.aload_n 0, 1) := by decide +kernel
theorem dX10_not_1 : decode cX10_not 1 = .ok (.sipush 10631, 3) := by decide +kernel
theorem dX10_not_4 : decode cX10_not 4 = .ok (.invokevirtual 240, 3) := by decide +kernel
theorem dX10_not_7 : decode cX10_not 7 = .ok (.ifCond .eq 37, 3) := by decide +kernel
theorem dX10_not_10 : decode cX10_not 10 = .ok (.aload_n 0, 1) := by decide +kernel
theorem dX10_not_11 : decode cX10_not 11 = .ok (.invokevirtual 223, 3) := by decide +kernel
theorem dX10_not_14 : decode cX10_not 14 = .ok (.ifCond .ne 5, 3) := by decide +kernel
theorem dX10_not_17 : decode cX10_not 17 = .ok (.iconst 0, 1) := by decide +kernel
theorem dX10_not_18 : decode cX10_not 18 = .ok (.ireturn, 1) := by decide +kernel
theorem dX10_not_19 : decode cX10_not 19 = .ok (.aload_n 0, 1) := by decide +kernel
theorem dX10_not_20 : decode cX10_not 20 = .ok (.invokevirtual 243, 3) := by decide +kernel
theorem dX10_not_23 : decode cX10_not 23 = .ok (.istore_n 1, 1) := by decide +kernel
theorem dX10_not_24 : decode cX10_not 24 = .ok (.aload_n 0, 1) := by decide +kernel
theorem dX10_not_25 : decode cX10_not 25 = .ok (.dup, 1) := by decide +kernel
theorem dX10_not_26 : decode cX10_not 26 = .ok (.getfield 196, 3) := by decide +kernel
theorem dX10_not_29 : decode cX10_not 29 = .ok (.iconst 1, 1) := by decide +kernel
theorem dX10_not_30 : decode cX10_not 30 = .ok (.isub, 1) := by decide +kernel
theorem dX10_not_31 : decode cX10_not 31 = .ok (.putfield 196, 3) := by decide +kernel
theorem dX10_not_34 : decode cX10_not 34 = .ok (.iload_n 1, 1) := by decide +kernel
theorem dX10_not_35 : decode cX10_not 35 = .ok (.ifCond .ne 7, 3) := by decide +kernel
theorem dX10_not_38 : decode cX10_not 38 = .ok (.iconst 1, 1) := by decide +kernel
theorem dX10_not_39 : decode cX10_not 39 = .ok (.goto 4, 3) := by decide +kernel
theorem dX10_not_42 : decode cX10_not 42 = .ok (.iconst 0, 1) := by decide +kernel
theorem dX10_not_43 : decode cX10_not 43 = .ok (.ireturn, 1) := by decide +kernel
theorem dX10_not_44 : decode cX10_not 44 = .ok (.aload_n 0, 1) := by decide +kernel
theorem dX10_not_45 : decode cX10_not 45 = .ok (.invokevirtual 246, 3) := by decide +kernel
theorem dX10_not_48 : decode cX10_not 48 = .ok (.istore_n 1, 1) := by decide +kernel
theorem dX10_not_49 : decode cX10_not 49 = .ok (.aload_n 0, 1) := by decide +kernel
theorem dX10_not_50 : decode cX10_not 50 = .ok (.bipush 60, 2) := by decide +kernel
theorem dX10_not_52 : decode cX10_not 52 = .ok (.invokevirtual 220, 3) := by decide +kernel
theorem dX10_not_55 : decode cX10_not 55 = .ok (.ifCond .ne 14, 3) := by decide +kernel
theorem dX10_not_58 : decode cX10_not 58 = .ok (.aload_n 0, 1) := by decide +kernel
theorem dX10_not_59 : decode cX10_not 59 = .ok (.bipush 61, 2) := by decide +kernel
theorem dX10_not_61 : decode cX10_not 61 = .ok (.invokevirtual 220, 3) := by decide +kernel
theorem dX10_not_64 : decode cX10_not 64 = .ok (.ifCond .ne 5, 3) := by decide +kernel
theorem dX10_not_67 : decode cX10_not 67 = .ok (.iload_n 1, 1) := by decide +kernel
theorem dX10_not_68 : decode cX10_not 68 = .ok (.ireturn, 1) := by decide +kernel
theorem dX10_not_69 : decode cX10_not 69 = .ok (.aload_n 0, 1) := by decide +kernel
theorem dX10_not_70 : decode cX10_not 70 = .ok (.getfield 186, 3) := by decide +kernel
theorem dX10_not_73 : decode cX10_not 73 = .ok (.bipush 60, 2) := by decide +kernel
theorem dX10_not_75 : decode cX10_not 75 = .ok (.if_icmp .ne 7, 3) := by decide +kernel
theorem dX10_not_78 : decode cX10_not 78 = .ok (.iconst 1, 1) := by decide +kernel
theorem dX10_not_79 : decode cX10_not 79 = .ok (.goto 4, 3) := by decide +kernel
theorem dX10_not_82 : decode cX10_not 82 = .ok (.iconst 0, 1) := by decide +kernel
theorem dX10_not_83 : decode cX10_not 83 = .ok (.istore_n 2, 1) := by decide +kernel
theorem dX10_not_84 : decode cX10_not 84 = .ok (.aload_n 0, 1) := by decide +kernel
theorem dX10_not_85 : decode cX10_not 85 = .ok (.invokevirtual 202, 3) := by decide +kernel
theorem dX10_not_88 : decode cX10_not 88 = .ok (.aload_n 0, 1) := by decide +kernel
theorem dX10_not_89 : decode cX10_not 89 = .ok (.invokevirtual 246, 3) := by decide +kernel
theorem dX10_not_92 : decode cX10_not 92 = .ok (.istore_n 3, 1) := by decide +kernel
theorem dX10_not_93 : decode cX10_not 93 = .ok (.iload_n 2, 1) := by decide +kernel
theorem dX10_not_94 : decode cX10_not 94 = .ok (.ifCond .eq 11, 3) := by decide +kernel
theorem dX10_not_97 : decode cX10_not 97 = .ok (.iload_n 1, 1) := by decide +kernel
theorem dX10_not_98 : decode cX10_not 98 = .ok (.iload_n 3, 1) := by decide +kernel
theorem dX10_not_99 : decode cX10_not 99 = .ok (.if_icmp .ge 15, 3) := by decide +kernel
theorem dX10_not_102 : decode cX10_not 102 = .ok (.goto 8, 3) := by decide +kernel
theorem dX10_not_105 : decode cX10_not 105 = .ok (.iload_n 1, 1) := by decide +kernel
theorem dX10_not_106 : decode cX10_not 106 = .ok (.iload_n 3, 1) := by decide +kernel
theorem dX10_not_107 : decode cX10_not 107 = .ok (.if_icmp .ne 7, 3) := by decide +kernel
theorem dX10_not_110 : decode cX10_not 110 = .ok (.iconst 1, 1) := by decide +kernel
theorem dX10_not_111 : decode cX10_not 111 = .ok (.goto 4, 3) := by decide +kernel
theorem dX10_not_114 : decode cX10_not 114 = .ok (.iconst 0, 1) := by decide +kernel
theorem dX10_not_115 : decode cX10_not 115 = .ok (.ireturn, 1) := by decide +kernel
theorem dX10_both_0 : decode cX10_both 0 = .ok (.aload_n 0, 1) := by decide +kernel
theorem dX10_both_1 : decode cX10_both 1 = .ok (.invokevirtual 243, 3) := by decide +kernel
theorem dX10_both_4 : decode cX10_both 4 = .ok (.istore_n 1, 1) := by decide +kernel
theorem dX10_both_5 : decode cX10_both 5 = .ok (.aload_n 0, 1) := by decide +kernel
theorem dX10_both_6 : decode cX10_both 6 = .ok (.sipush 1111, 3) := by decide +kernel
theorem dX10_both_9 : decode cX10_both 9 = .ok (.invokevirtual 240, 3) := by decide +kernel
theorem dX10_both_12 : decode cX10_both 12 = .ok (.ifCond .eq 29, 3) := by decide +kernel
theorem dX10_both_15 : decode cX10_both 15 = .ok (.aload_n 0, 1) := by decide +kernel
theorem dX10_both_16 : decode cX10_both 16 = .ok (.invokevirtual 202, 3) := by decide +kernel
theorem dX10_both_19 : decode cX10_both 19 = .ok (.aload_n 0, 1) := by decide +kernel
theorem dX10_both_20 : decode cX10_both 20 = .ok (.invokevirtual 243, 3) := by decide +kernel
theorem dX10_both_23 : decode cX10_both 23 = .ok (.istore_n 2, 1) := by decide +kernel
theorem dX10_both_24 : decode cX10_both 24 = .ok (.iload_n 1, 1) := by decide +kernel
theorem dX10_both_25 : decode cX10_both 25 = .ok (.ifCond .eq 11, 3) := by decide +kernel
theorem dX10_both_28 : decode cX10_both 28 = .ok (.iload_n 2, 1) := by decide +kernel
theorem dX10_both_29 : decode cX10_both 29 = .ok (.ifCond .eq 7, 3) := by decide +kernel
theorem dX10_both_32 : decode cX10_both 32 = .ok (.iconst 1, 1) := by decide +kernel
theorem dX10_both_33 : decode cX10_both 33 = .ok (.goto 4, 3) := by decide +kernel
theorem dX10_both_36 : decode cX10_both 36 = .ok (.iconst 0, 1) := by decide +kernel
theorem dX10_both_37 : decode cX10_both 37 = .ok (.istore_n 1, 1) := by decide +kernel
theorem dX10_both_38 : decode cX10_both 38 = .ok (.goto (-33), 3) := by decide +kernel
theorem dX10_both_41 : decode cX10_both 41 = .ok (.iload_n 1, 1) := by decide +kernel
theorem dX10_both_42 : decode cX10_both 42 = .ok (.ireturn, 1) := by decide +kernel
theorem dX10_either_0 : decode cX10_either 0 = .ok (.aload_n 0, 1) := by decide +kernel
theorem dX10_either_1 : decode cX10_either 1 = .ok (.invokevirtual 249, 3) := by decide +kernel
theorem dX10_either_4 : decode cX10_either 4 = .ok (.istore_n 1, 1) := by decide +kernel
theorem dX10_either_5 : decode cX10_either 5 = .ok (.aload_n 0, 1) := by decide +kernel
theorem dX10_either_6 : decode cX10_either 6 = .ok (.sipush 423, 3) := by decide +kernel
theorem dX10_either_9 : decode cX10_either 9 = .ok (.invokevirtual 240, 3) := by decide +kernel
theorem dX10_either_12 : decode cX10_either 12 = .ok (.ifCond .eq 29, 3) := by decide +kernel
theorem dX10_either_15 : decode cX10_either 15 = .ok (.aload_n 0, 1) := by decide +kernel
theorem dX10_either_16 : decode cX10_either 16 = .ok (.invokevirtual 202, 3) := by decide +kernel
theorem dX10_either_19 : decode cX10_either 19 = .ok (.aload_n 0, 1) := by decide +kernel
theorem dX10_either_20 : decode cX10_either 20 = .ok (.invokevirtual 249, 3) := by decide +kernel
theorem dX10_either_23 : decode cX10_either 23 = .ok (.istore_n 2, 1) := by decide +kernel
theorem dX10_either_24 : decode cX10_either 24 = .ok (.iload_n 1, 1) := by decide +kernel
theorem dX10_either_25 : decode cX10_either 25 = .ok (.ifCond .ne 7, 3) := by decide +kernel
theorem dX10_either_28 : decode cX10_either 28 = .ok (.iload_n 2, 1) := by decide +kernel
theorem dX10_either_29 : decode cX10_either 29 = .ok (.ifCond .eq 7, 3) := by decide +kernel
theorem dX10_either_32 : decode cX10_either 32 = .ok (.iconst 1, 1) := by decide +kernel
theorem dX10_either_33 : decode cX10_either 33 = .ok (.goto 4, 3) := by decide +kernel
theorem dX10_either_36 : decode cX10_either 36 = .ok (.iconst 0, 1) := by decide +kernel
theorem dX10_either_37 : decode cX10_either 37 = .ok (.istore_n 1, 1) := by decide +kernel
theorem dX10_either_38 : decode cX10_either 38 = .ok (.goto (-33), 3) := by decide +kernel
theorem dX10_either_41 : decode cX10_either 41 = .ok (.iload_n 1, 1) := by decide +kernel
theorem dX10_either_42 : decode cX10_either 42 = .ok (.ireturn, 1) := by decide +kernel
theorem dX10_part_0 : decode cX10_part 0 = .ok (.aload_n 0, 1) := by decide +kernel
theorem dX10_part_1 : decode cX10_part 1 = .ok (.iload_n 1, 1) := by decide +kernel
theorem dX10_part_2 : decode cX10_part 2 = .ok (.invokevirtual 240, 3) := by decide +kernel
theorem dX10_part_5 : decode cX10_part 5 = .ok (.ifCond .ne 7, 3) := by decide +kernel
theorem dX10_part_8 : decode cX10_part 8 = .ok (.aload_n 0, 1) := by decide +kernel
theorem dX10_part_9 : decode cX10_part 9 = .ok (.invokevirtual 199, 3) := by decide +kernel
theorem dX10_part_12 : decode cX10_part 12 = .ok (.aload_n 0, 1) := by decide +kernel
theorem dX10_part_13 : decode cX10_part 13 = .ok (.getfield 189, 3) := by decide +kernel
theorem dX10_part_16 : decode cX10_part 16 = .ok (.ifCond .ne 7, 3) := by decide +kernel
theorem dX10_part_19 : decode cX10_part 19 = .ok (.aload_n 0, 1) := by decide +kernel
theorem dX10_part_20 : decode cX10_part 20 = .ok (.invokevirtual 202, 3) := by decide +kernel
theorem dX10_part_23 : decode cX10_part 23 = .ok (.aload_n 0, 1) := by decide +kernel
theorem dX10_part_24 : decode cX10_part 24 = .ok (.getfield 189, 3) := by decide +kernel
theorem dX10_part_27 : decode cX10_part 27 = .ok (.ifCond .eq 7, 3) := by decide +kernel
theorem dX10_part_30 : decode cX10_part 30 = .ok (.iconst 0, 1) := by decide +kernel
theorem dX10_part_31 : decode cX10_part 31 = .ok (.goto 7, 3) := by decide +kernel
theorem dX10_part_34 : decode cX10_part 34 = .ok (.aload_n 0, 1) := by decide +kernel
theorem dX10_part_35 : decode cX10_part 35 = .ok (.invokevirtual 231, 3) := by decide +kernel
theorem dX10_part_38 : decode cX10_part 38 = .ok (.istore_n 2, 1) := by decide +kernel
theorem dX10_part_39 : decode cX10_part 39 = .ok (.aload_n 0, 1) := by decide +kernel
theorem dX10_part_40 : decode cX10_part 40 = .ok (.bipush 59, 2) := by decide +kernel
theorem dX10_part_42 : decode cX10_part 42 = .ok (.invokevirtual 220, 3) := by decide +kernel
theorem dX10_part_45 : decode cX10_part 45 = .ok (.ifCond .ne 7, 3) := by decide +kernel
theorem dX10_part_48 : decode cX10_part 48 = .ok (.aload_n 0, 1) := by decide +kernel
theorem dX10_part_49 : decode cX10_part 49 = .ok (.invokevirtual 199, 3) := by decide +kernel
theorem dX10_part_52 : decode cX10_part 52 = .ok (.aload_n 0, 1) := by decide +kernel
theorem dX10_part_53 : decode cX10_part 53 = .ok (.getfield 189, 3) := by decide +kernel
theorem dX10_part_56 : decode cX10_part 56 = .ok (.ifCond .ne 7, 3) := by decide +kernel
theorem dX10_part_59 : decode cX10_part 59 = .ok (.aload_n 0, 1) := by decide +kernel
theorem dX10_part_60 : decode cX10_part 60 = .ok (.invokevirtual 202, 3) := by decide +kernel
theorem dX10_part_63 : decode cX10_part 63 = .ok (.iload_n 2, 1) := by decide +kernel
theorem dX10_part_64 : decode cX10_part 64 = .ok (.ireturn, 1) := by decide +kernel
theorem dX10_read_0 : decode cX10_read 0 = .ok (.aload_n 0, 1) := by decide +kernel
theorem dX10_read_1 : decode cX10_read 1 = .ok (.sipush 160, 3) := by decide +kernel
theorem dX10_read_4 : decode cX10_read 4 = .ok (.iload_n 1, 1) := by decide +kernel
theorem dX10_read_5 : decode cX10_read 5 = .ok (.imul, 1) := by decide +kernel
theorem dX10_read_6 : decode cX10_read 6 = .ok (.putfield 171, 3) := by decide +kernel
theorem dX10_read_9 : decode cX10_read 9 = .ok (.aload_n 0, 1) := by decide +kernel
theorem dX10_read_10 : decode cX10_read 10 = .ok (.aload_n 0, 1) := by decide +kernel
theorem dX10_read_11 : decode cX10_read 11 = .ok (.getfield 33, 3) := by decide +kernel
theorem dX10_read_14 : decode cX10_read 14 = .ok (.iload_n 1, 1) := by decide +kernel
theorem dX10_read_15 : decode cX10_read 15 = .ok (.iaload, 1) := by decide +kernel
theorem dX10_read_16 : decode cX10_read 16 = .ok (.putfield 168, 3) := by decide +kernel
theorem dX10_read_19 : decode cX10_read 19 = .ok (.aload_n 0, 1) := by decide +kernel
theorem dX10_read_20 : decode cX10_read 20 = .ok (.iconst 0, 1) := by decide +kernel
theorem dX10_read_21 : decode cX10_read 21 = .ok (.putfield 174, 3) := by decide +kernel
theorem dX10_read_24 : decode cX10_read 24 = .ok (.aload_n 0, 1) := by decide +kernel
theorem dX10_read_25 : decode cX10_read 25 = .ok (.iconst 0, 1) := by decide +kernel
theorem dX10_read_26 : decode cX10_read 26 = .ok (.putfield 196, 3) := by decide +kernel
theorem dX10_read_29 : decode cX10_read 29 = .ok (.aload_n 0, 1) := by decide +kernel
theorem dX10_read_30 : decode cX10_read 30 = .ok (.iconst 0, 1) := by decide +kernel
theorem dX10_read_31 : decode cX10_read 31 = .ok (.putfield 189, 3) := by decide +kernel
theorem dX10_read_34 : decode cX10_read 34 = .ok (.aload_n 0, 1) := by decide +kernel
theorem dX10_read_35 : decode cX10_read 35 = .ok (.invokevirtual 202, 3) := by decide +kernel
theorem dX10_read_38 : decode cX10_read 38 = .ok (.aload_n 0, 1) := by decide +kernel
theorem dX10_read_39 : decode cX10_read 39 = .ok (.ldc 252, 2) := by decide +kernel
theorem dX10_read_41 : decode cX10_read 41 = .ok (.invokevirtual 253, 3) := by decide +kernel
theorem dX10_read_44 : decode cX10_read 44 = .ok (.istore_n 3, 1) := by decide +kernel
theorem dX10_read_45 : decode cX10_read 45 = .ok (.aload_n 0, 1) := by decide +kernel
theorem dX10_read_46 : decode cX10_read 46 = .ok (.getfield 189, 3) := by decide +kernel
theorem dX10_read_49 : decode cX10_read 49 = .ok (.ifCond .eq 7, 3) := by decide +kernel
theorem dX10_read_52 : decode cX10_read 52 = .ok (.iconst 0, 1) := by decide +kernel
theorem dX10_read_53 : decode cX10_read 53 = .ok (.goto 10, 3) := by decide +kernel
theorem dX10_read_56 : decode cX10_read 56 = .ok (.aload_n 0, 1) := by decide +kernel
theorem dX10_read_57 : decode cX10_read 57 = .ok (.ldc_w 256, 3) := by decide +kernel
theorem dX10_read_60 : decode cX10_read 60 = .ok (.invokevirtual 253, 3) := by decide +kernel
theorem dX10_read_63 : decode cX10_read 63 = .ok (.istore 4, 2) := by decide +kernel
theorem dX10_read_65 : decode cX10_read 65 = .ok (.aload_n 0, 1) := by decide +kernel
theorem dX10_read_66 : decode cX10_read 66 = .ok (.getfield 189, 3) := by decide +kernel
theorem dX10_read_69 : decode cX10_read 69 = .ok (.ifCond .eq 7, 3) := by decide +kernel
theorem dX10_read_72 : decode cX10_read 72 = .ok (.iconst 0, 1) := by decide +kernel
theorem dX10_read_73 : decode cX10_read 73 = .ok (.goto 10, 3) := by decide +kernel
theorem dX10_read_76 : decode cX10_read 76 = .ok (.aload_n 0, 1) := by decide +kernel
theorem dX10_read_77 : decode cX10_read 77 = .ok (.ldc_w 257, 3) := by decide +kernel
theorem dX10_read_80 : decode cX10_read 80 = .ok (.invokevirtual 253, 3) := by decide +kernel
theorem dX10_read_83 : decode cX10_read 83 = .ok (.istore 5, 2) := by decide +kernel
theorem dX10_read_85 : decode cX10_read 85 = .ok (.aload_n 0, 1) := by decide +kernel
theorem dX10_read_86 : decode cX10_read 86 = .ok (.getfield 189, 3) := by decide +kernel
theorem dX10_read_89 : decode cX10_read 89 = .ok (.ifCond .ne 14, 3) := by decide +kernel
theorem dX10_read_92 : decode cX10_read 92 = .ok (.aload_n 0, 1) := by decide +kernel
theorem dX10_read_93 : decode cX10_read 93 = .ok (.getfield 183, 3) := by decide +kernel
theorem dX10_read_96 : decode cX10_read 96 = .ok (.ifCond .eq 7, 3) := by decide +kernel
theorem dX10_read_99 : decode cX10_read 99 = .ok (.aload_n 0, 1) := by decide +kernel
theorem dX10_read_100 : decode cX10_read 100 = .ok (.invokevirtual 199, 3) := by decide +kernel
theorem dX10_read_103 : decode cX10_read 103 = .ok (.iload_n 2, 1) := by decide +kernel
theorem dX10_read_104 : decode cX10_read 104 = .ok (.ifCond .ne 7, 3) := by decide +kernel
theorem dX10_read_107 : decode cX10_read 107 = .ok (.iload_n 3, 1) := by decide +kernel
theorem dX10_read_108 : decode cX10_read 108 = .ok (.goto 15, 3) := by decide +kernel
theorem dX10_read_111 : decode cX10_read 111 = .ok (.iload_n 2, 1) := by decide +kernel
theorem dX10_read_112 : decode cX10_read 112 = .ok (.iconst 1, 1) := by decide +kernel
theorem dX10_read_113 : decode cX10_read 113 = .ok (.if_icmp .ne 8, 3) := by decide +kernel
theorem dX10_read_116 : decode cX10_read 116 = .ok (.iload 4, 2) := by decide +kernel
theorem dX10_read_118 : decode cX10_read 118 = .ok (.goto 5, 3) := by decide +kernel
theorem dX10_read_121 : decode cX10_read 121 = .ok (.iload 5, 2) := by decide +kernel
theorem dX10_read_123 : decode cX10_read 123 = .ok (.ireturn, 1) := by decide +kernel
theorem dX10_saysOf_0 : decode cX10_saysOf 0 = .ok (.aload_n 0, 1) := by decide +kernel
theorem dX10_saysOf_1 : decode cX10_saysOf 1 = .ok (.aload_n 0, 1) := by decide +kernel
theorem dX10_saysOf_2 : decode cX10_saysOf 2 = .ok (.iload_n 2, 1) := by decide +kernel
theorem dX10_saysOf_3 : decode cX10_saysOf 3 = .ok (.invokevirtual 94, 3) := by decide +kernel
theorem dX10_saysOf_6 : decode cX10_saysOf 6 = .ok (.putfield 205, 3) := by decide +kernel
theorem dX10_saysOf_9 : decode cX10_saysOf 9 = .ok (.aload_n 0, 1) := by decide +kernel
theorem dX10_saysOf_10 : decode cX10_saysOf 10 = .ok (.aload_n 0, 1) := by decide +kernel
theorem dX10_saysOf_11 : decode cX10_saysOf 11 = .ok (.iload_n 3, 1) := by decide +kernel
theorem dX10_saysOf_12 : decode cX10_saysOf 12 = .ok (.invokevirtual 94, 3) := by decide +kernel
theorem dX10_saysOf_15 : decode cX10_saysOf 15 = .ok (.putfield 208, 3) := by decide +kernel
theorem dX10_saysOf_18 : decode cX10_saysOf 18 = .ok (.aload_n 0, 1) := by decide +kernel
theorem dX10_saysOf_19 : decode cX10_saysOf 19 = .ok (.aload_n 0, 1) := by decide +kernel
theorem dX10_saysOf_20 : decode cX10_saysOf 20 = .ok (.getfield 20, 3) := by decide +kernel
theorem dX10_saysOf_23 : decode cX10_saysOf 23 = .ok (.iload_n 1, 1) := by decide +kernel
theorem dX10_saysOf_24 : decode cX10_saysOf 24 = .ok (.iaload, 1) := by decide +kernel
theorem dX10_saysOf_25 : decode cX10_saysOf 25 = .ok (.putfield 211, 3) := by decide +kernel
theorem dX10_saysOf_28 : decode cX10_saysOf 28 = .ok (.aload_n 0, 1) := by decide +kernel
theorem dX10_saysOf_29 : decode cX10_saysOf 29 = .ok (.aload_n 0, 1) := by decide +kernel
theorem dX10_saysOf_30 : decode cX10_saysOf 30 = .ok (.getfield 17, 3) := by decide +kernel
theorem dX10_saysOf_33 : decode cX10_saysOf 33 = .ok (.iload_n 1, 1) := by decide +kernel
theorem dX10_saysOf_34 : decode cX10_saysOf 34 = .ok (.iaload, 1) := by decide +kernel
theorem dX10_saysOf_35 : decode cX10_saysOf 35 = .ok (.putfield 214, 3) := by decide +kernel
theorem dX10_saysOf_38 : decode cX10_saysOf 38 = .ok (.aload_n 0, 1) := by decide +kernel
theorem dX10_saysOf_39 : decode cX10_saysOf 39 = .ok (.aload_n 0, 1) := by decide +kernel
theorem dX10_saysOf_40 : decode cX10_saysOf 40 = .ok (.iload_n 2, 1) := by decide +kernel
theorem dX10_saysOf_41 : decode cX10_saysOf 41 = .ok (.iload_n 3, 1) := by decide +kernel
theorem dX10_saysOf_42 : decode cX10_saysOf 42 = .ok (.invokevirtual 124, 3) := by decide +kernel
theorem dX10_saysOf_45 : decode cX10_saysOf 45 = .ok (.ifCond .eq 7, 3) := by decide +kernel
theorem dX10_saysOf_48 : decode cX10_saysOf 48 = .ok (.iconst 1, 1) := by decide +kernel
theorem dX10_saysOf_49 : decode cX10_saysOf 49 = .ok (.goto 4, 3) := by decide +kernel
theorem dX10_saysOf_52 : decode cX10_saysOf 52 = .ok (.iconst 0, 1) := by decide +kernel
theorem dX10_saysOf_53 : decode cX10_saysOf 53 = .ok (.putfield 217, 3) := by decide +kernel
theorem dX10_saysOf_56 : decode cX10_saysOf 56 = .ok (.aload_n 0, 1) := by decide +kernel
theorem dX10_saysOf_57 : decode cX10_saysOf 57 = .ok (.aload_n 0, 1) := by decide +kernel
theorem dX10_saysOf_58 : decode cX10_saysOf 58 = .ok (.getfield 258, 3) := by decide +kernel
theorem dX10_saysOf_61 : decode cX10_saysOf 61 = .ok (.aload_n 0, 1) := by decide +kernel
theorem dX10_saysOf_62 : decode cX10_saysOf 62 = .ok (.getfield 17, 3) := by decide +kernel
theorem dX10_saysOf_65 : decode cX10_saysOf 65 = .ok (.iload_n 1, 1) := by decide +kernel
theorem dX10_saysOf_66 : decode cX10_saysOf 66 = .ok (.iaload, 1) := by decide +kernel
theorem dX10_saysOf_67 : decode cX10_saysOf 67 = .ok (.ifCond .ne 7, 3) := by decide +kernel
theorem dX10_saysOf_70 : decode cX10_saysOf 70 = .ok (.iconst 0, 1) := by decide +kernel
theorem dX10_saysOf_71 : decode cX10_saysOf 71 = .ok (.goto 28, 3) := by decide +kernel
theorem dX10_saysOf_74 : decode cX10_saysOf 74 = .ok (.aload_n 0, 1) := by decide +kernel
theorem dX10_saysOf_75 : decode cX10_saysOf 75 = .ok (.getfield 17, 3) := by decide +kernel
theorem dX10_saysOf_78 : decode cX10_saysOf 78 = .ok (.iload_n 1, 1) := by decide +kernel
theorem dX10_saysOf_79 : decode cX10_saysOf 79 = .ok (.iaload, 1) := by decide +kernel
theorem dX10_saysOf_80 : decode cX10_saysOf 80 = .ok (.iconst 3, 1) := by decide +kernel
theorem dX10_saysOf_81 : decode cX10_saysOf 81 = .ok (.if_icmp .eq 13, 3) := by decide +kernel
theorem dX10_saysOf_84 : decode cX10_saysOf 84 = .ok (.aload_n 0, 1) := by decide +kernel
theorem dX10_saysOf_85 : decode cX10_saysOf 85 = .ok (.getfield 17, 3) := by decide +kernel
theorem dX10_saysOf_88 : decode cX10_saysOf 88 = .ok (.iload_n 1, 1) := by decide +kernel
theorem dX10_saysOf_89 : decode cX10_saysOf 89 = .ok (.iaload, 1) := by decide +kernel
theorem dX10_saysOf_90 : decode cX10_saysOf 90 = .ok (.iconst 5, 1) := by decide +kernel
theorem dX10_saysOf_91 : decode cX10_saysOf 91 = .ok (.if_icmp .ne 7, 3) := by decide +kernel
theorem dX10_saysOf_94 : decode cX10_saysOf 94 = .ok (.iconst 2, 1) := by decide +kernel
theorem dX10_saysOf_95 : decode cX10_saysOf 95 = .ok (.goto 4, 3) := by decide +kernel
theorem dX10_saysOf_98 : decode cX10_saysOf 98 = .ok (.iconst 1, 1) := by decide +kernel
theorem dX10_saysOf_99 : decode cX10_saysOf 99 = .ok (.invokevirtual 261, 3) := by decide +kernel
theorem dX10_saysOf_102 : decode cX10_saysOf 102 = .ok (.ireturn, 1) := by decide +kernel
theorem dX10_text_0 : decode cX10_text 0 = .ok (.aload_n 0, 1) := by decide +kernel
theorem dX10_text_1 : decode cX10_text 1 = .ok (.getfield 79, 3) := by decide +kernel
theorem dX10_text_4 : decode cX10_text 4 = .ok (.bipush 6, 2) := by decide +kernel
theorem dX10_text_6 : decode cX10_text 6 = .ok (.if_icmp .ne 6, 3) := by decide +kernel
theorem dX10_text_9 : decode cX10_text 9 = .ok (.bipush (-4), 2) := by decide +kernel
theorem dX10_text_11 : decode cX10_text 11 = .ok (.ireturn, 1) := by decide +kernel
theorem dX10_text_12 : decode cX10_text 12 = .ok (.iconst 0, 1) := by decide +kernel
theorem dX10_text_13 : decode cX10_text 13 = .ok (.istore_n 1, 1) := by decide +kernel
theorem dX10_text_14 : decode cX10_text 14 = .ok (.iload_n 1, 1) := by decide +kernel
theorem dX10_text_15 : decode cX10_text 15 = .ok (.aload_n 0, 1) := by decide +kernel
theorem dX10_text_16 : decode cX10_text 16 = .ok (.getfield 165, 3) := by decide +kernel
theorem dX10_text_19 : decode cX10_text 19 = .ok (.if_icmp .ge 30, 3) := by decide +kernel
theorem dX10_text_22 : decode cX10_text 22 = .ok (.aload_n 0, 1) := by decide +kernel
theorem dX10_text_23 : decode cX10_text 23 = .ok (.getfield 30, 3) := by decide +kernel
theorem dX10_text_26 : decode cX10_text 26 = .ok (.sipush 160, 3) := by decide +kernel
theorem dX10_text_29 : decode cX10_text 29 = .ok (.aload_n 0, 1) := by decide +kernel
theorem dX10_text_30 : decode cX10_text 30 = .ok (.getfield 79, 3) := by decide +kernel
theorem dX10_text_33 : decode cX10_text 33 = .ok (.imul, 1) := by decide +kernel
theorem dX10_text_34 : decode cX10_text 34 = .ok (.iload_n 1, 1) := by decide +kernel
theorem dX10_text_35 : decode cX10_text 35 = .ok (.iadd, 1) := by decide +kernel
theorem dX10_text_36 : decode cX10_text 36 = .ok (.aload_n 0, 1) := by decide +kernel
theorem dX10_text_37 : decode cX10_text 37 = .ok (.getfield 36, 3) := by decide +kernel
theorem dX10_text_40 : decode cX10_text 40 = .ok (.iload_n 1, 1) := by decide +kernel
theorem dX10_text_41 : decode cX10_text 41 = .ok (.iaload, 1) := by decide +kernel
theorem dX10_text_42 : decode cX10_text 42 = .ok (.iastore, 1) := by decide +kernel
theorem dX10_text_43 : decode cX10_text 43 = .ok (.iinc 1 1, 3) := by decide +kernel
theorem dX10_text_46 : decode cX10_text 46 = .ok (.goto (-32), 3) := by decide +kernel
theorem dX10_text_49 : decode cX10_text 49 = .ok (.aload_n 0, 1) := by decide +kernel
theorem dX10_text_50 : decode cX10_text 50 = .ok (.getfield 33, 3) := by decide +kernel
theorem dX10_text_53 : decode cX10_text 53 = .ok (.aload_n 0, 1) := by decide +kernel
theorem dX10_text_54 : decode cX10_text 54 = .ok (.getfield 79, 3) := by decide +kernel
theorem dX10_text_57 : decode cX10_text 57 = .ok (.aload_n 0, 1) := by decide +kernel
theorem dX10_text_58 : decode cX10_text 58 = .ok (.getfield 165, 3) := by decide +kernel
theorem dX10_text_61 : decode cX10_text 61 = .ok (.iastore, 1) := by decide +kernel
theorem dX10_text_62 : decode cX10_text 62 = .ok (.aload_n 0, 1) := by decide +kernel
theorem dX10_text_63 : decode cX10_text 63 = .ok (.iconst 0, 1) := by decide +kernel
theorem dX10_text_64 : decode cX10_text 64 = .ok (.putfield 165, 3) := by decide +kernel
theorem dX10_text_67 : decode cX10_text 67 = .ok (.aload_n 0, 1) := by decide +kernel
theorem dX10_text_68 : decode cX10_text 68 = .ok (.aload_n 0, 1) := by decide +kernel
theorem dX10_text_69 : decode cX10_text 69 = .ok (.getfield 79, 3) := by decide +kernel
theorem dX10_text_72 : decode cX10_text 72 = .ok (.iconst 0, 1) := by decide +kernel
theorem dX10_text_73 : decode cX10_text 73 = .ok (.invokevirtual 261, 3) := by decide +kernel
theorem dX10_text_76 : decode cX10_text 76 = .ok (.istore_n 1, 1) := by decide +kernel
theorem dX10_text_77 : decode cX10_text 77 = .ok (.aload_n 0, 1) := by decide +kernel
theorem dX10_text_78 : decode cX10_text 78 = .ok (.getfield 189, 3) := by decide +kernel
theorem dX10_text_81 : decode cX10_text 81 = .ok (.ifCond .eq 11, 3) := by decide +kernel
theorem dX10_text_84 : decode cX10_text 84 = .ok (.bipush (-100), 2) := by decide +kernel
theorem dX10_text_86 : decode cX10_text 86 = .ok (.aload_n 0, 1) := by decide +kernel
theorem dX10_text_87 : decode cX10_text 87 = .ok (.getfield 193, 3) := by decide +kernel
theorem dX10_text_90 : decode cX10_text 90 = .ok (.isub, 1) := by decide +kernel
theorem dX10_text_91 : decode cX10_text 91 = .ok (.ireturn, 1) := by decide +kernel
theorem dX10_text_92 : decode cX10_text 92 = .ok (.aload_n 0, 1) := by decide +kernel
theorem dX10_text_93 : decode cX10_text 93 = .ok (.dup, 1) := by decide +kernel
theorem dX10_text_94 : decode cX10_text 94 = .ok (.getfield 79, 3) := by decide +kernel
theorem dX10_text_97 : decode cX10_text 97 = .ok (.iconst 1, 1) := by decide +kernel
theorem dX10_text_98 : decode cX10_text 98 = .ok (.iadd, 1) := by decide +kernel
theorem dX10_text_99 : decode cX10_text 99 = .ok (.putfield 79, 3) := by decide +kernel
theorem dX10_text_102 : decode cX10_text 102 = .ok (.aload_n 0, 1) := by decide +kernel
theorem dX10_text_103 : decode cX10_text 103 = .ok (.getfield 79, 3) := by decide +kernel
theorem dX10_text_106 : decode cX10_text 106 = .ok (.iconst 1, 1) := by decide +kernel
theorem dX10_text_107 : decode cX10_text 107 = .ok (.isub, 1) := by decide +kernel
theorem dX10_text_108 : decode cX10_text 108 = .ok (.ireturn, 1) := by decide +kernel
theorem dX10_force_0 : decode cX10_force 0 = .ok (.iload_n 1, 1) := by decide +kernel
theorem dX10_force_1 : decode cX10_force 1 = .ok (.iconst 0, 1) := by decide +kernel
theorem dX10_force_2 : decode cX10_force 2 = .ok (.aload_n 0, 1) := by decide +kernel
theorem dX10_force_3 : decode cX10_force 3 = .ok (.getfield 79, 3) := by decide +kernel
theorem dX10_force_6 : decode cX10_force 6 = .ok (.iconst 1, 1) := by decide +kernel
theorem dX10_force_7 : decode cX10_force 7 = .ok (.isub, 1) := by decide +kernel
theorem dX10_force_8 : decode cX10_force 8 = .ok (.invokestatic 86, 3) := by decide +kernel
theorem dX10_force_11 : decode cX10_force 11 = .ok (.ifCond .ne 6, 3) := by decide +kernel
theorem dX10_force_14 : decode cX10_force 14 = .ok (.bipush (-2), 2) := by decide +kernel
theorem dX10_force_16 : decode cX10_force 16 = .ok (.ireturn, 1) := by decide +kernel
theorem dX10_force_17 : decode cX10_force 17 = .ok (.aload_n 0, 1) := by decide +kernel
theorem dX10_force_18 : decode cX10_force 18 = .ok (.getfield 258, 3) := by decide +kernel
theorem dX10_force_21 : decode cX10_force 21 = .ok (.istore_n 2, 1) := by decide +kernel
theorem dX10_force_22 : decode cX10_force 22 = .ok (.aload_n 0, 1) := by decide +kernel
theorem dX10_force_23 : decode cX10_force 23 = .ok (.iload_n 1, 1) := by decide +kernel
theorem dX10_force_24 : decode cX10_force 24 = .ok (.putfield 258, 3) := by decide +kernel
theorem dX10_force_27 : decode cX10_force 27 = .ok (.iload_n 2, 1) := by decide +kernel
theorem dX10_force_28 : decode cX10_force 28 = .ok (.ireturn, 1) := by decide +kernel
theorem dX10_says_0 : decode cX10_says 0 = .ok (.aload_n 0, 1) := by decide +kernel
theorem dX10_says_1 : decode cX10_says 1 = .ok (.iload_n 1, 1) := by decide +kernel
theorem dX10_says_2 : decode cX10_says 2 = .ok (.invokevirtual 136, 3) := by decide +kernel
theorem dX10_says_5 : decode cX10_says 5 = .ok (.ifCond .eq 23, 3) := by decide +kernel
theorem dX10_says_8 : decode cX10_says 8 = .ok (.aload_n 0, 1) := by decide +kernel
theorem dX10_says_9 : decode cX10_says 9 = .ok (.iload_n 2, 1) := by decide +kernel
theorem dX10_says_10 : decode cX10_says 10 = .ok (.iload_n 3, 1) := by decide +kernel
theorem dX10_says_11 : decode cX10_says 11 = .ok (.invokevirtual 133, 3) := by decide +kernel
theorem dX10_says_14 : decode cX10_says 14 = .ok (.ifCond .ne 14, 3) := by decide +kernel
theorem dX10_says_17 : decode cX10_says 17 = .ok (.aload_n 0, 1) := by decide +kernel
theorem dX10_says_18 : decode cX10_says 18 = .ok (.iload_n 1, 1) := by decide +kernel
theorem dX10_says_19 : decode cX10_says 19 = .ok (.iload_n 2, 1) := by decide +kernel
theorem dX10_says_20 : decode cX10_says 20 = .ok (.iload_n 3, 1) := by decide +kernel
theorem dX10_says_21 : decode cX10_says 21 = .ok (.invokevirtual 154, 3) := by decide +kernel
theorem dX10_says_24 : decode cX10_says 24 = .ok (.i2l, 1) := by decide +kernel
theorem dX10_says_25 : decode cX10_says 25 = .ok (.goto 6, 3) := by decide +kernel
theorem dX10_says_28 : decode cX10_says 28 = .ok (.ldc2_w 264, 3) := by decide +kernel
theorem dX10_says_31 : decode cX10_says 31 = .ok (.lreturn, 1) := by decide +kernel
theorem dX10_divideRows_0 : decode cX10_divideRows 0 = .ok (.aload_n 0, 1) := by decide +kernel
theorem dX10_divideRows_1 : decode cX10_divideRows 1 = .ok (.iload_n 3, 1) := by decide +kernel
theorem dX10_divideRows_2 : decode cX10_divideRows 2 = .ok (.invokevirtual 105, 3) := by decide +kernel
theorem dX10_divideRows_5 : decode cX10_divideRows 5 = .ok (.aload_n 0, 1) := by decide +kernel
theorem dX10_divideRows_6 : decode cX10_divideRows 6 = .ok (.iload_n 2, 1) := by decide +kernel
theorem dX10_divideRows_7 : decode cX10_divideRows 7 = .ok (.invokevirtual 94, 3) := by decide +kernel
theorem dX10_divideRows_10 : decode cX10_divideRows 10 = .ok (.istore 4, 2) := by decide +kernel
theorem dX10_divideRows_12 : decode cX10_divideRows 12 = .ok (.aload_n 0, 1) := by decide +kernel
theorem dX10_divideRows_13 : decode cX10_divideRows 13 = .ok (.aload_n 0, 1) := by decide +kernel
theorem dX10_divideRows_14 : decode cX10_divideRows 14 = .ok (.getfield 13, 3) := by decide +kernel
theorem dX10_divideRows_17 : decode cX10_divideRows 17 = .ok (.bipush 80, 2) := by decide +kernel
theorem dX10_divideRows_19 : decode cX10_divideRows 19 = .ok (.iload_n 2, 1) := by decide +kernel
theorem dX10_divideRows_20 : decode cX10_divideRows 20 = .ok (.imul, 1) := by decide +kernel
theorem dX10_divideRows_21 : decode cX10_divideRows 21 = .ok (.iload 4, 2) := by decide +kernel
theorem dX10_divideRows_23 : decode cX10_divideRows 23 = .ok (.iadd, 1) := by decide +kernel
theorem dX10_divideRows_24 : decode cX10_divideRows 24 = .ok (.iconst 1, 1) := by decide +kernel
theorem dX10_divideRows_25 : decode cX10_divideRows 25 = .ok (.isub, 1) := by decide +kernel
theorem dX10_divideRows_26 : decode cX10_divideRows 26 = .ok (.iaload, 1) := by decide +kernel
theorem dX10_divideRows_27 : decode cX10_divideRows 27 = .ok (.invokevirtual 266, 3) := by decide +kernel
theorem dX10_divideRows_30 : decode cX10_divideRows 30 = .ok (.istore 5, 2) := by decide +kernel
theorem dX10_divideRows_32 : decode cX10_divideRows 32 = .ok (.aload_n 0, 1) := by decide +kernel
theorem dX10_divideRows_33 : decode cX10_divideRows 33 = .ok (.iload_n 1, 1) := by decide +kernel
theorem dX10_divideRows_34 : decode cX10_divideRows 34 = .ok (.invokevirtual 94, 3) := by decide +kernel
theorem dX10_divideRows_37 : decode cX10_divideRows 37 = .ok (.istore 6, 2) := by decide +kernel
theorem dX10_divideRows_39 : decode cX10_divideRows 39 = .ok (.iload 6, 2) := by decide +kernel
theorem dX10_divideRows_41 : decode cX10_divideRows 41 = .ok (.iload 4, 2) := by decide +kernel
theorem dX10_divideRows_43 : decode cX10_divideRows 43 = .ok (.if_icmp .lt 126, 3) := by decide +kernel
theorem dX10_divideRows_46 : decode cX10_divideRows 46 = .ok (.aload_n 0, 1) := by decide +kernel
theorem dX10_divideRows_47 : decode cX10_divideRows 47 = .ok (.getfield 13, 3) := by decide +kernel
theorem dX10_divideRows_50 : decode cX10_divideRows 50 = .ok (.bipush 80, 2) := by decide +kernel
theorem dX10_divideRows_52 : decode cX10_divideRows 52 = .ok (.iload_n 1, 1) := by decide +kernel
theorem dX10_divideRows_53 : decode cX10_divideRows 53 = .ok (.imul, 1) := by decide +kernel
theorem dX10_divideRows_54 : decode cX10_divideRows 54 = .ok (.iload 6, 2) := by decide +kernel
theorem dX10_divideRows_56 : decode cX10_divideRows 56 = .ok (.iadd, 1) := by decide +kernel
theorem dX10_divideRows_57 : decode cX10_divideRows 57 = .ok (.iconst 1, 1) := by decide +kernel
theorem dX10_divideRows_58 : decode cX10_divideRows 58 = .ok (.isub, 1) := by decide +kernel
theorem dX10_divideRows_59 : decode cX10_divideRows 59 = .ok (.iaload, 1) := by decide +kernel
theorem dX10_divideRows_60 : decode cX10_divideRows 60 = .ok (.iload 5, 2) := by decide +kernel
theorem dX10_divideRows_62 : decode cX10_divideRows 62 = .ok (.imul, 1) := by decide +kernel
theorem dX10_divideRows_63 : decode cX10_divideRows 63 = .ok (.aload_n 0, 1) := by decide +kernel
theorem dX10_divideRows_64 : decode cX10_divideRows 64 = .ok (.getfield 64, 3) := by decide +kernel
theorem dX10_divideRows_67 : decode cX10_divideRows 67 = .ok (.irem, 1) := by decide +kernel
theorem dX10_divideRows_68 : decode cX10_divideRows 68 = .ok (.istore 7, 2) := by decide +kernel
theorem dX10_divideRows_70 : decode cX10_divideRows 70 = .ok (.aload_n 0, 1) := by decide +kernel
theorem dX10_divideRows_71 : decode cX10_divideRows 71 = .ok (.getfield 13, 3) := by decide +kernel
theorem dX10_divideRows_74 : decode cX10_divideRows 74 = .ok (.bipush 80, 2) := by decide +kernel
theorem dX10_divideRows_76 : decode cX10_divideRows 76 = .ok (.iload_n 3, 1) := by decide +kernel
theorem dX10_divideRows_77 : decode cX10_divideRows 77 = .ok (.imul, 1) := by decide +kernel
theorem dX10_divideRows_78 : decode cX10_divideRows 78 = .ok (.iload 6, 2) := by decide +kernel
theorem dX10_divideRows_80 : decode cX10_divideRows 80 = .ok (.iadd, 1) := by decide +kernel
theorem dX10_divideRows_81 : decode cX10_divideRows 81 = .ok (.iload 4, 2) := by decide +kernel
theorem dX10_divideRows_83 : decode cX10_divideRows 83 = .ok (.isub, 1) := by decide +kernel
theorem dX10_divideRows_84 : decode cX10_divideRows 84 = .ok (.iload 7, 2) := by decide +kernel
theorem dX10_divideRows_86 : decode cX10_divideRows 86 = .ok (.iastore, 1) := by decide +kernel
theorem dX10_divideRows_87 : decode cX10_divideRows 87 = .ok (.iconst 0, 1) := by decide +kernel
theorem dX10_divideRows_88 : decode cX10_divideRows 88 = .ok (.istore 8, 2) := by decide +kernel
theorem dX10_divideRows_90 : decode cX10_divideRows 90 = .ok (.iload 8, 2) := by decide +kernel
theorem dX10_divideRows_92 : decode cX10_divideRows 92 = .ok (.iload 4, 2) := by decide +kernel
theorem dX10_divideRows_94 : decode cX10_divideRows 94 = .ok (.if_icmp .ge 65, 3) := by decide +kernel
theorem dX10_divideRows_97 : decode cX10_divideRows 97 = .ok (.aload_n 0, 1) := by decide +kernel
theorem dX10_divideRows_98 : decode cX10_divideRows 98 = .ok (.getfield 13, 3) := by decide +kernel
theorem dX10_divideRows_101 : decode cX10_divideRows 101 = .ok (.bipush 80, 2) := by decide +kernel
theorem dX10_divideRows_103 : decode cX10_divideRows 103 = .ok (.iload_n 1, 1) := by decide +kernel
theorem dX10_divideRows_104 : decode cX10_divideRows 104 = .ok (.imul, 1) := by decide +kernel
theorem dX10_divideRows_105 : decode cX10_divideRows 105 = .ok (.iload 6, 2) := by decide +kernel
theorem dX10_divideRows_107 : decode cX10_divideRows 107 = .ok (.iadd, 1) := by decide +kernel
theorem dX10_divideRows_108 : decode cX10_divideRows 108 = .ok (.iload 4, 2) := by decide +kernel
theorem dX10_divideRows_110 : decode cX10_divideRows 110 = .ok (.isub, 1) := by decide +kernel
theorem dX10_divideRows_111 : decode cX10_divideRows 111 = .ok (.iload 8, 2) := by decide +kernel
theorem dX10_divideRows_113 : decode cX10_divideRows 113 = .ok (.iadd, 1) := by decide +kernel
theorem dX10_divideRows_114 : decode cX10_divideRows 114 = .ok (.aload_n 0, 1) := by decide +kernel
theorem dX10_divideRows_115 : decode cX10_divideRows 115 = .ok (.aload_n 0, 1) := by decide +kernel
theorem dX10_divideRows_116 : decode cX10_divideRows 116 = .ok (.getfield 13, 3) := by decide +kernel
theorem dX10_divideRows_119 : decode cX10_divideRows 119 = .ok (.bipush 80, 2) := by decide +kernel
theorem dX10_divideRows_121 : decode cX10_divideRows 121 = .ok (.iload_n 1, 1) := by decide +kernel
theorem dX10_divideRows_122 : decode cX10_divideRows 122 = .ok (.imul, 1) := by decide +kernel
theorem dX10_divideRows_123 : decode cX10_divideRows 123 = .ok (.iload 6, 2) := by decide +kernel
theorem dX10_divideRows_125 : decode cX10_divideRows 125 = .ok (.iadd, 1) := by decide +kernel
theorem dX10_divideRows_126 : decode cX10_divideRows 126 = .ok (.iload 4, 2) := by decide +kernel
theorem dX10_divideRows_128 : decode cX10_divideRows 128 = .ok (.isub, 1) := by decide +kernel
theorem dX10_divideRows_129 : decode cX10_divideRows 129 = .ok (.iload 8, 2) := by decide +kernel
theorem dX10_divideRows_131 : decode cX10_divideRows 131 = .ok (.iadd, 1) := by decide +kernel
theorem dX10_divideRows_132 : decode cX10_divideRows 132 = .ok (.iaload, 1) := by decide +kernel
theorem dX10_divideRows_133 : decode cX10_divideRows 133 = .ok (.iload 7, 2) := by decide +kernel
theorem dX10_divideRows_135 : decode cX10_divideRows 135 = .ok (.aload_n 0, 1) := by decide +kernel
theorem dX10_divideRows_136 : decode cX10_divideRows 136 = .ok (.getfield 13, 3) := by decide +kernel
theorem dX10_divideRows_139 : decode cX10_divideRows 139 = .ok (.bipush 80, 2) := by decide +kernel
theorem dX10_divideRows_141 : decode cX10_divideRows 141 = .ok (.iload_n 2, 1) := by decide +kernel
theorem dX10_divideRows_142 : decode cX10_divideRows 142 = .ok (.imul, 1) := by decide +kernel
theorem dX10_divideRows_143 : decode cX10_divideRows 143 = .ok (.iload 8, 2) := by decide +kernel
theorem dX10_divideRows_145 : decode cX10_divideRows 145 = .ok (.iadd, 1) := by decide +kernel
theorem dX10_divideRows_146 : decode cX10_divideRows 146 = .ok (.iaload, 1) := by decide +kernel
theorem dX10_divideRows_147 : decode cX10_divideRows 147 = .ok (.imul, 1) := by decide +kernel
theorem dX10_divideRows_148 : decode cX10_divideRows 148 = .ok (.isub, 1) := by decide +kernel
theorem dX10_divideRows_149 : decode cX10_divideRows 149 = .ok (.invokevirtual 102, 3) := by decide +kernel
theorem dX10_divideRows_152 : decode cX10_divideRows 152 = .ok (.iastore, 1) := by decide +kernel
theorem dX10_divideRows_153 : decode cX10_divideRows 153 = .ok (.iinc 8 1, 3) := by decide +kernel
theorem dX10_divideRows_156 : decode cX10_divideRows 156 = .ok (.goto (-66), 3) := by decide +kernel
theorem dX10_divideRows_159 : decode cX10_divideRows 159 = .ok (.aload_n 0, 1) := by decide +kernel
theorem dX10_divideRows_160 : decode cX10_divideRows 160 = .ok (.iload_n 1, 1) := by decide +kernel
theorem dX10_divideRows_161 : decode cX10_divideRows 161 = .ok (.invokevirtual 94, 3) := by decide +kernel
theorem dX10_divideRows_164 : decode cX10_divideRows 164 = .ok (.istore 6, 2) := by decide +kernel
theorem dX10_divideRows_166 : decode cX10_divideRows 166 = .ok (.goto (-127), 3) := by decide +kernel
theorem dX10_divideRows_169 : decode cX10_divideRows 169 = .ok (.return_, 1) := by decide +kernel
theorem dX10_divide_0 : decode cX10_divide 0 = .ok (.iload_n 1, 1) := by decide +kernel
theorem dX10_divide_1 : decode cX10_divide 1 = .ok (.invokestatic 98, 3) := by decide +kernel
theorem dX10_divide_4 : decode cX10_divide 4 = .ok (.ifCond .eq 12, 3) := by decide +kernel
theorem dX10_divide_7 : decode cX10_divide 7 = .ok (.aload_n 0, 1) := by decide +kernel
theorem dX10_divide_8 : decode cX10_divide 8 = .ok (.iload_n 2, 1) := by decide +kernel
theorem dX10_divide_9 : decode cX10_divide 9 = .ok (.iload_n 3, 1) := by decide +kernel
theorem dX10_divide_10 : decode cX10_divide 10 = .ok (.invokevirtual 133, 3) := by decide +kernel
theorem dX10_divide_13 : decode cX10_divide 13 = .ok (.ifCond .eq 6, 3) := by decide +kernel
theorem dX10_divide_16 : decode cX10_divide 16 = .ok (.bipush (-2), 2) := by decide +kernel
theorem dX10_divide_18 : decode cX10_divide 18 = .ok (.ireturn, 1) := by decide +kernel
theorem dX10_divide_19 : decode cX10_divide 19 = .ok (.aload_n 0, 1) := by decide +kernel
theorem dX10_divide_20 : decode cX10_divide 20 = .ok (.iload_n 3, 1) := by decide +kernel
theorem dX10_divide_21 : decode cX10_divide 21 = .ok (.invokevirtual 94, 3) := by decide +kernel
theorem dX10_divide_24 : decode cX10_divide 24 = .ok (.ifCond .ne 6, 3) := by decide +kernel
theorem dX10_divide_27 : decode cX10_divide 27 = .ok (.bipush (-3), 2) := by decide +kernel
theorem dX10_divide_29 : decode cX10_divide 29 = .ok (.ireturn, 1) := by decide +kernel
theorem dX10_divide_30 : decode cX10_divide 30 = .ok (.aload_n 0, 1) := by decide +kernel
theorem dX10_divide_31 : decode cX10_divide 31 = .ok (.iload_n 2, 1) := by decide +kernel
theorem dX10_divide_32 : decode cX10_divide 32 = .ok (.bipush 8, 2) := by decide +kernel
theorem dX10_divide_34 : decode cX10_divide 34 = .ok (.invokevirtual 90, 3) := by decide +kernel
theorem dX10_divide_37 : decode cX10_divide 37 = .ok (.aload_n 0, 1) := by decide +kernel
theorem dX10_divide_38 : decode cX10_divide 38 = .ok (.iload_n 3, 1) := by decide +kernel
theorem dX10_divide_39 : decode cX10_divide 39 = .ok (.bipush 9, 2) := by decide +kernel
theorem dX10_divide_41 : decode cX10_divide 41 = .ok (.invokevirtual 90, 3) := by decide +kernel
theorem dX10_divide_44 : decode cX10_divide 44 = .ok (.aload_n 0, 1) := by decide +kernel
theorem dX10_divide_45 : decode cX10_divide 45 = .ok (.bipush 8, 2) := by decide +kernel
theorem dX10_divide_47 : decode cX10_divide 47 = .ok (.bipush 9, 2) := by decide +kernel
theorem dX10_divide_49 : decode cX10_divide 49 = .ok (.bipush 10, 2) := by decide +kernel
theorem dX10_divide_51 : decode cX10_divide 51 = .ok (.invokevirtual 269, 3) := by decide +kernel
theorem dX10_divide_54 : decode cX10_divide 54 = .ok (.aload_n 0, 1) := by decide +kernel
theorem dX10_divide_55 : decode cX10_divide 55 = .ok (.iload_n 1, 1) := by decide +kernel
theorem dX10_divide_56 : decode cX10_divide 56 = .ok (.iload 4, 2) := by decide +kernel
theorem dX10_divide_58 : decode cX10_divide 58 = .ok (.ifCond .eq 8, 3) := by decide +kernel
theorem dX10_divide_61 : decode cX10_divide 61 = .ok (.bipush 8, 2) := by decide +kernel
theorem dX10_divide_63 : decode cX10_divide 63 = .ok (.goto 5, 3) := by decide +kernel
theorem dX10_divide_66 : decode cX10_divide 66 = .ok (.bipush 10, 2) := by decide +kernel
theorem dX10_divide_68 : decode cX10_divide 68 = .ok (.invokevirtual 109, 3) := by decide +kernel
theorem dX10_divide_71 : decode cX10_divide 71 = .ok (.ireturn, 1) := by decide +kernel
theorem dX10_scale_0 : decode cX10_scale 0 = .ok (.iconst 0, 1) := by decide +kernel
theorem dX10_scale_1 : decode cX10_scale 1 = .ok (.istore_n 3, 1) := by decide +kernel
theorem dX10_scale_2 : decode cX10_scale 2 = .ok (.iload_n 3, 1) := by decide +kernel
theorem dX10_scale_3 : decode cX10_scale 3 = .ok (.bipush 80, 2) := by decide +kernel
theorem dX10_scale_5 : decode cX10_scale 5 = .ok (.if_icmp .ge 38, 3) := by decide +kernel
theorem dX10_scale_8 : decode cX10_scale 8 = .ok (.aload_n 0, 1) := by decide +kernel
theorem dX10_scale_9 : decode cX10_scale 9 = .ok (.getfield 13, 3) := by decide +kernel
theorem dX10_scale_12 : decode cX10_scale 12 = .ok (.bipush 80, 2) := by decide +kernel
theorem dX10_scale_14 : decode cX10_scale 14 = .ok (.iload_n 1, 1) := by decide +kernel
theorem dX10_scale_15 : decode cX10_scale 15 = .ok (.imul, 1) := by decide +kernel
theorem dX10_scale_16 : decode cX10_scale 16 = .ok (.iload_n 3, 1) := by decide +kernel
theorem dX10_scale_17 : decode cX10_scale 17 = .ok (.iadd, 1) := by decide +kernel
theorem dX10_scale_18 : decode cX10_scale 18 = .ok (.aload_n 0, 1) := by decide +kernel
theorem dX10_scale_19 : decode cX10_scale 19 = .ok (.getfield 13, 3) := by decide +kernel
theorem dX10_scale_22 : decode cX10_scale 22 = .ok (.bipush 80, 2) := by decide +kernel
theorem dX10_scale_24 : decode cX10_scale 24 = .ok (.iload_n 1, 1) := by decide +kernel
theorem dX10_scale_25 : decode cX10_scale 25 = .ok (.imul, 1) := by decide +kernel
theorem dX10_scale_26 : decode cX10_scale 26 = .ok (.iload_n 3, 1) := by decide +kernel
theorem dX10_scale_27 : decode cX10_scale 27 = .ok (.iadd, 1) := by decide +kernel
theorem dX10_scale_28 : decode cX10_scale 28 = .ok (.iaload, 1) := by decide +kernel
theorem dX10_scale_29 : decode cX10_scale 29 = .ok (.iload_n 2, 1) := by decide +kernel
theorem dX10_scale_30 : decode cX10_scale 30 = .ok (.imul, 1) := by decide +kernel
theorem dX10_scale_31 : decode cX10_scale 31 = .ok (.aload_n 0, 1) := by decide +kernel
theorem dX10_scale_32 : decode cX10_scale 32 = .ok (.getfield 64, 3) := by decide +kernel
theorem dX10_scale_35 : decode cX10_scale 35 = .ok (.irem, 1) := by decide +kernel
theorem dX10_scale_36 : decode cX10_scale 36 = .ok (.iastore, 1) := by decide +kernel
theorem dX10_scale_37 : decode cX10_scale 37 = .ok (.iinc 3 1, 3) := by decide +kernel
theorem dX10_scale_40 : decode cX10_scale 40 = .ok (.goto (-38), 3) := by decide +kernel
theorem dX10_scale_43 : decode cX10_scale 43 = .ok (.return_, 1) := by decide +kernel
theorem dX10_common_0 : decode cX10_common 0 = .ok (.aload_n 0, 1) := by decide +kernel
theorem dX10_common_1 : decode cX10_common 1 = .ok (.iload_n 1, 1) := by decide +kernel
theorem dX10_common_2 : decode cX10_common 2 = .ok (.bipush 8, 2) := by decide +kernel
theorem dX10_common_4 : decode cX10_common 4 = .ok (.invokevirtual 90, 3) := by decide +kernel
theorem dX10_common_7 : decode cX10_common 7 = .ok (.aload_n 0, 1) := by decide +kernel
theorem dX10_common_8 : decode cX10_common 8 = .ok (.iload_n 2, 1) := by decide +kernel
theorem dX10_common_9 : decode cX10_common 9 = .ok (.bipush 9, 2) := by decide +kernel
theorem dX10_common_11 : decode cX10_common 11 = .ok (.invokevirtual 90, 3) := by decide +kernel
theorem dX10_common_14 : decode cX10_common 14 = .ok (.aload_n 0, 1) := by decide +kernel
theorem dX10_common_15 : decode cX10_common 15 = .ok (.bipush 12, 2) := by decide +kernel
theorem dX10_common_17 : decode cX10_common 17 = .ok (.invokevirtual 105, 3) := by decide +kernel
theorem dX10_common_20 : decode cX10_common 20 = .ok (.aload_n 0, 1) := by decide +kernel
theorem dX10_common_21 : decode cX10_common 21 = .ok (.bipush 13, 2) := by decide +kernel
theorem dX10_common_23 : decode cX10_common 23 = .ok (.invokevirtual 105, 3) := by decide +kernel
theorem dX10_common_26 : decode cX10_common 26 = .ok (.aload_n 0, 1) := by decide +kernel
theorem dX10_common_27 : decode cX10_common 27 = .ok (.getfield 13, 3) := by decide +kernel
theorem dX10_common_30 : decode cX10_common 30 = .ok (.sipush 960, 3) := by decide +kernel
theorem dX10_common_33 : decode cX10_common 33 = .ok (.iconst 1, 1) := by decide +kernel
theorem dX10_common_34 : decode cX10_common 34 = .ok (.iastore, 1) := by decide +kernel
theorem dX10_common_35 : decode cX10_common 35 = .ok (.aload_n 0, 1) := by decide +kernel
theorem dX10_common_36 : decode cX10_common 36 = .ok (.bipush 9, 2) := by decide +kernel
theorem dX10_common_38 : decode cX10_common 38 = .ok (.invokevirtual 94, 3) := by decide +kernel
theorem dX10_common_41 : decode cX10_common 41 = .ok (.ifCond .le 123, 3) := by decide +kernel
theorem dX10_common_44 : decode cX10_common 44 = .ok (.aload_n 0, 1) := by decide +kernel
theorem dX10_common_45 : decode cX10_common 45 = .ok (.bipush 8, 2) := by decide +kernel
theorem dX10_common_47 : decode cX10_common 47 = .ok (.bipush 9, 2) := by decide +kernel
theorem dX10_common_49 : decode cX10_common 49 = .ok (.bipush 10, 2) := by decide +kernel
theorem dX10_common_51 : decode cX10_common 51 = .ok (.invokevirtual 269, 3) := by decide +kernel
theorem dX10_common_54 : decode cX10_common 54 = .ok (.aload_n 0, 1) := by decide +kernel
theorem dX10_common_55 : decode cX10_common 55 = .ok (.bipush 10, 2) := by decide +kernel
theorem dX10_common_57 : decode cX10_common 57 = .ok (.bipush 13, 2) := by decide +kernel
theorem dX10_common_59 : decode cX10_common 59 = .ok (.bipush 11, 2) := by decide +kernel
theorem dX10_common_61 : decode cX10_common 61 = .ok (.invokevirtual 146, 3) := by decide +kernel
theorem dX10_common_64 : decode cX10_common 64 = .ok (.iconst 0, 1) := by decide +kernel
theorem dX10_common_65 : decode cX10_common 65 = .ok (.istore_n 3, 1) := by decide +kernel
theorem dX10_common_66 : decode cX10_common 66 = .ok (.iload_n 3, 1) := by decide +kernel
theorem dX10_common_67 : decode cX10_common 67 = .ok (.bipush 80, 2) := by decide +kernel
theorem dX10_common_69 : decode cX10_common 69 = .ok (.if_icmp .ge 44, 3) := by decide +kernel
theorem dX10_common_72 : decode cX10_common 72 = .ok (.aload_n 0, 1) := by decide +kernel
theorem dX10_common_73 : decode cX10_common 73 = .ok (.getfield 13, 3) := by decide +kernel
theorem dX10_common_76 : decode cX10_common 76 = .ok (.sipush 960, 3) := by decide +kernel
theorem dX10_common_79 : decode cX10_common 79 = .ok (.iload_n 3, 1) := by decide +kernel
theorem dX10_common_80 : decode cX10_common 80 = .ok (.iadd, 1) := by decide +kernel
theorem dX10_common_81 : decode cX10_common 81 = .ok (.aload_n 0, 1) := by decide +kernel
theorem dX10_common_82 : decode cX10_common 82 = .ok (.aload_n 0, 1) := by decide +kernel
theorem dX10_common_83 : decode cX10_common 83 = .ok (.getfield 13, 3) := by decide +kernel
theorem dX10_common_86 : decode cX10_common 86 = .ok (.sipush 960, 3) := by decide +kernel
theorem dX10_common_89 : decode cX10_common 89 = .ok (.iload_n 3, 1) := by decide +kernel
theorem dX10_common_90 : decode cX10_common 90 = .ok (.iadd, 1) := by decide +kernel
theorem dX10_common_91 : decode cX10_common 91 = .ok (.iaload, 1) := by decide +kernel
theorem dX10_common_92 : decode cX10_common 92 = .ok (.aload_n 0, 1) := by decide +kernel
theorem dX10_common_93 : decode cX10_common 93 = .ok (.getfield 13, 3) := by decide +kernel
theorem dX10_common_96 : decode cX10_common 96 = .ok (.sipush 880, 3) := by decide +kernel
theorem dX10_common_99 : decode cX10_common 99 = .ok (.iload_n 3, 1) := by decide +kernel
theorem dX10_common_100 : decode cX10_common 100 = .ok (.iadd, 1) := by decide +kernel
theorem dX10_common_101 : decode cX10_common 101 = .ok (.iaload, 1) := by decide +kernel
theorem dX10_common_102 : decode cX10_common 102 = .ok (.isub, 1) := by decide +kernel
theorem dX10_common_103 : decode cX10_common 103 = .ok (.invokevirtual 102, 3) := by decide +kernel
theorem dX10_common_106 : decode cX10_common 106 = .ok (.iastore, 1) := by decide +kernel
theorem dX10_common_107 : decode cX10_common 107 = .ok (.iinc 3 1, 3) := by decide +kernel
theorem dX10_common_110 : decode cX10_common 110 = .ok (.goto (-44), 3) := by decide +kernel
theorem dX10_common_113 : decode cX10_common 113 = .ok (.aload_n 0, 1) := by decide +kernel
theorem dX10_common_114 : decode cX10_common 114 = .ok (.bipush 8, 2) := by decide +kernel
theorem dX10_common_116 : decode cX10_common 116 = .ok (.bipush 14, 2) := by decide +kernel
theorem dX10_common_118 : decode cX10_common 118 = .ok (.invokevirtual 90, 3) := by decide +kernel
theorem dX10_common_121 : decode cX10_common 121 = .ok (.aload_n 0, 1) := by decide +kernel
theorem dX10_common_122 : decode cX10_common 122 = .ok (.bipush 9, 2) := by decide +kernel
theorem dX10_common_124 : decode cX10_common 124 = .ok (.bipush 8, 2) := by decide +kernel
theorem dX10_common_126 : decode cX10_common 126 = .ok (.invokevirtual 90, 3) := by decide +kernel
theorem dX10_common_129 : decode cX10_common 129 = .ok (.aload_n 0, 1) := by decide +kernel
theorem dX10_common_130 : decode cX10_common 130 = .ok (.bipush 14, 2) := by decide +kernel
theorem dX10_common_132 : decode cX10_common 132 = .ok (.bipush 9, 2) := by decide +kernel
theorem dX10_common_134 : decode cX10_common 134 = .ok (.invokevirtual 90, 3) := by decide +kernel
theorem dX10_common_137 : decode cX10_common 137 = .ok (.aload_n 0, 1) := by decide +kernel
theorem dX10_common_138 : decode cX10_common 138 = .ok (.bipush 12, 2) := by decide +kernel
theorem dX10_common_140 : decode cX10_common 140 = .ok (.bipush 14, 2) := by decide +kernel
theorem dX10_common_142 : decode cX10_common 142 = .ok (.invokevirtual 90, 3) := by decide +kernel
theorem dX10_common_145 : decode cX10_common 145 = .ok (.aload_n 0, 1) := by decide +kernel
theorem dX10_common_146 : decode cX10_common 146 = .ok (.bipush 13, 2) := by decide +kernel
theorem dX10_common_148 : decode cX10_common 148 = .ok (.bipush 12, 2) := by decide +kernel
theorem dX10_common_150 : decode cX10_common 150 = .ok (.invokevirtual 90, 3) := by decide +kernel
theorem dX10_common_153 : decode cX10_common 153 = .ok (.aload_n 0, 1) := by decide +kernel
theorem dX10_common_154 : decode cX10_common 154 = .ok (.bipush 14, 2) := by decide +kernel
theorem dX10_common_156 : decode cX10_common 156 = .ok (.bipush 13, 2) := by decide +kernel
theorem dX10_common_158 : decode cX10_common 158 = .ok (.invokevirtual 90, 3) := by decide +kernel
theorem dX10_common_161 : decode cX10_common 161 = .ok (.goto (-126), 3) := by decide +kernel
theorem dX10_common_164 : decode cX10_common 164 = .ok (.aload_n 0, 1) := by decide +kernel
theorem dX10_common_165 : decode cX10_common 165 = .ok (.bipush 8, 2) := by decide +kernel
theorem dX10_common_167 : decode cX10_common 167 = .ok (.invokevirtual 94, 3) := by decide +kernel
theorem dX10_common_170 : decode cX10_common 170 = .ok (.ifCond .ne 4, 3) := by decide +kernel
theorem dX10_common_173 : decode cX10_common 173 = .ok (.return_, 1) := by decide +kernel
theorem dX10_common_174 : decode cX10_common 174 = .ok (.aload_n 0, 1) := by decide +kernel
theorem dX10_common_175 : decode cX10_common 175 = .ok (.aload_n 0, 1) := by decide +kernel
theorem dX10_common_176 : decode cX10_common 176 = .ok (.getfield 13, 3) := by decide +kernel
theorem dX10_common_179 : decode cX10_common 179 = .ok (.sipush 640, 3) := by decide +kernel
theorem dX10_common_182 : decode cX10_common 182 = .ok (.aload_n 0, 1) := by decide +kernel
theorem dX10_common_183 : decode cX10_common 183 = .ok (.bipush 8, 2) := by decide +kernel
theorem dX10_common_185 : decode cX10_common 185 = .ok (.invokevirtual 94, 3) := by decide +kernel
theorem dX10_common_188 : decode cX10_common 188 = .ok (.iadd, 1) := by decide +kernel
theorem dX10_common_189 : decode cX10_common 189 = .ok (.iconst 1, 1) := by decide +kernel
theorem dX10_common_190 : decode cX10_common 190 = .ok (.isub, 1) := by decide +kernel
theorem dX10_common_191 : decode cX10_common 191 = .ok (.iaload, 1) := by decide +kernel
theorem dX10_common_192 : decode cX10_common 192 = .ok (.invokevirtual 266, 3) := by decide +kernel
theorem dX10_common_195 : decode cX10_common 195 = .ok (.istore_n 3, 1) := by decide +kernel
theorem dX10_common_196 : decode cX10_common 196 = .ok (.aload_n 0, 1) := by decide +kernel
theorem dX10_common_197 : decode cX10_common 197 = .ok (.bipush 8, 2) := by decide +kernel
theorem dX10_common_199 : decode cX10_common 199 = .ok (.iload_n 3, 1) := by decide +kernel
theorem dX10_common_200 : decode cX10_common 200 = .ok (.invokevirtual 272, 3) := by decide +kernel
theorem dX10_common_203 : decode cX10_common 203 = .ok (.aload_n 0, 1) := by decide +kernel
theorem dX10_common_204 : decode cX10_common 204 = .ok (.bipush 12, 2) := by decide +kernel
theorem dX10_common_206 : decode cX10_common 206 = .ok (.iload_n 3, 1) := by decide +kernel
theorem dX10_common_207 : decode cX10_common 207 = .ok (.invokevirtual 272, 3) := by decide +kernel
theorem dX10_common_210 : decode cX10_common 210 = .ok (.return_, 1) := by decide +kernel
theorem dX10_gcd_0 : decode cX10_gcd 0 = .ok (.iload_n 1, 1) := by decide +kernel
theorem dX10_gcd_1 : decode cX10_gcd 1 = .ok (.invokestatic 98, 3) := by decide +kernel
theorem dX10_gcd_4 : decode cX10_gcd 4 = .ok (.ifCond .eq 12, 3) := by decide +kernel
theorem dX10_gcd_7 : decode cX10_gcd 7 = .ok (.aload_n 0, 1) := by decide +kernel
theorem dX10_gcd_8 : decode cX10_gcd 8 = .ok (.iload_n 2, 1) := by decide +kernel
theorem dX10_gcd_9 : decode cX10_gcd 9 = .ok (.iload_n 3, 1) := by decide +kernel
theorem dX10_gcd_10 : decode cX10_gcd 10 = .ok (.invokevirtual 133, 3) := by decide +kernel
theorem dX10_gcd_13 : decode cX10_gcd 13 = .ok (.ifCond .eq 6, 3) := by decide +kernel
theorem dX10_gcd_16 : decode cX10_gcd 16 = .ok (.bipush (-2), 2) := by decide +kernel
theorem dX10_gcd_18 : decode cX10_gcd 18 = .ok (.ireturn, 1) := by decide +kernel
theorem dX10_gcd_19 : decode cX10_gcd 19 = .ok (.aload_n 0, 1) := by decide +kernel
theorem dX10_gcd_20 : decode cX10_gcd 20 = .ok (.iload_n 2, 1) := by decide +kernel
theorem dX10_gcd_21 : decode cX10_gcd 21 = .ok (.iload_n 3, 1) := by decide +kernel
theorem dX10_gcd_22 : decode cX10_gcd 22 = .ok (.invokevirtual 275, 3) := by decide +kernel
theorem dX10_gcd_25 : decode cX10_gcd 25 = .ok (.aload_n 0, 1) := by decide +kernel
theorem dX10_gcd_26 : decode cX10_gcd 26 = .ok (.iload_n 1, 1) := by decide +kernel
theorem dX10_gcd_27 : decode cX10_gcd 27 = .ok (.bipush 8, 2) := by decide +kernel
theorem dX10_gcd_29 : decode cX10_gcd 29 = .ok (.invokevirtual 109, 3) := by decide +kernel
theorem dX10_gcd_32 : decode cX10_gcd 32 = .ok (.ireturn, 1) := by decide +kernel
theorem dX10_cofactor_0 : decode cX10_cofactor 0 = .ok (.iload_n 1, 1) := by decide +kernel
theorem dX10_cofactor_1 : decode cX10_cofactor 1 = .ok (.invokestatic 98, 3) := by decide +kernel
theorem dX10_cofactor_4 : decode cX10_cofactor 4 = .ok (.ifCond .eq 12, 3) := by decide +kernel
theorem dX10_cofactor_7 : decode cX10_cofactor 7 = .ok (.aload_n 0, 1) := by decide +kernel
theorem dX10_cofactor_8 : decode cX10_cofactor 8 = .ok (.iload_n 2, 1) := by decide +kernel
theorem dX10_cofactor_9 : decode cX10_cofactor 9 = .ok (.iload_n 3, 1) := by decide +kernel
theorem dX10_cofactor_10 : decode cX10_cofactor 10 = .ok (.invokevirtual 133, 3) := by decide +kernel
theorem dX10_cofactor_13 : decode cX10_cofactor 13 = .ok (.ifCond .eq 6, 3) := by decide +kernel
theorem dX10_cofactor_16 : decode cX10_cofactor 16 = .ok (.bipush (-2), 2) := by decide +kernel
theorem dX10_cofactor_18 : decode cX10_cofactor 18 = .ok (.ireturn, 1) := by decide +kernel
theorem dX10_cofactor_19 : decode cX10_cofactor 19 = .ok (.aload_n 0, 1) := by decide +kernel
theorem dX10_cofactor_20 : decode cX10_cofactor 20 = .ok (.iload_n 2, 1) := by decide +kernel
theorem dX10_cofactor_21 : decode cX10_cofactor 21 = .ok (.iload_n 3, 1) := by decide +kernel
theorem dX10_cofactor_22 : decode cX10_cofactor 22 = .ok (.invokevirtual 275, 3) := by decide +kernel
theorem dX10_cofactor_25 : decode cX10_cofactor 25 = .ok (.aload_n 0, 1) := by decide +kernel
theorem dX10_cofactor_26 : decode cX10_cofactor 26 = .ok (.bipush 8, 2) := by decide +kernel
theorem dX10_cofactor_28 : decode cX10_cofactor 28 = .ok (.invokevirtual 94, 3) := by decide +kernel
theorem dX10_cofactor_31 : decode cX10_cofactor 31 = .ok (.ifCond .ne 9, 3) := by decide +kernel
theorem dX10_cofactor_34 : decode cX10_cofactor 34 = .ok (.aload_n 0, 1) := by decide +kernel
theorem dX10_cofactor_35 : decode cX10_cofactor 35 = .ok (.bipush 12, 2) := by decide +kernel
theorem dX10_cofactor_37 : decode cX10_cofactor 37 = .ok (.invokevirtual 105, 3) := by decide +kernel
theorem dX10_cofactor_40 : decode cX10_cofactor 40 = .ok (.aload_n 0, 1) := by decide +kernel
theorem dX10_cofactor_41 : decode cX10_cofactor 41 = .ok (.iload_n 3, 1) := by decide +kernel
theorem dX10_cofactor_42 : decode cX10_cofactor 42 = .ok (.invokevirtual 94, 3) := by decide +kernel
theorem dX10_cofactor_45 : decode cX10_cofactor 45 = .ok (.ifCond .le 30, 3) := by decide +kernel
theorem dX10_cofactor_48 : decode cX10_cofactor 48 = .ok (.aload_n 0, 1) := by decide +kernel
theorem dX10_cofactor_49 : decode cX10_cofactor 49 = .ok (.iload_n 3, 1) := by decide +kernel
theorem dX10_cofactor_50 : decode cX10_cofactor 50 = .ok (.bipush 9, 2) := by decide +kernel
theorem dX10_cofactor_52 : decode cX10_cofactor 52 = .ok (.invokevirtual 90, 3) := by decide +kernel
theorem dX10_cofactor_55 : decode cX10_cofactor 55 = .ok (.aload_n 0, 1) := by decide +kernel
theorem dX10_cofactor_56 : decode cX10_cofactor 56 = .ok (.bipush 9, 2) := by decide +kernel
theorem dX10_cofactor_58 : decode cX10_cofactor 58 = .ok (.bipush 8, 2) := by decide +kernel
theorem dX10_cofactor_60 : decode cX10_cofactor 60 = .ok (.bipush 10, 2) := by decide +kernel
theorem dX10_cofactor_62 : decode cX10_cofactor 62 = .ok (.invokevirtual 269, 3) := by decide +kernel
theorem dX10_cofactor_65 : decode cX10_cofactor 65 = .ok (.aload_n 0, 1) := by decide +kernel
theorem dX10_cofactor_66 : decode cX10_cofactor 66 = .ok (.bipush 12, 2) := by decide +kernel
theorem dX10_cofactor_68 : decode cX10_cofactor 68 = .ok (.bipush 10, 2) := by decide +kernel
theorem dX10_cofactor_70 : decode cX10_cofactor 70 = .ok (.bipush 11, 2) := by decide +kernel
theorem dX10_cofactor_72 : decode cX10_cofactor 72 = .ok (.invokevirtual 269, 3) := by decide +kernel
theorem dX10_cofactor_75 : decode cX10_cofactor 75 = .ok (.aload_n 0, 1) := by decide +kernel
theorem dX10_cofactor_76 : decode cX10_cofactor 76 = .ok (.iload_n 1, 1) := by decide +kernel
theorem dX10_cofactor_77 : decode cX10_cofactor 77 = .ok (.bipush 12, 2) := by decide +kernel
theorem dX10_cofactor_79 : decode cX10_cofactor 79 = .ok (.invokevirtual 109, 3) := by decide +kernel
theorem dX10_cofactor_82 : decode cX10_cofactor 82 = .ok (.ireturn, 1) := by decide +kernel
theorem dX10_compose_0 : decode cX10_compose 0 = .ok (.iload_n 1, 1) := by decide +kernel
theorem dX10_compose_1 : decode cX10_compose 1 = .ok (.invokestatic 98, 3) := by decide +kernel
theorem dX10_compose_4 : decode cX10_compose 4 = .ok (.ifCond .eq 12, 3) := by decide +kernel
theorem dX10_compose_7 : decode cX10_compose 7 = .ok (.aload_n 0, 1) := by decide +kernel
theorem dX10_compose_8 : decode cX10_compose 8 = .ok (.iload_n 2, 1) := by decide +kernel
theorem dX10_compose_9 : decode cX10_compose 9 = .ok (.iload_n 3, 1) := by decide +kernel
theorem dX10_compose_10 : decode cX10_compose 10 = .ok (.invokevirtual 133, 3) := by decide +kernel
theorem dX10_compose_13 : decode cX10_compose 13 = .ok (.ifCond .eq 6, 3) := by decide +kernel
theorem dX10_compose_16 : decode cX10_compose 16 = .ok (.bipush (-2), 2) := by decide +kernel
theorem dX10_compose_18 : decode cX10_compose 18 = .ok (.ireturn, 1) := by decide +kernel
theorem dX10_compose_19 : decode cX10_compose 19 = .ok (.aload_n 0, 1) := by decide +kernel
theorem dX10_compose_20 : decode cX10_compose 20 = .ok (.iload_n 2, 1) := by decide +kernel
theorem dX10_compose_21 : decode cX10_compose 21 = .ok (.invokevirtual 94, 3) := by decide +kernel
theorem dX10_compose_24 : decode cX10_compose 24 = .ok (.istore 4, 2) := by decide +kernel
theorem dX10_compose_26 : decode cX10_compose 26 = .ok (.aload_n 0, 1) := by decide +kernel
theorem dX10_compose_27 : decode cX10_compose 27 = .ok (.iload_n 3, 1) := by decide +kernel
theorem dX10_compose_28 : decode cX10_compose 28 = .ok (.invokevirtual 94, 3) := by decide +kernel
theorem dX10_compose_31 : decode cX10_compose 31 = .ok (.istore 5, 2) := by decide +kernel
theorem dX10_compose_33 : decode cX10_compose 33 = .ok (.iload 4, 2) := by decide +kernel
theorem dX10_compose_35 : decode cX10_compose 35 = .ok (.iconst 1, 1) := by decide +kernel
theorem dX10_compose_36 : decode cX10_compose 36 = .ok (.if_icmp .le 28, 3) := by decide +kernel
theorem dX10_compose_39 : decode cX10_compose 39 = .ok (.iload 5, 2) := by decide +kernel
theorem dX10_compose_41 : decode cX10_compose 41 = .ok (.iconst 1, 1) := by decide +kernel
theorem dX10_compose_42 : decode cX10_compose 42 = .ok (.if_icmp .le 22, 3) := by decide +kernel
theorem dX10_compose_45 : decode cX10_compose 45 = .ok (.iload 4, 2) := by decide +kernel
theorem dX10_compose_47 : decode cX10_compose 47 = .ok (.iconst 1, 1) := by decide +kernel
theorem dX10_compose_48 : decode cX10_compose 48 = .ok (.isub, 1) := by decide +kernel
theorem dX10_compose_49 : decode cX10_compose 49 = .ok (.iload 5, 2) := by decide +kernel
theorem dX10_compose_51 : decode cX10_compose 51 = .ok (.iconst 1, 1) := by decide +kernel
theorem dX10_compose_52 : decode cX10_compose 52 = .ok (.isub, 1) := by decide +kernel
theorem dX10_compose_53 : decode cX10_compose 53 = .ok (.imul, 1) := by decide +kernel
theorem dX10_compose_54 : decode cX10_compose 54 = .ok (.iconst 1, 1) := by decide +kernel
theorem dX10_compose_55 : decode cX10_compose 55 = .ok (.iadd, 1) := by decide +kernel
theorem dX10_compose_56 : decode cX10_compose 56 = .ok (.bipush 32, 2) := by decide +kernel
theorem dX10_compose_58 : decode cX10_compose 58 = .ok (.if_icmp .le 6, 3) := by decide +kernel
theorem dX10_compose_61 : decode cX10_compose 61 = .ok (.bipush (-4), 2) := by decide +kernel
theorem dX10_compose_63 : decode cX10_compose 63 = .ok (.ireturn, 1) := by decide +kernel
theorem dX10_compose_64 : decode cX10_compose 64 = .ok (.aload_n 0, 1) := by decide +kernel
theorem dX10_compose_65 : decode cX10_compose 65 = .ok (.bipush 8, 2) := by decide +kernel
theorem dX10_compose_67 : decode cX10_compose 67 = .ok (.invokevirtual 105, 3) := by decide +kernel
theorem dX10_compose_70 : decode cX10_compose 70 = .ok (.iload 4, 2) := by decide +kernel
theorem dX10_compose_72 : decode cX10_compose 72 = .ok (.iconst 1, 1) := by decide +kernel
theorem dX10_compose_73 : decode cX10_compose 73 = .ok (.isub, 1) := by decide +kernel
theorem dX10_compose_74 : decode cX10_compose 74 = .ok (.istore 6, 2) := by decide +kernel
theorem dX10_compose_76 : decode cX10_compose 76 = .ok (.iload 6, 2) := by decide +kernel
theorem dX10_compose_78 : decode cX10_compose 78 = .ok (.ifCond .lt 60, 3) := by decide +kernel
theorem dX10_compose_81 : decode cX10_compose 81 = .ok (.aload_n 0, 1) := by decide +kernel
theorem dX10_compose_82 : decode cX10_compose 82 = .ok (.bipush 8, 2) := by decide +kernel
theorem dX10_compose_84 : decode cX10_compose 84 = .ok (.iload_n 3, 1) := by decide +kernel
theorem dX10_compose_85 : decode cX10_compose 85 = .ok (.bipush 11, 2) := by decide +kernel
theorem dX10_compose_87 : decode cX10_compose 87 = .ok (.invokevirtual 146, 3) := by decide +kernel
theorem dX10_compose_90 : decode cX10_compose 90 = .ok (.aload_n 0, 1) := by decide +kernel
theorem dX10_compose_91 : decode cX10_compose 91 = .ok (.bipush 11, 2) := by decide +kernel
theorem dX10_compose_93 : decode cX10_compose 93 = .ok (.bipush 8, 2) := by decide +kernel
theorem dX10_compose_95 : decode cX10_compose 95 = .ok (.invokevirtual 90, 3) := by decide +kernel
theorem dX10_compose_98 : decode cX10_compose 98 = .ok (.aload_n 0, 1) := by decide +kernel
theorem dX10_compose_99 : decode cX10_compose 99 = .ok (.getfield 13, 3) := by decide +kernel
theorem dX10_compose_102 : decode cX10_compose 102 = .ok (.sipush 640, 3) := by decide +kernel
theorem dX10_compose_105 : decode cX10_compose 105 = .ok (.aload_n 0, 1) := by decide +kernel
theorem dX10_compose_106 : decode cX10_compose 106 = .ok (.getfield 13, 3) := by decide +kernel
theorem dX10_compose_109 : decode cX10_compose 109 = .ok (.sipush 640, 3) := by decide +kernel
theorem dX10_compose_112 : decode cX10_compose 112 = .ok (.iaload, 1) := by decide +kernel
theorem dX10_compose_113 : decode cX10_compose 113 = .ok (.aload_n 0, 1) := by decide +kernel
theorem dX10_compose_114 : decode cX10_compose 114 = .ok (.getfield 13, 3) := by decide +kernel
theorem dX10_compose_117 : decode cX10_compose 117 = .ok (.bipush 80, 2) := by decide +kernel
theorem dX10_compose_119 : decode cX10_compose 119 = .ok (.iload_n 2, 1) := by decide +kernel
theorem dX10_compose_120 : decode cX10_compose 120 = .ok (.imul, 1) := by decide +kernel
theorem dX10_compose_121 : decode cX10_compose 121 = .ok (.iload 6, 2) := by decide +kernel
theorem dX10_compose_123 : decode cX10_compose 123 = .ok (.iadd, 1) := by decide +kernel
theorem dX10_compose_124 : decode cX10_compose 124 = .ok (.iaload, 1) := by decide +kernel
theorem dX10_compose_125 : decode cX10_compose 125 = .ok (.iadd, 1) := by decide +kernel
theorem dX10_compose_126 : decode cX10_compose 126 = .ok (.aload_n 0, 1) := by decide +kernel
theorem dX10_compose_127 : decode cX10_compose 127 = .ok (.getfield 64, 3) := by decide +kernel
theorem dX10_compose_130 : decode cX10_compose 130 = .ok (.irem, 1) := by decide +kernel
theorem dX10_compose_131 : decode cX10_compose 131 = .ok (.iastore, 1) := by decide +kernel
theorem dX10_compose_132 : decode cX10_compose 132 = .ok (.iinc 6 (-1), 3) := by decide +kernel
theorem dX10_compose_135 : decode cX10_compose 135 = .ok (.goto (-59), 3) := by decide +kernel
theorem dX10_compose_138 : decode cX10_compose 138 = .ok (.aload_n 0, 1) := by decide +kernel
theorem dX10_compose_139 : decode cX10_compose 139 = .ok (.iload_n 1, 1) := by decide +kernel
theorem dX10_compose_140 : decode cX10_compose 140 = .ok (.bipush 8, 2) := by decide +kernel
theorem dX10_compose_142 : decode cX10_compose 142 = .ok (.invokevirtual 109, 3) := by decide +kernel
theorem dX10_compose_145 : decode cX10_compose 145 = .ok (.ireturn, 1) := by decide +kernel
theorem dX10_moveRow_0 : decode cX10_moveRow 0 = .ok (.aload_n 0, 1) := by decide +kernel
theorem dX10_moveRow_1 : decode cX10_moveRow 1 = .ok (.iload_n 1, 1) := by decide +kernel
theorem dX10_moveRow_2 : decode cX10_moveRow 2 = .ok (.invokevirtual 94, 3) := by decide +kernel
theorem dX10_moveRow_5 : decode cX10_moveRow 5 = .ok (.istore_n 3, 1) := by decide +kernel
theorem dX10_moveRow_6 : decode cX10_moveRow 6 = .ok (.iconst 0, 1) := by decide +kernel
theorem dX10_moveRow_7 : decode cX10_moveRow 7 = .ok (.istore 4, 2) := by decide +kernel
theorem dX10_moveRow_9 : decode cX10_moveRow 9 = .ok (.iload 4, 2) := by decide +kernel
theorem dX10_moveRow_11 : decode cX10_moveRow 11 = .ok (.iload_n 3, 1) := by decide +kernel
theorem dX10_moveRow_12 : decode cX10_moveRow 12 = .ok (.if_icmp .ge 73, 3) := by decide +kernel
theorem dX10_moveRow_15 : decode cX10_moveRow 15 = .ok (.iload_n 3, 1) := by decide +kernel
theorem dX10_moveRow_16 : decode cX10_moveRow 16 = .ok (.iconst 2, 1) := by decide +kernel
theorem dX10_moveRow_17 : decode cX10_moveRow 17 = .ok (.isub, 1) := by decide +kernel
theorem dX10_moveRow_18 : decode cX10_moveRow 18 = .ok (.istore 5, 2) := by decide +kernel
theorem dX10_moveRow_20 : decode cX10_moveRow 20 = .ok (.iload 5, 2) := by decide +kernel
theorem dX10_moveRow_22 : decode cX10_moveRow 22 = .ok (.iload 4, 2) := by decide +kernel
theorem dX10_moveRow_24 : decode cX10_moveRow 24 = .ok (.if_icmp .lt 55, 3) := by decide +kernel
theorem dX10_moveRow_27 : decode cX10_moveRow 27 = .ok (.aload_n 0, 1) := by decide +kernel
theorem dX10_moveRow_28 : decode cX10_moveRow 28 = .ok (.getfield 13, 3) := by decide +kernel
theorem dX10_moveRow_31 : decode cX10_moveRow 31 = .ok (.bipush 80, 2) := by decide +kernel
theorem dX10_moveRow_33 : decode cX10_moveRow 33 = .ok (.iload_n 1, 1) := by decide +kernel
theorem dX10_moveRow_34 : decode cX10_moveRow 34 = .ok (.imul, 1) := by decide +kernel
theorem dX10_moveRow_35 : decode cX10_moveRow 35 = .ok (.iload 5, 2) := by decide +kernel
theorem dX10_moveRow_37 : decode cX10_moveRow 37 = .ok (.iadd, 1) := by decide +kernel
theorem dX10_moveRow_38 : decode cX10_moveRow 38 = .ok (.aload_n 0, 1) := by decide +kernel
theorem dX10_moveRow_39 : decode cX10_moveRow 39 = .ok (.getfield 13, 3) := by decide +kernel
theorem dX10_moveRow_42 : decode cX10_moveRow 42 = .ok (.bipush 80, 2) := by decide +kernel
theorem dX10_moveRow_44 : decode cX10_moveRow 44 = .ok (.iload_n 1, 1) := by decide +kernel
theorem dX10_moveRow_45 : decode cX10_moveRow 45 = .ok (.imul, 1) := by decide +kernel
theorem dX10_moveRow_46 : decode cX10_moveRow 46 = .ok (.iload 5, 2) := by decide +kernel
theorem dX10_moveRow_48 : decode cX10_moveRow 48 = .ok (.iadd, 1) := by decide +kernel
theorem dX10_moveRow_49 : decode cX10_moveRow 49 = .ok (.iaload, 1) := by decide +kernel
theorem dX10_moveRow_50 : decode cX10_moveRow 50 = .ok (.iload_n 2, 1) := by decide +kernel
theorem dX10_moveRow_51 : decode cX10_moveRow 51 = .ok (.aload_n 0, 1) := by decide +kernel
theorem dX10_moveRow_52 : decode cX10_moveRow 52 = .ok (.getfield 13, 3) := by decide +kernel
theorem dX10_moveRow_55 : decode cX10_moveRow 55 = .ok (.bipush 80, 2) := by decide +kernel
theorem dX10_moveRow_57 : decode cX10_moveRow 57 = .ok (.iload_n 1, 1) := by decide +kernel
theorem dX10_moveRow_58 : decode cX10_moveRow 58 = .ok (.imul, 1) := by decide +kernel
theorem dX10_moveRow_59 : decode cX10_moveRow 59 = .ok (.iload 5, 2) := by decide +kernel
theorem dX10_moveRow_61 : decode cX10_moveRow 61 = .ok (.iadd, 1) := by decide +kernel
theorem dX10_moveRow_62 : decode cX10_moveRow 62 = .ok (.iconst 1, 1) := by decide +kernel
theorem dX10_moveRow_63 : decode cX10_moveRow 63 = .ok (.iadd, 1) := by decide +kernel
theorem dX10_moveRow_64 : decode cX10_moveRow 64 = .ok (.iaload, 1) := by decide +kernel
theorem dX10_moveRow_65 : decode cX10_moveRow 65 = .ok (.imul, 1) := by decide +kernel
theorem dX10_moveRow_66 : decode cX10_moveRow 66 = .ok (.iadd, 1) := by decide +kernel
theorem dX10_moveRow_67 : decode cX10_moveRow 67 = .ok (.aload_n 0, 1) := by decide +kernel
theorem dX10_moveRow_68 : decode cX10_moveRow 68 = .ok (.getfield 64, 3) := by decide +kernel
theorem dX10_moveRow_71 : decode cX10_moveRow 71 = .ok (.irem, 1) := by decide +kernel
theorem dX10_moveRow_72 : decode cX10_moveRow 72 = .ok (.iastore, 1) := by decide +kernel
theorem dX10_moveRow_73 : decode cX10_moveRow 73 = .ok (.iinc 5 (-1), 3) := by decide +kernel
theorem dX10_moveRow_76 : decode cX10_moveRow 76 = .ok (.goto (-56), 3) := by decide +kernel
theorem dX10_moveRow_79 : decode cX10_moveRow 79 = .ok (.iinc 4 1, 3) := by decide +kernel
theorem dX10_moveRow_82 : decode cX10_moveRow 82 = .ok (.goto (-73), 3) := by decide +kernel
theorem dX10_moveRow_85 : decode cX10_moveRow 85 = .ok (.return_, 1) := by decide +kernel
theorem dX10_move_0 : decode cX10_move 0 = .ok (.iload_n 1, 1) := by decide +kernel
theorem dX10_move_1 : decode cX10_move 1 = .ok (.invokestatic 98, 3) := by decide +kernel
theorem dX10_move_4 : decode cX10_move 4 = .ok (.ifCond .eq 10, 3) := by decide +kernel
theorem dX10_move_7 : decode cX10_move 7 = .ok (.iload_n 2, 1) := by decide +kernel
theorem dX10_move_8 : decode cX10_move 8 = .ok (.invokestatic 98, 3) := by decide +kernel
theorem dX10_move_11 : decode cX10_move 11 = .ok (.ifCond .ne 6, 3) := by decide +kernel
theorem dX10_move_14 : decode cX10_move 14 = .ok (.bipush (-2), 2) := by decide +kernel
theorem dX10_move_16 : decode cX10_move 16 = .ok (.ireturn, 1) := by decide +kernel
theorem dX10_move_17 : decode cX10_move 17 = .ok (.aload_n 0, 1) := by decide +kernel
theorem dX10_move_18 : decode cX10_move 18 = .ok (.iload_n 2, 1) := by decide +kernel
theorem dX10_move_19 : decode cX10_move 19 = .ok (.bipush 8, 2) := by decide +kernel
theorem dX10_move_21 : decode cX10_move 21 = .ok (.invokevirtual 90, 3) := by decide +kernel
theorem dX10_move_24 : decode cX10_move 24 = .ok (.aload_n 0, 1) := by decide +kernel
theorem dX10_move_25 : decode cX10_move 25 = .ok (.bipush 8, 2) := by decide +kernel
theorem dX10_move_27 : decode cX10_move 27 = .ok (.aload_n 0, 1) := by decide +kernel
theorem dX10_move_28 : decode cX10_move 28 = .ok (.iload_n 3, 1) := by decide +kernel
theorem dX10_move_29 : decode cX10_move 29 = .ok (.invokevirtual 102, 3) := by decide +kernel
theorem dX10_move_32 : decode cX10_move 32 = .ok (.invokevirtual 278, 3) := by decide +kernel
theorem dX10_move_35 : decode cX10_move 35 = .ok (.aload_n 0, 1) := by decide +kernel
theorem dX10_move_36 : decode cX10_move 36 = .ok (.iload_n 1, 1) := by decide +kernel
theorem dX10_move_37 : decode cX10_move 37 = .ok (.bipush 8, 2) := by decide +kernel
theorem dX10_move_39 : decode cX10_move 39 = .ok (.invokevirtual 109, 3) := by decide +kernel
theorem dX10_move_42 : decode cX10_move 42 = .ok (.ireturn, 1) := by decide +kernel
theorem dX10_worth_0 : decode cX10_worth 0 = .ok (.iconst 0, 1) := by decide +kernel
theorem dX10_worth_1 : decode cX10_worth 1 = .ok (.istore_n 3, 1) := by decide +kernel
theorem dX10_worth_2 : decode cX10_worth 2 = .ok (.aload_n 0, 1) := by decide +kernel
theorem dX10_worth_3 : decode cX10_worth 3 = .ok (.iload_n 1, 1) := by decide +kernel
theorem dX10_worth_4 : decode cX10_worth 4 = .ok (.invokevirtual 94, 3) := by decide +kernel
theorem dX10_worth_7 : decode cX10_worth 7 = .ok (.iconst 1, 1) := by decide +kernel
theorem dX10_worth_8 : decode cX10_worth 8 = .ok (.isub, 1) := by decide +kernel
theorem dX10_worth_9 : decode cX10_worth 9 = .ok (.istore 4, 2) := by decide +kernel
theorem dX10_worth_11 : decode cX10_worth 11 = .ok (.iload 4, 2) := by decide +kernel
theorem dX10_worth_13 : decode cX10_worth 13 = .ok (.ifCond .lt 31, 3) := by decide +kernel
theorem dX10_worth_16 : decode cX10_worth 16 = .ok (.iload_n 3, 1) := by decide +kernel
theorem dX10_worth_17 : decode cX10_worth 17 = .ok (.iload_n 2, 1) := by decide +kernel
theorem dX10_worth_18 : decode cX10_worth 18 = .ok (.imul, 1) := by decide +kernel
theorem dX10_worth_19 : decode cX10_worth 19 = .ok (.aload_n 0, 1) := by decide +kernel
theorem dX10_worth_20 : decode cX10_worth 20 = .ok (.getfield 13, 3) := by decide +kernel
theorem dX10_worth_23 : decode cX10_worth 23 = .ok (.bipush 80, 2) := by decide +kernel
theorem dX10_worth_25 : decode cX10_worth 25 = .ok (.iload_n 1, 1) := by decide +kernel
theorem dX10_worth_26 : decode cX10_worth 26 = .ok (.imul, 1) := by decide +kernel
theorem dX10_worth_27 : decode cX10_worth 27 = .ok (.iload 4, 2) := by decide +kernel
theorem dX10_worth_29 : decode cX10_worth 29 = .ok (.iadd, 1) := by decide +kernel
theorem dX10_worth_30 : decode cX10_worth 30 = .ok (.iaload, 1) := by decide +kernel
theorem dX10_worth_31 : decode cX10_worth 31 = .ok (.iadd, 1) := by decide +kernel
theorem dX10_worth_32 : decode cX10_worth 32 = .ok (.aload_n 0, 1) := by decide +kernel
theorem dX10_worth_33 : decode cX10_worth 33 = .ok (.getfield 64, 3) := by decide +kernel
theorem dX10_worth_36 : decode cX10_worth 36 = .ok (.irem, 1) := by decide +kernel
theorem dX10_worth_37 : decode cX10_worth 37 = .ok (.istore_n 3, 1) := by decide +kernel
theorem dX10_worth_38 : decode cX10_worth 38 = .ok (.iinc 4 (-1), 3) := by decide +kernel
theorem dX10_worth_41 : decode cX10_worth 41 = .ok (.goto (-30), 3) := by decide +kernel
theorem dX10_worth_44 : decode cX10_worth 44 = .ok (.iload_n 3, 1) := by decide +kernel
theorem dX10_worth_45 : decode cX10_worth 45 = .ok (.ireturn, 1) := by decide +kernel
theorem dX10_root_0 : decode cX10_root 0 = .ok (.iload_n 1, 1) := by decide +kernel
theorem dX10_root_1 : decode cX10_root 1 = .ok (.invokestatic 98, 3) := by decide +kernel
theorem dX10_root_4 : decode cX10_root 4 = .ok (.ifCond .ne 6, 3) := by decide +kernel
theorem dX10_root_7 : decode cX10_root 7 = .ok (.bipush (-2), 2) := by decide +kernel
theorem dX10_root_9 : decode cX10_root 9 = .ok (.ireturn, 1) := by decide +kernel
theorem dX10_root_10 : decode cX10_root 10 = .ok (.aload_n 0, 1) := by decide +kernel
theorem dX10_root_11 : decode cX10_root 11 = .ok (.iload_n 1, 1) := by decide +kernel
theorem dX10_root_12 : decode cX10_root 12 = .ok (.invokevirtual 94, 3) := by decide +kernel
theorem dX10_root_15 : decode cX10_root 15 = .ok (.ifCond .ne 6, 3) := by decide +kernel
theorem dX10_root_18 : decode cX10_root 18 = .ok (.bipush (-3), 2) := by decide +kernel
theorem dX10_root_20 : decode cX10_root 20 = .ok (.ireturn, 1) := by decide +kernel
theorem dX10_root_21 : decode cX10_root 21 = .ok (.iload_n 2, 1) := by decide +kernel
theorem dX10_root_22 : decode cX10_root 22 = .ok (.iconst (-1), 1) := by decide +kernel
theorem dX10_root_23 : decode cX10_root 23 = .ok (.if_icmp .ge 5, 3) := by decide +kernel
theorem dX10_root_26 : decode cX10_root 26 = .ok (.iconst (-1), 1) := by decide +kernel
theorem dX10_root_27 : decode cX10_root 27 = .ok (.ireturn, 1) := by decide +kernel
theorem dX10_root_28 : decode cX10_root 28 = .ok (.iconst 0, 1) := by decide +kernel
theorem dX10_root_29 : decode cX10_root 29 = .ok (.istore_n 3, 1) := by decide +kernel
theorem dX10_root_30 : decode cX10_root 30 = .ok (.iconst 0, 1) := by decide +kernel
theorem dX10_root_31 : decode cX10_root 31 = .ok (.istore 4, 2) := by decide +kernel
theorem dX10_root_33 : decode cX10_root 33 = .ok (.iload 4, 2) := by decide +kernel
theorem dX10_root_35 : decode cX10_root 35 = .ok (.aload_n 0, 1) := by decide +kernel
theorem dX10_root_36 : decode cX10_root 36 = .ok (.getfield 64, 3) := by decide +kernel
theorem dX10_root_39 : decode cX10_root 39 = .ok (.if_icmp .ge 33, 3) := by decide +kernel
theorem dX10_root_42 : decode cX10_root 42 = .ok (.aload_n 0, 1) := by decide +kernel
theorem dX10_root_43 : decode cX10_root 43 = .ok (.iload_n 1, 1) := by decide +kernel
theorem dX10_root_44 : decode cX10_root 44 = .ok (.iload 4, 2) := by decide +kernel
theorem dX10_root_46 : decode cX10_root 46 = .ok (.invokevirtual 281, 3) := by decide +kernel
theorem dX10_root_49 : decode cX10_root 49 = .ok (.ifCond .eq 6, 3) := by decide +kernel
theorem dX10_root_52 : decode cX10_root 52 = .ok (.goto 14, 3) := by decide +kernel
theorem dX10_root_55 : decode cX10_root 55 = .ok (.iload_n 3, 1) := by decide +kernel
theorem dX10_root_56 : decode cX10_root 56 = .ok (.iload_n 2, 1) := by decide +kernel
theorem dX10_root_57 : decode cX10_root 57 = .ok (.if_icmp .ne 6, 3) := by decide +kernel
theorem dX10_root_60 : decode cX10_root 60 = .ok (.iload 4, 2) := by decide +kernel
theorem dX10_root_62 : decode cX10_root 62 = .ok (.ireturn, 1) := by decide +kernel
theorem dX10_root_63 : decode cX10_root 63 = .ok (.iinc 3 1, 3) := by decide +kernel
theorem dX10_root_66 : decode cX10_root 66 = .ok (.iinc 4 1, 3) := by decide +kernel
theorem dX10_root_69 : decode cX10_root 69 = .ok (.goto (-36), 3) := by decide +kernel
theorem dX10_root_72 : decode cX10_root 72 = .ok (.iload_n 2, 1) := by decide +kernel
theorem dX10_root_73 : decode cX10_root 73 = .ok (.ifCond .ge 7, 3) := by decide +kernel
theorem dX10_root_76 : decode cX10_root 76 = .ok (.iload_n 3, 1) := by decide +kernel
theorem dX10_root_77 : decode cX10_root 77 = .ok (.goto 4, 3) := by decide +kernel
theorem dX10_root_80 : decode cX10_root 80 = .ok (.iconst (-1), 1) := by decide +kernel
theorem dX10_root_81 : decode cX10_root 81 = .ok (.ireturn, 1) := by decide +kernel
theorem dX10_order_0 : decode cX10_order 0 = .ok (.iload_n 1, 1) := by decide +kernel
theorem dX10_order_1 : decode cX10_order 1 = .ok (.invokestatic 98, 3) := by decide +kernel
theorem dX10_order_4 : decode cX10_order 4 = .ok (.ifCond .ne 6, 3) := by decide +kernel
theorem dX10_order_7 : decode cX10_order 7 = .ok (.bipush (-2), 2) := by decide +kernel
theorem dX10_order_9 : decode cX10_order 9 = .ok (.ireturn, 1) := by decide +kernel
theorem dX10_order_10 : decode cX10_order 10 = .ok (.aload_n 0, 1) := by decide +kernel
theorem dX10_order_11 : decode cX10_order 11 = .ok (.iload_n 1, 1) := by decide +kernel
theorem dX10_order_12 : decode cX10_order 12 = .ok (.invokevirtual 94, 3) := by decide +kernel
theorem dX10_order_15 : decode cX10_order 15 = .ok (.ifCond .ne 6, 3) := by decide +kernel
theorem dX10_order_18 : decode cX10_order 18 = .ok (.bipush (-3), 2) := by decide +kernel
theorem dX10_order_20 : decode cX10_order 20 = .ok (.ireturn, 1) := by decide +kernel
theorem dX10_order_21 : decode cX10_order 21 = .ok (.aload_n 0, 1) := by decide +kernel
theorem dX10_order_22 : decode cX10_order 22 = .ok (.iload_n 1, 1) := by decide +kernel
theorem dX10_order_23 : decode cX10_order 23 = .ok (.bipush 8, 2) := by decide +kernel
theorem dX10_order_25 : decode cX10_order 25 = .ok (.invokevirtual 90, 3) := by decide +kernel
theorem dX10_order_28 : decode cX10_order 28 = .ok (.aload_n 0, 1) := by decide +kernel
theorem dX10_order_29 : decode cX10_order 29 = .ok (.bipush 8, 2) := by decide +kernel
theorem dX10_order_31 : decode cX10_order 31 = .ok (.aload_n 0, 1) := by decide +kernel
theorem dX10_order_32 : decode cX10_order 32 = .ok (.iload_n 2, 1) := by decide +kernel
theorem dX10_order_33 : decode cX10_order 33 = .ok (.invokevirtual 102, 3) := by decide +kernel
theorem dX10_order_36 : decode cX10_order 36 = .ok (.invokevirtual 278, 3) := by decide +kernel
theorem dX10_order_39 : decode cX10_order 39 = .ok (.iconst 0, 1) := by decide +kernel
theorem dX10_order_40 : decode cX10_order 40 = .ok (.istore_n 3, 1) := by decide +kernel
theorem dX10_order_41 : decode cX10_order 41 = .ok (.aload_n 0, 1) := by decide +kernel
theorem dX10_order_42 : decode cX10_order 42 = .ok (.getfield 13, 3) := by decide +kernel
theorem dX10_order_45 : decode cX10_order 45 = .ok (.sipush 640, 3) := by decide +kernel
theorem dX10_order_48 : decode cX10_order 48 = .ok (.iload_n 3, 1) := by decide +kernel
theorem dX10_order_49 : decode cX10_order 49 = .ok (.iadd, 1) := by decide +kernel
theorem dX10_order_50 : decode cX10_order 50 = .ok (.iaload, 1) := by decide +kernel
theorem dX10_order_51 : decode cX10_order 51 = .ok (.ifCond .ne 9, 3) := by decide +kernel
theorem dX10_order_54 : decode cX10_order 54 = .ok (.iinc 3 1, 3) := by decide +kernel
theorem dX10_order_57 : decode cX10_order 57 = .ok (.goto (-16), 3) := by decide +kernel
theorem dX10_order_60 : decode cX10_order 60 = .ok (.iload_n 3, 1) := by decide +kernel
theorem dX10_order_61 : decode cX10_order 61 = .ok (.ireturn, 1) := by decide +kernel
theorem dX10_isPlace_0 : decode cX10_isPlace 0 = .ok (.iload_n 1, 1) := by decide +kernel
theorem dX10_isPlace_1 : decode cX10_isPlace 1 = .ok (.iconst 0, 1) := by decide +kernel
theorem dX10_isPlace_2 : decode cX10_isPlace 2 = .ok (.aload_n 0, 1) := by decide +kernel
theorem dX10_isPlace_3 : decode cX10_isPlace 3 = .ok (.getfield 284, 3) := by decide +kernel
theorem dX10_isPlace_6 : decode cX10_isPlace 6 = .ok (.iconst 1, 1) := by decide +kernel
theorem dX10_isPlace_7 : decode cX10_isPlace 7 = .ok (.isub, 1) := by decide +kernel
theorem dX10_isPlace_8 : decode cX10_isPlace 8 = .ok (.invokestatic 86, 3) := by decide +kernel
theorem dX10_isPlace_11 : decode cX10_isPlace 11 = .ok (.ireturn, 1) := by decide +kernel
theorem dX10_place_0 : decode cX10_place 0 = .ok (.aload_n 0, 1) := by decide +kernel
theorem dX10_place_1 : decode cX10_place 1 = .ok (.getfield 284, 3) := by decide +kernel
theorem dX10_place_4 : decode cX10_place 4 = .ok (.bipush 16, 2) := by decide +kernel
theorem dX10_place_6 : decode cX10_place 6 = .ok (.if_icmp .ne 6, 3) := by decide +kernel
theorem dX10_place_9 : decode cX10_place 9 = .ok (.bipush (-4), 2) := by decide +kernel
theorem dX10_place_11 : decode cX10_place 11 = .ok (.ireturn, 1) := by decide +kernel
theorem dX10_place_12 : decode cX10_place 12 = .ok (.aload_n 0, 1) := by decide +kernel
theorem dX10_place_13 : decode cX10_place 13 = .ok (.getfield 39, 3) := by decide +kernel
theorem dX10_place_16 : decode cX10_place 16 = .ok (.aload_n 0, 1) := by decide +kernel
theorem dX10_place_17 : decode cX10_place 17 = .ok (.getfield 284, 3) := by decide +kernel
theorem dX10_place_20 : decode cX10_place 20 = .ok (.aload_n 0, 1) := by decide +kernel
theorem dX10_place_21 : decode cX10_place 21 = .ok (.iload_n 1, 1) := by decide +kernel
theorem dX10_place_22 : decode cX10_place 22 = .ok (.invokevirtual 102, 3) := by decide +kernel
theorem dX10_place_25 : decode cX10_place 25 = .ok (.iastore, 1) := by decide +kernel
theorem dX10_place_26 : decode cX10_place 26 = .ok (.aload_n 0, 1) := by decide +kernel
theorem dX10_place_27 : decode cX10_place 27 = .ok (.getfield 42, 3) := by decide +kernel
theorem dX10_place_30 : decode cX10_place 30 = .ok (.aload_n 0, 1) := by decide +kernel
theorem dX10_place_31 : decode cX10_place 31 = .ok (.getfield 284, 3) := by decide +kernel
theorem dX10_place_34 : decode cX10_place 34 = .ok (.iconst 0, 1) := by decide +kernel
theorem dX10_place_35 : decode cX10_place 35 = .ok (.iastore, 1) := by decide +kernel
theorem dX10_place_36 : decode cX10_place 36 = .ok (.aload_n 0, 1) := by decide +kernel
theorem dX10_place_37 : decode cX10_place 37 = .ok (.dup, 1) := by decide +kernel
theorem dX10_place_38 : decode cX10_place 38 = .ok (.getfield 284, 3) := by decide +kernel
theorem dX10_place_41 : decode cX10_place 41 = .ok (.iconst 1, 1) := by decide +kernel
theorem dX10_place_42 : decode cX10_place 42 = .ok (.iadd, 1) := by decide +kernel
theorem dX10_place_43 : decode cX10_place 43 = .ok (.putfield 284, 3) := by decide +kernel
theorem dX10_place_46 : decode cX10_place 46 = .ok (.aload_n 0, 1) := by decide +kernel
theorem dX10_place_47 : decode cX10_place 47 = .ok (.getfield 284, 3) := by decide +kernel
theorem dX10_place_50 : decode cX10_place 50 = .ok (.iconst 1, 1) := by decide +kernel
theorem dX10_place_51 : decode cX10_place 51 = .ok (.isub, 1) := by decide +kernel
theorem dX10_place_52 : decode cX10_place 52 = .ok (.ireturn, 1) := by decide +kernel
theorem dX10_leave_0 : decode cX10_leave 0 = .ok (.aload_n 0, 1) := by decide +kernel
theorem dX10_leave_1 : decode cX10_leave 1 = .ok (.getfield 284, 3) := by decide +kernel
theorem dX10_leave_4 : decode cX10_leave 4 = .ok (.istore_n 1, 1) := by decide +kernel
theorem dX10_leave_5 : decode cX10_leave 5 = .ok (.aload_n 0, 1) := by decide +kernel
theorem dX10_leave_6 : decode cX10_leave 6 = .ok (.iconst 0, 1) := by decide +kernel
theorem dX10_leave_7 : decode cX10_leave 7 = .ok (.putfield 284, 3) := by decide +kernel
theorem dX10_leave_10 : decode cX10_leave 10 = .ok (.iload_n 1, 1) := by decide +kernel
theorem dX10_leave_11 : decode cX10_leave 11 = .ok (.ireturn, 1) := by decide +kernel
theorem dX10_see_0 : decode cX10_see 0 = .ok (.aload_n 0, 1) := by decide +kernel
theorem dX10_see_1 : decode cX10_see 1 = .ok (.iload_n 1, 1) := by decide +kernel
theorem dX10_see_2 : decode cX10_see 2 = .ok (.invokevirtual 287, 3) := by decide +kernel
theorem dX10_see_5 : decode cX10_see 5 = .ok (.ifCond .ne 6, 3) := by decide +kernel
theorem dX10_see_8 : decode cX10_see 8 = .ok (.bipush (-2), 2) := by decide +kernel
theorem dX10_see_10 : decode cX10_see 10 = .ok (.ireturn, 1) := by decide +kernel
theorem dX10_see_11 : decode cX10_see 11 = .ok (.aload_n 0, 1) := by decide +kernel
theorem dX10_see_12 : decode cX10_see 12 = .ok (.getfield 42, 3) := by decide +kernel
theorem dX10_see_15 : decode cX10_see 15 = .ok (.iload_n 1, 1) := by decide +kernel
theorem dX10_see_16 : decode cX10_see 16 = .ok (.iaload, 1) := by decide +kernel
theorem dX10_see_17 : decode cX10_see 17 = .ok (.istore_n 3, 1) := by decide +kernel
theorem dX10_see_18 : decode cX10_see 18 = .ok (.aload_n 0, 1) := by decide +kernel
theorem dX10_see_19 : decode cX10_see 19 = .ok (.getfield 42, 3) := by decide +kernel
theorem dX10_see_22 : decode cX10_see 22 = .ok (.iload_n 1, 1) := by decide +kernel
theorem dX10_see_23 : decode cX10_see 23 = .ok (.aload_n 0, 1) := by decide +kernel
theorem dX10_see_24 : decode cX10_see 24 = .ok (.iload_n 2, 1) := by decide +kernel
theorem dX10_see_25 : decode cX10_see 25 = .ok (.invokevirtual 102, 3) := by decide +kernel
theorem dX10_see_28 : decode cX10_see 28 = .ok (.iastore, 1) := by decide +kernel
theorem dX10_see_29 : decode cX10_see 29 = .ok (.iload_n 3, 1) := by decide +kernel
theorem dX10_see_30 : decode cX10_see 30 = .ok (.ireturn, 1) := by decide +kernel
theorem dX10_told_0 : decode cX10_told 0 = .ok (.aload_n 0, 1) := by decide +kernel
theorem dX10_told_1 : decode cX10_told 1 = .ok (.iload_n 1, 1) := by decide +kernel
theorem dX10_told_2 : decode cX10_told 2 = .ok (.invokevirtual 287, 3) := by decide +kernel
theorem dX10_told_5 : decode cX10_told 5 = .ok (.ifCond .eq 12, 3) := by decide +kernel
theorem dX10_told_8 : decode cX10_told 8 = .ok (.iload_n 2, 1) := by decide +kernel
theorem dX10_told_9 : decode cX10_told 9 = .ok (.iconst 0, 1) := by decide +kernel
theorem dX10_told_10 : decode cX10_told 10 = .ok (.iconst 1, 1) := by decide +kernel
theorem dX10_told_11 : decode cX10_told 11 = .ok (.invokestatic 86, 3) := by decide +kernel
theorem dX10_told_14 : decode cX10_told 14 = .ok (.ifCond .ne 8, 3) := by decide +kernel
theorem dX10_told_17 : decode cX10_told 17 = .ok (.bipush (-2), 2) := by decide +kernel
theorem dX10_told_19 : decode cX10_told 19 = .ok (.goto 22, 3) := by decide +kernel
theorem dX10_told_22 : decode cX10_told 22 = .ok (.iload_n 2, 1) := by decide +kernel
theorem dX10_told_23 : decode cX10_told 23 = .ok (.ifCond .ne 12, 3) := by decide +kernel
theorem dX10_told_26 : decode cX10_told 26 = .ok (.aload_n 0, 1) := by decide +kernel
theorem dX10_told_27 : decode cX10_told 27 = .ok (.getfield 39, 3) := by decide +kernel
theorem dX10_told_30 : decode cX10_told 30 = .ok (.iload_n 1, 1) := by decide +kernel
theorem dX10_told_31 : decode cX10_told 31 = .ok (.iaload, 1) := by decide +kernel
theorem dX10_told_32 : decode cX10_told 32 = .ok (.goto 9, 3) := by decide +kernel
theorem dX10_told_35 : decode cX10_told 35 = .ok (.aload_n 0, 1) := by decide +kernel
theorem dX10_told_36 : decode cX10_told 36 = .ok (.getfield 42, 3) := by decide +kernel
theorem dX10_told_39 : decode cX10_told 39 = .ok (.iload_n 1, 1) := by decide +kernel
theorem dX10_told_40 : decode cX10_told 40 = .ok (.iaload, 1) := by decide +kernel
theorem dX10_told_41 : decode cX10_told 41 = .ok (.ireturn, 1) := by decide +kernel
theorem dX10_value_0 : decode cX10_value 0 = .ok (.iload_n 1, 1) := by decide +kernel
theorem dX10_value_1 : decode cX10_value 1 = .ok (.invokestatic 98, 3) := by decide +kernel
theorem dX10_value_4 : decode cX10_value 4 = .ok (.ifCond .eq 25, 3) := by decide +kernel
theorem dX10_value_7 : decode cX10_value 7 = .ok (.aload_n 0, 1) := by decide +kernel
theorem dX10_value_8 : decode cX10_value 8 = .ok (.iload_n 2, 1) := by decide +kernel
theorem dX10_value_9 : decode cX10_value 9 = .ok (.invokevirtual 287, 3) := by decide +kernel
theorem dX10_value_12 : decode cX10_value 12 = .ok (.ifCond .eq 17, 3) := by decide +kernel
theorem dX10_value_15 : decode cX10_value 15 = .ok (.aload_n 0, 1) := by decide +kernel
theorem dX10_value_16 : decode cX10_value 16 = .ok (.iload_n 1, 1) := by decide +kernel
theorem dX10_value_17 : decode cX10_value 17 = .ok (.aload_n 0, 1) := by decide +kernel
theorem dX10_value_18 : decode cX10_value 18 = .ok (.getfield 39, 3) := by decide +kernel
theorem dX10_value_21 : decode cX10_value 21 = .ok (.iload_n 2, 1) := by decide +kernel
theorem dX10_value_22 : decode cX10_value 22 = .ok (.iaload, 1) := by decide +kernel
theorem dX10_value_23 : decode cX10_value 23 = .ok (.invokevirtual 281, 3) := by decide +kernel
theorem dX10_value_26 : decode cX10_value 26 = .ok (.goto 5, 3) := by decide +kernel
theorem dX10_value_29 : decode cX10_value 29 = .ok (.bipush (-2), 2) := by decide +kernel
theorem dX10_value_31 : decode cX10_value 31 = .ok (.ireturn, 1) := by decide +kernel
theorem dX10_look_0 : decode cX10_look 0 = .ok (.iload_n 1, 1) := by decide +kernel
theorem dX10_look_1 : decode cX10_look 1 = .ok (.invokestatic 98, 3) := by decide +kernel
theorem dX10_look_4 : decode cX10_look 4 = .ok (.ifCond .ne 6, 3) := by decide +kernel
theorem dX10_look_7 : decode cX10_look 7 = .ok (.bipush (-2), 2) := by decide +kernel
theorem dX10_look_9 : decode cX10_look 9 = .ok (.ireturn, 1) := by decide +kernel
theorem dX10_look_10 : decode cX10_look 10 = .ok (.iconst 0, 1) := by decide +kernel
theorem dX10_look_11 : decode cX10_look 11 = .ok (.istore_n 2, 1) := by decide +kernel
theorem dX10_look_12 : decode cX10_look 12 = .ok (.iload_n 2, 1) := by decide +kernel
theorem dX10_look_13 : decode cX10_look 13 = .ok (.aload_n 0, 1) := by decide +kernel
theorem dX10_look_14 : decode cX10_look 14 = .ok (.getfield 284, 3) := by decide +kernel
theorem dX10_look_17 : decode cX10_look 17 = .ok (.if_icmp .ge 26, 3) := by decide +kernel
theorem dX10_look_20 : decode cX10_look 20 = .ok (.aload_n 0, 1) := by decide +kernel
theorem dX10_look_21 : decode cX10_look 21 = .ok (.getfield 42, 3) := by decide +kernel
theorem dX10_look_24 : decode cX10_look 24 = .ok (.iload_n 2, 1) := by decide +kernel
theorem dX10_look_25 : decode cX10_look 25 = .ok (.aload_n 0, 1) := by decide +kernel
theorem dX10_look_26 : decode cX10_look 26 = .ok (.iload_n 1, 1) := by decide +kernel
theorem dX10_look_27 : decode cX10_look 27 = .ok (.aload_n 0, 1) := by decide +kernel
theorem dX10_look_28 : decode cX10_look 28 = .ok (.getfield 39, 3) := by decide +kernel
theorem dX10_look_31 : decode cX10_look 31 = .ok (.iload_n 2, 1) := by decide +kernel
theorem dX10_look_32 : decode cX10_look 32 = .ok (.iaload, 1) := by decide +kernel
theorem dX10_look_33 : decode cX10_look 33 = .ok (.invokevirtual 281, 3) := by decide +kernel
theorem dX10_look_36 : decode cX10_look 36 = .ok (.iastore, 1) := by decide +kernel
theorem dX10_look_37 : decode cX10_look 37 = .ok (.iinc 2 1, 3) := by decide +kernel
theorem dX10_look_40 : decode cX10_look 40 = .ok (.goto (-28), 3) := by decide +kernel
theorem dX10_look_43 : decode cX10_look 43 = .ok (.aload_n 0, 1) := by decide +kernel
theorem dX10_look_44 : decode cX10_look 44 = .ok (.getfield 284, 3) := by decide +kernel
theorem dX10_look_47 : decode cX10_look 47 = .ok (.ireturn, 1) := by decide +kernel
theorem dX10_solve_0 : decode cX10_solve 0 = .ok (.aload_n 0, 1) := by decide +kernel
theorem dX10_solve_1 : decode cX10_solve 1 = .ok (.iload_n 3, 1) := by decide +kernel
theorem dX10_solve_2 : decode cX10_solve 2 = .ok (.invokevirtual 105, 3) := by decide +kernel
theorem dX10_solve_5 : decode cX10_solve 5 = .ok (.iconst 0, 1) := by decide +kernel
theorem dX10_solve_6 : decode cX10_solve 6 = .ok (.istore 4, 2) := by decide +kernel
theorem dX10_solve_8 : decode cX10_solve 8 = .ok (.iconst 0, 1) := by decide +kernel
theorem dX10_solve_9 : decode cX10_solve 9 = .ok (.istore 5, 2) := by decide +kernel
theorem dX10_solve_11 : decode cX10_solve 11 = .ok (.iload 5, 2) := by decide +kernel
theorem dX10_solve_13 : decode cX10_solve 13 = .ok (.iload_n 2, 1) := by decide +kernel
theorem dX10_solve_14 : decode cX10_solve 14 = .ok (.if_icmp .ge 308, 3) := by decide +kernel
theorem dX10_solve_17 : decode cX10_solve 17 = .ok (.iload 4, 2) := by decide +kernel
theorem dX10_solve_19 : decode cX10_solve 19 = .ok (.istore 6, 2) := by decide +kernel
theorem dX10_solve_21 : decode cX10_solve 21 = .ok (.iload 6, 2) := by decide +kernel
theorem dX10_solve_23 : decode cX10_solve 23 = .ok (.iload_n 1, 1) := by decide +kernel
theorem dX10_solve_24 : decode cX10_solve 24 = .ok (.if_icmp .ge 25, 3) := by decide +kernel
theorem dX10_solve_27 : decode cX10_solve 27 = .ok (.aload_n 0, 1) := by decide +kernel
theorem dX10_solve_28 : decode cX10_solve 28 = .ok (.getfield 45, 3) := by decide +kernel
theorem dX10_solve_31 : decode cX10_solve 31 = .ok (.bipush 17, 2) := by decide +kernel
theorem dX10_solve_33 : decode cX10_solve 33 = .ok (.iload 6, 2) := by decide +kernel
theorem dX10_solve_35 : decode cX10_solve 35 = .ok (.imul, 1) := by decide +kernel
theorem dX10_solve_36 : decode cX10_solve 36 = .ok (.iload 5, 2) := by decide +kernel
theorem dX10_solve_38 : decode cX10_solve 38 = .ok (.iadd, 1) := by decide +kernel
theorem dX10_solve_39 : decode cX10_solve 39 = .ok (.iaload, 1) := by decide +kernel
theorem dX10_solve_40 : decode cX10_solve 40 = .ok (.ifCond .ne 9, 3) := by decide +kernel
theorem dX10_solve_43 : decode cX10_solve 43 = .ok (.iinc 6 1, 3) := by decide +kernel
theorem dX10_solve_46 : decode cX10_solve 46 = .ok (.goto (-25), 3) := by decide +kernel
theorem dX10_solve_49 : decode cX10_solve 49 = .ok (.iload 6, 2) := by decide +kernel
theorem dX10_solve_51 : decode cX10_solve 51 = .ok (.iload_n 1, 1) := by decide +kernel
theorem dX10_solve_52 : decode cX10_solve 52 = .ok (.if_icmp .ne 6, 3) := by decide +kernel
theorem dX10_solve_55 : decode cX10_solve 55 = .ok (.goto 261, 3) := by decide +kernel
theorem dX10_solve_58 : decode cX10_solve 58 = .ok (.iconst 0, 1) := by decide +kernel
theorem dX10_solve_59 : decode cX10_solve 59 = .ok (.istore 7, 2) := by decide +kernel
theorem dX10_solve_61 : decode cX10_solve 61 = .ok (.iload 7, 2) := by decide +kernel
theorem dX10_solve_63 : decode cX10_solve 63 = .ok (.bipush 17, 2) := by decide +kernel
theorem dX10_solve_65 : decode cX10_solve 65 = .ok (.if_icmp .ge 65, 3) := by decide +kernel
theorem dX10_solve_68 : decode cX10_solve 68 = .ok (.aload_n 0, 1) := by decide +kernel
theorem dX10_solve_69 : decode cX10_solve 69 = .ok (.getfield 45, 3) := by decide +kernel
theorem dX10_solve_72 : decode cX10_solve 72 = .ok (.bipush 17, 2) := by decide +kernel
theorem dX10_solve_74 : decode cX10_solve 74 = .ok (.iload 6, 2) := by decide +kernel
theorem dX10_solve_76 : decode cX10_solve 76 = .ok (.imul, 1) := by decide +kernel
theorem dX10_solve_77 : decode cX10_solve 77 = .ok (.iload 7, 2) := by decide +kernel
theorem dX10_solve_79 : decode cX10_solve 79 = .ok (.iadd, 1) := by decide +kernel
theorem dX10_solve_80 : decode cX10_solve 80 = .ok (.iaload, 1) := by decide +kernel
theorem dX10_solve_81 : decode cX10_solve 81 = .ok (.istore 8, 2) := by decide +kernel
theorem dX10_solve_83 : decode cX10_solve 83 = .ok (.aload_n 0, 1) := by decide +kernel
theorem dX10_solve_84 : decode cX10_solve 84 = .ok (.getfield 45, 3) := by decide +kernel
theorem dX10_solve_87 : decode cX10_solve 87 = .ok (.bipush 17, 2) := by decide +kernel
theorem dX10_solve_89 : decode cX10_solve 89 = .ok (.iload 6, 2) := by decide +kernel
theorem dX10_solve_91 : decode cX10_solve 91 = .ok (.imul, 1) := by decide +kernel
theorem dX10_solve_92 : decode cX10_solve 92 = .ok (.iload 7, 2) := by decide +kernel
theorem dX10_solve_94 : decode cX10_solve 94 = .ok (.iadd, 1) := by decide +kernel
theorem dX10_solve_95 : decode cX10_solve 95 = .ok (.aload_n 0, 1) := by decide +kernel
theorem dX10_solve_96 : decode cX10_solve 96 = .ok (.getfield 45, 3) := by decide +kernel
theorem dX10_solve_99 : decode cX10_solve 99 = .ok (.bipush 17, 2) := by decide +kernel
theorem dX10_solve_101 : decode cX10_solve 101 = .ok (.iload 4, 2) := by decide +kernel
theorem dX10_solve_103 : decode cX10_solve 103 = .ok (.imul, 1) := by decide +kernel
theorem dX10_solve_104 : decode cX10_solve 104 = .ok (.iload 7, 2) := by decide +kernel
theorem dX10_solve_106 : decode cX10_solve 106 = .ok (.iadd, 1) := by decide +kernel
theorem dX10_solve_107 : decode cX10_solve 107 = .ok (.iaload, 1) := by decide +kernel
theorem dX10_solve_108 : decode cX10_solve 108 = .ok (.iastore, 1) := by decide +kernel
theorem dX10_solve_109 : decode cX10_solve 109 = .ok (.aload_n 0, 1) := by decide +kernel
theorem dX10_solve_110 : decode cX10_solve 110 = .ok (.getfield 45, 3) := by decide +kernel
theorem dX10_solve_113 : decode cX10_solve 113 = .ok (.bipush 17, 2) := by decide +kernel
theorem dX10_solve_115 : decode cX10_solve 115 = .ok (.iload 4, 2) := by decide +kernel
theorem dX10_solve_117 : decode cX10_solve 117 = .ok (.imul, 1) := by decide +kernel
theorem dX10_solve_118 : decode cX10_solve 118 = .ok (.iload 7, 2) := by decide +kernel
theorem dX10_solve_120 : decode cX10_solve 120 = .ok (.iadd, 1) := by decide +kernel
theorem dX10_solve_121 : decode cX10_solve 121 = .ok (.iload 8, 2) := by decide +kernel
theorem dX10_solve_123 : decode cX10_solve 123 = .ok (.iastore, 1) := by decide +kernel
theorem dX10_solve_124 : decode cX10_solve 124 = .ok (.iinc 7 1, 3) := by decide +kernel
theorem dX10_solve_127 : decode cX10_solve 127 = .ok (.goto (-66), 3) := by decide +kernel
theorem dX10_solve_130 : decode cX10_solve 130 = .ok (.aload_n 0, 1) := by decide +kernel
theorem dX10_solve_131 : decode cX10_solve 131 = .ok (.aload_n 0, 1) := by decide +kernel
theorem dX10_solve_132 : decode cX10_solve 132 = .ok (.getfield 45, 3) := by decide +kernel
theorem dX10_solve_135 : decode cX10_solve 135 = .ok (.bipush 17, 2) := by decide +kernel
theorem dX10_solve_137 : decode cX10_solve 137 = .ok (.iload 4, 2) := by decide +kernel
theorem dX10_solve_139 : decode cX10_solve 139 = .ok (.imul, 1) := by decide +kernel
theorem dX10_solve_140 : decode cX10_solve 140 = .ok (.iload 5, 2) := by decide +kernel
theorem dX10_solve_142 : decode cX10_solve 142 = .ok (.iadd, 1) := by decide +kernel
theorem dX10_solve_143 : decode cX10_solve 143 = .ok (.iaload, 1) := by decide +kernel
theorem dX10_solve_144 : decode cX10_solve 144 = .ok (.invokevirtual 266, 3) := by decide +kernel
theorem dX10_solve_147 : decode cX10_solve 147 = .ok (.istore 7, 2) := by decide +kernel
theorem dX10_solve_149 : decode cX10_solve 149 = .ok (.iconst 0, 1) := by decide +kernel
theorem dX10_solve_150 : decode cX10_solve 150 = .ok (.istore 8, 2) := by decide +kernel
theorem dX10_solve_152 : decode cX10_solve 152 = .ok (.iload 8, 2) := by decide +kernel
theorem dX10_solve_154 : decode cX10_solve 154 = .ok (.bipush 17, 2) := by decide +kernel
theorem dX10_solve_156 : decode cX10_solve 156 = .ok (.if_icmp .ge 43, 3) := by decide +kernel
theorem dX10_solve_159 : decode cX10_solve 159 = .ok (.aload_n 0, 1) := by decide +kernel
theorem dX10_solve_160 : decode cX10_solve 160 = .ok (.getfield 45, 3) := by decide +kernel
theorem dX10_solve_163 : decode cX10_solve 163 = .ok (.bipush 17, 2) := by decide +kernel
theorem dX10_solve_165 : decode cX10_solve 165 = .ok (.iload 4, 2) := by decide +kernel
theorem dX10_solve_167 : decode cX10_solve 167 = .ok (.imul, 1) := by decide +kernel
theorem dX10_solve_168 : decode cX10_solve 168 = .ok (.iload 8, 2) := by decide +kernel
theorem dX10_solve_170 : decode cX10_solve 170 = .ok (.iadd, 1) := by decide +kernel
theorem dX10_solve_171 : decode cX10_solve 171 = .ok (.aload_n 0, 1) := by decide +kernel
theorem dX10_solve_172 : decode cX10_solve 172 = .ok (.getfield 45, 3) := by decide +kernel
theorem dX10_solve_175 : decode cX10_solve 175 = .ok (.bipush 17, 2) := by decide +kernel
theorem dX10_solve_177 : decode cX10_solve 177 = .ok (.iload 4, 2) := by decide +kernel
theorem dX10_solve_179 : decode cX10_solve 179 = .ok (.imul, 1) := by decide +kernel
theorem dX10_solve_180 : decode cX10_solve 180 = .ok (.iload 8, 2) := by decide +kernel
theorem dX10_solve_182 : decode cX10_solve 182 = .ok (.iadd, 1) := by decide +kernel
theorem dX10_solve_183 : decode cX10_solve 183 = .ok (.iaload, 1) := by decide +kernel
theorem dX10_solve_184 : decode cX10_solve 184 = .ok (.iload 7, 2) := by decide +kernel
theorem dX10_solve_186 : decode cX10_solve 186 = .ok (.imul, 1) := by decide +kernel
theorem dX10_solve_187 : decode cX10_solve 187 = .ok (.aload_n 0, 1) := by decide +kernel
theorem dX10_solve_188 : decode cX10_solve 188 = .ok (.getfield 64, 3) := by decide +kernel
theorem dX10_solve_191 : decode cX10_solve 191 = .ok (.irem, 1) := by decide +kernel
theorem dX10_solve_192 : decode cX10_solve 192 = .ok (.iastore, 1) := by decide +kernel
theorem dX10_solve_193 : decode cX10_solve 193 = .ok (.iinc 8 1, 3) := by decide +kernel
theorem dX10_solve_196 : decode cX10_solve 196 = .ok (.goto (-44), 3) := by decide +kernel
theorem dX10_solve_199 : decode cX10_solve 199 = .ok (.iconst 0, 1) := by decide +kernel
theorem dX10_solve_200 : decode cX10_solve 200 = .ok (.istore 8, 2) := by decide +kernel
theorem dX10_solve_202 : decode cX10_solve 202 = .ok (.iload 8, 2) := by decide +kernel
theorem dX10_solve_204 : decode cX10_solve 204 = .ok (.iload_n 1, 1) := by decide +kernel
theorem dX10_solve_205 : decode cX10_solve 205 = .ok (.if_icmp .ge 99, 3) := by decide +kernel
theorem dX10_solve_208 : decode cX10_solve 208 = .ok (.aload_n 0, 1) := by decide +kernel
theorem dX10_solve_209 : decode cX10_solve 209 = .ok (.getfield 45, 3) := by decide +kernel
theorem dX10_solve_212 : decode cX10_solve 212 = .ok (.bipush 17, 2) := by decide +kernel
theorem dX10_solve_214 : decode cX10_solve 214 = .ok (.iload 8, 2) := by decide +kernel
theorem dX10_solve_216 : decode cX10_solve 216 = .ok (.imul, 1) := by decide +kernel
theorem dX10_solve_217 : decode cX10_solve 217 = .ok (.iload 5, 2) := by decide +kernel
theorem dX10_solve_219 : decode cX10_solve 219 = .ok (.iadd, 1) := by decide +kernel
theorem dX10_solve_220 : decode cX10_solve 220 = .ok (.iaload, 1) := by decide +kernel
theorem dX10_solve_221 : decode cX10_solve 221 = .ok (.istore 9, 2) := by decide +kernel
theorem dX10_solve_223 : decode cX10_solve 223 = .ok (.iconst 0, 1) := by decide +kernel
theorem dX10_solve_224 : decode cX10_solve 224 = .ok (.istore 10, 2) := by decide +kernel
theorem dX10_solve_226 : decode cX10_solve 226 = .ok (.iload 10, 2) := by decide +kernel
theorem dX10_solve_228 : decode cX10_solve 228 = .ok (.bipush 17, 2) := by decide +kernel
theorem dX10_solve_230 : decode cX10_solve 230 = .ok (.if_icmp .ge 68, 3) := by decide +kernel
theorem dX10_solve_233 : decode cX10_solve 233 = .ok (.iload 8, 2) := by decide +kernel
theorem dX10_solve_235 : decode cX10_solve 235 = .ok (.iload 4, 2) := by decide +kernel
theorem dX10_solve_237 : decode cX10_solve 237 = .ok (.if_icmp .eq 61, 3) := by decide +kernel
theorem dX10_solve_240 : decode cX10_solve 240 = .ok (.iload 9, 2) := by decide +kernel
theorem dX10_solve_242 : decode cX10_solve 242 = .ok (.ifCond .eq 56, 3) := by decide +kernel
theorem dX10_solve_245 : decode cX10_solve 245 = .ok (.aload_n 0, 1) := by decide +kernel
theorem dX10_solve_246 : decode cX10_solve 246 = .ok (.getfield 45, 3) := by decide +kernel
theorem dX10_solve_249 : decode cX10_solve 249 = .ok (.bipush 17, 2) := by decide +kernel
theorem dX10_solve_251 : decode cX10_solve 251 = .ok (.iload 8, 2) := by decide +kernel
theorem dX10_solve_253 : decode cX10_solve 253 = .ok (.imul, 1) := by decide +kernel
theorem dX10_solve_254 : decode cX10_solve 254 = .ok (.iload 10, 2) := by decide +kernel
theorem dX10_solve_256 : decode cX10_solve 256 = .ok (.iadd, 1) := by decide +kernel
theorem dX10_solve_257 : decode cX10_solve 257 = .ok (.aload_n 0, 1) := by decide +kernel
theorem dX10_solve_258 : decode cX10_solve 258 = .ok (.aload_n 0, 1) := by decide +kernel
theorem dX10_solve_259 : decode cX10_solve 259 = .ok (.getfield 45, 3) := by decide +kernel
theorem dX10_solve_262 : decode cX10_solve 262 = .ok (.bipush 17, 2) := by decide +kernel
theorem dX10_solve_264 : decode cX10_solve 264 = .ok (.iload 8, 2) := by decide +kernel
theorem dX10_solve_266 : decode cX10_solve 266 = .ok (.imul, 1) := by decide +kernel
theorem dX10_solve_267 : decode cX10_solve 267 = .ok (.iload 10, 2) := by decide +kernel
theorem dX10_solve_269 : decode cX10_solve 269 = .ok (.iadd, 1) := by decide +kernel
theorem dX10_solve_270 : decode cX10_solve 270 = .ok (.iaload, 1) := by decide +kernel
theorem dX10_solve_271 : decode cX10_solve 271 = .ok (.iload 9, 2) := by decide +kernel
theorem dX10_solve_273 : decode cX10_solve 273 = .ok (.aload_n 0, 1) := by decide +kernel
theorem dX10_solve_274 : decode cX10_solve 274 = .ok (.getfield 45, 3) := by decide +kernel
theorem dX10_solve_277 : decode cX10_solve 277 = .ok (.bipush 17, 2) := by decide +kernel
theorem dX10_solve_279 : decode cX10_solve 279 = .ok (.iload 4, 2) := by decide +kernel
theorem dX10_solve_281 : decode cX10_solve 281 = .ok (.imul, 1) := by decide +kernel
theorem dX10_solve_282 : decode cX10_solve 282 = .ok (.iload 10, 2) := by decide +kernel
theorem dX10_solve_284 : decode cX10_solve 284 = .ok (.iadd, 1) := by decide +kernel
theorem dX10_solve_285 : decode cX10_solve 285 = .ok (.iaload, 1) := by decide +kernel
theorem dX10_solve_286 : decode cX10_solve 286 = .ok (.imul, 1) := by decide +kernel
theorem dX10_solve_287 : decode cX10_solve 287 = .ok (.isub, 1) := by decide +kernel
theorem dX10_solve_288 : decode cX10_solve 288 = .ok (.invokevirtual 102, 3) := by decide +kernel
theorem dX10_solve_291 : decode cX10_solve 291 = .ok (.iastore, 1) := by decide +kernel
theorem dX10_solve_292 : decode cX10_solve 292 = .ok (.iinc 10 1, 3) := by decide +kernel
theorem dX10_solve_295 : decode cX10_solve 295 = .ok (.goto (-69), 3) := by decide +kernel
theorem dX10_solve_298 : decode cX10_solve 298 = .ok (.iinc 8 1, 3) := by decide +kernel
theorem dX10_solve_301 : decode cX10_solve 301 = .ok (.goto (-99), 3) := by decide +kernel
theorem dX10_solve_304 : decode cX10_solve 304 = .ok (.aload_n 0, 1) := by decide +kernel
theorem dX10_solve_305 : decode cX10_solve 305 = .ok (.getfield 48, 3) := by decide +kernel
theorem dX10_solve_308 : decode cX10_solve 308 = .ok (.iload 4, 2) := by decide +kernel
theorem dX10_solve_310 : decode cX10_solve 310 = .ok (.iload 5, 2) := by decide +kernel
theorem dX10_solve_312 : decode cX10_solve 312 = .ok (.iastore, 1) := by decide +kernel
theorem dX10_solve_313 : decode cX10_solve 313 = .ok (.iinc 4 1, 3) := by decide +kernel
theorem dX10_solve_316 : decode cX10_solve 316 = .ok (.iinc 5 1, 3) := by decide +kernel
theorem dX10_solve_319 : decode cX10_solve 319 = .ok (.goto (-308), 3) := by decide +kernel
theorem dX10_solve_322 : decode cX10_solve 322 = .ok (.iload 4, 2) := by decide +kernel
theorem dX10_solve_324 : decode cX10_solve 324 = .ok (.istore 5, 2) := by decide +kernel
theorem dX10_solve_326 : decode cX10_solve 326 = .ok (.iload 5, 2) := by decide +kernel
theorem dX10_solve_328 : decode cX10_solve 328 = .ok (.iload_n 1, 1) := by decide +kernel
theorem dX10_solve_329 : decode cX10_solve 329 = .ok (.if_icmp .ge 27, 3) := by decide +kernel
theorem dX10_solve_332 : decode cX10_solve 332 = .ok (.aload_n 0, 1) := by decide +kernel
theorem dX10_solve_333 : decode cX10_solve 333 = .ok (.getfield 45, 3) := by decide +kernel
theorem dX10_solve_336 : decode cX10_solve 336 = .ok (.bipush 17, 2) := by decide +kernel
theorem dX10_solve_338 : decode cX10_solve 338 = .ok (.iload 5, 2) := by decide +kernel
theorem dX10_solve_340 : decode cX10_solve 340 = .ok (.imul, 1) := by decide +kernel
theorem dX10_solve_341 : decode cX10_solve 341 = .ok (.bipush 16, 2) := by decide +kernel
theorem dX10_solve_343 : decode cX10_solve 343 = .ok (.iadd, 1) := by decide +kernel
theorem dX10_solve_344 : decode cX10_solve 344 = .ok (.iaload, 1) := by decide +kernel
theorem dX10_solve_345 : decode cX10_solve 345 = .ok (.ifCond .eq 5, 3) := by decide +kernel
theorem dX10_solve_348 : decode cX10_solve 348 = .ok (.iconst 0, 1) := by decide +kernel
theorem dX10_solve_349 : decode cX10_solve 349 = .ok (.ireturn, 1) := by decide +kernel
theorem dX10_solve_350 : decode cX10_solve 350 = .ok (.iinc 5 1, 3) := by decide +kernel
theorem dX10_solve_353 : decode cX10_solve 353 = .ok (.goto (-27), 3) := by decide +kernel
theorem dX10_solve_356 : decode cX10_solve 356 = .ok (.iconst 0, 1) := by decide +kernel
theorem dX10_solve_357 : decode cX10_solve 357 = .ok (.istore 5, 2) := by decide +kernel
theorem dX10_solve_359 : decode cX10_solve 359 = .ok (.iload 5, 2) := by decide +kernel
theorem dX10_solve_361 : decode cX10_solve 361 = .ok (.iload 4, 2) := by decide +kernel
theorem dX10_solve_363 : decode cX10_solve 363 = .ok (.if_icmp .ge 39, 3) := by decide +kernel
theorem dX10_solve_366 : decode cX10_solve 366 = .ok (.aload_n 0, 1) := by decide +kernel
theorem dX10_solve_367 : decode cX10_solve 367 = .ok (.getfield 13, 3) := by decide +kernel
theorem dX10_solve_370 : decode cX10_solve 370 = .ok (.bipush 80, 2) := by decide +kernel
theorem dX10_solve_372 : decode cX10_solve 372 = .ok (.iload_n 3, 1) := by decide +kernel
theorem dX10_solve_373 : decode cX10_solve 373 = .ok (.imul, 1) := by decide +kernel
theorem dX10_solve_374 : decode cX10_solve 374 = .ok (.aload_n 0, 1) := by decide +kernel
theorem dX10_solve_375 : decode cX10_solve 375 = .ok (.getfield 48, 3) := by decide +kernel
theorem dX10_solve_378 : decode cX10_solve 378 = .ok (.iload 5, 2) := by decide +kernel
theorem dX10_solve_380 : decode cX10_solve 380 = .ok (.iaload, 1) := by decide +kernel
theorem dX10_solve_381 : decode cX10_solve 381 = .ok (.iadd, 1) := by decide +kernel
theorem dX10_solve_382 : decode cX10_solve 382 = .ok (.aload_n 0, 1) := by decide +kernel
theorem dX10_solve_383 : decode cX10_solve 383 = .ok (.getfield 45, 3) := by decide +kernel
theorem dX10_solve_386 : decode cX10_solve 386 = .ok (.bipush 17, 2) := by decide +kernel
theorem dX10_solve_388 : decode cX10_solve 388 = .ok (.iload 5, 2) := by decide +kernel
theorem dX10_solve_390 : decode cX10_solve 390 = .ok (.imul, 1) := by decide +kernel
theorem dX10_solve_391 : decode cX10_solve 391 = .ok (.bipush 16, 2) := by decide +kernel
theorem dX10_solve_393 : decode cX10_solve 393 = .ok (.iadd, 1) := by decide +kernel
theorem dX10_solve_394 : decode cX10_solve 394 = .ok (.iaload, 1) := by decide +kernel
theorem dX10_solve_395 : decode cX10_solve 395 = .ok (.iastore, 1) := by decide +kernel
theorem dX10_solve_396 : decode cX10_solve 396 = .ok (.iinc 5 1, 3) := by decide +kernel
theorem dX10_solve_399 : decode cX10_solve 399 = .ok (.goto (-40), 3) := by decide +kernel
theorem dX10_solve_402 : decode cX10_solve 402 = .ok (.iconst 1, 1) := by decide +kernel
theorem dX10_solve_403 : decode cX10_solve 403 = .ok (.ireturn, 1) := by decide +kernel
theorem dX10_fill_0 : decode cX10_fill 0 = .ok (.iload_n 1, 1) := by decide +kernel
theorem dX10_fill_1 : decode cX10_fill 1 = .ok (.invokestatic 98, 3) := by decide +kernel
theorem dX10_fill_4 : decode cX10_fill 4 = .ok (.ifCond .ne 6, 3) := by decide +kernel
theorem dX10_fill_7 : decode cX10_fill 7 = .ok (.bipush (-2), 2) := by decide +kernel
theorem dX10_fill_9 : decode cX10_fill 9 = .ok (.ireturn, 1) := by decide +kernel
theorem dX10_fill_10 : decode cX10_fill 10 = .ok (.iconst 0, 1) := by decide +kernel
theorem dX10_fill_11 : decode cX10_fill 11 = .ok (.istore_n 2, 1) := by decide +kernel
theorem dX10_fill_12 : decode cX10_fill 12 = .ok (.iload_n 2, 1) := by decide +kernel
theorem dX10_fill_13 : decode cX10_fill 13 = .ok (.aload_n 0, 1) := by decide +kernel
theorem dX10_fill_14 : decode cX10_fill 14 = .ok (.getfield 284, 3) := by decide +kernel
theorem dX10_fill_17 : decode cX10_fill 17 = .ok (.if_icmp .ge 220, 3) := by decide +kernel
theorem dX10_fill_20 : decode cX10_fill 20 = .ok (.iconst 0, 1) := by decide +kernel
theorem dX10_fill_21 : decode cX10_fill 21 = .ok (.istore_n 3, 1) := by decide +kernel
theorem dX10_fill_22 : decode cX10_fill 22 = .ok (.iconst 0, 1) := by decide +kernel
theorem dX10_fill_23 : decode cX10_fill 23 = .ok (.istore 4, 2) := by decide +kernel
theorem dX10_fill_25 : decode cX10_fill 25 = .ok (.iload 4, 2) := by decide +kernel
theorem dX10_fill_27 : decode cX10_fill 27 = .ok (.iload_n 2, 1) := by decide +kernel
theorem dX10_fill_28 : decode cX10_fill 28 = .ok (.if_icmp .ge 33, 3) := by decide +kernel
theorem dX10_fill_31 : decode cX10_fill 31 = .ok (.iload_n 3, 1) := by decide +kernel
theorem dX10_fill_32 : decode cX10_fill 32 = .ok (.aload_n 0, 1) := by decide +kernel
theorem dX10_fill_33 : decode cX10_fill 33 = .ok (.getfield 39, 3) := by decide +kernel
theorem dX10_fill_36 : decode cX10_fill 36 = .ok (.iload 4, 2) := by decide +kernel
theorem dX10_fill_38 : decode cX10_fill 38 = .ok (.iaload, 1) := by decide +kernel
theorem dX10_fill_39 : decode cX10_fill 39 = .ok (.aload_n 0, 1) := by decide +kernel
theorem dX10_fill_40 : decode cX10_fill 40 = .ok (.getfield 39, 3) := by decide +kernel
theorem dX10_fill_43 : decode cX10_fill 43 = .ok (.iload_n 2, 1) := by decide +kernel
theorem dX10_fill_44 : decode cX10_fill 44 = .ok (.iaload, 1) := by decide +kernel
theorem dX10_fill_45 : decode cX10_fill 45 = .ok (.if_icmp .ne 7, 3) := by decide +kernel
theorem dX10_fill_48 : decode cX10_fill 48 = .ok (.iconst 1, 1) := by decide +kernel
theorem dX10_fill_49 : decode cX10_fill 49 = .ok (.goto 4, 3) := by decide +kernel
theorem dX10_fill_52 : decode cX10_fill 52 = .ok (.iconst 0, 1) := by decide +kernel
theorem dX10_fill_53 : decode cX10_fill 53 = .ok (.iadd, 1) := by decide +kernel
theorem dX10_fill_54 : decode cX10_fill 54 = .ok (.istore_n 3, 1) := by decide +kernel
theorem dX10_fill_55 : decode cX10_fill 55 = .ok (.iinc 4 1, 3) := by decide +kernel
theorem dX10_fill_58 : decode cX10_fill 58 = .ok (.goto (-33), 3) := by decide +kernel
theorem dX10_fill_61 : decode cX10_fill 61 = .ok (.iconst 0, 1) := by decide +kernel
theorem dX10_fill_62 : decode cX10_fill 62 = .ok (.istore 4, 2) := by decide +kernel
theorem dX10_fill_64 : decode cX10_fill 64 = .ok (.iload 4, 2) := by decide +kernel
theorem dX10_fill_66 : decode cX10_fill 66 = .ok (.aload_n 0, 1) := by decide +kernel
theorem dX10_fill_67 : decode cX10_fill 67 = .ok (.getfield 284, 3) := by decide +kernel
theorem dX10_fill_70 : decode cX10_fill 70 = .ok (.if_icmp .ge 111, 3) := by decide +kernel
theorem dX10_fill_73 : decode cX10_fill 73 = .ok (.iload 4, 2) := by decide +kernel
theorem dX10_fill_75 : decode cX10_fill 75 = .ok (.iload_n 3, 1) := by decide +kernel
theorem dX10_fill_76 : decode cX10_fill 76 = .ok (.if_icmp .ge 7, 3) := by decide +kernel
theorem dX10_fill_79 : decode cX10_fill 79 = .ok (.lconst 0, 1) := by decide +kernel
theorem dX10_fill_80 : decode cX10_fill 80 = .ok (.goto 4, 3) := by decide +kernel
theorem dX10_fill_83 : decode cX10_fill 83 = .ok (.lconst 1, 1) := by decide +kernel
theorem dX10_fill_84 : decode cX10_fill 84 = .ok (.lstore 5, 2) := by decide +kernel
theorem dX10_fill_86 : decode cX10_fill 86 = .ok (.iconst 0, 1) := by decide +kernel
theorem dX10_fill_87 : decode cX10_fill 87 = .ok (.istore 7, 2) := by decide +kernel
theorem dX10_fill_89 : decode cX10_fill 89 = .ok (.iload 7, 2) := by decide +kernel
theorem dX10_fill_91 : decode cX10_fill 91 = .ok (.iload_n 3, 1) := by decide +kernel
theorem dX10_fill_92 : decode cX10_fill 92 = .ok (.if_icmp .ge 32, 3) := by decide +kernel
theorem dX10_fill_95 : decode cX10_fill 95 = .ok (.iload 4, 2) := by decide +kernel
theorem dX10_fill_97 : decode cX10_fill 97 = .ok (.iload_n 3, 1) := by decide +kernel
theorem dX10_fill_98 : decode cX10_fill 98 = .ok (.if_icmp .lt 26, 3) := by decide +kernel
theorem dX10_fill_101 : decode cX10_fill 101 = .ok (.lload 5, 2) := by decide +kernel
theorem dX10_fill_103 : decode cX10_fill 103 = .ok (.iload 4, 2) := by decide +kernel
theorem dX10_fill_105 : decode cX10_fill 105 = .ok (.iload 7, 2) := by decide +kernel
theorem dX10_fill_107 : decode cX10_fill 107 = .ok (.isub, 1) := by decide +kernel
theorem dX10_fill_108 : decode cX10_fill 108 = .ok (.i2l, 1) := by decide +kernel
theorem dX10_fill_109 : decode cX10_fill 109 = .ok (.lmul, 1) := by decide +kernel
theorem dX10_fill_110 : decode cX10_fill 110 = .ok (.iload 7, 2) := by decide +kernel
theorem dX10_fill_112 : decode cX10_fill 112 = .ok (.iconst 1, 1) := by decide +kernel
theorem dX10_fill_113 : decode cX10_fill 113 = .ok (.iadd, 1) := by decide +kernel
theorem dX10_fill_114 : decode cX10_fill 114 = .ok (.i2l, 1) := by decide +kernel
theorem dX10_fill_115 : decode cX10_fill 115 = .ok (.ldiv, 1) := by decide +kernel
theorem dX10_fill_116 : decode cX10_fill 116 = .ok (.lstore 5, 2) := by decide +kernel
theorem dX10_fill_118 : decode cX10_fill 118 = .ok (.iinc 7 1, 3) := by decide +kernel
theorem dX10_fill_121 : decode cX10_fill 121 = .ok (.goto (-32), 3) := by decide +kernel
theorem dX10_fill_124 : decode cX10_fill 124 = .ok (.aload_n 0, 1) := by decide +kernel
theorem dX10_fill_125 : decode cX10_fill 125 = .ok (.getfield 45, 3) := by decide +kernel
theorem dX10_fill_128 : decode cX10_fill 128 = .ok (.bipush 17, 2) := by decide +kernel
theorem dX10_fill_130 : decode cX10_fill 130 = .ok (.iload_n 2, 1) := by decide +kernel
theorem dX10_fill_131 : decode cX10_fill 131 = .ok (.imul, 1) := by decide +kernel
theorem dX10_fill_132 : decode cX10_fill 132 = .ok (.iload 4, 2) := by decide +kernel
theorem dX10_fill_134 : decode cX10_fill 134 = .ok (.iadd, 1) := by decide +kernel
theorem dX10_fill_135 : decode cX10_fill 135 = .ok (.iload 4, 2) := by decide +kernel
theorem dX10_fill_137 : decode cX10_fill 137 = .ok (.iload_n 3, 1) := by decide +kernel
theorem dX10_fill_138 : decode cX10_fill 138 = .ok (.if_icmp .ge 7, 3) := by decide +kernel
theorem dX10_fill_141 : decode cX10_fill 141 = .ok (.iconst 0, 1) := by decide +kernel
theorem dX10_fill_142 : decode cX10_fill 142 = .ok (.goto 32, 3) := by decide +kernel
theorem dX10_fill_145 : decode cX10_fill 145 = .ok (.lload 5, 2) := by decide +kernel
theorem dX10_fill_147 : decode cX10_fill 147 = .ok (.aload_n 0, 1) := by decide +kernel
theorem dX10_fill_148 : decode cX10_fill 148 = .ok (.getfield 64, 3) := by decide +kernel
theorem dX10_fill_151 : decode cX10_fill 151 = .ok (.i2l, 1) := by decide +kernel
theorem dX10_fill_152 : decode cX10_fill 152 = .ok (.lrem, 1) := by decide +kernel
theorem dX10_fill_153 : decode cX10_fill 153 = .ok (.l2i, 1) := by decide +kernel
theorem dX10_fill_154 : decode cX10_fill 154 = .ok (.aload_n 0, 1) := by decide +kernel
theorem dX10_fill_155 : decode cX10_fill 155 = .ok (.aload_n 0, 1) := by decide +kernel
theorem dX10_fill_156 : decode cX10_fill 156 = .ok (.getfield 39, 3) := by decide +kernel
theorem dX10_fill_159 : decode cX10_fill 159 = .ok (.iload_n 2, 1) := by decide +kernel
theorem dX10_fill_160 : decode cX10_fill 160 = .ok (.iaload, 1) := by decide +kernel
theorem dX10_fill_161 : decode cX10_fill 161 = .ok (.iload 4, 2) := by decide +kernel
theorem dX10_fill_163 : decode cX10_fill 163 = .ok (.iload_n 3, 1) := by decide +kernel
theorem dX10_fill_164 : decode cX10_fill 164 = .ok (.isub, 1) := by decide +kernel
theorem dX10_fill_165 : decode cX10_fill 165 = .ok (.invokevirtual 82, 3) := by decide +kernel
theorem dX10_fill_168 : decode cX10_fill 168 = .ok (.imul, 1) := by decide +kernel
theorem dX10_fill_169 : decode cX10_fill 169 = .ok (.aload_n 0, 1) := by decide +kernel
theorem dX10_fill_170 : decode cX10_fill 170 = .ok (.getfield 64, 3) := by decide +kernel
theorem dX10_fill_173 : decode cX10_fill 173 = .ok (.irem, 1) := by decide +kernel
theorem dX10_fill_174 : decode cX10_fill 174 = .ok (.iastore, 1) := by decide +kernel
theorem dX10_fill_175 : decode cX10_fill 175 = .ok (.iinc 4 1, 3) := by decide +kernel
theorem dX10_fill_178 : decode cX10_fill 178 = .ok (.goto (-114), 3) := by decide +kernel
theorem dX10_fill_181 : decode cX10_fill 181 = .ok (.aload_n 0, 1) := by decide +kernel
theorem dX10_fill_182 : decode cX10_fill 182 = .ok (.getfield 284, 3) := by decide +kernel
theorem dX10_fill_185 : decode cX10_fill 185 = .ok (.istore 4, 2) := by decide +kernel
theorem dX10_fill_187 : decode cX10_fill 187 = .ok (.iload 4, 2) := by decide +kernel
theorem dX10_fill_189 : decode cX10_fill 189 = .ok (.bipush 16, 2) := by decide +kernel
theorem dX10_fill_191 : decode cX10_fill 191 = .ok (.if_icmp .ge 22, 3) := by decide +kernel
theorem dX10_fill_194 : decode cX10_fill 194 = .ok (.aload_n 0, 1) := by decide +kernel
theorem dX10_fill_195 : decode cX10_fill 195 = .ok (.getfield 45, 3) := by decide +kernel
theorem dX10_fill_198 : decode cX10_fill 198 = .ok (.bipush 17, 2) := by decide +kernel
theorem dX10_fill_200 : decode cX10_fill 200 = .ok (.iload_n 2, 1) := by decide +kernel
theorem dX10_fill_201 : decode cX10_fill 201 = .ok (.imul, 1) := by decide +kernel
theorem dX10_fill_202 : decode cX10_fill 202 = .ok (.iload 4, 2) := by decide +kernel
theorem dX10_fill_204 : decode cX10_fill 204 = .ok (.iadd, 1) := by decide +kernel
theorem dX10_fill_205 : decode cX10_fill 205 = .ok (.iconst 0, 1) := by decide +kernel
theorem dX10_fill_206 : decode cX10_fill 206 = .ok (.iastore, 1) := by decide +kernel
theorem dX10_fill_207 : decode cX10_fill 207 = .ok (.iinc 4 1, 3) := by decide +kernel
theorem dX10_fill_210 : decode cX10_fill 210 = .ok (.goto (-23), 3) := by decide +kernel
theorem dX10_fill_213 : decode cX10_fill 213 = .ok (.aload_n 0, 1) := by decide +kernel
theorem dX10_fill_214 : decode cX10_fill 214 = .ok (.getfield 45, 3) := by decide +kernel
theorem dX10_fill_217 : decode cX10_fill 217 = .ok (.bipush 17, 2) := by decide +kernel
theorem dX10_fill_219 : decode cX10_fill 219 = .ok (.iload_n 2, 1) := by decide +kernel
theorem dX10_fill_220 : decode cX10_fill 220 = .ok (.imul, 1) := by decide +kernel
theorem dX10_fill_221 : decode cX10_fill 221 = .ok (.bipush 16, 2) := by decide +kernel
theorem dX10_fill_223 : decode cX10_fill 223 = .ok (.iadd, 1) := by decide +kernel
theorem dX10_fill_224 : decode cX10_fill 224 = .ok (.aload_n 0, 1) := by decide +kernel
theorem dX10_fill_225 : decode cX10_fill 225 = .ok (.getfield 42, 3) := by decide +kernel
theorem dX10_fill_228 : decode cX10_fill 228 = .ok (.iload_n 2, 1) := by decide +kernel
theorem dX10_fill_229 : decode cX10_fill 229 = .ok (.iaload, 1) := by decide +kernel
theorem dX10_fill_230 : decode cX10_fill 230 = .ok (.iastore, 1) := by decide +kernel
theorem dX10_fill_231 : decode cX10_fill 231 = .ok (.iinc 2 1, 3) := by decide +kernel
theorem dX10_fill_234 : decode cX10_fill 234 = .ok (.goto (-222), 3) := by decide +kernel
theorem dX10_fill_237 : decode cX10_fill 237 = .ok (.aload_n 0, 1) := by decide +kernel
theorem dX10_fill_238 : decode cX10_fill 238 = .ok (.aload_n 0, 1) := by decide +kernel
theorem dX10_fill_239 : decode cX10_fill 239 = .ok (.getfield 284, 3) := by decide +kernel
theorem dX10_fill_242 : decode cX10_fill 242 = .ok (.aload_n 0, 1) := by decide +kernel
theorem dX10_fill_243 : decode cX10_fill 243 = .ok (.getfield 284, 3) := by decide +kernel
theorem dX10_fill_246 : decode cX10_fill 246 = .ok (.bipush 8, 2) := by decide +kernel
theorem dX10_fill_248 : decode cX10_fill 248 = .ok (.invokevirtual 290, 3) := by decide +kernel
theorem dX10_fill_251 : decode cX10_fill 251 = .ok (.istore_n 2, 1) := by decide +kernel
theorem dX10_fill_252 : decode cX10_fill 252 = .ok (.aload_n 0, 1) := by decide +kernel
theorem dX10_fill_253 : decode cX10_fill 253 = .ok (.iload_n 1, 1) := by decide +kernel
theorem dX10_fill_254 : decode cX10_fill 254 = .ok (.bipush 8, 2) := by decide +kernel
theorem dX10_fill_256 : decode cX10_fill 256 = .ok (.invokevirtual 109, 3) := by decide +kernel
theorem dX10_fill_259 : decode cX10_fill 259 = .ok (.ireturn, 1) := by decide +kernel
theorem dX10_areUnlike_0 : decode cX10_areUnlike 0 = .ok (.iconst 0, 1) := by decide +kernel
theorem dX10_areUnlike_1 : decode cX10_areUnlike 1 = .ok (.istore_n 1, 1) := by decide +kernel
theorem dX10_areUnlike_2 : decode cX10_areUnlike 2 = .ok (.iload_n 1, 1) := by decide +kernel
theorem dX10_areUnlike_3 : decode cX10_areUnlike 3 = .ok (.aload_n 0, 1) := by decide +kernel
theorem dX10_areUnlike_4 : decode cX10_areUnlike 4 = .ok (.getfield 284, 3) := by decide +kernel
theorem dX10_areUnlike_7 : decode cX10_areUnlike 7 = .ok (.if_icmp .ge 39, 3) := by decide +kernel
theorem dX10_areUnlike_10 : decode cX10_areUnlike 10 = .ok (.iconst 0, 1) := by decide +kernel
theorem dX10_areUnlike_11 : decode cX10_areUnlike 11 = .ok (.istore_n 2, 1) := by decide +kernel
theorem dX10_areUnlike_12 : decode cX10_areUnlike 12 = .ok (.iload_n 2, 1) := by decide +kernel
theorem dX10_areUnlike_13 : decode cX10_areUnlike 13 = .ok (.iload_n 1, 1) := by decide +kernel
theorem dX10_areUnlike_14 : decode cX10_areUnlike 14 = .ok (.if_icmp .ge 26, 3) := by decide +kernel
theorem dX10_areUnlike_17 : decode cX10_areUnlike 17 = .ok (.aload_n 0, 1) := by decide +kernel
theorem dX10_areUnlike_18 : decode cX10_areUnlike 18 = .ok (.getfield 39, 3) := by decide +kernel
theorem dX10_areUnlike_21 : decode cX10_areUnlike 21 = .ok (.iload_n 1, 1) := by decide +kernel
theorem dX10_areUnlike_22 : decode cX10_areUnlike 22 = .ok (.iaload, 1) := by decide +kernel
theorem dX10_areUnlike_23 : decode cX10_areUnlike 23 = .ok (.aload_n 0, 1) := by decide +kernel
theorem dX10_areUnlike_24 : decode cX10_areUnlike 24 = .ok (.getfield 39, 3) := by decide +kernel
theorem dX10_areUnlike_27 : decode cX10_areUnlike 27 = .ok (.iload_n 2, 1) := by decide +kernel
theorem dX10_areUnlike_28 : decode cX10_areUnlike 28 = .ok (.iaload, 1) := by decide +kernel
theorem dX10_areUnlike_29 : decode cX10_areUnlike 29 = .ok (.if_icmp .ne 5, 3) := by decide +kernel
theorem dX10_areUnlike_32 : decode cX10_areUnlike 32 = .ok (.iconst 0, 1) := by decide +kernel
theorem dX10_areUnlike_33 : decode cX10_areUnlike 33 = .ok (.ireturn, 1) := by decide +kernel
theorem dX10_areUnlike_34 : decode cX10_areUnlike 34 = .ok (.iinc 2 1, 3) := by decide +kernel
theorem dX10_areUnlike_37 : decode cX10_areUnlike 37 = .ok (.goto (-25), 3) := by decide +kernel
theorem dX10_areUnlike_40 : decode cX10_areUnlike 40 = .ok (.iinc 1 1, 3) := by decide +kernel
theorem dX10_areUnlike_43 : decode cX10_areUnlike 43 = .ok (.goto (-41), 3) := by decide +kernel
theorem dX10_areUnlike_46 : decode cX10_areUnlike 46 = .ok (.iconst 1, 1) := by decide +kernel
theorem dX10_areUnlike_47 : decode cX10_areUnlike 47 = .ok (.ireturn, 1) := by decide +kernel
theorem dX10_right_0 : decode cX10_right 0 = .ok (.iload_n 1, 1) := by decide +kernel
theorem dX10_right_1 : decode cX10_right 1 = .ok (.invokestatic 98, 3) := by decide +kernel
theorem dX10_right_4 : decode cX10_right 4 = .ok (.ifCond .eq 15, 3) := by decide +kernel
theorem dX10_right_7 : decode cX10_right 7 = .ok (.iload_n 2, 1) := by decide +kernel
theorem dX10_right_8 : decode cX10_right 8 = .ok (.iconst 1, 1) := by decide +kernel
theorem dX10_right_9 : decode cX10_right 9 = .ok (.aload_n 0, 1) := by decide +kernel
theorem dX10_right_10 : decode cX10_right 10 = .ok (.getfield 284, 3) := by decide +kernel
theorem dX10_right_13 : decode cX10_right 13 = .ok (.invokestatic 86, 3) := by decide +kernel
theorem dX10_right_16 : decode cX10_right 16 = .ok (.ifCond .ne 6, 3) := by decide +kernel
theorem dX10_right_19 : decode cX10_right 19 = .ok (.bipush (-2), 2) := by decide +kernel
theorem dX10_right_21 : decode cX10_right 21 = .ok (.ireturn, 1) := by decide +kernel
theorem dX10_right_22 : decode cX10_right 22 = .ok (.aload_n 0, 1) := by decide +kernel
theorem dX10_right_23 : decode cX10_right 23 = .ok (.invokevirtual 293, 3) := by decide +kernel
theorem dX10_right_26 : decode cX10_right 26 = .ok (.ifCond .ne 6, 3) := by decide +kernel
theorem dX10_right_29 : decode cX10_right 29 = .ok (.bipush (-3), 2) := by decide +kernel
theorem dX10_right_31 : decode cX10_right 31 = .ok (.ireturn, 1) := by decide +kernel
theorem dX10_right_32 : decode cX10_right 32 = .ok (.aload_n 0, 1) := by decide +kernel
theorem dX10_right_33 : decode cX10_right 33 = .ok (.getfield 284, 3) := by decide +kernel
theorem dX10_right_36 : decode cX10_right 36 = .ok (.iload_n 2, 1) := by decide +kernel
theorem dX10_right_37 : decode cX10_right 37 = .ok (.isub, 1) := by decide +kernel
theorem dX10_right_38 : decode cX10_right 38 = .ok (.iconst 2, 1) := by decide +kernel
theorem dX10_right_39 : decode cX10_right 39 = .ok (.idiv, 1) := by decide +kernel
theorem dX10_right_40 : decode cX10_right 40 = .ok (.istore_n 3, 1) := by decide +kernel
theorem dX10_right_41 : decode cX10_right 41 = .ok (.iconst 0, 1) := by decide +kernel
theorem dX10_right_42 : decode cX10_right 42 = .ok (.istore 4, 2) := by decide +kernel
theorem dX10_right_44 : decode cX10_right 44 = .ok (.iload 4, 2) := by decide +kernel
theorem dX10_right_46 : decode cX10_right 46 = .ok (.aload_n 0, 1) := by decide +kernel
theorem dX10_right_47 : decode cX10_right 47 = .ok (.getfield 284, 3) := by decide +kernel
theorem dX10_right_50 : decode cX10_right 50 = .ok (.if_icmp .ge 176, 3) := by decide +kernel
theorem dX10_right_53 : decode cX10_right 53 = .ok (.iconst 0, 1) := by decide +kernel
theorem dX10_right_54 : decode cX10_right 54 = .ok (.istore 5, 2) := by decide +kernel
theorem dX10_right_56 : decode cX10_right 56 = .ok (.iload 5, 2) := by decide +kernel
theorem dX10_right_58 : decode cX10_right 58 = .ok (.bipush 17, 2) := by decide +kernel
theorem dX10_right_60 : decode cX10_right 60 = .ok (.if_icmp .ge 23, 3) := by decide +kernel
theorem dX10_right_63 : decode cX10_right 63 = .ok (.aload_n 0, 1) := by decide +kernel
theorem dX10_right_64 : decode cX10_right 64 = .ok (.getfield 45, 3) := by decide +kernel
theorem dX10_right_67 : decode cX10_right 67 = .ok (.bipush 17, 2) := by decide +kernel
theorem dX10_right_69 : decode cX10_right 69 = .ok (.iload 4, 2) := by decide +kernel
theorem dX10_right_71 : decode cX10_right 71 = .ok (.imul, 1) := by decide +kernel
theorem dX10_right_72 : decode cX10_right 72 = .ok (.iload 5, 2) := by decide +kernel
theorem dX10_right_74 : decode cX10_right 74 = .ok (.iadd, 1) := by decide +kernel
theorem dX10_right_75 : decode cX10_right 75 = .ok (.iconst 0, 1) := by decide +kernel
theorem dX10_right_76 : decode cX10_right 76 = .ok (.iastore, 1) := by decide +kernel
theorem dX10_right_77 : decode cX10_right 77 = .ok (.iinc 5 1, 3) := by decide +kernel
theorem dX10_right_80 : decode cX10_right 80 = .ok (.goto (-24), 3) := by decide +kernel
theorem dX10_right_83 : decode cX10_right 83 = .ok (.iconst 0, 1) := by decide +kernel
theorem dX10_right_84 : decode cX10_right 84 = .ok (.istore 5, 2) := by decide +kernel
theorem dX10_right_86 : decode cX10_right 86 = .ok (.iload 5, 2) := by decide +kernel
theorem dX10_right_88 : decode cX10_right 88 = .ok (.iload_n 3, 1) := by decide +kernel
theorem dX10_right_89 : decode cX10_right 89 = .ok (.if_icmp .ge 48, 3) := by decide +kernel
theorem dX10_right_92 : decode cX10_right 92 = .ok (.aload_n 0, 1) := by decide +kernel
theorem dX10_right_93 : decode cX10_right 93 = .ok (.getfield 45, 3) := by decide +kernel
theorem dX10_right_96 : decode cX10_right 96 = .ok (.bipush 17, 2) := by decide +kernel
theorem dX10_right_98 : decode cX10_right 98 = .ok (.iload 4, 2) := by decide +kernel
theorem dX10_right_100 : decode cX10_right 100 = .ok (.imul, 1) := by decide +kernel
theorem dX10_right_101 : decode cX10_right 101 = .ok (.iload 5, 2) := by decide +kernel
theorem dX10_right_103 : decode cX10_right 103 = .ok (.iadd, 1) := by decide +kernel
theorem dX10_right_104 : decode cX10_right 104 = .ok (.aload_n 0, 1) := by decide +kernel
theorem dX10_right_105 : decode cX10_right 105 = .ok (.aload_n 0, 1) := by decide +kernel
theorem dX10_right_106 : decode cX10_right 106 = .ok (.getfield 42, 3) := by decide +kernel
theorem dX10_right_109 : decode cX10_right 109 = .ok (.iload 4, 2) := by decide +kernel
theorem dX10_right_111 : decode cX10_right 111 = .ok (.iaload, 1) := by decide +kernel
theorem dX10_right_112 : decode cX10_right 112 = .ok (.ineg, 1) := by decide +kernel
theorem dX10_right_113 : decode cX10_right 113 = .ok (.aload_n 0, 1) := by decide +kernel
theorem dX10_right_114 : decode cX10_right 114 = .ok (.aload_n 0, 1) := by decide +kernel
theorem dX10_right_115 : decode cX10_right 115 = .ok (.getfield 39, 3) := by decide +kernel
theorem dX10_right_118 : decode cX10_right 118 = .ok (.iload 4, 2) := by decide +kernel
theorem dX10_right_120 : decode cX10_right 120 = .ok (.iaload, 1) := by decide +kernel
theorem dX10_right_121 : decode cX10_right 121 = .ok (.iload 5, 2) := by decide +kernel
theorem dX10_right_123 : decode cX10_right 123 = .ok (.invokevirtual 82, 3) := by decide +kernel
theorem dX10_right_126 : decode cX10_right 126 = .ok (.imul, 1) := by decide +kernel
theorem dX10_right_127 : decode cX10_right 127 = .ok (.invokevirtual 102, 3) := by decide +kernel
theorem dX10_right_130 : decode cX10_right 130 = .ok (.iastore, 1) := by decide +kernel
theorem dX10_right_131 : decode cX10_right 131 = .ok (.iinc 5 1, 3) := by decide +kernel
theorem dX10_right_134 : decode cX10_right 134 = .ok (.goto (-48), 3) := by decide +kernel
theorem dX10_right_137 : decode cX10_right 137 = .ok (.iconst 0, 1) := by decide +kernel
theorem dX10_right_138 : decode cX10_right 138 = .ok (.istore 5, 2) := by decide +kernel
theorem dX10_right_140 : decode cX10_right 140 = .ok (.iload 5, 2) := by decide +kernel
theorem dX10_right_142 : decode cX10_right 142 = .ok (.iload_n 3, 1) := by decide +kernel
theorem dX10_right_143 : decode cX10_right 143 = .ok (.iload_n 2, 1) := by decide +kernel
theorem dX10_right_144 : decode cX10_right 144 = .ok (.iadd, 1) := by decide +kernel
theorem dX10_right_145 : decode cX10_right 145 = .ok (.if_icmp .ge 37, 3) := by decide +kernel
theorem dX10_right_148 : decode cX10_right 148 = .ok (.aload_n 0, 1) := by decide +kernel
theorem dX10_right_149 : decode cX10_right 149 = .ok (.getfield 45, 3) := by decide +kernel
theorem dX10_right_152 : decode cX10_right 152 = .ok (.bipush 17, 2) := by decide +kernel
theorem dX10_right_154 : decode cX10_right 154 = .ok (.iload 4, 2) := by decide +kernel
theorem dX10_right_156 : decode cX10_right 156 = .ok (.imul, 1) := by decide +kernel
theorem dX10_right_157 : decode cX10_right 157 = .ok (.iload_n 3, 1) := by decide +kernel
theorem dX10_right_158 : decode cX10_right 158 = .ok (.iadd, 1) := by decide +kernel
theorem dX10_right_159 : decode cX10_right 159 = .ok (.iload 5, 2) := by decide +kernel
theorem dX10_right_161 : decode cX10_right 161 = .ok (.iadd, 1) := by decide +kernel
theorem dX10_right_162 : decode cX10_right 162 = .ok (.aload_n 0, 1) := by decide +kernel
theorem dX10_right_163 : decode cX10_right 163 = .ok (.aload_n 0, 1) := by decide +kernel
theorem dX10_right_164 : decode cX10_right 164 = .ok (.getfield 39, 3) := by decide +kernel
theorem dX10_right_167 : decode cX10_right 167 = .ok (.iload 4, 2) := by decide +kernel
theorem dX10_right_169 : decode cX10_right 169 = .ok (.iaload, 1) := by decide +kernel
theorem dX10_right_170 : decode cX10_right 170 = .ok (.iload 5, 2) := by decide +kernel
theorem dX10_right_172 : decode cX10_right 172 = .ok (.invokevirtual 82, 3) := by decide +kernel
theorem dX10_right_175 : decode cX10_right 175 = .ok (.iastore, 1) := by decide +kernel
theorem dX10_right_176 : decode cX10_right 176 = .ok (.iinc 5 1, 3) := by decide +kernel
theorem dX10_right_179 : decode cX10_right 179 = .ok (.goto (-39), 3) := by decide +kernel
theorem dX10_right_182 : decode cX10_right 182 = .ok (.aload_n 0, 1) := by decide +kernel
theorem dX10_right_183 : decode cX10_right 183 = .ok (.getfield 45, 3) := by decide +kernel
theorem dX10_right_186 : decode cX10_right 186 = .ok (.bipush 17, 2) := by decide +kernel
theorem dX10_right_188 : decode cX10_right 188 = .ok (.iload 4, 2) := by decide +kernel
theorem dX10_right_190 : decode cX10_right 190 = .ok (.imul, 1) := by decide +kernel
theorem dX10_right_191 : decode cX10_right 191 = .ok (.bipush 16, 2) := by decide +kernel
theorem dX10_right_193 : decode cX10_right 193 = .ok (.iadd, 1) := by decide +kernel
theorem dX10_right_194 : decode cX10_right 194 = .ok (.aload_n 0, 1) := by decide +kernel
theorem dX10_right_195 : decode cX10_right 195 = .ok (.getfield 42, 3) := by decide +kernel
theorem dX10_right_198 : decode cX10_right 198 = .ok (.iload 4, 2) := by decide +kernel
theorem dX10_right_200 : decode cX10_right 200 = .ok (.iaload, 1) := by decide +kernel
theorem dX10_right_201 : decode cX10_right 201 = .ok (.aload_n 0, 1) := by decide +kernel
theorem dX10_right_202 : decode cX10_right 202 = .ok (.aload_n 0, 1) := by decide +kernel
theorem dX10_right_203 : decode cX10_right 203 = .ok (.getfield 39, 3) := by decide +kernel
theorem dX10_right_206 : decode cX10_right 206 = .ok (.iload 4, 2) := by decide +kernel
theorem dX10_right_208 : decode cX10_right 208 = .ok (.iaload, 1) := by decide +kernel
theorem dX10_right_209 : decode cX10_right 209 = .ok (.iload_n 3, 1) := by decide +kernel
theorem dX10_right_210 : decode cX10_right 210 = .ok (.invokevirtual 82, 3) := by decide +kernel
theorem dX10_right_213 : decode cX10_right 213 = .ok (.imul, 1) := by decide +kernel
theorem dX10_right_214 : decode cX10_right 214 = .ok (.aload_n 0, 1) := by decide +kernel
theorem dX10_right_215 : decode cX10_right 215 = .ok (.getfield 64, 3) := by decide +kernel
theorem dX10_right_218 : decode cX10_right 218 = .ok (.irem, 1) := by decide +kernel
theorem dX10_right_219 : decode cX10_right 219 = .ok (.iastore, 1) := by decide +kernel
theorem dX10_right_220 : decode cX10_right 220 = .ok (.iinc 4 1, 3) := by decide +kernel
theorem dX10_right_223 : decode cX10_right 223 = .ok (.goto (-179), 3) := by decide +kernel
theorem dX10_right_226 : decode cX10_right 226 = .ok (.aload_n 0, 1) := by decide +kernel
theorem dX10_right_227 : decode cX10_right 227 = .ok (.aload_n 0, 1) := by decide +kernel
theorem dX10_right_228 : decode cX10_right 228 = .ok (.getfield 284, 3) := by decide +kernel
theorem dX10_right_231 : decode cX10_right 231 = .ok (.iconst 2, 1) := by decide +kernel
theorem dX10_right_232 : decode cX10_right 232 = .ok (.iload_n 3, 1) := by decide +kernel
theorem dX10_right_233 : decode cX10_right 233 = .ok (.imul, 1) := by decide +kernel
theorem dX10_right_234 : decode cX10_right 234 = .ok (.iload_n 2, 1) := by decide +kernel
theorem dX10_right_235 : decode cX10_right 235 = .ok (.iadd, 1) := by decide +kernel
theorem dX10_right_236 : decode cX10_right 236 = .ok (.bipush 8, 2) := by decide +kernel
theorem dX10_right_238 : decode cX10_right 238 = .ok (.invokevirtual 290, 3) := by decide +kernel
theorem dX10_right_241 : decode cX10_right 241 = .ok (.ifCond .ne 5, 3) := by decide +kernel
theorem dX10_right_244 : decode cX10_right 244 = .ok (.iconst (-1), 1) := by decide +kernel
theorem dX10_right_245 : decode cX10_right 245 = .ok (.ireturn, 1) := by decide +kernel
theorem dX10_right_246 : decode cX10_right 246 = .ok (.aload_n 0, 1) := by decide +kernel
theorem dX10_right_247 : decode cX10_right 247 = .ok (.bipush 9, 2) := by decide +kernel
theorem dX10_right_249 : decode cX10_right 249 = .ok (.invokevirtual 105, 3) := by decide +kernel
theorem dX10_right_252 : decode cX10_right 252 = .ok (.aload_n 0, 1) := by decide +kernel
theorem dX10_right_253 : decode cX10_right 253 = .ok (.bipush 10, 2) := by decide +kernel
theorem dX10_right_255 : decode cX10_right 255 = .ok (.invokevirtual 105, 3) := by decide +kernel
theorem dX10_right_258 : decode cX10_right 258 = .ok (.iconst 0, 1) := by decide +kernel
theorem dX10_right_259 : decode cX10_right 259 = .ok (.istore 4, 2) := by decide +kernel
theorem dX10_right_261 : decode cX10_right 261 = .ok (.iload 4, 2) := by decide +kernel
theorem dX10_right_263 : decode cX10_right 263 = .ok (.iload_n 3, 1) := by decide +kernel
theorem dX10_right_264 : decode cX10_right 264 = .ok (.if_icmp .ge 31, 3) := by decide +kernel
theorem dX10_right_267 : decode cX10_right 267 = .ok (.aload_n 0, 1) := by decide +kernel
theorem dX10_right_268 : decode cX10_right 268 = .ok (.getfield 13, 3) := by decide +kernel
theorem dX10_right_271 : decode cX10_right 271 = .ok (.sipush 720, 3) := by decide +kernel
theorem dX10_right_274 : decode cX10_right 274 = .ok (.iload 4, 2) := by decide +kernel
theorem dX10_right_276 : decode cX10_right 276 = .ok (.iadd, 1) := by decide +kernel
theorem dX10_right_277 : decode cX10_right 277 = .ok (.aload_n 0, 1) := by decide +kernel
theorem dX10_right_278 : decode cX10_right 278 = .ok (.getfield 13, 3) := by decide +kernel
theorem dX10_right_281 : decode cX10_right 281 = .ok (.sipush 640, 3) := by decide +kernel
theorem dX10_right_284 : decode cX10_right 284 = .ok (.iload 4, 2) := by decide +kernel
theorem dX10_right_286 : decode cX10_right 286 = .ok (.iadd, 1) := by decide +kernel
theorem dX10_right_287 : decode cX10_right 287 = .ok (.iaload, 1) := by decide +kernel
theorem dX10_right_288 : decode cX10_right 288 = .ok (.iastore, 1) := by decide +kernel
theorem dX10_right_289 : decode cX10_right 289 = .ok (.iinc 4 1, 3) := by decide +kernel
theorem dX10_right_292 : decode cX10_right 292 = .ok (.goto (-31), 3) := by decide +kernel
theorem dX10_right_295 : decode cX10_right 295 = .ok (.aload_n 0, 1) := by decide +kernel
theorem dX10_right_296 : decode cX10_right 296 = .ok (.getfield 13, 3) := by decide +kernel
theorem dX10_right_299 : decode cX10_right 299 = .ok (.sipush 720, 3) := by decide +kernel
theorem dX10_right_302 : decode cX10_right 302 = .ok (.iload_n 3, 1) := by decide +kernel
theorem dX10_right_303 : decode cX10_right 303 = .ok (.iadd, 1) := by decide +kernel
theorem dX10_right_304 : decode cX10_right 304 = .ok (.iconst 1, 1) := by decide +kernel
theorem dX10_right_305 : decode cX10_right 305 = .ok (.iastore, 1) := by decide +kernel
theorem dX10_right_306 : decode cX10_right 306 = .ok (.iconst 0, 1) := by decide +kernel
theorem dX10_right_307 : decode cX10_right 307 = .ok (.istore 4, 2) := by decide +kernel
theorem dX10_right_309 : decode cX10_right 309 = .ok (.iload 4, 2) := by decide +kernel
theorem dX10_right_311 : decode cX10_right 311 = .ok (.iload_n 3, 1) := by decide +kernel
theorem dX10_right_312 : decode cX10_right 312 = .ok (.iload_n 2, 1) := by decide +kernel
theorem dX10_right_313 : decode cX10_right 313 = .ok (.iadd, 1) := by decide +kernel
theorem dX10_right_314 : decode cX10_right 314 = .ok (.if_icmp .ge 33, 3) := by decide +kernel
theorem dX10_right_317 : decode cX10_right 317 = .ok (.aload_n 0, 1) := by decide +kernel
theorem dX10_right_318 : decode cX10_right 318 = .ok (.getfield 13, 3) := by decide +kernel
theorem dX10_right_321 : decode cX10_right 321 = .ok (.sipush 800, 3) := by decide +kernel
theorem dX10_right_324 : decode cX10_right 324 = .ok (.iload 4, 2) := by decide +kernel
theorem dX10_right_326 : decode cX10_right 326 = .ok (.iadd, 1) := by decide +kernel
theorem dX10_right_327 : decode cX10_right 327 = .ok (.aload_n 0, 1) := by decide +kernel
theorem dX10_right_328 : decode cX10_right 328 = .ok (.getfield 13, 3) := by decide +kernel
theorem dX10_right_331 : decode cX10_right 331 = .ok (.sipush 640, 3) := by decide +kernel
theorem dX10_right_334 : decode cX10_right 334 = .ok (.iload_n 3, 1) := by decide +kernel
theorem dX10_right_335 : decode cX10_right 335 = .ok (.iadd, 1) := by decide +kernel
theorem dX10_right_336 : decode cX10_right 336 = .ok (.iload 4, 2) := by decide +kernel
theorem dX10_right_338 : decode cX10_right 338 = .ok (.iadd, 1) := by decide +kernel
theorem dX10_right_339 : decode cX10_right 339 = .ok (.iaload, 1) := by decide +kernel
theorem dX10_right_340 : decode cX10_right 340 = .ok (.iastore, 1) := by decide +kernel
theorem dX10_right_341 : decode cX10_right 341 = .ok (.iinc 4 1, 3) := by decide +kernel
theorem dX10_right_344 : decode cX10_right 344 = .ok (.goto (-35), 3) := by decide +kernel
theorem dX10_right_347 : decode cX10_right 347 = .ok (.aload_n 0, 1) := by decide +kernel
theorem dX10_right_348 : decode cX10_right 348 = .ok (.bipush 10, 2) := by decide +kernel
theorem dX10_right_350 : decode cX10_right 350 = .ok (.bipush 9, 2) := by decide +kernel
theorem dX10_right_352 : decode cX10_right 352 = .ok (.bipush 11, 2) := by decide +kernel
theorem dX10_right_354 : decode cX10_right 354 = .ok (.invokevirtual 269, 3) := by decide +kernel
theorem dX10_right_357 : decode cX10_right 357 = .ok (.aload_n 0, 1) := by decide +kernel
theorem dX10_right_358 : decode cX10_right 358 = .ok (.bipush 10, 2) := by decide +kernel
theorem dX10_right_360 : decode cX10_right 360 = .ok (.invokevirtual 94, 3) := by decide +kernel
theorem dX10_right_363 : decode cX10_right 363 = .ok (.ifCond .gt 13, 3) := by decide +kernel
theorem dX10_right_366 : decode cX10_right 366 = .ok (.aload_n 0, 1) := by decide +kernel
theorem dX10_right_367 : decode cX10_right 367 = .ok (.bipush 11, 2) := by decide +kernel
theorem dX10_right_369 : decode cX10_right 369 = .ok (.invokevirtual 94, 3) := by decide +kernel
theorem dX10_right_372 : decode cX10_right 372 = .ok (.iload_n 2, 1) := by decide +kernel
theorem dX10_right_373 : decode cX10_right 373 = .ok (.if_icmp .le 5, 3) := by decide +kernel
theorem dX10_right_376 : decode cX10_right 376 = .ok (.iconst (-1), 1) := by decide +kernel
theorem dX10_right_377 : decode cX10_right 377 = .ok (.ireturn, 1) := by decide +kernel
theorem dX10_right_378 : decode cX10_right 378 = .ok (.iconst 0, 1) := by decide +kernel
theorem dX10_right_379 : decode cX10_right 379 = .ok (.istore 4, 2) := by decide +kernel
theorem dX10_right_381 : decode cX10_right 381 = .ok (.iconst 0, 1) := by decide +kernel
theorem dX10_right_382 : decode cX10_right 382 = .ok (.istore 5, 2) := by decide +kernel
theorem dX10_right_384 : decode cX10_right 384 = .ok (.iload 5, 2) := by decide +kernel
theorem dX10_right_386 : decode cX10_right 386 = .ok (.aload_n 0, 1) := by decide +kernel
theorem dX10_right_387 : decode cX10_right 387 = .ok (.getfield 284, 3) := by decide +kernel
theorem dX10_right_390 : decode cX10_right 390 = .ok (.if_icmp .ge 42, 3) := by decide +kernel
theorem dX10_right_393 : decode cX10_right 393 = .ok (.iload 4, 2) := by decide +kernel
theorem dX10_right_395 : decode cX10_right 395 = .ok (.aload_n 0, 1) := by decide +kernel
theorem dX10_right_396 : decode cX10_right 396 = .ok (.bipush 11, 2) := by decide +kernel
theorem dX10_right_398 : decode cX10_right 398 = .ok (.aload_n 0, 1) := by decide +kernel
theorem dX10_right_399 : decode cX10_right 399 = .ok (.getfield 39, 3) := by decide +kernel
theorem dX10_right_402 : decode cX10_right 402 = .ok (.iload 5, 2) := by decide +kernel
theorem dX10_right_404 : decode cX10_right 404 = .ok (.iaload, 1) := by decide +kernel
theorem dX10_right_405 : decode cX10_right 405 = .ok (.invokevirtual 281, 3) := by decide +kernel
theorem dX10_right_408 : decode cX10_right 408 = .ok (.aload_n 0, 1) := by decide +kernel
theorem dX10_right_409 : decode cX10_right 409 = .ok (.getfield 42, 3) := by decide +kernel
theorem dX10_right_412 : decode cX10_right 412 = .ok (.iload 5, 2) := by decide +kernel
theorem dX10_right_414 : decode cX10_right 414 = .ok (.iaload, 1) := by decide +kernel
theorem dX10_right_415 : decode cX10_right 415 = .ok (.if_icmp .ne 7, 3) := by decide +kernel
theorem dX10_right_418 : decode cX10_right 418 = .ok (.iconst 0, 1) := by decide +kernel
theorem dX10_right_419 : decode cX10_right 419 = .ok (.goto 4, 3) := by decide +kernel
theorem dX10_right_422 : decode cX10_right 422 = .ok (.iconst 1, 1) := by decide +kernel
theorem dX10_right_423 : decode cX10_right 423 = .ok (.iadd, 1) := by decide +kernel
theorem dX10_right_424 : decode cX10_right 424 = .ok (.istore 4, 2) := by decide +kernel
theorem dX10_right_426 : decode cX10_right 426 = .ok (.iinc 5 1, 3) := by decide +kernel
theorem dX10_right_429 : decode cX10_right 429 = .ok (.goto (-45), 3) := by decide +kernel
theorem dX10_right_432 : decode cX10_right 432 = .ok (.iload 4, 2) := by decide +kernel
theorem dX10_right_434 : decode cX10_right 434 = .ok (.iload_n 3, 1) := by decide +kernel
theorem dX10_right_435 : decode cX10_right 435 = .ok (.if_icmp .le 5, 3) := by decide +kernel
theorem dX10_right_438 : decode cX10_right 438 = .ok (.iconst (-1), 1) := by decide +kernel
theorem dX10_right_439 : decode cX10_right 439 = .ok (.ireturn, 1) := by decide +kernel
theorem dX10_right_440 : decode cX10_right 440 = .ok (.aload_n 0, 1) := by decide +kernel
theorem dX10_right_441 : decode cX10_right 441 = .ok (.iload_n 1, 1) := by decide +kernel
theorem dX10_right_442 : decode cX10_right 442 = .ok (.bipush 11, 2) := by decide +kernel
theorem dX10_right_444 : decode cX10_right 444 = .ok (.invokevirtual 109, 3) := by decide +kernel
theorem dX10_right_447 : decode cX10_right 447 = .ok (.istore 5, 2) := by decide +kernel
theorem dX10_right_449 : decode cX10_right 449 = .ok (.iload 4, 2) := by decide +kernel
theorem dX10_right_451 : decode cX10_right 451 = .ok (.ireturn, 1) := by decide +kernel
theorem dX10_relate_0 : decode cX10_relate 0 = .ok (.aload_n 0, 1) := by decide +kernel
theorem dX10_relate_1 : decode cX10_relate 1 = .ok (.bipush 8, 2) := by decide +kernel
theorem dX10_relate_3 : decode cX10_relate 3 = .ok (.invokevirtual 105, 3) := by decide +kernel
theorem dX10_relate_6 : decode cX10_relate 6 = .ok (.aload_n 0, 1) := by decide +kernel
theorem dX10_relate_7 : decode cX10_relate 7 = .ok (.bipush 9, 2) := by decide +kernel
theorem dX10_relate_9 : decode cX10_relate 9 = .ok (.invokevirtual 105, 3) := by decide +kernel
theorem dX10_relate_12 : decode cX10_relate 12 = .ok (.aload_n 0, 1) := by decide +kernel
theorem dX10_relate_13 : decode cX10_relate 13 = .ok (.getfield 13, 3) := by decide +kernel
theorem dX10_relate_16 : decode cX10_relate 16 = .ok (.sipush 640, 3) := by decide +kernel
theorem dX10_relate_19 : decode cX10_relate 19 = .ok (.iconst 1, 1) := by decide +kernel
theorem dX10_relate_20 : decode cX10_relate 20 = .ok (.iastore, 1) := by decide +kernel
theorem dX10_relate_21 : decode cX10_relate 21 = .ok (.aload_n 0, 1) := by decide +kernel
theorem dX10_relate_22 : decode cX10_relate 22 = .ok (.getfield 13, 3) := by decide +kernel
theorem dX10_relate_25 : decode cX10_relate 25 = .ok (.sipush 720, 3) := by decide +kernel
theorem dX10_relate_28 : decode cX10_relate 28 = .ok (.iconst 1, 1) := by decide +kernel
theorem dX10_relate_29 : decode cX10_relate 29 = .ok (.iastore, 1) := by decide +kernel
theorem dX10_relate_30 : decode cX10_relate 30 = .ok (.aload_n 0, 1) := by decide +kernel
theorem dX10_relate_31 : decode cX10_relate 31 = .ok (.iconst 0, 1) := by decide +kernel
theorem dX10_relate_32 : decode cX10_relate 32 = .ok (.putfield 296, 3) := by decide +kernel
theorem dX10_relate_35 : decode cX10_relate 35 = .ok (.iconst 1, 1) := by decide +kernel
theorem dX10_relate_36 : decode cX10_relate 36 = .ok (.istore_n 1, 1) := by decide +kernel
theorem dX10_relate_37 : decode cX10_relate 37 = .ok (.iconst 1, 1) := by decide +kernel
theorem dX10_relate_38 : decode cX10_relate 38 = .ok (.istore_n 2, 1) := by decide +kernel
theorem dX10_relate_39 : decode cX10_relate 39 = .ok (.iconst 0, 1) := by decide +kernel
theorem dX10_relate_40 : decode cX10_relate 40 = .ok (.istore_n 3, 1) := by decide +kernel
theorem dX10_relate_41 : decode cX10_relate 41 = .ok (.iload_n 3, 1) := by decide +kernel
theorem dX10_relate_42 : decode cX10_relate 42 = .ok (.aload_n 0, 1) := by decide +kernel
theorem dX10_relate_43 : decode cX10_relate 43 = .ok (.getfield 284, 3) := by decide +kernel
theorem dX10_relate_46 : decode cX10_relate 46 = .ok (.if_icmp .ge 204, 3) := by decide +kernel
theorem dX10_relate_49 : decode cX10_relate 49 = .ok (.aload_n 0, 1) := by decide +kernel
theorem dX10_relate_50 : decode cX10_relate 50 = .ok (.getfield 42, 3) := by decide +kernel
theorem dX10_relate_53 : decode cX10_relate 53 = .ok (.iload_n 3, 1) := by decide +kernel
theorem dX10_relate_54 : decode cX10_relate 54 = .ok (.iaload, 1) := by decide +kernel
theorem dX10_relate_55 : decode cX10_relate 55 = .ok (.istore 4, 2) := by decide +kernel
theorem dX10_relate_57 : decode cX10_relate 57 = .ok (.iconst 1, 1) := by decide +kernel
theorem dX10_relate_58 : decode cX10_relate 58 = .ok (.istore 5, 2) := by decide +kernel
theorem dX10_relate_60 : decode cX10_relate 60 = .ok (.iload 5, 2) := by decide +kernel
theorem dX10_relate_62 : decode cX10_relate 62 = .ok (.aload_n 0, 1) := by decide +kernel
theorem dX10_relate_63 : decode cX10_relate 63 = .ok (.getfield 296, 3) := by decide +kernel
theorem dX10_relate_66 : decode cX10_relate 66 = .ok (.if_icmp .gt 40, 3) := by decide +kernel
theorem dX10_relate_69 : decode cX10_relate 69 = .ok (.iload 4, 2) := by decide +kernel
theorem dX10_relate_71 : decode cX10_relate 71 = .ok (.aload_n 0, 1) := by decide +kernel
theorem dX10_relate_72 : decode cX10_relate 72 = .ok (.getfield 13, 3) := by decide +kernel
theorem dX10_relate_75 : decode cX10_relate 75 = .ok (.sipush 640, 3) := by decide +kernel
theorem dX10_relate_78 : decode cX10_relate 78 = .ok (.iload 5, 2) := by decide +kernel
theorem dX10_relate_80 : decode cX10_relate 80 = .ok (.iadd, 1) := by decide +kernel
theorem dX10_relate_81 : decode cX10_relate 81 = .ok (.iaload, 1) := by decide +kernel
theorem dX10_relate_82 : decode cX10_relate 82 = .ok (.aload_n 0, 1) := by decide +kernel
theorem dX10_relate_83 : decode cX10_relate 83 = .ok (.getfield 42, 3) := by decide +kernel
theorem dX10_relate_86 : decode cX10_relate 86 = .ok (.iload_n 3, 1) := by decide +kernel
theorem dX10_relate_87 : decode cX10_relate 87 = .ok (.iload 5, 2) := by decide +kernel
theorem dX10_relate_89 : decode cX10_relate 89 = .ok (.isub, 1) := by decide +kernel
theorem dX10_relate_90 : decode cX10_relate 90 = .ok (.iaload, 1) := by decide +kernel
theorem dX10_relate_91 : decode cX10_relate 91 = .ok (.imul, 1) := by decide +kernel
theorem dX10_relate_92 : decode cX10_relate 92 = .ok (.iadd, 1) := by decide +kernel
theorem dX10_relate_93 : decode cX10_relate 93 = .ok (.aload_n 0, 1) := by decide +kernel
theorem dX10_relate_94 : decode cX10_relate 94 = .ok (.getfield 64, 3) := by decide +kernel
theorem dX10_relate_97 : decode cX10_relate 97 = .ok (.irem, 1) := by decide +kernel
theorem dX10_relate_98 : decode cX10_relate 98 = .ok (.istore 4, 2) := by decide +kernel
theorem dX10_relate_100 : decode cX10_relate 100 = .ok (.iinc 5 1, 3) := by decide +kernel
theorem dX10_relate_103 : decode cX10_relate 103 = .ok (.goto (-43), 3) := by decide +kernel
theorem dX10_relate_106 : decode cX10_relate 106 = .ok (.iload 4, 2) := by decide +kernel
theorem dX10_relate_108 : decode cX10_relate 108 = .ok (.ifCond .ne 9, 3) := by decide +kernel
theorem dX10_relate_111 : decode cX10_relate 111 = .ok (.iinc 1 1, 3) := by decide +kernel
theorem dX10_relate_114 : decode cX10_relate 114 = .ok (.goto 130, 3) := by decide +kernel
theorem dX10_relate_117 : decode cX10_relate 117 = .ok (.aload_n 0, 1) := by decide +kernel
theorem dX10_relate_118 : decode cX10_relate 118 = .ok (.bipush 8, 2) := by decide +kernel
theorem dX10_relate_120 : decode cX10_relate 120 = .ok (.bipush 14, 2) := by decide +kernel
theorem dX10_relate_122 : decode cX10_relate 122 = .ok (.invokevirtual 90, 3) := by decide +kernel
theorem dX10_relate_125 : decode cX10_relate 125 = .ok (.iload 4, 2) := by decide +kernel
theorem dX10_relate_127 : decode cX10_relate 127 = .ok (.aload_n 0, 1) := by decide +kernel
theorem dX10_relate_128 : decode cX10_relate 128 = .ok (.iload_n 2, 1) := by decide +kernel
theorem dX10_relate_129 : decode cX10_relate 129 = .ok (.invokevirtual 266, 3) := by decide +kernel
theorem dX10_relate_132 : decode cX10_relate 132 = .ok (.imul, 1) := by decide +kernel
theorem dX10_relate_133 : decode cX10_relate 133 = .ok (.aload_n 0, 1) := by decide +kernel
theorem dX10_relate_134 : decode cX10_relate 134 = .ok (.getfield 64, 3) := by decide +kernel
theorem dX10_relate_137 : decode cX10_relate 137 = .ok (.irem, 1) := by decide +kernel
theorem dX10_relate_138 : decode cX10_relate 138 = .ok (.istore 5, 2) := by decide +kernel
theorem dX10_relate_140 : decode cX10_relate 140 = .ok (.iconst 0, 1) := by decide +kernel
theorem dX10_relate_141 : decode cX10_relate 141 = .ok (.istore 6, 2) := by decide +kernel
theorem dX10_relate_143 : decode cX10_relate 143 = .ok (.iload 6, 2) := by decide +kernel
theorem dX10_relate_145 : decode cX10_relate 145 = .ok (.iload_n 1, 1) := by decide +kernel
theorem dX10_relate_146 : decode cX10_relate 146 = .ok (.iadd, 1) := by decide +kernel
theorem dX10_relate_147 : decode cX10_relate 147 = .ok (.bipush 80, 2) := by decide +kernel
theorem dX10_relate_149 : decode cX10_relate 149 = .ok (.if_icmp .ge 54, 3) := by decide +kernel
theorem dX10_relate_152 : decode cX10_relate 152 = .ok (.aload_n 0, 1) := by decide +kernel
theorem dX10_relate_153 : decode cX10_relate 153 = .ok (.getfield 13, 3) := by decide +kernel
theorem dX10_relate_156 : decode cX10_relate 156 = .ok (.sipush 640, 3) := by decide +kernel
theorem dX10_relate_159 : decode cX10_relate 159 = .ok (.iload 6, 2) := by decide +kernel
theorem dX10_relate_161 : decode cX10_relate 161 = .ok (.iadd, 1) := by decide +kernel
theorem dX10_relate_162 : decode cX10_relate 162 = .ok (.iload_n 1, 1) := by decide +kernel
theorem dX10_relate_163 : decode cX10_relate 163 = .ok (.iadd, 1) := by decide +kernel
theorem dX10_relate_164 : decode cX10_relate 164 = .ok (.aload_n 0, 1) := by decide +kernel
theorem dX10_relate_165 : decode cX10_relate 165 = .ok (.aload_n 0, 1) := by decide +kernel
theorem dX10_relate_166 : decode cX10_relate 166 = .ok (.getfield 13, 3) := by decide +kernel
theorem dX10_relate_169 : decode cX10_relate 169 = .ok (.sipush 640, 3) := by decide +kernel
theorem dX10_relate_172 : decode cX10_relate 172 = .ok (.iload 6, 2) := by decide +kernel
theorem dX10_relate_174 : decode cX10_relate 174 = .ok (.iadd, 1) := by decide +kernel
theorem dX10_relate_175 : decode cX10_relate 175 = .ok (.iload_n 1, 1) := by decide +kernel
theorem dX10_relate_176 : decode cX10_relate 176 = .ok (.iadd, 1) := by decide +kernel
theorem dX10_relate_177 : decode cX10_relate 177 = .ok (.iaload, 1) := by decide +kernel
theorem dX10_relate_178 : decode cX10_relate 178 = .ok (.iload 5, 2) := by decide +kernel
theorem dX10_relate_180 : decode cX10_relate 180 = .ok (.aload_n 0, 1) := by decide +kernel
theorem dX10_relate_181 : decode cX10_relate 181 = .ok (.getfield 13, 3) := by decide +kernel
theorem dX10_relate_184 : decode cX10_relate 184 = .ok (.sipush 720, 3) := by decide +kernel
theorem dX10_relate_187 : decode cX10_relate 187 = .ok (.iload 6, 2) := by decide +kernel
theorem dX10_relate_189 : decode cX10_relate 189 = .ok (.iadd, 1) := by decide +kernel
theorem dX10_relate_190 : decode cX10_relate 190 = .ok (.iaload, 1) := by decide +kernel
theorem dX10_relate_191 : decode cX10_relate 191 = .ok (.imul, 1) := by decide +kernel
theorem dX10_relate_192 : decode cX10_relate 192 = .ok (.isub, 1) := by decide +kernel
theorem dX10_relate_193 : decode cX10_relate 193 = .ok (.invokevirtual 102, 3) := by decide +kernel
theorem dX10_relate_196 : decode cX10_relate 196 = .ok (.iastore, 1) := by decide +kernel
theorem dX10_relate_197 : decode cX10_relate 197 = .ok (.iinc 6 1, 3) := by decide +kernel
theorem dX10_relate_200 : decode cX10_relate 200 = .ok (.goto (-57), 3) := by decide +kernel
theorem dX10_relate_203 : decode cX10_relate 203 = .ok (.iconst 2, 1) := by decide +kernel
theorem dX10_relate_204 : decode cX10_relate 204 = .ok (.aload_n 0, 1) := by decide +kernel
theorem dX10_relate_205 : decode cX10_relate 205 = .ok (.getfield 296, 3) := by decide +kernel
theorem dX10_relate_208 : decode cX10_relate 208 = .ok (.imul, 1) := by decide +kernel
theorem dX10_relate_209 : decode cX10_relate 209 = .ok (.iload_n 3, 1) := by decide +kernel
theorem dX10_relate_210 : decode cX10_relate 210 = .ok (.if_icmp .le 9, 3) := by decide +kernel
theorem dX10_relate_213 : decode cX10_relate 213 = .ok (.iinc 1 1, 3) := by decide +kernel
theorem dX10_relate_216 : decode cX10_relate 216 = .ok (.goto 28, 3) := by decide +kernel
theorem dX10_relate_219 : decode cX10_relate 219 = .ok (.aload_n 0, 1) := by decide +kernel
theorem dX10_relate_220 : decode cX10_relate 220 = .ok (.iload_n 3, 1) := by decide +kernel
theorem dX10_relate_221 : decode cX10_relate 221 = .ok (.iconst 1, 1) := by decide +kernel
theorem dX10_relate_222 : decode cX10_relate 222 = .ok (.iadd, 1) := by decide +kernel
theorem dX10_relate_223 : decode cX10_relate 223 = .ok (.aload_n 0, 1) := by decide +kernel
theorem dX10_relate_224 : decode cX10_relate 224 = .ok (.getfield 296, 3) := by decide +kernel
theorem dX10_relate_227 : decode cX10_relate 227 = .ok (.isub, 1) := by decide +kernel
theorem dX10_relate_228 : decode cX10_relate 228 = .ok (.putfield 296, 3) := by decide +kernel
theorem dX10_relate_231 : decode cX10_relate 231 = .ok (.aload_n 0, 1) := by decide +kernel
theorem dX10_relate_232 : decode cX10_relate 232 = .ok (.bipush 14, 2) := by decide +kernel
theorem dX10_relate_234 : decode cX10_relate 234 = .ok (.bipush 9, 2) := by decide +kernel
theorem dX10_relate_236 : decode cX10_relate 236 = .ok (.invokevirtual 90, 3) := by decide +kernel
theorem dX10_relate_239 : decode cX10_relate 239 = .ok (.iload 4, 2) := by decide +kernel
theorem dX10_relate_241 : decode cX10_relate 241 = .ok (.istore_n 2, 1) := by decide +kernel
theorem dX10_relate_242 : decode cX10_relate 242 = .ok (.iconst 1, 1) := by decide +kernel
theorem dX10_relate_243 : decode cX10_relate 243 = .ok (.istore_n 1, 1) := by decide +kernel
theorem dX10_relate_244 : decode cX10_relate 244 = .ok (.iinc 3 1, 3) := by decide +kernel
theorem dX10_relate_247 : decode cX10_relate 247 = .ok (.goto (-206), 3) := by decide +kernel
theorem dX10_relate_250 : decode cX10_relate 250 = .ok (.return_, 1) := by decide +kernel
theorem dX10_relation_0 : decode cX10_relation 0 = .ok (.aload_n 0, 1) := by decide +kernel
theorem dX10_relation_1 : decode cX10_relation 1 = .ok (.invokevirtual 299, 3) := by decide +kernel
theorem dX10_relation_4 : decode cX10_relation 4 = .ok (.iload_n 1, 1) := by decide +kernel
theorem dX10_relation_5 : decode cX10_relation 5 = .ok (.iconst 0, 1) := by decide +kernel
theorem dX10_relation_6 : decode cX10_relation 6 = .ok (.aload_n 0, 1) := by decide +kernel
theorem dX10_relation_7 : decode cX10_relation 7 = .ok (.getfield 296, 3) := by decide +kernel
theorem dX10_relation_10 : decode cX10_relation 10 = .ok (.invokestatic 86, 3) := by decide +kernel
theorem dX10_relation_13 : decode cX10_relation 13 = .ok (.ifCond .ne 6, 3) := by decide +kernel
theorem dX10_relation_16 : decode cX10_relation 16 = .ok (.bipush (-2), 2) := by decide +kernel
theorem dX10_relation_18 : decode cX10_relation 18 = .ok (.ireturn, 1) := by decide +kernel
theorem dX10_relation_19 : decode cX10_relation 19 = .ok (.iload_n 1, 1) := by decide +kernel
theorem dX10_relation_20 : decode cX10_relation 20 = .ok (.ifCond .ne 8, 3) := by decide +kernel
theorem dX10_relation_23 : decode cX10_relation 23 = .ok (.aload_n 0, 1) := by decide +kernel
theorem dX10_relation_24 : decode cX10_relation 24 = .ok (.getfield 296, 3) := by decide +kernel
theorem dX10_relation_27 : decode cX10_relation 27 = .ok (.ireturn, 1) := by decide +kernel
theorem dX10_relation_28 : decode cX10_relation 28 = .ok (.iconst 2, 1) := by decide +kernel
theorem dX10_relation_29 : decode cX10_relation 29 = .ok (.aload_n 0, 1) := by decide +kernel
theorem dX10_relation_30 : decode cX10_relation 30 = .ok (.getfield 296, 3) := by decide +kernel
theorem dX10_relation_33 : decode cX10_relation 33 = .ok (.imul, 1) := by decide +kernel
theorem dX10_relation_34 : decode cX10_relation 34 = .ok (.aload_n 0, 1) := by decide +kernel
theorem dX10_relation_35 : decode cX10_relation 35 = .ok (.getfield 284, 3) := by decide +kernel
theorem dX10_relation_38 : decode cX10_relation 38 = .ok (.if_icmp .le 8, 3) := by decide +kernel
theorem dX10_relation_41 : decode cX10_relation 41 = .ok (.bipush (-3), 2) := by decide +kernel
theorem dX10_relation_43 : decode cX10_relation 43 = .ok (.goto 18, 3) := by decide +kernel
theorem dX10_relation_46 : decode cX10_relation 46 = .ok (.aload_n 0, 1) := by decide +kernel
theorem dX10_relation_47 : decode cX10_relation 47 = .ok (.aload_n 0, 1) := by decide +kernel
theorem dX10_relation_48 : decode cX10_relation 48 = .ok (.getfield 13, 3) := by decide +kernel
theorem dX10_relation_51 : decode cX10_relation 51 = .ok (.sipush 640, 3) := by decide +kernel
theorem dX10_relation_54 : decode cX10_relation 54 = .ok (.iload_n 1, 1) := by decide +kernel
theorem dX10_relation_55 : decode cX10_relation 55 = .ok (.iadd, 1) := by decide +kernel
theorem dX10_relation_56 : decode cX10_relation 56 = .ok (.iaload, 1) := by decide +kernel
theorem dX10_relation_57 : decode cX10_relation 57 = .ok (.ineg, 1) := by decide +kernel
theorem dX10_relation_58 : decode cX10_relation 58 = .ok (.invokevirtual 102, 3) := by decide +kernel
theorem dX10_relation_61 : decode cX10_relation 61 = .ok (.ireturn, 1) := by decide +kernel
theorem dX10_power_0 : decode cX10_power 0 = .ok (.iload_n 1, 1) := by decide +kernel
theorem dX10_power_1 : decode cX10_power 1 = .ok (.iconst 0, 1) := by decide +kernel
theorem dX10_power_2 : decode cX10_power 2 = .ok (.sipush 999, 3) := by decide +kernel
theorem dX10_power_5 : decode cX10_power 5 = .ok (.invokestatic 86, 3) := by decide +kernel
theorem dX10_power_8 : decode cX10_power 8 = .ok (.ifCond .ne 6, 3) := by decide +kernel
theorem dX10_power_11 : decode cX10_power 11 = .ok (.bipush (-2), 2) := by decide +kernel
theorem dX10_power_13 : decode cX10_power 13 = .ok (.ireturn, 1) := by decide +kernel
theorem dX10_power_14 : decode cX10_power 14 = .ok (.iconst 0, 1) := by decide +kernel
theorem dX10_power_15 : decode cX10_power 15 = .ok (.istore_n 2, 1) := by decide +kernel
theorem dX10_power_16 : decode cX10_power 16 = .ok (.iconst 0, 1) := by decide +kernel
theorem dX10_power_17 : decode cX10_power 17 = .ok (.istore_n 3, 1) := by decide +kernel
theorem dX10_power_18 : decode cX10_power 18 = .ok (.iload_n 3, 1) := by decide +kernel
theorem dX10_power_19 : decode cX10_power 19 = .ok (.aload_n 0, 1) := by decide +kernel
theorem dX10_power_20 : decode cX10_power 20 = .ok (.getfield 284, 3) := by decide +kernel
theorem dX10_power_23 : decode cX10_power 23 = .ok (.if_icmp .ge 35, 3) := by decide +kernel
theorem dX10_power_26 : decode cX10_power 26 = .ok (.iload_n 2, 1) := by decide +kernel
theorem dX10_power_27 : decode cX10_power 27 = .ok (.aload_n 0, 1) := by decide +kernel
theorem dX10_power_28 : decode cX10_power 28 = .ok (.getfield 42, 3) := by decide +kernel
theorem dX10_power_31 : decode cX10_power 31 = .ok (.iload_n 3, 1) := by decide +kernel
theorem dX10_power_32 : decode cX10_power 32 = .ok (.iaload, 1) := by decide +kernel
theorem dX10_power_33 : decode cX10_power 33 = .ok (.aload_n 0, 1) := by decide +kernel
theorem dX10_power_34 : decode cX10_power 34 = .ok (.aload_n 0, 1) := by decide +kernel
theorem dX10_power_35 : decode cX10_power 35 = .ok (.getfield 39, 3) := by decide +kernel
theorem dX10_power_38 : decode cX10_power 38 = .ok (.iload_n 3, 1) := by decide +kernel
theorem dX10_power_39 : decode cX10_power 39 = .ok (.iaload, 1) := by decide +kernel
theorem dX10_power_40 : decode cX10_power 40 = .ok (.iload_n 1, 1) := by decide +kernel
theorem dX10_power_41 : decode cX10_power 41 = .ok (.invokevirtual 82, 3) := by decide +kernel
theorem dX10_power_44 : decode cX10_power 44 = .ok (.imul, 1) := by decide +kernel
theorem dX10_power_45 : decode cX10_power 45 = .ok (.iadd, 1) := by decide +kernel
theorem dX10_power_46 : decode cX10_power 46 = .ok (.aload_n 0, 1) := by decide +kernel
theorem dX10_power_47 : decode cX10_power 47 = .ok (.getfield 64, 3) := by decide +kernel
theorem dX10_power_50 : decode cX10_power 50 = .ok (.irem, 1) := by decide +kernel
theorem dX10_power_51 : decode cX10_power 51 = .ok (.istore_n 2, 1) := by decide +kernel
theorem dX10_power_52 : decode cX10_power 52 = .ok (.iinc 3 1, 3) := by decide +kernel
theorem dX10_power_55 : decode cX10_power 55 = .ok (.goto (-37), 3) := by decide +kernel
theorem dX10_power_58 : decode cX10_power 58 = .ok (.iload_n 2, 1) := by decide +kernel
theorem dX10_power_59 : decode cX10_power 59 = .ok (.ireturn, 1) := by decide +kernel
theorem dX10_count_0 : decode cX10_count 0 = .ok (.iload_n 1, 1) := by decide +kernel
theorem dX10_count_1 : decode cX10_count 1 = .ok (.tableswitch 69 0 5 #[39, 44, 49, 54, 59, 64], 39) := by decide +kernel
theorem dX10_count_40 : decode cX10_count 40 = .ok (.aload_n 0, 1) := by decide +kernel
theorem dX10_count_41 : decode cX10_count 41 = .ok (.getfield 64, 3) := by decide +kernel
theorem dX10_count_44 : decode cX10_count 44 = .ok (.ireturn, 1) := by decide +kernel
theorem dX10_count_45 : decode cX10_count 45 = .ok (.aload_n 0, 1) := by decide +kernel
theorem dX10_count_46 : decode cX10_count 46 = .ok (.getfield 112, 3) := by decide +kernel
theorem dX10_count_49 : decode cX10_count 49 = .ok (.ireturn, 1) := by decide +kernel
theorem dX10_count_50 : decode cX10_count 50 = .ok (.aload_n 0, 1) := by decide +kernel
theorem dX10_count_51 : decode cX10_count 51 = .ok (.getfield 284, 3) := by decide +kernel
theorem dX10_count_54 : decode cX10_count 54 = .ok (.ireturn, 1) := by decide +kernel
theorem dX10_count_55 : decode cX10_count 55 = .ok (.aload_n 0, 1) := by decide +kernel
theorem dX10_count_56 : decode cX10_count 56 = .ok (.getfield 79, 3) := by decide +kernel
theorem dX10_count_59 : decode cX10_count 59 = .ok (.ireturn, 1) := by decide +kernel
theorem dX10_count_60 : decode cX10_count 60 = .ok (.aload_n 0, 1) := by decide +kernel
theorem dX10_count_61 : decode cX10_count 61 = .ok (.getfield 165, 3) := by decide +kernel
theorem dX10_count_64 : decode cX10_count 64 = .ok (.ireturn, 1) := by decide +kernel
theorem dX10_count_65 : decode cX10_count 65 = .ok (.aload_n 0, 1) := by decide +kernel
theorem dX10_count_66 : decode cX10_count 66 = .ok (.getfield 258, 3) := by decide +kernel
theorem dX10_count_69 : decode cX10_count 69 = .ok (.ireturn, 1) := by decide +kernel
theorem dX10_count_70 : decode cX10_count 70 = .ok (.bipush (-2), 2) := by decide +kernel
theorem dX10_count_72 : decode cX10_count 72 = .ok (.ireturn, 1) := by decide +kernel
theorem dX10_isSheet_0 : decode cX10_isSheet 0 = .ok (.iload_n 0, 1) := by decide +kernel
theorem dX10_isSheet_1 : decode cX10_isSheet 1 = .ok (.iconst 0, 1) := by decide +kernel
theorem dX10_isSheet_2 : decode cX10_isSheet 2 = .ok (.iconst 3, 1) := by decide +kernel
theorem dX10_isSheet_3 : decode cX10_isSheet 3 = .ok (.invokestatic 86, 3) := by decide +kernel
theorem dX10_isSheet_6 : decode cX10_isSheet 6 = .ok (.ireturn, 1) := by decide +kernel
theorem dX10_sheet_0 : decode cX10_sheet 0 = .ok (.iload_n 1, 1) := by decide +kernel
theorem dX10_sheet_1 : decode cX10_sheet 1 = .ok (.invokestatic 302, 3) := by decide +kernel
theorem dX10_sheet_4 : decode cX10_sheet 4 = .ok (.ifCond .eq 22, 3) := by decide +kernel
theorem dX10_sheet_7 : decode cX10_sheet 7 = .ok (.iload_n 2, 1) := by decide +kernel
theorem dX10_sheet_8 : decode cX10_sheet 8 = .ok (.iconst (-1), 1) := by decide +kernel
theorem dX10_sheet_9 : decode cX10_sheet 9 = .ok (.iconst 2, 1) := by decide +kernel
theorem dX10_sheet_10 : decode cX10_sheet 10 = .ok (.invokestatic 86, 3) := by decide +kernel
theorem dX10_sheet_13 : decode cX10_sheet 13 = .ok (.ifCond .eq 13, 3) := by decide +kernel
theorem dX10_sheet_16 : decode cX10_sheet 16 = .ok (.iload_n 2, 1) := by decide +kernel
theorem dX10_sheet_17 : decode cX10_sheet 17 = .ok (.ifCond .lt 12, 3) := by decide +kernel
theorem dX10_sheet_20 : decode cX10_sheet 20 = .ok (.iload_n 3, 1) := by decide +kernel
theorem dX10_sheet_21 : decode cX10_sheet 21 = .ok (.bipush 40, 2) := by decide +kernel
theorem dX10_sheet_23 : decode cX10_sheet 23 = .ok (.if_icmp .le 6, 3) := by decide +kernel
theorem dX10_sheet_26 : decode cX10_sheet 26 = .ok (.bipush (-2), 2) := by decide +kernel
theorem dX10_sheet_28 : decode cX10_sheet 28 = .ok (.ireturn, 1) := by decide +kernel
theorem dX10_sheet_29 : decode cX10_sheet 29 = .ok (.iload_n 2, 1) := by decide +kernel
theorem dX10_sheet_30 : decode cX10_sheet 30 = .ok (.ifCond .lt 10, 3) := by decide +kernel
theorem dX10_sheet_33 : decode cX10_sheet 33 = .ok (.iload_n 3, 1) := by decide +kernel
theorem dX10_sheet_34 : decode cX10_sheet 34 = .ok (.ifCond .ge 6, 3) := by decide +kernel
theorem dX10_sheet_37 : decode cX10_sheet 37 = .ok (.bipush (-14), 2) := by decide +kernel
theorem dX10_sheet_39 : decode cX10_sheet 39 = .ok (.ireturn, 1) := by decide +kernel
theorem dX10_sheet_40 : decode cX10_sheet 40 = .ok (.aload_n 0, 1) := by decide +kernel
theorem dX10_sheet_41 : decode cX10_sheet 41 = .ok (.getfield 51, 3) := by decide +kernel
theorem dX10_sheet_44 : decode cX10_sheet 44 = .ok (.iload_n 1, 1) := by decide +kernel
theorem dX10_sheet_45 : decode cX10_sheet 45 = .ok (.iload_n 2, 1) := by decide +kernel
theorem dX10_sheet_46 : decode cX10_sheet 46 = .ok (.ifCond .lt 7, 3) := by decide +kernel
theorem dX10_sheet_49 : decode cX10_sheet 49 = .ok (.iconst 1, 1) := by decide +kernel
theorem dX10_sheet_50 : decode cX10_sheet 50 = .ok (.goto 4, 3) := by decide +kernel
theorem dX10_sheet_53 : decode cX10_sheet 53 = .ok (.iconst 0, 1) := by decide +kernel
theorem dX10_sheet_54 : decode cX10_sheet 54 = .ok (.bastore, 1) := by decide +kernel
theorem dX10_sheet_55 : decode cX10_sheet 55 = .ok (.aload_n 0, 1) := by decide +kernel
theorem dX10_sheet_56 : decode cX10_sheet 56 = .ok (.getfield 55, 3) := by decide +kernel
theorem dX10_sheet_59 : decode cX10_sheet 59 = .ok (.iload_n 1, 1) := by decide +kernel
theorem dX10_sheet_60 : decode cX10_sheet 60 = .ok (.iload_n 2, 1) := by decide +kernel
theorem dX10_sheet_61 : decode cX10_sheet 61 = .ok (.iastore, 1) := by decide +kernel
theorem dX10_sheet_62 : decode cX10_sheet 62 = .ok (.aload_n 0, 1) := by decide +kernel
theorem dX10_sheet_63 : decode cX10_sheet 63 = .ok (.getfield 58, 3) := by decide +kernel
theorem dX10_sheet_66 : decode cX10_sheet 66 = .ok (.iload_n 1, 1) := by decide +kernel
theorem dX10_sheet_67 : decode cX10_sheet 67 = .ok (.iload_n 3, 1) := by decide +kernel
theorem dX10_sheet_68 : decode cX10_sheet 68 = .ok (.iastore, 1) := by decide +kernel
theorem dX10_sheet_69 : decode cX10_sheet 69 = .ok (.iconst 0, 1) := by decide +kernel
theorem dX10_sheet_70 : decode cX10_sheet 70 = .ok (.istore 4, 2) := by decide +kernel
theorem dX10_sheet_72 : decode cX10_sheet 72 = .ok (.iload 4, 2) := by decide +kernel
theorem dX10_sheet_74 : decode cX10_sheet 74 = .ok (.iload_n 3, 1) := by decide +kernel
theorem dX10_sheet_75 : decode cX10_sheet 75 = .ok (.if_icmp .ge 26, 3) := by decide +kernel
theorem dX10_sheet_78 : decode cX10_sheet 78 = .ok (.iload_n 2, 1) := by decide +kernel
theorem dX10_sheet_79 : decode cX10_sheet 79 = .ok (.ifCond .lt 22, 3) := by decide +kernel
theorem dX10_sheet_82 : decode cX10_sheet 82 = .ok (.aload_n 0, 1) := by decide +kernel
theorem dX10_sheet_83 : decode cX10_sheet 83 = .ok (.getfield 61, 3) := by decide +kernel
theorem dX10_sheet_86 : decode cX10_sheet 86 = .ok (.bipush 40, 2) := by decide +kernel
theorem dX10_sheet_88 : decode cX10_sheet 88 = .ok (.iload_n 1, 1) := by decide +kernel
theorem dX10_sheet_89 : decode cX10_sheet 89 = .ok (.imul, 1) := by decide +kernel
theorem dX10_sheet_90 : decode cX10_sheet 90 = .ok (.iload 4, 2) := by decide +kernel
theorem dX10_sheet_92 : decode cX10_sheet 92 = .ok (.iadd, 1) := by decide +kernel
theorem dX10_sheet_93 : decode cX10_sheet 93 = .ok (.iconst 0, 1) := by decide +kernel
theorem dX10_sheet_94 : decode cX10_sheet 94 = .ok (.iastore, 1) := by decide +kernel
theorem dX10_sheet_95 : decode cX10_sheet 95 = .ok (.iinc 4 1, 3) := by decide +kernel
theorem dX10_sheet_98 : decode cX10_sheet 98 = .ok (.goto (-26), 3) := by decide +kernel
theorem dX10_sheet_101 : decode cX10_sheet 101 = .ok (.iconst 1, 1) := by decide +kernel
theorem dX10_sheet_102 : decode cX10_sheet 102 = .ok (.ireturn, 1) := by decide +kernel
theorem dX10_cell_0 : decode cX10_cell 0 = .ok (.iload_n 1, 1) := by decide +kernel
theorem dX10_cell_1 : decode cX10_cell 1 = .ok (.invokestatic 302, 3) := by decide +kernel
theorem dX10_cell_4 : decode cX10_cell 4 = .ok (.ifCond .ne 6, 3) := by decide +kernel
theorem dX10_cell_7 : decode cX10_cell 7 = .ok (.bipush (-2), 2) := by decide +kernel
theorem dX10_cell_9 : decode cX10_cell 9 = .ok (.ireturn, 1) := by decide +kernel
theorem dX10_cell_10 : decode cX10_cell 10 = .ok (.aload_n 0, 1) := by decide +kernel
theorem dX10_cell_11 : decode cX10_cell 11 = .ok (.getfield 51, 3) := by decide +kernel
theorem dX10_cell_14 : decode cX10_cell 14 = .ok (.iload_n 1, 1) := by decide +kernel
theorem dX10_cell_15 : decode cX10_cell 15 = .ok (.baload, 1) := by decide +kernel
theorem dX10_cell_16 : decode cX10_cell 16 = .ok (.ifCond .ne 6, 3) := by decide +kernel
theorem dX10_cell_19 : decode cX10_cell 19 = .ok (.bipush (-11), 2) := by decide +kernel
theorem dX10_cell_21 : decode cX10_cell 21 = .ok (.ireturn, 1) := by decide +kernel
theorem dX10_cell_22 : decode cX10_cell 22 = .ok (.iload_n 2, 1) := by decide +kernel
theorem dX10_cell_23 : decode cX10_cell 23 = .ok (.iconst 0, 1) := by decide +kernel
theorem dX10_cell_24 : decode cX10_cell 24 = .ok (.aload_n 0, 1) := by decide +kernel
theorem dX10_cell_25 : decode cX10_cell 25 = .ok (.getfield 58, 3) := by decide +kernel
theorem dX10_cell_28 : decode cX10_cell 28 = .ok (.iload_n 1, 1) := by decide +kernel
theorem dX10_cell_29 : decode cX10_cell 29 = .ok (.iaload, 1) := by decide +kernel
theorem dX10_cell_30 : decode cX10_cell 30 = .ok (.iconst 1, 1) := by decide +kernel
theorem dX10_cell_31 : decode cX10_cell 31 = .ok (.isub, 1) := by decide +kernel
theorem dX10_cell_32 : decode cX10_cell 32 = .ok (.invokestatic 86, 3) := by decide +kernel
theorem dX10_cell_35 : decode cX10_cell 35 = .ok (.ifCond .ne 6, 3) := by decide +kernel
theorem dX10_cell_38 : decode cX10_cell 38 = .ok (.bipush (-12), 2) := by decide +kernel
theorem dX10_cell_40 : decode cX10_cell 40 = .ok (.ireturn, 1) := by decide +kernel
theorem dX10_cell_41 : decode cX10_cell 41 = .ok (.aload_n 0, 1) := by decide +kernel
theorem dX10_cell_42 : decode cX10_cell 42 = .ok (.getfield 61, 3) := by decide +kernel
theorem dX10_cell_45 : decode cX10_cell 45 = .ok (.bipush 40, 2) := by decide +kernel
theorem dX10_cell_47 : decode cX10_cell 47 = .ok (.iload_n 1, 1) := by decide +kernel
theorem dX10_cell_48 : decode cX10_cell 48 = .ok (.imul, 1) := by decide +kernel
theorem dX10_cell_49 : decode cX10_cell 49 = .ok (.iload_n 2, 1) := by decide +kernel
theorem dX10_cell_50 : decode cX10_cell 50 = .ok (.iadd, 1) := by decide +kernel
theorem dX10_cell_51 : decode cX10_cell 51 = .ok (.aload_n 0, 1) := by decide +kernel
theorem dX10_cell_52 : decode cX10_cell 52 = .ok (.getfield 55, 3) := by decide +kernel
theorem dX10_cell_55 : decode cX10_cell 55 = .ok (.iload_n 1, 1) := by decide +kernel
theorem dX10_cell_56 : decode cX10_cell 56 = .ok (.iaload, 1) := by decide +kernel
theorem dX10_cell_57 : decode cX10_cell 57 = .ok (.ifCond .ne 8, 3) := by decide +kernel
theorem dX10_cell_60 : decode cX10_cell 60 = .ok (.iload_n 3, 1) := by decide +kernel
theorem dX10_cell_61 : decode cX10_cell 61 = .ok (.i2b, 1) := by decide +kernel
theorem dX10_cell_62 : decode cX10_cell 62 = .ok (.goto 19, 3) := by decide +kernel
theorem dX10_cell_65 : decode cX10_cell 65 = .ok (.aload_n 0, 1) := by decide +kernel
theorem dX10_cell_66 : decode cX10_cell 66 = .ok (.getfield 55, 3) := by decide +kernel
theorem dX10_cell_69 : decode cX10_cell 69 = .ok (.iload_n 1, 1) := by decide +kernel
theorem dX10_cell_70 : decode cX10_cell 70 = .ok (.iaload, 1) := by decide +kernel
theorem dX10_cell_71 : decode cX10_cell 71 = .ok (.iconst 1, 1) := by decide +kernel
theorem dX10_cell_72 : decode cX10_cell 72 = .ok (.if_icmp .ne 8, 3) := by decide +kernel
theorem dX10_cell_75 : decode cX10_cell 75 = .ok (.iload_n 3, 1) := by decide +kernel
theorem dX10_cell_76 : decode cX10_cell 76 = .ok (.i2s, 1) := by decide +kernel
theorem dX10_cell_77 : decode cX10_cell 77 = .ok (.goto 4, 3) := by decide +kernel
theorem dX10_cell_80 : decode cX10_cell 80 = .ok (.iload_n 3, 1) := by decide +kernel
theorem dX10_cell_81 : decode cX10_cell 81 = .ok (.iastore, 1) := by decide +kernel
theorem dX10_cell_82 : decode cX10_cell 82 = .ok (.iconst 1, 1) := by decide +kernel
theorem dX10_cell_83 : decode cX10_cell 83 = .ok (.ireturn, 1) := by decide +kernel
theorem dX10_lay_0 : decode cX10_lay 0 = .ok (.iload_n 1, 1) := by decide +kernel
theorem dX10_lay_1 : decode cX10_lay 1 = .ok (.invokestatic 98, 3) := by decide +kernel
theorem dX10_lay_4 : decode cX10_lay 4 = .ok (.ifCond .eq 30, 3) := by decide +kernel
theorem dX10_lay_7 : decode cX10_lay 7 = .ok (.iload_n 2, 1) := by decide +kernel
theorem dX10_lay_8 : decode cX10_lay 8 = .ok (.invokestatic 302, 3) := by decide +kernel
theorem dX10_lay_11 : decode cX10_lay 11 = .ok (.ifCond .eq 23, 3) := by decide +kernel
theorem dX10_lay_14 : decode cX10_lay 14 = .ok (.iload_n 3, 1) := by decide +kernel
theorem dX10_lay_15 : decode cX10_lay 15 = .ok (.iconst 0, 1) := by decide +kernel
theorem dX10_lay_16 : decode cX10_lay 16 = .ok (.iconst 2, 1) := by decide +kernel
theorem dX10_lay_17 : decode cX10_lay 17 = .ok (.invokestatic 86, 3) := by decide +kernel
theorem dX10_lay_20 : decode cX10_lay 20 = .ok (.ifCond .eq 14, 3) := by decide +kernel
theorem dX10_lay_23 : decode cX10_lay 23 = .ok (.iload 5, 2) := by decide +kernel
theorem dX10_lay_25 : decode cX10_lay 25 = .ok (.iconst 0, 1) := by decide +kernel
theorem dX10_lay_26 : decode cX10_lay 26 = .ok (.bipush 32, 2) := by decide +kernel
theorem dX10_lay_28 : decode cX10_lay 28 = .ok (.invokestatic 86, 3) := by decide +kernel
theorem dX10_lay_31 : decode cX10_lay 31 = .ok (.ifCond .ne 6, 3) := by decide +kernel
theorem dX10_lay_34 : decode cX10_lay 34 = .ok (.bipush (-2), 2) := by decide +kernel
theorem dX10_lay_36 : decode cX10_lay 36 = .ok (.ireturn, 1) := by decide +kernel
theorem dX10_lay_37 : decode cX10_lay 37 = .ok (.aload_n 0, 1) := by decide +kernel
theorem dX10_lay_38 : decode cX10_lay 38 = .ok (.getfield 51, 3) := by decide +kernel
theorem dX10_lay_41 : decode cX10_lay 41 = .ok (.iload_n 2, 1) := by decide +kernel
theorem dX10_lay_42 : decode cX10_lay 42 = .ok (.baload, 1) := by decide +kernel
theorem dX10_lay_43 : decode cX10_lay 43 = .ok (.ifCond .eq 16, 3) := by decide +kernel
theorem dX10_lay_46 : decode cX10_lay 46 = .ok (.aload_n 0, 1) := by decide +kernel
theorem dX10_lay_47 : decode cX10_lay 47 = .ok (.getfield 55, 3) := by decide +kernel
theorem dX10_lay_50 : decode cX10_lay 50 = .ok (.iload_n 2, 1) := by decide +kernel
theorem dX10_lay_51 : decode cX10_lay 51 = .ok (.iaload, 1) := by decide +kernel
theorem dX10_lay_52 : decode cX10_lay 52 = .ok (.iload_n 3, 1) := by decide +kernel
theorem dX10_lay_53 : decode cX10_lay 53 = .ok (.if_icmp .eq 6, 3) := by decide +kernel
theorem dX10_lay_56 : decode cX10_lay 56 = .ok (.bipush (-13), 2) := by decide +kernel
theorem dX10_lay_58 : decode cX10_lay 58 = .ok (.ireturn, 1) := by decide +kernel
theorem dX10_lay_59 : decode cX10_lay 59 = .ok (.aload_n 0, 1) := by decide +kernel
theorem dX10_lay_60 : decode cX10_lay 60 = .ok (.getfield 51, 3) := by decide +kernel
theorem dX10_lay_63 : decode cX10_lay 63 = .ok (.iload_n 2, 1) := by decide +kernel
theorem dX10_lay_64 : decode cX10_lay 64 = .ok (.baload, 1) := by decide +kernel
theorem dX10_lay_65 : decode cX10_lay 65 = .ok (.ifCond .ne 6, 3) := by decide +kernel
theorem dX10_lay_68 : decode cX10_lay 68 = .ok (.bipush (-11), 2) := by decide +kernel
theorem dX10_lay_70 : decode cX10_lay 70 = .ok (.ireturn, 1) := by decide +kernel
theorem dX10_lay_71 : decode cX10_lay 71 = .ok (.iload 5, 2) := by decide +kernel
theorem dX10_lay_73 : decode cX10_lay 73 = .ok (.ifCond .le 25, 3) := by decide +kernel
theorem dX10_lay_76 : decode cX10_lay 76 = .ok (.iload 4, 2) := by decide +kernel
theorem dX10_lay_78 : decode cX10_lay 78 = .ok (.ifCond .lt 17, 3) := by decide +kernel
theorem dX10_lay_81 : decode cX10_lay 81 = .ok (.iload 4, 2) := by decide +kernel
theorem dX10_lay_83 : decode cX10_lay 83 = .ok (.aload_n 0, 1) := by decide +kernel
theorem dX10_lay_84 : decode cX10_lay 84 = .ok (.getfield 58, 3) := by decide +kernel
theorem dX10_lay_87 : decode cX10_lay 87 = .ok (.iload_n 2, 1) := by decide +kernel
theorem dX10_lay_88 : decode cX10_lay 88 = .ok (.iaload, 1) := by decide +kernel
theorem dX10_lay_89 : decode cX10_lay 89 = .ok (.iload 5, 2) := by decide +kernel
theorem dX10_lay_91 : decode cX10_lay 91 = .ok (.isub, 1) := by decide +kernel
theorem dX10_lay_92 : decode cX10_lay 92 = .ok (.if_icmp .le 6, 3) := by decide +kernel
theorem dX10_lay_95 : decode cX10_lay 95 = .ok (.bipush (-12), 2) := by decide +kernel
theorem dX10_lay_97 : decode cX10_lay 97 = .ok (.ireturn, 1) := by decide +kernel
theorem dX10_lay_98 : decode cX10_lay 98 = .ok (.aload_n 0, 1) := by decide +kernel
theorem dX10_lay_99 : decode cX10_lay 99 = .ok (.iload_n 1, 1) := by decide +kernel
theorem dX10_lay_100 : decode cX10_lay 100 = .ok (.invokevirtual 105, 3) := by decide +kernel
theorem dX10_lay_103 : decode cX10_lay 103 = .ok (.iconst 0, 1) := by decide +kernel
theorem dX10_lay_104 : decode cX10_lay 104 = .ok (.istore 6, 2) := by decide +kernel
theorem dX10_lay_106 : decode cX10_lay 106 = .ok (.iload 6, 2) := by decide +kernel
theorem dX10_lay_108 : decode cX10_lay 108 = .ok (.iload 5, 2) := by decide +kernel
theorem dX10_lay_110 : decode cX10_lay 110 = .ok (.if_icmp .ge 40, 3) := by decide +kernel
theorem dX10_lay_113 : decode cX10_lay 113 = .ok (.aload_n 0, 1) := by decide +kernel
theorem dX10_lay_114 : decode cX10_lay 114 = .ok (.getfield 13, 3) := by decide +kernel
theorem dX10_lay_117 : decode cX10_lay 117 = .ok (.bipush 80, 2) := by decide +kernel
theorem dX10_lay_119 : decode cX10_lay 119 = .ok (.iload_n 1, 1) := by decide +kernel
theorem dX10_lay_120 : decode cX10_lay 120 = .ok (.imul, 1) := by decide +kernel
theorem dX10_lay_121 : decode cX10_lay 121 = .ok (.iload 6, 2) := by decide +kernel
theorem dX10_lay_123 : decode cX10_lay 123 = .ok (.iadd, 1) := by decide +kernel
theorem dX10_lay_124 : decode cX10_lay 124 = .ok (.aload_n 0, 1) := by decide +kernel
theorem dX10_lay_125 : decode cX10_lay 125 = .ok (.aload_n 0, 1) := by decide +kernel
theorem dX10_lay_126 : decode cX10_lay 126 = .ok (.getfield 61, 3) := by decide +kernel
theorem dX10_lay_129 : decode cX10_lay 129 = .ok (.bipush 40, 2) := by decide +kernel
theorem dX10_lay_131 : decode cX10_lay 131 = .ok (.iload_n 2, 1) := by decide +kernel
theorem dX10_lay_132 : decode cX10_lay 132 = .ok (.imul, 1) := by decide +kernel
theorem dX10_lay_133 : decode cX10_lay 133 = .ok (.iload 4, 2) := by decide +kernel
theorem dX10_lay_135 : decode cX10_lay 135 = .ok (.iadd, 1) := by decide +kernel
theorem dX10_lay_136 : decode cX10_lay 136 = .ok (.iload 6, 2) := by decide +kernel
theorem dX10_lay_138 : decode cX10_lay 138 = .ok (.iadd, 1) := by decide +kernel
theorem dX10_lay_139 : decode cX10_lay 139 = .ok (.iaload, 1) := by decide +kernel
theorem dX10_lay_140 : decode cX10_lay 140 = .ok (.invokevirtual 102, 3) := by decide +kernel
theorem dX10_lay_143 : decode cX10_lay 143 = .ok (.iastore, 1) := by decide +kernel
theorem dX10_lay_144 : decode cX10_lay 144 = .ok (.iinc 6 1, 3) := by decide +kernel
theorem dX10_lay_147 : decode cX10_lay 147 = .ok (.goto (-41), 3) := by decide +kernel
theorem dX10_lay_150 : decode cX10_lay 150 = .ok (.aload_n 0, 1) := by decide +kernel
theorem dX10_lay_151 : decode cX10_lay 151 = .ok (.iload_n 1, 1) := by decide +kernel
theorem dX10_lay_152 : decode cX10_lay 152 = .ok (.invokevirtual 94, 3) := by decide +kernel
theorem dX10_lay_155 : decode cX10_lay 155 = .ok (.ireturn, 1) := by decide +kernel
theorem dX10_over_0 : decode cX10_over 0 = .ok (.iload_n 0, 1) := by decide +kernel
theorem dX10_over_1 : decode cX10_over 1 = .ok (.ifCond .ne 7, 3) := by decide +kernel
theorem dX10_over_4 : decode cX10_over 4 = .ok (.iconst (-1), 1) := by decide +kernel
theorem dX10_over_5 : decode cX10_over 5 = .ok (.goto 31, 3) := by decide +kernel
theorem dX10_over_8 : decode cX10_over 8 = .ok (.iload_n 0, 1) := by decide +kernel
theorem dX10_over_9 : decode cX10_over 9 = .ok (.iconst 2, 1) := by decide +kernel
theorem dX10_over_10 : decode cX10_over 10 = .ok (.if_icmp .ne 7, 3) := by decide +kernel
theorem dX10_over_13 : decode cX10_over 13 = .ok (.iconst 1, 1) := by decide +kernel
theorem dX10_over_14 : decode cX10_over 14 = .ok (.goto 22, 3) := by decide +kernel
theorem dX10_over_17 : decode cX10_over 17 = .ok (.iload_n 0, 1) := by decide +kernel
theorem dX10_over_18 : decode cX10_over 18 = .ok (.iconst 4, 1) := by decide +kernel
theorem dX10_over_19 : decode cX10_over 19 = .ok (.if_icmp .ne 7, 3) := by decide +kernel
theorem dX10_over_22 : decode cX10_over 22 = .ok (.iconst 2, 1) := by decide +kernel
theorem dX10_over_23 : decode cX10_over 23 = .ok (.goto 13, 3) := by decide +kernel
theorem dX10_over_26 : decode cX10_over 26 = .ok (.iload_n 0, 1) := by decide +kernel
theorem dX10_over_27 : decode cX10_over 27 = .ok (.iconst 5, 1) := by decide +kernel
theorem dX10_over_28 : decode cX10_over 28 = .ok (.if_icmp .ne 7, 3) := by decide +kernel
theorem dX10_over_31 : decode cX10_over 31 = .ok (.iconst 3, 1) := by decide +kernel
theorem dX10_over_32 : decode cX10_over 32 = .ok (.goto 4, 3) := by decide +kernel
theorem dX10_over_35 : decode cX10_over 35 = .ok (.iconst 0, 1) := by decide +kernel
theorem dX10_over_36 : decode cX10_over 36 = .ok (.ireturn, 1) := by decide +kernel
theorem dX10_taken_0 : decode cX10_taken 0 = .ok (.iload_n 2, 1) := by decide +kernel
theorem dX10_taken_1 : decode cX10_taken 1 = .ok (.iconst 0, 1) := by decide +kernel
theorem dX10_taken_2 : decode cX10_taken 2 = .ok (.iconst 5, 1) := by decide +kernel
theorem dX10_taken_3 : decode cX10_taken 3 = .ok (.invokestatic 86, 3) := by decide +kernel
theorem dX10_taken_6 : decode cX10_taken 6 = .ok (.ifCond .ne 6, 3) := by decide +kernel
theorem dX10_taken_9 : decode cX10_taken 9 = .ok (.bipush (-2), 2) := by decide +kernel
theorem dX10_taken_11 : decode cX10_taken 11 = .ok (.ireturn, 1) := by decide +kernel
theorem dX10_taken_12 : decode cX10_taken 12 = .ok (.aload_n 0, 1) := by decide +kernel
theorem dX10_taken_13 : decode cX10_taken 13 = .ok (.iload_n 1, 1) := by decide +kernel
theorem dX10_taken_14 : decode cX10_taken 14 = .ok (.invokevirtual 136, 3) := by decide +kernel
theorem dX10_taken_17 : decode cX10_taken 17 = .ok (.ifCond .ne 6, 3) := by decide +kernel
theorem dX10_taken_20 : decode cX10_taken 20 = .ok (.bipush (-11), 2) := by decide +kernel
theorem dX10_taken_22 : decode cX10_taken 22 = .ok (.ireturn, 1) := by decide +kernel
theorem dX10_taken_23 : decode cX10_taken 23 = .ok (.aload_n 0, 1) := by decide +kernel
theorem dX10_taken_24 : decode cX10_taken 24 = .ok (.getfield 17, 3) := by decide +kernel
theorem dX10_taken_27 : decode cX10_taken 27 = .ok (.iload_n 1, 1) := by decide +kernel
theorem dX10_taken_28 : decode cX10_taken 28 = .ok (.iaload, 1) := by decide +kernel
theorem dX10_taken_29 : decode cX10_taken 29 = .ok (.istore_n 3, 1) := by decide +kernel
theorem dX10_taken_30 : decode cX10_taken 30 = .ok (.iload_n 3, 1) := by decide +kernel
theorem dX10_taken_31 : decode cX10_taken 31 = .ok (.ifCond .lt 16, 3) := by decide +kernel
theorem dX10_taken_34 : decode cX10_taken 34 = .ok (.iload_n 3, 1) := by decide +kernel
theorem dX10_taken_35 : decode cX10_taken 35 = .ok (.iload_n 2, 1) := by decide +kernel
theorem dX10_taken_36 : decode cX10_taken 36 = .ok (.if_icmp .eq 11, 3) := by decide +kernel
theorem dX10_taken_39 : decode cX10_taken 39 = .ok (.iload_n 3, 1) := by decide +kernel
theorem dX10_taken_40 : decode cX10_taken 40 = .ok (.invokestatic 305, 3) := by decide +kernel
theorem dX10_taken_43 : decode cX10_taken 43 = .ok (.istore_n 3, 1) := by decide +kernel
theorem dX10_taken_44 : decode cX10_taken 44 = .ok (.goto (-14), 3) := by decide +kernel
theorem dX10_taken_47 : decode cX10_taken 47 = .ok (.iload_n 3, 1) := by decide +kernel
theorem dX10_taken_48 : decode cX10_taken 48 = .ok (.iload_n 2, 1) := by decide +kernel
theorem dX10_taken_49 : decode cX10_taken 49 = .ok (.if_icmp .ne 12, 3) := by decide +kernel
theorem dX10_taken_52 : decode cX10_taken 52 = .ok (.aload_n 0, 1) := by decide +kernel
theorem dX10_taken_53 : decode cX10_taken 53 = .ok (.getfield 20, 3) := by decide +kernel
theorem dX10_taken_56 : decode cX10_taken 56 = .ok (.iload_n 1, 1) := by decide +kernel
theorem dX10_taken_57 : decode cX10_taken 57 = .ok (.iaload, 1) := by decide +kernel
theorem dX10_taken_58 : decode cX10_taken 58 = .ok (.goto 5, 3) := by decide +kernel
theorem dX10_taken_61 : decode cX10_taken 61 = .ok (.bipush (-13), 2) := by decide +kernel
theorem dX10_taken_63 : decode cX10_taken 63 = .ok (.ireturn, 1) := by decide +kernel
