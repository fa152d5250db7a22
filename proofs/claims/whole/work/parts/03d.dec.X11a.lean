theorem dX11_init_0 : decode cX11_init 0 = .ok (.aload_n 0, 1) := by decide +kernel
theorem dX11_init_1 : decode cX11_init 1 = .ok (.invokespecial 3, 3) := by decide +kernel
theorem dX11_init_4 : decode cX11_init 4 = .ok (.aload_n 0, 1) := by decide +kernel
theorem dX11_init_5 : decode cX11_init 5 = .ok (.sipush 400, 3) := by decide +kernel
theorem dX11_init_8 : decode cX11_init 8 = .ok (.newarray .byte, 2) := by decide +kernel
theorem dX11_init_10 : decode cX11_init 10 = .ok (.putfield 9, 3) := by decide +kernel
theorem dX11_init_13 : decode cX11_init 13 = .ok (.aload_n 0, 1) := by decide +kernel
theorem dX11_init_14 : decode cX11_init 14 = .ok (.iconst (-1), 1) := by decide +kernel
theorem dX11_init_15 : decode cX11_init 15 = .ok (.putfield 13, 3) := by decide +kernel
theorem dX11_init_18 : decode cX11_init 18 = .ok (.aload_n 0, 1) := by decide +kernel
theorem dX11_init_19 : decode cX11_init 19 = .ok (.sipush 2400, 3) := by decide +kernel
theorem dX11_init_22 : decode cX11_init 22 = .ok (.newarray .byte, 2) := by decide +kernel
theorem dX11_init_24 : decode cX11_init 24 = .ok (.putfield 17, 3) := by decide +kernel
theorem dX11_init_27 : decode cX11_init 27 = .ok (.aload_n 0, 1) := by decide +kernel
theorem dX11_init_28 : decode cX11_init 28 = .ok (.bipush 6, 2) := by decide +kernel
theorem dX11_init_30 : decode cX11_init 30 = .ok (.newarray .int, 2) := by decide +kernel
theorem dX11_init_32 : decode cX11_init 32 = .ok (.putfield 20, 3) := by decide +kernel
theorem dX11_init_35 : decode cX11_init 35 = .ok (.aload_n 0, 1) := by decide +kernel
theorem dX11_init_36 : decode cX11_init 36 = .ok (.bipush 6, 2) := by decide +kernel
theorem dX11_init_38 : decode cX11_init 38 = .ok (.newarray .int, 2) := by decide +kernel
theorem dX11_init_40 : decode cX11_init 40 = .ok (.putfield 24, 3) := by decide +kernel
theorem dX11_init_43 : decode cX11_init 43 = .ok (.aload_n 0, 1) := by decide +kernel
theorem dX11_init_44 : decode cX11_init 44 = .ok (.sipush 3000, 3) := by decide +kernel
theorem dX11_init_47 : decode cX11_init 47 = .ok (.newarray .int, 2) := by decide +kernel
theorem dX11_init_49 : decode cX11_init 49 = .ok (.putfield 27, 3) := by decide +kernel
theorem dX11_init_52 : decode cX11_init 52 = .ok (.aload_n 0, 1) := by decide +kernel
theorem dX11_init_53 : decode cX11_init 53 = .ok (.sipush 3000, 3) := by decide +kernel
theorem dX11_init_56 : decode cX11_init 56 = .ok (.newarray .int, 2) := by decide +kernel
theorem dX11_init_58 : decode cX11_init 58 = .ok (.putfield 30, 3) := by decide +kernel
theorem dX11_init_61 : decode cX11_init 61 = .ok (.aload_n 0, 1) := by decide +kernel
theorem dX11_init_62 : decode cX11_init 62 = .ok (.sipush 384, 3) := by decide +kernel
theorem dX11_init_65 : decode cX11_init 65 = .ok (.newarray .int, 2) := by decide +kernel
theorem dX11_init_67 : decode cX11_init 67 = .ok (.putfield 33, 3) := by decide +kernel
theorem dX11_init_70 : decode cX11_init 70 = .ok (.aload_n 0, 1) := by decide +kernel
theorem dX11_init_71 : decode cX11_init 71 = .ok (.bipush 6, 2) := by decide +kernel
theorem dX11_init_73 : decode cX11_init 73 = .ok (.newarray .int, 2) := by decide +kernel
theorem dX11_init_75 : decode cX11_init 75 = .ok (.putfield 36, 3) := by decide +kernel
theorem dX11_init_78 : decode cX11_init 78 = .ok (.aload_n 0, 1) := by decide +kernel
theorem dX11_init_79 : decode cX11_init 79 = .ok (.sipush 2688, 3) := by decide +kernel
theorem dX11_init_82 : decode cX11_init 82 = .ok (.newarray .int, 2) := by decide +kernel
theorem dX11_init_84 : decode cX11_init 84 = .ok (.putfield 39, 3) := by decide +kernel
theorem dX11_init_87 : decode cX11_init 87 = .ok (.aload_n 0, 1) := by decide +kernel
theorem dX11_init_88 : decode cX11_init 88 = .ok (.sipush 128, 3) := by decide +kernel
theorem dX11_init_91 : decode cX11_init 91 = .ok (.newarray .int, 2) := by decide +kernel
theorem dX11_init_93 : decode cX11_init 93 = .ok (.putfield 42, 3) := by decide +kernel
theorem dX11_init_96 : decode cX11_init 96 = .ok (.aload_n 0, 1) := by decide +kernel
theorem dX11_init_97 : decode cX11_init 97 = .ok (.bipush 10, 2) := by decide +kernel
theorem dX11_init_99 : decode cX11_init 99 = .ok (.newarray .int, 2) := by decide +kernel
theorem dX11_init_101 : decode cX11_init 101 = .ok (.putfield 45, 3) := by decide +kernel
theorem dX11_init_104 : decode cX11_init 104 = .ok (.aload_n 0, 1) := by decide +kernel
theorem dX11_init_105 : decode cX11_init 105 = .ok (.bipush 32, 2) := by decide +kernel
theorem dX11_init_107 : decode cX11_init 107 = .ok (.newarray .int, 2) := by decide +kernel
theorem dX11_init_109 : decode cX11_init 109 = .ok (.putfield 48, 3) := by decide +kernel
theorem dX11_init_112 : decode cX11_init 112 = .ok (.aload_n 0, 1) := by decide +kernel
theorem dX11_init_113 : decode cX11_init 113 = .ok (.bipush 6, 2) := by decide +kernel
theorem dX11_init_115 : decode cX11_init 115 = .ok (.newarray .boolean, 2) := by decide +kernel
theorem dX11_init_117 : decode cX11_init 117 = .ok (.putfield 51, 3) := by decide +kernel
theorem dX11_init_120 : decode cX11_init 120 = .ok (.aload_n 0, 1) := by decide +kernel
theorem dX11_init_121 : decode cX11_init 121 = .ok (.bipush 6, 2) := by decide +kernel
theorem dX11_init_123 : decode cX11_init 123 = .ok (.newarray .int, 2) := by decide +kernel
theorem dX11_init_125 : decode cX11_init 125 = .ok (.putfield 55, 3) := by decide +kernel
theorem dX11_init_128 : decode cX11_init 128 = .ok (.aload_n 0, 1) := by decide +kernel
theorem dX11_init_129 : decode cX11_init 129 = .ok (.bipush 6, 2) := by decide +kernel
theorem dX11_init_131 : decode cX11_init 131 = .ok (.newarray .int, 2) := by decide +kernel
theorem dX11_init_133 : decode cX11_init 133 = .ok (.putfield 58, 3) := by decide +kernel
theorem dX11_init_136 : decode cX11_init 136 = .ok (.aload_n 0, 1) := by decide +kernel
theorem dX11_init_137 : decode cX11_init 137 = .ok (.bipush 6, 2) := by decide +kernel
theorem dX11_init_139 : decode cX11_init 139 = .ok (.newarray .int, 2) := by decide +kernel
theorem dX11_init_141 : decode cX11_init 141 = .ok (.putfield 61, 3) := by decide +kernel
theorem dX11_init_144 : decode cX11_init 144 = .ok (.aload_n 0, 1) := by decide +kernel
theorem dX11_init_145 : decode cX11_init 145 = .ok (.bipush 10, 2) := by decide +kernel
theorem dX11_init_147 : decode cX11_init 147 = .ok (.putfield 64, 3) := by decide +kernel
theorem dX11_init_150 : decode cX11_init 150 = .ok (.aload_n 0, 1) := by decide +kernel
theorem dX11_init_151 : decode cX11_init 151 = .ok (.iconst 5, 1) := by decide +kernel
theorem dX11_init_152 : decode cX11_init 152 = .ok (.putfield 67, 3) := by decide +kernel
theorem dX11_init_155 : decode cX11_init 155 = .ok (.aload_n 0, 1) := by decide +kernel
theorem dX11_init_156 : decode cX11_init 156 = .ok (.bipush 50, 2) := by decide +kernel
theorem dX11_init_158 : decode cX11_init 158 = .ok (.putfield 70, 3) := by decide +kernel
theorem dX11_init_161 : decode cX11_init 161 = .ok (.aload_n 0, 1) := by decide +kernel
theorem dX11_init_162 : decode cX11_init 162 = .ok (.bipush 120, 2) := by decide +kernel
theorem dX11_init_164 : decode cX11_init 164 = .ok (.newarray .int, 2) := by decide +kernel
theorem dX11_init_166 : decode cX11_init 166 = .ok (.putfield 73, 3) := by decide +kernel
theorem dX11_init_169 : decode cX11_init 169 = .ok (.aload_n 0, 1) := by decide +kernel
theorem dX11_init_170 : decode cX11_init 170 = .ok (.bipush 120, 2) := by decide +kernel
theorem dX11_init_172 : decode cX11_init 172 = .ok (.newarray .int, 2) := by decide +kernel
theorem dX11_init_174 : decode cX11_init 174 = .ok (.putfield 76, 3) := by decide +kernel
theorem dX11_init_177 : decode cX11_init 177 = .ok (.aload_n 0, 1) := by decide +kernel
theorem dX11_init_178 : decode cX11_init 178 = .ok (.bipush 120, 2) := by decide +kernel
theorem dX11_init_180 : decode cX11_init 180 = .ok (.newarray .int, 2) := by decide +kernel
theorem dX11_init_182 : decode cX11_init 182 = .ok (.putfield 79, 3) := by decide +kernel
theorem dX11_init_185 : decode cX11_init 185 = .ok (.aload_n 0, 1) := by decide +kernel
theorem dX11_init_186 : decode cX11_init 186 = .ok (.bipush 120, 2) := by decide +kernel
theorem dX11_init_188 : decode cX11_init 188 = .ok (.newarray .int, 2) := by decide +kernel
theorem dX11_init_190 : decode cX11_init 190 = .ok (.putfield 82, 3) := by decide +kernel
theorem dX11_init_193 : decode cX11_init 193 = .ok (.aload_n 0, 1) := by decide +kernel
theorem dX11_init_194 : decode cX11_init 194 = .ok (.bipush 120, 2) := by decide +kernel
theorem dX11_init_196 : decode cX11_init 196 = .ok (.newarray .int, 2) := by decide +kernel
theorem dX11_init_198 : decode cX11_init 198 = .ok (.putfield 85, 3) := by decide +kernel
theorem dX11_init_201 : decode cX11_init 201 = .ok (.aload_n 0, 1) := by decide +kernel
theorem dX11_init_202 : decode cX11_init 202 = .ok (.bipush 120, 2) := by decide +kernel
theorem dX11_init_204 : decode cX11_init 204 = .ok (.newarray .int, 2) := by decide +kernel
theorem dX11_init_206 : decode cX11_init 206 = .ok (.putfield 88, 3) := by decide +kernel
theorem dX11_init_209 : decode cX11_init 209 = .ok (.aload_n 0, 1) := by decide +kernel
theorem dX11_init_210 : decode cX11_init 210 = .ok (.bipush 120, 2) := by decide +kernel
theorem dX11_init_212 : decode cX11_init 212 = .ok (.newarray .int, 2) := by decide +kernel
theorem dX11_init_214 : decode cX11_init 214 = .ok (.putfield 91, 3) := by decide +kernel
theorem dX11_init_217 : decode cX11_init 217 = .ok (.aload_n 0, 1) := by decide +kernel
theorem dX11_init_218 : decode cX11_init 218 = .ok (.bipush 120, 2) := by decide +kernel
theorem dX11_init_220 : decode cX11_init 220 = .ok (.newarray .int, 2) := by decide +kernel
theorem dX11_init_222 : decode cX11_init 222 = .ok (.putfield 94, 3) := by decide +kernel
theorem dX11_init_225 : decode cX11_init 225 = .ok (.aload_n 0, 1) := by decide +kernel
theorem dX11_init_226 : decode cX11_init 226 = .ok (.bipush 120, 2) := by decide +kernel
theorem dX11_init_228 : decode cX11_init 228 = .ok (.newarray .int, 2) := by decide +kernel
theorem dX11_init_230 : decode cX11_init 230 = .ok (.putfield 97, 3) := by decide +kernel
theorem dX11_init_233 : decode cX11_init 233 = .ok (.aload_n 0, 1) := by decide +kernel
theorem dX11_init_234 : decode cX11_init 234 = .ok (.bipush 120, 2) := by decide +kernel
theorem dX11_init_236 : decode cX11_init 236 = .ok (.newarray .int, 2) := by decide +kernel
theorem dX11_init_238 : decode cX11_init 238 = .ok (.putfield 100, 3) := by decide +kernel
theorem dX11_init_241 : decode cX11_init 241 = .ok (.aload_n 0, 1) := by decide +kernel
theorem dX11_init_242 : decode cX11_init 242 = .ok (.sipush 240, 3) := by decide +kernel
theorem dX11_init_245 : decode cX11_init 245 = .ok (.newarray .int, 2) := by decide +kernel
theorem dX11_init_247 : decode cX11_init 247 = .ok (.putfield 103, 3) := by decide +kernel
theorem dX11_init_250 : decode cX11_init 250 = .ok (.aload_n 0, 1) := by decide +kernel
theorem dX11_init_251 : decode cX11_init 251 = .ok (.sipush 240, 3) := by decide +kernel
theorem dX11_init_254 : decode cX11_init 254 = .ok (.newarray .int, 2) := by decide +kernel
theorem dX11_init_256 : decode cX11_init 256 = .ok (.putfield 106, 3) := by decide +kernel
theorem dX11_init_259 : decode cX11_init 259 = .ok (.aload_n 0, 1) := by decide +kernel
theorem dX11_init_260 : decode cX11_init 260 = .ok (.sipush 240, 3) := by decide +kernel
theorem dX11_init_263 : decode cX11_init 263 = .ok (.newarray .boolean, 2) := by decide +kernel
theorem dX11_init_265 : decode cX11_init 265 = .ok (.putfield 109, 3) := by decide +kernel
theorem dX11_init_268 : decode cX11_init 268 = .ok (.aload_n 0, 1) := by decide +kernel
theorem dX11_init_269 : decode cX11_init 269 = .ok (.bipush 120, 2) := by decide +kernel
theorem dX11_init_271 : decode cX11_init 271 = .ok (.newarray .int, 2) := by decide +kernel
theorem dX11_init_273 : decode cX11_init 273 = .ok (.putfield 112, 3) := by decide +kernel
theorem dX11_init_276 : decode cX11_init 276 = .ok (.aload_n 0, 1) := by decide +kernel
theorem dX11_init_277 : decode cX11_init 277 = .ok (.bipush 8, 2) := by decide +kernel
theorem dX11_init_279 : decode cX11_init 279 = .ok (.newarray .int, 2) := by decide +kernel
theorem dX11_init_281 : decode cX11_init 281 = .ok (.putfield 115, 3) := by decide +kernel
theorem dX11_init_284 : decode cX11_init 284 = .ok (.aload_n 0, 1) := by decide +kernel
theorem dX11_init_285 : decode cX11_init 285 = .ok (.bipush 8, 2) := by decide +kernel
theorem dX11_init_287 : decode cX11_init 287 = .ok (.newarray .int, 2) := by decide +kernel
theorem dX11_init_289 : decode cX11_init 289 = .ok (.putfield 118, 3) := by decide +kernel
theorem dX11_init_292 : decode cX11_init 292 = .ok (.aload_n 0, 1) := by decide +kernel
theorem dX11_init_293 : decode cX11_init 293 = .ok (.bipush 8, 2) := by decide +kernel
theorem dX11_init_295 : decode cX11_init 295 = .ok (.newarray .int, 2) := by decide +kernel
theorem dX11_init_297 : decode cX11_init 297 = .ok (.putfield 121, 3) := by decide +kernel
theorem dX11_init_300 : decode cX11_init 300 = .ok (.aload_n 0, 1) := by decide +kernel
theorem dX11_init_301 : decode cX11_init 301 = .ok (.sipush 960, 3) := by decide +kernel
theorem dX11_init_304 : decode cX11_init 304 = .ok (.newarray .boolean, 2) := by decide +kernel
theorem dX11_init_306 : decode cX11_init 306 = .ok (.putfield 124, 3) := by decide +kernel
theorem dX11_init_309 : decode cX11_init 309 = .ok (.aload_n 0, 1) := by decide +kernel
theorem dX11_init_310 : decode cX11_init 310 = .ok (.sipush 960, 3) := by decide +kernel
theorem dX11_init_313 : decode cX11_init 313 = .ok (.newarray .int, 2) := by decide +kernel
theorem dX11_init_315 : decode cX11_init 315 = .ok (.putfield 127, 3) := by decide +kernel
theorem dX11_init_318 : decode cX11_init 318 = .ok (.aload_n 0, 1) := by decide +kernel
theorem dX11_init_319 : decode cX11_init 319 = .ok (.sipush 960, 3) := by decide +kernel
theorem dX11_init_322 : decode cX11_init 322 = .ok (.newarray .int, 2) := by decide +kernel
theorem dX11_init_324 : decode cX11_init 324 = .ok (.putfield 130, 3) := by decide +kernel
theorem dX11_init_327 : decode cX11_init 327 = .ok (.aload_n 0, 1) := by decide +kernel
theorem dX11_init_328 : decode cX11_init 328 = .ok (.sipush 960, 3) := by decide +kernel
theorem dX11_init_331 : decode cX11_init 331 = .ok (.newarray .int, 2) := by decide +kernel
theorem dX11_init_333 : decode cX11_init 333 = .ok (.putfield 133, 3) := by decide +kernel
theorem dX11_init_336 : decode cX11_init 336 = .ok (.aload_n 0, 1) := by decide +kernel
theorem dX11_init_337 : decode cX11_init 337 = .ok (.iconst 5, 1) := by decide +kernel
theorem dX11_init_338 : decode cX11_init 338 = .ok (.newarray .int, 2) := by decide +kernel
theorem dX11_init_340 : decode cX11_init 340 = .ok (.putfield 136, 3) := by decide +kernel
theorem dX11_init_343 : decode cX11_init 343 = .ok (.aload_n 0, 1) := by decide +kernel
theorem dX11_init_344 : decode cX11_init 344 = .ok (.iconst 5, 1) := by decide +kernel
theorem dX11_init_345 : decode cX11_init 345 = .ok (.newarray .int, 2) := by decide +kernel
theorem dX11_init_347 : decode cX11_init 347 = .ok (.putfield 139, 3) := by decide +kernel
theorem dX11_init_350 : decode cX11_init 350 = .ok (.aload_n 0, 1) := by decide +kernel
theorem dX11_init_351 : decode cX11_init 351 = .ok (.iconst 5, 1) := by decide +kernel
theorem dX11_init_352 : decode cX11_init 352 = .ok (.newarray .int, 2) := by decide +kernel
theorem dX11_init_354 : decode cX11_init 354 = .ok (.putfield 142, 3) := by decide +kernel
theorem dX11_init_357 : decode cX11_init 357 = .ok (.aload_n 0, 1) := by decide +kernel
theorem dX11_init_358 : decode cX11_init 358 = .ok (.bipush 8, 2) := by decide +kernel
theorem dX11_init_360 : decode cX11_init 360 = .ok (.newarray .int, 2) := by decide +kernel
theorem dX11_init_362 : decode cX11_init 362 = .ok (.putfield 145, 3) := by decide +kernel
theorem dX11_init_365 : decode cX11_init 365 = .ok (.aload_n 0, 1) := by decide +kernel
theorem dX11_init_366 : decode cX11_init 366 = .ok (.bipush 8, 2) := by decide +kernel
theorem dX11_init_368 : decode cX11_init 368 = .ok (.newarray .int, 2) := by decide +kernel
theorem dX11_init_370 : decode cX11_init 370 = .ok (.putfield 148, 3) := by decide +kernel
theorem dX11_init_373 : decode cX11_init 373 = .ok (.return_, 1) := by decide +kernel
theorem dX11_thrown_0 : decode cX11_thrown 0 = .ok (.aload_n 0, 1) := by decide +kernel
theorem dX11_thrown_1 : decode cX11_thrown 1 = .ok (.getfield 151, 3) := by decide +kernel
theorem dX11_thrown_4 : decode cX11_thrown 4 = .ok (.ireturn, 1) := by decide +kernel
theorem dX11_bad_0 : decode cX11_bad 0 = .ok (.iload_n 1, 1) := by decide +kernel
theorem dX11_bad_1 : decode cX11_bad 1 = .ok (.ifCond .eq 8, 3) := by decide +kernel
theorem dX11_bad_4 : decode cX11_bad 4 = .ok (.aload_n 0, 1) := by decide +kernel
theorem dX11_bad_5 : decode cX11_bad 5 = .ok (.iload_n 2, 1) := by decide +kernel
theorem dX11_bad_6 : decode cX11_bad 6 = .ok (.putfield 151, 3) := by decide +kernel
theorem dX11_bad_9 : decode cX11_bad 9 = .ok (.iload_n 1, 1) := by decide +kernel
theorem dX11_bad_10 : decode cX11_bad 10 = .ok (.ireturn, 1) := by decide +kernel
theorem dX11_in_0 : decode cX11_in 0 = .ok (.iload_n 0, 1) := by decide +kernel
theorem dX11_in_1 : decode cX11_in 1 = .ok (.iload_n 1, 1) := by decide +kernel
theorem dX11_in_2 : decode cX11_in 2 = .ok (.if_icmp .lt 12, 3) := by decide +kernel
theorem dX11_in_5 : decode cX11_in 5 = .ok (.iload_n 0, 1) := by decide +kernel
theorem dX11_in_6 : decode cX11_in 6 = .ok (.iload_n 2, 1) := by decide +kernel
theorem dX11_in_7 : decode cX11_in 7 = .ok (.if_icmp .gt 7, 3) := by decide +kernel
theorem dX11_in_10 : decode cX11_in 10 = .ok (.iconst 1, 1) := by decide +kernel
theorem dX11_in_11 : decode cX11_in 11 = .ok (.goto 4, 3) := by decide +kernel
theorem dX11_in_14 : decode cX11_in 14 = .ok (.iconst 0, 1) := by decide +kernel
theorem dX11_in_15 : decode cX11_in 15 = .ok (.ireturn, 1) := by decide +kernel
theorem dX11_feed_0 : decode cX11_feed 0 = .ok (.aload_n 0, 1) := by decide +kernel
theorem dX11_feed_1 : decode cX11_feed 1 = .ok (.iconst 0, 1) := by decide +kernel
theorem dX11_feed_2 : decode cX11_feed 2 = .ok (.putfield 151, 3) := by decide +kernel
theorem dX11_feed_5 : decode cX11_feed 5 = .ok (.aload_n 0, 1) := by decide +kernel
theorem dX11_feed_6 : decode cX11_feed 6 = .ok (.getfield 154, 3) := by decide +kernel
theorem dX11_feed_9 : decode cX11_feed 9 = .ok (.bipush 20, 2) := by decide +kernel
theorem dX11_feed_11 : decode cX11_feed 11 = .ok (.iadd, 1) := by decide +kernel
theorem dX11_feed_12 : decode cX11_feed 12 = .ok (.sipush 400, 3) := by decide +kernel
theorem dX11_feed_15 : decode cX11_feed 15 = .ok (.if_icmp .le 5, 3) := by decide +kernel
theorem dX11_feed_18 : decode cX11_feed 18 = .ok (.iconst (-1), 1) := by decide +kernel
theorem dX11_feed_19 : decode cX11_feed 19 = .ok (.ireturn, 1) := by decide +kernel
theorem dX11_feed_20 : decode cX11_feed 20 = .ok (.iconst 0, 1) := by decide +kernel
theorem dX11_feed_21 : decode cX11_feed 21 = .ok (.istore 6, 2) := by decide +kernel
theorem dX11_feed_23 : decode cX11_feed 23 = .ok (.iload 6, 2) := by decide +kernel
theorem dX11_feed_25 : decode cX11_feed 25 = .ok (.iconst 5, 1) := by decide +kernel
theorem dX11_feed_26 : decode cX11_feed 26 = .ok (.if_icmp .ge 93, 3) := by decide +kernel
theorem dX11_feed_29 : decode cX11_feed 29 = .ok (.iload 6, 2) := by decide +kernel
theorem dX11_feed_31 : decode cX11_feed 31 = .ok (.ifCond .ne 7, 3) := by decide +kernel
theorem dX11_feed_34 : decode cX11_feed 34 = .ok (.iload_n 1, 1) := by decide +kernel
theorem dX11_feed_35 : decode cX11_feed 35 = .ok (.goto 36, 3) := by decide +kernel
theorem dX11_feed_38 : decode cX11_feed 38 = .ok (.iload 6, 2) := by decide +kernel
theorem dX11_feed_40 : decode cX11_feed 40 = .ok (.iconst 1, 1) := by decide +kernel
theorem dX11_feed_41 : decode cX11_feed 41 = .ok (.if_icmp .ne 7, 3) := by decide +kernel
theorem dX11_feed_44 : decode cX11_feed 44 = .ok (.iload_n 2, 1) := by decide +kernel
theorem dX11_feed_45 : decode cX11_feed 45 = .ok (.goto 26, 3) := by decide +kernel
theorem dX11_feed_48 : decode cX11_feed 48 = .ok (.iload 6, 2) := by decide +kernel
theorem dX11_feed_50 : decode cX11_feed 50 = .ok (.iconst 2, 1) := by decide +kernel
theorem dX11_feed_51 : decode cX11_feed 51 = .ok (.if_icmp .ne 7, 3) := by decide +kernel
theorem dX11_feed_54 : decode cX11_feed 54 = .ok (.iload_n 3, 1) := by decide +kernel
theorem dX11_feed_55 : decode cX11_feed 55 = .ok (.goto 16, 3) := by decide +kernel
theorem dX11_feed_58 : decode cX11_feed 58 = .ok (.iload 6, 2) := by decide +kernel
theorem dX11_feed_60 : decode cX11_feed 60 = .ok (.iconst 3, 1) := by decide +kernel
theorem dX11_feed_61 : decode cX11_feed 61 = .ok (.if_icmp .ne 8, 3) := by decide +kernel
theorem dX11_feed_64 : decode cX11_feed 64 = .ok (.iload 4, 2) := by decide +kernel
theorem dX11_feed_66 : decode cX11_feed 66 = .ok (.goto 5, 3) := by decide +kernel
theorem dX11_feed_69 : decode cX11_feed 69 = .ok (.iload 5, 2) := by decide +kernel
theorem dX11_feed_71 : decode cX11_feed 71 = .ok (.istore 7, 2) := by decide +kernel
theorem dX11_feed_73 : decode cX11_feed 73 = .ok (.bipush 24, 2) := by decide +kernel
theorem dX11_feed_75 : decode cX11_feed 75 = .ok (.istore 8, 2) := by decide +kernel
theorem dX11_feed_77 : decode cX11_feed 77 = .ok (.iload 8, 2) := by decide +kernel
theorem dX11_feed_79 : decode cX11_feed 79 = .ok (.ifCond .lt 34, 3) := by decide +kernel
theorem dX11_feed_82 : decode cX11_feed 82 = .ok (.aload_n 0, 1) := by decide +kernel
theorem dX11_feed_83 : decode cX11_feed 83 = .ok (.getfield 9, 3) := by decide +kernel
theorem dX11_feed_86 : decode cX11_feed 86 = .ok (.aload_n 0, 1) := by decide +kernel
theorem dX11_feed_87 : decode cX11_feed 87 = .ok (.getfield 154, 3) := by decide +kernel
theorem dX11_feed_90 : decode cX11_feed 90 = .ok (.iload 7, 2) := by decide +kernel
theorem dX11_feed_92 : decode cX11_feed 92 = .ok (.iload 8, 2) := by decide +kernel
theorem dX11_feed_94 : decode cX11_feed 94 = .ok (.ishr, 1) := by decide +kernel
theorem dX11_feed_95 : decode cX11_feed 95 = .ok (.i2b, 1) := by decide +kernel
theorem dX11_feed_96 : decode cX11_feed 96 = .ok (.bastore, 1) := by decide +kernel
theorem dX11_feed_97 : decode cX11_feed 97 = .ok (.aload_n 0, 1) := by decide +kernel
theorem dX11_feed_98 : decode cX11_feed 98 = .ok (.dup, 1) := by decide +kernel
theorem dX11_feed_99 : decode cX11_feed 99 = .ok (.getfield 154, 3) := by decide +kernel
theorem dX11_feed_102 : decode cX11_feed 102 = .ok (.iconst 1, 1) := by decide +kernel
theorem dX11_feed_103 : decode cX11_feed 103 = .ok (.iadd, 1) := by decide +kernel
theorem dX11_feed_104 : decode cX11_feed 104 = .ok (.putfield 154, 3) := by decide +kernel
theorem dX11_feed_107 : decode cX11_feed 107 = .ok (.iinc 8 (-8), 3) := by decide +kernel
theorem dX11_feed_110 : decode cX11_feed 110 = .ok (.goto (-33), 3) := by decide +kernel
theorem dX11_feed_113 : decode cX11_feed 113 = .ok (.iinc 6 1, 3) := by decide +kernel
theorem dX11_feed_116 : decode cX11_feed 116 = .ok (.goto (-93), 3) := by decide +kernel
theorem dX11_feed_119 : decode cX11_feed 119 = .ok (.aload_n 0, 1) := by decide +kernel
theorem dX11_feed_120 : decode cX11_feed 120 = .ok (.getfield 154, 3) := by decide +kernel
theorem dX11_feed_123 : decode cX11_feed 123 = .ok (.ireturn, 1) := by decide +kernel
theorem dX11_byteAt_0 : decode cX11_byteAt 0 = .ok (.iload_n 1, 1) := by decide +kernel
theorem dX11_byteAt_1 : decode cX11_byteAt 1 = .ok (.aload_n 0, 1) := by decide +kernel
theorem dX11_byteAt_2 : decode cX11_byteAt 2 = .ok (.getfield 157, 3) := by decide +kernel
theorem dX11_byteAt_5 : decode cX11_byteAt 5 = .ok (.if_icmp .ge 16, 3) := by decide +kernel
theorem dX11_byteAt_8 : decode cX11_byteAt 8 = .ok (.aload_n 0, 1) := by decide +kernel
theorem dX11_byteAt_9 : decode cX11_byteAt 9 = .ok (.getfield 9, 3) := by decide +kernel
theorem dX11_byteAt_12 : decode cX11_byteAt 12 = .ok (.iload_n 1, 1) := by decide +kernel
theorem dX11_byteAt_13 : decode cX11_byteAt 13 = .ok (.baload, 1) := by decide +kernel
theorem dX11_byteAt_14 : decode cX11_byteAt 14 = .ok (.sipush 255, 3) := by decide +kernel
theorem dX11_byteAt_17 : decode cX11_byteAt 17 = .ok (.iand, 1) := by decide +kernel
theorem dX11_byteAt_18 : decode cX11_byteAt 18 = .ok (.goto 4, 3) := by decide +kernel
theorem dX11_byteAt_21 : decode cX11_byteAt 21 = .ok (.iconst 0, 1) := by decide +kernel
theorem dX11_byteAt_22 : decode cX11_byteAt 22 = .ok (.ireturn, 1) := by decide +kernel
theorem dX11_blanks_0 : decode cX11_blanks 0 = .ok (.aload_n 0, 1) := by decide +kernel
theorem dX11_blanks_1 : decode cX11_blanks 1 = .ok (.getfield 160, 3) := by decide +kernel
theorem dX11_blanks_4 : decode cX11_blanks 4 = .ok (.aload_n 0, 1) := by decide +kernel
theorem dX11_blanks_5 : decode cX11_blanks 5 = .ok (.getfield 157, 3) := by decide +kernel
theorem dX11_blanks_8 : decode cX11_blanks 8 = .ok (.if_icmp .ge 29, 3) := by decide +kernel
theorem dX11_blanks_11 : decode cX11_blanks 11 = .ok (.aload_n 0, 1) := by decide +kernel
theorem dX11_blanks_12 : decode cX11_blanks 12 = .ok (.aload_n 0, 1) := by decide +kernel
theorem dX11_blanks_13 : decode cX11_blanks 13 = .ok (.getfield 160, 3) := by decide +kernel
theorem dX11_blanks_16 : decode cX11_blanks 16 = .ok (.invokevirtual 163, 3) := by decide +kernel
theorem dX11_blanks_19 : decode cX11_blanks 19 = .ok (.bipush 32, 2) := by decide +kernel
theorem dX11_blanks_21 : decode cX11_blanks 21 = .ok (.if_icmp .ne 16, 3) := by decide +kernel
theorem dX11_blanks_24 : decode cX11_blanks 24 = .ok (.aload_n 0, 1) := by decide +kernel
theorem dX11_blanks_25 : decode cX11_blanks 25 = .ok (.dup, 1) := by decide +kernel
theorem dX11_blanks_26 : decode cX11_blanks 26 = .ok (.getfield 160, 3) := by decide +kernel
theorem dX11_blanks_29 : decode cX11_blanks 29 = .ok (.iconst 1, 1) := by decide +kernel
theorem dX11_blanks_30 : decode cX11_blanks 30 = .ok (.iadd, 1) := by decide +kernel
theorem dX11_blanks_31 : decode cX11_blanks 31 = .ok (.putfield 160, 3) := by decide +kernel
theorem dX11_blanks_34 : decode cX11_blanks 34 = .ok (.goto (-34), 3) := by decide +kernel
theorem dX11_blanks_37 : decode cX11_blanks 37 = .ok (.return_, 1) := by decide +kernel
theorem dX11_isDigit_0 : decode cX11_isDigit 0 = .ok (.iload_n 0, 1) := by decide +kernel
theorem dX11_isDigit_1 : decode cX11_isDigit 1 = .ok (.bipush 48, 2) := by decide +kernel
theorem dX11_isDigit_3 : decode cX11_isDigit 3 = .ok (.if_icmp .lt 13, 3) := by decide +kernel
theorem dX11_isDigit_6 : decode cX11_isDigit 6 = .ok (.iload_n 0, 1) := by decide +kernel
theorem dX11_isDigit_7 : decode cX11_isDigit 7 = .ok (.bipush 57, 2) := by decide +kernel
theorem dX11_isDigit_9 : decode cX11_isDigit 9 = .ok (.if_icmp .gt 7, 3) := by decide +kernel
theorem dX11_isDigit_12 : decode cX11_isDigit 12 = .ok (.iconst 1, 1) := by decide +kernel
theorem dX11_isDigit_13 : decode cX11_isDigit 13 = .ok (.goto 4, 3) := by decide +kernel
theorem dX11_isDigit_16 : decode cX11_isDigit 16 = .ok (.iconst 0, 1) := by decide +kernel
theorem dX11_isDigit_17 : decode cX11_isDigit 17 = .ok (.ireturn, 1) := by decide +kernel
theorem dX11_isSmall_0 : decode cX11_isSmall 0 = .ok (.iload_n 0, 1) := by decide +kernel
theorem dX11_isSmall_1 : decode cX11_isSmall 1 = .ok (.bipush 97, 2) := by decide +kernel
theorem dX11_isSmall_3 : decode cX11_isSmall 3 = .ok (.if_icmp .lt 13, 3) := by decide +kernel
theorem dX11_isSmall_6 : decode cX11_isSmall 6 = .ok (.iload_n 0, 1) := by decide +kernel
theorem dX11_isSmall_7 : decode cX11_isSmall 7 = .ok (.bipush 122, 2) := by decide +kernel
theorem dX11_isSmall_9 : decode cX11_isSmall 9 = .ok (.if_icmp .gt 7, 3) := by decide +kernel
theorem dX11_isSmall_12 : decode cX11_isSmall 12 = .ok (.iconst 1, 1) := by decide +kernel
theorem dX11_isSmall_13 : decode cX11_isSmall 13 = .ok (.goto 4, 3) := by decide +kernel
theorem dX11_isSmall_16 : decode cX11_isSmall 16 = .ok (.iconst 0, 1) := by decide +kernel
theorem dX11_isSmall_17 : decode cX11_isSmall 17 = .ok (.ireturn, 1) := by decide +kernel
theorem dX11_wrong_0 : decode cX11_wrong 0 = .ok (.aload_n 0, 1) := by decide +kernel
theorem dX11_wrong_1 : decode cX11_wrong 1 = .ok (.getfield 167, 3) := by decide +kernel
theorem dX11_wrong_4 : decode cX11_wrong 4 = .ok (.ifCond .le 4, 3) := by decide +kernel
theorem dX11_wrong_7 : decode cX11_wrong 7 = .ok (.return_, 1) := by decide +kernel
theorem dX11_wrong_8 : decode cX11_wrong 8 = .ok (.aload_n 0, 1) := by decide +kernel
theorem dX11_wrong_9 : decode cX11_wrong 9 = .ok (.iload_n 1, 1) := by decide +kernel
theorem dX11_wrong_10 : decode cX11_wrong 10 = .ok (.putfield 167, 3) := by decide +kernel
theorem dX11_wrong_13 : decode cX11_wrong 13 = .ok (.aload_n 0, 1) := by decide +kernel
theorem dX11_wrong_14 : decode cX11_wrong 14 = .ok (.iload_n 2, 1) := by decide +kernel
theorem dX11_wrong_15 : decode cX11_wrong 15 = .ok (.putfield 13, 3) := by decide +kernel
theorem dX11_wrong_18 : decode cX11_wrong 18 = .ok (.return_, 1) := by decide +kernel
theorem dX11_isWord_0 : decode cX11_isWord 0 = .ok (.aload_n 0, 1) := by decide +kernel
theorem dX11_isWord_1 : decode cX11_isWord 1 = .ok (.invokevirtual 170, 3) := by decide +kernel
theorem dX11_isWord_4 : decode cX11_isWord 4 = .ok (.iconst 0, 1) := by decide +kernel
theorem dX11_isWord_5 : decode cX11_isWord 5 = .ok (.istore_n 2, 1) := by decide +kernel
theorem dX11_isWord_6 : decode cX11_isWord 6 = .ok (.iload_n 2, 1) := by decide +kernel
theorem dX11_isWord_7 : decode cX11_isWord 7 = .ok (.aload_n 1, 1) := by decide +kernel
theorem dX11_isWord_8 : decode cX11_isWord 8 = .ok (.invokevirtual 173, 3) := by decide +kernel
theorem dX11_isWord_11 : decode cX11_isWord 11 = .ok (.if_icmp .ge 29, 3) := by decide +kernel
theorem dX11_isWord_14 : decode cX11_isWord 14 = .ok (.aload_n 0, 1) := by decide +kernel
theorem dX11_isWord_15 : decode cX11_isWord 15 = .ok (.aload_n 0, 1) := by decide +kernel
theorem dX11_isWord_16 : decode cX11_isWord 16 = .ok (.getfield 160, 3) := by decide +kernel
theorem dX11_isWord_19 : decode cX11_isWord 19 = .ok (.iload_n 2, 1) := by decide +kernel
theorem dX11_isWord_20 : decode cX11_isWord 20 = .ok (.iadd, 1) := by decide +kernel
theorem dX11_isWord_21 : decode cX11_isWord 21 = .ok (.invokevirtual 163, 3) := by decide +kernel
theorem dX11_isWord_24 : decode cX11_isWord 24 = .ok (.aload_n 1, 1) := by decide +kernel
theorem dX11_isWord_25 : decode cX11_isWord 25 = .ok (.iload_n 2, 1) := by decide +kernel
theorem dX11_isWord_26 : decode cX11_isWord 26 = .ok (.invokevirtual 179, 3) := by decide +kernel
theorem dX11_isWord_29 : decode cX11_isWord 29 = .ok (.if_icmp .eq 5, 3) := by decide +kernel
theorem dX11_isWord_32 : decode cX11_isWord 32 = .ok (.iconst 0, 1) := by decide +kernel
theorem dX11_isWord_33 : decode cX11_isWord 33 = .ok (.ireturn, 1) := by decide +kernel
theorem dX11_isWord_34 : decode cX11_isWord 34 = .ok (.iinc 2 1, 3) := by decide +kernel
theorem dX11_isWord_37 : decode cX11_isWord 37 = .ok (.goto (-31), 3) := by decide +kernel
theorem dX11_isWord_40 : decode cX11_isWord 40 = .ok (.aload_n 0, 1) := by decide +kernel
theorem dX11_isWord_41 : decode cX11_isWord 41 = .ok (.aload_n 0, 1) := by decide +kernel
theorem dX11_isWord_42 : decode cX11_isWord 42 = .ok (.getfield 160, 3) := by decide +kernel
theorem dX11_isWord_45 : decode cX11_isWord 45 = .ok (.aload_n 1, 1) := by decide +kernel
theorem dX11_isWord_46 : decode cX11_isWord 46 = .ok (.invokevirtual 173, 3) := by decide +kernel
theorem dX11_isWord_49 : decode cX11_isWord 49 = .ok (.iadd, 1) := by decide +kernel
theorem dX11_isWord_50 : decode cX11_isWord 50 = .ok (.invokevirtual 163, 3) := by decide +kernel
theorem dX11_isWord_53 : decode cX11_isWord 53 = .ok (.invokestatic 183, 3) := by decide +kernel
theorem dX11_isWord_56 : decode cX11_isWord 56 = .ok (.ifCond .ne 7, 3) := by decide +kernel
theorem dX11_isWord_59 : decode cX11_isWord 59 = .ok (.iconst 1, 1) := by decide +kernel
theorem dX11_isWord_60 : decode cX11_isWord 60 = .ok (.goto 4, 3) := by decide +kernel
theorem dX11_isWord_63 : decode cX11_isWord 63 = .ok (.iconst 0, 1) := by decide +kernel
theorem dX11_isWord_64 : decode cX11_isWord 64 = .ok (.ireturn, 1) := by decide +kernel
theorem dX11_eat_0 : decode cX11_eat 0 = .ok (.aload_n 0, 1) := by decide +kernel
theorem dX11_eat_1 : decode cX11_eat 1 = .ok (.getfield 167, 3) := by decide +kernel
theorem dX11_eat_4 : decode cX11_eat 4 = .ok (.ifCond .ne 15, 3) := by decide +kernel
theorem dX11_eat_7 : decode cX11_eat 7 = .ok (.aload_n 0, 1) := by decide +kernel
theorem dX11_eat_8 : decode cX11_eat 8 = .ok (.aload_n 1, 1) := by decide +kernel
theorem dX11_eat_9 : decode cX11_eat 9 = .ok (.invokevirtual 187, 3) := by decide +kernel
theorem dX11_eat_12 : decode cX11_eat 12 = .ok (.ifCond .eq 7, 3) := by decide +kernel
theorem dX11_eat_15 : decode cX11_eat 15 = .ok (.iconst 1, 1) := by decide +kernel
theorem dX11_eat_16 : decode cX11_eat 16 = .ok (.goto 4, 3) := by decide +kernel
theorem dX11_eat_19 : decode cX11_eat 19 = .ok (.iconst 0, 1) := by decide +kernel
theorem dX11_eat_20 : decode cX11_eat 20 = .ok (.istore_n 2, 1) := by decide +kernel
theorem dX11_eat_21 : decode cX11_eat 21 = .ok (.iload_n 2, 1) := by decide +kernel
theorem dX11_eat_22 : decode cX11_eat 22 = .ok (.ifCond .eq 16, 3) := by decide +kernel
theorem dX11_eat_25 : decode cX11_eat 25 = .ok (.aload_n 0, 1) := by decide +kernel
theorem dX11_eat_26 : decode cX11_eat 26 = .ok (.dup, 1) := by decide +kernel
theorem dX11_eat_27 : decode cX11_eat 27 = .ok (.getfield 160, 3) := by decide +kernel
theorem dX11_eat_30 : decode cX11_eat 30 = .ok (.aload_n 1, 1) := by decide +kernel
theorem dX11_eat_31 : decode cX11_eat 31 = .ok (.invokevirtual 173, 3) := by decide +kernel
theorem dX11_eat_34 : decode cX11_eat 34 = .ok (.iadd, 1) := by decide +kernel
theorem dX11_eat_35 : decode cX11_eat 35 = .ok (.putfield 160, 3) := by decide +kernel
theorem dX11_eat_38 : decode cX11_eat 38 = .ok (.iload_n 2, 1) := by decide +kernel
theorem dX11_eat_39 : decode cX11_eat 39 = .ok (.ireturn, 1) := by decide +kernel
theorem dX11_sign_0 : decode cX11_sign 0 = .ok (.aload_n 0, 1) := by decide +kernel
theorem dX11_sign_1 : decode cX11_sign 1 = .ok (.getfield 167, 3) := by decide +kernel
theorem dX11_sign_4 : decode cX11_sign 4 = .ok (.ifCond .le 4, 3) := by decide +kernel
theorem dX11_sign_7 : decode cX11_sign 7 = .ok (.return_, 1) := by decide +kernel
theorem dX11_sign_8 : decode cX11_sign 8 = .ok (.aload_n 0, 1) := by decide +kernel
theorem dX11_sign_9 : decode cX11_sign 9 = .ok (.invokevirtual 170, 3) := by decide +kernel
theorem dX11_sign_12 : decode cX11_sign 12 = .ok (.aload_n 0, 1) := by decide +kernel
theorem dX11_sign_13 : decode cX11_sign 13 = .ok (.getfield 160, 3) := by decide +kernel
theorem dX11_sign_16 : decode cX11_sign 16 = .ok (.aload_n 0, 1) := by decide +kernel
theorem dX11_sign_17 : decode cX11_sign 17 = .ok (.getfield 157, 3) := by decide +kernel
theorem dX11_sign_20 : decode cX11_sign 20 = .ok (.if_icmp .ge 28, 3) := by decide +kernel
theorem dX11_sign_23 : decode cX11_sign 23 = .ok (.aload_n 0, 1) := by decide +kernel
theorem dX11_sign_24 : decode cX11_sign 24 = .ok (.aload_n 0, 1) := by decide +kernel
theorem dX11_sign_25 : decode cX11_sign 25 = .ok (.getfield 160, 3) := by decide +kernel
theorem dX11_sign_28 : decode cX11_sign 28 = .ok (.invokevirtual 163, 3) := by decide +kernel
theorem dX11_sign_31 : decode cX11_sign 31 = .ok (.iload_n 1, 1) := by decide +kernel
theorem dX11_sign_32 : decode cX11_sign 32 = .ok (.if_icmp .ne 16, 3) := by decide +kernel
theorem dX11_sign_35 : decode cX11_sign 35 = .ok (.aload_n 0, 1) := by decide +kernel
theorem dX11_sign_36 : decode cX11_sign 36 = .ok (.dup, 1) := by decide +kernel
theorem dX11_sign_37 : decode cX11_sign 37 = .ok (.getfield 160, 3) := by decide +kernel
theorem dX11_sign_40 : decode cX11_sign 40 = .ok (.iconst 1, 1) := by decide +kernel
theorem dX11_sign_41 : decode cX11_sign 41 = .ok (.iadd, 1) := by decide +kernel
theorem dX11_sign_42 : decode cX11_sign 42 = .ok (.putfield 160, 3) := by decide +kernel
theorem dX11_sign_45 : decode cX11_sign 45 = .ok (.goto 12, 3) := by decide +kernel
theorem dX11_sign_48 : decode cX11_sign 48 = .ok (.aload_n 0, 1) := by decide +kernel
theorem dX11_sign_49 : decode cX11_sign 49 = .ok (.iconst 1, 1) := by decide +kernel
theorem dX11_sign_50 : decode cX11_sign 50 = .ok (.aload_n 0, 1) := by decide +kernel
theorem dX11_sign_51 : decode cX11_sign 51 = .ok (.getfield 160, 3) := by decide +kernel
theorem dX11_sign_54 : decode cX11_sign 54 = .ok (.invokevirtual 191, 3) := by decide +kernel
theorem dX11_sign_57 : decode cX11_sign 57 = .ok (.return_, 1) := by decide +kernel
theorem dX11_opens_0 : decode cX11_opens 0 = .ok (.aload_n 0, 1) := by decide +kernel
theorem dX11_opens_1 : decode cX11_opens 1 = .ok (.getfield 167, 3) := by decide +kernel
theorem dX11_opens_4 : decode cX11_opens 4 = .ok (.ifCond .le 4, 3) := by decide +kernel
theorem dX11_opens_7 : decode cX11_opens 7 = .ok (.return_, 1) := by decide +kernel
theorem dX11_opens_8 : decode cX11_opens 8 = .ok (.aload_n 0, 1) := by decide +kernel
theorem dX11_opens_9 : decode cX11_opens 9 = .ok (.invokevirtual 170, 3) := by decide +kernel
theorem dX11_opens_12 : decode cX11_opens 12 = .ok (.aload_n 0, 1) := by decide +kernel
theorem dX11_opens_13 : decode cX11_opens 13 = .ok (.getfield 160, 3) := by decide +kernel
theorem dX11_opens_16 : decode cX11_opens 16 = .ok (.aload_n 0, 1) := by decide +kernel
theorem dX11_opens_17 : decode cX11_opens 17 = .ok (.getfield 157, 3) := by decide +kernel
theorem dX11_opens_20 : decode cX11_opens 20 = .ok (.if_icmp .ge 15, 3) := by decide +kernel
theorem dX11_opens_23 : decode cX11_opens 23 = .ok (.aload_n 0, 1) := by decide +kernel
theorem dX11_opens_24 : decode cX11_opens 24 = .ok (.aload_n 0, 1) := by decide +kernel
theorem dX11_opens_25 : decode cX11_opens 25 = .ok (.getfield 160, 3) := by decide +kernel
theorem dX11_opens_28 : decode cX11_opens 28 = .ok (.invokevirtual 163, 3) := by decide +kernel
theorem dX11_opens_31 : decode cX11_opens 31 = .ok (.iload_n 1, 1) := by decide +kernel
theorem dX11_opens_32 : decode cX11_opens 32 = .ok (.if_icmp .eq 13, 3) := by decide +kernel
theorem dX11_opens_35 : decode cX11_opens 35 = .ok (.aload_n 0, 1) := by decide +kernel
theorem dX11_opens_36 : decode cX11_opens 36 = .ok (.iconst 1, 1) := by decide +kernel
theorem dX11_opens_37 : decode cX11_opens 37 = .ok (.aload_n 0, 1) := by decide +kernel
theorem dX11_opens_38 : decode cX11_opens 38 = .ok (.getfield 160, 3) := by decide +kernel
theorem dX11_opens_41 : decode cX11_opens 41 = .ok (.invokevirtual 191, 3) := by decide +kernel
theorem dX11_opens_44 : decode cX11_opens 44 = .ok (.return_, 1) := by decide +kernel
theorem dX11_opens_45 : decode cX11_opens 45 = .ok (.aload_n 0, 1) := by decide +kernel
theorem dX11_opens_46 : decode cX11_opens 46 = .ok (.getfield 195, 3) := by decide +kernel
theorem dX11_opens_49 : decode cX11_opens 49 = .ok (.bipush 6, 2) := by decide +kernel
theorem dX11_opens_51 : decode cX11_opens 51 = .ok (.if_icmp .ne 12, 3) := by decide +kernel
theorem dX11_opens_54 : decode cX11_opens 54 = .ok (.aload_n 0, 1) := by decide +kernel
theorem dX11_opens_55 : decode cX11_opens 55 = .ok (.iconst 3, 1) := by decide +kernel
theorem dX11_opens_56 : decode cX11_opens 56 = .ok (.aload_n 0, 1) := by decide +kernel
theorem dX11_opens_57 : decode cX11_opens 57 = .ok (.getfield 160, 3) := by decide +kernel
theorem dX11_opens_60 : decode cX11_opens 60 = .ok (.invokevirtual 191, 3) := by decide +kernel
theorem dX11_opens_63 : decode cX11_opens 63 = .ok (.aload_n 0, 1) := by decide +kernel
theorem dX11_opens_64 : decode cX11_opens 64 = .ok (.dup, 1) := by decide +kernel
theorem dX11_opens_65 : decode cX11_opens 65 = .ok (.getfield 195, 3) := by decide +kernel
theorem dX11_opens_68 : decode cX11_opens 68 = .ok (.iconst 1, 1) := by decide +kernel
theorem dX11_opens_69 : decode cX11_opens 69 = .ok (.iadd, 1) := by decide +kernel
theorem dX11_opens_70 : decode cX11_opens 70 = .ok (.putfield 195, 3) := by decide +kernel
theorem dX11_opens_73 : decode cX11_opens 73 = .ok (.aload_n 0, 1) := by decide +kernel
theorem dX11_opens_74 : decode cX11_opens 74 = .ok (.dup, 1) := by decide +kernel
theorem dX11_opens_75 : decode cX11_opens 75 = .ok (.getfield 160, 3) := by decide +kernel
theorem dX11_opens_78 : decode cX11_opens 78 = .ok (.iconst 1, 1) := by decide +kernel
theorem dX11_opens_79 : decode cX11_opens 79 = .ok (.iadd, 1) := by decide +kernel
theorem dX11_opens_80 : decode cX11_opens 80 = .ok (.putfield 160, 3) := by decide +kernel
theorem dX11_opens_83 : decode cX11_opens 83 = .ok (.return_, 1) := by decide +kernel
theorem dX11_closes_0 : decode cX11_closes 0 = .ok (.aload_n 0, 1) := by decide +kernel
theorem dX11_closes_1 : decode cX11_closes 1 = .ok (.iload_n 1, 1) := by decide +kernel
theorem dX11_closes_2 : decode cX11_closes 2 = .ok (.invokevirtual 198, 3) := by decide +kernel
theorem dX11_closes_5 : decode cX11_closes 5 = .ok (.aload_n 0, 1) := by decide +kernel
theorem dX11_closes_6 : decode cX11_closes 6 = .ok (.dup, 1) := by decide +kernel
theorem dX11_closes_7 : decode cX11_closes 7 = .ok (.getfield 195, 3) := by decide +kernel
theorem dX11_closes_10 : decode cX11_closes 10 = .ok (.iconst 1, 1) := by decide +kernel
theorem dX11_closes_11 : decode cX11_closes 11 = .ok (.isub, 1) := by decide +kernel
theorem dX11_closes_12 : decode cX11_closes 12 = .ok (.putfield 195, 3) := by decide +kernel
theorem dX11_closes_15 : decode cX11_closes 15 = .ok (.return_, 1) := by decide +kernel
theorem dX11_emits_0 : decode cX11_emits 0 = .ok (.aload_n 0, 1) := by decide +kernel
theorem dX11_emits_1 : decode cX11_emits 1 = .ok (.getfield 202, 3) := by decide +kernel
theorem dX11_emits_4 : decode cX11_emits 4 = .ok (.sipush 500, 3) := by decide +kernel
theorem dX11_emits_7 : decode cX11_emits 7 = .ok (.if_icmp .ge 41, 3) := by decide +kernel
theorem dX11_emits_10 : decode cX11_emits 10 = .ok (.aload_n 0, 1) := by decide +kernel
theorem dX11_emits_11 : decode cX11_emits 11 = .ok (.getfield 27, 3) := by decide +kernel
theorem dX11_emits_14 : decode cX11_emits 14 = .ok (.sipush 500, 3) := by decide +kernel
theorem dX11_emits_17 : decode cX11_emits 17 = .ok (.aload_n 0, 1) := by decide +kernel
theorem dX11_emits_18 : decode cX11_emits 18 = .ok (.getfield 205, 3) := by decide +kernel
theorem dX11_emits_21 : decode cX11_emits 21 = .ok (.imul, 1) := by decide +kernel
theorem dX11_emits_22 : decode cX11_emits 22 = .ok (.aload_n 0, 1) := by decide +kernel
theorem dX11_emits_23 : decode cX11_emits 23 = .ok (.getfield 202, 3) := by decide +kernel
theorem dX11_emits_26 : decode cX11_emits 26 = .ok (.iadd, 1) := by decide +kernel
theorem dX11_emits_27 : decode cX11_emits 27 = .ok (.iload_n 1, 1) := by decide +kernel
theorem dX11_emits_28 : decode cX11_emits 28 = .ok (.iastore, 1) := by decide +kernel
theorem dX11_emits_29 : decode cX11_emits 29 = .ok (.aload_n 0, 1) := by decide +kernel
theorem dX11_emits_30 : decode cX11_emits 30 = .ok (.getfield 30, 3) := by decide +kernel
theorem dX11_emits_33 : decode cX11_emits 33 = .ok (.sipush 500, 3) := by decide +kernel
theorem dX11_emits_36 : decode cX11_emits 36 = .ok (.aload_n 0, 1) := by decide +kernel
theorem dX11_emits_37 : decode cX11_emits 37 = .ok (.getfield 205, 3) := by decide +kernel
theorem dX11_emits_40 : decode cX11_emits 40 = .ok (.imul, 1) := by decide +kernel
theorem dX11_emits_41 : decode cX11_emits 41 = .ok (.aload_n 0, 1) := by decide +kernel
theorem dX11_emits_42 : decode cX11_emits 42 = .ok (.getfield 202, 3) := by decide +kernel
theorem dX11_emits_45 : decode cX11_emits 45 = .ok (.iadd, 1) := by decide +kernel
theorem dX11_emits_46 : decode cX11_emits 46 = .ok (.iload_n 2, 1) := by decide +kernel
theorem dX11_emits_47 : decode cX11_emits 47 = .ok (.iastore, 1) := by decide +kernel
theorem dX11_emits_48 : decode cX11_emits 48 = .ok (.aload_n 0, 1) := by decide +kernel
theorem dX11_emits_49 : decode cX11_emits 49 = .ok (.dup, 1) := by decide +kernel
theorem dX11_emits_50 : decode cX11_emits 50 = .ok (.getfield 202, 3) := by decide +kernel
theorem dX11_emits_53 : decode cX11_emits 53 = .ok (.iconst 1, 1) := by decide +kernel
theorem dX11_emits_54 : decode cX11_emits 54 = .ok (.iadd, 1) := by decide +kernel
theorem dX11_emits_55 : decode cX11_emits 55 = .ok (.putfield 202, 3) := by decide +kernel
theorem dX11_emits_58 : decode cX11_emits 58 = .ok (.aload_n 0, 1) := by decide +kernel
theorem dX11_emits_59 : decode cX11_emits 59 = .ok (.getfield 202, 3) := by decide +kernel
theorem dX11_emits_62 : decode cX11_emits 62 = .ok (.iconst 1, 1) := by decide +kernel
theorem dX11_emits_63 : decode cX11_emits 63 = .ok (.isub, 1) := by decide +kernel
theorem dX11_emits_64 : decode cX11_emits 64 = .ok (.ireturn, 1) := by decide +kernel
theorem dX11_leads_0 : decode cX11_leads 0 = .ok (.iload_n 1, 1) := by decide +kernel
theorem dX11_leads_1 : decode cX11_leads 1 = .ok (.sipush 500, 3) := by decide +kernel
theorem dX11_leads_4 : decode cX11_leads 4 = .ok (.if_icmp .ge 19, 3) := by decide +kernel
theorem dX11_leads_7 : decode cX11_leads 7 = .ok (.aload_n 0, 1) := by decide +kernel
theorem dX11_leads_8 : decode cX11_leads 8 = .ok (.getfield 30, 3) := by decide +kernel
theorem dX11_leads_11 : decode cX11_leads 11 = .ok (.sipush 500, 3) := by decide +kernel
theorem dX11_leads_14 : decode cX11_leads 14 = .ok (.aload_n 0, 1) := by decide +kernel
theorem dX11_leads_15 : decode cX11_leads 15 = .ok (.getfield 205, 3) := by decide +kernel
theorem dX11_leads_18 : decode cX11_leads 18 = .ok (.imul, 1) := by decide +kernel
theorem dX11_leads_19 : decode cX11_leads 19 = .ok (.iload_n 1, 1) := by decide +kernel
theorem dX11_leads_20 : decode cX11_leads 20 = .ok (.iadd, 1) := by decide +kernel
theorem dX11_leads_21 : decode cX11_leads 21 = .ok (.iload_n 2, 1) := by decide +kernel
theorem dX11_leads_22 : decode cX11_leads 22 = .ok (.iastore, 1) := by decide +kernel
theorem dX11_leads_23 : decode cX11_leads 23 = .ok (.return_, 1) := by decide +kernel
theorem dX11_expression_0 : decode cX11_expression 0 = .ok (.aload_n 0, 1) := by decide +kernel
theorem dX11_expression_1 : decode cX11_expression 1 = .ok (.invokevirtual 208, 3) := by decide +kernel
theorem dX11_expression_4 : decode cX11_expression 4 = .ok (.aload_n 0, 1) := by decide +kernel
theorem dX11_expression_5 : decode cX11_expression 5 = .ok (.getfield 167, 3) := by decide +kernel
theorem dX11_expression_8 : decode cX11_expression 8 = .ok (.ifCond .le 4, 3) := by decide +kernel
theorem dX11_expression_11 : decode cX11_expression 11 = .ok (.return_, 1) := by decide +kernel
theorem dX11_expression_12 : decode cX11_expression 12 = .ok (.aload_n 0, 1) := by decide +kernel
theorem dX11_expression_13 : decode cX11_expression 13 = .ok (.invokevirtual 170, 3) := by decide +kernel
theorem dX11_expression_16 : decode cX11_expression 16 = .ok (.aload_n 0, 1) := by decide +kernel
theorem dX11_expression_17 : decode cX11_expression 17 = .ok (.aload_n 0, 1) := by decide +kernel
theorem dX11_expression_18 : decode cX11_expression 18 = .ok (.getfield 160, 3) := by decide +kernel
theorem dX11_expression_21 : decode cX11_expression 21 = .ok (.invokevirtual 163, 3) := by decide +kernel
theorem dX11_expression_24 : decode cX11_expression 24 = .ok (.istore_n 1, 1) := by decide +kernel
theorem dX11_expression_25 : decode cX11_expression 25 = .ok (.aload_n 0, 1) := by decide +kernel
theorem dX11_expression_26 : decode cX11_expression 26 = .ok (.getfield 167, 3) := by decide +kernel
theorem dX11_expression_29 : decode cX11_expression 29 = .ok (.ifCond .ne 81, 3) := by decide +kernel
theorem dX11_expression_32 : decode cX11_expression 32 = .ok (.iload_n 1, 1) := by decide +kernel
theorem dX11_expression_33 : decode cX11_expression 33 = .ok (.bipush 60, 2) := by decide +kernel
theorem dX11_expression_35 : decode cX11_expression 35 = .ok (.if_icmp .eq 15, 3) := by decide +kernel
theorem dX11_expression_38 : decode cX11_expression 38 = .ok (.iload_n 1, 1) := by decide +kernel
theorem dX11_expression_39 : decode cX11_expression 39 = .ok (.bipush 62, 2) := by decide +kernel
theorem dX11_expression_41 : decode cX11_expression 41 = .ok (.if_icmp .eq 9, 3) := by decide +kernel
theorem dX11_expression_44 : decode cX11_expression 44 = .ok (.iload_n 1, 1) := by decide +kernel
theorem dX11_expression_45 : decode cX11_expression 45 = .ok (.bipush 61, 2) := by decide +kernel
theorem dX11_expression_47 : decode cX11_expression 47 = .ok (.if_icmp .ne 63, 3) := by decide +kernel
theorem dX11_expression_50 : decode cX11_expression 50 = .ok (.aload_n 0, 1) := by decide +kernel
theorem dX11_expression_51 : decode cX11_expression 51 = .ok (.dup, 1) := by decide +kernel
theorem dX11_expression_52 : decode cX11_expression 52 = .ok (.getfield 160, 3) := by decide +kernel
theorem dX11_expression_55 : decode cX11_expression 55 = .ok (.iconst 1, 1) := by decide +kernel
theorem dX11_expression_56 : decode cX11_expression 56 = .ok (.iadd, 1) := by decide +kernel
theorem dX11_expression_57 : decode cX11_expression 57 = .ok (.putfield 160, 3) := by decide +kernel
theorem dX11_expression_60 : decode cX11_expression 60 = .ok (.aload_n 0, 1) := by decide +kernel
theorem dX11_expression_61 : decode cX11_expression 61 = .ok (.invokevirtual 208, 3) := by decide +kernel
theorem dX11_expression_64 : decode cX11_expression 64 = .ok (.aload_n 0, 1) := by decide +kernel
theorem dX11_expression_65 : decode cX11_expression 65 = .ok (.iload_n 1, 1) := by decide +kernel
theorem dX11_expression_66 : decode cX11_expression 66 = .ok (.bipush 60, 2) := by decide +kernel
theorem dX11_expression_68 : decode cX11_expression 68 = .ok (.if_icmp .ne 8, 3) := by decide +kernel
theorem dX11_expression_71 : decode cX11_expression 71 = .ok (.bipush 11, 2) := by decide +kernel
theorem dX11_expression_73 : decode cX11_expression 73 = .ok (.goto 16, 3) := by decide +kernel
theorem dX11_expression_76 : decode cX11_expression 76 = .ok (.iload_n 1, 1) := by decide +kernel
theorem dX11_expression_77 : decode cX11_expression 77 = .ok (.bipush 62, 2) := by decide +kernel
theorem dX11_expression_79 : decode cX11_expression 79 = .ok (.if_icmp .ne 8, 3) := by decide +kernel
theorem dX11_expression_82 : decode cX11_expression 82 = .ok (.bipush 12, 2) := by decide +kernel
theorem dX11_expression_84 : decode cX11_expression 84 = .ok (.goto 5, 3) := by decide +kernel
theorem dX11_expression_87 : decode cX11_expression 87 = .ok (.bipush 13, 2) := by decide +kernel
theorem dX11_expression_89 : decode cX11_expression 89 = .ok (.iconst 0, 1) := by decide +kernel
theorem dX11_expression_90 : decode cX11_expression 90 = .ok (.invokevirtual 211, 3) := by decide +kernel
theorem dX11_expression_93 : decode cX11_expression 93 = .ok (.pop, 1) := by decide +kernel
theorem dX11_expression_94 : decode cX11_expression 94 = .ok (.aload_n 0, 1) := by decide +kernel
theorem dX11_expression_95 : decode cX11_expression 95 = .ok (.invokevirtual 170, 3) := by decide +kernel
theorem dX11_expression_98 : decode cX11_expression 98 = .ok (.aload_n 0, 1) := by decide +kernel
theorem dX11_expression_99 : decode cX11_expression 99 = .ok (.aload_n 0, 1) := by decide +kernel
theorem dX11_expression_100 : decode cX11_expression 100 = .ok (.getfield 160, 3) := by decide +kernel
theorem dX11_expression_103 : decode cX11_expression 103 = .ok (.invokevirtual 163, 3) := by decide +kernel
theorem dX11_expression_106 : decode cX11_expression 106 = .ok (.istore_n 1, 1) := by decide +kernel
theorem dX11_expression_107 : decode cX11_expression 107 = .ok (.goto (-82), 3) := by decide +kernel
theorem dX11_expression_110 : decode cX11_expression 110 = .ok (.return_, 1) := by decide +kernel
theorem dX11_adds_0 : decode cX11_adds 0 = .ok (.aload_n 0, 1) := by decide +kernel
theorem dX11_adds_1 : decode cX11_adds 1 = .ok (.invokevirtual 215, 3) := by decide +kernel
theorem dX11_adds_4 : decode cX11_adds 4 = .ok (.aload_n 0, 1) := by decide +kernel
theorem dX11_adds_5 : decode cX11_adds 5 = .ok (.invokevirtual 170, 3) := by decide +kernel
theorem dX11_adds_8 : decode cX11_adds 8 = .ok (.aload_n 0, 1) := by decide +kernel
theorem dX11_adds_9 : decode cX11_adds 9 = .ok (.getfield 167, 3) := by decide +kernel
theorem dX11_adds_12 : decode cX11_adds 12 = .ok (.ifCond .ne 78, 3) := by decide +kernel
theorem dX11_adds_15 : decode cX11_adds 15 = .ok (.aload_n 0, 1) := by decide +kernel
theorem dX11_adds_16 : decode cX11_adds 16 = .ok (.aload_n 0, 1) := by decide +kernel
theorem dX11_adds_17 : decode cX11_adds 17 = .ok (.getfield 160, 3) := by decide +kernel
theorem dX11_adds_20 : decode cX11_adds 20 = .ok (.invokevirtual 163, 3) := by decide +kernel
theorem dX11_adds_23 : decode cX11_adds 23 = .ok (.bipush 43, 2) := by decide +kernel
theorem dX11_adds_25 : decode cX11_adds 25 = .ok (.if_icmp .eq 16, 3) := by decide +kernel
theorem dX11_adds_28 : decode cX11_adds 28 = .ok (.aload_n 0, 1) := by decide +kernel
theorem dX11_adds_29 : decode cX11_adds 29 = .ok (.aload_n 0, 1) := by decide +kernel
theorem dX11_adds_30 : decode cX11_adds 30 = .ok (.getfield 160, 3) := by decide +kernel
theorem dX11_adds_33 : decode cX11_adds 33 = .ok (.invokevirtual 163, 3) := by decide +kernel
theorem dX11_adds_36 : decode cX11_adds 36 = .ok (.bipush 45, 2) := by decide +kernel
theorem dX11_adds_38 : decode cX11_adds 38 = .ok (.if_icmp .ne 52, 3) := by decide +kernel
theorem dX11_adds_41 : decode cX11_adds 41 = .ok (.aload_n 0, 1) := by decide +kernel
theorem dX11_adds_42 : decode cX11_adds 42 = .ok (.aload_n 0, 1) := by decide +kernel
theorem dX11_adds_43 : decode cX11_adds 43 = .ok (.getfield 160, 3) := by decide +kernel
theorem dX11_adds_46 : decode cX11_adds 46 = .ok (.invokevirtual 163, 3) := by decide +kernel
theorem dX11_adds_49 : decode cX11_adds 49 = .ok (.istore_n 1, 1) := by decide +kernel
theorem dX11_adds_50 : decode cX11_adds 50 = .ok (.aload_n 0, 1) := by decide +kernel
theorem dX11_adds_51 : decode cX11_adds 51 = .ok (.dup, 1) := by decide +kernel
theorem dX11_adds_52 : decode cX11_adds 52 = .ok (.getfield 160, 3) := by decide +kernel
theorem dX11_adds_55 : decode cX11_adds 55 = .ok (.iconst 1, 1) := by decide +kernel
theorem dX11_adds_56 : decode cX11_adds 56 = .ok (.iadd, 1) := by decide +kernel
theorem dX11_adds_57 : decode cX11_adds 57 = .ok (.putfield 160, 3) := by decide +kernel
theorem dX11_adds_60 : decode cX11_adds 60 = .ok (.aload_n 0, 1) := by decide +kernel
theorem dX11_adds_61 : decode cX11_adds 61 = .ok (.invokevirtual 215, 3) := by decide +kernel
theorem dX11_adds_64 : decode cX11_adds 64 = .ok (.aload_n 0, 1) := by decide +kernel
theorem dX11_adds_65 : decode cX11_adds 65 = .ok (.iload_n 1, 1) := by decide +kernel
theorem dX11_adds_66 : decode cX11_adds 66 = .ok (.bipush 43, 2) := by decide +kernel
theorem dX11_adds_68 : decode cX11_adds 68 = .ok (.if_icmp .ne 8, 3) := by decide +kernel
theorem dX11_adds_71 : decode cX11_adds 71 = .ok (.bipush 6, 2) := by decide +kernel
theorem dX11_adds_73 : decode cX11_adds 73 = .ok (.goto 5, 3) := by decide +kernel
theorem dX11_adds_76 : decode cX11_adds 76 = .ok (.bipush 7, 2) := by decide +kernel
theorem dX11_adds_78 : decode cX11_adds 78 = .ok (.iconst 0, 1) := by decide +kernel
theorem dX11_adds_79 : decode cX11_adds 79 = .ok (.invokevirtual 211, 3) := by decide +kernel
theorem dX11_adds_82 : decode cX11_adds 82 = .ok (.pop, 1) := by decide +kernel
theorem dX11_adds_83 : decode cX11_adds 83 = .ok (.aload_n 0, 1) := by decide +kernel
theorem dX11_adds_84 : decode cX11_adds 84 = .ok (.invokevirtual 170, 3) := by decide +kernel
theorem dX11_adds_87 : decode cX11_adds 87 = .ok (.goto (-79), 3) := by decide +kernel
theorem dX11_adds_90 : decode cX11_adds 90 = .ok (.return_, 1) := by decide +kernel
theorem dX11_product_0 : decode cX11_product 0 = .ok (.aload_n 0, 1) := by decide +kernel
theorem dX11_product_1 : decode cX11_product 1 = .ok (.invokevirtual 218, 3) := by decide +kernel
theorem dX11_product_4 : decode cX11_product 4 = .ok (.aload_n 0, 1) := by decide +kernel
theorem dX11_product_5 : decode cX11_product 5 = .ok (.invokevirtual 170, 3) := by decide +kernel
theorem dX11_product_8 : decode cX11_product 8 = .ok (.aload_n 0, 1) := by decide +kernel
theorem dX11_product_9 : decode cX11_product 9 = .ok (.getfield 167, 3) := by decide +kernel
theorem dX11_product_12 : decode cX11_product 12 = .ok (.ifCond .ne 102, 3) := by decide +kernel
theorem dX11_product_15 : decode cX11_product 15 = .ok (.aload_n 0, 1) := by decide +kernel
theorem dX11_product_16 : decode cX11_product 16 = .ok (.aload_n 0, 1) := by decide +kernel
theorem dX11_product_17 : decode cX11_product 17 = .ok (.getfield 160, 3) := by decide +kernel
theorem dX11_product_20 : decode cX11_product 20 = .ok (.invokevirtual 163, 3) := by decide +kernel
theorem dX11_product_23 : decode cX11_product 23 = .ok (.bipush 42, 2) := by decide +kernel
theorem dX11_product_25 : decode cX11_product 25 = .ok (.if_icmp .eq 29, 3) := by decide +kernel
theorem dX11_product_28 : decode cX11_product 28 = .ok (.aload_n 0, 1) := by decide +kernel
theorem dX11_product_29 : decode cX11_product 29 = .ok (.aload_n 0, 1) := by decide +kernel
theorem dX11_product_30 : decode cX11_product 30 = .ok (.getfield 160, 3) := by decide +kernel
theorem dX11_product_33 : decode cX11_product 33 = .ok (.invokevirtual 163, 3) := by decide +kernel
theorem dX11_product_36 : decode cX11_product 36 = .ok (.bipush 47, 2) := by decide +kernel
theorem dX11_product_38 : decode cX11_product 38 = .ok (.if_icmp .eq 16, 3) := by decide +kernel
theorem dX11_product_41 : decode cX11_product 41 = .ok (.aload_n 0, 1) := by decide +kernel
theorem dX11_product_42 : decode cX11_product 42 = .ok (.aload_n 0, 1) := by decide +kernel
theorem dX11_product_43 : decode cX11_product 43 = .ok (.getfield 160, 3) := by decide +kernel
theorem dX11_product_46 : decode cX11_product 46 = .ok (.invokevirtual 163, 3) := by decide +kernel
theorem dX11_product_49 : decode cX11_product 49 = .ok (.bipush 37, 2) := by decide +kernel
theorem dX11_product_51 : decode cX11_product 51 = .ok (.if_icmp .ne 63, 3) := by decide +kernel
theorem dX11_product_54 : decode cX11_product 54 = .ok (.aload_n 0, 1) := by decide +kernel
theorem dX11_product_55 : decode cX11_product 55 = .ok (.aload_n 0, 1) := by decide +kernel
theorem dX11_product_56 : decode cX11_product 56 = .ok (.getfield 160, 3) := by decide +kernel
theorem dX11_product_59 : decode cX11_product 59 = .ok (.invokevirtual 163, 3) := by decide +kernel
theorem dX11_product_62 : decode cX11_product 62 = .ok (.istore_n 1, 1) := by decide +kernel
theorem dX11_product_63 : decode cX11_product 63 = .ok (.aload_n 0, 1) := by decide +kernel
theorem dX11_product_64 : decode cX11_product 64 = .ok (.dup, 1) := by decide +kernel
theorem dX11_product_65 : decode cX11_product 65 = .ok (.getfield 160, 3) := by decide +kernel
theorem dX11_product_68 : decode cX11_product 68 = .ok (.iconst 1, 1) := by decide +kernel
theorem dX11_product_69 : decode cX11_product 69 = .ok (.iadd, 1) := by decide +kernel
theorem dX11_product_70 : decode cX11_product 70 = .ok (.putfield 160, 3) := by decide +kernel
theorem dX11_product_73 : decode cX11_product 73 = .ok (.aload_n 0, 1) := by decide +kernel
theorem dX11_product_74 : decode cX11_product 74 = .ok (.invokevirtual 218, 3) := by decide +kernel
theorem dX11_product_77 : decode cX11_product 77 = .ok (.aload_n 0, 1) := by decide +kernel
theorem dX11_product_78 : decode cX11_product 78 = .ok (.iload_n 1, 1) := by decide +kernel
theorem dX11_product_79 : decode cX11_product 79 = .ok (.bipush 42, 2) := by decide +kernel
theorem dX11_product_81 : decode cX11_product 81 = .ok (.if_icmp .ne 8, 3) := by decide +kernel
theorem dX11_product_84 : decode cX11_product 84 = .ok (.bipush 8, 2) := by decide +kernel
theorem dX11_product_86 : decode cX11_product 86 = .ok (.goto 16, 3) := by decide +kernel
theorem dX11_product_89 : decode cX11_product 89 = .ok (.iload_n 1, 1) := by decide +kernel
theorem dX11_product_90 : decode cX11_product 90 = .ok (.bipush 47, 2) := by decide +kernel
theorem dX11_product_92 : decode cX11_product 92 = .ok (.if_icmp .ne 8, 3) := by decide +kernel
theorem dX11_product_95 : decode cX11_product 95 = .ok (.bipush 9, 2) := by decide +kernel
theorem dX11_product_97 : decode cX11_product 97 = .ok (.goto 5, 3) := by decide +kernel
theorem dX11_product_100 : decode cX11_product 100 = .ok (.bipush 10, 2) := by decide +kernel
theorem dX11_product_102 : decode cX11_product 102 = .ok (.iconst 0, 1) := by decide +kernel
theorem dX11_product_103 : decode cX11_product 103 = .ok (.invokevirtual 211, 3) := by decide +kernel
theorem dX11_product_106 : decode cX11_product 106 = .ok (.pop, 1) := by decide +kernel
theorem dX11_product_107 : decode cX11_product 107 = .ok (.aload_n 0, 1) := by decide +kernel
theorem dX11_product_108 : decode cX11_product 108 = .ok (.invokevirtual 170, 3) := by decide +kernel
theorem dX11_product_111 : decode cX11_product 111 = .ok (.goto (-103), 3) := by decide +kernel
theorem dX11_product_114 : decode cX11_product 114 = .ok (.return_, 1) := by decide +kernel
theorem dX11_figures_0 : decode cX11_figures 0 = .ok (.aload_n 0, 1) := by decide +kernel
theorem dX11_figures_1 : decode cX11_figures 1 = .ok (.getfield 160, 3) := by decide +kernel
theorem dX11_figures_4 : decode cX11_figures 4 = .ok (.istore_n 1, 1) := by decide +kernel
theorem dX11_figures_5 : decode cX11_figures 5 = .ok (.iconst 0, 1) := by decide +kernel
theorem dX11_figures_6 : decode cX11_figures 6 = .ok (.istore_n 2, 1) := by decide +kernel
theorem dX11_figures_7 : decode cX11_figures 7 = .ok (.aload_n 0, 1) := by decide +kernel
theorem dX11_figures_8 : decode cX11_figures 8 = .ok (.aload_n 0, 1) := by decide +kernel
theorem dX11_figures_9 : decode cX11_figures 9 = .ok (.getfield 160, 3) := by decide +kernel
theorem dX11_figures_12 : decode cX11_figures 12 = .ok (.invokevirtual 163, 3) := by decide +kernel
theorem dX11_figures_15 : decode cX11_figures 15 = .ok (.invokestatic 221, 3) := by decide +kernel
theorem dX11_figures_18 : decode cX11_figures 18 = .ok (.ifCond .eq 43, 3) := by decide +kernel
theorem dX11_figures_21 : decode cX11_figures 21 = .ok (.iload_n 2, 1) := by decide +kernel
theorem dX11_figures_22 : decode cX11_figures 22 = .ok (.ldc 224, 2) := by decide +kernel
theorem dX11_figures_24 : decode cX11_figures 24 = .ok (.if_icmp .le 7, 3) := by decide +kernel
theorem dX11_figures_27 : decode cX11_figures 27 = .ok (.iload_n 2, 1) := by decide +kernel
theorem dX11_figures_28 : decode cX11_figures 28 = .ok (.goto 19, 3) := by decide +kernel
theorem dX11_figures_31 : decode cX11_figures 31 = .ok (.bipush 10, 2) := by decide +kernel
theorem dX11_figures_33 : decode cX11_figures 33 = .ok (.iload_n 2, 1) := by decide +kernel
theorem dX11_figures_34 : decode cX11_figures 34 = .ok (.imul, 1) := by decide +kernel
theorem dX11_figures_35 : decode cX11_figures 35 = .ok (.aload_n 0, 1) := by decide +kernel
theorem dX11_figures_36 : decode cX11_figures 36 = .ok (.aload_n 0, 1) := by decide +kernel
theorem dX11_figures_37 : decode cX11_figures 37 = .ok (.getfield 160, 3) := by decide +kernel
theorem dX11_figures_40 : decode cX11_figures 40 = .ok (.invokevirtual 163, 3) := by decide +kernel
theorem dX11_figures_43 : decode cX11_figures 43 = .ok (.iadd, 1) := by decide +kernel
theorem dX11_figures_44 : decode cX11_figures 44 = .ok (.bipush 48, 2) := by decide +kernel
theorem dX11_figures_46 : decode cX11_figures 46 = .ok (.isub, 1) := by decide +kernel
theorem dX11_figures_47 : decode cX11_figures 47 = .ok (.istore_n 2, 1) := by decide +kernel
theorem dX11_figures_48 : decode cX11_figures 48 = .ok (.aload_n 0, 1) := by decide +kernel
theorem dX11_figures_49 : decode cX11_figures 49 = .ok (.dup, 1) := by decide +kernel
theorem dX11_figures_50 : decode cX11_figures 50 = .ok (.getfield 160, 3) := by decide +kernel
theorem dX11_figures_53 : decode cX11_figures 53 = .ok (.iconst 1, 1) := by decide +kernel
theorem dX11_figures_54 : decode cX11_figures 54 = .ok (.iadd, 1) := by decide +kernel
theorem dX11_figures_55 : decode cX11_figures 55 = .ok (.putfield 160, 3) := by decide +kernel
theorem dX11_figures_58 : decode cX11_figures 58 = .ok (.goto (-51), 3) := by decide +kernel
theorem dX11_figures_61 : decode cX11_figures 61 = .ok (.iload_n 2, 1) := by decide +kernel
theorem dX11_figures_62 : decode cX11_figures 62 = .ok (.ldc 225, 2) := by decide +kernel
theorem dX11_figures_64 : decode cX11_figures 64 = .ok (.if_icmp .le 9, 3) := by decide +kernel
theorem dX11_figures_67 : decode cX11_figures 67 = .ok (.aload_n 0, 1) := by decide +kernel
theorem dX11_figures_68 : decode cX11_figures 68 = .ok (.iconst 2, 1) := by decide +kernel
theorem dX11_figures_69 : decode cX11_figures 69 = .ok (.iload_n 1, 1) := by decide +kernel
theorem dX11_figures_70 : decode cX11_figures 70 = .ok (.invokevirtual 191, 3) := by decide +kernel
theorem dX11_figures_73 : decode cX11_figures 73 = .ok (.aload_n 0, 1) := by decide +kernel
theorem dX11_figures_74 : decode cX11_figures 74 = .ok (.iconst 1, 1) := by decide +kernel
theorem dX11_figures_75 : decode cX11_figures 75 = .ok (.iload_n 2, 1) := by decide +kernel
theorem dX11_figures_76 : decode cX11_figures 76 = .ok (.invokevirtual 211, 3) := by decide +kernel
theorem dX11_figures_79 : decode cX11_figures 79 = .ok (.pop, 1) := by decide +kernel
theorem dX11_figures_80 : decode cX11_figures 80 = .ok (.return_, 1) := by decide +kernel
theorem dX11_variable_0 : decode cX11_variable 0 = .ok (.aload_n 0, 1) := by decide +kernel
theorem dX11_variable_1 : decode cX11_variable 1 = .ok (.invokevirtual 170, 3) := by decide +kernel
theorem dX11_variable_4 : decode cX11_variable 4 = .ok (.aload_n 0, 1) := by decide +kernel
theorem dX11_variable_5 : decode cX11_variable 5 = .ok (.aload_n 0, 1) := by decide +kernel
theorem dX11_variable_6 : decode cX11_variable 6 = .ok (.getfield 160, 3) := by decide +kernel
theorem dX11_variable_9 : decode cX11_variable 9 = .ok (.invokevirtual 163, 3) := by decide +kernel
theorem dX11_variable_12 : decode cX11_variable 12 = .ok (.istore_n 1, 1) := by decide +kernel
theorem dX11_variable_13 : decode cX11_variable 13 = .ok (.iload_n 1, 1) := by decide +kernel
theorem dX11_variable_14 : decode cX11_variable 14 = .ok (.bipush 97, 2) := by decide +kernel
theorem dX11_variable_16 : decode cX11_variable 16 = .ok (.if_icmp .lt 32, 3) := by decide +kernel
theorem dX11_variable_19 : decode cX11_variable 19 = .ok (.iload_n 1, 1) := by decide +kernel
theorem dX11_variable_20 : decode cX11_variable 20 = .ok (.bipush 104, 2) := by decide +kernel
theorem dX11_variable_22 : decode cX11_variable 22 = .ok (.if_icmp .gt 26, 3) := by decide +kernel
theorem dX11_variable_25 : decode cX11_variable 25 = .ok (.aload_n 0, 1) := by decide +kernel
theorem dX11_variable_26 : decode cX11_variable 26 = .ok (.aload_n 0, 1) := by decide +kernel
theorem dX11_variable_27 : decode cX11_variable 27 = .ok (.getfield 160, 3) := by decide +kernel
theorem dX11_variable_30 : decode cX11_variable 30 = .ok (.iconst 1, 1) := by decide +kernel
theorem dX11_variable_31 : decode cX11_variable 31 = .ok (.iadd, 1) := by decide +kernel
theorem dX11_variable_32 : decode cX11_variable 32 = .ok (.invokevirtual 163, 3) := by decide +kernel
theorem dX11_variable_35 : decode cX11_variable 35 = .ok (.invokestatic 183, 3) := by decide +kernel
theorem dX11_variable_38 : decode cX11_variable 38 = .ok (.ifCond .ne 10, 3) := by decide +kernel
theorem dX11_variable_41 : decode cX11_variable 41 = .ok (.iload_n 1, 1) := by decide +kernel
theorem dX11_variable_42 : decode cX11_variable 42 = .ok (.bipush 97, 2) := by decide +kernel
theorem dX11_variable_44 : decode cX11_variable 44 = .ok (.isub, 1) := by decide +kernel
theorem dX11_variable_45 : decode cX11_variable 45 = .ok (.goto 4, 3) := by decide +kernel
theorem dX11_variable_48 : decode cX11_variable 48 = .ok (.iconst (-1), 1) := by decide +kernel
theorem dX11_variable_49 : decode cX11_variable 49 = .ok (.ireturn, 1) := by decide +kernel
theorem dX11_unit_0 : decode cX11_unit 0 = .ok (.aload_n 0, 1) := by decide +kernel
theorem dX11_unit_1 : decode cX11_unit 1 = .ok (.getfield 167, 3) := by decide +kernel
theorem dX11_unit_4 : decode cX11_unit 4 = .ok (.ifCond .le 4, 3) := by decide +kernel
theorem dX11_unit_7 : decode cX11_unit 7 = .ok (.return_, 1) := by decide +kernel
theorem dX11_unit_8 : decode cX11_unit 8 = .ok (.aload_n 0, 1) := by decide +kernel
theorem dX11_unit_9 : decode cX11_unit 9 = .ok (.invokevirtual 170, 3) := by decide +kernel
theorem dX11_unit_12 : decode cX11_unit 12 = .ok (.aload_n 0, 1) := by decide +kernel
theorem dX11_unit_13 : decode cX11_unit 13 = .ok (.aload_n 0, 1) := by decide +kernel
theorem dX11_unit_14 : decode cX11_unit 14 = .ok (.getfield 160, 3) := by decide +kernel
theorem dX11_unit_17 : decode cX11_unit 17 = .ok (.invokevirtual 163, 3) := by decide +kernel
theorem dX11_unit_20 : decode cX11_unit 20 = .ok (.invokestatic 221, 3) := by decide +kernel
theorem dX11_unit_23 : decode cX11_unit 23 = .ok (.ifCond .eq 8, 3) := by decide +kernel
theorem dX11_unit_26 : decode cX11_unit 26 = .ok (.aload_n 0, 1) := by decide +kernel
theorem dX11_unit_27 : decode cX11_unit 27 = .ok (.invokevirtual 226, 3) := by decide +kernel
theorem dX11_unit_30 : decode cX11_unit 30 = .ok (.return_, 1) := by decide +kernel
theorem dX11_unit_31 : decode cX11_unit 31 = .ok (.aload_n 0, 1) := by decide +kernel
theorem dX11_unit_32 : decode cX11_unit 32 = .ok (.invokevirtual 229, 3) := by decide +kernel
theorem dX11_unit_35 : decode cX11_unit 35 = .ok (.istore_n 1, 1) := by decide +kernel
theorem dX11_unit_36 : decode cX11_unit 36 = .ok (.iload_n 1, 1) := by decide +kernel
theorem dX11_unit_37 : decode cX11_unit 37 = .ok (.ifCond .lt 21, 3) := by decide +kernel
theorem dX11_unit_40 : decode cX11_unit 40 = .ok (.aload_n 0, 1) := by decide +kernel
theorem dX11_unit_41 : decode cX11_unit 41 = .ok (.dup, 1) := by decide +kernel
theorem dX11_unit_42 : decode cX11_unit 42 = .ok (.getfield 160, 3) := by decide +kernel
theorem dX11_unit_45 : decode cX11_unit 45 = .ok (.iconst 1, 1) := by decide +kernel
theorem dX11_unit_46 : decode cX11_unit 46 = .ok (.iadd, 1) := by decide +kernel
theorem dX11_unit_47 : decode cX11_unit 47 = .ok (.putfield 160, 3) := by decide +kernel
theorem dX11_unit_50 : decode cX11_unit 50 = .ok (.aload_n 0, 1) := by decide +kernel
theorem dX11_unit_51 : decode cX11_unit 51 = .ok (.iconst 2, 1) := by decide +kernel
theorem dX11_unit_52 : decode cX11_unit 52 = .ok (.iload_n 1, 1) := by decide +kernel
theorem dX11_unit_53 : decode cX11_unit 53 = .ok (.invokevirtual 211, 3) := by decide +kernel
theorem dX11_unit_56 : decode cX11_unit 56 = .ok (.pop, 1) := by decide +kernel
theorem dX11_unit_57 : decode cX11_unit 57 = .ok (.return_, 1) := by decide +kernel
theorem dX11_unit_58 : decode cX11_unit 58 = .ok (.aload_n 0, 1) := by decide +kernel
theorem dX11_unit_59 : decode cX11_unit 59 = .ok (.ldc 232, 2) := by decide +kernel
theorem dX11_unit_61 : decode cX11_unit 61 = .ok (.invokevirtual 234, 3) := by decide +kernel
theorem dX11_unit_64 : decode cX11_unit 64 = .ok (.ifCond .eq 27, 3) := by decide +kernel
theorem dX11_unit_67 : decode cX11_unit 67 = .ok (.aload_n 0, 1) := by decide +kernel
theorem dX11_unit_68 : decode cX11_unit 68 = .ok (.bipush 91, 2) := by decide +kernel
theorem dX11_unit_70 : decode cX11_unit 70 = .ok (.invokevirtual 237, 3) := by decide +kernel
theorem dX11_unit_73 : decode cX11_unit 73 = .ok (.aload_n 0, 1) := by decide +kernel
theorem dX11_unit_74 : decode cX11_unit 74 = .ok (.invokevirtual 240, 3) := by decide +kernel
theorem dX11_unit_77 : decode cX11_unit 77 = .ok (.aload_n 0, 1) := by decide +kernel
theorem dX11_unit_78 : decode cX11_unit 78 = .ok (.bipush 93, 2) := by decide +kernel
theorem dX11_unit_80 : decode cX11_unit 80 = .ok (.invokevirtual 243, 3) := by decide +kernel
theorem dX11_unit_83 : decode cX11_unit 83 = .ok (.aload_n 0, 1) := by decide +kernel
theorem dX11_unit_84 : decode cX11_unit 84 = .ok (.iconst 4, 1) := by decide +kernel
theorem dX11_unit_85 : decode cX11_unit 85 = .ok (.iconst 0, 1) := by decide +kernel
theorem dX11_unit_86 : decode cX11_unit 86 = .ok (.invokevirtual 211, 3) := by decide +kernel
theorem dX11_unit_89 : decode cX11_unit 89 = .ok (.pop, 1) := by decide +kernel
theorem dX11_unit_90 : decode cX11_unit 90 = .ok (.return_, 1) := by decide +kernel
theorem dX11_unit_91 : decode cX11_unit 91 = .ok (.aload_n 0, 1) := by decide +kernel
theorem dX11_unit_92 : decode cX11_unit 92 = .ok (.bipush 40, 2) := by decide +kernel
theorem dX11_unit_94 : decode cX11_unit 94 = .ok (.invokevirtual 237, 3) := by decide +kernel
theorem dX11_unit_97 : decode cX11_unit 97 = .ok (.aload_n 0, 1) := by decide +kernel
theorem dX11_unit_98 : decode cX11_unit 98 = .ok (.invokevirtual 240, 3) := by decide +kernel
theorem dX11_unit_101 : decode cX11_unit 101 = .ok (.aload_n 0, 1) := by decide +kernel
theorem dX11_unit_102 : decode cX11_unit 102 = .ok (.bipush 41, 2) := by decide +kernel
theorem dX11_unit_104 : decode cX11_unit 104 = .ok (.invokevirtual 243, 3) := by decide +kernel
theorem dX11_unit_107 : decode cX11_unit 107 = .ok (.return_, 1) := by decide +kernel
theorem dX11_isStatement_0 : decode cX11_isStatement 0 = .ok (.aload_n 0, 1) := by decide +kernel
theorem dX11_isStatement_1 : decode cX11_isStatement 1 = .ok (.invokevirtual 229, 3) := by decide +kernel
theorem dX11_isStatement_4 : decode cX11_isStatement 4 = .ok (.ifCond .ge 39, 3) := by decide +kernel
theorem dX11_isStatement_7 : decode cX11_isStatement 7 = .ok (.aload_n 0, 1) := by decide +kernel
theorem dX11_isStatement_8 : decode cX11_isStatement 8 = .ok (.ldc 232, 2) := by decide +kernel
theorem dX11_isStatement_10 : decode cX11_isStatement 10 = .ok (.invokevirtual 187, 3) := by decide +kernel
theorem dX11_isStatement_13 : decode cX11_isStatement 13 = .ok (.ifCond .ne 30, 3) := by decide +kernel
theorem dX11_isStatement_16 : decode cX11_isStatement 16 = .ok (.aload_n 0, 1) := by decide +kernel
theorem dX11_isStatement_17 : decode cX11_isStatement 17 = .ok (.ldc 246, 2) := by decide +kernel
theorem dX11_isStatement_19 : decode cX11_isStatement 19 = .ok (.invokevirtual 187, 3) := by decide +kernel
theorem dX11_isStatement_22 : decode cX11_isStatement 22 = .ok (.ifCond .ne 21, 3) := by decide +kernel
theorem dX11_isStatement_25 : decode cX11_isStatement 25 = .ok (.aload_n 0, 1) := by decide +kernel
theorem dX11_isStatement_26 : decode cX11_isStatement 26 = .ok (.ldc 248, 2) := by decide +kernel
theorem dX11_isStatement_28 : decode cX11_isStatement 28 = .ok (.invokevirtual 187, 3) := by decide +kernel
theorem dX11_isStatement_31 : decode cX11_isStatement 31 = .ok (.ifCond .ne 12, 3) := by decide +kernel
theorem dX11_isStatement_34 : decode cX11_isStatement 34 = .ok (.aload_n 0, 1) := by decide +kernel
theorem dX11_isStatement_35 : decode cX11_isStatement 35 = .ok (.ldc 250, 2) := by decide +kernel
theorem dX11_isStatement_37 : decode cX11_isStatement 37 = .ok (.invokevirtual 187, 3) := by decide +kernel
theorem dX11_isStatement_40 : decode cX11_isStatement 40 = .ok (.ifCond .eq 7, 3) := by decide +kernel
theorem dX11_isStatement_43 : decode cX11_isStatement 43 = .ok (.iconst 1, 1) := by decide +kernel
theorem dX11_isStatement_44 : decode cX11_isStatement 44 = .ok (.goto 4, 3) := by decide +kernel
theorem dX11_isStatement_47 : decode cX11_isStatement 47 = .ok (.iconst 0, 1) := by decide +kernel
theorem dX11_isStatement_48 : decode cX11_isStatement 48 = .ok (.ireturn, 1) := by decide +kernel
theorem dX11_braced_0 : decode cX11_braced 0 = .ok (.aload_n 0, 1) := by decide +kernel
theorem dX11_braced_1 : decode cX11_braced 1 = .ok (.bipush 123, 2) := by decide +kernel
theorem dX11_braced_3 : decode cX11_braced 3 = .ok (.invokevirtual 237, 3) := by decide +kernel
theorem dX11_braced_6 : decode cX11_braced 6 = .ok (.aload_n 0, 1) := by decide +kernel
theorem dX11_braced_7 : decode cX11_braced 7 = .ok (.invokevirtual 252, 3) := by decide +kernel
theorem dX11_braced_10 : decode cX11_braced 10 = .ok (.aload_n 0, 1) := by decide +kernel
theorem dX11_braced_11 : decode cX11_braced 11 = .ok (.bipush 125, 2) := by decide +kernel
theorem dX11_braced_13 : decode cX11_braced 13 = .ok (.invokevirtual 243, 3) := by decide +kernel
theorem dX11_braced_16 : decode cX11_braced 16 = .ok (.return_, 1) := by decide +kernel
theorem dX11_statements_0 : decode cX11_statements 0 = .ok (.aload_n 0, 1) := by decide +kernel
theorem dX11_statements_1 : decode cX11_statements 1 = .ok (.getfield 167, 3) := by decide +kernel
theorem dX11_statements_4 : decode cX11_statements 4 = .ok (.ifCond .ne 17, 3) := by decide +kernel
theorem dX11_statements_7 : decode cX11_statements 7 = .ok (.aload_n 0, 1) := by decide +kernel
theorem dX11_statements_8 : decode cX11_statements 8 = .ok (.invokevirtual 255, 3) := by decide +kernel
theorem dX11_statements_11 : decode cX11_statements 11 = .ok (.ifCond .eq 10, 3) := by decide +kernel
theorem dX11_statements_14 : decode cX11_statements 14 = .ok (.aload_n 0, 1) := by decide +kernel
theorem dX11_statements_15 : decode cX11_statements 15 = .ok (.invokevirtual 259, 3) := by decide +kernel
theorem dX11_statements_18 : decode cX11_statements 18 = .ok (.goto (-18), 3) := by decide +kernel
theorem dX11_statements_21 : decode cX11_statements 21 = .ok (.aload_n 0, 1) := by decide +kernel
theorem dX11_statements_22 : decode cX11_statements 22 = .ok (.invokevirtual 170, 3) := by decide +kernel
theorem dX11_statements_25 : decode cX11_statements 25 = .ok (.return_, 1) := by decide +kernel
