theorem dX11_thrown_0 : decode cX11_thrown 0 = .ok (.aload_n 0, 1) := by decide +kernel
theorem dX11_thrown_1 : decode cX11_thrown 1 = .ok (.getfield 1, 3) := by decide +kernel
theorem dX11_thrown_4 : decode cX11_thrown 4 = .ok (.ireturn, 1) := by decide +kernel
theorem dX11_init_0 : decode cX11_init 0 = .ok (.aload_n 0, 1) := by decide +kernel
theorem dX11_init_1 : decode cX11_init 1 = .ok (.invokespecial 7, 3) := by decide +kernel
theorem dX11_init_4 : decode cX11_init 4 = .ok (.aload_n 0, 1) := by decide +kernel
theorem dX11_init_5 : decode cX11_init 5 = .ok (.bipush 8, 2) := by decide +kernel
theorem dX11_init_7 : decode cX11_init 7 = .ok (.newarray .int, 2) := by decide +kernel
theorem dX11_init_9 : decode cX11_init 9 = .ok (.putfield 13, 3) := by decide +kernel
theorem dX11_init_12 : decode cX11_init 12 = .ok (.aload_n 0, 1) := by decide +kernel
theorem dX11_init_13 : decode cX11_init 13 = .ok (.iconst 1, 1) := by decide +kernel
theorem dX11_init_14 : decode cX11_init 14 = .ok (.putfield 17, 3) := by decide +kernel
theorem dX11_init_17 : decode cX11_init 17 = .ok (.aload_n 0, 1) := by decide +kernel
theorem dX11_init_18 : decode cX11_init 18 = .ok (.bipush 100, 2) := by decide +kernel
theorem dX11_init_20 : decode cX11_init 20 = .ok (.putfield 20, 3) := by decide +kernel
theorem dX11_init_23 : decode cX11_init 23 = .ok (.aload_n 0, 1) := by decide +kernel
theorem dX11_init_24 : decode cX11_init 24 = .ok (.bipush 65, 2) := by decide +kernel
theorem dX11_init_26 : decode cX11_init 26 = .ok (.newarray .int, 2) := by decide +kernel
theorem dX11_init_28 : decode cX11_init 28 = .ok (.putfield 23, 3) := by decide +kernel
theorem dX11_init_31 : decode cX11_init 31 = .ok (.aload_n 0, 1) := by decide +kernel
theorem dX11_init_32 : decode cX11_init 32 = .ok (.sipush 20000, 3) := by decide +kernel
theorem dX11_init_35 : decode cX11_init 35 = .ok (.newarray .byte, 2) := by decide +kernel
theorem dX11_init_37 : decode cX11_init 37 = .ok (.putfield 26, 3) := by decide +kernel
theorem dX11_init_40 : decode cX11_init 40 = .ok (.aload_n 0, 1) := by decide +kernel
theorem dX11_init_41 : decode cX11_init 41 = .ok (.iconst 1, 1) := by decide +kernel
theorem dX11_init_42 : decode cX11_init 42 = .ok (.putfield 30, 3) := by decide +kernel
theorem dX11_init_45 : decode cX11_init 45 = .ok (.aload_n 0, 1) := by decide +kernel
theorem dX11_init_46 : decode cX11_init 46 = .ok (.bipush 10, 2) := by decide +kernel
theorem dX11_init_48 : decode cX11_init 48 = .ok (.putfield 33, 3) := by decide +kernel
theorem dX11_init_51 : decode cX11_init 51 = .ok (.aload_n 0, 1) := by decide +kernel
theorem dX11_init_52 : decode cX11_init 52 = .ok (.bipush 11, 2) := by decide +kernel
theorem dX11_init_54 : decode cX11_init 54 = .ok (.putfield 36, 3) := by decide +kernel
theorem dX11_init_57 : decode cX11_init 57 = .ok (.aload_n 0, 1) := by decide +kernel
theorem dX11_init_58 : decode cX11_init 58 = .ok (.bipush 10, 2) := by decide +kernel
theorem dX11_init_60 : decode cX11_init 60 = .ok (.putfield 39, 3) := by decide +kernel
theorem dX11_init_63 : decode cX11_init 63 = .ok (.aload_n 0, 1) := by decide +kernel
theorem dX11_init_64 : decode cX11_init 64 = .ok (.bipush 20, 2) := by decide +kernel
theorem dX11_init_66 : decode cX11_init 66 = .ok (.newarray .int, 2) := by decide +kernel
theorem dX11_init_68 : decode cX11_init 68 = .ok (.putfield 42, 3) := by decide +kernel
theorem dX11_init_71 : decode cX11_init 71 = .ok (.aload_n 0, 1) := by decide +kernel
theorem dX11_init_72 : decode cX11_init 72 = .ok (.sipush 4000, 3) := by decide +kernel
theorem dX11_init_75 : decode cX11_init 75 = .ok (.newarray .byte, 2) := by decide +kernel
theorem dX11_init_77 : decode cX11_init 77 = .ok (.putfield 45, 3) := by decide +kernel
theorem dX11_init_80 : decode cX11_init 80 = .ok (.aload_n 0, 1) := by decide +kernel
theorem dX11_init_81 : decode cX11_init 81 = .ok (.bipush 8, 2) := by decide +kernel
theorem dX11_init_83 : decode cX11_init 83 = .ok (.newarray .boolean, 2) := by decide +kernel
theorem dX11_init_85 : decode cX11_init 85 = .ok (.putfield 48, 3) := by decide +kernel
theorem dX11_init_88 : decode cX11_init 88 = .ok (.aload_n 0, 1) := by decide +kernel
theorem dX11_init_89 : decode cX11_init 89 = .ok (.bipush 16, 2) := by decide +kernel
theorem dX11_init_91 : decode cX11_init 91 = .ok (.newarray .int, 2) := by decide +kernel
theorem dX11_init_93 : decode cX11_init 93 = .ok (.putfield 52, 3) := by decide +kernel
theorem dX11_init_96 : decode cX11_init 96 = .ok (.aload_n 0, 1) := by decide +kernel
theorem dX11_init_97 : decode cX11_init 97 = .ok (.bipush 16, 2) := by decide +kernel
theorem dX11_init_99 : decode cX11_init 99 = .ok (.newarray .int, 2) := by decide +kernel
theorem dX11_init_101 : decode cX11_init 101 = .ok (.putfield 55, 3) := by decide +kernel
theorem dX11_init_104 : decode cX11_init 104 = .ok (.aload_n 0, 1) := by decide +kernel
theorem dX11_init_105 : decode cX11_init 105 = .ok (.bipush 16, 2) := by decide +kernel
theorem dX11_init_107 : decode cX11_init 107 = .ok (.newarray .int, 2) := by decide +kernel
theorem dX11_init_109 : decode cX11_init 109 = .ok (.putfield 58, 3) := by decide +kernel
theorem dX11_init_112 : decode cX11_init 112 = .ok (.aload_n 0, 1) := by decide +kernel
theorem dX11_init_113 : decode cX11_init 113 = .ok (.bipush 8, 2) := by decide +kernel
theorem dX11_init_115 : decode cX11_init 115 = .ok (.newarray .int, 2) := by decide +kernel
theorem dX11_init_117 : decode cX11_init 117 = .ok (.putfield 61, 3) := by decide +kernel
theorem dX11_init_120 : decode cX11_init 120 = .ok (.aload_n 0, 1) := by decide +kernel
theorem dX11_init_121 : decode cX11_init 121 = .ok (.sipush 20000, 3) := by decide +kernel
theorem dX11_init_124 : decode cX11_init 124 = .ok (.newarray .byte, 2) := by decide +kernel
theorem dX11_init_126 : decode cX11_init 126 = .ok (.putfield 64, 3) := by decide +kernel
theorem dX11_init_129 : decode cX11_init 129 = .ok (.aload_n 0, 1) := by decide +kernel
theorem dX11_init_130 : decode cX11_init 130 = .ok (.sipush 20000, 3) := by decide +kernel
theorem dX11_init_133 : decode cX11_init 133 = .ok (.newarray .int, 2) := by decide +kernel
theorem dX11_init_135 : decode cX11_init 135 = .ok (.putfield 67, 3) := by decide +kernel
theorem dX11_init_138 : decode cX11_init 138 = .ok (.aload_n 0, 1) := by decide +kernel
theorem dX11_init_139 : decode cX11_init 139 = .ok (.iconst (-1), 1) := by decide +kernel
theorem dX11_init_140 : decode cX11_init 140 = .ok (.putfield 70, 3) := by decide +kernel
theorem dX11_init_143 : decode cX11_init 143 = .ok (.aload_n 0, 1) := by decide +kernel
theorem dX11_init_144 : decode cX11_init 144 = .ok (.bipush 8, 2) := by decide +kernel
theorem dX11_init_146 : decode cX11_init 146 = .ok (.newarray .int, 2) := by decide +kernel
theorem dX11_init_148 : decode cX11_init 148 = .ok (.putfield 73, 3) := by decide +kernel
theorem dX11_init_151 : decode cX11_init 151 = .ok (.aload_n 0, 1) := by decide +kernel
theorem dX11_init_152 : decode cX11_init 152 = .ok (.sipush 10800, 3) := by decide +kernel
theorem dX11_init_155 : decode cX11_init 155 = .ok (.newarray .int, 2) := by decide +kernel
theorem dX11_init_157 : decode cX11_init 157 = .ok (.putfield 76, 3) := by decide +kernel
theorem dX11_init_160 : decode cX11_init 160 = .ok (.aload_n 0, 1) := by decide +kernel
theorem dX11_init_161 : decode cX11_init 161 = .ok (.bipush 9, 2) := by decide +kernel
theorem dX11_init_163 : decode cX11_init 163 = .ok (.newarray .int, 2) := by decide +kernel
theorem dX11_init_165 : decode cX11_init 165 = .ok (.putfield 79, 3) := by decide +kernel
theorem dX11_init_168 : decode cX11_init 168 = .ok (.aload_n 0, 1) := by decide +kernel
theorem dX11_init_169 : decode cX11_init 169 = .ok (.ldc 82, 2) := by decide +kernel
theorem dX11_init_171 : decode cX11_init 171 = .ok (.newarray .int, 2) := by decide +kernel
theorem dX11_init_173 : decode cX11_init 173 = .ok (.putfield 83, 3) := by decide +kernel
theorem dX11_init_176 : decode cX11_init 176 = .ok (.aload_n 0, 1) := by decide +kernel
theorem dX11_init_177 : decode cX11_init 177 = .ok (.ldc 82, 2) := by decide +kernel
theorem dX11_init_179 : decode cX11_init 179 = .ok (.newarray .int, 2) := by decide +kernel
theorem dX11_init_181 : decode cX11_init 181 = .ok (.putfield 86, 3) := by decide +kernel
theorem dX11_init_184 : decode cX11_init 184 = .ok (.aload_n 0, 1) := by decide +kernel
theorem dX11_init_185 : decode cX11_init 185 = .ok (.bipush 64, 2) := by decide +kernel
theorem dX11_init_187 : decode cX11_init 187 = .ok (.newarray .int, 2) := by decide +kernel
theorem dX11_init_189 : decode cX11_init 189 = .ok (.dup, 1) := by decide +kernel
theorem dX11_init_190 : decode cX11_init 190 = .ok (.iconst 0, 1) := by decide +kernel
theorem dX11_init_191 : decode cX11_init 191 = .ok (.ldc 89, 2) := by decide +kernel
theorem dX11_init_193 : decode cX11_init 193 = .ok (.iastore, 1) := by decide +kernel
theorem dX11_init_194 : decode cX11_init 194 = .ok (.dup, 1) := by decide +kernel
theorem dX11_init_195 : decode cX11_init 195 = .ok (.iconst 1, 1) := by decide +kernel
theorem dX11_init_196 : decode cX11_init 196 = .ok (.ldc 90, 2) := by decide +kernel
theorem dX11_init_198 : decode cX11_init 198 = .ok (.iastore, 1) := by decide +kernel
theorem dX11_init_199 : decode cX11_init 199 = .ok (.dup, 1) := by decide +kernel
theorem dX11_init_200 : decode cX11_init 200 = .ok (.iconst 2, 1) := by decide +kernel
theorem dX11_init_201 : decode cX11_init 201 = .ok (.ldc 91, 2) := by decide +kernel
theorem dX11_init_203 : decode cX11_init 203 = .ok (.iastore, 1) := by decide +kernel
theorem dX11_init_204 : decode cX11_init 204 = .ok (.dup, 1) := by decide +kernel
theorem dX11_init_205 : decode cX11_init 205 = .ok (.iconst 3, 1) := by decide +kernel
theorem dX11_init_206 : decode cX11_init 206 = .ok (.ldc 92, 2) := by decide +kernel
theorem dX11_init_208 : decode cX11_init 208 = .ok (.iastore, 1) := by decide +kernel
theorem dX11_init_209 : decode cX11_init 209 = .ok (.dup, 1) := by decide +kernel
theorem dX11_init_210 : decode cX11_init 210 = .ok (.iconst 4, 1) := by decide +kernel
theorem dX11_init_211 : decode cX11_init 211 = .ok (.ldc 93, 2) := by decide +kernel
theorem dX11_init_213 : decode cX11_init 213 = .ok (.iastore, 1) := by decide +kernel
theorem dX11_init_214 : decode cX11_init 214 = .ok (.dup, 1) := by decide +kernel
theorem dX11_init_215 : decode cX11_init 215 = .ok (.iconst 5, 1) := by decide +kernel
theorem dX11_init_216 : decode cX11_init 216 = .ok (.ldc 94, 2) := by decide +kernel
theorem dX11_init_218 : decode cX11_init 218 = .ok (.iastore, 1) := by decide +kernel
theorem dX11_init_219 : decode cX11_init 219 = .ok (.dup, 1) := by decide +kernel
theorem dX11_init_220 : decode cX11_init 220 = .ok (.bipush 6, 2) := by decide +kernel
theorem dX11_init_222 : decode cX11_init 222 = .ok (.ldc 95, 2) := by decide +kernel
theorem dX11_init_224 : decode cX11_init 224 = .ok (.iastore, 1) := by decide +kernel
theorem dX11_init_225 : decode cX11_init 225 = .ok (.dup, 1) := by decide +kernel
theorem dX11_init_226 : decode cX11_init 226 = .ok (.bipush 7, 2) := by decide +kernel
theorem dX11_init_228 : decode cX11_init 228 = .ok (.ldc 96, 2) := by decide +kernel
theorem dX11_init_230 : decode cX11_init 230 = .ok (.iastore, 1) := by decide +kernel
theorem dX11_init_231 : decode cX11_init 231 = .ok (.dup, 1) := by decide +kernel
theorem dX11_init_232 : decode cX11_init 232 = .ok (.bipush 8, 2) := by decide +kernel
theorem dX11_init_234 : decode cX11_init 234 = .ok (.ldc 97, 2) := by decide +kernel
theorem dX11_init_236 : decode cX11_init 236 = .ok (.iastore, 1) := by decide +kernel
theorem dX11_init_237 : decode cX11_init 237 = .ok (.dup, 1) := by decide +kernel
theorem dX11_init_238 : decode cX11_init 238 = .ok (.bipush 9, 2) := by decide +kernel
theorem dX11_init_240 : decode cX11_init 240 = .ok (.ldc 98, 2) := by decide +kernel
theorem dX11_init_242 : decode cX11_init 242 = .ok (.iastore, 1) := by decide +kernel
theorem dX11_init_243 : decode cX11_init 243 = .ok (.dup, 1) := by decide +kernel
theorem dX11_init_244 : decode cX11_init 244 = .ok (.bipush 10, 2) := by decide +kernel
theorem dX11_init_246 : decode cX11_init 246 = .ok (.ldc 99, 2) := by decide +kernel
theorem dX11_init_248 : decode cX11_init 248 = .ok (.iastore, 1) := by decide +kernel
theorem dX11_init_249 : decode cX11_init 249 = .ok (.dup, 1) := by decide +kernel
theorem dX11_init_250 : decode cX11_init 250 = .ok (.bipush 11, 2) := by decide +kernel
theorem dX11_init_252 : decode cX11_init 252 = .ok (.ldc 100, 2) := by decide +kernel
theorem dX11_init_254 : decode cX11_init 254 = .ok (.iastore, 1) := by decide +kernel
theorem dX11_init_255 : decode cX11_init 255 = .ok (.dup, 1) := by decide +kernel
theorem dX11_init_256 : decode cX11_init 256 = .ok (.bipush 12, 2) := by decide +kernel
theorem dX11_init_258 : decode cX11_init 258 = .ok (.ldc 101, 2) := by decide +kernel
theorem dX11_init_260 : decode cX11_init 260 = .ok (.iastore, 1) := by decide +kernel
theorem dX11_init_261 : decode cX11_init 261 = .ok (.dup, 1) := by decide +kernel
theorem dX11_init_262 : decode cX11_init 262 = .ok (.bipush 13, 2) := by decide +kernel
theorem dX11_init_264 : decode cX11_init 264 = .ok (.ldc 102, 2) := by decide +kernel
theorem dX11_init_266 : decode cX11_init 266 = .ok (.iastore, 1) := by decide +kernel
theorem dX11_init_267 : decode cX11_init 267 = .ok (.dup, 1) := by decide +kernel
theorem dX11_init_268 : decode cX11_init 268 = .ok (.bipush 14, 2) := by decide +kernel
theorem dX11_init_270 : decode cX11_init 270 = .ok (.ldc 103, 2) := by decide +kernel
theorem dX11_init_272 : decode cX11_init 272 = .ok (.iastore, 1) := by decide +kernel
theorem dX11_init_273 : decode cX11_init 273 = .ok (.dup, 1) := by decide +kernel
theorem dX11_init_274 : decode cX11_init 274 = .ok (.bipush 15, 2) := by decide +kernel
theorem dX11_init_276 : decode cX11_init 276 = .ok (.ldc 104, 2) := by decide +kernel
theorem dX11_init_278 : decode cX11_init 278 = .ok (.iastore, 1) := by decide +kernel
theorem dX11_init_279 : decode cX11_init 279 = .ok (.dup, 1) := by decide +kernel
theorem dX11_init_280 : decode cX11_init 280 = .ok (.bipush 16, 2) := by decide +kernel
theorem dX11_init_282 : decode cX11_init 282 = .ok (.ldc 105, 2) := by decide +kernel
theorem dX11_init_284 : decode cX11_init 284 = .ok (.iastore, 1) := by decide +kernel
theorem dX11_init_285 : decode cX11_init 285 = .ok (.dup, 1) := by decide +kernel
theorem dX11_init_286 : decode cX11_init 286 = .ok (.bipush 17, 2) := by decide +kernel
theorem dX11_init_288 : decode cX11_init 288 = .ok (.ldc 106, 2) := by decide +kernel
theorem dX11_init_290 : decode cX11_init 290 = .ok (.iastore, 1) := by decide +kernel
theorem dX11_init_291 : decode cX11_init 291 = .ok (.dup, 1) := by decide +kernel
theorem dX11_init_292 : decode cX11_init 292 = .ok (.bipush 18, 2) := by decide +kernel
theorem dX11_init_294 : decode cX11_init 294 = .ok (.ldc 107, 2) := by decide +kernel
theorem dX11_init_296 : decode cX11_init 296 = .ok (.iastore, 1) := by decide +kernel
theorem dX11_init_297 : decode cX11_init 297 = .ok (.dup, 1) := by decide +kernel
theorem dX11_init_298 : decode cX11_init 298 = .ok (.bipush 19, 2) := by decide +kernel
theorem dX11_init_300 : decode cX11_init 300 = .ok (.ldc 108, 2) := by decide +kernel
theorem dX11_init_302 : decode cX11_init 302 = .ok (.iastore, 1) := by decide +kernel
theorem dX11_init_303 : decode cX11_init 303 = .ok (.dup, 1) := by decide +kernel
theorem dX11_init_304 : decode cX11_init 304 = .ok (.bipush 20, 2) := by decide +kernel
theorem dX11_init_306 : decode cX11_init 306 = .ok (.ldc 109, 2) := by decide +kernel
theorem dX11_init_308 : decode cX11_init 308 = .ok (.iastore, 1) := by decide +kernel
theorem dX11_init_309 : decode cX11_init 309 = .ok (.dup, 1) := by decide +kernel
theorem dX11_init_310 : decode cX11_init 310 = .ok (.bipush 21, 2) := by decide +kernel
theorem dX11_init_312 : decode cX11_init 312 = .ok (.ldc 110, 2) := by decide +kernel
theorem dX11_init_314 : decode cX11_init 314 = .ok (.iastore, 1) := by decide +kernel
theorem dX11_init_315 : decode cX11_init 315 = .ok (.dup, 1) := by decide +kernel
theorem dX11_init_316 : decode cX11_init 316 = .ok (.bipush 22, 2) := by decide +kernel
theorem dX11_init_318 : decode cX11_init 318 = .ok (.ldc 111, 2) := by decide +kernel
theorem dX11_init_320 : decode cX11_init 320 = .ok (.iastore, 1) := by decide +kernel
theorem dX11_init_321 : decode cX11_init 321 = .ok (.dup, 1) := by decide +kernel
theorem dX11_init_322 : decode cX11_init 322 = .ok (.bipush 23, 2) := by decide +kernel
theorem dX11_init_324 : decode cX11_init 324 = .ok (.ldc 112, 2) := by decide +kernel
theorem dX11_init_326 : decode cX11_init 326 = .ok (.iastore, 1) := by decide +kernel
theorem dX11_init_327 : decode cX11_init 327 = .ok (.dup, 1) := by decide +kernel
theorem dX11_init_328 : decode cX11_init 328 = .ok (.bipush 24, 2) := by decide +kernel
theorem dX11_init_330 : decode cX11_init 330 = .ok (.ldc 113, 2) := by decide +kernel
theorem dX11_init_332 : decode cX11_init 332 = .ok (.iastore, 1) := by decide +kernel
theorem dX11_init_333 : decode cX11_init 333 = .ok (.dup, 1) := by decide +kernel
theorem dX11_init_334 : decode cX11_init 334 = .ok (.bipush 25, 2) := by decide +kernel
theorem dX11_init_336 : decode cX11_init 336 = .ok (.ldc 114, 2) := by decide +kernel
theorem dX11_init_338 : decode cX11_init 338 = .ok (.iastore, 1) := by decide +kernel
theorem dX11_init_339 : decode cX11_init 339 = .ok (.dup, 1) := by decide +kernel
theorem dX11_init_340 : decode cX11_init 340 = .ok (.bipush 26, 2) := by decide +kernel
theorem dX11_init_342 : decode cX11_init 342 = .ok (.ldc 115, 2) := by decide +kernel
theorem dX11_init_344 : decode cX11_init 344 = .ok (.iastore, 1) := by decide +kernel
theorem dX11_init_345 : decode cX11_init 345 = .ok (.dup, 1) := by decide +kernel
theorem dX11_init_346 : decode cX11_init 346 = .ok (.bipush 27, 2) := by decide +kernel
theorem dX11_init_348 : decode cX11_init 348 = .ok (.ldc 116, 2) := by decide +kernel
theorem dX11_init_350 : decode cX11_init 350 = .ok (.iastore, 1) := by decide +kernel
theorem dX11_init_351 : decode cX11_init 351 = .ok (.dup, 1) := by decide +kernel
theorem dX11_init_352 : decode cX11_init 352 = .ok (.bipush 28, 2) := by decide +kernel
theorem dX11_init_354 : decode cX11_init 354 = .ok (.ldc 117, 2) := by decide +kernel
theorem dX11_init_356 : decode cX11_init 356 = .ok (.iastore, 1) := by decide +kernel
theorem dX11_init_357 : decode cX11_init 357 = .ok (.dup, 1) := by decide +kernel
theorem dX11_init_358 : decode cX11_init 358 = .ok (.bipush 29, 2) := by decide +kernel
theorem dX11_init_360 : decode cX11_init 360 = .ok (.ldc 118, 2) := by decide +kernel
theorem dX11_init_362 : decode cX11_init 362 = .ok (.iastore, 1) := by decide +kernel
theorem dX11_init_363 : decode cX11_init 363 = .ok (.dup, 1) := by decide +kernel
theorem dX11_init_364 : decode cX11_init 364 = .ok (.bipush 30, 2) := by decide +kernel
theorem dX11_init_366 : decode cX11_init 366 = .ok (.ldc 119, 2) := by decide +kernel
theorem dX11_init_368 : decode cX11_init 368 = .ok (.iastore, 1) := by decide +kernel
theorem dX11_init_369 : decode cX11_init 369 = .ok (.dup, 1) := by decide +kernel
theorem dX11_init_370 : decode cX11_init 370 = .ok (.bipush 31, 2) := by decide +kernel
theorem dX11_init_372 : decode cX11_init 372 = .ok (.ldc 120, 2) := by decide +kernel
theorem dX11_init_374 : decode cX11_init 374 = .ok (.iastore, 1) := by decide +kernel
theorem dX11_init_375 : decode cX11_init 375 = .ok (.dup, 1) := by decide +kernel
theorem dX11_init_376 : decode cX11_init 376 = .ok (.bipush 32, 2) := by decide +kernel
theorem dX11_init_378 : decode cX11_init 378 = .ok (.ldc 121, 2) := by decide +kernel
theorem dX11_init_380 : decode cX11_init 380 = .ok (.iastore, 1) := by decide +kernel
theorem dX11_init_381 : decode cX11_init 381 = .ok (.dup, 1) := by decide +kernel
theorem dX11_init_382 : decode cX11_init 382 = .ok (.bipush 33, 2) := by decide +kernel
theorem dX11_init_384 : decode cX11_init 384 = .ok (.ldc 122, 2) := by decide +kernel
theorem dX11_init_386 : decode cX11_init 386 = .ok (.iastore, 1) := by decide +kernel
theorem dX11_init_387 : decode cX11_init 387 = .ok (.dup, 1) := by decide +kernel
theorem dX11_init_388 : decode cX11_init 388 = .ok (.bipush 34, 2) := by decide +kernel
theorem dX11_init_390 : decode cX11_init 390 = .ok (.ldc 123, 2) := by decide +kernel
theorem dX11_init_392 : decode cX11_init 392 = .ok (.iastore, 1) := by decide +kernel
theorem dX11_init_393 : decode cX11_init 393 = .ok (.dup, 1) := by decide +kernel
theorem dX11_init_394 : decode cX11_init 394 = .ok (.bipush 35, 2) := by decide +kernel
theorem dX11_init_396 : decode cX11_init 396 = .ok (.ldc 124, 2) := by decide +kernel
theorem dX11_init_398 : decode cX11_init 398 = .ok (.iastore, 1) := by decide +kernel
theorem dX11_init_399 : decode cX11_init 399 = .ok (.dup, 1) := by decide +kernel
theorem dX11_init_400 : decode cX11_init 400 = .ok (.bipush 36, 2) := by decide +kernel
theorem dX11_init_402 : decode cX11_init 402 = .ok (.ldc 125, 2) := by decide +kernel
theorem dX11_init_404 : decode cX11_init 404 = .ok (.iastore, 1) := by decide +kernel
theorem dX11_init_405 : decode cX11_init 405 = .ok (.dup, 1) := by decide +kernel
theorem dX11_init_406 : decode cX11_init 406 = .ok (.bipush 37, 2) := by decide +kernel
theorem dX11_init_408 : decode cX11_init 408 = .ok (.ldc 126, 2) := by decide +kernel
theorem dX11_init_410 : decode cX11_init 410 = .ok (.iastore, 1) := by decide +kernel
theorem dX11_init_411 : decode cX11_init 411 = .ok (.dup, 1) := by decide +kernel
theorem dX11_init_412 : decode cX11_init 412 = .ok (.bipush 38, 2) := by decide +kernel
theorem dX11_init_414 : decode cX11_init 414 = .ok (.ldc 127, 2) := by decide +kernel
theorem dX11_init_416 : decode cX11_init 416 = .ok (.iastore, 1) := by decide +kernel
theorem dX11_init_417 : decode cX11_init 417 = .ok (.dup, 1) := by decide +kernel
theorem dX11_init_418 : decode cX11_init 418 = .ok (.bipush 39, 2) := by decide +kernel
theorem dX11_init_420 : decode cX11_init 420 = .ok (.ldc 128, 2) := by decide +kernel
theorem dX11_init_422 : decode cX11_init 422 = .ok (.iastore, 1) := by decide +kernel
theorem dX11_init_423 : decode cX11_init 423 = .ok (.dup, 1) := by decide +kernel
theorem dX11_init_424 : decode cX11_init 424 = .ok (.bipush 40, 2) := by decide +kernel
theorem dX11_init_426 : decode cX11_init 426 = .ok (.ldc 129, 2) := by decide +kernel
theorem dX11_init_428 : decode cX11_init 428 = .ok (.iastore, 1) := by decide +kernel
theorem dX11_init_429 : decode cX11_init 429 = .ok (.dup, 1) := by decide +kernel
theorem dX11_init_430 : decode cX11_init 430 = .ok (.bipush 41, 2) := by decide +kernel
theorem dX11_init_432 : decode cX11_init 432 = .ok (.ldc 130, 2) := by decide +kernel
theorem dX11_init_434 : decode cX11_init 434 = .ok (.iastore, 1) := by decide +kernel
theorem dX11_init_435 : decode cX11_init 435 = .ok (.dup, 1) := by decide +kernel
theorem dX11_init_436 : decode cX11_init 436 = .ok (.bipush 42, 2) := by decide +kernel
theorem dX11_init_438 : decode cX11_init 438 = .ok (.ldc 131, 2) := by decide +kernel
theorem dX11_init_440 : decode cX11_init 440 = .ok (.iastore, 1) := by decide +kernel
theorem dX11_init_441 : decode cX11_init 441 = .ok (.dup, 1) := by decide +kernel
theorem dX11_init_442 : decode cX11_init 442 = .ok (.bipush 43, 2) := by decide +kernel
theorem dX11_init_444 : decode cX11_init 444 = .ok (.ldc 132, 2) := by decide +kernel
theorem dX11_init_446 : decode cX11_init 446 = .ok (.iastore, 1) := by decide +kernel
theorem dX11_init_447 : decode cX11_init 447 = .ok (.dup, 1) := by decide +kernel
theorem dX11_init_448 : decode cX11_init 448 = .ok (.bipush 44, 2) := by decide +kernel
theorem dX11_init_450 : decode cX11_init 450 = .ok (.ldc 133, 2) := by decide +kernel
theorem dX11_init_452 : decode cX11_init 452 = .ok (.iastore, 1) := by decide +kernel
theorem dX11_init_453 : decode cX11_init 453 = .ok (.dup, 1) := by decide +kernel
theorem dX11_init_454 : decode cX11_init 454 = .ok (.bipush 45, 2) := by decide +kernel
theorem dX11_init_456 : decode cX11_init 456 = .ok (.ldc 134, 2) := by decide +kernel
theorem dX11_init_458 : decode cX11_init 458 = .ok (.iastore, 1) := by decide +kernel
theorem dX11_init_459 : decode cX11_init 459 = .ok (.dup, 1) := by decide +kernel
theorem dX11_init_460 : decode cX11_init 460 = .ok (.bipush 46, 2) := by decide +kernel
theorem dX11_init_462 : decode cX11_init 462 = .ok (.ldc 135, 2) := by decide +kernel
theorem dX11_init_464 : decode cX11_init 464 = .ok (.iastore, 1) := by decide +kernel
theorem dX11_init_465 : decode cX11_init 465 = .ok (.dup, 1) := by decide +kernel
theorem dX11_init_466 : decode cX11_init 466 = .ok (.bipush 47, 2) := by decide +kernel
theorem dX11_init_468 : decode cX11_init 468 = .ok (.ldc 136, 2) := by decide +kernel
theorem dX11_init_470 : decode cX11_init 470 = .ok (.iastore, 1) := by decide +kernel
theorem dX11_init_471 : decode cX11_init 471 = .ok (.dup, 1) := by decide +kernel
theorem dX11_init_472 : decode cX11_init 472 = .ok (.bipush 48, 2) := by decide +kernel
theorem dX11_init_474 : decode cX11_init 474 = .ok (.ldc 137, 2) := by decide +kernel
theorem dX11_init_476 : decode cX11_init 476 = .ok (.iastore, 1) := by decide +kernel
theorem dX11_init_477 : decode cX11_init 477 = .ok (.dup, 1) := by decide +kernel
theorem dX11_init_478 : decode cX11_init 478 = .ok (.bipush 49, 2) := by decide +kernel
theorem dX11_init_480 : decode cX11_init 480 = .ok (.ldc 138, 2) := by decide +kernel
theorem dX11_init_482 : decode cX11_init 482 = .ok (.iastore, 1) := by decide +kernel
theorem dX11_init_483 : decode cX11_init 483 = .ok (.dup, 1) := by decide +kernel
theorem dX11_init_484 : decode cX11_init 484 = .ok (.bipush 50, 2) := by decide +kernel
theorem dX11_init_486 : decode cX11_init 486 = .ok (.ldc 139, 2) := by decide +kernel
theorem dX11_init_488 : decode cX11_init 488 = .ok (.iastore, 1) := by decide +kernel
theorem dX11_init_489 : decode cX11_init 489 = .ok (.dup, 1) := by decide +kernel
theorem dX11_init_490 : decode cX11_init 490 = .ok (.bipush 51, 2) := by decide +kernel
theorem dX11_init_492 : decode cX11_init 492 = .ok (.ldc 140, 2) := by decide +kernel
theorem dX11_init_494 : decode cX11_init 494 = .ok (.iastore, 1) := by decide +kernel
theorem dX11_init_495 : decode cX11_init 495 = .ok (.dup, 1) := by decide +kernel
theorem dX11_init_496 : decode cX11_init 496 = .ok (.bipush 52, 2) := by decide +kernel
theorem dX11_init_498 : decode cX11_init 498 = .ok (.ldc 141, 2) := by decide +kernel
theorem dX11_init_500 : decode cX11_init 500 = .ok (.iastore, 1) := by decide +kernel
theorem dX11_init_501 : decode cX11_init 501 = .ok (.dup, 1) := by decide +kernel
theorem dX11_init_502 : decode cX11_init 502 = .ok (.bipush 53, 2) := by decide +kernel
theorem dX11_init_504 : decode cX11_init 504 = .ok (.ldc 142, 2) := by decide +kernel
theorem dX11_init_506 : decode cX11_init 506 = .ok (.iastore, 1) := by decide +kernel
theorem dX11_init_507 : decode cX11_init 507 = .ok (.dup, 1) := by decide +kernel
theorem dX11_init_508 : decode cX11_init 508 = .ok (.bipush 54, 2) := by decide +kernel
theorem dX11_init_510 : decode cX11_init 510 = .ok (.ldc 143, 2) := by decide +kernel
theorem dX11_init_512 : decode cX11_init 512 = .ok (.iastore, 1) := by decide +kernel
theorem dX11_init_513 : decode cX11_init 513 = .ok (.dup, 1) := by decide +kernel
theorem dX11_init_514 : decode cX11_init 514 = .ok (.bipush 55, 2) := by decide +kernel
theorem dX11_init_516 : decode cX11_init 516 = .ok (.ldc 144, 2) := by decide +kernel
theorem dX11_init_518 : decode cX11_init 518 = .ok (.iastore, 1) := by decide +kernel
theorem dX11_init_519 : decode cX11_init 519 = .ok (.dup, 1) := by decide +kernel
theorem dX11_init_520 : decode cX11_init 520 = .ok (.bipush 56, 2) := by decide +kernel
theorem dX11_init_522 : decode cX11_init 522 = .ok (.ldc 145, 2) := by decide +kernel
theorem dX11_init_524 : decode cX11_init 524 = .ok (.iastore, 1) := by decide +kernel
theorem dX11_init_525 : decode cX11_init 525 = .ok (.dup, 1) := by decide +kernel
theorem dX11_init_526 : decode cX11_init 526 = .ok (.bipush 57, 2) := by decide +kernel
theorem dX11_init_528 : decode cX11_init 528 = .ok (.ldc 146, 2) := by decide +kernel
theorem dX11_init_530 : decode cX11_init 530 = .ok (.iastore, 1) := by decide +kernel
theorem dX11_init_531 : decode cX11_init 531 = .ok (.dup, 1) := by decide +kernel
theorem dX11_init_532 : decode cX11_init 532 = .ok (.bipush 58, 2) := by decide +kernel
theorem dX11_init_534 : decode cX11_init 534 = .ok (.ldc 147, 2) := by decide +kernel
theorem dX11_init_536 : decode cX11_init 536 = .ok (.iastore, 1) := by decide +kernel
theorem dX11_init_537 : decode cX11_init 537 = .ok (.dup, 1) := by decide +kernel
theorem dX11_init_538 : decode cX11_init 538 = .ok (.bipush 59, 2) := by decide +kernel
theorem dX11_init_540 : decode cX11_init 540 = .ok (.ldc 148, 2) := by decide +kernel
theorem dX11_init_542 : decode cX11_init 542 = .ok (.iastore, 1) := by decide +kernel
theorem dX11_init_543 : decode cX11_init 543 = .ok (.dup, 1) := by decide +kernel
theorem dX11_init_544 : decode cX11_init 544 = .ok (.bipush 60, 2) := by decide +kernel
theorem dX11_init_546 : decode cX11_init 546 = .ok (.ldc 149, 2) := by decide +kernel
theorem dX11_init_548 : decode cX11_init 548 = .ok (.iastore, 1) := by decide +kernel
theorem dX11_init_549 : decode cX11_init 549 = .ok (.dup, 1) := by decide +kernel
theorem dX11_init_550 : decode cX11_init 550 = .ok (.bipush 61, 2) := by decide +kernel
theorem dX11_init_552 : decode cX11_init 552 = .ok (.ldc 150, 2) := by decide +kernel
theorem dX11_init_554 : decode cX11_init 554 = .ok (.iastore, 1) := by decide +kernel
theorem dX11_init_555 : decode cX11_init 555 = .ok (.dup, 1) := by decide +kernel
theorem dX11_init_556 : decode cX11_init 556 = .ok (.bipush 62, 2) := by decide +kernel
theorem dX11_init_558 : decode cX11_init 558 = .ok (.ldc 151, 2) := by decide +kernel
theorem dX11_init_560 : decode cX11_init 560 = .ok (.iastore, 1) := by decide +kernel
theorem dX11_init_561 : decode cX11_init 561 = .ok (.dup, 1) := by decide +kernel
theorem dX11_init_562 : decode cX11_init 562 = .ok (.bipush 63, 2) := by decide +kernel
theorem dX11_init_564 : decode cX11_init 564 = .ok (.ldc 152, 2) := by decide +kernel
theorem dX11_init_566 : decode cX11_init 566 = .ok (.iastore, 1) := by decide +kernel
theorem dX11_init_567 : decode cX11_init 567 = .ok (.putfield 153, 3) := by decide +kernel
theorem dX11_init_570 : decode cX11_init 570 = .ok (.aload_n 0, 1) := by decide +kernel
theorem dX11_init_571 : decode cX11_init 571 = .ok (.bipush 8, 2) := by decide +kernel
theorem dX11_init_573 : decode cX11_init 573 = .ok (.newarray .int, 2) := by decide +kernel
theorem dX11_init_575 : decode cX11_init 575 = .ok (.dup, 1) := by decide +kernel
theorem dX11_init_576 : decode cX11_init 576 = .ok (.iconst 0, 1) := by decide +kernel
theorem dX11_init_577 : decode cX11_init 577 = .ok (.ldc 156, 2) := by decide +kernel
theorem dX11_init_579 : decode cX11_init 579 = .ok (.iastore, 1) := by decide +kernel
theorem dX11_init_580 : decode cX11_init 580 = .ok (.dup, 1) := by decide +kernel
theorem dX11_init_581 : decode cX11_init 581 = .ok (.iconst 1, 1) := by decide +kernel
theorem dX11_init_582 : decode cX11_init 582 = .ok (.ldc 157, 2) := by decide +kernel
theorem dX11_init_584 : decode cX11_init 584 = .ok (.iastore, 1) := by decide +kernel
theorem dX11_init_585 : decode cX11_init 585 = .ok (.dup, 1) := by decide +kernel
theorem dX11_init_586 : decode cX11_init 586 = .ok (.iconst 2, 1) := by decide +kernel
theorem dX11_init_587 : decode cX11_init 587 = .ok (.ldc 158, 2) := by decide +kernel
theorem dX11_init_589 : decode cX11_init 589 = .ok (.iastore, 1) := by decide +kernel
theorem dX11_init_590 : decode cX11_init 590 = .ok (.dup, 1) := by decide +kernel
theorem dX11_init_591 : decode cX11_init 591 = .ok (.iconst 3, 1) := by decide +kernel
theorem dX11_init_592 : decode cX11_init 592 = .ok (.ldc 159, 2) := by decide +kernel
theorem dX11_init_594 : decode cX11_init 594 = .ok (.iastore, 1) := by decide +kernel
theorem dX11_init_595 : decode cX11_init 595 = .ok (.dup, 1) := by decide +kernel
theorem dX11_init_596 : decode cX11_init 596 = .ok (.iconst 4, 1) := by decide +kernel
theorem dX11_init_597 : decode cX11_init 597 = .ok (.ldc 160, 2) := by decide +kernel
theorem dX11_init_599 : decode cX11_init 599 = .ok (.iastore, 1) := by decide +kernel
theorem dX11_init_600 : decode cX11_init 600 = .ok (.dup, 1) := by decide +kernel
theorem dX11_init_601 : decode cX11_init 601 = .ok (.iconst 5, 1) := by decide +kernel
theorem dX11_init_602 : decode cX11_init 602 = .ok (.ldc 161, 2) := by decide +kernel
theorem dX11_init_604 : decode cX11_init 604 = .ok (.iastore, 1) := by decide +kernel
theorem dX11_init_605 : decode cX11_init 605 = .ok (.dup, 1) := by decide +kernel
theorem dX11_init_606 : decode cX11_init 606 = .ok (.bipush 6, 2) := by decide +kernel
theorem dX11_init_608 : decode cX11_init 608 = .ok (.ldc 162, 2) := by decide +kernel
theorem dX11_init_610 : decode cX11_init 610 = .ok (.iastore, 1) := by decide +kernel
theorem dX11_init_611 : decode cX11_init 611 = .ok (.dup, 1) := by decide +kernel
theorem dX11_init_612 : decode cX11_init 612 = .ok (.bipush 7, 2) := by decide +kernel
theorem dX11_init_614 : decode cX11_init 614 = .ok (.ldc 163, 2) := by decide +kernel
theorem dX11_init_616 : decode cX11_init 616 = .ok (.iastore, 1) := by decide +kernel
theorem dX11_init_617 : decode cX11_init 617 = .ok (.putfield 164, 3) := by decide +kernel
theorem dX11_init_620 : decode cX11_init 620 = .ok (.aload_n 0, 1) := by decide +kernel
theorem dX11_init_621 : decode cX11_init 621 = .ok (.bipush 64, 2) := by decide +kernel
theorem dX11_init_623 : decode cX11_init 623 = .ok (.newarray .int, 2) := by decide +kernel
theorem dX11_init_625 : decode cX11_init 625 = .ok (.putfield 167, 3) := by decide +kernel
theorem dX11_init_628 : decode cX11_init 628 = .ok (.aload_n 0, 1) := by decide +kernel
theorem dX11_init_629 : decode cX11_init 629 = .ok (.bipush 8, 2) := by decide +kernel
theorem dX11_init_631 : decode cX11_init 631 = .ok (.newarray .int, 2) := by decide +kernel
theorem dX11_init_633 : decode cX11_init 633 = .ok (.putfield 170, 3) := by decide +kernel
theorem dX11_init_636 : decode cX11_init 636 = .ok (.aload_n 0, 1) := by decide +kernel
theorem dX11_init_637 : decode cX11_init 637 = .ok (.bipush 64, 2) := by decide +kernel
theorem dX11_init_639 : decode cX11_init 639 = .ok (.newarray .int, 2) := by decide +kernel
theorem dX11_init_641 : decode cX11_init 641 = .ok (.putfield 173, 3) := by decide +kernel
theorem dX11_init_644 : decode cX11_init 644 = .ok (.aload_n 0, 1) := by decide +kernel
theorem dX11_init_645 : decode cX11_init 645 = .ok (.bipush 32, 2) := by decide +kernel
theorem dX11_init_647 : decode cX11_init 647 = .ok (.newarray .int, 2) := by decide +kernel
theorem dX11_init_649 : decode cX11_init 649 = .ok (.putfield 176, 3) := by decide +kernel
theorem dX11_init_652 : decode cX11_init 652 = .ok (.aload_n 0, 1) := by decide +kernel
theorem dX11_init_653 : decode cX11_init 653 = .ok (.sipush 961, 3) := by decide +kernel
theorem dX11_init_656 : decode cX11_init 656 = .ok (.newarray .boolean, 2) := by decide +kernel
theorem dX11_init_658 : decode cX11_init 658 = .ok (.putfield 179, 3) := by decide +kernel
theorem dX11_init_661 : decode cX11_init 661 = .ok (.aload_n 0, 1) := by decide +kernel
theorem dX11_init_662 : decode cX11_init 662 = .ok (.iconst 0, 1) := by decide +kernel
theorem dX11_init_663 : decode cX11_init 663 = .ok (.lconst 0, 1) := by decide +kernel
theorem dX11_init_664 : decode cX11_init 664 = .ok (.invokevirtual 182, 3) := by decide +kernel
theorem dX11_init_667 : decode cX11_init 667 = .ok (.aload_n 0, 1) := by decide +kernel
theorem dX11_init_668 : decode cX11_init 668 = .ok (.iconst 1, 1) := by decide +kernel
theorem dX11_init_669 : decode cX11_init 669 = .ok (.lconst 1, 1) := by decide +kernel
theorem dX11_init_670 : decode cX11_init 670 = .ok (.invokevirtual 182, 3) := by decide +kernel
theorem dX11_init_673 : decode cX11_init 673 = .ok (.aload_n 0, 1) := by decide +kernel
theorem dX11_init_674 : decode cX11_init 674 = .ok (.bipush 6, 2) := by decide +kernel
theorem dX11_init_676 : decode cX11_init 676 = .ok (.lconst 1, 1) := by decide +kernel
theorem dX11_init_677 : decode cX11_init 677 = .ok (.invokevirtual 182, 3) := by decide +kernel
theorem dX11_init_680 : decode cX11_init 680 = .ok (.aload_n 0, 1) := by decide +kernel
theorem dX11_init_681 : decode cX11_init 681 = .ok (.bipush 7, 2) := by decide +kernel
theorem dX11_init_683 : decode cX11_init 683 = .ok (.lconst 1, 1) := by decide +kernel
theorem dX11_init_684 : decode cX11_init 684 = .ok (.invokevirtual 182, 3) := by decide +kernel
theorem dX11_init_687 : decode cX11_init 687 = .ok (.return_, 1) := by decide +kernel
theorem dX11_trim_0 : decode cX11_trim 0 = .ok (.aload_n 0, 1) := by decide +kernel
theorem dX11_trim_1 : decode cX11_trim 1 = .ok (.getfield 79, 3) := by decide +kernel
theorem dX11_trim_4 : decode cX11_trim 4 = .ok (.iload_n 1, 1) := by decide +kernel
theorem dX11_trim_5 : decode cX11_trim 5 = .ok (.iaload, 1) := by decide +kernel
theorem dX11_trim_6 : decode cX11_trim 6 = .ok (.ifCond .le 38, 3) := by decide +kernel
theorem dX11_trim_9 : decode cX11_trim 9 = .ok (.aload_n 0, 1) := by decide +kernel
theorem dX11_trim_10 : decode cX11_trim 10 = .ok (.getfield 76, 3) := by decide +kernel
theorem dX11_trim_13 : decode cX11_trim 13 = .ok (.sipush 1200, 3) := by decide +kernel
theorem dX11_trim_16 : decode cX11_trim 16 = .ok (.iload_n 1, 1) := by decide +kernel
theorem dX11_trim_17 : decode cX11_trim 17 = .ok (.imul, 1) := by decide +kernel
theorem dX11_trim_18 : decode cX11_trim 18 = .ok (.aload_n 0, 1) := by decide +kernel
theorem dX11_trim_19 : decode cX11_trim 19 = .ok (.getfield 79, 3) := by decide +kernel
theorem dX11_trim_22 : decode cX11_trim 22 = .ok (.iload_n 1, 1) := by decide +kernel
theorem dX11_trim_23 : decode cX11_trim 23 = .ok (.iaload, 1) := by decide +kernel
theorem dX11_trim_24 : decode cX11_trim 24 = .ok (.iadd, 1) := by decide +kernel
theorem dX11_trim_25 : decode cX11_trim 25 = .ok (.iconst 1, 1) := by decide +kernel
theorem dX11_trim_26 : decode cX11_trim 26 = .ok (.isub, 1) := by decide +kernel
theorem dX11_trim_27 : decode cX11_trim 27 = .ok (.iaload, 1) := by decide +kernel
theorem dX11_trim_28 : decode cX11_trim 28 = .ok (.ifCond .ne 16, 3) := by decide +kernel
theorem dX11_trim_31 : decode cX11_trim 31 = .ok (.aload_n 0, 1) := by decide +kernel
theorem dX11_trim_32 : decode cX11_trim 32 = .ok (.getfield 79, 3) := by decide +kernel
theorem dX11_trim_35 : decode cX11_trim 35 = .ok (.iload_n 1, 1) := by decide +kernel
theorem dX11_trim_36 : decode cX11_trim 36 = .ok (.dup2, 1) := by decide +kernel
theorem dX11_trim_37 : decode cX11_trim 37 = .ok (.iaload, 1) := by decide +kernel
theorem dX11_trim_38 : decode cX11_trim 38 = .ok (.iconst 1, 1) := by decide +kernel
theorem dX11_trim_39 : decode cX11_trim 39 = .ok (.isub, 1) := by decide +kernel
theorem dX11_trim_40 : decode cX11_trim 40 = .ok (.iastore, 1) := by decide +kernel
theorem dX11_trim_41 : decode cX11_trim 41 = .ok (.goto (-41), 3) := by decide +kernel
theorem dX11_trim_44 : decode cX11_trim 44 = .ok (.return_, 1) := by decide +kernel
theorem dX11_give_0 : decode cX11_give 0 = .ok (.aload_n 0, 1) := by decide +kernel
theorem dX11_give_1 : decode cX11_give 1 = .ok (.getfield 79, 3) := by decide +kernel
theorem dX11_give_4 : decode cX11_give 4 = .ok (.iload_n 1, 1) := by decide +kernel
theorem dX11_give_5 : decode cX11_give 5 = .ok (.iconst 0, 1) := by decide +kernel
theorem dX11_give_6 : decode cX11_give 6 = .ok (.iastore, 1) := by decide +kernel
theorem dX11_give_7 : decode cX11_give 7 = .ok (.lload_n 2, 1) := by decide +kernel
theorem dX11_give_8 : decode cX11_give 8 = .ok (.lstore 4, 2) := by decide +kernel
theorem dX11_give_10 : decode cX11_give 10 = .ok (.lload 4, 2) := by decide +kernel
theorem dX11_give_12 : decode cX11_give 12 = .ok (.lconst 0, 1) := by decide +kernel
theorem dX11_give_13 : decode cX11_give 13 = .ok (.lcmp, 1) := by decide +kernel
theorem dX11_give_14 : decode cX11_give 14 = .ok (.ifCond .eq 47, 3) := by decide +kernel
theorem dX11_give_17 : decode cX11_give 17 = .ok (.aload_n 0, 1) := by decide +kernel
theorem dX11_give_18 : decode cX11_give 18 = .ok (.getfield 76, 3) := by decide +kernel
theorem dX11_give_21 : decode cX11_give 21 = .ok (.sipush 1200, 3) := by decide +kernel
theorem dX11_give_24 : decode cX11_give 24 = .ok (.iload_n 1, 1) := by decide +kernel
theorem dX11_give_25 : decode cX11_give 25 = .ok (.imul, 1) := by decide +kernel
theorem dX11_give_26 : decode cX11_give 26 = .ok (.aload_n 0, 1) := by decide +kernel
theorem dX11_give_27 : decode cX11_give 27 = .ok (.getfield 79, 3) := by decide +kernel
theorem dX11_give_30 : decode cX11_give 30 = .ok (.iload_n 1, 1) := by decide +kernel
theorem dX11_give_31 : decode cX11_give 31 = .ok (.iaload, 1) := by decide +kernel
theorem dX11_give_32 : decode cX11_give 32 = .ok (.iadd, 1) := by decide +kernel
theorem dX11_give_33 : decode cX11_give 33 = .ok (.lload 4, 2) := by decide +kernel
theorem dX11_give_35 : decode cX11_give 35 = .ok (.ldc2_w 186, 3) := by decide +kernel
theorem dX11_give_38 : decode cX11_give 38 = .ok (.land, 1) := by decide +kernel
theorem dX11_give_39 : decode cX11_give 39 = .ok (.l2i, 1) := by decide +kernel
theorem dX11_give_40 : decode cX11_give 40 = .ok (.iastore, 1) := by decide +kernel
theorem dX11_give_41 : decode cX11_give 41 = .ok (.aload_n 0, 1) := by decide +kernel
theorem dX11_give_42 : decode cX11_give 42 = .ok (.getfield 79, 3) := by decide +kernel
theorem dX11_give_45 : decode cX11_give 45 = .ok (.iload_n 1, 1) := by decide +kernel
theorem dX11_give_46 : decode cX11_give 46 = .ok (.dup2, 1) := by decide +kernel
theorem dX11_give_47 : decode cX11_give 47 = .ok (.iaload, 1) := by decide +kernel
theorem dX11_give_48 : decode cX11_give 48 = .ok (.iconst 1, 1) := by decide +kernel
theorem dX11_give_49 : decode cX11_give 49 = .ok (.iadd, 1) := by decide +kernel
theorem dX11_give_50 : decode cX11_give 50 = .ok (.iastore, 1) := by decide +kernel
theorem dX11_give_51 : decode cX11_give 51 = .ok (.lload 4, 2) := by decide +kernel
theorem dX11_give_53 : decode cX11_give 53 = .ok (.bipush 16, 2) := by decide +kernel
theorem dX11_give_55 : decode cX11_give 55 = .ok (.lushr, 1) := by decide +kernel
theorem dX11_give_56 : decode cX11_give 56 = .ok (.lstore 4, 2) := by decide +kernel
theorem dX11_give_58 : decode cX11_give 58 = .ok (.goto (-48), 3) := by decide +kernel
theorem dX11_give_61 : decode cX11_give 61 = .ok (.return_, 1) := by decide +kernel
theorem dX11_copy_0 : decode cX11_copy 0 = .ok (.aload_n 0, 1) := by decide +kernel
theorem dX11_copy_1 : decode cX11_copy 1 = .ok (.getfield 79, 3) := by decide +kernel
theorem dX11_copy_4 : decode cX11_copy 4 = .ok (.iload_n 1, 1) := by decide +kernel
theorem dX11_copy_5 : decode cX11_copy 5 = .ok (.aload_n 0, 1) := by decide +kernel
theorem dX11_copy_6 : decode cX11_copy 6 = .ok (.getfield 79, 3) := by decide +kernel
theorem dX11_copy_9 : decode cX11_copy 9 = .ok (.iload_n 2, 1) := by decide +kernel
theorem dX11_copy_10 : decode cX11_copy 10 = .ok (.iaload, 1) := by decide +kernel
theorem dX11_copy_11 : decode cX11_copy 11 = .ok (.iastore, 1) := by decide +kernel
theorem dX11_copy_12 : decode cX11_copy 12 = .ok (.iconst 0, 1) := by decide +kernel
theorem dX11_copy_13 : decode cX11_copy 13 = .ok (.istore_n 3, 1) := by decide +kernel
theorem dX11_copy_14 : decode cX11_copy 14 = .ok (.iload_n 3, 1) := by decide +kernel
theorem dX11_copy_15 : decode cX11_copy 15 = .ok (.aload_n 0, 1) := by decide +kernel
theorem dX11_copy_16 : decode cX11_copy 16 = .ok (.getfield 79, 3) := by decide +kernel
theorem dX11_copy_19 : decode cX11_copy 19 = .ok (.iload_n 2, 1) := by decide +kernel
theorem dX11_copy_20 : decode cX11_copy 20 = .ok (.iaload, 1) := by decide +kernel
theorem dX11_copy_21 : decode cX11_copy 21 = .ok (.if_icmp .ge 33, 3) := by decide +kernel
theorem dX11_copy_24 : decode cX11_copy 24 = .ok (.aload_n 0, 1) := by decide +kernel
theorem dX11_copy_25 : decode cX11_copy 25 = .ok (.getfield 76, 3) := by decide +kernel
theorem dX11_copy_28 : decode cX11_copy 28 = .ok (.sipush 1200, 3) := by decide +kernel
theorem dX11_copy_31 : decode cX11_copy 31 = .ok (.iload_n 1, 1) := by decide +kernel
theorem dX11_copy_32 : decode cX11_copy 32 = .ok (.imul, 1) := by decide +kernel
theorem dX11_copy_33 : decode cX11_copy 33 = .ok (.iload_n 3, 1) := by decide +kernel
theorem dX11_copy_34 : decode cX11_copy 34 = .ok (.iadd, 1) := by decide +kernel
theorem dX11_copy_35 : decode cX11_copy 35 = .ok (.aload_n 0, 1) := by decide +kernel
theorem dX11_copy_36 : decode cX11_copy 36 = .ok (.getfield 76, 3) := by decide +kernel
theorem dX11_copy_39 : decode cX11_copy 39 = .ok (.sipush 1200, 3) := by decide +kernel
theorem dX11_copy_42 : decode cX11_copy 42 = .ok (.iload_n 2, 1) := by decide +kernel
theorem dX11_copy_43 : decode cX11_copy 43 = .ok (.imul, 1) := by decide +kernel
theorem dX11_copy_44 : decode cX11_copy 44 = .ok (.iload_n 3, 1) := by decide +kernel
theorem dX11_copy_45 : decode cX11_copy 45 = .ok (.iadd, 1) := by decide +kernel
theorem dX11_copy_46 : decode cX11_copy 46 = .ok (.iaload, 1) := by decide +kernel
theorem dX11_copy_47 : decode cX11_copy 47 = .ok (.iastore, 1) := by decide +kernel
theorem dX11_copy_48 : decode cX11_copy 48 = .ok (.iinc 3 1, 3) := by decide +kernel
theorem dX11_copy_51 : decode cX11_copy 51 = .ok (.goto (-37), 3) := by decide +kernel
theorem dX11_copy_54 : decode cX11_copy 54 = .ok (.return_, 1) := by decide +kernel
theorem dX11_times_0 : decode cX11_times 0 = .ok (.lconst 0, 1) := by decide +kernel
theorem dX11_times_1 : decode cX11_times 1 = .ok (.lstore 4, 2) := by decide +kernel
theorem dX11_times_3 : decode cX11_times 3 = .ok (.iconst 0, 1) := by decide +kernel
theorem dX11_times_4 : decode cX11_times 4 = .ok (.istore 6, 2) := by decide +kernel
theorem dX11_times_6 : decode cX11_times 6 = .ok (.iload 6, 2) := by decide +kernel
theorem dX11_times_8 : decode cX11_times 8 = .ok (.aload_n 0, 1) := by decide +kernel
theorem dX11_times_9 : decode cX11_times 9 = .ok (.getfield 79, 3) := by decide +kernel
theorem dX11_times_12 : decode cX11_times 12 = .ok (.iload_n 1, 1) := by decide +kernel
theorem dX11_times_13 : decode cX11_times 13 = .ok (.iaload, 1) := by decide +kernel
theorem dX11_times_14 : decode cX11_times 14 = .ok (.if_icmp .ge 57, 3) := by decide +kernel
theorem dX11_times_17 : decode cX11_times 17 = .ok (.lload 4, 2) := by decide +kernel
theorem dX11_times_19 : decode cX11_times 19 = .ok (.lload_n 2, 1) := by decide +kernel
theorem dX11_times_20 : decode cX11_times 20 = .ok (.aload_n 0, 1) := by decide +kernel
theorem dX11_times_21 : decode cX11_times 21 = .ok (.getfield 76, 3) := by decide +kernel
theorem dX11_times_24 : decode cX11_times 24 = .ok (.sipush 1200, 3) := by decide +kernel
theorem dX11_times_27 : decode cX11_times 27 = .ok (.iload_n 1, 1) := by decide +kernel
theorem dX11_times_28 : decode cX11_times 28 = .ok (.imul, 1) := by decide +kernel
theorem dX11_times_29 : decode cX11_times 29 = .ok (.iload 6, 2) := by decide +kernel
theorem dX11_times_31 : decode cX11_times 31 = .ok (.iadd, 1) := by decide +kernel
theorem dX11_times_32 : decode cX11_times 32 = .ok (.iaload, 1) := by decide +kernel
theorem dX11_times_33 : decode cX11_times 33 = .ok (.i2l, 1) := by decide +kernel
theorem dX11_times_34 : decode cX11_times 34 = .ok (.lmul, 1) := by decide +kernel
theorem dX11_times_35 : decode cX11_times 35 = .ok (.ladd, 1) := by decide +kernel
theorem dX11_times_36 : decode cX11_times 36 = .ok (.lstore 4, 2) := by decide +kernel
theorem dX11_times_38 : decode cX11_times 38 = .ok (.aload_n 0, 1) := by decide +kernel
theorem dX11_times_39 : decode cX11_times 39 = .ok (.getfield 76, 3) := by decide +kernel
theorem dX11_times_42 : decode cX11_times 42 = .ok (.sipush 1200, 3) := by decide +kernel
theorem dX11_times_45 : decode cX11_times 45 = .ok (.iload_n 1, 1) := by decide +kernel
theorem dX11_times_46 : decode cX11_times 46 = .ok (.imul, 1) := by decide +kernel
theorem dX11_times_47 : decode cX11_times 47 = .ok (.iload 6, 2) := by decide +kernel
theorem dX11_times_49 : decode cX11_times 49 = .ok (.iadd, 1) := by decide +kernel
theorem dX11_times_50 : decode cX11_times 50 = .ok (.lload 4, 2) := by decide +kernel
theorem dX11_times_52 : decode cX11_times 52 = .ok (.ldc2_w 186, 3) := by decide +kernel
theorem dX11_times_55 : decode cX11_times 55 = .ok (.land, 1) := by decide +kernel
theorem dX11_times_56 : decode cX11_times 56 = .ok (.l2i, 1) := by decide +kernel
theorem dX11_times_57 : decode cX11_times 57 = .ok (.iastore, 1) := by decide +kernel
theorem dX11_times_58 : decode cX11_times 58 = .ok (.lload 4, 2) := by decide +kernel
theorem dX11_times_60 : decode cX11_times 60 = .ok (.bipush 16, 2) := by decide +kernel
theorem dX11_times_62 : decode cX11_times 62 = .ok (.lushr, 1) := by decide +kernel
theorem dX11_times_63 : decode cX11_times 63 = .ok (.lstore 4, 2) := by decide +kernel
theorem dX11_times_65 : decode cX11_times 65 = .ok (.iinc 6 1, 3) := by decide +kernel
theorem dX11_times_68 : decode cX11_times 68 = .ok (.goto (-62), 3) := by decide +kernel
theorem dX11_times_71 : decode cX11_times 71 = .ok (.lload 4, 2) := by decide +kernel
theorem dX11_times_73 : decode cX11_times 73 = .ok (.lconst 0, 1) := by decide +kernel
theorem dX11_times_74 : decode cX11_times 74 = .ok (.lcmp, 1) := by decide +kernel
theorem dX11_times_75 : decode cX11_times 75 = .ok (.ifCond .eq 47, 3) := by decide +kernel
theorem dX11_times_78 : decode cX11_times 78 = .ok (.aload_n 0, 1) := by decide +kernel
theorem dX11_times_79 : decode cX11_times 79 = .ok (.getfield 76, 3) := by decide +kernel
theorem dX11_times_82 : decode cX11_times 82 = .ok (.sipush 1200, 3) := by decide +kernel
theorem dX11_times_85 : decode cX11_times 85 = .ok (.iload_n 1, 1) := by decide +kernel
theorem dX11_times_86 : decode cX11_times 86 = .ok (.imul, 1) := by decide +kernel
theorem dX11_times_87 : decode cX11_times 87 = .ok (.aload_n 0, 1) := by decide +kernel
theorem dX11_times_88 : decode cX11_times 88 = .ok (.getfield 79, 3) := by decide +kernel
theorem dX11_times_91 : decode cX11_times 91 = .ok (.iload_n 1, 1) := by decide +kernel
theorem dX11_times_92 : decode cX11_times 92 = .ok (.iaload, 1) := by decide +kernel
theorem dX11_times_93 : decode cX11_times 93 = .ok (.iadd, 1) := by decide +kernel
theorem dX11_times_94 : decode cX11_times 94 = .ok (.lload 4, 2) := by decide +kernel
theorem dX11_times_96 : decode cX11_times 96 = .ok (.ldc2_w 186, 3) := by decide +kernel
theorem dX11_times_99 : decode cX11_times 99 = .ok (.land, 1) := by decide +kernel
theorem dX11_times_100 : decode cX11_times 100 = .ok (.l2i, 1) := by decide +kernel
theorem dX11_times_101 : decode cX11_times 101 = .ok (.iastore, 1) := by decide +kernel
theorem dX11_times_102 : decode cX11_times 102 = .ok (.aload_n 0, 1) := by decide +kernel
theorem dX11_times_103 : decode cX11_times 103 = .ok (.getfield 79, 3) := by decide +kernel
theorem dX11_times_106 : decode cX11_times 106 = .ok (.iload_n 1, 1) := by decide +kernel
theorem dX11_times_107 : decode cX11_times 107 = .ok (.dup2, 1) := by decide +kernel
theorem dX11_times_108 : decode cX11_times 108 = .ok (.iaload, 1) := by decide +kernel
theorem dX11_times_109 : decode cX11_times 109 = .ok (.iconst 1, 1) := by decide +kernel
theorem dX11_times_110 : decode cX11_times 110 = .ok (.iadd, 1) := by decide +kernel
theorem dX11_times_111 : decode cX11_times 111 = .ok (.iastore, 1) := by decide +kernel
theorem dX11_times_112 : decode cX11_times 112 = .ok (.lload 4, 2) := by decide +kernel
theorem dX11_times_114 : decode cX11_times 114 = .ok (.bipush 16, 2) := by decide +kernel
theorem dX11_times_116 : decode cX11_times 116 = .ok (.lushr, 1) := by decide +kernel
theorem dX11_times_117 : decode cX11_times 117 = .ok (.lstore 4, 2) := by decide +kernel
theorem dX11_times_119 : decode cX11_times 119 = .ok (.goto (-48), 3) := by decide +kernel
theorem dX11_times_122 : decode cX11_times 122 = .ok (.aload_n 0, 1) := by decide +kernel
theorem dX11_times_123 : decode cX11_times 123 = .ok (.iload_n 1, 1) := by decide +kernel
theorem dX11_times_124 : decode cX11_times 124 = .ok (.invokevirtual 188, 3) := by decide +kernel
theorem dX11_times_127 : decode cX11_times 127 = .ok (.return_, 1) := by decide +kernel
theorem dX11_power_0 : decode cX11_power 0 = .ok (.iconst 0, 1) := by decide +kernel
theorem dX11_power_1 : decode cX11_power 1 = .ok (.istore 5, 2) := by decide +kernel
theorem dX11_power_3 : decode cX11_power 3 = .ok (.iload 5, 2) := by decide +kernel
theorem dX11_power_5 : decode cX11_power 5 = .ok (.iload 4, 2) := by decide +kernel
theorem dX11_power_7 : decode cX11_power 7 = .ok (.if_icmp .ge 15, 3) := by decide +kernel
theorem dX11_power_10 : decode cX11_power 10 = .ok (.aload_n 0, 1) := by decide +kernel
theorem dX11_power_11 : decode cX11_power 11 = .ok (.iload_n 1, 1) := by decide +kernel
theorem dX11_power_12 : decode cX11_power 12 = .ok (.lload_n 2, 1) := by decide +kernel
theorem dX11_power_13 : decode cX11_power 13 = .ok (.invokevirtual 192, 3) := by decide +kernel
theorem dX11_power_16 : decode cX11_power 16 = .ok (.iinc 5 1, 3) := by decide +kernel
theorem dX11_power_19 : decode cX11_power 19 = .ok (.goto (-16), 3) := by decide +kernel
theorem dX11_power_22 : decode cX11_power 22 = .ok (.return_, 1) := by decide +kernel
theorem dX11_compare_0 : decode cX11_compare 0 = .ok (.aload_n 0, 1) := by decide +kernel
theorem dX11_compare_1 : decode cX11_compare 1 = .ok (.getfield 79, 3) := by decide +kernel
theorem dX11_compare_4 : decode cX11_compare 4 = .ok (.iload_n 1, 1) := by decide +kernel
theorem dX11_compare_5 : decode cX11_compare 5 = .ok (.iaload, 1) := by decide +kernel
theorem dX11_compare_6 : decode cX11_compare 6 = .ok (.aload_n 0, 1) := by decide +kernel
theorem dX11_compare_7 : decode cX11_compare 7 = .ok (.getfield 79, 3) := by decide +kernel
theorem dX11_compare_10 : decode cX11_compare 10 = .ok (.iload_n 2, 1) := by decide +kernel
theorem dX11_compare_11 : decode cX11_compare 11 = .ok (.iaload, 1) := by decide +kernel
theorem dX11_compare_12 : decode cX11_compare 12 = .ok (.if_icmp .eq 24, 3) := by decide +kernel
theorem dX11_compare_15 : decode cX11_compare 15 = .ok (.aload_n 0, 1) := by decide +kernel
theorem dX11_compare_16 : decode cX11_compare 16 = .ok (.getfield 79, 3) := by decide +kernel
theorem dX11_compare_19 : decode cX11_compare 19 = .ok (.iload_n 1, 1) := by decide +kernel
theorem dX11_compare_20 : decode cX11_compare 20 = .ok (.iaload, 1) := by decide +kernel
theorem dX11_compare_21 : decode cX11_compare 21 = .ok (.aload_n 0, 1) := by decide +kernel
theorem dX11_compare_22 : decode cX11_compare 22 = .ok (.getfield 79, 3) := by decide +kernel
theorem dX11_compare_25 : decode cX11_compare 25 = .ok (.iload_n 2, 1) := by decide +kernel
theorem dX11_compare_26 : decode cX11_compare 26 = .ok (.iaload, 1) := by decide +kernel
theorem dX11_compare_27 : decode cX11_compare 27 = .ok (.if_icmp .ge 7, 3) := by decide +kernel
theorem dX11_compare_30 : decode cX11_compare 30 = .ok (.iconst (-1), 1) := by decide +kernel
theorem dX11_compare_31 : decode cX11_compare 31 = .ok (.goto 4, 3) := by decide +kernel
theorem dX11_compare_34 : decode cX11_compare 34 = .ok (.iconst 1, 1) := by decide +kernel
theorem dX11_compare_35 : decode cX11_compare 35 = .ok (.ireturn, 1) := by decide +kernel
theorem dX11_compare_36 : decode cX11_compare 36 = .ok (.aload_n 0, 1) := by decide +kernel
theorem dX11_compare_37 : decode cX11_compare 37 = .ok (.getfield 79, 3) := by decide +kernel
theorem dX11_compare_40 : decode cX11_compare 40 = .ok (.iload_n 1, 1) := by decide +kernel
theorem dX11_compare_41 : decode cX11_compare 41 = .ok (.iaload, 1) := by decide +kernel
theorem dX11_compare_42 : decode cX11_compare 42 = .ok (.iconst 1, 1) := by decide +kernel
theorem dX11_compare_43 : decode cX11_compare 43 = .ok (.isub, 1) := by decide +kernel
theorem dX11_compare_44 : decode cX11_compare 44 = .ok (.istore_n 3, 1) := by decide +kernel
theorem dX11_compare_45 : decode cX11_compare 45 = .ok (.iload_n 3, 1) := by decide +kernel
theorem dX11_compare_46 : decode cX11_compare 46 = .ok (.ifCond .lt 57, 3) := by decide +kernel
theorem dX11_compare_49 : decode cX11_compare 49 = .ok (.aload_n 0, 1) := by decide +kernel
theorem dX11_compare_50 : decode cX11_compare 50 = .ok (.getfield 76, 3) := by decide +kernel
theorem dX11_compare_53 : decode cX11_compare 53 = .ok (.sipush 1200, 3) := by decide +kernel
theorem dX11_compare_56 : decode cX11_compare 56 = .ok (.iload_n 1, 1) := by decide +kernel
theorem dX11_compare_57 : decode cX11_compare 57 = .ok (.imul, 1) := by decide +kernel
theorem dX11_compare_58 : decode cX11_compare 58 = .ok (.iload_n 3, 1) := by decide +kernel
theorem dX11_compare_59 : decode cX11_compare 59 = .ok (.iadd, 1) := by decide +kernel
theorem dX11_compare_60 : decode cX11_compare 60 = .ok (.iaload, 1) := by decide +kernel
theorem dX11_compare_61 : decode cX11_compare 61 = .ok (.istore 4, 2) := by decide +kernel
theorem dX11_compare_63 : decode cX11_compare 63 = .ok (.aload_n 0, 1) := by decide +kernel
theorem dX11_compare_64 : decode cX11_compare 64 = .ok (.getfield 76, 3) := by decide +kernel
theorem dX11_compare_67 : decode cX11_compare 67 = .ok (.sipush 1200, 3) := by decide +kernel
theorem dX11_compare_70 : decode cX11_compare 70 = .ok (.iload_n 2, 1) := by decide +kernel
theorem dX11_compare_71 : decode cX11_compare 71 = .ok (.imul, 1) := by decide +kernel
theorem dX11_compare_72 : decode cX11_compare 72 = .ok (.iload_n 3, 1) := by decide +kernel
theorem dX11_compare_73 : decode cX11_compare 73 = .ok (.iadd, 1) := by decide +kernel
theorem dX11_compare_74 : decode cX11_compare 74 = .ok (.iaload, 1) := by decide +kernel
theorem dX11_compare_75 : decode cX11_compare 75 = .ok (.istore 5, 2) := by decide +kernel
theorem dX11_compare_77 : decode cX11_compare 77 = .ok (.iload 4, 2) := by decide +kernel
theorem dX11_compare_79 : decode cX11_compare 79 = .ok (.iload 5, 2) := by decide +kernel
theorem dX11_compare_81 : decode cX11_compare 81 = .ok (.if_icmp .eq 16, 3) := by decide +kernel
theorem dX11_compare_84 : decode cX11_compare 84 = .ok (.iload 4, 2) := by decide +kernel
theorem dX11_compare_86 : decode cX11_compare 86 = .ok (.iload 5, 2) := by decide +kernel
theorem dX11_compare_88 : decode cX11_compare 88 = .ok (.if_icmp .ge 7, 3) := by decide +kernel
theorem dX11_compare_91 : decode cX11_compare 91 = .ok (.iconst (-1), 1) := by decide +kernel
theorem dX11_compare_92 : decode cX11_compare 92 = .ok (.goto 4, 3) := by decide +kernel
theorem dX11_compare_95 : decode cX11_compare 95 = .ok (.iconst 1, 1) := by decide +kernel
theorem dX11_compare_96 : decode cX11_compare 96 = .ok (.ireturn, 1) := by decide +kernel
theorem dX11_compare_97 : decode cX11_compare 97 = .ok (.iinc 3 (-1), 3) := by decide +kernel
theorem dX11_compare_100 : decode cX11_compare 100 = .ok (.goto (-55), 3) := by decide +kernel
theorem dX11_compare_103 : decode cX11_compare 103 = .ok (.iconst 0, 1) := by decide +kernel
theorem dX11_compare_104 : decode cX11_compare 104 = .ok (.ireturn, 1) := by decide +kernel
theorem dX11_add_0 : decode cX11_add 0 = .ok (.iconst 0, 1) := by decide +kernel
theorem dX11_add_1 : decode cX11_add 1 = .ok (.istore_n 3, 1) := by decide +kernel
theorem dX11_add_2 : decode cX11_add 2 = .ok (.aload_n 0, 1) := by decide +kernel
theorem dX11_add_3 : decode cX11_add 3 = .ok (.getfield 79, 3) := by decide +kernel
theorem dX11_add_6 : decode cX11_add 6 = .ok (.iload_n 1, 1) := by decide +kernel
theorem dX11_add_7 : decode cX11_add 7 = .ok (.iaload, 1) := by decide +kernel
theorem dX11_add_8 : decode cX11_add 8 = .ok (.aload_n 0, 1) := by decide +kernel
theorem dX11_add_9 : decode cX11_add 9 = .ok (.getfield 79, 3) := by decide +kernel
theorem dX11_add_12 : decode cX11_add 12 = .ok (.iload_n 2, 1) := by decide +kernel
theorem dX11_add_13 : decode cX11_add 13 = .ok (.iaload, 1) := by decide +kernel
theorem dX11_add_14 : decode cX11_add 14 = .ok (.if_icmp .le 12, 3) := by decide +kernel
theorem dX11_add_17 : decode cX11_add 17 = .ok (.aload_n 0, 1) := by decide +kernel
theorem dX11_add_18 : decode cX11_add 18 = .ok (.getfield 79, 3) := by decide +kernel
theorem dX11_add_21 : decode cX11_add 21 = .ok (.iload_n 1, 1) := by decide +kernel
theorem dX11_add_22 : decode cX11_add 22 = .ok (.iaload, 1) := by decide +kernel
theorem dX11_add_23 : decode cX11_add 23 = .ok (.goto 9, 3) := by decide +kernel
theorem dX11_add_26 : decode cX11_add 26 = .ok (.aload_n 0, 1) := by decide +kernel
theorem dX11_add_27 : decode cX11_add 27 = .ok (.getfield 79, 3) := by decide +kernel
theorem dX11_add_30 : decode cX11_add 30 = .ok (.iload_n 2, 1) := by decide +kernel
theorem dX11_add_31 : decode cX11_add 31 = .ok (.iaload, 1) := by decide +kernel
theorem dX11_add_32 : decode cX11_add 32 = .ok (.istore 4, 2) := by decide +kernel
theorem dX11_add_34 : decode cX11_add 34 = .ok (.iconst 0, 1) := by decide +kernel
theorem dX11_add_35 : decode cX11_add 35 = .ok (.istore 5, 2) := by decide +kernel
theorem dX11_add_37 : decode cX11_add 37 = .ok (.iload 5, 2) := by decide +kernel
theorem dX11_add_39 : decode cX11_add 39 = .ok (.iload 4, 2) := by decide +kernel
theorem dX11_add_41 : decode cX11_add 41 = .ok (.if_icmp .lt 7, 3) := by decide +kernel
theorem dX11_add_44 : decode cX11_add 44 = .ok (.iload_n 3, 1) := by decide +kernel
theorem dX11_add_45 : decode cX11_add 45 = .ok (.ifCond .le 114, 3) := by decide +kernel
theorem dX11_add_48 : decode cX11_add 48 = .ok (.iload_n 3, 1) := by decide +kernel
theorem dX11_add_49 : decode cX11_add 49 = .ok (.iload 5, 2) := by decide +kernel
theorem dX11_add_51 : decode cX11_add 51 = .ok (.aload_n 0, 1) := by decide +kernel
theorem dX11_add_52 : decode cX11_add 52 = .ok (.getfield 79, 3) := by decide +kernel
theorem dX11_add_55 : decode cX11_add 55 = .ok (.iload_n 1, 1) := by decide +kernel
theorem dX11_add_56 : decode cX11_add 56 = .ok (.iaload, 1) := by decide +kernel
theorem dX11_add_57 : decode cX11_add 57 = .ok (.if_icmp .ge 19, 3) := by decide +kernel
theorem dX11_add_60 : decode cX11_add 60 = .ok (.aload_n 0, 1) := by decide +kernel
theorem dX11_add_61 : decode cX11_add 61 = .ok (.getfield 76, 3) := by decide +kernel
theorem dX11_add_64 : decode cX11_add 64 = .ok (.sipush 1200, 3) := by decide +kernel
theorem dX11_add_67 : decode cX11_add 67 = .ok (.iload_n 1, 1) := by decide +kernel
theorem dX11_add_68 : decode cX11_add 68 = .ok (.imul, 1) := by decide +kernel
theorem dX11_add_69 : decode cX11_add 69 = .ok (.iload 5, 2) := by decide +kernel
theorem dX11_add_71 : decode cX11_add 71 = .ok (.iadd, 1) := by decide +kernel
theorem dX11_add_72 : decode cX11_add 72 = .ok (.iaload, 1) := by decide +kernel
theorem dX11_add_73 : decode cX11_add 73 = .ok (.goto 4, 3) := by decide +kernel
theorem dX11_add_76 : decode cX11_add 76 = .ok (.iconst 0, 1) := by decide +kernel
theorem dX11_add_77 : decode cX11_add 77 = .ok (.iadd, 1) := by decide +kernel
theorem dX11_add_78 : decode cX11_add 78 = .ok (.iload 5, 2) := by decide +kernel
theorem dX11_add_80 : decode cX11_add 80 = .ok (.aload_n 0, 1) := by decide +kernel
theorem dX11_add_81 : decode cX11_add 81 = .ok (.getfield 79, 3) := by decide +kernel
theorem dX11_add_84 : decode cX11_add 84 = .ok (.iload_n 2, 1) := by decide +kernel
theorem dX11_add_85 : decode cX11_add 85 = .ok (.iaload, 1) := by decide +kernel
theorem dX11_add_86 : decode cX11_add 86 = .ok (.if_icmp .ge 19, 3) := by decide +kernel
theorem dX11_add_89 : decode cX11_add 89 = .ok (.aload_n 0, 1) := by decide +kernel
theorem dX11_add_90 : decode cX11_add 90 = .ok (.getfield 76, 3) := by decide +kernel
theorem dX11_add_93 : decode cX11_add 93 = .ok (.sipush 1200, 3) := by decide +kernel
theorem dX11_add_96 : decode cX11_add 96 = .ok (.iload_n 2, 1) := by decide +kernel
theorem dX11_add_97 : decode cX11_add 97 = .ok (.imul, 1) := by decide +kernel
theorem dX11_add_98 : decode cX11_add 98 = .ok (.iload 5, 2) := by decide +kernel
theorem dX11_add_100 : decode cX11_add 100 = .ok (.iadd, 1) := by decide +kernel
theorem dX11_add_101 : decode cX11_add 101 = .ok (.iaload, 1) := by decide +kernel
theorem dX11_add_102 : decode cX11_add 102 = .ok (.goto 4, 3) := by decide +kernel
theorem dX11_add_105 : decode cX11_add 105 = .ok (.iconst 0, 1) := by decide +kernel
theorem dX11_add_106 : decode cX11_add 106 = .ok (.iadd, 1) := by decide +kernel
theorem dX11_add_107 : decode cX11_add 107 = .ok (.istore 6, 2) := by decide +kernel
theorem dX11_add_109 : decode cX11_add 109 = .ok (.aload_n 0, 1) := by decide +kernel
theorem dX11_add_110 : decode cX11_add 110 = .ok (.getfield 76, 3) := by decide +kernel
theorem dX11_add_113 : decode cX11_add 113 = .ok (.sipush 1200, 3) := by decide +kernel
theorem dX11_add_116 : decode cX11_add 116 = .ok (.iload_n 1, 1) := by decide +kernel
theorem dX11_add_117 : decode cX11_add 117 = .ok (.imul, 1) := by decide +kernel
theorem dX11_add_118 : decode cX11_add 118 = .ok (.iload 5, 2) := by decide +kernel
theorem dX11_add_120 : decode cX11_add 120 = .ok (.iadd, 1) := by decide +kernel
theorem dX11_add_121 : decode cX11_add 121 = .ok (.iload 6, 2) := by decide +kernel
theorem dX11_add_123 : decode cX11_add 123 = .ok (.ldc 194, 2) := by decide +kernel
theorem dX11_add_125 : decode cX11_add 125 = .ok (.iand, 1) := by decide +kernel
theorem dX11_add_126 : decode cX11_add 126 = .ok (.iastore, 1) := by decide +kernel
theorem dX11_add_127 : decode cX11_add 127 = .ok (.iload 6, 2) := by decide +kernel
theorem dX11_add_129 : decode cX11_add 129 = .ok (.bipush 16, 2) := by decide +kernel
theorem dX11_add_131 : decode cX11_add 131 = .ok (.ishr, 1) := by decide +kernel
theorem dX11_add_132 : decode cX11_add 132 = .ok (.istore_n 3, 1) := by decide +kernel
theorem dX11_add_133 : decode cX11_add 133 = .ok (.iload 5, 2) := by decide +kernel
theorem dX11_add_135 : decode cX11_add 135 = .ok (.iconst 1, 1) := by decide +kernel
theorem dX11_add_136 : decode cX11_add 136 = .ok (.iadd, 1) := by decide +kernel
theorem dX11_add_137 : decode cX11_add 137 = .ok (.iload 4, 2) := by decide +kernel
theorem dX11_add_139 : decode cX11_add 139 = .ok (.if_icmp .le 10, 3) := by decide +kernel
theorem dX11_add_142 : decode cX11_add 142 = .ok (.iload 5, 2) := by decide +kernel
theorem dX11_add_144 : decode cX11_add 144 = .ok (.iconst 1, 1) := by decide +kernel
theorem dX11_add_145 : decode cX11_add 145 = .ok (.iadd, 1) := by decide +kernel
theorem dX11_add_146 : decode cX11_add 146 = .ok (.goto 5, 3) := by decide +kernel
theorem dX11_add_149 : decode cX11_add 149 = .ok (.iload 4, 2) := by decide +kernel
theorem dX11_add_151 : decode cX11_add 151 = .ok (.istore 4, 2) := by decide +kernel
theorem dX11_add_153 : decode cX11_add 153 = .ok (.iinc 5 1, 3) := by decide +kernel
theorem dX11_add_156 : decode cX11_add 156 = .ok (.goto (-119), 3) := by decide +kernel
theorem dX11_add_159 : decode cX11_add 159 = .ok (.aload_n 0, 1) := by decide +kernel
theorem dX11_add_160 : decode cX11_add 160 = .ok (.getfield 79, 3) := by decide +kernel
theorem dX11_add_163 : decode cX11_add 163 = .ok (.iload_n 1, 1) := by decide +kernel
theorem dX11_add_164 : decode cX11_add 164 = .ok (.iload 4, 2) := by decide +kernel
theorem dX11_add_166 : decode cX11_add 166 = .ok (.iastore, 1) := by decide +kernel
theorem dX11_add_167 : decode cX11_add 167 = .ok (.aload_n 0, 1) := by decide +kernel
theorem dX11_add_168 : decode cX11_add 168 = .ok (.iload_n 1, 1) := by decide +kernel
theorem dX11_add_169 : decode cX11_add 169 = .ok (.invokevirtual 188, 3) := by decide +kernel
theorem dX11_add_172 : decode cX11_add 172 = .ok (.return_, 1) := by decide +kernel
theorem dX11_less_0 : decode cX11_less 0 = .ok (.iconst 0, 1) := by decide +kernel
theorem dX11_less_1 : decode cX11_less 1 = .ok (.istore_n 3, 1) := by decide +kernel
theorem dX11_less_2 : decode cX11_less 2 = .ok (.iconst 0, 1) := by decide +kernel
theorem dX11_less_3 : decode cX11_less 3 = .ok (.istore 4, 2) := by decide +kernel
theorem dX11_less_5 : decode cX11_less 5 = .ok (.iload 4, 2) := by decide +kernel
theorem dX11_less_7 : decode cX11_less 7 = .ok (.aload_n 0, 1) := by decide +kernel
theorem dX11_less_8 : decode cX11_less 8 = .ok (.getfield 79, 3) := by decide +kernel
theorem dX11_less_11 : decode cX11_less 11 = .ok (.iload_n 1, 1) := by decide +kernel
theorem dX11_less_12 : decode cX11_less 12 = .ok (.iaload, 1) := by decide +kernel
theorem dX11_less_13 : decode cX11_less 13 = .ok (.if_icmp .ge 84, 3) := by decide +kernel
theorem dX11_less_16 : decode cX11_less 16 = .ok (.aload_n 0, 1) := by decide +kernel
theorem dX11_less_17 : decode cX11_less 17 = .ok (.getfield 76, 3) := by decide +kernel
theorem dX11_less_20 : decode cX11_less 20 = .ok (.sipush 1200, 3) := by decide +kernel
theorem dX11_less_23 : decode cX11_less 23 = .ok (.iload_n 1, 1) := by decide +kernel
theorem dX11_less_24 : decode cX11_less 24 = .ok (.imul, 1) := by decide +kernel
theorem dX11_less_25 : decode cX11_less 25 = .ok (.iload 4, 2) := by decide +kernel
theorem dX11_less_27 : decode cX11_less 27 = .ok (.iadd, 1) := by decide +kernel
theorem dX11_less_28 : decode cX11_less 28 = .ok (.iaload, 1) := by decide +kernel
theorem dX11_less_29 : decode cX11_less 29 = .ok (.iload 4, 2) := by decide +kernel
theorem dX11_less_31 : decode cX11_less 31 = .ok (.aload_n 0, 1) := by decide +kernel
theorem dX11_less_32 : decode cX11_less 32 = .ok (.getfield 79, 3) := by decide +kernel
theorem dX11_less_35 : decode cX11_less 35 = .ok (.iload_n 2, 1) := by decide +kernel
theorem dX11_less_36 : decode cX11_less 36 = .ok (.iaload, 1) := by decide +kernel
theorem dX11_less_37 : decode cX11_less 37 = .ok (.if_icmp .ge 19, 3) := by decide +kernel
theorem dX11_less_40 : decode cX11_less 40 = .ok (.aload_n 0, 1) := by decide +kernel
theorem dX11_less_41 : decode cX11_less 41 = .ok (.getfield 76, 3) := by decide +kernel
theorem dX11_less_44 : decode cX11_less 44 = .ok (.sipush 1200, 3) := by decide +kernel
theorem dX11_less_47 : decode cX11_less 47 = .ok (.iload_n 2, 1) := by decide +kernel
theorem dX11_less_48 : decode cX11_less 48 = .ok (.imul, 1) := by decide +kernel
theorem dX11_less_49 : decode cX11_less 49 = .ok (.iload 4, 2) := by decide +kernel
theorem dX11_less_51 : decode cX11_less 51 = .ok (.iadd, 1) := by decide +kernel
theorem dX11_less_52 : decode cX11_less 52 = .ok (.iaload, 1) := by decide +kernel
theorem dX11_less_53 : decode cX11_less 53 = .ok (.goto 4, 3) := by decide +kernel
theorem dX11_less_56 : decode cX11_less 56 = .ok (.iconst 0, 1) := by decide +kernel
theorem dX11_less_57 : decode cX11_less 57 = .ok (.isub, 1) := by decide +kernel
theorem dX11_less_58 : decode cX11_less 58 = .ok (.iload_n 3, 1) := by decide +kernel
theorem dX11_less_59 : decode cX11_less 59 = .ok (.isub, 1) := by decide +kernel
theorem dX11_less_60 : decode cX11_less 60 = .ok (.istore 5, 2) := by decide +kernel
theorem dX11_less_62 : decode cX11_less 62 = .ok (.aload_n 0, 1) := by decide +kernel
theorem dX11_less_63 : decode cX11_less 63 = .ok (.getfield 76, 3) := by decide +kernel
theorem dX11_less_66 : decode cX11_less 66 = .ok (.sipush 1200, 3) := by decide +kernel
theorem dX11_less_69 : decode cX11_less 69 = .ok (.iload_n 1, 1) := by decide +kernel
theorem dX11_less_70 : decode cX11_less 70 = .ok (.imul, 1) := by decide +kernel
theorem dX11_less_71 : decode cX11_less 71 = .ok (.iload 4, 2) := by decide +kernel
theorem dX11_less_73 : decode cX11_less 73 = .ok (.iadd, 1) := by decide +kernel
theorem dX11_less_74 : decode cX11_less 74 = .ok (.iload 5, 2) := by decide +kernel
theorem dX11_less_76 : decode cX11_less 76 = .ok (.ldc 194, 2) := by decide +kernel
theorem dX11_less_78 : decode cX11_less 78 = .ok (.iand, 1) := by decide +kernel
theorem dX11_less_79 : decode cX11_less 79 = .ok (.iastore, 1) := by decide +kernel
theorem dX11_less_80 : decode cX11_less 80 = .ok (.iload 5, 2) := by decide +kernel
theorem dX11_less_82 : decode cX11_less 82 = .ok (.ifCond .ge 7, 3) := by decide +kernel
theorem dX11_less_85 : decode cX11_less 85 = .ok (.iconst 1, 1) := by decide +kernel
theorem dX11_less_86 : decode cX11_less 86 = .ok (.goto 4, 3) := by decide +kernel
theorem dX11_less_89 : decode cX11_less 89 = .ok (.iconst 0, 1) := by decide +kernel
theorem dX11_less_90 : decode cX11_less 90 = .ok (.istore_n 3, 1) := by decide +kernel
theorem dX11_less_91 : decode cX11_less 91 = .ok (.iinc 4 1, 3) := by decide +kernel
theorem dX11_less_94 : decode cX11_less 94 = .ok (.goto (-89), 3) := by decide +kernel
theorem dX11_less_97 : decode cX11_less 97 = .ok (.aload_n 0, 1) := by decide +kernel
theorem dX11_less_98 : decode cX11_less 98 = .ok (.iload_n 1, 1) := by decide +kernel
theorem dX11_less_99 : decode cX11_less 99 = .ok (.invokevirtual 188, 3) := by decide +kernel
theorem dX11_less_102 : decode cX11_less 102 = .ok (.return_, 1) := by decide +kernel
theorem dX11_halve_0 : decode cX11_halve 0 = .ok (.iconst 0, 1) := by decide +kernel
theorem dX11_halve_1 : decode cX11_halve 1 = .ok (.istore_n 2, 1) := by decide +kernel
theorem dX11_halve_2 : decode cX11_halve 2 = .ok (.iload_n 2, 1) := by decide +kernel
theorem dX11_halve_3 : decode cX11_halve 3 = .ok (.aload_n 0, 1) := by decide +kernel
theorem dX11_halve_4 : decode cX11_halve 4 = .ok (.getfield 79, 3) := by decide +kernel
theorem dX11_halve_7 : decode cX11_halve 7 = .ok (.iload_n 1, 1) := by decide +kernel
theorem dX11_halve_8 : decode cX11_halve 8 = .ok (.iaload, 1) := by decide +kernel
theorem dX11_halve_9 : decode cX11_halve 9 = .ok (.if_icmp .ge 24, 3) := by decide +kernel
theorem dX11_halve_12 : decode cX11_halve 12 = .ok (.aload_n 0, 1) := by decide +kernel
theorem dX11_halve_13 : decode cX11_halve 13 = .ok (.getfield 76, 3) := by decide +kernel
theorem dX11_halve_16 : decode cX11_halve 16 = .ok (.sipush 1200, 3) := by decide +kernel
theorem dX11_halve_19 : decode cX11_halve 19 = .ok (.iload_n 1, 1) := by decide +kernel
theorem dX11_halve_20 : decode cX11_halve 20 = .ok (.imul, 1) := by decide +kernel
theorem dX11_halve_21 : decode cX11_halve 21 = .ok (.iload_n 2, 1) := by decide +kernel
theorem dX11_halve_22 : decode cX11_halve 22 = .ok (.iadd, 1) := by decide +kernel
theorem dX11_halve_23 : decode cX11_halve 23 = .ok (.iaload, 1) := by decide +kernel
theorem dX11_halve_24 : decode cX11_halve 24 = .ok (.ifCond .ne 9, 3) := by decide +kernel
theorem dX11_halve_27 : decode cX11_halve 27 = .ok (.iinc 2 1, 3) := by decide +kernel
theorem dX11_halve_30 : decode cX11_halve 30 = .ok (.goto (-28), 3) := by decide +kernel
theorem dX11_halve_33 : decode cX11_halve 33 = .ok (.aload_n 0, 1) := by decide +kernel
theorem dX11_halve_34 : decode cX11_halve 34 = .ok (.getfield 79, 3) := by decide +kernel
theorem dX11_halve_37 : decode cX11_halve 37 = .ok (.iload_n 1, 1) := by decide +kernel
theorem dX11_halve_38 : decode cX11_halve 38 = .ok (.iaload, 1) := by decide +kernel
theorem dX11_halve_39 : decode cX11_halve 39 = .ok (.ifCond .ne 5, 3) := by decide +kernel
theorem dX11_halve_42 : decode cX11_halve 42 = .ok (.iconst 0, 1) := by decide +kernel
theorem dX11_halve_43 : decode cX11_halve 43 = .ok (.ireturn, 1) := by decide +kernel
theorem dX11_halve_44 : decode cX11_halve 44 = .ok (.iconst 0, 1) := by decide +kernel
theorem dX11_halve_45 : decode cX11_halve 45 = .ok (.istore_n 3, 1) := by decide +kernel
theorem dX11_halve_46 : decode cX11_halve 46 = .ok (.aload_n 0, 1) := by decide +kernel
theorem dX11_halve_47 : decode cX11_halve 47 = .ok (.getfield 76, 3) := by decide +kernel
theorem dX11_halve_50 : decode cX11_halve 50 = .ok (.sipush 1200, 3) := by decide +kernel
theorem dX11_halve_53 : decode cX11_halve 53 = .ok (.iload_n 1, 1) := by decide +kernel
theorem dX11_halve_54 : decode cX11_halve 54 = .ok (.imul, 1) := by decide +kernel
theorem dX11_halve_55 : decode cX11_halve 55 = .ok (.iload_n 2, 1) := by decide +kernel
theorem dX11_halve_56 : decode cX11_halve 56 = .ok (.iadd, 1) := by decide +kernel
theorem dX11_halve_57 : decode cX11_halve 57 = .ok (.iaload, 1) := by decide +kernel
theorem dX11_halve_58 : decode cX11_halve 58 = .ok (.iload_n 3, 1) := by decide +kernel
theorem dX11_halve_59 : decode cX11_halve 59 = .ok (.ishr, 1) := by decide +kernel
theorem dX11_halve_60 : decode cX11_halve 60 = .ok (.iconst 1, 1) := by decide +kernel
theorem dX11_halve_61 : decode cX11_halve 61 = .ok (.iand, 1) := by decide +kernel
theorem dX11_halve_62 : decode cX11_halve 62 = .ok (.ifCond .ne 9, 3) := by decide +kernel
theorem dX11_halve_65 : decode cX11_halve 65 = .ok (.iinc 3 1, 3) := by decide +kernel
theorem dX11_halve_68 : decode cX11_halve 68 = .ok (.goto (-22), 3) := by decide +kernel
theorem dX11_halve_71 : decode cX11_halve 71 = .ok (.aload_n 0, 1) := by decide +kernel
theorem dX11_halve_72 : decode cX11_halve 72 = .ok (.getfield 79, 3) := by decide +kernel
theorem dX11_halve_75 : decode cX11_halve 75 = .ok (.iload_n 1, 1) := by decide +kernel
theorem dX11_halve_76 : decode cX11_halve 76 = .ok (.iaload, 1) := by decide +kernel
theorem dX11_halve_77 : decode cX11_halve 77 = .ok (.iload_n 2, 1) := by decide +kernel
theorem dX11_halve_78 : decode cX11_halve 78 = .ok (.isub, 1) := by decide +kernel
theorem dX11_halve_79 : decode cX11_halve 79 = .ok (.istore 4, 2) := by decide +kernel
theorem dX11_halve_81 : decode cX11_halve 81 = .ok (.iconst 0, 1) := by decide +kernel
theorem dX11_halve_82 : decode cX11_halve 82 = .ok (.istore 5, 2) := by decide +kernel
theorem dX11_halve_84 : decode cX11_halve 84 = .ok (.iload 5, 2) := by decide +kernel
theorem dX11_halve_86 : decode cX11_halve 86 = .ok (.iload 4, 2) := by decide +kernel
theorem dX11_halve_88 : decode cX11_halve 88 = .ok (.if_icmp .ge 80, 3) := by decide +kernel
theorem dX11_halve_91 : decode cX11_halve 91 = .ok (.aload_n 0, 1) := by decide +kernel
theorem dX11_halve_92 : decode cX11_halve 92 = .ok (.getfield 76, 3) := by decide +kernel
theorem dX11_halve_95 : decode cX11_halve 95 = .ok (.sipush 1200, 3) := by decide +kernel
theorem dX11_halve_98 : decode cX11_halve 98 = .ok (.iload_n 1, 1) := by decide +kernel
theorem dX11_halve_99 : decode cX11_halve 99 = .ok (.imul, 1) := by decide +kernel
theorem dX11_halve_100 : decode cX11_halve 100 = .ok (.iload_n 2, 1) := by decide +kernel
theorem dX11_halve_101 : decode cX11_halve 101 = .ok (.iadd, 1) := by decide +kernel
theorem dX11_halve_102 : decode cX11_halve 102 = .ok (.iload 5, 2) := by decide +kernel
theorem dX11_halve_104 : decode cX11_halve 104 = .ok (.iadd, 1) := by decide +kernel
theorem dX11_halve_105 : decode cX11_halve 105 = .ok (.iaload, 1) := by decide +kernel
theorem dX11_halve_106 : decode cX11_halve 106 = .ok (.iload 5, 2) := by decide +kernel
theorem dX11_halve_108 : decode cX11_halve 108 = .ok (.iconst 1, 1) := by decide +kernel
theorem dX11_halve_109 : decode cX11_halve 109 = .ok (.iadd, 1) := by decide +kernel
theorem dX11_halve_110 : decode cX11_halve 110 = .ok (.iload 4, 2) := by decide +kernel
theorem dX11_halve_112 : decode cX11_halve 112 = .ok (.if_icmp .ge 26, 3) := by decide +kernel
theorem dX11_halve_115 : decode cX11_halve 115 = .ok (.aload_n 0, 1) := by decide +kernel
theorem dX11_halve_116 : decode cX11_halve 116 = .ok (.getfield 76, 3) := by decide +kernel
theorem dX11_halve_119 : decode cX11_halve 119 = .ok (.sipush 1200, 3) := by decide +kernel
theorem dX11_halve_122 : decode cX11_halve 122 = .ok (.iload_n 1, 1) := by decide +kernel
theorem dX11_halve_123 : decode cX11_halve 123 = .ok (.imul, 1) := by decide +kernel
theorem dX11_halve_124 : decode cX11_halve 124 = .ok (.iload_n 2, 1) := by decide +kernel
theorem dX11_halve_125 : decode cX11_halve 125 = .ok (.iadd, 1) := by decide +kernel
theorem dX11_halve_126 : decode cX11_halve 126 = .ok (.iload 5, 2) := by decide +kernel
theorem dX11_halve_128 : decode cX11_halve 128 = .ok (.iadd, 1) := by decide +kernel
theorem dX11_halve_129 : decode cX11_halve 129 = .ok (.iconst 1, 1) := by decide +kernel
theorem dX11_halve_130 : decode cX11_halve 130 = .ok (.iadd, 1) := by decide +kernel
theorem dX11_halve_131 : decode cX11_halve 131 = .ok (.iaload, 1) := by decide +kernel
theorem dX11_halve_132 : decode cX11_halve 132 = .ok (.bipush 16, 2) := by decide +kernel
theorem dX11_halve_134 : decode cX11_halve 134 = .ok (.ishl, 1) := by decide +kernel
theorem dX11_halve_135 : decode cX11_halve 135 = .ok (.goto 4, 3) := by decide +kernel
theorem dX11_halve_138 : decode cX11_halve 138 = .ok (.iconst 0, 1) := by decide +kernel
theorem dX11_halve_139 : decode cX11_halve 139 = .ok (.ior, 1) := by decide +kernel
theorem dX11_halve_140 : decode cX11_halve 140 = .ok (.istore 6, 2) := by decide +kernel
theorem dX11_halve_142 : decode cX11_halve 142 = .ok (.aload_n 0, 1) := by decide +kernel
theorem dX11_halve_143 : decode cX11_halve 143 = .ok (.getfield 76, 3) := by decide +kernel
theorem dX11_halve_146 : decode cX11_halve 146 = .ok (.sipush 1200, 3) := by decide +kernel
theorem dX11_halve_149 : decode cX11_halve 149 = .ok (.iload_n 1, 1) := by decide +kernel
theorem dX11_halve_150 : decode cX11_halve 150 = .ok (.imul, 1) := by decide +kernel
theorem dX11_halve_151 : decode cX11_halve 151 = .ok (.iload 5, 2) := by decide +kernel
theorem dX11_halve_153 : decode cX11_halve 153 = .ok (.iadd, 1) := by decide +kernel
theorem dX11_halve_154 : decode cX11_halve 154 = .ok (.iload 6, 2) := by decide +kernel
theorem dX11_halve_156 : decode cX11_halve 156 = .ok (.iload_n 3, 1) := by decide +kernel
theorem dX11_halve_157 : decode cX11_halve 157 = .ok (.iushr, 1) := by decide +kernel
theorem dX11_halve_158 : decode cX11_halve 158 = .ok (.ldc 194, 2) := by decide +kernel
theorem dX11_halve_160 : decode cX11_halve 160 = .ok (.iand, 1) := by decide +kernel
theorem dX11_halve_161 : decode cX11_halve 161 = .ok (.iastore, 1) := by decide +kernel
theorem dX11_halve_162 : decode cX11_halve 162 = .ok (.iinc 5 1, 3) := by decide +kernel
theorem dX11_halve_165 : decode cX11_halve 165 = .ok (.goto (-81), 3) := by decide +kernel
theorem dX11_halve_168 : decode cX11_halve 168 = .ok (.aload_n 0, 1) := by decide +kernel
theorem dX11_halve_169 : decode cX11_halve 169 = .ok (.getfield 79, 3) := by decide +kernel
theorem dX11_halve_172 : decode cX11_halve 172 = .ok (.iload_n 1, 1) := by decide +kernel
theorem dX11_halve_173 : decode cX11_halve 173 = .ok (.iload 4, 2) := by decide +kernel
theorem dX11_halve_175 : decode cX11_halve 175 = .ok (.iastore, 1) := by decide +kernel
theorem dX11_halve_176 : decode cX11_halve 176 = .ok (.aload_n 0, 1) := by decide +kernel
theorem dX11_halve_177 : decode cX11_halve 177 = .ok (.iload_n 1, 1) := by decide +kernel
theorem dX11_halve_178 : decode cX11_halve 178 = .ok (.invokevirtual 188, 3) := by decide +kernel
theorem dX11_halve_181 : decode cX11_halve 181 = .ok (.bipush 16, 2) := by decide +kernel
theorem dX11_halve_183 : decode cX11_halve 183 = .ok (.iload_n 2, 1) := by decide +kernel
theorem dX11_halve_184 : decode cX11_halve 184 = .ok (.imul, 1) := by decide +kernel
theorem dX11_halve_185 : decode cX11_halve 185 = .ok (.iload_n 3, 1) := by decide +kernel
theorem dX11_halve_186 : decode cX11_halve 186 = .ok (.iadd, 1) := by decide +kernel
theorem dX11_halve_187 : decode cX11_halve 187 = .ok (.ireturn, 1) := by decide +kernel
theorem dX11_twice_0 : decode cX11_twice 0 = .ok (.iload_n 2, 1) := by decide +kernel
theorem dX11_twice_1 : decode cX11_twice 1 = .ok (.istore_n 3, 1) := by decide +kernel
theorem dX11_twice_2 : decode cX11_twice 2 = .ok (.iload_n 3, 1) := by decide +kernel
theorem dX11_twice_3 : decode cX11_twice 3 = .ok (.ifCond .le 40, 3) := by decide +kernel
theorem dX11_twice_6 : decode cX11_twice 6 = .ok (.aload_n 0, 1) := by decide +kernel
theorem dX11_twice_7 : decode cX11_twice 7 = .ok (.iload_n 1, 1) := by decide +kernel
theorem dX11_twice_8 : decode cX11_twice 8 = .ok (.lconst 1, 1) := by decide +kernel
theorem dX11_twice_9 : decode cX11_twice 9 = .ok (.iload_n 3, 1) := by decide +kernel
theorem dX11_twice_10 : decode cX11_twice 10 = .ok (.bipush 40, 2) := by decide +kernel
theorem dX11_twice_12 : decode cX11_twice 12 = .ok (.if_icmp .le 8, 3) := by decide +kernel
theorem dX11_twice_15 : decode cX11_twice 15 = .ok (.bipush 40, 2) := by decide +kernel
theorem dX11_twice_17 : decode cX11_twice 17 = .ok (.goto 4, 3) := by decide +kernel
theorem dX11_twice_20 : decode cX11_twice 20 = .ok (.iload_n 3, 1) := by decide +kernel
theorem dX11_twice_21 : decode cX11_twice 21 = .ok (.lshl, 1) := by decide +kernel
theorem dX11_twice_22 : decode cX11_twice 22 = .ok (.invokevirtual 192, 3) := by decide +kernel
theorem dX11_twice_25 : decode cX11_twice 25 = .ok (.iload_n 3, 1) := by decide +kernel
theorem dX11_twice_26 : decode cX11_twice 26 = .ok (.iload_n 3, 1) := by decide +kernel
theorem dX11_twice_27 : decode cX11_twice 27 = .ok (.bipush 40, 2) := by decide +kernel
theorem dX11_twice_29 : decode cX11_twice 29 = .ok (.if_icmp .le 8, 3) := by decide +kernel
theorem dX11_twice_32 : decode cX11_twice 32 = .ok (.bipush 40, 2) := by decide +kernel
theorem dX11_twice_34 : decode cX11_twice 34 = .ok (.goto 4, 3) := by decide +kernel
theorem dX11_twice_37 : decode cX11_twice 37 = .ok (.iload_n 3, 1) := by decide +kernel
theorem dX11_twice_38 : decode cX11_twice 38 = .ok (.isub, 1) := by decide +kernel
theorem dX11_twice_39 : decode cX11_twice 39 = .ok (.istore_n 3, 1) := by decide +kernel
theorem dX11_twice_40 : decode cX11_twice 40 = .ok (.goto (-38), 3) := by decide +kernel
theorem dX11_twice_43 : decode cX11_twice 43 = .ok (.return_, 1) := by decide +kernel
theorem dX11_common_0 : decode cX11_common 0 = .ok (.aload_n 0, 1) := by decide +kernel
theorem dX11_common_1 : decode cX11_common 1 = .ok (.iconst 4, 1) := by decide +kernel
theorem dX11_common_2 : decode cX11_common 2 = .ok (.iconst 0, 1) := by decide +kernel
theorem dX11_common_3 : decode cX11_common 3 = .ok (.invokevirtual 195, 3) := by decide +kernel
theorem dX11_common_6 : decode cX11_common 6 = .ok (.aload_n 0, 1) := by decide +kernel
theorem dX11_common_7 : decode cX11_common 7 = .ok (.iconst 5, 1) := by decide +kernel
theorem dX11_common_8 : decode cX11_common 8 = .ok (.iconst 1, 1) := by decide +kernel
theorem dX11_common_9 : decode cX11_common 9 = .ok (.invokevirtual 195, 3) := by decide +kernel
theorem dX11_common_12 : decode cX11_common 12 = .ok (.aload_n 0, 1) := by decide +kernel
theorem dX11_common_13 : decode cX11_common 13 = .ok (.iconst 4, 1) := by decide +kernel
theorem dX11_common_14 : decode cX11_common 14 = .ok (.invokevirtual 199, 3) := by decide +kernel
theorem dX11_common_17 : decode cX11_common 17 = .ok (.istore_n 1, 1) := by decide +kernel
theorem dX11_common_18 : decode cX11_common 18 = .ok (.aload_n 0, 1) := by decide +kernel
theorem dX11_common_19 : decode cX11_common 19 = .ok (.iconst 5, 1) := by decide +kernel
theorem dX11_common_20 : decode cX11_common 20 = .ok (.invokevirtual 199, 3) := by decide +kernel
theorem dX11_common_23 : decode cX11_common 23 = .ok (.istore_n 2, 1) := by decide +kernel
theorem dX11_common_24 : decode cX11_common 24 = .ok (.aload_n 0, 1) := by decide +kernel
theorem dX11_common_25 : decode cX11_common 25 = .ok (.getfield 79, 3) := by decide +kernel
theorem dX11_common_28 : decode cX11_common 28 = .ok (.iconst 5, 1) := by decide +kernel
theorem dX11_common_29 : decode cX11_common 29 = .ok (.iaload, 1) := by decide +kernel
theorem dX11_common_30 : decode cX11_common 30 = .ok (.ifCond .le 46, 3) := by decide +kernel
theorem dX11_common_33 : decode cX11_common 33 = .ok (.aload_n 0, 1) := by decide +kernel
theorem dX11_common_34 : decode cX11_common 34 = .ok (.iconst 4, 1) := by decide +kernel
theorem dX11_common_35 : decode cX11_common 35 = .ok (.iconst 5, 1) := by decide +kernel
theorem dX11_common_36 : decode cX11_common 36 = .ok (.invokevirtual 203, 3) := by decide +kernel
theorem dX11_common_39 : decode cX11_common 39 = .ok (.istore_n 3, 1) := by decide +kernel
theorem dX11_common_40 : decode cX11_common 40 = .ok (.iload_n 3, 1) := by decide +kernel
theorem dX11_common_41 : decode cX11_common 41 = .ok (.ifCond .le 19, 3) := by decide +kernel
theorem dX11_common_44 : decode cX11_common 44 = .ok (.aload_n 0, 1) := by decide +kernel
theorem dX11_common_45 : decode cX11_common 45 = .ok (.iconst 4, 1) := by decide +kernel
theorem dX11_common_46 : decode cX11_common 46 = .ok (.iconst 5, 1) := by decide +kernel
theorem dX11_common_47 : decode cX11_common 47 = .ok (.invokevirtual 207, 3) := by decide +kernel
theorem dX11_common_50 : decode cX11_common 50 = .ok (.aload_n 0, 1) := by decide +kernel
theorem dX11_common_51 : decode cX11_common 51 = .ok (.iconst 4, 1) := by decide +kernel
theorem dX11_common_52 : decode cX11_common 52 = .ok (.invokevirtual 199, 3) := by decide +kernel
theorem dX11_common_55 : decode cX11_common 55 = .ok (.istore 4, 2) := by decide +kernel
theorem dX11_common_57 : decode cX11_common 57 = .ok (.goto 16, 3) := by decide +kernel
theorem dX11_common_60 : decode cX11_common 60 = .ok (.aload_n 0, 1) := by decide +kernel
theorem dX11_common_61 : decode cX11_common 61 = .ok (.iconst 5, 1) := by decide +kernel
theorem dX11_common_62 : decode cX11_common 62 = .ok (.iconst 4, 1) := by decide +kernel
theorem dX11_common_63 : decode cX11_common 63 = .ok (.invokevirtual 207, 3) := by decide +kernel
theorem dX11_common_66 : decode cX11_common 66 = .ok (.aload_n 0, 1) := by decide +kernel
theorem dX11_common_67 : decode cX11_common 67 = .ok (.iconst 5, 1) := by decide +kernel
theorem dX11_common_68 : decode cX11_common 68 = .ok (.invokevirtual 199, 3) := by decide +kernel
theorem dX11_common_71 : decode cX11_common 71 = .ok (.istore 4, 2) := by decide +kernel
theorem dX11_common_73 : decode cX11_common 73 = .ok (.goto (-49), 3) := by decide +kernel
theorem dX11_common_76 : decode cX11_common 76 = .ok (.aload_n 0, 1) := by decide +kernel
theorem dX11_common_77 : decode cX11_common 77 = .ok (.iconst 4, 1) := by decide +kernel
theorem dX11_common_78 : decode cX11_common 78 = .ok (.iload_n 1, 1) := by decide +kernel
theorem dX11_common_79 : decode cX11_common 79 = .ok (.iload_n 2, 1) := by decide +kernel
theorem dX11_common_80 : decode cX11_common 80 = .ok (.if_icmp .ge 7, 3) := by decide +kernel
theorem dX11_common_83 : decode cX11_common 83 = .ok (.iload_n 1, 1) := by decide +kernel
theorem dX11_common_84 : decode cX11_common 84 = .ok (.goto 4, 3) := by decide +kernel
theorem dX11_common_87 : decode cX11_common 87 = .ok (.iload_n 2, 1) := by decide +kernel
theorem dX11_common_88 : decode cX11_common 88 = .ok (.invokevirtual 210, 3) := by decide +kernel
theorem dX11_common_91 : decode cX11_common 91 = .ok (.return_, 1) := by decide +kernel
theorem dX11_divide_0 : decode cX11_divide 0 = .ok (.aload_n 0, 1) := by decide +kernel
theorem dX11_divide_1 : decode cX11_divide 1 = .ok (.getfield 79, 3) := by decide +kernel
theorem dX11_divide_4 : decode cX11_divide 4 = .ok (.iload_n 2, 1) := by decide +kernel
theorem dX11_divide_5 : decode cX11_divide 5 = .ok (.iaload, 1) := by decide +kernel
theorem dX11_divide_6 : decode cX11_divide 6 = .ok (.istore_n 3, 1) := by decide +kernel
theorem dX11_divide_7 : decode cX11_divide 7 = .ok (.iconst 0, 1) := by decide +kernel
theorem dX11_divide_8 : decode cX11_divide 8 = .ok (.istore 4, 2) := by decide +kernel
theorem dX11_divide_10 : decode cX11_divide 10 = .ok (.aload_n 0, 1) := by decide +kernel
theorem dX11_divide_11 : decode cX11_divide 11 = .ok (.getfield 76, 3) := by decide +kernel
theorem dX11_divide_14 : decode cX11_divide 14 = .ok (.sipush 1200, 3) := by decide +kernel
theorem dX11_divide_17 : decode cX11_divide 17 = .ok (.iload_n 2, 1) := by decide +kernel
theorem dX11_divide_18 : decode cX11_divide 18 = .ok (.imul, 1) := by decide +kernel
theorem dX11_divide_19 : decode cX11_divide 19 = .ok (.iload_n 3, 1) := by decide +kernel
theorem dX11_divide_20 : decode cX11_divide 20 = .ok (.iadd, 1) := by decide +kernel
theorem dX11_divide_21 : decode cX11_divide 21 = .ok (.iconst 1, 1) := by decide +kernel
theorem dX11_divide_22 : decode cX11_divide 22 = .ok (.isub, 1) := by decide +kernel
theorem dX11_divide_23 : decode cX11_divide 23 = .ok (.iaload, 1) := by decide +kernel
theorem dX11_divide_24 : decode cX11_divide 24 = .ok (.iload 4, 2) := by decide +kernel
theorem dX11_divide_26 : decode cX11_divide 26 = .ok (.ishl, 1) := by decide +kernel
theorem dX11_divide_27 : decode cX11_divide 27 = .ok (.ldc 213, 2) := by decide +kernel
theorem dX11_divide_29 : decode cX11_divide 29 = .ok (.iand, 1) := by decide +kernel
theorem dX11_divide_30 : decode cX11_divide 30 = .ok (.ifCond .ne 9, 3) := by decide +kernel
theorem dX11_divide_33 : decode cX11_divide 33 = .ok (.iinc 4 1, 3) := by decide +kernel
theorem dX11_divide_36 : decode cX11_divide 36 = .ok (.goto (-26), 3) := by decide +kernel
theorem dX11_divide_39 : decode cX11_divide 39 = .ok (.aload_n 0, 1) := by decide +kernel
theorem dX11_divide_40 : decode cX11_divide 40 = .ok (.iconst 2, 1) := by decide +kernel
theorem dX11_divide_41 : decode cX11_divide 41 = .ok (.iload_n 2, 1) := by decide +kernel
theorem dX11_divide_42 : decode cX11_divide 42 = .ok (.invokevirtual 195, 3) := by decide +kernel
theorem dX11_divide_45 : decode cX11_divide 45 = .ok (.aload_n 0, 1) := by decide +kernel
theorem dX11_divide_46 : decode cX11_divide 46 = .ok (.iconst 2, 1) := by decide +kernel
theorem dX11_divide_47 : decode cX11_divide 47 = .ok (.lconst 1, 1) := by decide +kernel
theorem dX11_divide_48 : decode cX11_divide 48 = .ok (.iload 4, 2) := by decide +kernel
theorem dX11_divide_50 : decode cX11_divide 50 = .ok (.lshl, 1) := by decide +kernel
theorem dX11_divide_51 : decode cX11_divide 51 = .ok (.invokevirtual 192, 3) := by decide +kernel
theorem dX11_divide_54 : decode cX11_divide 54 = .ok (.aload_n 0, 1) := by decide +kernel
theorem dX11_divide_55 : decode cX11_divide 55 = .ok (.iconst 3, 1) := by decide +kernel
theorem dX11_divide_56 : decode cX11_divide 56 = .ok (.iload_n 1, 1) := by decide +kernel
theorem dX11_divide_57 : decode cX11_divide 57 = .ok (.invokevirtual 195, 3) := by decide +kernel
theorem dX11_divide_60 : decode cX11_divide 60 = .ok (.aload_n 0, 1) := by decide +kernel
theorem dX11_divide_61 : decode cX11_divide 61 = .ok (.iconst 3, 1) := by decide +kernel
theorem dX11_divide_62 : decode cX11_divide 62 = .ok (.lconst 1, 1) := by decide +kernel
theorem dX11_divide_63 : decode cX11_divide 63 = .ok (.iload 4, 2) := by decide +kernel
theorem dX11_divide_65 : decode cX11_divide 65 = .ok (.lshl, 1) := by decide +kernel
theorem dX11_divide_66 : decode cX11_divide 66 = .ok (.invokevirtual 192, 3) := by decide +kernel
theorem dX11_divide_69 : decode cX11_divide 69 = .ok (.aload_n 0, 1) := by decide +kernel
theorem dX11_divide_70 : decode cX11_divide 70 = .ok (.getfield 79, 3) := by decide +kernel
theorem dX11_divide_73 : decode cX11_divide 73 = .ok (.iconst 3, 1) := by decide +kernel
theorem dX11_divide_74 : decode cX11_divide 74 = .ok (.iaload, 1) := by decide +kernel
theorem dX11_divide_75 : decode cX11_divide 75 = .ok (.iload_n 3, 1) := by decide +kernel
theorem dX11_divide_76 : decode cX11_divide 76 = .ok (.isub, 1) := by decide +kernel
theorem dX11_divide_77 : decode cX11_divide 77 = .ok (.istore 5, 2) := by decide +kernel
theorem dX11_divide_79 : decode cX11_divide 79 = .ok (.aload_n 0, 1) := by decide +kernel
theorem dX11_divide_80 : decode cX11_divide 80 = .ok (.getfield 76, 3) := by decide +kernel
theorem dX11_divide_83 : decode cX11_divide 83 = .ok (.sipush 3600, 3) := by decide +kernel
theorem dX11_divide_86 : decode cX11_divide 86 = .ok (.aload_n 0, 1) := by decide +kernel
theorem dX11_divide_87 : decode cX11_divide 87 = .ok (.getfield 79, 3) := by decide +kernel
theorem dX11_divide_90 : decode cX11_divide 90 = .ok (.iconst 3, 1) := by decide +kernel
theorem dX11_divide_91 : decode cX11_divide 91 = .ok (.iaload, 1) := by decide +kernel
theorem dX11_divide_92 : decode cX11_divide 92 = .ok (.iadd, 1) := by decide +kernel
theorem dX11_divide_93 : decode cX11_divide 93 = .ok (.iconst 0, 1) := by decide +kernel
theorem dX11_divide_94 : decode cX11_divide 94 = .ok (.iastore, 1) := by decide +kernel
theorem dX11_divide_95 : decode cX11_divide 95 = .ok (.aload_n 0, 1) := by decide +kernel
theorem dX11_divide_96 : decode cX11_divide 96 = .ok (.getfield 79, 3) := by decide +kernel
theorem dX11_divide_99 : decode cX11_divide 99 = .ok (.iload_n 1, 1) := by decide +kernel
theorem dX11_divide_100 : decode cX11_divide 100 = .ok (.iload 5, 2) := by decide +kernel
theorem dX11_divide_102 : decode cX11_divide 102 = .ok (.iconst 1, 1) := by decide +kernel
theorem dX11_divide_103 : decode cX11_divide 103 = .ok (.iadd, 1) := by decide +kernel
theorem dX11_divide_104 : decode cX11_divide 104 = .ok (.iastore, 1) := by decide +kernel
theorem dX11_divide_105 : decode cX11_divide 105 = .ok (.aload_n 0, 1) := by decide +kernel
theorem dX11_divide_106 : decode cX11_divide 106 = .ok (.getfield 76, 3) := by decide +kernel
theorem dX11_divide_109 : decode cX11_divide 109 = .ok (.sipush 2400, 3) := by decide +kernel
theorem dX11_divide_112 : decode cX11_divide 112 = .ok (.iload_n 3, 1) := by decide +kernel
theorem dX11_divide_113 : decode cX11_divide 113 = .ok (.iadd, 1) := by decide +kernel
theorem dX11_divide_114 : decode cX11_divide 114 = .ok (.iconst 1, 1) := by decide +kernel
theorem dX11_divide_115 : decode cX11_divide 115 = .ok (.isub, 1) := by decide +kernel
theorem dX11_divide_116 : decode cX11_divide 116 = .ok (.iaload, 1) := by decide +kernel
theorem dX11_divide_117 : decode cX11_divide 117 = .ok (.i2l, 1) := by decide +kernel
theorem dX11_divide_118 : decode cX11_divide 118 = .ok (.lstore 6, 2) := by decide +kernel
theorem dX11_divide_120 : decode cX11_divide 120 = .ok (.iload 5, 2) := by decide +kernel
theorem dX11_divide_122 : decode cX11_divide 122 = .ok (.istore 8, 2) := by decide +kernel
theorem dX11_divide_124 : decode cX11_divide 124 = .ok (.iload 8, 2) := by decide +kernel
theorem dX11_divide_126 : decode cX11_divide 126 = .ok (.ifCond .lt 307, 3) := by decide +kernel
theorem dX11_divide_129 : decode cX11_divide 129 = .ok (.aload_n 0, 1) := by decide +kernel
theorem dX11_divide_130 : decode cX11_divide 130 = .ok (.getfield 76, 3) := by decide +kernel
theorem dX11_divide_133 : decode cX11_divide 133 = .ok (.sipush 3600, 3) := by decide +kernel
theorem dX11_divide_136 : decode cX11_divide 136 = .ok (.iload 8, 2) := by decide +kernel
theorem dX11_divide_138 : decode cX11_divide 138 = .ok (.iadd, 1) := by decide +kernel
theorem dX11_divide_139 : decode cX11_divide 139 = .ok (.iload_n 3, 1) := by decide +kernel
theorem dX11_divide_140 : decode cX11_divide 140 = .ok (.iadd, 1) := by decide +kernel
theorem dX11_divide_141 : decode cX11_divide 141 = .ok (.iaload, 1) := by decide +kernel
theorem dX11_divide_142 : decode cX11_divide 142 = .ok (.i2l, 1) := by decide +kernel
theorem dX11_divide_143 : decode cX11_divide 143 = .ok (.bipush 16, 2) := by decide +kernel
theorem dX11_divide_145 : decode cX11_divide 145 = .ok (.lshl, 1) := by decide +kernel
theorem dX11_divide_146 : decode cX11_divide 146 = .ok (.aload_n 0, 1) := by decide +kernel
theorem dX11_divide_147 : decode cX11_divide 147 = .ok (.getfield 76, 3) := by decide +kernel
theorem dX11_divide_150 : decode cX11_divide 150 = .ok (.sipush 3600, 3) := by decide +kernel
theorem dX11_divide_153 : decode cX11_divide 153 = .ok (.iload 8, 2) := by decide +kernel
theorem dX11_divide_155 : decode cX11_divide 155 = .ok (.iadd, 1) := by decide +kernel
theorem dX11_divide_156 : decode cX11_divide 156 = .ok (.iload_n 3, 1) := by decide +kernel
theorem dX11_divide_157 : decode cX11_divide 157 = .ok (.iadd, 1) := by decide +kernel
theorem dX11_divide_158 : decode cX11_divide 158 = .ok (.iconst 1, 1) := by decide +kernel
theorem dX11_divide_159 : decode cX11_divide 159 = .ok (.isub, 1) := by decide +kernel
theorem dX11_divide_160 : decode cX11_divide 160 = .ok (.iaload, 1) := by decide +kernel
theorem dX11_divide_161 : decode cX11_divide 161 = .ok (.i2l, 1) := by decide +kernel
theorem dX11_divide_162 : decode cX11_divide 162 = .ok (.ladd, 1) := by decide +kernel
theorem dX11_divide_163 : decode cX11_divide 163 = .ok (.lstore 9, 2) := by decide +kernel
theorem dX11_divide_165 : decode cX11_divide 165 = .ok (.lload 9, 2) := by decide +kernel
theorem dX11_divide_167 : decode cX11_divide 167 = .ok (.lload 6, 2) := by decide +kernel
theorem dX11_divide_169 : decode cX11_divide 169 = .ok (.ldiv, 1) := by decide +kernel
theorem dX11_divide_170 : decode cX11_divide 170 = .ok (.lstore 11, 2) := by decide +kernel
theorem dX11_divide_172 : decode cX11_divide 172 = .ok (.lload 11, 2) := by decide +kernel
theorem dX11_divide_174 : decode cX11_divide 174 = .ok (.ldc2_w 186, 3) := by decide +kernel
theorem dX11_divide_177 : decode cX11_divide 177 = .ok (.lcmp, 1) := by decide +kernel
theorem dX11_divide_178 : decode cX11_divide 178 = .ok (.ifCond .le 9, 3) := by decide +kernel
theorem dX11_divide_181 : decode cX11_divide 181 = .ok (.ldc2_w 186, 3) := by decide +kernel
theorem dX11_divide_184 : decode cX11_divide 184 = .ok (.goto 5, 3) := by decide +kernel
theorem dX11_divide_187 : decode cX11_divide 187 = .ok (.lload 11, 2) := by decide +kernel
theorem dX11_divide_189 : decode cX11_divide 189 = .ok (.lstore 11, 2) := by decide +kernel
theorem dX11_divide_191 : decode cX11_divide 191 = .ok (.lconst 0, 1) := by decide +kernel
theorem dX11_divide_192 : decode cX11_divide 192 = .ok (.lstore 13, 2) := by decide +kernel
theorem dX11_divide_194 : decode cX11_divide 194 = .ok (.iconst 0, 1) := by decide +kernel
theorem dX11_divide_195 : decode cX11_divide 195 = .ok (.istore 15, 2) := by decide +kernel
theorem dX11_divide_197 : decode cX11_divide 197 = .ok (.iload 15, 2) := by decide +kernel
theorem dX11_divide_199 : decode cX11_divide 199 = .ok (.iload_n 3, 1) := by decide +kernel
theorem dX11_divide_200 : decode cX11_divide 200 = .ok (.if_icmp .ge 74, 3) := by decide +kernel
theorem dX11_divide_203 : decode cX11_divide 203 = .ok (.aload_n 0, 1) := by decide +kernel
theorem dX11_divide_204 : decode cX11_divide 204 = .ok (.getfield 76, 3) := by decide +kernel
theorem dX11_divide_207 : decode cX11_divide 207 = .ok (.sipush 3600, 3) := by decide +kernel
theorem dX11_divide_210 : decode cX11_divide 210 = .ok (.iload 8, 2) := by decide +kernel
theorem dX11_divide_212 : decode cX11_divide 212 = .ok (.iadd, 1) := by decide +kernel
theorem dX11_divide_213 : decode cX11_divide 213 = .ok (.iload 15, 2) := by decide +kernel
theorem dX11_divide_215 : decode cX11_divide 215 = .ok (.iadd, 1) := by decide +kernel
theorem dX11_divide_216 : decode cX11_divide 216 = .ok (.iaload, 1) := by decide +kernel
theorem dX11_divide_217 : decode cX11_divide 217 = .ok (.i2l, 1) := by decide +kernel
theorem dX11_divide_218 : decode cX11_divide 218 = .ok (.lload 11, 2) := by decide +kernel
theorem dX11_divide_220 : decode cX11_divide 220 = .ok (.aload_n 0, 1) := by decide +kernel
theorem dX11_divide_221 : decode cX11_divide 221 = .ok (.getfield 76, 3) := by decide +kernel
theorem dX11_divide_224 : decode cX11_divide 224 = .ok (.sipush 2400, 3) := by decide +kernel
theorem dX11_divide_227 : decode cX11_divide 227 = .ok (.iload 15, 2) := by decide +kernel
theorem dX11_divide_229 : decode cX11_divide 229 = .ok (.iadd, 1) := by decide +kernel
theorem dX11_divide_230 : decode cX11_divide 230 = .ok (.iaload, 1) := by decide +kernel
theorem dX11_divide_231 : decode cX11_divide 231 = .ok (.i2l, 1) := by decide +kernel
theorem dX11_divide_232 : decode cX11_divide 232 = .ok (.lmul, 1) := by decide +kernel
theorem dX11_divide_233 : decode cX11_divide 233 = .ok (.lsub, 1) := by decide +kernel
theorem dX11_divide_234 : decode cX11_divide 234 = .ok (.lload 13, 2) := by decide +kernel
theorem dX11_divide_236 : decode cX11_divide 236 = .ok (.lsub, 1) := by decide +kernel
theorem dX11_divide_237 : decode cX11_divide 237 = .ok (.lstore 16, 2) := by decide +kernel
theorem dX11_divide_239 : decode cX11_divide 239 = .ok (.aload_n 0, 1) := by decide +kernel
theorem dX11_divide_240 : decode cX11_divide 240 = .ok (.getfield 76, 3) := by decide +kernel
theorem dX11_divide_243 : decode cX11_divide 243 = .ok (.sipush 3600, 3) := by decide +kernel
theorem dX11_divide_246 : decode cX11_divide 246 = .ok (.iload 8, 2) := by decide +kernel
theorem dX11_divide_248 : decode cX11_divide 248 = .ok (.iadd, 1) := by decide +kernel
theorem dX11_divide_249 : decode cX11_divide 249 = .ok (.iload 15, 2) := by decide +kernel
theorem dX11_divide_251 : decode cX11_divide 251 = .ok (.iadd, 1) := by decide +kernel
theorem dX11_divide_252 : decode cX11_divide 252 = .ok (.lload 16, 2) := by decide +kernel
theorem dX11_divide_254 : decode cX11_divide 254 = .ok (.ldc2_w 186, 3) := by decide +kernel
theorem dX11_divide_257 : decode cX11_divide 257 = .ok (.land, 1) := by decide +kernel
theorem dX11_divide_258 : decode cX11_divide 258 = .ok (.l2i, 1) := by decide +kernel
theorem dX11_divide_259 : decode cX11_divide 259 = .ok (.iastore, 1) := by decide +kernel
theorem dX11_divide_260 : decode cX11_divide 260 = .ok (.lload 16, 2) := by decide +kernel
theorem dX11_divide_262 : decode cX11_divide 262 = .ok (.bipush 16, 2) := by decide +kernel
theorem dX11_divide_264 : decode cX11_divide 264 = .ok (.lshr, 1) := by decide +kernel
theorem dX11_divide_265 : decode cX11_divide 265 = .ok (.lneg, 1) := by decide +kernel
theorem dX11_divide_266 : decode cX11_divide 266 = .ok (.lstore 13, 2) := by decide +kernel
theorem dX11_divide_268 : decode cX11_divide 268 = .ok (.iinc 15 1, 3) := by decide +kernel
theorem dX11_divide_271 : decode cX11_divide 271 = .ok (.goto (-74), 3) := by decide +kernel
theorem dX11_divide_274 : decode cX11_divide 274 = .ok (.aload_n 0, 1) := by decide +kernel
theorem dX11_divide_275 : decode cX11_divide 275 = .ok (.getfield 76, 3) := by decide +kernel
theorem dX11_divide_278 : decode cX11_divide 278 = .ok (.sipush 3600, 3) := by decide +kernel
theorem dX11_divide_281 : decode cX11_divide 281 = .ok (.iload 8, 2) := by decide +kernel
theorem dX11_divide_283 : decode cX11_divide 283 = .ok (.iadd, 1) := by decide +kernel
theorem dX11_divide_284 : decode cX11_divide 284 = .ok (.iload_n 3, 1) := by decide +kernel
theorem dX11_divide_285 : decode cX11_divide 285 = .ok (.iadd, 1) := by decide +kernel
theorem dX11_divide_286 : decode cX11_divide 286 = .ok (.iaload, 1) := by decide +kernel
theorem dX11_divide_287 : decode cX11_divide 287 = .ok (.i2l, 1) := by decide +kernel
theorem dX11_divide_288 : decode cX11_divide 288 = .ok (.lload 13, 2) := by decide +kernel
theorem dX11_divide_290 : decode cX11_divide 290 = .ok (.lsub, 1) := by decide +kernel
theorem dX11_divide_291 : decode cX11_divide 291 = .ok (.lstore 15, 2) := by decide +kernel
theorem dX11_divide_293 : decode cX11_divide 293 = .ok (.lload 15, 2) := by decide +kernel
theorem dX11_divide_295 : decode cX11_divide 295 = .ok (.lconst 0, 1) := by decide +kernel
theorem dX11_divide_296 : decode cX11_divide 296 = .ok (.lcmp, 1) := by decide +kernel
theorem dX11_divide_297 : decode cX11_divide 297 = .ok (.ifCond .ge 98, 3) := by decide +kernel
theorem dX11_divide_300 : decode cX11_divide 300 = .ok (.lload 11, 2) := by decide +kernel
theorem dX11_divide_302 : decode cX11_divide 302 = .ok (.lconst 1, 1) := by decide +kernel
theorem dX11_divide_303 : decode cX11_divide 303 = .ok (.lsub, 1) := by decide +kernel
theorem dX11_divide_304 : decode cX11_divide 304 = .ok (.lstore 11, 2) := by decide +kernel
theorem dX11_divide_306 : decode cX11_divide 306 = .ok (.lconst 0, 1) := by decide +kernel
theorem dX11_divide_307 : decode cX11_divide 307 = .ok (.lstore 17, 2) := by decide +kernel
theorem dX11_divide_309 : decode cX11_divide 309 = .ok (.iconst 0, 1) := by decide +kernel
theorem dX11_divide_310 : decode cX11_divide 310 = .ok (.istore 19, 2) := by decide +kernel
theorem dX11_divide_312 : decode cX11_divide 312 = .ok (.iload 19, 2) := by decide +kernel
theorem dX11_divide_314 : decode cX11_divide 314 = .ok (.iload_n 3, 1) := by decide +kernel
theorem dX11_divide_315 : decode cX11_divide 315 = .ok (.if_icmp .ge 70, 3) := by decide +kernel
theorem dX11_divide_318 : decode cX11_divide 318 = .ok (.lload 17, 2) := by decide +kernel
theorem dX11_divide_320 : decode cX11_divide 320 = .ok (.aload_n 0, 1) := by decide +kernel
theorem dX11_divide_321 : decode cX11_divide 321 = .ok (.getfield 76, 3) := by decide +kernel
theorem dX11_divide_324 : decode cX11_divide 324 = .ok (.sipush 3600, 3) := by decide +kernel
theorem dX11_divide_327 : decode cX11_divide 327 = .ok (.iload 8, 2) := by decide +kernel
theorem dX11_divide_329 : decode cX11_divide 329 = .ok (.iadd, 1) := by decide +kernel
theorem dX11_divide_330 : decode cX11_divide 330 = .ok (.iload 19, 2) := by decide +kernel
theorem dX11_divide_332 : decode cX11_divide 332 = .ok (.iadd, 1) := by decide +kernel
theorem dX11_divide_333 : decode cX11_divide 333 = .ok (.iaload, 1) := by decide +kernel
theorem dX11_divide_334 : decode cX11_divide 334 = .ok (.i2l, 1) := by decide +kernel
theorem dX11_divide_335 : decode cX11_divide 335 = .ok (.aload_n 0, 1) := by decide +kernel
theorem dX11_divide_336 : decode cX11_divide 336 = .ok (.getfield 76, 3) := by decide +kernel
theorem dX11_divide_339 : decode cX11_divide 339 = .ok (.sipush 2400, 3) := by decide +kernel
theorem dX11_divide_342 : decode cX11_divide 342 = .ok (.iload 19, 2) := by decide +kernel
theorem dX11_divide_344 : decode cX11_divide 344 = .ok (.iadd, 1) := by decide +kernel
theorem dX11_divide_345 : decode cX11_divide 345 = .ok (.iaload, 1) := by decide +kernel
theorem dX11_divide_346 : decode cX11_divide 346 = .ok (.i2l, 1) := by decide +kernel
theorem dX11_divide_347 : decode cX11_divide 347 = .ok (.ladd, 1) := by decide +kernel
theorem dX11_divide_348 : decode cX11_divide 348 = .ok (.ladd, 1) := by decide +kernel
theorem dX11_divide_349 : decode cX11_divide 349 = .ok (.lstore 17, 2) := by decide +kernel
theorem dX11_divide_351 : decode cX11_divide 351 = .ok (.aload_n 0, 1) := by decide +kernel
theorem dX11_divide_352 : decode cX11_divide 352 = .ok (.getfield 76, 3) := by decide +kernel
theorem dX11_divide_355 : decode cX11_divide 355 = .ok (.sipush 3600, 3) := by decide +kernel
theorem dX11_divide_358 : decode cX11_divide 358 = .ok (.iload 8, 2) := by decide +kernel
theorem dX11_divide_360 : decode cX11_divide 360 = .ok (.iadd, 1) := by decide +kernel
theorem dX11_divide_361 : decode cX11_divide 361 = .ok (.iload 19, 2) := by decide +kernel
theorem dX11_divide_363 : decode cX11_divide 363 = .ok (.iadd, 1) := by decide +kernel
theorem dX11_divide_364 : decode cX11_divide 364 = .ok (.lload 17, 2) := by decide +kernel
theorem dX11_divide_366 : decode cX11_divide 366 = .ok (.ldc2_w 186, 3) := by decide +kernel
theorem dX11_divide_369 : decode cX11_divide 369 = .ok (.land, 1) := by decide +kernel
theorem dX11_divide_370 : decode cX11_divide 370 = .ok (.l2i, 1) := by decide +kernel
theorem dX11_divide_371 : decode cX11_divide 371 = .ok (.iastore, 1) := by decide +kernel
theorem dX11_divide_372 : decode cX11_divide 372 = .ok (.lload 17, 2) := by decide +kernel
theorem dX11_divide_374 : decode cX11_divide 374 = .ok (.bipush 16, 2) := by decide +kernel
theorem dX11_divide_376 : decode cX11_divide 376 = .ok (.lshr, 1) := by decide +kernel
theorem dX11_divide_377 : decode cX11_divide 377 = .ok (.lstore 17, 2) := by decide +kernel
theorem dX11_divide_379 : decode cX11_divide 379 = .ok (.iinc 19 1, 3) := by decide +kernel
theorem dX11_divide_382 : decode cX11_divide 382 = .ok (.goto (-70), 3) := by decide +kernel
theorem dX11_divide_385 : decode cX11_divide 385 = .ok (.lload 15, 2) := by decide +kernel
theorem dX11_divide_387 : decode cX11_divide 387 = .ok (.lload 17, 2) := by decide +kernel
theorem dX11_divide_389 : decode cX11_divide 389 = .ok (.ladd, 1) := by decide +kernel
theorem dX11_divide_390 : decode cX11_divide 390 = .ok (.lstore 15, 2) := by decide +kernel
theorem dX11_divide_392 : decode cX11_divide 392 = .ok (.goto (-99), 3) := by decide +kernel
theorem dX11_divide_395 : decode cX11_divide 395 = .ok (.aload_n 0, 1) := by decide +kernel
theorem dX11_divide_396 : decode cX11_divide 396 = .ok (.getfield 76, 3) := by decide +kernel
theorem dX11_divide_399 : decode cX11_divide 399 = .ok (.sipush 3600, 3) := by decide +kernel
theorem dX11_divide_402 : decode cX11_divide 402 = .ok (.iload 8, 2) := by decide +kernel
theorem dX11_divide_404 : decode cX11_divide 404 = .ok (.iadd, 1) := by decide +kernel
theorem dX11_divide_405 : decode cX11_divide 405 = .ok (.iload_n 3, 1) := by decide +kernel
theorem dX11_divide_406 : decode cX11_divide 406 = .ok (.iadd, 1) := by decide +kernel
theorem dX11_divide_407 : decode cX11_divide 407 = .ok (.lload 15, 2) := by decide +kernel
theorem dX11_divide_409 : decode cX11_divide 409 = .ok (.l2i, 1) := by decide +kernel
theorem dX11_divide_410 : decode cX11_divide 410 = .ok (.iastore, 1) := by decide +kernel
theorem dX11_divide_411 : decode cX11_divide 411 = .ok (.aload_n 0, 1) := by decide +kernel
theorem dX11_divide_412 : decode cX11_divide 412 = .ok (.getfield 76, 3) := by decide +kernel
theorem dX11_divide_415 : decode cX11_divide 415 = .ok (.sipush 1200, 3) := by decide +kernel
theorem dX11_divide_418 : decode cX11_divide 418 = .ok (.iload_n 1, 1) := by decide +kernel
theorem dX11_divide_419 : decode cX11_divide 419 = .ok (.imul, 1) := by decide +kernel
theorem dX11_divide_420 : decode cX11_divide 420 = .ok (.iload 8, 2) := by decide +kernel
theorem dX11_divide_422 : decode cX11_divide 422 = .ok (.iadd, 1) := by decide +kernel
theorem dX11_divide_423 : decode cX11_divide 423 = .ok (.lload 11, 2) := by decide +kernel
theorem dX11_divide_425 : decode cX11_divide 425 = .ok (.l2i, 1) := by decide +kernel
theorem dX11_divide_426 : decode cX11_divide 426 = .ok (.iastore, 1) := by decide +kernel
theorem dX11_divide_427 : decode cX11_divide 427 = .ok (.iinc 8 (-1), 3) := by decide +kernel
theorem dX11_divide_430 : decode cX11_divide 430 = .ok (.goto (-306), 3) := by decide +kernel
theorem dX11_divide_433 : decode cX11_divide 433 = .ok (.aload_n 0, 1) := by decide +kernel
theorem dX11_divide_434 : decode cX11_divide 434 = .ok (.iload_n 1, 1) := by decide +kernel
theorem dX11_divide_435 : decode cX11_divide 435 = .ok (.invokevirtual 188, 3) := by decide +kernel
theorem dX11_divide_438 : decode cX11_divide 438 = .ok (.return_, 1) := by decide +kernel
theorem dX11_lowest_0 : decode cX11_lowest 0 = .ok (.aload_n 0, 1) := by decide +kernel
theorem dX11_lowest_1 : decode cX11_lowest 1 = .ok (.getfield 79, 3) := by decide +kernel
theorem dX11_lowest_4 : decode cX11_lowest 4 = .ok (.iconst 0, 1) := by decide +kernel
theorem dX11_lowest_5 : decode cX11_lowest 5 = .ok (.iaload, 1) := by decide +kernel
theorem dX11_lowest_6 : decode cX11_lowest 6 = .ok (.ifCond .ne 10, 3) := by decide +kernel
theorem dX11_lowest_9 : decode cX11_lowest 9 = .ok (.aload_n 0, 1) := by decide +kernel
theorem dX11_lowest_10 : decode cX11_lowest 10 = .ok (.iconst 1, 1) := by decide +kernel
theorem dX11_lowest_11 : decode cX11_lowest 11 = .ok (.lconst 1, 1) := by decide +kernel
theorem dX11_lowest_12 : decode cX11_lowest 12 = .ok (.invokevirtual 182, 3) := by decide +kernel
theorem dX11_lowest_15 : decode cX11_lowest 15 = .ok (.return_, 1) := by decide +kernel
theorem dX11_lowest_16 : decode cX11_lowest 16 = .ok (.aload_n 0, 1) := by decide +kernel
theorem dX11_lowest_17 : decode cX11_lowest 17 = .ok (.invokevirtual 214, 3) := by decide +kernel
theorem dX11_lowest_20 : decode cX11_lowest 20 = .ok (.aload_n 0, 1) := by decide +kernel
theorem dX11_lowest_21 : decode cX11_lowest 21 = .ok (.bipush 8, 2) := by decide +kernel
theorem dX11_lowest_23 : decode cX11_lowest 23 = .ok (.iconst 4, 1) := by decide +kernel
theorem dX11_lowest_24 : decode cX11_lowest 24 = .ok (.invokevirtual 195, 3) := by decide +kernel
theorem dX11_lowest_27 : decode cX11_lowest 27 = .ok (.aload_n 0, 1) := by decide +kernel
theorem dX11_lowest_28 : decode cX11_lowest 28 = .ok (.iconst 0, 1) := by decide +kernel
theorem dX11_lowest_29 : decode cX11_lowest 29 = .ok (.bipush 8, 2) := by decide +kernel
theorem dX11_lowest_31 : decode cX11_lowest 31 = .ok (.invokevirtual 217, 3) := by decide +kernel
theorem dX11_lowest_34 : decode cX11_lowest 34 = .ok (.aload_n 0, 1) := by decide +kernel
theorem dX11_lowest_35 : decode cX11_lowest 35 = .ok (.iconst 1, 1) := by decide +kernel
theorem dX11_lowest_36 : decode cX11_lowest 36 = .ok (.bipush 8, 2) := by decide +kernel
theorem dX11_lowest_38 : decode cX11_lowest 38 = .ok (.invokevirtual 217, 3) := by decide +kernel
theorem dX11_lowest_41 : decode cX11_lowest 41 = .ok (.return_, 1) := by decide +kernel
theorem dX11_turned_0 : decode cX11_turned 0 = .ok (.iload_n 1, 1) := by decide +kernel
theorem dX11_turned_1 : decode cX11_turned 1 = .ok (.iload_n 2, 1) := by decide +kernel
theorem dX11_turned_2 : decode cX11_turned 2 = .ok (.iushr, 1) := by decide +kernel
theorem dX11_turned_3 : decode cX11_turned 3 = .ok (.iload_n 1, 1) := by decide +kernel
theorem dX11_turned_4 : decode cX11_turned 4 = .ok (.bipush 32, 2) := by decide +kernel
theorem dX11_turned_6 : decode cX11_turned 6 = .ok (.iload_n 2, 1) := by decide +kernel
theorem dX11_turned_7 : decode cX11_turned 7 = .ok (.isub, 1) := by decide +kernel
theorem dX11_turned_8 : decode cX11_turned 8 = .ok (.ishl, 1) := by decide +kernel
theorem dX11_turned_9 : decode cX11_turned 9 = .ok (.ior, 1) := by decide +kernel
theorem dX11_turned_10 : decode cX11_turned 10 = .ok (.ireturn, 1) := by decide +kernel
theorem dX11_digestOf_0 : decode cX11_digestOf 0 = .ok (.iconst 0, 1) := by decide +kernel
theorem dX11_digestOf_1 : decode cX11_digestOf 1 = .ok (.istore_n 2, 1) := by decide +kernel
theorem dX11_digestOf_2 : decode cX11_digestOf 2 = .ok (.iconst 0, 1) := by decide +kernel
theorem dX11_digestOf_3 : decode cX11_digestOf 3 = .ok (.istore_n 3, 1) := by decide +kernel
theorem dX11_digestOf_4 : decode cX11_digestOf 4 = .ok (.iload_n 3, 1) := by decide +kernel
theorem dX11_digestOf_5 : decode cX11_digestOf 5 = .ok (.bipush 64, 2) := by decide +kernel
theorem dX11_digestOf_7 : decode cX11_digestOf 7 = .ok (.if_icmp .ge 16, 3) := by decide +kernel
theorem dX11_digestOf_10 : decode cX11_digestOf 10 = .ok (.aload_n 0, 1) := by decide +kernel
theorem dX11_digestOf_11 : decode cX11_digestOf 11 = .ok (.getfield 173, 3) := by decide +kernel
theorem dX11_digestOf_14 : decode cX11_digestOf 14 = .ok (.iload_n 3, 1) := by decide +kernel
theorem dX11_digestOf_15 : decode cX11_digestOf 15 = .ok (.iconst 0, 1) := by decide +kernel
theorem dX11_digestOf_16 : decode cX11_digestOf 16 = .ok (.iastore, 1) := by decide +kernel
theorem dX11_digestOf_17 : decode cX11_digestOf 17 = .ok (.iinc 3 1, 3) := by decide +kernel
theorem dX11_digestOf_20 : decode cX11_digestOf 20 = .ok (.goto (-16), 3) := by decide +kernel
theorem dX11_digestOf_23 : decode cX11_digestOf 23 = .ok (.iconst 0, 1) := by decide +kernel
theorem dX11_digestOf_24 : decode cX11_digestOf 24 = .ok (.istore_n 3, 1) := by decide +kernel
theorem dX11_digestOf_25 : decode cX11_digestOf 25 = .ok (.iload_n 3, 1) := by decide +kernel
theorem dX11_digestOf_26 : decode cX11_digestOf 26 = .ok (.aload_n 0, 1) := by decide +kernel
theorem dX11_digestOf_27 : decode cX11_digestOf 27 = .ok (.getfield 220, 3) := by decide +kernel
theorem dX11_digestOf_30 : decode cX11_digestOf 30 = .ok (.if_icmp .ge 27, 3) := by decide +kernel
theorem dX11_digestOf_33 : decode cX11_digestOf 33 = .ok (.aload_n 0, 1) := by decide +kernel
theorem dX11_digestOf_34 : decode cX11_digestOf 34 = .ok (.getfield 173, 3) := by decide +kernel
theorem dX11_digestOf_37 : decode cX11_digestOf 37 = .ok (.iload_n 2, 1) := by decide +kernel
theorem dX11_digestOf_38 : decode cX11_digestOf 38 = .ok (.bipush 48, 2) := by decide +kernel
theorem dX11_digestOf_40 : decode cX11_digestOf 40 = .ok (.aload_n 0, 1) := by decide +kernel
theorem dX11_digestOf_41 : decode cX11_digestOf 41 = .ok (.getfield 42, 3) := by decide +kernel
theorem dX11_digestOf_44 : decode cX11_digestOf 44 = .ok (.iload_n 3, 1) := by decide +kernel
theorem dX11_digestOf_45 : decode cX11_digestOf 45 = .ok (.iaload, 1) := by decide +kernel
theorem dX11_digestOf_46 : decode cX11_digestOf 46 = .ok (.iadd, 1) := by decide +kernel
theorem dX11_digestOf_47 : decode cX11_digestOf 47 = .ok (.iastore, 1) := by decide +kernel
theorem dX11_digestOf_48 : decode cX11_digestOf 48 = .ok (.iinc 2 1, 3) := by decide +kernel
theorem dX11_digestOf_51 : decode cX11_digestOf 51 = .ok (.iinc 3 1, 3) := by decide +kernel
theorem dX11_digestOf_54 : decode cX11_digestOf 54 = .ok (.goto (-29), 3) := by decide +kernel
theorem dX11_digestOf_57 : decode cX11_digestOf 57 = .ok (.aload_n 0, 1) := by decide +kernel
theorem dX11_digestOf_58 : decode cX11_digestOf 58 = .ok (.getfield 173, 3) := by decide +kernel
theorem dX11_digestOf_61 : decode cX11_digestOf 61 = .ok (.iload_n 2, 1) := by decide +kernel
theorem dX11_digestOf_62 : decode cX11_digestOf 62 = .ok (.bipush 44, 2) := by decide +kernel
theorem dX11_digestOf_64 : decode cX11_digestOf 64 = .ok (.iastore, 1) := by decide +kernel
theorem dX11_digestOf_65 : decode cX11_digestOf 65 = .ok (.iinc 2 1, 3) := by decide +kernel
theorem dX11_digestOf_68 : decode cX11_digestOf 68 = .ok (.iconst 0, 1) := by decide +kernel
theorem dX11_digestOf_69 : decode cX11_digestOf 69 = .ok (.istore_n 3, 1) := by decide +kernel
theorem dX11_digestOf_70 : decode cX11_digestOf 70 = .ok (.ldc 223, 2) := by decide +kernel
theorem dX11_digestOf_72 : decode cX11_digestOf 72 = .ok (.istore 4, 2) := by decide +kernel
theorem dX11_digestOf_74 : decode cX11_digestOf 74 = .ok (.iload 4, 2) := by decide +kernel
theorem dX11_digestOf_76 : decode cX11_digestOf 76 = .ok (.ifCond .le 55, 3) := by decide +kernel
theorem dX11_digestOf_79 : decode cX11_digestOf 79 = .ok (.iload_n 1, 1) := by decide +kernel
theorem dX11_digestOf_80 : decode cX11_digestOf 80 = .ok (.iload 4, 2) := by decide +kernel
theorem dX11_digestOf_82 : decode cX11_digestOf 82 = .ok (.idiv, 1) := by decide +kernel
theorem dX11_digestOf_83 : decode cX11_digestOf 83 = .ok (.bipush 10, 2) := by decide +kernel
theorem dX11_digestOf_85 : decode cX11_digestOf 85 = .ok (.irem, 1) := by decide +kernel
theorem dX11_digestOf_86 : decode cX11_digestOf 86 = .ok (.istore 5, 2) := by decide +kernel
theorem dX11_digestOf_88 : decode cX11_digestOf 88 = .ok (.iload_n 3, 1) := by decide +kernel
theorem dX11_digestOf_89 : decode cX11_digestOf 89 = .ok (.ifCond .ne 8, 3) := by decide +kernel
theorem dX11_digestOf_92 : decode cX11_digestOf 92 = .ok (.iload 5, 2) := by decide +kernel
theorem dX11_digestOf_94 : decode cX11_digestOf 94 = .ok (.ifCond .le 7, 3) := by decide +kernel
theorem dX11_digestOf_97 : decode cX11_digestOf 97 = .ok (.iconst 1, 1) := by decide +kernel
theorem dX11_digestOf_98 : decode cX11_digestOf 98 = .ok (.goto 4, 3) := by decide +kernel
theorem dX11_digestOf_101 : decode cX11_digestOf 101 = .ok (.iconst 0, 1) := by decide +kernel
theorem dX11_digestOf_102 : decode cX11_digestOf 102 = .ok (.istore_n 3, 1) := by decide +kernel
theorem dX11_digestOf_103 : decode cX11_digestOf 103 = .ok (.iload_n 3, 1) := by decide +kernel
theorem dX11_digestOf_104 : decode cX11_digestOf 104 = .ok (.ifCond .eq 17, 3) := by decide +kernel
theorem dX11_digestOf_107 : decode cX11_digestOf 107 = .ok (.aload_n 0, 1) := by decide +kernel
theorem dX11_digestOf_108 : decode cX11_digestOf 108 = .ok (.getfield 173, 3) := by decide +kernel
theorem dX11_digestOf_111 : decode cX11_digestOf 111 = .ok (.iload_n 2, 1) := by decide +kernel
theorem dX11_digestOf_112 : decode cX11_digestOf 112 = .ok (.bipush 48, 2) := by decide +kernel
theorem dX11_digestOf_114 : decode cX11_digestOf 114 = .ok (.iload 5, 2) := by decide +kernel
theorem dX11_digestOf_116 : decode cX11_digestOf 116 = .ok (.iadd, 1) := by decide +kernel
theorem dX11_digestOf_117 : decode cX11_digestOf 117 = .ok (.iastore, 1) := by decide +kernel
theorem dX11_digestOf_118 : decode cX11_digestOf 118 = .ok (.iinc 2 1, 3) := by decide +kernel
theorem dX11_digestOf_121 : decode cX11_digestOf 121 = .ok (.iload 4, 2) := by decide +kernel
theorem dX11_digestOf_123 : decode cX11_digestOf 123 = .ok (.bipush 10, 2) := by decide +kernel
theorem dX11_digestOf_125 : decode cX11_digestOf 125 = .ok (.idiv, 1) := by decide +kernel
theorem dX11_digestOf_126 : decode cX11_digestOf 126 = .ok (.istore 4, 2) := by decide +kernel
theorem dX11_digestOf_128 : decode cX11_digestOf 128 = .ok (.goto (-54), 3) := by decide +kernel
theorem dX11_digestOf_131 : decode cX11_digestOf 131 = .ok (.aload_n 0, 1) := by decide +kernel
theorem dX11_digestOf_132 : decode cX11_digestOf 132 = .ok (.getfield 173, 3) := by decide +kernel
theorem dX11_digestOf_135 : decode cX11_digestOf 135 = .ok (.iload_n 2, 1) := by decide +kernel
theorem dX11_digestOf_136 : decode cX11_digestOf 136 = .ok (.sipush 128, 3) := by decide +kernel
theorem dX11_digestOf_139 : decode cX11_digestOf 139 = .ok (.iastore, 1) := by decide +kernel
theorem dX11_digestOf_140 : decode cX11_digestOf 140 = .ok (.aload_n 0, 1) := by decide +kernel
theorem dX11_digestOf_141 : decode cX11_digestOf 141 = .ok (.getfield 173, 3) := by decide +kernel
theorem dX11_digestOf_144 : decode cX11_digestOf 144 = .ok (.bipush 62, 2) := by decide +kernel
theorem dX11_digestOf_146 : decode cX11_digestOf 146 = .ok (.bipush 8, 2) := by decide +kernel
theorem dX11_digestOf_148 : decode cX11_digestOf 148 = .ok (.iload_n 2, 1) := by decide +kernel
theorem dX11_digestOf_149 : decode cX11_digestOf 149 = .ok (.imul, 1) := by decide +kernel
theorem dX11_digestOf_150 : decode cX11_digestOf 150 = .ok (.bipush 8, 2) := by decide +kernel
theorem dX11_digestOf_152 : decode cX11_digestOf 152 = .ok (.ishr, 1) := by decide +kernel
theorem dX11_digestOf_153 : decode cX11_digestOf 153 = .ok (.iastore, 1) := by decide +kernel
theorem dX11_digestOf_154 : decode cX11_digestOf 154 = .ok (.aload_n 0, 1) := by decide +kernel
theorem dX11_digestOf_155 : decode cX11_digestOf 155 = .ok (.getfield 173, 3) := by decide +kernel
theorem dX11_digestOf_158 : decode cX11_digestOf 158 = .ok (.bipush 63, 2) := by decide +kernel
theorem dX11_digestOf_160 : decode cX11_digestOf 160 = .ok (.bipush 8, 2) := by decide +kernel
theorem dX11_digestOf_162 : decode cX11_digestOf 162 = .ok (.iload_n 2, 1) := by decide +kernel
theorem dX11_digestOf_163 : decode cX11_digestOf 163 = .ok (.imul, 1) := by decide +kernel
theorem dX11_digestOf_164 : decode cX11_digestOf 164 = .ok (.sipush 255, 3) := by decide +kernel
theorem dX11_digestOf_167 : decode cX11_digestOf 167 = .ok (.iand, 1) := by decide +kernel
theorem dX11_digestOf_168 : decode cX11_digestOf 168 = .ok (.iastore, 1) := by decide +kernel
theorem dX11_digestOf_169 : decode cX11_digestOf 169 = .ok (.iconst 0, 1) := by decide +kernel
theorem dX11_digestOf_170 : decode cX11_digestOf 170 = .ok (.istore 4, 2) := by decide +kernel
theorem dX11_digestOf_172 : decode cX11_digestOf 172 = .ok (.iload 4, 2) := by decide +kernel
theorem dX11_digestOf_174 : decode cX11_digestOf 174 = .ok (.bipush 16, 2) := by decide +kernel
theorem dX11_digestOf_176 : decode cX11_digestOf 176 = .ok (.if_icmp .ge 70, 3) := by decide +kernel
theorem dX11_digestOf_179 : decode cX11_digestOf 179 = .ok (.aload_n 0, 1) := by decide +kernel
theorem dX11_digestOf_180 : decode cX11_digestOf 180 = .ok (.getfield 167, 3) := by decide +kernel
theorem dX11_digestOf_183 : decode cX11_digestOf 183 = .ok (.iload 4, 2) := by decide +kernel
theorem dX11_digestOf_185 : decode cX11_digestOf 185 = .ok (.aload_n 0, 1) := by decide +kernel
theorem dX11_digestOf_186 : decode cX11_digestOf 186 = .ok (.getfield 173, 3) := by decide +kernel
theorem dX11_digestOf_189 : decode cX11_digestOf 189 = .ok (.iconst 4, 1) := by decide +kernel
theorem dX11_digestOf_190 : decode cX11_digestOf 190 = .ok (.iload 4, 2) := by decide +kernel
theorem dX11_digestOf_192 : decode cX11_digestOf 192 = .ok (.imul, 1) := by decide +kernel
theorem dX11_digestOf_193 : decode cX11_digestOf 193 = .ok (.iaload, 1) := by decide +kernel
theorem dX11_digestOf_194 : decode cX11_digestOf 194 = .ok (.bipush 24, 2) := by decide +kernel
theorem dX11_digestOf_196 : decode cX11_digestOf 196 = .ok (.ishl, 1) := by decide +kernel
theorem dX11_digestOf_197 : decode cX11_digestOf 197 = .ok (.aload_n 0, 1) := by decide +kernel
theorem dX11_digestOf_198 : decode cX11_digestOf 198 = .ok (.getfield 173, 3) := by decide +kernel
theorem dX11_digestOf_201 : decode cX11_digestOf 201 = .ok (.iconst 4, 1) := by decide +kernel
theorem dX11_digestOf_202 : decode cX11_digestOf 202 = .ok (.iload 4, 2) := by decide +kernel
theorem dX11_digestOf_204 : decode cX11_digestOf 204 = .ok (.imul, 1) := by decide +kernel
theorem dX11_digestOf_205 : decode cX11_digestOf 205 = .ok (.iconst 1, 1) := by decide +kernel
theorem dX11_digestOf_206 : decode cX11_digestOf 206 = .ok (.iadd, 1) := by decide +kernel
theorem dX11_digestOf_207 : decode cX11_digestOf 207 = .ok (.iaload, 1) := by decide +kernel
theorem dX11_digestOf_208 : decode cX11_digestOf 208 = .ok (.bipush 16, 2) := by decide +kernel
theorem dX11_digestOf_210 : decode cX11_digestOf 210 = .ok (.ishl, 1) := by decide +kernel
theorem dX11_digestOf_211 : decode cX11_digestOf 211 = .ok (.ior, 1) := by decide +kernel
theorem dX11_digestOf_212 : decode cX11_digestOf 212 = .ok (.aload_n 0, 1) := by decide +kernel
theorem dX11_digestOf_213 : decode cX11_digestOf 213 = .ok (.getfield 173, 3) := by decide +kernel
theorem dX11_digestOf_216 : decode cX11_digestOf 216 = .ok (.iconst 4, 1) := by decide +kernel
theorem dX11_digestOf_217 : decode cX11_digestOf 217 = .ok (.iload 4, 2) := by decide +kernel
theorem dX11_digestOf_219 : decode cX11_digestOf 219 = .ok (.imul, 1) := by decide +kernel
theorem dX11_digestOf_220 : decode cX11_digestOf 220 = .ok (.iconst 2, 1) := by decide +kernel
theorem dX11_digestOf_221 : decode cX11_digestOf 221 = .ok (.iadd, 1) := by decide +kernel
theorem dX11_digestOf_222 : decode cX11_digestOf 222 = .ok (.iaload, 1) := by decide +kernel
theorem dX11_digestOf_223 : decode cX11_digestOf 223 = .ok (.bipush 8, 2) := by decide +kernel
theorem dX11_digestOf_225 : decode cX11_digestOf 225 = .ok (.ishl, 1) := by decide +kernel
theorem dX11_digestOf_226 : decode cX11_digestOf 226 = .ok (.ior, 1) := by decide +kernel
theorem dX11_digestOf_227 : decode cX11_digestOf 227 = .ok (.aload_n 0, 1) := by decide +kernel
theorem dX11_digestOf_228 : decode cX11_digestOf 228 = .ok (.getfield 173, 3) := by decide +kernel
theorem dX11_digestOf_231 : decode cX11_digestOf 231 = .ok (.iconst 4, 1) := by decide +kernel
theorem dX11_digestOf_232 : decode cX11_digestOf 232 = .ok (.iload 4, 2) := by decide +kernel
theorem dX11_digestOf_234 : decode cX11_digestOf 234 = .ok (.imul, 1) := by decide +kernel
theorem dX11_digestOf_235 : decode cX11_digestOf 235 = .ok (.iconst 3, 1) := by decide +kernel
theorem dX11_digestOf_236 : decode cX11_digestOf 236 = .ok (.iadd, 1) := by decide +kernel
theorem dX11_digestOf_237 : decode cX11_digestOf 237 = .ok (.iaload, 1) := by decide +kernel
theorem dX11_digestOf_238 : decode cX11_digestOf 238 = .ok (.ior, 1) := by decide +kernel
theorem dX11_digestOf_239 : decode cX11_digestOf 239 = .ok (.iastore, 1) := by decide +kernel
theorem dX11_digestOf_240 : decode cX11_digestOf 240 = .ok (.iinc 4 1, 3) := by decide +kernel
theorem dX11_digestOf_243 : decode cX11_digestOf 243 = .ok (.goto (-71), 3) := by decide +kernel
theorem dX11_digestOf_246 : decode cX11_digestOf 246 = .ok (.bipush 16, 2) := by decide +kernel
theorem dX11_digestOf_248 : decode cX11_digestOf 248 = .ok (.istore 4, 2) := by decide +kernel
theorem dX11_digestOf_250 : decode cX11_digestOf 250 = .ok (.iload 4, 2) := by decide +kernel
theorem dX11_digestOf_252 : decode cX11_digestOf 252 = .ok (.bipush 64, 2) := by decide +kernel
theorem dX11_digestOf_254 : decode cX11_digestOf 254 = .ok (.if_icmp .ge 137, 3) := by decide +kernel
theorem dX11_digestOf_257 : decode cX11_digestOf 257 = .ok (.aload_n 0, 1) := by decide +kernel
theorem dX11_digestOf_258 : decode cX11_digestOf 258 = .ok (.aload_n 0, 1) := by decide +kernel
theorem dX11_digestOf_259 : decode cX11_digestOf 259 = .ok (.getfield 167, 3) := by decide +kernel
theorem dX11_digestOf_262 : decode cX11_digestOf 262 = .ok (.iload 4, 2) := by decide +kernel
theorem dX11_digestOf_264 : decode cX11_digestOf 264 = .ok (.bipush 15, 2) := by decide +kernel
theorem dX11_digestOf_266 : decode cX11_digestOf 266 = .ok (.isub, 1) := by decide +kernel
theorem dX11_digestOf_267 : decode cX11_digestOf 267 = .ok (.iaload, 1) := by decide +kernel
theorem dX11_digestOf_268 : decode cX11_digestOf 268 = .ok (.bipush 7, 2) := by decide +kernel
theorem dX11_digestOf_270 : decode cX11_digestOf 270 = .ok (.invokevirtual 224, 3) := by decide +kernel
theorem dX11_digestOf_273 : decode cX11_digestOf 273 = .ok (.aload_n 0, 1) := by decide +kernel
theorem dX11_digestOf_274 : decode cX11_digestOf 274 = .ok (.aload_n 0, 1) := by decide +kernel
theorem dX11_digestOf_275 : decode cX11_digestOf 275 = .ok (.getfield 167, 3) := by decide +kernel
theorem dX11_digestOf_278 : decode cX11_digestOf 278 = .ok (.iload 4, 2) := by decide +kernel
theorem dX11_digestOf_280 : decode cX11_digestOf 280 = .ok (.bipush 15, 2) := by decide +kernel
theorem dX11_digestOf_282 : decode cX11_digestOf 282 = .ok (.isub, 1) := by decide +kernel
theorem dX11_digestOf_283 : decode cX11_digestOf 283 = .ok (.iaload, 1) := by decide +kernel
theorem dX11_digestOf_284 : decode cX11_digestOf 284 = .ok (.bipush 18, 2) := by decide +kernel
theorem dX11_digestOf_286 : decode cX11_digestOf 286 = .ok (.invokevirtual 224, 3) := by decide +kernel
theorem dX11_digestOf_289 : decode cX11_digestOf 289 = .ok (.ixor, 1) := by decide +kernel
theorem dX11_digestOf_290 : decode cX11_digestOf 290 = .ok (.aload_n 0, 1) := by decide +kernel
theorem dX11_digestOf_291 : decode cX11_digestOf 291 = .ok (.getfield 167, 3) := by decide +kernel
theorem dX11_digestOf_294 : decode cX11_digestOf 294 = .ok (.iload 4, 2) := by decide +kernel
theorem dX11_digestOf_296 : decode cX11_digestOf 296 = .ok (.bipush 15, 2) := by decide +kernel
theorem dX11_digestOf_298 : decode cX11_digestOf 298 = .ok (.isub, 1) := by decide +kernel
theorem dX11_digestOf_299 : decode cX11_digestOf 299 = .ok (.iaload, 1) := by decide +kernel
theorem dX11_digestOf_300 : decode cX11_digestOf 300 = .ok (.iconst 3, 1) := by decide +kernel
theorem dX11_digestOf_301 : decode cX11_digestOf 301 = .ok (.iushr, 1) := by decide +kernel
theorem dX11_digestOf_302 : decode cX11_digestOf 302 = .ok (.ixor, 1) := by decide +kernel
theorem dX11_digestOf_303 : decode cX11_digestOf 303 = .ok (.istore 5, 2) := by decide +kernel
theorem dX11_digestOf_305 : decode cX11_digestOf 305 = .ok (.aload_n 0, 1) := by decide +kernel
theorem dX11_digestOf_306 : decode cX11_digestOf 306 = .ok (.aload_n 0, 1) := by decide +kernel
theorem dX11_digestOf_307 : decode cX11_digestOf 307 = .ok (.getfield 167, 3) := by decide +kernel
theorem dX11_digestOf_310 : decode cX11_digestOf 310 = .ok (.iload 4, 2) := by decide +kernel
theorem dX11_digestOf_312 : decode cX11_digestOf 312 = .ok (.iconst 2, 1) := by decide +kernel
theorem dX11_digestOf_313 : decode cX11_digestOf 313 = .ok (.isub, 1) := by decide +kernel
theorem dX11_digestOf_314 : decode cX11_digestOf 314 = .ok (.iaload, 1) := by decide +kernel
theorem dX11_digestOf_315 : decode cX11_digestOf 315 = .ok (.bipush 17, 2) := by decide +kernel
theorem dX11_digestOf_317 : decode cX11_digestOf 317 = .ok (.invokevirtual 224, 3) := by decide +kernel
theorem dX11_digestOf_320 : decode cX11_digestOf 320 = .ok (.aload_n 0, 1) := by decide +kernel
theorem dX11_digestOf_321 : decode cX11_digestOf 321 = .ok (.aload_n 0, 1) := by decide +kernel
theorem dX11_digestOf_322 : decode cX11_digestOf 322 = .ok (.getfield 167, 3) := by decide +kernel
theorem dX11_digestOf_325 : decode cX11_digestOf 325 = .ok (.iload 4, 2) := by decide +kernel
theorem dX11_digestOf_327 : decode cX11_digestOf 327 = .ok (.iconst 2, 1) := by decide +kernel
theorem dX11_digestOf_328 : decode cX11_digestOf 328 = .ok (.isub, 1) := by decide +kernel
theorem dX11_digestOf_329 : decode cX11_digestOf 329 = .ok (.iaload, 1) := by decide +kernel
theorem dX11_digestOf_330 : decode cX11_digestOf 330 = .ok (.bipush 19, 2) := by decide +kernel
theorem dX11_digestOf_332 : decode cX11_digestOf 332 = .ok (.invokevirtual 224, 3) := by decide +kernel
theorem dX11_digestOf_335 : decode cX11_digestOf 335 = .ok (.ixor, 1) := by decide +kernel
theorem dX11_digestOf_336 : decode cX11_digestOf 336 = .ok (.aload_n 0, 1) := by decide +kernel
theorem dX11_digestOf_337 : decode cX11_digestOf 337 = .ok (.getfield 167, 3) := by decide +kernel
theorem dX11_digestOf_340 : decode cX11_digestOf 340 = .ok (.iload 4, 2) := by decide +kernel
theorem dX11_digestOf_342 : decode cX11_digestOf 342 = .ok (.iconst 2, 1) := by decide +kernel
theorem dX11_digestOf_343 : decode cX11_digestOf 343 = .ok (.isub, 1) := by decide +kernel
theorem dX11_digestOf_344 : decode cX11_digestOf 344 = .ok (.iaload, 1) := by decide +kernel
theorem dX11_digestOf_345 : decode cX11_digestOf 345 = .ok (.bipush 10, 2) := by decide +kernel
theorem dX11_digestOf_347 : decode cX11_digestOf 347 = .ok (.iushr, 1) := by decide +kernel
theorem dX11_digestOf_348 : decode cX11_digestOf 348 = .ok (.ixor, 1) := by decide +kernel
theorem dX11_digestOf_349 : decode cX11_digestOf 349 = .ok (.istore 6, 2) := by decide +kernel
theorem dX11_digestOf_351 : decode cX11_digestOf 351 = .ok (.aload_n 0, 1) := by decide +kernel
theorem dX11_digestOf_352 : decode cX11_digestOf 352 = .ok (.getfield 167, 3) := by decide +kernel
theorem dX11_digestOf_355 : decode cX11_digestOf 355 = .ok (.iload 4, 2) := by decide +kernel
theorem dX11_digestOf_357 : decode cX11_digestOf 357 = .ok (.aload_n 0, 1) := by decide +kernel
theorem dX11_digestOf_358 : decode cX11_digestOf 358 = .ok (.getfield 167, 3) := by decide +kernel
theorem dX11_digestOf_361 : decode cX11_digestOf 361 = .ok (.iload 4, 2) := by decide +kernel
theorem dX11_digestOf_363 : decode cX11_digestOf 363 = .ok (.bipush 16, 2) := by decide +kernel
theorem dX11_digestOf_365 : decode cX11_digestOf 365 = .ok (.isub, 1) := by decide +kernel
theorem dX11_digestOf_366 : decode cX11_digestOf 366 = .ok (.iaload, 1) := by decide +kernel
theorem dX11_digestOf_367 : decode cX11_digestOf 367 = .ok (.iload 5, 2) := by decide +kernel
theorem dX11_digestOf_369 : decode cX11_digestOf 369 = .ok (.iadd, 1) := by decide +kernel
theorem dX11_digestOf_370 : decode cX11_digestOf 370 = .ok (.aload_n 0, 1) := by decide +kernel
theorem dX11_digestOf_371 : decode cX11_digestOf 371 = .ok (.getfield 167, 3) := by decide +kernel
theorem dX11_digestOf_374 : decode cX11_digestOf 374 = .ok (.iload 4, 2) := by decide +kernel
theorem dX11_digestOf_376 : decode cX11_digestOf 376 = .ok (.bipush 7, 2) := by decide +kernel
theorem dX11_digestOf_378 : decode cX11_digestOf 378 = .ok (.isub, 1) := by decide +kernel
theorem dX11_digestOf_379 : decode cX11_digestOf 379 = .ok (.iaload, 1) := by decide +kernel
theorem dX11_digestOf_380 : decode cX11_digestOf 380 = .ok (.iadd, 1) := by decide +kernel
theorem dX11_digestOf_381 : decode cX11_digestOf 381 = .ok (.iload 6, 2) := by decide +kernel
theorem dX11_digestOf_383 : decode cX11_digestOf 383 = .ok (.iadd, 1) := by decide +kernel
theorem dX11_digestOf_384 : decode cX11_digestOf 384 = .ok (.iastore, 1) := by decide +kernel
theorem dX11_digestOf_385 : decode cX11_digestOf 385 = .ok (.iinc 4 1, 3) := by decide +kernel
theorem dX11_digestOf_388 : decode cX11_digestOf 388 = .ok (.goto (-138), 3) := by decide +kernel
theorem dX11_digestOf_391 : decode cX11_digestOf 391 = .ok (.iconst 0, 1) := by decide +kernel
theorem dX11_digestOf_392 : decode cX11_digestOf 392 = .ok (.istore 4, 2) := by decide +kernel
theorem dX11_digestOf_394 : decode cX11_digestOf 394 = .ok (.iload 4, 2) := by decide +kernel
theorem dX11_digestOf_396 : decode cX11_digestOf 396 = .ok (.bipush 8, 2) := by decide +kernel
theorem dX11_digestOf_398 : decode cX11_digestOf 398 = .ok (.if_icmp .ge 23, 3) := by decide +kernel
theorem dX11_digestOf_401 : decode cX11_digestOf 401 = .ok (.aload_n 0, 1) := by decide +kernel
theorem dX11_digestOf_402 : decode cX11_digestOf 402 = .ok (.getfield 170, 3) := by decide +kernel
theorem dX11_digestOf_405 : decode cX11_digestOf 405 = .ok (.iload 4, 2) := by decide +kernel
theorem dX11_digestOf_407 : decode cX11_digestOf 407 = .ok (.aload_n 0, 1) := by decide +kernel
theorem dX11_digestOf_408 : decode cX11_digestOf 408 = .ok (.getfield 164, 3) := by decide +kernel
theorem dX11_digestOf_411 : decode cX11_digestOf 411 = .ok (.iload 4, 2) := by decide +kernel
theorem dX11_digestOf_413 : decode cX11_digestOf 413 = .ok (.iaload, 1) := by decide +kernel
theorem dX11_digestOf_414 : decode cX11_digestOf 414 = .ok (.iastore, 1) := by decide +kernel
theorem dX11_digestOf_415 : decode cX11_digestOf 415 = .ok (.iinc 4 1, 3) := by decide +kernel
theorem dX11_digestOf_418 : decode cX11_digestOf 418 = .ok (.goto (-24), 3) := by decide +kernel
theorem dX11_digestOf_421 : decode cX11_digestOf 421 = .ok (.iconst 0, 1) := by decide +kernel
theorem dX11_digestOf_422 : decode cX11_digestOf 422 = .ok (.istore 4, 2) := by decide +kernel
theorem dX11_digestOf_424 : decode cX11_digestOf 424 = .ok (.iload 4, 2) := by decide +kernel
theorem dX11_digestOf_426 : decode cX11_digestOf 426 = .ok (.bipush 64, 2) := by decide +kernel
theorem dX11_digestOf_428 : decode cX11_digestOf 428 = .ok (.if_icmp .ge 15, 3) := by decide +kernel
theorem dX11_digestOf_431 : decode cX11_digestOf 431 = .ok (.aload_n 0, 1) := by decide +kernel
theorem dX11_digestOf_432 : decode cX11_digestOf 432 = .ok (.iload 4, 2) := by decide +kernel
theorem dX11_digestOf_434 : decode cX11_digestOf 434 = .ok (.invokevirtual 227, 3) := by decide +kernel
theorem dX11_digestOf_437 : decode cX11_digestOf 437 = .ok (.iinc 4 1, 3) := by decide +kernel
theorem dX11_digestOf_440 : decode cX11_digestOf 440 = .ok (.goto (-16), 3) := by decide +kernel
theorem dX11_digestOf_443 : decode cX11_digestOf 443 = .ok (.iconst 0, 1) := by decide +kernel
theorem dX11_digestOf_444 : decode cX11_digestOf 444 = .ok (.istore 4, 2) := by decide +kernel
theorem dX11_digestOf_446 : decode cX11_digestOf 446 = .ok (.iload 4, 2) := by decide +kernel
theorem dX11_digestOf_448 : decode cX11_digestOf 448 = .ok (.bipush 32, 2) := by decide +kernel
theorem dX11_digestOf_450 : decode cX11_digestOf 450 = .ok (.if_icmp .ge 50, 3) := by decide +kernel
theorem dX11_digestOf_453 : decode cX11_digestOf 453 = .ok (.aload_n 0, 1) := by decide +kernel
theorem dX11_digestOf_454 : decode cX11_digestOf 454 = .ok (.getfield 176, 3) := by decide +kernel
theorem dX11_digestOf_457 : decode cX11_digestOf 457 = .ok (.iload 4, 2) := by decide +kernel
theorem dX11_digestOf_459 : decode cX11_digestOf 459 = .ok (.aload_n 0, 1) := by decide +kernel
theorem dX11_digestOf_460 : decode cX11_digestOf 460 = .ok (.getfield 170, 3) := by decide +kernel
theorem dX11_digestOf_463 : decode cX11_digestOf 463 = .ok (.iload 4, 2) := by decide +kernel
theorem dX11_digestOf_465 : decode cX11_digestOf 465 = .ok (.iconst 4, 1) := by decide +kernel
theorem dX11_digestOf_466 : decode cX11_digestOf 466 = .ok (.idiv, 1) := by decide +kernel
theorem dX11_digestOf_467 : decode cX11_digestOf 467 = .ok (.iaload, 1) := by decide +kernel
theorem dX11_digestOf_468 : decode cX11_digestOf 468 = .ok (.aload_n 0, 1) := by decide +kernel
theorem dX11_digestOf_469 : decode cX11_digestOf 469 = .ok (.getfield 164, 3) := by decide +kernel
theorem dX11_digestOf_472 : decode cX11_digestOf 472 = .ok (.iload 4, 2) := by decide +kernel
theorem dX11_digestOf_474 : decode cX11_digestOf 474 = .ok (.iconst 4, 1) := by decide +kernel
theorem dX11_digestOf_475 : decode cX11_digestOf 475 = .ok (.idiv, 1) := by decide +kernel
theorem dX11_digestOf_476 : decode cX11_digestOf 476 = .ok (.iaload, 1) := by decide +kernel
theorem dX11_digestOf_477 : decode cX11_digestOf 477 = .ok (.iadd, 1) := by decide +kernel
theorem dX11_digestOf_478 : decode cX11_digestOf 478 = .ok (.bipush 24, 2) := by decide +kernel
theorem dX11_digestOf_480 : decode cX11_digestOf 480 = .ok (.bipush 8, 2) := by decide +kernel
theorem dX11_digestOf_482 : decode cX11_digestOf 482 = .ok (.iload 4, 2) := by decide +kernel
theorem dX11_digestOf_484 : decode cX11_digestOf 484 = .ok (.iconst 4, 1) := by decide +kernel
theorem dX11_digestOf_485 : decode cX11_digestOf 485 = .ok (.irem, 1) := by decide +kernel
theorem dX11_digestOf_486 : decode cX11_digestOf 486 = .ok (.imul, 1) := by decide +kernel
theorem dX11_digestOf_487 : decode cX11_digestOf 487 = .ok (.isub, 1) := by decide +kernel
theorem dX11_digestOf_488 : decode cX11_digestOf 488 = .ok (.ishr, 1) := by decide +kernel
theorem dX11_digestOf_489 : decode cX11_digestOf 489 = .ok (.sipush 255, 3) := by decide +kernel
theorem dX11_digestOf_492 : decode cX11_digestOf 492 = .ok (.iand, 1) := by decide +kernel
theorem dX11_digestOf_493 : decode cX11_digestOf 493 = .ok (.iastore, 1) := by decide +kernel
theorem dX11_digestOf_494 : decode cX11_digestOf 494 = .ok (.iinc 4 1, 3) := by decide +kernel
theorem dX11_digestOf_497 : decode cX11_digestOf 497 = .ok (.goto (-51), 3) := by decide +kernel
theorem dX11_digestOf_500 : decode cX11_digestOf 500 = .ok (.return_, 1) := by decide +kernel
theorem dX11_round_0 : decode cX11_round 0 = .ok (.aload_n 0, 1) := by decide +kernel
theorem dX11_round_1 : decode cX11_round 1 = .ok (.getfield 170, 3) := by decide +kernel
theorem dX11_round_4 : decode cX11_round 4 = .ok (.iconst 0, 1) := by decide +kernel
theorem dX11_round_5 : decode cX11_round 5 = .ok (.iaload, 1) := by decide +kernel
theorem dX11_round_6 : decode cX11_round 6 = .ok (.istore_n 2, 1) := by decide +kernel
theorem dX11_round_7 : decode cX11_round 7 = .ok (.aload_n 0, 1) := by decide +kernel
theorem dX11_round_8 : decode cX11_round 8 = .ok (.getfield 170, 3) := by decide +kernel
theorem dX11_round_11 : decode cX11_round 11 = .ok (.iconst 4, 1) := by decide +kernel
theorem dX11_round_12 : decode cX11_round 12 = .ok (.iaload, 1) := by decide +kernel
theorem dX11_round_13 : decode cX11_round 13 = .ok (.istore_n 3, 1) := by decide +kernel
theorem dX11_round_14 : decode cX11_round 14 = .ok (.aload_n 0, 1) := by decide +kernel
theorem dX11_round_15 : decode cX11_round 15 = .ok (.getfield 170, 3) := by decide +kernel
theorem dX11_round_18 : decode cX11_round 18 = .ok (.bipush 7, 2) := by decide +kernel
theorem dX11_round_20 : decode cX11_round 20 = .ok (.iaload, 1) := by decide +kernel
theorem dX11_round_21 : decode cX11_round 21 = .ok (.aload_n 0, 1) := by decide +kernel
theorem dX11_round_22 : decode cX11_round 22 = .ok (.iload_n 3, 1) := by decide +kernel
theorem dX11_round_23 : decode cX11_round 23 = .ok (.bipush 6, 2) := by decide +kernel
theorem dX11_round_25 : decode cX11_round 25 = .ok (.invokevirtual 224, 3) := by decide +kernel
theorem dX11_round_28 : decode cX11_round 28 = .ok (.aload_n 0, 1) := by decide +kernel
theorem dX11_round_29 : decode cX11_round 29 = .ok (.iload_n 3, 1) := by decide +kernel
theorem dX11_round_30 : decode cX11_round 30 = .ok (.bipush 11, 2) := by decide +kernel
theorem dX11_round_32 : decode cX11_round 32 = .ok (.invokevirtual 224, 3) := by decide +kernel
theorem dX11_round_35 : decode cX11_round 35 = .ok (.ixor, 1) := by decide +kernel
theorem dX11_round_36 : decode cX11_round 36 = .ok (.aload_n 0, 1) := by decide +kernel
theorem dX11_round_37 : decode cX11_round 37 = .ok (.iload_n 3, 1) := by decide +kernel
theorem dX11_round_38 : decode cX11_round 38 = .ok (.bipush 25, 2) := by decide +kernel
theorem dX11_round_40 : decode cX11_round 40 = .ok (.invokevirtual 224, 3) := by decide +kernel
theorem dX11_round_43 : decode cX11_round 43 = .ok (.ixor, 1) := by decide +kernel
theorem dX11_round_44 : decode cX11_round 44 = .ok (.iadd, 1) := by decide +kernel
theorem dX11_round_45 : decode cX11_round 45 = .ok (.iload_n 3, 1) := by decide +kernel
theorem dX11_round_46 : decode cX11_round 46 = .ok (.aload_n 0, 1) := by decide +kernel
theorem dX11_round_47 : decode cX11_round 47 = .ok (.getfield 170, 3) := by decide +kernel
theorem dX11_round_50 : decode cX11_round 50 = .ok (.iconst 5, 1) := by decide +kernel
theorem dX11_round_51 : decode cX11_round 51 = .ok (.iaload, 1) := by decide +kernel
theorem dX11_round_52 : decode cX11_round 52 = .ok (.iand, 1) := by decide +kernel
theorem dX11_round_53 : decode cX11_round 53 = .ok (.iload_n 3, 1) := by decide +kernel
theorem dX11_round_54 : decode cX11_round 54 = .ok (.iconst (-1), 1) := by decide +kernel
theorem dX11_round_55 : decode cX11_round 55 = .ok (.ixor, 1) := by decide +kernel
theorem dX11_round_56 : decode cX11_round 56 = .ok (.aload_n 0, 1) := by decide +kernel
theorem dX11_round_57 : decode cX11_round 57 = .ok (.getfield 170, 3) := by decide +kernel
theorem dX11_round_60 : decode cX11_round 60 = .ok (.bipush 6, 2) := by decide +kernel
theorem dX11_round_62 : decode cX11_round 62 = .ok (.iaload, 1) := by decide +kernel
theorem dX11_round_63 : decode cX11_round 63 = .ok (.iand, 1) := by decide +kernel
theorem dX11_round_64 : decode cX11_round 64 = .ok (.ixor, 1) := by decide +kernel
theorem dX11_round_65 : decode cX11_round 65 = .ok (.iadd, 1) := by decide +kernel
theorem dX11_round_66 : decode cX11_round 66 = .ok (.aload_n 0, 1) := by decide +kernel
theorem dX11_round_67 : decode cX11_round 67 = .ok (.getfield 153, 3) := by decide +kernel
theorem dX11_round_70 : decode cX11_round 70 = .ok (.iload_n 1, 1) := by decide +kernel
theorem dX11_round_71 : decode cX11_round 71 = .ok (.iaload, 1) := by decide +kernel
theorem dX11_round_72 : decode cX11_round 72 = .ok (.iadd, 1) := by decide +kernel
theorem dX11_round_73 : decode cX11_round 73 = .ok (.aload_n 0, 1) := by decide +kernel
theorem dX11_round_74 : decode cX11_round 74 = .ok (.getfield 167, 3) := by decide +kernel
theorem dX11_round_77 : decode cX11_round 77 = .ok (.iload_n 1, 1) := by decide +kernel
theorem dX11_round_78 : decode cX11_round 78 = .ok (.iaload, 1) := by decide +kernel
theorem dX11_round_79 : decode cX11_round 79 = .ok (.iadd, 1) := by decide +kernel
theorem dX11_round_80 : decode cX11_round 80 = .ok (.istore 4, 2) := by decide +kernel
theorem dX11_round_82 : decode cX11_round 82 = .ok (.aload_n 0, 1) := by decide +kernel
theorem dX11_round_83 : decode cX11_round 83 = .ok (.iload_n 2, 1) := by decide +kernel
theorem dX11_round_84 : decode cX11_round 84 = .ok (.iconst 2, 1) := by decide +kernel
theorem dX11_round_85 : decode cX11_round 85 = .ok (.invokevirtual 224, 3) := by decide +kernel
theorem dX11_round_88 : decode cX11_round 88 = .ok (.aload_n 0, 1) := by decide +kernel
theorem dX11_round_89 : decode cX11_round 89 = .ok (.iload_n 2, 1) := by decide +kernel
theorem dX11_round_90 : decode cX11_round 90 = .ok (.bipush 13, 2) := by decide +kernel
theorem dX11_round_92 : decode cX11_round 92 = .ok (.invokevirtual 224, 3) := by decide +kernel
theorem dX11_round_95 : decode cX11_round 95 = .ok (.ixor, 1) := by decide +kernel
theorem dX11_round_96 : decode cX11_round 96 = .ok (.aload_n 0, 1) := by decide +kernel
theorem dX11_round_97 : decode cX11_round 97 = .ok (.iload_n 2, 1) := by decide +kernel
theorem dX11_round_98 : decode cX11_round 98 = .ok (.bipush 22, 2) := by decide +kernel
theorem dX11_round_100 : decode cX11_round 100 = .ok (.invokevirtual 224, 3) := by decide +kernel
theorem dX11_round_103 : decode cX11_round 103 = .ok (.ixor, 1) := by decide +kernel
theorem dX11_round_104 : decode cX11_round 104 = .ok (.iload_n 2, 1) := by decide +kernel
theorem dX11_round_105 : decode cX11_round 105 = .ok (.aload_n 0, 1) := by decide +kernel
theorem dX11_round_106 : decode cX11_round 106 = .ok (.getfield 170, 3) := by decide +kernel
theorem dX11_round_109 : decode cX11_round 109 = .ok (.iconst 1, 1) := by decide +kernel
theorem dX11_round_110 : decode cX11_round 110 = .ok (.iaload, 1) := by decide +kernel
theorem dX11_round_111 : decode cX11_round 111 = .ok (.iand, 1) := by decide +kernel
theorem dX11_round_112 : decode cX11_round 112 = .ok (.iload_n 2, 1) := by decide +kernel
theorem dX11_round_113 : decode cX11_round 113 = .ok (.aload_n 0, 1) := by decide +kernel
theorem dX11_round_114 : decode cX11_round 114 = .ok (.getfield 170, 3) := by decide +kernel
theorem dX11_round_117 : decode cX11_round 117 = .ok (.iconst 2, 1) := by decide +kernel
theorem dX11_round_118 : decode cX11_round 118 = .ok (.iaload, 1) := by decide +kernel
theorem dX11_round_119 : decode cX11_round 119 = .ok (.iand, 1) := by decide +kernel
theorem dX11_round_120 : decode cX11_round 120 = .ok (.ixor, 1) := by decide +kernel
theorem dX11_round_121 : decode cX11_round 121 = .ok (.aload_n 0, 1) := by decide +kernel
theorem dX11_round_122 : decode cX11_round 122 = .ok (.getfield 170, 3) := by decide +kernel
theorem dX11_round_125 : decode cX11_round 125 = .ok (.iconst 1, 1) := by decide +kernel
theorem dX11_round_126 : decode cX11_round 126 = .ok (.iaload, 1) := by decide +kernel
theorem dX11_round_127 : decode cX11_round 127 = .ok (.aload_n 0, 1) := by decide +kernel
theorem dX11_round_128 : decode cX11_round 128 = .ok (.getfield 170, 3) := by decide +kernel
theorem dX11_round_131 : decode cX11_round 131 = .ok (.iconst 2, 1) := by decide +kernel
theorem dX11_round_132 : decode cX11_round 132 = .ok (.iaload, 1) := by decide +kernel
theorem dX11_round_133 : decode cX11_round 133 = .ok (.iand, 1) := by decide +kernel
theorem dX11_round_134 : decode cX11_round 134 = .ok (.ixor, 1) := by decide +kernel
theorem dX11_round_135 : decode cX11_round 135 = .ok (.iadd, 1) := by decide +kernel
theorem dX11_round_136 : decode cX11_round 136 = .ok (.istore 5, 2) := by decide +kernel
theorem dX11_round_138 : decode cX11_round 138 = .ok (.bipush 7, 2) := by decide +kernel
theorem dX11_round_140 : decode cX11_round 140 = .ok (.istore 6, 2) := by decide +kernel
theorem dX11_round_142 : decode cX11_round 142 = .ok (.iload 6, 2) := by decide +kernel
theorem dX11_round_144 : decode cX11_round 144 = .ok (.ifCond .le 25, 3) := by decide +kernel
theorem dX11_round_147 : decode cX11_round 147 = .ok (.aload_n 0, 1) := by decide +kernel
theorem dX11_round_148 : decode cX11_round 148 = .ok (.getfield 170, 3) := by decide +kernel
theorem dX11_round_151 : decode cX11_round 151 = .ok (.iload 6, 2) := by decide +kernel
theorem dX11_round_153 : decode cX11_round 153 = .ok (.aload_n 0, 1) := by decide +kernel
theorem dX11_round_154 : decode cX11_round 154 = .ok (.getfield 170, 3) := by decide +kernel
theorem dX11_round_157 : decode cX11_round 157 = .ok (.iload 6, 2) := by decide +kernel
theorem dX11_round_159 : decode cX11_round 159 = .ok (.iconst 1, 1) := by decide +kernel
theorem dX11_round_160 : decode cX11_round 160 = .ok (.isub, 1) := by decide +kernel
theorem dX11_round_161 : decode cX11_round 161 = .ok (.iaload, 1) := by decide +kernel
theorem dX11_round_162 : decode cX11_round 162 = .ok (.iastore, 1) := by decide +kernel
theorem dX11_round_163 : decode cX11_round 163 = .ok (.iinc 6 (-1), 3) := by decide +kernel
theorem dX11_round_166 : decode cX11_round 166 = .ok (.goto (-24), 3) := by decide +kernel
theorem dX11_round_169 : decode cX11_round 169 = .ok (.aload_n 0, 1) := by decide +kernel
theorem dX11_round_170 : decode cX11_round 170 = .ok (.getfield 170, 3) := by decide +kernel
theorem dX11_round_173 : decode cX11_round 173 = .ok (.iconst 4, 1) := by decide +kernel
theorem dX11_round_174 : decode cX11_round 174 = .ok (.dup2, 1) := by decide +kernel
theorem dX11_round_175 : decode cX11_round 175 = .ok (.iaload, 1) := by decide +kernel
theorem dX11_round_176 : decode cX11_round 176 = .ok (.iload 4, 2) := by decide +kernel
theorem dX11_round_178 : decode cX11_round 178 = .ok (.iadd, 1) := by decide +kernel
theorem dX11_round_179 : decode cX11_round 179 = .ok (.iastore, 1) := by decide +kernel
theorem dX11_round_180 : decode cX11_round 180 = .ok (.aload_n 0, 1) := by decide +kernel
theorem dX11_round_181 : decode cX11_round 181 = .ok (.getfield 170, 3) := by decide +kernel
theorem dX11_round_184 : decode cX11_round 184 = .ok (.iconst 0, 1) := by decide +kernel
theorem dX11_round_185 : decode cX11_round 185 = .ok (.iload 4, 2) := by decide +kernel
theorem dX11_round_187 : decode cX11_round 187 = .ok (.iload 5, 2) := by decide +kernel
theorem dX11_round_189 : decode cX11_round 189 = .ok (.iadd, 1) := by decide +kernel
theorem dX11_round_190 : decode cX11_round 190 = .ok (.iastore, 1) := by decide +kernel
theorem dX11_round_191 : decode cX11_round 191 = .ok (.return_, 1) := by decide +kernel
theorem dX11_candidate_0 : decode cX11_candidate 0 = .ok (.aload_n 0, 1) := by decide +kernel
theorem dX11_candidate_1 : decode cX11_candidate 1 = .ok (.iload_n 1, 1) := by decide +kernel
theorem dX11_candidate_2 : decode cX11_candidate 2 = .ok (.ifCond .lt 9, 3) := by decide +kernel
theorem dX11_candidate_5 : decode cX11_candidate 5 = .ok (.iload_n 1, 1) := by decide +kernel
theorem dX11_candidate_6 : decode cX11_candidate 6 = .ok (.ldc 230, 2) := by decide +kernel
theorem dX11_candidate_8 : decode cX11_candidate 8 = .ok (.if_icmp .le 7, 3) := by decide +kernel
theorem dX11_candidate_11 : decode cX11_candidate 11 = .ok (.iconst 1, 1) := by decide +kernel
theorem dX11_candidate_12 : decode cX11_candidate 12 = .ok (.goto 28, 3) := by decide +kernel
theorem dX11_candidate_15 : decode cX11_candidate 15 = .ok (.aload_n 0, 1) := by decide +kernel
theorem dX11_candidate_16 : decode cX11_candidate 16 = .ok (.getfield 231, 3) := by decide +kernel
theorem dX11_candidate_19 : decode cX11_candidate 19 = .ok (.ifCond .eq 7, 3) := by decide +kernel
theorem dX11_candidate_22 : decode cX11_candidate 22 = .ok (.iconst 2, 1) := by decide +kernel
theorem dX11_candidate_23 : decode cX11_candidate 23 = .ok (.goto 17, 3) := by decide +kernel
theorem dX11_candidate_26 : decode cX11_candidate 26 = .ok (.aload_n 0, 1) := by decide +kernel
theorem dX11_candidate_27 : decode cX11_candidate 27 = .ok (.getfield 234, 3) := by decide +kernel
theorem dX11_candidate_30 : decode cX11_candidate 30 = .ok (.bipush 8, 2) := by decide +kernel
theorem dX11_candidate_32 : decode cX11_candidate 32 = .ok (.if_icmp .ne 7, 3) := by decide +kernel
theorem dX11_candidate_35 : decode cX11_candidate 35 = .ok (.iconst 3, 1) := by decide +kernel
theorem dX11_candidate_36 : decode cX11_candidate 36 = .ok (.goto 4, 3) := by decide +kernel
theorem dX11_candidate_39 : decode cX11_candidate 39 = .ok (.iconst 0, 1) := by decide +kernel
theorem dX11_candidate_40 : decode cX11_candidate 40 = .ok (.putfield 1, 3) := by decide +kernel
theorem dX11_candidate_43 : decode cX11_candidate 43 = .ok (.aload_n 0, 1) := by decide +kernel
theorem dX11_candidate_44 : decode cX11_candidate 44 = .ok (.getfield 1, 3) := by decide +kernel
theorem dX11_candidate_47 : decode cX11_candidate 47 = .ok (.ifCond .le 5, 3) := by decide +kernel
theorem dX11_candidate_50 : decode cX11_candidate 50 = .ok (.iconst 0, 1) := by decide +kernel
theorem dX11_candidate_51 : decode cX11_candidate 51 = .ok (.ireturn, 1) := by decide +kernel
theorem dX11_candidate_52 : decode cX11_candidate 52 = .ok (.aload_n 0, 1) := by decide +kernel
theorem dX11_candidate_53 : decode cX11_candidate 53 = .ok (.getfield 13, 3) := by decide +kernel
theorem dX11_candidate_56 : decode cX11_candidate 56 = .ok (.aload_n 0, 1) := by decide +kernel
theorem dX11_candidate_57 : decode cX11_candidate 57 = .ok (.getfield 234, 3) := by decide +kernel
theorem dX11_candidate_60 : decode cX11_candidate 60 = .ok (.iload_n 1, 1) := by decide +kernel
theorem dX11_candidate_61 : decode cX11_candidate 61 = .ok (.iastore, 1) := by decide +kernel
theorem dX11_candidate_62 : decode cX11_candidate 62 = .ok (.aload_n 0, 1) := by decide +kernel
theorem dX11_candidate_63 : decode cX11_candidate 63 = .ok (.dup, 1) := by decide +kernel
theorem dX11_candidate_64 : decode cX11_candidate 64 = .ok (.getfield 234, 3) := by decide +kernel
theorem dX11_candidate_67 : decode cX11_candidate 67 = .ok (.iconst 1, 1) := by decide +kernel
theorem dX11_candidate_68 : decode cX11_candidate 68 = .ok (.iadd, 1) := by decide +kernel
theorem dX11_candidate_69 : decode cX11_candidate 69 = .ok (.putfield 234, 3) := by decide +kernel
theorem dX11_candidate_72 : decode cX11_candidate 72 = .ok (.aload_n 0, 1) := by decide +kernel
theorem dX11_candidate_73 : decode cX11_candidate 73 = .ok (.getfield 234, 3) := by decide +kernel
theorem dX11_candidate_76 : decode cX11_candidate 76 = .ok (.iconst 1, 1) := by decide +kernel
theorem dX11_candidate_77 : decode cX11_candidate 77 = .ok (.isub, 1) := by decide +kernel
theorem dX11_candidate_78 : decode cX11_candidate 78 = .ok (.ireturn, 1) := by decide +kernel
theorem dX11_batch_0 : decode cX11_batch 0 = .ok (.aload_n 0, 1) := by decide +kernel
theorem dX11_batch_1 : decode cX11_batch 1 = .ok (.iload_n 1, 1) := by decide +kernel
theorem dX11_batch_2 : decode cX11_batch 2 = .ok (.iconst 1, 1) := by decide +kernel
theorem dX11_batch_3 : decode cX11_batch 3 = .ok (.if_icmp .lt 10, 3) := by decide +kernel
theorem dX11_batch_6 : decode cX11_batch 6 = .ok (.iload_n 1, 1) := by decide +kernel
theorem dX11_batch_7 : decode cX11_batch 7 = .ok (.sipush 4000, 3) := by decide +kernel
theorem dX11_batch_10 : decode cX11_batch 10 = .ok (.if_icmp .le 7, 3) := by decide +kernel
theorem dX11_batch_13 : decode cX11_batch 13 = .ok (.iconst 1, 1) := by decide +kernel
theorem dX11_batch_14 : decode cX11_batch 14 = .ok (.goto 40, 3) := by decide +kernel
theorem dX11_batch_17 : decode cX11_batch 17 = .ok (.aload_n 0, 1) := by decide +kernel
theorem dX11_batch_18 : decode cX11_batch 18 = .ok (.getfield 231, 3) := by decide +kernel
theorem dX11_batch_21 : decode cX11_batch 21 = .ok (.ifCond .eq 7, 3) := by decide +kernel
theorem dX11_batch_24 : decode cX11_batch 24 = .ok (.iconst 2, 1) := by decide +kernel
theorem dX11_batch_25 : decode cX11_batch 25 = .ok (.goto 29, 3) := by decide +kernel
theorem dX11_batch_28 : decode cX11_batch 28 = .ok (.aload_n 0, 1) := by decide +kernel
theorem dX11_batch_29 : decode cX11_batch 29 = .ok (.getfield 237, 3) := by decide +kernel
theorem dX11_batch_32 : decode cX11_batch 32 = .ok (.bipush 64, 2) := by decide +kernel
theorem dX11_batch_34 : decode cX11_batch 34 = .ok (.if_icmp .eq 15, 3) := by decide +kernel
theorem dX11_batch_37 : decode cX11_batch 37 = .ok (.aload_n 0, 1) := by decide +kernel
theorem dX11_batch_38 : decode cX11_batch 38 = .ok (.getfield 240, 3) := by decide +kernel
theorem dX11_batch_41 : decode cX11_batch 41 = .ok (.iload_n 1, 1) := by decide +kernel
theorem dX11_batch_42 : decode cX11_batch 42 = .ok (.iadd, 1) := by decide +kernel
theorem dX11_batch_43 : decode cX11_batch 43 = .ok (.sipush 20000, 3) := by decide +kernel
theorem dX11_batch_46 : decode cX11_batch 46 = .ok (.if_icmp .le 7, 3) := by decide +kernel
theorem dX11_batch_49 : decode cX11_batch 49 = .ok (.iconst 3, 1) := by decide +kernel
theorem dX11_batch_50 : decode cX11_batch 50 = .ok (.goto 4, 3) := by decide +kernel
theorem dX11_batch_53 : decode cX11_batch 53 = .ok (.iconst 0, 1) := by decide +kernel
theorem dX11_batch_54 : decode cX11_batch 54 = .ok (.putfield 1, 3) := by decide +kernel
theorem dX11_batch_57 : decode cX11_batch 57 = .ok (.aload_n 0, 1) := by decide +kernel
theorem dX11_batch_58 : decode cX11_batch 58 = .ok (.getfield 1, 3) := by decide +kernel
theorem dX11_batch_61 : decode cX11_batch 61 = .ok (.ifCond .le 5, 3) := by decide +kernel
theorem dX11_batch_64 : decode cX11_batch 64 = .ok (.iconst 0, 1) := by decide +kernel
theorem dX11_batch_65 : decode cX11_batch 65 = .ok (.ireturn, 1) := by decide +kernel
theorem dX11_batch_66 : decode cX11_batch 66 = .ok (.aload_n 0, 1) := by decide +kernel
theorem dX11_batch_67 : decode cX11_batch 67 = .ok (.getfield 23, 3) := by decide +kernel
theorem dX11_batch_70 : decode cX11_batch 70 = .ok (.aload_n 0, 1) := by decide +kernel
theorem dX11_batch_71 : decode cX11_batch 71 = .ok (.getfield 237, 3) := by decide +kernel
theorem dX11_batch_74 : decode cX11_batch 74 = .ok (.aload_n 0, 1) := by decide +kernel
theorem dX11_batch_75 : decode cX11_batch 75 = .ok (.getfield 240, 3) := by decide +kernel
theorem dX11_batch_78 : decode cX11_batch 78 = .ok (.iastore, 1) := by decide +kernel
theorem dX11_batch_79 : decode cX11_batch 79 = .ok (.aload_n 0, 1) := by decide +kernel
theorem dX11_batch_80 : decode cX11_batch 80 = .ok (.dup, 1) := by decide +kernel
theorem dX11_batch_81 : decode cX11_batch 81 = .ok (.getfield 237, 3) := by decide +kernel
theorem dX11_batch_84 : decode cX11_batch 84 = .ok (.iconst 1, 1) := by decide +kernel
theorem dX11_batch_85 : decode cX11_batch 85 = .ok (.iadd, 1) := by decide +kernel
theorem dX11_batch_86 : decode cX11_batch 86 = .ok (.putfield 237, 3) := by decide +kernel
theorem dX11_batch_89 : decode cX11_batch 89 = .ok (.iconst 0, 1) := by decide +kernel
theorem dX11_batch_90 : decode cX11_batch 90 = .ok (.istore_n 2, 1) := by decide +kernel
theorem dX11_batch_91 : decode cX11_batch 91 = .ok (.iload_n 2, 1) := by decide +kernel
theorem dX11_batch_92 : decode cX11_batch 92 = .ok (.iload_n 1, 1) := by decide +kernel
theorem dX11_batch_93 : decode cX11_batch 93 = .ok (.if_icmp .ge 46, 3) := by decide +kernel
theorem dX11_batch_96 : decode cX11_batch 96 = .ok (.aload_n 0, 1) := by decide +kernel
theorem dX11_batch_97 : decode cX11_batch 97 = .ok (.getfield 26, 3) := by decide +kernel
theorem dX11_batch_100 : decode cX11_batch 100 = .ok (.aload_n 0, 1) := by decide +kernel
theorem dX11_batch_101 : decode cX11_batch 101 = .ok (.getfield 240, 3) := by decide +kernel
theorem dX11_batch_104 : decode cX11_batch 104 = .ok (.iload_n 2, 1) := by decide +kernel
theorem dX11_batch_105 : decode cX11_batch 105 = .ok (.iadd, 1) := by decide +kernel
theorem dX11_batch_106 : decode cX11_batch 106 = .ok (.iconst (-1), 1) := by decide +kernel
theorem dX11_batch_107 : decode cX11_batch 107 = .ok (.bastore, 1) := by decide +kernel
theorem dX11_batch_108 : decode cX11_batch 108 = .ok (.aload_n 0, 1) := by decide +kernel
theorem dX11_batch_109 : decode cX11_batch 109 = .ok (.getfield 64, 3) := by decide +kernel
theorem dX11_batch_112 : decode cX11_batch 112 = .ok (.aload_n 0, 1) := by decide +kernel
theorem dX11_batch_113 : decode cX11_batch 113 = .ok (.getfield 240, 3) := by decide +kernel
theorem dX11_batch_116 : decode cX11_batch 116 = .ok (.iload_n 2, 1) := by decide +kernel
theorem dX11_batch_117 : decode cX11_batch 117 = .ok (.iadd, 1) := by decide +kernel
theorem dX11_batch_118 : decode cX11_batch 118 = .ok (.bipush (-2), 2) := by decide +kernel
theorem dX11_batch_120 : decode cX11_batch 120 = .ok (.bastore, 1) := by decide +kernel
theorem dX11_batch_121 : decode cX11_batch 121 = .ok (.aload_n 0, 1) := by decide +kernel
theorem dX11_batch_122 : decode cX11_batch 122 = .ok (.getfield 67, 3) := by decide +kernel
theorem dX11_batch_125 : decode cX11_batch 125 = .ok (.aload_n 0, 1) := by decide +kernel
theorem dX11_batch_126 : decode cX11_batch 126 = .ok (.getfield 240, 3) := by decide +kernel
theorem dX11_batch_129 : decode cX11_batch 129 = .ok (.iload_n 2, 1) := by decide +kernel
theorem dX11_batch_130 : decode cX11_batch 130 = .ok (.iadd, 1) := by decide +kernel
theorem dX11_batch_131 : decode cX11_batch 131 = .ok (.iconst 0, 1) := by decide +kernel
theorem dX11_batch_132 : decode cX11_batch 132 = .ok (.iastore, 1) := by decide +kernel
theorem dX11_batch_133 : decode cX11_batch 133 = .ok (.iinc 2 1, 3) := by decide +kernel
theorem dX11_batch_136 : decode cX11_batch 136 = .ok (.goto (-45), 3) := by decide +kernel
theorem dX11_batch_139 : decode cX11_batch 139 = .ok (.aload_n 0, 1) := by decide +kernel
theorem dX11_batch_140 : decode cX11_batch 140 = .ok (.dup, 1) := by decide +kernel
theorem dX11_batch_141 : decode cX11_batch 141 = .ok (.getfield 240, 3) := by decide +kernel
theorem dX11_batch_144 : decode cX11_batch 144 = .ok (.iload_n 1, 1) := by decide +kernel
theorem dX11_batch_145 : decode cX11_batch 145 = .ok (.iadd, 1) := by decide +kernel
theorem dX11_batch_146 : decode cX11_batch 146 = .ok (.putfield 240, 3) := by decide +kernel
theorem dX11_batch_149 : decode cX11_batch 149 = .ok (.aload_n 0, 1) := by decide +kernel
theorem dX11_batch_150 : decode cX11_batch 150 = .ok (.getfield 240, 3) := by decide +kernel
theorem dX11_batch_153 : decode cX11_batch 153 = .ok (.iload_n 1, 1) := by decide +kernel
theorem dX11_batch_154 : decode cX11_batch 154 = .ok (.isub, 1) := by decide +kernel
theorem dX11_batch_155 : decode cX11_batch 155 = .ok (.ireturn, 1) := by decide +kernel
theorem dX11_set_0 : decode cX11_set 0 = .ok (.aload_n 0, 1) := by decide +kernel
theorem dX11_set_1 : decode cX11_set 1 = .ok (.iload_n 1, 1) := by decide +kernel
theorem dX11_set_2 : decode cX11_set 2 = .ok (.ifCond .lt 8, 3) := by decide +kernel
theorem dX11_set_5 : decode cX11_set 5 = .ok (.iload_n 1, 1) := by decide +kernel
theorem dX11_set_6 : decode cX11_set 6 = .ok (.iconst 1, 1) := by decide +kernel
theorem dX11_set_7 : decode cX11_set 7 = .ok (.if_icmp .le 7, 3) := by decide +kernel
theorem dX11_set_10 : decode cX11_set 10 = .ok (.iconst 1, 1) := by decide +kernel
theorem dX11_set_11 : decode cX11_set 11 = .ok (.goto 40, 3) := by decide +kernel
theorem dX11_set_14 : decode cX11_set 14 = .ok (.iload_n 2, 1) := by decide +kernel
theorem dX11_set_15 : decode cX11_set 15 = .ok (.iconst 1, 1) := by decide +kernel
theorem dX11_set_16 : decode cX11_set 16 = .ok (.if_icmp .lt 19, 3) := by decide +kernel
theorem dX11_set_19 : decode cX11_set 19 = .ok (.iload_n 2, 1) := by decide +kernel
theorem dX11_set_20 : decode cX11_set 20 = .ok (.iload_n 1, 1) := by decide +kernel
theorem dX11_set_21 : decode cX11_set 21 = .ok (.ifCond .ne 8, 3) := by decide +kernel
theorem dX11_set_24 : decode cX11_set 24 = .ok (.bipush 7, 2) := by decide +kernel
theorem dX11_set_26 : decode cX11_set 26 = .ok (.goto 6, 3) := by decide +kernel
theorem dX11_set_29 : decode cX11_set 29 = .ok (.sipush 200, 3) := by decide +kernel
theorem dX11_set_32 : decode cX11_set 32 = .ok (.if_icmp .le 7, 3) := by decide +kernel
theorem dX11_set_35 : decode cX11_set 35 = .ok (.iconst 2, 1) := by decide +kernel
theorem dX11_set_36 : decode cX11_set 36 = .ok (.goto 15, 3) := by decide +kernel
theorem dX11_set_39 : decode cX11_set 39 = .ok (.aload_n 0, 1) := by decide +kernel
theorem dX11_set_40 : decode cX11_set 40 = .ok (.getfield 231, 3) := by decide +kernel
theorem dX11_set_43 : decode cX11_set 43 = .ok (.ifCond .eq 7, 3) := by decide +kernel
theorem dX11_set_46 : decode cX11_set 46 = .ok (.iconst 3, 1) := by decide +kernel
theorem dX11_set_47 : decode cX11_set 47 = .ok (.goto 4, 3) := by decide +kernel
theorem dX11_set_50 : decode cX11_set 50 = .ok (.iconst 0, 1) := by decide +kernel
theorem dX11_set_51 : decode cX11_set 51 = .ok (.putfield 1, 3) := by decide +kernel
theorem dX11_set_54 : decode cX11_set 54 = .ok (.aload_n 0, 1) := by decide +kernel
theorem dX11_set_55 : decode cX11_set 55 = .ok (.getfield 1, 3) := by decide +kernel
theorem dX11_set_58 : decode cX11_set 58 = .ok (.ifCond .le 5, 3) := by decide +kernel
theorem dX11_set_61 : decode cX11_set 61 = .ok (.iconst 0, 1) := by decide +kernel
theorem dX11_set_62 : decode cX11_set 62 = .ok (.ireturn, 1) := by decide +kernel
theorem dX11_set_63 : decode cX11_set 63 = .ok (.iload_n 1, 1) := by decide +kernel
theorem dX11_set_64 : decode cX11_set 64 = .ok (.ifCond .ne 10, 3) := by decide +kernel
theorem dX11_set_67 : decode cX11_set 67 = .ok (.aload_n 0, 1) := by decide +kernel
theorem dX11_set_68 : decode cX11_set 68 = .ok (.getfield 17, 3) := by decide +kernel
theorem dX11_set_71 : decode cX11_set 71 = .ok (.goto 7, 3) := by decide +kernel
theorem dX11_set_74 : decode cX11_set 74 = .ok (.aload_n 0, 1) := by decide +kernel
theorem dX11_set_75 : decode cX11_set 75 = .ok (.getfield 20, 3) := by decide +kernel
theorem dX11_set_78 : decode cX11_set 78 = .ok (.istore_n 3, 1) := by decide +kernel
theorem dX11_set_79 : decode cX11_set 79 = .ok (.aload_n 0, 1) := by decide +kernel
theorem dX11_set_80 : decode cX11_set 80 = .ok (.iload_n 1, 1) := by decide +kernel
theorem dX11_set_81 : decode cX11_set 81 = .ok (.ifCond .ne 7, 3) := by decide +kernel
theorem dX11_set_84 : decode cX11_set 84 = .ok (.iload_n 2, 1) := by decide +kernel
theorem dX11_set_85 : decode cX11_set 85 = .ok (.goto 7, 3) := by decide +kernel
theorem dX11_set_88 : decode cX11_set 88 = .ok (.aload_n 0, 1) := by decide +kernel
theorem dX11_set_89 : decode cX11_set 89 = .ok (.getfield 17, 3) := by decide +kernel
theorem dX11_set_92 : decode cX11_set 92 = .ok (.putfield 17, 3) := by decide +kernel
theorem dX11_set_95 : decode cX11_set 95 = .ok (.aload_n 0, 1) := by decide +kernel
theorem dX11_set_96 : decode cX11_set 96 = .ok (.iload_n 1, 1) := by decide +kernel
theorem dX11_set_97 : decode cX11_set 97 = .ok (.iconst 1, 1) := by decide +kernel
theorem dX11_set_98 : decode cX11_set 98 = .ok (.if_icmp .ne 7, 3) := by decide +kernel
theorem dX11_set_101 : decode cX11_set 101 = .ok (.iload_n 2, 1) := by decide +kernel
theorem dX11_set_102 : decode cX11_set 102 = .ok (.goto 7, 3) := by decide +kernel
theorem dX11_set_105 : decode cX11_set 105 = .ok (.aload_n 0, 1) := by decide +kernel
theorem dX11_set_106 : decode cX11_set 106 = .ok (.getfield 20, 3) := by decide +kernel
theorem dX11_set_109 : decode cX11_set 109 = .ok (.putfield 20, 3) := by decide +kernel
theorem dX11_set_112 : decode cX11_set 112 = .ok (.iload_n 3, 1) := by decide +kernel
theorem dX11_set_113 : decode cX11_set 113 = .ok (.ireturn, 1) := by decide +kernel
theorem dX11_fraction_0 : decode cX11_fraction 0 = .ok (.iload_n 2, 1) := by decide +kernel
theorem dX11_fraction_1 : decode cX11_fraction 1 = .ok (.iconst 1, 1) := by decide +kernel
theorem dX11_fraction_2 : decode cX11_fraction 2 = .ok (.if_icmp .lt 41, 3) := by decide +kernel
theorem dX11_fraction_5 : decode cX11_fraction 5 = .ok (.iload_n 2, 1) := by decide +kernel
theorem dX11_fraction_6 : decode cX11_fraction 6 = .ok (.ldc 230, 2) := by decide +kernel
theorem dX11_fraction_8 : decode cX11_fraction 8 = .ok (.if_icmp .gt 35, 3) := by decide +kernel
theorem dX11_fraction_11 : decode cX11_fraction 11 = .ok (.iload_n 3, 1) := by decide +kernel
theorem dX11_fraction_12 : decode cX11_fraction 12 = .ok (.iconst 1, 1) := by decide +kernel
theorem dX11_fraction_13 : decode cX11_fraction 13 = .ok (.if_icmp .lt 30, 3) := by decide +kernel
theorem dX11_fraction_16 : decode cX11_fraction 16 = .ok (.iload_n 3, 1) := by decide +kernel
theorem dX11_fraction_17 : decode cX11_fraction 17 = .ok (.ldc 230, 2) := by decide +kernel
theorem dX11_fraction_19 : decode cX11_fraction 19 = .ok (.if_icmp .gt 24, 3) := by decide +kernel
theorem dX11_fraction_22 : decode cX11_fraction 22 = .ok (.iload_n 1, 1) := by decide +kernel
theorem dX11_fraction_23 : decode cX11_fraction 23 = .ok (.ifCond .ne 11, 3) := by decide +kernel
theorem dX11_fraction_26 : decode cX11_fraction 26 = .ok (.iload_n 2, 1) := by decide +kernel
theorem dX11_fraction_27 : decode cX11_fraction 27 = .ok (.iload_n 3, 1) := by decide +kernel
theorem dX11_fraction_28 : decode cX11_fraction 28 = .ok (.if_icmp .ge 15, 3) := by decide +kernel
theorem dX11_fraction_31 : decode cX11_fraction 31 = .ok (.goto 8, 3) := by decide +kernel
theorem dX11_fraction_34 : decode cX11_fraction 34 = .ok (.iload_n 2, 1) := by decide +kernel
theorem dX11_fraction_35 : decode cX11_fraction 35 = .ok (.iload_n 3, 1) := by decide +kernel
theorem dX11_fraction_36 : decode cX11_fraction 36 = .ok (.if_icmp .le 7, 3) := by decide +kernel
theorem dX11_fraction_39 : decode cX11_fraction 39 = .ok (.iconst 1, 1) := by decide +kernel
theorem dX11_fraction_40 : decode cX11_fraction 40 = .ok (.goto 4, 3) := by decide +kernel
theorem dX11_fraction_43 : decode cX11_fraction 43 = .ok (.iconst 0, 1) := by decide +kernel
theorem dX11_fraction_44 : decode cX11_fraction 44 = .ok (.istore 4, 2) := by decide +kernel
theorem dX11_fraction_46 : decode cX11_fraction 46 = .ok (.aload_n 0, 1) := by decide +kernel
theorem dX11_fraction_47 : decode cX11_fraction 47 = .ok (.iload_n 1, 1) := by decide +kernel
theorem dX11_fraction_48 : decode cX11_fraction 48 = .ok (.ifCond .lt 8, 3) := by decide +kernel
theorem dX11_fraction_51 : decode cX11_fraction 51 = .ok (.iload_n 1, 1) := by decide +kernel
theorem dX11_fraction_52 : decode cX11_fraction 52 = .ok (.iconst 1, 1) := by decide +kernel
theorem dX11_fraction_53 : decode cX11_fraction 53 = .ok (.if_icmp .le 7, 3) := by decide +kernel
theorem dX11_fraction_56 : decode cX11_fraction 56 = .ok (.iconst 1, 1) := by decide +kernel
theorem dX11_fraction_57 : decode cX11_fraction 57 = .ok (.goto 24, 3) := by decide +kernel
theorem dX11_fraction_60 : decode cX11_fraction 60 = .ok (.iload 4, 2) := by decide +kernel
theorem dX11_fraction_62 : decode cX11_fraction 62 = .ok (.ifCond .ne 7, 3) := by decide +kernel
theorem dX11_fraction_65 : decode cX11_fraction 65 = .ok (.iconst 2, 1) := by decide +kernel
theorem dX11_fraction_66 : decode cX11_fraction 66 = .ok (.goto 15, 3) := by decide +kernel
theorem dX11_fraction_69 : decode cX11_fraction 69 = .ok (.aload_n 0, 1) := by decide +kernel
theorem dX11_fraction_70 : decode cX11_fraction 70 = .ok (.getfield 231, 3) := by decide +kernel
theorem dX11_fraction_73 : decode cX11_fraction 73 = .ok (.ifCond .eq 7, 3) := by decide +kernel
theorem dX11_fraction_76 : decode cX11_fraction 76 = .ok (.iconst 3, 1) := by decide +kernel
theorem dX11_fraction_77 : decode cX11_fraction 77 = .ok (.goto 4, 3) := by decide +kernel
theorem dX11_fraction_80 : decode cX11_fraction 80 = .ok (.iconst 0, 1) := by decide +kernel
theorem dX11_fraction_81 : decode cX11_fraction 81 = .ok (.putfield 1, 3) := by decide +kernel
theorem dX11_fraction_84 : decode cX11_fraction 84 = .ok (.aload_n 0, 1) := by decide +kernel
theorem dX11_fraction_85 : decode cX11_fraction 85 = .ok (.getfield 1, 3) := by decide +kernel
theorem dX11_fraction_88 : decode cX11_fraction 88 = .ok (.ifCond .le 4, 3) := by decide +kernel
theorem dX11_fraction_91 : decode cX11_fraction 91 = .ok (.return_, 1) := by decide +kernel
theorem dX11_fraction_92 : decode cX11_fraction 92 = .ok (.iload_n 1, 1) := by decide +kernel
theorem dX11_fraction_93 : decode cX11_fraction 93 = .ok (.ifCond .ne 16, 3) := by decide +kernel
theorem dX11_fraction_96 : decode cX11_fraction 96 = .ok (.aload_n 0, 1) := by decide +kernel
theorem dX11_fraction_97 : decode cX11_fraction 97 = .ok (.iload_n 2, 1) := by decide +kernel
theorem dX11_fraction_98 : decode cX11_fraction 98 = .ok (.putfield 30, 3) := by decide +kernel
theorem dX11_fraction_101 : decode cX11_fraction 101 = .ok (.aload_n 0, 1) := by decide +kernel
theorem dX11_fraction_102 : decode cX11_fraction 102 = .ok (.iload_n 3, 1) := by decide +kernel
theorem dX11_fraction_103 : decode cX11_fraction 103 = .ok (.putfield 33, 3) := by decide +kernel
theorem dX11_fraction_106 : decode cX11_fraction 106 = .ok (.goto 13, 3) := by decide +kernel
theorem dX11_fraction_109 : decode cX11_fraction 109 = .ok (.aload_n 0, 1) := by decide +kernel
theorem dX11_fraction_110 : decode cX11_fraction 110 = .ok (.iload_n 2, 1) := by decide +kernel
theorem dX11_fraction_111 : decode cX11_fraction 111 = .ok (.putfield 36, 3) := by decide +kernel
theorem dX11_fraction_114 : decode cX11_fraction 114 = .ok (.aload_n 0, 1) := by decide +kernel
theorem dX11_fraction_115 : decode cX11_fraction 115 = .ok (.iload_n 3, 1) := by decide +kernel
theorem dX11_fraction_116 : decode cX11_fraction 116 = .ok (.putfield 39, 3) := by decide +kernel
theorem dX11_fraction_119 : decode cX11_fraction 119 = .ok (.return_, 1) := by decide +kernel
theorem dX11_isVote_0 : decode cX11_isVote 0 = .ok (.iload_n 1, 1) := by decide +kernel
theorem dX11_isVote_1 : decode cX11_isVote 1 = .ok (.iconst (-1), 1) := by decide +kernel
theorem dX11_isVote_2 : decode cX11_isVote 2 = .ok (.if_icmp .lt 15, 3) := by decide +kernel
theorem dX11_isVote_5 : decode cX11_isVote 5 = .ok (.iload_n 1, 1) := by decide +kernel
theorem dX11_isVote_6 : decode cX11_isVote 6 = .ok (.aload_n 0, 1) := by decide +kernel
theorem dX11_isVote_7 : decode cX11_isVote 7 = .ok (.getfield 234, 3) := by decide +kernel
theorem dX11_isVote_10 : decode cX11_isVote 10 = .ok (.if_icmp .ge 7, 3) := by decide +kernel
theorem dX11_isVote_13 : decode cX11_isVote 13 = .ok (.iconst 1, 1) := by decide +kernel
theorem dX11_isVote_14 : decode cX11_isVote 14 = .ok (.goto 4, 3) := by decide +kernel
theorem dX11_isVote_17 : decode cX11_isVote 17 = .ok (.iconst 0, 1) := by decide +kernel
theorem dX11_isVote_18 : decode cX11_isVote 18 = .ok (.ireturn, 1) := by decide +kernel
theorem dX11_record_0 : decode cX11_record 0 = .ok (.aload_n 0, 1) := by decide +kernel
theorem dX11_record_1 : decode cX11_record 1 = .ok (.iload_n 1, 1) := by decide +kernel
theorem dX11_record_2 : decode cX11_record 2 = .ok (.ifCond .lt 34, 3) := by decide +kernel
theorem dX11_record_5 : decode cX11_record 5 = .ok (.iload_n 2, 1) := by decide +kernel
theorem dX11_record_6 : decode cX11_record 6 = .ok (.iconst 1, 1) := by decide +kernel
theorem dX11_record_7 : decode cX11_record 7 = .ok (.if_icmp .lt 29, 3) := by decide +kernel
theorem dX11_record_10 : decode cX11_record 10 = .ok (.iload_n 2, 1) := by decide +kernel
theorem dX11_record_11 : decode cX11_record 11 = .ok (.aload_n 0, 1) := by decide +kernel
theorem dX11_record_12 : decode cX11_record 12 = .ok (.getfield 240, 3) := by decide +kernel
theorem dX11_record_15 : decode cX11_record 15 = .ok (.if_icmp .gt 21, 3) := by decide +kernel
theorem dX11_record_18 : decode cX11_record 18 = .ok (.iload_n 1, 1) := by decide +kernel
theorem dX11_record_19 : decode cX11_record 19 = .ok (.aload_n 0, 1) := by decide +kernel
theorem dX11_record_20 : decode cX11_record 20 = .ok (.getfield 240, 3) := by decide +kernel
theorem dX11_record_23 : decode cX11_record 23 = .ok (.iload_n 2, 1) := by decide +kernel
theorem dX11_record_24 : decode cX11_record 24 = .ok (.isub, 1) := by decide +kernel
theorem dX11_record_25 : decode cX11_record 25 = .ok (.if_icmp .gt 11, 3) := by decide +kernel
theorem dX11_record_28 : decode cX11_record 28 = .ok (.aload_n 0, 1) := by decide +kernel
theorem dX11_record_29 : decode cX11_record 29 = .ok (.iload_n 3, 1) := by decide +kernel
theorem dX11_record_30 : decode cX11_record 30 = .ok (.invokevirtual 243, 3) := by decide +kernel
theorem dX11_record_33 : decode cX11_record 33 = .ok (.ifCond .ne 7, 3) := by decide +kernel
theorem dX11_record_36 : decode cX11_record 36 = .ok (.iconst 1, 1) := by decide +kernel
theorem dX11_record_37 : decode cX11_record 37 = .ok (.goto 15, 3) := by decide +kernel
theorem dX11_record_40 : decode cX11_record 40 = .ok (.aload_n 0, 1) := by decide +kernel
theorem dX11_record_41 : decode cX11_record 41 = .ok (.getfield 231, 3) := by decide +kernel
theorem dX11_record_44 : decode cX11_record 44 = .ok (.ifCond .eq 7, 3) := by decide +kernel
theorem dX11_record_47 : decode cX11_record 47 = .ok (.iconst 2, 1) := by decide +kernel
theorem dX11_record_48 : decode cX11_record 48 = .ok (.goto 4, 3) := by decide +kernel
theorem dX11_record_51 : decode cX11_record 51 = .ok (.iconst 0, 1) := by decide +kernel
theorem dX11_record_52 : decode cX11_record 52 = .ok (.putfield 1, 3) := by decide +kernel
theorem dX11_record_55 : decode cX11_record 55 = .ok (.iconst 0, 1) := by decide +kernel
theorem dX11_record_56 : decode cX11_record 56 = .ok (.istore 4, 2) := by decide +kernel
theorem dX11_record_58 : decode cX11_record 58 = .ok (.iload 4, 2) := by decide +kernel
theorem dX11_record_60 : decode cX11_record 60 = .ok (.iload_n 2, 1) := by decide +kernel
theorem dX11_record_61 : decode cX11_record 61 = .ok (.if_icmp .ge 27, 3) := by decide +kernel
theorem dX11_record_64 : decode cX11_record 64 = .ok (.aload_n 0, 1) := by decide +kernel
theorem dX11_record_65 : decode cX11_record 65 = .ok (.getfield 1, 3) := by decide +kernel
theorem dX11_record_68 : decode cX11_record 68 = .ok (.ifCond .ne 20, 3) := by decide +kernel
theorem dX11_record_71 : decode cX11_record 71 = .ok (.aload_n 0, 1) := by decide +kernel
theorem dX11_record_72 : decode cX11_record 72 = .ok (.getfield 26, 3) := by decide +kernel
theorem dX11_record_75 : decode cX11_record 75 = .ok (.iload_n 1, 1) := by decide +kernel
theorem dX11_record_76 : decode cX11_record 76 = .ok (.iload 4, 2) := by decide +kernel
theorem dX11_record_78 : decode cX11_record 78 = .ok (.iadd, 1) := by decide +kernel
theorem dX11_record_79 : decode cX11_record 79 = .ok (.iload_n 3, 1) := by decide +kernel
theorem dX11_record_80 : decode cX11_record 80 = .ok (.i2b, 1) := by decide +kernel
theorem dX11_record_81 : decode cX11_record 81 = .ok (.bastore, 1) := by decide +kernel
theorem dX11_record_82 : decode cX11_record 82 = .ok (.iinc 4 1, 3) := by decide +kernel
theorem dX11_record_85 : decode cX11_record 85 = .ok (.goto (-27), 3) := by decide +kernel
theorem dX11_record_88 : decode cX11_record 88 = .ok (.return_, 1) := by decide +kernel
theorem dX11_digit_0 : decode cX11_digit 0 = .ok (.aload_n 0, 1) := by decide +kernel
theorem dX11_digit_1 : decode cX11_digit 1 = .ok (.iload_n 1, 1) := by decide +kernel
theorem dX11_digit_2 : decode cX11_digit 2 = .ok (.ifCond .lt 9, 3) := by decide +kernel
theorem dX11_digit_5 : decode cX11_digit 5 = .ok (.iload_n 1, 1) := by decide +kernel
theorem dX11_digit_6 : decode cX11_digit 6 = .ok (.bipush 9, 2) := by decide +kernel
theorem dX11_digit_8 : decode cX11_digit 8 = .ok (.if_icmp .le 7, 3) := by decide +kernel
theorem dX11_digit_11 : decode cX11_digit 11 = .ok (.iconst 1, 1) := by decide +kernel
theorem dX11_digit_12 : decode cX11_digit 12 = .ok (.goto 28, 3) := by decide +kernel
theorem dX11_digit_15 : decode cX11_digit 15 = .ok (.aload_n 0, 1) := by decide +kernel
theorem dX11_digit_16 : decode cX11_digit 16 = .ok (.getfield 231, 3) := by decide +kernel
theorem dX11_digit_19 : decode cX11_digit 19 = .ok (.ifCond .eq 7, 3) := by decide +kernel
theorem dX11_digit_22 : decode cX11_digit 22 = .ok (.iconst 2, 1) := by decide +kernel
theorem dX11_digit_23 : decode cX11_digit 23 = .ok (.goto 17, 3) := by decide +kernel
theorem dX11_digit_26 : decode cX11_digit 26 = .ok (.aload_n 0, 1) := by decide +kernel
theorem dX11_digit_27 : decode cX11_digit 27 = .ok (.getfield 220, 3) := by decide +kernel
theorem dX11_digit_30 : decode cX11_digit 30 = .ok (.bipush 20, 2) := by decide +kernel
theorem dX11_digit_32 : decode cX11_digit 32 = .ok (.if_icmp .ne 7, 3) := by decide +kernel
theorem dX11_digit_35 : decode cX11_digit 35 = .ok (.iconst 3, 1) := by decide +kernel
theorem dX11_digit_36 : decode cX11_digit 36 = .ok (.goto 4, 3) := by decide +kernel
theorem dX11_digit_39 : decode cX11_digit 39 = .ok (.iconst 0, 1) := by decide +kernel
theorem dX11_digit_40 : decode cX11_digit 40 = .ok (.putfield 1, 3) := by decide +kernel
theorem dX11_digit_43 : decode cX11_digit 43 = .ok (.aload_n 0, 1) := by decide +kernel
theorem dX11_digit_44 : decode cX11_digit 44 = .ok (.getfield 1, 3) := by decide +kernel
theorem dX11_digit_47 : decode cX11_digit 47 = .ok (.ifCond .le 5, 3) := by decide +kernel
theorem dX11_digit_50 : decode cX11_digit 50 = .ok (.iconst 0, 1) := by decide +kernel
theorem dX11_digit_51 : decode cX11_digit 51 = .ok (.ireturn, 1) := by decide +kernel
theorem dX11_digit_52 : decode cX11_digit 52 = .ok (.aload_n 0, 1) := by decide +kernel
theorem dX11_digit_53 : decode cX11_digit 53 = .ok (.getfield 42, 3) := by decide +kernel
theorem dX11_digit_56 : decode cX11_digit 56 = .ok (.aload_n 0, 1) := by decide +kernel
theorem dX11_digit_57 : decode cX11_digit 57 = .ok (.getfield 220, 3) := by decide +kernel
theorem dX11_digit_60 : decode cX11_digit 60 = .ok (.iload_n 1, 1) := by decide +kernel
theorem dX11_digit_61 : decode cX11_digit 61 = .ok (.iastore, 1) := by decide +kernel
theorem dX11_digit_62 : decode cX11_digit 62 = .ok (.aload_n 0, 1) := by decide +kernel
theorem dX11_digit_63 : decode cX11_digit 63 = .ok (.dup, 1) := by decide +kernel
theorem dX11_digit_64 : decode cX11_digit 64 = .ok (.getfield 220, 3) := by decide +kernel
theorem dX11_digit_67 : decode cX11_digit 67 = .ok (.iconst 1, 1) := by decide +kernel
theorem dX11_digit_68 : decode cX11_digit 68 = .ok (.iadd, 1) := by decide +kernel
theorem dX11_digit_69 : decode cX11_digit 69 = .ok (.putfield 220, 3) := by decide +kernel
theorem dX11_digit_72 : decode cX11_digit 72 = .ok (.aload_n 0, 1) := by decide +kernel
theorem dX11_digit_73 : decode cX11_digit 73 = .ok (.getfield 220, 3) := by decide +kernel
theorem dX11_digit_76 : decode cX11_digit 76 = .ok (.ireturn, 1) := by decide +kernel
theorem dX11_coins_0 : decode cX11_coins 0 = .ok (.aload_n 0, 1) := by decide +kernel
theorem dX11_coins_1 : decode cX11_coins 1 = .ok (.iload_n 2, 1) := by decide +kernel
theorem dX11_coins_2 : decode cX11_coins 2 = .ok (.ifCond .lt 9, 3) := by decide +kernel
theorem dX11_coins_5 : decode cX11_coins 5 = .ok (.iload_n 2, 1) := by decide +kernel
theorem dX11_coins_6 : decode cX11_coins 6 = .ok (.bipush 32, 2) := by decide +kernel
theorem dX11_coins_8 : decode cX11_coins 8 = .ok (.if_icmp .le 7, 3) := by decide +kernel
theorem dX11_coins_11 : decode cX11_coins 11 = .ok (.iconst 1, 1) := by decide +kernel
theorem dX11_coins_12 : decode cX11_coins 12 = .ok (.goto 20, 3) := by decide +kernel
theorem dX11_coins_15 : decode cX11_coins 15 = .ok (.aload_n 0, 1) := by decide +kernel
theorem dX11_coins_16 : decode cX11_coins 16 = .ok (.getfield 247, 3) := by decide +kernel
theorem dX11_coins_19 : decode cX11_coins 19 = .ok (.iload_n 2, 1) := by decide +kernel
theorem dX11_coins_20 : decode cX11_coins 20 = .ok (.iadd, 1) := by decide +kernel
theorem dX11_coins_21 : decode cX11_coins 21 = .ok (.sipush 4000, 3) := by decide +kernel
theorem dX11_coins_24 : decode cX11_coins 24 = .ok (.if_icmp .le 7, 3) := by decide +kernel
theorem dX11_coins_27 : decode cX11_coins 27 = .ok (.iconst 2, 1) := by decide +kernel
theorem dX11_coins_28 : decode cX11_coins 28 = .ok (.goto 4, 3) := by decide +kernel
theorem dX11_coins_31 : decode cX11_coins 31 = .ok (.iconst 0, 1) := by decide +kernel
theorem dX11_coins_32 : decode cX11_coins 32 = .ok (.putfield 1, 3) := by decide +kernel
theorem dX11_coins_35 : decode cX11_coins 35 = .ok (.iload_n 2, 1) := by decide +kernel
theorem dX11_coins_36 : decode cX11_coins 36 = .ok (.iconst 1, 1) := by decide +kernel
theorem dX11_coins_37 : decode cX11_coins 37 = .ok (.isub, 1) := by decide +kernel
theorem dX11_coins_38 : decode cX11_coins 38 = .ok (.istore_n 3, 1) := by decide +kernel
theorem dX11_coins_39 : decode cX11_coins 39 = .ok (.iload_n 3, 1) := by decide +kernel
theorem dX11_coins_40 : decode cX11_coins 40 = .ok (.ifCond .lt 41, 3) := by decide +kernel
theorem dX11_coins_43 : decode cX11_coins 43 = .ok (.aload_n 0, 1) := by decide +kernel
theorem dX11_coins_44 : decode cX11_coins 44 = .ok (.getfield 1, 3) := by decide +kernel
theorem dX11_coins_47 : decode cX11_coins 47 = .ok (.ifCond .ne 34, 3) := by decide +kernel
theorem dX11_coins_50 : decode cX11_coins 50 = .ok (.aload_n 0, 1) := by decide +kernel
theorem dX11_coins_51 : decode cX11_coins 51 = .ok (.getfield 45, 3) := by decide +kernel
theorem dX11_coins_54 : decode cX11_coins 54 = .ok (.aload_n 0, 1) := by decide +kernel
theorem dX11_coins_55 : decode cX11_coins 55 = .ok (.getfield 247, 3) := by decide +kernel
theorem dX11_coins_58 : decode cX11_coins 58 = .ok (.iload_n 1, 1) := by decide +kernel
theorem dX11_coins_59 : decode cX11_coins 59 = .ok (.iload_n 3, 1) := by decide +kernel
theorem dX11_coins_60 : decode cX11_coins 60 = .ok (.ishr, 1) := by decide +kernel
theorem dX11_coins_61 : decode cX11_coins 61 = .ok (.iconst 1, 1) := by decide +kernel
theorem dX11_coins_62 : decode cX11_coins 62 = .ok (.iand, 1) := by decide +kernel
theorem dX11_coins_63 : decode cX11_coins 63 = .ok (.i2b, 1) := by decide +kernel
theorem dX11_coins_64 : decode cX11_coins 64 = .ok (.bastore, 1) := by decide +kernel
theorem dX11_coins_65 : decode cX11_coins 65 = .ok (.aload_n 0, 1) := by decide +kernel
theorem dX11_coins_66 : decode cX11_coins 66 = .ok (.dup, 1) := by decide +kernel
theorem dX11_coins_67 : decode cX11_coins 67 = .ok (.getfield 247, 3) := by decide +kernel
theorem dX11_coins_70 : decode cX11_coins 70 = .ok (.iconst 1, 1) := by decide +kernel
theorem dX11_coins_71 : decode cX11_coins 71 = .ok (.iadd, 1) := by decide +kernel
theorem dX11_coins_72 : decode cX11_coins 72 = .ok (.putfield 247, 3) := by decide +kernel
theorem dX11_coins_75 : decode cX11_coins 75 = .ok (.iinc 3 (-1), 3) := by decide +kernel
theorem dX11_coins_78 : decode cX11_coins 78 = .ok (.goto (-39), 3) := by decide +kernel
theorem dX11_coins_81 : decode cX11_coins 81 = .ok (.aload_n 0, 1) := by decide +kernel
theorem dX11_coins_82 : decode cX11_coins 82 = .ok (.getfield 1, 3) := by decide +kernel
theorem dX11_coins_85 : decode cX11_coins 85 = .ok (.ifCond .le 7, 3) := by decide +kernel
theorem dX11_coins_88 : decode cX11_coins 88 = .ok (.iconst 0, 1) := by decide +kernel
theorem dX11_coins_89 : decode cX11_coins 89 = .ok (.goto 7, 3) := by decide +kernel
theorem dX11_coins_92 : decode cX11_coins 92 = .ok (.aload_n 0, 1) := by decide +kernel
theorem dX11_coins_93 : decode cX11_coins 93 = .ok (.getfield 247, 3) := by decide +kernel
theorem dX11_coins_96 : decode cX11_coins 96 = .ok (.ireturn, 1) := by decide +kernel
theorem dX11_choose_0 : decode cX11_choose 0 = .ok (.aload_n 0, 1) := by decide +kernel
theorem dX11_choose_1 : decode cX11_choose 1 = .ok (.getfield 234, 3) := by decide +kernel
theorem dX11_choose_4 : decode cX11_choose 4 = .ok (.iconst 2, 1) := by decide +kernel
theorem dX11_choose_5 : decode cX11_choose 5 = .ok (.if_icmp .lt 14, 3) := by decide +kernel
theorem dX11_choose_8 : decode cX11_choose 8 = .ok (.aload_n 0, 1) := by decide +kernel
theorem dX11_choose_9 : decode cX11_choose 9 = .ok (.getfield 17, 3) := by decide +kernel
theorem dX11_choose_12 : decode cX11_choose 12 = .ok (.aload_n 0, 1) := by decide +kernel
theorem dX11_choose_13 : decode cX11_choose 13 = .ok (.getfield 234, 3) := by decide +kernel
theorem dX11_choose_16 : decode cX11_choose 16 = .ok (.if_icmp .lt 5, 3) := by decide +kernel
theorem dX11_choose_19 : decode cX11_choose 19 = .ok (.iconst 0, 1) := by decide +kernel
theorem dX11_choose_20 : decode cX11_choose 20 = .ok (.ireturn, 1) := by decide +kernel
theorem dX11_choose_21 : decode cX11_choose 21 = .ok (.iconst 0, 1) := by decide +kernel
theorem dX11_choose_22 : decode cX11_choose 22 = .ok (.istore_n 1, 1) := by decide +kernel
theorem dX11_choose_23 : decode cX11_choose 23 = .ok (.iload_n 1, 1) := by decide +kernel
theorem dX11_choose_24 : decode cX11_choose 24 = .ok (.aload_n 0, 1) := by decide +kernel
theorem dX11_choose_25 : decode cX11_choose 25 = .ok (.getfield 234, 3) := by decide +kernel
theorem dX11_choose_28 : decode cX11_choose 28 = .ok (.if_icmp .ge 118, 3) := by decide +kernel
theorem dX11_choose_31 : decode cX11_choose 31 = .ok (.iconst 0, 1) := by decide +kernel
theorem dX11_choose_32 : decode cX11_choose 32 = .ok (.istore_n 2, 1) := by decide +kernel
theorem dX11_choose_33 : decode cX11_choose 33 = .ok (.iconst 0, 1) := by decide +kernel
theorem dX11_choose_34 : decode cX11_choose 34 = .ok (.istore_n 3, 1) := by decide +kernel
theorem dX11_choose_35 : decode cX11_choose 35 = .ok (.iconst 0, 1) := by decide +kernel
theorem dX11_choose_36 : decode cX11_choose 36 = .ok (.istore 4, 2) := by decide +kernel
theorem dX11_choose_38 : decode cX11_choose 38 = .ok (.iload 4, 2) := by decide +kernel
theorem dX11_choose_40 : decode cX11_choose 40 = .ok (.aload_n 0, 1) := by decide +kernel
theorem dX11_choose_41 : decode cX11_choose 41 = .ok (.getfield 234, 3) := by decide +kernel
theorem dX11_choose_44 : decode cX11_choose 44 = .ok (.if_icmp .ge 57, 3) := by decide +kernel
theorem dX11_choose_47 : decode cX11_choose 47 = .ok (.iload_n 2, 1) := by decide +kernel
theorem dX11_choose_48 : decode cX11_choose 48 = .ok (.aload_n 0, 1) := by decide +kernel
theorem dX11_choose_49 : decode cX11_choose 49 = .ok (.getfield 13, 3) := by decide +kernel
theorem dX11_choose_52 : decode cX11_choose 52 = .ok (.iload 4, 2) := by decide +kernel
theorem dX11_choose_54 : decode cX11_choose 54 = .ok (.iaload, 1) := by decide +kernel
theorem dX11_choose_55 : decode cX11_choose 55 = .ok (.aload_n 0, 1) := by decide +kernel
theorem dX11_choose_56 : decode cX11_choose 56 = .ok (.getfield 13, 3) := by decide +kernel
theorem dX11_choose_59 : decode cX11_choose 59 = .ok (.iload_n 1, 1) := by decide +kernel
theorem dX11_choose_60 : decode cX11_choose 60 = .ok (.iaload, 1) := by decide +kernel
theorem dX11_choose_61 : decode cX11_choose 61 = .ok (.if_icmp .le 7, 3) := by decide +kernel
theorem dX11_choose_64 : decode cX11_choose 64 = .ok (.iconst 1, 1) := by decide +kernel
theorem dX11_choose_65 : decode cX11_choose 65 = .ok (.goto 4, 3) := by decide +kernel
theorem dX11_choose_68 : decode cX11_choose 68 = .ok (.iconst 0, 1) := by decide +kernel
theorem dX11_choose_69 : decode cX11_choose 69 = .ok (.iadd, 1) := by decide +kernel
theorem dX11_choose_70 : decode cX11_choose 70 = .ok (.istore_n 2, 1) := by decide +kernel
theorem dX11_choose_71 : decode cX11_choose 71 = .ok (.iload_n 3, 1) := by decide +kernel
theorem dX11_choose_72 : decode cX11_choose 72 = .ok (.aload_n 0, 1) := by decide +kernel
theorem dX11_choose_73 : decode cX11_choose 73 = .ok (.getfield 13, 3) := by decide +kernel
theorem dX11_choose_76 : decode cX11_choose 76 = .ok (.iload 4, 2) := by decide +kernel
theorem dX11_choose_78 : decode cX11_choose 78 = .ok (.iaload, 1) := by decide +kernel
theorem dX11_choose_79 : decode cX11_choose 79 = .ok (.aload_n 0, 1) := by decide +kernel
theorem dX11_choose_80 : decode cX11_choose 80 = .ok (.getfield 13, 3) := by decide +kernel
theorem dX11_choose_83 : decode cX11_choose 83 = .ok (.iload_n 1, 1) := by decide +kernel
theorem dX11_choose_84 : decode cX11_choose 84 = .ok (.iaload, 1) := by decide +kernel
theorem dX11_choose_85 : decode cX11_choose 85 = .ok (.if_icmp .ne 7, 3) := by decide +kernel
theorem dX11_choose_88 : decode cX11_choose 88 = .ok (.iconst 1, 1) := by decide +kernel
theorem dX11_choose_89 : decode cX11_choose 89 = .ok (.goto 4, 3) := by decide +kernel
theorem dX11_choose_92 : decode cX11_choose 92 = .ok (.iconst 0, 1) := by decide +kernel
theorem dX11_choose_93 : decode cX11_choose 93 = .ok (.iadd, 1) := by decide +kernel
theorem dX11_choose_94 : decode cX11_choose 94 = .ok (.istore_n 3, 1) := by decide +kernel
theorem dX11_choose_95 : decode cX11_choose 95 = .ok (.iinc 4 1, 3) := by decide +kernel
theorem dX11_choose_98 : decode cX11_choose 98 = .ok (.goto (-60), 3) := by decide +kernel
theorem dX11_choose_101 : decode cX11_choose 101 = .ok (.iload_n 2, 1) := by decide +kernel
theorem dX11_choose_102 : decode cX11_choose 102 = .ok (.aload_n 0, 1) := by decide +kernel
theorem dX11_choose_103 : decode cX11_choose 103 = .ok (.getfield 17, 3) := by decide +kernel
theorem dX11_choose_106 : decode cX11_choose 106 = .ok (.if_icmp .ge 15, 3) := by decide +kernel
theorem dX11_choose_109 : decode cX11_choose 109 = .ok (.iload_n 2, 1) := by decide +kernel
theorem dX11_choose_110 : decode cX11_choose 110 = .ok (.iload_n 3, 1) := by decide +kernel
theorem dX11_choose_111 : decode cX11_choose 111 = .ok (.iadd, 1) := by decide +kernel
theorem dX11_choose_112 : decode cX11_choose 112 = .ok (.aload_n 0, 1) := by decide +kernel
theorem dX11_choose_113 : decode cX11_choose 113 = .ok (.getfield 17, 3) := by decide +kernel
theorem dX11_choose_116 : decode cX11_choose 116 = .ok (.if_icmp .le 5, 3) := by decide +kernel
theorem dX11_choose_119 : decode cX11_choose 119 = .ok (.iconst 0, 1) := by decide +kernel
theorem dX11_choose_120 : decode cX11_choose 120 = .ok (.ireturn, 1) := by decide +kernel
theorem dX11_choose_121 : decode cX11_choose 121 = .ok (.aload_n 0, 1) := by decide +kernel
theorem dX11_choose_122 : decode cX11_choose 122 = .ok (.getfield 48, 3) := by decide +kernel
theorem dX11_choose_125 : decode cX11_choose 125 = .ok (.iload_n 1, 1) := by decide +kernel
theorem dX11_choose_126 : decode cX11_choose 126 = .ok (.iload_n 2, 1) := by decide +kernel
theorem dX11_choose_127 : decode cX11_choose 127 = .ok (.aload_n 0, 1) := by decide +kernel
theorem dX11_choose_128 : decode cX11_choose 128 = .ok (.getfield 17, 3) := by decide +kernel
theorem dX11_choose_131 : decode cX11_choose 131 = .ok (.if_icmp .ge 7, 3) := by decide +kernel
theorem dX11_choose_134 : decode cX11_choose 134 = .ok (.iconst 1, 1) := by decide +kernel
theorem dX11_choose_135 : decode cX11_choose 135 = .ok (.goto 4, 3) := by decide +kernel
theorem dX11_choose_138 : decode cX11_choose 138 = .ok (.iconst 0, 1) := by decide +kernel
theorem dX11_choose_139 : decode cX11_choose 139 = .ok (.bastore, 1) := by decide +kernel
theorem dX11_choose_140 : decode cX11_choose 140 = .ok (.iinc 1 1, 3) := by decide +kernel
theorem dX11_choose_143 : decode cX11_choose 143 = .ok (.goto (-120), 3) := by decide +kernel
theorem dX11_choose_146 : decode cX11_choose 146 = .ok (.iconst 1, 1) := by decide +kernel
theorem dX11_choose_147 : decode cX11_choose 147 = .ok (.ireturn, 1) := by decide +kernel
theorem dX11_pairUp_0 : decode cX11_pairUp 0 = .ok (.aload_n 0, 1) := by decide +kernel
theorem dX11_pairUp_1 : decode cX11_pairUp 1 = .ok (.iconst 0, 1) := by decide +kernel
theorem dX11_pairUp_2 : decode cX11_pairUp 2 = .ok (.putfield 250, 3) := by decide +kernel
theorem dX11_pairUp_5 : decode cX11_pairUp 5 = .ok (.iconst 0, 1) := by decide +kernel
theorem dX11_pairUp_6 : decode cX11_pairUp 6 = .ok (.istore_n 1, 1) := by decide +kernel
theorem dX11_pairUp_7 : decode cX11_pairUp 7 = .ok (.iload_n 1, 1) := by decide +kernel
theorem dX11_pairUp_8 : decode cX11_pairUp 8 = .ok (.aload_n 0, 1) := by decide +kernel
theorem dX11_pairUp_9 : decode cX11_pairUp 9 = .ok (.getfield 234, 3) := by decide +kernel
theorem dX11_pairUp_12 : decode cX11_pairUp 12 = .ok (.if_icmp .ge 83, 3) := by decide +kernel
theorem dX11_pairUp_15 : decode cX11_pairUp 15 = .ok (.iconst 0, 1) := by decide +kernel
theorem dX11_pairUp_16 : decode cX11_pairUp 16 = .ok (.istore_n 2, 1) := by decide +kernel
theorem dX11_pairUp_17 : decode cX11_pairUp 17 = .ok (.iload_n 2, 1) := by decide +kernel
theorem dX11_pairUp_18 : decode cX11_pairUp 18 = .ok (.aload_n 0, 1) := by decide +kernel
theorem dX11_pairUp_19 : decode cX11_pairUp 19 = .ok (.getfield 234, 3) := by decide +kernel
theorem dX11_pairUp_22 : decode cX11_pairUp 22 = .ok (.if_icmp .ge 67, 3) := by decide +kernel
theorem dX11_pairUp_25 : decode cX11_pairUp 25 = .ok (.aload_n 0, 1) := by decide +kernel
theorem dX11_pairUp_26 : decode cX11_pairUp 26 = .ok (.getfield 48, 3) := by decide +kernel
theorem dX11_pairUp_29 : decode cX11_pairUp 29 = .ok (.iload_n 1, 1) := by decide +kernel
theorem dX11_pairUp_30 : decode cX11_pairUp 30 = .ok (.baload, 1) := by decide +kernel
theorem dX11_pairUp_31 : decode cX11_pairUp 31 = .ok (.ifCond .eq 52, 3) := by decide +kernel
theorem dX11_pairUp_34 : decode cX11_pairUp 34 = .ok (.aload_n 0, 1) := by decide +kernel
theorem dX11_pairUp_35 : decode cX11_pairUp 35 = .ok (.getfield 48, 3) := by decide +kernel
theorem dX11_pairUp_38 : decode cX11_pairUp 38 = .ok (.iload_n 2, 1) := by decide +kernel
theorem dX11_pairUp_39 : decode cX11_pairUp 39 = .ok (.baload, 1) := by decide +kernel
theorem dX11_pairUp_40 : decode cX11_pairUp 40 = .ok (.ifCond .ne 43, 3) := by decide +kernel
theorem dX11_pairUp_43 : decode cX11_pairUp 43 = .ok (.aload_n 0, 1) := by decide +kernel
theorem dX11_pairUp_44 : decode cX11_pairUp 44 = .ok (.getfield 52, 3) := by decide +kernel
theorem dX11_pairUp_47 : decode cX11_pairUp 47 = .ok (.aload_n 0, 1) := by decide +kernel
theorem dX11_pairUp_48 : decode cX11_pairUp 48 = .ok (.getfield 250, 3) := by decide +kernel
theorem dX11_pairUp_51 : decode cX11_pairUp 51 = .ok (.iload_n 1, 1) := by decide +kernel
theorem dX11_pairUp_52 : decode cX11_pairUp 52 = .ok (.iastore, 1) := by decide +kernel
theorem dX11_pairUp_53 : decode cX11_pairUp 53 = .ok (.aload_n 0, 1) := by decide +kernel
theorem dX11_pairUp_54 : decode cX11_pairUp 54 = .ok (.getfield 55, 3) := by decide +kernel
theorem dX11_pairUp_57 : decode cX11_pairUp 57 = .ok (.aload_n 0, 1) := by decide +kernel
theorem dX11_pairUp_58 : decode cX11_pairUp 58 = .ok (.getfield 250, 3) := by decide +kernel
theorem dX11_pairUp_61 : decode cX11_pairUp 61 = .ok (.iload_n 2, 1) := by decide +kernel
theorem dX11_pairUp_62 : decode cX11_pairUp 62 = .ok (.iastore, 1) := by decide +kernel
theorem dX11_pairUp_63 : decode cX11_pairUp 63 = .ok (.aload_n 0, 1) := by decide +kernel
theorem dX11_pairUp_64 : decode cX11_pairUp 64 = .ok (.getfield 58, 3) := by decide +kernel
theorem dX11_pairUp_67 : decode cX11_pairUp 67 = .ok (.aload_n 0, 1) := by decide +kernel
theorem dX11_pairUp_68 : decode cX11_pairUp 68 = .ok (.getfield 250, 3) := by decide +kernel
theorem dX11_pairUp_71 : decode cX11_pairUp 71 = .ok (.iconst (-1), 1) := by decide +kernel
theorem dX11_pairUp_72 : decode cX11_pairUp 72 = .ok (.iastore, 1) := by decide +kernel
theorem dX11_pairUp_73 : decode cX11_pairUp 73 = .ok (.aload_n 0, 1) := by decide +kernel
theorem dX11_pairUp_74 : decode cX11_pairUp 74 = .ok (.dup, 1) := by decide +kernel
theorem dX11_pairUp_75 : decode cX11_pairUp 75 = .ok (.getfield 250, 3) := by decide +kernel
theorem dX11_pairUp_78 : decode cX11_pairUp 78 = .ok (.iconst 1, 1) := by decide +kernel
theorem dX11_pairUp_79 : decode cX11_pairUp 79 = .ok (.iadd, 1) := by decide +kernel
theorem dX11_pairUp_80 : decode cX11_pairUp 80 = .ok (.putfield 250, 3) := by decide +kernel
theorem dX11_pairUp_83 : decode cX11_pairUp 83 = .ok (.iinc 2 1, 3) := by decide +kernel
theorem dX11_pairUp_86 : decode cX11_pairUp 86 = .ok (.goto (-69), 3) := by decide +kernel
theorem dX11_pairUp_89 : decode cX11_pairUp 89 = .ok (.iinc 1 1, 3) := by decide +kernel
theorem dX11_pairUp_92 : decode cX11_pairUp 92 = .ok (.goto (-85), 3) := by decide +kernel
theorem dX11_pairUp_95 : decode cX11_pairUp 95 = .ok (.return_, 1) := by decide +kernel
theorem dX11_coinsADraw_0 : decode cX11_coinsADraw 0 = .ok (.iconst 0, 1) := by decide +kernel
theorem dX11_coinsADraw_1 : decode cX11_coinsADraw 1 = .ok (.istore_n 1, 1) := by decide +kernel
theorem dX11_coinsADraw_2 : decode cX11_coinsADraw 2 = .ok (.aload_n 0, 1) := by decide +kernel
theorem dX11_coinsADraw_3 : decode cX11_coinsADraw 3 = .ok (.getfield 240, 3) := by decide +kernel
theorem dX11_coinsADraw_6 : decode cX11_coinsADraw 6 = .ok (.ifCond .le 19, 3) := by decide +kernel
theorem dX11_coinsADraw_9 : decode cX11_coinsADraw 9 = .ok (.iconst 1, 1) := by decide +kernel
theorem dX11_coinsADraw_10 : decode cX11_coinsADraw 10 = .ok (.iload_n 1, 1) := by decide +kernel
theorem dX11_coinsADraw_11 : decode cX11_coinsADraw 11 = .ok (.ishl, 1) := by decide +kernel
theorem dX11_coinsADraw_12 : decode cX11_coinsADraw 12 = .ok (.aload_n 0, 1) := by decide +kernel
theorem dX11_coinsADraw_13 : decode cX11_coinsADraw 13 = .ok (.getfield 240, 3) := by decide +kernel
theorem dX11_coinsADraw_16 : decode cX11_coinsADraw 16 = .ok (.if_icmp .ge 9, 3) := by decide +kernel
theorem dX11_coinsADraw_19 : decode cX11_coinsADraw 19 = .ok (.iinc 1 1, 3) := by decide +kernel
theorem dX11_coinsADraw_22 : decode cX11_coinsADraw 22 = .ok (.goto (-20), 3) := by decide +kernel
theorem dX11_coinsADraw_25 : decode cX11_coinsADraw 25 = .ok (.iload_n 1, 1) := by decide +kernel
theorem dX11_coinsADraw_26 : decode cX11_coinsADraw 26 = .ok (.ireturn, 1) := by decide +kernel
theorem dX11_start_0 : decode cX11_start 0 = .ok (.aload_n 0, 1) := by decide +kernel
theorem dX11_start_1 : decode cX11_start 1 = .ok (.getfield 231, 3) := by decide +kernel
theorem dX11_start_4 : decode cX11_start 4 = .ok (.ifCond .ne 32, 3) := by decide +kernel
theorem dX11_start_7 : decode cX11_start 7 = .ok (.aload_n 0, 1) := by decide +kernel
theorem dX11_start_8 : decode cX11_start 8 = .ok (.invokevirtual 253, 3) := by decide +kernel
theorem dX11_start_11 : decode cX11_start 11 = .ok (.ifCond .eq 25, 3) := by decide +kernel
theorem dX11_start_14 : decode cX11_start 14 = .ok (.aload_n 0, 1) := by decide +kernel
theorem dX11_start_15 : decode cX11_start 15 = .ok (.getfield 240, 3) := by decide +kernel
theorem dX11_start_18 : decode cX11_start 18 = .ok (.ifCond .le 18, 3) := by decide +kernel
theorem dX11_start_21 : decode cX11_start 21 = .ok (.iload_n 2, 1) := by decide +kernel
theorem dX11_start_22 : decode cX11_start 22 = .ok (.ifCond .eq 10, 3) := by decide +kernel
theorem dX11_start_25 : decode cX11_start 25 = .ok (.aload_n 0, 1) := by decide +kernel
theorem dX11_start_26 : decode cX11_start 26 = .ok (.getfield 220, 3) := by decide +kernel
theorem dX11_start_29 : decode cX11_start 29 = .ok (.ifCond .le 7, 3) := by decide +kernel
theorem dX11_start_32 : decode cX11_start 32 = .ok (.iconst 1, 1) := by decide +kernel
theorem dX11_start_33 : decode cX11_start 33 = .ok (.goto 4, 3) := by decide +kernel
theorem dX11_start_36 : decode cX11_start 36 = .ok (.iconst 0, 1) := by decide +kernel
theorem dX11_start_37 : decode cX11_start 37 = .ok (.istore_n 3, 1) := by decide +kernel
theorem dX11_start_38 : decode cX11_start 38 = .ok (.iconst 0, 1) := by decide +kernel
theorem dX11_start_39 : decode cX11_start 39 = .ok (.istore 4, 2) := by decide +kernel
theorem dX11_start_41 : decode cX11_start 41 = .ok (.iload 4, 2) := by decide +kernel
theorem dX11_start_43 : decode cX11_start 43 = .ok (.aload_n 0, 1) := by decide +kernel
theorem dX11_start_44 : decode cX11_start 44 = .ok (.getfield 234, 3) := by decide +kernel
theorem dX11_start_47 : decode cX11_start 47 = .ok (.if_icmp .ge 33, 3) := by decide +kernel
theorem dX11_start_50 : decode cX11_start 50 = .ok (.iload_n 3, 1) := by decide +kernel
theorem dX11_start_51 : decode cX11_start 51 = .ok (.ifCond .eq 21, 3) := by decide +kernel
theorem dX11_start_54 : decode cX11_start 54 = .ok (.aload_n 0, 1) := by decide +kernel
theorem dX11_start_55 : decode cX11_start 55 = .ok (.getfield 13, 3) := by decide +kernel
theorem dX11_start_58 : decode cX11_start 58 = .ok (.iload 4, 2) := by decide +kernel
theorem dX11_start_60 : decode cX11_start 60 = .ok (.iaload, 1) := by decide +kernel
theorem dX11_start_61 : decode cX11_start 61 = .ok (.aload_n 0, 1) := by decide +kernel
theorem dX11_start_62 : decode cX11_start 62 = .ok (.getfield 240, 3) := by decide +kernel
theorem dX11_start_65 : decode cX11_start 65 = .ok (.if_icmp .gt 7, 3) := by decide +kernel
theorem dX11_start_68 : decode cX11_start 68 = .ok (.iconst 1, 1) := by decide +kernel
theorem dX11_start_69 : decode cX11_start 69 = .ok (.goto 4, 3) := by decide +kernel
theorem dX11_start_72 : decode cX11_start 72 = .ok (.iconst 0, 1) := by decide +kernel
theorem dX11_start_73 : decode cX11_start 73 = .ok (.istore_n 3, 1) := by decide +kernel
theorem dX11_start_74 : decode cX11_start 74 = .ok (.iinc 4 1, 3) := by decide +kernel
theorem dX11_start_77 : decode cX11_start 77 = .ok (.goto (-36), 3) := by decide +kernel
theorem dX11_start_80 : decode cX11_start 80 = .ok (.aload_n 0, 1) := by decide +kernel
theorem dX11_start_81 : decode cX11_start 81 = .ok (.iload_n 3, 1) := by decide +kernel
theorem dX11_start_82 : decode cX11_start 82 = .ok (.ifCond .eq 7, 3) := by decide +kernel
theorem dX11_start_85 : decode cX11_start 85 = .ok (.iconst 0, 1) := by decide +kernel
theorem dX11_start_86 : decode cX11_start 86 = .ok (.goto 4, 3) := by decide +kernel
theorem dX11_start_89 : decode cX11_start 89 = .ok (.iconst 1, 1) := by decide +kernel
theorem dX11_start_90 : decode cX11_start 90 = .ok (.putfield 1, 3) := by decide +kernel
theorem dX11_start_93 : decode cX11_start 93 = .ok (.aload_n 0, 1) := by decide +kernel
theorem dX11_start_94 : decode cX11_start 94 = .ok (.getfield 1, 3) := by decide +kernel
theorem dX11_start_97 : decode cX11_start 97 = .ok (.ifCond .le 4, 3) := by decide +kernel
theorem dX11_start_100 : decode cX11_start 100 = .ok (.return_, 1) := by decide +kernel
theorem dX11_start_101 : decode cX11_start 101 = .ok (.aload_n 0, 1) := by decide +kernel
theorem dX11_start_102 : decode cX11_start 102 = .ok (.iload_n 1, 1) := by decide +kernel
theorem dX11_start_103 : decode cX11_start 103 = .ok (.putfield 257, 3) := by decide +kernel
theorem dX11_start_106 : decode cX11_start 106 = .ok (.aload_n 0, 1) := by decide +kernel
theorem dX11_start_107 : decode cX11_start 107 = .ok (.iload_n 2, 1) := by decide +kernel
theorem dX11_start_108 : decode cX11_start 108 = .ok (.putfield 261, 3) := by decide +kernel
theorem dX11_start_111 : decode cX11_start 111 = .ok (.aload_n 0, 1) := by decide +kernel
theorem dX11_start_112 : decode cX11_start 112 = .ok (.invokevirtual 264, 3) := by decide +kernel
theorem dX11_start_115 : decode cX11_start 115 = .ok (.aload_n 0, 1) := by decide +kernel
theorem dX11_start_116 : decode cX11_start 116 = .ok (.bipush 6, 2) := by decide +kernel
theorem dX11_start_118 : decode cX11_start 118 = .ok (.lconst 1, 1) := by decide +kernel
theorem dX11_start_119 : decode cX11_start 119 = .ok (.invokevirtual 182, 3) := by decide +kernel
theorem dX11_start_122 : decode cX11_start 122 = .ok (.aload_n 0, 1) := by decide +kernel
theorem dX11_start_123 : decode cX11_start 123 = .ok (.bipush 7, 2) := by decide +kernel
theorem dX11_start_125 : decode cX11_start 125 = .ok (.lconst 1, 1) := by decide +kernel
theorem dX11_start_126 : decode cX11_start 126 = .ok (.invokevirtual 182, 3) := by decide +kernel
theorem dX11_start_129 : decode cX11_start 129 = .ok (.aload_n 0, 1) := by decide +kernel
theorem dX11_start_130 : decode cX11_start 130 = .ok (.iconst 1, 1) := by decide +kernel
theorem dX11_start_131 : decode cX11_start 131 = .ok (.putfield 231, 3) := by decide +kernel
theorem dX11_start_134 : decode cX11_start 134 = .ok (.return_, 1) := by decide +kernel
theorem dX11_margin_0 : decode cX11_margin 0 = .ok (.ldc_w 267, 3) := by decide +kernel
theorem dX11_margin_3 : decode cX11_margin 3 = .ok (.istore_n 1, 1) := by decide +kernel
theorem dX11_margin_4 : decode cX11_margin 4 = .ok (.iconst 0, 1) := by decide +kernel
theorem dX11_margin_5 : decode cX11_margin 5 = .ok (.istore_n 2, 1) := by decide +kernel
theorem dX11_margin_6 : decode cX11_margin 6 = .ok (.iload_n 2, 1) := by decide +kernel
theorem dX11_margin_7 : decode cX11_margin 7 = .ok (.aload_n 0, 1) := by decide +kernel
theorem dX11_margin_8 : decode cX11_margin 8 = .ok (.getfield 250, 3) := by decide +kernel
theorem dX11_margin_11 : decode cX11_margin 11 = .ok (.if_icmp .ge 44, 3) := by decide +kernel
theorem dX11_margin_14 : decode cX11_margin 14 = .ok (.aload_n 0, 1) := by decide +kernel
theorem dX11_margin_15 : decode cX11_margin 15 = .ok (.getfield 13, 3) := by decide +kernel
theorem dX11_margin_18 : decode cX11_margin 18 = .ok (.aload_n 0, 1) := by decide +kernel
theorem dX11_margin_19 : decode cX11_margin 19 = .ok (.getfield 52, 3) := by decide +kernel
theorem dX11_margin_22 : decode cX11_margin 22 = .ok (.iload_n 2, 1) := by decide +kernel
theorem dX11_margin_23 : decode cX11_margin 23 = .ok (.iaload, 1) := by decide +kernel
theorem dX11_margin_24 : decode cX11_margin 24 = .ok (.iaload, 1) := by decide +kernel
theorem dX11_margin_25 : decode cX11_margin 25 = .ok (.aload_n 0, 1) := by decide +kernel
theorem dX11_margin_26 : decode cX11_margin 26 = .ok (.getfield 13, 3) := by decide +kernel
theorem dX11_margin_29 : decode cX11_margin 29 = .ok (.aload_n 0, 1) := by decide +kernel
theorem dX11_margin_30 : decode cX11_margin 30 = .ok (.getfield 55, 3) := by decide +kernel
theorem dX11_margin_33 : decode cX11_margin 33 = .ok (.iload_n 2, 1) := by decide +kernel
theorem dX11_margin_34 : decode cX11_margin 34 = .ok (.iaload, 1) := by decide +kernel
theorem dX11_margin_35 : decode cX11_margin 35 = .ok (.iaload, 1) := by decide +kernel
theorem dX11_margin_36 : decode cX11_margin 36 = .ok (.isub, 1) := by decide +kernel
theorem dX11_margin_37 : decode cX11_margin 37 = .ok (.istore_n 3, 1) := by decide +kernel
theorem dX11_margin_38 : decode cX11_margin 38 = .ok (.iload_n 3, 1) := by decide +kernel
theorem dX11_margin_39 : decode cX11_margin 39 = .ok (.iload_n 1, 1) := by decide +kernel
theorem dX11_margin_40 : decode cX11_margin 40 = .ok (.if_icmp .ge 7, 3) := by decide +kernel
theorem dX11_margin_43 : decode cX11_margin 43 = .ok (.iload_n 3, 1) := by decide +kernel
theorem dX11_margin_44 : decode cX11_margin 44 = .ok (.goto 4, 3) := by decide +kernel
theorem dX11_margin_47 : decode cX11_margin 47 = .ok (.iload_n 1, 1) := by decide +kernel
theorem dX11_margin_48 : decode cX11_margin 48 = .ok (.istore_n 1, 1) := by decide +kernel
theorem dX11_margin_49 : decode cX11_margin 49 = .ok (.iinc 2 1, 3) := by decide +kernel
theorem dX11_margin_52 : decode cX11_margin 52 = .ok (.goto (-46), 3) := by decide +kernel
theorem dX11_margin_55 : decode cX11_margin 55 = .ok (.iload_n 1, 1) := by decide +kernel
theorem dX11_margin_56 : decode cX11_margin 56 = .ok (.ireturn, 1) := by decide +kernel
theorem dX11_ratio_0 : decode cX11_ratio 0 = .ok (.aload_n 0, 1) := by decide +kernel
theorem dX11_ratio_1 : decode cX11_ratio 1 = .ok (.getfield 52, 3) := by decide +kernel
theorem dX11_ratio_4 : decode cX11_ratio 4 = .ok (.iload_n 1, 1) := by decide +kernel
theorem dX11_ratio_5 : decode cX11_ratio 5 = .ok (.iaload, 1) := by decide +kernel
theorem dX11_ratio_6 : decode cX11_ratio 6 = .ok (.istore 4, 2) := by decide +kernel
theorem dX11_ratio_8 : decode cX11_ratio 8 = .ok (.aload_n 0, 1) := by decide +kernel
theorem dX11_ratio_9 : decode cX11_ratio 9 = .ok (.getfield 55, 3) := by decide +kernel
theorem dX11_ratio_12 : decode cX11_ratio 12 = .ok (.iload_n 1, 1) := by decide +kernel
theorem dX11_ratio_13 : decode cX11_ratio 13 = .ok (.iaload, 1) := by decide +kernel
theorem dX11_ratio_14 : decode cX11_ratio 14 = .ok (.istore 5, 2) := by decide +kernel
theorem dX11_ratio_16 : decode cX11_ratio 16 = .ok (.aload_n 0, 1) := by decide +kernel
theorem dX11_ratio_17 : decode cX11_ratio 17 = .ok (.iload_n 2, 1) := by decide +kernel
theorem dX11_ratio_18 : decode cX11_ratio 18 = .ok (.lconst 1, 1) := by decide +kernel
theorem dX11_ratio_19 : decode cX11_ratio 19 = .ok (.invokevirtual 182, 3) := by decide +kernel
theorem dX11_ratio_22 : decode cX11_ratio 22 = .ok (.aload_n 0, 1) := by decide +kernel
theorem dX11_ratio_23 : decode cX11_ratio 23 = .ok (.iload_n 3, 1) := by decide +kernel
theorem dX11_ratio_24 : decode cX11_ratio 24 = .ok (.lconst 1, 1) := by decide +kernel
theorem dX11_ratio_25 : decode cX11_ratio 25 = .ok (.invokevirtual 182, 3) := by decide +kernel
theorem dX11_ratio_28 : decode cX11_ratio 28 = .ok (.aload_n 0, 1) := by decide +kernel
theorem dX11_ratio_29 : decode cX11_ratio 29 = .ok (.getfield 257, 3) := by decide +kernel
theorem dX11_ratio_32 : decode cX11_ratio 32 = .ok (.ifCond .ne 88, 3) := by decide +kernel
theorem dX11_ratio_35 : decode cX11_ratio 35 = .ok (.aload_n 0, 1) := by decide +kernel
theorem dX11_ratio_36 : decode cX11_ratio 36 = .ok (.iload_n 2, 1) := by decide +kernel
theorem dX11_ratio_37 : decode cX11_ratio 37 = .ok (.ldc2_w 268, 3) := by decide +kernel
theorem dX11_ratio_40 : decode cX11_ratio 40 = .ok (.aload_n 0, 1) := by decide +kernel
theorem dX11_ratio_41 : decode cX11_ratio 41 = .ok (.getfield 13, 3) := by decide +kernel
theorem dX11_ratio_44 : decode cX11_ratio 44 = .ok (.iload 4, 2) := by decide +kernel
theorem dX11_ratio_46 : decode cX11_ratio 46 = .ok (.iaload, 1) := by decide +kernel
theorem dX11_ratio_47 : decode cX11_ratio 47 = .ok (.i2l, 1) := by decide +kernel
theorem dX11_ratio_48 : decode cX11_ratio 48 = .ok (.lmul, 1) := by decide +kernel
theorem dX11_ratio_49 : decode cX11_ratio 49 = .ok (.aload_n 0, 1) := by decide +kernel
theorem dX11_ratio_50 : decode cX11_ratio 50 = .ok (.getfield 61, 3) := by decide +kernel
theorem dX11_ratio_53 : decode cX11_ratio 53 = .ok (.iload 4, 2) := by decide +kernel
theorem dX11_ratio_55 : decode cX11_ratio 55 = .ok (.iaload, 1) := by decide +kernel
theorem dX11_ratio_56 : decode cX11_ratio 56 = .ok (.invokevirtual 270, 3) := by decide +kernel
theorem dX11_ratio_59 : decode cX11_ratio 59 = .ok (.aload_n 0, 1) := by decide +kernel
theorem dX11_ratio_60 : decode cX11_ratio 60 = .ok (.iload_n 2, 1) := by decide +kernel
theorem dX11_ratio_61 : decode cX11_ratio 61 = .ok (.ldc2_w 268, 3) := by decide +kernel
theorem dX11_ratio_64 : decode cX11_ratio 64 = .ok (.aload_n 0, 1) := by decide +kernel
theorem dX11_ratio_65 : decode cX11_ratio 65 = .ok (.getfield 13, 3) := by decide +kernel
theorem dX11_ratio_68 : decode cX11_ratio 68 = .ok (.iload 5, 2) := by decide +kernel
theorem dX11_ratio_70 : decode cX11_ratio 70 = .ok (.iaload, 1) := by decide +kernel
theorem dX11_ratio_71 : decode cX11_ratio 71 = .ok (.i2l, 1) := by decide +kernel
theorem dX11_ratio_72 : decode cX11_ratio 72 = .ok (.lmul, 1) := by decide +kernel
theorem dX11_ratio_73 : decode cX11_ratio 73 = .ok (.aload_n 0, 1) := by decide +kernel
theorem dX11_ratio_74 : decode cX11_ratio 74 = .ok (.getfield 61, 3) := by decide +kernel
theorem dX11_ratio_77 : decode cX11_ratio 77 = .ok (.iload 5, 2) := by decide +kernel
theorem dX11_ratio_79 : decode cX11_ratio 79 = .ok (.iaload, 1) := by decide +kernel
theorem dX11_ratio_80 : decode cX11_ratio 80 = .ok (.invokevirtual 270, 3) := by decide +kernel
theorem dX11_ratio_83 : decode cX11_ratio 83 = .ok (.aload_n 0, 1) := by decide +kernel
theorem dX11_ratio_84 : decode cX11_ratio 84 = .ok (.iload_n 3, 1) := by decide +kernel
theorem dX11_ratio_85 : decode cX11_ratio 85 = .ok (.aload_n 0, 1) := by decide +kernel
theorem dX11_ratio_86 : decode cX11_ratio 86 = .ok (.getfield 13, 3) := by decide +kernel
theorem dX11_ratio_89 : decode cX11_ratio 89 = .ok (.iload 4, 2) := by decide +kernel
theorem dX11_ratio_91 : decode cX11_ratio 91 = .ok (.iaload, 1) := by decide +kernel
theorem dX11_ratio_92 : decode cX11_ratio 92 = .ok (.i2l, 1) := by decide +kernel
theorem dX11_ratio_93 : decode cX11_ratio 93 = .ok (.aload_n 0, 1) := by decide +kernel
theorem dX11_ratio_94 : decode cX11_ratio 94 = .ok (.getfield 13, 3) := by decide +kernel
theorem dX11_ratio_97 : decode cX11_ratio 97 = .ok (.iload 5, 2) := by decide +kernel
theorem dX11_ratio_99 : decode cX11_ratio 99 = .ok (.iaload, 1) := by decide +kernel
theorem dX11_ratio_100 : decode cX11_ratio 100 = .ok (.i2l, 1) := by decide +kernel
theorem dX11_ratio_101 : decode cX11_ratio 101 = .ok (.ladd, 1) := by decide +kernel
theorem dX11_ratio_102 : decode cX11_ratio 102 = .ok (.aload_n 0, 1) := by decide +kernel
theorem dX11_ratio_103 : decode cX11_ratio 103 = .ok (.getfield 61, 3) := by decide +kernel
theorem dX11_ratio_106 : decode cX11_ratio 106 = .ok (.iload 4, 2) := by decide +kernel
theorem dX11_ratio_108 : decode cX11_ratio 108 = .ok (.iaload, 1) := by decide +kernel
theorem dX11_ratio_109 : decode cX11_ratio 109 = .ok (.aload_n 0, 1) := by decide +kernel
theorem dX11_ratio_110 : decode cX11_ratio 110 = .ok (.getfield 61, 3) := by decide +kernel
theorem dX11_ratio_113 : decode cX11_ratio 113 = .ok (.iload 5, 2) := by decide +kernel
theorem dX11_ratio_115 : decode cX11_ratio 115 = .ok (.iaload, 1) := by decide +kernel
theorem dX11_ratio_116 : decode cX11_ratio 116 = .ok (.iadd, 1) := by decide +kernel
theorem dX11_ratio_117 : decode cX11_ratio 117 = .ok (.invokevirtual 270, 3) := by decide +kernel
theorem dX11_ratio_120 : decode cX11_ratio 120 = .ok (.return_, 1) := by decide +kernel
theorem dX11_isFor_0 : decode cX11_isFor 0 = .ok (.iload_n 1, 1) := by decide +kernel
theorem dX11_isFor_1 : decode cX11_isFor 1 = .ok (.iload_n 2, 1) := by decide +kernel
theorem dX11_isFor_2 : decode cX11_isFor 2 = .ok (.if_icmp .ne 7, 3) := by decide +kernel
theorem dX11_isFor_5 : decode cX11_isFor 5 = .ok (.iconst 1, 1) := by decide +kernel
theorem dX11_isFor_6 : decode cX11_isFor 6 = .ok (.goto 4, 3) := by decide +kernel
theorem dX11_isFor_9 : decode cX11_isFor 9 = .ok (.iconst 0, 1) := by decide +kernel
theorem dX11_isFor_10 : decode cX11_isFor 10 = .ok (.ireturn, 1) := by decide +kernel
theorem dX11_factor_0 : decode cX11_factor 0 = .ok (.iconst 0, 1) := by decide +kernel
theorem dX11_factor_1 : decode cX11_factor 1 = .ok (.istore_n 2, 1) := by decide +kernel
theorem dX11_factor_2 : decode cX11_factor 2 = .ok (.iconst 1, 1) := by decide +kernel
theorem dX11_factor_3 : decode cX11_factor 3 = .ok (.istore_n 3, 1) := by decide +kernel
theorem dX11_factor_4 : decode cX11_factor 4 = .ok (.iconst 0, 1) := by decide +kernel
theorem dX11_factor_5 : decode cX11_factor 5 = .ok (.istore 4, 2) := by decide +kernel
theorem dX11_factor_7 : decode cX11_factor 7 = .ok (.iconst 0, 1) := by decide +kernel
theorem dX11_factor_8 : decode cX11_factor 8 = .ok (.istore 5, 2) := by decide +kernel
theorem dX11_factor_10 : decode cX11_factor 10 = .ok (.iload 5, 2) := by decide +kernel
theorem dX11_factor_12 : decode cX11_factor 12 = .ok (.aload_n 0, 1) := by decide +kernel
theorem dX11_factor_13 : decode cX11_factor 13 = .ok (.getfield 250, 3) := by decide +kernel
theorem dX11_factor_16 : decode cX11_factor 16 = .ok (.if_icmp .ge 133, 3) := by decide +kernel
theorem dX11_factor_19 : decode cX11_factor 19 = .ok (.iload_n 1, 1) := by decide +kernel
theorem dX11_factor_20 : decode cX11_factor 20 = .ok (.bipush (-2), 2) := by decide +kernel
theorem dX11_factor_22 : decode cX11_factor 22 = .ok (.if_icmp .eq 127, 3) := by decide +kernel
theorem dX11_factor_25 : decode cX11_factor 25 = .ok (.aload_n 0, 1) := by decide +kernel
theorem dX11_factor_26 : decode cX11_factor 26 = .ok (.getfield 52, 3) := by decide +kernel
theorem dX11_factor_29 : decode cX11_factor 29 = .ok (.iload 5, 2) := by decide +kernel
theorem dX11_factor_31 : decode cX11_factor 31 = .ok (.iaload, 1) := by decide +kernel
theorem dX11_factor_32 : decode cX11_factor 32 = .ok (.istore 6, 2) := by decide +kernel
theorem dX11_factor_34 : decode cX11_factor 34 = .ok (.aload_n 0, 1) := by decide +kernel
theorem dX11_factor_35 : decode cX11_factor 35 = .ok (.getfield 55, 3) := by decide +kernel
theorem dX11_factor_38 : decode cX11_factor 38 = .ok (.iload 5, 2) := by decide +kernel
theorem dX11_factor_40 : decode cX11_factor 40 = .ok (.iaload, 1) := by decide +kernel
theorem dX11_factor_41 : decode cX11_factor 41 = .ok (.istore 7, 2) := by decide +kernel
theorem dX11_factor_43 : decode cX11_factor 43 = .ok (.aload_n 0, 1) := by decide +kernel
theorem dX11_factor_44 : decode cX11_factor 44 = .ok (.aload_n 0, 1) := by decide +kernel
theorem dX11_factor_45 : decode cX11_factor 45 = .ok (.getfield 26, 3) := by decide +kernel
theorem dX11_factor_48 : decode cX11_factor 48 = .ok (.iload_n 1, 1) := by decide +kernel
theorem dX11_factor_49 : decode cX11_factor 49 = .ok (.baload, 1) := by decide +kernel
theorem dX11_factor_50 : decode cX11_factor 50 = .ok (.iload 6, 2) := by decide +kernel
theorem dX11_factor_52 : decode cX11_factor 52 = .ok (.invokevirtual 274, 3) := by decide +kernel
theorem dX11_factor_55 : decode cX11_factor 55 = .ok (.aload_n 0, 1) := by decide +kernel
theorem dX11_factor_56 : decode cX11_factor 56 = .ok (.aload_n 0, 1) := by decide +kernel
theorem dX11_factor_57 : decode cX11_factor 57 = .ok (.getfield 64, 3) := by decide +kernel
theorem dX11_factor_60 : decode cX11_factor 60 = .ok (.iload_n 1, 1) := by decide +kernel
theorem dX11_factor_61 : decode cX11_factor 61 = .ok (.baload, 1) := by decide +kernel
theorem dX11_factor_62 : decode cX11_factor 62 = .ok (.iload 6, 2) := by decide +kernel
theorem dX11_factor_64 : decode cX11_factor 64 = .ok (.invokevirtual 274, 3) := by decide +kernel
theorem dX11_factor_67 : decode cX11_factor 67 = .ok (.isub, 1) := by decide +kernel
theorem dX11_factor_68 : decode cX11_factor 68 = .ok (.aload_n 0, 1) := by decide +kernel
theorem dX11_factor_69 : decode cX11_factor 69 = .ok (.aload_n 0, 1) := by decide +kernel
theorem dX11_factor_70 : decode cX11_factor 70 = .ok (.getfield 26, 3) := by decide +kernel
theorem dX11_factor_73 : decode cX11_factor 73 = .ok (.iload_n 1, 1) := by decide +kernel
theorem dX11_factor_74 : decode cX11_factor 74 = .ok (.baload, 1) := by decide +kernel
theorem dX11_factor_75 : decode cX11_factor 75 = .ok (.iload 7, 2) := by decide +kernel
theorem dX11_factor_77 : decode cX11_factor 77 = .ok (.invokevirtual 274, 3) := by decide +kernel
theorem dX11_factor_80 : decode cX11_factor 80 = .ok (.isub, 1) := by decide +kernel
theorem dX11_factor_81 : decode cX11_factor 81 = .ok (.aload_n 0, 1) := by decide +kernel
theorem dX11_factor_82 : decode cX11_factor 82 = .ok (.aload_n 0, 1) := by decide +kernel
theorem dX11_factor_83 : decode cX11_factor 83 = .ok (.getfield 64, 3) := by decide +kernel
theorem dX11_factor_86 : decode cX11_factor 86 = .ok (.iload_n 1, 1) := by decide +kernel
theorem dX11_factor_87 : decode cX11_factor 87 = .ok (.baload, 1) := by decide +kernel
theorem dX11_factor_88 : decode cX11_factor 88 = .ok (.iload 7, 2) := by decide +kernel
theorem dX11_factor_90 : decode cX11_factor 90 = .ok (.invokevirtual 274, 3) := by decide +kernel
theorem dX11_factor_93 : decode cX11_factor 93 = .ok (.iadd, 1) := by decide +kernel
theorem dX11_factor_94 : decode cX11_factor 94 = .ok (.istore 8, 2) := by decide +kernel
theorem dX11_factor_96 : decode cX11_factor 96 = .ok (.aload_n 0, 1) := by decide +kernel
theorem dX11_factor_97 : decode cX11_factor 97 = .ok (.getfield 13, 3) := by decide +kernel
theorem dX11_factor_100 : decode cX11_factor 100 = .ok (.iload 6, 2) := by decide +kernel
theorem dX11_factor_102 : decode cX11_factor 102 = .ok (.iaload, 1) := by decide +kernel
theorem dX11_factor_103 : decode cX11_factor 103 = .ok (.aload_n 0, 1) := by decide +kernel
theorem dX11_factor_104 : decode cX11_factor 104 = .ok (.getfield 13, 3) := by decide +kernel
theorem dX11_factor_107 : decode cX11_factor 107 = .ok (.iload 7, 2) := by decide +kernel
theorem dX11_factor_109 : decode cX11_factor 109 = .ok (.iaload, 1) := by decide +kernel
theorem dX11_factor_110 : decode cX11_factor 110 = .ok (.isub, 1) := by decide +kernel
theorem dX11_factor_111 : decode cX11_factor 111 = .ok (.istore 9, 2) := by decide +kernel
theorem dX11_factor_113 : decode cX11_factor 113 = .ok (.iload 4, 2) := by decide +kernel
theorem dX11_factor_115 : decode cX11_factor 115 = .ok (.ifCond .eq 19, 3) := by decide +kernel
theorem dX11_factor_118 : decode cX11_factor 118 = .ok (.iload 8, 2) := by decide +kernel
theorem dX11_factor_120 : decode cX11_factor 120 = .ok (.i2l, 1) := by decide +kernel
theorem dX11_factor_121 : decode cX11_factor 121 = .ok (.iload_n 3, 1) := by decide +kernel
theorem dX11_factor_122 : decode cX11_factor 122 = .ok (.i2l, 1) := by decide +kernel
theorem dX11_factor_123 : decode cX11_factor 123 = .ok (.lmul, 1) := by decide +kernel
theorem dX11_factor_124 : decode cX11_factor 124 = .ok (.iload_n 2, 1) := by decide +kernel
theorem dX11_factor_125 : decode cX11_factor 125 = .ok (.i2l, 1) := by decide +kernel
theorem dX11_factor_126 : decode cX11_factor 126 = .ok (.iload 9, 2) := by decide +kernel
theorem dX11_factor_128 : decode cX11_factor 128 = .ok (.i2l, 1) := by decide +kernel
theorem dX11_factor_129 : decode cX11_factor 129 = .ok (.lmul, 1) := by decide +kernel
theorem dX11_factor_130 : decode cX11_factor 130 = .ok (.lcmp, 1) := by decide +kernel
theorem dX11_factor_131 : decode cX11_factor 131 = .ok (.ifCond .le 12, 3) := by decide +kernel
theorem dX11_factor_134 : decode cX11_factor 134 = .ok (.iload 8, 2) := by decide +kernel
theorem dX11_factor_136 : decode cX11_factor 136 = .ok (.istore_n 2, 1) := by decide +kernel
theorem dX11_factor_137 : decode cX11_factor 137 = .ok (.iload 9, 2) := by decide +kernel
theorem dX11_factor_139 : decode cX11_factor 139 = .ok (.istore_n 3, 1) := by decide +kernel
theorem dX11_factor_140 : decode cX11_factor 140 = .ok (.iconst 1, 1) := by decide +kernel
theorem dX11_factor_141 : decode cX11_factor 141 = .ok (.istore 4, 2) := by decide +kernel
theorem dX11_factor_143 : decode cX11_factor 143 = .ok (.iinc 5 1, 3) := by decide +kernel
theorem dX11_factor_146 : decode cX11_factor 146 = .ok (.goto (-136), 3) := by decide +kernel
theorem dX11_factor_149 : decode cX11_factor 149 = .ok (.aload_n 0, 1) := by decide +kernel
theorem dX11_factor_150 : decode cX11_factor 150 = .ok (.invokevirtual 277, 3) := by decide +kernel
theorem dX11_factor_153 : decode cX11_factor 153 = .ok (.i2l, 1) := by decide +kernel
theorem dX11_factor_154 : decode cX11_factor 154 = .ok (.lstore 5, 2) := by decide +kernel
theorem dX11_factor_156 : decode cX11_factor 156 = .ok (.aload_n 0, 1) := by decide +kernel
theorem dX11_factor_157 : decode cX11_factor 157 = .ok (.bipush 6, 2) := by decide +kernel
theorem dX11_factor_159 : decode cX11_factor 159 = .ok (.ldc2_w 268, 3) := by decide +kernel
theorem dX11_factor_162 : decode cX11_factor 162 = .ok (.aload_n 0, 1) := by decide +kernel
theorem dX11_factor_163 : decode cX11_factor 163 = .ok (.getfield 36, 3) := by decide +kernel
theorem dX11_factor_166 : decode cX11_factor 166 = .ok (.i2l, 1) := by decide +kernel
theorem dX11_factor_167 : decode cX11_factor 167 = .ok (.lmul, 1) := by decide +kernel
theorem dX11_factor_168 : decode cX11_factor 168 = .ok (.aload_n 0, 1) := by decide +kernel
theorem dX11_factor_169 : decode cX11_factor 169 = .ok (.getfield 240, 3) := by decide +kernel
theorem dX11_factor_172 : decode cX11_factor 172 = .ok (.i2l, 1) := by decide +kernel
theorem dX11_factor_173 : decode cX11_factor 173 = .ok (.lmul, 1) := by decide +kernel
theorem dX11_factor_174 : decode cX11_factor 174 = .ok (.lload 5, 2) := by decide +kernel
theorem dX11_factor_176 : decode cX11_factor 176 = .ok (.aload_n 0, 1) := by decide +kernel
theorem dX11_factor_177 : decode cX11_factor 177 = .ok (.getfield 39, 3) := by decide +kernel
theorem dX11_factor_180 : decode cX11_factor 180 = .ok (.i2l, 1) := by decide +kernel
theorem dX11_factor_181 : decode cX11_factor 181 = .ok (.lmul, 1) := by decide +kernel
theorem dX11_factor_182 : decode cX11_factor 182 = .ok (.lsub, 1) := by decide +kernel
theorem dX11_factor_183 : decode cX11_factor 183 = .ok (.invokevirtual 192, 3) := by decide +kernel
theorem dX11_factor_186 : decode cX11_factor 186 = .ok (.aload_n 0, 1) := by decide +kernel
theorem dX11_factor_187 : decode cX11_factor 187 = .ok (.bipush 6, 2) := by decide +kernel
theorem dX11_factor_189 : decode cX11_factor 189 = .ok (.iload_n 3, 1) := by decide +kernel
theorem dX11_factor_190 : decode cX11_factor 190 = .ok (.i2l, 1) := by decide +kernel
theorem dX11_factor_191 : decode cX11_factor 191 = .ok (.invokevirtual 192, 3) := by decide +kernel
theorem dX11_factor_194 : decode cX11_factor 194 = .ok (.aload_n 0, 1) := by decide +kernel
theorem dX11_factor_195 : decode cX11_factor 195 = .ok (.bipush 7, 2) := by decide +kernel
theorem dX11_factor_197 : decode cX11_factor 197 = .ok (.aload_n 0, 1) := by decide +kernel
theorem dX11_factor_198 : decode cX11_factor 198 = .ok (.getfield 240, 3) := by decide +kernel
theorem dX11_factor_201 : decode cX11_factor 201 = .ok (.i2l, 1) := by decide +kernel
theorem dX11_factor_202 : decode cX11_factor 202 = .ok (.invokevirtual 192, 3) := by decide +kernel
theorem dX11_factor_205 : decode cX11_factor 205 = .ok (.aload_n 0, 1) := by decide +kernel
theorem dX11_factor_206 : decode cX11_factor 206 = .ok (.bipush 7, 2) := by decide +kernel
theorem dX11_factor_208 : decode cX11_factor 208 = .ok (.ldc2_w 268, 3) := by decide +kernel
theorem dX11_factor_211 : decode cX11_factor 211 = .ok (.aload_n 0, 1) := by decide +kernel
theorem dX11_factor_212 : decode cX11_factor 212 = .ok (.getfield 36, 3) := by decide +kernel
theorem dX11_factor_215 : decode cX11_factor 215 = .ok (.i2l, 1) := by decide +kernel
theorem dX11_factor_216 : decode cX11_factor 216 = .ok (.lmul, 1) := by decide +kernel
theorem dX11_factor_217 : decode cX11_factor 217 = .ok (.iload_n 3, 1) := by decide +kernel
theorem dX11_factor_218 : decode cX11_factor 218 = .ok (.i2l, 1) := by decide +kernel
theorem dX11_factor_219 : decode cX11_factor 219 = .ok (.lmul, 1) := by decide +kernel
theorem dX11_factor_220 : decode cX11_factor 220 = .ok (.iload_n 2, 1) := by decide +kernel
theorem dX11_factor_221 : decode cX11_factor 221 = .ok (.i2l, 1) := by decide +kernel
theorem dX11_factor_222 : decode cX11_factor 222 = .ok (.lload 5, 2) := by decide +kernel
theorem dX11_factor_224 : decode cX11_factor 224 = .ok (.lmul, 1) := by decide +kernel
theorem dX11_factor_225 : decode cX11_factor 225 = .ok (.aload_n 0, 1) := by decide +kernel
theorem dX11_factor_226 : decode cX11_factor 226 = .ok (.getfield 39, 3) := by decide +kernel
theorem dX11_factor_229 : decode cX11_factor 229 = .ok (.i2l, 1) := by decide +kernel
theorem dX11_factor_230 : decode cX11_factor 230 = .ok (.lmul, 1) := by decide +kernel
theorem dX11_factor_231 : decode cX11_factor 231 = .ok (.lsub, 1) := by decide +kernel
theorem dX11_factor_232 : decode cX11_factor 232 = .ok (.invokevirtual 192, 3) := by decide +kernel
theorem dX11_factor_235 : decode cX11_factor 235 = .ok (.return_, 1) := by decide +kernel
theorem dX11_count_0 : decode cX11_count 0 = .ok (.bipush (-2), 2) := by decide +kernel
theorem dX11_count_2 : decode cX11_count 2 = .ok (.istore_n 2, 1) := by decide +kernel
theorem dX11_count_3 : decode cX11_count 3 = .ok (.iload_n 1, 1) := by decide +kernel
theorem dX11_count_4 : decode cX11_count 4 = .ok (.bipush (-2), 2) := by decide +kernel
theorem dX11_count_6 : decode cX11_count 6 = .ok (.if_icmp .eq 24, 3) := by decide +kernel
theorem dX11_count_9 : decode cX11_count 9 = .ok (.aload_n 0, 1) := by decide +kernel
theorem dX11_count_10 : decode cX11_count 10 = .ok (.getfield 64, 3) := by decide +kernel
theorem dX11_count_13 : decode cX11_count 13 = .ok (.iload_n 1, 1) := by decide +kernel
theorem dX11_count_14 : decode cX11_count 14 = .ok (.baload, 1) := by decide +kernel
theorem dX11_count_15 : decode cX11_count 15 = .ok (.istore_n 2, 1) := by decide +kernel
theorem dX11_count_16 : decode cX11_count 16 = .ok (.iload_n 2, 1) := by decide +kernel
theorem dX11_count_17 : decode cX11_count 17 = .ok (.ifCond .lt 13, 3) := by decide +kernel
theorem dX11_count_20 : decode cX11_count 20 = .ok (.aload_n 0, 1) := by decide +kernel
theorem dX11_count_21 : decode cX11_count 21 = .ok (.getfield 61, 3) := by decide +kernel
theorem dX11_count_24 : decode cX11_count 24 = .ok (.iload_n 2, 1) := by decide +kernel
theorem dX11_count_25 : decode cX11_count 25 = .ok (.dup2, 1) := by decide +kernel
theorem dX11_count_26 : decode cX11_count 26 = .ok (.iaload, 1) := by decide +kernel
theorem dX11_count_27 : decode cX11_count 27 = .ok (.iconst 1, 1) := by decide +kernel
theorem dX11_count_28 : decode cX11_count 28 = .ok (.iadd, 1) := by decide +kernel
theorem dX11_count_29 : decode cX11_count 29 = .ok (.iastore, 1) := by decide +kernel
theorem dX11_count_30 : decode cX11_count 30 = .ok (.iconst 1, 1) := by decide +kernel
theorem dX11_count_31 : decode cX11_count 31 = .ok (.istore_n 3, 1) := by decide +kernel
theorem dX11_count_32 : decode cX11_count 32 = .ok (.aload_n 0, 1) := by decide +kernel
theorem dX11_count_33 : decode cX11_count 33 = .ok (.getfield 257, 3) := by decide +kernel
theorem dX11_count_36 : decode cX11_count 36 = .ok (.ifCond .eq 60, 3) := by decide +kernel
theorem dX11_count_39 : decode cX11_count 39 = .ok (.aload_n 0, 1) := by decide +kernel
theorem dX11_count_40 : decode cX11_count 40 = .ok (.iload_n 1, 1) := by decide +kernel
theorem dX11_count_41 : decode cX11_count 41 = .ok (.invokevirtual 281, 3) := by decide +kernel
theorem dX11_count_44 : decode cX11_count 44 = .ok (.aload_n 0, 1) := by decide +kernel
theorem dX11_count_45 : decode cX11_count 45 = .ok (.iconst 2, 1) := by decide +kernel
theorem dX11_count_46 : decode cX11_count 46 = .ok (.bipush 6, 2) := by decide +kernel
theorem dX11_count_48 : decode cX11_count 48 = .ok (.invokevirtual 195, 3) := by decide +kernel
theorem dX11_count_51 : decode cX11_count 51 = .ok (.aload_n 0, 1) := by decide +kernel
theorem dX11_count_52 : decode cX11_count 52 = .ok (.iconst 3, 1) := by decide +kernel
theorem dX11_count_53 : decode cX11_count 53 = .ok (.bipush 7, 2) := by decide +kernel
theorem dX11_count_55 : decode cX11_count 55 = .ok (.invokevirtual 195, 3) := by decide +kernel
theorem dX11_count_58 : decode cX11_count 58 = .ok (.aload_n 0, 1) := by decide +kernel
theorem dX11_count_59 : decode cX11_count 59 = .ok (.iconst 2, 1) := by decide +kernel
theorem dX11_count_60 : decode cX11_count 60 = .ok (.aload_n 0, 1) := by decide +kernel
theorem dX11_count_61 : decode cX11_count 61 = .ok (.getfield 33, 3) := by decide +kernel
theorem dX11_count_64 : decode cX11_count 64 = .ok (.i2l, 1) := by decide +kernel
theorem dX11_count_65 : decode cX11_count 65 = .ok (.invokevirtual 192, 3) := by decide +kernel
theorem dX11_count_68 : decode cX11_count 68 = .ok (.aload_n 0, 1) := by decide +kernel
theorem dX11_count_69 : decode cX11_count 69 = .ok (.iconst 3, 1) := by decide +kernel
theorem dX11_count_70 : decode cX11_count 70 = .ok (.aload_n 0, 1) := by decide +kernel
theorem dX11_count_71 : decode cX11_count 71 = .ok (.getfield 30, 3) := by decide +kernel
theorem dX11_count_74 : decode cX11_count 74 = .ok (.i2l, 1) := by decide +kernel
theorem dX11_count_75 : decode cX11_count 75 = .ok (.invokevirtual 192, 3) := by decide +kernel
theorem dX11_count_78 : decode cX11_count 78 = .ok (.aload_n 0, 1) := by decide +kernel
theorem dX11_count_79 : decode cX11_count 79 = .ok (.iconst 2, 1) := by decide +kernel
theorem dX11_count_80 : decode cX11_count 80 = .ok (.iconst 3, 1) := by decide +kernel
theorem dX11_count_81 : decode cX11_count 81 = .ok (.invokevirtual 203, 3) := by decide +kernel
theorem dX11_count_84 : decode cX11_count 84 = .ok (.ifCond .gt 7, 3) := by decide +kernel
theorem dX11_count_87 : decode cX11_count 87 = .ok (.iconst 1, 1) := by decide +kernel
theorem dX11_count_88 : decode cX11_count 88 = .ok (.goto 4, 3) := by decide +kernel
theorem dX11_count_91 : decode cX11_count 91 = .ok (.iconst 0, 1) := by decide +kernel
theorem dX11_count_92 : decode cX11_count 92 = .ok (.istore_n 3, 1) := by decide +kernel
theorem dX11_count_93 : decode cX11_count 93 = .ok (.goto 105, 3) := by decide +kernel
theorem dX11_count_96 : decode cX11_count 96 = .ok (.iconst 0, 1) := by decide +kernel
theorem dX11_count_97 : decode cX11_count 97 = .ok (.istore 4, 2) := by decide +kernel
theorem dX11_count_99 : decode cX11_count 99 = .ok (.iload 4, 2) := by decide +kernel
theorem dX11_count_101 : decode cX11_count 101 = .ok (.aload_n 0, 1) := by decide +kernel
theorem dX11_count_102 : decode cX11_count 102 = .ok (.getfield 250, 3) := by decide +kernel
theorem dX11_count_105 : decode cX11_count 105 = .ok (.if_icmp .ge 93, 3) := by decide +kernel
theorem dX11_count_108 : decode cX11_count 108 = .ok (.aload_n 0, 1) := by decide +kernel
theorem dX11_count_109 : decode cX11_count 109 = .ok (.getfield 58, 3) := by decide +kernel
theorem dX11_count_112 : decode cX11_count 112 = .ok (.iload 4, 2) := by decide +kernel
theorem dX11_count_114 : decode cX11_count 114 = .ok (.iaload, 1) := by decide +kernel
theorem dX11_count_115 : decode cX11_count 115 = .ok (.iconst (-1), 1) := by decide +kernel
theorem dX11_count_116 : decode cX11_count 116 = .ok (.if_icmp .ne 55, 3) := by decide +kernel
theorem dX11_count_119 : decode cX11_count 119 = .ok (.aload_n 0, 1) := by decide +kernel
theorem dX11_count_120 : decode cX11_count 120 = .ok (.iload 4, 2) := by decide +kernel
theorem dX11_count_122 : decode cX11_count 122 = .ok (.iconst 2, 1) := by decide +kernel
theorem dX11_count_123 : decode cX11_count 123 = .ok (.iconst 3, 1) := by decide +kernel
theorem dX11_count_124 : decode cX11_count 124 = .ok (.invokevirtual 284, 3) := by decide +kernel
theorem dX11_count_127 : decode cX11_count 127 = .ok (.aload_n 0, 1) := by decide +kernel
theorem dX11_count_128 : decode cX11_count 128 = .ok (.iconst 2, 1) := by decide +kernel
theorem dX11_count_129 : decode cX11_count 129 = .ok (.aload_n 0, 1) := by decide +kernel
theorem dX11_count_130 : decode cX11_count 130 = .ok (.getfield 30, 3) := by decide +kernel
theorem dX11_count_133 : decode cX11_count 133 = .ok (.i2l, 1) := by decide +kernel
theorem dX11_count_134 : decode cX11_count 134 = .ok (.invokevirtual 192, 3) := by decide +kernel
theorem dX11_count_137 : decode cX11_count 137 = .ok (.aload_n 0, 1) := by decide +kernel
theorem dX11_count_138 : decode cX11_count 138 = .ok (.iconst 3, 1) := by decide +kernel
theorem dX11_count_139 : decode cX11_count 139 = .ok (.aload_n 0, 1) := by decide +kernel
theorem dX11_count_140 : decode cX11_count 140 = .ok (.getfield 33, 3) := by decide +kernel
theorem dX11_count_143 : decode cX11_count 143 = .ok (.i2l, 1) := by decide +kernel
theorem dX11_count_144 : decode cX11_count 144 = .ok (.invokevirtual 192, 3) := by decide +kernel
theorem dX11_count_147 : decode cX11_count 147 = .ok (.aload_n 0, 1) := by decide +kernel
theorem dX11_count_148 : decode cX11_count 148 = .ok (.getfield 58, 3) := by decide +kernel
theorem dX11_count_151 : decode cX11_count 151 = .ok (.iload 4, 2) := by decide +kernel
theorem dX11_count_153 : decode cX11_count 153 = .ok (.aload_n 0, 1) := by decide +kernel
theorem dX11_count_154 : decode cX11_count 154 = .ok (.iconst 2, 1) := by decide +kernel
theorem dX11_count_155 : decode cX11_count 155 = .ok (.iconst 3, 1) := by decide +kernel
theorem dX11_count_156 : decode cX11_count 156 = .ok (.invokevirtual 203, 3) := by decide +kernel
theorem dX11_count_159 : decode cX11_count 159 = .ok (.ifCond .lt 10, 3) := by decide +kernel
theorem dX11_count_162 : decode cX11_count 162 = .ok (.aload_n 0, 1) := by decide +kernel
theorem dX11_count_163 : decode cX11_count 163 = .ok (.getfield 288, 3) := by decide +kernel
theorem dX11_count_166 : decode cX11_count 166 = .ok (.goto 4, 3) := by decide +kernel
theorem dX11_count_169 : decode cX11_count 169 = .ok (.iconst (-1), 1) := by decide +kernel
theorem dX11_count_170 : decode cX11_count 170 = .ok (.iastore, 1) := by decide +kernel
theorem dX11_count_171 : decode cX11_count 171 = .ok (.iload_n 3, 1) := by decide +kernel
theorem dX11_count_172 : decode cX11_count 172 = .ok (.ifCond .eq 18, 3) := by decide +kernel
theorem dX11_count_175 : decode cX11_count 175 = .ok (.aload_n 0, 1) := by decide +kernel
theorem dX11_count_176 : decode cX11_count 176 = .ok (.getfield 58, 3) := by decide +kernel
theorem dX11_count_179 : decode cX11_count 179 = .ok (.iload 4, 2) := by decide +kernel
theorem dX11_count_181 : decode cX11_count 181 = .ok (.iaload, 1) := by decide +kernel
theorem dX11_count_182 : decode cX11_count 182 = .ok (.iconst (-1), 1) := by decide +kernel
theorem dX11_count_183 : decode cX11_count 183 = .ok (.if_icmp .eq 7, 3) := by decide +kernel
theorem dX11_count_186 : decode cX11_count 186 = .ok (.iconst 1, 1) := by decide +kernel
theorem dX11_count_187 : decode cX11_count 187 = .ok (.goto 4, 3) := by decide +kernel
theorem dX11_count_190 : decode cX11_count 190 = .ok (.iconst 0, 1) := by decide +kernel
theorem dX11_count_191 : decode cX11_count 191 = .ok (.istore_n 3, 1) := by decide +kernel
theorem dX11_count_192 : decode cX11_count 192 = .ok (.iinc 4 1, 3) := by decide +kernel
theorem dX11_count_195 : decode cX11_count 195 = .ok (.goto (-96), 3) := by decide +kernel
theorem dX11_count_198 : decode cX11_count 198 = .ok (.aload_n 0, 1) := by decide +kernel
theorem dX11_count_199 : decode cX11_count 199 = .ok (.iload_n 3, 1) := by decide +kernel
theorem dX11_count_200 : decode cX11_count 200 = .ok (.ifCond .eq 7, 3) := by decide +kernel
theorem dX11_count_203 : decode cX11_count 203 = .ok (.iconst 3, 1) := by decide +kernel
theorem dX11_count_204 : decode cX11_count 204 = .ok (.goto 19, 3) := by decide +kernel
theorem dX11_count_207 : decode cX11_count 207 = .ok (.aload_n 0, 1) := by decide +kernel
theorem dX11_count_208 : decode cX11_count 208 = .ok (.getfield 288, 3) := by decide +kernel
theorem dX11_count_211 : decode cX11_count 211 = .ok (.aload_n 0, 1) := by decide +kernel
theorem dX11_count_212 : decode cX11_count 212 = .ok (.getfield 20, 3) := by decide +kernel
theorem dX11_count_215 : decode cX11_count 215 = .ok (.if_icmp .ne 7, 3) := by decide +kernel
theorem dX11_count_218 : decode cX11_count 218 = .ok (.iconst 4, 1) := by decide +kernel
theorem dX11_count_219 : decode cX11_count 219 = .ok (.goto 4, 3) := by decide +kernel
theorem dX11_count_222 : decode cX11_count 222 = .ok (.iconst 1, 1) := by decide +kernel
theorem dX11_count_223 : decode cX11_count 223 = .ok (.putfield 231, 3) := by decide +kernel
theorem dX11_count_226 : decode cX11_count 226 = .ok (.return_, 1) := by decide +kernel
theorem dX11_number_0 : decode cX11_number 0 = .ok (.aload_n 0, 1) := by decide +kernel
theorem dX11_number_1 : decode cX11_number 1 = .ok (.getfield 261, 3) := by decide +kernel
theorem dX11_number_4 : decode cX11_number 4 = .ok (.ifCond .eq 52, 3) := by decide +kernel
theorem dX11_number_7 : decode cX11_number 7 = .ok (.aload_n 0, 1) := by decide +kernel
theorem dX11_number_8 : decode cX11_number 8 = .ok (.aload_n 0, 1) := by decide +kernel
theorem dX11_number_9 : decode cX11_number 9 = .ok (.getfield 288, 3) := by decide +kernel
theorem dX11_number_12 : decode cX11_number 12 = .ok (.iconst 1, 1) := by decide +kernel
theorem dX11_number_13 : decode cX11_number 13 = .ok (.iadd, 1) := by decide +kernel
theorem dX11_number_14 : decode cX11_number 14 = .ok (.invokevirtual 291, 3) := by decide +kernel
theorem dX11_number_17 : decode cX11_number 17 = .ok (.lconst 0, 1) := by decide +kernel
theorem dX11_number_18 : decode cX11_number 18 = .ok (.lstore_n 1, 1) := by decide +kernel
theorem dX11_number_19 : decode cX11_number 19 = .ok (.iconst 0, 1) := by decide +kernel
theorem dX11_number_20 : decode cX11_number 20 = .ok (.istore_n 3, 1) := by decide +kernel
theorem dX11_number_21 : decode cX11_number 21 = .ok (.iload_n 3, 1) := by decide +kernel
theorem dX11_number_22 : decode cX11_number 22 = .ok (.bipush 32, 2) := by decide +kernel
theorem dX11_number_24 : decode cX11_number 24 = .ok (.if_icmp .ge 29, 3) := by decide +kernel
theorem dX11_number_27 : decode cX11_number 27 = .ok (.ldc2_w 294, 3) := by decide +kernel
theorem dX11_number_30 : decode cX11_number 30 = .ok (.lload_n 1, 1) := by decide +kernel
theorem dX11_number_31 : decode cX11_number 31 = .ok (.lmul, 1) := by decide +kernel
theorem dX11_number_32 : decode cX11_number 32 = .ok (.aload_n 0, 1) := by decide +kernel
theorem dX11_number_33 : decode cX11_number 33 = .ok (.getfield 176, 3) := by decide +kernel
theorem dX11_number_36 : decode cX11_number 36 = .ok (.iload_n 3, 1) := by decide +kernel
theorem dX11_number_37 : decode cX11_number 37 = .ok (.iaload, 1) := by decide +kernel
theorem dX11_number_38 : decode cX11_number 38 = .ok (.i2l, 1) := by decide +kernel
theorem dX11_number_39 : decode cX11_number 39 = .ok (.ladd, 1) := by decide +kernel
theorem dX11_number_40 : decode cX11_number 40 = .ok (.aload_n 0, 1) := by decide +kernel
theorem dX11_number_41 : decode cX11_number 41 = .ok (.getfield 240, 3) := by decide +kernel
theorem dX11_number_44 : decode cX11_number 44 = .ok (.i2l, 1) := by decide +kernel
theorem dX11_number_45 : decode cX11_number 45 = .ok (.lrem, 1) := by decide +kernel
theorem dX11_number_46 : decode cX11_number 46 = .ok (.lstore_n 1, 1) := by decide +kernel
theorem dX11_number_47 : decode cX11_number 47 = .ok (.iinc 3 1, 3) := by decide +kernel
theorem dX11_number_50 : decode cX11_number 50 = .ok (.goto (-29), 3) := by decide +kernel
theorem dX11_number_53 : decode cX11_number 53 = .ok (.lload_n 1, 1) := by decide +kernel
theorem dX11_number_54 : decode cX11_number 54 = .ok (.l2i, 1) := by decide +kernel
theorem dX11_number_55 : decode cX11_number 55 = .ok (.ireturn, 1) := by decide +kernel
theorem dX11_number_56 : decode cX11_number 56 = .ok (.aload_n 0, 1) := by decide +kernel
theorem dX11_number_57 : decode cX11_number 57 = .ok (.invokevirtual 296, 3) := by decide +kernel
theorem dX11_number_60 : decode cX11_number 60 = .ok (.istore_n 1, 1) := by decide +kernel
theorem dX11_number_61 : decode cX11_number 61 = .ok (.aload_n 0, 1) := by decide +kernel
theorem dX11_number_62 : decode cX11_number 62 = .ok (.getfield 247, 3) := by decide +kernel
theorem dX11_number_65 : decode cX11_number 65 = .ok (.iload_n 1, 1) := by decide +kernel
theorem dX11_number_66 : decode cX11_number 66 = .ok (.if_icmp .ge 5, 3) := by decide +kernel
theorem dX11_number_69 : decode cX11_number 69 = .ok (.iconst (-1), 1) := by decide +kernel
theorem dX11_number_70 : decode cX11_number 70 = .ok (.ireturn, 1) := by decide +kernel
theorem dX11_number_71 : decode cX11_number 71 = .ok (.iconst 0, 1) := by decide +kernel
theorem dX11_number_72 : decode cX11_number 72 = .ok (.istore_n 2, 1) := by decide +kernel
theorem dX11_number_73 : decode cX11_number 73 = .ok (.iconst 0, 1) := by decide +kernel
theorem dX11_number_74 : decode cX11_number 74 = .ok (.istore_n 3, 1) := by decide +kernel
theorem dX11_number_75 : decode cX11_number 75 = .ok (.iload_n 3, 1) := by decide +kernel
theorem dX11_number_76 : decode cX11_number 76 = .ok (.iload_n 1, 1) := by decide +kernel
theorem dX11_number_77 : decode cX11_number 77 = .ok (.if_icmp .ge 20, 3) := by decide +kernel
theorem dX11_number_80 : decode cX11_number 80 = .ok (.iconst 2, 1) := by decide +kernel
theorem dX11_number_81 : decode cX11_number 81 = .ok (.iload_n 2, 1) := by decide +kernel
theorem dX11_number_82 : decode cX11_number 82 = .ok (.imul, 1) := by decide +kernel
theorem dX11_number_83 : decode cX11_number 83 = .ok (.aload_n 0, 1) := by decide +kernel
theorem dX11_number_84 : decode cX11_number 84 = .ok (.getfield 45, 3) := by decide +kernel
theorem dX11_number_87 : decode cX11_number 87 = .ok (.iload_n 3, 1) := by decide +kernel
theorem dX11_number_88 : decode cX11_number 88 = .ok (.baload, 1) := by decide +kernel
theorem dX11_number_89 : decode cX11_number 89 = .ok (.iadd, 1) := by decide +kernel
theorem dX11_number_90 : decode cX11_number 90 = .ok (.istore_n 2, 1) := by decide +kernel
theorem dX11_number_91 : decode cX11_number 91 = .ok (.iinc 3 1, 3) := by decide +kernel
theorem dX11_number_94 : decode cX11_number 94 = .ok (.goto (-19), 3) := by decide +kernel
theorem dX11_number_97 : decode cX11_number 97 = .ok (.aload_n 0, 1) := by decide +kernel
theorem dX11_number_98 : decode cX11_number 98 = .ok (.dup, 1) := by decide +kernel
theorem dX11_number_99 : decode cX11_number 99 = .ok (.getfield 247, 3) := by decide +kernel
theorem dX11_number_102 : decode cX11_number 102 = .ok (.iload_n 1, 1) := by decide +kernel
theorem dX11_number_103 : decode cX11_number 103 = .ok (.isub, 1) := by decide +kernel
theorem dX11_number_104 : decode cX11_number 104 = .ok (.putfield 247, 3) := by decide +kernel
theorem dX11_number_107 : decode cX11_number 107 = .ok (.iconst 0, 1) := by decide +kernel
theorem dX11_number_108 : decode cX11_number 108 = .ok (.istore_n 3, 1) := by decide +kernel
theorem dX11_number_109 : decode cX11_number 109 = .ok (.iload_n 3, 1) := by decide +kernel
theorem dX11_number_110 : decode cX11_number 110 = .ok (.aload_n 0, 1) := by decide +kernel
theorem dX11_number_111 : decode cX11_number 111 = .ok (.getfield 247, 3) := by decide +kernel
theorem dX11_number_114 : decode cX11_number 114 = .ok (.if_icmp .ge 23, 3) := by decide +kernel
theorem dX11_number_117 : decode cX11_number 117 = .ok (.aload_n 0, 1) := by decide +kernel
theorem dX11_number_118 : decode cX11_number 118 = .ok (.getfield 45, 3) := by decide +kernel
theorem dX11_number_121 : decode cX11_number 121 = .ok (.iload_n 3, 1) := by decide +kernel
theorem dX11_number_122 : decode cX11_number 122 = .ok (.aload_n 0, 1) := by decide +kernel
theorem dX11_number_123 : decode cX11_number 123 = .ok (.getfield 45, 3) := by decide +kernel
theorem dX11_number_126 : decode cX11_number 126 = .ok (.iload_n 3, 1) := by decide +kernel
theorem dX11_number_127 : decode cX11_number 127 = .ok (.iload_n 1, 1) := by decide +kernel
theorem dX11_number_128 : decode cX11_number 128 = .ok (.iadd, 1) := by decide +kernel
theorem dX11_number_129 : decode cX11_number 129 = .ok (.baload, 1) := by decide +kernel
theorem dX11_number_130 : decode cX11_number 130 = .ok (.bastore, 1) := by decide +kernel
theorem dX11_number_131 : decode cX11_number 131 = .ok (.iinc 3 1, 3) := by decide +kernel
theorem dX11_number_134 : decode cX11_number 134 = .ok (.goto (-25), 3) := by decide +kernel
theorem dX11_number_137 : decode cX11_number 137 = .ok (.iload_n 2, 1) := by decide +kernel
theorem dX11_number_138 : decode cX11_number 138 = .ok (.aload_n 0, 1) := by decide +kernel
theorem dX11_number_139 : decode cX11_number 139 = .ok (.getfield 240, 3) := by decide +kernel
theorem dX11_number_142 : decode cX11_number 142 = .ok (.if_icmp .ge 7, 3) := by decide +kernel
theorem dX11_number_145 : decode cX11_number 145 = .ok (.iload_n 2, 1) := by decide +kernel
theorem dX11_number_146 : decode cX11_number 146 = .ok (.goto 5, 3) := by decide +kernel
theorem dX11_number_149 : decode cX11_number 149 = .ok (.bipush (-2), 2) := by decide +kernel
theorem dX11_number_151 : decode cX11_number 151 = .ok (.ireturn, 1) := by decide +kernel
theorem dX11_draw_0 : decode cX11_draw 0 = .ok (.aload_n 0, 1) := by decide +kernel
theorem dX11_draw_1 : decode cX11_draw 1 = .ok (.aload_n 0, 1) := by decide +kernel
theorem dX11_draw_2 : decode cX11_draw 2 = .ok (.getfield 231, 3) := by decide +kernel
theorem dX11_draw_5 : decode cX11_draw 5 = .ok (.iconst 1, 1) := by decide +kernel
theorem dX11_draw_6 : decode cX11_draw 6 = .ok (.if_icmp .ne 7, 3) := by decide +kernel
theorem dX11_draw_9 : decode cX11_draw 9 = .ok (.iconst 0, 1) := by decide +kernel
theorem dX11_draw_10 : decode cX11_draw 10 = .ok (.goto 4, 3) := by decide +kernel
theorem dX11_draw_13 : decode cX11_draw 13 = .ok (.iconst 1, 1) := by decide +kernel
theorem dX11_draw_14 : decode cX11_draw 14 = .ok (.putfield 1, 3) := by decide +kernel
theorem dX11_draw_17 : decode cX11_draw 17 = .ok (.aload_n 0, 1) := by decide +kernel
theorem dX11_draw_18 : decode cX11_draw 18 = .ok (.getfield 1, 3) := by decide +kernel
theorem dX11_draw_21 : decode cX11_draw 21 = .ok (.ifCond .le 5, 3) := by decide +kernel
theorem dX11_draw_24 : decode cX11_draw 24 = .ok (.iconst 0, 1) := by decide +kernel
theorem dX11_draw_25 : decode cX11_draw 25 = .ok (.ireturn, 1) := by decide +kernel
theorem dX11_draw_26 : decode cX11_draw 26 = .ok (.aload_n 0, 1) := by decide +kernel
theorem dX11_draw_27 : decode cX11_draw 27 = .ok (.invokevirtual 299, 3) := by decide +kernel
theorem dX11_draw_30 : decode cX11_draw 30 = .ok (.istore_n 1, 1) := by decide +kernel
theorem dX11_draw_31 : decode cX11_draw 31 = .ok (.iload_n 1, 1) := by decide +kernel
theorem dX11_draw_32 : decode cX11_draw 32 = .ok (.iconst (-1), 1) := by decide +kernel
theorem dX11_draw_33 : decode cX11_draw 33 = .ok (.if_icmp .ne 5, 3) := by decide +kernel
theorem dX11_draw_36 : decode cX11_draw 36 = .ok (.iconst (-1), 1) := by decide +kernel
theorem dX11_draw_37 : decode cX11_draw 37 = .ok (.ireturn, 1) := by decide +kernel
theorem dX11_draw_38 : decode cX11_draw 38 = .ok (.aload_n 0, 1) := by decide +kernel
theorem dX11_draw_39 : decode cX11_draw 39 = .ok (.dup, 1) := by decide +kernel
theorem dX11_draw_40 : decode cX11_draw 40 = .ok (.getfield 288, 3) := by decide +kernel
theorem dX11_draw_43 : decode cX11_draw 43 = .ok (.iconst 1, 1) := by decide +kernel
theorem dX11_draw_44 : decode cX11_draw 44 = .ok (.iadd, 1) := by decide +kernel
theorem dX11_draw_45 : decode cX11_draw 45 = .ok (.putfield 288, 3) := by decide +kernel
theorem dX11_draw_48 : decode cX11_draw 48 = .ok (.iload_n 1, 1) := by decide +kernel
theorem dX11_draw_49 : decode cX11_draw 49 = .ok (.bipush (-2), 2) := by decide +kernel
theorem dX11_draw_51 : decode cX11_draw 51 = .ok (.if_icmp .ne 16, 3) := by decide +kernel
theorem dX11_draw_54 : decode cX11_draw 54 = .ok (.aload_n 0, 1) := by decide +kernel
theorem dX11_draw_55 : decode cX11_draw 55 = .ok (.dup, 1) := by decide +kernel
theorem dX11_draw_56 : decode cX11_draw 56 = .ok (.getfield 302, 3) := by decide +kernel
theorem dX11_draw_59 : decode cX11_draw 59 = .ok (.iconst 1, 1) := by decide +kernel
theorem dX11_draw_60 : decode cX11_draw 60 = .ok (.iadd, 1) := by decide +kernel
theorem dX11_draw_61 : decode cX11_draw 61 = .ok (.putfield 302, 3) := by decide +kernel
theorem dX11_draw_64 : decode cX11_draw 64 = .ok (.goto 13, 3) := by decide +kernel
theorem dX11_draw_67 : decode cX11_draw 67 = .ok (.aload_n 0, 1) := by decide +kernel
theorem dX11_draw_68 : decode cX11_draw 68 = .ok (.getfield 67, 3) := by decide +kernel
theorem dX11_draw_71 : decode cX11_draw 71 = .ok (.iload_n 1, 1) := by decide +kernel
theorem dX11_draw_72 : decode cX11_draw 72 = .ok (.dup2, 1) := by decide +kernel
theorem dX11_draw_73 : decode cX11_draw 73 = .ok (.iaload, 1) := by decide +kernel
theorem dX11_draw_74 : decode cX11_draw 74 = .ok (.iconst 1, 1) := by decide +kernel
theorem dX11_draw_75 : decode cX11_draw 75 = .ok (.iadd, 1) := by decide +kernel
theorem dX11_draw_76 : decode cX11_draw 76 = .ok (.iastore, 1) := by decide +kernel
theorem dX11_draw_77 : decode cX11_draw 77 = .ok (.iload_n 1, 1) := by decide +kernel
theorem dX11_draw_78 : decode cX11_draw 78 = .ok (.bipush (-2), 2) := by decide +kernel
theorem dX11_draw_80 : decode cX11_draw 80 = .ok (.if_icmp .eq 27, 3) := by decide +kernel
theorem dX11_draw_83 : decode cX11_draw 83 = .ok (.aload_n 0, 1) := by decide +kernel
theorem dX11_draw_84 : decode cX11_draw 84 = .ok (.getfield 64, 3) := by decide +kernel
theorem dX11_draw_87 : decode cX11_draw 87 = .ok (.iload_n 1, 1) := by decide +kernel
theorem dX11_draw_88 : decode cX11_draw 88 = .ok (.baload, 1) := by decide +kernel
theorem dX11_draw_89 : decode cX11_draw 89 = .ok (.bipush (-2), 2) := by decide +kernel
theorem dX11_draw_91 : decode cX11_draw 91 = .ok (.if_icmp .ne 16, 3) := by decide +kernel
theorem dX11_draw_94 : decode cX11_draw 94 = .ok (.aload_n 0, 1) := by decide +kernel
theorem dX11_draw_95 : decode cX11_draw 95 = .ok (.iload_n 1, 1) := by decide +kernel
theorem dX11_draw_96 : decode cX11_draw 96 = .ok (.putfield 70, 3) := by decide +kernel
theorem dX11_draw_99 : decode cX11_draw 99 = .ok (.aload_n 0, 1) := by decide +kernel
theorem dX11_draw_100 : decode cX11_draw 100 = .ok (.iconst 2, 1) := by decide +kernel
theorem dX11_draw_101 : decode cX11_draw 101 = .ok (.putfield 231, 3) := by decide +kernel
theorem dX11_draw_104 : decode cX11_draw 104 = .ok (.goto 8, 3) := by decide +kernel
theorem dX11_draw_107 : decode cX11_draw 107 = .ok (.aload_n 0, 1) := by decide +kernel
theorem dX11_draw_108 : decode cX11_draw 108 = .ok (.iload_n 1, 1) := by decide +kernel
theorem dX11_draw_109 : decode cX11_draw 109 = .ok (.invokevirtual 305, 3) := by decide +kernel
theorem dX11_draw_112 : decode cX11_draw 112 = .ok (.iload_n 1, 1) := by decide +kernel
theorem dX11_draw_113 : decode cX11_draw 113 = .ok (.ireturn, 1) := by decide +kernel
theorem dX11_see_0 : decode cX11_see 0 = .ok (.aload_n 0, 1) := by decide +kernel
theorem dX11_see_1 : decode cX11_see 1 = .ok (.aload_n 0, 1) := by decide +kernel
theorem dX11_see_2 : decode cX11_see 2 = .ok (.iload_n 1, 1) := by decide +kernel
theorem dX11_see_3 : decode cX11_see 3 = .ok (.invokevirtual 243, 3) := by decide +kernel
theorem dX11_see_6 : decode cX11_see 6 = .ok (.ifCond .ne 7, 3) := by decide +kernel
theorem dX11_see_9 : decode cX11_see 9 = .ok (.iconst 1, 1) := by decide +kernel
theorem dX11_see_10 : decode cX11_see 10 = .ok (.goto 16, 3) := by decide +kernel
theorem dX11_see_13 : decode cX11_see 13 = .ok (.aload_n 0, 1) := by decide +kernel
theorem dX11_see_14 : decode cX11_see 14 = .ok (.getfield 231, 3) := by decide +kernel
theorem dX11_see_17 : decode cX11_see 17 = .ok (.iconst 2, 1) := by decide +kernel
theorem dX11_see_18 : decode cX11_see 18 = .ok (.if_icmp .eq 7, 3) := by decide +kernel
theorem dX11_see_21 : decode cX11_see 21 = .ok (.iconst 2, 1) := by decide +kernel
theorem dX11_see_22 : decode cX11_see 22 = .ok (.goto 4, 3) := by decide +kernel
theorem dX11_see_25 : decode cX11_see 25 = .ok (.iconst 0, 1) := by decide +kernel
theorem dX11_see_26 : decode cX11_see 26 = .ok (.putfield 1, 3) := by decide +kernel
theorem dX11_see_29 : decode cX11_see 29 = .ok (.aload_n 0, 1) := by decide +kernel
theorem dX11_see_30 : decode cX11_see 30 = .ok (.getfield 1, 3) := by decide +kernel
theorem dX11_see_33 : decode cX11_see 33 = .ok (.ifCond .le 5, 3) := by decide +kernel
theorem dX11_see_36 : decode cX11_see 36 = .ok (.iconst 0, 1) := by decide +kernel
theorem dX11_see_37 : decode cX11_see 37 = .ok (.ireturn, 1) := by decide +kernel
theorem dX11_see_38 : decode cX11_see 38 = .ok (.aload_n 0, 1) := by decide +kernel
theorem dX11_see_39 : decode cX11_see 39 = .ok (.getfield 70, 3) := by decide +kernel
theorem dX11_see_42 : decode cX11_see 42 = .ok (.istore_n 2, 1) := by decide +kernel
theorem dX11_see_43 : decode cX11_see 43 = .ok (.aload_n 0, 1) := by decide +kernel
theorem dX11_see_44 : decode cX11_see 44 = .ok (.iconst (-1), 1) := by decide +kernel
theorem dX11_see_45 : decode cX11_see 45 = .ok (.putfield 70, 3) := by decide +kernel
theorem dX11_see_48 : decode cX11_see 48 = .ok (.aload_n 0, 1) := by decide +kernel
theorem dX11_see_49 : decode cX11_see 49 = .ok (.getfield 64, 3) := by decide +kernel
theorem dX11_see_52 : decode cX11_see 52 = .ok (.iload_n 2, 1) := by decide +kernel
theorem dX11_see_53 : decode cX11_see 53 = .ok (.iload_n 1, 1) := by decide +kernel
theorem dX11_see_54 : decode cX11_see 54 = .ok (.i2b, 1) := by decide +kernel
theorem dX11_see_55 : decode cX11_see 55 = .ok (.bastore, 1) := by decide +kernel
theorem dX11_see_56 : decode cX11_see 56 = .ok (.aload_n 0, 1) := by decide +kernel
theorem dX11_see_57 : decode cX11_see 57 = .ok (.dup, 1) := by decide +kernel
theorem dX11_see_58 : decode cX11_see 58 = .ok (.getfield 308, 3) := by decide +kernel
theorem dX11_see_61 : decode cX11_see 61 = .ok (.iconst 1, 1) := by decide +kernel
theorem dX11_see_62 : decode cX11_see 62 = .ok (.iadd, 1) := by decide +kernel
theorem dX11_see_63 : decode cX11_see 63 = .ok (.putfield 308, 3) := by decide +kernel
theorem dX11_see_66 : decode cX11_see 66 = .ok (.aload_n 0, 1) := by decide +kernel
theorem dX11_see_67 : decode cX11_see 67 = .ok (.iload_n 2, 1) := by decide +kernel
theorem dX11_see_68 : decode cX11_see 68 = .ok (.invokevirtual 305, 3) := by decide +kernel
theorem dX11_see_71 : decode cX11_see 71 = .ok (.aload_n 0, 1) := by decide +kernel
theorem dX11_see_72 : decode cX11_see 72 = .ok (.getfield 231, 3) := by decide +kernel
theorem dX11_see_75 : decode cX11_see 75 = .ok (.ireturn, 1) := by decide +kernel
theorem dX11_counted_0 : decode cX11_counted 0 = .ok (.aload_n 0, 1) := by decide +kernel
theorem dX11_counted_1 : decode cX11_counted 1 = .ok (.iload_n 1, 1) := by decide +kernel
theorem dX11_counted_2 : decode cX11_counted 2 = .ok (.ifCond .lt 11, 3) := by decide +kernel
theorem dX11_counted_5 : decode cX11_counted 5 = .ok (.iload_n 1, 1) := by decide +kernel
theorem dX11_counted_6 : decode cX11_counted 6 = .ok (.aload_n 0, 1) := by decide +kernel
theorem dX11_counted_7 : decode cX11_counted 7 = .ok (.getfield 234, 3) := by decide +kernel
theorem dX11_counted_10 : decode cX11_counted 10 = .ok (.if_icmp .lt 7, 3) := by decide +kernel
theorem dX11_counted_13 : decode cX11_counted 13 = .ok (.iconst 1, 1) := by decide +kernel
theorem dX11_counted_14 : decode cX11_counted 14 = .ok (.goto 32, 3) := by decide +kernel
theorem dX11_counted_17 : decode cX11_counted 17 = .ok (.iload_n 2, 1) := by decide +kernel
theorem dX11_counted_18 : decode cX11_counted 18 = .ok (.ifCond .lt 11, 3) := by decide +kernel
theorem dX11_counted_21 : decode cX11_counted 21 = .ok (.iload_n 2, 1) := by decide +kernel
theorem dX11_counted_22 : decode cX11_counted 22 = .ok (.aload_n 0, 1) := by decide +kernel
theorem dX11_counted_23 : decode cX11_counted 23 = .ok (.getfield 240, 3) := by decide +kernel
theorem dX11_counted_26 : decode cX11_counted 26 = .ok (.if_icmp .le 7, 3) := by decide +kernel
theorem dX11_counted_29 : decode cX11_counted 29 = .ok (.iconst 2, 1) := by decide +kernel
theorem dX11_counted_30 : decode cX11_counted 30 = .ok (.goto 16, 3) := by decide +kernel
theorem dX11_counted_33 : decode cX11_counted 33 = .ok (.aload_n 0, 1) := by decide +kernel
theorem dX11_counted_34 : decode cX11_counted 34 = .ok (.getfield 231, 3) := by decide +kernel
theorem dX11_counted_37 : decode cX11_counted 37 = .ok (.iconst 4, 1) := by decide +kernel
theorem dX11_counted_38 : decode cX11_counted 38 = .ok (.if_icmp .eq 7, 3) := by decide +kernel
theorem dX11_counted_41 : decode cX11_counted 41 = .ok (.iconst 3, 1) := by decide +kernel
theorem dX11_counted_42 : decode cX11_counted 42 = .ok (.goto 4, 3) := by decide +kernel
theorem dX11_counted_45 : decode cX11_counted 45 = .ok (.iconst 0, 1) := by decide +kernel
theorem dX11_counted_46 : decode cX11_counted 46 = .ok (.putfield 1, 3) := by decide +kernel
theorem dX11_counted_49 : decode cX11_counted 49 = .ok (.aload_n 0, 1) := by decide +kernel
theorem dX11_counted_50 : decode cX11_counted 50 = .ok (.getfield 1, 3) := by decide +kernel
theorem dX11_counted_53 : decode cX11_counted 53 = .ok (.ifCond .le 5, 3) := by decide +kernel
theorem dX11_counted_56 : decode cX11_counted 56 = .ok (.iconst 0, 1) := by decide +kernel
theorem dX11_counted_57 : decode cX11_counted 57 = .ok (.ireturn, 1) := by decide +kernel
theorem dX11_counted_58 : decode cX11_counted 58 = .ok (.aload_n 0, 1) := by decide +kernel
theorem dX11_counted_59 : decode cX11_counted 59 = .ok (.getfield 73, 3) := by decide +kernel
theorem dX11_counted_62 : decode cX11_counted 62 = .ok (.iload_n 1, 1) := by decide +kernel
theorem dX11_counted_63 : decode cX11_counted 63 = .ok (.iload_n 2, 1) := by decide +kernel
theorem dX11_counted_64 : decode cX11_counted 64 = .ok (.iconst 1, 1) := by decide +kernel
theorem dX11_counted_65 : decode cX11_counted 65 = .ok (.iadd, 1) := by decide +kernel
theorem dX11_counted_66 : decode cX11_counted 66 = .ok (.iastore, 1) := by decide +kernel
theorem dX11_counted_67 : decode cX11_counted 67 = .ok (.iconst 0, 1) := by decide +kernel
theorem dX11_counted_68 : decode cX11_counted 68 = .ok (.istore_n 3, 1) := by decide +kernel
theorem dX11_counted_69 : decode cX11_counted 69 = .ok (.iconst 0, 1) := by decide +kernel
theorem dX11_counted_70 : decode cX11_counted 70 = .ok (.istore 4, 2) := by decide +kernel
theorem dX11_counted_72 : decode cX11_counted 72 = .ok (.iload 4, 2) := by decide +kernel
theorem dX11_counted_74 : decode cX11_counted 74 = .ok (.aload_n 0, 1) := by decide +kernel
theorem dX11_counted_75 : decode cX11_counted 75 = .ok (.getfield 234, 3) := by decide +kernel
theorem dX11_counted_78 : decode cX11_counted 78 = .ok (.if_icmp .ge 27, 3) := by decide +kernel
theorem dX11_counted_81 : decode cX11_counted 81 = .ok (.iload_n 3, 1) := by decide +kernel
theorem dX11_counted_82 : decode cX11_counted 82 = .ok (.aload_n 0, 1) := by decide +kernel
theorem dX11_counted_83 : decode cX11_counted 83 = .ok (.getfield 73, 3) := by decide +kernel
theorem dX11_counted_86 : decode cX11_counted 86 = .ok (.iload 4, 2) := by decide +kernel
theorem dX11_counted_88 : decode cX11_counted 88 = .ok (.iaload, 1) := by decide +kernel
theorem dX11_counted_89 : decode cX11_counted 89 = .ok (.ifCond .le 7, 3) := by decide +kernel
theorem dX11_counted_92 : decode cX11_counted 92 = .ok (.iconst 1, 1) := by decide +kernel
theorem dX11_counted_93 : decode cX11_counted 93 = .ok (.goto 4, 3) := by decide +kernel
theorem dX11_counted_96 : decode cX11_counted 96 = .ok (.iconst 0, 1) := by decide +kernel
theorem dX11_counted_97 : decode cX11_counted 97 = .ok (.iadd, 1) := by decide +kernel
theorem dX11_counted_98 : decode cX11_counted 98 = .ok (.istore_n 3, 1) := by decide +kernel
theorem dX11_counted_99 : decode cX11_counted 99 = .ok (.iinc 4 1, 3) := by decide +kernel
theorem dX11_counted_102 : decode cX11_counted 102 = .ok (.goto (-30), 3) := by decide +kernel
theorem dX11_counted_105 : decode cX11_counted 105 = .ok (.iload_n 3, 1) := by decide +kernel
theorem dX11_counted_106 : decode cX11_counted 106 = .ok (.aload_n 0, 1) := by decide +kernel
theorem dX11_counted_107 : decode cX11_counted 107 = .ok (.getfield 234, 3) := by decide +kernel
theorem dX11_counted_110 : decode cX11_counted 110 = .ok (.if_icmp .ne 74, 3) := by decide +kernel
theorem dX11_counted_113 : decode cX11_counted 113 = .ok (.aload_n 0, 1) := by decide +kernel
theorem dX11_counted_114 : decode cX11_counted 114 = .ok (.iconst 5, 1) := by decide +kernel
theorem dX11_counted_115 : decode cX11_counted 115 = .ok (.putfield 231, 3) := by decide +kernel
theorem dX11_counted_118 : decode cX11_counted 118 = .ok (.aload_n 0, 1) := by decide +kernel
theorem dX11_counted_119 : decode cX11_counted 119 = .ok (.iconst 1, 1) := by decide +kernel
theorem dX11_counted_120 : decode cX11_counted 120 = .ok (.putfield 311, 3) := by decide +kernel
theorem dX11_counted_123 : decode cX11_counted 123 = .ok (.iconst 0, 1) := by decide +kernel
theorem dX11_counted_124 : decode cX11_counted 124 = .ok (.istore 4, 2) := by decide +kernel
theorem dX11_counted_126 : decode cX11_counted 126 = .ok (.iload 4, 2) := by decide +kernel
theorem dX11_counted_128 : decode cX11_counted 128 = .ok (.aload_n 0, 1) := by decide +kernel
theorem dX11_counted_129 : decode cX11_counted 129 = .ok (.getfield 250, 3) := by decide +kernel
theorem dX11_counted_132 : decode cX11_counted 132 = .ok (.if_icmp .ge 52, 3) := by decide +kernel
theorem dX11_counted_135 : decode cX11_counted 135 = .ok (.aload_n 0, 1) := by decide +kernel
theorem dX11_counted_136 : decode cX11_counted 136 = .ok (.aload_n 0, 1) := by decide +kernel
theorem dX11_counted_137 : decode cX11_counted 137 = .ok (.getfield 311, 3) := by decide +kernel
theorem dX11_counted_140 : decode cX11_counted 140 = .ok (.ifCond .eq 34, 3) := by decide +kernel
theorem dX11_counted_143 : decode cX11_counted 143 = .ok (.aload_n 0, 1) := by decide +kernel
theorem dX11_counted_144 : decode cX11_counted 144 = .ok (.getfield 73, 3) := by decide +kernel
theorem dX11_counted_147 : decode cX11_counted 147 = .ok (.aload_n 0, 1) := by decide +kernel
theorem dX11_counted_148 : decode cX11_counted 148 = .ok (.getfield 52, 3) := by decide +kernel
theorem dX11_counted_151 : decode cX11_counted 151 = .ok (.iload 4, 2) := by decide +kernel
theorem dX11_counted_153 : decode cX11_counted 153 = .ok (.iaload, 1) := by decide +kernel
theorem dX11_counted_154 : decode cX11_counted 154 = .ok (.iaload, 1) := by decide +kernel
theorem dX11_counted_155 : decode cX11_counted 155 = .ok (.aload_n 0, 1) := by decide +kernel
theorem dX11_counted_156 : decode cX11_counted 156 = .ok (.getfield 73, 3) := by decide +kernel
theorem dX11_counted_159 : decode cX11_counted 159 = .ok (.aload_n 0, 1) := by decide +kernel
theorem dX11_counted_160 : decode cX11_counted 160 = .ok (.getfield 55, 3) := by decide +kernel
theorem dX11_counted_163 : decode cX11_counted 163 = .ok (.iload 4, 2) := by decide +kernel
theorem dX11_counted_165 : decode cX11_counted 165 = .ok (.iaload, 1) := by decide +kernel
theorem dX11_counted_166 : decode cX11_counted 166 = .ok (.iaload, 1) := by decide +kernel
theorem dX11_counted_167 : decode cX11_counted 167 = .ok (.if_icmp .le 7, 3) := by decide +kernel
theorem dX11_counted_170 : decode cX11_counted 170 = .ok (.iconst 1, 1) := by decide +kernel
theorem dX11_counted_171 : decode cX11_counted 171 = .ok (.goto 4, 3) := by decide +kernel
theorem dX11_counted_174 : decode cX11_counted 174 = .ok (.iconst 0, 1) := by decide +kernel
theorem dX11_counted_175 : decode cX11_counted 175 = .ok (.putfield 311, 3) := by decide +kernel
theorem dX11_counted_178 : decode cX11_counted 178 = .ok (.iinc 4 1, 3) := by decide +kernel
theorem dX11_counted_181 : decode cX11_counted 181 = .ok (.goto (-55), 3) := by decide +kernel
theorem dX11_counted_184 : decode cX11_counted 184 = .ok (.iload_n 3, 1) := by decide +kernel
theorem dX11_counted_185 : decode cX11_counted 185 = .ok (.ireturn, 1) := by decide +kernel
theorem dX11_again_0 : decode cX11_again 0 = .ok (.aload_n 0, 1) := by decide +kernel
theorem dX11_again_1 : decode cX11_again 1 = .ok (.iconst 0, 1) := by decide +kernel
theorem dX11_again_2 : decode cX11_again 2 = .ok (.putfield 1, 3) := by decide +kernel
theorem dX11_again_5 : decode cX11_again 5 = .ok (.aload_n 0, 1) := by decide +kernel
theorem dX11_again_6 : decode cX11_again 6 = .ok (.iconst 0, 1) := by decide +kernel
theorem dX11_again_7 : decode cX11_again 7 = .ok (.putfield 231, 3) := by decide +kernel
theorem dX11_again_10 : decode cX11_again 10 = .ok (.aload_n 0, 1) := by decide +kernel
theorem dX11_again_11 : decode cX11_again 11 = .ok (.iconst 0, 1) := by decide +kernel
theorem dX11_again_12 : decode cX11_again 12 = .ok (.putfield 250, 3) := by decide +kernel
theorem dX11_again_15 : decode cX11_again 15 = .ok (.iconst 0, 1) := by decide +kernel
theorem dX11_again_16 : decode cX11_again 16 = .ok (.istore_n 1, 1) := by decide +kernel
theorem dX11_again_17 : decode cX11_again 17 = .ok (.iload_n 1, 1) := by decide +kernel
theorem dX11_again_18 : decode cX11_again 18 = .ok (.bipush 8, 2) := by decide +kernel
theorem dX11_again_20 : decode cX11_again 20 = .ok (.if_icmp .ge 30, 3) := by decide +kernel
theorem dX11_again_23 : decode cX11_again 23 = .ok (.aload_n 0, 1) := by decide +kernel
theorem dX11_again_24 : decode cX11_again 24 = .ok (.getfield 48, 3) := by decide +kernel
theorem dX11_again_27 : decode cX11_again 27 = .ok (.iload_n 1, 1) := by decide +kernel
theorem dX11_again_28 : decode cX11_again 28 = .ok (.iconst 0, 1) := by decide +kernel
theorem dX11_again_29 : decode cX11_again 29 = .ok (.bastore, 1) := by decide +kernel
theorem dX11_again_30 : decode cX11_again 30 = .ok (.aload_n 0, 1) := by decide +kernel
theorem dX11_again_31 : decode cX11_again 31 = .ok (.getfield 61, 3) := by decide +kernel
theorem dX11_again_34 : decode cX11_again 34 = .ok (.iload_n 1, 1) := by decide +kernel
theorem dX11_again_35 : decode cX11_again 35 = .ok (.iconst 0, 1) := by decide +kernel
theorem dX11_again_36 : decode cX11_again 36 = .ok (.iastore, 1) := by decide +kernel
theorem dX11_again_37 : decode cX11_again 37 = .ok (.aload_n 0, 1) := by decide +kernel
theorem dX11_again_38 : decode cX11_again 38 = .ok (.getfield 73, 3) := by decide +kernel
theorem dX11_again_41 : decode cX11_again 41 = .ok (.iload_n 1, 1) := by decide +kernel
theorem dX11_again_42 : decode cX11_again 42 = .ok (.iconst 0, 1) := by decide +kernel
theorem dX11_again_43 : decode cX11_again 43 = .ok (.iastore, 1) := by decide +kernel
theorem dX11_again_44 : decode cX11_again 44 = .ok (.iinc 1 1, 3) := by decide +kernel
theorem dX11_again_47 : decode cX11_again 47 = .ok (.goto (-30), 3) := by decide +kernel
theorem dX11_again_50 : decode cX11_again 50 = .ok (.iconst 0, 1) := by decide +kernel
theorem dX11_again_51 : decode cX11_again 51 = .ok (.istore_n 1, 1) := by decide +kernel
theorem dX11_again_52 : decode cX11_again 52 = .ok (.iload_n 1, 1) := by decide +kernel
theorem dX11_again_53 : decode cX11_again 53 = .ok (.aload_n 0, 1) := by decide +kernel
theorem dX11_again_54 : decode cX11_again 54 = .ok (.getfield 240, 3) := by decide +kernel
theorem dX11_again_57 : decode cX11_again 57 = .ok (.if_icmp .ge 24, 3) := by decide +kernel
theorem dX11_again_60 : decode cX11_again 60 = .ok (.aload_n 0, 1) := by decide +kernel
theorem dX11_again_61 : decode cX11_again 61 = .ok (.getfield 64, 3) := by decide +kernel
theorem dX11_again_64 : decode cX11_again 64 = .ok (.iload_n 1, 1) := by decide +kernel
theorem dX11_again_65 : decode cX11_again 65 = .ok (.bipush (-2), 2) := by decide +kernel
theorem dX11_again_67 : decode cX11_again 67 = .ok (.bastore, 1) := by decide +kernel
theorem dX11_again_68 : decode cX11_again 68 = .ok (.aload_n 0, 1) := by decide +kernel
theorem dX11_again_69 : decode cX11_again 69 = .ok (.getfield 67, 3) := by decide +kernel
theorem dX11_again_72 : decode cX11_again 72 = .ok (.iload_n 1, 1) := by decide +kernel
theorem dX11_again_73 : decode cX11_again 73 = .ok (.iconst 0, 1) := by decide +kernel
theorem dX11_again_74 : decode cX11_again 74 = .ok (.iastore, 1) := by decide +kernel
theorem dX11_again_75 : decode cX11_again 75 = .ok (.iinc 1 1, 3) := by decide +kernel
theorem dX11_again_78 : decode cX11_again 78 = .ok (.goto (-26), 3) := by decide +kernel
theorem dX11_again_81 : decode cX11_again 81 = .ok (.aload_n 0, 1) := by decide +kernel
theorem dX11_again_82 : decode cX11_again 82 = .ok (.iconst 0, 1) := by decide +kernel
theorem dX11_again_83 : decode cX11_again 83 = .ok (.putfield 288, 3) := by decide +kernel
theorem dX11_again_86 : decode cX11_again 86 = .ok (.aload_n 0, 1) := by decide +kernel
theorem dX11_again_87 : decode cX11_again 87 = .ok (.iconst 0, 1) := by decide +kernel
theorem dX11_again_88 : decode cX11_again 88 = .ok (.putfield 308, 3) := by decide +kernel
theorem dX11_again_91 : decode cX11_again 91 = .ok (.aload_n 0, 1) := by decide +kernel
theorem dX11_again_92 : decode cX11_again 92 = .ok (.iconst 0, 1) := by decide +kernel
theorem dX11_again_93 : decode cX11_again 93 = .ok (.putfield 302, 3) := by decide +kernel
theorem dX11_again_96 : decode cX11_again 96 = .ok (.aload_n 0, 1) := by decide +kernel
theorem dX11_again_97 : decode cX11_again 97 = .ok (.iconst (-1), 1) := by decide +kernel
theorem dX11_again_98 : decode cX11_again 98 = .ok (.putfield 70, 3) := by decide +kernel
theorem dX11_again_101 : decode cX11_again 101 = .ok (.aload_n 0, 1) := by decide +kernel
theorem dX11_again_102 : decode cX11_again 102 = .ok (.iconst 0, 1) := by decide +kernel
theorem dX11_again_103 : decode cX11_again 103 = .ok (.putfield 311, 3) := by decide +kernel
theorem dX11_again_106 : decode cX11_again 106 = .ok (.aload_n 0, 1) := by decide +kernel
theorem dX11_again_107 : decode cX11_again 107 = .ok (.iconst 0, 1) := by decide +kernel
theorem dX11_again_108 : decode cX11_again 108 = .ok (.putfield 247, 3) := by decide +kernel
theorem dX11_again_111 : decode cX11_again 111 = .ok (.return_, 1) := by decide +kernel
theorem dX11_told_0 : decode cX11_told 0 = .ok (.aload_n 0, 1) := by decide +kernel
theorem dX11_told_1 : decode cX11_told 1 = .ok (.iload_n 1, 1) := by decide +kernel
theorem dX11_told_2 : decode cX11_told 2 = .ok (.ifCond .lt 9, 3) := by decide +kernel
theorem dX11_told_5 : decode cX11_told 5 = .ok (.iload_n 1, 1) := by decide +kernel
theorem dX11_told_6 : decode cX11_told 6 = .ok (.bipush 12, 2) := by decide +kernel
theorem dX11_told_8 : decode cX11_told 8 = .ok (.if_icmp .le 7, 3) := by decide +kernel
theorem dX11_told_11 : decode cX11_told 11 = .ok (.iconst 1, 1) := by decide +kernel
theorem dX11_told_12 : decode cX11_told 12 = .ok (.goto 4, 3) := by decide +kernel
theorem dX11_told_15 : decode cX11_told 15 = .ok (.iconst 0, 1) := by decide +kernel
theorem dX11_told_16 : decode cX11_told 16 = .ok (.putfield 1, 3) := by decide +kernel
theorem dX11_told_19 : decode cX11_told 19 = .ok (.iconst 0, 1) := by decide +kernel
theorem dX11_told_20 : decode cX11_told 20 = .ok (.istore_n 2, 1) := by decide +kernel
theorem dX11_told_21 : decode cX11_told 21 = .ok (.iconst 0, 1) := by decide +kernel
theorem dX11_told_22 : decode cX11_told 22 = .ok (.istore_n 3, 1) := by decide +kernel
theorem dX11_told_23 : decode cX11_told 23 = .ok (.iload_n 3, 1) := by decide +kernel
theorem dX11_told_24 : decode cX11_told 24 = .ok (.aload_n 0, 1) := by decide +kernel
theorem dX11_told_25 : decode cX11_told 25 = .ok (.getfield 250, 3) := by decide +kernel
theorem dX11_told_28 : decode cX11_told 28 = .ok (.if_icmp .ge 27, 3) := by decide +kernel
theorem dX11_told_31 : decode cX11_told 31 = .ok (.iload_n 2, 1) := by decide +kernel
theorem dX11_told_32 : decode cX11_told 32 = .ok (.aload_n 0, 1) := by decide +kernel
theorem dX11_told_33 : decode cX11_told 33 = .ok (.getfield 58, 3) := by decide +kernel
theorem dX11_told_36 : decode cX11_told 36 = .ok (.iload_n 3, 1) := by decide +kernel
theorem dX11_told_37 : decode cX11_told 37 = .ok (.iaload, 1) := by decide +kernel
theorem dX11_told_38 : decode cX11_told 38 = .ok (.iconst (-1), 1) := by decide +kernel
theorem dX11_told_39 : decode cX11_told 39 = .ok (.if_icmp .eq 7, 3) := by decide +kernel
theorem dX11_told_42 : decode cX11_told 42 = .ok (.iconst 1, 1) := by decide +kernel
theorem dX11_told_43 : decode cX11_told 43 = .ok (.goto 4, 3) := by decide +kernel
theorem dX11_told_46 : decode cX11_told 46 = .ok (.iconst 0, 1) := by decide +kernel
theorem dX11_told_47 : decode cX11_told 47 = .ok (.iadd, 1) := by decide +kernel
theorem dX11_told_48 : decode cX11_told 48 = .ok (.istore_n 2, 1) := by decide +kernel
theorem dX11_told_49 : decode cX11_told 49 = .ok (.iinc 3 1, 3) := by decide +kernel
theorem dX11_told_52 : decode cX11_told 52 = .ok (.goto (-29), 3) := by decide +kernel
theorem dX11_told_55 : decode cX11_told 55 = .ok (.aload_n 0, 1) := by decide +kernel
theorem dX11_told_56 : decode cX11_told 56 = .ok (.getfield 1, 3) := by decide +kernel
theorem dX11_told_59 : decode cX11_told 59 = .ok (.ifCond .le 8, 3) := by decide +kernel
theorem dX11_told_62 : decode cX11_told 62 = .ok (.bipush 99, 2) := by decide +kernel
theorem dX11_told_64 : decode cX11_told 64 = .ok (.goto 4, 3) := by decide +kernel
theorem dX11_told_67 : decode cX11_told 67 = .ok (.iload_n 1, 1) := by decide +kernel
theorem dX11_told_68 : decode cX11_told 68 = .ok (.tableswitch 138 0 12 #[68, 73, 78, 83, 88, 93, 98, 103, 108, 113, 115, 120, 125], 68) := by decide +kernel
theorem dX11_told_136 : decode cX11_told 136 = .ok (.aload_n 0, 1) := by decide +kernel
theorem dX11_told_137 : decode cX11_told 137 = .ok (.getfield 231, 3) := by decide +kernel
theorem dX11_told_140 : decode cX11_told 140 = .ok (.ireturn, 1) := by decide +kernel
theorem dX11_told_141 : decode cX11_told 141 = .ok (.aload_n 0, 1) := by decide +kernel
theorem dX11_told_142 : decode cX11_told 142 = .ok (.getfield 234, 3) := by decide +kernel
theorem dX11_told_145 : decode cX11_told 145 = .ok (.ireturn, 1) := by decide +kernel
theorem dX11_told_146 : decode cX11_told 146 = .ok (.aload_n 0, 1) := by decide +kernel
theorem dX11_told_147 : decode cX11_told 147 = .ok (.getfield 237, 3) := by decide +kernel
theorem dX11_told_150 : decode cX11_told 150 = .ok (.ireturn, 1) := by decide +kernel
theorem dX11_told_151 : decode cX11_told 151 = .ok (.aload_n 0, 1) := by decide +kernel
theorem dX11_told_152 : decode cX11_told 152 = .ok (.getfield 240, 3) := by decide +kernel
theorem dX11_told_155 : decode cX11_told 155 = .ok (.ireturn, 1) := by decide +kernel
theorem dX11_told_156 : decode cX11_told 156 = .ok (.aload_n 0, 1) := by decide +kernel
theorem dX11_told_157 : decode cX11_told 157 = .ok (.getfield 288, 3) := by decide +kernel
theorem dX11_told_160 : decode cX11_told 160 = .ok (.ireturn, 1) := by decide +kernel
theorem dX11_told_161 : decode cX11_told 161 = .ok (.aload_n 0, 1) := by decide +kernel
theorem dX11_told_162 : decode cX11_told 162 = .ok (.getfield 308, 3) := by decide +kernel
theorem dX11_told_165 : decode cX11_told 165 = .ok (.ireturn, 1) := by decide +kernel
theorem dX11_told_166 : decode cX11_told 166 = .ok (.aload_n 0, 1) := by decide +kernel
theorem dX11_told_167 : decode cX11_told 167 = .ok (.getfield 302, 3) := by decide +kernel
theorem dX11_told_170 : decode cX11_told 170 = .ok (.ireturn, 1) := by decide +kernel
theorem dX11_told_171 : decode cX11_told 171 = .ok (.aload_n 0, 1) := by decide +kernel
theorem dX11_told_172 : decode cX11_told 172 = .ok (.getfield 247, 3) := by decide +kernel
theorem dX11_told_175 : decode cX11_told 175 = .ok (.ireturn, 1) := by decide +kernel
theorem dX11_told_176 : decode cX11_told 176 = .ok (.aload_n 0, 1) := by decide +kernel
theorem dX11_told_177 : decode cX11_told 177 = .ok (.getfield 250, 3) := by decide +kernel
theorem dX11_told_180 : decode cX11_told 180 = .ok (.ireturn, 1) := by decide +kernel
theorem dX11_told_181 : decode cX11_told 181 = .ok (.iload_n 2, 1) := by decide +kernel
theorem dX11_told_182 : decode cX11_told 182 = .ok (.ireturn, 1) := by decide +kernel
theorem dX11_told_183 : decode cX11_told 183 = .ok (.aload_n 0, 1) := by decide +kernel
theorem dX11_told_184 : decode cX11_told 184 = .ok (.getfield 70, 3) := by decide +kernel
theorem dX11_told_187 : decode cX11_told 187 = .ok (.ireturn, 1) := by decide +kernel
theorem dX11_told_188 : decode cX11_told 188 = .ok (.aload_n 0, 1) := by decide +kernel
theorem dX11_told_189 : decode cX11_told 189 = .ok (.invokevirtual 296, 3) := by decide +kernel
theorem dX11_told_192 : decode cX11_told 192 = .ok (.ireturn, 1) := by decide +kernel
theorem dX11_told_193 : decode cX11_told 193 = .ok (.aload_n 0, 1) := by decide +kernel
theorem dX11_told_194 : decode cX11_told 194 = .ok (.getfield 311, 3) := by decide +kernel
theorem dX11_told_197 : decode cX11_told 197 = .ok (.ifCond .eq 7, 3) := by decide +kernel
theorem dX11_told_200 : decode cX11_told 200 = .ok (.iconst 1, 1) := by decide +kernel
theorem dX11_told_201 : decode cX11_told 201 = .ok (.goto 4, 3) := by decide +kernel
theorem dX11_told_204 : decode cX11_told 204 = .ok (.iconst 0, 1) := by decide +kernel
theorem dX11_told_205 : decode cX11_told 205 = .ok (.ireturn, 1) := by decide +kernel
theorem dX11_told_206 : decode cX11_told 206 = .ok (.iconst 0, 1) := by decide +kernel
theorem dX11_told_207 : decode cX11_told 207 = .ok (.ireturn, 1) := by decide +kernel
theorem dX11_of_0 : decode cX11_of 0 = .ok (.aload_n 0, 1) := by decide +kernel
theorem dX11_of_1 : decode cX11_of 1 = .ok (.iload_n 1, 1) := by decide +kernel
theorem dX11_of_2 : decode cX11_of 2 = .ok (.ifCond .lt 20, 3) := by decide +kernel
theorem dX11_of_5 : decode cX11_of 5 = .ok (.iload_n 1, 1) := by decide +kernel
theorem dX11_of_6 : decode cX11_of 6 = .ok (.aload_n 0, 1) := by decide +kernel
theorem dX11_of_7 : decode cX11_of 7 = .ok (.getfield 234, 3) := by decide +kernel
theorem dX11_of_10 : decode cX11_of 10 = .ok (.if_icmp .ge 12, 3) := by decide +kernel
theorem dX11_of_13 : decode cX11_of 13 = .ok (.iload_n 2, 1) := by decide +kernel
theorem dX11_of_14 : decode cX11_of 14 = .ok (.ifCond .lt 8, 3) := by decide +kernel
theorem dX11_of_17 : decode cX11_of 17 = .ok (.iload_n 2, 1) := by decide +kernel
theorem dX11_of_18 : decode cX11_of 18 = .ok (.iconst 3, 1) := by decide +kernel
theorem dX11_of_19 : decode cX11_of 19 = .ok (.if_icmp .le 7, 3) := by decide +kernel
theorem dX11_of_22 : decode cX11_of 22 = .ok (.iconst 1, 1) := by decide +kernel
theorem dX11_of_23 : decode cX11_of 23 = .ok (.goto 4, 3) := by decide +kernel
theorem dX11_of_26 : decode cX11_of 26 = .ok (.iconst 0, 1) := by decide +kernel
theorem dX11_of_27 : decode cX11_of 27 = .ok (.putfield 1, 3) := by decide +kernel
theorem dX11_of_30 : decode cX11_of 30 = .ok (.aload_n 0, 1) := by decide +kernel
theorem dX11_of_31 : decode cX11_of 31 = .ok (.getfield 1, 3) := by decide +kernel
theorem dX11_of_34 : decode cX11_of 34 = .ok (.ifCond .le 7, 3) := by decide +kernel
theorem dX11_of_37 : decode cX11_of 37 = .ok (.iconst 0, 1) := by decide +kernel
theorem dX11_of_38 : decode cX11_of 38 = .ok (.goto 67, 3) := by decide +kernel
theorem dX11_of_41 : decode cX11_of 41 = .ok (.iload_n 2, 1) := by decide +kernel
theorem dX11_of_42 : decode cX11_of 42 = .ok (.ifCond .ne 12, 3) := by decide +kernel
theorem dX11_of_45 : decode cX11_of 45 = .ok (.aload_n 0, 1) := by decide +kernel
theorem dX11_of_46 : decode cX11_of 46 = .ok (.getfield 13, 3) := by decide +kernel
theorem dX11_of_49 : decode cX11_of 49 = .ok (.iload_n 1, 1) := by decide +kernel
theorem dX11_of_50 : decode cX11_of 50 = .ok (.iaload, 1) := by decide +kernel
theorem dX11_of_51 : decode cX11_of 51 = .ok (.goto 54, 3) := by decide +kernel
theorem dX11_of_54 : decode cX11_of 54 = .ok (.iload_n 2, 1) := by decide +kernel
theorem dX11_of_55 : decode cX11_of 55 = .ok (.iconst 1, 1) := by decide +kernel
theorem dX11_of_56 : decode cX11_of 56 = .ok (.if_icmp .ne 27, 3) := by decide +kernel
theorem dX11_of_59 : decode cX11_of 59 = .ok (.aload_n 0, 1) := by decide +kernel
theorem dX11_of_60 : decode cX11_of 60 = .ok (.getfield 48, 3) := by decide +kernel
theorem dX11_of_63 : decode cX11_of 63 = .ok (.iload_n 1, 1) := by decide +kernel
theorem dX11_of_64 : decode cX11_of 64 = .ok (.baload, 1) := by decide +kernel
theorem dX11_of_65 : decode cX11_of 65 = .ok (.ifCond .eq 14, 3) := by decide +kernel
theorem dX11_of_68 : decode cX11_of 68 = .ok (.aload_n 0, 1) := by decide +kernel
theorem dX11_of_69 : decode cX11_of 69 = .ok (.getfield 231, 3) := by decide +kernel
theorem dX11_of_72 : decode cX11_of 72 = .ok (.ifCond .eq 7, 3) := by decide +kernel
theorem dX11_of_75 : decode cX11_of 75 = .ok (.iconst 1, 1) := by decide +kernel
theorem dX11_of_76 : decode cX11_of 76 = .ok (.goto 29, 3) := by decide +kernel
theorem dX11_of_79 : decode cX11_of 79 = .ok (.iconst 0, 1) := by decide +kernel
theorem dX11_of_80 : decode cX11_of 80 = .ok (.goto 25, 3) := by decide +kernel
theorem dX11_of_83 : decode cX11_of 83 = .ok (.iload_n 2, 1) := by decide +kernel
theorem dX11_of_84 : decode cX11_of 84 = .ok (.iconst 2, 1) := by decide +kernel
theorem dX11_of_85 : decode cX11_of 85 = .ok (.if_icmp .ne 12, 3) := by decide +kernel
theorem dX11_of_88 : decode cX11_of 88 = .ok (.aload_n 0, 1) := by decide +kernel
theorem dX11_of_89 : decode cX11_of 89 = .ok (.getfield 61, 3) := by decide +kernel
theorem dX11_of_92 : decode cX11_of 92 = .ok (.iload_n 1, 1) := by decide +kernel
theorem dX11_of_93 : decode cX11_of 93 = .ok (.iaload, 1) := by decide +kernel
theorem dX11_of_94 : decode cX11_of 94 = .ok (.goto 11, 3) := by decide +kernel
theorem dX11_of_97 : decode cX11_of 97 = .ok (.aload_n 0, 1) := by decide +kernel
theorem dX11_of_98 : decode cX11_of 98 = .ok (.getfield 73, 3) := by decide +kernel
theorem dX11_of_101 : decode cX11_of 101 = .ok (.iload_n 1, 1) := by decide +kernel
theorem dX11_of_102 : decode cX11_of 102 = .ok (.iaload, 1) := by decide +kernel
theorem dX11_of_103 : decode cX11_of 103 = .ok (.iconst 1, 1) := by decide +kernel
theorem dX11_of_104 : decode cX11_of 104 = .ok (.isub, 1) := by decide +kernel
theorem dX11_of_105 : decode cX11_of 105 = .ok (.ireturn, 1) := by decide +kernel
theorem dX11_pair_0 : decode cX11_pair 0 = .ok (.aload_n 0, 1) := by decide +kernel
theorem dX11_pair_1 : decode cX11_pair 1 = .ok (.iload_n 1, 1) := by decide +kernel
theorem dX11_pair_2 : decode cX11_pair 2 = .ok (.ifCond .lt 20, 3) := by decide +kernel
theorem dX11_pair_5 : decode cX11_pair 5 = .ok (.iload_n 1, 1) := by decide +kernel
theorem dX11_pair_6 : decode cX11_pair 6 = .ok (.aload_n 0, 1) := by decide +kernel
theorem dX11_pair_7 : decode cX11_pair 7 = .ok (.getfield 250, 3) := by decide +kernel
theorem dX11_pair_10 : decode cX11_pair 10 = .ok (.if_icmp .ge 12, 3) := by decide +kernel
theorem dX11_pair_13 : decode cX11_pair 13 = .ok (.iload_n 2, 1) := by decide +kernel
theorem dX11_pair_14 : decode cX11_pair 14 = .ok (.ifCond .lt 8, 3) := by decide +kernel
theorem dX11_pair_17 : decode cX11_pair 17 = .ok (.iload_n 2, 1) := by decide +kernel
theorem dX11_pair_18 : decode cX11_pair 18 = .ok (.iconst 2, 1) := by decide +kernel
theorem dX11_pair_19 : decode cX11_pair 19 = .ok (.if_icmp .le 7, 3) := by decide +kernel
theorem dX11_pair_22 : decode cX11_pair 22 = .ok (.iconst 1, 1) := by decide +kernel
theorem dX11_pair_23 : decode cX11_pair 23 = .ok (.goto 4, 3) := by decide +kernel
theorem dX11_pair_26 : decode cX11_pair 26 = .ok (.iconst 0, 1) := by decide +kernel
theorem dX11_pair_27 : decode cX11_pair 27 = .ok (.putfield 1, 3) := by decide +kernel
theorem dX11_pair_30 : decode cX11_pair 30 = .ok (.aload_n 0, 1) := by decide +kernel
theorem dX11_pair_31 : decode cX11_pair 31 = .ok (.getfield 1, 3) := by decide +kernel
theorem dX11_pair_34 : decode cX11_pair 34 = .ok (.ifCond .le 7, 3) := by decide +kernel
theorem dX11_pair_37 : decode cX11_pair 37 = .ok (.iconst 0, 1) := by decide +kernel
theorem dX11_pair_38 : decode cX11_pair 38 = .ok (.goto 36, 3) := by decide +kernel
theorem dX11_pair_41 : decode cX11_pair 41 = .ok (.iload_n 2, 1) := by decide +kernel
theorem dX11_pair_42 : decode cX11_pair 42 = .ok (.ifCond .ne 12, 3) := by decide +kernel
theorem dX11_pair_45 : decode cX11_pair 45 = .ok (.aload_n 0, 1) := by decide +kernel
theorem dX11_pair_46 : decode cX11_pair 46 = .ok (.getfield 52, 3) := by decide +kernel
theorem dX11_pair_49 : decode cX11_pair 49 = .ok (.iload_n 1, 1) := by decide +kernel
theorem dX11_pair_50 : decode cX11_pair 50 = .ok (.iaload, 1) := by decide +kernel
theorem dX11_pair_51 : decode cX11_pair 51 = .ok (.goto 23, 3) := by decide +kernel
theorem dX11_pair_54 : decode cX11_pair 54 = .ok (.iload_n 2, 1) := by decide +kernel
theorem dX11_pair_55 : decode cX11_pair 55 = .ok (.iconst 1, 1) := by decide +kernel
theorem dX11_pair_56 : decode cX11_pair 56 = .ok (.if_icmp .ne 12, 3) := by decide +kernel
theorem dX11_pair_59 : decode cX11_pair 59 = .ok (.aload_n 0, 1) := by decide +kernel
theorem dX11_pair_60 : decode cX11_pair 60 = .ok (.getfield 55, 3) := by decide +kernel
theorem dX11_pair_63 : decode cX11_pair 63 = .ok (.iload_n 1, 1) := by decide +kernel
theorem dX11_pair_64 : decode cX11_pair 64 = .ok (.iaload, 1) := by decide +kernel
theorem dX11_pair_65 : decode cX11_pair 65 = .ok (.goto 9, 3) := by decide +kernel
theorem dX11_pair_68 : decode cX11_pair 68 = .ok (.aload_n 0, 1) := by decide +kernel
theorem dX11_pair_69 : decode cX11_pair 69 = .ok (.getfield 58, 3) := by decide +kernel
theorem dX11_pair_72 : decode cX11_pair 72 = .ok (.iload_n 1, 1) := by decide +kernel
theorem dX11_pair_73 : decode cX11_pair 73 = .ok (.iaload, 1) := by decide +kernel
theorem dX11_pair_74 : decode cX11_pair 74 = .ok (.ireturn, 1) := by decide +kernel
theorem dX11_ballot_0 : decode cX11_ballot 0 = .ok (.aload_n 0, 1) := by decide +kernel
theorem dX11_ballot_1 : decode cX11_ballot 1 = .ok (.iload_n 1, 1) := by decide +kernel
theorem dX11_ballot_2 : decode cX11_ballot 2 = .ok (.ifCond .lt 20, 3) := by decide +kernel
theorem dX11_ballot_5 : decode cX11_ballot 5 = .ok (.iload_n 1, 1) := by decide +kernel
theorem dX11_ballot_6 : decode cX11_ballot 6 = .ok (.aload_n 0, 1) := by decide +kernel
theorem dX11_ballot_7 : decode cX11_ballot 7 = .ok (.getfield 240, 3) := by decide +kernel
theorem dX11_ballot_10 : decode cX11_ballot 10 = .ok (.if_icmp .ge 12, 3) := by decide +kernel
theorem dX11_ballot_13 : decode cX11_ballot 13 = .ok (.iload_n 2, 1) := by decide +kernel
theorem dX11_ballot_14 : decode cX11_ballot 14 = .ok (.ifCond .lt 8, 3) := by decide +kernel
theorem dX11_ballot_17 : decode cX11_ballot 17 = .ok (.iload_n 2, 1) := by decide +kernel
theorem dX11_ballot_18 : decode cX11_ballot 18 = .ok (.iconst 3, 1) := by decide +kernel
theorem dX11_ballot_19 : decode cX11_ballot 19 = .ok (.if_icmp .le 7, 3) := by decide +kernel
theorem dX11_ballot_22 : decode cX11_ballot 22 = .ok (.iconst 1, 1) := by decide +kernel
theorem dX11_ballot_23 : decode cX11_ballot 23 = .ok (.goto 4, 3) := by decide +kernel
theorem dX11_ballot_26 : decode cX11_ballot 26 = .ok (.iconst 0, 1) := by decide +kernel
theorem dX11_ballot_27 : decode cX11_ballot 27 = .ok (.putfield 1, 3) := by decide +kernel
theorem dX11_ballot_30 : decode cX11_ballot 30 = .ok (.aload_n 0, 1) := by decide +kernel
theorem dX11_ballot_31 : decode cX11_ballot 31 = .ok (.getfield 1, 3) := by decide +kernel
theorem dX11_ballot_34 : decode cX11_ballot 34 = .ok (.ifCond .le 5, 3) := by decide +kernel
theorem dX11_ballot_37 : decode cX11_ballot 37 = .ok (.iconst 0, 1) := by decide +kernel
theorem dX11_ballot_38 : decode cX11_ballot 38 = .ok (.ireturn, 1) := by decide +kernel
theorem dX11_ballot_39 : decode cX11_ballot 39 = .ok (.iconst 0, 1) := by decide +kernel
theorem dX11_ballot_40 : decode cX11_ballot 40 = .ok (.istore_n 3, 1) := by decide +kernel
theorem dX11_ballot_41 : decode cX11_ballot 41 = .ok (.iload_n 3, 1) := by decide +kernel
theorem dX11_ballot_42 : decode cX11_ballot 42 = .ok (.iconst 1, 1) := by decide +kernel
theorem dX11_ballot_43 : decode cX11_ballot 43 = .ok (.iadd, 1) := by decide +kernel
theorem dX11_ballot_44 : decode cX11_ballot 44 = .ok (.aload_n 0, 1) := by decide +kernel
theorem dX11_ballot_45 : decode cX11_ballot 45 = .ok (.getfield 237, 3) := by decide +kernel
theorem dX11_ballot_48 : decode cX11_ballot 48 = .ok (.if_icmp .ge 21, 3) := by decide +kernel
theorem dX11_ballot_51 : decode cX11_ballot 51 = .ok (.aload_n 0, 1) := by decide +kernel
theorem dX11_ballot_52 : decode cX11_ballot 52 = .ok (.getfield 23, 3) := by decide +kernel
theorem dX11_ballot_55 : decode cX11_ballot 55 = .ok (.iload_n 3, 1) := by decide +kernel
theorem dX11_ballot_56 : decode cX11_ballot 56 = .ok (.iconst 1, 1) := by decide +kernel
theorem dX11_ballot_57 : decode cX11_ballot 57 = .ok (.iadd, 1) := by decide +kernel
theorem dX11_ballot_58 : decode cX11_ballot 58 = .ok (.iaload, 1) := by decide +kernel
theorem dX11_ballot_59 : decode cX11_ballot 59 = .ok (.iload_n 1, 1) := by decide +kernel
theorem dX11_ballot_60 : decode cX11_ballot 60 = .ok (.if_icmp .gt 9, 3) := by decide +kernel
theorem dX11_ballot_63 : decode cX11_ballot 63 = .ok (.iinc 3 1, 3) := by decide +kernel
theorem dX11_ballot_66 : decode cX11_ballot 66 = .ok (.goto (-25), 3) := by decide +kernel
theorem dX11_ballot_69 : decode cX11_ballot 69 = .ok (.iload_n 2, 1) := by decide +kernel
theorem dX11_ballot_70 : decode cX11_ballot 70 = .ok (.ifCond .ne 7, 3) := by decide +kernel
theorem dX11_ballot_73 : decode cX11_ballot 73 = .ok (.iload_n 3, 1) := by decide +kernel
theorem dX11_ballot_74 : decode cX11_ballot 74 = .ok (.goto 37, 3) := by decide +kernel
theorem dX11_ballot_77 : decode cX11_ballot 77 = .ok (.iload_n 2, 1) := by decide +kernel
theorem dX11_ballot_78 : decode cX11_ballot 78 = .ok (.iconst 1, 1) := by decide +kernel
theorem dX11_ballot_79 : decode cX11_ballot 79 = .ok (.if_icmp .ne 12, 3) := by decide +kernel
theorem dX11_ballot_82 : decode cX11_ballot 82 = .ok (.aload_n 0, 1) := by decide +kernel
theorem dX11_ballot_83 : decode cX11_ballot 83 = .ok (.getfield 26, 3) := by decide +kernel
theorem dX11_ballot_86 : decode cX11_ballot 86 = .ok (.iload_n 1, 1) := by decide +kernel
theorem dX11_ballot_87 : decode cX11_ballot 87 = .ok (.baload, 1) := by decide +kernel
theorem dX11_ballot_88 : decode cX11_ballot 88 = .ok (.goto 23, 3) := by decide +kernel
theorem dX11_ballot_91 : decode cX11_ballot 91 = .ok (.iload_n 2, 1) := by decide +kernel
theorem dX11_ballot_92 : decode cX11_ballot 92 = .ok (.iconst 2, 1) := by decide +kernel
theorem dX11_ballot_93 : decode cX11_ballot 93 = .ok (.if_icmp .ne 12, 3) := by decide +kernel
theorem dX11_ballot_96 : decode cX11_ballot 96 = .ok (.aload_n 0, 1) := by decide +kernel
theorem dX11_ballot_97 : decode cX11_ballot 97 = .ok (.getfield 64, 3) := by decide +kernel
theorem dX11_ballot_100 : decode cX11_ballot 100 = .ok (.iload_n 1, 1) := by decide +kernel
theorem dX11_ballot_101 : decode cX11_ballot 101 = .ok (.baload, 1) := by decide +kernel
theorem dX11_ballot_102 : decode cX11_ballot 102 = .ok (.goto 9, 3) := by decide +kernel
theorem dX11_ballot_105 : decode cX11_ballot 105 = .ok (.aload_n 0, 1) := by decide +kernel
theorem dX11_ballot_106 : decode cX11_ballot 106 = .ok (.getfield 67, 3) := by decide +kernel
theorem dX11_ballot_109 : decode cX11_ballot 109 = .ok (.iload_n 1, 1) := by decide +kernel
theorem dX11_ballot_110 : decode cX11_ballot 110 = .ok (.iaload, 1) := by decide +kernel
theorem dX11_ballot_111 : decode cX11_ballot 111 = .ok (.ireturn, 1) := by decide +kernel
theorem dX11_digest_0 : decode cX11_digest 0 = .ok (.aload_n 0, 1) := by decide +kernel
theorem dX11_digest_1 : decode cX11_digest 1 = .ok (.iload_n 2, 1) := by decide +kernel
theorem dX11_digest_2 : decode cX11_digest 2 = .ok (.ifCond .lt 9, 3) := by decide +kernel
theorem dX11_digest_5 : decode cX11_digest 5 = .ok (.iload_n 2, 1) := by decide +kernel
theorem dX11_digest_6 : decode cX11_digest 6 = .ok (.bipush 31, 2) := by decide +kernel
theorem dX11_digest_8 : decode cX11_digest 8 = .ok (.if_icmp .le 7, 3) := by decide +kernel
theorem dX11_digest_11 : decode cX11_digest 11 = .ok (.iconst 1, 1) := by decide +kernel
theorem dX11_digest_12 : decode cX11_digest 12 = .ok (.goto 13, 3) := by decide +kernel
theorem dX11_digest_15 : decode cX11_digest 15 = .ok (.iload_n 1, 1) := by decide +kernel
theorem dX11_digest_16 : decode cX11_digest 16 = .ok (.iconst 1, 1) := by decide +kernel
theorem dX11_digest_17 : decode cX11_digest 17 = .ok (.if_icmp .ge 7, 3) := by decide +kernel
theorem dX11_digest_20 : decode cX11_digest 20 = .ok (.iconst 2, 1) := by decide +kernel
theorem dX11_digest_21 : decode cX11_digest 21 = .ok (.goto 4, 3) := by decide +kernel
theorem dX11_digest_24 : decode cX11_digest 24 = .ok (.iconst 0, 1) := by decide +kernel
theorem dX11_digest_25 : decode cX11_digest 25 = .ok (.putfield 1, 3) := by decide +kernel
theorem dX11_digest_28 : decode cX11_digest 28 = .ok (.aload_n 0, 1) := by decide +kernel
theorem dX11_digest_29 : decode cX11_digest 29 = .ok (.getfield 1, 3) := by decide +kernel
theorem dX11_digest_32 : decode cX11_digest 32 = .ok (.ifCond .le 5, 3) := by decide +kernel
theorem dX11_digest_35 : decode cX11_digest 35 = .ok (.iconst 0, 1) := by decide +kernel
theorem dX11_digest_36 : decode cX11_digest 36 = .ok (.ireturn, 1) := by decide +kernel
theorem dX11_digest_37 : decode cX11_digest 37 = .ok (.aload_n 0, 1) := by decide +kernel
theorem dX11_digest_38 : decode cX11_digest 38 = .ok (.iload_n 1, 1) := by decide +kernel
theorem dX11_digest_39 : decode cX11_digest 39 = .ok (.invokevirtual 291, 3) := by decide +kernel
theorem dX11_digest_42 : decode cX11_digest 42 = .ok (.aload_n 0, 1) := by decide +kernel
theorem dX11_digest_43 : decode cX11_digest 43 = .ok (.getfield 176, 3) := by decide +kernel
theorem dX11_digest_46 : decode cX11_digest 46 = .ok (.iload_n 2, 1) := by decide +kernel
theorem dX11_digest_47 : decode cX11_digest 47 = .ok (.iaload, 1) := by decide +kernel
theorem dX11_digest_48 : decode cX11_digest 48 = .ok (.ireturn, 1) := by decide +kernel
theorem dX11_isSure_0 : decode cX11_isSure 0 = .ok (.aload_n 0, 1) := by decide +kernel
theorem dX11_isSure_1 : decode cX11_isSure 1 = .ok (.iconst 2, 1) := by decide +kernel
theorem dX11_isSure_2 : decode cX11_isSure 2 = .ok (.aload_n 0, 1) := by decide +kernel
theorem dX11_isSure_3 : decode cX11_isSure 3 = .ok (.getfield 30, 3) := by decide +kernel
theorem dX11_isSure_6 : decode cX11_isSure 6 = .ok (.i2l, 1) := by decide +kernel
theorem dX11_isSure_7 : decode cX11_isSure 7 = .ok (.invokevirtual 182, 3) := by decide +kernel
theorem dX11_isSure_10 : decode cX11_isSure 10 = .ok (.aload_n 0, 1) := by decide +kernel
theorem dX11_isSure_11 : decode cX11_isSure 11 = .ok (.iconst 3, 1) := by decide +kernel
theorem dX11_isSure_12 : decode cX11_isSure 12 = .ok (.aload_n 0, 1) := by decide +kernel
theorem dX11_isSure_13 : decode cX11_isSure 13 = .ok (.getfield 33, 3) := by decide +kernel
theorem dX11_isSure_16 : decode cX11_isSure 16 = .ok (.i2l, 1) := by decide +kernel
theorem dX11_isSure_17 : decode cX11_isSure 17 = .ok (.invokevirtual 182, 3) := by decide +kernel
theorem dX11_isSure_20 : decode cX11_isSure 20 = .ok (.aload_n 0, 1) := by decide +kernel
theorem dX11_isSure_21 : decode cX11_isSure 21 = .ok (.iconst 2, 1) := by decide +kernel
theorem dX11_isSure_22 : decode cX11_isSure 22 = .ok (.ldc2_w 268, 3) := by decide +kernel
theorem dX11_isSure_25 : decode cX11_isSure 25 = .ok (.aload_n 0, 1) := by decide +kernel
theorem dX11_isSure_26 : decode cX11_isSure 26 = .ok (.getfield 13, 3) := by decide +kernel
theorem dX11_isSure_29 : decode cX11_isSure 29 = .ok (.aload_n 0, 1) := by decide +kernel
theorem dX11_isSure_30 : decode cX11_isSure 30 = .ok (.getfield 52, 3) := by decide +kernel
theorem dX11_isSure_33 : decode cX11_isSure 33 = .ok (.iload_n 1, 1) := by decide +kernel
theorem dX11_isSure_34 : decode cX11_isSure 34 = .ok (.iaload, 1) := by decide +kernel
theorem dX11_isSure_35 : decode cX11_isSure 35 = .ok (.iaload, 1) := by decide +kernel
theorem dX11_isSure_36 : decode cX11_isSure 36 = .ok (.i2l, 1) := by decide +kernel
theorem dX11_isSure_37 : decode cX11_isSure 37 = .ok (.lmul, 1) := by decide +kernel
theorem dX11_isSure_38 : decode cX11_isSure 38 = .ok (.iload_n 2, 1) := by decide +kernel
theorem dX11_isSure_39 : decode cX11_isSure 39 = .ok (.invokevirtual 270, 3) := by decide +kernel
theorem dX11_isSure_42 : decode cX11_isSure 42 = .ok (.aload_n 0, 1) := by decide +kernel
theorem dX11_isSure_43 : decode cX11_isSure 43 = .ok (.iconst 2, 1) := by decide +kernel
theorem dX11_isSure_44 : decode cX11_isSure 44 = .ok (.ldc2_w 268, 3) := by decide +kernel
theorem dX11_isSure_47 : decode cX11_isSure 47 = .ok (.aload_n 0, 1) := by decide +kernel
theorem dX11_isSure_48 : decode cX11_isSure 48 = .ok (.getfield 13, 3) := by decide +kernel
theorem dX11_isSure_51 : decode cX11_isSure 51 = .ok (.aload_n 0, 1) := by decide +kernel
theorem dX11_isSure_52 : decode cX11_isSure 52 = .ok (.getfield 55, 3) := by decide +kernel
theorem dX11_isSure_55 : decode cX11_isSure 55 = .ok (.iload_n 1, 1) := by decide +kernel
theorem dX11_isSure_56 : decode cX11_isSure 56 = .ok (.iaload, 1) := by decide +kernel
theorem dX11_isSure_57 : decode cX11_isSure 57 = .ok (.iaload, 1) := by decide +kernel
theorem dX11_isSure_58 : decode cX11_isSure 58 = .ok (.i2l, 1) := by decide +kernel
theorem dX11_isSure_59 : decode cX11_isSure 59 = .ok (.lmul, 1) := by decide +kernel
theorem dX11_isSure_60 : decode cX11_isSure 60 = .ok (.iload_n 3, 1) := by decide +kernel
theorem dX11_isSure_61 : decode cX11_isSure 61 = .ok (.invokevirtual 270, 3) := by decide +kernel
theorem dX11_isSure_64 : decode cX11_isSure 64 = .ok (.aload_n 0, 1) := by decide +kernel
theorem dX11_isSure_65 : decode cX11_isSure 65 = .ok (.iconst 3, 1) := by decide +kernel
theorem dX11_isSure_66 : decode cX11_isSure 66 = .ok (.aload_n 0, 1) := by decide +kernel
theorem dX11_isSure_67 : decode cX11_isSure 67 = .ok (.getfield 13, 3) := by decide +kernel
theorem dX11_isSure_70 : decode cX11_isSure 70 = .ok (.aload_n 0, 1) := by decide +kernel
theorem dX11_isSure_71 : decode cX11_isSure 71 = .ok (.getfield 52, 3) := by decide +kernel
theorem dX11_isSure_74 : decode cX11_isSure 74 = .ok (.iload_n 1, 1) := by decide +kernel
theorem dX11_isSure_75 : decode cX11_isSure 75 = .ok (.iaload, 1) := by decide +kernel
theorem dX11_isSure_76 : decode cX11_isSure 76 = .ok (.iaload, 1) := by decide +kernel
theorem dX11_isSure_77 : decode cX11_isSure 77 = .ok (.i2l, 1) := by decide +kernel
theorem dX11_isSure_78 : decode cX11_isSure 78 = .ok (.aload_n 0, 1) := by decide +kernel
theorem dX11_isSure_79 : decode cX11_isSure 79 = .ok (.getfield 13, 3) := by decide +kernel
theorem dX11_isSure_82 : decode cX11_isSure 82 = .ok (.aload_n 0, 1) := by decide +kernel
theorem dX11_isSure_83 : decode cX11_isSure 83 = .ok (.getfield 55, 3) := by decide +kernel
theorem dX11_isSure_86 : decode cX11_isSure 86 = .ok (.iload_n 1, 1) := by decide +kernel
theorem dX11_isSure_87 : decode cX11_isSure 87 = .ok (.iaload, 1) := by decide +kernel
theorem dX11_isSure_88 : decode cX11_isSure 88 = .ok (.iaload, 1) := by decide +kernel
theorem dX11_isSure_89 : decode cX11_isSure 89 = .ok (.i2l, 1) := by decide +kernel
theorem dX11_isSure_90 : decode cX11_isSure 90 = .ok (.ladd, 1) := by decide +kernel
theorem dX11_isSure_91 : decode cX11_isSure 91 = .ok (.iload_n 2, 1) := by decide +kernel
theorem dX11_isSure_92 : decode cX11_isSure 92 = .ok (.iload_n 3, 1) := by decide +kernel
theorem dX11_isSure_93 : decode cX11_isSure 93 = .ok (.iadd, 1) := by decide +kernel
theorem dX11_isSure_94 : decode cX11_isSure 94 = .ok (.invokevirtual 270, 3) := by decide +kernel
theorem dX11_isSure_97 : decode cX11_isSure 97 = .ok (.aload_n 0, 1) := by decide +kernel
theorem dX11_isSure_98 : decode cX11_isSure 98 = .ok (.iconst 2, 1) := by decide +kernel
theorem dX11_isSure_99 : decode cX11_isSure 99 = .ok (.iconst 3, 1) := by decide +kernel
theorem dX11_isSure_100 : decode cX11_isSure 100 = .ok (.invokevirtual 203, 3) := by decide +kernel
theorem dX11_isSure_103 : decode cX11_isSure 103 = .ok (.ifCond .lt 7, 3) := by decide +kernel
theorem dX11_isSure_106 : decode cX11_isSure 106 = .ok (.iconst 1, 1) := by decide +kernel
theorem dX11_isSure_107 : decode cX11_isSure 107 = .ok (.goto 4, 3) := by decide +kernel
theorem dX11_isSure_110 : decode cX11_isSure 110 = .ok (.iconst 0, 1) := by decide +kernel
theorem dX11_isSure_111 : decode cX11_isSure 111 = .ok (.ireturn, 1) := by decide +kernel
theorem dX11_pass_0 : decode cX11_pass 0 = .ok (.lconst 0, 1) := by decide +kernel
theorem dX11_pass_1 : decode cX11_pass 1 = .ok (.lstore 4, 2) := by decide +kernel
theorem dX11_pass_3 : decode cX11_pass 3 = .ok (.iconst 0, 1) := by decide +kernel
theorem dX11_pass_4 : decode cX11_pass 4 = .ok (.istore 6, 2) := by decide +kernel
theorem dX11_pass_6 : decode cX11_pass 6 = .ok (.iload 6, 2) := by decide +kernel
theorem dX11_pass_8 : decode cX11_pass 8 = .ok (.bipush 40, 2) := by decide +kernel
theorem dX11_pass_10 : decode cX11_pass 10 = .ok (.if_icmp .ge 70, 3) := by decide +kernel
theorem dX11_pass_13 : decode cX11_pass 13 = .ok (.lload 4, 2) := by decide +kernel
theorem dX11_pass_15 : decode cX11_pass 15 = .ok (.aload_n 0, 1) := by decide +kernel
theorem dX11_pass_16 : decode cX11_pass 16 = .ok (.getfield 86, 3) := by decide +kernel
theorem dX11_pass_19 : decode cX11_pass 19 = .ok (.bipush 40, 2) := by decide +kernel
theorem dX11_pass_21 : decode cX11_pass 21 = .ok (.iload_n 2, 1) := by decide +kernel
theorem dX11_pass_22 : decode cX11_pass 22 = .ok (.imul, 1) := by decide +kernel
theorem dX11_pass_23 : decode cX11_pass 23 = .ok (.iload 6, 2) := by decide +kernel
theorem dX11_pass_25 : decode cX11_pass 25 = .ok (.iadd, 1) := by decide +kernel
theorem dX11_pass_26 : decode cX11_pass 26 = .ok (.iaload, 1) := by decide +kernel
theorem dX11_pass_27 : decode cX11_pass 27 = .ok (.i2l, 1) := by decide +kernel
theorem dX11_pass_28 : decode cX11_pass 28 = .ok (.iload_n 3, 1) := by decide +kernel
theorem dX11_pass_29 : decode cX11_pass 29 = .ok (.i2l, 1) := by decide +kernel
theorem dX11_pass_30 : decode cX11_pass 30 = .ok (.aload_n 0, 1) := by decide +kernel
theorem dX11_pass_31 : decode cX11_pass 31 = .ok (.getfield 83, 3) := by decide +kernel
theorem dX11_pass_34 : decode cX11_pass 34 = .ok (.bipush 40, 2) := by decide +kernel
theorem dX11_pass_36 : decode cX11_pass 36 = .ok (.iload_n 1, 1) := by decide +kernel
theorem dX11_pass_37 : decode cX11_pass 37 = .ok (.imul, 1) := by decide +kernel
theorem dX11_pass_38 : decode cX11_pass 38 = .ok (.iload 6, 2) := by decide +kernel
theorem dX11_pass_40 : decode cX11_pass 40 = .ok (.iadd, 1) := by decide +kernel
theorem dX11_pass_41 : decode cX11_pass 41 = .ok (.iaload, 1) := by decide +kernel
theorem dX11_pass_42 : decode cX11_pass 42 = .ok (.i2l, 1) := by decide +kernel
theorem dX11_pass_43 : decode cX11_pass 43 = .ok (.lmul, 1) := by decide +kernel
theorem dX11_pass_44 : decode cX11_pass 44 = .ok (.ladd, 1) := by decide +kernel
theorem dX11_pass_45 : decode cX11_pass 45 = .ok (.ladd, 1) := by decide +kernel
theorem dX11_pass_46 : decode cX11_pass 46 = .ok (.lstore 4, 2) := by decide +kernel
theorem dX11_pass_48 : decode cX11_pass 48 = .ok (.aload_n 0, 1) := by decide +kernel
theorem dX11_pass_49 : decode cX11_pass 49 = .ok (.getfield 86, 3) := by decide +kernel
theorem dX11_pass_52 : decode cX11_pass 52 = .ok (.bipush 40, 2) := by decide +kernel
theorem dX11_pass_54 : decode cX11_pass 54 = .ok (.iload_n 2, 1) := by decide +kernel
theorem dX11_pass_55 : decode cX11_pass 55 = .ok (.imul, 1) := by decide +kernel
theorem dX11_pass_56 : decode cX11_pass 56 = .ok (.iload 6, 2) := by decide +kernel
theorem dX11_pass_58 : decode cX11_pass 58 = .ok (.iadd, 1) := by decide +kernel
theorem dX11_pass_59 : decode cX11_pass 59 = .ok (.lload 4, 2) := by decide +kernel
theorem dX11_pass_61 : decode cX11_pass 61 = .ok (.ldc2_w 186, 3) := by decide +kernel
theorem dX11_pass_64 : decode cX11_pass 64 = .ok (.land, 1) := by decide +kernel
theorem dX11_pass_65 : decode cX11_pass 65 = .ok (.l2i, 1) := by decide +kernel
theorem dX11_pass_66 : decode cX11_pass 66 = .ok (.iastore, 1) := by decide +kernel
theorem dX11_pass_67 : decode cX11_pass 67 = .ok (.lload 4, 2) := by decide +kernel
theorem dX11_pass_69 : decode cX11_pass 69 = .ok (.bipush 16, 2) := by decide +kernel
theorem dX11_pass_71 : decode cX11_pass 71 = .ok (.lshr, 1) := by decide +kernel
theorem dX11_pass_72 : decode cX11_pass 72 = .ok (.lstore 4, 2) := by decide +kernel
theorem dX11_pass_74 : decode cX11_pass 74 = .ok (.iinc 6 1, 3) := by decide +kernel
theorem dX11_pass_77 : decode cX11_pass 77 = .ok (.goto (-71), 3) := by decide +kernel
theorem dX11_pass_80 : decode cX11_pass 80 = .ok (.return_, 1) := by decide +kernel
theorem dX11_goOn_0 : decode cX11_goOn 0 = .ok (.iconst 0, 1) := by decide +kernel
theorem dX11_goOn_1 : decode cX11_goOn 1 = .ok (.istore 5, 2) := by decide +kernel
theorem dX11_goOn_3 : decode cX11_goOn 3 = .ok (.iload 5, 2) := by decide +kernel
theorem dX11_goOn_5 : decode cX11_goOn 5 = .ok (.ldc_w 314, 3) := by decide +kernel
theorem dX11_goOn_8 : decode cX11_goOn 8 = .ok (.if_icmp .ge 17, 3) := by decide +kernel
theorem dX11_goOn_11 : decode cX11_goOn 11 = .ok (.aload_n 0, 1) := by decide +kernel
theorem dX11_goOn_12 : decode cX11_goOn 12 = .ok (.getfield 86, 3) := by decide +kernel
theorem dX11_goOn_15 : decode cX11_goOn 15 = .ok (.iload 5, 2) := by decide +kernel
theorem dX11_goOn_17 : decode cX11_goOn 17 = .ok (.iconst 0, 1) := by decide +kernel
theorem dX11_goOn_18 : decode cX11_goOn 18 = .ok (.iastore, 1) := by decide +kernel
theorem dX11_goOn_19 : decode cX11_goOn 19 = .ok (.iinc 5 1, 3) := by decide +kernel
theorem dX11_goOn_22 : decode cX11_goOn 22 = .ok (.goto (-19), 3) := by decide +kernel
theorem dX11_goOn_25 : decode cX11_goOn 25 = .ok (.iconst 0, 1) := by decide +kernel
theorem dX11_goOn_26 : decode cX11_goOn 26 = .ok (.istore 5, 2) := by decide +kernel
theorem dX11_goOn_28 : decode cX11_goOn 28 = .ok (.iload 5, 2) := by decide +kernel
theorem dX11_goOn_30 : decode cX11_goOn 30 = .ok (.iload_n 1, 1) := by decide +kernel
theorem dX11_goOn_31 : decode cX11_goOn 31 = .ok (.if_icmp .gt 79, 3) := by decide +kernel
theorem dX11_goOn_34 : decode cX11_goOn 34 = .ok (.iconst 0, 1) := by decide +kernel
theorem dX11_goOn_35 : decode cX11_goOn 35 = .ok (.istore 6, 2) := by decide +kernel
theorem dX11_goOn_37 : decode cX11_goOn 37 = .ok (.iload 5, 2) := by decide +kernel
theorem dX11_goOn_39 : decode cX11_goOn 39 = .ok (.iload 6, 2) := by decide +kernel
theorem dX11_goOn_41 : decode cX11_goOn 41 = .ok (.iadd, 1) := by decide +kernel
theorem dX11_goOn_42 : decode cX11_goOn 42 = .ok (.iload_n 1, 1) := by decide +kernel
theorem dX11_goOn_43 : decode cX11_goOn 43 = .ok (.if_icmp .gt 61, 3) := by decide +kernel
theorem dX11_goOn_46 : decode cX11_goOn 46 = .ok (.bipush 31, 2) := by decide +kernel
theorem dX11_goOn_48 : decode cX11_goOn 48 = .ok (.iload 5, 2) := by decide +kernel
theorem dX11_goOn_50 : decode cX11_goOn 50 = .ok (.imul, 1) := by decide +kernel
theorem dX11_goOn_51 : decode cX11_goOn 51 = .ok (.iload 6, 2) := by decide +kernel
theorem dX11_goOn_53 : decode cX11_goOn 53 = .ok (.iadd, 1) := by decide +kernel
theorem dX11_goOn_54 : decode cX11_goOn 54 = .ok (.istore 7, 2) := by decide +kernel
theorem dX11_goOn_56 : decode cX11_goOn 56 = .ok (.aload_n 0, 1) := by decide +kernel
theorem dX11_goOn_57 : decode cX11_goOn 57 = .ok (.iload 7, 2) := by decide +kernel
theorem dX11_goOn_59 : decode cX11_goOn 59 = .ok (.iload 7, 2) := by decide +kernel
theorem dX11_goOn_61 : decode cX11_goOn 61 = .ok (.iload 4, 2) := by decide +kernel
theorem dX11_goOn_63 : decode cX11_goOn 63 = .ok (.invokevirtual 315, 3) := by decide +kernel
theorem dX11_goOn_66 : decode cX11_goOn 66 = .ok (.iload 5, 2) := by decide +kernel
theorem dX11_goOn_68 : decode cX11_goOn 68 = .ok (.iload 6, 2) := by decide +kernel
theorem dX11_goOn_70 : decode cX11_goOn 70 = .ok (.iadd, 1) := by decide +kernel
theorem dX11_goOn_71 : decode cX11_goOn 71 = .ok (.iload_n 1, 1) := by decide +kernel
theorem dX11_goOn_72 : decode cX11_goOn 72 = .ok (.if_icmp .ge 26, 3) := by decide +kernel
theorem dX11_goOn_75 : decode cX11_goOn 75 = .ok (.aload_n 0, 1) := by decide +kernel
theorem dX11_goOn_76 : decode cX11_goOn 76 = .ok (.iload 7, 2) := by decide +kernel
theorem dX11_goOn_78 : decode cX11_goOn 78 = .ok (.iload 7, 2) := by decide +kernel
theorem dX11_goOn_80 : decode cX11_goOn 80 = .ok (.bipush 31, 2) := by decide +kernel
theorem dX11_goOn_82 : decode cX11_goOn 82 = .ok (.iadd, 1) := by decide +kernel
theorem dX11_goOn_83 : decode cX11_goOn 83 = .ok (.iload_n 2, 1) := by decide +kernel
theorem dX11_goOn_84 : decode cX11_goOn 84 = .ok (.invokevirtual 315, 3) := by decide +kernel
theorem dX11_goOn_87 : decode cX11_goOn 87 = .ok (.aload_n 0, 1) := by decide +kernel
theorem dX11_goOn_88 : decode cX11_goOn 88 = .ok (.iload 7, 2) := by decide +kernel
theorem dX11_goOn_90 : decode cX11_goOn 90 = .ok (.iload 7, 2) := by decide +kernel
theorem dX11_goOn_92 : decode cX11_goOn 92 = .ok (.iconst 1, 1) := by decide +kernel
theorem dX11_goOn_93 : decode cX11_goOn 93 = .ok (.iadd, 1) := by decide +kernel
theorem dX11_goOn_94 : decode cX11_goOn 94 = .ok (.iload_n 3, 1) := by decide +kernel
theorem dX11_goOn_95 : decode cX11_goOn 95 = .ok (.invokevirtual 315, 3) := by decide +kernel
theorem dX11_goOn_98 : decode cX11_goOn 98 = .ok (.iinc 6 1, 3) := by decide +kernel
theorem dX11_goOn_101 : decode cX11_goOn 101 = .ok (.goto (-64), 3) := by decide +kernel
theorem dX11_goOn_104 : decode cX11_goOn 104 = .ok (.iinc 5 1, 3) := by decide +kernel
theorem dX11_goOn_107 : decode cX11_goOn 107 = .ok (.goto (-79), 3) := by decide +kernel
theorem dX11_goOn_110 : decode cX11_goOn 110 = .ok (.iconst 0, 1) := by decide +kernel
theorem dX11_goOn_111 : decode cX11_goOn 111 = .ok (.istore 5, 2) := by decide +kernel
theorem dX11_goOn_113 : decode cX11_goOn 113 = .ok (.iload 5, 2) := by decide +kernel
theorem dX11_goOn_115 : decode cX11_goOn 115 = .ok (.iload_n 1, 1) := by decide +kernel
theorem dX11_goOn_116 : decode cX11_goOn 116 = .ok (.if_icmp .gt 159, 3) := by decide +kernel
theorem dX11_goOn_119 : decode cX11_goOn 119 = .ok (.iconst 0, 1) := by decide +kernel
theorem dX11_goOn_120 : decode cX11_goOn 120 = .ok (.istore 6, 2) := by decide +kernel
theorem dX11_goOn_122 : decode cX11_goOn 122 = .ok (.iload 5, 2) := by decide +kernel
theorem dX11_goOn_124 : decode cX11_goOn 124 = .ok (.iload 6, 2) := by decide +kernel
theorem dX11_goOn_126 : decode cX11_goOn 126 = .ok (.iadd, 1) := by decide +kernel
theorem dX11_goOn_127 : decode cX11_goOn 127 = .ok (.iload_n 1, 1) := by decide +kernel
theorem dX11_goOn_128 : decode cX11_goOn 128 = .ok (.if_icmp .gt 141, 3) := by decide +kernel
theorem dX11_goOn_131 : decode cX11_goOn 131 = .ok (.bipush 31, 2) := by decide +kernel
theorem dX11_goOn_133 : decode cX11_goOn 133 = .ok (.iload 5, 2) := by decide +kernel
theorem dX11_goOn_135 : decode cX11_goOn 135 = .ok (.imul, 1) := by decide +kernel
theorem dX11_goOn_136 : decode cX11_goOn 136 = .ok (.iload 6, 2) := by decide +kernel
theorem dX11_goOn_138 : decode cX11_goOn 138 = .ok (.iadd, 1) := by decide +kernel
theorem dX11_goOn_139 : decode cX11_goOn 139 = .ok (.istore 7, 2) := by decide +kernel
theorem dX11_goOn_141 : decode cX11_goOn 141 = .ok (.aload_n 0, 1) := by decide +kernel
theorem dX11_goOn_142 : decode cX11_goOn 142 = .ok (.getfield 79, 3) := by decide +kernel
theorem dX11_goOn_145 : decode cX11_goOn 145 = .ok (.iconst 2, 1) := by decide +kernel
theorem dX11_goOn_146 : decode cX11_goOn 146 = .ok (.bipush 40, 2) := by decide +kernel
theorem dX11_goOn_148 : decode cX11_goOn 148 = .ok (.iastore, 1) := by decide +kernel
theorem dX11_goOn_149 : decode cX11_goOn 149 = .ok (.iconst 0, 1) := by decide +kernel
theorem dX11_goOn_150 : decode cX11_goOn 150 = .ok (.istore 8, 2) := by decide +kernel
theorem dX11_goOn_152 : decode cX11_goOn 152 = .ok (.iload 8, 2) := by decide +kernel
theorem dX11_goOn_154 : decode cX11_goOn 154 = .ok (.bipush 40, 2) := by decide +kernel
theorem dX11_goOn_156 : decode cX11_goOn 156 = .ok (.if_icmp .ge 87, 3) := by decide +kernel
theorem dX11_goOn_159 : decode cX11_goOn 159 = .ok (.aload_n 0, 1) := by decide +kernel
theorem dX11_goOn_160 : decode cX11_goOn 160 = .ok (.getfield 76, 3) := by decide +kernel
theorem dX11_goOn_163 : decode cX11_goOn 163 = .ok (.sipush 2400, 3) := by decide +kernel
theorem dX11_goOn_166 : decode cX11_goOn 166 = .ok (.iload 8, 2) := by decide +kernel
theorem dX11_goOn_168 : decode cX11_goOn 168 = .ok (.iadd, 1) := by decide +kernel
theorem dX11_goOn_169 : decode cX11_goOn 169 = .ok (.aload_n 0, 1) := by decide +kernel
theorem dX11_goOn_170 : decode cX11_goOn 170 = .ok (.getfield 179, 3) := by decide +kernel
theorem dX11_goOn_173 : decode cX11_goOn 173 = .ok (.iload 7, 2) := by decide +kernel
theorem dX11_goOn_175 : decode cX11_goOn 175 = .ok (.baload, 1) := by decide +kernel
theorem dX11_goOn_176 : decode cX11_goOn 176 = .ok (.ifCond .eq 19, 3) := by decide +kernel
theorem dX11_goOn_179 : decode cX11_goOn 179 = .ok (.aload_n 0, 1) := by decide +kernel
theorem dX11_goOn_180 : decode cX11_goOn 180 = .ok (.getfield 86, 3) := by decide +kernel
theorem dX11_goOn_183 : decode cX11_goOn 183 = .ok (.bipush 40, 2) := by decide +kernel
theorem dX11_goOn_185 : decode cX11_goOn 185 = .ok (.iload 7, 2) := by decide +kernel
theorem dX11_goOn_187 : decode cX11_goOn 187 = .ok (.imul, 1) := by decide +kernel
theorem dX11_goOn_188 : decode cX11_goOn 188 = .ok (.iload 8, 2) := by decide +kernel
theorem dX11_goOn_190 : decode cX11_goOn 190 = .ok (.iadd, 1) := by decide +kernel
theorem dX11_goOn_191 : decode cX11_goOn 191 = .ok (.iaload, 1) := by decide +kernel
theorem dX11_goOn_192 : decode cX11_goOn 192 = .ok (.goto 4, 3) := by decide +kernel
theorem dX11_goOn_195 : decode cX11_goOn 195 = .ok (.iconst 0, 1) := by decide +kernel
theorem dX11_goOn_196 : decode cX11_goOn 196 = .ok (.iastore, 1) := by decide +kernel
theorem dX11_goOn_197 : decode cX11_goOn 197 = .ok (.aload_n 0, 1) := by decide +kernel
theorem dX11_goOn_198 : decode cX11_goOn 198 = .ok (.getfield 83, 3) := by decide +kernel
theorem dX11_goOn_201 : decode cX11_goOn 201 = .ok (.bipush 40, 2) := by decide +kernel
theorem dX11_goOn_203 : decode cX11_goOn 203 = .ok (.iload 7, 2) := by decide +kernel
theorem dX11_goOn_205 : decode cX11_goOn 205 = .ok (.imul, 1) := by decide +kernel
theorem dX11_goOn_206 : decode cX11_goOn 206 = .ok (.iload 8, 2) := by decide +kernel
theorem dX11_goOn_208 : decode cX11_goOn 208 = .ok (.iadd, 1) := by decide +kernel
theorem dX11_goOn_209 : decode cX11_goOn 209 = .ok (.aload_n 0, 1) := by decide +kernel
theorem dX11_goOn_210 : decode cX11_goOn 210 = .ok (.getfield 179, 3) := by decide +kernel
theorem dX11_goOn_213 : decode cX11_goOn 213 = .ok (.iload 7, 2) := by decide +kernel
theorem dX11_goOn_215 : decode cX11_goOn 215 = .ok (.baload, 1) := by decide +kernel
theorem dX11_goOn_216 : decode cX11_goOn 216 = .ok (.ifCond .eq 7, 3) := by decide +kernel
theorem dX11_goOn_219 : decode cX11_goOn 219 = .ok (.iconst 0, 1) := by decide +kernel
theorem dX11_goOn_220 : decode cX11_goOn 220 = .ok (.goto 16, 3) := by decide +kernel
theorem dX11_goOn_223 : decode cX11_goOn 223 = .ok (.aload_n 0, 1) := by decide +kernel
theorem dX11_goOn_224 : decode cX11_goOn 224 = .ok (.getfield 86, 3) := by decide +kernel
theorem dX11_goOn_227 : decode cX11_goOn 227 = .ok (.bipush 40, 2) := by decide +kernel
theorem dX11_goOn_229 : decode cX11_goOn 229 = .ok (.iload 7, 2) := by decide +kernel
theorem dX11_goOn_231 : decode cX11_goOn 231 = .ok (.imul, 1) := by decide +kernel
theorem dX11_goOn_232 : decode cX11_goOn 232 = .ok (.iload 8, 2) := by decide +kernel
theorem dX11_goOn_234 : decode cX11_goOn 234 = .ok (.iadd, 1) := by decide +kernel
theorem dX11_goOn_235 : decode cX11_goOn 235 = .ok (.iaload, 1) := by decide +kernel
theorem dX11_goOn_236 : decode cX11_goOn 236 = .ok (.iastore, 1) := by decide +kernel
theorem dX11_goOn_237 : decode cX11_goOn 237 = .ok (.iinc 8 1, 3) := by decide +kernel
theorem dX11_goOn_240 : decode cX11_goOn 240 = .ok (.goto (-88), 3) := by decide +kernel
theorem dX11_goOn_243 : decode cX11_goOn 243 = .ok (.aload_n 0, 1) := by decide +kernel
theorem dX11_goOn_244 : decode cX11_goOn 244 = .ok (.iconst 2, 1) := by decide +kernel
theorem dX11_goOn_245 : decode cX11_goOn 245 = .ok (.invokevirtual 188, 3) := by decide +kernel
theorem dX11_goOn_248 : decode cX11_goOn 248 = .ok (.aload_n 0, 1) := by decide +kernel
theorem dX11_goOn_249 : decode cX11_goOn 249 = .ok (.getfield 79, 3) := by decide +kernel
theorem dX11_goOn_252 : decode cX11_goOn 252 = .ok (.iconst 2, 1) := by decide +kernel
theorem dX11_goOn_253 : decode cX11_goOn 253 = .ok (.iaload, 1) := by decide +kernel
theorem dX11_goOn_254 : decode cX11_goOn 254 = .ok (.ifCond .le 9, 3) := by decide +kernel
theorem dX11_goOn_257 : decode cX11_goOn 257 = .ok (.aload_n 0, 1) := by decide +kernel
theorem dX11_goOn_258 : decode cX11_goOn 258 = .ok (.iconst 0, 1) := by decide +kernel
theorem dX11_goOn_259 : decode cX11_goOn 259 = .ok (.iconst 2, 1) := by decide +kernel
theorem dX11_goOn_260 : decode cX11_goOn 260 = .ok (.invokevirtual 318, 3) := by decide +kernel
theorem dX11_goOn_263 : decode cX11_goOn 263 = .ok (.iinc 6 1, 3) := by decide +kernel
theorem dX11_goOn_266 : decode cX11_goOn 266 = .ok (.goto (-144), 3) := by decide +kernel
theorem dX11_goOn_269 : decode cX11_goOn 269 = .ok (.iinc 5 1, 3) := by decide +kernel
theorem dX11_goOn_272 : decode cX11_goOn 272 = .ok (.goto (-159), 3) := by decide +kernel
theorem dX11_goOn_275 : decode cX11_goOn 275 = .ok (.return_, 1) := by decide +kernel
theorem dX11_risk_0 : decode cX11_risk 0 = .ok (.iload_n 2, 1) := by decide +kernel
theorem dX11_risk_1 : decode cX11_risk 1 = .ok (.ifCond .lt 51, 3) := by decide +kernel
theorem dX11_risk_4 : decode cX11_risk 4 = .ok (.iload_n 2, 1) := by decide +kernel
theorem dX11_risk_5 : decode cX11_risk 5 = .ok (.bipush 30, 2) := by decide +kernel
theorem dX11_risk_7 : decode cX11_risk 7 = .ok (.if_icmp .gt 45, 3) := by decide +kernel
theorem dX11_risk_10 : decode cX11_risk 10 = .ok (.iload 5, 2) := by decide +kernel
theorem dX11_risk_12 : decode cX11_risk 12 = .ok (.iconst 1, 1) := by decide +kernel
theorem dX11_risk_13 : decode cX11_risk 13 = .ok (.if_icmp .lt 39, 3) := by decide +kernel
theorem dX11_risk_16 : decode cX11_risk 16 = .ok (.iload 5, 2) := by decide +kernel
theorem dX11_risk_18 : decode cX11_risk 18 = .ok (.sipush 20000, 3) := by decide +kernel
theorem dX11_risk_21 : decode cX11_risk 21 = .ok (.if_icmp .gt 31, 3) := by decide +kernel
theorem dX11_risk_24 : decode cX11_risk 24 = .ok (.iload_n 3, 1) := by decide +kernel
theorem dX11_risk_25 : decode cX11_risk 25 = .ok (.ifCond .lt 27, 3) := by decide +kernel
theorem dX11_risk_28 : decode cX11_risk 28 = .ok (.iload 4, 2) := by decide +kernel
theorem dX11_risk_30 : decode cX11_risk 30 = .ok (.ifCond .lt 22, 3) := by decide +kernel
theorem dX11_risk_33 : decode cX11_risk 33 = .ok (.iload_n 3, 1) := by decide +kernel
theorem dX11_risk_34 : decode cX11_risk 34 = .ok (.iload 5, 2) := by decide +kernel
theorem dX11_risk_36 : decode cX11_risk 36 = .ok (.if_icmp .gt 16, 3) := by decide +kernel
theorem dX11_risk_39 : decode cX11_risk 39 = .ok (.iload 4, 2) := by decide +kernel
theorem dX11_risk_41 : decode cX11_risk 41 = .ok (.iload 5, 2) := by decide +kernel
theorem dX11_risk_43 : decode cX11_risk 43 = .ok (.iload_n 3, 1) := by decide +kernel
theorem dX11_risk_44 : decode cX11_risk 44 = .ok (.isub, 1) := by decide +kernel
theorem dX11_risk_45 : decode cX11_risk 45 = .ok (.if_icmp .gt 7, 3) := by decide +kernel
theorem dX11_risk_48 : decode cX11_risk 48 = .ok (.iconst 1, 1) := by decide +kernel
theorem dX11_risk_49 : decode cX11_risk 49 = .ok (.goto 4, 3) := by decide +kernel
theorem dX11_risk_52 : decode cX11_risk 52 = .ok (.iconst 0, 1) := by decide +kernel
theorem dX11_risk_53 : decode cX11_risk 53 = .ok (.istore 6, 2) := by decide +kernel
theorem dX11_risk_55 : decode cX11_risk 55 = .ok (.aload_n 0, 1) := by decide +kernel
theorem dX11_risk_56 : decode cX11_risk 56 = .ok (.aload_n 0, 1) := by decide +kernel
theorem dX11_risk_57 : decode cX11_risk 57 = .ok (.getfield 231, 3) := by decide +kernel
theorem dX11_risk_60 : decode cX11_risk 60 = .ok (.ifCond .ne 7, 3) := by decide +kernel
theorem dX11_risk_63 : decode cX11_risk 63 = .ok (.iconst 1, 1) := by decide +kernel
theorem dX11_risk_64 : decode cX11_risk 64 = .ok (.goto 29, 3) := by decide +kernel
theorem dX11_risk_67 : decode cX11_risk 67 = .ok (.iload_n 1, 1) := by decide +kernel
theorem dX11_risk_68 : decode cX11_risk 68 = .ok (.ifCond .lt 11, 3) := by decide +kernel
theorem dX11_risk_71 : decode cX11_risk 71 = .ok (.iload_n 1, 1) := by decide +kernel
theorem dX11_risk_72 : decode cX11_risk 72 = .ok (.aload_n 0, 1) := by decide +kernel
theorem dX11_risk_73 : decode cX11_risk 73 = .ok (.getfield 250, 3) := by decide +kernel
theorem dX11_risk_76 : decode cX11_risk 76 = .ok (.if_icmp .lt 7, 3) := by decide +kernel
theorem dX11_risk_79 : decode cX11_risk 79 = .ok (.iconst 2, 1) := by decide +kernel
theorem dX11_risk_80 : decode cX11_risk 80 = .ok (.goto 13, 3) := by decide +kernel
theorem dX11_risk_83 : decode cX11_risk 83 = .ok (.iload 6, 2) := by decide +kernel
theorem dX11_risk_85 : decode cX11_risk 85 = .ok (.ifCond .ne 7, 3) := by decide +kernel
theorem dX11_risk_88 : decode cX11_risk 88 = .ok (.iconst 3, 1) := by decide +kernel
theorem dX11_risk_89 : decode cX11_risk 89 = .ok (.goto 4, 3) := by decide +kernel
theorem dX11_risk_92 : decode cX11_risk 92 = .ok (.iconst 0, 1) := by decide +kernel
theorem dX11_risk_93 : decode cX11_risk 93 = .ok (.putfield 1, 3) := by decide +kernel
theorem dX11_risk_96 : decode cX11_risk 96 = .ok (.aload_n 0, 1) := by decide +kernel
theorem dX11_risk_97 : decode cX11_risk 97 = .ok (.getfield 1, 3) := by decide +kernel
theorem dX11_risk_100 : decode cX11_risk 100 = .ok (.ifCond .le 5, 3) := by decide +kernel
theorem dX11_risk_103 : decode cX11_risk 103 = .ok (.iconst 0, 1) := by decide +kernel
theorem dX11_risk_104 : decode cX11_risk 104 = .ok (.ireturn, 1) := by decide +kernel
theorem dX11_risk_105 : decode cX11_risk 105 = .ok (.iconst 0, 1) := by decide +kernel
theorem dX11_risk_106 : decode cX11_risk 106 = .ok (.istore 7, 2) := by decide +kernel
theorem dX11_risk_108 : decode cX11_risk 108 = .ok (.iload 7, 2) := by decide +kernel
theorem dX11_risk_110 : decode cX11_risk 110 = .ok (.iload_n 2, 1) := by decide +kernel
theorem dX11_risk_111 : decode cX11_risk 111 = .ok (.if_icmp .gt 49, 3) := by decide +kernel
theorem dX11_risk_114 : decode cX11_risk 114 = .ok (.iconst 0, 1) := by decide +kernel
theorem dX11_risk_115 : decode cX11_risk 115 = .ok (.istore 8, 2) := by decide +kernel
theorem dX11_risk_117 : decode cX11_risk 117 = .ok (.iload 7, 2) := by decide +kernel
theorem dX11_risk_119 : decode cX11_risk 119 = .ok (.iload 8, 2) := by decide +kernel
theorem dX11_risk_121 : decode cX11_risk 121 = .ok (.iadd, 1) := by decide +kernel
theorem dX11_risk_122 : decode cX11_risk 122 = .ok (.iload_n 2, 1) := by decide +kernel
theorem dX11_risk_123 : decode cX11_risk 123 = .ok (.if_icmp .gt 31, 3) := by decide +kernel
theorem dX11_risk_126 : decode cX11_risk 126 = .ok (.aload_n 0, 1) := by decide +kernel
theorem dX11_risk_127 : decode cX11_risk 127 = .ok (.getfield 179, 3) := by decide +kernel
theorem dX11_risk_130 : decode cX11_risk 130 = .ok (.bipush 31, 2) := by decide +kernel
theorem dX11_risk_132 : decode cX11_risk 132 = .ok (.iload 7, 2) := by decide +kernel
theorem dX11_risk_134 : decode cX11_risk 134 = .ok (.imul, 1) := by decide +kernel
theorem dX11_risk_135 : decode cX11_risk 135 = .ok (.iload 8, 2) := by decide +kernel
theorem dX11_risk_137 : decode cX11_risk 137 = .ok (.iadd, 1) := by decide +kernel
theorem dX11_risk_138 : decode cX11_risk 138 = .ok (.aload_n 0, 1) := by decide +kernel
theorem dX11_risk_139 : decode cX11_risk 139 = .ok (.iload_n 1, 1) := by decide +kernel
theorem dX11_risk_140 : decode cX11_risk 140 = .ok (.iload 7, 2) := by decide +kernel
theorem dX11_risk_142 : decode cX11_risk 142 = .ok (.iload 8, 2) := by decide +kernel
theorem dX11_risk_144 : decode cX11_risk 144 = .ok (.invokevirtual 321, 3) := by decide +kernel
theorem dX11_risk_147 : decode cX11_risk 147 = .ok (.bastore, 1) := by decide +kernel
theorem dX11_risk_148 : decode cX11_risk 148 = .ok (.iinc 8 1, 3) := by decide +kernel
theorem dX11_risk_151 : decode cX11_risk 151 = .ok (.goto (-34), 3) := by decide +kernel
theorem dX11_risk_154 : decode cX11_risk 154 = .ok (.iinc 7 1, 3) := by decide +kernel
theorem dX11_risk_157 : decode cX11_risk 157 = .ok (.goto (-49), 3) := by decide +kernel
theorem dX11_risk_160 : decode cX11_risk 160 = .ok (.iconst 0, 1) := by decide +kernel
theorem dX11_risk_161 : decode cX11_risk 161 = .ok (.istore 7, 2) := by decide +kernel
theorem dX11_risk_163 : decode cX11_risk 163 = .ok (.iload 7, 2) := by decide +kernel
theorem dX11_risk_165 : decode cX11_risk 165 = .ok (.ldc_w 314, 3) := by decide +kernel
theorem dX11_risk_168 : decode cX11_risk 168 = .ok (.if_icmp .ge 17, 3) := by decide +kernel
theorem dX11_risk_171 : decode cX11_risk 171 = .ok (.aload_n 0, 1) := by decide +kernel
theorem dX11_risk_172 : decode cX11_risk 172 = .ok (.getfield 83, 3) := by decide +kernel
theorem dX11_risk_175 : decode cX11_risk 175 = .ok (.iload 7, 2) := by decide +kernel
theorem dX11_risk_177 : decode cX11_risk 177 = .ok (.iconst 0, 1) := by decide +kernel
theorem dX11_risk_178 : decode cX11_risk 178 = .ok (.iastore, 1) := by decide +kernel
theorem dX11_risk_179 : decode cX11_risk 179 = .ok (.iinc 7 1, 3) := by decide +kernel
theorem dX11_risk_182 : decode cX11_risk 182 = .ok (.goto (-19), 3) := by decide +kernel
theorem dX11_risk_185 : decode cX11_risk 185 = .ok (.aload_n 0, 1) := by decide +kernel
theorem dX11_risk_186 : decode cX11_risk 186 = .ok (.getfield 83, 3) := by decide +kernel
theorem dX11_risk_189 : decode cX11_risk 189 = .ok (.iconst 0, 1) := by decide +kernel
theorem dX11_risk_190 : decode cX11_risk 190 = .ok (.iconst 1, 1) := by decide +kernel
theorem dX11_risk_191 : decode cX11_risk 191 = .ok (.iastore, 1) := by decide +kernel
theorem dX11_risk_192 : decode cX11_risk 192 = .ok (.aload_n 0, 1) := by decide +kernel
theorem dX11_risk_193 : decode cX11_risk 193 = .ok (.iconst 0, 1) := by decide +kernel
theorem dX11_risk_194 : decode cX11_risk 194 = .ok (.lconst 0, 1) := by decide +kernel
theorem dX11_risk_195 : decode cX11_risk 195 = .ok (.invokevirtual 182, 3) := by decide +kernel
theorem dX11_risk_198 : decode cX11_risk 198 = .ok (.aload_n 0, 1) := by decide +kernel
theorem dX11_risk_199 : decode cX11_risk 199 = .ok (.iconst 1, 1) := by decide +kernel
theorem dX11_risk_200 : decode cX11_risk 200 = .ok (.lconst 1, 1) := by decide +kernel
theorem dX11_risk_201 : decode cX11_risk 201 = .ok (.invokevirtual 182, 3) := by decide +kernel
theorem dX11_risk_204 : decode cX11_risk 204 = .ok (.iconst 0, 1) := by decide +kernel
theorem dX11_risk_205 : decode cX11_risk 205 = .ok (.istore 7, 2) := by decide +kernel
theorem dX11_risk_207 : decode cX11_risk 207 = .ok (.iload 7, 2) := by decide +kernel
theorem dX11_risk_209 : decode cX11_risk 209 = .ok (.iload_n 2, 1) := by decide +kernel
theorem dX11_risk_210 : decode cX11_risk 210 = .ok (.if_icmp .ge 40, 3) := by decide +kernel
theorem dX11_risk_213 : decode cX11_risk 213 = .ok (.aload_n 0, 1) := by decide +kernel
theorem dX11_risk_214 : decode cX11_risk 214 = .ok (.iconst 0, 1) := by decide +kernel
theorem dX11_risk_215 : decode cX11_risk 215 = .ok (.iload 5, 2) := by decide +kernel
theorem dX11_risk_217 : decode cX11_risk 217 = .ok (.i2l, 1) := by decide +kernel
theorem dX11_risk_218 : decode cX11_risk 218 = .ok (.invokevirtual 192, 3) := by decide +kernel
theorem dX11_risk_221 : decode cX11_risk 221 = .ok (.aload_n 0, 1) := by decide +kernel
theorem dX11_risk_222 : decode cX11_risk 222 = .ok (.iconst 1, 1) := by decide +kernel
theorem dX11_risk_223 : decode cX11_risk 223 = .ok (.iload 5, 2) := by decide +kernel
theorem dX11_risk_225 : decode cX11_risk 225 = .ok (.i2l, 1) := by decide +kernel
theorem dX11_risk_226 : decode cX11_risk 226 = .ok (.invokevirtual 192, 3) := by decide +kernel
theorem dX11_risk_229 : decode cX11_risk 229 = .ok (.aload_n 0, 1) := by decide +kernel
theorem dX11_risk_230 : decode cX11_risk 230 = .ok (.iload_n 2, 1) := by decide +kernel
theorem dX11_risk_231 : decode cX11_risk 231 = .ok (.iload_n 3, 1) := by decide +kernel
theorem dX11_risk_232 : decode cX11_risk 232 = .ok (.iload 4, 2) := by decide +kernel
theorem dX11_risk_234 : decode cX11_risk 234 = .ok (.iload 5, 2) := by decide +kernel
theorem dX11_risk_236 : decode cX11_risk 236 = .ok (.iload_n 3, 1) := by decide +kernel
theorem dX11_risk_237 : decode cX11_risk 237 = .ok (.isub, 1) := by decide +kernel
theorem dX11_risk_238 : decode cX11_risk 238 = .ok (.iload 4, 2) := by decide +kernel
theorem dX11_risk_240 : decode cX11_risk 240 = .ok (.isub, 1) := by decide +kernel
theorem dX11_risk_241 : decode cX11_risk 241 = .ok (.invokevirtual 325, 3) := by decide +kernel
theorem dX11_risk_244 : decode cX11_risk 244 = .ok (.iinc 7 1, 3) := by decide +kernel
theorem dX11_risk_247 : decode cX11_risk 247 = .ok (.goto (-40), 3) := by decide +kernel
theorem dX11_risk_250 : decode cX11_risk 250 = .ok (.aload_n 0, 1) := by decide +kernel
theorem dX11_risk_251 : decode cX11_risk 251 = .ok (.iconst 2, 1) := by decide +kernel
theorem dX11_risk_252 : decode cX11_risk 252 = .ok (.iconst 0, 1) := by decide +kernel
theorem dX11_risk_253 : decode cX11_risk 253 = .ok (.invokevirtual 195, 3) := by decide +kernel
theorem dX11_risk_256 : decode cX11_risk 256 = .ok (.aload_n 0, 1) := by decide +kernel
theorem dX11_risk_257 : decode cX11_risk 257 = .ok (.iconst 3, 1) := by decide +kernel
theorem dX11_risk_258 : decode cX11_risk 258 = .ok (.iconst 1, 1) := by decide +kernel
theorem dX11_risk_259 : decode cX11_risk 259 = .ok (.invokevirtual 195, 3) := by decide +kernel
theorem dX11_risk_262 : decode cX11_risk 262 = .ok (.aload_n 0, 1) := by decide +kernel
theorem dX11_risk_263 : decode cX11_risk 263 = .ok (.iconst 2, 1) := by decide +kernel
theorem dX11_risk_264 : decode cX11_risk 264 = .ok (.aload_n 0, 1) := by decide +kernel
theorem dX11_risk_265 : decode cX11_risk 265 = .ok (.getfield 33, 3) := by decide +kernel
theorem dX11_risk_268 : decode cX11_risk 268 = .ok (.i2l, 1) := by decide +kernel
theorem dX11_risk_269 : decode cX11_risk 269 = .ok (.invokevirtual 192, 3) := by decide +kernel
theorem dX11_risk_272 : decode cX11_risk 272 = .ok (.aload_n 0, 1) := by decide +kernel
theorem dX11_risk_273 : decode cX11_risk 273 = .ok (.iconst 3, 1) := by decide +kernel
theorem dX11_risk_274 : decode cX11_risk 274 = .ok (.aload_n 0, 1) := by decide +kernel
theorem dX11_risk_275 : decode cX11_risk 275 = .ok (.getfield 30, 3) := by decide +kernel
theorem dX11_risk_278 : decode cX11_risk 278 = .ok (.i2l, 1) := by decide +kernel
theorem dX11_risk_279 : decode cX11_risk 279 = .ok (.invokevirtual 192, 3) := by decide +kernel
theorem dX11_risk_282 : decode cX11_risk 282 = .ok (.aload_n 0, 1) := by decide +kernel
theorem dX11_risk_283 : decode cX11_risk 283 = .ok (.iconst 2, 1) := by decide +kernel
theorem dX11_risk_284 : decode cX11_risk 284 = .ok (.iconst 3, 1) := by decide +kernel
theorem dX11_risk_285 : decode cX11_risk 285 = .ok (.invokevirtual 203, 3) := by decide +kernel
theorem dX11_risk_288 : decode cX11_risk 288 = .ok (.ifCond .le 7, 3) := by decide +kernel
theorem dX11_risk_291 : decode cX11_risk 291 = .ok (.iconst 1, 1) := by decide +kernel
theorem dX11_risk_292 : decode cX11_risk 292 = .ok (.goto 4, 3) := by decide +kernel
theorem dX11_risk_295 : decode cX11_risk 295 = .ok (.iconst 0, 1) := by decide +kernel
theorem dX11_risk_296 : decode cX11_risk 296 = .ok (.istore 7, 2) := by decide +kernel
theorem dX11_risk_298 : decode cX11_risk 298 = .ok (.aload_n 0, 1) := by decide +kernel
theorem dX11_risk_299 : decode cX11_risk 299 = .ok (.invokevirtual 329, 3) := by decide +kernel
theorem dX11_risk_302 : decode cX11_risk 302 = .ok (.iload 7, 2) := by decide +kernel
theorem dX11_risk_304 : decode cX11_risk 304 = .ok (.ireturn, 1) := by decide +kernel
theorem dX11_show_0 : decode cX11_show 0 = .ok (.iload_n 1, 1) := by decide +kernel
theorem dX11_show_1 : decode cX11_show 1 = .ok (.ifCond .eq 8, 3) := by decide +kernel
theorem dX11_show_4 : decode cX11_show 4 = .ok (.iload_n 1, 1) := by decide +kernel
theorem dX11_show_5 : decode cX11_show 5 = .ok (.iconst 2, 1) := by decide +kernel
theorem dX11_show_6 : decode cX11_show 6 = .ok (.if_icmp .ne 7, 3) := by decide +kernel
theorem dX11_show_9 : decode cX11_show 9 = .ok (.iconst 1, 1) := by decide +kernel
theorem dX11_show_10 : decode cX11_show 10 = .ok (.goto 4, 3) := by decide +kernel
theorem dX11_show_13 : decode cX11_show 13 = .ok (.iconst 0, 1) := by decide +kernel
theorem dX11_show_14 : decode cX11_show 14 = .ok (.istore_n 3, 1) := by decide +kernel
theorem dX11_show_15 : decode cX11_show 15 = .ok (.aload_n 0, 1) := by decide +kernel
theorem dX11_show_16 : decode cX11_show 16 = .ok (.iload_n 1, 1) := by decide +kernel
theorem dX11_show_17 : decode cX11_show 17 = .ok (.ifCond .lt 8, 3) := by decide +kernel
theorem dX11_show_20 : decode cX11_show 20 = .ok (.iload_n 1, 1) := by decide +kernel
theorem dX11_show_21 : decode cX11_show 21 = .ok (.iconst 4, 1) := by decide +kernel
theorem dX11_show_22 : decode cX11_show 22 = .ok (.if_icmp .le 7, 3) := by decide +kernel
theorem dX11_show_25 : decode cX11_show 25 = .ok (.iconst 1, 1) := by decide +kernel
theorem dX11_show_26 : decode cX11_show 26 = .ok (.goto 40, 3) := by decide +kernel
theorem dX11_show_29 : decode cX11_show 29 = .ok (.iload_n 1, 1) := by decide +kernel
theorem dX11_show_30 : decode cX11_show 30 = .ok (.iconst 4, 1) := by decide +kernel
theorem dX11_show_31 : decode cX11_show 31 = .ok (.if_icmp .ge 14, 3) := by decide +kernel
theorem dX11_show_34 : decode cX11_show 34 = .ok (.aload_n 0, 1) := by decide +kernel
theorem dX11_show_35 : decode cX11_show 35 = .ok (.getfield 231, 3) := by decide +kernel
theorem dX11_show_38 : decode cX11_show 38 = .ok (.ifCond .ne 7, 3) := by decide +kernel
theorem dX11_show_41 : decode cX11_show 41 = .ok (.iconst 2, 1) := by decide +kernel
theorem dX11_show_42 : decode cX11_show 42 = .ok (.goto 24, 3) := by decide +kernel
theorem dX11_show_45 : decode cX11_show 45 = .ok (.iload_n 3, 1) := by decide +kernel
theorem dX11_show_46 : decode cX11_show 46 = .ok (.ifCond .eq 19, 3) := by decide +kernel
theorem dX11_show_49 : decode cX11_show 49 = .ok (.iload_n 2, 1) := by decide +kernel
theorem dX11_show_50 : decode cX11_show 50 = .ok (.ifCond .lt 11, 3) := by decide +kernel
theorem dX11_show_53 : decode cX11_show 53 = .ok (.iload_n 2, 1) := by decide +kernel
theorem dX11_show_54 : decode cX11_show 54 = .ok (.aload_n 0, 1) := by decide +kernel
theorem dX11_show_55 : decode cX11_show 55 = .ok (.getfield 250, 3) := by decide +kernel
theorem dX11_show_58 : decode cX11_show 58 = .ok (.if_icmp .lt 7, 3) := by decide +kernel
theorem dX11_show_61 : decode cX11_show 61 = .ok (.iconst 1, 1) := by decide +kernel
theorem dX11_show_62 : decode cX11_show 62 = .ok (.goto 4, 3) := by decide +kernel
theorem dX11_show_65 : decode cX11_show 65 = .ok (.iconst 0, 1) := by decide +kernel
theorem dX11_show_66 : decode cX11_show 66 = .ok (.putfield 1, 3) := by decide +kernel
theorem dX11_show_69 : decode cX11_show 69 = .ok (.aload_n 0, 1) := by decide +kernel
theorem dX11_show_70 : decode cX11_show 70 = .ok (.getfield 1, 3) := by decide +kernel
theorem dX11_show_73 : decode cX11_show 73 = .ok (.ifCond .le 5, 3) := by decide +kernel
theorem dX11_show_76 : decode cX11_show 76 = .ok (.iconst 0, 1) := by decide +kernel
theorem dX11_show_77 : decode cX11_show 77 = .ok (.ireturn, 1) := by decide +kernel
theorem dX11_show_78 : decode cX11_show 78 = .ok (.iload_n 1, 1) := by decide +kernel
theorem dX11_show_79 : decode cX11_show 79 = .ok (.ifCond .ne 13, 3) := by decide +kernel
theorem dX11_show_82 : decode cX11_show 82 = .ok (.aload_n 0, 1) := by decide +kernel
theorem dX11_show_83 : decode cX11_show 83 = .ok (.iload_n 2, 1) := by decide +kernel
theorem dX11_show_84 : decode cX11_show 84 = .ok (.iconst 0, 1) := by decide +kernel
theorem dX11_show_85 : decode cX11_show 85 = .ok (.iconst 1, 1) := by decide +kernel
theorem dX11_show_86 : decode cX11_show 86 = .ok (.invokevirtual 284, 3) := by decide +kernel
theorem dX11_show_89 : decode cX11_show 89 = .ok (.goto 126, 3) := by decide +kernel
theorem dX11_show_92 : decode cX11_show 92 = .ok (.iload_n 1, 1) := by decide +kernel
theorem dX11_show_93 : decode cX11_show 93 = .ok (.iconst 1, 1) := by decide +kernel
theorem dX11_show_94 : decode cX11_show 94 = .ok (.if_icmp .ne 20, 3) := by decide +kernel
theorem dX11_show_97 : decode cX11_show 97 = .ok (.aload_n 0, 1) := by decide +kernel
theorem dX11_show_98 : decode cX11_show 98 = .ok (.iconst 0, 1) := by decide +kernel
theorem dX11_show_99 : decode cX11_show 99 = .ok (.bipush 6, 2) := by decide +kernel
theorem dX11_show_101 : decode cX11_show 101 = .ok (.invokevirtual 195, 3) := by decide +kernel
theorem dX11_show_104 : decode cX11_show 104 = .ok (.aload_n 0, 1) := by decide +kernel
theorem dX11_show_105 : decode cX11_show 105 = .ok (.iconst 1, 1) := by decide +kernel
theorem dX11_show_106 : decode cX11_show 106 = .ok (.bipush 7, 2) := by decide +kernel
theorem dX11_show_108 : decode cX11_show 108 = .ok (.invokevirtual 195, 3) := by decide +kernel
theorem dX11_show_111 : decode cX11_show 111 = .ok (.goto 104, 3) := by decide +kernel
theorem dX11_show_114 : decode cX11_show 114 = .ok (.iload_n 1, 1) := by decide +kernel
theorem dX11_show_115 : decode cX11_show 115 = .ok (.iconst 2, 1) := by decide +kernel
theorem dX11_show_116 : decode cX11_show 116 = .ok (.if_icmp .ne 53, 3) := by decide +kernel
theorem dX11_show_119 : decode cX11_show 119 = .ok (.aload_n 0, 1) := by decide +kernel
theorem dX11_show_120 : decode cX11_show 120 = .ok (.iconst 0, 1) := by decide +kernel
theorem dX11_show_121 : decode cX11_show 121 = .ok (.aload_n 0, 1) := by decide +kernel
theorem dX11_show_122 : decode cX11_show 122 = .ok (.getfield 13, 3) := by decide +kernel
theorem dX11_show_125 : decode cX11_show 125 = .ok (.aload_n 0, 1) := by decide +kernel
theorem dX11_show_126 : decode cX11_show 126 = .ok (.getfield 52, 3) := by decide +kernel
theorem dX11_show_129 : decode cX11_show 129 = .ok (.iload_n 2, 1) := by decide +kernel
theorem dX11_show_130 : decode cX11_show 130 = .ok (.iaload, 1) := by decide +kernel
theorem dX11_show_131 : decode cX11_show 131 = .ok (.iaload, 1) := by decide +kernel
theorem dX11_show_132 : decode cX11_show 132 = .ok (.i2l, 1) := by decide +kernel
theorem dX11_show_133 : decode cX11_show 133 = .ok (.invokevirtual 182, 3) := by decide +kernel
theorem dX11_show_136 : decode cX11_show 136 = .ok (.aload_n 0, 1) := by decide +kernel
theorem dX11_show_137 : decode cX11_show 137 = .ok (.iconst 1, 1) := by decide +kernel
theorem dX11_show_138 : decode cX11_show 138 = .ok (.aload_n 0, 1) := by decide +kernel
theorem dX11_show_139 : decode cX11_show 139 = .ok (.getfield 13, 3) := by decide +kernel
theorem dX11_show_142 : decode cX11_show 142 = .ok (.aload_n 0, 1) := by decide +kernel
theorem dX11_show_143 : decode cX11_show 143 = .ok (.getfield 52, 3) := by decide +kernel
theorem dX11_show_146 : decode cX11_show 146 = .ok (.iload_n 2, 1) := by decide +kernel
theorem dX11_show_147 : decode cX11_show 147 = .ok (.iaload, 1) := by decide +kernel
theorem dX11_show_148 : decode cX11_show 148 = .ok (.iaload, 1) := by decide +kernel
theorem dX11_show_149 : decode cX11_show 149 = .ok (.i2l, 1) := by decide +kernel
theorem dX11_show_150 : decode cX11_show 150 = .ok (.aload_n 0, 1) := by decide +kernel
theorem dX11_show_151 : decode cX11_show 151 = .ok (.getfield 13, 3) := by decide +kernel
theorem dX11_show_154 : decode cX11_show 154 = .ok (.aload_n 0, 1) := by decide +kernel
theorem dX11_show_155 : decode cX11_show 155 = .ok (.getfield 55, 3) := by decide +kernel
theorem dX11_show_158 : decode cX11_show 158 = .ok (.iload_n 2, 1) := by decide +kernel
theorem dX11_show_159 : decode cX11_show 159 = .ok (.iaload, 1) := by decide +kernel
theorem dX11_show_160 : decode cX11_show 160 = .ok (.iaload, 1) := by decide +kernel
theorem dX11_show_161 : decode cX11_show 161 = .ok (.i2l, 1) := by decide +kernel
theorem dX11_show_162 : decode cX11_show 162 = .ok (.ladd, 1) := by decide +kernel
theorem dX11_show_163 : decode cX11_show 163 = .ok (.invokevirtual 182, 3) := by decide +kernel
theorem dX11_show_166 : decode cX11_show 166 = .ok (.goto 49, 3) := by decide +kernel
theorem dX11_show_169 : decode cX11_show 169 = .ok (.aload_n 0, 1) := by decide +kernel
theorem dX11_show_170 : decode cX11_show 170 = .ok (.iconst 0, 1) := by decide +kernel
theorem dX11_show_171 : decode cX11_show 171 = .ok (.iload_n 1, 1) := by decide +kernel
theorem dX11_show_172 : decode cX11_show 172 = .ok (.iconst 3, 1) := by decide +kernel
theorem dX11_show_173 : decode cX11_show 173 = .ok (.if_icmp .ne 11, 3) := by decide +kernel
theorem dX11_show_176 : decode cX11_show 176 = .ok (.aload_n 0, 1) := by decide +kernel
theorem dX11_show_177 : decode cX11_show 177 = .ok (.invokevirtual 277, 3) := by decide +kernel
theorem dX11_show_180 : decode cX11_show 180 = .ok (.i2l, 1) := by decide +kernel
theorem dX11_show_181 : decode cX11_show 181 = .ok (.goto 8, 3) := by decide +kernel
theorem dX11_show_184 : decode cX11_show 184 = .ok (.aload_n 0, 1) := by decide +kernel
theorem dX11_show_185 : decode cX11_show 185 = .ok (.getfield 30, 3) := by decide +kernel
theorem dX11_show_188 : decode cX11_show 188 = .ok (.i2l, 1) := by decide +kernel
theorem dX11_show_189 : decode cX11_show 189 = .ok (.invokevirtual 182, 3) := by decide +kernel
theorem dX11_show_192 : decode cX11_show 192 = .ok (.aload_n 0, 1) := by decide +kernel
theorem dX11_show_193 : decode cX11_show 193 = .ok (.iconst 1, 1) := by decide +kernel
theorem dX11_show_194 : decode cX11_show 194 = .ok (.iload_n 1, 1) := by decide +kernel
theorem dX11_show_195 : decode cX11_show 195 = .ok (.iconst 3, 1) := by decide +kernel
theorem dX11_show_196 : decode cX11_show 196 = .ok (.if_icmp .ne 11, 3) := by decide +kernel
theorem dX11_show_199 : decode cX11_show 199 = .ok (.aload_n 0, 1) := by decide +kernel
theorem dX11_show_200 : decode cX11_show 200 = .ok (.getfield 240, 3) := by decide +kernel
theorem dX11_show_203 : decode cX11_show 203 = .ok (.i2l, 1) := by decide +kernel
theorem dX11_show_204 : decode cX11_show 204 = .ok (.goto 8, 3) := by decide +kernel
theorem dX11_show_207 : decode cX11_show 207 = .ok (.aload_n 0, 1) := by decide +kernel
theorem dX11_show_208 : decode cX11_show 208 = .ok (.getfield 33, 3) := by decide +kernel
theorem dX11_show_211 : decode cX11_show 211 = .ok (.i2l, 1) := by decide +kernel
theorem dX11_show_212 : decode cX11_show 212 = .ok (.invokevirtual 182, 3) := by decide +kernel
theorem dX11_show_215 : decode cX11_show 215 = .ok (.aload_n 0, 1) := by decide +kernel
theorem dX11_show_216 : decode cX11_show 216 = .ok (.invokevirtual 329, 3) := by decide +kernel
theorem dX11_show_219 : decode cX11_show 219 = .ok (.aload_n 0, 1) := by decide +kernel
theorem dX11_show_220 : decode cX11_show 220 = .ok (.iconst 0, 1) := by decide +kernel
theorem dX11_show_221 : decode cX11_show 221 = .ok (.iconst 1, 1) := by decide +kernel
theorem dX11_show_222 : decode cX11_show 222 = .ok (.invokevirtual 203, 3) := by decide +kernel
theorem dX11_show_225 : decode cX11_show 225 = .ok (.ifCond .lt 7, 3) := by decide +kernel
theorem dX11_show_228 : decode cX11_show 228 = .ok (.iconst 1, 1) := by decide +kernel
theorem dX11_show_229 : decode cX11_show 229 = .ok (.goto 4, 3) := by decide +kernel
theorem dX11_show_232 : decode cX11_show 232 = .ok (.iconst 0, 1) := by decide +kernel
theorem dX11_show_233 : decode cX11_show 233 = .ok (.ireturn, 1) := by decide +kernel
theorem dX11_limbs_0 : decode cX11_limbs 0 = .ok (.aload_n 0, 1) := by decide +kernel
theorem dX11_limbs_1 : decode cX11_limbs 1 = .ok (.getfield 79, 3) := by decide +kernel
theorem dX11_limbs_4 : decode cX11_limbs 4 = .ok (.iload_n 1, 1) := by decide +kernel
theorem dX11_limbs_5 : decode cX11_limbs 5 = .ok (.iaload, 1) := by decide +kernel
theorem dX11_limbs_6 : decode cX11_limbs 6 = .ok (.iconst 1, 1) := by decide +kernel
theorem dX11_limbs_7 : decode cX11_limbs 7 = .ok (.iadd, 1) := by decide +kernel
theorem dX11_limbs_8 : decode cX11_limbs 8 = .ok (.iconst 2, 1) := by decide +kernel
theorem dX11_limbs_9 : decode cX11_limbs 9 = .ok (.idiv, 1) := by decide +kernel
theorem dX11_limbs_10 : decode cX11_limbs 10 = .ok (.ireturn, 1) := by decide +kernel
theorem dX11_size_0 : decode cX11_size 0 = .ok (.aload_n 0, 1) := by decide +kernel
theorem dX11_size_1 : decode cX11_size 1 = .ok (.iload_n 1, 1) := by decide +kernel
theorem dX11_size_2 : decode cX11_size 2 = .ok (.ifCond .lt 8, 3) := by decide +kernel
theorem dX11_size_5 : decode cX11_size 5 = .ok (.iload_n 1, 1) := by decide +kernel
theorem dX11_size_6 : decode cX11_size 6 = .ok (.iconst 1, 1) := by decide +kernel
theorem dX11_size_7 : decode cX11_size 7 = .ok (.if_icmp .le 7, 3) := by decide +kernel
theorem dX11_size_10 : decode cX11_size 10 = .ok (.iconst 1, 1) := by decide +kernel
theorem dX11_size_11 : decode cX11_size 11 = .ok (.goto 4, 3) := by decide +kernel
theorem dX11_size_14 : decode cX11_size 14 = .ok (.iconst 0, 1) := by decide +kernel
theorem dX11_size_15 : decode cX11_size 15 = .ok (.putfield 1, 3) := by decide +kernel
theorem dX11_size_18 : decode cX11_size 18 = .ok (.aload_n 0, 1) := by decide +kernel
theorem dX11_size_19 : decode cX11_size 19 = .ok (.getfield 1, 3) := by decide +kernel
theorem dX11_size_22 : decode cX11_size 22 = .ok (.ifCond .le 7, 3) := by decide +kernel
theorem dX11_size_25 : decode cX11_size 25 = .ok (.iconst 0, 1) := by decide +kernel
theorem dX11_size_26 : decode cX11_size 26 = .ok (.goto 8, 3) := by decide +kernel
theorem dX11_size_29 : decode cX11_size 29 = .ok (.aload_n 0, 1) := by decide +kernel
theorem dX11_size_30 : decode cX11_size 30 = .ok (.iload_n 1, 1) := by decide +kernel
theorem dX11_size_31 : decode cX11_size 31 = .ok (.invokevirtual 332, 3) := by decide +kernel
theorem dX11_size_34 : decode cX11_size 34 = .ok (.ireturn, 1) := by decide +kernel
theorem dX11_limb_0 : decode cX11_limb 0 = .ok (.aload_n 0, 1) := by decide +kernel
theorem dX11_limb_1 : decode cX11_limb 1 = .ok (.iload_n 1, 1) := by decide +kernel
theorem dX11_limb_2 : decode cX11_limb 2 = .ok (.ifCond .lt 21, 3) := by decide +kernel
theorem dX11_limb_5 : decode cX11_limb 5 = .ok (.iload_n 1, 1) := by decide +kernel
theorem dX11_limb_6 : decode cX11_limb 6 = .ok (.iconst 1, 1) := by decide +kernel
theorem dX11_limb_7 : decode cX11_limb 7 = .ok (.if_icmp .gt 16, 3) := by decide +kernel
theorem dX11_limb_10 : decode cX11_limb 10 = .ok (.iload_n 2, 1) := by decide +kernel
theorem dX11_limb_11 : decode cX11_limb 11 = .ok (.ifCond .lt 12, 3) := by decide +kernel
theorem dX11_limb_14 : decode cX11_limb 14 = .ok (.iload_n 2, 1) := by decide +kernel
theorem dX11_limb_15 : decode cX11_limb 15 = .ok (.aload_n 0, 1) := by decide +kernel
theorem dX11_limb_16 : decode cX11_limb 16 = .ok (.iload_n 1, 1) := by decide +kernel
theorem dX11_limb_17 : decode cX11_limb 17 = .ok (.invokevirtual 332, 3) := by decide +kernel
theorem dX11_limb_20 : decode cX11_limb 20 = .ok (.if_icmp .lt 7, 3) := by decide +kernel
theorem dX11_limb_23 : decode cX11_limb 23 = .ok (.iconst 1, 1) := by decide +kernel
theorem dX11_limb_24 : decode cX11_limb 24 = .ok (.goto 4, 3) := by decide +kernel
theorem dX11_limb_27 : decode cX11_limb 27 = .ok (.iconst 0, 1) := by decide +kernel
theorem dX11_limb_28 : decode cX11_limb 28 = .ok (.putfield 1, 3) := by decide +kernel
theorem dX11_limb_31 : decode cX11_limb 31 = .ok (.aload_n 0, 1) := by decide +kernel
theorem dX11_limb_32 : decode cX11_limb 32 = .ok (.getfield 1, 3) := by decide +kernel
theorem dX11_limb_35 : decode cX11_limb 35 = .ok (.ifCond .le 5, 3) := by decide +kernel
theorem dX11_limb_38 : decode cX11_limb 38 = .ok (.iconst 0, 1) := by decide +kernel
theorem dX11_limb_39 : decode cX11_limb 39 = .ok (.ireturn, 1) := by decide +kernel
theorem dX11_limb_40 : decode cX11_limb 40 = .ok (.iconst 2, 1) := by decide +kernel
theorem dX11_limb_41 : decode cX11_limb 41 = .ok (.iload_n 2, 1) := by decide +kernel
theorem dX11_limb_42 : decode cX11_limb 42 = .ok (.imul, 1) := by decide +kernel
theorem dX11_limb_43 : decode cX11_limb 43 = .ok (.iconst 1, 1) := by decide +kernel
theorem dX11_limb_44 : decode cX11_limb 44 = .ok (.iadd, 1) := by decide +kernel
theorem dX11_limb_45 : decode cX11_limb 45 = .ok (.aload_n 0, 1) := by decide +kernel
theorem dX11_limb_46 : decode cX11_limb 46 = .ok (.getfield 79, 3) := by decide +kernel
theorem dX11_limb_49 : decode cX11_limb 49 = .ok (.iload_n 1, 1) := by decide +kernel
theorem dX11_limb_50 : decode cX11_limb 50 = .ok (.iaload, 1) := by decide +kernel
theorem dX11_limb_51 : decode cX11_limb 51 = .ok (.if_icmp .ge 22, 3) := by decide +kernel
theorem dX11_limb_54 : decode cX11_limb 54 = .ok (.aload_n 0, 1) := by decide +kernel
theorem dX11_limb_55 : decode cX11_limb 55 = .ok (.getfield 76, 3) := by decide +kernel
theorem dX11_limb_58 : decode cX11_limb 58 = .ok (.sipush 1200, 3) := by decide +kernel
theorem dX11_limb_61 : decode cX11_limb 61 = .ok (.iload_n 1, 1) := by decide +kernel
theorem dX11_limb_62 : decode cX11_limb 62 = .ok (.imul, 1) := by decide +kernel
theorem dX11_limb_63 : decode cX11_limb 63 = .ok (.iconst 2, 1) := by decide +kernel
theorem dX11_limb_64 : decode cX11_limb 64 = .ok (.iload_n 2, 1) := by decide +kernel
theorem dX11_limb_65 : decode cX11_limb 65 = .ok (.imul, 1) := by decide +kernel
theorem dX11_limb_66 : decode cX11_limb 66 = .ok (.iadd, 1) := by decide +kernel
theorem dX11_limb_67 : decode cX11_limb 67 = .ok (.iconst 1, 1) := by decide +kernel
theorem dX11_limb_68 : decode cX11_limb 68 = .ok (.iadd, 1) := by decide +kernel
theorem dX11_limb_69 : decode cX11_limb 69 = .ok (.iaload, 1) := by decide +kernel
theorem dX11_limb_70 : decode cX11_limb 70 = .ok (.goto 4, 3) := by decide +kernel
theorem dX11_limb_73 : decode cX11_limb 73 = .ok (.iconst 0, 1) := by decide +kernel
theorem dX11_limb_74 : decode cX11_limb 74 = .ok (.istore_n 3, 1) := by decide +kernel
theorem dX11_limb_75 : decode cX11_limb 75 = .ok (.iload_n 3, 1) := by decide +kernel
theorem dX11_limb_76 : decode cX11_limb 76 = .ok (.bipush 16, 2) := by decide +kernel
theorem dX11_limb_78 : decode cX11_limb 78 = .ok (.ishl, 1) := by decide +kernel
theorem dX11_limb_79 : decode cX11_limb 79 = .ok (.aload_n 0, 1) := by decide +kernel
theorem dX11_limb_80 : decode cX11_limb 80 = .ok (.getfield 76, 3) := by decide +kernel
theorem dX11_limb_83 : decode cX11_limb 83 = .ok (.sipush 1200, 3) := by decide +kernel
theorem dX11_limb_86 : decode cX11_limb 86 = .ok (.iload_n 1, 1) := by decide +kernel
theorem dX11_limb_87 : decode cX11_limb 87 = .ok (.imul, 1) := by decide +kernel
theorem dX11_limb_88 : decode cX11_limb 88 = .ok (.iconst 2, 1) := by decide +kernel
theorem dX11_limb_89 : decode cX11_limb 89 = .ok (.iload_n 2, 1) := by decide +kernel
theorem dX11_limb_90 : decode cX11_limb 90 = .ok (.imul, 1) := by decide +kernel
theorem dX11_limb_91 : decode cX11_limb 91 = .ok (.iadd, 1) := by decide +kernel
theorem dX11_limb_92 : decode cX11_limb 92 = .ok (.iaload, 1) := by decide +kernel
theorem dX11_limb_93 : decode cX11_limb 93 = .ok (.ior, 1) := by decide +kernel
theorem dX11_limb_94 : decode cX11_limb 94 = .ok (.ireturn, 1) := by decide +kernel
