theorem dL_refuses_52 : decode cL_refuses 52 = .ok (.iconst 0, 1) := by decide +kernel
theorem dL_refuses_53 : decode cL_refuses 53 = .ok (.iconst 0, 1) := by decide +kernel
theorem dL_refuses_54 : decode cL_refuses 54 = .ok (.invokestatic 182, 3) := by decide +kernel
theorem dL_refuses_57 : decode cL_refuses 57 = .ok (.ldc 15, 2) := by decide +kernel
theorem dL_refuses_59 : decode cL_refuses 59 = .ok (.if_icmp .ne 113, 3) := by decide +kernel
theorem dL_refuses_62 : decode cL_refuses 62 = .ok (.aload_n 0, 1) := by decide +kernel
theorem dL_refuses_63 : decode cL_refuses 63 = .ok (.iconst 4, 1) := by decide +kernel
theorem dL_refuses_64 : decode cL_refuses 64 = .ok (.iload_n 2, 1) := by decide +kernel
theorem dL_refuses_65 : decode cL_refuses 65 = .ok (.iconst 0, 1) := by decide +kernel
theorem dL_refuses_66 : decode cL_refuses 66 = .ok (.bipush 9, 2) := by decide +kernel
theorem dL_refuses_68 : decode cL_refuses 68 = .ok (.invokestatic 182, 3) := by decide +kernel
theorem dL_refuses_71 : decode cL_refuses 71 = .ok (.ldc 15, 2) := by decide +kernel
theorem dL_refuses_73 : decode cL_refuses 73 = .ok (.if_icmp .ne 99, 3) := by decide +kernel
theorem dL_refuses_76 : decode cL_refuses 76 = .ok (.aload_n 0, 1) := by decide +kernel
theorem dL_refuses_77 : decode cL_refuses 77 = .ok (.iconst 5, 1) := by decide +kernel
theorem dL_refuses_78 : decode cL_refuses 78 = .ok (.bipush 10, 2) := by decide +kernel
theorem dL_refuses_80 : decode cL_refuses 80 = .ok (.iload_n 1, 1) := by decide +kernel
theorem dL_refuses_81 : decode cL_refuses 81 = .ok (.bipush 9, 2) := by decide +kernel
theorem dL_refuses_83 : decode cL_refuses 83 = .ok (.irem, 1) := by decide +kernel
theorem dL_refuses_84 : decode cL_refuses 84 = .ok (.iadd, 1) := by decide +kernel
theorem dL_refuses_85 : decode cL_refuses 85 = .ok (.iconst 0, 1) := by decide +kernel
theorem dL_refuses_86 : decode cL_refuses 86 = .ok (.iconst 0, 1) := by decide +kernel
theorem dL_refuses_87 : decode cL_refuses 87 = .ok (.invokestatic 182, 3) := by decide +kernel
theorem dL_refuses_90 : decode cL_refuses 90 = .ok (.ldc 18, 2) := by decide +kernel
theorem dL_refuses_92 : decode cL_refuses 92 = .ok (.if_icmp .ne 80, 3) := by decide +kernel
theorem dL_refuses_95 : decode cL_refuses 95 = .ok (.aload_n 0, 1) := by decide +kernel
theorem dL_refuses_96 : decode cL_refuses 96 = .ok (.iconst 5, 1) := by decide +kernel
theorem dL_refuses_97 : decode cL_refuses 97 = .ok (.iconst 0, 1) := by decide +kernel
theorem dL_refuses_98 : decode cL_refuses 98 = .ok (.iconst 4, 1) := by decide +kernel
theorem dL_refuses_99 : decode cL_refuses 99 = .ok (.iconst 0, 1) := by decide +kernel
theorem dL_refuses_100 : decode cL_refuses 100 = .ok (.invokestatic 182, 3) := by decide +kernel
theorem dL_refuses_103 : decode cL_refuses 103 = .ok (.ldc 18, 2) := by decide +kernel
theorem dL_refuses_105 : decode cL_refuses 105 = .ok (.if_icmp .ne 67, 3) := by decide +kernel
theorem dL_refuses_108 : decode cL_refuses 108 = .ok (.aload_n 0, 1) := by decide +kernel
theorem dL_refuses_109 : decode cL_refuses 109 = .ok (.bipush 6, 2) := by decide +kernel
theorem dL_refuses_111 : decode cL_refuses 111 = .ok (.iconst 3, 1) := by decide +kernel
theorem dL_refuses_112 : decode cL_refuses 112 = .ok (.iload_n 1, 1) := by decide +kernel
theorem dL_refuses_113 : decode cL_refuses 113 = .ok (.bipush 9, 2) := by decide +kernel
theorem dL_refuses_115 : decode cL_refuses 115 = .ok (.irem, 1) := by decide +kernel
theorem dL_refuses_116 : decode cL_refuses 116 = .ok (.iadd, 1) := by decide +kernel
theorem dL_refuses_117 : decode cL_refuses 117 = .ok (.iconst 0, 1) := by decide +kernel
theorem dL_refuses_118 : decode cL_refuses 118 = .ok (.iconst 0, 1) := by decide +kernel
theorem dL_refuses_119 : decode cL_refuses 119 = .ok (.invokestatic 182, 3) := by decide +kernel
theorem dL_refuses_122 : decode cL_refuses 122 = .ok (.ldc 18, 2) := by decide +kernel
theorem dL_refuses_124 : decode cL_refuses 124 = .ok (.if_icmp .ne 48, 3) := by decide +kernel
theorem dL_refuses_127 : decode cL_refuses 127 = .ok (.aload_n 0, 1) := by decide +kernel
theorem dL_refuses_128 : decode cL_refuses 128 = .ok (.bipush 7, 2) := by decide +kernel
theorem dL_refuses_130 : decode cL_refuses 130 = .ok (.sipush 10000, 3) := by decide +kernel
theorem dL_refuses_133 : decode cL_refuses 133 = .ok (.iload_n 1, 1) := by decide +kernel
theorem dL_refuses_134 : decode cL_refuses 134 = .ok (.bipush 9, 2) := by decide +kernel
theorem dL_refuses_136 : decode cL_refuses 136 = .ok (.irem, 1) := by decide +kernel
theorem dL_refuses_137 : decode cL_refuses 137 = .ok (.iadd, 1) := by decide +kernel
theorem dL_refuses_138 : decode cL_refuses 138 = .ok (.iconst 0, 1) := by decide +kernel
theorem dL_refuses_139 : decode cL_refuses 139 = .ok (.iconst 0, 1) := by decide +kernel
theorem dL_refuses_140 : decode cL_refuses 140 = .ok (.invokestatic 182, 3) := by decide +kernel
theorem dL_refuses_143 : decode cL_refuses 143 = .ok (.ldc 18, 2) := by decide +kernel
theorem dL_refuses_145 : decode cL_refuses 145 = .ok (.if_icmp .ne 27, 3) := by decide +kernel
theorem dL_refuses_148 : decode cL_refuses 148 = .ok (.iload_n 2, 1) := by decide +kernel
theorem dL_refuses_149 : decode cL_refuses 149 = .ok (.bipush 7, 2) := by decide +kernel
theorem dL_refuses_151 : decode cL_refuses 151 = .ok (.if_icmp .lt 17, 3) := by decide +kernel
theorem dL_refuses_154 : decode cL_refuses 154 = .ok (.aload_n 0, 1) := by decide +kernel
theorem dL_refuses_155 : decode cL_refuses 155 = .ok (.bipush 7, 2) := by decide +kernel
theorem dL_refuses_157 : decode cL_refuses 157 = .ok (.iconst 5, 1) := by decide +kernel
theorem dL_refuses_158 : decode cL_refuses 158 = .ok (.iconst 0, 1) := by decide +kernel
theorem dL_refuses_159 : decode cL_refuses 159 = .ok (.iconst 0, 1) := by decide +kernel
theorem dL_refuses_160 : decode cL_refuses 160 = .ok (.invokestatic 182, 3) := by decide +kernel
theorem dL_refuses_163 : decode cL_refuses 163 = .ok (.ldc 53, 2) := by decide +kernel
theorem dL_refuses_165 : decode cL_refuses 165 = .ok (.if_icmp .ne 7, 3) := by decide +kernel
theorem dL_refuses_168 : decode cL_refuses 168 = .ok (.iconst 1, 1) := by decide +kernel
theorem dL_refuses_169 : decode cL_refuses 169 = .ok (.goto 4, 3) := by decide +kernel
theorem dL_refuses_172 : decode cL_refuses 172 = .ok (.iconst 0, 1) := by decide +kernel
theorem dL_refuses_173 : decode cL_refuses 173 = .ok (.istore 4, 2) := by decide +kernel
theorem dL_refuses_175 : decode cL_refuses 175 = .ok (.iload 4, 2) := by decide +kernel
theorem dL_refuses_177 : decode cL_refuses 177 = .ok (.ifCond .eq 157, 3) := by decide +kernel
theorem dL_refuses_180 : decode cL_refuses 180 = .ok (.aload_n 0, 1) := by decide +kernel
theorem dL_refuses_181 : decode cL_refuses 181 = .ok (.bipush 8, 2) := by decide +kernel
theorem dL_refuses_183 : decode cL_refuses 183 = .ok (.iconst (-1), 1) := by decide +kernel
theorem dL_refuses_184 : decode cL_refuses 184 = .ok (.iload_n 1, 1) := by decide +kernel
theorem dL_refuses_185 : decode cL_refuses 185 = .ok (.bipush 9, 2) := by decide +kernel
theorem dL_refuses_187 : decode cL_refuses 187 = .ok (.irem, 1) := by decide +kernel
theorem dL_refuses_188 : decode cL_refuses 188 = .ok (.isub, 1) := by decide +kernel
theorem dL_refuses_189 : decode cL_refuses 189 = .ok (.iconst 0, 1) := by decide +kernel
theorem dL_refuses_190 : decode cL_refuses 190 = .ok (.iconst 0, 1) := by decide +kernel
theorem dL_refuses_191 : decode cL_refuses 191 = .ok (.invokestatic 182, 3) := by decide +kernel
theorem dL_refuses_194 : decode cL_refuses 194 = .ok (.ldc 15, 2) := by decide +kernel
theorem dL_refuses_196 : decode cL_refuses 196 = .ok (.if_icmp .ne 138, 3) := by decide +kernel
theorem dL_refuses_199 : decode cL_refuses 199 = .ok (.aload_n 0, 1) := by decide +kernel
theorem dL_refuses_200 : decode cL_refuses 200 = .ok (.iconst 0, 1) := by decide +kernel
theorem dL_refuses_201 : decode cL_refuses 201 = .ok (.iload_n 2, 1) := by decide +kernel
theorem dL_refuses_202 : decode cL_refuses 202 = .ok (.iconst 0, 1) := by decide +kernel
theorem dL_refuses_203 : decode cL_refuses 203 = .ok (.iconst 0, 1) := by decide +kernel
theorem dL_refuses_204 : decode cL_refuses 204 = .ok (.invokestatic 190, 3) := by decide +kernel
theorem dL_refuses_207 : decode cL_refuses 207 = .ok (.ldc 15, 2) := by decide +kernel
theorem dL_refuses_209 : decode cL_refuses 209 = .ok (.if_icmp .ne 125, 3) := by decide +kernel
theorem dL_refuses_212 : decode cL_refuses 212 = .ok (.aload_n 0, 1) := by decide +kernel
theorem dL_refuses_213 : decode cL_refuses 213 = .ok (.bipush 9, 2) := by decide +kernel
theorem dL_refuses_215 : decode cL_refuses 215 = .ok (.iload_n 2, 1) := by decide +kernel
theorem dL_refuses_216 : decode cL_refuses 216 = .ok (.iload_n 2, 1) := by decide +kernel
theorem dL_refuses_217 : decode cL_refuses 217 = .ok (.iconst 0, 1) := by decide +kernel
theorem dL_refuses_218 : decode cL_refuses 218 = .ok (.invokestatic 182, 3) := by decide +kernel
theorem dL_refuses_221 : decode cL_refuses 221 = .ok (.ldc 15, 2) := by decide +kernel
theorem dL_refuses_223 : decode cL_refuses 223 = .ok (.if_icmp .ne 111, 3) := by decide +kernel
theorem dL_refuses_226 : decode cL_refuses 226 = .ok (.aload_n 0, 1) := by decide +kernel
theorem dL_refuses_227 : decode cL_refuses 227 = .ok (.bipush 10, 2) := by decide +kernel
theorem dL_refuses_229 : decode cL_refuses 229 = .ok (.iload_n 3, 1) := by decide +kernel
theorem dL_refuses_230 : decode cL_refuses 230 = .ok (.iload_n 1, 1) := by decide +kernel
theorem dL_refuses_231 : decode cL_refuses 231 = .ok (.bipush 9, 2) := by decide +kernel
theorem dL_refuses_233 : decode cL_refuses 233 = .ok (.irem, 1) := by decide +kernel
theorem dL_refuses_234 : decode cL_refuses 234 = .ok (.iadd, 1) := by decide +kernel
theorem dL_refuses_235 : decode cL_refuses 235 = .ok (.iconst 0, 1) := by decide +kernel
theorem dL_refuses_236 : decode cL_refuses 236 = .ok (.iconst 0, 1) := by decide +kernel
theorem dL_refuses_237 : decode cL_refuses 237 = .ok (.invokestatic 182, 3) := by decide +kernel
theorem dL_refuses_240 : decode cL_refuses 240 = .ok (.ldc 15, 2) := by decide +kernel
theorem dL_refuses_242 : decode cL_refuses 242 = .ok (.if_icmp .ne 92, 3) := by decide +kernel
theorem dL_refuses_245 : decode cL_refuses 245 = .ok (.aload_n 0, 1) := by decide +kernel
theorem dL_refuses_246 : decode cL_refuses 246 = .ok (.bipush 10, 2) := by decide +kernel
theorem dL_refuses_248 : decode cL_refuses 248 = .ok (.iconst 0, 1) := by decide +kernel
theorem dL_refuses_249 : decode cL_refuses 249 = .ok (.iconst 0, 1) := by decide +kernel
theorem dL_refuses_250 : decode cL_refuses 250 = .ok (.iconst 0, 1) := by decide +kernel
theorem dL_refuses_251 : decode cL_refuses 251 = .ok (.invokestatic 182, 3) := by decide +kernel
theorem dL_refuses_254 : decode cL_refuses 254 = .ok (.ldc 18, 2) := by decide +kernel
theorem dL_refuses_256 : decode cL_refuses 256 = .ok (.if_icmp .ne 78, 3) := by decide +kernel
theorem dL_refuses_259 : decode cL_refuses 259 = .ok (.aload_n 0, 1) := by decide +kernel
theorem dL_refuses_260 : decode cL_refuses 260 = .ok (.bipush 10, 2) := by decide +kernel
theorem dL_refuses_262 : decode cL_refuses 262 = .ok (.iconst (-1), 1) := by decide +kernel
theorem dL_refuses_263 : decode cL_refuses 263 = .ok (.iload_n 1, 1) := by decide +kernel
theorem dL_refuses_264 : decode cL_refuses 264 = .ok (.isub, 1) := by decide +kernel
theorem dL_refuses_265 : decode cL_refuses 265 = .ok (.iconst 0, 1) := by decide +kernel
theorem dL_refuses_266 : decode cL_refuses 266 = .ok (.iconst 0, 1) := by decide +kernel
theorem dL_refuses_267 : decode cL_refuses 267 = .ok (.invokestatic 182, 3) := by decide +kernel
theorem dL_refuses_270 : decode cL_refuses 270 = .ok (.ldc 15, 2) := by decide +kernel
theorem dL_refuses_272 : decode cL_refuses 272 = .ok (.if_icmp .ne 62, 3) := by decide +kernel
theorem dL_refuses_275 : decode cL_refuses 275 = .ok (.aload_n 0, 1) := by decide +kernel
theorem dL_refuses_276 : decode cL_refuses 276 = .ok (.bipush 11, 2) := by decide +kernel
theorem dL_refuses_278 : decode cL_refuses 278 = .ok (.bipush 21, 2) := by decide +kernel
theorem dL_refuses_280 : decode cL_refuses 280 = .ok (.iload_n 1, 1) := by decide +kernel
theorem dL_refuses_281 : decode cL_refuses 281 = .ok (.bipush 9, 2) := by decide +kernel
theorem dL_refuses_283 : decode cL_refuses 283 = .ok (.irem, 1) := by decide +kernel
theorem dL_refuses_284 : decode cL_refuses 284 = .ok (.iadd, 1) := by decide +kernel
theorem dL_refuses_285 : decode cL_refuses 285 = .ok (.iconst 0, 1) := by decide +kernel
theorem dL_refuses_286 : decode cL_refuses 286 = .ok (.iconst 0, 1) := by decide +kernel
theorem dL_refuses_287 : decode cL_refuses 287 = .ok (.invokestatic 182, 3) := by decide +kernel
theorem dL_refuses_290 : decode cL_refuses 290 = .ok (.ldc 18, 2) := by decide +kernel
theorem dL_refuses_292 : decode cL_refuses 292 = .ok (.if_icmp .ne 42, 3) := by decide +kernel
theorem dL_refuses_295 : decode cL_refuses 295 = .ok (.aload_n 0, 1) := by decide +kernel
theorem dL_refuses_296 : decode cL_refuses 296 = .ok (.bipush 12, 2) := by decide +kernel
theorem dL_refuses_298 : decode cL_refuses 298 = .ok (.iconst 0, 1) := by decide +kernel
theorem dL_refuses_299 : decode cL_refuses 299 = .ok (.sipush 1001, 3) := by decide +kernel
theorem dL_refuses_302 : decode cL_refuses 302 = .ok (.iload_n 1, 1) := by decide +kernel
theorem dL_refuses_303 : decode cL_refuses 303 = .ok (.bipush 9, 2) := by decide +kernel
theorem dL_refuses_305 : decode cL_refuses 305 = .ok (.irem, 1) := by decide +kernel
theorem dL_refuses_306 : decode cL_refuses 306 = .ok (.iadd, 1) := by decide +kernel
theorem dL_refuses_307 : decode cL_refuses 307 = .ok (.iconst 0, 1) := by decide +kernel
theorem dL_refuses_308 : decode cL_refuses 308 = .ok (.invokestatic 182, 3) := by decide +kernel
theorem dL_refuses_311 : decode cL_refuses 311 = .ok (.ldc 18, 2) := by decide +kernel
theorem dL_refuses_313 : decode cL_refuses 313 = .ok (.if_icmp .ne 21, 3) := by decide +kernel
theorem dL_refuses_316 : decode cL_refuses 316 = .ok (.aload_n 0, 1) := by decide +kernel
theorem dL_refuses_317 : decode cL_refuses 317 = .ok (.bipush 12, 2) := by decide +kernel
theorem dL_refuses_319 : decode cL_refuses 319 = .ok (.iconst 2, 1) := by decide +kernel
theorem dL_refuses_320 : decode cL_refuses 320 = .ok (.iconst (-1), 1) := by decide +kernel
theorem dL_refuses_321 : decode cL_refuses 321 = .ok (.iconst 0, 1) := by decide +kernel
theorem dL_refuses_322 : decode cL_refuses 322 = .ok (.invokestatic 182, 3) := by decide +kernel
theorem dL_refuses_325 : decode cL_refuses 325 = .ok (.ldc 18, 2) := by decide +kernel
theorem dL_refuses_327 : decode cL_refuses 327 = .ok (.if_icmp .ne 7, 3) := by decide +kernel
theorem dL_refuses_330 : decode cL_refuses 330 = .ok (.iconst 1, 1) := by decide +kernel
theorem dL_refuses_331 : decode cL_refuses 331 = .ok (.goto 4, 3) := by decide +kernel
theorem dL_refuses_334 : decode cL_refuses 334 = .ok (.iconst 0, 1) := by decide +kernel
theorem dL_refuses_335 : decode cL_refuses 335 = .ok (.istore 4, 2) := by decide +kernel
theorem dL_refuses_337 : decode cL_refuses 337 = .ok (.iload 4, 2) := by decide +kernel
theorem dL_refuses_339 : decode cL_refuses 339 = .ok (.ifCond .eq 180, 3) := by decide +kernel
theorem dL_refuses_342 : decode cL_refuses 342 = .ok (.aload_n 0, 1) := by decide +kernel
theorem dL_refuses_343 : decode cL_refuses 343 = .ok (.iload_n 3, 1) := by decide +kernel
theorem dL_refuses_344 : decode cL_refuses 344 = .ok (.bipush 9, 2) := by decide +kernel
theorem dL_refuses_346 : decode cL_refuses 346 = .ok (.invokestatic 193, 3) := by decide +kernel
theorem dL_refuses_349 : decode cL_refuses 349 = .ok (.ldc2_w 29, 3) := by decide +kernel
theorem dL_refuses_352 : decode cL_refuses 352 = .ok (.lcmp, 1) := by decide +kernel
theorem dL_refuses_353 : decode cL_refuses 353 = .ok (.ifCond .ne 166, 3) := by decide +kernel
theorem dL_refuses_356 : decode cL_refuses 356 = .ok (.aload_n 0, 1) := by decide +kernel
theorem dL_refuses_357 : decode cL_refuses 357 = .ok (.iload_n 1, 1) := by decide +kernel
theorem dL_refuses_358 : decode cL_refuses 358 = .ok (.iload_n 3, 1) := by decide +kernel
theorem dL_refuses_359 : decode cL_refuses 359 = .ok (.irem, 1) := by decide +kernel
theorem dL_refuses_360 : decode cL_refuses 360 = .ok (.iconst 3, 1) := by decide +kernel
theorem dL_refuses_361 : decode cL_refuses 361 = .ok (.iload_n 1, 1) := by decide +kernel
theorem dL_refuses_362 : decode cL_refuses 362 = .ok (.bipush 9, 2) := by decide +kernel
theorem dL_refuses_364 : decode cL_refuses 364 = .ok (.irem, 1) := by decide +kernel
theorem dL_refuses_365 : decode cL_refuses 365 = .ok (.iadd, 1) := by decide +kernel
theorem dL_refuses_366 : decode cL_refuses 366 = .ok (.invokestatic 193, 3) := by decide +kernel
theorem dL_refuses_369 : decode cL_refuses 369 = .ok (.ldc2_w 23, 3) := by decide +kernel
theorem dL_refuses_372 : decode cL_refuses 372 = .ok (.lcmp, 1) := by decide +kernel
theorem dL_refuses_373 : decode cL_refuses 373 = .ok (.ifCond .ne 146, 3) := by decide +kernel
theorem dL_refuses_376 : decode cL_refuses 376 = .ok (.aload_n 0, 1) := by decide +kernel
theorem dL_refuses_377 : decode cL_refuses 377 = .ok (.bipush 14, 2) := by decide +kernel
theorem dL_refuses_379 : decode cL_refuses 379 = .ok (.iconst (-1), 1) := by decide +kernel
theorem dL_refuses_380 : decode cL_refuses 380 = .ok (.iconst 0, 1) := by decide +kernel
theorem dL_refuses_381 : decode cL_refuses 381 = .ok (.iconst 0, 1) := by decide +kernel
theorem dL_refuses_382 : decode cL_refuses 382 = .ok (.invokestatic 182, 3) := by decide +kernel
theorem dL_refuses_385 : decode cL_refuses 385 = .ok (.ldc 15, 2) := by decide +kernel
theorem dL_refuses_387 : decode cL_refuses 387 = .ok (.if_icmp .ne 132, 3) := by decide +kernel
theorem dL_refuses_390 : decode cL_refuses 390 = .ok (.aload_n 0, 1) := by decide +kernel
theorem dL_refuses_391 : decode cL_refuses 391 = .ok (.bipush 14, 2) := by decide +kernel
theorem dL_refuses_393 : decode cL_refuses 393 = .ok (.iload_n 1, 1) := by decide +kernel
theorem dL_refuses_394 : decode cL_refuses 394 = .ok (.iload_n 3, 1) := by decide +kernel
theorem dL_refuses_395 : decode cL_refuses 395 = .ok (.irem, 1) := by decide +kernel
theorem dL_refuses_396 : decode cL_refuses 396 = .ok (.iconst 0, 1) := by decide +kernel
theorem dL_refuses_397 : decode cL_refuses 397 = .ok (.iconst (-1), 1) := by decide +kernel
theorem dL_refuses_398 : decode cL_refuses 398 = .ok (.invokestatic 182, 3) := by decide +kernel
theorem dL_refuses_401 : decode cL_refuses 401 = .ok (.ldc 18, 2) := by decide +kernel
theorem dL_refuses_403 : decode cL_refuses 403 = .ok (.if_icmp .ne 116, 3) := by decide +kernel
theorem dL_refuses_406 : decode cL_refuses 406 = .ok (.aload_n 0, 1) := by decide +kernel
theorem dL_refuses_407 : decode cL_refuses 407 = .ok (.bipush 15, 2) := by decide +kernel
theorem dL_refuses_409 : decode cL_refuses 409 = .ok (.iload_n 3, 1) := by decide +kernel
theorem dL_refuses_410 : decode cL_refuses 410 = .ok (.iconst 0, 1) := by decide +kernel
theorem dL_refuses_411 : decode cL_refuses 411 = .ok (.iconst 0, 1) := by decide +kernel
theorem dL_refuses_412 : decode cL_refuses 412 = .ok (.invokestatic 182, 3) := by decide +kernel
theorem dL_refuses_415 : decode cL_refuses 415 = .ok (.ldc 15, 2) := by decide +kernel
theorem dL_refuses_417 : decode cL_refuses 417 = .ok (.if_icmp .ne 102, 3) := by decide +kernel
theorem dL_refuses_420 : decode cL_refuses 420 = .ok (.aload_n 0, 1) := by decide +kernel
theorem dL_refuses_421 : decode cL_refuses 421 = .ok (.bipush 15, 2) := by decide +kernel
theorem dL_refuses_423 : decode cL_refuses 423 = .ok (.iload_n 1, 1) := by decide +kernel
theorem dL_refuses_424 : decode cL_refuses 424 = .ok (.iload_n 3, 1) := by decide +kernel
theorem dL_refuses_425 : decode cL_refuses 425 = .ok (.irem, 1) := by decide +kernel
theorem dL_refuses_426 : decode cL_refuses 426 = .ok (.iconst 0, 1) := by decide +kernel
theorem dL_refuses_427 : decode cL_refuses 427 = .ok (.iconst 0, 1) := by decide +kernel
theorem dL_refuses_428 : decode cL_refuses 428 = .ok (.invokestatic 182, 3) := by decide +kernel
theorem dL_refuses_431 : decode cL_refuses 431 = .ok (.ldc 18, 2) := by decide +kernel
theorem dL_refuses_433 : decode cL_refuses 433 = .ok (.if_icmp .ne 86, 3) := by decide +kernel
theorem dL_refuses_436 : decode cL_refuses 436 = .ok (.aload_n 0, 1) := by decide +kernel
theorem dL_refuses_437 : decode cL_refuses 437 = .ok (.iload_n 3, 1) := by decide +kernel
theorem dL_refuses_438 : decode cL_refuses 438 = .ok (.bipush 9, 2) := by decide +kernel
theorem dL_refuses_440 : decode cL_refuses 440 = .ok (.invokestatic 197, 3) := by decide +kernel
theorem dL_refuses_443 : decode cL_refuses 443 = .ok (.ldc2_w 29, 3) := by decide +kernel
theorem dL_refuses_446 : decode cL_refuses 446 = .ok (.lcmp, 1) := by decide +kernel
theorem dL_refuses_447 : decode cL_refuses 447 = .ok (.ifCond .ne 72, 3) := by decide +kernel
theorem dL_refuses_450 : decode cL_refuses 450 = .ok (.aload_n 0, 1) := by decide +kernel
theorem dL_refuses_451 : decode cL_refuses 451 = .ok (.iload_n 1, 1) := by decide +kernel
theorem dL_refuses_452 : decode cL_refuses 452 = .ok (.iload_n 3, 1) := by decide +kernel
theorem dL_refuses_453 : decode cL_refuses 453 = .ok (.irem, 1) := by decide +kernel
theorem dL_refuses_454 : decode cL_refuses 454 = .ok (.iconst 3, 1) := by decide +kernel
theorem dL_refuses_455 : decode cL_refuses 455 = .ok (.iload_n 1, 1) := by decide +kernel
theorem dL_refuses_456 : decode cL_refuses 456 = .ok (.bipush 9, 2) := by decide +kernel
theorem dL_refuses_458 : decode cL_refuses 458 = .ok (.irem, 1) := by decide +kernel
theorem dL_refuses_459 : decode cL_refuses 459 = .ok (.iadd, 1) := by decide +kernel
theorem dL_refuses_460 : decode cL_refuses 460 = .ok (.invokestatic 197, 3) := by decide +kernel
theorem dL_refuses_463 : decode cL_refuses 463 = .ok (.ldc2_w 23, 3) := by decide +kernel
theorem dL_refuses_466 : decode cL_refuses 466 = .ok (.lcmp, 1) := by decide +kernel
theorem dL_refuses_467 : decode cL_refuses 467 = .ok (.ifCond .ne 52, 3) := by decide +kernel
theorem dL_refuses_470 : decode cL_refuses 470 = .ok (.aload_n 0, 1) := by decide +kernel
theorem dL_refuses_471 : decode cL_refuses 471 = .ok (.iconst 3, 1) := by decide +kernel
theorem dL_refuses_472 : decode cL_refuses 472 = .ok (.iload_n 1, 1) := by decide +kernel
theorem dL_refuses_473 : decode cL_refuses 473 = .ok (.bipush 9, 2) := by decide +kernel
theorem dL_refuses_475 : decode cL_refuses 475 = .ok (.irem, 1) := by decide +kernel
theorem dL_refuses_476 : decode cL_refuses 476 = .ok (.iadd, 1) := by decide +kernel
theorem dL_refuses_477 : decode cL_refuses 477 = .ok (.invokestatic 200, 3) := by decide +kernel
theorem dL_refuses_480 : decode cL_refuses 480 = .ok (.ldc2_w 23, 3) := by decide +kernel
theorem dL_refuses_483 : decode cL_refuses 483 = .ok (.lcmp, 1) := by decide +kernel
theorem dL_refuses_484 : decode cL_refuses 484 = .ok (.ifCond .ne 35, 3) := by decide +kernel
theorem dL_refuses_487 : decode cL_refuses 487 = .ok (.aload_n 0, 1) := by decide +kernel
theorem dL_refuses_488 : decode cL_refuses 488 = .ok (.bipush 16, 2) := by decide +kernel
theorem dL_refuses_490 : decode cL_refuses 490 = .ok (.iload_n 2, 1) := by decide +kernel
theorem dL_refuses_491 : decode cL_refuses 491 = .ok (.iload_n 2, 1) := by decide +kernel
theorem dL_refuses_492 : decode cL_refuses 492 = .ok (.iconst 0, 1) := by decide +kernel
theorem dL_refuses_493 : decode cL_refuses 493 = .ok (.invokestatic 182, 3) := by decide +kernel
theorem dL_refuses_496 : decode cL_refuses 496 = .ok (.ldc 15, 2) := by decide +kernel
theorem dL_refuses_498 : decode cL_refuses 498 = .ok (.if_icmp .ne 21, 3) := by decide +kernel
theorem dL_refuses_501 : decode cL_refuses 501 = .ok (.aload_n 0, 1) := by decide +kernel
theorem dL_refuses_502 : decode cL_refuses 502 = .ok (.bipush 17, 2) := by decide +kernel
theorem dL_refuses_504 : decode cL_refuses 504 = .ok (.iconst 0, 1) := by decide +kernel
theorem dL_refuses_505 : decode cL_refuses 505 = .ok (.iconst 0, 1) := by decide +kernel
theorem dL_refuses_506 : decode cL_refuses 506 = .ok (.iconst 0, 1) := by decide +kernel
theorem dL_refuses_507 : decode cL_refuses 507 = .ok (.invokestatic 182, 3) := by decide +kernel
theorem dL_refuses_510 : decode cL_refuses 510 = .ok (.ldc 18, 2) := by decide +kernel
theorem dL_refuses_512 : decode cL_refuses 512 = .ok (.if_icmp .ne 7, 3) := by decide +kernel
theorem dL_refuses_515 : decode cL_refuses 515 = .ok (.iconst 1, 1) := by decide +kernel
theorem dL_refuses_516 : decode cL_refuses 516 = .ok (.goto 4, 3) := by decide +kernel
theorem dL_refuses_519 : decode cL_refuses 519 = .ok (.iconst 0, 1) := by decide +kernel
theorem dL_refuses_520 : decode cL_refuses 520 = .ok (.istore 4, 2) := by decide +kernel
theorem dL_refuses_522 : decode cL_refuses 522 = .ok (.iload_n 2, 1) := by decide +kernel
theorem dL_refuses_523 : decode cL_refuses 523 = .ok (.ifCond .le 137, 3) := by decide +kernel
theorem dL_refuses_526 : decode cL_refuses 526 = .ok (.iload_n 1, 1) := by decide +kernel
theorem dL_refuses_527 : decode cL_refuses 527 = .ok (.iload_n 2, 1) := by decide +kernel
theorem dL_refuses_528 : decode cL_refuses 528 = .ok (.irem, 1) := by decide +kernel
theorem dL_refuses_529 : decode cL_refuses 529 = .ok (.istore 5, 2) := by decide +kernel
theorem dL_refuses_531 : decode cL_refuses 531 = .ok (.iload 4, 2) := by decide +kernel
theorem dL_refuses_533 : decode cL_refuses 533 = .ok (.ifCond .eq 124, 3) := by decide +kernel
theorem dL_refuses_536 : decode cL_refuses 536 = .ok (.aload_n 0, 1) := by decide +kernel
theorem dL_refuses_537 : decode cL_refuses 537 = .ok (.bipush 8, 2) := by decide +kernel
theorem dL_refuses_539 : decode cL_refuses 539 = .ok (.iload 5, 2) := by decide +kernel
theorem dL_refuses_541 : decode cL_refuses 541 = .ok (.iconst 0, 1) := by decide +kernel
theorem dL_refuses_542 : decode cL_refuses 542 = .ok (.iconst 0, 1) := by decide +kernel
theorem dL_refuses_543 : decode cL_refuses 543 = .ok (.invokestatic 182, 3) := by decide +kernel
theorem dL_refuses_546 : decode cL_refuses 546 = .ok (.ldc 18, 2) := by decide +kernel
theorem dL_refuses_548 : decode cL_refuses 548 = .ok (.if_icmp .ne 109, 3) := by decide +kernel
theorem dL_refuses_551 : decode cL_refuses 551 = .ok (.aload_n 0, 1) := by decide +kernel
theorem dL_refuses_552 : decode cL_refuses 552 = .ok (.iconst 4, 1) := by decide +kernel
theorem dL_refuses_553 : decode cL_refuses 553 = .ok (.iload 5, 2) := by decide +kernel
theorem dL_refuses_555 : decode cL_refuses 555 = .ok (.iload 5, 2) := by decide +kernel
theorem dL_refuses_557 : decode cL_refuses 557 = .ok (.iconst 0, 1) := by decide +kernel
theorem dL_refuses_558 : decode cL_refuses 558 = .ok (.invokestatic 182, 3) := by decide +kernel
theorem dL_refuses_561 : decode cL_refuses 561 = .ok (.ldc 18, 2) := by decide +kernel
theorem dL_refuses_563 : decode cL_refuses 563 = .ok (.if_icmp .ne 94, 3) := by decide +kernel
theorem dL_refuses_566 : decode cL_refuses 566 = .ok (.aload_n 0, 1) := by decide +kernel
theorem dL_refuses_567 : decode cL_refuses 567 = .ok (.iload 5, 2) := by decide +kernel
theorem dL_refuses_569 : decode cL_refuses 569 = .ok (.iload 5, 2) := by decide +kernel
theorem dL_refuses_571 : decode cL_refuses 571 = .ok (.iconst 1, 1) := by decide +kernel
theorem dL_refuses_572 : decode cL_refuses 572 = .ok (.iconst 1, 1) := by decide +kernel
theorem dL_refuses_573 : decode cL_refuses 573 = .ok (.invokestatic 190, 3) := by decide +kernel
theorem dL_refuses_576 : decode cL_refuses 576 = .ok (.ldc 18, 2) := by decide +kernel
theorem dL_refuses_578 : decode cL_refuses 578 = .ok (.if_icmp .ne 79, 3) := by decide +kernel
theorem dL_refuses_581 : decode cL_refuses 581 = .ok (.aload_n 0, 1) := by decide +kernel
theorem dL_refuses_582 : decode cL_refuses 582 = .ok (.bipush 9, 2) := by decide +kernel
theorem dL_refuses_584 : decode cL_refuses 584 = .ok (.iload 5, 2) := by decide +kernel
theorem dL_refuses_586 : decode cL_refuses 586 = .ok (.iload 5, 2) := by decide +kernel
theorem dL_refuses_588 : decode cL_refuses 588 = .ok (.iconst 1, 1) := by decide +kernel
theorem dL_refuses_589 : decode cL_refuses 589 = .ok (.invokestatic 182, 3) := by decide +kernel
theorem dL_refuses_592 : decode cL_refuses 592 = .ok (.ldc 18, 2) := by decide +kernel
theorem dL_refuses_594 : decode cL_refuses 594 = .ok (.if_icmp .ne 63, 3) := by decide +kernel
theorem dL_refuses_597 : decode cL_refuses 597 = .ok (.aload_n 0, 1) := by decide +kernel
theorem dL_refuses_598 : decode cL_refuses 598 = .ok (.bipush 16, 2) := by decide +kernel
theorem dL_refuses_600 : decode cL_refuses 600 = .ok (.iload 5, 2) := by decide +kernel
theorem dL_refuses_602 : decode cL_refuses 602 = .ok (.iload 5, 2) := by decide +kernel
theorem dL_refuses_604 : decode cL_refuses 604 = .ok (.iconst 1, 1) := by decide +kernel
theorem dL_refuses_605 : decode cL_refuses 605 = .ok (.invokestatic 182, 3) := by decide +kernel
theorem dL_refuses_608 : decode cL_refuses 608 = .ok (.ldc 18, 2) := by decide +kernel
theorem dL_refuses_610 : decode cL_refuses 610 = .ok (.if_icmp .ne 47, 3) := by decide +kernel
theorem dL_refuses_613 : decode cL_refuses 613 = .ok (.aload_n 0, 1) := by decide +kernel
theorem dL_refuses_614 : decode cL_refuses 614 = .ok (.bipush 16, 2) := by decide +kernel
theorem dL_refuses_616 : decode cL_refuses 616 = .ok (.iload 5, 2) := by decide +kernel
theorem dL_refuses_618 : decode cL_refuses 618 = .ok (.iload 5, 2) := by decide +kernel
theorem dL_refuses_620 : decode cL_refuses 620 = .ok (.iload_n 3, 1) := by decide +kernel
theorem dL_refuses_621 : decode cL_refuses 621 = .ok (.invokestatic 182, 3) := by decide +kernel
theorem dL_refuses_624 : decode cL_refuses 624 = .ok (.ldc 15, 2) := by decide +kernel
theorem dL_refuses_626 : decode cL_refuses 626 = .ok (.if_icmp .ne 31, 3) := by decide +kernel
theorem dL_refuses_629 : decode cL_refuses 629 = .ok (.aload_n 0, 1) := by decide +kernel
theorem dL_refuses_630 : decode cL_refuses 630 = .ok (.iconst 4, 1) := by decide +kernel
theorem dL_refuses_631 : decode cL_refuses 631 = .ok (.iload 5, 2) := by decide +kernel
theorem dL_refuses_633 : decode cL_refuses 633 = .ok (.iload 5, 2) := by decide +kernel
theorem dL_refuses_635 : decode cL_refuses 635 = .ok (.iconst 1, 1) := by decide +kernel
theorem dL_refuses_636 : decode cL_refuses 636 = .ok (.iadd, 1) := by decide +kernel
theorem dL_refuses_637 : decode cL_refuses 637 = .ok (.iload_n 2, 1) := by decide +kernel
theorem dL_refuses_638 : decode cL_refuses 638 = .ok (.irem, 1) := by decide +kernel
theorem dL_refuses_639 : decode cL_refuses 639 = .ok (.iconst 5, 1) := by decide +kernel
theorem dL_refuses_640 : decode cL_refuses 640 = .ok (.iload_n 1, 1) := by decide +kernel
theorem dL_refuses_641 : decode cL_refuses 641 = .ok (.bipush 9, 2) := by decide +kernel
theorem dL_refuses_643 : decode cL_refuses 643 = .ok (.irem, 1) := by decide +kernel
theorem dL_refuses_644 : decode cL_refuses 644 = .ok (.iadd, 1) := by decide +kernel
theorem dL_refuses_645 : decode cL_refuses 645 = .ok (.invokestatic 182, 3) := by decide +kernel
theorem dL_refuses_648 : decode cL_refuses 648 = .ok (.ldc 18, 2) := by decide +kernel
theorem dL_refuses_650 : decode cL_refuses 650 = .ok (.if_icmp .ne 7, 3) := by decide +kernel
theorem dL_refuses_653 : decode cL_refuses 653 = .ok (.iconst 1, 1) := by decide +kernel
theorem dL_refuses_654 : decode cL_refuses 654 = .ok (.goto 4, 3) := by decide +kernel
theorem dL_refuses_657 : decode cL_refuses 657 = .ok (.iconst 0, 1) := by decide +kernel
theorem dL_refuses_658 : decode cL_refuses 658 = .ok (.istore 4, 2) := by decide +kernel
theorem dL_refuses_660 : decode cL_refuses 660 = .ok (.iload 4, 2) := by decide +kernel
theorem dL_refuses_662 : decode cL_refuses 662 = .ok (.ifCond .eq 133, 3) := by decide +kernel
theorem dL_refuses_665 : decode cL_refuses 665 = .ok (.aload_n 0, 1) := by decide +kernel
theorem dL_refuses_666 : decode cL_refuses 666 = .ok (.bipush 18, 2) := by decide +kernel
theorem dL_refuses_668 : decode cL_refuses 668 = .ok (.iconst 2, 1) := by decide +kernel
theorem dL_refuses_669 : decode cL_refuses 669 = .ok (.iconst 0, 1) := by decide +kernel
theorem dL_refuses_670 : decode cL_refuses 670 = .ok (.iconst 0, 1) := by decide +kernel
theorem dL_refuses_671 : decode cL_refuses 671 = .ok (.invokestatic 182, 3) := by decide +kernel
theorem dL_refuses_674 : decode cL_refuses 674 = .ok (.ldc 15, 2) := by decide +kernel
theorem dL_refuses_676 : decode cL_refuses 676 = .ok (.if_icmp .ne 119, 3) := by decide +kernel
theorem dL_refuses_679 : decode cL_refuses 679 = .ok (.aload_n 0, 1) := by decide +kernel
theorem dL_refuses_680 : decode cL_refuses 680 = .ok (.bipush 19, 2) := by decide +kernel
theorem dL_refuses_682 : decode cL_refuses 682 = .ok (.iconst (-1), 1) := by decide +kernel
theorem dL_refuses_683 : decode cL_refuses 683 = .ok (.iconst 0, 1) := by decide +kernel
theorem dL_refuses_684 : decode cL_refuses 684 = .ok (.iconst 0, 1) := by decide +kernel
theorem dL_refuses_685 : decode cL_refuses 685 = .ok (.invokestatic 182, 3) := by decide +kernel
theorem dL_refuses_688 : decode cL_refuses 688 = .ok (.ldc 15, 2) := by decide +kernel
theorem dL_refuses_690 : decode cL_refuses 690 = .ok (.if_icmp .ne 105, 3) := by decide +kernel
theorem dL_refuses_693 : decode cL_refuses 693 = .ok (.aload_n 0, 1) := by decide +kernel
theorem dL_refuses_694 : decode cL_refuses 694 = .ok (.iconst 0, 1) := by decide +kernel
theorem dL_refuses_695 : decode cL_refuses 695 = .ok (.sipush 256, 3) := by decide +kernel
theorem dL_refuses_698 : decode cL_refuses 698 = .ok (.iload_n 1, 1) := by decide +kernel
theorem dL_refuses_699 : decode cL_refuses 699 = .ok (.bipush 9, 2) := by decide +kernel
theorem dL_refuses_701 : decode cL_refuses 701 = .ok (.irem, 1) := by decide +kernel
theorem dL_refuses_702 : decode cL_refuses 702 = .ok (.iadd, 1) := by decide +kernel
theorem dL_refuses_703 : decode cL_refuses 703 = .ok (.iconst 0, 1) := by decide +kernel
theorem dL_refuses_704 : decode cL_refuses 704 = .ok (.iconst 0, 1) := by decide +kernel
theorem dL_refuses_705 : decode cL_refuses 705 = .ok (.invokestatic 182, 3) := by decide +kernel
theorem dL_refuses_708 : decode cL_refuses 708 = .ok (.ldc 18, 2) := by decide +kernel
theorem dL_refuses_710 : decode cL_refuses 710 = .ok (.if_icmp .ne 85, 3) := by decide +kernel
theorem dL_refuses_713 : decode cL_refuses 713 = .ok (.aload_n 0, 1) := by decide +kernel
theorem dL_refuses_714 : decode cL_refuses 714 = .ok (.iconst 4, 1) := by decide +kernel
theorem dL_refuses_715 : decode cL_refuses 715 = .ok (.lconst 0, 1) := by decide +kernel
theorem dL_refuses_716 : decode cL_refuses 716 = .ok (.invokestatic 203, 3) := by decide +kernel
theorem dL_refuses_719 : decode cL_refuses 719 = .ok (.ldc 18, 2) := by decide +kernel
theorem dL_refuses_721 : decode cL_refuses 721 = .ok (.if_icmp .ne 74, 3) := by decide +kernel
theorem dL_refuses_724 : decode cL_refuses 724 = .ok (.aload_n 0, 1) := by decide +kernel
theorem dL_refuses_725 : decode cL_refuses 725 = .ok (.iconst 1, 1) := by decide +kernel
theorem dL_refuses_726 : decode cL_refuses 726 = .ok (.ldc2_w 207, 3) := by decide +kernel
theorem dL_refuses_729 : decode cL_refuses 729 = .ok (.iload_n 1, 1) := by decide +kernel
theorem dL_refuses_730 : decode cL_refuses 730 = .ok (.i2l, 1) := by decide +kernel
theorem dL_refuses_731 : decode cL_refuses 731 = .ok (.ladd, 1) := by decide +kernel
theorem dL_refuses_732 : decode cL_refuses 732 = .ok (.invokestatic 203, 3) := by decide +kernel
theorem dL_refuses_735 : decode cL_refuses 735 = .ok (.ldc 18, 2) := by decide +kernel
theorem dL_refuses_737 : decode cL_refuses 737 = .ok (.if_icmp .ne 58, 3) := by decide +kernel
theorem dL_refuses_740 : decode cL_refuses 740 = .ok (.aload_n 0, 1) := by decide +kernel
theorem dL_refuses_741 : decode cL_refuses 741 = .ok (.iconst 2, 1) := by decide +kernel
theorem dL_refuses_742 : decode cL_refuses 742 = .ok (.ldc2_w 209, 3) := by decide +kernel
