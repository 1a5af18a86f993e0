theorem dL_holds_156 : decode cL_holds 156 = .ok (.iload_n 3, 1) := by decide +kernel
theorem dL_holds_157 : decode cL_holds 157 = .ok (.iconst 1, 1) := by decide +kernel
theorem dL_holds_158 : decode cL_holds 158 = .ok (.invokestatic 197, 3) := by decide +kernel
theorem dL_holds_161 : decode cL_holds 161 = .ok (.lstore 7, 2) := by decide +kernel
theorem dL_holds_163 : decode cL_holds 163 = .ok (.aload_n 0, 1) := by decide +kernel
theorem dL_holds_164 : decode cL_holds 164 = .ok (.iload_n 3, 1) := by decide +kernel
theorem dL_holds_165 : decode cL_holds 165 = .ok (.iconst 2, 1) := by decide +kernel
theorem dL_holds_166 : decode cL_holds 166 = .ok (.invokestatic 197, 3) := by decide +kernel
theorem dL_holds_169 : decode cL_holds 169 = .ok (.lstore 9, 2) := by decide +kernel
theorem dL_holds_171 : decode cL_holds 171 = .ok (.iload 4, 2) := by decide +kernel
theorem dL_holds_173 : decode cL_holds 173 = .ok (.ifCond .eq 70, 3) := by decide +kernel
theorem dL_holds_176 : decode cL_holds 176 = .ok (.lload 5, 2) := by decide +kernel
theorem dL_holds_178 : decode cL_holds 178 = .ok (.lconst 0, 1) := by decide +kernel
theorem dL_holds_179 : decode cL_holds 179 = .ok (.lcmp, 1) := by decide +kernel
theorem dL_holds_180 : decode cL_holds 180 = .ok (.ifCond .lt 63, 3) := by decide +kernel
theorem dL_holds_183 : decode cL_holds 183 = .ok (.lload 9, 2) := by decide +kernel
theorem dL_holds_185 : decode cL_holds 185 = .ok (.lconst 0, 1) := by decide +kernel
theorem dL_holds_186 : decode cL_holds 186 = .ok (.lcmp, 1) := by decide +kernel
theorem dL_holds_187 : decode cL_holds 187 = .ok (.ifCond .lt 56, 3) := by decide +kernel
theorem dL_holds_190 : decode cL_holds 190 = .ok (.lload 9, 2) := by decide +kernel
theorem dL_holds_192 : decode cL_holds 192 = .ok (.lload 7, 2) := by decide +kernel
theorem dL_holds_194 : decode cL_holds 194 = .ok (.lcmp, 1) := by decide +kernel
theorem dL_holds_195 : decode cL_holds 195 = .ok (.ifCond .gt 48, 3) := by decide +kernel
theorem dL_holds_198 : decode cL_holds 198 = .ok (.aload_n 0, 1) := by decide +kernel
theorem dL_holds_199 : decode cL_holds 199 = .ok (.iconst 0, 1) := by decide +kernel
theorem dL_holds_200 : decode cL_holds 200 = .ok (.iload_n 1, 1) := by decide +kernel
theorem dL_holds_201 : decode cL_holds 201 = .ok (.iconst 3, 1) := by decide +kernel
theorem dL_holds_202 : decode cL_holds 202 = .ok (.irem, 1) := by decide +kernel
theorem dL_holds_203 : decode cL_holds 203 = .ok (.invokestatic 193, 3) := by decide +kernel
theorem dL_holds_206 : decode cL_holds 206 = .ok (.lconst 1, 1) := by decide +kernel
theorem dL_holds_207 : decode cL_holds 207 = .ok (.lcmp, 1) := by decide +kernel
theorem dL_holds_208 : decode cL_holds 208 = .ok (.ifCond .ne 35, 3) := by decide +kernel
theorem dL_holds_211 : decode cL_holds 211 = .ok (.aload_n 0, 1) := by decide +kernel
theorem dL_holds_212 : decode cL_holds 212 = .ok (.iconst 1, 1) := by decide +kernel
theorem dL_holds_213 : decode cL_holds 213 = .ok (.invokestatic 186, 3) := by decide +kernel
theorem dL_holds_216 : decode cL_holds 216 = .ok (.aload_n 0, 1) := by decide +kernel
theorem dL_holds_217 : decode cL_holds 217 = .ok (.iconst 0, 1) := by decide +kernel
theorem dL_holds_218 : decode cL_holds 218 = .ok (.invokestatic 186, 3) := by decide +kernel
theorem dL_holds_221 : decode cL_holds 221 = .ok (.lcmp, 1) := by decide +kernel
theorem dL_holds_222 : decode cL_holds 222 = .ok (.ifCond .gt 21, 3) := by decide +kernel
theorem dL_holds_225 : decode cL_holds 225 = .ok (.aload_n 0, 1) := by decide +kernel
theorem dL_holds_226 : decode cL_holds 226 = .ok (.iconst 3, 1) := by decide +kernel
theorem dL_holds_227 : decode cL_holds 227 = .ok (.invokestatic 186, 3) := by decide +kernel
theorem dL_holds_230 : decode cL_holds 230 = .ok (.aload_n 0, 1) := by decide +kernel
theorem dL_holds_231 : decode cL_holds 231 = .ok (.iconst 2, 1) := by decide +kernel
theorem dL_holds_232 : decode cL_holds 232 = .ok (.invokestatic 186, 3) := by decide +kernel
theorem dL_holds_235 : decode cL_holds 235 = .ok (.lcmp, 1) := by decide +kernel
theorem dL_holds_236 : decode cL_holds 236 = .ok (.ifCond .gt 7, 3) := by decide +kernel
theorem dL_holds_239 : decode cL_holds 239 = .ok (.iconst 1, 1) := by decide +kernel
theorem dL_holds_240 : decode cL_holds 240 = .ok (.goto 4, 3) := by decide +kernel
theorem dL_holds_243 : decode cL_holds 243 = .ok (.iconst 0, 1) := by decide +kernel
theorem dL_holds_244 : decode cL_holds 244 = .ok (.istore 4, 2) := by decide +kernel
theorem dL_holds_246 : decode cL_holds 246 = .ok (.iconst 0, 1) := by decide +kernel
theorem dL_holds_247 : decode cL_holds 247 = .ok (.istore 11, 2) := by decide +kernel
theorem dL_holds_249 : decode cL_holds 249 = .ok (.iconst 0, 1) := by decide +kernel
theorem dL_holds_250 : decode cL_holds 250 = .ok (.istore 12, 2) := by decide +kernel
theorem dL_holds_252 : decode cL_holds 252 = .ok (.iconst (-1), 1) := by decide +kernel
theorem dL_holds_253 : decode cL_holds 253 = .ok (.istore 13, 2) := by decide +kernel
theorem dL_holds_255 : decode cL_holds 255 = .ok (.iconst 0, 1) := by decide +kernel
theorem dL_holds_256 : decode cL_holds 256 = .ok (.istore 14, 2) := by decide +kernel
theorem dL_holds_258 : decode cL_holds 258 = .ok (.iload 14, 2) := by decide +kernel
theorem dL_holds_260 : decode cL_holds 260 = .ok (.iload_n 2, 1) := by decide +kernel
theorem dL_holds_261 : decode cL_holds 261 = .ok (.if_icmp .ge 241, 3) := by decide +kernel
theorem dL_holds_264 : decode cL_holds 264 = .ok (.iload 4, 2) := by decide +kernel
theorem dL_holds_266 : decode cL_holds 266 = .ok (.ifCond .eq 236, 3) := by decide +kernel
theorem dL_holds_269 : decode cL_holds 269 = .ok (.iload 14, 2) := by decide +kernel
theorem dL_holds_271 : decode cL_holds 271 = .ok (.iconst 1, 1) := by decide +kernel
theorem dL_holds_272 : decode cL_holds 272 = .ok (.iadd, 1) := by decide +kernel
theorem dL_holds_273 : decode cL_holds 273 = .ok (.istore 15, 2) := by decide +kernel
theorem dL_holds_275 : decode cL_holds 275 = .ok (.iload 15, 2) := by decide +kernel
theorem dL_holds_277 : decode cL_holds 277 = .ok (.iload_n 2, 1) := by decide +kernel
theorem dL_holds_278 : decode cL_holds 278 = .ok (.if_icmp .ge 218, 3) := by decide +kernel
theorem dL_holds_281 : decode cL_holds 281 = .ok (.iload 4, 2) := by decide +kernel
theorem dL_holds_283 : decode cL_holds 283 = .ok (.ifCond .eq 213, 3) := by decide +kernel
theorem dL_holds_286 : decode cL_holds 286 = .ok (.aload_n 0, 1) := by decide +kernel
theorem dL_holds_287 : decode cL_holds 287 = .ok (.iconst 4, 1) := by decide +kernel
theorem dL_holds_288 : decode cL_holds 288 = .ok (.iload 14, 2) := by decide +kernel
theorem dL_holds_290 : decode cL_holds 290 = .ok (.iload 15, 2) := by decide +kernel
theorem dL_holds_292 : decode cL_holds 292 = .ok (.iconst 2, 1) := by decide +kernel
theorem dL_holds_293 : decode cL_holds 293 = .ok (.invokestatic 182, 3) := by decide +kernel
theorem dL_holds_296 : decode cL_holds 296 = .ok (.aload_n 0, 1) := by decide +kernel
theorem dL_holds_297 : decode cL_holds 297 = .ok (.iconst 4, 1) := by decide +kernel
theorem dL_holds_298 : decode cL_holds 298 = .ok (.iload 14, 2) := by decide +kernel
theorem dL_holds_300 : decode cL_holds 300 = .ok (.iload 15, 2) := by decide +kernel
theorem dL_holds_302 : decode cL_holds 302 = .ok (.iconst 1, 1) := by decide +kernel
theorem dL_holds_303 : decode cL_holds 303 = .ok (.invokestatic 182, 3) := by decide +kernel
theorem dL_holds_306 : decode cL_holds 306 = .ok (.isub, 1) := by decide +kernel
theorem dL_holds_307 : decode cL_holds 307 = .ok (.istore 16, 2) := by decide +kernel
theorem dL_holds_309 : decode cL_holds 309 = .ok (.aload_n 0, 1) := by decide +kernel
theorem dL_holds_310 : decode cL_holds 310 = .ok (.iconst 4, 1) := by decide +kernel
theorem dL_holds_311 : decode cL_holds 311 = .ok (.iload 14, 2) := by decide +kernel
theorem dL_holds_313 : decode cL_holds 313 = .ok (.iload 15, 2) := by decide +kernel
theorem dL_holds_315 : decode cL_holds 315 = .ok (.iconst 0, 1) := by decide +kernel
theorem dL_holds_316 : decode cL_holds 316 = .ok (.invokestatic 182, 3) := by decide +kernel
theorem dL_holds_319 : decode cL_holds 319 = .ok (.iconst (-1), 1) := by decide +kernel
theorem dL_holds_320 : decode cL_holds 320 = .ok (.if_icmp .eq 7, 3) := by decide +kernel
theorem dL_holds_323 : decode cL_holds 323 = .ok (.iconst 1, 1) := by decide +kernel
theorem dL_holds_324 : decode cL_holds 324 = .ok (.goto 4, 3) := by decide +kernel
theorem dL_holds_327 : decode cL_holds 327 = .ok (.iconst 0, 1) := by decide +kernel
theorem dL_holds_328 : decode cL_holds 328 = .ok (.istore 17, 2) := by decide +kernel
theorem dL_holds_330 : decode cL_holds 330 = .ok (.aload_n 0, 1) := by decide +kernel
theorem dL_holds_331 : decode cL_holds 331 = .ok (.iconst 4, 1) := by decide +kernel
theorem dL_holds_332 : decode cL_holds 332 = .ok (.iload 14, 2) := by decide +kernel
theorem dL_holds_334 : decode cL_holds 334 = .ok (.iload 15, 2) := by decide +kernel
theorem dL_holds_336 : decode cL_holds 336 = .ok (.iconst 3, 1) := by decide +kernel
theorem dL_holds_337 : decode cL_holds 337 = .ok (.invokestatic 182, 3) := by decide +kernel
theorem dL_holds_340 : decode cL_holds 340 = .ok (.istore 18, 2) := by decide +kernel
theorem dL_holds_342 : decode cL_holds 342 = .ok (.iload 11, 2) := by decide +kernel
theorem dL_holds_344 : decode cL_holds 344 = .ok (.iload 18, 2) := by decide +kernel
theorem dL_holds_346 : decode cL_holds 346 = .ok (.iconst (-1), 1) := by decide +kernel
theorem dL_holds_347 : decode cL_holds 347 = .ok (.if_icmp .ne 7, 3) := by decide +kernel
theorem dL_holds_350 : decode cL_holds 350 = .ok (.iconst 0, 1) := by decide +kernel
theorem dL_holds_351 : decode cL_holds 351 = .ok (.goto 4, 3) := by decide +kernel
theorem dL_holds_354 : decode cL_holds 354 = .ok (.iconst 1, 1) := by decide +kernel
theorem dL_holds_355 : decode cL_holds 355 = .ok (.iadd, 1) := by decide +kernel
theorem dL_holds_356 : decode cL_holds 356 = .ok (.istore 11, 2) := by decide +kernel
theorem dL_holds_358 : decode cL_holds 358 = .ok (.iload 12, 2) := by decide +kernel
theorem dL_holds_360 : decode cL_holds 360 = .ok (.iload 16, 2) := by decide +kernel
theorem dL_holds_362 : decode cL_holds 362 = .ok (.ifCond .ge 9, 3) := by decide +kernel
theorem dL_holds_365 : decode cL_holds 365 = .ok (.iload 16, 2) := by decide +kernel
theorem dL_holds_367 : decode cL_holds 367 = .ok (.ineg, 1) := by decide +kernel
theorem dL_holds_368 : decode cL_holds 368 = .ok (.goto 5, 3) := by decide +kernel
theorem dL_holds_371 : decode cL_holds 371 = .ok (.iload 16, 2) := by decide +kernel
theorem dL_holds_373 : decode cL_holds 373 = .ok (.iadd, 1) := by decide +kernel
theorem dL_holds_374 : decode cL_holds 374 = .ok (.istore 12, 2) := by decide +kernel
theorem dL_holds_376 : decode cL_holds 376 = .ok (.iload 17, 2) := by decide +kernel
theorem dL_holds_378 : decode cL_holds 378 = .ok (.ifCond .eq 37, 3) := by decide +kernel
theorem dL_holds_381 : decode cL_holds 381 = .ok (.iload 16, 2) := by decide +kernel
theorem dL_holds_383 : decode cL_holds 383 = .ok (.ifCond .ge 9, 3) := by decide +kernel
theorem dL_holds_386 : decode cL_holds 386 = .ok (.iload 16, 2) := by decide +kernel
theorem dL_holds_388 : decode cL_holds 388 = .ok (.ineg, 1) := by decide +kernel
theorem dL_holds_389 : decode cL_holds 389 = .ok (.goto 5, 3) := by decide +kernel
theorem dL_holds_392 : decode cL_holds 392 = .ok (.iload 16, 2) := by decide +kernel
theorem dL_holds_394 : decode cL_holds 394 = .ok (.iload 13, 2) := by decide +kernel
theorem dL_holds_396 : decode cL_holds 396 = .ok (.if_icmp .le 19, 3) := by decide +kernel
theorem dL_holds_399 : decode cL_holds 399 = .ok (.iload 16, 2) := by decide +kernel
theorem dL_holds_401 : decode cL_holds 401 = .ok (.ifCond .ge 9, 3) := by decide +kernel
theorem dL_holds_404 : decode cL_holds 404 = .ok (.iload 16, 2) := by decide +kernel
theorem dL_holds_406 : decode cL_holds 406 = .ok (.ineg, 1) := by decide +kernel
theorem dL_holds_407 : decode cL_holds 407 = .ok (.goto 10, 3) := by decide +kernel
theorem dL_holds_410 : decode cL_holds 410 = .ok (.iload 16, 2) := by decide +kernel
theorem dL_holds_412 : decode cL_holds 412 = .ok (.goto 5, 3) := by decide +kernel
theorem dL_holds_415 : decode cL_holds 415 = .ok (.iload 13, 2) := by decide +kernel
theorem dL_holds_417 : decode cL_holds 417 = .ok (.istore 13, 2) := by decide +kernel
theorem dL_holds_419 : decode cL_holds 419 = .ok (.iload 17, 2) := by decide +kernel
theorem dL_holds_421 : decode cL_holds 421 = .ok (.ifCond .ne 14, 3) := by decide +kernel
theorem dL_holds_424 : decode cL_holds 424 = .ok (.iload 16, 2) := by decide +kernel
theorem dL_holds_426 : decode cL_holds 426 = .ok (.ifCond .ne 61, 3) := by decide +kernel
theorem dL_holds_429 : decode cL_holds 429 = .ok (.iload 18, 2) := by decide +kernel
theorem dL_holds_431 : decode cL_holds 431 = .ok (.iconst (-1), 1) := by decide +kernel
theorem dL_holds_432 : decode cL_holds 432 = .ok (.if_icmp .ne 55, 3) := by decide +kernel
theorem dL_holds_435 : decode cL_holds 435 = .ok (.iload 18, 2) := by decide +kernel
theorem dL_holds_437 : decode cL_holds 437 = .ok (.iconst (-1), 1) := by decide +kernel
theorem dL_holds_438 : decode cL_holds 438 = .ok (.if_icmp .ne 26, 3) := by decide +kernel
theorem dL_holds_441 : decode cL_holds 441 = .ok (.aload_n 0, 1) := by decide +kernel
theorem dL_holds_442 : decode cL_holds 442 = .ok (.iconst 4, 1) := by decide +kernel
theorem dL_holds_443 : decode cL_holds 443 = .ok (.iload 14, 2) := by decide +kernel
theorem dL_holds_445 : decode cL_holds 445 = .ok (.iload 15, 2) := by decide +kernel
theorem dL_holds_447 : decode cL_holds 447 = .ok (.iconst 2, 1) := by decide +kernel
theorem dL_holds_448 : decode cL_holds 448 = .ok (.invokestatic 182, 3) := by decide +kernel
theorem dL_holds_451 : decode cL_holds 451 = .ok (.aload_n 0, 1) := by decide +kernel
theorem dL_holds_452 : decode cL_holds 452 = .ok (.iconst 4, 1) := by decide +kernel
theorem dL_holds_453 : decode cL_holds 453 = .ok (.iload 14, 2) := by decide +kernel
theorem dL_holds_455 : decode cL_holds 455 = .ok (.iload 15, 2) := by decide +kernel
theorem dL_holds_457 : decode cL_holds 457 = .ok (.iconst 0, 1) := by decide +kernel
theorem dL_holds_458 : decode cL_holds 458 = .ok (.invokestatic 182, 3) := by decide +kernel
theorem dL_holds_461 : decode cL_holds 461 = .ok (.if_icmp .ne 26, 3) := by decide +kernel
theorem dL_holds_464 : decode cL_holds 464 = .ok (.iload 18, 2) := by decide +kernel
theorem dL_holds_466 : decode cL_holds 466 = .ok (.iconst (-1), 1) := by decide +kernel
theorem dL_holds_467 : decode cL_holds 467 = .ok (.if_icmp .eq 16, 3) := by decide +kernel
theorem dL_holds_470 : decode cL_holds 470 = .ok (.aload_n 0, 1) := by decide +kernel
theorem dL_holds_471 : decode cL_holds 471 = .ok (.iconst 4, 1) := by decide +kernel
theorem dL_holds_472 : decode cL_holds 472 = .ok (.iload 14, 2) := by decide +kernel
theorem dL_holds_474 : decode cL_holds 474 = .ok (.iload 15, 2) := by decide +kernel
theorem dL_holds_476 : decode cL_holds 476 = .ok (.iconst 4, 1) := by decide +kernel
theorem dL_holds_477 : decode cL_holds 477 = .ok (.invokestatic 182, 3) := by decide +kernel
theorem dL_holds_480 : decode cL_holds 480 = .ok (.ifCond .le 7, 3) := by decide +kernel
theorem dL_holds_483 : decode cL_holds 483 = .ok (.iconst 1, 1) := by decide +kernel
theorem dL_holds_484 : decode cL_holds 484 = .ok (.goto 4, 3) := by decide +kernel
theorem dL_holds_487 : decode cL_holds 487 = .ok (.iconst 0, 1) := by decide +kernel
theorem dL_holds_488 : decode cL_holds 488 = .ok (.istore 4, 2) := by decide +kernel
theorem dL_holds_490 : decode cL_holds 490 = .ok (.iinc 15 1, 3) := by decide +kernel
theorem dL_holds_493 : decode cL_holds 493 = .ok (.goto (-218), 3) := by decide +kernel
theorem dL_holds_496 : decode cL_holds 496 = .ok (.iinc 14 1, 3) := by decide +kernel
theorem dL_holds_499 : decode cL_holds 499 = .ok (.goto (-241), 3) := by decide +kernel
theorem dL_holds_502 : decode cL_holds 502 = .ok (.aload_n 0, 1) := by decide +kernel
theorem dL_holds_503 : decode cL_holds 503 = .ok (.invokevirtual 219, 3) := by decide +kernel
theorem dL_holds_506 : decode cL_holds 506 = .ok (.istore 14, 2) := by decide +kernel
theorem dL_holds_508 : decode cL_holds 508 = .ok (.iload 4, 2) := by decide +kernel
theorem dL_holds_510 : decode cL_holds 510 = .ok (.ifCond .eq 50, 3) := by decide +kernel
theorem dL_holds_513 : decode cL_holds 513 = .ok (.iload 11, 2) := by decide +kernel
theorem dL_holds_515 : decode cL_holds 515 = .ok (.aload_n 0, 1) := by decide +kernel
theorem dL_holds_516 : decode cL_holds 516 = .ok (.iconst 2, 1) := by decide +kernel
theorem dL_holds_517 : decode cL_holds 517 = .ok (.iconst 2, 1) := by decide +kernel
theorem dL_holds_518 : decode cL_holds 518 = .ok (.iconst 0, 1) := by decide +kernel
theorem dL_holds_519 : decode cL_holds 519 = .ok (.iconst 0, 1) := by decide +kernel
theorem dL_holds_520 : decode cL_holds 520 = .ok (.invokestatic 182, 3) := by decide +kernel
theorem dL_holds_523 : decode cL_holds 523 = .ok (.if_icmp .ne 37, 3) := by decide +kernel
theorem dL_holds_526 : decode cL_holds 526 = .ok (.iload 14, 2) := by decide +kernel
theorem dL_holds_528 : decode cL_holds 528 = .ok (.iconst (-1), 1) := by decide +kernel
theorem dL_holds_529 : decode cL_holds 529 = .ok (.if_icmp .ne 7, 3) := by decide +kernel
theorem dL_holds_532 : decode cL_holds 532 = .ok (.iconst 1, 1) := by decide +kernel
theorem dL_holds_533 : decode cL_holds 533 = .ok (.goto 4, 3) := by decide +kernel
theorem dL_holds_536 : decode cL_holds 536 = .ok (.iconst 0, 1) := by decide +kernel
theorem dL_holds_537 : decode cL_holds 537 = .ok (.aload_n 0, 1) := by decide +kernel
theorem dL_holds_538 : decode cL_holds 538 = .ok (.iconst 2, 1) := by decide +kernel
theorem dL_holds_539 : decode cL_holds 539 = .ok (.iconst 1, 1) := by decide +kernel
theorem dL_holds_540 : decode cL_holds 540 = .ok (.iconst 0, 1) := by decide +kernel
theorem dL_holds_541 : decode cL_holds 541 = .ok (.iconst 0, 1) := by decide +kernel
theorem dL_holds_542 : decode cL_holds 542 = .ok (.invokestatic 182, 3) := by decide +kernel
theorem dL_holds_545 : decode cL_holds 545 = .ok (.ifCond .ne 7, 3) := by decide +kernel
theorem dL_holds_548 : decode cL_holds 548 = .ok (.iconst 1, 1) := by decide +kernel
theorem dL_holds_549 : decode cL_holds 549 = .ok (.goto 4, 3) := by decide +kernel
theorem dL_holds_552 : decode cL_holds 552 = .ok (.iconst 0, 1) := by decide +kernel
theorem dL_holds_553 : decode cL_holds 553 = .ok (.if_icmp .ne 7, 3) := by decide +kernel
theorem dL_holds_556 : decode cL_holds 556 = .ok (.iconst 1, 1) := by decide +kernel
theorem dL_holds_557 : decode cL_holds 557 = .ok (.goto 4, 3) := by decide +kernel
theorem dL_holds_560 : decode cL_holds 560 = .ok (.iconst 0, 1) := by decide +kernel
theorem dL_holds_561 : decode cL_holds 561 = .ok (.istore 4, 2) := by decide +kernel
theorem dL_holds_563 : decode cL_holds 563 = .ok (.iload 14, 2) := by decide +kernel
theorem dL_holds_565 : decode cL_holds 565 = .ok (.iconst (-1), 1) := by decide +kernel
theorem dL_holds_566 : decode cL_holds 566 = .ok (.if_icmp .eq 68, 3) := by decide +kernel
theorem dL_holds_569 : decode cL_holds 569 = .ok (.iload 4, 2) := by decide +kernel
theorem dL_holds_571 : decode cL_holds 571 = .ok (.ifCond .eq 63, 3) := by decide +kernel
theorem dL_holds_574 : decode cL_holds 574 = .ok (.aload_n 0, 1) := by decide +kernel
theorem dL_holds_575 : decode cL_holds 575 = .ok (.iconst 4, 1) := by decide +kernel
theorem dL_holds_576 : decode cL_holds 576 = .ok (.iload 14, 2) := by decide +kernel
theorem dL_holds_578 : decode cL_holds 578 = .ok (.bipush 10, 2) := by decide +kernel
theorem dL_holds_580 : decode cL_holds 580 = .ok (.idiv, 1) := by decide +kernel
theorem dL_holds_581 : decode cL_holds 581 = .ok (.iload 14, 2) := by decide +kernel
theorem dL_holds_583 : decode cL_holds 583 = .ok (.bipush 10, 2) := by decide +kernel
theorem dL_holds_585 : decode cL_holds 585 = .ok (.irem, 1) := by decide +kernel
theorem dL_holds_586 : decode cL_holds 586 = .ok (.iconst 2, 1) := by decide +kernel
theorem dL_holds_587 : decode cL_holds 587 = .ok (.invokestatic 182, 3) := by decide +kernel
theorem dL_holds_590 : decode cL_holds 590 = .ok (.aload_n 0, 1) := by decide +kernel
theorem dL_holds_591 : decode cL_holds 591 = .ok (.iconst 4, 1) := by decide +kernel
theorem dL_holds_592 : decode cL_holds 592 = .ok (.iload 14, 2) := by decide +kernel
theorem dL_holds_594 : decode cL_holds 594 = .ok (.bipush 10, 2) := by decide +kernel
theorem dL_holds_596 : decode cL_holds 596 = .ok (.idiv, 1) := by decide +kernel
theorem dL_holds_597 : decode cL_holds 597 = .ok (.iload 14, 2) := by decide +kernel
theorem dL_holds_599 : decode cL_holds 599 = .ok (.bipush 10, 2) := by decide +kernel
theorem dL_holds_601 : decode cL_holds 601 = .ok (.irem, 1) := by decide +kernel
theorem dL_holds_602 : decode cL_holds 602 = .ok (.iconst 1, 1) := by decide +kernel
theorem dL_holds_603 : decode cL_holds 603 = .ok (.invokestatic 182, 3) := by decide +kernel
theorem dL_holds_606 : decode cL_holds 606 = .ok (.isub, 1) := by decide +kernel
theorem dL_holds_607 : decode cL_holds 607 = .ok (.istore 15, 2) := by decide +kernel
theorem dL_holds_609 : decode cL_holds 609 = .ok (.iload 15, 2) := by decide +kernel
theorem dL_holds_611 : decode cL_holds 611 = .ok (.ifCond .ge 9, 3) := by decide +kernel
theorem dL_holds_614 : decode cL_holds 614 = .ok (.iload 15, 2) := by decide +kernel
theorem dL_holds_616 : decode cL_holds 616 = .ok (.ineg, 1) := by decide +kernel
theorem dL_holds_617 : decode cL_holds 617 = .ok (.goto 5, 3) := by decide +kernel
theorem dL_holds_620 : decode cL_holds 620 = .ok (.iload 15, 2) := by decide +kernel
theorem dL_holds_622 : decode cL_holds 622 = .ok (.iload 13, 2) := by decide +kernel
theorem dL_holds_624 : decode cL_holds 624 = .ok (.if_icmp .ne 7, 3) := by decide +kernel
theorem dL_holds_627 : decode cL_holds 627 = .ok (.iconst 1, 1) := by decide +kernel
theorem dL_holds_628 : decode cL_holds 628 = .ok (.goto 4, 3) := by decide +kernel
theorem dL_holds_631 : decode cL_holds 631 = .ok (.iconst 0, 1) := by decide +kernel
theorem dL_holds_632 : decode cL_holds 632 = .ok (.istore 4, 2) := by decide +kernel
theorem dL_holds_634 : decode cL_holds 634 = .ok (.iload_n 3, 1) := by decide +kernel
theorem dL_holds_635 : decode cL_holds 635 = .ok (.ifCond .le 260, 3) := by decide +kernel
theorem dL_holds_638 : decode cL_holds 638 = .ok (.iload 4, 2) := by decide +kernel
theorem dL_holds_640 : decode cL_holds 640 = .ok (.ifCond .eq 255, 3) := by decide +kernel
theorem dL_holds_643 : decode cL_holds 643 = .ok (.aload_n 0, 1) := by decide +kernel
theorem dL_holds_644 : decode cL_holds 644 = .ok (.bipush 17, 2) := by decide +kernel
theorem dL_holds_646 : decode cL_holds 646 = .ok (.iload_n 3, 1) := by decide +kernel
theorem dL_holds_647 : decode cL_holds 647 = .ok (.iconst 0, 1) := by decide +kernel
theorem dL_holds_648 : decode cL_holds 648 = .ok (.iconst 0, 1) := by decide +kernel
theorem dL_holds_649 : decode cL_holds 649 = .ok (.invokestatic 182, 3) := by decide +kernel
theorem dL_holds_652 : decode cL_holds 652 = .ok (.istore 15, 2) := by decide +kernel
theorem dL_holds_654 : decode cL_holds 654 = .ok (.aload_n 0, 1) := by decide +kernel
theorem dL_holds_655 : decode cL_holds 655 = .ok (.iconst 2, 1) := by decide +kernel
theorem dL_holds_656 : decode cL_holds 656 = .ok (.iconst 5, 1) := by decide +kernel
theorem dL_holds_657 : decode cL_holds 657 = .ok (.iconst 0, 1) := by decide +kernel
theorem dL_holds_658 : decode cL_holds 658 = .ok (.iconst 0, 1) := by decide +kernel
theorem dL_holds_659 : decode cL_holds 659 = .ok (.invokestatic 182, 3) := by decide +kernel
theorem dL_holds_662 : decode cL_holds 662 = .ok (.istore 16, 2) := by decide +kernel
theorem dL_holds_664 : decode cL_holds 664 = .ok (.aload_n 0, 1) := by decide +kernel
theorem dL_holds_665 : decode cL_holds 665 = .ok (.bipush 10, 2) := by decide +kernel
theorem dL_holds_667 : decode cL_holds 667 = .ok (.iload_n 3, 1) := by decide +kernel
theorem dL_holds_668 : decode cL_holds 668 = .ok (.iconst 0, 1) := by decide +kernel
theorem dL_holds_669 : decode cL_holds 669 = .ok (.iconst 0, 1) := by decide +kernel
theorem dL_holds_670 : decode cL_holds 670 = .ok (.invokestatic 182, 3) := by decide +kernel
theorem dL_holds_673 : decode cL_holds 673 = .ok (.istore 17, 2) := by decide +kernel
theorem dL_holds_675 : decode cL_holds 675 = .ok (.iload 17, 2) := by decide +kernel
theorem dL_holds_677 : decode cL_holds 677 = .ok (.ifCond .lt 92, 3) := by decide +kernel
theorem dL_holds_680 : decode cL_holds 680 = .ok (.aload_n 0, 1) := by decide +kernel
theorem dL_holds_681 : decode cL_holds 681 = .ok (.iconst 2, 1) := by decide +kernel
theorem dL_holds_682 : decode cL_holds 682 = .ok (.iconst 5, 1) := by decide +kernel
theorem dL_holds_683 : decode cL_holds 683 = .ok (.iconst 0, 1) := by decide +kernel
theorem dL_holds_684 : decode cL_holds 684 = .ok (.iconst 0, 1) := by decide +kernel
theorem dL_holds_685 : decode cL_holds 685 = .ok (.invokestatic 182, 3) := by decide +kernel
theorem dL_holds_688 : decode cL_holds 688 = .ok (.iload 16, 2) := by decide +kernel
theorem dL_holds_690 : decode cL_holds 690 = .ok (.iload 17, 2) := by decide +kernel
theorem dL_holds_692 : decode cL_holds 692 = .ok (.iadd, 1) := by decide +kernel
theorem dL_holds_693 : decode cL_holds 693 = .ok (.if_icmp .ne 76, 3) := by decide +kernel
theorem dL_holds_696 : decode cL_holds 696 = .ok (.aload_n 0, 1) := by decide +kernel
theorem dL_holds_697 : decode cL_holds 697 = .ok (.iconst 2, 1) := by decide +kernel
theorem dL_holds_698 : decode cL_holds 698 = .ok (.invokestatic 186, 3) := by decide +kernel
theorem dL_holds_701 : decode cL_holds 701 = .ok (.lload 7, 2) := by decide +kernel
theorem dL_holds_703 : decode cL_holds 703 = .ok (.lcmp, 1) := by decide +kernel
theorem dL_holds_704 : decode cL_holds 704 = .ok (.ifCond .ne 65, 3) := by decide +kernel
theorem dL_holds_707 : decode cL_holds 707 = .ok (.aload_n 0, 1) := by decide +kernel
theorem dL_holds_708 : decode cL_holds 708 = .ok (.iconst 3, 1) := by decide +kernel
theorem dL_holds_709 : decode cL_holds 709 = .ok (.invokestatic 186, 3) := by decide +kernel
theorem dL_holds_712 : decode cL_holds 712 = .ok (.lload 9, 2) := by decide +kernel
theorem dL_holds_714 : decode cL_holds 714 = .ok (.lcmp, 1) := by decide +kernel
theorem dL_holds_715 : decode cL_holds 715 = .ok (.ifCond .ne 54, 3) := by decide +kernel
theorem dL_holds_718 : decode cL_holds 718 = .ok (.iload 15, 2) := by decide +kernel
theorem dL_holds_720 : decode cL_holds 720 = .ok (.ifCond .ne 7, 3) := by decide +kernel
theorem dL_holds_723 : decode cL_holds 723 = .ok (.iconst 1, 1) := by decide +kernel
theorem dL_holds_724 : decode cL_holds 724 = .ok (.goto 4, 3) := by decide +kernel
theorem dL_holds_727 : decode cL_holds 727 = .ok (.iconst 0, 1) := by decide +kernel
theorem dL_holds_728 : decode cL_holds 728 = .ok (.lload 9, 2) := by decide +kernel
theorem dL_holds_730 : decode cL_holds 730 = .ok (.lconst 0, 1) := by decide +kernel
theorem dL_holds_731 : decode cL_holds 731 = .ok (.lcmp, 1) := by decide +kernel
theorem dL_holds_732 : decode cL_holds 732 = .ok (.ifCond .ne 7, 3) := by decide +kernel
theorem dL_holds_735 : decode cL_holds 735 = .ok (.iconst 1, 1) := by decide +kernel
theorem dL_holds_736 : decode cL_holds 736 = .ok (.goto 4, 3) := by decide +kernel
theorem dL_holds_739 : decode cL_holds 739 = .ok (.iconst 0, 1) := by decide +kernel
theorem dL_holds_740 : decode cL_holds 740 = .ok (.if_icmp .ne 29, 3) := by decide +kernel
theorem dL_holds_743 : decode cL_holds 743 = .ok (.iload 15, 2) := by decide +kernel
theorem dL_holds_745 : decode cL_holds 745 = .ok (.iconst 1, 1) := by decide +kernel
theorem dL_holds_746 : decode cL_holds 746 = .ok (.if_icmp .lt 19, 3) := by decide +kernel
theorem dL_holds_749 : decode cL_holds 749 = .ok (.aload_n 0, 1) := by decide +kernel
theorem dL_holds_750 : decode cL_holds 750 = .ok (.bipush 17, 2) := by decide +kernel
theorem dL_holds_752 : decode cL_holds 752 = .ok (.iload_n 3, 1) := by decide +kernel
theorem dL_holds_753 : decode cL_holds 753 = .ok (.iconst 0, 1) := by decide +kernel
theorem dL_holds_754 : decode cL_holds 754 = .ok (.iconst 0, 1) := by decide +kernel
theorem dL_holds_755 : decode cL_holds 755 = .ok (.invokestatic 182, 3) := by decide +kernel
theorem dL_holds_758 : decode cL_holds 758 = .ok (.iload 15, 2) := by decide +kernel
theorem dL_holds_760 : decode cL_holds 760 = .ok (.iconst 1, 1) := by decide +kernel
theorem dL_holds_761 : decode cL_holds 761 = .ok (.isub, 1) := by decide +kernel
theorem dL_holds_762 : decode cL_holds 762 = .ok (.if_icmp .gt 7, 3) := by decide +kernel
theorem dL_holds_765 : decode cL_holds 765 = .ok (.iconst 1, 1) := by decide +kernel
theorem dL_holds_766 : decode cL_holds 766 = .ok (.goto 4, 3) := by decide +kernel
theorem dL_holds_769 : decode cL_holds 769 = .ok (.iconst 0, 1) := by decide +kernel
theorem dL_holds_770 : decode cL_holds 770 = .ok (.istore 4, 2) := by decide +kernel
theorem dL_holds_772 : decode cL_holds 772 = .ok (.iconst 0, 1) := by decide +kernel
theorem dL_holds_773 : decode cL_holds 773 = .ok (.istore 18, 2) := by decide +kernel
theorem dL_holds_775 : decode cL_holds 775 = .ok (.iconst 0, 1) := by decide +kernel
theorem dL_holds_776 : decode cL_holds 776 = .ok (.istore 19, 2) := by decide +kernel
theorem dL_holds_778 : decode cL_holds 778 = .ok (.iload 19, 2) := by decide +kernel
theorem dL_holds_780 : decode cL_holds 780 = .ok (.iload_n 2, 1) := by decide +kernel
theorem dL_holds_781 : decode cL_holds 781 = .ok (.if_icmp .ge 68, 3) := by decide +kernel
theorem dL_holds_784 : decode cL_holds 784 = .ok (.iload 19, 2) := by decide +kernel
theorem dL_holds_786 : decode cL_holds 786 = .ok (.iconst 1, 1) := by decide +kernel
theorem dL_holds_787 : decode cL_holds 787 = .ok (.iadd, 1) := by decide +kernel
theorem dL_holds_788 : decode cL_holds 788 = .ok (.istore 20, 2) := by decide +kernel
theorem dL_holds_790 : decode cL_holds 790 = .ok (.iload 20, 2) := by decide +kernel
theorem dL_holds_792 : decode cL_holds 792 = .ok (.iload_n 2, 1) := by decide +kernel
theorem dL_holds_793 : decode cL_holds 793 = .ok (.if_icmp .ge 50, 3) := by decide +kernel
theorem dL_holds_796 : decode cL_holds 796 = .ok (.aload_n 0, 1) := by decide +kernel
theorem dL_holds_797 : decode cL_holds 797 = .ok (.iconst 4, 1) := by decide +kernel
theorem dL_holds_798 : decode cL_holds 798 = .ok (.iload 19, 2) := by decide +kernel
theorem dL_holds_800 : decode cL_holds 800 = .ok (.iload 20, 2) := by decide +kernel
theorem dL_holds_802 : decode cL_holds 802 = .ok (.iconst 2, 1) := by decide +kernel
theorem dL_holds_803 : decode cL_holds 803 = .ok (.invokestatic 182, 3) := by decide +kernel
theorem dL_holds_806 : decode cL_holds 806 = .ok (.aload_n 0, 1) := by decide +kernel
theorem dL_holds_807 : decode cL_holds 807 = .ok (.iconst 4, 1) := by decide +kernel
theorem dL_holds_808 : decode cL_holds 808 = .ok (.iload 19, 2) := by decide +kernel
theorem dL_holds_810 : decode cL_holds 810 = .ok (.iload 20, 2) := by decide +kernel
theorem dL_holds_812 : decode cL_holds 812 = .ok (.iconst 1, 1) := by decide +kernel
theorem dL_holds_813 : decode cL_holds 813 = .ok (.invokestatic 182, 3) := by decide +kernel
theorem dL_holds_816 : decode cL_holds 816 = .ok (.isub, 1) := by decide +kernel
theorem dL_holds_817 : decode cL_holds 817 = .ok (.istore 21, 2) := by decide +kernel
theorem dL_holds_819 : decode cL_holds 819 = .ok (.iload 18, 2) := by decide +kernel
theorem dL_holds_821 : decode cL_holds 821 = .ok (.iload 21, 2) := by decide +kernel
theorem dL_holds_823 : decode cL_holds 823 = .ok (.ifCond .ge 9, 3) := by decide +kernel
theorem dL_holds_826 : decode cL_holds 826 = .ok (.iload 21, 2) := by decide +kernel
theorem dL_holds_828 : decode cL_holds 828 = .ok (.ineg, 1) := by decide +kernel
theorem dL_holds_829 : decode cL_holds 829 = .ok (.goto 5, 3) := by decide +kernel
theorem dL_holds_832 : decode cL_holds 832 = .ok (.iload 21, 2) := by decide +kernel
theorem dL_holds_834 : decode cL_holds 834 = .ok (.iadd, 1) := by decide +kernel
theorem dL_holds_835 : decode cL_holds 835 = .ok (.istore 18, 2) := by decide +kernel
theorem dL_holds_837 : decode cL_holds 837 = .ok (.iinc 20 1, 3) := by decide +kernel
theorem dL_holds_840 : decode cL_holds 840 = .ok (.goto (-50), 3) := by decide +kernel
theorem dL_holds_843 : decode cL_holds 843 = .ok (.iinc 19 1, 3) := by decide +kernel
theorem dL_holds_846 : decode cL_holds 846 = .ok (.goto (-68), 3) := by decide +kernel
theorem dL_holds_849 : decode cL_holds 849 = .ok (.iload 4, 2) := by decide +kernel
theorem dL_holds_851 : decode cL_holds 851 = .ok (.ifCond .eq 41, 3) := by decide +kernel
theorem dL_holds_854 : decode cL_holds 854 = .ok (.iload 17, 2) := by decide +kernel
theorem dL_holds_856 : decode cL_holds 856 = .ok (.ifCond .ne 13, 3) := by decide +kernel
theorem dL_holds_859 : decode cL_holds 859 = .ok (.iload 18, 2) := by decide +kernel
theorem dL_holds_861 : decode cL_holds 861 = .ok (.iload 12, 2) := by decide +kernel
theorem dL_holds_863 : decode cL_holds 863 = .ok (.if_icmp .ne 29, 3) := by decide +kernel
theorem dL_holds_866 : decode cL_holds 866 = .ok (.goto 10, 3) := by decide +kernel
theorem dL_holds_869 : decode cL_holds 869 = .ok (.iload 18, 2) := by decide +kernel
theorem dL_holds_871 : decode cL_holds 871 = .ok (.iload 12, 2) := by decide +kernel
theorem dL_holds_873 : decode cL_holds 873 = .ok (.if_icmp .ge 19, 3) := by decide +kernel
theorem dL_holds_876 : decode cL_holds 876 = .ok (.aload_n 0, 1) := by decide +kernel
theorem dL_holds_877 : decode cL_holds 877 = .ok (.bipush 13, 2) := by decide +kernel
theorem dL_holds_879 : decode cL_holds 879 = .ok (.iconst 0, 1) := by decide +kernel
theorem dL_holds_880 : decode cL_holds 880 = .ok (.iconst 0, 1) := by decide +kernel
theorem dL_holds_881 : decode cL_holds 881 = .ok (.iconst 0, 1) := by decide +kernel
theorem dL_holds_882 : decode cL_holds 882 = .ok (.invokestatic 182, 3) := by decide +kernel
theorem dL_holds_885 : decode cL_holds 885 = .ok (.ifCond .lt 7, 3) := by decide +kernel
theorem dL_holds_888 : decode cL_holds 888 = .ok (.iconst 1, 1) := by decide +kernel
theorem dL_holds_889 : decode cL_holds 889 = .ok (.goto 4, 3) := by decide +kernel
theorem dL_holds_892 : decode cL_holds 892 = .ok (.iconst 0, 1) := by decide +kernel
theorem dL_holds_893 : decode cL_holds 893 = .ok (.istore 4, 2) := by decide +kernel
