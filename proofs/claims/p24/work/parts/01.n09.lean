theorem dL_tick_142 : decode cL_tick 142 = .ok (.goto 4, 3) := by decide +kernel
theorem dL_tick_145 : decode cL_tick 145 = .ok (.iconst 0, 1) := by decide +kernel
theorem dL_tick_146 : decode cL_tick 146 = .ok (.istore 18, 2) := by decide +kernel
theorem dL_tick_148 : decode cL_tick 148 = .ok (.iload 17, 2) := by decide +kernel
theorem dL_tick_150 : decode cL_tick 150 = .ok (.ifCond .eq 8, 3) := by decide +kernel
theorem dL_tick_153 : decode cL_tick 153 = .ok (.iload 6, 2) := by decide +kernel
theorem dL_tick_155 : decode cL_tick 155 = .ok (.goto 5, 3) := by decide +kernel
theorem dL_tick_158 : decode cL_tick 158 = .ok (.iload 5, 2) := by decide +kernel
theorem dL_tick_160 : decode cL_tick 160 = .ok (.istore 19, 2) := by decide +kernel
theorem dL_tick_162 : decode cL_tick 162 = .ok (.iload 18, 2) := by decide +kernel
theorem dL_tick_164 : decode cL_tick 164 = .ok (.ifCond .eq 25, 3) := by decide +kernel
theorem dL_tick_167 : decode cL_tick 167 = .ok (.iload 19, 2) := by decide +kernel
theorem dL_tick_169 : decode cL_tick 169 = .ok (.iconst 5, 1) := by decide +kernel
theorem dL_tick_170 : decode cL_tick 170 = .ok (.if_icmp .ge 19, 3) := by decide +kernel
theorem dL_tick_173 : decode cL_tick 173 = .ok (.fload_n 3, 1) := by decide +kernel
theorem dL_tick_174 : decode cL_tick 174 = .ok (.aload_n 0, 1) := by decide +kernel
theorem dL_tick_175 : decode cL_tick 175 = .ok (.iload 19, 2) := by decide +kernel
theorem dL_tick_177 : decode cL_tick 177 = .ok (.iconst 3, 1) := by decide +kernel
theorem dL_tick_178 : decode cL_tick 178 = .ok (.invokevirtual 87, 3) := by decide +kernel
theorem dL_tick_181 : decode cL_tick 181 = .ok (.fcmp .l, 1) := by decide +kernel
theorem dL_tick_182 : decode cL_tick 182 = .ok (.ifCond .le 7, 3) := by decide +kernel
theorem dL_tick_185 : decode cL_tick 185 = .ok (.iconst 1, 1) := by decide +kernel
theorem dL_tick_186 : decode cL_tick 186 = .ok (.goto 4, 3) := by decide +kernel
theorem dL_tick_189 : decode cL_tick 189 = .ok (.iconst 0, 1) := by decide +kernel
theorem dL_tick_190 : decode cL_tick 190 = .ok (.istore 20, 2) := by decide +kernel
theorem dL_tick_192 : decode cL_tick 192 = .ok (.iload 18, 2) := by decide +kernel
theorem dL_tick_194 : decode cL_tick 194 = .ok (.ifCond .eq 22, 3) := by decide +kernel
theorem dL_tick_197 : decode cL_tick 197 = .ok (.iload 20, 2) := by decide +kernel
theorem dL_tick_199 : decode cL_tick 199 = .ok (.ifCond .ne 17, 3) := by decide +kernel
theorem dL_tick_202 : decode cL_tick 202 = .ok (.iload 9, 2) := by decide +kernel
theorem dL_tick_204 : decode cL_tick 204 = .ok (.ifCond .ne 12, 3) := by decide +kernel
theorem dL_tick_207 : decode cL_tick 207 = .ok (.iload 8, 2) := by decide +kernel
theorem dL_tick_209 : decode cL_tick 209 = .ok (.ifCond .ne 7, 3) := by decide +kernel
theorem dL_tick_212 : decode cL_tick 212 = .ok (.iconst 1, 1) := by decide +kernel
theorem dL_tick_213 : decode cL_tick 213 = .ok (.goto 4, 3) := by decide +kernel
theorem dL_tick_216 : decode cL_tick 216 = .ok (.iconst 0, 1) := by decide +kernel
theorem dL_tick_217 : decode cL_tick 217 = .ok (.istore 21, 2) := by decide +kernel
theorem dL_tick_219 : decode cL_tick 219 = .ok (.iload 21, 2) := by decide +kernel
theorem dL_tick_221 : decode cL_tick 221 = .ok (.ifCond .eq 29, 3) := by decide +kernel
theorem dL_tick_224 : decode cL_tick 224 = .ok (.iload 19, 2) := by decide +kernel
theorem dL_tick_226 : decode cL_tick 226 = .ok (.iconst 5, 1) := by decide +kernel
theorem dL_tick_227 : decode cL_tick 227 = .ok (.if_icmp .ge 23, 3) := by decide +kernel
theorem dL_tick_230 : decode cL_tick 230 = .ok (.fload_n 3, 1) := by decide +kernel
theorem dL_tick_231 : decode cL_tick 231 = .ok (.aload_n 0, 1) := by decide +kernel
theorem dL_tick_232 : decode cL_tick 232 = .ok (.iload 19, 2) := by decide +kernel
theorem dL_tick_234 : decode cL_tick 234 = .ok (.iload_n 2, 1) := by decide +kernel
theorem dL_tick_235 : decode cL_tick 235 = .ok (.invokestatic 81, 3) := by decide +kernel
theorem dL_tick_238 : decode cL_tick 238 = .ok (.iconst 1, 1) := by decide +kernel
theorem dL_tick_239 : decode cL_tick 239 = .ok (.invokevirtual 91, 3) := by decide +kernel
theorem dL_tick_242 : decode cL_tick 242 = .ok (.fcmp .l, 1) := by decide +kernel
theorem dL_tick_243 : decode cL_tick 243 = .ok (.ifCond .le 7, 3) := by decide +kernel
theorem dL_tick_246 : decode cL_tick 246 = .ok (.iconst 1, 1) := by decide +kernel
theorem dL_tick_247 : decode cL_tick 247 = .ok (.goto 4, 3) := by decide +kernel
theorem dL_tick_250 : decode cL_tick 250 = .ok (.iconst 0, 1) := by decide +kernel
theorem dL_tick_251 : decode cL_tick 251 = .ok (.istore 22, 2) := by decide +kernel
theorem dL_tick_253 : decode cL_tick 253 = .ok (.iload 21, 2) := by decide +kernel
theorem dL_tick_255 : decode cL_tick 255 = .ok (.ifCond .eq 36, 3) := by decide +kernel
theorem dL_tick_258 : decode cL_tick 258 = .ok (.iload 22, 2) := by decide +kernel
theorem dL_tick_260 : decode cL_tick 260 = .ok (.ifCond .ne 31, 3) := by decide +kernel
theorem dL_tick_263 : decode cL_tick 263 = .ok (.iload 19, 2) := by decide +kernel
theorem dL_tick_265 : decode cL_tick 265 = .ok (.iconst 1, 1) := by decide +kernel
theorem dL_tick_266 : decode cL_tick 266 = .ok (.if_icmp .le 25, 3) := by decide +kernel
theorem dL_tick_269 : decode cL_tick 269 = .ok (.fload_n 3, 1) := by decide +kernel
theorem dL_tick_270 : decode cL_tick 270 = .ok (.aload_n 0, 1) := by decide +kernel
theorem dL_tick_271 : decode cL_tick 271 = .ok (.iload 19, 2) := by decide +kernel
theorem dL_tick_273 : decode cL_tick 273 = .ok (.iconst 1, 1) := by decide +kernel
theorem dL_tick_274 : decode cL_tick 274 = .ok (.isub, 1) := by decide +kernel
theorem dL_tick_275 : decode cL_tick 275 = .ok (.iload_n 2, 1) := by decide +kernel
theorem dL_tick_276 : decode cL_tick 276 = .ok (.invokestatic 81, 3) := by decide +kernel
theorem dL_tick_279 : decode cL_tick 279 = .ok (.iconst 0, 1) := by decide +kernel
theorem dL_tick_280 : decode cL_tick 280 = .ok (.invokevirtual 91, 3) := by decide +kernel
theorem dL_tick_283 : decode cL_tick 283 = .ok (.fcmp .g, 1) := by decide +kernel
theorem dL_tick_284 : decode cL_tick 284 = .ok (.ifCond .ge 7, 3) := by decide +kernel
theorem dL_tick_287 : decode cL_tick 287 = .ok (.iconst 1, 1) := by decide +kernel
theorem dL_tick_288 : decode cL_tick 288 = .ok (.goto 4, 3) := by decide +kernel
theorem dL_tick_291 : decode cL_tick 291 = .ok (.iconst 0, 1) := by decide +kernel
theorem dL_tick_292 : decode cL_tick 292 = .ok (.istore 23, 2) := by decide +kernel
theorem dL_tick_294 : decode cL_tick 294 = .ok (.aload_n 0, 1) := by decide +kernel
theorem dL_tick_295 : decode cL_tick 295 = .ok (.iload_n 1, 1) := by decide +kernel
theorem dL_tick_296 : decode cL_tick 296 = .ok (.invokestatic 78, 3) := by decide +kernel
theorem dL_tick_299 : decode cL_tick 299 = .ok (.iload_n 2, 1) := by decide +kernel
theorem dL_tick_300 : decode cL_tick 300 = .ok (.invokestatic 81, 3) := by decide +kernel
theorem dL_tick_303 : decode cL_tick 303 = .ok (.iconst 1, 1) := by decide +kernel
theorem dL_tick_304 : decode cL_tick 304 = .ok (.invokevirtual 95, 3) := by decide +kernel
theorem dL_tick_307 : decode cL_tick 307 = .ok (.istore 24, 2) := by decide +kernel
theorem dL_tick_309 : decode cL_tick 309 = .ok (.aload_n 0, 1) := by decide +kernel
theorem dL_tick_310 : decode cL_tick 310 = .ok (.iconst 3, 1) := by decide +kernel
theorem dL_tick_311 : decode cL_tick 311 = .ok (.invokevirtual 57, 3) := by decide +kernel
theorem dL_tick_314 : decode cL_tick 314 = .ok (.iload 13, 2) := by decide +kernel
theorem dL_tick_316 : decode cL_tick 316 = .ok (.iconst 1, 1) := by decide +kernel
theorem dL_tick_317 : decode cL_tick 317 = .ok (.iadd, 1) := by decide +kernel
theorem dL_tick_318 : decode cL_tick 318 = .ok (.if_icmp .ne 7, 3) := by decide +kernel
theorem dL_tick_321 : decode cL_tick 321 = .ok (.iconst 1, 1) := by decide +kernel
theorem dL_tick_322 : decode cL_tick 322 = .ok (.goto 4, 3) := by decide +kernel
theorem dL_tick_325 : decode cL_tick 325 = .ok (.iconst 0, 1) := by decide +kernel
theorem dL_tick_326 : decode cL_tick 326 = .ok (.istore 25, 2) := by decide +kernel
theorem dL_tick_328 : decode cL_tick 328 = .ok (.iload 25, 2) := by decide +kernel
theorem dL_tick_330 : decode cL_tick 330 = .ok (.ifCond .eq 138, 3) := by decide +kernel
theorem dL_tick_333 : decode cL_tick 333 = .ok (.aload_n 0, 1) := by decide +kernel
theorem dL_tick_334 : decode cL_tick 334 = .ok (.iconst 1, 1) := by decide +kernel
theorem dL_tick_335 : decode cL_tick 335 = .ok (.invokevirtual 38, 3) := by decide +kernel
theorem dL_tick_338 : decode cL_tick 338 = .ok (.istore 26, 2) := by decide +kernel
theorem dL_tick_340 : decode cL_tick 340 = .ok (.iload 26, 2) := by decide +kernel
theorem dL_tick_342 : decode cL_tick 342 = .ok (.iload 19, 2) := by decide +kernel
theorem dL_tick_344 : decode cL_tick 344 = .ok (.iconst 2, 1) := by decide +kernel
theorem dL_tick_345 : decode cL_tick 345 = .ok (.isub, 1) := by decide +kernel
theorem dL_tick_346 : decode cL_tick 346 = .ok (.if_icmp .lt 55, 3) := by decide +kernel
theorem dL_tick_349 : decode cL_tick 349 = .ok (.iload 26, 2) := by decide +kernel
theorem dL_tick_351 : decode cL_tick 351 = .ok (.iload 19, 2) := by decide +kernel
theorem dL_tick_353 : decode cL_tick 353 = .ok (.if_icmp .ge 48, 3) := by decide +kernel
theorem dL_tick_356 : decode cL_tick 356 = .ok (.aload_n 0, 1) := by decide +kernel
theorem dL_tick_357 : decode cL_tick 357 = .ok (.iload 26, 2) := by decide +kernel
theorem dL_tick_359 : decode cL_tick 359 = .ok (.iconst 3, 1) := by decide +kernel
theorem dL_tick_360 : decode cL_tick 360 = .ok (.invokevirtual 87, 3) := by decide +kernel
theorem dL_tick_363 : decode cL_tick 363 = .ok (.fload_n 3, 1) := by decide +kernel
theorem dL_tick_364 : decode cL_tick 364 = .ok (.fcmp .l, 1) := by decide +kernel
theorem dL_tick_365 : decode cL_tick 365 = .ok (.ifCond .lt 36, 3) := by decide +kernel
theorem dL_tick_368 : decode cL_tick 368 = .ok (.iload 26, 2) := by decide +kernel
theorem dL_tick_370 : decode cL_tick 370 = .ok (.iconst 1, 1) := by decide +kernel
theorem dL_tick_371 : decode cL_tick 371 = .ok (.if_icmp .eq 26, 3) := by decide +kernel
theorem dL_tick_374 : decode cL_tick 374 = .ok (.iload 26, 2) := by decide +kernel
theorem dL_tick_376 : decode cL_tick 376 = .ok (.iload 19, 2) := by decide +kernel
theorem dL_tick_378 : decode cL_tick 378 = .ok (.iconst 2, 1) := by decide +kernel
theorem dL_tick_379 : decode cL_tick 379 = .ok (.isub, 1) := by decide +kernel
theorem dL_tick_380 : decode cL_tick 380 = .ok (.if_icmp .eq 17, 3) := by decide +kernel
theorem dL_tick_383 : decode cL_tick 383 = .ok (.aload_n 0, 1) := by decide +kernel
theorem dL_tick_384 : decode cL_tick 384 = .ok (.iload 26, 2) := by decide +kernel
theorem dL_tick_386 : decode cL_tick 386 = .ok (.iconst 1, 1) := by decide +kernel
theorem dL_tick_387 : decode cL_tick 387 = .ok (.isub, 1) := by decide +kernel
theorem dL_tick_388 : decode cL_tick 388 = .ok (.iconst 3, 1) := by decide +kernel
theorem dL_tick_389 : decode cL_tick 389 = .ok (.invokevirtual 87, 3) := by decide +kernel
theorem dL_tick_392 : decode cL_tick 392 = .ok (.fload_n 3, 1) := by decide +kernel
theorem dL_tick_393 : decode cL_tick 393 = .ok (.fcmp .g, 1) := by decide +kernel
theorem dL_tick_394 : decode cL_tick 394 = .ok (.ifCond .ge 7, 3) := by decide +kernel
theorem dL_tick_397 : decode cL_tick 397 = .ok (.iconst 1, 1) := by decide +kernel
theorem dL_tick_398 : decode cL_tick 398 = .ok (.goto 4, 3) := by decide +kernel
theorem dL_tick_401 : decode cL_tick 401 = .ok (.iconst 0, 1) := by decide +kernel
theorem dL_tick_402 : decode cL_tick 402 = .ok (.istore 27, 2) := by decide +kernel
theorem dL_tick_404 : decode cL_tick 404 = .ok (.iload 20, 2) := by decide +kernel
theorem dL_tick_406 : decode cL_tick 406 = .ok (.ifCond .ne 60, 3) := by decide +kernel
theorem dL_tick_409 : decode cL_tick 409 = .ok (.iload 18, 2) := by decide +kernel
theorem dL_tick_411 : decode cL_tick 411 = .ok (.ifCond .eq 55, 3) := by decide +kernel
theorem dL_tick_414 : decode cL_tick 414 = .ok (.fload 4, 2) := by decide +kernel
theorem dL_tick_416 : decode cL_tick 416 = .ok (.ldc 37, 2) := by decide +kernel
theorem dL_tick_418 : decode cL_tick 418 = .ok (.fcmp .l, 1) := by decide +kernel
theorem dL_tick_419 : decode cL_tick 419 = .ok (.ifCond .lt 47, 3) := by decide +kernel
theorem dL_tick_422 : decode cL_tick 422 = .ok (.iload 27, 2) := by decide +kernel
theorem dL_tick_424 : decode cL_tick 424 = .ok (.ifCond .eq 42, 3) := by decide +kernel
theorem dL_tick_427 : decode cL_tick 427 = .ok (.iload 10, 2) := by decide +kernel
theorem dL_tick_429 : decode cL_tick 429 = .ok (.iload 26, 2) := by decide +kernel
theorem dL_tick_431 : decode cL_tick 431 = .ok (.if_icmp .ne 35, 3) := by decide +kernel
theorem dL_tick_434 : decode cL_tick 434 = .ok (.iload 24, 2) := by decide +kernel
theorem dL_tick_436 : decode cL_tick 436 = .ok (.iconst 1, 1) := by decide +kernel
theorem dL_tick_437 : decode cL_tick 437 = .ok (.if_icmp .ne 29, 3) := by decide +kernel
theorem dL_tick_440 : decode cL_tick 440 = .ok (.aload_n 0, 1) := by decide +kernel
theorem dL_tick_441 : decode cL_tick 441 = .ok (.iconst 0, 1) := by decide +kernel
theorem dL_tick_442 : decode cL_tick 442 = .ok (.invokevirtual 38, 3) := by decide +kernel
theorem dL_tick_445 : decode cL_tick 445 = .ok (.iload 19, 2) := by decide +kernel
theorem dL_tick_447 : decode cL_tick 447 = .ok (.if_icmp .ne 19, 3) := by decide +kernel
theorem dL_tick_450 : decode cL_tick 450 = .ok (.aload_n 0, 1) := by decide +kernel
theorem dL_tick_451 : decode cL_tick 451 = .ok (.iconst 0, 1) := by decide +kernel
theorem dL_tick_452 : decode cL_tick 452 = .ok (.invokevirtual 57, 3) := by decide +kernel
theorem dL_tick_455 : decode cL_tick 455 = .ok (.iload 16, 2) := by decide +kernel
theorem dL_tick_457 : decode cL_tick 457 = .ok (.iconst 1, 1) := by decide +kernel
theorem dL_tick_458 : decode cL_tick 458 = .ok (.iadd, 1) := by decide +kernel
theorem dL_tick_459 : decode cL_tick 459 = .ok (.if_icmp .ne 7, 3) := by decide +kernel
theorem dL_tick_462 : decode cL_tick 462 = .ok (.iconst 1, 1) := by decide +kernel
theorem dL_tick_463 : decode cL_tick 463 = .ok (.goto 4, 3) := by decide +kernel
theorem dL_tick_466 : decode cL_tick 466 = .ok (.iconst 0, 1) := by decide +kernel
theorem dL_tick_467 : decode cL_tick 467 = .ok (.ireturn, 1) := by decide +kernel
theorem dL_tick_468 : decode cL_tick 468 = .ok (.iload 20, 2) := by decide +kernel
theorem dL_tick_470 : decode cL_tick 470 = .ok (.ifCond .ne 8, 3) := by decide +kernel
theorem dL_tick_473 : decode cL_tick 473 = .ok (.iload 22, 2) := by decide +kernel
theorem dL_tick_475 : decode cL_tick 475 = .ok (.ifCond .eq 10, 3) := by decide +kernel
theorem dL_tick_478 : decode cL_tick 478 = .ok (.iload 19, 2) := by decide +kernel
theorem dL_tick_480 : decode cL_tick 480 = .ok (.iconst 1, 1) := by decide +kernel
theorem dL_tick_481 : decode cL_tick 481 = .ok (.iadd, 1) := by decide +kernel
theorem dL_tick_482 : decode cL_tick 482 = .ok (.goto 17, 3) := by decide +kernel
theorem dL_tick_485 : decode cL_tick 485 = .ok (.iload 23, 2) := by decide +kernel
theorem dL_tick_487 : decode cL_tick 487 = .ok (.ifCond .eq 10, 3) := by decide +kernel
theorem dL_tick_490 : decode cL_tick 490 = .ok (.iload 19, 2) := by decide +kernel
theorem dL_tick_492 : decode cL_tick 492 = .ok (.iconst 1, 1) := by decide +kernel
theorem dL_tick_493 : decode cL_tick 493 = .ok (.isub, 1) := by decide +kernel
theorem dL_tick_494 : decode cL_tick 494 = .ok (.goto 5, 3) := by decide +kernel
theorem dL_tick_497 : decode cL_tick 497 = .ok (.bipush (-5), 2) := by decide +kernel
theorem dL_tick_499 : decode cL_tick 499 = .ok (.istore 26, 2) := by decide +kernel
theorem dL_tick_501 : decode cL_tick 501 = .ok (.aload_n 0, 1) := by decide +kernel
theorem dL_tick_502 : decode cL_tick 502 = .ok (.iconst 5, 1) := by decide +kernel
theorem dL_tick_503 : decode cL_tick 503 = .ok (.invokevirtual 57, 3) := by decide +kernel
theorem dL_tick_506 : decode cL_tick 506 = .ok (.iload 14, 2) := by decide +kernel
theorem dL_tick_508 : decode cL_tick 508 = .ok (.iload 20, 2) := by decide +kernel
theorem dL_tick_510 : decode cL_tick 510 = .ok (.ifCond .eq 7, 3) := by decide +kernel
theorem dL_tick_513 : decode cL_tick 513 = .ok (.iconst 1, 1) := by decide +kernel
theorem dL_tick_514 : decode cL_tick 514 = .ok (.goto 4, 3) := by decide +kernel
theorem dL_tick_517 : decode cL_tick 517 = .ok (.iconst 0, 1) := by decide +kernel
theorem dL_tick_518 : decode cL_tick 518 = .ok (.iadd, 1) := by decide +kernel
theorem dL_tick_519 : decode cL_tick 519 = .ok (.if_icmp .ne 49, 3) := by decide +kernel
theorem dL_tick_522 : decode cL_tick 522 = .ok (.aload_n 0, 1) := by decide +kernel
theorem dL_tick_523 : decode cL_tick 523 = .ok (.iconst 1, 1) := by decide +kernel
theorem dL_tick_524 : decode cL_tick 524 = .ok (.invokevirtual 57, 3) := by decide +kernel
theorem dL_tick_527 : decode cL_tick 527 = .ok (.iload 11, 2) := by decide +kernel
theorem dL_tick_529 : decode cL_tick 529 = .ok (.iload 22, 2) := by decide +kernel
theorem dL_tick_531 : decode cL_tick 531 = .ok (.ifCond .eq 7, 3) := by decide +kernel
theorem dL_tick_534 : decode cL_tick 534 = .ok (.iconst 1, 1) := by decide +kernel
theorem dL_tick_535 : decode cL_tick 535 = .ok (.goto 4, 3) := by decide +kernel
theorem dL_tick_538 : decode cL_tick 538 = .ok (.iconst 0, 1) := by decide +kernel
theorem dL_tick_539 : decode cL_tick 539 = .ok (.iadd, 1) := by decide +kernel
theorem dL_tick_540 : decode cL_tick 540 = .ok (.if_icmp .ne 28, 3) := by decide +kernel
theorem dL_tick_543 : decode cL_tick 543 = .ok (.aload_n 0, 1) := by decide +kernel
theorem dL_tick_544 : decode cL_tick 544 = .ok (.iconst 2, 1) := by decide +kernel
theorem dL_tick_545 : decode cL_tick 545 = .ok (.invokevirtual 57, 3) := by decide +kernel
theorem dL_tick_548 : decode cL_tick 548 = .ok (.iload 12, 2) := by decide +kernel
theorem dL_tick_550 : decode cL_tick 550 = .ok (.iload 23, 2) := by decide +kernel
theorem dL_tick_552 : decode cL_tick 552 = .ok (.ifCond .eq 7, 3) := by decide +kernel
theorem dL_tick_555 : decode cL_tick 555 = .ok (.iconst 1, 1) := by decide +kernel
theorem dL_tick_556 : decode cL_tick 556 = .ok (.goto 4, 3) := by decide +kernel
theorem dL_tick_559 : decode cL_tick 559 = .ok (.iconst 0, 1) := by decide +kernel
theorem dL_tick_560 : decode cL_tick 560 = .ok (.iadd, 1) := by decide +kernel
theorem dL_tick_561 : decode cL_tick 561 = .ok (.if_icmp .ne 7, 3) := by decide +kernel
theorem dL_tick_564 : decode cL_tick 564 = .ok (.iconst 1, 1) := by decide +kernel
theorem dL_tick_565 : decode cL_tick 565 = .ok (.goto 4, 3) := by decide +kernel
theorem dL_tick_568 : decode cL_tick 568 = .ok (.iconst 0, 1) := by decide +kernel
theorem dL_tick_569 : decode cL_tick 569 = .ok (.istore 27, 2) := by decide +kernel
theorem dL_tick_571 : decode cL_tick 571 = .ok (.iload 8, 2) := by decide +kernel
theorem dL_tick_573 : decode cL_tick 573 = .ok (.ifCond .le 10, 3) := by decide +kernel
theorem dL_tick_576 : decode cL_tick 576 = .ok (.iload 8, 2) := by decide +kernel
theorem dL_tick_578 : decode cL_tick 578 = .ok (.iconst 1, 1) := by decide +kernel
theorem dL_tick_579 : decode cL_tick 579 = .ok (.isub, 1) := by decide +kernel
theorem dL_tick_580 : decode cL_tick 580 = .ok (.goto 4, 3) := by decide +kernel
theorem dL_tick_583 : decode cL_tick 583 = .ok (.iconst 0, 1) := by decide +kernel
theorem dL_tick_584 : decode cL_tick 584 = .ok (.istore 28, 2) := by decide +kernel
theorem dL_tick_586 : decode cL_tick 586 = .ok (.aload_n 0, 1) := by decide +kernel
theorem dL_tick_587 : decode cL_tick 587 = .ok (.bipush 6, 2) := by decide +kernel
theorem dL_tick_589 : decode cL_tick 589 = .ok (.invokevirtual 57, 3) := by decide +kernel
theorem dL_tick_592 : decode cL_tick 592 = .ok (.iload 15, 2) := by decide +kernel
theorem dL_tick_594 : decode cL_tick 594 = .ok (.if_icmp .ne 21, 3) := by decide +kernel
theorem dL_tick_597 : decode cL_tick 597 = .ok (.aload_n 0, 1) := by decide +kernel
theorem dL_tick_598 : decode cL_tick 598 = .ok (.iconst 3, 1) := by decide +kernel
theorem dL_tick_599 : decode cL_tick 599 = .ok (.invokevirtual 38, 3) := by decide +kernel
theorem dL_tick_602 : decode cL_tick 602 = .ok (.iload 28, 2) := by decide +kernel
theorem dL_tick_604 : decode cL_tick 604 = .ok (.if_icmp .ne 7, 3) := by decide +kernel
theorem dL_tick_607 : decode cL_tick 607 = .ok (.iconst 1, 1) := by decide +kernel
theorem dL_tick_608 : decode cL_tick 608 = .ok (.goto 65, 3) := by decide +kernel
theorem dL_tick_611 : decode cL_tick 611 = .ok (.iconst 0, 1) := by decide +kernel
theorem dL_tick_612 : decode cL_tick 612 = .ok (.goto 61, 3) := by decide +kernel
theorem dL_tick_615 : decode cL_tick 615 = .ok (.aload_n 0, 1) := by decide +kernel
theorem dL_tick_616 : decode cL_tick 616 = .ok (.bipush 6, 2) := by decide +kernel
theorem dL_tick_618 : decode cL_tick 618 = .ok (.invokevirtual 57, 3) := by decide +kernel
theorem dL_tick_621 : decode cL_tick 621 = .ok (.iload 15, 2) := by decide +kernel
theorem dL_tick_623 : decode cL_tick 623 = .ok (.iconst 1, 1) := by decide +kernel
theorem dL_tick_624 : decode cL_tick 624 = .ok (.iadd, 1) := by decide +kernel
theorem dL_tick_625 : decode cL_tick 625 = .ok (.if_icmp .ne 47, 3) := by decide +kernel
theorem dL_tick_628 : decode cL_tick 628 = .ok (.aload_n 0, 1) := by decide +kernel
theorem dL_tick_629 : decode cL_tick 629 = .ok (.iconst 3, 1) := by decide +kernel
theorem dL_tick_630 : decode cL_tick 630 = .ok (.invokevirtual 38, 3) := by decide +kernel
theorem dL_tick_633 : decode cL_tick 633 = .ok (.aload_n 0, 1) := by decide +kernel
theorem dL_tick_634 : decode cL_tick 634 = .ok (.iconst 3, 1) := by decide +kernel
theorem dL_tick_635 : decode cL_tick 635 = .ok (.invokevirtual 44, 3) := by decide +kernel
theorem dL_tick_638 : decode cL_tick 638 = .ok (.if_icmp .ne 34, 3) := by decide +kernel
theorem dL_tick_641 : decode cL_tick 641 = .ok (.iload 22, 2) := by decide +kernel
theorem dL_tick_643 : decode cL_tick 643 = .ok (.ifCond .ne 8, 3) := by decide +kernel
theorem dL_tick_646 : decode cL_tick 646 = .ok (.iload 23, 2) := by decide +kernel
theorem dL_tick_648 : decode cL_tick 648 = .ok (.ifCond .eq 24, 3) := by decide +kernel
theorem dL_tick_651 : decode cL_tick 651 = .ok (.aload_n 0, 1) := by decide +kernel
theorem dL_tick_652 : decode cL_tick 652 = .ok (.iconst 0, 1) := by decide +kernel
theorem dL_tick_653 : decode cL_tick 653 = .ok (.iconst 4, 1) := by decide +kernel
theorem dL_tick_654 : decode cL_tick 654 = .ok (.invokevirtual 68, 3) := by decide +kernel
theorem dL_tick_657 : decode cL_tick 657 = .ok (.iconst 1, 1) := by decide +kernel
theorem dL_tick_658 : decode cL_tick 658 = .ok (.if_icmp .ne 14, 3) := by decide +kernel
theorem dL_tick_661 : decode cL_tick 661 = .ok (.aload_n 0, 1) := by decide +kernel
theorem dL_tick_662 : decode cL_tick 662 = .ok (.invokestatic 99, 3) := by decide +kernel
theorem dL_tick_665 : decode cL_tick 665 = .ok (.ifCond .eq 7, 3) := by decide +kernel
theorem dL_tick_668 : decode cL_tick 668 = .ok (.iconst 1, 1) := by decide +kernel
theorem dL_tick_669 : decode cL_tick 669 = .ok (.goto 4, 3) := by decide +kernel
theorem dL_tick_672 : decode cL_tick 672 = .ok (.iconst 0, 1) := by decide +kernel
theorem dL_tick_673 : decode cL_tick 673 = .ok (.istore 29, 2) := by decide +kernel
theorem dL_tick_675 : decode cL_tick 675 = .ok (.iload 26, 2) := by decide +kernel
theorem dL_tick_677 : decode cL_tick 677 = .ok (.bipush (-5), 2) := by decide +kernel
theorem dL_tick_679 : decode cL_tick 679 = .ok (.if_icmp .ne 36, 3) := by decide +kernel
theorem dL_tick_682 : decode cL_tick 682 = .ok (.iload 24, 2) := by decide +kernel
theorem dL_tick_684 : decode cL_tick 684 = .ok (.ifCond .ne 27, 3) := by decide +kernel
theorem dL_tick_687 : decode cL_tick 687 = .ok (.aload_n 0, 1) := by decide +kernel
theorem dL_tick_688 : decode cL_tick 688 = .ok (.iconst 1, 1) := by decide +kernel
theorem dL_tick_689 : decode cL_tick 689 = .ok (.invokevirtual 38, 3) := by decide +kernel
theorem dL_tick_692 : decode cL_tick 692 = .ok (.iload 18, 2) := by decide +kernel
theorem dL_tick_694 : decode cL_tick 694 = .ok (.ifCond .eq 8, 3) := by decide +kernel
theorem dL_tick_697 : decode cL_tick 697 = .ok (.bipush (-5), 2) := by decide +kernel
theorem dL_tick_699 : decode cL_tick 699 = .ok (.goto 5, 3) := by decide +kernel
theorem dL_tick_702 : decode cL_tick 702 = .ok (.iload 6, 2) := by decide +kernel
theorem dL_tick_704 : decode cL_tick 704 = .ok (.if_icmp .ne 7, 3) := by decide +kernel
theorem dL_tick_707 : decode cL_tick 707 = .ok (.iconst 1, 1) := by decide +kernel
theorem dL_tick_708 : decode cL_tick 708 = .ok (.goto 47, 3) := by decide +kernel
theorem dL_tick_711 : decode cL_tick 711 = .ok (.iconst 0, 1) := by decide +kernel
theorem dL_tick_712 : decode cL_tick 712 = .ok (.goto 43, 3) := by decide +kernel
theorem dL_tick_715 : decode cL_tick 715 = .ok (.iload 24, 2) := by decide +kernel
theorem dL_tick_717 : decode cL_tick 717 = .ok (.iconst 1, 1) := by decide +kernel
theorem dL_tick_718 : decode cL_tick 718 = .ok (.if_icmp .ne 36, 3) := by decide +kernel
theorem dL_tick_721 : decode cL_tick 721 = .ok (.aload_n 0, 1) := by decide +kernel
theorem dL_tick_722 : decode cL_tick 722 = .ok (.iconst 1, 1) := by decide +kernel
theorem dL_tick_723 : decode cL_tick 723 = .ok (.invokevirtual 38, 3) := by decide +kernel
theorem dL_tick_726 : decode cL_tick 726 = .ok (.iload 26, 2) := by decide +kernel
theorem dL_tick_728 : decode cL_tick 728 = .ok (.if_icmp .ne 26, 3) := by decide +kernel
theorem dL_tick_731 : decode cL_tick 731 = .ok (.aload_n 0, 1) := by decide +kernel
theorem dL_tick_732 : decode cL_tick 732 = .ok (.iconst 2, 1) := by decide +kernel
theorem dL_tick_733 : decode cL_tick 733 = .ok (.invokevirtual 38, 3) := by decide +kernel
theorem dL_tick_736 : decode cL_tick 736 = .ok (.ifCond .ne 18, 3) := by decide +kernel
theorem dL_tick_739 : decode cL_tick 739 = .ok (.aload_n 0, 1) := by decide +kernel
theorem dL_tick_740 : decode cL_tick 740 = .ok (.iconst 0, 1) := by decide +kernel
theorem dL_tick_741 : decode cL_tick 741 = .ok (.iconst 0, 1) := by decide +kernel
theorem dL_tick_742 : decode cL_tick 742 = .ok (.invokevirtual 68, 3) := by decide +kernel
theorem dL_tick_745 : decode cL_tick 745 = .ok (.iload 16, 2) := by decide +kernel
theorem dL_tick_747 : decode cL_tick 747 = .ok (.if_icmp .ne 7, 3) := by decide +kernel
theorem dL_tick_750 : decode cL_tick 750 = .ok (.iconst 1, 1) := by decide +kernel
theorem dL_tick_751 : decode cL_tick 751 = .ok (.goto 4, 3) := by decide +kernel
theorem dL_tick_754 : decode cL_tick 754 = .ok (.iconst 0, 1) := by decide +kernel
theorem dL_tick_755 : decode cL_tick 755 = .ok (.istore 30, 2) := by decide +kernel
theorem dL_tick_757 : decode cL_tick 757 = .ok (.iload 10, 2) := by decide +kernel
theorem dL_tick_759 : decode cL_tick 759 = .ok (.iload 26, 2) := by decide +kernel
theorem dL_tick_761 : decode cL_tick 761 = .ok (.if_icmp .ne 60, 3) := by decide +kernel
theorem dL_tick_764 : decode cL_tick 764 = .ok (.iload 27, 2) := by decide +kernel
theorem dL_tick_766 : decode cL_tick 766 = .ok (.ifCond .eq 55, 3) := by decide +kernel
theorem dL_tick_769 : decode cL_tick 769 = .ok (.iload 29, 2) := by decide +kernel
theorem dL_tick_771 : decode cL_tick 771 = .ok (.ifCond .eq 50, 3) := by decide +kernel
theorem dL_tick_774 : decode cL_tick 774 = .ok (.iload 30, 2) := by decide +kernel
theorem dL_tick_776 : decode cL_tick 776 = .ok (.ifCond .eq 45, 3) := by decide +kernel
theorem dL_tick_779 : decode cL_tick 779 = .ok (.aload_n 0, 1) := by decide +kernel
theorem dL_tick_780 : decode cL_tick 780 = .ok (.iconst 0, 1) := by decide +kernel
theorem dL_tick_781 : decode cL_tick 781 = .ok (.invokevirtual 38, 3) := by decide +kernel
theorem dL_tick_784 : decode cL_tick 784 = .ok (.iload 19, 2) := by decide +kernel
theorem dL_tick_786 : decode cL_tick 786 = .ok (.if_icmp .ne 35, 3) := by decide +kernel
theorem dL_tick_789 : decode cL_tick 789 = .ok (.aload_n 0, 1) := by decide +kernel
theorem dL_tick_790 : decode cL_tick 790 = .ok (.bipush 6, 2) := by decide +kernel
theorem dL_tick_792 : decode cL_tick 792 = .ok (.invokevirtual 57, 3) := by decide +kernel
theorem dL_tick_795 : decode cL_tick 795 = .ok (.iload 15, 2) := by decide +kernel
theorem dL_tick_797 : decode cL_tick 797 = .ok (.if_icmp .gt 20, 3) := by decide +kernel
theorem dL_tick_800 : decode cL_tick 800 = .ok (.iload 22, 2) := by decide +kernel
theorem dL_tick_802 : decode cL_tick 802 = .ok (.ifCond .ne 8, 3) := by decide +kernel
theorem dL_tick_805 : decode cL_tick 805 = .ok (.iload 23, 2) := by decide +kernel
theorem dL_tick_807 : decode cL_tick 807 = .ok (.ifCond .eq 10, 3) := by decide +kernel
theorem dL_tick_810 : decode cL_tick 810 = .ok (.aload_n 0, 1) := by decide +kernel
theorem dL_tick_811 : decode cL_tick 811 = .ok (.invokestatic 99, 3) := by decide +kernel
theorem dL_tick_814 : decode cL_tick 814 = .ok (.ifCond .ne 7, 3) := by decide +kernel
theorem dL_tick_817 : decode cL_tick 817 = .ok (.iconst 1, 1) := by decide +kernel
theorem dL_tick_818 : decode cL_tick 818 = .ok (.goto 4, 3) := by decide +kernel
theorem dL_tick_821 : decode cL_tick 821 = .ok (.iconst 0, 1) := by decide +kernel
theorem dL_tick_822 : decode cL_tick 822 = .ok (.ireturn, 1) := by decide +kernel
set_option maxRecDepth 20000 in
theorem ggL_wentToAndFro_X5_change : GoodIn wsL_wentToAndFro wsX5_change := goodIn_r _ [5, 6, 7, 8, 9, 10, 11, 12, 13, 14, 25, 26, 27, 28, 29, 30, 31, 32, 33, 34, 35, 36, 37, 38, 39, 40, 41, 42, 43, 44] (by decide +kernel) (by decide +kernel)
set_option maxRecDepth 20000 in
theorem gL_wentToAndFro_X5_change : GoodIn wsL_wentToAndFro (wsV RL 68 RX5 yX5_change wsX5_change) := goodIn_app (goodIn_of _ (by decide +kernel)) ggL_wentToAndFro_X5_change
set_option maxRecDepth 20000 in
theorem ggL_wentToAndFro_X5_number : GoodIn wsL_wentToAndFro wsX5_number := goodIn_r _ [18, 6, 19, 20, 21, 22, 23, 24, 25, 26, 27, 28, 29, 30, 31, 32, 33, 34, 35, 36, 37, 38, 39, 40, 41] (by decide +kernel) (by decide +kernel)
set_option maxRecDepth 20000 in
theorem gL_wentToAndFro_X5_number : GoodIn wsL_wentToAndFro (wsV RL 44 RX5 yX5_number wsX5_number) := goodIn_app (goodIn_of _ (by decide +kernel)) ggL_wentToAndFro_X5_number
theorem dL_wentToAndFro_0 : decode cL_wentToAndFro 0 = .ok (.aload_n 0, 1) := by decide +kernel
theorem dL_wentToAndFro_1 : decode cL_wentToAndFro 1 = .ok (.iconst 2, 1) := by decide +kernel
theorem dL_wentToAndFro_2 : decode cL_wentToAndFro 2 = .ok (.iconst 0, 1) := by decide +kernel
theorem dL_wentToAndFro_3 : decode cL_wentToAndFro 3 = .ok (.invokevirtual 68, 3) := by decide +kernel
theorem dL_wentToAndFro_6 : decode cL_wentToAndFro 6 = .ok (.ifCond .lt 28, 3) := by decide +kernel
theorem dL_wentToAndFro_9 : decode cL_wentToAndFro 9 = .ok (.aload_n 0, 1) := by decide +kernel
theorem dL_wentToAndFro_10 : decode cL_wentToAndFro 10 = .ok (.iconst 0, 1) := by decide +kernel
theorem dL_wentToAndFro_11 : decode cL_wentToAndFro 11 = .ok (.iconst 0, 1) := by decide +kernel
theorem dL_wentToAndFro_12 : decode cL_wentToAndFro 12 = .ok (.invokevirtual 68, 3) := by decide +kernel
theorem dL_wentToAndFro_15 : decode cL_wentToAndFro 15 = .ok (.aload_n 0, 1) := by decide +kernel
theorem dL_wentToAndFro_16 : decode cL_wentToAndFro 16 = .ok (.iconst 2, 1) := by decide +kernel
theorem dL_wentToAndFro_17 : decode cL_wentToAndFro 17 = .ok (.iconst 0, 1) := by decide +kernel
theorem dL_wentToAndFro_18 : decode cL_wentToAndFro 18 = .ok (.invokevirtual 68, 3) := by decide +kernel
theorem dL_wentToAndFro_21 : decode cL_wentToAndFro 21 = .ok (.isub, 1) := by decide +kernel
theorem dL_wentToAndFro_22 : decode cL_wentToAndFro 22 = .ok (.aload_n 0, 1) := by decide +kernel
theorem dL_wentToAndFro_23 : decode cL_wentToAndFro 23 = .ok (.iconst 2, 1) := by decide +kernel
theorem dL_wentToAndFro_24 : decode cL_wentToAndFro 24 = .ok (.invokevirtual 44, 3) := by decide +kernel
theorem dL_wentToAndFro_27 : decode cL_wentToAndFro 27 = .ok (.if_icmp .gt 7, 3) := by decide +kernel
theorem dL_wentToAndFro_30 : decode cL_wentToAndFro 30 = .ok (.iconst 1, 1) := by decide +kernel
theorem dL_wentToAndFro_31 : decode cL_wentToAndFro 31 = .ok (.goto 4, 3) := by decide +kernel
theorem dL_wentToAndFro_34 : decode cL_wentToAndFro 34 = .ok (.iconst 0, 1) := by decide +kernel
theorem dL_wentToAndFro_35 : decode cL_wentToAndFro 35 = .ok (.istore_n 1, 1) := by decide +kernel
theorem dL_wentToAndFro_36 : decode cL_wentToAndFro 36 = .ok (.iconst 0, 1) := by decide +kernel
theorem dL_wentToAndFro_37 : decode cL_wentToAndFro 37 = .ok (.istore_n 2, 1) := by decide +kernel
theorem dL_wentToAndFro_38 : decode cL_wentToAndFro 38 = .ok (.iload_n 2, 1) := by decide +kernel
theorem dL_wentToAndFro_39 : decode cL_wentToAndFro 39 = .ok (.iconst 3, 1) := by decide +kernel
theorem dL_wentToAndFro_40 : decode cL_wentToAndFro 40 = .ok (.if_icmp .ge 59, 3) := by decide +kernel
theorem dL_wentToAndFro_43 : decode cL_wentToAndFro 43 = .ok (.iload_n 1, 1) := by decide +kernel
theorem dL_wentToAndFro_44 : decode cL_wentToAndFro 44 = .ok (.ifCond .eq 47, 3) := by decide +kernel
theorem dL_wentToAndFro_47 : decode cL_wentToAndFro 47 = .ok (.aload_n 0, 1) := by decide +kernel
theorem dL_wentToAndFro_48 : decode cL_wentToAndFro 48 = .ok (.iload_n 2, 1) := by decide +kernel
theorem dL_wentToAndFro_49 : decode cL_wentToAndFro 49 = .ok (.iconst 3, 1) := by decide +kernel
theorem dL_wentToAndFro_50 : decode cL_wentToAndFro 50 = .ok (.invokevirtual 68, 3) := by decide +kernel
theorem dL_wentToAndFro_53 : decode cL_wentToAndFro 53 = .ok (.ifCond .lt 38, 3) := by decide +kernel
theorem dL_wentToAndFro_56 : decode cL_wentToAndFro 56 = .ok (.aload_n 0, 1) := by decide +kernel
theorem dL_wentToAndFro_57 : decode cL_wentToAndFro 57 = .ok (.iload_n 2, 1) := by decide +kernel
theorem dL_wentToAndFro_58 : decode cL_wentToAndFro 58 = .ok (.iconst 3, 1) := by decide +kernel
theorem dL_wentToAndFro_59 : decode cL_wentToAndFro 59 = .ok (.invokevirtual 68, 3) := by decide +kernel
theorem dL_wentToAndFro_62 : decode cL_wentToAndFro 62 = .ok (.iconst 1, 1) := by decide +kernel
theorem dL_wentToAndFro_63 : decode cL_wentToAndFro 63 = .ok (.if_icmp .gt 28, 3) := by decide +kernel
theorem dL_wentToAndFro_66 : decode cL_wentToAndFro 66 = .ok (.iload_n 2, 1) := by decide +kernel
theorem dL_wentToAndFro_67 : decode cL_wentToAndFro 67 = .ok (.ifCond .eq 20, 3) := by decide +kernel
theorem dL_wentToAndFro_70 : decode cL_wentToAndFro 70 = .ok (.aload_n 0, 1) := by decide +kernel
theorem dL_wentToAndFro_71 : decode cL_wentToAndFro 71 = .ok (.iload_n 2, 1) := by decide +kernel
theorem dL_wentToAndFro_72 : decode cL_wentToAndFro 72 = .ok (.iconst 3, 1) := by decide +kernel
theorem dL_wentToAndFro_73 : decode cL_wentToAndFro 73 = .ok (.invokevirtual 68, 3) := by decide +kernel
theorem dL_wentToAndFro_76 : decode cL_wentToAndFro 76 = .ok (.aload_n 0, 1) := by decide +kernel
theorem dL_wentToAndFro_77 : decode cL_wentToAndFro 77 = .ok (.iload_n 2, 1) := by decide +kernel
theorem dL_wentToAndFro_78 : decode cL_wentToAndFro 78 = .ok (.iconst 1, 1) := by decide +kernel
theorem dL_wentToAndFro_79 : decode cL_wentToAndFro 79 = .ok (.isub, 1) := by decide +kernel
theorem dL_wentToAndFro_80 : decode cL_wentToAndFro 80 = .ok (.iconst 3, 1) := by decide +kernel
theorem dL_wentToAndFro_81 : decode cL_wentToAndFro 81 = .ok (.invokevirtual 68, 3) := by decide +kernel
theorem dL_wentToAndFro_84 : decode cL_wentToAndFro 84 = .ok (.if_icmp .eq 7, 3) := by decide +kernel
theorem dL_wentToAndFro_87 : decode cL_wentToAndFro 87 = .ok (.iconst 1, 1) := by decide +kernel
theorem dL_wentToAndFro_88 : decode cL_wentToAndFro 88 = .ok (.goto 4, 3) := by decide +kernel
theorem dL_wentToAndFro_91 : decode cL_wentToAndFro 91 = .ok (.iconst 0, 1) := by decide +kernel
theorem dL_wentToAndFro_92 : decode cL_wentToAndFro 92 = .ok (.istore_n 1, 1) := by decide +kernel
theorem dL_wentToAndFro_93 : decode cL_wentToAndFro 93 = .ok (.iinc 2 1, 3) := by decide +kernel
theorem dL_wentToAndFro_96 : decode cL_wentToAndFro 96 = .ok (.goto (-58), 3) := by decide +kernel
theorem dL_wentToAndFro_99 : decode cL_wentToAndFro 99 = .ok (.iload_n 1, 1) := by decide +kernel
theorem dL_wentToAndFro_100 : decode cL_wentToAndFro 100 = .ok (.ireturn, 1) := by decide +kernel
set_option maxRecDepth 20000 in
theorem ggL_acts_L_low : GoodIn wsL_acts wsL_low := goodIn_r _ [4, 5] (by decide +kernel) (by decide +kernel)
set_option maxRecDepth 20000 in
theorem gL_acts_L_low : GoodIn wsL_acts (va_wsS RL 103 yL_low wsL_low) := goodIn_app (goodIn_of _ (by decide +kernel)) ggL_acts_L_low
set_option maxRecDepth 20000 in
theorem ggL_acts_X5_map : GoodIn wsL_acts wsX5_map := goodIn_r _ [10, 11, 12, 13, 14, 15, 16, 17, 18, 19, 20, 21, 22, 9, 23, 24, 330, 331, 332, 333, 334, 335, 336, 337, 338, 339, 340, 341, 342, 343, 344, 345, 346, 347] (by decide +kernel) (by decide +kernel)
set_option maxRecDepth 20000 in
theorem gL_acts_X5_map : GoodIn wsL_acts (wsV RL 87 RX5 yX5_map wsX5_map) := goodIn_app (goodIn_of _ (by decide +kernel)) ggL_acts_X5_map
set_option maxRecDepth 20000 in
theorem ggL_acts_L_fast : GoodIn wsL_acts wsL_fast := goodIn_r _ [27, 28, 29, 30, 31, 32, 33, 34, 35, 36, 37, 38] (by decide +kernel) (by decide +kernel)
set_option maxRecDepth 20000 in
theorem gL_acts_L_fast : GoodIn wsL_acts (va_wsS RL 72 yL_fast wsL_fast) := goodIn_app (goodIn_of _ (by decide +kernel)) ggL_acts_L_fast
set_option maxRecDepth 20000 in
theorem ggL_acts_L_speed : GoodIn wsL_acts wsL_speed := goodIn_r _ [41, 42, 43, 44, 45, 46, 47, 48, 49, 50, 51, 52] (by decide +kernel) (by decide +kernel)
set_option maxRecDepth 20000 in
theorem gL_acts_L_speed : GoodIn wsL_acts (va_wsS RL 78 yL_speed wsL_speed) := goodIn_app (goodIn_of _ (by decide +kernel)) ggL_acts_L_speed
set_option maxRecDepth 20000 in
theorem ggL_acts_X5_setMap : GoodIn wsL_acts wsX5_setMap := goodIn_r _ [56, 11, 57, 12, 13, 14, 15, 58, 59, 9, 60, 61, 62, 63, 64, 65, 66, 67, 16, 17, 18, 19, 20, 68, 69, 70, 71, 72, 73, 74, 75, 76, 77, 78, 79, 80, 81, 82, 83, 84, 85, 86, 87, 88, 89, 90, 91, 92, 93, 94, 95, 96, 97, 98, 99, 100, 101, 102, 103, 104, 105, 106, 107, 108, 109, 110, 111, 112, 113, 114, 115, 116, 117, 118, 119, 120, 121, 122, 330, 331, 332, 333, 334, 335, 336, 337, 338, 339, 340, 341, 342, 343, 344, 345, 346, 347, 348, 349, 350, 351, 352, 353] (by decide +kernel) (by decide +kernel)
