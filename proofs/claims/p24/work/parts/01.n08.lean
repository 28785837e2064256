theorem dL_told_82 : decode cL_told 82 = .ok (.iload_n 2, 1) := by decide +kernel
theorem dL_told_83 : decode cL_told 83 = .ok (.iload 7, 2) := by decide +kernel
theorem dL_told_85 : decode cL_told 85 = .ok (.invokestatic 47, 3) := by decide +kernel
theorem dL_told_88 : decode cL_told 88 = .ok (.if_icmp .eq 98, 3) := by decide +kernel
theorem dL_told_91 : decode cL_told 91 = .ok (.iload_n 3, 1) := by decide +kernel
theorem dL_told_92 : decode cL_told 92 = .ok (.i2f, 1) := by decide +kernel
theorem dL_told_93 : decode cL_told 93 = .ok (.iload 4, 2) := by decide +kernel
theorem dL_told_95 : decode cL_told 95 = .ok (.i2f, 1) := by decide +kernel
theorem dL_told_96 : decode cL_told 96 = .ok (.fdiv, 1) := by decide +kernel
theorem dL_told_97 : decode cL_told 97 = .ok (.fstore 9, 2) := by decide +kernel
theorem dL_told_99 : decode cL_told 99 = .ok (.iload_n 3, 1) := by decide +kernel
theorem dL_told_100 : decode cL_told 100 = .ok (.iload 5, 2) := by decide +kernel
theorem dL_told_102 : decode cL_told 102 = .ok (.isub, 1) := by decide +kernel
theorem dL_told_103 : decode cL_told 103 = .ok (.i2f, 1) := by decide +kernel
theorem dL_told_104 : decode cL_told 104 = .ok (.iload 4, 2) := by decide +kernel
theorem dL_told_106 : decode cL_told 106 = .ok (.iload 5, 2) := by decide +kernel
theorem dL_told_108 : decode cL_told 108 = .ok (.isub, 1) := by decide +kernel
theorem dL_told_109 : decode cL_told 109 = .ok (.i2f, 1) := by decide +kernel
theorem dL_told_110 : decode cL_told 110 = .ok (.fdiv, 1) := by decide +kernel
theorem dL_told_111 : decode cL_told 111 = .ok (.fstore 10, 2) := by decide +kernel
theorem dL_told_113 : decode cL_told 113 = .ok (.iload_n 1, 1) := by decide +kernel
theorem dL_told_114 : decode cL_told 114 = .ok (.iload 7, 2) := by decide +kernel
theorem dL_told_116 : decode cL_told 116 = .ok (.invokestatic 47, 3) := by decide +kernel
theorem dL_told_119 : decode cL_told 119 = .ok (.ifCond .eq 10, 3) := by decide +kernel
theorem dL_told_122 : decode cL_told 122 = .ok (.fconst 1, 1) := by decide +kernel
theorem dL_told_123 : decode cL_told 123 = .ok (.fload 9, 2) := by decide +kernel
theorem dL_told_125 : decode cL_told 125 = .ok (.fsub, 1) := by decide +kernel
theorem dL_told_126 : decode cL_told 126 = .ok (.goto 15, 3) := by decide +kernel
theorem dL_told_129 : decode cL_told 129 = .ok (.iload_n 3, 1) := by decide +kernel
theorem dL_told_130 : decode cL_told 130 = .ok (.iload 5, 2) := by decide +kernel
theorem dL_told_132 : decode cL_told 132 = .ok (.if_icmp .gt 7, 3) := by decide +kernel
theorem dL_told_135 : decode cL_told 135 = .ok (.fconst 0, 1) := by decide +kernel
theorem dL_told_136 : decode cL_told 136 = .ok (.goto 5, 3) := by decide +kernel
theorem dL_told_139 : decode cL_told 139 = .ok (.fload 10, 2) := by decide +kernel
theorem dL_told_141 : decode cL_told 141 = .ok (.fstore 8, 2) := by decide +kernel
theorem dL_told_143 : decode cL_told 143 = .ok (.fload 8, 2) := by decide +kernel
theorem dL_told_145 : decode cL_told 145 = .ok (.fload 6, 2) := by decide +kernel
theorem dL_told_147 : decode cL_told 147 = .ok (.fcmp .l, 1) := by decide +kernel
theorem dL_told_148 : decode cL_told 148 = .ok (.ifCond .le 8, 3) := by decide +kernel
theorem dL_told_151 : decode cL_told 151 = .ok (.fload 8, 2) := by decide +kernel
theorem dL_told_153 : decode cL_told 153 = .ok (.goto 5, 3) := by decide +kernel
theorem dL_told_156 : decode cL_told 156 = .ok (.fload 6, 2) := by decide +kernel
theorem dL_told_158 : decode cL_told 158 = .ok (.fstore 6, 2) := by decide +kernel
theorem dL_told_160 : decode cL_told 160 = .ok (.aload_n 0, 1) := by decide +kernel
theorem dL_told_161 : decode cL_told 161 = .ok (.iload_n 1, 1) := by decide +kernel
theorem dL_told_162 : decode cL_told 162 = .ok (.iload 7, 2) := by decide +kernel
theorem dL_told_164 : decode cL_told 164 = .ok (.invokestatic 47, 3) := by decide +kernel
theorem dL_told_167 : decode cL_told 167 = .ok (.ifCond .eq 7, 3) := by decide +kernel
theorem dL_told_170 : decode cL_told 170 = .ok (.iconst 5, 1) := by decide +kernel
theorem dL_told_171 : decode cL_told 171 = .ok (.goto 5, 3) := by decide +kernel
theorem dL_told_174 : decode cL_told 174 = .ok (.bipush 6, 2) := by decide +kernel
theorem dL_told_176 : decode cL_told 176 = .ok (.invokevirtual 38, 3) := by decide +kernel
theorem dL_told_179 : decode cL_told 179 = .ok (.iload 7, 2) := by decide +kernel
theorem dL_told_181 : decode cL_told 181 = .ok (.if_icmp .eq 5, 3) := by decide +kernel
theorem dL_told_184 : decode cL_told 184 = .ok (.iconst 0, 1) := by decide +kernel
theorem dL_told_185 : decode cL_told 185 = .ok (.ireturn, 1) := by decide +kernel
theorem dL_told_186 : decode cL_told 186 = .ok (.aload_n 0, 1) := by decide +kernel
theorem dL_told_187 : decode cL_told 187 = .ok (.iload 7, 2) := by decide +kernel
theorem dL_told_189 : decode cL_told 189 = .ok (.invokevirtual 53, 3) := by decide +kernel
theorem dL_told_192 : decode cL_told 192 = .ok (.fload 8, 2) := by decide +kernel
theorem dL_told_194 : decode cL_told 194 = .ok (.fcmp .l, 1) := by decide +kernel
theorem dL_told_195 : decode cL_told 195 = .ok (.ifCond .eq 5, 3) := by decide +kernel
theorem dL_told_198 : decode cL_told 198 = .ok (.iconst 0, 1) := by decide +kernel
theorem dL_told_199 : decode cL_told 199 = .ok (.ireturn, 1) := by decide +kernel
theorem dL_told_200 : decode cL_told 200 = .ok (.iinc 7 1, 3) := by decide +kernel
theorem dL_told_203 : decode cL_told 203 = .ok (.goto (-155), 3) := by decide +kernel
theorem dL_told_206 : decode cL_told 206 = .ok (.iload_n 2, 1) := by decide +kernel
theorem dL_told_207 : decode cL_told 207 = .ok (.bipush (-5), 2) := by decide +kernel
theorem dL_told_209 : decode cL_told 209 = .ok (.if_icmp .ne 38, 3) := by decide +kernel
theorem dL_told_212 : decode cL_told 212 = .ok (.iload_n 3, 1) := by decide +kernel
theorem dL_told_213 : decode cL_told 213 = .ok (.bipush (-5), 2) := by decide +kernel
theorem dL_told_215 : decode cL_told 215 = .ok (.if_icmp .ne 28, 3) := by decide +kernel
theorem dL_told_218 : decode cL_told 218 = .ok (.aload_n 0, 1) := by decide +kernel
theorem dL_told_219 : decode cL_told 219 = .ok (.iconst 5, 1) := by decide +kernel
theorem dL_told_220 : decode cL_told 220 = .ok (.invokevirtual 38, 3) := by decide +kernel
theorem dL_told_223 : decode cL_told 223 = .ok (.bipush (-5), 2) := by decide +kernel
theorem dL_told_225 : decode cL_told 225 = .ok (.if_icmp .ne 18, 3) := by decide +kernel
theorem dL_told_228 : decode cL_told 228 = .ok (.aload_n 0, 1) := by decide +kernel
theorem dL_told_229 : decode cL_told 229 = .ok (.bipush 6, 2) := by decide +kernel
theorem dL_told_231 : decode cL_told 231 = .ok (.invokevirtual 38, 3) := by decide +kernel
theorem dL_told_234 : decode cL_told 234 = .ok (.bipush (-5), 2) := by decide +kernel
theorem dL_told_236 : decode cL_told 236 = .ok (.if_icmp .ne 7, 3) := by decide +kernel
theorem dL_told_239 : decode cL_told 239 = .ok (.iconst 1, 1) := by decide +kernel
theorem dL_told_240 : decode cL_told 240 = .ok (.goto 27, 3) := by decide +kernel
theorem dL_told_243 : decode cL_told 243 = .ok (.iconst 0, 1) := by decide +kernel
theorem dL_told_244 : decode cL_told 244 = .ok (.goto 23, 3) := by decide +kernel
theorem dL_told_247 : decode cL_told 247 = .ok (.iload_n 3, 1) := by decide +kernel
theorem dL_told_248 : decode cL_told 248 = .ok (.ifCond .lt 18, 3) := by decide +kernel
theorem dL_told_251 : decode cL_told 251 = .ok (.iload_n 3, 1) := by decide +kernel
theorem dL_told_252 : decode cL_told 252 = .ok (.iload 4, 2) := by decide +kernel
theorem dL_told_254 : decode cL_told 254 = .ok (.if_icmp .ge 12, 3) := by decide +kernel
theorem dL_told_257 : decode cL_told 257 = .ok (.iload_n 2, 1) := by decide +kernel
theorem dL_told_258 : decode cL_told 258 = .ok (.iload_n 1, 1) := by decide +kernel
theorem dL_told_259 : decode cL_told 259 = .ok (.if_icmp .eq 7, 3) := by decide +kernel
theorem dL_told_262 : decode cL_told 262 = .ok (.iconst 1, 1) := by decide +kernel
theorem dL_told_263 : decode cL_told 263 = .ok (.goto 4, 3) := by decide +kernel
theorem dL_told_266 : decode cL_told 266 = .ok (.iconst 0, 1) := by decide +kernel
theorem dL_told_267 : decode cL_told 267 = .ok (.istore 7, 2) := by decide +kernel
theorem dL_told_269 : decode cL_told 269 = .ok (.aload_n 0, 1) := by decide +kernel
theorem dL_told_270 : decode cL_told 270 = .ok (.iconst 1, 1) := by decide +kernel
theorem dL_told_271 : decode cL_told 271 = .ok (.invokevirtual 57, 3) := by decide +kernel
theorem dL_told_274 : decode cL_told 274 = .ok (.aload_n 0, 1) := by decide +kernel
theorem dL_told_275 : decode cL_told 275 = .ok (.iconst 2, 1) := by decide +kernel
theorem dL_told_276 : decode cL_told 276 = .ok (.invokevirtual 57, 3) := by decide +kernel
theorem dL_told_279 : decode cL_told 279 = .ok (.iadd, 1) := by decide +kernel
theorem dL_told_280 : decode cL_told 280 = .ok (.aload_n 0, 1) := by decide +kernel
theorem dL_told_281 : decode cL_told 281 = .ok (.iconst 3, 1) := by decide +kernel
theorem dL_told_282 : decode cL_told 282 = .ok (.invokevirtual 57, 3) := by decide +kernel
theorem dL_told_285 : decode cL_told 285 = .ok (.iadd, 1) := by decide +kernel
theorem dL_told_286 : decode cL_told 286 = .ok (.aload_n 0, 1) := by decide +kernel
theorem dL_told_287 : decode cL_told 287 = .ok (.iconst 4, 1) := by decide +kernel
theorem dL_told_288 : decode cL_told 288 = .ok (.invokevirtual 57, 3) := by decide +kernel
theorem dL_told_291 : decode cL_told 291 = .ok (.iadd, 1) := by decide +kernel
theorem dL_told_292 : decode cL_told 292 = .ok (.aload_n 0, 1) := by decide +kernel
theorem dL_told_293 : decode cL_told 293 = .ok (.iconst 5, 1) := by decide +kernel
theorem dL_told_294 : decode cL_told 294 = .ok (.invokevirtual 57, 3) := by decide +kernel
theorem dL_told_297 : decode cL_told 297 = .ok (.iadd, 1) := by decide +kernel
theorem dL_told_298 : decode cL_told 298 = .ok (.istore 8, 2) := by decide +kernel
theorem dL_told_300 : decode cL_told 300 = .ok (.iload 8, 2) := by decide +kernel
theorem dL_told_302 : decode cL_told 302 = .ok (.bipush 10, 2) := by decide +kernel
theorem dL_told_304 : decode cL_told 304 = .ok (.if_icmp .ge 8, 3) := by decide +kernel
theorem dL_told_307 : decode cL_told 307 = .ok (.iload 8, 2) := by decide +kernel
theorem dL_told_309 : decode cL_told 309 = .ok (.goto 5, 3) := by decide +kernel
theorem dL_told_312 : decode cL_told 312 = .ok (.bipush 10, 2) := by decide +kernel
theorem dL_told_314 : decode cL_told 314 = .ok (.istore 9, 2) := by decide +kernel
theorem dL_told_316 : decode cL_told 316 = .ok (.aload_n 0, 1) := by decide +kernel
theorem dL_told_317 : decode cL_told 317 = .ok (.bipush 7, 2) := by decide +kernel
theorem dL_told_319 : decode cL_told 319 = .ok (.invokevirtual 57, 3) := by decide +kernel
theorem dL_told_322 : decode cL_told 322 = .ok (.aload_n 0, 1) := by decide +kernel
theorem dL_told_323 : decode cL_told 323 = .ok (.bipush 8, 2) := by decide +kernel
theorem dL_told_325 : decode cL_told 325 = .ok (.invokevirtual 57, 3) := by decide +kernel
theorem dL_told_328 : decode cL_told 328 = .ok (.iadd, 1) := by decide +kernel
theorem dL_told_329 : decode cL_told 329 = .ok (.aload_n 0, 1) := by decide +kernel
theorem dL_told_330 : decode cL_told 330 = .ok (.bipush 9, 2) := by decide +kernel
theorem dL_told_332 : decode cL_told 332 = .ok (.invokevirtual 57, 3) := by decide +kernel
theorem dL_told_335 : decode cL_told 335 = .ok (.iadd, 1) := by decide +kernel
theorem dL_told_336 : decode cL_told 336 = .ok (.aload_n 0, 1) := by decide +kernel
theorem dL_told_337 : decode cL_told 337 = .ok (.bipush 10, 2) := by decide +kernel
theorem dL_told_339 : decode cL_told 339 = .ok (.invokevirtual 57, 3) := by decide +kernel
theorem dL_told_342 : decode cL_told 342 = .ok (.iadd, 1) := by decide +kernel
theorem dL_told_343 : decode cL_told 343 = .ok (.aload_n 0, 1) := by decide +kernel
theorem dL_told_344 : decode cL_told 344 = .ok (.bipush 11, 2) := by decide +kernel
theorem dL_told_346 : decode cL_told 346 = .ok (.invokevirtual 57, 3) := by decide +kernel
theorem dL_told_349 : decode cL_told 349 = .ok (.iadd, 1) := by decide +kernel
theorem dL_told_350 : decode cL_told 350 = .ok (.istore 10, 2) := by decide +kernel
theorem dL_told_352 : decode cL_told 352 = .ok (.iload 7, 2) := by decide +kernel
theorem dL_told_354 : decode cL_told 354 = .ok (.ifCond .eq 56, 3) := by decide +kernel
theorem dL_told_357 : decode cL_told 357 = .ok (.aload_n 0, 1) := by decide +kernel
theorem dL_told_358 : decode cL_told 358 = .ok (.invokevirtual 60, 3) := by decide +kernel
theorem dL_told_361 : decode cL_told 361 = .ok (.fload 6, 2) := by decide +kernel
theorem dL_told_363 : decode cL_told 363 = .ok (.fcmp .l, 1) := by decide +kernel
theorem dL_told_364 : decode cL_told 364 = .ok (.ifCond .ne 46, 3) := by decide +kernel
theorem dL_told_367 : decode cL_told 367 = .ok (.iload 10, 2) := by decide +kernel
theorem dL_told_369 : decode cL_told 369 = .ok (.aload_n 0, 1) := by decide +kernel
theorem dL_told_370 : decode cL_told 370 = .ok (.iconst 0, 1) := by decide +kernel
theorem dL_told_371 : decode cL_told 371 = .ok (.invokevirtual 57, 3) := by decide +kernel
theorem dL_told_374 : decode cL_told 374 = .ok (.if_icmp .ne 36, 3) := by decide +kernel
theorem dL_told_377 : decode cL_told 377 = .ok (.aload_n 0, 1) := by decide +kernel
theorem dL_told_378 : decode cL_told 378 = .ok (.bipush 12, 2) := by decide +kernel
theorem dL_told_380 : decode cL_told 380 = .ok (.invokevirtual 57, 3) := by decide +kernel
theorem dL_told_383 : decode cL_told 383 = .ok (.iload 10, 2) := by decide +kernel
theorem dL_told_385 : decode cL_told 385 = .ok (.if_icmp .gt 25, 3) := by decide +kernel
theorem dL_told_388 : decode cL_told 388 = .ok (.aload_n 0, 1) := by decide +kernel
theorem dL_told_389 : decode cL_told 389 = .ok (.bipush 7, 2) := by decide +kernel
theorem dL_told_391 : decode cL_told 391 = .ok (.invokevirtual 38, 3) := by decide +kernel
theorem dL_told_394 : decode cL_told 394 = .ok (.bipush (-2), 2) := by decide +kernel
theorem dL_told_396 : decode cL_told 396 = .ok (.if_icmp .ne 14, 3) := by decide +kernel
theorem dL_told_399 : decode cL_told 399 = .ok (.aload_n 0, 1) := by decide +kernel
theorem dL_told_400 : decode cL_told 400 = .ok (.iconst 5, 1) := by decide +kernel
theorem dL_told_401 : decode cL_told 401 = .ok (.invokevirtual 53, 3) := by decide +kernel
theorem dL_told_404 : decode cL_told 404 = .ok (.invokestatic 64, 3) := by decide +kernel
theorem dL_told_407 : decode cL_told 407 = .ok (.ifCond .ne 5, 3) := by decide +kernel
theorem dL_told_410 : decode cL_told 410 = .ok (.iconst 0, 1) := by decide +kernel
theorem dL_told_411 : decode cL_told 411 = .ok (.ireturn, 1) := by decide +kernel
theorem dL_told_412 : decode cL_told 412 = .ok (.iconst 0, 1) := by decide +kernel
theorem dL_told_413 : decode cL_told 413 = .ok (.istore 11, 2) := by decide +kernel
theorem dL_told_415 : decode cL_told 415 = .ok (.iload 11, 2) := by decide +kernel
theorem dL_told_417 : decode cL_told 417 = .ok (.iload 9, 2) := by decide +kernel
theorem dL_told_419 : decode cL_told 419 = .ok (.if_icmp .ge 227, 3) := by decide +kernel
theorem dL_told_422 : decode cL_told 422 = .ok (.aload_n 0, 1) := by decide +kernel
theorem dL_told_423 : decode cL_told 423 = .ok (.iload 11, 2) := by decide +kernel
theorem dL_told_425 : decode cL_told 425 = .ok (.iconst 1, 1) := by decide +kernel
theorem dL_told_426 : decode cL_told 426 = .ok (.invokevirtual 68, 3) := by decide +kernel
theorem dL_told_429 : decode cL_told 429 = .ok (.istore 12, 2) := by decide +kernel
theorem dL_told_431 : decode cL_told 431 = .ok (.aload_n 0, 1) := by decide +kernel
theorem dL_told_432 : decode cL_told 432 = .ok (.iload 11, 2) := by decide +kernel
theorem dL_told_434 : decode cL_told 434 = .ok (.iconst 2, 1) := by decide +kernel
theorem dL_told_435 : decode cL_told 435 = .ok (.invokevirtual 68, 3) := by decide +kernel
theorem dL_told_438 : decode cL_told 438 = .ok (.istore 13, 2) := by decide +kernel
theorem dL_told_440 : decode cL_told 440 = .ok (.aload_n 0, 1) := by decide +kernel
theorem dL_told_441 : decode cL_told 441 = .ok (.iload 11, 2) := by decide +kernel
theorem dL_told_443 : decode cL_told 443 = .ok (.iconst 3, 1) := by decide +kernel
theorem dL_told_444 : decode cL_told 444 = .ok (.invokevirtual 68, 3) := by decide +kernel
theorem dL_told_447 : decode cL_told 447 = .ok (.istore 14, 2) := by decide +kernel
theorem dL_told_449 : decode cL_told 449 = .ok (.iload 13, 2) := by decide +kernel
theorem dL_told_451 : decode cL_told 451 = .ok (.iload 12, 2) := by decide +kernel
theorem dL_told_453 : decode cL_told 453 = .ok (.isub, 1) := by decide +kernel
theorem dL_told_454 : decode cL_told 454 = .ok (.istore 15, 2) := by decide +kernel
theorem dL_told_456 : decode cL_told 456 = .ok (.iload 14, 2) := by decide +kernel
theorem dL_told_458 : decode cL_told 458 = .ok (.iconst 2, 1) := by decide +kernel
theorem dL_told_459 : decode cL_told 459 = .ok (.if_icmp .ne 24, 3) := by decide +kernel
theorem dL_told_462 : decode cL_told 462 = .ok (.iload 15, 2) := by decide +kernel
theorem dL_told_464 : decode cL_told 464 = .ok (.iconst (-1), 1) := by decide +kernel
theorem dL_told_465 : decode cL_told 465 = .ok (.if_icmp .eq 10, 3) := by decide +kernel
theorem dL_told_468 : decode cL_told 468 = .ok (.iload 15, 2) := by decide +kernel
theorem dL_told_470 : decode cL_told 470 = .ok (.bipush (-2), 2) := by decide +kernel
theorem dL_told_472 : decode cL_told 472 = .ok (.if_icmp .ne 7, 3) := by decide +kernel
theorem dL_told_475 : decode cL_told 475 = .ok (.iconst 1, 1) := by decide +kernel
theorem dL_told_476 : decode cL_told 476 = .ok (.goto 64, 3) := by decide +kernel
theorem dL_told_479 : decode cL_told 479 = .ok (.iconst 0, 1) := by decide +kernel
theorem dL_told_480 : decode cL_told 480 = .ok (.goto 60, 3) := by decide +kernel
theorem dL_told_483 : decode cL_told 483 = .ok (.iload 14, 2) := by decide +kernel
theorem dL_told_485 : decode cL_told 485 = .ok (.iconst 3, 1) := by decide +kernel
theorem dL_told_486 : decode cL_told 486 = .ok (.if_icmp .ne 23, 3) := by decide +kernel
theorem dL_told_489 : decode cL_told 489 = .ok (.iload 15, 2) := by decide +kernel
theorem dL_told_491 : decode cL_told 491 = .ok (.iconst 1, 1) := by decide +kernel
theorem dL_told_492 : decode cL_told 492 = .ok (.if_icmp .eq 9, 3) := by decide +kernel
theorem dL_told_495 : decode cL_told 495 = .ok (.iload 15, 2) := by decide +kernel
theorem dL_told_497 : decode cL_told 497 = .ok (.iconst (-1), 1) := by decide +kernel
theorem dL_told_498 : decode cL_told 498 = .ok (.if_icmp .ne 7, 3) := by decide +kernel
theorem dL_told_501 : decode cL_told 501 = .ok (.iconst 1, 1) := by decide +kernel
theorem dL_told_502 : decode cL_told 502 = .ok (.goto 38, 3) := by decide +kernel
theorem dL_told_505 : decode cL_told 505 = .ok (.iconst 0, 1) := by decide +kernel
theorem dL_told_506 : decode cL_told 506 = .ok (.goto 34, 3) := by decide +kernel
theorem dL_told_509 : decode cL_told 509 = .ok (.iload 14, 2) := by decide +kernel
theorem dL_told_511 : decode cL_told 511 = .ok (.iconst 1, 1) := by decide +kernel
theorem dL_told_512 : decode cL_told 512 = .ok (.if_icmp .ne 17, 3) := by decide +kernel
theorem dL_told_515 : decode cL_told 515 = .ok (.iload 15, 2) := by decide +kernel
theorem dL_told_517 : decode cL_told 517 = .ok (.iconst (-1), 1) := by decide +kernel
theorem dL_told_518 : decode cL_told 518 = .ok (.if_icmp .ne 7, 3) := by decide +kernel
theorem dL_told_521 : decode cL_told 521 = .ok (.iconst 1, 1) := by decide +kernel
theorem dL_told_522 : decode cL_told 522 = .ok (.goto 18, 3) := by decide +kernel
theorem dL_told_525 : decode cL_told 525 = .ok (.iconst 0, 1) := by decide +kernel
theorem dL_told_526 : decode cL_told 526 = .ok (.goto 14, 3) := by decide +kernel
theorem dL_told_529 : decode cL_told 529 = .ok (.iload 15, 2) := by decide +kernel
theorem dL_told_531 : decode cL_told 531 = .ok (.iconst 1, 1) := by decide +kernel
theorem dL_told_532 : decode cL_told 532 = .ok (.if_icmp .ne 7, 3) := by decide +kernel
theorem dL_told_535 : decode cL_told 535 = .ok (.iconst 1, 1) := by decide +kernel
theorem dL_told_536 : decode cL_told 536 = .ok (.goto 4, 3) := by decide +kernel
theorem dL_told_539 : decode cL_told 539 = .ok (.iconst 0, 1) := by decide +kernel
theorem dL_told_540 : decode cL_told 540 = .ok (.istore 16, 2) := by decide +kernel
theorem dL_told_542 : decode cL_told 542 = .ok (.iload 11, 2) := by decide +kernel
theorem dL_told_544 : decode cL_told 544 = .ok (.ifCond .ne 27, 3) := by decide +kernel
theorem dL_told_547 : decode cL_told 547 = .ok (.iload 13, 2) := by decide +kernel
theorem dL_told_549 : decode cL_told 549 = .ok (.iload_n 2, 1) := by decide +kernel
theorem dL_told_550 : decode cL_told 550 = .ok (.bipush (-5), 2) := by decide +kernel
theorem dL_told_552 : decode cL_told 552 = .ok (.if_icmp .ne 7, 3) := by decide +kernel
theorem dL_told_555 : decode cL_told 555 = .ok (.iload_n 1, 1) := by decide +kernel
theorem dL_told_556 : decode cL_told 556 = .ok (.goto 4, 3) := by decide +kernel
theorem dL_told_559 : decode cL_told 559 = .ok (.iload_n 2, 1) := by decide +kernel
theorem dL_told_560 : decode cL_told 560 = .ok (.if_icmp .ne 7, 3) := by decide +kernel
theorem dL_told_563 : decode cL_told 563 = .ok (.iconst 1, 1) := by decide +kernel
theorem dL_told_564 : decode cL_told 564 = .ok (.goto 45, 3) := by decide +kernel
theorem dL_told_567 : decode cL_told 567 = .ok (.iconst 0, 1) := by decide +kernel
theorem dL_told_568 : decode cL_told 568 = .ok (.goto 41, 3) := by decide +kernel
theorem dL_told_571 : decode cL_told 571 = .ok (.iload 13, 2) := by decide +kernel
theorem dL_told_573 : decode cL_told 573 = .ok (.aload_n 0, 1) := by decide +kernel
theorem dL_told_574 : decode cL_told 574 = .ok (.iload 11, 2) := by decide +kernel
theorem dL_told_576 : decode cL_told 576 = .ok (.iconst 1, 1) := by decide +kernel
theorem dL_told_577 : decode cL_told 577 = .ok (.isub, 1) := by decide +kernel
theorem dL_told_578 : decode cL_told 578 = .ok (.iconst 1, 1) := by decide +kernel
theorem dL_told_579 : decode cL_told 579 = .ok (.invokevirtual 68, 3) := by decide +kernel
theorem dL_told_582 : decode cL_told 582 = .ok (.if_icmp .ne 26, 3) := by decide +kernel
theorem dL_told_585 : decode cL_told 585 = .ok (.aload_n 0, 1) := by decide +kernel
theorem dL_told_586 : decode cL_told 586 = .ok (.iload 11, 2) := by decide +kernel
theorem dL_told_588 : decode cL_told 588 = .ok (.iconst 0, 1) := by decide +kernel
theorem dL_told_589 : decode cL_told 589 = .ok (.invokevirtual 68, 3) := by decide +kernel
theorem dL_told_592 : decode cL_told 592 = .ok (.aload_n 0, 1) := by decide +kernel
theorem dL_told_593 : decode cL_told 593 = .ok (.iload 11, 2) := by decide +kernel
theorem dL_told_595 : decode cL_told 595 = .ok (.iconst 1, 1) := by decide +kernel
theorem dL_told_596 : decode cL_told 596 = .ok (.isub, 1) := by decide +kernel
theorem dL_told_597 : decode cL_told 597 = .ok (.iconst 0, 1) := by decide +kernel
theorem dL_told_598 : decode cL_told 598 = .ok (.invokevirtual 68, 3) := by decide +kernel
theorem dL_told_601 : decode cL_told 601 = .ok (.if_icmp .gt 7, 3) := by decide +kernel
theorem dL_told_604 : decode cL_told 604 = .ok (.iconst 1, 1) := by decide +kernel
theorem dL_told_605 : decode cL_told 605 = .ok (.goto 4, 3) := by decide +kernel
theorem dL_told_608 : decode cL_told 608 = .ok (.iconst 0, 1) := by decide +kernel
theorem dL_told_609 : decode cL_told 609 = .ok (.istore 17, 2) := by decide +kernel
theorem dL_told_611 : decode cL_told 611 = .ok (.iload 16, 2) := by decide +kernel
theorem dL_told_613 : decode cL_told 613 = .ok (.ifCond .eq 25, 3) := by decide +kernel
theorem dL_told_616 : decode cL_told 616 = .ok (.iload 17, 2) := by decide +kernel
theorem dL_told_618 : decode cL_told 618 = .ok (.ifCond .eq 20, 3) := by decide +kernel
theorem dL_told_621 : decode cL_told 621 = .ok (.aload_n 0, 1) := by decide +kernel
theorem dL_told_622 : decode cL_told 622 = .ok (.iload 11, 2) := by decide +kernel
theorem dL_told_624 : decode cL_told 624 = .ok (.iconst 4, 1) := by decide +kernel
theorem dL_told_625 : decode cL_told 625 = .ok (.invokevirtual 68, 3) := by decide +kernel
theorem dL_told_628 : decode cL_told 628 = .ok (.iconst 1, 1) := by decide +kernel
theorem dL_told_629 : decode cL_told 629 = .ok (.if_icmp .ne 11, 3) := by decide +kernel
theorem dL_told_632 : decode cL_told 632 = .ok (.iload 14, 2) := by decide +kernel
theorem dL_told_634 : decode cL_told 634 = .ok (.iconst 1, 1) := by decide +kernel
theorem dL_told_635 : decode cL_told 635 = .ok (.if_icmp .le 5, 3) := by decide +kernel
theorem dL_told_638 : decode cL_told 638 = .ok (.iconst 0, 1) := by decide +kernel
theorem dL_told_639 : decode cL_told 639 = .ok (.ireturn, 1) := by decide +kernel
theorem dL_told_640 : decode cL_told 640 = .ok (.iinc 11 1, 3) := by decide +kernel
theorem dL_told_643 : decode cL_told 643 = .ok (.goto (-228), 3) := by decide +kernel
theorem dL_told_646 : decode cL_told 646 = .ok (.aload_n 0, 1) := by decide +kernel
theorem dL_told_647 : decode cL_told 647 = .ok (.iload 9, 2) := by decide +kernel
theorem dL_told_649 : decode cL_told 649 = .ok (.iconst 0, 1) := by decide +kernel
theorem dL_told_650 : decode cL_told 650 = .ok (.invokevirtual 68, 3) := by decide +kernel
theorem dL_told_653 : decode cL_told 653 = .ok (.bipush (-5), 2) := by decide +kernel
theorem dL_told_655 : decode cL_told 655 = .ok (.if_icmp .ne 29, 3) := by decide +kernel
theorem dL_told_658 : decode cL_told 658 = .ok (.aload_n 0, 1) := by decide +kernel
theorem dL_told_659 : decode cL_told 659 = .ok (.iconst (-1), 1) := by decide +kernel
theorem dL_told_660 : decode cL_told 660 = .ok (.iconst 0, 1) := by decide +kernel
theorem dL_told_661 : decode cL_told 661 = .ok (.invokevirtual 68, 3) := by decide +kernel
theorem dL_told_664 : decode cL_told 664 = .ok (.bipush (-2), 2) := by decide +kernel
theorem dL_told_666 : decode cL_told 666 = .ok (.if_icmp .ne 18, 3) := by decide +kernel
theorem dL_told_669 : decode cL_told 669 = .ok (.aload_n 0, 1) := by decide +kernel
theorem dL_told_670 : decode cL_told 670 = .ok (.iconst 0, 1) := by decide +kernel
theorem dL_told_671 : decode cL_told 671 = .ok (.iconst 5, 1) := by decide +kernel
theorem dL_told_672 : decode cL_told 672 = .ok (.invokevirtual 68, 3) := by decide +kernel
theorem dL_told_675 : decode cL_told 675 = .ok (.bipush (-2), 2) := by decide +kernel
theorem dL_told_677 : decode cL_told 677 = .ok (.if_icmp .ne 7, 3) := by decide +kernel
theorem dL_told_680 : decode cL_told 680 = .ok (.iconst 1, 1) := by decide +kernel
theorem dL_told_681 : decode cL_told 681 = .ok (.goto 4, 3) := by decide +kernel
theorem dL_told_684 : decode cL_told 684 = .ok (.iconst 0, 1) := by decide +kernel
theorem dL_told_685 : decode cL_told 685 = .ok (.ireturn, 1) := by decide +kernel
set_option maxRecDepth 20000 in
theorem ggL_tick_L_fast : GoodIn wsL_tick wsL_fast := goodIn_r _ [5, 6, 7, 8, 9, 10, 11, 12, 13, 14, 15, 16] (by decide +kernel) (by decide +kernel)
set_option maxRecDepth 20000 in
theorem gL_tick_L_fast : GoodIn wsL_tick (va_wsS RL 72 yL_fast wsL_fast) := goodIn_app (goodIn_of _ (by decide +kernel)) ggL_tick_L_fast
set_option maxRecDepth 20000 in
theorem ggL_tick_L_deep : GoodIn wsL_tick wsL_deep := goodIn_r _ [19, 20, 21, 1] (by decide +kernel) (by decide +kernel)
set_option maxRecDepth 20000 in
theorem gL_tick_L_deep : GoodIn wsL_tick (va_wsS RL 75 yL_deep wsL_deep) := goodIn_app (goodIn_of _ (by decide +kernel)) ggL_tick_L_deep
set_option maxRecDepth 20000 in
theorem ggL_tick_X5_car : GoodIn wsL_tick wsX5_car := goodIn_r _ [26, 27, 28, 29, 30, 31, 32, 33, 34, 35, 36, 37, 38, 39, 40, 41, 42, 43, 44, 45, 46, 47, 48, 49, 50, 51, 282, 283, 284, 285, 286, 287, 288, 289, 290, 291, 292, 293, 294, 295, 296, 297, 298] (by decide +kernel) (by decide +kernel)
set_option maxRecDepth 20000 in
theorem gL_tick_X5_car : GoodIn wsL_tick (wsV RL 38 RX5 yX5_car wsX5_car) := goodIn_app (goodIn_of _ (by decide +kernel)) ggL_tick_X5_car
set_option maxRecDepth 20000 in
theorem ggL_tick_L_speed : GoodIn wsL_tick wsL_speed := goodIn_r _ [54, 55, 56, 57, 58, 59, 60, 61, 62, 63, 64, 65] (by decide +kernel) (by decide +kernel)
set_option maxRecDepth 20000 in
theorem gL_tick_L_speed : GoodIn wsL_tick (va_wsS RL 78 yL_speed wsL_speed) := goodIn_app (goodIn_of _ (by decide +kernel)) ggL_tick_L_speed
set_option maxRecDepth 20000 in
theorem ggL_tick_L_pedal : GoodIn wsL_tick wsL_pedal := goodIn_r _ [68, 69, 70, 71, 72] (by decide +kernel) (by decide +kernel)
set_option maxRecDepth 20000 in
theorem gL_tick_L_pedal : GoodIn wsL_tick (va_wsS RL 81 yL_pedal wsL_pedal) := goodIn_app (goodIn_of _ (by decide +kernel)) ggL_tick_L_pedal
set_option maxRecDepth 20000 in
theorem ggL_tick_X5_wouldChoose : GoodIn wsL_tick wsX5_wouldChoose := goodIn_r _ [76, 77, 27, 78, 79, 25, 80, 81, 82, 83, 84, 85, 86, 87, 88, 31, 89, 90, 91, 92, 93, 94, 95, 96, 97, 38, 33, 98, 99, 100, 101, 102, 103, 104, 105, 106, 107, 108, 109, 110, 111, 112, 113, 114, 115, 116, 117, 118, 119, 120, 121, 122, 123, 124, 125, 126, 127, 128, 129, 130, 131, 132, 39, 29, 30, 32, 133, 134, 135, 136, 137, 138, 139, 140, 141, 142, 143, 144, 145, 146, 147, 148, 149, 150, 151, 152, 153, 154, 155, 156, 157, 158, 159, 160, 161, 162, 163, 164, 165, 166, 167, 168, 169, 170, 171, 172, 173, 174, 175, 176, 177, 178, 179, 180, 181, 182, 183, 184, 185, 186, 187, 188, 189, 190, 191, 192, 193, 194, 195, 196, 197, 198, 199, 200, 201, 202, 203, 204, 205, 206, 207, 208, 282, 283, 284, 285, 286, 287, 288, 289, 290, 291, 292, 293, 294, 295, 296, 297, 298, 299, 300, 301, 302] (by decide +kernel) (by decide +kernel)
set_option maxRecDepth 20000 in
theorem gL_tick_X5_wouldChoose : GoodIn wsL_tick (wsV RL 84 RX5 yX5_wouldChoose wsX5_wouldChoose) := goodIn_app (goodIn_of _ (by decide +kernel)) ggL_tick_X5_wouldChoose
set_option maxRecDepth 20000 in
theorem ggL_tick_X5_count : GoodIn wsL_tick wsX5_count := goodIn_r _ [212, 213, 214, 27, 215, 216, 217, 218, 219, 220, 221, 222, 223, 224, 225, 226, 227, 191, 192, 31, 193, 92, 282, 283, 284, 285, 286, 287, 303, 304, 305, 306, 307, 308, 309, 310, 311, 312, 288, 289, 290, 291, 292, 293, 294, 295, 296, 297, 298] (by decide +kernel) (by decide +kernel)
set_option maxRecDepth 20000 in
theorem gL_tick_X5_count : GoodIn wsL_tick (wsV RL 57 RX5 yX5_count wsX5_count) := goodIn_app (goodIn_of _ (by decide +kernel)) ggL_tick_X5_count
set_option maxRecDepth 20000 in
theorem ggL_tick_X5_number : GoodIn wsL_tick wsX5_number := goodIn_r _ [231, 27, 232, 134, 135, 31, 136, 97, 282, 283, 284, 285, 286, 287, 288, 289, 290, 291, 292, 293, 294, 295, 296, 297, 298] (by decide +kernel) (by decide +kernel)
set_option maxRecDepth 20000 in
theorem gL_tick_X5_number : GoodIn wsL_tick (wsV RL 44 RX5 yX5_number wsX5_number) := goodIn_app (goodIn_of _ (by decide +kernel)) ggL_tick_X5_number
set_option maxRecDepth 20000 in
theorem ggL_tick_X5_map : GoodIn wsL_tick wsX5_map := goodIn_r _ [236, 27, 237, 238, 106, 239, 240, 146, 147, 148, 108, 241, 242, 25, 243, 244, 282, 283, 284, 285, 286, 287, 288, 289, 290, 291, 292, 293, 294, 295, 296, 297, 298, 299] (by decide +kernel) (by decide +kernel)
set_option maxRecDepth 20000 in
theorem gL_tick_X5_map : GoodIn wsL_tick (wsV RL 87 RX5 yX5_map wsX5_map) := goodIn_app (goodIn_of _ (by decide +kernel)) ggL_tick_X5_map
set_option maxRecDepth 20000 in
theorem ggL_tick_X5_border : GoodIn wsL_tick wsX5_border := goodIn_r _ [248, 27, 237, 238, 106, 239, 82, 83, 25, 84, 85, 241, 242, 243, 244, 119, 120, 121, 122, 123, 124, 249, 162, 163, 164, 145, 146, 147, 148, 108, 250, 166, 167, 168, 169, 282, 283, 284, 285, 286, 287, 288, 289, 290, 291, 292, 293, 294, 295, 296, 297, 298, 299] (by decide +kernel) (by decide +kernel)
set_option maxRecDepth 20000 in
theorem gL_tick_X5_border : GoodIn wsL_tick (wsV RL 91 RX5 yX5_border wsX5_border) := goodIn_app (goodIn_of _ (by decide +kernel)) ggL_tick_X5_border
set_option maxRecDepth 20000 in
theorem ggL_tick_X5_drive : GoodIn wsL_tick wsX5_drive := goodIn_r _ [254, 27, 255, 213, 78, 79, 25, 80, 81, 82, 83, 84, 85, 256, 187, 188, 31, 189, 190, 191, 192, 193, 92, 257, 258, 259, 218, 260, 261, 220, 262, 199, 159, 200, 263, 264, 265, 266, 267, 268, 87, 88, 89, 90, 91, 93, 94, 95, 96, 97, 38, 33, 98, 99, 100, 101, 102, 103, 104, 105, 106, 107, 108, 109, 110, 111, 112, 113, 114, 115, 116, 117, 118, 119, 120, 121, 122, 123, 124, 269, 270, 271, 272, 273, 126, 127, 128, 129, 130, 131, 132, 39, 29, 30, 32, 133, 134, 135, 136, 137, 138, 139, 140, 141, 142, 143, 144, 145, 146, 147, 148, 149, 150, 151, 152, 153, 154, 155, 156, 157, 158, 160, 161, 162, 163, 164, 165, 166, 167, 168, 169, 170, 171, 172, 173, 174, 175, 176, 177, 178, 179, 180, 181, 182, 183, 184, 185, 186, 194, 195, 196, 197, 198, 201, 202, 203, 204, 205, 206, 207, 208, 282, 283, 284, 285, 286, 287, 288, 289, 290, 291, 292, 293, 294, 295, 296, 297, 298, 303, 304, 305, 299, 300, 301, 302] (by decide +kernel) (by decide +kernel)
set_option maxRecDepth 20000 in
theorem gL_tick_X5_drive : GoodIn wsL_tick (wsV RL 95 RX5 yX5_drive wsX5_drive) := goodIn_app (goodIn_of _ (by decide +kernel)) ggL_tick_X5_drive
set_option maxRecDepth 20000 in
theorem ggL_tick_X5_change : GoodIn wsL_tick wsX5_change := goodIn_r _ [277, 27, 278, 183, 184, 113, 185, 118, 117, 115, 282, 283, 284, 285, 286, 287, 288, 289, 290, 291, 292, 293, 294, 295, 296, 297, 298, 300, 301, 302] (by decide +kernel) (by decide +kernel)
set_option maxRecDepth 20000 in
theorem gL_tick_X5_change : GoodIn wsL_tick (wsV RL 68 RX5 yX5_change wsX5_change) := goodIn_app (goodIn_of _ (by decide +kernel)) ggL_tick_X5_change
set_option maxRecDepth 20000 in
theorem ggL_tick_L_wentToAndFro : GoodIn wsL_tick wsL_wentToAndFro := goodIn_r _ [281, 274, 275, 276, 25, 277, 27, 278, 183, 184, 113, 185, 118, 117, 115, 228, 229, 230, 231, 232, 134, 135, 31, 136, 97, 282, 283, 284, 285, 286, 287, 288, 289, 290, 291, 292, 293, 294, 295, 296, 297, 298, 300, 301, 302] (by decide +kernel) (by decide +kernel)
set_option maxRecDepth 20000 in
theorem gL_tick_L_wentToAndFro : GoodIn wsL_tick (va_wsS RL 99 yL_wentToAndFro wsL_wentToAndFro) := goodIn_app (goodIn_of _ (by decide +kernel)) ggL_tick_L_wentToAndFro
theorem dL_tick_0 : decode cL_tick 0 = .ok (.iload_n 1, 1) := by decide +kernel
theorem dL_tick_1 : decode cL_tick 1 = .ok (.invokestatic 72, 3) := by decide +kernel
theorem dL_tick_4 : decode cL_tick 4 = .ok (.fstore_n 3, 1) := by decide +kernel
theorem dL_tick_5 : decode cL_tick 5 = .ok (.iload_n 2, 1) := by decide +kernel
theorem dL_tick_6 : decode cL_tick 6 = .ok (.invokestatic 75, 3) := by decide +kernel
theorem dL_tick_9 : decode cL_tick 9 = .ok (.fstore 4, 2) := by decide +kernel
theorem dL_tick_11 : decode cL_tick 11 = .ok (.aload_n 0, 1) := by decide +kernel
theorem dL_tick_12 : decode cL_tick 12 = .ok (.iconst 0, 1) := by decide +kernel
theorem dL_tick_13 : decode cL_tick 13 = .ok (.invokevirtual 38, 3) := by decide +kernel
theorem dL_tick_16 : decode cL_tick 16 = .ok (.istore 5, 2) := by decide +kernel
theorem dL_tick_18 : decode cL_tick 18 = .ok (.aload_n 0, 1) := by decide +kernel
theorem dL_tick_19 : decode cL_tick 19 = .ok (.iconst 1, 1) := by decide +kernel
theorem dL_tick_20 : decode cL_tick 20 = .ok (.invokevirtual 38, 3) := by decide +kernel
theorem dL_tick_23 : decode cL_tick 23 = .ok (.istore 6, 2) := by decide +kernel
theorem dL_tick_25 : decode cL_tick 25 = .ok (.aload_n 0, 1) := by decide +kernel
theorem dL_tick_26 : decode cL_tick 26 = .ok (.iconst 2, 1) := by decide +kernel
theorem dL_tick_27 : decode cL_tick 27 = .ok (.invokevirtual 38, 3) := by decide +kernel
theorem dL_tick_30 : decode cL_tick 30 = .ok (.istore 7, 2) := by decide +kernel
theorem dL_tick_32 : decode cL_tick 32 = .ok (.aload_n 0, 1) := by decide +kernel
theorem dL_tick_33 : decode cL_tick 33 = .ok (.iconst 3, 1) := by decide +kernel
theorem dL_tick_34 : decode cL_tick 34 = .ok (.invokevirtual 38, 3) := by decide +kernel
theorem dL_tick_37 : decode cL_tick 37 = .ok (.istore 8, 2) := by decide +kernel
theorem dL_tick_39 : decode cL_tick 39 = .ok (.aload_n 0, 1) := by decide +kernel
theorem dL_tick_40 : decode cL_tick 40 = .ok (.iconst 4, 1) := by decide +kernel
theorem dL_tick_41 : decode cL_tick 41 = .ok (.invokevirtual 38, 3) := by decide +kernel
theorem dL_tick_44 : decode cL_tick 44 = .ok (.istore 9, 2) := by decide +kernel
theorem dL_tick_46 : decode cL_tick 46 = .ok (.aload_n 0, 1) := by decide +kernel
theorem dL_tick_47 : decode cL_tick 47 = .ok (.iload_n 1, 1) := by decide +kernel
theorem dL_tick_48 : decode cL_tick 48 = .ok (.invokestatic 78, 3) := by decide +kernel
theorem dL_tick_51 : decode cL_tick 51 = .ok (.iload_n 2, 1) := by decide +kernel
theorem dL_tick_52 : decode cL_tick 52 = .ok (.invokestatic 81, 3) := by decide +kernel
theorem dL_tick_55 : decode cL_tick 55 = .ok (.invokevirtual 84, 3) := by decide +kernel
theorem dL_tick_58 : decode cL_tick 58 = .ok (.istore 10, 2) := by decide +kernel
theorem dL_tick_60 : decode cL_tick 60 = .ok (.aload_n 0, 1) := by decide +kernel
theorem dL_tick_61 : decode cL_tick 61 = .ok (.iconst 1, 1) := by decide +kernel
theorem dL_tick_62 : decode cL_tick 62 = .ok (.invokevirtual 57, 3) := by decide +kernel
theorem dL_tick_65 : decode cL_tick 65 = .ok (.istore 11, 2) := by decide +kernel
theorem dL_tick_67 : decode cL_tick 67 = .ok (.aload_n 0, 1) := by decide +kernel
theorem dL_tick_68 : decode cL_tick 68 = .ok (.iconst 2, 1) := by decide +kernel
theorem dL_tick_69 : decode cL_tick 69 = .ok (.invokevirtual 57, 3) := by decide +kernel
theorem dL_tick_72 : decode cL_tick 72 = .ok (.istore 12, 2) := by decide +kernel
theorem dL_tick_74 : decode cL_tick 74 = .ok (.aload_n 0, 1) := by decide +kernel
theorem dL_tick_75 : decode cL_tick 75 = .ok (.iconst 3, 1) := by decide +kernel
theorem dL_tick_76 : decode cL_tick 76 = .ok (.invokevirtual 57, 3) := by decide +kernel
theorem dL_tick_79 : decode cL_tick 79 = .ok (.istore 13, 2) := by decide +kernel
theorem dL_tick_81 : decode cL_tick 81 = .ok (.aload_n 0, 1) := by decide +kernel
theorem dL_tick_82 : decode cL_tick 82 = .ok (.iconst 5, 1) := by decide +kernel
theorem dL_tick_83 : decode cL_tick 83 = .ok (.invokevirtual 57, 3) := by decide +kernel
theorem dL_tick_86 : decode cL_tick 86 = .ok (.istore 14, 2) := by decide +kernel
theorem dL_tick_88 : decode cL_tick 88 = .ok (.aload_n 0, 1) := by decide +kernel
theorem dL_tick_89 : decode cL_tick 89 = .ok (.bipush 6, 2) := by decide +kernel
theorem dL_tick_91 : decode cL_tick 91 = .ok (.invokevirtual 57, 3) := by decide +kernel
theorem dL_tick_94 : decode cL_tick 94 = .ok (.istore 15, 2) := by decide +kernel
theorem dL_tick_96 : decode cL_tick 96 = .ok (.aload_n 0, 1) := by decide +kernel
theorem dL_tick_97 : decode cL_tick 97 = .ok (.iconst 0, 1) := by decide +kernel
theorem dL_tick_98 : decode cL_tick 98 = .ok (.invokevirtual 57, 3) := by decide +kernel
theorem dL_tick_101 : decode cL_tick 101 = .ok (.istore 16, 2) := by decide +kernel
theorem dL_tick_103 : decode cL_tick 103 = .ok (.iload 6, 2) := by decide +kernel
theorem dL_tick_105 : decode cL_tick 105 = .ok (.bipush (-5), 2) := by decide +kernel
theorem dL_tick_107 : decode cL_tick 107 = .ok (.if_icmp .eq 19, 3) := by decide +kernel
theorem dL_tick_110 : decode cL_tick 110 = .ok (.iload 7, 2) := by decide +kernel
theorem dL_tick_112 : decode cL_tick 112 = .ok (.iconst 1, 1) := by decide +kernel
theorem dL_tick_113 : decode cL_tick 113 = .ok (.iadd, 1) := by decide +kernel
theorem dL_tick_114 : decode cL_tick 114 = .ok (.aload_n 0, 1) := by decide +kernel
theorem dL_tick_115 : decode cL_tick 115 = .ok (.iconst 0, 1) := by decide +kernel
theorem dL_tick_116 : decode cL_tick 116 = .ok (.invokevirtual 44, 3) := by decide +kernel
theorem dL_tick_119 : decode cL_tick 119 = .ok (.if_icmp .ne 7, 3) := by decide +kernel
theorem dL_tick_122 : decode cL_tick 122 = .ok (.iconst 1, 1) := by decide +kernel
theorem dL_tick_123 : decode cL_tick 123 = .ok (.goto 4, 3) := by decide +kernel
theorem dL_tick_126 : decode cL_tick 126 = .ok (.iconst 0, 1) := by decide +kernel
theorem dL_tick_127 : decode cL_tick 127 = .ok (.istore 17, 2) := by decide +kernel
theorem dL_tick_129 : decode cL_tick 129 = .ok (.iload 6, 2) := by decide +kernel
theorem dL_tick_131 : decode cL_tick 131 = .ok (.bipush (-5), 2) := by decide +kernel
theorem dL_tick_133 : decode cL_tick 133 = .ok (.if_icmp .eq 8, 3) := by decide +kernel
theorem dL_tick_136 : decode cL_tick 136 = .ok (.iload 17, 2) := by decide +kernel
theorem dL_tick_138 : decode cL_tick 138 = .ok (.ifCond .eq 7, 3) := by decide +kernel
theorem dL_tick_141 : decode cL_tick 141 = .ok (.iconst 1, 1) := by decide +kernel
