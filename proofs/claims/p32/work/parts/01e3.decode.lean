theorem dL_causes_105 : decode cL_causes 105 = .ok (.istore 5, 2) := by decide +kernel
theorem dL_causes_107 : decode cL_causes 107 = .ok (.iload 5, 2) := by decide +kernel
theorem dL_causes_109 : decode cL_causes 109 = .ok (.bipush 14, 2) := by decide +kernel
theorem dL_causes_111 : decode cL_causes 111 = .ok (.if_icmp .ge 132, 3) := by decide +kernel
theorem dL_causes_114 : decode cL_causes 114 = .ok (.iload 4, 2) := by decide +kernel
theorem dL_causes_116 : decode cL_causes 116 = .ok (.ifCond .eq 127, 3) := by decide +kernel
theorem dL_causes_119 : decode cL_causes 119 = .ok (.iconst 0, 1) := by decide +kernel
theorem dL_causes_120 : decode cL_causes 120 = .ok (.istore 6, 2) := by decide +kernel
theorem dL_causes_122 : decode cL_causes 122 = .ok (.iconst 0, 1) := by decide +kernel
theorem dL_causes_123 : decode cL_causes 123 = .ok (.istore 7, 2) := by decide +kernel
theorem dL_causes_125 : decode cL_causes 125 = .ok (.iload 7, 2) := by decide +kernel
theorem dL_causes_127 : decode cL_causes 127 = .ok (.bipush 14, 2) := by decide +kernel
theorem dL_causes_129 : decode cL_causes 129 = .ok (.if_icmp .ge 34, 3) := by decide +kernel
theorem dL_causes_132 : decode cL_causes 132 = .ok (.iload 6, 2) := by decide +kernel
theorem dL_causes_134 : decode cL_causes 134 = .ok (.aload_n 0, 1) := by decide +kernel
theorem dL_causes_135 : decode cL_causes 135 = .ok (.iload 7, 2) := by decide +kernel
theorem dL_causes_137 : decode cL_causes 137 = .ok (.iload 5, 2) := by decide +kernel
theorem dL_causes_139 : decode cL_causes 139 = .ok (.invokestatic 62, 3) := by decide +kernel
theorem dL_causes_142 : decode cL_causes 142 = .ok (.iconst 1, 1) := by decide +kernel
theorem dL_causes_143 : decode cL_causes 143 = .ok (.if_icmp .ne 10, 3) := by decide +kernel
theorem dL_causes_146 : decode cL_causes 146 = .ok (.iconst 1, 1) := by decide +kernel
theorem dL_causes_147 : decode cL_causes 147 = .ok (.iload 7, 2) := by decide +kernel
theorem dL_causes_149 : decode cL_causes 149 = .ok (.ishl, 1) := by decide +kernel
theorem dL_causes_150 : decode cL_causes 150 = .ok (.goto 4, 3) := by decide +kernel
theorem dL_causes_153 : decode cL_causes 153 = .ok (.iconst 0, 1) := by decide +kernel
theorem dL_causes_154 : decode cL_causes 154 = .ok (.ior, 1) := by decide +kernel
theorem dL_causes_155 : decode cL_causes 155 = .ok (.istore 6, 2) := by decide +kernel
theorem dL_causes_157 : decode cL_causes 157 = .ok (.iinc 7 1, 3) := by decide +kernel
theorem dL_causes_160 : decode cL_causes 160 = .ok (.goto (-35), 3) := by decide +kernel
theorem dL_causes_163 : decode cL_causes 163 = .ok (.iload_n 3, 1) := by decide +kernel
theorem dL_causes_164 : decode cL_causes 164 = .ok (.iload 5, 2) := by decide +kernel
theorem dL_causes_166 : decode cL_causes 166 = .ok (.ishr, 1) := by decide +kernel
theorem dL_causes_167 : decode cL_causes 167 = .ok (.iconst 1, 1) := by decide +kernel
theorem dL_causes_168 : decode cL_causes 168 = .ok (.iand, 1) := by decide +kernel
theorem dL_causes_169 : decode cL_causes 169 = .ok (.iconst 1, 1) := by decide +kernel
theorem dL_causes_170 : decode cL_causes 170 = .ok (.if_icmp .eq 17, 3) := by decide +kernel
theorem dL_causes_173 : decode cL_causes 173 = .ok (.iload 6, 2) := by decide +kernel
theorem dL_causes_175 : decode cL_causes 175 = .ok (.ifCond .le 16, 3) := by decide +kernel
theorem dL_causes_178 : decode cL_causes 178 = .ok (.iload 6, 2) := by decide +kernel
theorem dL_causes_180 : decode cL_causes 180 = .ok (.iload_n 3, 1) := by decide +kernel
theorem dL_causes_181 : decode cL_causes 181 = .ok (.iconst (-1), 1) := by decide +kernel
theorem dL_causes_182 : decode cL_causes 182 = .ok (.ixor, 1) := by decide +kernel
theorem dL_causes_183 : decode cL_causes 183 = .ok (.iand, 1) := by decide +kernel
theorem dL_causes_184 : decode cL_causes 184 = .ok (.ifCond .ne 7, 3) := by decide +kernel
theorem dL_causes_187 : decode cL_causes 187 = .ok (.iconst 1, 1) := by decide +kernel
theorem dL_causes_188 : decode cL_causes 188 = .ok (.goto 4, 3) := by decide +kernel
theorem dL_causes_191 : decode cL_causes 191 = .ok (.iconst 0, 1) := by decide +kernel
theorem dL_causes_192 : decode cL_causes 192 = .ok (.istore 7, 2) := by decide +kernel
theorem dL_causes_194 : decode cL_causes 194 = .ok (.iload_n 2, 1) := by decide +kernel
theorem dL_causes_195 : decode cL_causes 195 = .ok (.iload 7, 2) := by decide +kernel
theorem dL_causes_197 : decode cL_causes 197 = .ok (.ifCond .eq 10, 3) := by decide +kernel
theorem dL_causes_200 : decode cL_causes 200 = .ok (.iconst 1, 1) := by decide +kernel
theorem dL_causes_201 : decode cL_causes 201 = .ok (.iload 5, 2) := by decide +kernel
theorem dL_causes_203 : decode cL_causes 203 = .ok (.ishl, 1) := by decide +kernel
theorem dL_causes_204 : decode cL_causes 204 = .ok (.goto 4, 3) := by decide +kernel
theorem dL_causes_207 : decode cL_causes 207 = .ok (.iconst 0, 1) := by decide +kernel
theorem dL_causes_208 : decode cL_causes 208 = .ok (.ior, 1) := by decide +kernel
theorem dL_causes_209 : decode cL_causes 209 = .ok (.istore_n 2, 1) := by decide +kernel
theorem dL_causes_210 : decode cL_causes 210 = .ok (.aload_n 0, 1) := by decide +kernel
theorem dL_causes_211 : decode cL_causes 211 = .ok (.iload 5, 2) := by decide +kernel
theorem dL_causes_213 : decode cL_causes 213 = .ok (.invokestatic 83, 3) := by decide +kernel
theorem dL_causes_216 : decode cL_causes 216 = .ok (.iconst 1, 1) := by decide +kernel
theorem dL_causes_217 : decode cL_causes 217 = .ok (.if_icmp .ne 7, 3) := by decide +kernel
theorem dL_causes_220 : decode cL_causes 220 = .ok (.iconst 1, 1) := by decide +kernel
theorem dL_causes_221 : decode cL_causes 221 = .ok (.goto 4, 3) := by decide +kernel
theorem dL_causes_224 : decode cL_causes 224 = .ok (.iconst 0, 1) := by decide +kernel
theorem dL_causes_225 : decode cL_causes 225 = .ok (.iload 7, 2) := by decide +kernel
theorem dL_causes_227 : decode cL_causes 227 = .ok (.if_icmp .ne 7, 3) := by decide +kernel
theorem dL_causes_230 : decode cL_causes 230 = .ok (.iconst 1, 1) := by decide +kernel
theorem dL_causes_231 : decode cL_causes 231 = .ok (.goto 4, 3) := by decide +kernel
theorem dL_causes_234 : decode cL_causes 234 = .ok (.iconst 0, 1) := by decide +kernel
theorem dL_causes_235 : decode cL_causes 235 = .ok (.istore 4, 2) := by decide +kernel
theorem dL_causes_237 : decode cL_causes 237 = .ok (.iinc 5 1, 3) := by decide +kernel
theorem dL_causes_240 : decode cL_causes 240 = .ok (.goto (-133), 3) := by decide +kernel
theorem dL_causes_243 : decode cL_causes 243 = .ok (.iconst 0, 1) := by decide +kernel
theorem dL_causes_244 : decode cL_causes 244 = .ok (.istore 5, 2) := by decide +kernel
theorem dL_causes_246 : decode cL_causes 246 = .ok (.iconst (-1), 1) := by decide +kernel
theorem dL_causes_247 : decode cL_causes 247 = .ok (.istore 6, 2) := by decide +kernel
theorem dL_causes_249 : decode cL_causes 249 = .ok (.iconst 0, 1) := by decide +kernel
theorem dL_causes_250 : decode cL_causes 250 = .ok (.istore 7, 2) := by decide +kernel
theorem dL_causes_252 : decode cL_causes 252 = .ok (.iload 7, 2) := by decide +kernel
theorem dL_causes_254 : decode cL_causes 254 = .ok (.aload_n 0, 1) := by decide +kernel
theorem dL_causes_255 : decode cL_causes 255 = .ok (.invokevirtual 86, 3) := by decide +kernel
theorem dL_causes_258 : decode cL_causes 258 = .ok (.if_icmp .ge 67, 3) := by decide +kernel
theorem dL_causes_261 : decode cL_causes 261 = .ok (.iload 4, 2) := by decide +kernel
theorem dL_causes_263 : decode cL_causes 263 = .ok (.ifCond .eq 62, 3) := by decide +kernel
theorem dL_causes_266 : decode cL_causes 266 = .ok (.aload_n 0, 1) := by decide +kernel
theorem dL_causes_267 : decode cL_causes 267 = .ok (.iload 7, 2) := by decide +kernel
theorem dL_causes_269 : decode cL_causes 269 = .ok (.invokestatic 90, 3) := by decide +kernel
theorem dL_causes_272 : decode cL_causes 272 = .ok (.istore 8, 2) := by decide +kernel
theorem dL_causes_274 : decode cL_causes 274 = .ok (.iload 8, 2) := by decide +kernel
theorem dL_causes_276 : decode cL_causes 276 = .ok (.iload 6, 2) := by decide +kernel
theorem dL_causes_278 : decode cL_causes 278 = .ok (.if_icmp .le 25, 3) := by decide +kernel
theorem dL_causes_281 : decode cL_causes 281 = .ok (.iload 8, 2) := by decide +kernel
theorem dL_causes_283 : decode cL_causes 283 = .ok (.bipush 14, 2) := by decide +kernel
theorem dL_causes_285 : decode cL_causes 285 = .ok (.if_icmp .ge 18, 3) := by decide +kernel
theorem dL_causes_288 : decode cL_causes 288 = .ok (.aload_n 0, 1) := by decide +kernel
theorem dL_causes_289 : decode cL_causes 289 = .ok (.iload 7, 2) := by decide +kernel
theorem dL_causes_291 : decode cL_causes 291 = .ok (.invokestatic 92, 3) := by decide +kernel
theorem dL_causes_294 : decode cL_causes 294 = .ok (.iload 8, 2) := by decide +kernel
theorem dL_causes_296 : decode cL_causes 296 = .ok (.if_icmp .ne 7, 3) := by decide +kernel
theorem dL_causes_299 : decode cL_causes 299 = .ok (.iconst 1, 1) := by decide +kernel
theorem dL_causes_300 : decode cL_causes 300 = .ok (.goto 4, 3) := by decide +kernel
theorem dL_causes_303 : decode cL_causes 303 = .ok (.iconst 0, 1) := by decide +kernel
theorem dL_causes_304 : decode cL_causes 304 = .ok (.istore 4, 2) := by decide +kernel
theorem dL_causes_306 : decode cL_causes 306 = .ok (.iload 8, 2) := by decide +kernel
theorem dL_causes_308 : decode cL_causes 308 = .ok (.istore 6, 2) := by decide +kernel
theorem dL_causes_310 : decode cL_causes 310 = .ok (.iload 5, 2) := by decide +kernel
theorem dL_causes_312 : decode cL_causes 312 = .ok (.iconst 1, 1) := by decide +kernel
theorem dL_causes_313 : decode cL_causes 313 = .ok (.iload 8, 2) := by decide +kernel
theorem dL_causes_315 : decode cL_causes 315 = .ok (.ishl, 1) := by decide +kernel
theorem dL_causes_316 : decode cL_causes 316 = .ok (.ior, 1) := by decide +kernel
theorem dL_causes_317 : decode cL_causes 317 = .ok (.istore 5, 2) := by decide +kernel
theorem dL_causes_319 : decode cL_causes 319 = .ok (.iinc 7 1, 3) := by decide +kernel
theorem dL_causes_322 : decode cL_causes 322 = .ok (.goto (-70), 3) := by decide +kernel
theorem dL_causes_325 : decode cL_causes 325 = .ok (.iload 4, 2) := by decide +kernel
theorem dL_causes_327 : decode cL_causes 327 = .ok (.ifCond .eq 54, 3) := by decide +kernel
theorem dL_causes_330 : decode cL_causes 330 = .ok (.aload_n 0, 1) := by decide +kernel
theorem dL_causes_331 : decode cL_causes 331 = .ok (.aload_n 0, 1) := by decide +kernel
theorem dL_causes_332 : decode cL_causes 332 = .ok (.invokevirtual 86, 3) := by decide +kernel
theorem dL_causes_335 : decode cL_causes 335 = .ok (.invokestatic 90, 3) := by decide +kernel
theorem dL_causes_338 : decode cL_causes 338 = .ok (.bipush (-101), 2) := by decide +kernel
theorem dL_causes_340 : decode cL_causes 340 = .ok (.if_icmp .ne 41, 3) := by decide +kernel
theorem dL_causes_343 : decode cL_causes 343 = .ok (.aload_n 0, 1) := by decide +kernel
theorem dL_causes_344 : decode cL_causes 344 = .ok (.aload_n 0, 1) := by decide +kernel
theorem dL_causes_345 : decode cL_causes 345 = .ok (.invokevirtual 86, 3) := by decide +kernel
theorem dL_causes_348 : decode cL_causes 348 = .ok (.invokestatic 92, 3) := by decide +kernel
theorem dL_causes_351 : decode cL_causes 351 = .ok (.bipush (-101), 2) := by decide +kernel
theorem dL_causes_353 : decode cL_causes 353 = .ok (.if_icmp .ne 28, 3) := by decide +kernel
theorem dL_causes_356 : decode cL_causes 356 = .ok (.aload_n 0, 1) := by decide +kernel
theorem dL_causes_357 : decode cL_causes 357 = .ok (.iconst (-1), 1) := by decide +kernel
theorem dL_causes_358 : decode cL_causes 358 = .ok (.invokestatic 90, 3) := by decide +kernel
theorem dL_causes_361 : decode cL_causes 361 = .ok (.bipush (-101), 2) := by decide +kernel
theorem dL_causes_363 : decode cL_causes 363 = .ok (.if_icmp .ne 18, 3) := by decide +kernel
theorem dL_causes_366 : decode cL_causes 366 = .ok (.aload_n 1, 1) := by decide +kernel
theorem dL_causes_367 : decode cL_causes 367 = .ok (.iload_n 2, 1) := by decide +kernel
theorem dL_causes_368 : decode cL_causes 368 = .ok (.iload_n 3, 1) := by decide +kernel
theorem dL_causes_369 : decode cL_causes 369 = .ok (.iload 5, 2) := by decide +kernel
theorem dL_causes_371 : decode cL_causes 371 = .ok (.invokestatic 95, 3) := by decide +kernel
theorem dL_causes_374 : decode cL_causes 374 = .ok (.ifCond .eq 7, 3) := by decide +kernel
theorem dL_causes_377 : decode cL_causes 377 = .ok (.iconst 1, 1) := by decide +kernel
theorem dL_causes_378 : decode cL_causes 378 = .ok (.goto 4, 3) := by decide +kernel
theorem dL_causes_381 : decode cL_causes 381 = .ok (.iconst 0, 1) := by decide +kernel
theorem dL_causes_382 : decode cL_causes 382 = .ok (.istore 4, 2) := by decide +kernel
theorem dL_causes_384 : decode cL_causes 384 = .ok (.iload_n 3, 1) := by decide +kernel
theorem dL_causes_385 : decode cL_causes 385 = .ok (.istore 7, 2) := by decide +kernel
theorem dL_causes_387 : decode cL_causes 387 = .ok (.aload_n 0, 1) := by decide +kernel
theorem dL_causes_388 : decode cL_causes 388 = .ok (.invokevirtual 99, 3) := by decide +kernel
theorem dL_causes_391 : decode cL_causes 391 = .ok (.istore 8, 2) := by decide +kernel
theorem dL_causes_393 : decode cL_causes 393 = .ok (.iconst 0, 1) := by decide +kernel
theorem dL_causes_394 : decode cL_causes 394 = .ok (.istore 9, 2) := by decide +kernel
theorem dL_causes_396 : decode cL_causes 396 = .ok (.iload 9, 2) := by decide +kernel
theorem dL_causes_398 : decode cL_causes 398 = .ok (.iload 8, 2) := by decide +kernel
theorem dL_causes_400 : decode cL_causes 400 = .ok (.if_icmp .ge 213, 3) := by decide +kernel
theorem dL_causes_403 : decode cL_causes 403 = .ok (.iload 4, 2) := by decide +kernel
theorem dL_causes_405 : decode cL_causes 405 = .ok (.ifCond .eq 208, 3) := by decide +kernel
theorem dL_causes_408 : decode cL_causes 408 = .ok (.aload_n 0, 1) := by decide +kernel
theorem dL_causes_409 : decode cL_causes 409 = .ok (.iload 9, 2) := by decide +kernel
theorem dL_causes_411 : decode cL_causes 411 = .ok (.invokestatic 102, 3) := by decide +kernel
theorem dL_causes_414 : decode cL_causes 414 = .ok (.istore 10, 2) := by decide +kernel
theorem dL_causes_416 : decode cL_causes 416 = .ok (.iload 10, 2) := by decide +kernel
theorem dL_causes_418 : decode cL_causes 418 = .ok (.ifCond .lt 27, 3) := by decide +kernel
theorem dL_causes_421 : decode cL_causes 421 = .ok (.iload_n 2, 1) := by decide +kernel
theorem dL_causes_422 : decode cL_causes 422 = .ok (.iload 10, 2) := by decide +kernel
theorem dL_causes_424 : decode cL_causes 424 = .ok (.ishr, 1) := by decide +kernel
theorem dL_causes_425 : decode cL_causes 425 = .ok (.iconst 1, 1) := by decide +kernel
theorem dL_causes_426 : decode cL_causes 426 = .ok (.iand, 1) := by decide +kernel
theorem dL_causes_427 : decode cL_causes 427 = .ok (.iconst 1, 1) := by decide +kernel
theorem dL_causes_428 : decode cL_causes 428 = .ok (.if_icmp .ne 17, 3) := by decide +kernel
theorem dL_causes_431 : decode cL_causes 431 = .ok (.aload_n 1, 1) := by decide +kernel
theorem dL_causes_432 : decode cL_causes 432 = .ok (.iload 10, 2) := by decide +kernel
theorem dL_causes_434 : decode cL_causes 434 = .ok (.iaload, 1) := by decide +kernel
theorem dL_causes_435 : decode cL_causes 435 = .ok (.iload 7, 2) := by decide +kernel
theorem dL_causes_437 : decode cL_causes 437 = .ok (.iand, 1) := by decide +kernel
theorem dL_causes_438 : decode cL_causes 438 = .ok (.ifCond .eq 7, 3) := by decide +kernel
theorem dL_causes_441 : decode cL_causes 441 = .ok (.iconst 1, 1) := by decide +kernel
theorem dL_causes_442 : decode cL_causes 442 = .ok (.goto 4, 3) := by decide +kernel
theorem dL_causes_445 : decode cL_causes 445 = .ok (.iconst 0, 1) := by decide +kernel
theorem dL_causes_446 : decode cL_causes 446 = .ok (.istore 4, 2) := by decide +kernel
theorem dL_causes_448 : decode cL_causes 448 = .ok (.iconst 0, 1) := by decide +kernel
theorem dL_causes_449 : decode cL_causes 449 = .ok (.istore 11, 2) := by decide +kernel
theorem dL_causes_451 : decode cL_causes 451 = .ok (.iload 11, 2) := by decide +kernel
theorem dL_causes_453 : decode cL_causes 453 = .ok (.bipush 14, 2) := by decide +kernel
theorem dL_causes_455 : decode cL_causes 455 = .ok (.if_icmp .ge 131, 3) := by decide +kernel
theorem dL_causes_458 : decode cL_causes 458 = .ok (.iload 4, 2) := by decide +kernel
theorem dL_causes_460 : decode cL_causes 460 = .ok (.ifCond .eq 126, 3) := by decide +kernel
theorem dL_causes_463 : decode cL_causes 463 = .ok (.iload_n 2, 1) := by decide +kernel
theorem dL_causes_464 : decode cL_causes 464 = .ok (.iload 11, 2) := by decide +kernel
theorem dL_causes_466 : decode cL_causes 466 = .ok (.ishr, 1) := by decide +kernel
theorem dL_causes_467 : decode cL_causes 467 = .ok (.iconst 1, 1) := by decide +kernel
theorem dL_causes_468 : decode cL_causes 468 = .ok (.iand, 1) := by decide +kernel
theorem dL_causes_469 : decode cL_causes 469 = .ok (.iconst 1, 1) := by decide +kernel
theorem dL_causes_470 : decode cL_causes 470 = .ok (.if_icmp .ne 16, 3) := by decide +kernel
theorem dL_causes_473 : decode cL_causes 473 = .ok (.aload_n 1, 1) := by decide +kernel
theorem dL_causes_474 : decode cL_causes 474 = .ok (.iload 11, 2) := by decide +kernel
theorem dL_causes_476 : decode cL_causes 476 = .ok (.iaload, 1) := by decide +kernel
theorem dL_causes_477 : decode cL_causes 477 = .ok (.iload 7, 2) := by decide +kernel
theorem dL_causes_479 : decode cL_causes 479 = .ok (.iand, 1) := by decide +kernel
theorem dL_causes_480 : decode cL_causes 480 = .ok (.invokestatic 77, 3) := by decide +kernel
theorem dL_causes_483 : decode cL_causes 483 = .ok (.goto 4, 3) := by decide +kernel
theorem dL_causes_486 : decode cL_causes 486 = .ok (.iconst 0, 1) := by decide +kernel
theorem dL_causes_487 : decode cL_causes 487 = .ok (.istore 12, 2) := by decide +kernel
theorem dL_causes_489 : decode cL_causes 489 = .ok (.aload_n 1, 1) := by decide +kernel
theorem dL_causes_490 : decode cL_causes 490 = .ok (.iload 10, 2) := by decide +kernel
theorem dL_causes_492 : decode cL_causes 492 = .ok (.iaload, 1) := by decide +kernel
theorem dL_causes_493 : decode cL_causes 493 = .ok (.iload 7, 2) := by decide +kernel
theorem dL_causes_495 : decode cL_causes 495 = .ok (.iand, 1) := by decide +kernel
theorem dL_causes_496 : decode cL_causes 496 = .ok (.invokestatic 77, 3) := by decide +kernel
theorem dL_causes_499 : decode cL_causes 499 = .ok (.istore 13, 2) := by decide +kernel
theorem dL_causes_501 : decode cL_causes 501 = .ok (.iload_n 3, 1) := by decide +kernel
theorem dL_causes_502 : decode cL_causes 502 = .ok (.iload 10, 2) := by decide +kernel
theorem dL_causes_504 : decode cL_causes 504 = .ok (.ishr, 1) := by decide +kernel
theorem dL_causes_505 : decode cL_causes 505 = .ok (.iconst 1, 1) := by decide +kernel
theorem dL_causes_506 : decode cL_causes 506 = .ok (.iand, 1) := by decide +kernel
theorem dL_causes_507 : decode cL_causes 507 = .ok (.iconst 1, 1) := by decide +kernel
theorem dL_causes_508 : decode cL_causes 508 = .ok (.if_icmp .ne 7, 3) := by decide +kernel
theorem dL_causes_511 : decode cL_causes 511 = .ok (.iconst 1, 1) := by decide +kernel
theorem dL_causes_512 : decode cL_causes 512 = .ok (.goto 4, 3) := by decide +kernel
theorem dL_causes_515 : decode cL_causes 515 = .ok (.iconst 0, 1) := by decide +kernel
theorem dL_causes_516 : decode cL_causes 516 = .ok (.istore 14, 2) := by decide +kernel
theorem dL_causes_518 : decode cL_causes 518 = .ok (.iload_n 3, 1) := by decide +kernel
theorem dL_causes_519 : decode cL_causes 519 = .ok (.iload 11, 2) := by decide +kernel
theorem dL_causes_521 : decode cL_causes 521 = .ok (.ishr, 1) := by decide +kernel
theorem dL_causes_522 : decode cL_causes 522 = .ok (.iconst 1, 1) := by decide +kernel
theorem dL_causes_523 : decode cL_causes 523 = .ok (.iand, 1) := by decide +kernel
theorem dL_causes_524 : decode cL_causes 524 = .ok (.iconst 1, 1) := by decide +kernel
theorem dL_causes_525 : decode cL_causes 525 = .ok (.if_icmp .ne 7, 3) := by decide +kernel
theorem dL_causes_528 : decode cL_causes 528 = .ok (.iconst 1, 1) := by decide +kernel
theorem dL_causes_529 : decode cL_causes 529 = .ok (.goto 4, 3) := by decide +kernel
theorem dL_causes_532 : decode cL_causes 532 = .ok (.iconst 0, 1) := by decide +kernel
theorem dL_causes_533 : decode cL_causes 533 = .ok (.istore 15, 2) := by decide +kernel
theorem dL_causes_535 : decode cL_causes 535 = .ok (.iload 12, 2) := by decide +kernel
theorem dL_causes_537 : decode cL_causes 537 = .ok (.iload 13, 2) := by decide +kernel
theorem dL_causes_539 : decode cL_causes 539 = .ok (.if_icmp .lt 34, 3) := by decide +kernel
theorem dL_causes_542 : decode cL_causes 542 = .ok (.iload 12, 2) := by decide +kernel
theorem dL_causes_544 : decode cL_causes 544 = .ok (.iload 13, 2) := by decide +kernel
theorem dL_causes_546 : decode cL_causes 546 = .ok (.if_icmp .ne 31, 3) := by decide +kernel
theorem dL_causes_549 : decode cL_causes 549 = .ok (.iload 14, 2) := by decide +kernel
theorem dL_causes_551 : decode cL_causes 551 = .ok (.ifCond .eq 8, 3) := by decide +kernel
theorem dL_causes_554 : decode cL_causes 554 = .ok (.iload 15, 2) := by decide +kernel
theorem dL_causes_556 : decode cL_causes 556 = .ok (.ifCond .eq 17, 3) := by decide +kernel
theorem dL_causes_559 : decode cL_causes 559 = .ok (.iload 14, 2) := by decide +kernel
theorem dL_causes_561 : decode cL_causes 561 = .ok (.iload 15, 2) := by decide +kernel
theorem dL_causes_563 : decode cL_causes 563 = .ok (.if_icmp .ne 14, 3) := by decide +kernel
theorem dL_causes_566 : decode cL_causes 566 = .ok (.iload 10, 2) := by decide +kernel
theorem dL_causes_568 : decode cL_causes 568 = .ok (.iload 11, 2) := by decide +kernel
theorem dL_causes_570 : decode cL_causes 570 = .ok (.if_icmp .gt 7, 3) := by decide +kernel
theorem dL_causes_573 : decode cL_causes 573 = .ok (.iconst 1, 1) := by decide +kernel
theorem dL_causes_574 : decode cL_causes 574 = .ok (.goto 4, 3) := by decide +kernel
theorem dL_causes_577 : decode cL_causes 577 = .ok (.iconst 0, 1) := by decide +kernel
theorem dL_causes_578 : decode cL_causes 578 = .ok (.istore 4, 2) := by decide +kernel
theorem dL_causes_580 : decode cL_causes 580 = .ok (.iinc 11 1, 3) := by decide +kernel
theorem dL_causes_583 : decode cL_causes 583 = .ok (.goto (-132), 3) := by decide +kernel
theorem dL_causes_586 : decode cL_causes 586 = .ok (.iload 7, 2) := by decide +kernel
theorem dL_causes_588 : decode cL_causes 588 = .ok (.iload 4, 2) := by decide +kernel
theorem dL_causes_590 : decode cL_causes 590 = .ok (.ifCond .eq 12, 3) := by decide +kernel
theorem dL_causes_593 : decode cL_causes 593 = .ok (.aload_n 1, 1) := by decide +kernel
theorem dL_causes_594 : decode cL_causes 594 = .ok (.iload 10, 2) := by decide +kernel
theorem dL_causes_596 : decode cL_causes 596 = .ok (.iaload, 1) := by decide +kernel
theorem dL_causes_597 : decode cL_causes 597 = .ok (.iconst (-1), 1) := by decide +kernel
theorem dL_causes_598 : decode cL_causes 598 = .ok (.ixor, 1) := by decide +kernel
theorem dL_causes_599 : decode cL_causes 599 = .ok (.goto 5, 3) := by decide +kernel
theorem dL_causes_602 : decode cL_causes 602 = .ok (.iload 7, 2) := by decide +kernel
theorem dL_causes_604 : decode cL_causes 604 = .ok (.iand, 1) := by decide +kernel
theorem dL_causes_605 : decode cL_causes 605 = .ok (.istore 7, 2) := by decide +kernel
theorem dL_causes_607 : decode cL_causes 607 = .ok (.iinc 9 1, 3) := by decide +kernel
theorem dL_causes_610 : decode cL_causes 610 = .ok (.goto (-214), 3) := by decide +kernel
theorem dL_causes_613 : decode cL_causes 613 = .ok (.iload 4, 2) := by decide +kernel
theorem dL_causes_615 : decode cL_causes 615 = .ok (.ifCond .eq 42, 3) := by decide +kernel
theorem dL_causes_618 : decode cL_causes 618 = .ok (.iload 7, 2) := by decide +kernel
theorem dL_causes_620 : decode cL_causes 620 = .ok (.ifCond .ne 37, 3) := by decide +kernel
theorem dL_causes_623 : decode cL_causes 623 = .ok (.iload 8, 2) := by decide +kernel
theorem dL_causes_625 : decode cL_causes 625 = .ok (.aload_n 0, 1) := by decide +kernel
theorem dL_causes_626 : decode cL_causes 626 = .ok (.invokevirtual 86, 3) := by decide +kernel
theorem dL_causes_629 : decode cL_causes 629 = .ok (.if_icmp .lt 28, 3) := by decide +kernel
theorem dL_causes_632 : decode cL_causes 632 = .ok (.aload_n 0, 1) := by decide +kernel
theorem dL_causes_633 : decode cL_causes 633 = .ok (.iload 8, 2) := by decide +kernel
theorem dL_causes_635 : decode cL_causes 635 = .ok (.invokestatic 102, 3) := by decide +kernel
theorem dL_causes_638 : decode cL_causes 638 = .ok (.bipush (-101), 2) := by decide +kernel
theorem dL_causes_640 : decode cL_causes 640 = .ok (.if_icmp .ne 17, 3) := by decide +kernel
theorem dL_causes_643 : decode cL_causes 643 = .ok (.aload_n 0, 1) := by decide +kernel
theorem dL_causes_644 : decode cL_causes 644 = .ok (.iconst (-1), 1) := by decide +kernel
theorem dL_causes_645 : decode cL_causes 645 = .ok (.invokestatic 102, 3) := by decide +kernel
theorem dL_causes_648 : decode cL_causes 648 = .ok (.bipush (-101), 2) := by decide +kernel
theorem dL_causes_650 : decode cL_causes 650 = .ok (.if_icmp .ne 7, 3) := by decide +kernel
theorem dL_causes_653 : decode cL_causes 653 = .ok (.iconst 1, 1) := by decide +kernel
theorem dL_causes_654 : decode cL_causes 654 = .ok (.goto 4, 3) := by decide +kernel
theorem dL_causes_657 : decode cL_causes 657 = .ok (.iconst 0, 1) := by decide +kernel
theorem dL_causes_658 : decode cL_causes 658 = .ok (.istore 4, 2) := by decide +kernel
theorem dL_causes_660 : decode cL_causes 660 = .ok (.iconst 0, 1) := by decide +kernel
theorem dL_causes_661 : decode cL_causes 661 = .ok (.istore 9, 2) := by decide +kernel
theorem dL_causes_663 : decode cL_causes 663 = .ok (.iload 9, 2) := by decide +kernel
theorem dL_causes_665 : decode cL_causes 665 = .ok (.bipush 14, 2) := by decide +kernel
theorem dL_causes_667 : decode cL_causes 667 = .ok (.if_icmp .ge 93, 3) := by decide +kernel
theorem dL_causes_670 : decode cL_causes 670 = .ok (.iload 4, 2) := by decide +kernel
theorem dL_causes_672 : decode cL_causes 672 = .ok (.ifCond .eq 88, 3) := by decide +kernel
theorem dL_causes_675 : decode cL_causes 675 = .ok (.iconst (-1), 1) := by decide +kernel
theorem dL_causes_676 : decode cL_causes 676 = .ok (.istore 10, 2) := by decide +kernel
theorem dL_causes_678 : decode cL_causes 678 = .ok (.bipush 13, 2) := by decide +kernel
theorem dL_causes_680 : decode cL_causes 680 = .ok (.istore 11, 2) := by decide +kernel
theorem dL_causes_682 : decode cL_causes 682 = .ok (.iload 11, 2) := by decide +kernel
theorem dL_causes_684 : decode cL_causes 684 = .ok (.ifCond .lt 52, 3) := by decide +kernel
theorem dL_causes_687 : decode cL_causes 687 = .ok (.iload 5, 2) := by decide +kernel
theorem dL_causes_689 : decode cL_causes 689 = .ok (.iload 11, 2) := by decide +kernel
theorem dL_causes_691 : decode cL_causes 691 = .ok (.ishr, 1) := by decide +kernel
theorem dL_causes_692 : decode cL_causes 692 = .ok (.iconst 1, 1) := by decide +kernel
theorem dL_causes_693 : decode cL_causes 693 = .ok (.iand, 1) := by decide +kernel
theorem dL_causes_694 : decode cL_causes 694 = .ok (.iconst 1, 1) := by decide +kernel
theorem dL_causes_695 : decode cL_causes 695 = .ok (.if_icmp .ne 31, 3) := by decide +kernel
theorem dL_causes_698 : decode cL_causes 698 = .ok (.aload_n 1, 1) := by decide +kernel
theorem dL_causes_699 : decode cL_causes 699 = .ok (.iload 11, 2) := by decide +kernel
theorem dL_causes_701 : decode cL_causes 701 = .ok (.iaload, 1) := by decide +kernel
theorem dL_causes_702 : decode cL_causes 702 = .ok (.iload 9, 2) := by decide +kernel
theorem dL_causes_704 : decode cL_causes 704 = .ok (.ishr, 1) := by decide +kernel
theorem dL_causes_705 : decode cL_causes 705 = .ok (.iconst 1, 1) := by decide +kernel
theorem dL_causes_706 : decode cL_causes 706 = .ok (.iand, 1) := by decide +kernel
theorem dL_causes_707 : decode cL_causes 707 = .ok (.iconst 1, 1) := by decide +kernel
theorem dL_causes_708 : decode cL_causes 708 = .ok (.if_icmp .ne 18, 3) := by decide +kernel
theorem dL_causes_711 : decode cL_causes 711 = .ok (.iload_n 3, 1) := by decide +kernel
theorem dL_causes_712 : decode cL_causes 712 = .ok (.iload 9, 2) := by decide +kernel
theorem dL_causes_714 : decode cL_causes 714 = .ok (.ishr, 1) := by decide +kernel
theorem dL_causes_715 : decode cL_causes 715 = .ok (.iconst 1, 1) := by decide +kernel
theorem dL_causes_716 : decode cL_causes 716 = .ok (.iand, 1) := by decide +kernel
theorem dL_causes_717 : decode cL_causes 717 = .ok (.iconst 1, 1) := by decide +kernel
theorem dL_causes_718 : decode cL_causes 718 = .ok (.if_icmp .ne 8, 3) := by decide +kernel
theorem dL_causes_721 : decode cL_causes 721 = .ok (.iload 11, 2) := by decide +kernel
theorem dL_causes_723 : decode cL_causes 723 = .ok (.goto 5, 3) := by decide +kernel
theorem dL_causes_726 : decode cL_causes 726 = .ok (.iload 10, 2) := by decide +kernel
theorem dL_causes_728 : decode cL_causes 728 = .ok (.istore 10, 2) := by decide +kernel
theorem dL_causes_730 : decode cL_causes 730 = .ok (.iinc 11 (-1), 3) := by decide +kernel
theorem dL_causes_733 : decode cL_causes 733 = .ok (.goto (-51), 3) := by decide +kernel
theorem dL_causes_736 : decode cL_causes 736 = .ok (.aload_n 0, 1) := by decide +kernel
theorem dL_causes_737 : decode cL_causes 737 = .ok (.iload 9, 2) := by decide +kernel
theorem dL_causes_739 : decode cL_causes 739 = .ok (.invokestatic 105, 3) := by decide +kernel
theorem dL_causes_742 : decode cL_causes 742 = .ok (.iload 10, 2) := by decide +kernel
theorem dL_causes_744 : decode cL_causes 744 = .ok (.if_icmp .ne 7, 3) := by decide +kernel
theorem dL_causes_747 : decode cL_causes 747 = .ok (.iconst 1, 1) := by decide +kernel
theorem dL_causes_748 : decode cL_causes 748 = .ok (.goto 4, 3) := by decide +kernel
theorem dL_causes_751 : decode cL_causes 751 = .ok (.iconst 0, 1) := by decide +kernel
theorem dL_causes_752 : decode cL_causes 752 = .ok (.istore 4, 2) := by decide +kernel
theorem dL_causes_754 : decode cL_causes 754 = .ok (.iinc 9 1, 3) := by decide +kernel
theorem dL_causes_757 : decode cL_causes 757 = .ok (.goto (-94), 3) := by decide +kernel
theorem dL_causes_760 : decode cL_causes 760 = .ok (.iload 4, 2) := by decide +kernel
theorem dL_causes_762 : decode cL_causes 762 = .ok (.ireturn, 1) := by decide +kernel
theorem dL_law_0 : decode cL_law 0 = .ok (.new 10, 3) := by decide +kernel
theorem dL_law_3 : decode cL_law 3 = .ok (.dup, 1) := by decide +kernel
theorem dL_law_4 : decode cL_law 4 = .ok (.invokespecial 107, 3) := by decide +kernel
theorem dL_law_7 : decode cL_law 7 = .ok (.astore_n 1, 1) := by decide +kernel
theorem dL_law_8 : decode cL_law 8 = .ok (.aload_n 1, 1) := by decide +kernel
theorem dL_law_9 : decode cL_law 9 = .ok (.invokestatic 108, 3) := by decide +kernel
theorem dL_law_12 : decode cL_law 12 = .ok (.ifCond .eq 14, 3) := by decide +kernel
theorem dL_law_15 : decode cL_law 15 = .ok (.aload_n 1, 1) := by decide +kernel
theorem dL_law_16 : decode cL_law 16 = .ok (.invokestatic 112, 3) := by decide +kernel
theorem dL_law_19 : decode cL_law 19 = .ok (.ifCond .eq 7, 3) := by decide +kernel
theorem dL_law_22 : decode cL_law 22 = .ok (.iconst 1, 1) := by decide +kernel
theorem dL_law_23 : decode cL_law 23 = .ok (.goto 4, 3) := by decide +kernel
theorem dL_law_26 : decode cL_law 26 = .ok (.iconst 0, 1) := by decide +kernel
theorem dL_law_27 : decode cL_law 27 = .ok (.istore_n 2, 1) := by decide +kernel
theorem dL_law_28 : decode cL_law 28 = .ok (.iconst 0, 1) := by decide +kernel
theorem dL_law_29 : decode cL_law 29 = .ok (.istore_n 3, 1) := by decide +kernel
theorem dL_law_30 : decode cL_law 30 = .ok (.iload_n 3, 1) := by decide +kernel
theorem dL_law_31 : decode cL_law 31 = .ok (.bipush 40, 2) := by decide +kernel
theorem dL_law_33 : decode cL_law 33 = .ok (.if_icmp .ge 404, 3) := by decide +kernel
theorem dL_law_36 : decode cL_law 36 = .ok (.iload_n 2, 1) := by decide +kernel
theorem dL_law_37 : decode cL_law 37 = .ok (.ifCond .eq 400, 3) := by decide +kernel
theorem dL_law_40 : decode cL_law 40 = .ok (.aload_n 0, 1) := by decide +kernel
theorem dL_law_41 : decode cL_law 41 = .ok (.iload_n 3, 1) := by decide +kernel
theorem dL_law_42 : decode cL_law 42 = .ok (.invokestatic 114, 3) := by decide +kernel
theorem dL_law_45 : decode cL_law 45 = .ok (.istore 4, 2) := by decide +kernel
theorem dL_law_47 : decode cL_law 47 = .ok (.iload 4, 2) := by decide +kernel
theorem dL_law_49 : decode cL_law 49 = .ok (.bipush 8, 2) := by decide +kernel
theorem dL_law_51 : decode cL_law 51 = .ok (.idiv, 1) := by decide +kernel
theorem dL_law_52 : decode cL_law 52 = .ok (.istore 5, 2) := by decide +kernel
theorem dL_law_54 : decode cL_law 54 = .ok (.iload 5, 2) := by decide +kernel
theorem dL_law_56 : decode cL_law 56 = .ok (.bipush 14, 2) := by decide +kernel
theorem dL_law_58 : decode cL_law 58 = .ok (.irem, 1) := by decide +kernel
theorem dL_law_59 : decode cL_law 59 = .ok (.istore 6, 2) := by decide +kernel
theorem dL_law_61 : decode cL_law 61 = .ok (.iload 5, 2) := by decide +kernel
theorem dL_law_63 : decode cL_law 63 = .ok (.bipush 14, 2) := by decide +kernel
theorem dL_law_65 : decode cL_law 65 = .ok (.idiv, 1) := by decide +kernel
theorem dL_law_66 : decode cL_law 66 = .ok (.bipush 14, 2) := by decide +kernel
theorem dL_law_68 : decode cL_law 68 = .ok (.irem, 1) := by decide +kernel
theorem dL_law_69 : decode cL_law 69 = .ok (.istore 7, 2) := by decide +kernel
theorem dL_law_71 : decode cL_law 71 = .ok (.iload 4, 2) := by decide +kernel
theorem dL_law_73 : decode cL_law 73 = .ok (.bipush 8, 2) := by decide +kernel
theorem dL_law_75 : decode cL_law 75 = .ok (.irem, 1) := by decide +kernel
theorem dL_law_76 : decode cL_law 76 = .ok (.iconst 2, 1) := by decide +kernel
theorem dL_law_77 : decode cL_law 77 = .ok (.if_icmp .lt 9, 3) := by decide +kernel
theorem dL_law_80 : decode cL_law 80 = .ok (.iload_n 3, 1) := by decide +kernel
theorem dL_law_81 : decode cL_law 81 = .ok (.bipush 10, 2) := by decide +kernel
theorem dL_law_83 : decode cL_law 83 = .ok (.if_icmp .ge 75, 3) := by decide +kernel
theorem dL_law_86 : decode cL_law 86 = .ok (.iload 6, 2) := by decide +kernel
theorem dL_law_88 : decode cL_law 88 = .ok (.iload 7, 2) := by decide +kernel
theorem dL_law_90 : decode cL_law 90 = .ok (.if_icmp .eq 18, 3) := by decide +kernel
theorem dL_law_93 : decode cL_law 93 = .ok (.aload_n 1, 1) := by decide +kernel
theorem dL_law_94 : decode cL_law 94 = .ok (.iload 7, 2) := by decide +kernel
theorem dL_law_96 : decode cL_law 96 = .ok (.iload 6, 2) := by decide +kernel
theorem dL_law_98 : decode cL_law 98 = .ok (.invokestatic 70, 3) := by decide +kernel
theorem dL_law_101 : decode cL_law 101 = .ok (.ifCond .ne 7, 3) := by decide +kernel
theorem dL_law_104 : decode cL_law 104 = .ok (.iconst 1, 1) := by decide +kernel
theorem dL_law_105 : decode cL_law 105 = .ok (.goto 4, 3) := by decide +kernel
theorem dL_law_108 : decode cL_law 108 = .ok (.iconst 0, 1) := by decide +kernel
theorem dL_law_109 : decode cL_law 109 = .ok (.istore 8, 2) := by decide +kernel
theorem dL_law_111 : decode cL_law 111 = .ok (.aload_n 1, 1) := by decide +kernel
theorem dL_law_112 : decode cL_law 112 = .ok (.iload 6, 2) := by decide +kernel
theorem dL_law_114 : decode cL_law 114 = .ok (.iload 7, 2) := by decide +kernel
theorem dL_law_116 : decode cL_law 116 = .ok (.invokestatic 117, 3) := by decide +kernel
theorem dL_law_119 : decode cL_law 119 = .ok (.ifCond .lt 7, 3) := by decide +kernel
theorem dL_law_122 : decode cL_law 122 = .ok (.iconst 1, 1) := by decide +kernel
theorem dL_law_123 : decode cL_law 123 = .ok (.goto 4, 3) := by decide +kernel
theorem dL_law_126 : decode cL_law 126 = .ok (.iconst 0, 1) := by decide +kernel
theorem dL_law_127 : decode cL_law 127 = .ok (.iload 8, 2) := by decide +kernel
theorem dL_law_129 : decode cL_law 129 = .ok (.if_icmp .ne 24, 3) := by decide +kernel
theorem dL_law_132 : decode cL_law 132 = .ok (.aload_n 1, 1) := by decide +kernel
theorem dL_law_133 : decode cL_law 133 = .ok (.iload 6, 2) := by decide +kernel
theorem dL_law_135 : decode cL_law 135 = .ok (.iload 7, 2) := by decide +kernel
theorem dL_law_137 : decode cL_law 137 = .ok (.invokestatic 62, 3) := by decide +kernel
theorem dL_law_140 : decode cL_law 140 = .ok (.iconst 1, 1) := by decide +kernel
theorem dL_law_141 : decode cL_law 141 = .ok (.if_icmp .eq 8, 3) := by decide +kernel
theorem dL_law_144 : decode cL_law 144 = .ok (.iload 8, 2) := by decide +kernel
theorem dL_law_146 : decode cL_law 146 = .ok (.ifCond .ne 7, 3) := by decide +kernel
theorem dL_law_149 : decode cL_law 149 = .ok (.iconst 1, 1) := by decide +kernel
theorem dL_law_150 : decode cL_law 150 = .ok (.goto 4, 3) := by decide +kernel
theorem dL_law_153 : decode cL_law 153 = .ok (.iconst 0, 1) := by decide +kernel
theorem dL_law_154 : decode cL_law 154 = .ok (.istore_n 2, 1) := by decide +kernel
theorem dL_law_155 : decode cL_law 155 = .ok (.goto 240, 3) := by decide +kernel
theorem dL_law_158 : decode cL_law 158 = .ok (.iload 4, 2) := by decide +kernel
theorem dL_law_160 : decode cL_law 160 = .ok (.bipush 8, 2) := by decide +kernel
theorem dL_law_162 : decode cL_law 162 = .ok (.irem, 1) := by decide +kernel
theorem dL_law_163 : decode cL_law 163 = .ok (.iconst 2, 1) := by decide +kernel
theorem dL_law_164 : decode cL_law 164 = .ok (.if_icmp .ne 46, 3) := by decide +kernel
theorem dL_law_167 : decode cL_law 167 = .ok (.aload_n 1, 1) := by decide +kernel
theorem dL_law_168 : decode cL_law 168 = .ok (.iload 6, 2) := by decide +kernel
theorem dL_law_170 : decode cL_law 170 = .ok (.iload 7, 2) := by decide +kernel
theorem dL_law_172 : decode cL_law 172 = .ok (.invokestatic 62, 3) := by decide +kernel
theorem dL_law_175 : decode cL_law 175 = .ok (.istore 8, 2) := by decide +kernel
theorem dL_law_177 : decode cL_law 177 = .ok (.aload_n 1, 1) := by decide +kernel
theorem dL_law_178 : decode cL_law 178 = .ok (.iload 6, 2) := by decide +kernel
theorem dL_law_180 : decode cL_law 180 = .ok (.iload 7, 2) := by decide +kernel
theorem dL_law_182 : decode cL_law 182 = .ok (.invokestatic 119, 3) := by decide +kernel
theorem dL_law_185 : decode cL_law 185 = .ok (.iload 8, 2) := by decide +kernel
theorem dL_law_187 : decode cL_law 187 = .ok (.if_icmp .ne 18, 3) := by decide +kernel
theorem dL_law_190 : decode cL_law 190 = .ok (.aload_n 1, 1) := by decide +kernel
theorem dL_law_191 : decode cL_law 191 = .ok (.iload 6, 2) := by decide +kernel
theorem dL_law_193 : decode cL_law 193 = .ok (.iload 7, 2) := by decide +kernel
theorem dL_law_195 : decode cL_law 195 = .ok (.invokestatic 62, 3) := by decide +kernel
theorem dL_law_198 : decode cL_law 198 = .ok (.ifCond .ne 7, 3) := by decide +kernel
theorem dL_law_201 : decode cL_law 201 = .ok (.iconst 1, 1) := by decide +kernel
theorem dL_law_202 : decode cL_law 202 = .ok (.goto 4, 3) := by decide +kernel
theorem dL_law_205 : decode cL_law 205 = .ok (.iconst 0, 1) := by decide +kernel
theorem dL_law_206 : decode cL_law 206 = .ok (.istore_n 2, 1) := by decide +kernel
theorem dL_law_207 : decode cL_law 207 = .ok (.goto 188, 3) := by decide +kernel
theorem dL_law_210 : decode cL_law 210 = .ok (.iload 4, 2) := by decide +kernel
theorem dL_law_212 : decode cL_law 212 = .ok (.bipush 8, 2) := by decide +kernel
theorem dL_law_214 : decode cL_law 214 = .ok (.irem, 1) := by decide +kernel
theorem dL_law_215 : decode cL_law 215 = .ok (.iconst 3, 1) := by decide +kernel
theorem dL_law_216 : decode cL_law 216 = .ok (.if_icmp .ne 42, 3) := by decide +kernel
theorem dL_law_219 : decode cL_law 219 = .ok (.aload_n 1, 1) := by decide +kernel
theorem dL_law_220 : decode cL_law 220 = .ok (.invokevirtual 121, 3) := by decide +kernel
theorem dL_law_223 : decode cL_law 223 = .ok (.istore 8, 2) := by decide +kernel
theorem dL_law_225 : decode cL_law 225 = .ok (.aload_n 1, 1) := by decide +kernel
theorem dL_law_226 : decode cL_law 226 = .ok (.iconst 1, 1) := by decide +kernel
theorem dL_law_227 : decode cL_law 227 = .ok (.iload 5, 2) := by decide +kernel
theorem dL_law_229 : decode cL_law 229 = .ok (.bipush 100, 2) := by decide +kernel
theorem dL_law_231 : decode cL_law 231 = .ok (.irem, 1) := by decide +kernel
theorem dL_law_232 : decode cL_law 232 = .ok (.iadd, 1) := by decide +kernel
theorem dL_law_233 : decode cL_law 233 = .ok (.invokestatic 124, 3) := by decide +kernel
theorem dL_law_236 : decode cL_law 236 = .ok (.iload 8, 2) := by decide +kernel
theorem dL_law_238 : decode cL_law 238 = .ok (.iconst 1, 1) := by decide +kernel
theorem dL_law_239 : decode cL_law 239 = .ok (.iadd, 1) := by decide +kernel
theorem dL_law_240 : decode cL_law 240 = .ok (.iload 5, 2) := by decide +kernel
theorem dL_law_242 : decode cL_law 242 = .ok (.bipush 100, 2) := by decide +kernel
theorem dL_law_244 : decode cL_law 244 = .ok (.irem, 1) := by decide +kernel
theorem dL_law_245 : decode cL_law 245 = .ok (.iadd, 1) := by decide +kernel
theorem dL_law_246 : decode cL_law 246 = .ok (.if_icmp .ne 7, 3) := by decide +kernel
theorem dL_law_249 : decode cL_law 249 = .ok (.iconst 1, 1) := by decide +kernel
theorem dL_law_250 : decode cL_law 250 = .ok (.goto 4, 3) := by decide +kernel
theorem dL_law_253 : decode cL_law 253 = .ok (.iconst 0, 1) := by decide +kernel
theorem dL_law_254 : decode cL_law 254 = .ok (.istore_n 2, 1) := by decide +kernel
theorem dL_law_255 : decode cL_law 255 = .ok (.goto 140, 3) := by decide +kernel
theorem dL_law_258 : decode cL_law 258 = .ok (.aload_n 1, 1) := by decide +kernel
theorem dL_law_259 : decode cL_law 259 = .ok (.iload 6, 2) := by decide +kernel
theorem dL_law_261 : decode cL_law 261 = .ok (.invokestatic 80, 3) := by decide +kernel
theorem dL_law_264 : decode cL_law 264 = .ok (.ifCond .le 7, 3) := by decide +kernel
theorem dL_law_267 : decode cL_law 267 = .ok (.iconst 1, 1) := by decide +kernel
theorem dL_law_268 : decode cL_law 268 = .ok (.goto 4, 3) := by decide +kernel
theorem dL_law_271 : decode cL_law 271 = .ok (.iconst 0, 1) := by decide +kernel
theorem dL_law_272 : decode cL_law 272 = .ok (.istore 8, 2) := by decide +kernel
theorem dL_law_274 : decode cL_law 274 = .ok (.aload_n 1, 1) := by decide +kernel
theorem dL_law_275 : decode cL_law 275 = .ok (.invokevirtual 126, 3) := by decide +kernel
theorem dL_law_278 : decode cL_law 278 = .ok (.istore 9, 2) := by decide +kernel
theorem dL_law_280 : decode cL_law 280 = .ok (.iload 8, 2) := by decide +kernel
theorem dL_law_282 : decode cL_law 282 = .ok (.ifCond .eq 48, 3) := by decide +kernel
theorem dL_law_285 : decode cL_law 285 = .ok (.aload_n 1, 1) := by decide +kernel
theorem dL_law_286 : decode cL_law 286 = .ok (.iload 6, 2) := by decide +kernel
theorem dL_law_288 : decode cL_law 288 = .ok (.invokestatic 129, 3) := by decide +kernel
theorem dL_law_291 : decode cL_law 291 = .ok (.ifCond .lt 35, 3) := by decide +kernel
theorem dL_law_294 : decode cL_law 294 = .ok (.aload_n 1, 1) := by decide +kernel
theorem dL_law_295 : decode cL_law 295 = .ok (.iload 6, 2) := by decide +kernel
theorem dL_law_297 : decode cL_law 297 = .ok (.invokestatic 80, 3) := by decide +kernel
theorem dL_law_300 : decode cL_law 300 = .ok (.iconst (-1), 1) := by decide +kernel
theorem dL_law_301 : decode cL_law 301 = .ok (.if_icmp .ne 25, 3) := by decide +kernel
theorem dL_law_304 : decode cL_law 304 = .ok (.aload_n 1, 1) := by decide +kernel
theorem dL_law_305 : decode cL_law 305 = .ok (.iload 6, 2) := by decide +kernel
theorem dL_law_307 : decode cL_law 307 = .ok (.invokestatic 131, 3) := by decide +kernel
theorem dL_law_310 : decode cL_law 310 = .ok (.ifCond .le 16, 3) := by decide +kernel
theorem dL_law_313 : decode cL_law 313 = .ok (.aload_n 1, 1) := by decide +kernel
theorem dL_law_314 : decode cL_law 314 = .ok (.iload 6, 2) := by decide +kernel
theorem dL_law_316 : decode cL_law 316 = .ok (.invokestatic 129, 3) := by decide +kernel
theorem dL_law_319 : decode cL_law 319 = .ok (.ifCond .lt 7, 3) := by decide +kernel
theorem dL_law_322 : decode cL_law 322 = .ok (.iconst 1, 1) := by decide +kernel
theorem dL_law_323 : decode cL_law 323 = .ok (.goto 41, 3) := by decide +kernel
theorem dL_law_326 : decode cL_law 326 = .ok (.iconst 0, 1) := by decide +kernel
theorem dL_law_327 : decode cL_law 327 = .ok (.goto 37, 3) := by decide +kernel
theorem dL_law_330 : decode cL_law 330 = .ok (.aload_n 1, 1) := by decide +kernel
theorem dL_law_331 : decode cL_law 331 = .ok (.iload 6, 2) := by decide +kernel
theorem dL_law_333 : decode cL_law 333 = .ok (.invokestatic 131, 3) := by decide +kernel
theorem dL_law_336 : decode cL_law 336 = .ok (.ifCond .le 27, 3) := by decide +kernel
theorem dL_law_339 : decode cL_law 339 = .ok (.aload_n 1, 1) := by decide +kernel
theorem dL_law_340 : decode cL_law 340 = .ok (.iload 6, 2) := by decide +kernel
theorem dL_law_342 : decode cL_law 342 = .ok (.invokestatic 80, 3) := by decide +kernel
theorem dL_law_345 : decode cL_law 345 = .ok (.ifCond .le 18, 3) := by decide +kernel
theorem dL_law_348 : decode cL_law 348 = .ok (.aload_n 1, 1) := by decide +kernel
theorem dL_law_349 : decode cL_law 349 = .ok (.iload 6, 2) := by decide +kernel
theorem dL_law_351 : decode cL_law 351 = .ok (.invokestatic 131, 3) := by decide +kernel
theorem dL_law_354 : decode cL_law 354 = .ok (.bipush (-103), 2) := by decide +kernel
theorem dL_law_356 : decode cL_law 356 = .ok (.if_icmp .ne 7, 3) := by decide +kernel
theorem dL_law_359 : decode cL_law 359 = .ok (.iconst 1, 1) := by decide +kernel
theorem dL_law_360 : decode cL_law 360 = .ok (.goto 4, 3) := by decide +kernel
theorem dL_law_363 : decode cL_law 363 = .ok (.iconst 0, 1) := by decide +kernel
theorem dL_law_364 : decode cL_law 364 = .ok (.istore_n 2, 1) := by decide +kernel
theorem dL_law_365 : decode cL_law 365 = .ok (.iload_n 2, 1) := by decide +kernel
theorem dL_law_366 : decode cL_law 366 = .ok (.ifCond .eq 27, 3) := by decide +kernel
theorem dL_law_369 : decode cL_law 369 = .ok (.aload_n 1, 1) := by decide +kernel
theorem dL_law_370 : decode cL_law 370 = .ok (.invokevirtual 126, 3) := by decide +kernel
theorem dL_law_373 : decode cL_law 373 = .ok (.iload 9, 2) := by decide +kernel
theorem dL_law_375 : decode cL_law 375 = .ok (.iload 8, 2) := by decide +kernel
theorem dL_law_377 : decode cL_law 377 = .ok (.ifCond .eq 7, 3) := by decide +kernel
theorem dL_law_380 : decode cL_law 380 = .ok (.iconst 3, 1) := by decide +kernel
theorem dL_law_381 : decode cL_law 381 = .ok (.goto 4, 3) := by decide +kernel
theorem dL_law_384 : decode cL_law 384 = .ok (.iconst 1, 1) := by decide +kernel
theorem dL_law_385 : decode cL_law 385 = .ok (.iadd, 1) := by decide +kernel
theorem dL_law_386 : decode cL_law 386 = .ok (.if_icmp .ne 7, 3) := by decide +kernel
theorem dL_law_389 : decode cL_law 389 = .ok (.iconst 1, 1) := by decide +kernel
theorem dL_law_390 : decode cL_law 390 = .ok (.goto 4, 3) := by decide +kernel
theorem dL_law_393 : decode cL_law 393 = .ok (.iconst 0, 1) := by decide +kernel
theorem dL_law_394 : decode cL_law 394 = .ok (.istore_n 2, 1) := by decide +kernel
theorem dL_law_395 : decode cL_law 395 = .ok (.iload_n 2, 1) := by decide +kernel
theorem dL_law_396 : decode cL_law 396 = .ok (.ifCond .eq 33, 3) := by decide +kernel
theorem dL_law_399 : decode cL_law 399 = .ok (.iload_n 3, 1) := by decide +kernel
theorem dL_law_400 : decode cL_law 400 = .ok (.iconst 5, 1) := by decide +kernel
theorem dL_law_401 : decode cL_law 401 = .ok (.irem, 1) := by decide +kernel
theorem dL_law_402 : decode cL_law 402 = .ok (.ifCond .gt 10, 3) := by decide +kernel
theorem dL_law_405 : decode cL_law 405 = .ok (.aload_n 1, 1) := by decide +kernel
theorem dL_law_406 : decode cL_law 406 = .ok (.invokestatic 108, 3) := by decide +kernel
theorem dL_law_409 : decode cL_law 409 = .ok (.ifCond .eq 20, 3) := by decide +kernel
theorem dL_law_412 : decode cL_law 412 = .ok (.iload_n 3, 1) := by decide +kernel
theorem dL_law_413 : decode cL_law 413 = .ok (.iconst 3, 1) := by decide +kernel
theorem dL_law_414 : decode cL_law 414 = .ok (.irem, 1) := by decide +kernel
theorem dL_law_415 : decode cL_law 415 = .ok (.ifCond .gt 10, 3) := by decide +kernel
theorem dL_law_418 : decode cL_law 418 = .ok (.aload_n 1, 1) := by decide +kernel
theorem dL_law_419 : decode cL_law 419 = .ok (.invokestatic 112, 3) := by decide +kernel
theorem dL_law_422 : decode cL_law 422 = .ok (.ifCond .eq 7, 3) := by decide +kernel
theorem dL_law_425 : decode cL_law 425 = .ok (.iconst 1, 1) := by decide +kernel
theorem dL_law_426 : decode cL_law 426 = .ok (.goto 4, 3) := by decide +kernel
theorem dL_law_429 : decode cL_law 429 = .ok (.iconst 0, 1) := by decide +kernel
theorem dL_law_430 : decode cL_law 430 = .ok (.istore_n 2, 1) := by decide +kernel
theorem dL_law_431 : decode cL_law 431 = .ok (.iinc 3 1, 3) := by decide +kernel
theorem dL_law_434 : decode cL_law 434 = .ok (.goto (-404), 3) := by decide +kernel
theorem dL_law_437 : decode cL_law 437 = .ok (.iload_n 2, 1) := by decide +kernel
theorem dL_law_438 : decode cL_law 438 = .ok (.ifCond .eq 21, 3) := by decide +kernel
theorem dL_law_441 : decode cL_law 441 = .ok (.aload_n 1, 1) := by decide +kernel
theorem dL_law_442 : decode cL_law 442 = .ok (.invokestatic 108, 3) := by decide +kernel
theorem dL_law_445 : decode cL_law 445 = .ok (.ifCond .eq 14, 3) := by decide +kernel
theorem dL_law_448 : decode cL_law 448 = .ok (.aload_n 1, 1) := by decide +kernel
theorem dL_law_449 : decode cL_law 449 = .ok (.invokestatic 112, 3) := by decide +kernel
theorem dL_law_452 : decode cL_law 452 = .ok (.ifCond .eq 7, 3) := by decide +kernel
theorem dL_law_455 : decode cL_law 455 = .ok (.iconst 1, 1) := by decide +kernel
theorem dL_law_456 : decode cL_law 456 = .ok (.goto 4, 3) := by decide +kernel
theorem dL_law_459 : decode cL_law 459 = .ok (.iconst 0, 1) := by decide +kernel
theorem dL_law_460 : decode cL_law 460 = .ok (.ireturn, 1) := by decide +kernel
