theorem dL_does_34 : decode cL_does 34 = .ok (.tableswitch 707 0 11 #[62, 62, 62, 62, 233, 279, 374, 374, 374, 374, 405, 628], 62) := by decide +kernel
theorem dL_does_96 : decode cL_does 96 = .ok (.iconst 1, 1) := by decide +kernel
theorem dL_does_97 : decode cL_does 97 = .ok (.iload_n 1, 1) := by decide +kernel
theorem dL_does_98 : decode cL_does 98 = .ok (.iconst 4, 1) := by decide +kernel
theorem dL_does_99 : decode cL_does 99 = .ok (.ishr, 1) := by decide +kernel
theorem dL_does_100 : decode cL_does 100 = .ok (.bipush 9, 2) := by decide +kernel
theorem dL_does_102 : decode cL_does 102 = .ok (.invokestatic 45, 3) := by decide +kernel
theorem dL_does_105 : decode cL_does 105 = .ok (.iadd, 1) := by decide +kernel
theorem dL_does_106 : decode cL_does 106 = .ok (.istore 5, 2) := by decide +kernel
theorem dL_does_108 : decode cL_does 108 = .ok (.aload_n 0, 1) := by decide +kernel
theorem dL_does_109 : decode cL_does 109 = .ok (.bipush 16, 2) := by decide +kernel
theorem dL_does_111 : decode cL_does 111 = .ok (.invokevirtual 8, 3) := by decide +kernel
theorem dL_does_114 : decode cL_does 114 = .ok (.istore 6, 2) := by decide +kernel
theorem dL_does_116 : decode cL_does 116 = .ok (.aload_n 0, 1) := by decide +kernel
theorem dL_does_117 : decode cL_does 117 = .ok (.iconst 0, 1) := by decide +kernel
theorem dL_does_118 : decode cL_does 118 = .ok (.iconst 1, 1) := by decide +kernel
theorem dL_does_119 : decode cL_does 119 = .ok (.invokevirtual 22, 3) := by decide +kernel
theorem dL_does_122 : decode cL_does 122 = .ok (.iload 5, 2) := by decide +kernel
theorem dL_does_124 : decode cL_does 124 = .ok (.iadd, 1) := by decide +kernel
theorem dL_does_125 : decode cL_does 125 = .ok (.aload_n 0, 1) := by decide +kernel
theorem dL_does_126 : decode cL_does 126 = .ok (.iconst 0, 1) := by decide +kernel
theorem dL_does_127 : decode cL_does 127 = .ok (.iconst 0, 1) := by decide +kernel
theorem dL_does_128 : decode cL_does 128 = .ok (.invokevirtual 22, 3) := by decide +kernel
theorem dL_does_131 : decode cL_does 131 = .ok (.if_icmp .gt 7, 3) := by decide +kernel
theorem dL_does_134 : decode cL_does 134 = .ok (.iconst 0, 1) := by decide +kernel
theorem dL_does_135 : decode cL_does 135 = .ok (.goto 48, 3) := by decide +kernel
theorem dL_does_138 : decode cL_does 138 = .ok (.aload_n 0, 1) := by decide +kernel
theorem dL_does_139 : decode cL_does 139 = .ok (.iconst 1, 1) := by decide +kernel
theorem dL_does_140 : decode cL_does 140 = .ok (.iconst 1, 1) := by decide +kernel
theorem dL_does_141 : decode cL_does 141 = .ok (.invokevirtual 22, 3) := by decide +kernel
theorem dL_does_144 : decode cL_does 144 = .ok (.iload 5, 2) := by decide +kernel
theorem dL_does_146 : decode cL_does 146 = .ok (.iadd, 1) := by decide +kernel
theorem dL_does_147 : decode cL_does 147 = .ok (.aload_n 0, 1) := by decide +kernel
theorem dL_does_148 : decode cL_does 148 = .ok (.iconst 1, 1) := by decide +kernel
theorem dL_does_149 : decode cL_does 149 = .ok (.iconst 0, 1) := by decide +kernel
theorem dL_does_150 : decode cL_does 150 = .ok (.invokevirtual 22, 3) := by decide +kernel
theorem dL_does_153 : decode cL_does 153 = .ok (.if_icmp .gt 7, 3) := by decide +kernel
theorem dL_does_156 : decode cL_does 156 = .ok (.iconst 1, 1) := by decide +kernel
theorem dL_does_157 : decode cL_does 157 = .ok (.goto 26, 3) := by decide +kernel
theorem dL_does_160 : decode cL_does 160 = .ok (.aload_n 0, 1) := by decide +kernel
theorem dL_does_161 : decode cL_does 161 = .ok (.iconst 2, 1) := by decide +kernel
theorem dL_does_162 : decode cL_does 162 = .ok (.iconst 1, 1) := by decide +kernel
theorem dL_does_163 : decode cL_does 163 = .ok (.invokevirtual 22, 3) := by decide +kernel
theorem dL_does_166 : decode cL_does 166 = .ok (.iload 5, 2) := by decide +kernel
theorem dL_does_168 : decode cL_does 168 = .ok (.iadd, 1) := by decide +kernel
theorem dL_does_169 : decode cL_does 169 = .ok (.aload_n 0, 1) := by decide +kernel
theorem dL_does_170 : decode cL_does 170 = .ok (.iconst 2, 1) := by decide +kernel
theorem dL_does_171 : decode cL_does 171 = .ok (.iconst 0, 1) := by decide +kernel
theorem dL_does_172 : decode cL_does 172 = .ok (.invokevirtual 22, 3) := by decide +kernel
theorem dL_does_175 : decode cL_does 175 = .ok (.if_icmp .gt 7, 3) := by decide +kernel
theorem dL_does_178 : decode cL_does 178 = .ok (.iconst 2, 1) := by decide +kernel
theorem dL_does_179 : decode cL_does 179 = .ok (.goto 4, 3) := by decide +kernel
theorem dL_does_182 : decode cL_does 182 = .ok (.iconst (-1), 1) := by decide +kernel
theorem dL_does_183 : decode cL_does 183 = .ok (.istore 7, 2) := by decide +kernel
theorem dL_does_185 : decode cL_does 185 = .ok (.aload_n 0, 1) := by decide +kernel
theorem dL_does_186 : decode cL_does 186 = .ok (.iload 5, 2) := by decide +kernel
theorem dL_does_188 : decode cL_does 188 = .ok (.invokevirtual 50, 3) := by decide +kernel
theorem dL_does_191 : decode cL_does 191 = .ok (.istore 8, 2) := by decide +kernel
theorem dL_does_193 : decode cL_does 193 = .ok (.iload_n 3, 1) := by decide +kernel
theorem dL_does_194 : decode cL_does 194 = .ok (.bipush 24, 2) := by decide +kernel
theorem dL_does_196 : decode cL_does 196 = .ok (.if_icmp .eq 8, 3) := by decide +kernel
theorem dL_does_199 : decode cL_does 199 = .ok (.iload 7, 2) := by decide +kernel
theorem dL_does_201 : decode cL_does 201 = .ok (.ifCond .ge 18, 3) := by decide +kernel
theorem dL_does_204 : decode cL_does 204 = .ok (.iload 8, 2) := by decide +kernel
theorem dL_does_206 : decode cL_does 206 = .ok (.bipush (-3), 2) := by decide +kernel
theorem dL_does_208 : decode cL_does 208 = .ok (.if_icmp .ne 7, 3) := by decide +kernel
theorem dL_does_211 : decode cL_does 211 = .ok (.iconst 1, 1) := by decide +kernel
theorem dL_does_212 : decode cL_does 212 = .ok (.goto 54, 3) := by decide +kernel
theorem dL_does_215 : decode cL_does 215 = .ok (.iconst 0, 1) := by decide +kernel
theorem dL_does_216 : decode cL_does 216 = .ok (.goto 50, 3) := by decide +kernel
theorem dL_does_219 : decode cL_does 219 = .ok (.iload 8, 2) := by decide +kernel
theorem dL_does_221 : decode cL_does 221 = .ok (.iload 6, 2) := by decide +kernel
theorem dL_does_223 : decode cL_does 223 = .ok (.if_icmp .ne 42, 3) := by decide +kernel
theorem dL_does_226 : decode cL_does 226 = .ok (.aload_n 0, 1) := by decide +kernel
theorem dL_does_227 : decode cL_does 227 = .ok (.iload 8, 2) := by decide +kernel
theorem dL_does_229 : decode cL_does 229 = .ok (.iconst 1, 1) := by decide +kernel
theorem dL_does_230 : decode cL_does 230 = .ok (.invokevirtual 18, 3) := by decide +kernel
theorem dL_does_233 : decode cL_does 233 = .ok (.sipush 1000, 3) := by decide +kernel
theorem dL_does_236 : decode cL_does 236 = .ok (.if_icmp .ne 29, 3) := by decide +kernel
theorem dL_does_239 : decode cL_does 239 = .ok (.aload_n 0, 1) := by decide +kernel
theorem dL_does_240 : decode cL_does 240 = .ok (.iload 8, 2) := by decide +kernel
theorem dL_does_242 : decode cL_does 242 = .ok (.iconst 2, 1) := by decide +kernel
theorem dL_does_243 : decode cL_does 243 = .ok (.invokevirtual 18, 3) := by decide +kernel
theorem dL_does_246 : decode cL_does 246 = .ok (.iload 7, 2) := by decide +kernel
theorem dL_does_248 : decode cL_does 248 = .ok (.if_icmp .ne 17, 3) := by decide +kernel
theorem dL_does_251 : decode cL_does 251 = .ok (.aload_n 0, 1) := by decide +kernel
theorem dL_does_252 : decode cL_does 252 = .ok (.iload 8, 2) := by decide +kernel
theorem dL_does_254 : decode cL_does 254 = .ok (.iconst 5, 1) := by decide +kernel
theorem dL_does_255 : decode cL_does 255 = .ok (.invokevirtual 18, 3) := by decide +kernel
theorem dL_does_258 : decode cL_does 258 = .ok (.ifCond .ne 7, 3) := by decide +kernel
theorem dL_does_261 : decode cL_does 261 = .ok (.iconst 1, 1) := by decide +kernel
theorem dL_does_262 : decode cL_does 262 = .ok (.goto 4, 3) := by decide +kernel
theorem dL_does_265 : decode cL_does 265 = .ok (.iconst 0, 1) := by decide +kernel
theorem dL_does_266 : decode cL_does 266 = .ok (.ireturn, 1) := by decide +kernel
theorem dL_does_267 : decode cL_does 267 = .ok (.aload_n 0, 1) := by decide +kernel
theorem dL_does_268 : decode cL_does 268 = .ok (.iload 4, 2) := by decide +kernel
theorem dL_does_270 : decode cL_does 270 = .ok (.iconst 2, 1) := by decide +kernel
theorem dL_does_271 : decode cL_does 271 = .ok (.invokevirtual 18, 3) := by decide +kernel
theorem dL_does_274 : decode cL_does 274 = .ok (.istore 9, 2) := by decide +kernel
theorem dL_does_276 : decode cL_does 276 = .ok (.iload_n 1, 1) := by decide +kernel
theorem dL_does_277 : decode cL_does 277 = .ok (.bipush 9, 2) := by decide +kernel
theorem dL_does_279 : decode cL_does 279 = .ok (.ishr, 1) := by decide +kernel
theorem dL_does_280 : decode cL_does 280 = .ok (.iconst 1, 1) := by decide +kernel
theorem dL_does_281 : decode cL_does 281 = .ok (.iand, 1) := by decide +kernel
theorem dL_does_282 : decode cL_does 282 = .ok (.ifCond .eq 25, 3) := by decide +kernel
theorem dL_does_285 : decode cL_does 285 = .ok (.aload_n 0, 1) := by decide +kernel
theorem dL_does_286 : decode cL_does 286 = .ok (.iload 4, 2) := by decide +kernel
theorem dL_does_288 : decode cL_does 288 = .ok (.invokevirtual 53, 3) := by decide +kernel
theorem dL_does_291 : decode cL_does 291 = .ok (.iload 9, 2) := by decide +kernel
theorem dL_does_293 : decode cL_does 293 = .ok (.if_icmp .ne 18, 3) := by decide +kernel
theorem dL_does_296 : decode cL_does 296 = .ok (.aload_n 0, 1) := by decide +kernel
theorem dL_does_297 : decode cL_does 297 = .ok (.iload 4, 2) := by decide +kernel
theorem dL_does_299 : decode cL_does 299 = .ok (.iconst 0, 1) := by decide +kernel
theorem dL_does_300 : decode cL_does 300 = .ok (.invokevirtual 18, 3) := by decide +kernel
theorem dL_does_303 : decode cL_does 303 = .ok (.iconst (-1), 1) := by decide +kernel
theorem dL_does_304 : decode cL_does 304 = .ok (.if_icmp .ne 7, 3) := by decide +kernel
theorem dL_does_307 : decode cL_does 307 = .ok (.iconst 1, 1) := by decide +kernel
theorem dL_does_308 : decode cL_does 308 = .ok (.goto 4, 3) := by decide +kernel
theorem dL_does_311 : decode cL_does 311 = .ok (.iconst 0, 1) := by decide +kernel
theorem dL_does_312 : decode cL_does 312 = .ok (.ireturn, 1) := by decide +kernel
theorem dL_does_313 : decode cL_does 313 = .ok (.iload_n 1, 1) := by decide +kernel
theorem dL_does_314 : decode cL_does 314 = .ok (.bipush 9, 2) := by decide +kernel
theorem dL_does_316 : decode cL_does 316 = .ok (.ishr, 1) := by decide +kernel
theorem dL_does_317 : decode cL_does 317 = .ok (.iconst 1, 1) := by decide +kernel
theorem dL_does_318 : decode cL_does 318 = .ok (.iand, 1) := by decide +kernel
theorem dL_does_319 : decode cL_does 319 = .ok (.iconst 1, 1) := by decide +kernel
theorem dL_does_320 : decode cL_does 320 = .ok (.if_icmp .ne 7, 3) := by decide +kernel
theorem dL_does_323 : decode cL_does 323 = .ok (.iconst 1, 1) := by decide +kernel
theorem dL_does_324 : decode cL_does 324 = .ok (.goto 4, 3) := by decide +kernel
theorem dL_does_327 : decode cL_does 327 = .ok (.iconst 0, 1) := by decide +kernel
theorem dL_does_328 : decode cL_does 328 = .ok (.istore 10, 2) := by decide +kernel
theorem dL_does_330 : decode cL_does 330 = .ok (.aload_n 0, 1) := by decide +kernel
theorem dL_does_331 : decode cL_does 331 = .ok (.iload 4, 2) := by decide +kernel
theorem dL_does_333 : decode cL_does 333 = .ok (.iconst 4, 1) := by decide +kernel
theorem dL_does_334 : decode cL_does 334 = .ok (.invokevirtual 18, 3) := by decide +kernel
theorem dL_does_337 : decode cL_does 337 = .ok (.istore 11, 2) := by decide +kernel
theorem dL_does_339 : decode cL_does 339 = .ok (.aload_n 0, 1) := by decide +kernel
theorem dL_does_340 : decode cL_does 340 = .ok (.bipush 23, 2) := by decide +kernel
theorem dL_does_342 : decode cL_does 342 = .ok (.invokevirtual 8, 3) := by decide +kernel
theorem dL_does_345 : decode cL_does 345 = .ok (.istore 12, 2) := by decide +kernel
theorem dL_does_347 : decode cL_does 347 = .ok (.aload_n 0, 1) := by decide +kernel
theorem dL_does_348 : decode cL_does 348 = .ok (.iload 4, 2) := by decide +kernel
theorem dL_does_350 : decode cL_does 350 = .ok (.iload 10, 2) := by decide +kernel
theorem dL_does_352 : decode cL_does 352 = .ok (.invokevirtual 56, 3) := by decide +kernel
theorem dL_does_355 : decode cL_does 355 = .ok (.iload_n 3, 1) := by decide +kernel
theorem dL_does_356 : decode cL_does 356 = .ok (.ifCond .ne 7, 3) := by decide +kernel
theorem dL_does_359 : decode cL_does 359 = .ok (.iconst (-1), 1) := by decide +kernel
theorem dL_does_360 : decode cL_does 360 = .ok (.goto 39, 3) := by decide +kernel
theorem dL_does_363 : decode cL_does 363 = .ok (.iload 11, 2) := by decide +kernel
theorem dL_does_365 : decode cL_does 365 = .ok (.iload 10, 2) := by decide +kernel
theorem dL_does_367 : decode cL_does 367 = .ok (.ifCond .eq 7, 3) := by decide +kernel
theorem dL_does_370 : decode cL_does 370 = .ok (.iconst 1, 1) := by decide +kernel
theorem dL_does_371 : decode cL_does 371 = .ok (.goto 4, 3) := by decide +kernel
theorem dL_does_374 : decode cL_does 374 = .ok (.iconst 0, 1) := by decide +kernel
theorem dL_does_375 : decode cL_does 375 = .ok (.if_icmp .ne 8, 3) := by decide +kernel
theorem dL_does_378 : decode cL_does 378 = .ok (.bipush (-5), 2) := by decide +kernel
theorem dL_does_380 : decode cL_does 380 = .ok (.goto 19, 3) := by decide +kernel
theorem dL_does_383 : decode cL_does 383 = .ok (.iload 10, 2) := by decide +kernel
theorem dL_does_385 : decode cL_does 385 = .ok (.ifCond .eq 10, 3) := by decide +kernel
theorem dL_does_388 : decode cL_does 388 = .ok (.iload 12, 2) := by decide +kernel
theorem dL_does_390 : decode cL_does 390 = .ok (.iconst 1, 1) := by decide +kernel
theorem dL_does_391 : decode cL_does 391 = .ok (.iadd, 1) := by decide +kernel
theorem dL_does_392 : decode cL_does 392 = .ok (.goto 7, 3) := by decide +kernel
theorem dL_does_395 : decode cL_does 395 = .ok (.iload 12, 2) := by decide +kernel
theorem dL_does_397 : decode cL_does 397 = .ok (.iconst 1, 1) := by decide +kernel
theorem dL_does_398 : decode cL_does 398 = .ok (.isub, 1) := by decide +kernel
theorem dL_does_399 : decode cL_does 399 = .ok (.if_icmp .ne 7, 3) := by decide +kernel
theorem dL_does_402 : decode cL_does 402 = .ok (.iconst 1, 1) := by decide +kernel
theorem dL_does_403 : decode cL_does 403 = .ok (.goto 4, 3) := by decide +kernel
theorem dL_does_406 : decode cL_does 406 = .ok (.iconst 0, 1) := by decide +kernel
theorem dL_does_407 : decode cL_does 407 = .ok (.ireturn, 1) := by decide +kernel
theorem dL_does_408 : decode cL_does 408 = .ok (.aload_n 0, 1) := by decide +kernel
theorem dL_does_409 : decode cL_does 409 = .ok (.iload 4, 2) := by decide +kernel
theorem dL_does_411 : decode cL_does 411 = .ok (.iconst 1, 1) := by decide +kernel
theorem dL_does_412 : decode cL_does 412 = .ok (.iload_n 1, 1) := by decide +kernel
theorem dL_does_413 : decode cL_does 413 = .ok (.bipush 9, 2) := by decide +kernel
theorem dL_does_415 : decode cL_does 415 = .ok (.ishr, 1) := by decide +kernel
theorem dL_does_416 : decode cL_does 416 = .ok (.iload_n 1, 1) := by decide +kernel
theorem dL_does_417 : decode cL_does 417 = .ok (.bipush 16, 2) := by decide +kernel
theorem dL_does_419 : decode cL_does 419 = .ok (.ishr, 1) := by decide +kernel
theorem dL_does_420 : decode cL_does 420 = .ok (.iconst 3, 1) := by decide +kernel
theorem dL_does_421 : decode cL_does 421 = .ok (.iand, 1) := by decide +kernel
theorem dL_does_422 : decode cL_does 422 = .ok (.ifCond .ne 8, 3) := by decide +kernel
theorem dL_does_425 : decode cL_does 425 = .ok (.bipush 12, 2) := by decide +kernel
theorem dL_does_427 : decode cL_does 427 = .ok (.goto 4, 3) := by decide +kernel
theorem dL_does_430 : decode cL_does 430 = .ok (.iconst 3, 1) := by decide +kernel
theorem dL_does_431 : decode cL_does 431 = .ok (.invokestatic 45, 3) := by decide +kernel
theorem dL_does_434 : decode cL_does 434 = .ok (.iadd, 1) := by decide +kernel
theorem dL_does_435 : decode cL_does 435 = .ok (.invokestatic 60, 3) := by decide +kernel
theorem dL_does_438 : decode cL_does 438 = .ok (.ireturn, 1) := by decide +kernel
theorem dL_does_439 : decode cL_does 439 = .ok (.iload_n 1, 1) := by decide +kernel
theorem dL_does_440 : decode cL_does 440 = .ok (.iconst 4, 1) := by decide +kernel
theorem dL_does_441 : decode cL_does 441 = .ok (.ishr, 1) := by decide +kernel
theorem dL_does_442 : decode cL_does 442 = .ok (.bipush 15, 2) := by decide +kernel
theorem dL_does_444 : decode cL_does 444 = .ok (.invokestatic 45, 3) := by decide +kernel
theorem dL_does_447 : decode cL_does 447 = .ok (.istore 13, 2) := by decide +kernel
theorem dL_does_449 : decode cL_does 449 = .ok (.iload 13, 2) := by decide +kernel
theorem dL_does_451 : decode cL_does 451 = .ok (.ifCond .ne 12, 3) := by decide +kernel
theorem dL_does_454 : decode cL_does 454 = .ok (.iload_n 2, 1) := by decide +kernel
theorem dL_does_455 : decode cL_does 455 = .ok (.bipush 101, 2) := by decide +kernel
theorem dL_does_457 : decode cL_does 457 = .ok (.invokestatic 45, 3) := by decide +kernel
theorem dL_does_460 : decode cL_does 460 = .ok (.goto 95, 3) := by decide +kernel
theorem dL_does_463 : decode cL_does 463 = .ok (.iload 13, 2) := by decide +kernel
theorem dL_does_465 : decode cL_does 465 = .ok (.iconst 1, 1) := by decide +kernel
theorem dL_does_466 : decode cL_does 466 = .ok (.if_icmp .ne 17, 3) := by decide +kernel
theorem dL_does_469 : decode cL_does 469 = .ok (.sipush 1000, 3) := by decide +kernel
theorem dL_does_472 : decode cL_does 472 = .ok (.iload_n 2, 1) := by decide +kernel
theorem dL_does_473 : decode cL_does 473 = .ok (.sipush 4000, 3) := by decide +kernel
theorem dL_does_476 : decode cL_does 476 = .ok (.invokestatic 45, 3) := by decide +kernel
theorem dL_does_479 : decode cL_does 479 = .ok (.iadd, 1) := by decide +kernel
theorem dL_does_480 : decode cL_does 480 = .ok (.goto 75, 3) := by decide +kernel
theorem dL_does_483 : decode cL_does 483 = .ok (.iload 13, 2) := by decide +kernel
theorem dL_does_485 : decode cL_does 485 = .ok (.iconst 2, 1) := by decide +kernel
theorem dL_does_486 : decode cL_does 486 = .ok (.if_icmp .ne 13, 3) := by decide +kernel
theorem dL_does_489 : decode cL_does 489 = .ok (.iload_n 2, 1) := by decide +kernel
theorem dL_does_490 : decode cL_does 490 = .ok (.sipush 1500, 3) := by decide +kernel
theorem dL_does_493 : decode cL_does 493 = .ok (.invokestatic 45, 3) := by decide +kernel
theorem dL_does_496 : decode cL_does 496 = .ok (.goto 59, 3) := by decide +kernel
theorem dL_does_499 : decode cL_does 499 = .ok (.iload 13, 2) := by decide +kernel
theorem dL_does_501 : decode cL_does 501 = .ok (.iconst 3, 1) := by decide +kernel
theorem dL_does_502 : decode cL_does 502 = .ok (.if_icmp .ne 12, 3) := by decide +kernel
theorem dL_does_505 : decode cL_does 505 = .ok (.iload_n 2, 1) := by decide +kernel
theorem dL_does_506 : decode cL_does 506 = .ok (.bipush 9, 2) := by decide +kernel
theorem dL_does_508 : decode cL_does 508 = .ok (.invokestatic 45, 3) := by decide +kernel
theorem dL_does_511 : decode cL_does 511 = .ok (.goto 44, 3) := by decide +kernel
theorem dL_does_514 : decode cL_does 514 = .ok (.iload 13, 2) := by decide +kernel
theorem dL_does_516 : decode cL_does 516 = .ok (.bipush 6, 2) := by decide +kernel
theorem dL_does_518 : decode cL_does 518 = .ok (.if_icmp .ge 12, 3) := by decide +kernel
theorem dL_does_521 : decode cL_does 521 = .ok (.iload_n 2, 1) := by decide +kernel
theorem dL_does_522 : decode cL_does 522 = .ok (.bipush 9, 2) := by decide +kernel
theorem dL_does_524 : decode cL_does 524 = .ok (.invokestatic 45, 3) := by decide +kernel
theorem dL_does_527 : decode cL_does 527 = .ok (.goto 28, 3) := by decide +kernel
theorem dL_does_530 : decode cL_does 530 = .ok (.iload 13, 2) := by decide +kernel
theorem dL_does_532 : decode cL_does 532 = .ok (.bipush 9, 2) := by decide +kernel
theorem dL_does_534 : decode cL_does 534 = .ok (.if_icmp .ge 15, 3) := by decide +kernel
theorem dL_does_537 : decode cL_does 537 = .ok (.bipush 8, 2) := by decide +kernel
theorem dL_does_539 : decode cL_does 539 = .ok (.iload_n 2, 1) := by decide +kernel
theorem dL_does_540 : decode cL_does 540 = .ok (.bipush 60, 2) := by decide +kernel
theorem dL_does_542 : decode cL_does 542 = .ok (.invokestatic 45, 3) := by decide +kernel
theorem dL_does_545 : decode cL_does 545 = .ok (.iadd, 1) := by decide +kernel
theorem dL_does_546 : decode cL_does 546 = .ok (.goto 9, 3) := by decide +kernel
theorem dL_does_549 : decode cL_does 549 = .ok (.iload_n 2, 1) := by decide +kernel
theorem dL_does_550 : decode cL_does 550 = .ok (.bipush 20, 2) := by decide +kernel
theorem dL_does_552 : decode cL_does 552 = .ok (.invokestatic 45, 3) := by decide +kernel
theorem dL_does_555 : decode cL_does 555 = .ok (.istore 14, 2) := by decide +kernel
theorem dL_does_557 : decode cL_does 557 = .ok (.aload_n 0, 1) := by decide +kernel
theorem dL_does_558 : decode cL_does 558 = .ok (.iload 13, 2) := by decide +kernel
theorem dL_does_560 : decode cL_does 560 = .ok (.invokevirtual 8, 3) := by decide +kernel
theorem dL_does_563 : decode cL_does 563 = .ok (.istore 15, 2) := by decide +kernel
theorem dL_does_565 : decode cL_does 565 = .ok (.aload_n 0, 1) := by decide +kernel
theorem dL_does_566 : decode cL_does 566 = .ok (.iload 13, 2) := by decide +kernel
theorem dL_does_568 : decode cL_does 568 = .ok (.iload 14, 2) := by decide +kernel
theorem dL_does_570 : decode cL_does 570 = .ok (.invokevirtual 42, 3) := by decide +kernel
theorem dL_does_573 : decode cL_does 573 = .ok (.istore 16, 2) := by decide +kernel
theorem dL_does_575 : decode cL_does 575 = .ok (.iload 16, 2) := by decide +kernel
theorem dL_does_577 : decode cL_does 577 = .ok (.bipush (-4), 2) := by decide +kernel
theorem dL_does_579 : decode cL_does 579 = .ok (.if_icmp .ne 47, 3) := by decide +kernel
theorem dL_does_582 : decode cL_does 582 = .ok (.aload_n 0, 1) := by decide +kernel
theorem dL_does_583 : decode cL_does 583 = .ok (.iload 13, 2) := by decide +kernel
theorem dL_does_585 : decode cL_does 585 = .ok (.invokevirtual 8, 3) := by decide +kernel
theorem dL_does_588 : decode cL_does 588 = .ok (.iload 15, 2) := by decide +kernel
theorem dL_does_590 : decode cL_does 590 = .ok (.if_icmp .ne 32, 3) := by decide +kernel
theorem dL_does_593 : decode cL_does 593 = .ok (.iload 13, 2) := by decide +kernel
theorem dL_does_595 : decode cL_does 595 = .ok (.iconst 1, 1) := by decide +kernel
theorem dL_does_596 : decode cL_does 596 = .ok (.if_icmp .eq 22, 3) := by decide +kernel
theorem dL_does_599 : decode cL_does 599 = .ok (.iload 13, 2) := by decide +kernel
theorem dL_does_601 : decode cL_does 601 = .ok (.iconst 2, 1) := by decide +kernel
theorem dL_does_602 : decode cL_does 602 = .ok (.if_icmp .eq 16, 3) := by decide +kernel
theorem dL_does_605 : decode cL_does 605 = .ok (.iload 13, 2) := by decide +kernel
theorem dL_does_607 : decode cL_does 607 = .ok (.iconst 5, 1) := by decide +kernel
theorem dL_does_608 : decode cL_does 608 = .ok (.if_icmp .le 14, 3) := by decide +kernel
theorem dL_does_611 : decode cL_does 611 = .ok (.iload 13, 2) := by decide +kernel
theorem dL_does_613 : decode cL_does 613 = .ok (.bipush 9, 2) := by decide +kernel
theorem dL_does_615 : decode cL_does 615 = .ok (.if_icmp .ge 7, 3) := by decide +kernel
theorem dL_does_618 : decode cL_does 618 = .ok (.iconst 1, 1) := by decide +kernel
theorem dL_does_619 : decode cL_does 619 = .ok (.goto 42, 3) := by decide +kernel
theorem dL_does_622 : decode cL_does 622 = .ok (.iconst 0, 1) := by decide +kernel
theorem dL_does_623 : decode cL_does 623 = .ok (.goto 38, 3) := by decide +kernel
theorem dL_does_626 : decode cL_does 626 = .ok (.iload 16, 2) := by decide +kernel
theorem dL_does_628 : decode cL_does 628 = .ok (.iload 15, 2) := by decide +kernel
theorem dL_does_630 : decode cL_does 630 = .ok (.iload 14, 2) := by decide +kernel
theorem dL_does_632 : decode cL_does 632 = .ok (.if_icmp .ne 8, 3) := by decide +kernel
theorem dL_does_635 : decode cL_does 635 = .ok (.bipush (-5), 2) := by decide +kernel
theorem dL_does_637 : decode cL_does 637 = .ok (.goto 5, 3) := by decide +kernel
theorem dL_does_640 : decode cL_does 640 = .ok (.iload 15, 2) := by decide +kernel
theorem dL_does_642 : decode cL_does 642 = .ok (.if_icmp .ne 18, 3) := by decide +kernel
theorem dL_does_645 : decode cL_does 645 = .ok (.aload_n 0, 1) := by decide +kernel
theorem dL_does_646 : decode cL_does 646 = .ok (.iload 13, 2) := by decide +kernel
theorem dL_does_648 : decode cL_does 648 = .ok (.invokevirtual 8, 3) := by decide +kernel
theorem dL_does_651 : decode cL_does 651 = .ok (.iload 14, 2) := by decide +kernel
theorem dL_does_653 : decode cL_does 653 = .ok (.if_icmp .ne 7, 3) := by decide +kernel
theorem dL_does_656 : decode cL_does 656 = .ok (.iconst 1, 1) := by decide +kernel
theorem dL_does_657 : decode cL_does 657 = .ok (.goto 4, 3) := by decide +kernel
theorem dL_does_660 : decode cL_does 660 = .ok (.iconst 0, 1) := by decide +kernel
theorem dL_does_661 : decode cL_does 661 = .ok (.ireturn, 1) := by decide +kernel
theorem dL_does_662 : decode cL_does 662 = .ok (.iconst 1, 1) := by decide +kernel
theorem dL_does_663 : decode cL_does 663 = .ok (.iload_n 2, 1) := by decide +kernel
theorem dL_does_664 : decode cL_does 664 = .ok (.bipush 9, 2) := by decide +kernel
theorem dL_does_666 : decode cL_does 666 = .ok (.invokestatic 45, 3) := by decide +kernel
theorem dL_does_669 : decode cL_does 669 = .ok (.iadd, 1) := by decide +kernel
theorem dL_does_670 : decode cL_does 670 = .ok (.istore 17, 2) := by decide +kernel
theorem dL_does_672 : decode cL_does 672 = .ok (.aload_n 0, 1) := by decide +kernel
theorem dL_does_673 : decode cL_does 673 = .ok (.iload 17, 2) := by decide +kernel
theorem dL_does_675 : decode cL_does 675 = .ok (.iconst 0, 1) := by decide +kernel
theorem dL_does_676 : decode cL_does 676 = .ok (.invokevirtual 25, 3) := by decide +kernel
theorem dL_does_679 : decode cL_does 679 = .ok (.istore 18, 2) := by decide +kernel
theorem dL_does_681 : decode cL_does 681 = .ok (.aload_n 0, 1) := by decide +kernel
theorem dL_does_682 : decode cL_does 682 = .ok (.iload 17, 2) := by decide +kernel
theorem dL_does_684 : decode cL_does 684 = .ok (.iconst 1, 1) := by decide +kernel
theorem dL_does_685 : decode cL_does 685 = .ok (.invokevirtual 25, 3) := by decide +kernel
theorem dL_does_688 : decode cL_does 688 = .ok (.istore 19, 2) := by decide +kernel
theorem dL_does_690 : decode cL_does 690 = .ok (.aload_n 0, 1) := by decide +kernel
theorem dL_does_691 : decode cL_does 691 = .ok (.bipush 18, 2) := by decide +kernel
theorem dL_does_693 : decode cL_does 693 = .ok (.invokevirtual 8, 3) := by decide +kernel
theorem dL_does_696 : decode cL_does 696 = .ok (.istore 20, 2) := by decide +kernel
theorem dL_does_698 : decode cL_does 698 = .ok (.aload_n 0, 1) := by decide +kernel
theorem dL_does_699 : decode cL_does 699 = .ok (.bipush 17, 2) := by decide +kernel
theorem dL_does_701 : decode cL_does 701 = .ok (.invokevirtual 8, 3) := by decide +kernel
theorem dL_does_704 : decode cL_does 704 = .ok (.sipush 4900, 3) := by decide +kernel
theorem dL_does_707 : decode cL_does 707 = .ok (.if_icmp .gt 28, 3) := by decide +kernel
theorem dL_does_710 : decode cL_does 710 = .ok (.aload_n 0, 1) := by decide +kernel
theorem dL_does_711 : decode cL_does 711 = .ok (.iload 17, 2) := by decide +kernel
theorem dL_does_713 : decode cL_does 713 = .ok (.invokevirtual 32, 3) := by decide +kernel
theorem dL_does_716 : decode cL_does 716 = .ok (.iload 19, 2) := by decide +kernel
theorem dL_does_718 : decode cL_does 718 = .ok (.if_icmp .ne 21, 3) := by decide +kernel
theorem dL_does_721 : decode cL_does 721 = .ok (.aload_n 0, 1) := by decide +kernel
theorem dL_does_722 : decode cL_does 722 = .ok (.bipush 18, 2) := by decide +kernel
theorem dL_does_724 : decode cL_does 724 = .ok (.invokevirtual 8, 3) := by decide +kernel
theorem dL_does_727 : decode cL_does 727 = .ok (.iload 20, 2) := by decide +kernel
theorem dL_does_729 : decode cL_does 729 = .ok (.iload 18, 2) := by decide +kernel
theorem dL_does_731 : decode cL_does 731 = .ok (.iadd, 1) := by decide +kernel
theorem dL_does_732 : decode cL_does 732 = .ok (.if_icmp .ne 7, 3) := by decide +kernel
theorem dL_does_735 : decode cL_does 735 = .ok (.iconst 1, 1) := by decide +kernel
theorem dL_does_736 : decode cL_does 736 = .ok (.goto 4, 3) := by decide +kernel
theorem dL_does_739 : decode cL_does 739 = .ok (.iconst 0, 1) := by decide +kernel
theorem dL_does_740 : decode cL_does 740 = .ok (.ireturn, 1) := by decide +kernel
theorem dL_does_741 : decode cL_does 741 = .ok (.iconst 1, 1) := by decide +kernel
theorem dL_does_742 : decode cL_does 742 = .ok (.ireturn, 1) := by decide +kernel
theorem dL_law_0 : decode cL_law 0 = .ok (.new 9, 3) := by decide +kernel
theorem dL_law_3 : decode cL_law 3 = .ok (.dup, 1) := by decide +kernel
theorem dL_law_4 : decode cL_law 4 = .ok (.invokespecial 64, 3) := by decide +kernel
theorem dL_law_7 : decode cL_law 7 = .ok (.astore_n 1, 1) := by decide +kernel
theorem dL_law_8 : decode cL_law 8 = .ok (.bipush 24, 2) := by decide +kernel
theorem dL_law_10 : decode cL_law 10 = .ok (.newarray .int, 2) := by decide +kernel
theorem dL_law_12 : decode cL_law 12 = .ok (.astore_n 2, 1) := by decide +kernel
theorem dL_law_13 : decode cL_law 13 = .ok (.bipush 24, 2) := by decide +kernel
theorem dL_law_15 : decode cL_law 15 = .ok (.newarray .int, 2) := by decide +kernel
theorem dL_law_17 : decode cL_law 17 = .ok (.astore_n 3, 1) := by decide +kernel
theorem dL_law_18 : decode cL_law 18 = .ok (.aload_n 1, 1) := by decide +kernel
theorem dL_law_19 : decode cL_law 19 = .ok (.invokestatic 65, 3) := by decide +kernel
theorem dL_law_22 : decode cL_law 22 = .ok (.ifCond .eq 41, 3) := by decide +kernel
theorem dL_law_25 : decode cL_law 25 = .ok (.aload_n 1, 1) := by decide +kernel
theorem dL_law_26 : decode cL_law 26 = .ok (.iconst 1, 1) := by decide +kernel
theorem dL_law_27 : decode cL_law 27 = .ok (.invokevirtual 8, 3) := by decide +kernel
theorem dL_law_30 : decode cL_law 30 = .ok (.sipush 3000, 3) := by decide +kernel
theorem dL_law_33 : decode cL_law 33 = .ok (.if_icmp .ne 30, 3) := by decide +kernel
theorem dL_law_36 : decode cL_law 36 = .ok (.aload_n 1, 1) := by decide +kernel
theorem dL_law_37 : decode cL_law 37 = .ok (.invokevirtual 28, 3) := by decide +kernel
theorem dL_law_40 : decode cL_law 40 = .ok (.bipush (-5), 2) := by decide +kernel
theorem dL_law_42 : decode cL_law 42 = .ok (.if_icmp .ne 21, 3) := by decide +kernel
theorem dL_law_45 : decode cL_law 45 = .ok (.aload_n 1, 1) := by decide +kernel
theorem dL_law_46 : decode cL_law 46 = .ok (.invokevirtual 69, 3) := by decide +kernel
theorem dL_law_49 : decode cL_law 49 = .ok (.bipush (-5), 2) := by decide +kernel
theorem dL_law_51 : decode cL_law 51 = .ok (.if_icmp .ne 12, 3) := by decide +kernel
theorem dL_law_54 : decode cL_law 54 = .ok (.aload_n 1, 1) := by decide +kernel
theorem dL_law_55 : decode cL_law 55 = .ok (.invokevirtual 72, 3) := by decide +kernel
theorem dL_law_58 : decode cL_law 58 = .ok (.bipush (-5), 2) := by decide +kernel
theorem dL_law_60 : decode cL_law 60 = .ok (.if_icmp .eq 5, 3) := by decide +kernel
theorem dL_law_63 : decode cL_law 63 = .ok (.iconst 0, 1) := by decide +kernel
theorem dL_law_64 : decode cL_law 64 = .ok (.ireturn, 1) := by decide +kernel
theorem dL_law_65 : decode cL_law 65 = .ok (.iconst 0, 1) := by decide +kernel
theorem dL_law_66 : decode cL_law 66 = .ok (.istore 4, 2) := by decide +kernel
theorem dL_law_68 : decode cL_law 68 = .ok (.iload 4, 2) := by decide +kernel
theorem dL_law_70 : decode cL_law 70 = .ok (.bipush 70, 2) := by decide +kernel
theorem dL_law_72 : decode cL_law 72 = .ok (.if_icmp .ge 92, 3) := by decide +kernel
theorem dL_law_75 : decode cL_law 75 = .ok (.aload_n 0, 1) := by decide +kernel
theorem dL_law_76 : decode cL_law 76 = .ok (.iconst 2, 1) := by decide +kernel
theorem dL_law_77 : decode cL_law 77 = .ok (.iload 4, 2) := by decide +kernel
theorem dL_law_79 : decode cL_law 79 = .ok (.imul, 1) := by decide +kernel
theorem dL_law_80 : decode cL_law 80 = .ok (.invokestatic 75, 3) := by decide +kernel
theorem dL_law_83 : decode cL_law 83 = .ok (.istore 5, 2) := by decide +kernel
theorem dL_law_85 : decode cL_law 85 = .ok (.aload_n 1, 1) := by decide +kernel
theorem dL_law_86 : decode cL_law 86 = .ok (.iload 5, 2) := by decide +kernel
theorem dL_law_88 : decode cL_law 88 = .ok (.aload_n 0, 1) := by decide +kernel
theorem dL_law_89 : decode cL_law 89 = .ok (.iconst 2, 1) := by decide +kernel
theorem dL_law_90 : decode cL_law 90 = .ok (.iload 4, 2) := by decide +kernel
theorem dL_law_92 : decode cL_law 92 = .ok (.imul, 1) := by decide +kernel
theorem dL_law_93 : decode cL_law 93 = .ok (.iconst 1, 1) := by decide +kernel
theorem dL_law_94 : decode cL_law 94 = .ok (.iadd, 1) := by decide +kernel
theorem dL_law_95 : decode cL_law 95 = .ok (.invokestatic 75, 3) := by decide +kernel
theorem dL_law_98 : decode cL_law 98 = .ok (.invokestatic 79, 3) := by decide +kernel
theorem dL_law_101 : decode cL_law 101 = .ok (.ifCond .eq 55, 3) := by decide +kernel
theorem dL_law_104 : decode cL_law 104 = .ok (.aload_n 1, 1) := by decide +kernel
theorem dL_law_105 : decode cL_law 105 = .ok (.invokestatic 65, 3) := by decide +kernel
theorem dL_law_108 : decode cL_law 108 = .ok (.ifCond .eq 48, 3) := by decide +kernel
theorem dL_law_111 : decode cL_law 111 = .ok (.iload 4, 2) := by decide +kernel
theorem dL_law_113 : decode cL_law 113 = .ok (.iconst 3, 1) := by decide +kernel
theorem dL_law_114 : decode cL_law 114 = .ok (.irem, 1) := by decide +kernel
theorem dL_law_115 : decode cL_law 115 = .ok (.iconst 2, 1) := by decide +kernel
theorem dL_law_116 : decode cL_law 116 = .ok (.if_icmp .ne 12, 3) := by decide +kernel
theorem dL_law_119 : decode cL_law 119 = .ok (.aload_n 1, 1) := by decide +kernel
theorem dL_law_120 : decode cL_law 120 = .ok (.aload_n 2, 1) := by decide +kernel
theorem dL_law_121 : decode cL_law 121 = .ok (.aload_n 3, 1) := by decide +kernel
theorem dL_law_122 : decode cL_law 122 = .ok (.invokestatic 82, 3) := by decide +kernel
theorem dL_law_125 : decode cL_law 125 = .ok (.ifCond .eq 31, 3) := by decide +kernel
theorem dL_law_128 : decode cL_law 128 = .ok (.iload 4, 2) := by decide +kernel
theorem dL_law_130 : decode cL_law 130 = .ok (.bipush 30, 2) := by decide +kernel
theorem dL_law_132 : decode cL_law 132 = .ok (.irem, 1) := by decide +kernel
theorem dL_law_133 : decode cL_law 133 = .ok (.bipush 19, 2) := by decide +kernel
theorem dL_law_135 : decode cL_law 135 = .ok (.if_icmp .ne 23, 3) := by decide +kernel
theorem dL_law_138 : decode cL_law 138 = .ok (.aload_n 1, 1) := by decide +kernel
theorem dL_law_139 : decode cL_law 139 = .ok (.iconst 1, 1) := by decide +kernel
theorem dL_law_140 : decode cL_law 140 = .ok (.iload 5, 2) := by decide +kernel
theorem dL_law_142 : decode cL_law 142 = .ok (.iconst 4, 1) := by decide +kernel
theorem dL_law_143 : decode cL_law 143 = .ok (.ishr, 1) := by decide +kernel
theorem dL_law_144 : decode cL_law 144 = .ok (.bipush 8, 2) := by decide +kernel
theorem dL_law_146 : decode cL_law 146 = .ok (.invokestatic 45, 3) := by decide +kernel
theorem dL_law_149 : decode cL_law 149 = .ok (.iadd, 1) := by decide +kernel
theorem dL_law_150 : decode cL_law 150 = .ok (.invokestatic 86, 3) := by decide +kernel
theorem dL_law_153 : decode cL_law 153 = .ok (.ifCond .ne 5, 3) := by decide +kernel
theorem dL_law_156 : decode cL_law 156 = .ok (.iconst 0, 1) := by decide +kernel
theorem dL_law_157 : decode cL_law 157 = .ok (.ireturn, 1) := by decide +kernel
theorem dL_law_158 : decode cL_law 158 = .ok (.iinc 4 1, 3) := by decide +kernel
theorem dL_law_161 : decode cL_law 161 = .ok (.goto (-93), 3) := by decide +kernel
theorem dL_law_164 : decode cL_law 164 = .ok (.aload_n 1, 1) := by decide +kernel
theorem dL_law_165 : decode cL_law 165 = .ok (.bipush 10, 2) := by decide +kernel
theorem dL_law_167 : decode cL_law 167 = .ok (.invokevirtual 50, 3) := by decide +kernel
theorem dL_law_170 : decode cL_law 170 = .ok (.bipush (-2), 2) := by decide +kernel
theorem dL_law_172 : decode cL_law 172 = .ok (.if_icmp .ne 84, 3) := by decide +kernel
theorem dL_law_175 : decode cL_law 175 = .ok (.aload_n 1, 1) := by decide +kernel
theorem dL_law_176 : decode cL_law 176 = .ok (.iconst 0, 1) := by decide +kernel
theorem dL_law_177 : decode cL_law 177 = .ok (.invokevirtual 32, 3) := by decide +kernel
theorem dL_law_180 : decode cL_law 180 = .ok (.bipush (-2), 2) := by decide +kernel
theorem dL_law_182 : decode cL_law 182 = .ok (.if_icmp .ne 74, 3) := by decide +kernel
theorem dL_law_185 : decode cL_law 185 = .ok (.aload_n 1, 1) := by decide +kernel
theorem dL_law_186 : decode cL_law 186 = .ok (.bipush 100, 2) := by decide +kernel
theorem dL_law_188 : decode cL_law 188 = .ok (.invokevirtual 32, 3) := by decide +kernel
theorem dL_law_191 : decode cL_law 191 = .ok (.bipush (-2), 2) := by decide +kernel
theorem dL_law_193 : decode cL_law 193 = .ok (.if_icmp .ne 63, 3) := by decide +kernel
theorem dL_law_196 : decode cL_law 196 = .ok (.aload_n 1, 1) := by decide +kernel
theorem dL_law_197 : decode cL_law 197 = .ok (.bipush 15, 2) := by decide +kernel
theorem dL_law_199 : decode cL_law 199 = .ok (.iconst 0, 1) := by decide +kernel
theorem dL_law_200 : decode cL_law 200 = .ok (.invokevirtual 42, 3) := by decide +kernel
theorem dL_law_203 : decode cL_law 203 = .ok (.iconst (-1), 1) := by decide +kernel
theorem dL_law_204 : decode cL_law 204 = .ok (.if_icmp .ne 52, 3) := by decide +kernel
theorem dL_law_207 : decode cL_law 207 = .ok (.aload_n 1, 1) := by decide +kernel
theorem dL_law_208 : decode cL_law 208 = .ok (.iconst 0, 1) := by decide +kernel
theorem dL_law_209 : decode cL_law 209 = .ok (.bipush 101, 2) := by decide +kernel
theorem dL_law_211 : decode cL_law 211 = .ok (.invokevirtual 42, 3) := by decide +kernel
theorem dL_law_214 : decode cL_law 214 = .ok (.bipush (-2), 2) := by decide +kernel
theorem dL_law_216 : decode cL_law 216 = .ok (.if_icmp .ne 40, 3) := by decide +kernel
theorem dL_law_219 : decode cL_law 219 = .ok (.aload_n 1, 1) := by decide +kernel
theorem dL_law_220 : decode cL_law 220 = .ok (.bipush 27, 2) := by decide +kernel
theorem dL_law_222 : decode cL_law 222 = .ok (.invokevirtual 8, 3) := by decide +kernel
theorem dL_law_225 : decode cL_law 225 = .ok (.bipush (-2), 2) := by decide +kernel
theorem dL_law_227 : decode cL_law 227 = .ok (.if_icmp .ne 29, 3) := by decide +kernel
theorem dL_law_230 : decode cL_law 230 = .ok (.aload_n 1, 1) := by decide +kernel
theorem dL_law_231 : decode cL_law 231 = .ok (.iconst 3, 1) := by decide +kernel
theorem dL_law_232 : decode cL_law 232 = .ok (.iconst 0, 1) := by decide +kernel
theorem dL_law_233 : decode cL_law 233 = .ok (.invokevirtual 22, 3) := by decide +kernel
theorem dL_law_236 : decode cL_law 236 = .ok (.iconst (-1), 1) := by decide +kernel
theorem dL_law_237 : decode cL_law 237 = .ok (.if_icmp .ne 19, 3) := by decide +kernel
theorem dL_law_240 : decode cL_law 240 = .ok (.aload_n 1, 1) := by decide +kernel
theorem dL_law_241 : decode cL_law 241 = .ok (.bipush 21, 2) := by decide +kernel
theorem dL_law_243 : decode cL_law 243 = .ok (.iconst 0, 1) := by decide +kernel
theorem dL_law_244 : decode cL_law 244 = .ok (.invokevirtual 39, 3) := by decide +kernel
theorem dL_law_247 : decode cL_law 247 = .ok (.bipush (-2), 2) := by decide +kernel
theorem dL_law_249 : decode cL_law 249 = .ok (.if_icmp .ne 7, 3) := by decide +kernel
theorem dL_law_252 : decode cL_law 252 = .ok (.iconst 1, 1) := by decide +kernel
theorem dL_law_253 : decode cL_law 253 = .ok (.goto 4, 3) := by decide +kernel
theorem dL_law_256 : decode cL_law 256 = .ok (.iconst 0, 1) := by decide +kernel
theorem dL_law_257 : decode cL_law 257 = .ok (.ireturn, 1) := by decide +kernel
