theorem dL_errors_149 : decode cL_errors 149 = .ok (.ldc2_w 36, 3) := by decide +kernel
theorem dL_errors_152 : decode cL_errors 152 = .ok (.lcmp, 1) := by decide +kernel
theorem dL_errors_153 : decode cL_errors 153 = .ok (.ifCond .ne 145, 3) := by decide +kernel
theorem dL_errors_156 : decode cL_errors 156 = .ok (.aload_n 0, 1) := by decide +kernel
theorem dL_errors_157 : decode cL_errors 157 = .ok (.iconst 0, 1) := by decide +kernel
theorem dL_errors_158 : decode cL_errors 158 = .ok (.bipush 21, 2) := by decide +kernel
theorem dL_errors_160 : decode cL_errors 160 = .ok (.invokestatic 141, 3) := by decide +kernel
theorem dL_errors_163 : decode cL_errors 163 = .ok (.ldc2_w 17, 3) := by decide +kernel
theorem dL_errors_166 : decode cL_errors 166 = .ok (.lcmp, 1) := by decide +kernel
theorem dL_errors_167 : decode cL_errors 167 = .ok (.ifCond .ne 131, 3) := by decide +kernel
theorem dL_errors_170 : decode cL_errors 170 = .ok (.aload_n 0, 1) := by decide +kernel
theorem dL_errors_171 : decode cL_errors 171 = .ok (.iconst 0, 1) := by decide +kernel
theorem dL_errors_172 : decode cL_errors 172 = .ok (.iconst 0, 1) := by decide +kernel
theorem dL_errors_173 : decode cL_errors 173 = .ok (.invokestatic 143, 3) := by decide +kernel
theorem dL_errors_176 : decode cL_errors 176 = .ok (.ldc2_w 17, 3) := by decide +kernel
theorem dL_errors_179 : decode cL_errors 179 = .ok (.lcmp, 1) := by decide +kernel
theorem dL_errors_180 : decode cL_errors 180 = .ok (.ifCond .ne 118, 3) := by decide +kernel
theorem dL_errors_183 : decode cL_errors 183 = .ok (.aload_n 0, 1) := by decide +kernel
theorem dL_errors_184 : decode cL_errors 184 = .ok (.iconst 0, 1) := by decide +kernel
theorem dL_errors_185 : decode cL_errors 185 = .ok (.bipush 30, 2) := by decide +kernel
theorem dL_errors_187 : decode cL_errors 187 = .ok (.iconst 0, 1) := by decide +kernel
theorem dL_errors_188 : decode cL_errors 188 = .ok (.invokestatic 145, 3) := by decide +kernel
theorem dL_errors_191 : decode cL_errors 191 = .ok (.ldc2_w 36, 3) := by decide +kernel
theorem dL_errors_194 : decode cL_errors 194 = .ok (.lcmp, 1) := by decide +kernel
theorem dL_errors_195 : decode cL_errors 195 = .ok (.ifCond .ne 103, 3) := by decide +kernel
theorem dL_errors_198 : decode cL_errors 198 = .ok (.aload_n 0, 1) := by decide +kernel
theorem dL_errors_199 : decode cL_errors 199 = .ok (.iconst 0, 1) := by decide +kernel
theorem dL_errors_200 : decode cL_errors 200 = .ok (.iconst 0, 1) := by decide +kernel
theorem dL_errors_201 : decode cL_errors 201 = .ok (.iconst 0, 1) := by decide +kernel
theorem dL_errors_202 : decode cL_errors 202 = .ok (.invokestatic 145, 3) := by decide +kernel
theorem dL_errors_205 : decode cL_errors 205 = .ok (.ldc2_w 17, 3) := by decide +kernel
theorem dL_errors_208 : decode cL_errors 208 = .ok (.lcmp, 1) := by decide +kernel
theorem dL_errors_209 : decode cL_errors 209 = .ok (.ifCond .ne 89, 3) := by decide +kernel
theorem dL_errors_212 : decode cL_errors 212 = .ok (.aload_n 0, 1) := by decide +kernel
theorem dL_errors_213 : decode cL_errors 213 = .ok (.iconst 0, 1) := by decide +kernel
theorem dL_errors_214 : decode cL_errors 214 = .ok (.iconst 0, 1) := by decide +kernel
theorem dL_errors_215 : decode cL_errors 215 = .ok (.bipush 31, 2) := by decide +kernel
theorem dL_errors_217 : decode cL_errors 217 = .ok (.iconst 1, 1) := by decide +kernel
theorem dL_errors_218 : decode cL_errors 218 = .ok (.invokestatic 147, 3) := by decide +kernel
theorem dL_errors_221 : decode cL_errors 221 = .ok (.ldc2_w 17, 3) := by decide +kernel
theorem dL_errors_224 : decode cL_errors 224 = .ok (.lcmp, 1) := by decide +kernel
theorem dL_errors_225 : decode cL_errors 225 = .ok (.ifCond .ne 73, 3) := by decide +kernel
theorem dL_errors_228 : decode cL_errors 228 = .ok (.aload_n 0, 1) := by decide +kernel
theorem dL_errors_229 : decode cL_errors 229 = .ok (.aload_n 0, 1) := by decide +kernel
theorem dL_errors_230 : decode cL_errors 230 = .ok (.iconst 1, 1) := by decide +kernel
theorem dL_errors_231 : decode cL_errors 231 = .ok (.invokestatic 112, 3) := by decide +kernel
theorem dL_errors_234 : decode cL_errors 234 = .ok (.l2i, 1) := by decide +kernel
theorem dL_errors_235 : decode cL_errors 235 = .ok (.bipush 6, 2) := by decide +kernel
theorem dL_errors_237 : decode cL_errors 237 = .ok (.invokestatic 122, 3) := by decide +kernel
theorem dL_errors_240 : decode cL_errors 240 = .ok (.ldc2_w 36, 3) := by decide +kernel
theorem dL_errors_243 : decode cL_errors 243 = .ok (.lcmp, 1) := by decide +kernel
theorem dL_errors_244 : decode cL_errors 244 = .ok (.ifCond .ne 54, 3) := by decide +kernel
theorem dL_errors_247 : decode cL_errors 247 = .ok (.aload_n 0, 1) := by decide +kernel
theorem dL_errors_248 : decode cL_errors 248 = .ok (.aload_n 0, 1) := by decide +kernel
theorem dL_errors_249 : decode cL_errors 249 = .ok (.iconst 2, 1) := by decide +kernel
theorem dL_errors_250 : decode cL_errors 250 = .ok (.invokestatic 112, 3) := by decide +kernel
theorem dL_errors_253 : decode cL_errors 253 = .ok (.l2i, 1) := by decide +kernel
theorem dL_errors_254 : decode cL_errors 254 = .ok (.iconst 5, 1) := by decide +kernel
theorem dL_errors_255 : decode cL_errors 255 = .ok (.invokestatic 126, 3) := by decide +kernel
theorem dL_errors_258 : decode cL_errors 258 = .ok (.ldc2_w 36, 3) := by decide +kernel
theorem dL_errors_261 : decode cL_errors 261 = .ok (.lcmp, 1) := by decide +kernel
theorem dL_errors_262 : decode cL_errors 262 = .ok (.ifCond .ne 36, 3) := by decide +kernel
theorem dL_errors_265 : decode cL_errors 265 = .ok (.aload_n 0, 1) := by decide +kernel
theorem dL_errors_266 : decode cL_errors 266 = .ok (.aload_n 0, 1) := by decide +kernel
theorem dL_errors_267 : decode cL_errors 267 = .ok (.iconst 4, 1) := by decide +kernel
theorem dL_errors_268 : decode cL_errors 268 = .ok (.invokestatic 112, 3) := by decide +kernel
theorem dL_errors_271 : decode cL_errors 271 = .ok (.l2i, 1) := by decide +kernel
theorem dL_errors_272 : decode cL_errors 272 = .ok (.invokestatic 150, 3) := by decide +kernel
theorem dL_errors_275 : decode cL_errors 275 = .ok (.ldc2_w 36, 3) := by decide +kernel
theorem dL_errors_278 : decode cL_errors 278 = .ok (.lcmp, 1) := by decide +kernel
theorem dL_errors_279 : decode cL_errors 279 = .ok (.ifCond .ne 19, 3) := by decide +kernel
theorem dL_errors_282 : decode cL_errors 282 = .ok (.aload_n 0, 1) := by decide +kernel
theorem dL_errors_283 : decode cL_errors 283 = .ok (.iconst (-1), 1) := by decide +kernel
theorem dL_errors_284 : decode cL_errors 284 = .ok (.invokestatic 150, 3) := by decide +kernel
theorem dL_errors_287 : decode cL_errors 287 = .ok (.ldc2_w 36, 3) := by decide +kernel
theorem dL_errors_290 : decode cL_errors 290 = .ok (.lcmp, 1) := by decide +kernel
theorem dL_errors_291 : decode cL_errors 291 = .ok (.ifCond .ne 7, 3) := by decide +kernel
theorem dL_errors_294 : decode cL_errors 294 = .ok (.iconst 1, 1) := by decide +kernel
theorem dL_errors_295 : decode cL_errors 295 = .ok (.goto 4, 3) := by decide +kernel
theorem dL_errors_298 : decode cL_errors 298 = .ok (.iconst 0, 1) := by decide +kernel
theorem dL_errors_299 : decode cL_errors 299 = .ok (.istore 4, 2) := by decide +kernel
theorem dL_errors_301 : decode cL_errors 301 = .ok (.iload 4, 2) := by decide +kernel
theorem dL_errors_303 : decode cL_errors 303 = .ok (.ifCond .eq 284, 3) := by decide +kernel
theorem dL_errors_306 : decode cL_errors 306 = .ok (.aload_n 0, 1) := by decide +kernel
theorem dL_errors_307 : decode cL_errors 307 = .ok (.iload_n 3, 1) := by decide +kernel
theorem dL_errors_308 : decode cL_errors 308 = .ok (.iconst 0, 1) := by decide +kernel
theorem dL_errors_309 : decode cL_errors 309 = .ok (.invokestatic 137, 3) := by decide +kernel
theorem dL_errors_312 : decode cL_errors 312 = .ok (.ldc2_w 36, 3) := by decide +kernel
theorem dL_errors_315 : decode cL_errors 315 = .ok (.lcmp, 1) := by decide +kernel
theorem dL_errors_316 : decode cL_errors 316 = .ok (.ifCond .ne 271, 3) := by decide +kernel
theorem dL_errors_319 : decode cL_errors 319 = .ok (.aload_n 0, 1) := by decide +kernel
theorem dL_errors_320 : decode cL_errors 320 = .ok (.iload_n 3, 1) := by decide +kernel
theorem dL_errors_321 : decode cL_errors 321 = .ok (.iconst 0, 1) := by decide +kernel
theorem dL_errors_322 : decode cL_errors 322 = .ok (.invokestatic 139, 3) := by decide +kernel
theorem dL_errors_325 : decode cL_errors 325 = .ok (.ldc2_w 36, 3) := by decide +kernel
theorem dL_errors_328 : decode cL_errors 328 = .ok (.lcmp, 1) := by decide +kernel
theorem dL_errors_329 : decode cL_errors 329 = .ok (.ifCond .ne 258, 3) := by decide +kernel
theorem dL_errors_332 : decode cL_errors 332 = .ok (.aload_n 0, 1) := by decide +kernel
theorem dL_errors_333 : decode cL_errors 333 = .ok (.iload_n 3, 1) := by decide +kernel
theorem dL_errors_334 : decode cL_errors 334 = .ok (.bipush 21, 2) := by decide +kernel
theorem dL_errors_336 : decode cL_errors 336 = .ok (.invokestatic 141, 3) := by decide +kernel
theorem dL_errors_339 : decode cL_errors 339 = .ok (.ldc2_w 36, 3) := by decide +kernel
theorem dL_errors_342 : decode cL_errors 342 = .ok (.lcmp, 1) := by decide +kernel
theorem dL_errors_343 : decode cL_errors 343 = .ok (.ifCond .ne 244, 3) := by decide +kernel
theorem dL_errors_346 : decode cL_errors 346 = .ok (.aload_n 0, 1) := by decide +kernel
theorem dL_errors_347 : decode cL_errors 347 = .ok (.iload_n 3, 1) := by decide +kernel
theorem dL_errors_348 : decode cL_errors 348 = .ok (.invokestatic 152, 3) := by decide +kernel
theorem dL_errors_351 : decode cL_errors 351 = .ok (.ldc2_w 36, 3) := by decide +kernel
theorem dL_errors_354 : decode cL_errors 354 = .ok (.lcmp, 1) := by decide +kernel
theorem dL_errors_355 : decode cL_errors 355 = .ok (.ifCond .ne 232, 3) := by decide +kernel
theorem dL_errors_358 : decode cL_errors 358 = .ok (.aload_n 0, 1) := by decide +kernel
theorem dL_errors_359 : decode cL_errors 359 = .ok (.bipush (-31), 2) := by decide +kernel
theorem dL_errors_361 : decode cL_errors 361 = .ok (.iconst 0, 1) := by decide +kernel
theorem dL_errors_362 : decode cL_errors 362 = .ok (.iconst 1, 1) := by decide +kernel
theorem dL_errors_363 : decode cL_errors 363 = .ok (.invokestatic 154, 3) := by decide +kernel
theorem dL_errors_366 : decode cL_errors 366 = .ok (.ldc2_w 17, 3) := by decide +kernel
theorem dL_errors_369 : decode cL_errors 369 = .ok (.lcmp, 1) := by decide +kernel
theorem dL_errors_370 : decode cL_errors 370 = .ok (.ifCond .ne 217, 3) := by decide +kernel
theorem dL_errors_373 : decode cL_errors 373 = .ok (.aload_n 0, 1) := by decide +kernel
theorem dL_errors_374 : decode cL_errors 374 = .ok (.iconst 0, 1) := by decide +kernel
theorem dL_errors_375 : decode cL_errors 375 = .ok (.iconst (-1), 1) := by decide +kernel
theorem dL_errors_376 : decode cL_errors 376 = .ok (.iconst 1, 1) := by decide +kernel
theorem dL_errors_377 : decode cL_errors 377 = .ok (.invokestatic 154, 3) := by decide +kernel
theorem dL_errors_380 : decode cL_errors 380 = .ok (.ldc2_w 17, 3) := by decide +kernel
theorem dL_errors_383 : decode cL_errors 383 = .ok (.lcmp, 1) := by decide +kernel
theorem dL_errors_384 : decode cL_errors 384 = .ok (.ifCond .ne 203, 3) := by decide +kernel
theorem dL_errors_387 : decode cL_errors 387 = .ok (.aload_n 0, 1) := by decide +kernel
theorem dL_errors_388 : decode cL_errors 388 = .ok (.iconst 0, 1) := by decide +kernel
theorem dL_errors_389 : decode cL_errors 389 = .ok (.iconst 0, 1) := by decide +kernel
theorem dL_errors_390 : decode cL_errors 390 = .ok (.iconst 0, 1) := by decide +kernel
theorem dL_errors_391 : decode cL_errors 391 = .ok (.invokestatic 154, 3) := by decide +kernel
theorem dL_errors_394 : decode cL_errors 394 = .ok (.ldc2_w 17, 3) := by decide +kernel
theorem dL_errors_397 : decode cL_errors 397 = .ok (.lcmp, 1) := by decide +kernel
theorem dL_errors_398 : decode cL_errors 398 = .ok (.ifCond .ne 189, 3) := by decide +kernel
theorem dL_errors_401 : decode cL_errors 401 = .ok (.aload_n 0, 1) := by decide +kernel
theorem dL_errors_402 : decode cL_errors 402 = .ok (.iconst 0, 1) := by decide +kernel
theorem dL_errors_403 : decode cL_errors 403 = .ok (.bipush 31, 2) := by decide +kernel
theorem dL_errors_405 : decode cL_errors 405 = .ok (.invokestatic 156, 3) := by decide +kernel
theorem dL_errors_408 : decode cL_errors 408 = .ok (.ldc2_w 17, 3) := by decide +kernel
theorem dL_errors_411 : decode cL_errors 411 = .ok (.lcmp, 1) := by decide +kernel
theorem dL_errors_412 : decode cL_errors 412 = .ok (.ifCond .ne 175, 3) := by decide +kernel
theorem dL_errors_415 : decode cL_errors 415 = .ok (.aload_n 0, 1) := by decide +kernel
theorem dL_errors_416 : decode cL_errors 416 = .ok (.iconst 1, 1) := by decide +kernel
theorem dL_errors_417 : decode cL_errors 417 = .ok (.bipush 10, 2) := by decide +kernel
theorem dL_errors_419 : decode cL_errors 419 = .ok (.invokestatic 156, 3) := by decide +kernel
theorem dL_errors_422 : decode cL_errors 422 = .ok (.ldc2_w 17, 3) := by decide +kernel
theorem dL_errors_425 : decode cL_errors 425 = .ok (.lcmp, 1) := by decide +kernel
theorem dL_errors_426 : decode cL_errors 426 = .ok (.ifCond .ne 161, 3) := by decide +kernel
theorem dL_errors_429 : decode cL_errors 429 = .ok (.aload_n 0, 1) := by decide +kernel
theorem dL_errors_430 : decode cL_errors 430 = .ok (.iconst 2, 1) := by decide +kernel
theorem dL_errors_431 : decode cL_errors 431 = .ok (.bipush 51, 2) := by decide +kernel
theorem dL_errors_433 : decode cL_errors 433 = .ok (.invokestatic 156, 3) := by decide +kernel
theorem dL_errors_436 : decode cL_errors 436 = .ok (.ldc2_w 17, 3) := by decide +kernel
theorem dL_errors_439 : decode cL_errors 439 = .ok (.lcmp, 1) := by decide +kernel
theorem dL_errors_440 : decode cL_errors 440 = .ok (.ifCond .ne 147, 3) := by decide +kernel
theorem dL_errors_443 : decode cL_errors 443 = .ok (.aload_n 0, 1) := by decide +kernel
theorem dL_errors_444 : decode cL_errors 444 = .ok (.iconst (-1), 1) := by decide +kernel
theorem dL_errors_445 : decode cL_errors 445 = .ok (.iconst 5, 1) := by decide +kernel
theorem dL_errors_446 : decode cL_errors 446 = .ok (.invokestatic 156, 3) := by decide +kernel
theorem dL_errors_449 : decode cL_errors 449 = .ok (.ldc2_w 17, 3) := by decide +kernel
theorem dL_errors_452 : decode cL_errors 452 = .ok (.lcmp, 1) := by decide +kernel
theorem dL_errors_453 : decode cL_errors 453 = .ok (.ifCond .ne 134, 3) := by decide +kernel
theorem dL_errors_456 : decode cL_errors 456 = .ok (.aload_n 0, 1) := by decide +kernel
theorem dL_errors_457 : decode cL_errors 457 = .ok (.iload_n 3, 1) := by decide +kernel
theorem dL_errors_458 : decode cL_errors 458 = .ok (.iconst 1, 1) := by decide +kernel
theorem dL_errors_459 : decode cL_errors 459 = .ok (.invokestatic 143, 3) := by decide +kernel
theorem dL_errors_462 : decode cL_errors 462 = .ok (.ldc2_w 36, 3) := by decide +kernel
theorem dL_errors_465 : decode cL_errors 465 = .ok (.lcmp, 1) := by decide +kernel
theorem dL_errors_466 : decode cL_errors 466 = .ok (.ifCond .ne 121, 3) := by decide +kernel
theorem dL_errors_469 : decode cL_errors 469 = .ok (.aload_n 0, 1) := by decide +kernel
theorem dL_errors_470 : decode cL_errors 470 = .ok (.aload_n 0, 1) := by decide +kernel
theorem dL_errors_471 : decode cL_errors 471 = .ok (.iconst 2, 1) := by decide +kernel
theorem dL_errors_472 : decode cL_errors 472 = .ok (.invokestatic 112, 3) := by decide +kernel
theorem dL_errors_475 : decode cL_errors 475 = .ok (.l2i, 1) := by decide +kernel
theorem dL_errors_476 : decode cL_errors 476 = .ok (.iconst 0, 1) := by decide +kernel
theorem dL_errors_477 : decode cL_errors 477 = .ok (.iconst 1, 1) := by decide +kernel
theorem dL_errors_478 : decode cL_errors 478 = .ok (.invokestatic 158, 3) := by decide +kernel
theorem dL_errors_481 : decode cL_errors 481 = .ok (.ldc2_w 36, 3) := by decide +kernel
theorem dL_errors_484 : decode cL_errors 484 = .ok (.lcmp, 1) := by decide +kernel
theorem dL_errors_485 : decode cL_errors 485 = .ok (.ifCond .ne 102, 3) := by decide +kernel
theorem dL_errors_488 : decode cL_errors 488 = .ok (.iload_n 3, 1) := by decide +kernel
theorem dL_errors_489 : decode cL_errors 489 = .ok (.iconst 4, 1) := by decide +kernel
theorem dL_errors_490 : decode cL_errors 490 = .ok (.if_icmp .lt 14, 3) := by decide +kernel
theorem dL_errors_493 : decode cL_errors 493 = .ok (.aload_n 0, 1) := by decide +kernel
theorem dL_errors_494 : decode cL_errors 494 = .ok (.invokestatic 160, 3) := by decide +kernel
theorem dL_errors_497 : decode cL_errors 497 = .ok (.ldc2_w 21, 3) := by decide +kernel
theorem dL_errors_500 : decode cL_errors 500 = .ok (.lcmp, 1) := by decide +kernel
theorem dL_errors_501 : decode cL_errors 501 = .ok (.ifCond .ne 86, 3) := by decide +kernel
theorem dL_errors_504 : decode cL_errors 504 = .ok (.aload_n 0, 1) := by decide +kernel
theorem dL_errors_505 : decode cL_errors 505 = .ok (.iconst 0, 1) := by decide +kernel
theorem dL_errors_506 : decode cL_errors 506 = .ok (.lconst 0, 1) := by decide +kernel
theorem dL_errors_507 : decode cL_errors 507 = .ok (.invokestatic 162, 3) := by decide +kernel
theorem dL_errors_510 : decode cL_errors 510 = .ok (.ldc2_w 17, 3) := by decide +kernel
theorem dL_errors_513 : decode cL_errors 513 = .ok (.lcmp, 1) := by decide +kernel
theorem dL_errors_514 : decode cL_errors 514 = .ok (.ifCond .ne 73, 3) := by decide +kernel
theorem dL_errors_517 : decode cL_errors 517 = .ok (.aload_n 0, 1) := by decide +kernel
theorem dL_errors_518 : decode cL_errors 518 = .ok (.iconst 3, 1) := by decide +kernel
theorem dL_errors_519 : decode cL_errors 519 = .ok (.ldc2_w 166, 3) := by decide +kernel
theorem dL_errors_522 : decode cL_errors 522 = .ok (.invokestatic 162, 3) := by decide +kernel
theorem dL_errors_525 : decode cL_errors 525 = .ok (.ldc2_w 17, 3) := by decide +kernel
theorem dL_errors_528 : decode cL_errors 528 = .ok (.lcmp, 1) := by decide +kernel
theorem dL_errors_529 : decode cL_errors 529 = .ok (.ifCond .ne 58, 3) := by decide +kernel
theorem dL_errors_532 : decode cL_errors 532 = .ok (.aload_n 0, 1) := by decide +kernel
theorem dL_errors_533 : decode cL_errors 533 = .ok (.lconst 1, 1) := by decide +kernel
theorem dL_errors_534 : decode cL_errors 534 = .ok (.iconst 0, 1) := by decide +kernel
theorem dL_errors_535 : decode cL_errors 535 = .ok (.invokestatic 168, 3) := by decide +kernel
theorem dL_errors_538 : decode cL_errors 538 = .ok (.ldc2_w 17, 3) := by decide +kernel
theorem dL_errors_541 : decode cL_errors 541 = .ok (.lcmp, 1) := by decide +kernel
theorem dL_errors_542 : decode cL_errors 542 = .ok (.ifCond .ne 45, 3) := by decide +kernel
theorem dL_errors_545 : decode cL_errors 545 = .ok (.aload_n 0, 1) := by decide +kernel
theorem dL_errors_546 : decode cL_errors 546 = .ok (.iconst 2, 1) := by decide +kernel
theorem dL_errors_547 : decode cL_errors 547 = .ok (.invokestatic 171, 3) := by decide +kernel
theorem dL_errors_550 : decode cL_errors 550 = .ok (.ldc2_w 36, 3) := by decide +kernel
theorem dL_errors_553 : decode cL_errors 553 = .ok (.lcmp, 1) := by decide +kernel
theorem dL_errors_554 : decode cL_errors 554 = .ok (.ifCond .ne 33, 3) := by decide +kernel
theorem dL_errors_557 : decode cL_errors 557 = .ok (.aload_n 0, 1) := by decide +kernel
theorem dL_errors_558 : decode cL_errors 558 = .ok (.iconst 2, 1) := by decide +kernel
theorem dL_errors_559 : decode cL_errors 559 = .ok (.invokestatic 173, 3) := by decide +kernel
theorem dL_errors_562 : decode cL_errors 562 = .ok (.ldc2_w 36, 3) := by decide +kernel
theorem dL_errors_565 : decode cL_errors 565 = .ok (.lcmp, 1) := by decide +kernel
theorem dL_errors_566 : decode cL_errors 566 = .ok (.ifCond .ne 21, 3) := by decide +kernel
theorem dL_errors_569 : decode cL_errors 569 = .ok (.aload_n 0, 1) := by decide +kernel
theorem dL_errors_570 : decode cL_errors 570 = .ok (.sipush 256, 3) := by decide +kernel
theorem dL_errors_573 : decode cL_errors 573 = .ok (.invokestatic 175, 3) := by decide +kernel
theorem dL_errors_576 : decode cL_errors 576 = .ok (.ldc2_w 17, 3) := by decide +kernel
theorem dL_errors_579 : decode cL_errors 579 = .ok (.lcmp, 1) := by decide +kernel
theorem dL_errors_580 : decode cL_errors 580 = .ok (.ifCond .ne 7, 3) := by decide +kernel
theorem dL_errors_583 : decode cL_errors 583 = .ok (.iconst 1, 1) := by decide +kernel
theorem dL_errors_584 : decode cL_errors 584 = .ok (.goto 4, 3) := by decide +kernel
theorem dL_errors_587 : decode cL_errors 587 = .ok (.iconst 0, 1) := by decide +kernel
theorem dL_errors_588 : decode cL_errors 588 = .ok (.istore 4, 2) := by decide +kernel
theorem dL_errors_590 : decode cL_errors 590 = .ok (.iload 4, 2) := by decide +kernel
theorem dL_errors_592 : decode cL_errors 592 = .ok (.ifCond .eq 16, 3) := by decide +kernel
theorem dL_errors_595 : decode cL_errors 595 = .ok (.aload_n 0, 1) := by decide +kernel
theorem dL_errors_596 : decode cL_errors 596 = .ok (.invokestatic 128, 3) := by decide +kernel
theorem dL_errors_599 : decode cL_errors 599 = .ok (.lload_n 1, 1) := by decide +kernel
theorem dL_errors_600 : decode cL_errors 600 = .ok (.lcmp, 1) := by decide +kernel
theorem dL_errors_601 : decode cL_errors 601 = .ok (.ifCond .ne 7, 3) := by decide +kernel
theorem dL_errors_604 : decode cL_errors 604 = .ok (.iconst 1, 1) := by decide +kernel
theorem dL_errors_605 : decode cL_errors 605 = .ok (.goto 4, 3) := by decide +kernel
theorem dL_errors_608 : decode cL_errors 608 = .ok (.iconst 0, 1) := by decide +kernel
theorem dL_errors_609 : decode cL_errors 609 = .ok (.ireturn, 1) := by decide +kernel
theorem dL_kept_0 : decode cL_kept 0 = .ok (.iconst 0, 1) := by decide +kernel
theorem dL_kept_1 : decode cL_kept 1 = .ok (.istore_n 1, 1) := by decide +kernel
theorem dL_kept_2 : decode cL_kept 2 = .ok (.iconst 0, 1) := by decide +kernel
theorem dL_kept_3 : decode cL_kept 3 = .ok (.istore_n 2, 1) := by decide +kernel
theorem dL_kept_4 : decode cL_kept 4 = .ok (.lconst 0, 1) := by decide +kernel
theorem dL_kept_5 : decode cL_kept 5 = .ok (.lstore_n 3, 1) := by decide +kernel
theorem dL_kept_6 : decode cL_kept 6 = .ok (.iconst 1, 1) := by decide +kernel
theorem dL_kept_7 : decode cL_kept 7 = .ok (.istore 5, 2) := by decide +kernel
theorem dL_kept_9 : decode cL_kept 9 = .ok (.iconst 0, 1) := by decide +kernel
theorem dL_kept_10 : decode cL_kept 10 = .ok (.istore 6, 2) := by decide +kernel
theorem dL_kept_12 : decode cL_kept 12 = .ok (.iload 6, 2) := by decide +kernel
theorem dL_kept_14 : decode cL_kept 14 = .ok (.i2l, 1) := by decide +kernel
theorem dL_kept_15 : decode cL_kept 15 = .ok (.aload_n 0, 1) := by decide +kernel
theorem dL_kept_16 : decode cL_kept 16 = .ok (.iconst 0, 1) := by decide +kernel
theorem dL_kept_17 : decode cL_kept 17 = .ok (.invokestatic 112, 3) := by decide +kernel
theorem dL_kept_20 : decode cL_kept 20 = .ok (.lcmp, 1) := by decide +kernel
theorem dL_kept_21 : decode cL_kept 21 = .ok (.ifCond .ge 535, 3) := by decide +kernel
theorem dL_kept_24 : decode cL_kept 24 = .ok (.iload 5, 2) := by decide +kernel
theorem dL_kept_26 : decode cL_kept 26 = .ok (.ifCond .eq 530, 3) := by decide +kernel
theorem dL_kept_29 : decode cL_kept 29 = .ok (.aload_n 0, 1) := by decide +kernel
theorem dL_kept_30 : decode cL_kept 30 = .ok (.iload 6, 2) := by decide +kernel
theorem dL_kept_32 : decode cL_kept 32 = .ok (.iconst 0, 1) := by decide +kernel
theorem dL_kept_33 : decode cL_kept 33 = .ok (.invokestatic 135, 3) := by decide +kernel
theorem dL_kept_36 : decode cL_kept 36 = .ok (.l2i, 1) := by decide +kernel
theorem dL_kept_37 : decode cL_kept 37 = .ok (.istore 7, 2) := by decide +kernel
theorem dL_kept_39 : decode cL_kept 39 = .ok (.lconst 0, 1) := by decide +kernel
theorem dL_kept_40 : decode cL_kept 40 = .ok (.lstore 8, 2) := by decide +kernel
theorem dL_kept_42 : decode cL_kept 42 = .ok (.iconst 0, 1) := by decide +kernel
theorem dL_kept_43 : decode cL_kept 43 = .ok (.istore 10, 2) := by decide +kernel
theorem dL_kept_45 : decode cL_kept 45 = .ok (.iconst 0, 1) := by decide +kernel
theorem dL_kept_46 : decode cL_kept 46 = .ok (.istore 11, 2) := by decide +kernel
theorem dL_kept_48 : decode cL_kept 48 = .ok (.iload 11, 2) := by decide +kernel
theorem dL_kept_50 : decode cL_kept 50 = .ok (.iload 7, 2) := by decide +kernel
theorem dL_kept_52 : decode cL_kept 52 = .ok (.if_icmp .ge 255, 3) := by decide +kernel
theorem dL_kept_55 : decode cL_kept 55 = .ok (.iload 5, 2) := by decide +kernel
theorem dL_kept_57 : decode cL_kept 57 = .ok (.ifCond .eq 250, 3) := by decide +kernel
theorem dL_kept_60 : decode cL_kept 60 = .ok (.aload_n 0, 1) := by decide +kernel
theorem dL_kept_61 : decode cL_kept 61 = .ok (.iload 6, 2) := by decide +kernel
theorem dL_kept_63 : decode cL_kept 63 = .ok (.iload 11, 2) := by decide +kernel
theorem dL_kept_65 : decode cL_kept 65 = .ok (.iconst 0, 1) := by decide +kernel
theorem dL_kept_66 : decode cL_kept 66 = .ok (.invokestatic 132, 3) := by decide +kernel
theorem dL_kept_69 : decode cL_kept 69 = .ok (.lstore 12, 2) := by decide +kernel
theorem dL_kept_71 : decode cL_kept 71 = .ok (.aload_n 0, 1) := by decide +kernel
theorem dL_kept_72 : decode cL_kept 72 = .ok (.iload 6, 2) := by decide +kernel
theorem dL_kept_74 : decode cL_kept 74 = .ok (.iload 11, 2) := by decide +kernel
theorem dL_kept_76 : decode cL_kept 76 = .ok (.iconst 1, 1) := by decide +kernel
theorem dL_kept_77 : decode cL_kept 77 = .ok (.invokestatic 132, 3) := by decide +kernel
theorem dL_kept_80 : decode cL_kept 80 = .ok (.lstore 14, 2) := by decide +kernel
theorem dL_kept_82 : decode cL_kept 82 = .ok (.aload_n 0, 1) := by decide +kernel
theorem dL_kept_83 : decode cL_kept 83 = .ok (.iload 6, 2) := by decide +kernel
theorem dL_kept_85 : decode cL_kept 85 = .ok (.iload 11, 2) := by decide +kernel
theorem dL_kept_87 : decode cL_kept 87 = .ok (.iconst 2, 1) := by decide +kernel
theorem dL_kept_88 : decode cL_kept 88 = .ok (.invokestatic 132, 3) := by decide +kernel
theorem dL_kept_91 : decode cL_kept 91 = .ok (.lstore 16, 2) := by decide +kernel
theorem dL_kept_93 : decode cL_kept 93 = .ok (.iload 11, 2) := by decide +kernel
theorem dL_kept_95 : decode cL_kept 95 = .ok (.ifCond .ne 13, 3) := by decide +kernel
theorem dL_kept_98 : decode cL_kept 98 = .ok (.lload 12, 2) := by decide +kernel
theorem dL_kept_100 : decode cL_kept 100 = .ok (.lconst 0, 1) := by decide +kernel
theorem dL_kept_101 : decode cL_kept 101 = .ok (.lcmp, 1) := by decide +kernel
theorem dL_kept_102 : decode cL_kept 102 = .ok (.ifCond .lt 54, 3) := by decide +kernel
theorem dL_kept_105 : decode cL_kept 105 = .ok (.goto 11, 3) := by decide +kernel
theorem dL_kept_108 : decode cL_kept 108 = .ok (.lload 12, 2) := by decide +kernel
theorem dL_kept_110 : decode cL_kept 110 = .ok (.lload 8, 2) := by decide +kernel
theorem dL_kept_112 : decode cL_kept 112 = .ok (.lcmp, 1) := by decide +kernel
theorem dL_kept_113 : decode cL_kept 113 = .ok (.ifCond .ne 43, 3) := by decide +kernel
theorem dL_kept_116 : decode cL_kept 116 = .ok (.lload 14, 2) := by decide +kernel
theorem dL_kept_118 : decode cL_kept 118 = .ok (.lconst 0, 1) := by decide +kernel
theorem dL_kept_119 : decode cL_kept 119 = .ok (.lcmp, 1) := by decide +kernel
theorem dL_kept_120 : decode cL_kept 120 = .ok (.ifCond .le 36, 3) := by decide +kernel
theorem dL_kept_123 : decode cL_kept 123 = .ok (.lload 16, 2) := by decide +kernel
theorem dL_kept_125 : decode cL_kept 125 = .ok (.lconst 0, 1) := by decide +kernel
theorem dL_kept_126 : decode cL_kept 126 = .ok (.lcmp, 1) := by decide +kernel
theorem dL_kept_127 : decode cL_kept 127 = .ok (.ifCond .le 7, 3) := by decide +kernel
theorem dL_kept_130 : decode cL_kept 130 = .ok (.iconst 1, 1) := by decide +kernel
theorem dL_kept_131 : decode cL_kept 131 = .ok (.goto 4, 3) := by decide +kernel
theorem dL_kept_134 : decode cL_kept 134 = .ok (.iconst 0, 1) := by decide +kernel
theorem dL_kept_135 : decode cL_kept 135 = .ok (.iload 11, 2) := by decide +kernel
theorem dL_kept_137 : decode cL_kept 137 = .ok (.iconst 1, 1) := by decide +kernel
theorem dL_kept_138 : decode cL_kept 138 = .ok (.iadd, 1) := by decide +kernel
theorem dL_kept_139 : decode cL_kept 139 = .ok (.iload 7, 2) := by decide +kernel
theorem dL_kept_141 : decode cL_kept 141 = .ok (.if_icmp .ge 7, 3) := by decide +kernel
theorem dL_kept_144 : decode cL_kept 144 = .ok (.iconst 1, 1) := by decide +kernel
theorem dL_kept_145 : decode cL_kept 145 = .ok (.goto 4, 3) := by decide +kernel
theorem dL_kept_148 : decode cL_kept 148 = .ok (.iconst 0, 1) := by decide +kernel
theorem dL_kept_149 : decode cL_kept 149 = .ok (.if_icmp .ne 7, 3) := by decide +kernel
theorem dL_kept_152 : decode cL_kept 152 = .ok (.iconst 1, 1) := by decide +kernel
theorem dL_kept_153 : decode cL_kept 153 = .ok (.goto 4, 3) := by decide +kernel
theorem dL_kept_156 : decode cL_kept 156 = .ok (.iconst 0, 1) := by decide +kernel
theorem dL_kept_157 : decode cL_kept 157 = .ok (.istore 5, 2) := by decide +kernel
theorem dL_kept_159 : decode cL_kept 159 = .ok (.lload 12, 2) := by decide +kernel
theorem dL_kept_161 : decode cL_kept 161 = .ok (.l2i, 1) := by decide +kernel
theorem dL_kept_162 : decode cL_kept 162 = .ok (.istore 18, 2) := by decide +kernel
theorem dL_kept_164 : decode cL_kept 164 = .ok (.iload 18, 2) := by decide +kernel
theorem dL_kept_166 : decode cL_kept 166 = .ok (.i2l, 1) := by decide +kernel
theorem dL_kept_167 : decode cL_kept 167 = .ok (.lload 12, 2) := by decide +kernel
theorem dL_kept_169 : decode cL_kept 169 = .ok (.lload 14, 2) := by decide +kernel
theorem dL_kept_171 : decode cL_kept 171 = .ok (.ladd, 1) := by decide +kernel
theorem dL_kept_172 : decode cL_kept 172 = .ok (.lcmp, 1) := by decide +kernel
theorem dL_kept_173 : decode cL_kept 173 = .ok (.ifCond .ge 42, 3) := by decide +kernel
theorem dL_kept_176 : decode cL_kept 176 = .ok (.iload 5, 2) := by decide +kernel
theorem dL_kept_178 : decode cL_kept 178 = .ok (.ifCond .eq 28, 3) := by decide +kernel
theorem dL_kept_181 : decode cL_kept 181 = .ok (.aload_n 0, 1) := by decide +kernel
theorem dL_kept_182 : decode cL_kept 182 = .ok (.iload 6, 2) := by decide +kernel
theorem dL_kept_184 : decode cL_kept 184 = .ok (.iload 18, 2) := by decide +kernel
theorem dL_kept_186 : decode cL_kept 186 = .ok (.invokestatic 120, 3) := by decide +kernel
theorem dL_kept_189 : decode cL_kept 189 = .ok (.aload_n 0, 1) := by decide +kernel
theorem dL_kept_190 : decode cL_kept 190 = .ok (.iload 6, 2) := by decide +kernel
theorem dL_kept_192 : decode cL_kept 192 = .ok (.iload 11, 2) := by decide +kernel
theorem dL_kept_194 : decode cL_kept 194 = .ok (.iconst 3, 1) := by decide +kernel
theorem dL_kept_195 : decode cL_kept 195 = .ok (.invokestatic 132, 3) := by decide +kernel
theorem dL_kept_198 : decode cL_kept 198 = .ok (.lcmp, 1) := by decide +kernel
theorem dL_kept_199 : decode cL_kept 199 = .ok (.ifCond .lt 7, 3) := by decide +kernel
theorem dL_kept_202 : decode cL_kept 202 = .ok (.iconst 1, 1) := by decide +kernel
theorem dL_kept_203 : decode cL_kept 203 = .ok (.goto 4, 3) := by decide +kernel
theorem dL_kept_206 : decode cL_kept 206 = .ok (.iconst 0, 1) := by decide +kernel
theorem dL_kept_207 : decode cL_kept 207 = .ok (.istore 5, 2) := by decide +kernel
theorem dL_kept_209 : decode cL_kept 209 = .ok (.iinc 18 1, 3) := by decide +kernel
theorem dL_kept_212 : decode cL_kept 212 = .ok (.goto (-48), 3) := by decide +kernel
theorem dL_kept_215 : decode cL_kept 215 = .ok (.iload 5, 2) := by decide +kernel
theorem dL_kept_217 : decode cL_kept 217 = .ok (.ifCond .eq 63, 3) := by decide +kernel
theorem dL_kept_220 : decode cL_kept 220 = .ok (.lload 12, 2) := by decide +kernel
theorem dL_kept_222 : decode cL_kept 222 = .ok (.lconst 0, 1) := by decide +kernel
theorem dL_kept_223 : decode cL_kept 223 = .ok (.lcmp, 1) := by decide +kernel
theorem dL_kept_224 : decode cL_kept 224 = .ok (.ifCond .eq 21, 3) := by decide +kernel
theorem dL_kept_227 : decode cL_kept 227 = .ok (.aload_n 0, 1) := by decide +kernel
theorem dL_kept_228 : decode cL_kept 228 = .ok (.iload 6, 2) := by decide +kernel
theorem dL_kept_230 : decode cL_kept 230 = .ok (.lload 12, 2) := by decide +kernel
theorem dL_kept_232 : decode cL_kept 232 = .ok (.l2i, 1) := by decide +kernel
theorem dL_kept_233 : decode cL_kept 233 = .ok (.iconst 1, 1) := by decide +kernel
theorem dL_kept_234 : decode cL_kept 234 = .ok (.isub, 1) := by decide +kernel
theorem dL_kept_235 : decode cL_kept 235 = .ok (.invokestatic 120, 3) := by decide +kernel
theorem dL_kept_238 : decode cL_kept 238 = .ok (.ldc2_w 177, 3) := by decide +kernel
theorem dL_kept_241 : decode cL_kept 241 = .ok (.lcmp, 1) := by decide +kernel
theorem dL_kept_242 : decode cL_kept 242 = .ok (.ifCond .ne 38, 3) := by decide +kernel
theorem dL_kept_245 : decode cL_kept 245 = .ok (.lload 12, 2) := by decide +kernel
theorem dL_kept_247 : decode cL_kept 247 = .ok (.lload 14, 2) := by decide +kernel
theorem dL_kept_249 : decode cL_kept 249 = .ok (.ladd, 1) := by decide +kernel
theorem dL_kept_250 : decode cL_kept 250 = .ok (.ldc2_w 179, 3) := by decide +kernel
theorem dL_kept_253 : decode cL_kept 253 = .ok (.lcmp, 1) := by decide +kernel
theorem dL_kept_254 : decode cL_kept 254 = .ok (.ifCond .eq 22, 3) := by decide +kernel
theorem dL_kept_257 : decode cL_kept 257 = .ok (.aload_n 0, 1) := by decide +kernel
theorem dL_kept_258 : decode cL_kept 258 = .ok (.iload 6, 2) := by decide +kernel
theorem dL_kept_260 : decode cL_kept 260 = .ok (.lload 12, 2) := by decide +kernel
theorem dL_kept_262 : decode cL_kept 262 = .ok (.lload 14, 2) := by decide +kernel
theorem dL_kept_264 : decode cL_kept 264 = .ok (.ladd, 1) := by decide +kernel
theorem dL_kept_265 : decode cL_kept 265 = .ok (.l2i, 1) := by decide +kernel
theorem dL_kept_266 : decode cL_kept 266 = .ok (.invokestatic 120, 3) := by decide +kernel
theorem dL_kept_269 : decode cL_kept 269 = .ok (.ldc2_w 177, 3) := by decide +kernel
theorem dL_kept_272 : decode cL_kept 272 = .ok (.lcmp, 1) := by decide +kernel
theorem dL_kept_273 : decode cL_kept 273 = .ok (.ifCond .ne 7, 3) := by decide +kernel
theorem dL_kept_276 : decode cL_kept 276 = .ok (.iconst 1, 1) := by decide +kernel
theorem dL_kept_277 : decode cL_kept 277 = .ok (.goto 4, 3) := by decide +kernel
theorem dL_kept_280 : decode cL_kept 280 = .ok (.iconst 0, 1) := by decide +kernel
theorem dL_kept_281 : decode cL_kept 281 = .ok (.istore 5, 2) := by decide +kernel
theorem dL_kept_283 : decode cL_kept 283 = .ok (.iload 10, 2) := by decide +kernel
theorem dL_kept_285 : decode cL_kept 285 = .ok (.lload 14, 2) := by decide +kernel
theorem dL_kept_287 : decode cL_kept 287 = .ok (.l2i, 1) := by decide +kernel
theorem dL_kept_288 : decode cL_kept 288 = .ok (.iadd, 1) := by decide +kernel
theorem dL_kept_289 : decode cL_kept 289 = .ok (.istore 10, 2) := by decide +kernel
theorem dL_kept_291 : decode cL_kept 291 = .ok (.lload 12, 2) := by decide +kernel
theorem dL_kept_293 : decode cL_kept 293 = .ok (.lload 14, 2) := by decide +kernel
theorem dL_kept_295 : decode cL_kept 295 = .ok (.ladd, 1) := by decide +kernel
theorem dL_kept_296 : decode cL_kept 296 = .ok (.lload 16, 2) := by decide +kernel
theorem dL_kept_298 : decode cL_kept 298 = .ok (.ladd, 1) := by decide +kernel
theorem dL_kept_299 : decode cL_kept 299 = .ok (.lstore 8, 2) := by decide +kernel
theorem dL_kept_301 : decode cL_kept 301 = .ok (.iinc 11 1, 3) := by decide +kernel
theorem dL_kept_304 : decode cL_kept 304 = .ok (.goto (-256), 3) := by decide +kernel
theorem dL_kept_307 : decode cL_kept 307 = .ok (.iconst 0, 1) := by decide +kernel
theorem dL_kept_308 : decode cL_kept 308 = .ok (.istore 11, 2) := by decide +kernel
theorem dL_kept_310 : decode cL_kept 310 = .ok (.iconst 0, 1) := by decide +kernel
theorem dL_kept_311 : decode cL_kept 311 = .ok (.istore 12, 2) := by decide +kernel
theorem dL_kept_313 : decode cL_kept 313 = .ok (.iload 12, 2) := by decide +kernel
theorem dL_kept_315 : decode cL_kept 315 = .ok (.bipush 30, 2) := by decide +kernel
theorem dL_kept_317 : decode cL_kept 317 = .ok (.if_icmp .ge 63, 3) := by decide +kernel
theorem dL_kept_320 : decode cL_kept 320 = .ok (.iload 11, 2) := by decide +kernel
theorem dL_kept_322 : decode cL_kept 322 = .ok (.aload_n 0, 1) := by decide +kernel
theorem dL_kept_323 : decode cL_kept 323 = .ok (.iload 6, 2) := by decide +kernel
theorem dL_kept_325 : decode cL_kept 325 = .ok (.iload 12, 2) := by decide +kernel
theorem dL_kept_327 : decode cL_kept 327 = .ok (.invokestatic 120, 3) := by decide +kernel
theorem dL_kept_330 : decode cL_kept 330 = .ok (.ldc2_w 177, 3) := by decide +kernel
theorem dL_kept_333 : decode cL_kept 333 = .ok (.lcmp, 1) := by decide +kernel
theorem dL_kept_334 : decode cL_kept 334 = .ok (.ifCond .ne 7, 3) := by decide +kernel
theorem dL_kept_337 : decode cL_kept 337 = .ok (.iconst 0, 1) := by decide +kernel
theorem dL_kept_338 : decode cL_kept 338 = .ok (.goto 4, 3) := by decide +kernel
theorem dL_kept_341 : decode cL_kept 341 = .ok (.iconst 1, 1) := by decide +kernel
theorem dL_kept_342 : decode cL_kept 342 = .ok (.iadd, 1) := by decide +kernel
theorem dL_kept_343 : decode cL_kept 343 = .ok (.istore 11, 2) := by decide +kernel
theorem dL_kept_345 : decode cL_kept 345 = .ok (.iload 5, 2) := by decide +kernel
theorem dL_kept_347 : decode cL_kept 347 = .ok (.ifCond .eq 24, 3) := by decide +kernel
theorem dL_kept_350 : decode cL_kept 350 = .ok (.aload_n 0, 1) := by decide +kernel
theorem dL_kept_351 : decode cL_kept 351 = .ok (.iload 6, 2) := by decide +kernel
theorem dL_kept_353 : decode cL_kept 353 = .ok (.iload 12, 2) := by decide +kernel
theorem dL_kept_355 : decode cL_kept 355 = .ok (.invokestatic 120, 3) := by decide +kernel
theorem dL_kept_358 : decode cL_kept 358 = .ok (.aload_n 0, 1) := by decide +kernel
theorem dL_kept_359 : decode cL_kept 359 = .ok (.iconst 3, 1) := by decide +kernel
theorem dL_kept_360 : decode cL_kept 360 = .ok (.invokestatic 112, 3) := by decide +kernel
theorem dL_kept_363 : decode cL_kept 363 = .ok (.lcmp, 1) := by decide +kernel
theorem dL_kept_364 : decode cL_kept 364 = .ok (.ifCond .gt 7, 3) := by decide +kernel
theorem dL_kept_367 : decode cL_kept 367 = .ok (.iconst 1, 1) := by decide +kernel
theorem dL_kept_368 : decode cL_kept 368 = .ok (.goto 4, 3) := by decide +kernel
theorem dL_kept_371 : decode cL_kept 371 = .ok (.iconst 0, 1) := by decide +kernel
theorem dL_kept_372 : decode cL_kept 372 = .ok (.istore 5, 2) := by decide +kernel
theorem dL_kept_374 : decode cL_kept 374 = .ok (.iinc 12 1, 3) := by decide +kernel
theorem dL_kept_377 : decode cL_kept 377 = .ok (.goto (-64), 3) := by decide +kernel
theorem dL_kept_380 : decode cL_kept 380 = .ok (.iload 5, 2) := by decide +kernel
theorem dL_kept_382 : decode cL_kept 382 = .ok (.ifCond .eq 155, 3) := by decide +kernel
theorem dL_kept_385 : decode cL_kept 385 = .ok (.iload 11, 2) := by decide +kernel
theorem dL_kept_387 : decode cL_kept 387 = .ok (.iload 10, 2) := by decide +kernel
theorem dL_kept_389 : decode cL_kept 389 = .ok (.if_icmp .ne 148, 3) := by decide +kernel
theorem dL_kept_392 : decode cL_kept 392 = .ok (.aload_n 0, 1) := by decide +kernel
theorem dL_kept_393 : decode cL_kept 393 = .ok (.iload 6, 2) := by decide +kernel
theorem dL_kept_395 : decode cL_kept 395 = .ok (.iconst 5, 1) := by decide +kernel
theorem dL_kept_396 : decode cL_kept 396 = .ok (.invokestatic 117, 3) := by decide +kernel
theorem dL_kept_399 : decode cL_kept 399 = .ok (.iload 10, 2) := by decide +kernel
theorem dL_kept_401 : decode cL_kept 401 = .ok (.i2l, 1) := by decide +kernel
theorem dL_kept_402 : decode cL_kept 402 = .ok (.lcmp, 1) := by decide +kernel
theorem dL_kept_403 : decode cL_kept 403 = .ok (.ifCond .ne 134, 3) := by decide +kernel
theorem dL_kept_406 : decode cL_kept 406 = .ok (.aload_n 0, 1) := by decide +kernel
theorem dL_kept_407 : decode cL_kept 407 = .ok (.iload 6, 2) := by decide +kernel
theorem dL_kept_409 : decode cL_kept 409 = .ok (.iconst 1, 1) := by decide +kernel
theorem dL_kept_410 : decode cL_kept 410 = .ok (.invokestatic 135, 3) := by decide +kernel
theorem dL_kept_413 : decode cL_kept 413 = .ok (.iload 7, 2) := by decide +kernel
theorem dL_kept_415 : decode cL_kept 415 = .ok (.i2l, 1) := by decide +kernel
theorem dL_kept_416 : decode cL_kept 416 = .ok (.lcmp, 1) := by decide +kernel
theorem dL_kept_417 : decode cL_kept 417 = .ok (.ifCond .ne 120, 3) := by decide +kernel
theorem dL_kept_420 : decode cL_kept 420 = .ok (.aload_n 0, 1) := by decide +kernel
theorem dL_kept_421 : decode cL_kept 421 = .ok (.iload 6, 2) := by decide +kernel
theorem dL_kept_423 : decode cL_kept 423 = .ok (.bipush 6, 2) := by decide +kernel
theorem dL_kept_425 : decode cL_kept 425 = .ok (.invokestatic 117, 3) := by decide +kernel
theorem dL_kept_428 : decode cL_kept 428 = .ok (.iload 7, 2) := by decide +kernel
theorem dL_kept_430 : decode cL_kept 430 = .ok (.i2l, 1) := by decide +kernel
theorem dL_kept_431 : decode cL_kept 431 = .ok (.lcmp, 1) := by decide +kernel
theorem dL_kept_432 : decode cL_kept 432 = .ok (.ifCond .ne 105, 3) := by decide +kernel
theorem dL_kept_435 : decode cL_kept 435 = .ok (.aload_n 0, 1) := by decide +kernel
theorem dL_kept_436 : decode cL_kept 436 = .ok (.iload 6, 2) := by decide +kernel
theorem dL_kept_438 : decode cL_kept 438 = .ok (.iconst 0, 1) := by decide +kernel
theorem dL_kept_439 : decode cL_kept 439 = .ok (.invokestatic 117, 3) := by decide +kernel
theorem dL_kept_442 : decode cL_kept 442 = .ok (.lconst 0, 1) := by decide +kernel
theorem dL_kept_443 : decode cL_kept 443 = .ok (.ldc2_w 181, 3) := by decide +kernel
theorem dL_kept_446 : decode cL_kept 446 = .ok (.invokestatic 183, 3) := by decide +kernel
theorem dL_kept_449 : decode cL_kept 449 = .ok (.ifCond .eq 88, 3) := by decide +kernel
theorem dL_kept_452 : decode cL_kept 452 = .ok (.aload_n 0, 1) := by decide +kernel
theorem dL_kept_453 : decode cL_kept 453 = .ok (.iload 6, 2) := by decide +kernel
theorem dL_kept_455 : decode cL_kept 455 = .ok (.iconst 2, 1) := by decide +kernel
theorem dL_kept_456 : decode cL_kept 456 = .ok (.invokestatic 117, 3) := by decide +kernel
theorem dL_kept_459 : decode cL_kept 459 = .ok (.lconst 0, 1) := by decide +kernel
theorem dL_kept_460 : decode cL_kept 460 = .ok (.lcmp, 1) := by decide +kernel
theorem dL_kept_461 : decode cL_kept 461 = .ok (.ifCond .eq 15, 3) := by decide +kernel
theorem dL_kept_464 : decode cL_kept 464 = .ok (.aload_n 0, 1) := by decide +kernel
theorem dL_kept_465 : decode cL_kept 465 = .ok (.iload 6, 2) := by decide +kernel
theorem dL_kept_467 : decode cL_kept 467 = .ok (.iconst 3, 1) := by decide +kernel
theorem dL_kept_468 : decode cL_kept 468 = .ok (.invokestatic 117, 3) := by decide +kernel
theorem dL_kept_471 : decode cL_kept 471 = .ok (.lconst 0, 1) := by decide +kernel
theorem dL_kept_472 : decode cL_kept 472 = .ok (.lcmp, 1) := by decide +kernel
theorem dL_kept_473 : decode cL_kept 473 = .ok (.ifCond .ne 64, 3) := by decide +kernel
theorem dL_kept_476 : decode cL_kept 476 = .ok (.aload_n 0, 1) := by decide +kernel
theorem dL_kept_477 : decode cL_kept 477 = .ok (.iload 6, 2) := by decide +kernel
theorem dL_kept_479 : decode cL_kept 479 = .ok (.iconst 2, 1) := by decide +kernel
