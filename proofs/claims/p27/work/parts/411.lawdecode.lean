theorem dL_act_159 : decode cL_act 159 = .ok (.istore 9, 2) := by decide +kernel
theorem dL_act_161 : decode cL_act 161 = .ok (.iload 4, 2) := by decide +kernel
theorem dL_act_163 : decode cL_act 163 = .ok (.bipush 6, 2) := by decide +kernel
theorem dL_act_165 : decode cL_act 165 = .ok (.if_icmp .lt 9, 3) := by decide +kernel
theorem dL_act_168 : decode cL_act 168 = .ok (.iload 6, 2) := by decide +kernel
theorem dL_act_170 : decode cL_act 170 = .ok (.iconst 2, 1) := by decide +kernel
theorem dL_act_171 : decode cL_act 171 = .ok (.if_icmp .ge 96, 3) := by decide +kernel
theorem dL_act_174 : decode cL_act 174 = .ok (.aload_n 0, 1) := by decide +kernel
theorem dL_act_175 : decode cL_act 175 = .ok (.iconst 0, 1) := by decide +kernel
theorem dL_act_176 : decode cL_act 176 = .ok (.iload_n 3, 1) := by decide +kernel
theorem dL_act_177 : decode cL_act 177 = .ok (.ifCond .eq 18, 3) := by decide +kernel
theorem dL_act_180 : decode cL_act 180 = .ok (.iload 5, 2) := by decide +kernel
theorem dL_act_182 : decode cL_act 182 = .ok (.sipush 2200, 3) := by decide +kernel
theorem dL_act_185 : decode cL_act 185 = .ok (.invokestatic 101, 3) := by decide +kernel
theorem dL_act_188 : decode cL_act 188 = .ok (.sipush 1100, 3) := by decide +kernel
theorem dL_act_191 : decode cL_act 191 = .ok (.isub, 1) := by decide +kernel
theorem dL_act_192 : decode cL_act 192 = .ok (.goto 39, 3) := by decide +kernel
theorem dL_act_195 : decode cL_act 195 = .ok (.iload 5, 2) := by decide +kernel
theorem dL_act_197 : decode cL_act 197 = .ok (.iload 5, 2) := by decide +kernel
theorem dL_act_199 : decode cL_act 199 = .ok (.iconst 3, 1) := by decide +kernel
theorem dL_act_200 : decode cL_act 200 = .ok (.iand, 1) := by decide +kernel
theorem dL_act_201 : decode cL_act 201 = .ok (.ifCond .ne 9, 3) := by decide +kernel
theorem dL_act_204 : decode cL_act 204 = .ok (.sipush 401, 3) := by decide +kernel
theorem dL_act_207 : decode cL_act 207 = .ok (.goto 5, 3) := by decide +kernel
theorem dL_act_210 : decode cL_act 210 = .ok (.bipush 41, 2) := by decide +kernel
theorem dL_act_212 : decode cL_act 212 = .ok (.invokestatic 101, 3) := by decide +kernel
theorem dL_act_215 : decode cL_act 215 = .ok (.iload 5, 2) := by decide +kernel
theorem dL_act_217 : decode cL_act 217 = .ok (.iconst 3, 1) := by decide +kernel
theorem dL_act_218 : decode cL_act 218 = .ok (.iand, 1) := by decide +kernel
theorem dL_act_219 : decode cL_act 219 = .ok (.ifCond .ne 9, 3) := by decide +kernel
theorem dL_act_222 : decode cL_act 222 = .ok (.sipush 200, 3) := by decide +kernel
theorem dL_act_225 : decode cL_act 225 = .ok (.goto 5, 3) := by decide +kernel
theorem dL_act_228 : decode cL_act 228 = .ok (.bipush 20, 2) := by decide +kernel
theorem dL_act_230 : decode cL_act 230 = .ok (.isub, 1) := by decide +kernel
theorem dL_act_231 : decode cL_act 231 = .ok (.iload_n 3, 1) := by decide +kernel
theorem dL_act_232 : decode cL_act 232 = .ok (.ifCond .eq 19, 3) := by decide +kernel
theorem dL_act_235 : decode cL_act 235 = .ok (.iload 5, 2) := by decide +kernel
theorem dL_act_237 : decode cL_act 237 = .ok (.iconst 4, 1) := by decide +kernel
theorem dL_act_238 : decode cL_act 238 = .ok (.ishr, 1) := by decide +kernel
theorem dL_act_239 : decode cL_act 239 = .ok (.sipush 1100, 3) := by decide +kernel
theorem dL_act_242 : decode cL_act 242 = .ok (.invokestatic 101, 3) := by decide +kernel
theorem dL_act_245 : decode cL_act 245 = .ok (.bipush 20, 2) := by decide +kernel
theorem dL_act_247 : decode cL_act 247 = .ok (.isub, 1) := by decide +kernel
theorem dL_act_248 : decode cL_act 248 = .ok (.goto 14, 3) := by decide +kernel
theorem dL_act_251 : decode cL_act 251 = .ok (.iconst 1, 1) := by decide +kernel
theorem dL_act_252 : decode cL_act 252 = .ok (.iload 5, 2) := by decide +kernel
theorem dL_act_254 : decode cL_act 254 = .ok (.iconst 4, 1) := by decide +kernel
theorem dL_act_255 : decode cL_act 255 = .ok (.ishr, 1) := by decide +kernel
theorem dL_act_256 : decode cL_act 256 = .ok (.bipush 30, 2) := by decide +kernel
theorem dL_act_258 : decode cL_act 258 = .ok (.invokestatic 101, 3) := by decide +kernel
theorem dL_act_261 : decode cL_act 261 = .ok (.iadd, 1) := by decide +kernel
theorem dL_act_262 : decode cL_act 262 = .ok (.iconst 0, 1) := by decide +kernel
theorem dL_act_263 : decode cL_act 263 = .ok (.invokestatic 108, 3) := by decide +kernel
theorem dL_act_266 : decode cL_act 266 = .ok (.lreturn, 1) := by decide +kernel
theorem dL_act_267 : decode cL_act 267 = .ok (.iload 4, 2) := by decide +kernel
theorem dL_act_269 : decode cL_act 269 = .ok (.bipush 18, 2) := by decide +kernel
theorem dL_act_271 : decode cL_act 271 = .ok (.if_icmp .ge 227, 3) := by decide +kernel
theorem dL_act_274 : decode cL_act 274 = .ok (.iload 4, 2) := by decide +kernel
theorem dL_act_276 : decode cL_act 276 = .ok (.bipush 8, 2) := by decide +kernel
theorem dL_act_278 : decode cL_act 278 = .ok (.if_icmp .ge 7, 3) := by decide +kernel
theorem dL_act_281 : decode cL_act 281 = .ok (.iconst 1, 1) := by decide +kernel
theorem dL_act_282 : decode cL_act 282 = .ok (.goto 73, 3) := by decide +kernel
theorem dL_act_285 : decode cL_act 285 = .ok (.iload 4, 2) := by decide +kernel
theorem dL_act_287 : decode cL_act 287 = .ok (.bipush 10, 2) := by decide +kernel
theorem dL_act_289 : decode cL_act 289 = .ok (.if_icmp .ge 7, 3) := by decide +kernel
theorem dL_act_292 : decode cL_act 292 = .ok (.iconst 2, 1) := by decide +kernel
theorem dL_act_293 : decode cL_act 293 = .ok (.goto 62, 3) := by decide +kernel
theorem dL_act_296 : decode cL_act 296 = .ok (.iload 4, 2) := by decide +kernel
theorem dL_act_298 : decode cL_act 298 = .ok (.bipush 13, 2) := by decide +kernel
theorem dL_act_300 : decode cL_act 300 = .ok (.if_icmp .ge 7, 3) := by decide +kernel
theorem dL_act_303 : decode cL_act 303 = .ok (.iconst 3, 1) := by decide +kernel
theorem dL_act_304 : decode cL_act 304 = .ok (.goto 51, 3) := by decide +kernel
theorem dL_act_307 : decode cL_act 307 = .ok (.iload 4, 2) := by decide +kernel
theorem dL_act_309 : decode cL_act 309 = .ok (.bipush 14, 2) := by decide +kernel
theorem dL_act_311 : decode cL_act 311 = .ok (.if_icmp .ge 7, 3) := by decide +kernel
theorem dL_act_314 : decode cL_act 314 = .ok (.iconst 4, 1) := by decide +kernel
theorem dL_act_315 : decode cL_act 315 = .ok (.goto 40, 3) := by decide +kernel
theorem dL_act_318 : decode cL_act 318 = .ok (.iload 4, 2) := by decide +kernel
theorem dL_act_320 : decode cL_act 320 = .ok (.bipush 15, 2) := by decide +kernel
theorem dL_act_322 : decode cL_act 322 = .ok (.if_icmp .ge 7, 3) := by decide +kernel
theorem dL_act_325 : decode cL_act 325 = .ok (.iconst 5, 1) := by decide +kernel
theorem dL_act_326 : decode cL_act 326 = .ok (.goto 29, 3) := by decide +kernel
theorem dL_act_329 : decode cL_act 329 = .ok (.iload 4, 2) := by decide +kernel
theorem dL_act_331 : decode cL_act 331 = .ok (.bipush 16, 2) := by decide +kernel
theorem dL_act_333 : decode cL_act 333 = .ok (.if_icmp .ge 8, 3) := by decide +kernel
theorem dL_act_336 : decode cL_act 336 = .ok (.bipush 6, 2) := by decide +kernel
theorem dL_act_338 : decode cL_act 338 = .ok (.goto 17, 3) := by decide +kernel
theorem dL_act_341 : decode cL_act 341 = .ok (.iload 4, 2) := by decide +kernel
theorem dL_act_343 : decode cL_act 343 = .ok (.bipush 17, 2) := by decide +kernel
theorem dL_act_345 : decode cL_act 345 = .ok (.if_icmp .ge 8, 3) := by decide +kernel
theorem dL_act_348 : decode cL_act 348 = .ok (.bipush 7, 2) := by decide +kernel
theorem dL_act_350 : decode cL_act 350 = .ok (.goto 5, 3) := by decide +kernel
theorem dL_act_353 : decode cL_act 353 = .ok (.bipush 8, 2) := by decide +kernel
theorem dL_act_355 : decode cL_act 355 = .ok (.istore 10, 2) := by decide +kernel
theorem dL_act_357 : decode cL_act 357 = .ok (.iload 6, 2) := by decide +kernel
theorem dL_act_359 : decode cL_act 359 = .ok (.bipush 17, 2) := by decide +kernel
theorem dL_act_361 : decode cL_act 361 = .ok (.if_icmp .le 9, 3) := by decide +kernel
theorem dL_act_364 : decode cL_act 364 = .ok (.ldc2_w 62, 3) := by decide +kernel
theorem dL_act_367 : decode cL_act 367 = .ok (.goto 130, 3) := by decide +kernel
theorem dL_act_370 : decode cL_act 370 = .ok (.iload 10, 2) := by decide +kernel
theorem dL_act_372 : decode cL_act 372 = .ok (.bipush 8, 2) := by decide +kernel
theorem dL_act_374 : decode cL_act 374 = .ok (.if_icmp .ne 94, 3) := by decide +kernel
theorem dL_act_377 : decode cL_act 377 = .ok (.aload_n 0, 1) := by decide +kernel
theorem dL_act_378 : decode cL_act 378 = .ok (.iload 5, 2) := by decide +kernel
theorem dL_act_380 : decode cL_act 380 = .ok (.bipush 19, 2) := by decide +kernel
theorem dL_act_382 : decode cL_act 382 = .ok (.invokestatic 101, 3) := by decide +kernel
theorem dL_act_385 : decode cL_act 385 = .ok (.bipush 9, 2) := by decide +kernel
theorem dL_act_387 : decode cL_act 387 = .ok (.isub, 1) := by decide +kernel
theorem dL_act_388 : decode cL_act 388 = .ok (.iload 5, 2) := by decide +kernel
theorem dL_act_390 : decode cL_act 390 = .ok (.iconst 2, 1) := by decide +kernel
theorem dL_act_391 : decode cL_act 391 = .ok (.ishr, 1) := by decide +kernel
theorem dL_act_392 : decode cL_act 392 = .ok (.bipush 19, 2) := by decide +kernel
theorem dL_act_394 : decode cL_act 394 = .ok (.invokestatic 101, 3) := by decide +kernel
theorem dL_act_397 : decode cL_act 397 = .ok (.bipush 9, 2) := by decide +kernel
theorem dL_act_399 : decode cL_act 399 = .ok (.isub, 1) := by decide +kernel
theorem dL_act_400 : decode cL_act 400 = .ok (.iload 5, 2) := by decide +kernel
theorem dL_act_402 : decode cL_act 402 = .ok (.iconst 4, 1) := by decide +kernel
theorem dL_act_403 : decode cL_act 403 = .ok (.ishr, 1) := by decide +kernel
theorem dL_act_404 : decode cL_act 404 = .ok (.bipush 19, 2) := by decide +kernel
theorem dL_act_406 : decode cL_act 406 = .ok (.invokestatic 101, 3) := by decide +kernel
theorem dL_act_409 : decode cL_act 409 = .ok (.bipush 9, 2) := by decide +kernel
theorem dL_act_411 : decode cL_act 411 = .ok (.isub, 1) := by decide +kernel
theorem dL_act_412 : decode cL_act 412 = .ok (.iload 5, 2) := by decide +kernel
theorem dL_act_414 : decode cL_act 414 = .ok (.bipush 6, 2) := by decide +kernel
theorem dL_act_416 : decode cL_act 416 = .ok (.ishr, 1) := by decide +kernel
theorem dL_act_417 : decode cL_act 417 = .ok (.bipush 19, 2) := by decide +kernel
theorem dL_act_419 : decode cL_act 419 = .ok (.invokestatic 101, 3) := by decide +kernel
theorem dL_act_422 : decode cL_act 422 = .ok (.bipush 9, 2) := by decide +kernel
theorem dL_act_424 : decode cL_act 424 = .ok (.isub, 1) := by decide +kernel
theorem dL_act_425 : decode cL_act 425 = .ok (.iload 5, 2) := by decide +kernel
theorem dL_act_427 : decode cL_act 427 = .ok (.iconst 3, 1) := by decide +kernel
theorem dL_act_428 : decode cL_act 428 = .ok (.ishr, 1) := by decide +kernel
theorem dL_act_429 : decode cL_act 429 = .ok (.iload_n 3, 1) := by decide +kernel
theorem dL_act_430 : decode cL_act 430 = .ok (.ifCond .eq 8, 3) := by decide +kernel
theorem dL_act_433 : decode cL_act 433 = .ok (.bipush 10, 2) := by decide +kernel
theorem dL_act_435 : decode cL_act 435 = .ok (.goto 5, 3) := by decide +kernel
theorem dL_act_438 : decode cL_act 438 = .ok (.bipush 8, 2) := by decide +kernel
theorem dL_act_440 : decode cL_act 440 = .ok (.invokestatic 101, 3) := by decide +kernel
theorem dL_act_443 : decode cL_act 443 = .ok (.iconst 4, 1) := by decide +kernel
theorem dL_act_444 : decode cL_act 444 = .ok (.isub, 1) := by decide +kernel
theorem dL_act_445 : decode cL_act 445 = .ok (.iload 5, 2) := by decide +kernel
theorem dL_act_447 : decode cL_act 447 = .ok (.iconst 5, 1) := by decide +kernel
theorem dL_act_448 : decode cL_act 448 = .ok (.ishr, 1) := by decide +kernel
theorem dL_act_449 : decode cL_act 449 = .ok (.iload_n 3, 1) := by decide +kernel
theorem dL_act_450 : decode cL_act 450 = .ok (.ifCond .eq 7, 3) := by decide +kernel
theorem dL_act_453 : decode cL_act 453 = .ok (.iconst 4, 1) := by decide +kernel
theorem dL_act_454 : decode cL_act 454 = .ok (.goto 4, 3) := by decide +kernel
theorem dL_act_457 : decode cL_act 457 = .ok (.iconst 3, 1) := by decide +kernel
theorem dL_act_458 : decode cL_act 458 = .ok (.invokestatic 101, 3) := by decide +kernel
theorem dL_act_461 : decode cL_act 461 = .ok (.invokestatic 112, 3) := by decide +kernel
theorem dL_act_464 : decode cL_act 464 = .ok (.i2l, 1) := by decide +kernel
theorem dL_act_465 : decode cL_act 465 = .ok (.goto 32, 3) := by decide +kernel
theorem dL_act_468 : decode cL_act 468 = .ok (.iload 10, 2) := by decide +kernel
theorem dL_act_470 : decode cL_act 470 = .ok (.bipush 7, 2) := by decide +kernel
theorem dL_act_472 : decode cL_act 472 = .ok (.if_icmp .ne 14, 3) := by decide +kernel
theorem dL_act_475 : decode cL_act 475 = .ok (.iload_n 2, 1) := by decide +kernel
theorem dL_act_476 : decode cL_act 476 = .ok (.iconst 1, 1) := by decide +kernel
theorem dL_act_477 : decode cL_act 477 = .ok (.if_icmp .le 9, 3) := by decide +kernel
theorem dL_act_480 : decode cL_act 480 = .ok (.ldc2_w 62, 3) := by decide +kernel
theorem dL_act_483 : decode cL_act 483 = .ok (.goto 14, 3) := by decide +kernel
theorem dL_act_486 : decode cL_act 486 = .ok (.aload_n 0, 1) := by decide +kernel
theorem dL_act_487 : decode cL_act 487 = .ok (.iload 10, 2) := by decide +kernel
theorem dL_act_489 : decode cL_act 489 = .ok (.iload 7, 2) := by decide +kernel
theorem dL_act_491 : decode cL_act 491 = .ok (.iload 8, 2) := by decide +kernel
theorem dL_act_493 : decode cL_act 493 = .ok (.iconst 0, 1) := by decide +kernel
theorem dL_act_494 : decode cL_act 494 = .ok (.invokestatic 108, 3) := by decide +kernel
theorem dL_act_497 : decode cL_act 497 = .ok (.lreturn, 1) := by decide +kernel
theorem dL_act_498 : decode cL_act 498 = .ok (.iload 4, 2) := by decide +kernel
theorem dL_act_500 : decode cL_act 500 = .ok (.bipush 36, 2) := by decide +kernel
theorem dL_act_502 : decode cL_act 502 = .ok (.if_icmp .ge 186, 3) := by decide +kernel
theorem dL_act_505 : decode cL_act 505 = .ok (.iload 4, 2) := by decide +kernel
theorem dL_act_507 : decode cL_act 507 = .ok (.bipush 21, 2) := by decide +kernel
theorem dL_act_509 : decode cL_act 509 = .ok (.if_icmp .ge 22, 3) := by decide +kernel
theorem dL_act_512 : decode cL_act 512 = .ok (.aload_n 0, 1) := by decide +kernel
theorem dL_act_513 : decode cL_act 513 = .ok (.bipush 8, 2) := by decide +kernel
theorem dL_act_515 : decode cL_act 515 = .ok (.iload 7, 2) := by decide +kernel
theorem dL_act_517 : decode cL_act 517 = .ok (.iload 9, 2) := by decide +kernel
theorem dL_act_519 : decode cL_act 519 = .ok (.iload 5, 2) := by decide +kernel
theorem dL_act_521 : decode cL_act 521 = .ok (.iconst 4, 1) := by decide +kernel
theorem dL_act_522 : decode cL_act 522 = .ok (.ishr, 1) := by decide +kernel
theorem dL_act_523 : decode cL_act 523 = .ok (.iconst 1, 1) := by decide +kernel
theorem dL_act_524 : decode cL_act 524 = .ok (.iand, 1) := by decide +kernel
theorem dL_act_525 : decode cL_act 525 = .ok (.invokestatic 108, 3) := by decide +kernel
theorem dL_act_528 : decode cL_act 528 = .ok (.goto 159, 3) := by decide +kernel
theorem dL_act_531 : decode cL_act 531 = .ok (.iload 4, 2) := by decide +kernel
theorem dL_act_533 : decode cL_act 533 = .ok (.bipush 24, 2) := by decide +kernel
theorem dL_act_535 : decode cL_act 535 = .ok (.if_icmp .ge 22, 3) := by decide +kernel
theorem dL_act_538 : decode cL_act 538 = .ok (.aload_n 0, 1) := by decide +kernel
theorem dL_act_539 : decode cL_act 539 = .ok (.bipush 9, 2) := by decide +kernel
theorem dL_act_541 : decode cL_act 541 = .ok (.iload 7, 2) := by decide +kernel
theorem dL_act_543 : decode cL_act 543 = .ok (.iload 9, 2) := by decide +kernel
theorem dL_act_545 : decode cL_act 545 = .ok (.iload 5, 2) := by decide +kernel
theorem dL_act_547 : decode cL_act 547 = .ok (.iconst 4, 1) := by decide +kernel
theorem dL_act_548 : decode cL_act 548 = .ok (.ishr, 1) := by decide +kernel
theorem dL_act_549 : decode cL_act 549 = .ok (.iconst 1, 1) := by decide +kernel
theorem dL_act_550 : decode cL_act 550 = .ok (.iand, 1) := by decide +kernel
theorem dL_act_551 : decode cL_act 551 = .ok (.invokestatic 108, 3) := by decide +kernel
theorem dL_act_554 : decode cL_act 554 = .ok (.goto 133, 3) := by decide +kernel
theorem dL_act_557 : decode cL_act 557 = .ok (.iload 4, 2) := by decide +kernel
theorem dL_act_559 : decode cL_act 559 = .ok (.bipush 26, 2) := by decide +kernel
theorem dL_act_561 : decode cL_act 561 = .ok (.if_icmp .ge 18, 3) := by decide +kernel
theorem dL_act_564 : decode cL_act 564 = .ok (.aload_n 0, 1) := by decide +kernel
theorem dL_act_565 : decode cL_act 565 = .ok (.bipush 11, 2) := by decide +kernel
theorem dL_act_567 : decode cL_act 567 = .ok (.iload 7, 2) := by decide +kernel
theorem dL_act_569 : decode cL_act 569 = .ok (.iload 8, 2) := by decide +kernel
theorem dL_act_571 : decode cL_act 571 = .ok (.iload 9, 2) := by decide +kernel
theorem dL_act_573 : decode cL_act 573 = .ok (.invokestatic 108, 3) := by decide +kernel
theorem dL_act_576 : decode cL_act 576 = .ok (.goto 111, 3) := by decide +kernel
theorem dL_act_579 : decode cL_act 579 = .ok (.iload 4, 2) := by decide +kernel
theorem dL_act_581 : decode cL_act 581 = .ok (.bipush 28, 2) := by decide +kernel
theorem dL_act_583 : decode cL_act 583 = .ok (.if_icmp .ge 35, 3) := by decide +kernel
theorem dL_act_586 : decode cL_act 586 = .ok (.aload_n 0, 1) := by decide +kernel
theorem dL_act_587 : decode cL_act 587 = .ok (.bipush 14, 2) := by decide +kernel
theorem dL_act_589 : decode cL_act 589 = .ok (.iload 7, 2) := by decide +kernel
theorem dL_act_591 : decode cL_act 591 = .ok (.iload 9, 2) := by decide +kernel
theorem dL_act_593 : decode cL_act 593 = .ok (.iload 5, 2) := by decide +kernel
theorem dL_act_595 : decode cL_act 595 = .ok (.bipush 7, 2) := by decide +kernel
theorem dL_act_597 : decode cL_act 597 = .ok (.ishr, 1) := by decide +kernel
theorem dL_act_598 : decode cL_act 598 = .ok (.iload_n 3, 1) := by decide +kernel
theorem dL_act_599 : decode cL_act 599 = .ok (.ifCond .eq 8, 3) := by decide +kernel
theorem dL_act_602 : decode cL_act 602 = .ok (.bipush 10, 2) := by decide +kernel
theorem dL_act_604 : decode cL_act 604 = .ok (.goto 5, 3) := by decide +kernel
theorem dL_act_607 : decode cL_act 607 = .ok (.bipush 8, 2) := by decide +kernel
theorem dL_act_609 : decode cL_act 609 = .ok (.invokestatic 101, 3) := by decide +kernel
theorem dL_act_612 : decode cL_act 612 = .ok (.invokestatic 108, 3) := by decide +kernel
theorem dL_act_615 : decode cL_act 615 = .ok (.goto 72, 3) := by decide +kernel
theorem dL_act_618 : decode cL_act 618 = .ok (.iload 4, 2) := by decide +kernel
theorem dL_act_620 : decode cL_act 620 = .ok (.bipush 30, 2) := by decide +kernel
theorem dL_act_622 : decode cL_act 622 = .ok (.if_icmp .ge 35, 3) := by decide +kernel
theorem dL_act_625 : decode cL_act 625 = .ok (.aload_n 0, 1) := by decide +kernel
theorem dL_act_626 : decode cL_act 626 = .ok (.bipush 15, 2) := by decide +kernel
theorem dL_act_628 : decode cL_act 628 = .ok (.iload 7, 2) := by decide +kernel
theorem dL_act_630 : decode cL_act 630 = .ok (.iload 9, 2) := by decide +kernel
theorem dL_act_632 : decode cL_act 632 = .ok (.iload 5, 2) := by decide +kernel
theorem dL_act_634 : decode cL_act 634 = .ok (.bipush 7, 2) := by decide +kernel
theorem dL_act_636 : decode cL_act 636 = .ok (.ishr, 1) := by decide +kernel
theorem dL_act_637 : decode cL_act 637 = .ok (.iload_n 3, 1) := by decide +kernel
theorem dL_act_638 : decode cL_act 638 = .ok (.ifCond .eq 8, 3) := by decide +kernel
theorem dL_act_641 : decode cL_act 641 = .ok (.bipush 28, 2) := by decide +kernel
theorem dL_act_643 : decode cL_act 643 = .ok (.goto 5, 3) := by decide +kernel
theorem dL_act_646 : decode cL_act 646 = .ok (.bipush 6, 2) := by decide +kernel
theorem dL_act_648 : decode cL_act 648 = .ok (.invokestatic 101, 3) := by decide +kernel
theorem dL_act_651 : decode cL_act 651 = .ok (.invokestatic 108, 3) := by decide +kernel
theorem dL_act_654 : decode cL_act 654 = .ok (.goto 33, 3) := by decide +kernel
theorem dL_act_657 : decode cL_act 657 = .ok (.iload 4, 2) := by decide +kernel
theorem dL_act_659 : decode cL_act 659 = .ok (.bipush 35, 2) := by decide +kernel
theorem dL_act_661 : decode cL_act 661 = .ok (.if_icmp .ge 16, 3) := by decide +kernel
theorem dL_act_664 : decode cL_act 664 = .ok (.aload_n 0, 1) := by decide +kernel
theorem dL_act_665 : decode cL_act 665 = .ok (.bipush 16, 2) := by decide +kernel
theorem dL_act_667 : decode cL_act 667 = .ok (.iload 7, 2) := by decide +kernel
theorem dL_act_669 : decode cL_act 669 = .ok (.iconst 0, 1) := by decide +kernel
theorem dL_act_670 : decode cL_act 670 = .ok (.iconst 0, 1) := by decide +kernel
theorem dL_act_671 : decode cL_act 671 = .ok (.invokestatic 108, 3) := by decide +kernel
theorem dL_act_674 : decode cL_act 674 = .ok (.goto 13, 3) := by decide +kernel
theorem dL_act_677 : decode cL_act 677 = .ok (.aload_n 0, 1) := by decide +kernel
theorem dL_act_678 : decode cL_act 678 = .ok (.bipush 19, 2) := by decide +kernel
theorem dL_act_680 : decode cL_act 680 = .ok (.iload 7, 2) := by decide +kernel
theorem dL_act_682 : decode cL_act 682 = .ok (.iconst 0, 1) := by decide +kernel
theorem dL_act_683 : decode cL_act 683 = .ok (.iconst 0, 1) := by decide +kernel
theorem dL_act_684 : decode cL_act 684 = .ok (.invokestatic 108, 3) := by decide +kernel
theorem dL_act_687 : decode cL_act 687 = .ok (.lreturn, 1) := by decide +kernel
theorem dL_act_688 : decode cL_act 688 = .ok (.iload 4, 2) := by decide +kernel
theorem dL_act_690 : decode cL_act 690 = .ok (.bipush 41, 2) := by decide +kernel
theorem dL_act_692 : decode cL_act 692 = .ok (.if_icmp .ge 61, 3) := by decide +kernel
theorem dL_act_695 : decode cL_act 695 = .ok (.aload_n 0, 1) := by decide +kernel
theorem dL_act_696 : decode cL_act 696 = .ok (.iload 7, 2) := by decide +kernel
theorem dL_act_698 : decode cL_act 698 = .ok (.iload 8, 2) := by decide +kernel
theorem dL_act_700 : decode cL_act 700 = .ok (.iload 6, 2) := by decide +kernel
theorem dL_act_702 : decode cL_act 702 = .ok (.ifCond .ne 7, 3) := by decide +kernel
theorem dL_act_705 : decode cL_act 705 = .ok (.iconst 0, 1) := by decide +kernel
theorem dL_act_706 : decode cL_act 706 = .ok (.goto 24, 3) := by decide +kernel
theorem dL_act_709 : decode cL_act 709 = .ok (.iload 5, 2) := by decide +kernel
theorem dL_act_711 : decode cL_act 711 = .ok (.bipush 6, 2) := by decide +kernel
theorem dL_act_713 : decode cL_act 713 = .ok (.ishr, 1) := by decide +kernel
theorem dL_act_714 : decode cL_act 714 = .ok (.iload_n 3, 1) := by decide +kernel
theorem dL_act_715 : decode cL_act 715 = .ok (.ifCond .eq 10, 3) := by decide +kernel
theorem dL_act_718 : decode cL_act 718 = .ok (.iload 6, 2) := by decide +kernel
theorem dL_act_720 : decode cL_act 720 = .ok (.iconst 1, 1) := by decide +kernel
theorem dL_act_721 : decode cL_act 721 = .ok (.iadd, 1) := by decide +kernel
theorem dL_act_722 : decode cL_act 722 = .ok (.goto 5, 3) := by decide +kernel
theorem dL_act_725 : decode cL_act 725 = .ok (.iload 6, 2) := by decide +kernel
theorem dL_act_727 : decode cL_act 727 = .ok (.invokestatic 101, 3) := by decide +kernel
theorem dL_act_730 : decode cL_act 730 = .ok (.iload 9, 2) := by decide +kernel
theorem dL_act_732 : decode cL_act 732 = .ok (.iload 5, 2) := by decide +kernel
theorem dL_act_734 : decode cL_act 734 = .ok (.iconst 4, 1) := by decide +kernel
theorem dL_act_735 : decode cL_act 735 = .ok (.ishr, 1) := by decide +kernel
theorem dL_act_736 : decode cL_act 736 = .ok (.iconst 1, 1) := by decide +kernel
theorem dL_act_737 : decode cL_act 737 = .ok (.iand, 1) := by decide +kernel
theorem dL_act_738 : decode cL_act 738 = .ok (.iconst 1, 1) := by decide +kernel
theorem dL_act_739 : decode cL_act 739 = .ok (.if_icmp .ne 7, 3) := by decide +kernel
theorem dL_act_742 : decode cL_act 742 = .ok (.iconst 1, 1) := by decide +kernel
theorem dL_act_743 : decode cL_act 743 = .ok (.goto 4, 3) := by decide +kernel
theorem dL_act_746 : decode cL_act 746 = .ok (.iconst 0, 1) := by decide +kernel
theorem dL_act_747 : decode cL_act 747 = .ok (.invokestatic 116, 3) := by decide +kernel
theorem dL_act_750 : decode cL_act 750 = .ok (.goto 37, 3) := by decide +kernel
theorem dL_act_753 : decode cL_act 753 = .ok (.aload_n 0, 1) := by decide +kernel
theorem dL_act_754 : decode cL_act 754 = .ok (.iload 4, 2) := by decide +kernel
theorem dL_act_756 : decode cL_act 756 = .ok (.bipush 41, 2) := by decide +kernel
theorem dL_act_758 : decode cL_act 758 = .ok (.if_icmp .ne 8, 3) := by decide +kernel
theorem dL_act_761 : decode cL_act 761 = .ok (.bipush 17, 2) := by decide +kernel
theorem dL_act_763 : decode cL_act 763 = .ok (.goto 17, 3) := by decide +kernel
theorem dL_act_766 : decode cL_act 766 = .ok (.iload 4, 2) := by decide +kernel
theorem dL_act_768 : decode cL_act 768 = .ok (.bipush 42, 2) := by decide +kernel
theorem dL_act_770 : decode cL_act 770 = .ok (.if_icmp .ne 8, 3) := by decide +kernel
theorem dL_act_773 : decode cL_act 773 = .ok (.bipush 18, 2) := by decide +kernel
theorem dL_act_775 : decode cL_act 775 = .ok (.goto 5, 3) := by decide +kernel
theorem dL_act_778 : decode cL_act 778 = .ok (.bipush 20, 2) := by decide +kernel
theorem dL_act_780 : decode cL_act 780 = .ok (.iload 7, 2) := by decide +kernel
theorem dL_act_782 : decode cL_act 782 = .ok (.iconst 0, 1) := by decide +kernel
theorem dL_act_783 : decode cL_act 783 = .ok (.iconst 0, 1) := by decide +kernel
theorem dL_act_784 : decode cL_act 784 = .ok (.invokestatic 108, 3) := by decide +kernel
theorem dL_act_787 : decode cL_act 787 = .ok (.lreturn, 1) := by decide +kernel
theorem dL_areAlike_0 : decode cL_areAlike 0 = .ok (.aload_n 0, 1) := by decide +kernel
theorem dL_areAlike_1 : decode cL_areAlike 1 = .ok (.invokevirtual 104, 3) := by decide +kernel
theorem dL_areAlike_4 : decode cL_areAlike 4 = .ok (.istore_n 3, 1) := by decide +kernel
theorem dL_areAlike_5 : decode cL_areAlike 5 = .ok (.iload_n 3, 1) := by decide +kernel
theorem dL_areAlike_6 : decode cL_areAlike 6 = .ok (.aload_n 1, 1) := by decide +kernel
theorem dL_areAlike_7 : decode cL_areAlike 7 = .ok (.invokevirtual 104, 3) := by decide +kernel
theorem dL_areAlike_10 : decode cL_areAlike 10 = .ok (.if_icmp .ne 7, 3) := by decide +kernel
theorem dL_areAlike_13 : decode cL_areAlike 13 = .ok (.iconst 1, 1) := by decide +kernel
theorem dL_areAlike_14 : decode cL_areAlike 14 = .ok (.goto 4, 3) := by decide +kernel
theorem dL_areAlike_17 : decode cL_areAlike 17 = .ok (.iconst 0, 1) := by decide +kernel
theorem dL_areAlike_18 : decode cL_areAlike 18 = .ok (.istore 4, 2) := by decide +kernel
theorem dL_areAlike_20 : decode cL_areAlike 20 = .ok (.iconst 0, 1) := by decide +kernel
theorem dL_areAlike_21 : decode cL_areAlike 21 = .ok (.istore 5, 2) := by decide +kernel
theorem dL_areAlike_23 : decode cL_areAlike 23 = .ok (.iload 5, 2) := by decide +kernel
theorem dL_areAlike_25 : decode cL_areAlike 25 = .ok (.iload_n 3, 1) := by decide +kernel
theorem dL_areAlike_26 : decode cL_areAlike 26 = .ok (.if_icmp .ge 127, 3) := by decide +kernel
theorem dL_areAlike_29 : decode cL_areAlike 29 = .ok (.iload 4, 2) := by decide +kernel
theorem dL_areAlike_31 : decode cL_areAlike 31 = .ok (.ifCond .eq 122, 3) := by decide +kernel
theorem dL_areAlike_34 : decode cL_areAlike 34 = .ok (.aload_n 0, 1) := by decide +kernel
theorem dL_areAlike_35 : decode cL_areAlike 35 = .ok (.bipush 17, 2) := by decide +kernel
theorem dL_areAlike_37 : decode cL_areAlike 37 = .ok (.iload 5, 2) := by decide +kernel
theorem dL_areAlike_39 : decode cL_areAlike 39 = .ok (.iconst 0, 1) := by decide +kernel
theorem dL_areAlike_40 : decode cL_areAlike 40 = .ok (.iconst 0, 1) := by decide +kernel
theorem dL_areAlike_41 : decode cL_areAlike 41 = .ok (.invokestatic 108, 3) := by decide +kernel
theorem dL_areAlike_44 : decode cL_areAlike 44 = .ok (.aload_n 1, 1) := by decide +kernel
theorem dL_areAlike_45 : decode cL_areAlike 45 = .ok (.bipush 17, 2) := by decide +kernel
