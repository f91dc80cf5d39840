theorem dL_law_200 : decode cL_law 200 = .ok (.aload_n 1, 1) := by decide +kernel
theorem dL_law_201 : decode cL_law 201 = .ok (.aload_n 0, 1) := by decide +kernel
theorem dL_law_202 : decode cL_law 202 = .ok (.iload 5, 2) := by decide +kernel
theorem dL_law_204 : decode cL_law 204 = .ok (.iconst 1, 1) := by decide +kernel
theorem dL_law_205 : decode cL_law 205 = .ok (.iadd, 1) := by decide +kernel
theorem dL_law_206 : decode cL_law 206 = .ok (.iaload, 1) := by decide +kernel
theorem dL_law_207 : decode cL_law 207 = .ok (.aload_n 0, 1) := by decide +kernel
theorem dL_law_208 : decode cL_law 208 = .ok (.iload 5, 2) := by decide +kernel
theorem dL_law_210 : decode cL_law 210 = .ok (.iconst 2, 1) := by decide +kernel
theorem dL_law_211 : decode cL_law 211 = .ok (.iadd, 1) := by decide +kernel
theorem dL_law_212 : decode cL_law 212 = .ok (.iaload, 1) := by decide +kernel
theorem dL_law_213 : decode cL_law 213 = .ok (.aload_n 3, 1) := by decide +kernel
theorem dL_law_214 : decode cL_law 214 = .ok (.invokestatic 132, 3) := by decide +kernel
theorem dL_law_217 : decode cL_law 217 = .ok (.istore 6, 2) := by decide +kernel
theorem dL_law_219 : decode cL_law 219 = .ok (.aload_n 2, 1) := by decide +kernel
theorem dL_law_220 : decode cL_law 220 = .ok (.aload_n 0, 1) := by decide +kernel
theorem dL_law_221 : decode cL_law 221 = .ok (.iload 5, 2) := by decide +kernel
theorem dL_law_223 : decode cL_law 223 = .ok (.iconst 1, 1) := by decide +kernel
theorem dL_law_224 : decode cL_law 224 = .ok (.iadd, 1) := by decide +kernel
theorem dL_law_225 : decode cL_law 225 = .ok (.iaload, 1) := by decide +kernel
theorem dL_law_226 : decode cL_law 226 = .ok (.aload_n 0, 1) := by decide +kernel
theorem dL_law_227 : decode cL_law 227 = .ok (.iload 5, 2) := by decide +kernel
theorem dL_law_229 : decode cL_law 229 = .ok (.iconst 2, 1) := by decide +kernel
theorem dL_law_230 : decode cL_law 230 = .ok (.iadd, 1) := by decide +kernel
theorem dL_law_231 : decode cL_law 231 = .ok (.iaload, 1) := by decide +kernel
theorem dL_law_232 : decode cL_law 232 = .ok (.invokevirtual 137, 3) := by decide +kernel
theorem dL_law_235 : decode cL_law 235 = .ok (.istore 7, 2) := by decide +kernel
theorem dL_law_237 : decode cL_law 237 = .ok (.aload_n 2, 1) := by decide +kernel
theorem dL_law_238 : decode cL_law 238 = .ok (.invokevirtual 138, 3) := by decide +kernel
theorem dL_law_241 : decode cL_law 241 = .ok (.iload 6, 2) := by decide +kernel
theorem dL_law_243 : decode cL_law 243 = .ok (.if_icmp .eq 5, 3) := by decide +kernel
theorem dL_law_248 : decode cL_law 248 = .ok (.iload 6, 2) := by decide +kernel
theorem dL_law_250 : decode cL_law 250 = .ok (.ifCond .ne 15, 3) := by decide +kernel
theorem dL_law_253 : decode cL_law 253 = .ok (.aload_n 3, 1) := by decide +kernel
theorem dL_law_254 : decode cL_law 254 = .ok (.iconst 0, 1) := by decide +kernel
theorem dL_law_255 : decode cL_law 255 = .ok (.laload, 1) := by decide +kernel
theorem dL_law_256 : decode cL_law 256 = .ok (.iload 7, 2) := by decide +kernel
theorem dL_law_258 : decode cL_law 258 = .ok (.i2l, 1) := by decide +kernel
theorem dL_law_259 : decode cL_law 259 = .ok (.lcmp, 1) := by decide +kernel
theorem dL_law_260 : decode cL_law 260 = .ok (.ifCond .eq 5, 3) := by decide +kernel
theorem dL_law_265 : decode cL_law 265 = .ok (.goto 1891, 3) := by decide +kernel
theorem dL_law_268 : decode cL_law 268 = .ok (.aload_n 1, 1) := by decide +kernel
theorem dL_law_269 : decode cL_law 269 = .ok (.aload_n 0, 1) := by decide +kernel
theorem dL_law_270 : decode cL_law 270 = .ok (.iload 5, 2) := by decide +kernel
theorem dL_law_272 : decode cL_law 272 = .ok (.iconst 1, 1) := by decide +kernel
theorem dL_law_273 : decode cL_law 273 = .ok (.iadd, 1) := by decide +kernel
theorem dL_law_274 : decode cL_law 274 = .ok (.iaload, 1) := by decide +kernel
theorem dL_law_275 : decode cL_law 275 = .ok (.aload_n 0, 1) := by decide +kernel
theorem dL_law_276 : decode cL_law 276 = .ok (.iload 5, 2) := by decide +kernel
theorem dL_law_278 : decode cL_law 278 = .ok (.iconst 2, 1) := by decide +kernel
theorem dL_law_279 : decode cL_law 279 = .ok (.iadd, 1) := by decide +kernel
theorem dL_law_280 : decode cL_law 280 = .ok (.iaload, 1) := by decide +kernel
theorem dL_law_281 : decode cL_law 281 = .ok (.aload_n 3, 1) := by decide +kernel
theorem dL_law_282 : decode cL_law 282 = .ok (.invokestatic 141, 3) := by decide +kernel
theorem dL_law_285 : decode cL_law 285 = .ok (.istore 6, 2) := by decide +kernel
theorem dL_law_287 : decode cL_law 287 = .ok (.aload_n 2, 1) := by decide +kernel
theorem dL_law_288 : decode cL_law 288 = .ok (.aload_n 0, 1) := by decide +kernel
theorem dL_law_289 : decode cL_law 289 = .ok (.iload 5, 2) := by decide +kernel
theorem dL_law_291 : decode cL_law 291 = .ok (.iconst 1, 1) := by decide +kernel
theorem dL_law_292 : decode cL_law 292 = .ok (.iadd, 1) := by decide +kernel
theorem dL_law_293 : decode cL_law 293 = .ok (.iaload, 1) := by decide +kernel
theorem dL_law_294 : decode cL_law 294 = .ok (.aload_n 0, 1) := by decide +kernel
theorem dL_law_295 : decode cL_law 295 = .ok (.iload 5, 2) := by decide +kernel
theorem dL_law_297 : decode cL_law 297 = .ok (.iconst 2, 1) := by decide +kernel
theorem dL_law_298 : decode cL_law 298 = .ok (.iadd, 1) := by decide +kernel
theorem dL_law_299 : decode cL_law 299 = .ok (.iaload, 1) := by decide +kernel
theorem dL_law_300 : decode cL_law 300 = .ok (.invokevirtual 143, 3) := by decide +kernel
theorem dL_law_303 : decode cL_law 303 = .ok (.istore 7, 2) := by decide +kernel
theorem dL_law_305 : decode cL_law 305 = .ok (.aload_n 2, 1) := by decide +kernel
theorem dL_law_306 : decode cL_law 306 = .ok (.invokevirtual 138, 3) := by decide +kernel
theorem dL_law_309 : decode cL_law 309 = .ok (.iload 6, 2) := by decide +kernel
theorem dL_law_311 : decode cL_law 311 = .ok (.if_icmp .eq 5, 3) := by decide +kernel
theorem dL_law_316 : decode cL_law 316 = .ok (.iload 6, 2) := by decide +kernel
theorem dL_law_318 : decode cL_law 318 = .ok (.ifCond .ne 15, 3) := by decide +kernel
theorem dL_law_333 : decode cL_law 333 = .ok (.goto 1823, 3) := by decide +kernel
theorem dL_law_336 : decode cL_law 336 = .ok (.aload_n 1, 1) := by decide +kernel
theorem dL_law_337 : decode cL_law 337 = .ok (.aload_n 0, 1) := by decide +kernel
theorem dL_law_338 : decode cL_law 338 = .ok (.iload 5, 2) := by decide +kernel
theorem dL_law_340 : decode cL_law 340 = .ok (.iconst 1, 1) := by decide +kernel
theorem dL_law_341 : decode cL_law 341 = .ok (.iadd, 1) := by decide +kernel
theorem dL_law_342 : decode cL_law 342 = .ok (.iaload, 1) := by decide +kernel
theorem dL_law_343 : decode cL_law 343 = .ok (.aload_n 0, 1) := by decide +kernel
theorem dL_law_344 : decode cL_law 344 = .ok (.iload 5, 2) := by decide +kernel
theorem dL_law_346 : decode cL_law 346 = .ok (.iconst 2, 1) := by decide +kernel
theorem dL_law_347 : decode cL_law 347 = .ok (.iadd, 1) := by decide +kernel
theorem dL_law_348 : decode cL_law 348 = .ok (.iaload, 1) := by decide +kernel
theorem dL_law_349 : decode cL_law 349 = .ok (.aload_n 3, 1) := by decide +kernel
theorem dL_law_350 : decode cL_law 350 = .ok (.invokestatic 144, 3) := by decide +kernel
theorem dL_law_353 : decode cL_law 353 = .ok (.istore 6, 2) := by decide +kernel
theorem dL_law_355 : decode cL_law 355 = .ok (.aload_n 2, 1) := by decide +kernel
theorem dL_law_356 : decode cL_law 356 = .ok (.aload_n 0, 1) := by decide +kernel
theorem dL_law_357 : decode cL_law 357 = .ok (.iload 5, 2) := by decide +kernel
theorem dL_law_359 : decode cL_law 359 = .ok (.iconst 1, 1) := by decide +kernel
theorem dL_law_360 : decode cL_law 360 = .ok (.iadd, 1) := by decide +kernel
theorem dL_law_361 : decode cL_law 361 = .ok (.iaload, 1) := by decide +kernel
theorem dL_law_362 : decode cL_law 362 = .ok (.aload_n 0, 1) := by decide +kernel
theorem dL_law_363 : decode cL_law 363 = .ok (.iload 5, 2) := by decide +kernel
theorem dL_law_365 : decode cL_law 365 = .ok (.iconst 2, 1) := by decide +kernel
theorem dL_law_366 : decode cL_law 366 = .ok (.iadd, 1) := by decide +kernel
theorem dL_law_367 : decode cL_law 367 = .ok (.iaload, 1) := by decide +kernel
theorem dL_law_368 : decode cL_law 368 = .ok (.invokevirtual 146, 3) := by decide +kernel
theorem dL_law_371 : decode cL_law 371 = .ok (.istore 7, 2) := by decide +kernel
theorem dL_law_373 : decode cL_law 373 = .ok (.aload_n 2, 1) := by decide +kernel
theorem dL_law_374 : decode cL_law 374 = .ok (.invokevirtual 138, 3) := by decide +kernel
theorem dL_law_377 : decode cL_law 377 = .ok (.iload 6, 2) := by decide +kernel
theorem dL_law_379 : decode cL_law 379 = .ok (.if_icmp .eq 5, 3) := by decide +kernel
theorem dL_law_384 : decode cL_law 384 = .ok (.iload 6, 2) := by decide +kernel
theorem dL_law_386 : decode cL_law 386 = .ok (.ifCond .ne 15, 3) := by decide +kernel
theorem dL_law_401 : decode cL_law 401 = .ok (.goto 1755, 3) := by decide +kernel
theorem dL_law_404 : decode cL_law 404 = .ok (.aload_n 1, 1) := by decide +kernel
theorem dL_law_405 : decode cL_law 405 = .ok (.aload_n 0, 1) := by decide +kernel
theorem dL_law_406 : decode cL_law 406 = .ok (.iload 5, 2) := by decide +kernel
theorem dL_law_408 : decode cL_law 408 = .ok (.iconst 1, 1) := by decide +kernel
theorem dL_law_409 : decode cL_law 409 = .ok (.iadd, 1) := by decide +kernel
theorem dL_law_410 : decode cL_law 410 = .ok (.iaload, 1) := by decide +kernel
theorem dL_law_411 : decode cL_law 411 = .ok (.aload_n 0, 1) := by decide +kernel
theorem dL_law_412 : decode cL_law 412 = .ok (.iload 5, 2) := by decide +kernel
theorem dL_law_414 : decode cL_law 414 = .ok (.iconst 2, 1) := by decide +kernel
theorem dL_law_415 : decode cL_law 415 = .ok (.iadd, 1) := by decide +kernel
theorem dL_law_416 : decode cL_law 416 = .ok (.iaload, 1) := by decide +kernel
theorem dL_law_417 : decode cL_law 417 = .ok (.aload_n 3, 1) := by decide +kernel
theorem dL_law_418 : decode cL_law 418 = .ok (.invokestatic 147, 3) := by decide +kernel
theorem dL_law_421 : decode cL_law 421 = .ok (.istore 6, 2) := by decide +kernel
theorem dL_law_423 : decode cL_law 423 = .ok (.aload_n 2, 1) := by decide +kernel
theorem dL_law_424 : decode cL_law 424 = .ok (.aload_n 0, 1) := by decide +kernel
theorem dL_law_425 : decode cL_law 425 = .ok (.iload 5, 2) := by decide +kernel
theorem dL_law_427 : decode cL_law 427 = .ok (.iconst 1, 1) := by decide +kernel
theorem dL_law_428 : decode cL_law 428 = .ok (.iadd, 1) := by decide +kernel
theorem dL_law_429 : decode cL_law 429 = .ok (.iaload, 1) := by decide +kernel
theorem dL_law_430 : decode cL_law 430 = .ok (.aload_n 0, 1) := by decide +kernel
theorem dL_law_431 : decode cL_law 431 = .ok (.iload 5, 2) := by decide +kernel
theorem dL_law_433 : decode cL_law 433 = .ok (.iconst 2, 1) := by decide +kernel
theorem dL_law_434 : decode cL_law 434 = .ok (.iadd, 1) := by decide +kernel
theorem dL_law_435 : decode cL_law 435 = .ok (.iaload, 1) := by decide +kernel
theorem dL_law_436 : decode cL_law 436 = .ok (.invokevirtual 149, 3) := by decide +kernel
theorem dL_law_439 : decode cL_law 439 = .ok (.istore 7, 2) := by decide +kernel
theorem dL_law_441 : decode cL_law 441 = .ok (.aload_n 2, 1) := by decide +kernel
theorem dL_law_442 : decode cL_law 442 = .ok (.invokevirtual 138, 3) := by decide +kernel
theorem dL_law_445 : decode cL_law 445 = .ok (.iload 6, 2) := by decide +kernel
theorem dL_law_447 : decode cL_law 447 = .ok (.if_icmp .eq 5, 3) := by decide +kernel
theorem dL_law_452 : decode cL_law 452 = .ok (.iload 6, 2) := by decide +kernel
theorem dL_law_454 : decode cL_law 454 = .ok (.ifCond .ne 15, 3) := by decide +kernel
theorem dL_law_457 : decode cL_law 457 = .ok (.aload_n 3, 1) := by decide +kernel
theorem dL_law_458 : decode cL_law 458 = .ok (.iconst 0, 1) := by decide +kernel
theorem dL_law_459 : decode cL_law 459 = .ok (.laload, 1) := by decide +kernel
theorem dL_law_460 : decode cL_law 460 = .ok (.iload 7, 2) := by decide +kernel
theorem dL_law_462 : decode cL_law 462 = .ok (.i2l, 1) := by decide +kernel
theorem dL_law_463 : decode cL_law 463 = .ok (.lcmp, 1) := by decide +kernel
theorem dL_law_464 : decode cL_law 464 = .ok (.ifCond .eq 5, 3) := by decide +kernel
theorem dL_law_469 : decode cL_law 469 = .ok (.goto 1687, 3) := by decide +kernel
theorem dL_law_472 : decode cL_law 472 = .ok (.aload_n 1, 1) := by decide +kernel
theorem dL_law_473 : decode cL_law 473 = .ok (.aload_n 0, 1) := by decide +kernel
theorem dL_law_474 : decode cL_law 474 = .ok (.iload 5, 2) := by decide +kernel
theorem dL_law_476 : decode cL_law 476 = .ok (.iconst 1, 1) := by decide +kernel
theorem dL_law_477 : decode cL_law 477 = .ok (.iadd, 1) := by decide +kernel
theorem dL_law_478 : decode cL_law 478 = .ok (.iaload, 1) := by decide +kernel
theorem dL_law_479 : decode cL_law 479 = .ok (.aload_n 0, 1) := by decide +kernel
theorem dL_law_480 : decode cL_law 480 = .ok (.iload 5, 2) := by decide +kernel
theorem dL_law_482 : decode cL_law 482 = .ok (.iconst 2, 1) := by decide +kernel
theorem dL_law_483 : decode cL_law 483 = .ok (.iadd, 1) := by decide +kernel
theorem dL_law_484 : decode cL_law 484 = .ok (.iaload, 1) := by decide +kernel
theorem dL_law_485 : decode cL_law 485 = .ok (.aload_n 0, 1) := by decide +kernel
theorem dL_law_486 : decode cL_law 486 = .ok (.iload 5, 2) := by decide +kernel
theorem dL_law_488 : decode cL_law 488 = .ok (.iconst 3, 1) := by decide +kernel
theorem dL_law_489 : decode cL_law 489 = .ok (.iadd, 1) := by decide +kernel
theorem dL_law_490 : decode cL_law 490 = .ok (.iaload, 1) := by decide +kernel
theorem dL_law_491 : decode cL_law 491 = .ok (.aload_n 0, 1) := by decide +kernel
theorem dL_law_492 : decode cL_law 492 = .ok (.iload 5, 2) := by decide +kernel
theorem dL_law_494 : decode cL_law 494 = .ok (.iconst 4, 1) := by decide +kernel
theorem dL_law_495 : decode cL_law 495 = .ok (.iadd, 1) := by decide +kernel
theorem dL_law_496 : decode cL_law 496 = .ok (.iaload, 1) := by decide +kernel
theorem dL_law_497 : decode cL_law 497 = .ok (.aload_n 3, 1) := by decide +kernel
theorem dL_law_498 : decode cL_law 498 = .ok (.invokestatic 150, 3) := by decide +kernel
theorem dL_law_501 : decode cL_law 501 = .ok (.istore 6, 2) := by decide +kernel
theorem dL_law_503 : decode cL_law 503 = .ok (.aload_n 2, 1) := by decide +kernel
theorem dL_law_504 : decode cL_law 504 = .ok (.aload_n 0, 1) := by decide +kernel
theorem dL_law_505 : decode cL_law 505 = .ok (.iload 5, 2) := by decide +kernel
theorem dL_law_507 : decode cL_law 507 = .ok (.iconst 1, 1) := by decide +kernel
theorem dL_law_508 : decode cL_law 508 = .ok (.iadd, 1) := by decide +kernel
theorem dL_law_509 : decode cL_law 509 = .ok (.iaload, 1) := by decide +kernel
theorem dL_law_510 : decode cL_law 510 = .ok (.aload_n 0, 1) := by decide +kernel
theorem dL_law_511 : decode cL_law 511 = .ok (.iload 5, 2) := by decide +kernel
theorem dL_law_513 : decode cL_law 513 = .ok (.iconst 2, 1) := by decide +kernel
theorem dL_law_514 : decode cL_law 514 = .ok (.iadd, 1) := by decide +kernel
theorem dL_law_515 : decode cL_law 515 = .ok (.iaload, 1) := by decide +kernel
theorem dL_law_516 : decode cL_law 516 = .ok (.aload_n 0, 1) := by decide +kernel
theorem dL_law_517 : decode cL_law 517 = .ok (.iload 5, 2) := by decide +kernel
theorem dL_law_519 : decode cL_law 519 = .ok (.iconst 3, 1) := by decide +kernel
theorem dL_law_520 : decode cL_law 520 = .ok (.iadd, 1) := by decide +kernel
theorem dL_law_521 : decode cL_law 521 = .ok (.iaload, 1) := by decide +kernel
theorem dL_law_522 : decode cL_law 522 = .ok (.aload_n 0, 1) := by decide +kernel
theorem dL_law_523 : decode cL_law 523 = .ok (.iload 5, 2) := by decide +kernel
theorem dL_law_525 : decode cL_law 525 = .ok (.iconst 4, 1) := by decide +kernel
theorem dL_law_526 : decode cL_law 526 = .ok (.iadd, 1) := by decide +kernel
theorem dL_law_527 : decode cL_law 527 = .ok (.iaload, 1) := by decide +kernel
theorem dL_law_528 : decode cL_law 528 = .ok (.invokevirtual 153, 3) := by decide +kernel
theorem dL_law_531 : decode cL_law 531 = .ok (.istore 7, 2) := by decide +kernel
theorem dL_law_533 : decode cL_law 533 = .ok (.aload_n 2, 1) := by decide +kernel
theorem dL_law_534 : decode cL_law 534 = .ok (.invokevirtual 138, 3) := by decide +kernel
theorem dL_law_537 : decode cL_law 537 = .ok (.iload 6, 2) := by decide +kernel
theorem dL_law_539 : decode cL_law 539 = .ok (.if_icmp .eq 5, 3) := by decide +kernel
theorem dL_law_544 : decode cL_law 544 = .ok (.iload 6, 2) := by decide +kernel
theorem dL_law_546 : decode cL_law 546 = .ok (.ifCond .ne 15, 3) := by decide +kernel
theorem dL_law_561 : decode cL_law 561 = .ok (.goto 1595, 3) := by decide +kernel
theorem dL_law_564 : decode cL_law 564 = .ok (.aload_n 1, 1) := by decide +kernel
theorem dL_law_565 : decode cL_law 565 = .ok (.aload_n 0, 1) := by decide +kernel
theorem dL_law_566 : decode cL_law 566 = .ok (.iload 5, 2) := by decide +kernel
theorem dL_law_568 : decode cL_law 568 = .ok (.iconst 1, 1) := by decide +kernel
theorem dL_law_569 : decode cL_law 569 = .ok (.iadd, 1) := by decide +kernel
theorem dL_law_570 : decode cL_law 570 = .ok (.iaload, 1) := by decide +kernel
theorem dL_law_571 : decode cL_law 571 = .ok (.aload_n 0, 1) := by decide +kernel
theorem dL_law_572 : decode cL_law 572 = .ok (.iload 5, 2) := by decide +kernel
theorem dL_law_574 : decode cL_law 574 = .ok (.iconst 2, 1) := by decide +kernel
theorem dL_law_575 : decode cL_law 575 = .ok (.iadd, 1) := by decide +kernel
theorem dL_law_576 : decode cL_law 576 = .ok (.iaload, 1) := by decide +kernel
theorem dL_law_577 : decode cL_law 577 = .ok (.aload_n 3, 1) := by decide +kernel
theorem dL_law_578 : decode cL_law 578 = .ok (.invokestatic 154, 3) := by decide +kernel
theorem dL_law_581 : decode cL_law 581 = .ok (.istore 6, 2) := by decide +kernel
theorem dL_law_583 : decode cL_law 583 = .ok (.aload_n 2, 1) := by decide +kernel
theorem dL_law_584 : decode cL_law 584 = .ok (.aload_n 0, 1) := by decide +kernel
theorem dL_law_585 : decode cL_law 585 = .ok (.iload 5, 2) := by decide +kernel
theorem dL_law_587 : decode cL_law 587 = .ok (.iconst 1, 1) := by decide +kernel
theorem dL_law_588 : decode cL_law 588 = .ok (.iadd, 1) := by decide +kernel
theorem dL_law_589 : decode cL_law 589 = .ok (.iaload, 1) := by decide +kernel
theorem dL_law_590 : decode cL_law 590 = .ok (.aload_n 0, 1) := by decide +kernel
theorem dL_law_591 : decode cL_law 591 = .ok (.iload 5, 2) := by decide +kernel
theorem dL_law_593 : decode cL_law 593 = .ok (.iconst 2, 1) := by decide +kernel
theorem dL_law_594 : decode cL_law 594 = .ok (.iadd, 1) := by decide +kernel
theorem dL_law_595 : decode cL_law 595 = .ok (.iaload, 1) := by decide +kernel
theorem dL_law_596 : decode cL_law 596 = .ok (.invokevirtual 156, 3) := by decide +kernel
theorem dL_law_599 : decode cL_law 599 = .ok (.istore 7, 2) := by decide +kernel
theorem dL_law_601 : decode cL_law 601 = .ok (.aload_n 2, 1) := by decide +kernel
theorem dL_law_602 : decode cL_law 602 = .ok (.invokevirtual 138, 3) := by decide +kernel
theorem dL_law_605 : decode cL_law 605 = .ok (.iload 6, 2) := by decide +kernel
theorem dL_law_607 : decode cL_law 607 = .ok (.if_icmp .eq 5, 3) := by decide +kernel
theorem dL_law_612 : decode cL_law 612 = .ok (.iload 6, 2) := by decide +kernel
theorem dL_law_614 : decode cL_law 614 = .ok (.ifCond .ne 15, 3) := by decide +kernel
theorem dL_law_617 : decode cL_law 617 = .ok (.aload_n 3, 1) := by decide +kernel
theorem dL_law_618 : decode cL_law 618 = .ok (.iconst 0, 1) := by decide +kernel
theorem dL_law_619 : decode cL_law 619 = .ok (.laload, 1) := by decide +kernel
theorem dL_law_620 : decode cL_law 620 = .ok (.iload 7, 2) := by decide +kernel
theorem dL_law_622 : decode cL_law 622 = .ok (.i2l, 1) := by decide +kernel
theorem dL_law_623 : decode cL_law 623 = .ok (.lcmp, 1) := by decide +kernel
theorem dL_law_624 : decode cL_law 624 = .ok (.ifCond .eq 5, 3) := by decide +kernel
theorem dL_law_629 : decode cL_law 629 = .ok (.goto 1527, 3) := by decide +kernel
theorem dL_law_632 : decode cL_law 632 = .ok (.aload_n 1, 1) := by decide +kernel
theorem dL_law_633 : decode cL_law 633 = .ok (.aload_n 0, 1) := by decide +kernel
theorem dL_law_634 : decode cL_law 634 = .ok (.iload 5, 2) := by decide +kernel
theorem dL_law_636 : decode cL_law 636 = .ok (.iconst 1, 1) := by decide +kernel
theorem dL_law_637 : decode cL_law 637 = .ok (.iadd, 1) := by decide +kernel
theorem dL_law_638 : decode cL_law 638 = .ok (.iaload, 1) := by decide +kernel
theorem dL_law_639 : decode cL_law 639 = .ok (.aload_n 0, 1) := by decide +kernel
theorem dL_law_640 : decode cL_law 640 = .ok (.iload 5, 2) := by decide +kernel
theorem dL_law_642 : decode cL_law 642 = .ok (.iconst 2, 1) := by decide +kernel
theorem dL_law_643 : decode cL_law 643 = .ok (.iadd, 1) := by decide +kernel
theorem dL_law_644 : decode cL_law 644 = .ok (.iaload, 1) := by decide +kernel
theorem dL_law_645 : decode cL_law 645 = .ok (.aload_n 0, 1) := by decide +kernel
theorem dL_law_646 : decode cL_law 646 = .ok (.iload 5, 2) := by decide +kernel
theorem dL_law_648 : decode cL_law 648 = .ok (.iconst 3, 1) := by decide +kernel
theorem dL_law_649 : decode cL_law 649 = .ok (.iadd, 1) := by decide +kernel
theorem dL_law_650 : decode cL_law 650 = .ok (.iaload, 1) := by decide +kernel
theorem dL_law_651 : decode cL_law 651 = .ok (.aload_n 3, 1) := by decide +kernel
theorem dL_law_652 : decode cL_law 652 = .ok (.invokestatic 157, 3) := by decide +kernel
theorem dL_law_655 : decode cL_law 655 = .ok (.istore 6, 2) := by decide +kernel
theorem dL_law_657 : decode cL_law 657 = .ok (.aload_n 2, 1) := by decide +kernel
theorem dL_law_658 : decode cL_law 658 = .ok (.aload_n 0, 1) := by decide +kernel
theorem dL_law_659 : decode cL_law 659 = .ok (.iload 5, 2) := by decide +kernel
theorem dL_law_661 : decode cL_law 661 = .ok (.iconst 1, 1) := by decide +kernel
theorem dL_law_662 : decode cL_law 662 = .ok (.iadd, 1) := by decide +kernel
theorem dL_law_663 : decode cL_law 663 = .ok (.iaload, 1) := by decide +kernel
theorem dL_law_664 : decode cL_law 664 = .ok (.aload_n 0, 1) := by decide +kernel
theorem dL_law_665 : decode cL_law 665 = .ok (.iload 5, 2) := by decide +kernel
theorem dL_law_667 : decode cL_law 667 = .ok (.iconst 2, 1) := by decide +kernel
theorem dL_law_668 : decode cL_law 668 = .ok (.iadd, 1) := by decide +kernel
theorem dL_law_669 : decode cL_law 669 = .ok (.iaload, 1) := by decide +kernel
theorem dL_law_670 : decode cL_law 670 = .ok (.aload_n 0, 1) := by decide +kernel
theorem dL_law_671 : decode cL_law 671 = .ok (.iload 5, 2) := by decide +kernel
theorem dL_law_673 : decode cL_law 673 = .ok (.iconst 3, 1) := by decide +kernel
theorem dL_law_674 : decode cL_law 674 = .ok (.iadd, 1) := by decide +kernel
theorem dL_law_675 : decode cL_law 675 = .ok (.iaload, 1) := by decide +kernel
theorem dL_law_676 : decode cL_law 676 = .ok (.invokevirtual 160, 3) := by decide +kernel
theorem dL_law_679 : decode cL_law 679 = .ok (.istore 7, 2) := by decide +kernel
theorem dL_law_681 : decode cL_law 681 = .ok (.aload_n 2, 1) := by decide +kernel
theorem dL_law_682 : decode cL_law 682 = .ok (.invokevirtual 138, 3) := by decide +kernel
theorem dL_law_685 : decode cL_law 685 = .ok (.iload 6, 2) := by decide +kernel
theorem dL_law_687 : decode cL_law 687 = .ok (.if_icmp .eq 5, 3) := by decide +kernel
theorem dL_law_692 : decode cL_law 692 = .ok (.iload 6, 2) := by decide +kernel
theorem dL_law_694 : decode cL_law 694 = .ok (.ifCond .ne 15, 3) := by decide +kernel
theorem dL_law_709 : decode cL_law 709 = .ok (.goto 1447, 3) := by decide +kernel
theorem dL_law_712 : decode cL_law 712 = .ok (.aload_n 1, 1) := by decide +kernel
theorem dL_law_713 : decode cL_law 713 = .ok (.aload_n 0, 1) := by decide +kernel
theorem dL_law_714 : decode cL_law 714 = .ok (.iload 5, 2) := by decide +kernel
theorem dL_law_716 : decode cL_law 716 = .ok (.iconst 1, 1) := by decide +kernel
theorem dL_law_717 : decode cL_law 717 = .ok (.iadd, 1) := by decide +kernel
theorem dL_law_718 : decode cL_law 718 = .ok (.iaload, 1) := by decide +kernel
theorem dL_law_719 : decode cL_law 719 = .ok (.aload_n 0, 1) := by decide +kernel
theorem dL_law_720 : decode cL_law 720 = .ok (.iload 5, 2) := by decide +kernel
theorem dL_law_722 : decode cL_law 722 = .ok (.iconst 2, 1) := by decide +kernel
theorem dL_law_723 : decode cL_law 723 = .ok (.iadd, 1) := by decide +kernel
theorem dL_law_724 : decode cL_law 724 = .ok (.iaload, 1) := by decide +kernel
theorem dL_law_725 : decode cL_law 725 = .ok (.i2c, 1) := by decide +kernel
theorem dL_law_726 : decode cL_law 726 = .ok (.aload_n 0, 1) := by decide +kernel
theorem dL_law_727 : decode cL_law 727 = .ok (.iload 5, 2) := by decide +kernel
theorem dL_law_729 : decode cL_law 729 = .ok (.iconst 3, 1) := by decide +kernel
theorem dL_law_730 : decode cL_law 730 = .ok (.iadd, 1) := by decide +kernel
theorem dL_law_731 : decode cL_law 731 = .ok (.iaload, 1) := by decide +kernel
theorem dL_law_732 : decode cL_law 732 = .ok (.aload_n 0, 1) := by decide +kernel
theorem dL_law_733 : decode cL_law 733 = .ok (.iload 5, 2) := by decide +kernel
theorem dL_law_735 : decode cL_law 735 = .ok (.iconst 4, 1) := by decide +kernel
theorem dL_law_736 : decode cL_law 736 = .ok (.iadd, 1) := by decide +kernel
theorem dL_law_737 : decode cL_law 737 = .ok (.iaload, 1) := by decide +kernel
theorem dL_law_738 : decode cL_law 738 = .ok (.aload_n 0, 1) := by decide +kernel
theorem dL_law_739 : decode cL_law 739 = .ok (.iload 5, 2) := by decide +kernel
theorem dL_law_741 : decode cL_law 741 = .ok (.iconst 5, 1) := by decide +kernel
theorem dL_law_742 : decode cL_law 742 = .ok (.iadd, 1) := by decide +kernel
theorem dL_law_743 : decode cL_law 743 = .ok (.iaload, 1) := by decide +kernel
theorem dL_law_744 : decode cL_law 744 = .ok (.aload_n 0, 1) := by decide +kernel
theorem dL_law_745 : decode cL_law 745 = .ok (.iload 5, 2) := by decide +kernel
theorem dL_law_747 : decode cL_law 747 = .ok (.bipush 6, 2) := by decide +kernel
theorem dL_law_749 : decode cL_law 749 = .ok (.iadd, 1) := by decide +kernel
theorem dL_law_750 : decode cL_law 750 = .ok (.iaload, 1) := by decide +kernel
theorem dL_law_751 : decode cL_law 751 = .ok (.aload_n 3, 1) := by decide +kernel
theorem dL_law_752 : decode cL_law 752 = .ok (.invokestatic 161, 3) := by decide +kernel
theorem dL_law_755 : decode cL_law 755 = .ok (.istore 6, 2) := by decide +kernel
theorem dL_law_757 : decode cL_law 757 = .ok (.aload_n 2, 1) := by decide +kernel
theorem dL_law_758 : decode cL_law 758 = .ok (.aload_n 0, 1) := by decide +kernel
theorem dL_law_759 : decode cL_law 759 = .ok (.iload 5, 2) := by decide +kernel
theorem dL_law_761 : decode cL_law 761 = .ok (.iconst 1, 1) := by decide +kernel
theorem dL_law_762 : decode cL_law 762 = .ok (.iadd, 1) := by decide +kernel
theorem dL_law_763 : decode cL_law 763 = .ok (.iaload, 1) := by decide +kernel
theorem dL_law_764 : decode cL_law 764 = .ok (.aload_n 0, 1) := by decide +kernel
theorem dL_law_765 : decode cL_law 765 = .ok (.iload 5, 2) := by decide +kernel
theorem dL_law_767 : decode cL_law 767 = .ok (.iconst 2, 1) := by decide +kernel
theorem dL_law_768 : decode cL_law 768 = .ok (.iadd, 1) := by decide +kernel
theorem dL_law_769 : decode cL_law 769 = .ok (.iaload, 1) := by decide +kernel
theorem dL_law_770 : decode cL_law 770 = .ok (.i2c, 1) := by decide +kernel
theorem dL_law_771 : decode cL_law 771 = .ok (.aload_n 0, 1) := by decide +kernel
theorem dL_law_772 : decode cL_law 772 = .ok (.iload 5, 2) := by decide +kernel
theorem dL_law_774 : decode cL_law 774 = .ok (.iconst 3, 1) := by decide +kernel
theorem dL_law_775 : decode cL_law 775 = .ok (.iadd, 1) := by decide +kernel
theorem dL_law_776 : decode cL_law 776 = .ok (.iaload, 1) := by decide +kernel
theorem dL_law_777 : decode cL_law 777 = .ok (.aload_n 0, 1) := by decide +kernel
theorem dL_law_778 : decode cL_law 778 = .ok (.iload 5, 2) := by decide +kernel
theorem dL_law_780 : decode cL_law 780 = .ok (.iconst 4, 1) := by decide +kernel
theorem dL_law_781 : decode cL_law 781 = .ok (.iadd, 1) := by decide +kernel
theorem dL_law_782 : decode cL_law 782 = .ok (.iaload, 1) := by decide +kernel
theorem dL_law_783 : decode cL_law 783 = .ok (.aload_n 0, 1) := by decide +kernel
theorem dL_law_784 : decode cL_law 784 = .ok (.iload 5, 2) := by decide +kernel
theorem dL_law_786 : decode cL_law 786 = .ok (.iconst 5, 1) := by decide +kernel
theorem dL_law_787 : decode cL_law 787 = .ok (.iadd, 1) := by decide +kernel
theorem dL_law_788 : decode cL_law 788 = .ok (.iaload, 1) := by decide +kernel
theorem dL_law_789 : decode cL_law 789 = .ok (.aload_n 0, 1) := by decide +kernel
theorem dL_law_790 : decode cL_law 790 = .ok (.iload 5, 2) := by decide +kernel
theorem dL_law_792 : decode cL_law 792 = .ok (.bipush 6, 2) := by decide +kernel
theorem dL_law_794 : decode cL_law 794 = .ok (.iadd, 1) := by decide +kernel
theorem dL_law_795 : decode cL_law 795 = .ok (.iaload, 1) := by decide +kernel
theorem dL_law_796 : decode cL_law 796 = .ok (.invokevirtual 164, 3) := by decide +kernel
theorem dL_law_799 : decode cL_law 799 = .ok (.istore 7, 2) := by decide +kernel
theorem dL_law_801 : decode cL_law 801 = .ok (.aload_n 2, 1) := by decide +kernel
theorem dL_law_802 : decode cL_law 802 = .ok (.invokevirtual 138, 3) := by decide +kernel
theorem dL_law_805 : decode cL_law 805 = .ok (.iload 6, 2) := by decide +kernel
theorem dL_law_807 : decode cL_law 807 = .ok (.if_icmp .eq 5, 3) := by decide +kernel
theorem dL_law_812 : decode cL_law 812 = .ok (.iload 6, 2) := by decide +kernel
theorem dL_law_814 : decode cL_law 814 = .ok (.ifCond .ne 15, 3) := by decide +kernel
theorem dL_law_829 : decode cL_law 829 = .ok (.goto 1327, 3) := by decide +kernel
theorem dL_law_832 : decode cL_law 832 = .ok (.aload_n 1, 1) := by decide +kernel
theorem dL_law_833 : decode cL_law 833 = .ok (.aload_n 0, 1) := by decide +kernel
theorem dL_law_834 : decode cL_law 834 = .ok (.iload 5, 2) := by decide +kernel
theorem dL_law_836 : decode cL_law 836 = .ok (.iconst 1, 1) := by decide +kernel
theorem dL_law_837 : decode cL_law 837 = .ok (.iadd, 1) := by decide +kernel
theorem dL_law_838 : decode cL_law 838 = .ok (.iaload, 1) := by decide +kernel
theorem dL_law_839 : decode cL_law 839 = .ok (.aload_n 3, 1) := by decide +kernel
theorem dL_law_840 : decode cL_law 840 = .ok (.invokestatic 165, 3) := by decide +kernel
theorem dL_law_843 : decode cL_law 843 = .ok (.istore 6, 2) := by decide +kernel
theorem dL_law_845 : decode cL_law 845 = .ok (.aload_n 2, 1) := by decide +kernel
theorem dL_law_846 : decode cL_law 846 = .ok (.aload_n 0, 1) := by decide +kernel
theorem dL_law_847 : decode cL_law 847 = .ok (.iload 5, 2) := by decide +kernel
theorem dL_law_849 : decode cL_law 849 = .ok (.iconst 1, 1) := by decide +kernel
theorem dL_law_850 : decode cL_law 850 = .ok (.iadd, 1) := by decide +kernel
theorem dL_law_851 : decode cL_law 851 = .ok (.iaload, 1) := by decide +kernel
theorem dL_law_852 : decode cL_law 852 = .ok (.invokevirtual 168, 3) := by decide +kernel
theorem dL_law_855 : decode cL_law 855 = .ok (.istore 7, 2) := by decide +kernel
theorem dL_law_857 : decode cL_law 857 = .ok (.aload_n 2, 1) := by decide +kernel
theorem dL_law_858 : decode cL_law 858 = .ok (.invokevirtual 138, 3) := by decide +kernel
theorem dL_law_861 : decode cL_law 861 = .ok (.iload 6, 2) := by decide +kernel
theorem dL_law_863 : decode cL_law 863 = .ok (.if_icmp .eq 5, 3) := by decide +kernel
theorem dL_law_868 : decode cL_law 868 = .ok (.iload 6, 2) := by decide +kernel
theorem dL_law_870 : decode cL_law 870 = .ok (.ifCond .ne 15, 3) := by decide +kernel
theorem dL_law_885 : decode cL_law 885 = .ok (.goto 1271, 3) := by decide +kernel
theorem m_0 : (Cond.initialized "TheatrehouseLaw") ∈ lw_all := lw_in 0 (by decide +kernel) (by decide +kernel)
theorem m_548 : (Cond.methodLink "TheatrehouseLaw" 132 ⟨"TheatrehouseLaw", "addPerson", "(LTheatrehouse;II[J)I"⟩) ∈ lw_all := lw_in 548 (by decide +kernel) (by decide +kernel)
theorem m_549 : (Cond.static ⟨"TheatrehouseLaw", "addPerson", "(LTheatrehouse;II[J)I"⟩) ∈ lw_all := lw_in 549 (by decide +kernel) (by decide +kernel)
theorem m_550 : (Cond.codeWith ⟨"TheatrehouseLaw", "addPerson", "(LTheatrehouse;II[J)I"⟩ method_3_code 5 (Option.some Jvm.ClassFile.FieldType.int) [(0, 10, 13, 13), (0, 10, 17, 15)]) ∈ lw_all := lw_in 550 (by decide +kernel) (by decide +kernel)
theorem m_656 : (Cond.methodLink "TheatrehouseLaw" 141 ⟨"TheatrehouseLaw", "setCover", "(LTheatrehouse;II[J)I"⟩) ∈ lw_all := lw_in 656 (by decide +kernel) (by decide +kernel)
theorem m_657 : (Cond.static ⟨"TheatrehouseLaw", "setCover", "(LTheatrehouse;II[J)I"⟩) ∈ lw_all := lw_in 657 (by decide +kernel) (by decide +kernel)
theorem m_658 : (Cond.codeWith ⟨"TheatrehouseLaw", "setCover", "(LTheatrehouse;II[J)I"⟩ method_4_code 5 (Option.some Jvm.ClassFile.FieldType.int) [(0, 10, 13, 20), (0, 10, 17, 15)]) ∈ lw_all := lw_in 658 (by decide +kernel) (by decide +kernel)
theorem m_712 : (Cond.methodLink "TheatrehouseLaw" 144 ⟨"TheatrehouseLaw", "fallIll", "(LTheatrehouse;II[J)I"⟩) ∈ lw_all := lw_in 712 (by decide +kernel) (by decide +kernel)
theorem m_713 : (Cond.static ⟨"TheatrehouseLaw", "fallIll", "(LTheatrehouse;II[J)I"⟩) ∈ lw_all := lw_in 713 (by decide +kernel) (by decide +kernel)
theorem m_714 : (Cond.codeWith ⟨"TheatrehouseLaw", "fallIll", "(LTheatrehouse;II[J)I"⟩ method_5_code 5 (Option.some Jvm.ClassFile.FieldType.int) [(0, 10, 13, 20), (0, 10, 17, 13)]) ∈ lw_all := lw_in 714 (by decide +kernel) (by decide +kernel)
theorem m_719 : (Cond.methodLink "TheatrehouseLaw" 147 ⟨"TheatrehouseLaw", "addMachine", "(LTheatrehouse;II[J)I"⟩) ∈ lw_all := lw_in 719 (by decide +kernel) (by decide +kernel)
theorem m_720 : (Cond.static ⟨"TheatrehouseLaw", "addMachine", "(LTheatrehouse;II[J)I"⟩) ∈ lw_all := lw_in 720 (by decide +kernel) (by decide +kernel)
theorem m_721 : (Cond.codeWith ⟨"TheatrehouseLaw", "addMachine", "(LTheatrehouse;II[J)I"⟩ method_6_code 5 (Option.some Jvm.ClassFile.FieldType.int) [(0, 10, 13, 13), (0, 10, 17, 15)]) ∈ lw_all := lw_in 721 (by decide +kernel) (by decide +kernel)
theorem m_726 : (Cond.methodLink "TheatrehouseLaw" 150 ⟨"TheatrehouseLaw", "setInterlock", "(LTheatrehouse;IIII[J)I"⟩) ∈ lw_all := lw_in 726 (by decide +kernel) (by decide +kernel)
theorem m_727 : (Cond.static ⟨"TheatrehouseLaw", "setInterlock", "(LTheatrehouse;IIII[J)I"⟩) ∈ lw_all := lw_in 727 (by decide +kernel) (by decide +kernel)
theorem m_728 : (Cond.codeWith ⟨"TheatrehouseLaw", "setInterlock", "(LTheatrehouse;IIII[J)I"⟩ method_7_code 7 (Option.some Jvm.ClassFile.FieldType.int) [(0, 14, 17, 20), (0, 14, 21, 13), (0, 14, 25, 15)]) ∈ lw_all := lw_in 728 (by decide +kernel) (by decide +kernel)
theorem m_738 : (Cond.methodLink "TheatrehouseLaw" 154 ⟨"TheatrehouseLaw", "addWork", "(LTheatrehouse;II[J)I"⟩) ∈ lw_all := lw_in 738 (by decide +kernel) (by decide +kernel)
theorem m_739 : (Cond.static ⟨"TheatrehouseLaw", "addWork", "(LTheatrehouse;II[J)I"⟩) ∈ lw_all := lw_in 739 (by decide +kernel) (by decide +kernel)
theorem m_740 : (Cond.codeWith ⟨"TheatrehouseLaw", "addWork", "(LTheatrehouse;II[J)I"⟩ method_8_code 5 (Option.some Jvm.ClassFile.FieldType.int) [(0, 10, 13, 13), (0, 10, 17, 15)]) ∈ lw_all := lw_in 740 (by decide +kernel) (by decide +kernel)
theorem m_745 : (Cond.methodLink "TheatrehouseLaw" 157 ⟨"TheatrehouseLaw", "setRole", "(LTheatrehouse;III[J)I"⟩) ∈ lw_all := lw_in 745 (by decide +kernel) (by decide +kernel)
theorem m_746 : (Cond.static ⟨"TheatrehouseLaw", "setRole", "(LTheatrehouse;III[J)I"⟩) ∈ lw_all := lw_in 746 (by decide +kernel) (by decide +kernel)
theorem m_747 : (Cond.codeWith ⟨"TheatrehouseLaw", "setRole", "(LTheatrehouse;III[J)I"⟩ method_9_code 6 (Option.some Jvm.ClassFile.FieldType.int) [(0, 12, 15, 20), (0, 12, 19, 39), (0, 12, 23, 15)]) ∈ lw_all := lw_in 747 (by decide +kernel) (by decide +kernel)
theorem m_779 : (Cond.methodLink "TheatrehouseLaw" 161 ⟨"TheatrehouseLaw", "addCue", "(LTheatrehouse;ICIIII[J)I"⟩) ∈ lw_all := lw_in 779 (by decide +kernel) (by decide +kernel)
theorem m_780 : (Cond.static ⟨"TheatrehouseLaw", "addCue", "(LTheatrehouse;ICIIII[J)I"⟩) ∈ lw_all := lw_in 780 (by decide +kernel) (by decide +kernel)
theorem m_781 : (Cond.codeWith ⟨"TheatrehouseLaw", "addCue", "(LTheatrehouse;ICIIII[J)I"⟩ method_10_code 9 (Option.some Jvm.ClassFile.FieldType.int) [(0, 18, 21, 20), (0, 18, 25, 13), (0, 18, 29, 15)]) ∈ lw_all := lw_in 781 (by decide +kernel) (by decide +kernel)
theorem m_797 : (Cond.methodLink "TheatrehouseLaw" 165 ⟨"TheatrehouseLaw", "cues", "(LTheatrehouse;I[J)I"⟩) ∈ lw_all := lw_in 797 (by decide +kernel) (by decide +kernel)
theorem m_798 : (Cond.static ⟨"TheatrehouseLaw", "cues", "(LTheatrehouse;I[J)I"⟩) ∈ lw_all := lw_in 798 (by decide +kernel) (by decide +kernel)
theorem m_799 : (Cond.codeWith ⟨"TheatrehouseLaw", "cues", "(LTheatrehouse;I[J)I"⟩ method_11_code 4 (Option.some Jvm.ClassFile.FieldType.int) [(0, 9, 12, 20)]) ∈ lw_all := lw_in 799 (by decide +kernel) (by decide +kernel)
theorem m_1229 : (Cond.methodLink "TheatrehouseLaw" 138 ⟨"TheatrehouseModel", "thrown", "()I"⟩) ∈ lw_all := lw_in 1229 (by decide +kernel) (by decide +kernel)
theorem m_1230 : (Cond.instanceMethod ⟨"TheatrehouseModel", "thrown", "()I"⟩) ∈ lw_all := lw_in 1230 (by decide +kernel) (by decide +kernel)
theorem m_1231 : (Cond.selects "TheatrehouseModel" ⟨"TheatrehouseModel", "thrown", "()I"⟩ ⟨"TheatrehouseModel", "thrown", "()I"⟩) ∈ lw_all := lw_in 1231 (by decide +kernel) (by decide +kernel)
theorem m_1232 : (Cond.code ⟨"TheatrehouseModel", "thrown", "()I"⟩ prog_13_method_2_code 1 (Option.some Jvm.ClassFile.FieldType.int)) ∈ lw_all := lw_in 1232 (by decide +kernel) (by decide +kernel)
theorem m_1233 : (Cond.methodLink "TheatrehouseLaw" 137 ⟨"TheatrehouseModel", "addPerson", "(II)I"⟩) ∈ lw_all := lw_in 1233 (by decide +kernel) (by decide +kernel)
theorem m_1234 : (Cond.instanceMethod ⟨"TheatrehouseModel", "addPerson", "(II)I"⟩) ∈ lw_all := lw_in 1234 (by decide +kernel) (by decide +kernel)
theorem m_1235 : (Cond.selects "TheatrehouseModel" ⟨"TheatrehouseModel", "addPerson", "(II)I"⟩ ⟨"TheatrehouseModel", "addPerson", "(II)I"⟩) ∈ lw_all := lw_in 1235 (by decide +kernel) (by decide +kernel)
theorem m_1236 : (Cond.code ⟨"TheatrehouseModel", "addPerson", "(II)I"⟩ prog_13_method_7_code 3 (Option.some Jvm.ClassFile.FieldType.int)) ∈ lw_all := lw_in 1236 (by decide +kernel) (by decide +kernel)
theorem m_1367 : (Cond.methodLink "TheatrehouseLaw" 143 ⟨"TheatrehouseModel", "setCover", "(II)I"⟩) ∈ lw_all := lw_in 1367 (by decide +kernel) (by decide +kernel)
theorem m_1368 : (Cond.instanceMethod ⟨"TheatrehouseModel", "setCover", "(II)I"⟩) ∈ lw_all := lw_in 1368 (by decide +kernel) (by decide +kernel)
theorem m_1369 : (Cond.selects "TheatrehouseModel" ⟨"TheatrehouseModel", "setCover", "(II)I"⟩ ⟨"TheatrehouseModel", "setCover", "(II)I"⟩) ∈ lw_all := lw_in 1369 (by decide +kernel) (by decide +kernel)
theorem m_1370 : (Cond.code ⟨"TheatrehouseModel", "setCover", "(II)I"⟩ prog_13_method_8_code 5 (Option.some Jvm.ClassFile.FieldType.int)) ∈ lw_all := lw_in 1370 (by decide +kernel) (by decide +kernel)
theorem m_1394 : (Cond.methodLink "TheatrehouseLaw" 146 ⟨"TheatrehouseModel", "fallIll", "(II)I"⟩) ∈ lw_all := lw_in 1394 (by decide +kernel) (by decide +kernel)
theorem m_1395 : (Cond.instanceMethod ⟨"TheatrehouseModel", "fallIll", "(II)I"⟩) ∈ lw_all := lw_in 1395 (by decide +kernel) (by decide +kernel)
theorem m_1396 : (Cond.selects "TheatrehouseModel" ⟨"TheatrehouseModel", "fallIll", "(II)I"⟩ ⟨"TheatrehouseModel", "fallIll", "(II)I"⟩) ∈ lw_all := lw_in 1396 (by decide +kernel) (by decide +kernel)
theorem m_1397 : (Cond.code ⟨"TheatrehouseModel", "fallIll", "(II)I"⟩ prog_13_method_9_code 3 (Option.some Jvm.ClassFile.FieldType.int)) ∈ lw_all := lw_in 1397 (by decide +kernel) (by decide +kernel)
theorem m_1398 : (Cond.methodLink "TheatrehouseLaw" 149 ⟨"TheatrehouseModel", "addMachine", "(II)I"⟩) ∈ lw_all := lw_in 1398 (by decide +kernel) (by decide +kernel)
theorem m_1399 : (Cond.instanceMethod ⟨"TheatrehouseModel", "addMachine", "(II)I"⟩) ∈ lw_all := lw_in 1399 (by decide +kernel) (by decide +kernel)
theorem m_1400 : (Cond.selects "TheatrehouseModel" ⟨"TheatrehouseModel", "addMachine", "(II)I"⟩ ⟨"TheatrehouseModel", "addMachine", "(II)I"⟩) ∈ lw_all := lw_in 1400 (by decide +kernel) (by decide +kernel)
theorem m_1401 : (Cond.code ⟨"TheatrehouseModel", "addMachine", "(II)I"⟩ prog_13_method_10_code 3 (Option.some Jvm.ClassFile.FieldType.int)) ∈ lw_all := lw_in 1401 (by decide +kernel) (by decide +kernel)
theorem m_1429 : (Cond.methodLink "TheatrehouseLaw" 153 ⟨"TheatrehouseModel", "setInterlock", "(IIII)I"⟩) ∈ lw_all := lw_in 1429 (by decide +kernel) (by decide +kernel)
theorem m_1430 : (Cond.instanceMethod ⟨"TheatrehouseModel", "setInterlock", "(IIII)I"⟩) ∈ lw_all := lw_in 1430 (by decide +kernel) (by decide +kernel)
theorem m_1431 : (Cond.selects "TheatrehouseModel" ⟨"TheatrehouseModel", "setInterlock", "(IIII)I"⟩ ⟨"TheatrehouseModel", "setInterlock", "(IIII)I"⟩) ∈ lw_all := lw_in 1431 (by decide +kernel) (by decide +kernel)
theorem m_1432 : (Cond.code ⟨"TheatrehouseModel", "setInterlock", "(IIII)I"⟩ prog_13_method_11_code 9 (Option.some Jvm.ClassFile.FieldType.int)) ∈ lw_all := lw_in 1432 (by decide +kernel) (by decide +kernel)
theorem m_1438 : (Cond.methodLink "TheatrehouseLaw" 156 ⟨"TheatrehouseModel", "addWork", "(II)I"⟩) ∈ lw_all := lw_in 1438 (by decide +kernel) (by decide +kernel)
theorem m_1439 : (Cond.instanceMethod ⟨"TheatrehouseModel", "addWork", "(II)I"⟩) ∈ lw_all := lw_in 1439 (by decide +kernel) (by decide +kernel)
theorem m_1440 : (Cond.selects "TheatrehouseModel" ⟨"TheatrehouseModel", "addWork", "(II)I"⟩ ⟨"TheatrehouseModel", "addWork", "(II)I"⟩) ∈ lw_all := lw_in 1440 (by decide +kernel) (by decide +kernel)
theorem m_1441 : (Cond.code ⟨"TheatrehouseModel", "addWork", "(II)I"⟩ prog_13_method_12_code 3 (Option.some Jvm.ClassFile.FieldType.int)) ∈ lw_all := lw_in 1441 (by decide +kernel) (by decide +kernel)
theorem m_1472 : (Cond.methodLink "TheatrehouseLaw" 160 ⟨"TheatrehouseModel", "setRole", "(III)I"⟩) ∈ lw_all := lw_in 1472 (by decide +kernel) (by decide +kernel)
theorem m_1473 : (Cond.instanceMethod ⟨"TheatrehouseModel", "setRole", "(III)I"⟩) ∈ lw_all := lw_in 1473 (by decide +kernel) (by decide +kernel)
theorem m_1474 : (Cond.selects "TheatrehouseModel" ⟨"TheatrehouseModel", "setRole", "(III)I"⟩ ⟨"TheatrehouseModel", "setRole", "(III)I"⟩) ∈ lw_all := lw_in 1474 (by decide +kernel) (by decide +kernel)
theorem m_1475 : (Cond.code ⟨"TheatrehouseModel", "setRole", "(III)I"⟩ prog_13_method_13_code 7 (Option.some Jvm.ClassFile.FieldType.int)) ∈ lw_all := lw_in 1475 (by decide +kernel) (by decide +kernel)
theorem m_1480 : (Cond.methodLink "TheatrehouseLaw" 164 ⟨"TheatrehouseModel", "addCue", "(ICIIII)I"⟩) ∈ lw_all := lw_in 1480 (by decide +kernel) (by decide +kernel)
theorem m_1481 : (Cond.instanceMethod ⟨"TheatrehouseModel", "addCue", "(ICIIII)I"⟩) ∈ lw_all := lw_in 1481 (by decide +kernel) (by decide +kernel)
theorem m_1482 : (Cond.selects "TheatrehouseModel" ⟨"TheatrehouseModel", "addCue", "(ICIIII)I"⟩ ⟨"TheatrehouseModel", "addCue", "(ICIIII)I"⟩) ∈ lw_all := lw_in 1482 (by decide +kernel) (by decide +kernel)
theorem m_1483 : (Cond.code ⟨"TheatrehouseModel", "addCue", "(ICIIII)I"⟩ prog_13_method_15_code 10 (Option.some Jvm.ClassFile.FieldType.int)) ∈ lw_all := lw_in 1483 (by decide +kernel) (by decide +kernel)
theorem m_1517 : (Cond.methodLink "TheatrehouseLaw" 168 ⟨"TheatrehouseModel", "cues", "(I)I"⟩) ∈ lw_all := lw_in 1517 (by decide +kernel) (by decide +kernel)
theorem m_1518 : (Cond.instanceMethod ⟨"TheatrehouseModel", "cues", "(I)I"⟩) ∈ lw_all := lw_in 1518 (by decide +kernel) (by decide +kernel)
theorem m_1519 : (Cond.selects "TheatrehouseModel" ⟨"TheatrehouseModel", "cues", "(I)I"⟩ ⟨"TheatrehouseModel", "cues", "(I)I"⟩) ∈ lw_all := lw_in 1519 (by decide +kernel) (by decide +kernel)
theorem m_1520 : (Cond.code ⟨"TheatrehouseModel", "cues", "(I)I"⟩ prog_13_method_16_code 2 (Option.some Jvm.ClassFile.FieldType.int)) ∈ lw_all := lw_in 1520 (by decide +kernel) (by decide +kernel)
set_option maxHeartbeats 4000000 in
set_option maxRecDepth 100000 in
theorem case_0_b1 {p : Program} {l : Launch} {e : Env} {s : State} {m : MethodId} {below : List Frame} {meth : Method} {c : Code} {b L : Nat} {xs : Nat → Int32} {z0 : Nat} {D : va_G} {g : Nat → Nat} (hfl : l.stackTraces = false) (hL7 : L = 7) (C0 : lw_At p s m meth c b L xs) (hz : s.heap.size = z0) (hE : EV z0 D g s s.heap) (x a0 a1 a2 a3 a4 a5 a6 pp pm pw w1 w2 w3 mm b0 b1 b2 b3 b4 b5 b6 o od : Nat) (cP cM cW cE cJ cD : ClassId) (G0 G1 G2 F : Nat → Option Nat) (LP : List Nat) (hF0 : G0 0 = some pp) (hF1 : G1 0 = some pm) (hF2 : G2 0 = some pw) (hF3 : ∀ j : Nat, j < 100 → ∃ y : Nat, y ∈ LP ∧ F j = some y) (hK : va_K D classes [(cP, .object "Theatrehouse$Person"), (cM, .object "Theatrehouse$Machine"), (cW, .object "Theatrehouse$Work"), (cE, .object "Theatrehouse$Evening"), (cJ, .long), (cD, .double)] s) (h : (xs (Int32.toNatClampNeg 1)) < 0 ∨ ¬ (xs (Int32.toNatClampNeg 1)) ≤ 99) : ∀ (H : Heap) (locs : List Loc), va_P D classes ([(x, .inr (0, [.ref a0, .ref a1, .ref a2, .ref a3, .ref a4, .ref a5, .ref a6, .int 0, .int 0, .int 0, .int 0, .int 0, .int 0, .int 0])), (a0, .inl (cP, 10, .inr (.inr (.inr (.inr G0))))), (a1, .inl (cM, 6, .inr (.inr (.inr (.inr G1))))), (a2, .inl (cW, 3, .inr (.inr (.inr (.inr G2))))), (a3, .inl (cE, 100, .inr (.inr (.inr (.inr F))))), (pp, .inr (1, [.int 0, .int 0, .int 0, .int 0, .int (-1), .int (-1)])), (pm, .inr (2, [.int 0, .int 0, .int (-1), .int 0, .int 0])), (pw, .inr (3, [.int 0, .int 0, .int 0, .int 0, .ref w1, .ref w2, .ref w3])), (mm, .inr (9, [.ref b0, .ref b1, .ref b2, .ref b3, .int 0, .null, .null, .ref b4, .null, .ref b5, .ref b6, .int 0, .int 0, .long 0, .int 0])), (b0, .inr (10, [.int 0, .ref (g 4), .int 0])), (b1, .inr (10, [.int 0, .ref (g 4), .int 0])), (b2, .inr (10, [.int 0, .ref (g 4), .int 0])), (b3, .inr (11, [.null, .null, .null, .null, .int 0, .int 0, .null, .null, .null])), (o, .inl (cJ, 1, .inr (.inl (fun _ => 0)))), (od, .inl (cD, 1, .inr (.inr (.inr (.inl (fun _ => 0))))))] ++ va_pl LP (fun _ => freeE g)) H → va_D (lA z0) ([(x, .inr (0, [.ref a0, .ref a1, .ref a2, .ref a3, .ref a4, .ref a5, .ref a6, .int 0, .int 0, .int 0, .int 0, .int 0, .int 0, .int 0])), (a0, .inl (cP, 10, .inr (.inr (.inr (.inr G0))))), (a1, .inl (cM, 6, .inr (.inr (.inr (.inr G1))))), (a2, .inl (cW, 3, .inr (.inr (.inr (.inr G2))))), (a3, .inl (cE, 100, .inr (.inr (.inr (.inr F))))), (pp, .inr (1, [.int 0, .int 0, .int 0, .int 0, .int (-1), .int (-1)])), (pm, .inr (2, [.int 0, .int 0, .int (-1), .int 0, .int 0])), (pw, .inr (3, [.int 0, .int 0, .int 0, .int 0, .ref w1, .ref w2, .ref w3])), (mm, .inr (9, [.ref b0, .ref b1, .ref b2, .ref b3, .int 0, .null, .null, .ref b4, .null, .ref b5, .ref b6, .int 0, .int 0, .long 0, .int 0])), (b0, .inr (10, [.int 0, .ref (g 4), .int 0])), (b1, .inr (10, [.int 0, .ref (g 4), .int 0])), (b2, .inr (10, [.int 0, .ref (g 4), .int 0])), (b3, .inr (11, [.null, .null, .null, .null, .int 0, .int 0, .null, .null, .null])), (o, .inl (cJ, 1, .inr (.inl (fun _ => 0)))), (od, .inl (cD, 1, .inr (.inr (.inr (.inl (fun _ => 0))))))] ++ va_pl LP (fun _ => freeE g)) → va_S (lA z0) s.heap H locs → ∀ (ls : Array Slot), lv_has ls 9 [(5, .int 0), (4, .ref od), (3, .ref o), (2, .ref mm), (1, .ref x), (0, .ref b)] → W p l e room_1 s m #[Value.ref b] below meth c H locs 199 4528 (lw_Z below #[Value.ref b] s) (F0 m 200 ls []) := by
  subst hL7
  obtain ⟨hx, hb, hr, hml, hown, hts0, hX, hbl, hlocks, hgv⟩ := id C0
  have hown : s.vm.findClass "TheatrehouseLaw" = some m.cls := hown
  have hts : ∀ w ∈ lw_all, w.before #[Value.ref b] s = true := fun w h => hts0 w (List.mem_filter.mp h).1
  have hAz : ∀ q, lA z0 q → z0 ≤ q := fun _ h => h
  have hA : ∀ q : Nat, s.heap.size ≤ q → lA z0 q := fun q h => by show z0 ≤ q; rw [← hz]; exact h
  have hsz : z0 ≤ s.heap.size := Nat.le_of_eq hz.symm
  have hbA : ¬ lA z0 b := by show ¬ z0 ≤ b; rw [← hz]; exact Nat.not_le.mpr hbl
  intro H locs hP hD hS ls hl
  refine lv_aload_n hx hb dL_law_200 rfl (lv_at hl 4 rfl) ?_
  refine lv_aload_n hx hb dL_law_201 rfl (lv_at hl 5 rfl) ?_
  refine lv_iload hx hb dL_law_202 (lv_at hl 0 rfl) ?_
  refine lv_iconst (v := 1) hx hb dL_law_204 (by decide) ?_
  refine lv_iadd hx hb dL_law_205 ?_
  rw [show (0 + 1 : Int32) = 1 by decide]
  refine va_sld (i := 1) hx hb hX hbl hbA hS (by unfold vp_in; decide) dL_law_206 ?_
  refine lv_aload_n hx hb dL_law_207 rfl (lv_at hl 5 rfl) ?_
  refine lv_iload hx hb dL_law_208 (lv_at hl 0 rfl) ?_
  refine lv_iconst (v := 2) hx hb dL_law_210 (by decide) ?_
  refine lv_iadd hx hb dL_law_211 ?_
  rw [show (0 + 2 : Int32) = 2 by decide]
  refine va_sld (i := 2) hx hb hX hbl hbA hS (by unfold vp_in; decide) dL_law_212 ?_
  refine lv_aload_n hx hb dL_law_213 rfl (lv_at hl 2 rfl) ?_
  have hc_1 := hP.sub (ws' := [(x, .inr (0, [.ref a0, .ref a1, .ref a2, .ref a3, .ref a4, .ref a5, .ref a6, .int 0, .int 0, .int 0, .int 0, .int 0, .int 0, .int 0]))]) [0] rfl
  refine va_calli (vx_runSW (As := [.ref x, .int (xs (Int32.toNatClampNeg 1)), .int (xs (Int32.toNatClampNeg 2)), .ref o]) (rest := []) ⟨hx, hb, hml, hown, hts⟩ (met_of (c_L_addPerson_b1 l hfl z0 D g x a0 a1 a2 a3 a4 a5 a6 (xs (Int32.toNatClampNeg 1)) (xs (Int32.toNatClampNeg 2)) o h)) (vx_cwSW 4 hts (lw_SW m_548 m_549 m_0 m_550) rfl rfl rfl (by decide +kernel) ⟨(Nat.le_of_ble_eq_true rfl), (Nat.le_of_ble_eq_true rfl)⟩) ⟨PR.blind, PR.pre hE hS hAz hc_1⟩ rfl rfl hl.1 rfl (lv_room (Nat.le_of_ble_eq_true rfl)) dL_law_214 ⟨(Nat.le_of_ble_eq_true rfl), (Nat.le_of_ble_eq_true rfl)⟩) hS nA_B nA_A (fun r_2 u_3 t H locs ht hvm hw hB hz1 hk1 hS => ?_)
  have hP := hP.old hk1
  have hP : va_P D classes ([(x, .inr (0, [.ref a0, .ref a1, .ref a2, .ref a3, .ref a4, .ref a5, .ref a6, .int 0, .int 0, .int 0, .int 0, .int 0, .int 0, .int 0])), (a0, .inl (cP, 10, .inr (.inr (.inr (.inr G0))))), (a1, .inl (cM, 6, .inr (.inr (.inr (.inr G1))))), (a2, .inl (cW, 3, .inr (.inr (.inr (.inr G2))))), (a3, .inl (cE, 100, .inr (.inr (.inr (.inr F))))), (pp, .inr (1, [.int 0, .int 0, .int 0, .int 0, .int (-1), .int (-1)])), (pm, .inr (2, [.int 0, .int 0, .int (-1), .int 0, .int 0])), (pw, .inr (3, [.int 0, .int 0, .int 0, .int 0, .ref w1, .ref w2, .ref w3])), (mm, .inr (9, [.ref b0, .ref b1, .ref b2, .ref b3, .int 0, .null, .null, .ref b4, .null, .ref b5, .ref b6, .int 0, .int 0, .long 0, .int 0])), (b0, .inr (10, [.int 0, .ref (g 4), .int 0])), (b1, .inr (10, [.int 0, .ref (g 4), .int 0])), (b2, .inr (10, [.int 0, .ref (g 4), .int 0])), (b3, .inr (11, [.null, .null, .null, .null, .int 0, .int 0, .null, .null, .null])), (o, .inl (cJ, 1, .inr (.inl (fun _ => 0)))), (od, .inl (cD, 1, .inr (.inr (.inr (.inl (fun _ => 0))))))] ++ va_pl LP (fun _ => freeE g)) H := hP
  subst hw
  refine lv_istore (lv' := [(6, .int 1), (5, .int 0), (4, .ref od), (3, .ref o), (2, .ref mm), (1, .ref x), (0, .ref b)]) hx hb dL_law_217 hl (by decide) rfl (fun ls hl => ?_)
  refine lv_aload_n hx hb dL_law_219 rfl (lv_at hl 4 rfl) ?_
  refine lv_aload_n hx hb dL_law_220 rfl (lv_at hl 6 rfl) ?_
  refine lv_iload hx hb dL_law_221 (lv_at hl 1 rfl) ?_
  refine lv_iconst (v := 1) hx hb dL_law_223 (by decide) ?_
  refine lv_iadd hx hb dL_law_224 ?_
  rw [show (0 + 1 : Int32) = 1 by decide]
  refine va_sld (i := 1) hx hb hX hbl hbA hS (by unfold vp_in; decide) dL_law_225 ?_
  refine lv_aload_n hx hb dL_law_226 rfl (lv_at hl 6 rfl) ?_
  refine lv_iload hx hb dL_law_227 (lv_at hl 1 rfl) ?_
  refine lv_iconst (v := 2) hx hb dL_law_229 (by decide) ?_
  refine lv_iadd hx hb dL_law_230 ?_
  rw [show (0 + 2 : Int32) = 2 by decide]
  refine va_sld (i := 2) hx hb hX hbl hbA hS (by unfold vp_in; decide) dL_law_231 ?_
  have hc_4 := hP.sub (ws' := [(mm, .inr (9, [.ref b0, .ref b1, .ref b2, .ref b3, .int 0, .null, .null, .ref b4, .null, .ref b5, .ref b6, .int 0, .int 0, .long 0, .int 0])), (b0, .inr (10, [.int 0, .ref (g 4), .int 0])), (b1, .inr (10, [.int 0, .ref (g 4), .int 0])), (b2, .inr (10, [.int 0, .ref (g 4), .int 0])), (b3, .inr (11, [.null, .null, .null, .null, .int 0, .int 0, .null, .null, .null]))]) [8, 9, 10, 11, 12] rfl
  have hc_4D := hD.sub (ws' := [(mm, .inr (9, [.ref b0, .ref b1, .ref b2, .ref b3, .int 0, .null, .null, .ref b4, .null, .ref b5, .ref b6, .int 0, .int 0, .long 0, .int 0])), (b0, .inr (10, [.int 0, .ref (g 4), .int 0])), (b1, .inr (10, [.int 0, .ref (g 4), .int 0])), (b2, .inr (10, [.int 0, .ref (g 4), .int 0])), (b3, .inr (11, [.null, .null, .null, .null, .int 0, .int 0, .null, .null, .null]))]) [8, 9, 10, 11, 12] (by decide) rfl
  have hc_4F := va_free (wc := [(mm, .inr (9, [.ref b0, .ref b1, .ref b2, .ref b3, .int 0, .null, .null, .ref b4, .null, .ref b5, .ref b6, .int 0, .int 0, .long 0, .int 0])), (b0, .inr (10, [.int 0, .ref (g 4), .int 0])), (b1, .inr (10, [.int 0, .ref (g 4), .int 0])), (b2, .inr (10, [.int 0, .ref (g 4), .int 0])), (b3, .inr (11, [.null, .null, .null, .null, .int 0, .int 0, .null, .null, .null]))]) hD hS hA [8, 9, 10, 11, 12] rfl
  refine va_calli (va_runV (As := [.int (xs (Int32.toNatClampNeg 1)), .int (xs (Int32.toNatClampNeg 2))]) (rest := []) ⟨hx, hb, hml, hown, hts⟩ (c_X18_addPerson_b1 l z0 D g _ mm b0 b1 b2 b3 b4 b5 b6 (xs (Int32.toNatClampNeg 1)) (xs (Int32.toNatClampNeg 2)) h) (cwV 2 hts (lw_V m_1233 m_1234 m_1235 m_12 m_1236) rfl rfl rfl (by decide +kernel) ⟨(Nat.le_of_ble_eq_true rfl), (Nat.le_of_ble_eq_true rfl)⟩) ⟨PM.blind, va_recv hK hP (ci := 9) (q0 := 8) rfl rfl, PM.pre hE hS hAz hsz hc_4 hc_4D⟩ rfl rfl hl.1 rfl (lv_room (Nat.le_of_ble_eq_true rfl)) dL_law_232 ⟨(Nat.le_of_ble_eq_true rfl), (Nat.le_of_ble_eq_true rfl)⟩) hS (fun q _ h => hc_4F q h) hc_4F (fun r_5 u_6 t H locs ht hvm hw hB hz1 hk1 hS => ?_)
  obtain ⟨hP1, hD1⟩ := hB
  rw [ht] at hP1
  obtain ⟨hP, hD⟩ := va_joinQ (X := [(x, .inr (0, [.ref a0, .ref a1, .ref a2, .ref a3, .ref a4, .ref a5, .ref a6, .int 0, .int 0, .int 0, .int 0, .int 0, .int 0, .int 0])), (a0, .inl (cP, 10, .inr (.inr (.inr (.inr G0))))), (a1, .inl (cM, 6, .inr (.inr (.inr (.inr G1))))), (a2, .inl (cW, 3, .inr (.inr (.inr (.inr G2))))), (a3, .inl (cE, 100, .inr (.inr (.inr (.inr F))))), (pp, .inr (1, [.int 0, .int 0, .int 0, .int 0, .int (-1), .int (-1)])), (pm, .inr (2, [.int 0, .int 0, .int (-1), .int 0, .int 0])), (pw, .inr (3, [.int 0, .int 0, .int 0, .int 0, .ref w1, .ref w2, .ref w3])), (mm, .inr (9, [.ref b0, .ref b1, .ref b2, .ref b3, .int 0, .null, .null, .ref b4, .null, .ref b5, .ref b6, .int 0, .int 0, .long 0, .int 0])), (b0, .inr (10, [.int 0, .ref (g 4), .int 0])), (b1, .inr (10, [.int 0, .ref (g 4), .int 0])), (b2, .inr (10, [.int 0, .ref (g 4), .int 0])), (b3, .inr (11, [.null, .null, .null, .null, .int 0, .int 0, .null, .null, .null])), (o, .inl (cJ, 1, .inr (.inl (fun _ => 0)))), (od, .inl (cD, 1, .inr (.inr (.inr (.inl (fun _ => 0))))))]) (wr := [(x, .inr (0, [.ref a0, .ref a1, .ref a2, .ref a3, .ref a4, .ref a5, .ref a6, .int 0, .int 0, .int 0, .int 0, .int 0, .int 0, .int 0])), (a0, .inl (cP, 10, .inr (.inr (.inr (.inr G0))))), (a1, .inl (cM, 6, .inr (.inr (.inr (.inr G1))))), (a2, .inl (cW, 3, .inr (.inr (.inr (.inr G2))))), (a3, .inl (cE, 100, .inr (.inr (.inr (.inr F))))), (pp, .inr (1, [.int 0, .int 0, .int 0, .int 0, .int (-1), .int (-1)])), (pm, .inr (2, [.int 0, .int 0, .int (-1), .int 0, .int 0])), (pw, .inr (3, [.int 0, .int 0, .int 0, .int 0, .ref w1, .ref w2, .ref w3])), (o, .inl (cJ, 1, .inr (.inl (fun _ => 0)))), (od, .inl (cD, 1, .inr (.inr (.inr (.inl (fun _ => 0))))))]) (w1 := [(mm, .inr (9, [.ref b0, .ref b1, .ref b2, .ref b3, .int 0, .null, .null, .ref b4, .null, .ref b5, .ref b6, .int 0, .int 0, .long 0, .int 1]))]) hP hD [8, 9, 10, 11, 12] [0, 1, 2, 3, 4, 5, 6, 7, 13, 14] rfl rfl (by decide) (by decide) hk1 hc_4F hP1 hD1
  have hP : va_P D classes ([(x, .inr (0, [.ref a0, .ref a1, .ref a2, .ref a3, .ref a4, .ref a5, .ref a6, .int 0, .int 0, .int 0, .int 0, .int 0, .int 0, .int 0])), (a0, .inl (cP, 10, .inr (.inr (.inr (.inr G0))))), (a1, .inl (cM, 6, .inr (.inr (.inr (.inr G1))))), (a2, .inl (cW, 3, .inr (.inr (.inr (.inr G2))))), (a3, .inl (cE, 100, .inr (.inr (.inr (.inr F))))), (pp, .inr (1, [.int 0, .int 0, .int 0, .int 0, .int (-1), .int (-1)])), (pm, .inr (2, [.int 0, .int 0, .int (-1), .int 0, .int 0])), (pw, .inr (3, [.int 0, .int 0, .int 0, .int 0, .ref w1, .ref w2, .ref w3])), (o, .inl (cJ, 1, .inr (.inl (fun _ => 0)))), (od, .inl (cD, 1, .inr (.inr (.inr (.inl (fun _ => 0)))))), (mm, .inr (9, [.ref b0, .ref b1, .ref b2, .ref b3, .int 0, .null, .null, .ref b4, .null, .ref b5, .ref b6, .int 0, .int 0, .long 0, .int 1]))] ++ va_pl LP (fun _ => freeE g)) H := hP
  have hD : va_D (lA z0) ([(x, .inr (0, [.ref a0, .ref a1, .ref a2, .ref a3, .ref a4, .ref a5, .ref a6, .int 0, .int 0, .int 0, .int 0, .int 0, .int 0, .int 0])), (a0, .inl (cP, 10, .inr (.inr (.inr (.inr G0))))), (a1, .inl (cM, 6, .inr (.inr (.inr (.inr G1))))), (a2, .inl (cW, 3, .inr (.inr (.inr (.inr G2))))), (a3, .inl (cE, 100, .inr (.inr (.inr (.inr F))))), (pp, .inr (1, [.int 0, .int 0, .int 0, .int 0, .int (-1), .int (-1)])), (pm, .inr (2, [.int 0, .int 0, .int (-1), .int 0, .int 0])), (pw, .inr (3, [.int 0, .int 0, .int 0, .int 0, .ref w1, .ref w2, .ref w3])), (o, .inl (cJ, 1, .inr (.inl (fun _ => 0)))), (od, .inl (cD, 1, .inr (.inr (.inr (.inl (fun _ => 0)))))), (mm, .inr (9, [.ref b0, .ref b1, .ref b2, .ref b3, .int 0, .null, .null, .ref b4, .null, .ref b5, .ref b6, .int 0, .int 0, .long 0, .int 1]))] ++ va_pl LP (fun _ => freeE g)) := hD
  refine lv_istore (lv' := [(7, .int r_5), (6, .int 1), (5, .int 0), (4, .ref od), (3, .ref o), (2, .ref mm), (1, .ref x), (0, .ref b)]) hx hb dL_law_235 hl (by decide) rfl (fun ls hl => ?_)
  refine lv_aload_n hx hb dL_law_237 rfl (lv_at hl 5 rfl) ?_
  have hc_7 := hP.sub (ws' := [(mm, .inr (9, [.ref b0, .ref b1, .ref b2, .ref b3, .int 0, .null, .null, .ref b4, .null, .ref b5, .ref b6, .int 0, .int 0, .long 0, .int 1]))]) [10] rfl
  refine va_calli (va_runV (As := []) (rest := []) ⟨hx, hb, hml, hown, hts⟩ (c_thrown l z0 D g mm b0 b1 b2 b3 b4 b5 b6 1 0) (cwV 0 hts (lw_V m_1229 m_1230 m_1231 m_12 m_1232) rfl rfl rfl (by decide +kernel) ⟨(Nat.le_of_ble_eq_true rfl), (Nat.le_of_ble_eq_true rfl)⟩) ⟨PR.blind, va_recv hK hP (ci := 9) (q0 := 10) rfl rfl, PR.pre hE hS hAz hc_7⟩ rfl rfl hl.1 rfl (lv_room (Nat.le_of_ble_eq_true rfl)) dL_law_238 ⟨(Nat.le_of_ble_eq_true rfl), (Nat.le_of_ble_eq_true rfl)⟩) hS nA_B nA_A (fun r_8 u_9 t H locs ht hvm hw hB hz1 hk1 hS => ?_)
  have hP := hP.old hk1
  have hP : va_P D classes ([(x, .inr (0, [.ref a0, .ref a1, .ref a2, .ref a3, .ref a4, .ref a5, .ref a6, .int 0, .int 0, .int 0, .int 0, .int 0, .int 0, .int 0])), (a0, .inl (cP, 10, .inr (.inr (.inr (.inr G0))))), (a1, .inl (cM, 6, .inr (.inr (.inr (.inr G1))))), (a2, .inl (cW, 3, .inr (.inr (.inr (.inr G2))))), (a3, .inl (cE, 100, .inr (.inr (.inr (.inr F))))), (pp, .inr (1, [.int 0, .int 0, .int 0, .int 0, .int (-1), .int (-1)])), (pm, .inr (2, [.int 0, .int 0, .int (-1), .int 0, .int 0])), (pw, .inr (3, [.int 0, .int 0, .int 0, .int 0, .ref w1, .ref w2, .ref w3])), (o, .inl (cJ, 1, .inr (.inl (fun _ => 0)))), (od, .inl (cD, 1, .inr (.inr (.inr (.inl (fun _ => 0)))))), (mm, .inr (9, [.ref b0, .ref b1, .ref b2, .ref b3, .int 0, .null, .null, .ref b4, .null, .ref b5, .ref b6, .int 0, .int 0, .long 0, .int 1]))] ++ va_pl LP (fun _ => freeE g)) H := hP
  subst hw
  refine lv_iload hx hb dL_law_241 (lv_at hl 1 rfl) ?_
  refine lv_icmp_eq (tgt := 248) hx hb dL_law_243 (by decide) (fun _ => ?_) (fun h9 => absurd (by decide) h9)
  refine lv_iload hx hb dL_law_248 (lv_at hl 1 rfl) ?_
  refine lv_if_ne (tgt := 265) hx hb dL_law_250 (by decide) (fun _ => ?_) (fun h9 => absurd h9 (by decide))
  refine lv_goto (tgt := 2156) hx hb dL_law_265 (by decide) ?_
  exact law_tail (by rfl) C0 hz (Nat.le_of_ble_eq_true rfl) (Nat.le_of_ble_eq_true rfl) hS (lv_sub hl [2, 7] rfl)

set_option maxHeartbeats 4000000 in
set_option maxRecDepth 100000 in
theorem case_0_b2 {p : Program} {l : Launch} {e : Env} {s : State} {m : MethodId} {below : List Frame} {meth : Method} {c : Code} {b L : Nat} {xs : Nat → Int32} {z0 : Nat} {D : va_G} {g : Nat → Nat} (hfl : l.stackTraces = false) (hL7 : L = 7) (C0 : lw_At p s m meth c b L xs) (hz : s.heap.size = z0) (hE : EV z0 D g s s.heap) (x a0 a1 a2 a3 a4 a5 a6 pp pm pw w1 w2 w3 mm b0 b1 b2 b3 b4 b5 b6 o od : Nat) (cP cM cW cE cJ cD : ClassId) (G0 G1 G2 F : Nat → Option Nat) (LP : List Nat) (hF0 : G0 0 = some pp) (hF1 : G1 0 = some pm) (hF2 : G2 0 = some pw) (hF3 : ∀ j : Nat, j < 100 → ∃ y : Nat, y ∈ LP ∧ F j = some y) (hK : va_K D classes [(cP, .object "Theatrehouse$Person"), (cM, .object "Theatrehouse$Machine"), (cW, .object "Theatrehouse$Work"), (cE, .object "Theatrehouse$Evening"), (cJ, .long), (cD, .double)] s) (h1 : ¬ (xs (Int32.toNatClampNeg 1)) < 0) (h2 : (xs (Int32.toNatClampNeg 1)) ≤ 99) (h : (xs (Int32.toNatClampNeg 2)) < 1 ∨ ¬ (xs (Int32.toNatClampNeg 2)) ≤ 30) : ∀ (H : Heap) (locs : List Loc), va_P D classes ([(x, .inr (0, [.ref a0, .ref a1, .ref a2, .ref a3, .ref a4, .ref a5, .ref a6, .int 0, .int 0, .int 0, .int 0, .int 0, .int 0, .int 0])), (a0, .inl (cP, 10, .inr (.inr (.inr (.inr G0))))), (a1, .inl (cM, 6, .inr (.inr (.inr (.inr G1))))), (a2, .inl (cW, 3, .inr (.inr (.inr (.inr G2))))), (a3, .inl (cE, 100, .inr (.inr (.inr (.inr F))))), (pp, .inr (1, [.int 0, .int 0, .int 0, .int 0, .int (-1), .int (-1)])), (pm, .inr (2, [.int 0, .int 0, .int (-1), .int 0, .int 0])), (pw, .inr (3, [.int 0, .int 0, .int 0, .int 0, .ref w1, .ref w2, .ref w3])), (mm, .inr (9, [.ref b0, .ref b1, .ref b2, .ref b3, .int 0, .null, .null, .ref b4, .null, .ref b5, .ref b6, .int 0, .int 0, .long 0, .int 0])), (b0, .inr (10, [.int 0, .ref (g 4), .int 0])), (b1, .inr (10, [.int 0, .ref (g 4), .int 0])), (b2, .inr (10, [.int 0, .ref (g 4), .int 0])), (b3, .inr (11, [.null, .null, .null, .null, .int 0, .int 0, .null, .null, .null])), (o, .inl (cJ, 1, .inr (.inl (fun _ => 0)))), (od, .inl (cD, 1, .inr (.inr (.inr (.inl (fun _ => 0))))))] ++ va_pl LP (fun _ => freeE g)) H → va_D (lA z0) ([(x, .inr (0, [.ref a0, .ref a1, .ref a2, .ref a3, .ref a4, .ref a5, .ref a6, .int 0, .int 0, .int 0, .int 0, .int 0, .int 0, .int 0])), (a0, .inl (cP, 10, .inr (.inr (.inr (.inr G0))))), (a1, .inl (cM, 6, .inr (.inr (.inr (.inr G1))))), (a2, .inl (cW, 3, .inr (.inr (.inr (.inr G2))))), (a3, .inl (cE, 100, .inr (.inr (.inr (.inr F))))), (pp, .inr (1, [.int 0, .int 0, .int 0, .int 0, .int (-1), .int (-1)])), (pm, .inr (2, [.int 0, .int 0, .int (-1), .int 0, .int 0])), (pw, .inr (3, [.int 0, .int 0, .int 0, .int 0, .ref w1, .ref w2, .ref w3])), (mm, .inr (9, [.ref b0, .ref b1, .ref b2, .ref b3, .int 0, .null, .null, .ref b4, .null, .ref b5, .ref b6, .int 0, .int 0, .long 0, .int 0])), (b0, .inr (10, [.int 0, .ref (g 4), .int 0])), (b1, .inr (10, [.int 0, .ref (g 4), .int 0])), (b2, .inr (10, [.int 0, .ref (g 4), .int 0])), (b3, .inr (11, [.null, .null, .null, .null, .int 0, .int 0, .null, .null, .null])), (o, .inl (cJ, 1, .inr (.inl (fun _ => 0)))), (od, .inl (cD, 1, .inr (.inr (.inr (.inl (fun _ => 0))))))] ++ va_pl LP (fun _ => freeE g)) → va_S (lA z0) s.heap H locs → ∀ (ls : Array Slot), lv_has ls 9 [(5, .int 0), (4, .ref od), (3, .ref o), (2, .ref mm), (1, .ref x), (0, .ref b)] → W p l e room_1 s m #[Value.ref b] below meth c H locs 199 4528 (lw_Z below #[Value.ref b] s) (F0 m 200 ls []) := by
  subst hL7
  obtain ⟨hx, hb, hr, hml, hown, hts0, hX, hbl, hlocks, hgv⟩ := id C0
  have hown : s.vm.findClass "TheatrehouseLaw" = some m.cls := hown
  have hts : ∀ w ∈ lw_all, w.before #[Value.ref b] s = true := fun w h => hts0 w (List.mem_filter.mp h).1
  have hAz : ∀ q, lA z0 q → z0 ≤ q := fun _ h => h
  have hA : ∀ q : Nat, s.heap.size ≤ q → lA z0 q := fun q h => by show z0 ≤ q; rw [← hz]; exact h
  have hsz : z0 ≤ s.heap.size := Nat.le_of_eq hz.symm
  have hbA : ¬ lA z0 b := by show ¬ z0 ≤ b; rw [← hz]; exact Nat.not_le.mpr hbl
  intro H locs hP hD hS ls hl
  refine lv_aload_n hx hb dL_law_200 rfl (lv_at hl 4 rfl) ?_
  refine lv_aload_n hx hb dL_law_201 rfl (lv_at hl 5 rfl) ?_
  refine lv_iload hx hb dL_law_202 (lv_at hl 0 rfl) ?_
  refine lv_iconst (v := 1) hx hb dL_law_204 (by decide) ?_
  refine lv_iadd hx hb dL_law_205 ?_
  rw [show (0 + 1 : Int32) = 1 by decide]
  refine va_sld (i := 1) hx hb hX hbl hbA hS (by unfold vp_in; decide) dL_law_206 ?_
  refine lv_aload_n hx hb dL_law_207 rfl (lv_at hl 5 rfl) ?_
  refine lv_iload hx hb dL_law_208 (lv_at hl 0 rfl) ?_
  refine lv_iconst (v := 2) hx hb dL_law_210 (by decide) ?_
  refine lv_iadd hx hb dL_law_211 ?_
  rw [show (0 + 2 : Int32) = 2 by decide]
  refine va_sld (i := 2) hx hb hX hbl hbA hS (by unfold vp_in; decide) dL_law_212 ?_
  refine lv_aload_n hx hb dL_law_213 rfl (lv_at hl 2 rfl) ?_
  have hc_1 := hP.sub (ws' := [(x, .inr (0, [.ref a0, .ref a1, .ref a2, .ref a3, .ref a4, .ref a5, .ref a6, .int 0, .int 0, .int 0, .int 0, .int 0, .int 0, .int 0]))]) [0] rfl
  refine va_calli (vx_runSW (As := [.ref x, .int (xs (Int32.toNatClampNeg 1)), .int (xs (Int32.toNatClampNeg 2)), .ref o]) (rest := []) ⟨hx, hb, hml, hown, hts⟩ (met_of (c_L_addPerson_b2 l hfl z0 D g x a0 a1 a2 a3 a4 a5 a6 (xs (Int32.toNatClampNeg 1)) (xs (Int32.toNatClampNeg 2)) o h1 h2 h)) (vx_cwSW 4 hts (lw_SW m_548 m_549 m_0 m_550) rfl rfl rfl (by decide +kernel) ⟨(Nat.le_of_ble_eq_true rfl), (Nat.le_of_ble_eq_true rfl)⟩) ⟨PR.blind, PR.pre hE hS hAz hc_1⟩ rfl rfl hl.1 rfl (lv_room (Nat.le_of_ble_eq_true rfl)) dL_law_214 ⟨(Nat.le_of_ble_eq_true rfl), (Nat.le_of_ble_eq_true rfl)⟩) hS nA_B nA_A (fun r_2 u_3 t H locs ht hvm hw hB hz1 hk1 hS => ?_)
  have hP := hP.old hk1
  have hP : va_P D classes ([(x, .inr (0, [.ref a0, .ref a1, .ref a2, .ref a3, .ref a4, .ref a5, .ref a6, .int 0, .int 0, .int 0, .int 0, .int 0, .int 0, .int 0])), (a0, .inl (cP, 10, .inr (.inr (.inr (.inr G0))))), (a1, .inl (cM, 6, .inr (.inr (.inr (.inr G1))))), (a2, .inl (cW, 3, .inr (.inr (.inr (.inr G2))))), (a3, .inl (cE, 100, .inr (.inr (.inr (.inr F))))), (pp, .inr (1, [.int 0, .int 0, .int 0, .int 0, .int (-1), .int (-1)])), (pm, .inr (2, [.int 0, .int 0, .int (-1), .int 0, .int 0])), (pw, .inr (3, [.int 0, .int 0, .int 0, .int 0, .ref w1, .ref w2, .ref w3])), (mm, .inr (9, [.ref b0, .ref b1, .ref b2, .ref b3, .int 0, .null, .null, .ref b4, .null, .ref b5, .ref b6, .int 0, .int 0, .long 0, .int 0])), (b0, .inr (10, [.int 0, .ref (g 4), .int 0])), (b1, .inr (10, [.int 0, .ref (g 4), .int 0])), (b2, .inr (10, [.int 0, .ref (g 4), .int 0])), (b3, .inr (11, [.null, .null, .null, .null, .int 0, .int 0, .null, .null, .null])), (o, .inl (cJ, 1, .inr (.inl (fun _ => 0)))), (od, .inl (cD, 1, .inr (.inr (.inr (.inl (fun _ => 0))))))] ++ va_pl LP (fun _ => freeE g)) H := hP
  subst hw
  refine lv_istore (lv' := [(6, .int 1), (5, .int 0), (4, .ref od), (3, .ref o), (2, .ref mm), (1, .ref x), (0, .ref b)]) hx hb dL_law_217 hl (by decide) rfl (fun ls hl => ?_)
  refine lv_aload_n hx hb dL_law_219 rfl (lv_at hl 4 rfl) ?_
  refine lv_aload_n hx hb dL_law_220 rfl (lv_at hl 6 rfl) ?_
  refine lv_iload hx hb dL_law_221 (lv_at hl 1 rfl) ?_
  refine lv_iconst (v := 1) hx hb dL_law_223 (by decide) ?_
  refine lv_iadd hx hb dL_law_224 ?_
  rw [show (0 + 1 : Int32) = 1 by decide]
  refine va_sld (i := 1) hx hb hX hbl hbA hS (by unfold vp_in; decide) dL_law_225 ?_
  refine lv_aload_n hx hb dL_law_226 rfl (lv_at hl 6 rfl) ?_
  refine lv_iload hx hb dL_law_227 (lv_at hl 1 rfl) ?_
  refine lv_iconst (v := 2) hx hb dL_law_229 (by decide) ?_
  refine lv_iadd hx hb dL_law_230 ?_
  rw [show (0 + 2 : Int32) = 2 by decide]
  refine va_sld (i := 2) hx hb hX hbl hbA hS (by unfold vp_in; decide) dL_law_231 ?_
  have hc_4 := hP.sub (ws' := [(mm, .inr (9, [.ref b0, .ref b1, .ref b2, .ref b3, .int 0, .null, .null, .ref b4, .null, .ref b5, .ref b6, .int 0, .int 0, .long 0, .int 0])), (b0, .inr (10, [.int 0, .ref (g 4), .int 0])), (b1, .inr (10, [.int 0, .ref (g 4), .int 0])), (b2, .inr (10, [.int 0, .ref (g 4), .int 0])), (b3, .inr (11, [.null, .null, .null, .null, .int 0, .int 0, .null, .null, .null]))]) [8, 9, 10, 11, 12] rfl
  have hc_4D := hD.sub (ws' := [(mm, .inr (9, [.ref b0, .ref b1, .ref b2, .ref b3, .int 0, .null, .null, .ref b4, .null, .ref b5, .ref b6, .int 0, .int 0, .long 0, .int 0])), (b0, .inr (10, [.int 0, .ref (g 4), .int 0])), (b1, .inr (10, [.int 0, .ref (g 4), .int 0])), (b2, .inr (10, [.int 0, .ref (g 4), .int 0])), (b3, .inr (11, [.null, .null, .null, .null, .int 0, .int 0, .null, .null, .null]))]) [8, 9, 10, 11, 12] (by decide) rfl
  have hc_4F := va_free (wc := [(mm, .inr (9, [.ref b0, .ref b1, .ref b2, .ref b3, .int 0, .null, .null, .ref b4, .null, .ref b5, .ref b6, .int 0, .int 0, .long 0, .int 0])), (b0, .inr (10, [.int 0, .ref (g 4), .int 0])), (b1, .inr (10, [.int 0, .ref (g 4), .int 0])), (b2, .inr (10, [.int 0, .ref (g 4), .int 0])), (b3, .inr (11, [.null, .null, .null, .null, .int 0, .int 0, .null, .null, .null]))]) hD hS hA [8, 9, 10, 11, 12] rfl
  refine va_calli (va_runV (As := [.int (xs (Int32.toNatClampNeg 1)), .int (xs (Int32.toNatClampNeg 2))]) (rest := []) ⟨hx, hb, hml, hown, hts⟩ (c_X18_addPerson_b2 l z0 D g _ mm b0 b1 b2 b3 b4 b5 b6 (xs (Int32.toNatClampNeg 1)) (xs (Int32.toNatClampNeg 2)) h1 h2 h) (cwV 2 hts (lw_V m_1233 m_1234 m_1235 m_12 m_1236) rfl rfl rfl (by decide +kernel) ⟨(Nat.le_of_ble_eq_true rfl), (Nat.le_of_ble_eq_true rfl)⟩) ⟨PM.blind, va_recv hK hP (ci := 9) (q0 := 8) rfl rfl, PM.pre hE hS hAz hsz hc_4 hc_4D⟩ rfl rfl hl.1 rfl (lv_room (Nat.le_of_ble_eq_true rfl)) dL_law_232 ⟨(Nat.le_of_ble_eq_true rfl), (Nat.le_of_ble_eq_true rfl)⟩) hS (fun q _ h => hc_4F q h) hc_4F (fun r_5 u_6 t H locs ht hvm hw hB hz1 hk1 hS => ?_)
  obtain ⟨hP1, hD1⟩ := hB
  rw [ht] at hP1
  obtain ⟨hP, hD⟩ := va_joinQ (X := [(x, .inr (0, [.ref a0, .ref a1, .ref a2, .ref a3, .ref a4, .ref a5, .ref a6, .int 0, .int 0, .int 0, .int 0, .int 0, .int 0, .int 0])), (a0, .inl (cP, 10, .inr (.inr (.inr (.inr G0))))), (a1, .inl (cM, 6, .inr (.inr (.inr (.inr G1))))), (a2, .inl (cW, 3, .inr (.inr (.inr (.inr G2))))), (a3, .inl (cE, 100, .inr (.inr (.inr (.inr F))))), (pp, .inr (1, [.int 0, .int 0, .int 0, .int 0, .int (-1), .int (-1)])), (pm, .inr (2, [.int 0, .int 0, .int (-1), .int 0, .int 0])), (pw, .inr (3, [.int 0, .int 0, .int 0, .int 0, .ref w1, .ref w2, .ref w3])), (mm, .inr (9, [.ref b0, .ref b1, .ref b2, .ref b3, .int 0, .null, .null, .ref b4, .null, .ref b5, .ref b6, .int 0, .int 0, .long 0, .int 0])), (b0, .inr (10, [.int 0, .ref (g 4), .int 0])), (b1, .inr (10, [.int 0, .ref (g 4), .int 0])), (b2, .inr (10, [.int 0, .ref (g 4), .int 0])), (b3, .inr (11, [.null, .null, .null, .null, .int 0, .int 0, .null, .null, .null])), (o, .inl (cJ, 1, .inr (.inl (fun _ => 0)))), (od, .inl (cD, 1, .inr (.inr (.inr (.inl (fun _ => 0))))))]) (wr := [(x, .inr (0, [.ref a0, .ref a1, .ref a2, .ref a3, .ref a4, .ref a5, .ref a6, .int 0, .int 0, .int 0, .int 0, .int 0, .int 0, .int 0])), (a0, .inl (cP, 10, .inr (.inr (.inr (.inr G0))))), (a1, .inl (cM, 6, .inr (.inr (.inr (.inr G1))))), (a2, .inl (cW, 3, .inr (.inr (.inr (.inr G2))))), (a3, .inl (cE, 100, .inr (.inr (.inr (.inr F))))), (pp, .inr (1, [.int 0, .int 0, .int 0, .int 0, .int (-1), .int (-1)])), (pm, .inr (2, [.int 0, .int 0, .int (-1), .int 0, .int 0])), (pw, .inr (3, [.int 0, .int 0, .int 0, .int 0, .ref w1, .ref w2, .ref w3])), (o, .inl (cJ, 1, .inr (.inl (fun _ => 0)))), (od, .inl (cD, 1, .inr (.inr (.inr (.inl (fun _ => 0))))))]) (w1 := [(mm, .inr (9, [.ref b0, .ref b1, .ref b2, .ref b3, .int 0, .null, .null, .ref b4, .null, .ref b5, .ref b6, .int 0, .int 0, .long 0, .int 1]))]) hP hD [8, 9, 10, 11, 12] [0, 1, 2, 3, 4, 5, 6, 7, 13, 14] rfl rfl (by decide) (by decide) hk1 hc_4F hP1 hD1
  have hP : va_P D classes ([(x, .inr (0, [.ref a0, .ref a1, .ref a2, .ref a3, .ref a4, .ref a5, .ref a6, .int 0, .int 0, .int 0, .int 0, .int 0, .int 0, .int 0])), (a0, .inl (cP, 10, .inr (.inr (.inr (.inr G0))))), (a1, .inl (cM, 6, .inr (.inr (.inr (.inr G1))))), (a2, .inl (cW, 3, .inr (.inr (.inr (.inr G2))))), (a3, .inl (cE, 100, .inr (.inr (.inr (.inr F))))), (pp, .inr (1, [.int 0, .int 0, .int 0, .int 0, .int (-1), .int (-1)])), (pm, .inr (2, [.int 0, .int 0, .int (-1), .int 0, .int 0])), (pw, .inr (3, [.int 0, .int 0, .int 0, .int 0, .ref w1, .ref w2, .ref w3])), (o, .inl (cJ, 1, .inr (.inl (fun _ => 0)))), (od, .inl (cD, 1, .inr (.inr (.inr (.inl (fun _ => 0)))))), (mm, .inr (9, [.ref b0, .ref b1, .ref b2, .ref b3, .int 0, .null, .null, .ref b4, .null, .ref b5, .ref b6, .int 0, .int 0, .long 0, .int 1]))] ++ va_pl LP (fun _ => freeE g)) H := hP
  have hD : va_D (lA z0) ([(x, .inr (0, [.ref a0, .ref a1, .ref a2, .ref a3, .ref a4, .ref a5, .ref a6, .int 0, .int 0, .int 0, .int 0, .int 0, .int 0, .int 0])), (a0, .inl (cP, 10, .inr (.inr (.inr (.inr G0))))), (a1, .inl (cM, 6, .inr (.inr (.inr (.inr G1))))), (a2, .inl (cW, 3, .inr (.inr (.inr (.inr G2))))), (a3, .inl (cE, 100, .inr (.inr (.inr (.inr F))))), (pp, .inr (1, [.int 0, .int 0, .int 0, .int 0, .int (-1), .int (-1)])), (pm, .inr (2, [.int 0, .int 0, .int (-1), .int 0, .int 0])), (pw, .inr (3, [.int 0, .int 0, .int 0, .int 0, .ref w1, .ref w2, .ref w3])), (o, .inl (cJ, 1, .inr (.inl (fun _ => 0)))), (od, .inl (cD, 1, .inr (.inr (.inr (.inl (fun _ => 0)))))), (mm, .inr (9, [.ref b0, .ref b1, .ref b2, .ref b3, .int 0, .null, .null, .ref b4, .null, .ref b5, .ref b6, .int 0, .int 0, .long 0, .int 1]))] ++ va_pl LP (fun _ => freeE g)) := hD
  refine lv_istore (lv' := [(7, .int r_5), (6, .int 1), (5, .int 0), (4, .ref od), (3, .ref o), (2, .ref mm), (1, .ref x), (0, .ref b)]) hx hb dL_law_235 hl (by decide) rfl (fun ls hl => ?_)
  refine lv_aload_n hx hb dL_law_237 rfl (lv_at hl 5 rfl) ?_
  have hc_7 := hP.sub (ws' := [(mm, .inr (9, [.ref b0, .ref b1, .ref b2, .ref b3, .int 0, .null, .null, .ref b4, .null, .ref b5, .ref b6, .int 0, .int 0, .long 0, .int 1]))]) [10] rfl
  refine va_calli (va_runV (As := []) (rest := []) ⟨hx, hb, hml, hown, hts⟩ (c_thrown l z0 D g mm b0 b1 b2 b3 b4 b5 b6 1 0) (cwV 0 hts (lw_V m_1229 m_1230 m_1231 m_12 m_1232) rfl rfl rfl (by decide +kernel) ⟨(Nat.le_of_ble_eq_true rfl), (Nat.le_of_ble_eq_true rfl)⟩) ⟨PR.blind, va_recv hK hP (ci := 9) (q0 := 10) rfl rfl, PR.pre hE hS hAz hc_7⟩ rfl rfl hl.1 rfl (lv_room (Nat.le_of_ble_eq_true rfl)) dL_law_238 ⟨(Nat.le_of_ble_eq_true rfl), (Nat.le_of_ble_eq_true rfl)⟩) hS nA_B nA_A (fun r_8 u_9 t H locs ht hvm hw hB hz1 hk1 hS => ?_)
  have hP := hP.old hk1
  have hP : va_P D classes ([(x, .inr (0, [.ref a0, .ref a1, .ref a2, .ref a3, .ref a4, .ref a5, .ref a6, .int 0, .int 0, .int 0, .int 0, .int 0, .int 0, .int 0])), (a0, .inl (cP, 10, .inr (.inr (.inr (.inr G0))))), (a1, .inl (cM, 6, .inr (.inr (.inr (.inr G1))))), (a2, .inl (cW, 3, .inr (.inr (.inr (.inr G2))))), (a3, .inl (cE, 100, .inr (.inr (.inr (.inr F))))), (pp, .inr (1, [.int 0, .int 0, .int 0, .int 0, .int (-1), .int (-1)])), (pm, .inr (2, [.int 0, .int 0, .int (-1), .int 0, .int 0])), (pw, .inr (3, [.int 0, .int 0, .int 0, .int 0, .ref w1, .ref w2, .ref w3])), (o, .inl (cJ, 1, .inr (.inl (fun _ => 0)))), (od, .inl (cD, 1, .inr (.inr (.inr (.inl (fun _ => 0)))))), (mm, .inr (9, [.ref b0, .ref b1, .ref b2, .ref b3, .int 0, .null, .null, .ref b4, .null, .ref b5, .ref b6, .int 0, .int 0, .long 0, .int 1]))] ++ va_pl LP (fun _ => freeE g)) H := hP
  subst hw
  refine lv_iload hx hb dL_law_241 (lv_at hl 1 rfl) ?_
  refine lv_icmp_eq (tgt := 248) hx hb dL_law_243 (by decide) (fun _ => ?_) (fun h9 => absurd (by decide) h9)
  refine lv_iload hx hb dL_law_248 (lv_at hl 1 rfl) ?_
  refine lv_if_ne (tgt := 265) hx hb dL_law_250 (by decide) (fun _ => ?_) (fun h9 => absurd h9 (by decide))
  refine lv_goto (tgt := 2156) hx hb dL_law_265 (by decide) ?_
  exact law_tail (by rfl) C0 hz (Nat.le_of_ble_eq_true rfl) (Nat.le_of_ble_eq_true rfl) hS (lv_sub hl [2, 7] rfl)

set_option maxHeartbeats 4000000 in
set_option maxRecDepth 100000 in
theorem case_0_ok {p : Program} {l : Launch} {e : Env} {s : State} {m : MethodId} {below : List Frame} {meth : Method} {c : Code} {b L : Nat} {xs : Nat → Int32} {z0 : Nat} {D : va_G} {g : Nat → Nat} (hfl : l.stackTraces = false) (hL7 : L = 7) (C0 : lw_At p s m meth c b L xs) (hz : s.heap.size = z0) (hE : EV z0 D g s s.heap) (x a0 a1 a2 a3 a4 a5 a6 pp pm pw w1 w2 w3 mm b0 b1 b2 b3 b4 b5 b6 o od : Nat) (cP cM cW cE cJ cD : ClassId) (G0 G1 G2 F : Nat → Option Nat) (LP : List Nat) (hF0 : G0 0 = some pp) (hF1 : G1 0 = some pm) (hF2 : G2 0 = some pw) (hF3 : ∀ j : Nat, j < 100 → ∃ y : Nat, y ∈ LP ∧ F j = some y) (hK : va_K D classes [(cP, .object "Theatrehouse$Person"), (cM, .object "Theatrehouse$Machine"), (cW, .object "Theatrehouse$Work"), (cE, .object "Theatrehouse$Evening"), (cJ, .long), (cD, .double)] s) (h1 : ¬ (xs (Int32.toNatClampNeg 1)) < 0) (h2 : (xs (Int32.toNatClampNeg 1)) ≤ 99) (h3 : ¬ (xs (Int32.toNatClampNeg 2)) < 1) (h4 : (xs (Int32.toNatClampNeg 2)) ≤ 30) : ∀ (H : Heap) (locs : List Loc), va_P D classes ([(x, .inr (0, [.ref a0, .ref a1, .ref a2, .ref a3, .ref a4, .ref a5, .ref a6, .int 0, .int 0, .int 0, .int 0, .int 0, .int 0, .int 0])), (a0, .inl (cP, 10, .inr (.inr (.inr (.inr G0))))), (a1, .inl (cM, 6, .inr (.inr (.inr (.inr G1))))), (a2, .inl (cW, 3, .inr (.inr (.inr (.inr G2))))), (a3, .inl (cE, 100, .inr (.inr (.inr (.inr F))))), (pp, .inr (1, [.int 0, .int 0, .int 0, .int 0, .int (-1), .int (-1)])), (pm, .inr (2, [.int 0, .int 0, .int (-1), .int 0, .int 0])), (pw, .inr (3, [.int 0, .int 0, .int 0, .int 0, .ref w1, .ref w2, .ref w3])), (mm, .inr (9, [.ref b0, .ref b1, .ref b2, .ref b3, .int 0, .null, .null, .ref b4, .null, .ref b5, .ref b6, .int 0, .int 0, .long 0, .int 0])), (b0, .inr (10, [.int 0, .ref (g 4), .int 0])), (b1, .inr (10, [.int 0, .ref (g 4), .int 0])), (b2, .inr (10, [.int 0, .ref (g 4), .int 0])), (b3, .inr (11, [.null, .null, .null, .null, .int 0, .int 0, .null, .null, .null])), (o, .inl (cJ, 1, .inr (.inl (fun _ => 0)))), (od, .inl (cD, 1, .inr (.inr (.inr (.inl (fun _ => 0))))))] ++ va_pl LP (fun _ => freeE g)) H → va_D (lA z0) ([(x, .inr (0, [.ref a0, .ref a1, .ref a2, .ref a3, .ref a4, .ref a5, .ref a6, .int 0, .int 0, .int 0, .int 0, .int 0, .int 0, .int 0])), (a0, .inl (cP, 10, .inr (.inr (.inr (.inr G0))))), (a1, .inl (cM, 6, .inr (.inr (.inr (.inr G1))))), (a2, .inl (cW, 3, .inr (.inr (.inr (.inr G2))))), (a3, .inl (cE, 100, .inr (.inr (.inr (.inr F))))), (pp, .inr (1, [.int 0, .int 0, .int 0, .int 0, .int (-1), .int (-1)])), (pm, .inr (2, [.int 0, .int 0, .int (-1), .int 0, .int 0])), (pw, .inr (3, [.int 0, .int 0, .int 0, .int 0, .ref w1, .ref w2, .ref w3])), (mm, .inr (9, [.ref b0, .ref b1, .ref b2, .ref b3, .int 0, .null, .null, .ref b4, .null, .ref b5, .ref b6, .int 0, .int 0, .long 0, .int 0])), (b0, .inr (10, [.int 0, .ref (g 4), .int 0])), (b1, .inr (10, [.int 0, .ref (g 4), .int 0])), (b2, .inr (10, [.int 0, .ref (g 4), .int 0])), (b3, .inr (11, [.null, .null, .null, .null, .int 0, .int 0, .null, .null, .null])), (o, .inl (cJ, 1, .inr (.inl (fun _ => 0)))), (od, .inl (cD, 1, .inr (.inr (.inr (.inl (fun _ => 0))))))] ++ va_pl LP (fun _ => freeE g)) → va_S (lA z0) s.heap H locs → ∀ (ls : Array Slot), lv_has ls 9 [(5, .int 0), (4, .ref od), (3, .ref o), (2, .ref mm), (1, .ref x), (0, .ref b)] → W p l e room_1 s m #[Value.ref b] below meth c H locs 199 4528 (lw_Z below #[Value.ref b] s) (F0 m 200 ls []) := by
  subst hL7
  obtain ⟨hx, hb, hr, hml, hown, hts0, hX, hbl, hlocks, hgv⟩ := id C0
  have hown : s.vm.findClass "TheatrehouseLaw" = some m.cls := hown
  have hts : ∀ w ∈ lw_all, w.before #[Value.ref b] s = true := fun w h => hts0 w (List.mem_filter.mp h).1
  have hAz : ∀ q, lA z0 q → z0 ≤ q := fun _ h => h
  have hA : ∀ q : Nat, s.heap.size ≤ q → lA z0 q := fun q h => by show z0 ≤ q; rw [← hz]; exact h
  have hsz : z0 ≤ s.heap.size := Nat.le_of_eq hz.symm
  have hbA : ¬ lA z0 b := by show ¬ z0 ≤ b; rw [← hz]; exact Nat.not_le.mpr hbl
  intro H locs hP hD hS ls hl
  refine lv_aload_n hx hb dL_law_200 rfl (lv_at hl 4 rfl) ?_
  refine lv_aload_n hx hb dL_law_201 rfl (lv_at hl 5 rfl) ?_
  refine lv_iload hx hb dL_law_202 (lv_at hl 0 rfl) ?_
  refine lv_iconst (v := 1) hx hb dL_law_204 (by decide) ?_
  refine lv_iadd hx hb dL_law_205 ?_
  rw [show (0 + 1 : Int32) = 1 by decide]
  refine va_sld (i := 1) hx hb hX hbl hbA hS (by unfold vp_in; decide) dL_law_206 ?_
  refine lv_aload_n hx hb dL_law_207 rfl (lv_at hl 5 rfl) ?_
  refine lv_iload hx hb dL_law_208 (lv_at hl 0 rfl) ?_
  refine lv_iconst (v := 2) hx hb dL_law_210 (by decide) ?_
  refine lv_iadd hx hb dL_law_211 ?_
  rw [show (0 + 2 : Int32) = 2 by decide]
  refine va_sld (i := 2) hx hb hX hbl hbA hS (by unfold vp_in; decide) dL_law_212 ?_
  refine lv_aload_n hx hb dL_law_213 rfl (lv_at hl 2 rfl) ?_
  have hc_1 := hP.sub (ws' := [(x, .inr (0, [.ref a0, .ref a1, .ref a2, .ref a3, .ref a4, .ref a5, .ref a6, .int 0, .int 0, .int 0, .int 0, .int 0, .int 0, .int 0])), (a0, .inl (cP, 10, .inr (.inr (.inr (.inr G0))))), (pp, .inr (1, [.int 0, .int 0, .int 0, .int 0, .int (-1), .int (-1)])), (o, .inl (cJ, 1, .inr (.inl (fun _ => 0))))]) [0, 1, 5, 13] rfl
  have hc_1D := hD.sub (ws' := [(x, .inr (0, [.ref a0, .ref a1, .ref a2, .ref a3, .ref a4, .ref a5, .ref a6, .int 0, .int 0, .int 0, .int 0, .int 0, .int 0, .int 0])), (a0, .inl (cP, 10, .inr (.inr (.inr (.inr G0))))), (pp, .inr (1, [.int 0, .int 0, .int 0, .int 0, .int (-1), .int (-1)])), (o, .inl (cJ, 1, .inr (.inl (fun _ => 0))))]) [0, 1, 5, 13] (by decide) rfl
  have hc_1F := va_free (wc := [(x, .inr (0, [.ref a0, .ref a1, .ref a2, .ref a3, .ref a4, .ref a5, .ref a6, .int 0, .int 0, .int 0, .int 0, .int 0, .int 0, .int 0])), (a0, .inl (cP, 10, .inr (.inr (.inr (.inr G0))))), (pp, .inr (1, [.int 0, .int 0, .int 0, .int 0, .int (-1), .int (-1)])), (o, .inl (cJ, 1, .inr (.inl (fun _ => 0))))]) hD hS hA [0, 1, 5, 13] rfl
  refine va_calli (vx_runSW (As := [.ref x, .int (xs (Int32.toNatClampNeg 1)), .int (xs (Int32.toNatClampNeg 2)), .ref o]) (rest := []) ⟨hx, hb, hml, hown, hts⟩ (met_of (c_L_addPerson_ok l hfl z0 D g _ x a0 a1 a2 a3 a4 a5 a6 cP G0 pp cJ (fun _ => 0) (xs (Int32.toNatClampNeg 1)) (xs (Int32.toNatClampNeg 2)) o hF0 h1 h2 h3 h4)) (vx_cwSW 4 hts (lw_SW m_548 m_549 m_0 m_550) rfl rfl rfl (by decide +kernel) ⟨(Nat.le_of_ble_eq_true rfl), (Nat.le_of_ble_eq_true rfl)⟩) ⟨PMT.blind, PMT.pre hE hS hAz hsz hc_1 hc_1D (hK.sub [0, 4] rfl) trivial⟩ rfl rfl hl.1 rfl (lv_room (Nat.le_of_ble_eq_true rfl)) dL_law_214 ⟨(Nat.le_of_ble_eq_true rfl), (Nat.le_of_ble_eq_true rfl)⟩) hS (fun q _ h => hc_1F q h) hc_1F (fun r_2 u_3 t H locs ht hvm hw hB hz1 hk1 hS => ?_)
  obtain ⟨hP1, hD1⟩ := hB
  rw [ht] at hP1
  obtain ⟨hP, hD⟩ := va_joinQ (X := [(x, .inr (0, [.ref a0, .ref a1, .ref a2, .ref a3, .ref a4, .ref a5, .ref a6, .int 0, .int 0, .int 0, .int 0, .int 0, .int 0, .int 0])), (a0, .inl (cP, 10, .inr (.inr (.inr (.inr G0))))), (a1, .inl (cM, 6, .inr (.inr (.inr (.inr G1))))), (a2, .inl (cW, 3, .inr (.inr (.inr (.inr G2))))), (a3, .inl (cE, 100, .inr (.inr (.inr (.inr F))))), (pp, .inr (1, [.int 0, .int 0, .int 0, .int 0, .int (-1), .int (-1)])), (pm, .inr (2, [.int 0, .int 0, .int (-1), .int 0, .int 0])), (pw, .inr (3, [.int 0, .int 0, .int 0, .int 0, .ref w1, .ref w2, .ref w3])), (mm, .inr (9, [.ref b0, .ref b1, .ref b2, .ref b3, .int 0, .null, .null, .ref b4, .null, .ref b5, .ref b6, .int 0, .int 0, .long 0, .int 0])), (b0, .inr (10, [.int 0, .ref (g 4), .int 0])), (b1, .inr (10, [.int 0, .ref (g 4), .int 0])), (b2, .inr (10, [.int 0, .ref (g 4), .int 0])), (b3, .inr (11, [.null, .null, .null, .null, .int 0, .int 0, .null, .null, .null])), (o, .inl (cJ, 1, .inr (.inl (fun _ => 0)))), (od, .inl (cD, 1, .inr (.inr (.inr (.inl (fun _ => 0))))))]) (wr := [(a1, .inl (cM, 6, .inr (.inr (.inr (.inr G1))))), (a2, .inl (cW, 3, .inr (.inr (.inr (.inr G2))))), (a3, .inl (cE, 100, .inr (.inr (.inr (.inr F))))), (pm, .inr (2, [.int 0, .int 0, .int (-1), .int 0, .int 0])), (pw, .inr (3, [.int 0, .int 0, .int 0, .int 0, .ref w1, .ref w2, .ref w3])), (mm, .inr (9, [.ref b0, .ref b1, .ref b2, .ref b3, .int 0, .null, .null, .ref b4, .null, .ref b5, .ref b6, .int 0, .int 0, .long 0, .int 0])), (b0, .inr (10, [.int 0, .ref (g 4), .int 0])), (b1, .inr (10, [.int 0, .ref (g 4), .int 0])), (b2, .inr (10, [.int 0, .ref (g 4), .int 0])), (b3, .inr (11, [.null, .null, .null, .null, .int 0, .int 0, .null, .null, .null])), (od, .inl (cD, 1, .inr (.inr (.inr (.inl (fun _ => 0))))))]) (w1 := [(o, .inl (cJ, 1, .inr (.inl (vp_updL (fun _ => 0) (Int32.toNatClampNeg 0) (0)))))]) hP hD [0, 1, 5, 13] [2, 3, 4, 6, 7, 8, 9, 10, 11, 12, 14] rfl rfl (by decide) (by decide) hk1 hc_1F hP1 hD1
  have hP : va_P D classes ([(a1, .inl (cM, 6, .inr (.inr (.inr (.inr G1))))), (a2, .inl (cW, 3, .inr (.inr (.inr (.inr G2))))), (a3, .inl (cE, 100, .inr (.inr (.inr (.inr F))))), (pm, .inr (2, [.int 0, .int 0, .int (-1), .int 0, .int 0])), (pw, .inr (3, [.int 0, .int 0, .int 0, .int 0, .ref w1, .ref w2, .ref w3])), (mm, .inr (9, [.ref b0, .ref b1, .ref b2, .ref b3, .int 0, .null, .null, .ref b4, .null, .ref b5, .ref b6, .int 0, .int 0, .long 0, .int 0])), (b0, .inr (10, [.int 0, .ref (g 4), .int 0])), (b1, .inr (10, [.int 0, .ref (g 4), .int 0])), (b2, .inr (10, [.int 0, .ref (g 4), .int 0])), (b3, .inr (11, [.null, .null, .null, .null, .int 0, .int 0, .null, .null, .null])), (od, .inl (cD, 1, .inr (.inr (.inr (.inl (fun _ => 0)))))), (o, .inl (cJ, 1, .inr (.inl (vp_updL (fun _ => 0) (Int32.toNatClampNeg 0) (0)))))] ++ va_pl LP (fun _ => freeE g)) H := hP
  have hD : va_D (lA z0) ([(a1, .inl (cM, 6, .inr (.inr (.inr (.inr G1))))), (a2, .inl (cW, 3, .inr (.inr (.inr (.inr G2))))), (a3, .inl (cE, 100, .inr (.inr (.inr (.inr F))))), (pm, .inr (2, [.int 0, .int 0, .int (-1), .int 0, .int 0])), (pw, .inr (3, [.int 0, .int 0, .int 0, .int 0, .ref w1, .ref w2, .ref w3])), (mm, .inr (9, [.ref b0, .ref b1, .ref b2, .ref b3, .int 0, .null, .null, .ref b4, .null, .ref b5, .ref b6, .int 0, .int 0, .long 0, .int 0])), (b0, .inr (10, [.int 0, .ref (g 4), .int 0])), (b1, .inr (10, [.int 0, .ref (g 4), .int 0])), (b2, .inr (10, [.int 0, .ref (g 4), .int 0])), (b3, .inr (11, [.null, .null, .null, .null, .int 0, .int 0, .null, .null, .null])), (od, .inl (cD, 1, .inr (.inr (.inr (.inl (fun _ => 0)))))), (o, .inl (cJ, 1, .inr (.inl (vp_updL (fun _ => 0) (Int32.toNatClampNeg 0) (0)))))] ++ va_pl LP (fun _ => freeE g)) := hD
  subst hw
  refine lv_istore (lv' := [(6, .int 0), (5, .int 0), (4, .ref od), (3, .ref o), (2, .ref mm), (1, .ref x), (0, .ref b)]) hx hb dL_law_217 hl (by decide) rfl (fun ls hl => ?_)
  refine lv_aload_n hx hb dL_law_219 rfl (lv_at hl 4 rfl) ?_
  refine lv_aload_n hx hb dL_law_220 rfl (lv_at hl 6 rfl) ?_
  refine lv_iload hx hb dL_law_221 (lv_at hl 1 rfl) ?_
  refine lv_iconst (v := 1) hx hb dL_law_223 (by decide) ?_
  refine lv_iadd hx hb dL_law_224 ?_
  rw [show (0 + 1 : Int32) = 1 by decide]
  refine va_sld (i := 1) hx hb hX hbl hbA hS (by unfold vp_in; decide) dL_law_225 ?_
  refine lv_aload_n hx hb dL_law_226 rfl (lv_at hl 6 rfl) ?_
  refine lv_iload hx hb dL_law_227 (lv_at hl 1 rfl) ?_
  refine lv_iconst (v := 2) hx hb dL_law_229 (by decide) ?_
  refine lv_iadd hx hb dL_law_230 ?_
  rw [show (0 + 2 : Int32) = 2 by decide]
  refine va_sld (i := 2) hx hb hX hbl hbA hS (by unfold vp_in; decide) dL_law_231 ?_
  have hc_4 := hP.sub (ws' := [(mm, .inr (9, [.ref b0, .ref b1, .ref b2, .ref b3, .int 0, .null, .null, .ref b4, .null, .ref b5, .ref b6, .int 0, .int 0, .long 0, .int 0])), (b0, .inr (10, [.int 0, .ref (g 4), .int 0])), (b1, .inr (10, [.int 0, .ref (g 4), .int 0])), (b2, .inr (10, [.int 0, .ref (g 4), .int 0])), (b3, .inr (11, [.null, .null, .null, .null, .int 0, .int 0, .null, .null, .null]))]) [5, 6, 7, 8, 9] rfl
  have hc_4D := hD.sub (ws' := [(mm, .inr (9, [.ref b0, .ref b1, .ref b2, .ref b3, .int 0, .null, .null, .ref b4, .null, .ref b5, .ref b6, .int 0, .int 0, .long 0, .int 0])), (b0, .inr (10, [.int 0, .ref (g 4), .int 0])), (b1, .inr (10, [.int 0, .ref (g 4), .int 0])), (b2, .inr (10, [.int 0, .ref (g 4), .int 0])), (b3, .inr (11, [.null, .null, .null, .null, .int 0, .int 0, .null, .null, .null]))]) [5, 6, 7, 8, 9] (by decide) rfl
  have hc_4F := va_free (wc := [(mm, .inr (9, [.ref b0, .ref b1, .ref b2, .ref b3, .int 0, .null, .null, .ref b4, .null, .ref b5, .ref b6, .int 0, .int 0, .long 0, .int 0])), (b0, .inr (10, [.int 0, .ref (g 4), .int 0])), (b1, .inr (10, [.int 0, .ref (g 4), .int 0])), (b2, .inr (10, [.int 0, .ref (g 4), .int 0])), (b3, .inr (11, [.null, .null, .null, .null, .int 0, .int 0, .null, .null, .null]))]) hD hS hA [5, 6, 7, 8, 9] rfl
  refine va_calli (va_runV (As := [.int (xs (Int32.toNatClampNeg 1)), .int (xs (Int32.toNatClampNeg 2))]) (rest := []) ⟨hx, hb, hml, hown, hts⟩ (c_X18_addPerson_ok l z0 D g _ mm b0 b1 b2 b3 b4 b5 b6 (xs (Int32.toNatClampNeg 1)) (xs (Int32.toNatClampNeg 2)) h1 h2 h3 h4) (cwV 2 hts (lw_V m_1233 m_1234 m_1235 m_12 m_1236) rfl rfl rfl (by decide +kernel) ⟨(Nat.le_of_ble_eq_true rfl), (Nat.le_of_ble_eq_true rfl)⟩) ⟨PM.blind, va_recv hK hP (ci := 9) (q0 := 5) rfl rfl, PM.pre hE hS hAz hsz hc_4 hc_4D⟩ rfl rfl hl.1 rfl (lv_room (Nat.le_of_ble_eq_true rfl)) dL_law_232 ⟨(Nat.le_of_ble_eq_true rfl), (Nat.le_of_ble_eq_true rfl)⟩) hS (fun q _ h => hc_4F q h) hc_4F (fun r_5 u_6 t H locs ht hvm hw hB hz1 hk1 hS => ?_)
  obtain ⟨hP1, hD1⟩ := hB
  rw [ht] at hP1
  obtain ⟨hP, hD⟩ := va_joinQ (X := [(a1, .inl (cM, 6, .inr (.inr (.inr (.inr G1))))), (a2, .inl (cW, 3, .inr (.inr (.inr (.inr G2))))), (a3, .inl (cE, 100, .inr (.inr (.inr (.inr F))))), (pm, .inr (2, [.int 0, .int 0, .int (-1), .int 0, .int 0])), (pw, .inr (3, [.int 0, .int 0, .int 0, .int 0, .ref w1, .ref w2, .ref w3])), (mm, .inr (9, [.ref b0, .ref b1, .ref b2, .ref b3, .int 0, .null, .null, .ref b4, .null, .ref b5, .ref b6, .int 0, .int 0, .long 0, .int 0])), (b0, .inr (10, [.int 0, .ref (g 4), .int 0])), (b1, .inr (10, [.int 0, .ref (g 4), .int 0])), (b2, .inr (10, [.int 0, .ref (g 4), .int 0])), (b3, .inr (11, [.null, .null, .null, .null, .int 0, .int 0, .null, .null, .null])), (od, .inl (cD, 1, .inr (.inr (.inr (.inl (fun _ => 0)))))), (o, .inl (cJ, 1, .inr (.inl (vp_updL (fun _ => 0) (Int32.toNatClampNeg 0) (0)))))]) (wr := [(a1, .inl (cM, 6, .inr (.inr (.inr (.inr G1))))), (a2, .inl (cW, 3, .inr (.inr (.inr (.inr G2))))), (a3, .inl (cE, 100, .inr (.inr (.inr (.inr F))))), (pm, .inr (2, [.int 0, .int 0, .int (-1), .int 0, .int 0])), (pw, .inr (3, [.int 0, .int 0, .int 0, .int 0, .ref w1, .ref w2, .ref w3])), (od, .inl (cD, 1, .inr (.inr (.inr (.inl (fun _ => 0)))))), (o, .inl (cJ, 1, .inr (.inl (vp_updL (fun _ => 0) (Int32.toNatClampNeg 0) (0)))))]) (w1 := [(mm, .inr (9, [.ref b0, .ref b1, .ref b2, .ref b3, .int 0, .null, .null, .ref b4, .null, .ref b5, .ref b6, .int 0, .int 0, .long 0, .int 0]))]) hP hD [5, 6, 7, 8, 9] [0, 1, 2, 3, 4, 10, 11] rfl rfl (by decide) (by decide) hk1 hc_4F hP1 hD1
  have hP : va_P D classes ([(a1, .inl (cM, 6, .inr (.inr (.inr (.inr G1))))), (a2, .inl (cW, 3, .inr (.inr (.inr (.inr G2))))), (a3, .inl (cE, 100, .inr (.inr (.inr (.inr F))))), (pm, .inr (2, [.int 0, .int 0, .int (-1), .int 0, .int 0])), (pw, .inr (3, [.int 0, .int 0, .int 0, .int 0, .ref w1, .ref w2, .ref w3])), (od, .inl (cD, 1, .inr (.inr (.inr (.inl (fun _ => 0)))))), (o, .inl (cJ, 1, .inr (.inl (vp_updL (fun _ => 0) (Int32.toNatClampNeg 0) (0))))), (mm, .inr (9, [.ref b0, .ref b1, .ref b2, .ref b3, .int 0, .null, .null, .ref b4, .null, .ref b5, .ref b6, .int 0, .int 0, .long 0, .int 0]))] ++ va_pl LP (fun _ => freeE g)) H := hP
  have hD : va_D (lA z0) ([(a1, .inl (cM, 6, .inr (.inr (.inr (.inr G1))))), (a2, .inl (cW, 3, .inr (.inr (.inr (.inr G2))))), (a3, .inl (cE, 100, .inr (.inr (.inr (.inr F))))), (pm, .inr (2, [.int 0, .int 0, .int (-1), .int 0, .int 0])), (pw, .inr (3, [.int 0, .int 0, .int 0, .int 0, .ref w1, .ref w2, .ref w3])), (od, .inl (cD, 1, .inr (.inr (.inr (.inl (fun _ => 0)))))), (o, .inl (cJ, 1, .inr (.inl (vp_updL (fun _ => 0) (Int32.toNatClampNeg 0) (0))))), (mm, .inr (9, [.ref b0, .ref b1, .ref b2, .ref b3, .int 0, .null, .null, .ref b4, .null, .ref b5, .ref b6, .int 0, .int 0, .long 0, .int 0]))] ++ va_pl LP (fun _ => freeE g)) := hD
  subst hw
  refine lv_istore (lv' := [(7, .int 0), (6, .int 0), (5, .int 0), (4, .ref od), (3, .ref o), (2, .ref mm), (1, .ref x), (0, .ref b)]) hx hb dL_law_235 hl (by decide) rfl (fun ls hl => ?_)
  refine lv_aload_n hx hb dL_law_237 rfl (lv_at hl 5 rfl) ?_
  have hc_7 := hP.sub (ws' := [(mm, .inr (9, [.ref b0, .ref b1, .ref b2, .ref b3, .int 0, .null, .null, .ref b4, .null, .ref b5, .ref b6, .int 0, .int 0, .long 0, .int 0]))]) [7] rfl
  refine va_calli (va_runV (As := []) (rest := []) ⟨hx, hb, hml, hown, hts⟩ (c_thrown l z0 D g mm b0 b1 b2 b3 b4 b5 b6 0 0) (cwV 0 hts (lw_V m_1229 m_1230 m_1231 m_12 m_1232) rfl rfl rfl (by decide +kernel) ⟨(Nat.le_of_ble_eq_true rfl), (Nat.le_of_ble_eq_true rfl)⟩) ⟨PR.blind, va_recv hK hP (ci := 9) (q0 := 7) rfl rfl, PR.pre hE hS hAz hc_7⟩ rfl rfl hl.1 rfl (lv_room (Nat.le_of_ble_eq_true rfl)) dL_law_238 ⟨(Nat.le_of_ble_eq_true rfl), (Nat.le_of_ble_eq_true rfl)⟩) hS nA_B nA_A (fun r_8 u_9 t H locs ht hvm hw hB hz1 hk1 hS => ?_)
  have hP := hP.old hk1
  have hP : va_P D classes ([(a1, .inl (cM, 6, .inr (.inr (.inr (.inr G1))))), (a2, .inl (cW, 3, .inr (.inr (.inr (.inr G2))))), (a3, .inl (cE, 100, .inr (.inr (.inr (.inr F))))), (pm, .inr (2, [.int 0, .int 0, .int (-1), .int 0, .int 0])), (pw, .inr (3, [.int 0, .int 0, .int 0, .int 0, .ref w1, .ref w2, .ref w3])), (od, .inl (cD, 1, .inr (.inr (.inr (.inl (fun _ => 0)))))), (o, .inl (cJ, 1, .inr (.inl (vp_updL (fun _ => 0) (Int32.toNatClampNeg 0) (0))))), (mm, .inr (9, [.ref b0, .ref b1, .ref b2, .ref b3, .int 0, .null, .null, .ref b4, .null, .ref b5, .ref b6, .int 0, .int 0, .long 0, .int 0]))] ++ va_pl LP (fun _ => freeE g)) H := hP
  subst hw
  refine lv_iload hx hb dL_law_241 (lv_at hl 1 rfl) ?_
  refine lv_icmp_eq (tgt := 248) hx hb dL_law_243 (by decide) (fun _ => ?_) (fun h9 => absurd (by decide) h9)
  refine lv_iload hx hb dL_law_248 (lv_at hl 1 rfl) ?_
  refine lv_if_ne (tgt := 265) hx hb dL_law_250 (by decide) (fun h9 => absurd (by decide) h9) (fun _ => ?_)
  refine lv_aload_n hx hb dL_law_253 rfl (lv_at hl 4 rfl) ?_
  refine lv_iconst (v := 0) hx hb dL_law_254 (by decide) ?_
  refine va_lald (i := 0) hx hb hK hP 6 4 rfl rfl (by unfold vp_in; decide) dL_law_255 ?_
  rw [show (vp_updL (fun _ => 0) (Int32.toNatClampNeg 0) (0)) (Int32.toNatClampNeg 0) = (0) by simp [vp_updL]]
  refine lv_iload hx hb dL_law_256 (lv_at hl 0 rfl) ?_
  refine lv_i2l (v := (0)) hx hb dL_law_258 (by decide) ?_
  refine W.lcmp hx hb dL_law_259 ?_
  refine lv_if_eq (tgt := 265) hx hb dL_law_260 (by decide) (fun _ => ?_) (fun h9 => absurd ((lg_cmp_eq _ _).mpr rfl) h9)
  refine lv_goto (tgt := 2156) hx hb dL_law_265 (by decide) ?_
  exact law_tail (by rfl) C0 hz (Nat.le_of_ble_eq_true rfl) (Nat.le_of_ble_eq_true rfl) hS (lv_sub hl [2, 7] rfl)

set_option maxHeartbeats 4000000 in
set_option maxRecDepth 100000 in
theorem case_1 {p : Program} {l : Launch} {e : Env} {s : State} {m : MethodId} {below : List Frame} {meth : Method} {c : Code} {b L : Nat} {xs : Nat → Int32} {z0 : Nat} {D : va_G} {g : Nat → Nat} (hfl : l.stackTraces = false) (hL7 : L = 7) (C0 : lw_At p s m meth c b L xs) (hz : s.heap.size = z0) (hE : EV z0 D g s s.heap) (x a0 a1 a2 a3 a4 a5 a6 pp pm pw w1 w2 w3 mm b0 b1 b2 b3 b4 b5 b6 o od : Nat) (cP cM cW cE cJ cD : ClassId) (G0 G1 G2 F : Nat → Option Nat) (LP : List Nat) (hF0 : G0 0 = some pp) (hF1 : G1 0 = some pm) (hF2 : G2 0 = some pw) (hF3 : ∀ j : Nat, j < 100 → ∃ y : Nat, y ∈ LP ∧ F j = some y) (hK : va_K D classes [(cP, .object "Theatrehouse$Person"), (cM, .object "Theatrehouse$Machine"), (cW, .object "Theatrehouse$Work"), (cE, .object "Theatrehouse$Evening"), (cJ, .long), (cD, .double)] s)  : ∀ (H : Heap) (locs : List Loc), va_P D classes ([(x, .inr (0, [.ref a0, .ref a1, .ref a2, .ref a3, .ref a4, .ref a5, .ref a6, .int 0, .int 0, .int 0, .int 0, .int 0, .int 0, .int 0])), (a0, .inl (cP, 10, .inr (.inr (.inr (.inr G0))))), (a1, .inl (cM, 6, .inr (.inr (.inr (.inr G1))))), (a2, .inl (cW, 3, .inr (.inr (.inr (.inr G2))))), (a3, .inl (cE, 100, .inr (.inr (.inr (.inr F))))), (pp, .inr (1, [.int 0, .int 0, .int 0, .int 0, .int (-1), .int (-1)])), (pm, .inr (2, [.int 0, .int 0, .int (-1), .int 0, .int 0])), (pw, .inr (3, [.int 0, .int 0, .int 0, .int 0, .ref w1, .ref w2, .ref w3])), (mm, .inr (9, [.ref b0, .ref b1, .ref b2, .ref b3, .int 0, .null, .null, .ref b4, .null, .ref b5, .ref b6, .int 0, .int 0, .long 0, .int 0])), (b0, .inr (10, [.int 0, .ref (g 4), .int 0])), (b1, .inr (10, [.int 0, .ref (g 4), .int 0])), (b2, .inr (10, [.int 0, .ref (g 4), .int 0])), (b3, .inr (11, [.null, .null, .null, .null, .int 0, .int 0, .null, .null, .null])), (o, .inl (cJ, 1, .inr (.inl (fun _ => 0)))), (od, .inl (cD, 1, .inr (.inr (.inr (.inl (fun _ => 0))))))] ++ va_pl LP (fun _ => freeE g)) H → va_D (lA z0) ([(x, .inr (0, [.ref a0, .ref a1, .ref a2, .ref a3, .ref a4, .ref a5, .ref a6, .int 0, .int 0, .int 0, .int 0, .int 0, .int 0, .int 0])), (a0, .inl (cP, 10, .inr (.inr (.inr (.inr G0))))), (a1, .inl (cM, 6, .inr (.inr (.inr (.inr G1))))), (a2, .inl (cW, 3, .inr (.inr (.inr (.inr G2))))), (a3, .inl (cE, 100, .inr (.inr (.inr (.inr F))))), (pp, .inr (1, [.int 0, .int 0, .int 0, .int 0, .int (-1), .int (-1)])), (pm, .inr (2, [.int 0, .int 0, .int (-1), .int 0, .int 0])), (pw, .inr (3, [.int 0, .int 0, .int 0, .int 0, .ref w1, .ref w2, .ref w3])), (mm, .inr (9, [.ref b0, .ref b1, .ref b2, .ref b3, .int 0, .null, .null, .ref b4, .null, .ref b5, .ref b6, .int 0, .int 0, .long 0, .int 0])), (b0, .inr (10, [.int 0, .ref (g 4), .int 0])), (b1, .inr (10, [.int 0, .ref (g 4), .int 0])), (b2, .inr (10, [.int 0, .ref (g 4), .int 0])), (b3, .inr (11, [.null, .null, .null, .null, .int 0, .int 0, .null, .null, .null])), (o, .inl (cJ, 1, .inr (.inl (fun _ => 0)))), (od, .inl (cD, 1, .inr (.inr (.inr (.inl (fun _ => 0))))))] ++ va_pl LP (fun _ => freeE g)) → va_S (lA z0) s.heap H locs → ∀ (ls : Array Slot), lv_has ls 9 [(5, .int 0), (4, .ref od), (3, .ref o), (2, .ref mm), (1, .ref x), (0, .ref b)] → W p l e room_1 s m #[Value.ref b] below meth c H locs 199 4528 (lw_Z below #[Value.ref b] s) (F0 m 268 ls []) := by
  subst hL7
  obtain ⟨hx, hb, hr, hml, hown, hts0, hX, hbl, hlocks, hgv⟩ := id C0
  have hown : s.vm.findClass "TheatrehouseLaw" = some m.cls := hown
  have hts : ∀ w ∈ lw_all, w.before #[Value.ref b] s = true := fun w h => hts0 w (List.mem_filter.mp h).1
  have hAz : ∀ q, lA z0 q → z0 ≤ q := fun _ h => h
  have hA : ∀ q : Nat, s.heap.size ≤ q → lA z0 q := fun q h => by show z0 ≤ q; rw [← hz]; exact h
  have hsz : z0 ≤ s.heap.size := Nat.le_of_eq hz.symm
  have hbA : ¬ lA z0 b := by show ¬ z0 ≤ b; rw [← hz]; exact Nat.not_le.mpr hbl
  intro H locs hP hD hS ls hl
  refine lv_aload_n hx hb dL_law_268 rfl (lv_at hl 4 rfl) ?_
  refine lv_aload_n hx hb dL_law_269 rfl (lv_at hl 5 rfl) ?_
  refine lv_iload hx hb dL_law_270 (lv_at hl 0 rfl) ?_
  refine lv_iconst (v := 1) hx hb dL_law_272 (by decide) ?_
  refine lv_iadd hx hb dL_law_273 ?_
  rw [show (0 + 1 : Int32) = 1 by decide]
  refine va_sld (i := 1) hx hb hX hbl hbA hS (by unfold vp_in; decide) dL_law_274 ?_
  refine lv_aload_n hx hb dL_law_275 rfl (lv_at hl 5 rfl) ?_
  refine lv_iload hx hb dL_law_276 (lv_at hl 0 rfl) ?_
  refine lv_iconst (v := 2) hx hb dL_law_278 (by decide) ?_
  refine lv_iadd hx hb dL_law_279 ?_
  rw [show (0 + 2 : Int32) = 2 by decide]
  refine va_sld (i := 2) hx hb hX hbl hbA hS (by unfold vp_in; decide) dL_law_280 ?_
  refine lv_aload_n hx hb dL_law_281 rfl (lv_at hl 2 rfl) ?_
  have hc_1 := hP.sub (ws' := [(x, .inr (0, [.ref a0, .ref a1, .ref a2, .ref a3, .ref a4, .ref a5, .ref a6, .int 0, .int 0, .int 0, .int 0, .int 0, .int 0, .int 0]))]) [0] rfl
  refine va_calli (vx_runSW (As := [.ref x, .int (xs (Int32.toNatClampNeg 1)), .int (xs (Int32.toNatClampNeg 2)), .ref o]) (rest := []) ⟨hx, hb, hml, hown, hts⟩ (met_of (c_L_setCover l hfl z0 D g x a0 a1 a2 a3 a4 a5 a6 (xs (Int32.toNatClampNeg 1)) (xs (Int32.toNatClampNeg 2)) o)) (vx_cwSW 4 hts (lw_SW m_656 m_657 m_0 m_658) rfl rfl rfl (by decide +kernel) ⟨(Nat.le_of_ble_eq_true rfl), (Nat.le_of_ble_eq_true rfl)⟩) ⟨PR.blind, PR.pre hE hS hAz hc_1⟩ rfl rfl hl.1 rfl (lv_room (Nat.le_of_ble_eq_true rfl)) dL_law_282 ⟨(Nat.le_of_ble_eq_true rfl), (Nat.le_of_ble_eq_true rfl)⟩) hS nA_B nA_A (fun r_2 u_3 t H locs ht hvm hw hB hz1 hk1 hS => ?_)
  have hP := hP.old hk1
  have hP : va_P D classes ([(x, .inr (0, [.ref a0, .ref a1, .ref a2, .ref a3, .ref a4, .ref a5, .ref a6, .int 0, .int 0, .int 0, .int 0, .int 0, .int 0, .int 0])), (a0, .inl (cP, 10, .inr (.inr (.inr (.inr G0))))), (a1, .inl (cM, 6, .inr (.inr (.inr (.inr G1))))), (a2, .inl (cW, 3, .inr (.inr (.inr (.inr G2))))), (a3, .inl (cE, 100, .inr (.inr (.inr (.inr F))))), (pp, .inr (1, [.int 0, .int 0, .int 0, .int 0, .int (-1), .int (-1)])), (pm, .inr (2, [.int 0, .int 0, .int (-1), .int 0, .int 0])), (pw, .inr (3, [.int 0, .int 0, .int 0, .int 0, .ref w1, .ref w2, .ref w3])), (mm, .inr (9, [.ref b0, .ref b1, .ref b2, .ref b3, .int 0, .null, .null, .ref b4, .null, .ref b5, .ref b6, .int 0, .int 0, .long 0, .int 0])), (b0, .inr (10, [.int 0, .ref (g 4), .int 0])), (b1, .inr (10, [.int 0, .ref (g 4), .int 0])), (b2, .inr (10, [.int 0, .ref (g 4), .int 0])), (b3, .inr (11, [.null, .null, .null, .null, .int 0, .int 0, .null, .null, .null])), (o, .inl (cJ, 1, .inr (.inl (fun _ => 0)))), (od, .inl (cD, 1, .inr (.inr (.inr (.inl (fun _ => 0))))))] ++ va_pl LP (fun _ => freeE g)) H := hP
  subst hw
  refine lv_istore (lv' := [(6, .int 1), (5, .int 0), (4, .ref od), (3, .ref o), (2, .ref mm), (1, .ref x), (0, .ref b)]) hx hb dL_law_285 hl (by decide) rfl (fun ls hl => ?_)
  refine lv_aload_n hx hb dL_law_287 rfl (lv_at hl 4 rfl) ?_
  refine lv_aload_n hx hb dL_law_288 rfl (lv_at hl 6 rfl) ?_
  refine lv_iload hx hb dL_law_289 (lv_at hl 1 rfl) ?_
  refine lv_iconst (v := 1) hx hb dL_law_291 (by decide) ?_
  refine lv_iadd hx hb dL_law_292 ?_
  rw [show (0 + 1 : Int32) = 1 by decide]
  refine va_sld (i := 1) hx hb hX hbl hbA hS (by unfold vp_in; decide) dL_law_293 ?_
  refine lv_aload_n hx hb dL_law_294 rfl (lv_at hl 6 rfl) ?_
  refine lv_iload hx hb dL_law_295 (lv_at hl 1 rfl) ?_
  refine lv_iconst (v := 2) hx hb dL_law_297 (by decide) ?_
  refine lv_iadd hx hb dL_law_298 ?_
  rw [show (0 + 2 : Int32) = 2 by decide]
  refine va_sld (i := 2) hx hb hX hbl hbA hS (by unfold vp_in; decide) dL_law_299 ?_
  have hc_4 := hP.sub (ws' := [(mm, .inr (9, [.ref b0, .ref b1, .ref b2, .ref b3, .int 0, .null, .null, .ref b4, .null, .ref b5, .ref b6, .int 0, .int 0, .long 0, .int 0])), (b0, .inr (10, [.int 0, .ref (g 4), .int 0])), (b1, .inr (10, [.int 0, .ref (g 4), .int 0])), (b2, .inr (10, [.int 0, .ref (g 4), .int 0])), (b3, .inr (11, [.null, .null, .null, .null, .int 0, .int 0, .null, .null, .null]))]) [8, 9, 10, 11, 12] rfl
  have hc_4D := hD.sub (ws' := [(mm, .inr (9, [.ref b0, .ref b1, .ref b2, .ref b3, .int 0, .null, .null, .ref b4, .null, .ref b5, .ref b6, .int 0, .int 0, .long 0, .int 0])), (b0, .inr (10, [.int 0, .ref (g 4), .int 0])), (b1, .inr (10, [.int 0, .ref (g 4), .int 0])), (b2, .inr (10, [.int 0, .ref (g 4), .int 0])), (b3, .inr (11, [.null, .null, .null, .null, .int 0, .int 0, .null, .null, .null]))]) [8, 9, 10, 11, 12] (by decide) rfl
  have hc_4F := va_free (wc := [(mm, .inr (9, [.ref b0, .ref b1, .ref b2, .ref b3, .int 0, .null, .null, .ref b4, .null, .ref b5, .ref b6, .int 0, .int 0, .long 0, .int 0])), (b0, .inr (10, [.int 0, .ref (g 4), .int 0])), (b1, .inr (10, [.int 0, .ref (g 4), .int 0])), (b2, .inr (10, [.int 0, .ref (g 4), .int 0])), (b3, .inr (11, [.null, .null, .null, .null, .int 0, .int 0, .null, .null, .null]))]) hD hS hA [8, 9, 10, 11, 12] rfl
  refine va_calli (va_runV (As := [.int (xs (Int32.toNatClampNeg 1)), .int (xs (Int32.toNatClampNeg 2))]) (rest := []) ⟨hx, hb, hml, hown, hts⟩ (c_X18_setCover l z0 D g _ mm b0 b1 b2 b3 b4 b5 b6 (xs (Int32.toNatClampNeg 1)) (xs (Int32.toNatClampNeg 2))) (cwV 2 hts (lw_V m_1367 m_1368 m_1369 m_12 m_1370) rfl rfl rfl (by decide +kernel) ⟨(Nat.le_of_ble_eq_true rfl), (Nat.le_of_ble_eq_true rfl)⟩) ⟨PM.blind, va_recv hK hP (ci := 9) (q0 := 8) rfl rfl, PM.pre hE hS hAz hsz hc_4 hc_4D⟩ rfl rfl hl.1 rfl (lv_room (Nat.le_of_ble_eq_true rfl)) dL_law_300 ⟨(Nat.le_of_ble_eq_true rfl), (Nat.le_of_ble_eq_true rfl)⟩) hS (fun q _ h => hc_4F q h) hc_4F (fun r_5 u_6 t H locs ht hvm hw hB hz1 hk1 hS => ?_)
  obtain ⟨hP1, hD1⟩ := hB
  rw [ht] at hP1
  obtain ⟨hP, hD⟩ := va_joinQ (X := [(x, .inr (0, [.ref a0, .ref a1, .ref a2, .ref a3, .ref a4, .ref a5, .ref a6, .int 0, .int 0, .int 0, .int 0, .int 0, .int 0, .int 0])), (a0, .inl (cP, 10, .inr (.inr (.inr (.inr G0))))), (a1, .inl (cM, 6, .inr (.inr (.inr (.inr G1))))), (a2, .inl (cW, 3, .inr (.inr (.inr (.inr G2))))), (a3, .inl (cE, 100, .inr (.inr (.inr (.inr F))))), (pp, .inr (1, [.int 0, .int 0, .int 0, .int 0, .int (-1), .int (-1)])), (pm, .inr (2, [.int 0, .int 0, .int (-1), .int 0, .int 0])), (pw, .inr (3, [.int 0, .int 0, .int 0, .int 0, .ref w1, .ref w2, .ref w3])), (mm, .inr (9, [.ref b0, .ref b1, .ref b2, .ref b3, .int 0, .null, .null, .ref b4, .null, .ref b5, .ref b6, .int 0, .int 0, .long 0, .int 0])), (b0, .inr (10, [.int 0, .ref (g 4), .int 0])), (b1, .inr (10, [.int 0, .ref (g 4), .int 0])), (b2, .inr (10, [.int 0, .ref (g 4), .int 0])), (b3, .inr (11, [.null, .null, .null, .null, .int 0, .int 0, .null, .null, .null])), (o, .inl (cJ, 1, .inr (.inl (fun _ => 0)))), (od, .inl (cD, 1, .inr (.inr (.inr (.inl (fun _ => 0))))))]) (wr := [(x, .inr (0, [.ref a0, .ref a1, .ref a2, .ref a3, .ref a4, .ref a5, .ref a6, .int 0, .int 0, .int 0, .int 0, .int 0, .int 0, .int 0])), (a0, .inl (cP, 10, .inr (.inr (.inr (.inr G0))))), (a1, .inl (cM, 6, .inr (.inr (.inr (.inr G1))))), (a2, .inl (cW, 3, .inr (.inr (.inr (.inr G2))))), (a3, .inl (cE, 100, .inr (.inr (.inr (.inr F))))), (pp, .inr (1, [.int 0, .int 0, .int 0, .int 0, .int (-1), .int (-1)])), (pm, .inr (2, [.int 0, .int 0, .int (-1), .int 0, .int 0])), (pw, .inr (3, [.int 0, .int 0, .int 0, .int 0, .ref w1, .ref w2, .ref w3])), (o, .inl (cJ, 1, .inr (.inl (fun _ => 0)))), (od, .inl (cD, 1, .inr (.inr (.inr (.inl (fun _ => 0))))))]) (w1 := [(mm, .inr (9, [.ref b0, .ref b1, .ref b2, .ref b3, .int 0, .null, .null, .ref b4, .null, .ref b5, .ref b6, .int 0, .int 0, .long 0, .int 1])), (b0, .inr (10, [.int 0, .ref (g 4), .int 0])), (b1, .inr (10, [.int 0, .ref (g 4), .int 0])), (b2, .inr (10, [.int 0, .ref (g 4), .int 0])), (b3, .inr (11, [.null, .null, .null, .null, .int 0, .int 0, .null, .null, .null]))]) hP hD [8, 9, 10, 11, 12] [0, 1, 2, 3, 4, 5, 6, 7, 13, 14] rfl rfl (by decide) (by decide) hk1 hc_4F hP1 hD1
  have hP : va_P D classes ([(x, .inr (0, [.ref a0, .ref a1, .ref a2, .ref a3, .ref a4, .ref a5, .ref a6, .int 0, .int 0, .int 0, .int 0, .int 0, .int 0, .int 0])), (a0, .inl (cP, 10, .inr (.inr (.inr (.inr G0))))), (a1, .inl (cM, 6, .inr (.inr (.inr (.inr G1))))), (a2, .inl (cW, 3, .inr (.inr (.inr (.inr G2))))), (a3, .inl (cE, 100, .inr (.inr (.inr (.inr F))))), (pp, .inr (1, [.int 0, .int 0, .int 0, .int 0, .int (-1), .int (-1)])), (pm, .inr (2, [.int 0, .int 0, .int (-1), .int 0, .int 0])), (pw, .inr (3, [.int 0, .int 0, .int 0, .int 0, .ref w1, .ref w2, .ref w3])), (o, .inl (cJ, 1, .inr (.inl (fun _ => 0)))), (od, .inl (cD, 1, .inr (.inr (.inr (.inl (fun _ => 0)))))), (mm, .inr (9, [.ref b0, .ref b1, .ref b2, .ref b3, .int 0, .null, .null, .ref b4, .null, .ref b5, .ref b6, .int 0, .int 0, .long 0, .int 1])), (b0, .inr (10, [.int 0, .ref (g 4), .int 0])), (b1, .inr (10, [.int 0, .ref (g 4), .int 0])), (b2, .inr (10, [.int 0, .ref (g 4), .int 0])), (b3, .inr (11, [.null, .null, .null, .null, .int 0, .int 0, .null, .null, .null]))] ++ va_pl LP (fun _ => freeE g)) H := hP
  have hD : va_D (lA z0) ([(x, .inr (0, [.ref a0, .ref a1, .ref a2, .ref a3, .ref a4, .ref a5, .ref a6, .int 0, .int 0, .int 0, .int 0, .int 0, .int 0, .int 0])), (a0, .inl (cP, 10, .inr (.inr (.inr (.inr G0))))), (a1, .inl (cM, 6, .inr (.inr (.inr (.inr G1))))), (a2, .inl (cW, 3, .inr (.inr (.inr (.inr G2))))), (a3, .inl (cE, 100, .inr (.inr (.inr (.inr F))))), (pp, .inr (1, [.int 0, .int 0, .int 0, .int 0, .int (-1), .int (-1)])), (pm, .inr (2, [.int 0, .int 0, .int (-1), .int 0, .int 0])), (pw, .inr (3, [.int 0, .int 0, .int 0, .int 0, .ref w1, .ref w2, .ref w3])), (o, .inl (cJ, 1, .inr (.inl (fun _ => 0)))), (od, .inl (cD, 1, .inr (.inr (.inr (.inl (fun _ => 0)))))), (mm, .inr (9, [.ref b0, .ref b1, .ref b2, .ref b3, .int 0, .null, .null, .ref b4, .null, .ref b5, .ref b6, .int 0, .int 0, .long 0, .int 1])), (b0, .inr (10, [.int 0, .ref (g 4), .int 0])), (b1, .inr (10, [.int 0, .ref (g 4), .int 0])), (b2, .inr (10, [.int 0, .ref (g 4), .int 0])), (b3, .inr (11, [.null, .null, .null, .null, .int 0, .int 0, .null, .null, .null]))] ++ va_pl LP (fun _ => freeE g)) := hD
  refine lv_istore (lv' := [(7, .int r_5), (6, .int 1), (5, .int 0), (4, .ref od), (3, .ref o), (2, .ref mm), (1, .ref x), (0, .ref b)]) hx hb dL_law_303 hl (by decide) rfl (fun ls hl => ?_)
  refine lv_aload_n hx hb dL_law_305 rfl (lv_at hl 5 rfl) ?_
  have hc_7 := hP.sub (ws' := [(mm, .inr (9, [.ref b0, .ref b1, .ref b2, .ref b3, .int 0, .null, .null, .ref b4, .null, .ref b5, .ref b6, .int 0, .int 0, .long 0, .int 1]))]) [10] rfl
  refine va_calli (va_runV (As := []) (rest := []) ⟨hx, hb, hml, hown, hts⟩ (c_thrown l z0 D g mm b0 b1 b2 b3 b4 b5 b6 1 0) (cwV 0 hts (lw_V m_1229 m_1230 m_1231 m_12 m_1232) rfl rfl rfl (by decide +kernel) ⟨(Nat.le_of_ble_eq_true rfl), (Nat.le_of_ble_eq_true rfl)⟩) ⟨PR.blind, va_recv hK hP (ci := 9) (q0 := 10) rfl rfl, PR.pre hE hS hAz hc_7⟩ rfl rfl hl.1 rfl (lv_room (Nat.le_of_ble_eq_true rfl)) dL_law_306 ⟨(Nat.le_of_ble_eq_true rfl), (Nat.le_of_ble_eq_true rfl)⟩) hS nA_B nA_A (fun r_8 u_9 t H locs ht hvm hw hB hz1 hk1 hS => ?_)
  have hP := hP.old hk1
  have hP : va_P D classes ([(x, .inr (0, [.ref a0, .ref a1, .ref a2, .ref a3, .ref a4, .ref a5, .ref a6, .int 0, .int 0, .int 0, .int 0, .int 0, .int 0, .int 0])), (a0, .inl (cP, 10, .inr (.inr (.inr (.inr G0))))), (a1, .inl (cM, 6, .inr (.inr (.inr (.inr G1))))), (a2, .inl (cW, 3, .inr (.inr (.inr (.inr G2))))), (a3, .inl (cE, 100, .inr (.inr (.inr (.inr F))))), (pp, .inr (1, [.int 0, .int 0, .int 0, .int 0, .int (-1), .int (-1)])), (pm, .inr (2, [.int 0, .int 0, .int (-1), .int 0, .int 0])), (pw, .inr (3, [.int 0, .int 0, .int 0, .int 0, .ref w1, .ref w2, .ref w3])), (o, .inl (cJ, 1, .inr (.inl (fun _ => 0)))), (od, .inl (cD, 1, .inr (.inr (.inr (.inl (fun _ => 0)))))), (mm, .inr (9, [.ref b0, .ref b1, .ref b2, .ref b3, .int 0, .null, .null, .ref b4, .null, .ref b5, .ref b6, .int 0, .int 0, .long 0, .int 1])), (b0, .inr (10, [.int 0, .ref (g 4), .int 0])), (b1, .inr (10, [.int 0, .ref (g 4), .int 0])), (b2, .inr (10, [.int 0, .ref (g 4), .int 0])), (b3, .inr (11, [.null, .null, .null, .null, .int 0, .int 0, .null, .null, .null]))] ++ va_pl LP (fun _ => freeE g)) H := hP
  subst hw
  refine lv_iload hx hb dL_law_309 (lv_at hl 1 rfl) ?_
  refine lv_icmp_eq (tgt := 316) hx hb dL_law_311 (by decide) (fun _ => ?_) (fun h9 => absurd (by decide) h9)
  refine lv_iload hx hb dL_law_316 (lv_at hl 1 rfl) ?_
  refine lv_if_ne (tgt := 333) hx hb dL_law_318 (by decide) (fun _ => ?_) (fun h9 => absurd h9 (by decide))
  refine lv_goto (tgt := 2156) hx hb dL_law_333 (by decide) ?_
  exact law_tail (by rfl) C0 hz (Nat.le_of_ble_eq_true rfl) (Nat.le_of_ble_eq_true rfl) hS (lv_sub hl [2, 7] rfl)

set_option maxHeartbeats 4000000 in
set_option maxRecDepth 100000 in
theorem case_2 {p : Program} {l : Launch} {e : Env} {s : State} {m : MethodId} {below : List Frame} {meth : Method} {c : Code} {b L : Nat} {xs : Nat → Int32} {z0 : Nat} {D : va_G} {g : Nat → Nat} (hfl : l.stackTraces = false) (hL7 : L = 7) (C0 : lw_At p s m meth c b L xs) (hz : s.heap.size = z0) (hE : EV z0 D g s s.heap) (x a0 a1 a2 a3 a4 a5 a6 pp pm pw w1 w2 w3 mm b0 b1 b2 b3 b4 b5 b6 o od : Nat) (cP cM cW cE cJ cD : ClassId) (G0 G1 G2 F : Nat → Option Nat) (LP : List Nat) (hF0 : G0 0 = some pp) (hF1 : G1 0 = some pm) (hF2 : G2 0 = some pw) (hF3 : ∀ j : Nat, j < 100 → ∃ y : Nat, y ∈ LP ∧ F j = some y) (hK : va_K D classes [(cP, .object "Theatrehouse$Person"), (cM, .object "Theatrehouse$Machine"), (cW, .object "Theatrehouse$Work"), (cE, .object "Theatrehouse$Evening"), (cJ, .long), (cD, .double)] s)  : ∀ (H : Heap) (locs : List Loc), va_P D classes ([(x, .inr (0, [.ref a0, .ref a1, .ref a2, .ref a3, .ref a4, .ref a5, .ref a6, .int 0, .int 0, .int 0, .int 0, .int 0, .int 0, .int 0])), (a0, .inl (cP, 10, .inr (.inr (.inr (.inr G0))))), (a1, .inl (cM, 6, .inr (.inr (.inr (.inr G1))))), (a2, .inl (cW, 3, .inr (.inr (.inr (.inr G2))))), (a3, .inl (cE, 100, .inr (.inr (.inr (.inr F))))), (pp, .inr (1, [.int 0, .int 0, .int 0, .int 0, .int (-1), .int (-1)])), (pm, .inr (2, [.int 0, .int 0, .int (-1), .int 0, .int 0])), (pw, .inr (3, [.int 0, .int 0, .int 0, .int 0, .ref w1, .ref w2, .ref w3])), (mm, .inr (9, [.ref b0, .ref b1, .ref b2, .ref b3, .int 0, .null, .null, .ref b4, .null, .ref b5, .ref b6, .int 0, .int 0, .long 0, .int 0])), (b0, .inr (10, [.int 0, .ref (g 4), .int 0])), (b1, .inr (10, [.int 0, .ref (g 4), .int 0])), (b2, .inr (10, [.int 0, .ref (g 4), .int 0])), (b3, .inr (11, [.null, .null, .null, .null, .int 0, .int 0, .null, .null, .null])), (o, .inl (cJ, 1, .inr (.inl (fun _ => 0)))), (od, .inl (cD, 1, .inr (.inr (.inr (.inl (fun _ => 0))))))] ++ va_pl LP (fun _ => freeE g)) H → va_D (lA z0) ([(x, .inr (0, [.ref a0, .ref a1, .ref a2, .ref a3, .ref a4, .ref a5, .ref a6, .int 0, .int 0, .int 0, .int 0, .int 0, .int 0, .int 0])), (a0, .inl (cP, 10, .inr (.inr (.inr (.inr G0))))), (a1, .inl (cM, 6, .inr (.inr (.inr (.inr G1))))), (a2, .inl (cW, 3, .inr (.inr (.inr (.inr G2))))), (a3, .inl (cE, 100, .inr (.inr (.inr (.inr F))))), (pp, .inr (1, [.int 0, .int 0, .int 0, .int 0, .int (-1), .int (-1)])), (pm, .inr (2, [.int 0, .int 0, .int (-1), .int 0, .int 0])), (pw, .inr (3, [.int 0, .int 0, .int 0, .int 0, .ref w1, .ref w2, .ref w3])), (mm, .inr (9, [.ref b0, .ref b1, .ref b2, .ref b3, .int 0, .null, .null, .ref b4, .null, .ref b5, .ref b6, .int 0, .int 0, .long 0, .int 0])), (b0, .inr (10, [.int 0, .ref (g 4), .int 0])), (b1, .inr (10, [.int 0, .ref (g 4), .int 0])), (b2, .inr (10, [.int 0, .ref (g 4), .int 0])), (b3, .inr (11, [.null, .null, .null, .null, .int 0, .int 0, .null, .null, .null])), (o, .inl (cJ, 1, .inr (.inl (fun _ => 0)))), (od, .inl (cD, 1, .inr (.inr (.inr (.inl (fun _ => 0))))))] ++ va_pl LP (fun _ => freeE g)) → va_S (lA z0) s.heap H locs → ∀ (ls : Array Slot), lv_has ls 9 [(5, .int 0), (4, .ref od), (3, .ref o), (2, .ref mm), (1, .ref x), (0, .ref b)] → W p l e room_1 s m #[Value.ref b] below meth c H locs 199 4528 (lw_Z below #[Value.ref b] s) (F0 m 336 ls []) := by
  subst hL7
  obtain ⟨hx, hb, hr, hml, hown, hts0, hX, hbl, hlocks, hgv⟩ := id C0
  have hown : s.vm.findClass "TheatrehouseLaw" = some m.cls := hown
  have hts : ∀ w ∈ lw_all, w.before #[Value.ref b] s = true := fun w h => hts0 w (List.mem_filter.mp h).1
  have hAz : ∀ q, lA z0 q → z0 ≤ q := fun _ h => h
  have hA : ∀ q : Nat, s.heap.size ≤ q → lA z0 q := fun q h => by show z0 ≤ q; rw [← hz]; exact h
  have hsz : z0 ≤ s.heap.size := Nat.le_of_eq hz.symm
  have hbA : ¬ lA z0 b := by show ¬ z0 ≤ b; rw [← hz]; exact Nat.not_le.mpr hbl
  intro H locs hP hD hS ls hl
  refine lv_aload_n hx hb dL_law_336 rfl (lv_at hl 4 rfl) ?_
  refine lv_aload_n hx hb dL_law_337 rfl (lv_at hl 5 rfl) ?_
  refine lv_iload hx hb dL_law_338 (lv_at hl 0 rfl) ?_
  refine lv_iconst (v := 1) hx hb dL_law_340 (by decide) ?_
  refine lv_iadd hx hb dL_law_341 ?_
  rw [show (0 + 1 : Int32) = 1 by decide]
  refine va_sld (i := 1) hx hb hX hbl hbA hS (by unfold vp_in; decide) dL_law_342 ?_
  refine lv_aload_n hx hb dL_law_343 rfl (lv_at hl 5 rfl) ?_
  refine lv_iload hx hb dL_law_344 (lv_at hl 0 rfl) ?_
  refine lv_iconst (v := 2) hx hb dL_law_346 (by decide) ?_
  refine lv_iadd hx hb dL_law_347 ?_
  rw [show (0 + 2 : Int32) = 2 by decide]
  refine va_sld (i := 2) hx hb hX hbl hbA hS (by unfold vp_in; decide) dL_law_348 ?_
  refine lv_aload_n hx hb dL_law_349 rfl (lv_at hl 2 rfl) ?_
  have hc_1 := hP.sub (ws' := [(x, .inr (0, [.ref a0, .ref a1, .ref a2, .ref a3, .ref a4, .ref a5, .ref a6, .int 0, .int 0, .int 0, .int 0, .int 0, .int 0, .int 0]))]) [0] rfl
  refine va_calli (vx_runSW (As := [.ref x, .int (xs (Int32.toNatClampNeg 1)), .int (xs (Int32.toNatClampNeg 2)), .ref o]) (rest := []) ⟨hx, hb, hml, hown, hts⟩ (met_of (c_L_fallIll l hfl z0 D g x a0 a1 a2 a3 a4 a5 a6 (xs (Int32.toNatClampNeg 1)) (xs (Int32.toNatClampNeg 2)) o)) (vx_cwSW 4 hts (lw_SW m_712 m_713 m_0 m_714) rfl rfl rfl (by decide +kernel) ⟨(Nat.le_of_ble_eq_true rfl), (Nat.le_of_ble_eq_true rfl)⟩) ⟨PR.blind, PR.pre hE hS hAz hc_1⟩ rfl rfl hl.1 rfl (lv_room (Nat.le_of_ble_eq_true rfl)) dL_law_350 ⟨(Nat.le_of_ble_eq_true rfl), (Nat.le_of_ble_eq_true rfl)⟩) hS nA_B nA_A (fun r_2 u_3 t H locs ht hvm hw hB hz1 hk1 hS => ?_)
  have hP := hP.old hk1
  have hP : va_P D classes ([(x, .inr (0, [.ref a0, .ref a1, .ref a2, .ref a3, .ref a4, .ref a5, .ref a6, .int 0, .int 0, .int 0, .int 0, .int 0, .int 0, .int 0])), (a0, .inl (cP, 10, .inr (.inr (.inr (.inr G0))))), (a1, .inl (cM, 6, .inr (.inr (.inr (.inr G1))))), (a2, .inl (cW, 3, .inr (.inr (.inr (.inr G2))))), (a3, .inl (cE, 100, .inr (.inr (.inr (.inr F))))), (pp, .inr (1, [.int 0, .int 0, .int 0, .int 0, .int (-1), .int (-1)])), (pm, .inr (2, [.int 0, .int 0, .int (-1), .int 0, .int 0])), (pw, .inr (3, [.int 0, .int 0, .int 0, .int 0, .ref w1, .ref w2, .ref w3])), (mm, .inr (9, [.ref b0, .ref b1, .ref b2, .ref b3, .int 0, .null, .null, .ref b4, .null, .ref b5, .ref b6, .int 0, .int 0, .long 0, .int 0])), (b0, .inr (10, [.int 0, .ref (g 4), .int 0])), (b1, .inr (10, [.int 0, .ref (g 4), .int 0])), (b2, .inr (10, [.int 0, .ref (g 4), .int 0])), (b3, .inr (11, [.null, .null, .null, .null, .int 0, .int 0, .null, .null, .null])), (o, .inl (cJ, 1, .inr (.inl (fun _ => 0)))), (od, .inl (cD, 1, .inr (.inr (.inr (.inl (fun _ => 0))))))] ++ va_pl LP (fun _ => freeE g)) H := hP
  subst hw
  refine lv_istore (lv' := [(6, .int 1), (5, .int 0), (4, .ref od), (3, .ref o), (2, .ref mm), (1, .ref x), (0, .ref b)]) hx hb dL_law_353 hl (by decide) rfl (fun ls hl => ?_)
  refine lv_aload_n hx hb dL_law_355 rfl (lv_at hl 4 rfl) ?_
  refine lv_aload_n hx hb dL_law_356 rfl (lv_at hl 6 rfl) ?_
  refine lv_iload hx hb dL_law_357 (lv_at hl 1 rfl) ?_
  refine lv_iconst (v := 1) hx hb dL_law_359 (by decide) ?_
  refine lv_iadd hx hb dL_law_360 ?_
  rw [show (0 + 1 : Int32) = 1 by decide]
  refine va_sld (i := 1) hx hb hX hbl hbA hS (by unfold vp_in; decide) dL_law_361 ?_
  refine lv_aload_n hx hb dL_law_362 rfl (lv_at hl 6 rfl) ?_
  refine lv_iload hx hb dL_law_363 (lv_at hl 1 rfl) ?_
  refine lv_iconst (v := 2) hx hb dL_law_365 (by decide) ?_
  refine lv_iadd hx hb dL_law_366 ?_
  rw [show (0 + 2 : Int32) = 2 by decide]
  refine va_sld (i := 2) hx hb hX hbl hbA hS (by unfold vp_in; decide) dL_law_367 ?_
  have hc_4 := hP.sub (ws' := [(mm, .inr (9, [.ref b0, .ref b1, .ref b2, .ref b3, .int 0, .null, .null, .ref b4, .null, .ref b5, .ref b6, .int 0, .int 0, .long 0, .int 0])), (b0, .inr (10, [.int 0, .ref (g 4), .int 0])), (b1, .inr (10, [.int 0, .ref (g 4), .int 0])), (b2, .inr (10, [.int 0, .ref (g 4), .int 0])), (b3, .inr (11, [.null, .null, .null, .null, .int 0, .int 0, .null, .null, .null]))]) [8, 9, 10, 11, 12] rfl
  have hc_4D := hD.sub (ws' := [(mm, .inr (9, [.ref b0, .ref b1, .ref b2, .ref b3, .int 0, .null, .null, .ref b4, .null, .ref b5, .ref b6, .int 0, .int 0, .long 0, .int 0])), (b0, .inr (10, [.int 0, .ref (g 4), .int 0])), (b1, .inr (10, [.int 0, .ref (g 4), .int 0])), (b2, .inr (10, [.int 0, .ref (g 4), .int 0])), (b3, .inr (11, [.null, .null, .null, .null, .int 0, .int 0, .null, .null, .null]))]) [8, 9, 10, 11, 12] (by decide) rfl
  have hc_4F := va_free (wc := [(mm, .inr (9, [.ref b0, .ref b1, .ref b2, .ref b3, .int 0, .null, .null, .ref b4, .null, .ref b5, .ref b6, .int 0, .int 0, .long 0, .int 0])), (b0, .inr (10, [.int 0, .ref (g 4), .int 0])), (b1, .inr (10, [.int 0, .ref (g 4), .int 0])), (b2, .inr (10, [.int 0, .ref (g 4), .int 0])), (b3, .inr (11, [.null, .null, .null, .null, .int 0, .int 0, .null, .null, .null]))]) hD hS hA [8, 9, 10, 11, 12] rfl
  refine va_calli (va_runV (As := [.int (xs (Int32.toNatClampNeg 1)), .int (xs (Int32.toNatClampNeg 2))]) (rest := []) ⟨hx, hb, hml, hown, hts⟩ (c_X18_fallIll l z0 D g _ mm b0 b1 b2 b3 b4 b5 b6 (xs (Int32.toNatClampNeg 1)) (xs (Int32.toNatClampNeg 2))) (cwV 2 hts (lw_V m_1394 m_1395 m_1396 m_12 m_1397) rfl rfl rfl (by decide +kernel) ⟨(Nat.le_of_ble_eq_true rfl), (Nat.le_of_ble_eq_true rfl)⟩) ⟨PM.blind, va_recv hK hP (ci := 9) (q0 := 8) rfl rfl, PM.pre hE hS hAz hsz hc_4 hc_4D⟩ rfl rfl hl.1 rfl (lv_room (Nat.le_of_ble_eq_true rfl)) dL_law_368 ⟨(Nat.le_of_ble_eq_true rfl), (Nat.le_of_ble_eq_true rfl)⟩) hS (fun q _ h => hc_4F q h) hc_4F (fun r_5 u_6 t H locs ht hvm hw hB hz1 hk1 hS => ?_)
  obtain ⟨hP1, hD1⟩ := hB
  rw [ht] at hP1
  obtain ⟨hP, hD⟩ := va_joinQ (X := [(x, .inr (0, [.ref a0, .ref a1, .ref a2, .ref a3, .ref a4, .ref a5, .ref a6, .int 0, .int 0, .int 0, .int 0, .int 0, .int 0, .int 0])), (a0, .inl (cP, 10, .inr (.inr (.inr (.inr G0))))), (a1, .inl (cM, 6, .inr (.inr (.inr (.inr G1))))), (a2, .inl (cW, 3, .inr (.inr (.inr (.inr G2))))), (a3, .inl (cE, 100, .inr (.inr (.inr (.inr F))))), (pp, .inr (1, [.int 0, .int 0, .int 0, .int 0, .int (-1), .int (-1)])), (pm, .inr (2, [.int 0, .int 0, .int (-1), .int 0, .int 0])), (pw, .inr (3, [.int 0, .int 0, .int 0, .int 0, .ref w1, .ref w2, .ref w3])), (mm, .inr (9, [.ref b0, .ref b1, .ref b2, .ref b3, .int 0, .null, .null, .ref b4, .null, .ref b5, .ref b6, .int 0, .int 0, .long 0, .int 0])), (b0, .inr (10, [.int 0, .ref (g 4), .int 0])), (b1, .inr (10, [.int 0, .ref (g 4), .int 0])), (b2, .inr (10, [.int 0, .ref (g 4), .int 0])), (b3, .inr (11, [.null, .null, .null, .null, .int 0, .int 0, .null, .null, .null])), (o, .inl (cJ, 1, .inr (.inl (fun _ => 0)))), (od, .inl (cD, 1, .inr (.inr (.inr (.inl (fun _ => 0))))))]) (wr := [(x, .inr (0, [.ref a0, .ref a1, .ref a2, .ref a3, .ref a4, .ref a5, .ref a6, .int 0, .int 0, .int 0, .int 0, .int 0, .int 0, .int 0])), (a0, .inl (cP, 10, .inr (.inr (.inr (.inr G0))))), (a1, .inl (cM, 6, .inr (.inr (.inr (.inr G1))))), (a2, .inl (cW, 3, .inr (.inr (.inr (.inr G2))))), (a3, .inl (cE, 100, .inr (.inr (.inr (.inr F))))), (pp, .inr (1, [.int 0, .int 0, .int 0, .int 0, .int (-1), .int (-1)])), (pm, .inr (2, [.int 0, .int 0, .int (-1), .int 0, .int 0])), (pw, .inr (3, [.int 0, .int 0, .int 0, .int 0, .ref w1, .ref w2, .ref w3])), (o, .inl (cJ, 1, .inr (.inl (fun _ => 0)))), (od, .inl (cD, 1, .inr (.inr (.inr (.inl (fun _ => 0))))))]) (w1 := [(mm, .inr (9, [.ref b0, .ref b1, .ref b2, .ref b3, .int 0, .null, .null, .ref b4, .null, .ref b5, .ref b6, .int 0, .int 0, .long 0, .int 1])), (b0, .inr (10, [.int 0, .ref (g 4), .int 0])), (b1, .inr (10, [.int 0, .ref (g 4), .int 0])), (b2, .inr (10, [.int 0, .ref (g 4), .int 0])), (b3, .inr (11, [.null, .null, .null, .null, .int 0, .int 0, .null, .null, .null]))]) hP hD [8, 9, 10, 11, 12] [0, 1, 2, 3, 4, 5, 6, 7, 13, 14] rfl rfl (by decide) (by decide) hk1 hc_4F hP1 hD1
  have hP : va_P D classes ([(x, .inr (0, [.ref a0, .ref a1, .ref a2, .ref a3, .ref a4, .ref a5, .ref a6, .int 0, .int 0, .int 0, .int 0, .int 0, .int 0, .int 0])), (a0, .inl (cP, 10, .inr (.inr (.inr (.inr G0))))), (a1, .inl (cM, 6, .inr (.inr (.inr (.inr G1))))), (a2, .inl (cW, 3, .inr (.inr (.inr (.inr G2))))), (a3, .inl (cE, 100, .inr (.inr (.inr (.inr F))))), (pp, .inr (1, [.int 0, .int 0, .int 0, .int 0, .int (-1), .int (-1)])), (pm, .inr (2, [.int 0, .int 0, .int (-1), .int 0, .int 0])), (pw, .inr (3, [.int 0, .int 0, .int 0, .int 0, .ref w1, .ref w2, .ref w3])), (o, .inl (cJ, 1, .inr (.inl (fun _ => 0)))), (od, .inl (cD, 1, .inr (.inr (.inr (.inl (fun _ => 0)))))), (mm, .inr (9, [.ref b0, .ref b1, .ref b2, .ref b3, .int 0, .null, .null, .ref b4, .null, .ref b5, .ref b6, .int 0, .int 0, .long 0, .int 1])), (b0, .inr (10, [.int 0, .ref (g 4), .int 0])), (b1, .inr (10, [.int 0, .ref (g 4), .int 0])), (b2, .inr (10, [.int 0, .ref (g 4), .int 0])), (b3, .inr (11, [.null, .null, .null, .null, .int 0, .int 0, .null, .null, .null]))] ++ va_pl LP (fun _ => freeE g)) H := hP
  have hD : va_D (lA z0) ([(x, .inr (0, [.ref a0, .ref a1, .ref a2, .ref a3, .ref a4, .ref a5, .ref a6, .int 0, .int 0, .int 0, .int 0, .int 0, .int 0, .int 0])), (a0, .inl (cP, 10, .inr (.inr (.inr (.inr G0))))), (a1, .inl (cM, 6, .inr (.inr (.inr (.inr G1))))), (a2, .inl (cW, 3, .inr (.inr (.inr (.inr G2))))), (a3, .inl (cE, 100, .inr (.inr (.inr (.inr F))))), (pp, .inr (1, [.int 0, .int 0, .int 0, .int 0, .int (-1), .int (-1)])), (pm, .inr (2, [.int 0, .int 0, .int (-1), .int 0, .int 0])), (pw, .inr (3, [.int 0, .int 0, .int 0, .int 0, .ref w1, .ref w2, .ref w3])), (o, .inl (cJ, 1, .inr (.inl (fun _ => 0)))), (od, .inl (cD, 1, .inr (.inr (.inr (.inl (fun _ => 0)))))), (mm, .inr (9, [.ref b0, .ref b1, .ref b2, .ref b3, .int 0, .null, .null, .ref b4, .null, .ref b5, .ref b6, .int 0, .int 0, .long 0, .int 1])), (b0, .inr (10, [.int 0, .ref (g 4), .int 0])), (b1, .inr (10, [.int 0, .ref (g 4), .int 0])), (b2, .inr (10, [.int 0, .ref (g 4), .int 0])), (b3, .inr (11, [.null, .null, .null, .null, .int 0, .int 0, .null, .null, .null]))] ++ va_pl LP (fun _ => freeE g)) := hD
  refine lv_istore (lv' := [(7, .int r_5), (6, .int 1), (5, .int 0), (4, .ref od), (3, .ref o), (2, .ref mm), (1, .ref x), (0, .ref b)]) hx hb dL_law_371 hl (by decide) rfl (fun ls hl => ?_)
  refine lv_aload_n hx hb dL_law_373 rfl (lv_at hl 5 rfl) ?_
  have hc_7 := hP.sub (ws' := [(mm, .inr (9, [.ref b0, .ref b1, .ref b2, .ref b3, .int 0, .null, .null, .ref b4, .null, .ref b5, .ref b6, .int 0, .int 0, .long 0, .int 1]))]) [10] rfl
  refine va_calli (va_runV (As := []) (rest := []) ⟨hx, hb, hml, hown, hts⟩ (c_thrown l z0 D g mm b0 b1 b2 b3 b4 b5 b6 1 0) (cwV 0 hts (lw_V m_1229 m_1230 m_1231 m_12 m_1232) rfl rfl rfl (by decide +kernel) ⟨(Nat.le_of_ble_eq_true rfl), (Nat.le_of_ble_eq_true rfl)⟩) ⟨PR.blind, va_recv hK hP (ci := 9) (q0 := 10) rfl rfl, PR.pre hE hS hAz hc_7⟩ rfl rfl hl.1 rfl (lv_room (Nat.le_of_ble_eq_true rfl)) dL_law_374 ⟨(Nat.le_of_ble_eq_true rfl), (Nat.le_of_ble_eq_true rfl)⟩) hS nA_B nA_A (fun r_8 u_9 t H locs ht hvm hw hB hz1 hk1 hS => ?_)
  have hP := hP.old hk1
  have hP : va_P D classes ([(x, .inr (0, [.ref a0, .ref a1, .ref a2, .ref a3, .ref a4, .ref a5, .ref a6, .int 0, .int 0, .int 0, .int 0, .int 0, .int 0, .int 0])), (a0, .inl (cP, 10, .inr (.inr (.inr (.inr G0))))), (a1, .inl (cM, 6, .inr (.inr (.inr (.inr G1))))), (a2, .inl (cW, 3, .inr (.inr (.inr (.inr G2))))), (a3, .inl (cE, 100, .inr (.inr (.inr (.inr F))))), (pp, .inr (1, [.int 0, .int 0, .int 0, .int 0, .int (-1), .int (-1)])), (pm, .inr (2, [.int 0, .int 0, .int (-1), .int 0, .int 0])), (pw, .inr (3, [.int 0, .int 0, .int 0, .int 0, .ref w1, .ref w2, .ref w3])), (o, .inl (cJ, 1, .inr (.inl (fun _ => 0)))), (od, .inl (cD, 1, .inr (.inr (.inr (.inl (fun _ => 0)))))), (mm, .inr (9, [.ref b0, .ref b1, .ref b2, .ref b3, .int 0, .null, .null, .ref b4, .null, .ref b5, .ref b6, .int 0, .int 0, .long 0, .int 1])), (b0, .inr (10, [.int 0, .ref (g 4), .int 0])), (b1, .inr (10, [.int 0, .ref (g 4), .int 0])), (b2, .inr (10, [.int 0, .ref (g 4), .int 0])), (b3, .inr (11, [.null, .null, .null, .null, .int 0, .int 0, .null, .null, .null]))] ++ va_pl LP (fun _ => freeE g)) H := hP
  subst hw
  refine lv_iload hx hb dL_law_377 (lv_at hl 1 rfl) ?_
  refine lv_icmp_eq (tgt := 384) hx hb dL_law_379 (by decide) (fun _ => ?_) (fun h9 => absurd (by decide) h9)
  refine lv_iload hx hb dL_law_384 (lv_at hl 1 rfl) ?_
  refine lv_if_ne (tgt := 401) hx hb dL_law_386 (by decide) (fun _ => ?_) (fun h9 => absurd h9 (by decide))
  refine lv_goto (tgt := 2156) hx hb dL_law_401 (by decide) ?_
  exact law_tail (by rfl) C0 hz (Nat.le_of_ble_eq_true rfl) (Nat.le_of_ble_eq_true rfl) hS (lv_sub hl [2, 7] rfl)

set_option maxHeartbeats 4000000 in
set_option maxRecDepth 100000 in
theorem case_3_b1 {p : Program} {l : Launch} {e : Env} {s : State} {m : MethodId} {below : List Frame} {meth : Method} {c : Code} {b L : Nat} {xs : Nat → Int32} {z0 : Nat} {D : va_G} {g : Nat → Nat} (hfl : l.stackTraces = false) (hL7 : L = 7) (C0 : lw_At p s m meth c b L xs) (hz : s.heap.size = z0) (hE : EV z0 D g s s.heap) (x a0 a1 a2 a3 a4 a5 a6 pp pm pw w1 w2 w3 mm b0 b1 b2 b3 b4 b5 b6 o od : Nat) (cP cM cW cE cJ cD : ClassId) (G0 G1 G2 F : Nat → Option Nat) (LP : List Nat) (hF0 : G0 0 = some pp) (hF1 : G1 0 = some pm) (hF2 : G2 0 = some pw) (hF3 : ∀ j : Nat, j < 100 → ∃ y : Nat, y ∈ LP ∧ F j = some y) (hK : va_K D classes [(cP, .object "Theatrehouse$Person"), (cM, .object "Theatrehouse$Machine"), (cW, .object "Theatrehouse$Work"), (cE, .object "Theatrehouse$Evening"), (cJ, .long), (cD, .double)] s) (h : (xs (Int32.toNatClampNeg 1)) < 0 ∨ ¬ (xs (Int32.toNatClampNeg 1)) ≤ 4) : ∀ (H : Heap) (locs : List Loc), va_P D classes ([(x, .inr (0, [.ref a0, .ref a1, .ref a2, .ref a3, .ref a4, .ref a5, .ref a6, .int 0, .int 0, .int 0, .int 0, .int 0, .int 0, .int 0])), (a0, .inl (cP, 10, .inr (.inr (.inr (.inr G0))))), (a1, .inl (cM, 6, .inr (.inr (.inr (.inr G1))))), (a2, .inl (cW, 3, .inr (.inr (.inr (.inr G2))))), (a3, .inl (cE, 100, .inr (.inr (.inr (.inr F))))), (pp, .inr (1, [.int 0, .int 0, .int 0, .int 0, .int (-1), .int (-1)])), (pm, .inr (2, [.int 0, .int 0, .int (-1), .int 0, .int 0])), (pw, .inr (3, [.int 0, .int 0, .int 0, .int 0, .ref w1, .ref w2, .ref w3])), (mm, .inr (9, [.ref b0, .ref b1, .ref b2, .ref b3, .int 0, .null, .null, .ref b4, .null, .ref b5, .ref b6, .int 0, .int 0, .long 0, .int 0])), (b0, .inr (10, [.int 0, .ref (g 4), .int 0])), (b1, .inr (10, [.int 0, .ref (g 4), .int 0])), (b2, .inr (10, [.int 0, .ref (g 4), .int 0])), (b3, .inr (11, [.null, .null, .null, .null, .int 0, .int 0, .null, .null, .null])), (o, .inl (cJ, 1, .inr (.inl (fun _ => 0)))), (od, .inl (cD, 1, .inr (.inr (.inr (.inl (fun _ => 0))))))] ++ va_pl LP (fun _ => freeE g)) H → va_D (lA z0) ([(x, .inr (0, [.ref a0, .ref a1, .ref a2, .ref a3, .ref a4, .ref a5, .ref a6, .int 0, .int 0, .int 0, .int 0, .int 0, .int 0, .int 0])), (a0, .inl (cP, 10, .inr (.inr (.inr (.inr G0))))), (a1, .inl (cM, 6, .inr (.inr (.inr (.inr G1))))), (a2, .inl (cW, 3, .inr (.inr (.inr (.inr G2))))), (a3, .inl (cE, 100, .inr (.inr (.inr (.inr F))))), (pp, .inr (1, [.int 0, .int 0, .int 0, .int 0, .int (-1), .int (-1)])), (pm, .inr (2, [.int 0, .int 0, .int (-1), .int 0, .int 0])), (pw, .inr (3, [.int 0, .int 0, .int 0, .int 0, .ref w1, .ref w2, .ref w3])), (mm, .inr (9, [.ref b0, .ref b1, .ref b2, .ref b3, .int 0, .null, .null, .ref b4, .null, .ref b5, .ref b6, .int 0, .int 0, .long 0, .int 0])), (b0, .inr (10, [.int 0, .ref (g 4), .int 0])), (b1, .inr (10, [.int 0, .ref (g 4), .int 0])), (b2, .inr (10, [.int 0, .ref (g 4), .int 0])), (b3, .inr (11, [.null, .null, .null, .null, .int 0, .int 0, .null, .null, .null])), (o, .inl (cJ, 1, .inr (.inl (fun _ => 0)))), (od, .inl (cD, 1, .inr (.inr (.inr (.inl (fun _ => 0))))))] ++ va_pl LP (fun _ => freeE g)) → va_S (lA z0) s.heap H locs → ∀ (ls : Array Slot), lv_has ls 9 [(5, .int 0), (4, .ref od), (3, .ref o), (2, .ref mm), (1, .ref x), (0, .ref b)] → W p l e room_1 s m #[Value.ref b] below meth c H locs 199 4528 (lw_Z below #[Value.ref b] s) (F0 m 404 ls []) := by
  subst hL7
  obtain ⟨hx, hb, hr, hml, hown, hts0, hX, hbl, hlocks, hgv⟩ := id C0
  have hown : s.vm.findClass "TheatrehouseLaw" = some m.cls := hown
  have hts : ∀ w ∈ lw_all, w.before #[Value.ref b] s = true := fun w h => hts0 w (List.mem_filter.mp h).1
  have hAz : ∀ q, lA z0 q → z0 ≤ q := fun _ h => h
  have hA : ∀ q : Nat, s.heap.size ≤ q → lA z0 q := fun q h => by show z0 ≤ q; rw [← hz]; exact h
  have hsz : z0 ≤ s.heap.size := Nat.le_of_eq hz.symm
  have hbA : ¬ lA z0 b := by show ¬ z0 ≤ b; rw [← hz]; exact Nat.not_le.mpr hbl
  intro H locs hP hD hS ls hl
  refine lv_aload_n hx hb dL_law_404 rfl (lv_at hl 4 rfl) ?_
  refine lv_aload_n hx hb dL_law_405 rfl (lv_at hl 5 rfl) ?_
  refine lv_iload hx hb dL_law_406 (lv_at hl 0 rfl) ?_
  refine lv_iconst (v := 1) hx hb dL_law_408 (by decide) ?_
  refine lv_iadd hx hb dL_law_409 ?_
  rw [show (0 + 1 : Int32) = 1 by decide]
  refine va_sld (i := 1) hx hb hX hbl hbA hS (by unfold vp_in; decide) dL_law_410 ?_
  refine lv_aload_n hx hb dL_law_411 rfl (lv_at hl 5 rfl) ?_
  refine lv_iload hx hb dL_law_412 (lv_at hl 0 rfl) ?_
  refine lv_iconst (v := 2) hx hb dL_law_414 (by decide) ?_
  refine lv_iadd hx hb dL_law_415 ?_
  rw [show (0 + 2 : Int32) = 2 by decide]
  refine va_sld (i := 2) hx hb hX hbl hbA hS (by unfold vp_in; decide) dL_law_416 ?_
  refine lv_aload_n hx hb dL_law_417 rfl (lv_at hl 2 rfl) ?_
  have hc_1 := hP.sub (ws' := [(x, .inr (0, [.ref a0, .ref a1, .ref a2, .ref a3, .ref a4, .ref a5, .ref a6, .int 0, .int 0, .int 0, .int 0, .int 0, .int 0, .int 0]))]) [0] rfl
  refine va_calli (vx_runSW (As := [.ref x, .int (xs (Int32.toNatClampNeg 1)), .int (xs (Int32.toNatClampNeg 2)), .ref o]) (rest := []) ⟨hx, hb, hml, hown, hts⟩ (met_of (c_L_addMachine_b1 l hfl z0 D g x a0 a1 a2 a3 a4 a5 a6 (xs (Int32.toNatClampNeg 1)) (xs (Int32.toNatClampNeg 2)) o h)) (vx_cwSW 4 hts (lw_SW m_719 m_720 m_0 m_721) rfl rfl rfl (by decide +kernel) ⟨(Nat.le_of_ble_eq_true rfl), (Nat.le_of_ble_eq_true rfl)⟩) ⟨PR.blind, PR.pre hE hS hAz hc_1⟩ rfl rfl hl.1 rfl (lv_room (Nat.le_of_ble_eq_true rfl)) dL_law_418 ⟨(Nat.le_of_ble_eq_true rfl), (Nat.le_of_ble_eq_true rfl)⟩) hS nA_B nA_A (fun r_2 u_3 t H locs ht hvm hw hB hz1 hk1 hS => ?_)
  have hP := hP.old hk1
  have hP : va_P D classes ([(x, .inr (0, [.ref a0, .ref a1, .ref a2, .ref a3, .ref a4, .ref a5, .ref a6, .int 0, .int 0, .int 0, .int 0, .int 0, .int 0, .int 0])), (a0, .inl (cP, 10, .inr (.inr (.inr (.inr G0))))), (a1, .inl (cM, 6, .inr (.inr (.inr (.inr G1))))), (a2, .inl (cW, 3, .inr (.inr (.inr (.inr G2))))), (a3, .inl (cE, 100, .inr (.inr (.inr (.inr F))))), (pp, .inr (1, [.int 0, .int 0, .int 0, .int 0, .int (-1), .int (-1)])), (pm, .inr (2, [.int 0, .int 0, .int (-1), .int 0, .int 0])), (pw, .inr (3, [.int 0, .int 0, .int 0, .int 0, .ref w1, .ref w2, .ref w3])), (mm, .inr (9, [.ref b0, .ref b1, .ref b2, .ref b3, .int 0, .null, .null, .ref b4, .null, .ref b5, .ref b6, .int 0, .int 0, .long 0, .int 0])), (b0, .inr (10, [.int 0, .ref (g 4), .int 0])), (b1, .inr (10, [.int 0, .ref (g 4), .int 0])), (b2, .inr (10, [.int 0, .ref (g 4), .int 0])), (b3, .inr (11, [.null, .null, .null, .null, .int 0, .int 0, .null, .null, .null])), (o, .inl (cJ, 1, .inr (.inl (fun _ => 0)))), (od, .inl (cD, 1, .inr (.inr (.inr (.inl (fun _ => 0))))))] ++ va_pl LP (fun _ => freeE g)) H := hP
  subst hw
  refine lv_istore (lv' := [(6, .int 1), (5, .int 0), (4, .ref od), (3, .ref o), (2, .ref mm), (1, .ref x), (0, .ref b)]) hx hb dL_law_421 hl (by decide) rfl (fun ls hl => ?_)
  refine lv_aload_n hx hb dL_law_423 rfl (lv_at hl 4 rfl) ?_
  refine lv_aload_n hx hb dL_law_424 rfl (lv_at hl 6 rfl) ?_
  refine lv_iload hx hb dL_law_425 (lv_at hl 1 rfl) ?_
  refine lv_iconst (v := 1) hx hb dL_law_427 (by decide) ?_
  refine lv_iadd hx hb dL_law_428 ?_
  rw [show (0 + 1 : Int32) = 1 by decide]
  refine va_sld (i := 1) hx hb hX hbl hbA hS (by unfold vp_in; decide) dL_law_429 ?_
  refine lv_aload_n hx hb dL_law_430 rfl (lv_at hl 6 rfl) ?_
  refine lv_iload hx hb dL_law_431 (lv_at hl 1 rfl) ?_
  refine lv_iconst (v := 2) hx hb dL_law_433 (by decide) ?_
  refine lv_iadd hx hb dL_law_434 ?_
  rw [show (0 + 2 : Int32) = 2 by decide]
  refine va_sld (i := 2) hx hb hX hbl hbA hS (by unfold vp_in; decide) dL_law_435 ?_
  have hc_4 := hP.sub (ws' := [(mm, .inr (9, [.ref b0, .ref b1, .ref b2, .ref b3, .int 0, .null, .null, .ref b4, .null, .ref b5, .ref b6, .int 0, .int 0, .long 0, .int 0])), (b0, .inr (10, [.int 0, .ref (g 4), .int 0])), (b1, .inr (10, [.int 0, .ref (g 4), .int 0])), (b2, .inr (10, [.int 0, .ref (g 4), .int 0])), (b3, .inr (11, [.null, .null, .null, .null, .int 0, .int 0, .null, .null, .null]))]) [8, 9, 10, 11, 12] rfl
  have hc_4D := hD.sub (ws' := [(mm, .inr (9, [.ref b0, .ref b1, .ref b2, .ref b3, .int 0, .null, .null, .ref b4, .null, .ref b5, .ref b6, .int 0, .int 0, .long 0, .int 0])), (b0, .inr (10, [.int 0, .ref (g 4), .int 0])), (b1, .inr (10, [.int 0, .ref (g 4), .int 0])), (b2, .inr (10, [.int 0, .ref (g 4), .int 0])), (b3, .inr (11, [.null, .null, .null, .null, .int 0, .int 0, .null, .null, .null]))]) [8, 9, 10, 11, 12] (by decide) rfl
  have hc_4F := va_free (wc := [(mm, .inr (9, [.ref b0, .ref b1, .ref b2, .ref b3, .int 0, .null, .null, .ref b4, .null, .ref b5, .ref b6, .int 0, .int 0, .long 0, .int 0])), (b0, .inr (10, [.int 0, .ref (g 4), .int 0])), (b1, .inr (10, [.int 0, .ref (g 4), .int 0])), (b2, .inr (10, [.int 0, .ref (g 4), .int 0])), (b3, .inr (11, [.null, .null, .null, .null, .int 0, .int 0, .null, .null, .null]))]) hD hS hA [8, 9, 10, 11, 12] rfl
  refine va_calli (va_runV (As := [.int (xs (Int32.toNatClampNeg 1)), .int (xs (Int32.toNatClampNeg 2))]) (rest := []) ⟨hx, hb, hml, hown, hts⟩ (c_X18_addMachine_b1 l z0 D g _ mm b0 b1 b2 b3 b4 b5 b6 (xs (Int32.toNatClampNeg 1)) (xs (Int32.toNatClampNeg 2)) h) (cwV 2 hts (lw_V m_1398 m_1399 m_1400 m_12 m_1401) rfl rfl rfl (by decide +kernel) ⟨(Nat.le_of_ble_eq_true rfl), (Nat.le_of_ble_eq_true rfl)⟩) ⟨PM.blind, va_recv hK hP (ci := 9) (q0 := 8) rfl rfl, PM.pre hE hS hAz hsz hc_4 hc_4D⟩ rfl rfl hl.1 rfl (lv_room (Nat.le_of_ble_eq_true rfl)) dL_law_436 ⟨(Nat.le_of_ble_eq_true rfl), (Nat.le_of_ble_eq_true rfl)⟩) hS (fun q _ h => hc_4F q h) hc_4F (fun r_5 u_6 t H locs ht hvm hw hB hz1 hk1 hS => ?_)
  obtain ⟨hP1, hD1⟩ := hB
  rw [ht] at hP1
  obtain ⟨hP, hD⟩ := va_joinQ (X := [(x, .inr (0, [.ref a0, .ref a1, .ref a2, .ref a3, .ref a4, .ref a5, .ref a6, .int 0, .int 0, .int 0, .int 0, .int 0, .int 0, .int 0])), (a0, .inl (cP, 10, .inr (.inr (.inr (.inr G0))))), (a1, .inl (cM, 6, .inr (.inr (.inr (.inr G1))))), (a2, .inl (cW, 3, .inr (.inr (.inr (.inr G2))))), (a3, .inl (cE, 100, .inr (.inr (.inr (.inr F))))), (pp, .inr (1, [.int 0, .int 0, .int 0, .int 0, .int (-1), .int (-1)])), (pm, .inr (2, [.int 0, .int 0, .int (-1), .int 0, .int 0])), (pw, .inr (3, [.int 0, .int 0, .int 0, .int 0, .ref w1, .ref w2, .ref w3])), (mm, .inr (9, [.ref b0, .ref b1, .ref b2, .ref b3, .int 0, .null, .null, .ref b4, .null, .ref b5, .ref b6, .int 0, .int 0, .long 0, .int 0])), (b0, .inr (10, [.int 0, .ref (g 4), .int 0])), (b1, .inr (10, [.int 0, .ref (g 4), .int 0])), (b2, .inr (10, [.int 0, .ref (g 4), .int 0])), (b3, .inr (11, [.null, .null, .null, .null, .int 0, .int 0, .null, .null, .null])), (o, .inl (cJ, 1, .inr (.inl (fun _ => 0)))), (od, .inl (cD, 1, .inr (.inr (.inr (.inl (fun _ => 0))))))]) (wr := [(x, .inr (0, [.ref a0, .ref a1, .ref a2, .ref a3, .ref a4, .ref a5, .ref a6, .int 0, .int 0, .int 0, .int 0, .int 0, .int 0, .int 0])), (a0, .inl (cP, 10, .inr (.inr (.inr (.inr G0))))), (a1, .inl (cM, 6, .inr (.inr (.inr (.inr G1))))), (a2, .inl (cW, 3, .inr (.inr (.inr (.inr G2))))), (a3, .inl (cE, 100, .inr (.inr (.inr (.inr F))))), (pp, .inr (1, [.int 0, .int 0, .int 0, .int 0, .int (-1), .int (-1)])), (pm, .inr (2, [.int 0, .int 0, .int (-1), .int 0, .int 0])), (pw, .inr (3, [.int 0, .int 0, .int 0, .int 0, .ref w1, .ref w2, .ref w3])), (o, .inl (cJ, 1, .inr (.inl (fun _ => 0)))), (od, .inl (cD, 1, .inr (.inr (.inr (.inl (fun _ => 0))))))]) (w1 := [(mm, .inr (9, [.ref b0, .ref b1, .ref b2, .ref b3, .int 0, .null, .null, .ref b4, .null, .ref b5, .ref b6, .int 0, .int 0, .long 0, .int 1]))]) hP hD [8, 9, 10, 11, 12] [0, 1, 2, 3, 4, 5, 6, 7, 13, 14] rfl rfl (by decide) (by decide) hk1 hc_4F hP1 hD1
  have hP : va_P D classes ([(x, .inr (0, [.ref a0, .ref a1, .ref a2, .ref a3, .ref a4, .ref a5, .ref a6, .int 0, .int 0, .int 0, .int 0, .int 0, .int 0, .int 0])), (a0, .inl (cP, 10, .inr (.inr (.inr (.inr G0))))), (a1, .inl (cM, 6, .inr (.inr (.inr (.inr G1))))), (a2, .inl (cW, 3, .inr (.inr (.inr (.inr G2))))), (a3, .inl (cE, 100, .inr (.inr (.inr (.inr F))))), (pp, .inr (1, [.int 0, .int 0, .int 0, .int 0, .int (-1), .int (-1)])), (pm, .inr (2, [.int 0, .int 0, .int (-1), .int 0, .int 0])), (pw, .inr (3, [.int 0, .int 0, .int 0, .int 0, .ref w1, .ref w2, .ref w3])), (o, .inl (cJ, 1, .inr (.inl (fun _ => 0)))), (od, .inl (cD, 1, .inr (.inr (.inr (.inl (fun _ => 0)))))), (mm, .inr (9, [.ref b0, .ref b1, .ref b2, .ref b3, .int 0, .null, .null, .ref b4, .null, .ref b5, .ref b6, .int 0, .int 0, .long 0, .int 1]))] ++ va_pl LP (fun _ => freeE g)) H := hP
  have hD : va_D (lA z0) ([(x, .inr (0, [.ref a0, .ref a1, .ref a2, .ref a3, .ref a4, .ref a5, .ref a6, .int 0, .int 0, .int 0, .int 0, .int 0, .int 0, .int 0])), (a0, .inl (cP, 10, .inr (.inr (.inr (.inr G0))))), (a1, .inl (cM, 6, .inr (.inr (.inr (.inr G1))))), (a2, .inl (cW, 3, .inr (.inr (.inr (.inr G2))))), (a3, .inl (cE, 100, .inr (.inr (.inr (.inr F))))), (pp, .inr (1, [.int 0, .int 0, .int 0, .int 0, .int (-1), .int (-1)])), (pm, .inr (2, [.int 0, .int 0, .int (-1), .int 0, .int 0])), (pw, .inr (3, [.int 0, .int 0, .int 0, .int 0, .ref w1, .ref w2, .ref w3])), (o, .inl (cJ, 1, .inr (.inl (fun _ => 0)))), (od, .inl (cD, 1, .inr (.inr (.inr (.inl (fun _ => 0)))))), (mm, .inr (9, [.ref b0, .ref b1, .ref b2, .ref b3, .int 0, .null, .null, .ref b4, .null, .ref b5, .ref b6, .int 0, .int 0, .long 0, .int 1]))] ++ va_pl LP (fun _ => freeE g)) := hD
  refine lv_istore (lv' := [(7, .int r_5), (6, .int 1), (5, .int 0), (4, .ref od), (3, .ref o), (2, .ref mm), (1, .ref x), (0, .ref b)]) hx hb dL_law_439 hl (by decide) rfl (fun ls hl => ?_)
  refine lv_aload_n hx hb dL_law_441 rfl (lv_at hl 5 rfl) ?_
  have hc_7 := hP.sub (ws' := [(mm, .inr (9, [.ref b0, .ref b1, .ref b2, .ref b3, .int 0, .null, .null, .ref b4, .null, .ref b5, .ref b6, .int 0, .int 0, .long 0, .int 1]))]) [10] rfl
  refine va_calli (va_runV (As := []) (rest := []) ⟨hx, hb, hml, hown, hts⟩ (c_thrown l z0 D g mm b0 b1 b2 b3 b4 b5 b6 1 0) (cwV 0 hts (lw_V m_1229 m_1230 m_1231 m_12 m_1232) rfl rfl rfl (by decide +kernel) ⟨(Nat.le_of_ble_eq_true rfl), (Nat.le_of_ble_eq_true rfl)⟩) ⟨PR.blind, va_recv hK hP (ci := 9) (q0 := 10) rfl rfl, PR.pre hE hS hAz hc_7⟩ rfl rfl hl.1 rfl (lv_room (Nat.le_of_ble_eq_true rfl)) dL_law_442 ⟨(Nat.le_of_ble_eq_true rfl), (Nat.le_of_ble_eq_true rfl)⟩) hS nA_B nA_A (fun r_8 u_9 t H locs ht hvm hw hB hz1 hk1 hS => ?_)
  have hP := hP.old hk1
  have hP : va_P D classes ([(x, .inr (0, [.ref a0, .ref a1, .ref a2, .ref a3, .ref a4, .ref a5, .ref a6, .int 0, .int 0, .int 0, .int 0, .int 0, .int 0, .int 0])), (a0, .inl (cP, 10, .inr (.inr (.inr (.inr G0))))), (a1, .inl (cM, 6, .inr (.inr (.inr (.inr G1))))), (a2, .inl (cW, 3, .inr (.inr (.inr (.inr G2))))), (a3, .inl (cE, 100, .inr (.inr (.inr (.inr F))))), (pp, .inr (1, [.int 0, .int 0, .int 0, .int 0, .int (-1), .int (-1)])), (pm, .inr (2, [.int 0, .int 0, .int (-1), .int 0, .int 0])), (pw, .inr (3, [.int 0, .int 0, .int 0, .int 0, .ref w1, .ref w2, .ref w3])), (o, .inl (cJ, 1, .inr (.inl (fun _ => 0)))), (od, .inl (cD, 1, .inr (.inr (.inr (.inl (fun _ => 0)))))), (mm, .inr (9, [.ref b0, .ref b1, .ref b2, .ref b3, .int 0, .null, .null, .ref b4, .null, .ref b5, .ref b6, .int 0, .int 0, .long 0, .int 1]))] ++ va_pl LP (fun _ => freeE g)) H := hP
  subst hw
  refine lv_iload hx hb dL_law_445 (lv_at hl 1 rfl) ?_
  refine lv_icmp_eq (tgt := 452) hx hb dL_law_447 (by decide) (fun _ => ?_) (fun h9 => absurd (by decide) h9)
  refine lv_iload hx hb dL_law_452 (lv_at hl 1 rfl) ?_
  refine lv_if_ne (tgt := 469) hx hb dL_law_454 (by decide) (fun _ => ?_) (fun h9 => absurd h9 (by decide))
  refine lv_goto (tgt := 2156) hx hb dL_law_469 (by decide) ?_
  exact law_tail (by rfl) C0 hz (Nat.le_of_ble_eq_true rfl) (Nat.le_of_ble_eq_true rfl) hS (lv_sub hl [2, 7] rfl)

set_option maxHeartbeats 4000000 in
set_option maxRecDepth 100000 in
theorem case_3_b2 {p : Program} {l : Launch} {e : Env} {s : State} {m : MethodId} {below : List Frame} {meth : Method} {c : Code} {b L : Nat} {xs : Nat → Int32} {z0 : Nat} {D : va_G} {g : Nat → Nat} (hfl : l.stackTraces = false) (hL7 : L = 7) (C0 : lw_At p s m meth c b L xs) (hz : s.heap.size = z0) (hE : EV z0 D g s s.heap) (x a0 a1 a2 a3 a4 a5 a6 pp pm pw w1 w2 w3 mm b0 b1 b2 b3 b4 b5 b6 o od : Nat) (cP cM cW cE cJ cD : ClassId) (G0 G1 G2 F : Nat → Option Nat) (LP : List Nat) (hF0 : G0 0 = some pp) (hF1 : G1 0 = some pm) (hF2 : G2 0 = some pw) (hF3 : ∀ j : Nat, j < 100 → ∃ y : Nat, y ∈ LP ∧ F j = some y) (hK : va_K D classes [(cP, .object "Theatrehouse$Person"), (cM, .object "Theatrehouse$Machine"), (cW, .object "Theatrehouse$Work"), (cE, .object "Theatrehouse$Evening"), (cJ, .long), (cD, .double)] s) (h1 : ¬ (xs (Int32.toNatClampNeg 1)) < 0) (h2 : (xs (Int32.toNatClampNeg 1)) ≤ 4) (h : (xs (Int32.toNatClampNeg 2)) < 0 ∨ ¬ (xs (Int32.toNatClampNeg 2)) ≤ 9) : ∀ (H : Heap) (locs : List Loc), va_P D classes ([(x, .inr (0, [.ref a0, .ref a1, .ref a2, .ref a3, .ref a4, .ref a5, .ref a6, .int 0, .int 0, .int 0, .int 0, .int 0, .int 0, .int 0])), (a0, .inl (cP, 10, .inr (.inr (.inr (.inr G0))))), (a1, .inl (cM, 6, .inr (.inr (.inr (.inr G1))))), (a2, .inl (cW, 3, .inr (.inr (.inr (.inr G2))))), (a3, .inl (cE, 100, .inr (.inr (.inr (.inr F))))), (pp, .inr (1, [.int 0, .int 0, .int 0, .int 0, .int (-1), .int (-1)])), (pm, .inr (2, [.int 0, .int 0, .int (-1), .int 0, .int 0])), (pw, .inr (3, [.int 0, .int 0, .int 0, .int 0, .ref w1, .ref w2, .ref w3])), (mm, .inr (9, [.ref b0, .ref b1, .ref b2, .ref b3, .int 0, .null, .null, .ref b4, .null, .ref b5, .ref b6, .int 0, .int 0, .long 0, .int 0])), (b0, .inr (10, [.int 0, .ref (g 4), .int 0])), (b1, .inr (10, [.int 0, .ref (g 4), .int 0])), (b2, .inr (10, [.int 0, .ref (g 4), .int 0])), (b3, .inr (11, [.null, .null, .null, .null, .int 0, .int 0, .null, .null, .null])), (o, .inl (cJ, 1, .inr (.inl (fun _ => 0)))), (od, .inl (cD, 1, .inr (.inr (.inr (.inl (fun _ => 0))))))] ++ va_pl LP (fun _ => freeE g)) H → va_D (lA z0) ([(x, .inr (0, [.ref a0, .ref a1, .ref a2, .ref a3, .ref a4, .ref a5, .ref a6, .int 0, .int 0, .int 0, .int 0, .int 0, .int 0, .int 0])), (a0, .inl (cP, 10, .inr (.inr (.inr (.inr G0))))), (a1, .inl (cM, 6, .inr (.inr (.inr (.inr G1))))), (a2, .inl (cW, 3, .inr (.inr (.inr (.inr G2))))), (a3, .inl (cE, 100, .inr (.inr (.inr (.inr F))))), (pp, .inr (1, [.int 0, .int 0, .int 0, .int 0, .int (-1), .int (-1)])), (pm, .inr (2, [.int 0, .int 0, .int (-1), .int 0, .int 0])), (pw, .inr (3, [.int 0, .int 0, .int 0, .int 0, .ref w1, .ref w2, .ref w3])), (mm, .inr (9, [.ref b0, .ref b1, .ref b2, .ref b3, .int 0, .null, .null, .ref b4, .null, .ref b5, .ref b6, .int 0, .int 0, .long 0, .int 0])), (b0, .inr (10, [.int 0, .ref (g 4), .int 0])), (b1, .inr (10, [.int 0, .ref (g 4), .int 0])), (b2, .inr (10, [.int 0, .ref (g 4), .int 0])), (b3, .inr (11, [.null, .null, .null, .null, .int 0, .int 0, .null, .null, .null])), (o, .inl (cJ, 1, .inr (.inl (fun _ => 0)))), (od, .inl (cD, 1, .inr (.inr (.inr (.inl (fun _ => 0))))))] ++ va_pl LP (fun _ => freeE g)) → va_S (lA z0) s.heap H locs → ∀ (ls : Array Slot), lv_has ls 9 [(5, .int 0), (4, .ref od), (3, .ref o), (2, .ref mm), (1, .ref x), (0, .ref b)] → W p l e room_1 s m #[Value.ref b] below meth c H locs 199 4528 (lw_Z below #[Value.ref b] s) (F0 m 404 ls []) := by
  subst hL7
  obtain ⟨hx, hb, hr, hml, hown, hts0, hX, hbl, hlocks, hgv⟩ := id C0
  have hown : s.vm.findClass "TheatrehouseLaw" = some m.cls := hown
  have hts : ∀ w ∈ lw_all, w.before #[Value.ref b] s = true := fun w h => hts0 w (List.mem_filter.mp h).1
  have hAz : ∀ q, lA z0 q → z0 ≤ q := fun _ h => h
  have hA : ∀ q : Nat, s.heap.size ≤ q → lA z0 q := fun q h => by show z0 ≤ q; rw [← hz]; exact h
  have hsz : z0 ≤ s.heap.size := Nat.le_of_eq hz.symm
  have hbA : ¬ lA z0 b := by show ¬ z0 ≤ b; rw [← hz]; exact Nat.not_le.mpr hbl
  intro H locs hP hD hS ls hl
  refine lv_aload_n hx hb dL_law_404 rfl (lv_at hl 4 rfl) ?_
  refine lv_aload_n hx hb dL_law_405 rfl (lv_at hl 5 rfl) ?_
  refine lv_iload hx hb dL_law_406 (lv_at hl 0 rfl) ?_
  refine lv_iconst (v := 1) hx hb dL_law_408 (by decide) ?_
  refine lv_iadd hx hb dL_law_409 ?_
  rw [show (0 + 1 : Int32) = 1 by decide]
  refine va_sld (i := 1) hx hb hX hbl hbA hS (by unfold vp_in; decide) dL_law_410 ?_
  refine lv_aload_n hx hb dL_law_411 rfl (lv_at hl 5 rfl) ?_
  refine lv_iload hx hb dL_law_412 (lv_at hl 0 rfl) ?_
  refine lv_iconst (v := 2) hx hb dL_law_414 (by decide) ?_
  refine lv_iadd hx hb dL_law_415 ?_
  rw [show (0 + 2 : Int32) = 2 by decide]
  refine va_sld (i := 2) hx hb hX hbl hbA hS (by unfold vp_in; decide) dL_law_416 ?_
  refine lv_aload_n hx hb dL_law_417 rfl (lv_at hl 2 rfl) ?_
  have hc_1 := hP.sub (ws' := [(x, .inr (0, [.ref a0, .ref a1, .ref a2, .ref a3, .ref a4, .ref a5, .ref a6, .int 0, .int 0, .int 0, .int 0, .int 0, .int 0, .int 0]))]) [0] rfl
  refine va_calli (vx_runSW (As := [.ref x, .int (xs (Int32.toNatClampNeg 1)), .int (xs (Int32.toNatClampNeg 2)), .ref o]) (rest := []) ⟨hx, hb, hml, hown, hts⟩ (met_of (c_L_addMachine_b2 l hfl z0 D g x a0 a1 a2 a3 a4 a5 a6 (xs (Int32.toNatClampNeg 1)) (xs (Int32.toNatClampNeg 2)) o h1 h2 h)) (vx_cwSW 4 hts (lw_SW m_719 m_720 m_0 m_721) rfl rfl rfl (by decide +kernel) ⟨(Nat.le_of_ble_eq_true rfl), (Nat.le_of_ble_eq_true rfl)⟩) ⟨PR.blind, PR.pre hE hS hAz hc_1⟩ rfl rfl hl.1 rfl (lv_room (Nat.le_of_ble_eq_true rfl)) dL_law_418 ⟨(Nat.le_of_ble_eq_true rfl), (Nat.le_of_ble_eq_true rfl)⟩) hS nA_B nA_A (fun r_2 u_3 t H locs ht hvm hw hB hz1 hk1 hS => ?_)
  have hP := hP.old hk1
  have hP : va_P D classes ([(x, .inr (0, [.ref a0, .ref a1, .ref a2, .ref a3, .ref a4, .ref a5, .ref a6, .int 0, .int 0, .int 0, .int 0, .int 0, .int 0, .int 0])), (a0, .inl (cP, 10, .inr (.inr (.inr (.inr G0))))), (a1, .inl (cM, 6, .inr (.inr (.inr (.inr G1))))), (a2, .inl (cW, 3, .inr (.inr (.inr (.inr G2))))), (a3, .inl (cE, 100, .inr (.inr (.inr (.inr F))))), (pp, .inr (1, [.int 0, .int 0, .int 0, .int 0, .int (-1), .int (-1)])), (pm, .inr (2, [.int 0, .int 0, .int (-1), .int 0, .int 0])), (pw, .inr (3, [.int 0, .int 0, .int 0, .int 0, .ref w1, .ref w2, .ref w3])), (mm, .inr (9, [.ref b0, .ref b1, .ref b2, .ref b3, .int 0, .null, .null, .ref b4, .null, .ref b5, .ref b6, .int 0, .int 0, .long 0, .int 0])), (b0, .inr (10, [.int 0, .ref (g 4), .int 0])), (b1, .inr (10, [.int 0, .ref (g 4), .int 0])), (b2, .inr (10, [.int 0, .ref (g 4), .int 0])), (b3, .inr (11, [.null, .null, .null, .null, .int 0, .int 0, .null, .null, .null])), (o, .inl (cJ, 1, .inr (.inl (fun _ => 0)))), (od, .inl (cD, 1, .inr (.inr (.inr (.inl (fun _ => 0))))))] ++ va_pl LP (fun _ => freeE g)) H := hP
  subst hw
  refine lv_istore (lv' := [(6, .int 1), (5, .int 0), (4, .ref od), (3, .ref o), (2, .ref mm), (1, .ref x), (0, .ref b)]) hx hb dL_law_421 hl (by decide) rfl (fun ls hl => ?_)
  refine lv_aload_n hx hb dL_law_423 rfl (lv_at hl 4 rfl) ?_
  refine lv_aload_n hx hb dL_law_424 rfl (lv_at hl 6 rfl) ?_
  refine lv_iload hx hb dL_law_425 (lv_at hl 1 rfl) ?_
  refine lv_iconst (v := 1) hx hb dL_law_427 (by decide) ?_
  refine lv_iadd hx hb dL_law_428 ?_
  rw [show (0 + 1 : Int32) = 1 by decide]
  refine va_sld (i := 1) hx hb hX hbl hbA hS (by unfold vp_in; decide) dL_law_429 ?_
  refine lv_aload_n hx hb dL_law_430 rfl (lv_at hl 6 rfl) ?_
  refine lv_iload hx hb dL_law_431 (lv_at hl 1 rfl) ?_
  refine lv_iconst (v := 2) hx hb dL_law_433 (by decide) ?_
  refine lv_iadd hx hb dL_law_434 ?_
  rw [show (0 + 2 : Int32) = 2 by decide]
  refine va_sld (i := 2) hx hb hX hbl hbA hS (by unfold vp_in; decide) dL_law_435 ?_
  have hc_4 := hP.sub (ws' := [(mm, .inr (9, [.ref b0, .ref b1, .ref b2, .ref b3, .int 0, .null, .null, .ref b4, .null, .ref b5, .ref b6, .int 0, .int 0, .long 0, .int 0])), (b0, .inr (10, [.int 0, .ref (g 4), .int 0])), (b1, .inr (10, [.int 0, .ref (g 4), .int 0])), (b2, .inr (10, [.int 0, .ref (g 4), .int 0])), (b3, .inr (11, [.null, .null, .null, .null, .int 0, .int 0, .null, .null, .null]))]) [8, 9, 10, 11, 12] rfl
  have hc_4D := hD.sub (ws' := [(mm, .inr (9, [.ref b0, .ref b1, .ref b2, .ref b3, .int 0, .null, .null, .ref b4, .null, .ref b5, .ref b6, .int 0, .int 0, .long 0, .int 0])), (b0, .inr (10, [.int 0, .ref (g 4), .int 0])), (b1, .inr (10, [.int 0, .ref (g 4), .int 0])), (b2, .inr (10, [.int 0, .ref (g 4), .int 0])), (b3, .inr (11, [.null, .null, .null, .null, .int 0, .int 0, .null, .null, .null]))]) [8, 9, 10, 11, 12] (by decide) rfl
  have hc_4F := va_free (wc := [(mm, .inr (9, [.ref b0, .ref b1, .ref b2, .ref b3, .int 0, .null, .null, .ref b4, .null, .ref b5, .ref b6, .int 0, .int 0, .long 0, .int 0])), (b0, .inr (10, [.int 0, .ref (g 4), .int 0])), (b1, .inr (10, [.int 0, .ref (g 4), .int 0])), (b2, .inr (10, [.int 0, .ref (g 4), .int 0])), (b3, .inr (11, [.null, .null, .null, .null, .int 0, .int 0, .null, .null, .null]))]) hD hS hA [8, 9, 10, 11, 12] rfl
  refine va_calli (va_runV (As := [.int (xs (Int32.toNatClampNeg 1)), .int (xs (Int32.toNatClampNeg 2))]) (rest := []) ⟨hx, hb, hml, hown, hts⟩ (c_X18_addMachine_b2 l z0 D g _ mm b0 b1 b2 b3 b4 b5 b6 (xs (Int32.toNatClampNeg 1)) (xs (Int32.toNatClampNeg 2)) h1 h2 h) (cwV 2 hts (lw_V m_1398 m_1399 m_1400 m_12 m_1401) rfl rfl rfl (by decide +kernel) ⟨(Nat.le_of_ble_eq_true rfl), (Nat.le_of_ble_eq_true rfl)⟩) ⟨PM.blind, va_recv hK hP (ci := 9) (q0 := 8) rfl rfl, PM.pre hE hS hAz hsz hc_4 hc_4D⟩ rfl rfl hl.1 rfl (lv_room (Nat.le_of_ble_eq_true rfl)) dL_law_436 ⟨(Nat.le_of_ble_eq_true rfl), (Nat.le_of_ble_eq_true rfl)⟩) hS (fun q _ h => hc_4F q h) hc_4F (fun r_5 u_6 t H locs ht hvm hw hB hz1 hk1 hS => ?_)
  obtain ⟨hP1, hD1⟩ := hB
  rw [ht] at hP1
  obtain ⟨hP, hD⟩ := va_joinQ (X := [(x, .inr (0, [.ref a0, .ref a1, .ref a2, .ref a3, .ref a4, .ref a5, .ref a6, .int 0, .int 0, .int 0, .int 0, .int 0, .int 0, .int 0])), (a0, .inl (cP, 10, .inr (.inr (.inr (.inr G0))))), (a1, .inl (cM, 6, .inr (.inr (.inr (.inr G1))))), (a2, .inl (cW, 3, .inr (.inr (.inr (.inr G2))))), (a3, .inl (cE, 100, .inr (.inr (.inr (.inr F))))), (pp, .inr (1, [.int 0, .int 0, .int 0, .int 0, .int (-1), .int (-1)])), (pm, .inr (2, [.int 0, .int 0, .int (-1), .int 0, .int 0])), (pw, .inr (3, [.int 0, .int 0, .int 0, .int 0, .ref w1, .ref w2, .ref w3])), (mm, .inr (9, [.ref b0, .ref b1, .ref b2, .ref b3, .int 0, .null, .null, .ref b4, .null, .ref b5, .ref b6, .int 0, .int 0, .long 0, .int 0])), (b0, .inr (10, [.int 0, .ref (g 4), .int 0])), (b1, .inr (10, [.int 0, .ref (g 4), .int 0])), (b2, .inr (10, [.int 0, .ref (g 4), .int 0])), (b3, .inr (11, [.null, .null, .null, .null, .int 0, .int 0, .null, .null, .null])), (o, .inl (cJ, 1, .inr (.inl (fun _ => 0)))), (od, .inl (cD, 1, .inr (.inr (.inr (.inl (fun _ => 0))))))]) (wr := [(x, .inr (0, [.ref a0, .ref a1, .ref a2, .ref a3, .ref a4, .ref a5, .ref a6, .int 0, .int 0, .int 0, .int 0, .int 0, .int 0, .int 0])), (a0, .inl (cP, 10, .inr (.inr (.inr (.inr G0))))), (a1, .inl (cM, 6, .inr (.inr (.inr (.inr G1))))), (a2, .inl (cW, 3, .inr (.inr (.inr (.inr G2))))), (a3, .inl (cE, 100, .inr (.inr (.inr (.inr F))))), (pp, .inr (1, [.int 0, .int 0, .int 0, .int 0, .int (-1), .int (-1)])), (pm, .inr (2, [.int 0, .int 0, .int (-1), .int 0, .int 0])), (pw, .inr (3, [.int 0, .int 0, .int 0, .int 0, .ref w1, .ref w2, .ref w3])), (o, .inl (cJ, 1, .inr (.inl (fun _ => 0)))), (od, .inl (cD, 1, .inr (.inr (.inr (.inl (fun _ => 0))))))]) (w1 := [(mm, .inr (9, [.ref b0, .ref b1, .ref b2, .ref b3, .int 0, .null, .null, .ref b4, .null, .ref b5, .ref b6, .int 0, .int 0, .long 0, .int 1]))]) hP hD [8, 9, 10, 11, 12] [0, 1, 2, 3, 4, 5, 6, 7, 13, 14] rfl rfl (by decide) (by decide) hk1 hc_4F hP1 hD1
  have hP : va_P D classes ([(x, .inr (0, [.ref a0, .ref a1, .ref a2, .ref a3, .ref a4, .ref a5, .ref a6, .int 0, .int 0, .int 0, .int 0, .int 0, .int 0, .int 0])), (a0, .inl (cP, 10, .inr (.inr (.inr (.inr G0))))), (a1, .inl (cM, 6, .inr (.inr (.inr (.inr G1))))), (a2, .inl (cW, 3, .inr (.inr (.inr (.inr G2))))), (a3, .inl (cE, 100, .inr (.inr (.inr (.inr F))))), (pp, .inr (1, [.int 0, .int 0, .int 0, .int 0, .int (-1), .int (-1)])), (pm, .inr (2, [.int 0, .int 0, .int (-1), .int 0, .int 0])), (pw, .inr (3, [.int 0, .int 0, .int 0, .int 0, .ref w1, .ref w2, .ref w3])), (o, .inl (cJ, 1, .inr (.inl (fun _ => 0)))), (od, .inl (cD, 1, .inr (.inr (.inr (.inl (fun _ => 0)))))), (mm, .inr (9, [.ref b0, .ref b1, .ref b2, .ref b3, .int 0, .null, .null, .ref b4, .null, .ref b5, .ref b6, .int 0, .int 0, .long 0, .int 1]))] ++ va_pl LP (fun _ => freeE g)) H := hP
  have hD : va_D (lA z0) ([(x, .inr (0, [.ref a0, .ref a1, .ref a2, .ref a3, .ref a4, .ref a5, .ref a6, .int 0, .int 0, .int 0, .int 0, .int 0, .int 0, .int 0])), (a0, .inl (cP, 10, .inr (.inr (.inr (.inr G0))))), (a1, .inl (cM, 6, .inr (.inr (.inr (.inr G1))))), (a2, .inl (cW, 3, .inr (.inr (.inr (.inr G2))))), (a3, .inl (cE, 100, .inr (.inr (.inr (.inr F))))), (pp, .inr (1, [.int 0, .int 0, .int 0, .int 0, .int (-1), .int (-1)])), (pm, .inr (2, [.int 0, .int 0, .int (-1), .int 0, .int 0])), (pw, .inr (3, [.int 0, .int 0, .int 0, .int 0, .ref w1, .ref w2, .ref w3])), (o, .inl (cJ, 1, .inr (.inl (fun _ => 0)))), (od, .inl (cD, 1, .inr (.inr (.inr (.inl (fun _ => 0)))))), (mm, .inr (9, [.ref b0, .ref b1, .ref b2, .ref b3, .int 0, .null, .null, .ref b4, .null, .ref b5, .ref b6, .int 0, .int 0, .long 0, .int 1]))] ++ va_pl LP (fun _ => freeE g)) := hD
  refine lv_istore (lv' := [(7, .int r_5), (6, .int 1), (5, .int 0), (4, .ref od), (3, .ref o), (2, .ref mm), (1, .ref x), (0, .ref b)]) hx hb dL_law_439 hl (by decide) rfl (fun ls hl => ?_)
  refine lv_aload_n hx hb dL_law_441 rfl (lv_at hl 5 rfl) ?_
  have hc_7 := hP.sub (ws' := [(mm, .inr (9, [.ref b0, .ref b1, .ref b2, .ref b3, .int 0, .null, .null, .ref b4, .null, .ref b5, .ref b6, .int 0, .int 0, .long 0, .int 1]))]) [10] rfl
  refine va_calli (va_runV (As := []) (rest := []) ⟨hx, hb, hml, hown, hts⟩ (c_thrown l z0 D g mm b0 b1 b2 b3 b4 b5 b6 1 0) (cwV 0 hts (lw_V m_1229 m_1230 m_1231 m_12 m_1232) rfl rfl rfl (by decide +kernel) ⟨(Nat.le_of_ble_eq_true rfl), (Nat.le_of_ble_eq_true rfl)⟩) ⟨PR.blind, va_recv hK hP (ci := 9) (q0 := 10) rfl rfl, PR.pre hE hS hAz hc_7⟩ rfl rfl hl.1 rfl (lv_room (Nat.le_of_ble_eq_true rfl)) dL_law_442 ⟨(Nat.le_of_ble_eq_true rfl), (Nat.le_of_ble_eq_true rfl)⟩) hS nA_B nA_A (fun r_8 u_9 t H locs ht hvm hw hB hz1 hk1 hS => ?_)
  have hP := hP.old hk1
  have hP : va_P D classes ([(x, .inr (0, [.ref a0, .ref a1, .ref a2, .ref a3, .ref a4, .ref a5, .ref a6, .int 0, .int 0, .int 0, .int 0, .int 0, .int 0, .int 0])), (a0, .inl (cP, 10, .inr (.inr (.inr (.inr G0))))), (a1, .inl (cM, 6, .inr (.inr (.inr (.inr G1))))), (a2, .inl (cW, 3, .inr (.inr (.inr (.inr G2))))), (a3, .inl (cE, 100, .inr (.inr (.inr (.inr F))))), (pp, .inr (1, [.int 0, .int 0, .int 0, .int 0, .int (-1), .int (-1)])), (pm, .inr (2, [.int 0, .int 0, .int (-1), .int 0, .int 0])), (pw, .inr (3, [.int 0, .int 0, .int 0, .int 0, .ref w1, .ref w2, .ref w3])), (o, .inl (cJ, 1, .inr (.inl (fun _ => 0)))), (od, .inl (cD, 1, .inr (.inr (.inr (.inl (fun _ => 0)))))), (mm, .inr (9, [.ref b0, .ref b1, .ref b2, .ref b3, .int 0, .null, .null, .ref b4, .null, .ref b5, .ref b6, .int 0, .int 0, .long 0, .int 1]))] ++ va_pl LP (fun _ => freeE g)) H := hP
  subst hw
  refine lv_iload hx hb dL_law_445 (lv_at hl 1 rfl) ?_
  refine lv_icmp_eq (tgt := 452) hx hb dL_law_447 (by decide) (fun _ => ?_) (fun h9 => absurd (by decide) h9)
  refine lv_iload hx hb dL_law_452 (lv_at hl 1 rfl) ?_
  refine lv_if_ne (tgt := 469) hx hb dL_law_454 (by decide) (fun _ => ?_) (fun h9 => absurd h9 (by decide))
  refine lv_goto (tgt := 2156) hx hb dL_law_469 (by decide) ?_
  exact law_tail (by rfl) C0 hz (Nat.le_of_ble_eq_true rfl) (Nat.le_of_ble_eq_true rfl) hS (lv_sub hl [2, 7] rfl)

set_option maxHeartbeats 4000000 in
set_option maxRecDepth 100000 in
theorem case_3_ok {p : Program} {l : Launch} {e : Env} {s : State} {m : MethodId} {below : List Frame} {meth : Method} {c : Code} {b L : Nat} {xs : Nat → Int32} {z0 : Nat} {D : va_G} {g : Nat → Nat} (hfl : l.stackTraces = false) (hL7 : L = 7) (C0 : lw_At p s m meth c b L xs) (hz : s.heap.size = z0) (hE : EV z0 D g s s.heap) (x a0 a1 a2 a3 a4 a5 a6 pp pm pw w1 w2 w3 mm b0 b1 b2 b3 b4 b5 b6 o od : Nat) (cP cM cW cE cJ cD : ClassId) (G0 G1 G2 F : Nat → Option Nat) (LP : List Nat) (hF0 : G0 0 = some pp) (hF1 : G1 0 = some pm) (hF2 : G2 0 = some pw) (hF3 : ∀ j : Nat, j < 100 → ∃ y : Nat, y ∈ LP ∧ F j = some y) (hK : va_K D classes [(cP, .object "Theatrehouse$Person"), (cM, .object "Theatrehouse$Machine"), (cW, .object "Theatrehouse$Work"), (cE, .object "Theatrehouse$Evening"), (cJ, .long), (cD, .double)] s) (h1 : ¬ (xs (Int32.toNatClampNeg 1)) < 0) (h2 : (xs (Int32.toNatClampNeg 1)) ≤ 4) (h3 : ¬ (xs (Int32.toNatClampNeg 2)) < 0) (h4 : (xs (Int32.toNatClampNeg 2)) ≤ 9) : ∀ (H : Heap) (locs : List Loc), va_P D classes ([(x, .inr (0, [.ref a0, .ref a1, .ref a2, .ref a3, .ref a4, .ref a5, .ref a6, .int 0, .int 0, .int 0, .int 0, .int 0, .int 0, .int 0])), (a0, .inl (cP, 10, .inr (.inr (.inr (.inr G0))))), (a1, .inl (cM, 6, .inr (.inr (.inr (.inr G1))))), (a2, .inl (cW, 3, .inr (.inr (.inr (.inr G2))))), (a3, .inl (cE, 100, .inr (.inr (.inr (.inr F))))), (pp, .inr (1, [.int 0, .int 0, .int 0, .int 0, .int (-1), .int (-1)])), (pm, .inr (2, [.int 0, .int 0, .int (-1), .int 0, .int 0])), (pw, .inr (3, [.int 0, .int 0, .int 0, .int 0, .ref w1, .ref w2, .ref w3])), (mm, .inr (9, [.ref b0, .ref b1, .ref b2, .ref b3, .int 0, .null, .null, .ref b4, .null, .ref b5, .ref b6, .int 0, .int 0, .long 0, .int 0])), (b0, .inr (10, [.int 0, .ref (g 4), .int 0])), (b1, .inr (10, [.int 0, .ref (g 4), .int 0])), (b2, .inr (10, [.int 0, .ref (g 4), .int 0])), (b3, .inr (11, [.null, .null, .null, .null, .int 0, .int 0, .null, .null, .null])), (o, .inl (cJ, 1, .inr (.inl (fun _ => 0)))), (od, .inl (cD, 1, .inr (.inr (.inr (.inl (fun _ => 0))))))] ++ va_pl LP (fun _ => freeE g)) H → va_D (lA z0) ([(x, .inr (0, [.ref a0, .ref a1, .ref a2, .ref a3, .ref a4, .ref a5, .ref a6, .int 0, .int 0, .int 0, .int 0, .int 0, .int 0, .int 0])), (a0, .inl (cP, 10, .inr (.inr (.inr (.inr G0))))), (a1, .inl (cM, 6, .inr (.inr (.inr (.inr G1))))), (a2, .inl (cW, 3, .inr (.inr (.inr (.inr G2))))), (a3, .inl (cE, 100, .inr (.inr (.inr (.inr F))))), (pp, .inr (1, [.int 0, .int 0, .int 0, .int 0, .int (-1), .int (-1)])), (pm, .inr (2, [.int 0, .int 0, .int (-1), .int 0, .int 0])), (pw, .inr (3, [.int 0, .int 0, .int 0, .int 0, .ref w1, .ref w2, .ref w3])), (mm, .inr (9, [.ref b0, .ref b1, .ref b2, .ref b3, .int 0, .null, .null, .ref b4, .null, .ref b5, .ref b6, .int 0, .int 0, .long 0, .int 0])), (b0, .inr (10, [.int 0, .ref (g 4), .int 0])), (b1, .inr (10, [.int 0, .ref (g 4), .int 0])), (b2, .inr (10, [.int 0, .ref (g 4), .int 0])), (b3, .inr (11, [.null, .null, .null, .null, .int 0, .int 0, .null, .null, .null])), (o, .inl (cJ, 1, .inr (.inl (fun _ => 0)))), (od, .inl (cD, 1, .inr (.inr (.inr (.inl (fun _ => 0))))))] ++ va_pl LP (fun _ => freeE g)) → va_S (lA z0) s.heap H locs → ∀ (ls : Array Slot), lv_has ls 9 [(5, .int 0), (4, .ref od), (3, .ref o), (2, .ref mm), (1, .ref x), (0, .ref b)] → W p l e room_1 s m #[Value.ref b] below meth c H locs 199 4528 (lw_Z below #[Value.ref b] s) (F0 m 404 ls []) := by
  subst hL7
  obtain ⟨hx, hb, hr, hml, hown, hts0, hX, hbl, hlocks, hgv⟩ := id C0
  have hown : s.vm.findClass "TheatrehouseLaw" = some m.cls := hown
  have hts : ∀ w ∈ lw_all, w.before #[Value.ref b] s = true := fun w h => hts0 w (List.mem_filter.mp h).1
  have hAz : ∀ q, lA z0 q → z0 ≤ q := fun _ h => h
  have hA : ∀ q : Nat, s.heap.size ≤ q → lA z0 q := fun q h => by show z0 ≤ q; rw [← hz]; exact h
  have hsz : z0 ≤ s.heap.size := Nat.le_of_eq hz.symm
  have hbA : ¬ lA z0 b := by show ¬ z0 ≤ b; rw [← hz]; exact Nat.not_le.mpr hbl
  intro H locs hP hD hS ls hl
  refine lv_aload_n hx hb dL_law_404 rfl (lv_at hl 4 rfl) ?_
  refine lv_aload_n hx hb dL_law_405 rfl (lv_at hl 5 rfl) ?_
  refine lv_iload hx hb dL_law_406 (lv_at hl 0 rfl) ?_
  refine lv_iconst (v := 1) hx hb dL_law_408 (by decide) ?_
  refine lv_iadd hx hb dL_law_409 ?_
  rw [show (0 + 1 : Int32) = 1 by decide]
  refine va_sld (i := 1) hx hb hX hbl hbA hS (by unfold vp_in; decide) dL_law_410 ?_
  refine lv_aload_n hx hb dL_law_411 rfl (lv_at hl 5 rfl) ?_
  refine lv_iload hx hb dL_law_412 (lv_at hl 0 rfl) ?_
  refine lv_iconst (v := 2) hx hb dL_law_414 (by decide) ?_
  refine lv_iadd hx hb dL_law_415 ?_
  rw [show (0 + 2 : Int32) = 2 by decide]
  refine va_sld (i := 2) hx hb hX hbl hbA hS (by unfold vp_in; decide) dL_law_416 ?_
  refine lv_aload_n hx hb dL_law_417 rfl (lv_at hl 2 rfl) ?_
  have hc_1 := hP.sub (ws' := [(x, .inr (0, [.ref a0, .ref a1, .ref a2, .ref a3, .ref a4, .ref a5, .ref a6, .int 0, .int 0, .int 0, .int 0, .int 0, .int 0, .int 0])), (a1, .inl (cM, 6, .inr (.inr (.inr (.inr G1))))), (pm, .inr (2, [.int 0, .int 0, .int (-1), .int 0, .int 0])), (o, .inl (cJ, 1, .inr (.inl (fun _ => 0))))]) [0, 2, 6, 13] rfl
  have hc_1D := hD.sub (ws' := [(x, .inr (0, [.ref a0, .ref a1, .ref a2, .ref a3, .ref a4, .ref a5, .ref a6, .int 0, .int 0, .int 0, .int 0, .int 0, .int 0, .int 0])), (a1, .inl (cM, 6, .inr (.inr (.inr (.inr G1))))), (pm, .inr (2, [.int 0, .int 0, .int (-1), .int 0, .int 0])), (o, .inl (cJ, 1, .inr (.inl (fun _ => 0))))]) [0, 2, 6, 13] (by decide) rfl
  have hc_1F := va_free (wc := [(x, .inr (0, [.ref a0, .ref a1, .ref a2, .ref a3, .ref a4, .ref a5, .ref a6, .int 0, .int 0, .int 0, .int 0, .int 0, .int 0, .int 0])), (a1, .inl (cM, 6, .inr (.inr (.inr (.inr G1))))), (pm, .inr (2, [.int 0, .int 0, .int (-1), .int 0, .int 0])), (o, .inl (cJ, 1, .inr (.inl (fun _ => 0))))]) hD hS hA [0, 2, 6, 13] rfl
  refine va_calli (vx_runSW (As := [.ref x, .int (xs (Int32.toNatClampNeg 1)), .int (xs (Int32.toNatClampNeg 2)), .ref o]) (rest := []) ⟨hx, hb, hml, hown, hts⟩ (met_of (c_L_addMachine_ok l hfl z0 D g _ x a0 a1 a2 a3 a4 a5 a6 cM G1 pm cJ (fun _ => 0) (xs (Int32.toNatClampNeg 1)) (xs (Int32.toNatClampNeg 2)) o hF1 h1 h2 h3 h4)) (vx_cwSW 4 hts (lw_SW m_719 m_720 m_0 m_721) rfl rfl rfl (by decide +kernel) ⟨(Nat.le_of_ble_eq_true rfl), (Nat.le_of_ble_eq_true rfl)⟩) ⟨PMT.blind, PMT.pre hE hS hAz hsz hc_1 hc_1D (hK.sub [1, 4] rfl) trivial⟩ rfl rfl hl.1 rfl (lv_room (Nat.le_of_ble_eq_true rfl)) dL_law_418 ⟨(Nat.le_of_ble_eq_true rfl), (Nat.le_of_ble_eq_true rfl)⟩) hS (fun q _ h => hc_1F q h) hc_1F (fun r_2 u_3 t H locs ht hvm hw hB hz1 hk1 hS => ?_)
  obtain ⟨hP1, hD1⟩ := hB
  rw [ht] at hP1
  obtain ⟨hP, hD⟩ := va_joinQ (X := [(x, .inr (0, [.ref a0, .ref a1, .ref a2, .ref a3, .ref a4, .ref a5, .ref a6, .int 0, .int 0, .int 0, .int 0, .int 0, .int 0, .int 0])), (a0, .inl (cP, 10, .inr (.inr (.inr (.inr G0))))), (a1, .inl (cM, 6, .inr (.inr (.inr (.inr G1))))), (a2, .inl (cW, 3, .inr (.inr (.inr (.inr G2))))), (a3, .inl (cE, 100, .inr (.inr (.inr (.inr F))))), (pp, .inr (1, [.int 0, .int 0, .int 0, .int 0, .int (-1), .int (-1)])), (pm, .inr (2, [.int 0, .int 0, .int (-1), .int 0, .int 0])), (pw, .inr (3, [.int 0, .int 0, .int 0, .int 0, .ref w1, .ref w2, .ref w3])), (mm, .inr (9, [.ref b0, .ref b1, .ref b2, .ref b3, .int 0, .null, .null, .ref b4, .null, .ref b5, .ref b6, .int 0, .int 0, .long 0, .int 0])), (b0, .inr (10, [.int 0, .ref (g 4), .int 0])), (b1, .inr (10, [.int 0, .ref (g 4), .int 0])), (b2, .inr (10, [.int 0, .ref (g 4), .int 0])), (b3, .inr (11, [.null, .null, .null, .null, .int 0, .int 0, .null, .null, .null])), (o, .inl (cJ, 1, .inr (.inl (fun _ => 0)))), (od, .inl (cD, 1, .inr (.inr (.inr (.inl (fun _ => 0))))))]) (wr := [(a0, .inl (cP, 10, .inr (.inr (.inr (.inr G0))))), (a2, .inl (cW, 3, .inr (.inr (.inr (.inr G2))))), (a3, .inl (cE, 100, .inr (.inr (.inr (.inr F))))), (pp, .inr (1, [.int 0, .int 0, .int 0, .int 0, .int (-1), .int (-1)])), (pw, .inr (3, [.int 0, .int 0, .int 0, .int 0, .ref w1, .ref w2, .ref w3])), (mm, .inr (9, [.ref b0, .ref b1, .ref b2, .ref b3, .int 0, .null, .null, .ref b4, .null, .ref b5, .ref b6, .int 0, .int 0, .long 0, .int 0])), (b0, .inr (10, [.int 0, .ref (g 4), .int 0])), (b1, .inr (10, [.int 0, .ref (g 4), .int 0])), (b2, .inr (10, [.int 0, .ref (g 4), .int 0])), (b3, .inr (11, [.null, .null, .null, .null, .int 0, .int 0, .null, .null, .null])), (od, .inl (cD, 1, .inr (.inr (.inr (.inl (fun _ => 0))))))]) (w1 := [(o, .inl (cJ, 1, .inr (.inl (vp_updL (fun _ => 0) (Int32.toNatClampNeg 0) (0)))))]) hP hD [0, 2, 6, 13] [1, 3, 4, 5, 7, 8, 9, 10, 11, 12, 14] rfl rfl (by decide) (by decide) hk1 hc_1F hP1 hD1
  have hP : va_P D classes ([(a0, .inl (cP, 10, .inr (.inr (.inr (.inr G0))))), (a2, .inl (cW, 3, .inr (.inr (.inr (.inr G2))))), (a3, .inl (cE, 100, .inr (.inr (.inr (.inr F))))), (pp, .inr (1, [.int 0, .int 0, .int 0, .int 0, .int (-1), .int (-1)])), (pw, .inr (3, [.int 0, .int 0, .int 0, .int 0, .ref w1, .ref w2, .ref w3])), (mm, .inr (9, [.ref b0, .ref b1, .ref b2, .ref b3, .int 0, .null, .null, .ref b4, .null, .ref b5, .ref b6, .int 0, .int 0, .long 0, .int 0])), (b0, .inr (10, [.int 0, .ref (g 4), .int 0])), (b1, .inr (10, [.int 0, .ref (g 4), .int 0])), (b2, .inr (10, [.int 0, .ref (g 4), .int 0])), (b3, .inr (11, [.null, .null, .null, .null, .int 0, .int 0, .null, .null, .null])), (od, .inl (cD, 1, .inr (.inr (.inr (.inl (fun _ => 0)))))), (o, .inl (cJ, 1, .inr (.inl (vp_updL (fun _ => 0) (Int32.toNatClampNeg 0) (0)))))] ++ va_pl LP (fun _ => freeE g)) H := hP
  have hD : va_D (lA z0) ([(a0, .inl (cP, 10, .inr (.inr (.inr (.inr G0))))), (a2, .inl (cW, 3, .inr (.inr (.inr (.inr G2))))), (a3, .inl (cE, 100, .inr (.inr (.inr (.inr F))))), (pp, .inr (1, [.int 0, .int 0, .int 0, .int 0, .int (-1), .int (-1)])), (pw, .inr (3, [.int 0, .int 0, .int 0, .int 0, .ref w1, .ref w2, .ref w3])), (mm, .inr (9, [.ref b0, .ref b1, .ref b2, .ref b3, .int 0, .null, .null, .ref b4, .null, .ref b5, .ref b6, .int 0, .int 0, .long 0, .int 0])), (b0, .inr (10, [.int 0, .ref (g 4), .int 0])), (b1, .inr (10, [.int 0, .ref (g 4), .int 0])), (b2, .inr (10, [.int 0, .ref (g 4), .int 0])), (b3, .inr (11, [.null, .null, .null, .null, .int 0, .int 0, .null, .null, .null])), (od, .inl (cD, 1, .inr (.inr (.inr (.inl (fun _ => 0)))))), (o, .inl (cJ, 1, .inr (.inl (vp_updL (fun _ => 0) (Int32.toNatClampNeg 0) (0)))))] ++ va_pl LP (fun _ => freeE g)) := hD
  subst hw
  refine lv_istore (lv' := [(6, .int 0), (5, .int 0), (4, .ref od), (3, .ref o), (2, .ref mm), (1, .ref x), (0, .ref b)]) hx hb dL_law_421 hl (by decide) rfl (fun ls hl => ?_)
  refine lv_aload_n hx hb dL_law_423 rfl (lv_at hl 4 rfl) ?_
  refine lv_aload_n hx hb dL_law_424 rfl (lv_at hl 6 rfl) ?_
  refine lv_iload hx hb dL_law_425 (lv_at hl 1 rfl) ?_
  refine lv_iconst (v := 1) hx hb dL_law_427 (by decide) ?_
  refine lv_iadd hx hb dL_law_428 ?_
  rw [show (0 + 1 : Int32) = 1 by decide]
  refine va_sld (i := 1) hx hb hX hbl hbA hS (by unfold vp_in; decide) dL_law_429 ?_
  refine lv_aload_n hx hb dL_law_430 rfl (lv_at hl 6 rfl) ?_
  refine lv_iload hx hb dL_law_431 (lv_at hl 1 rfl) ?_
  refine lv_iconst (v := 2) hx hb dL_law_433 (by decide) ?_
  refine lv_iadd hx hb dL_law_434 ?_
  rw [show (0 + 2 : Int32) = 2 by decide]
  refine va_sld (i := 2) hx hb hX hbl hbA hS (by unfold vp_in; decide) dL_law_435 ?_
  have hc_4 := hP.sub (ws' := [(mm, .inr (9, [.ref b0, .ref b1, .ref b2, .ref b3, .int 0, .null, .null, .ref b4, .null, .ref b5, .ref b6, .int 0, .int 0, .long 0, .int 0])), (b0, .inr (10, [.int 0, .ref (g 4), .int 0])), (b1, .inr (10, [.int 0, .ref (g 4), .int 0])), (b2, .inr (10, [.int 0, .ref (g 4), .int 0])), (b3, .inr (11, [.null, .null, .null, .null, .int 0, .int 0, .null, .null, .null]))]) [5, 6, 7, 8, 9] rfl
  have hc_4D := hD.sub (ws' := [(mm, .inr (9, [.ref b0, .ref b1, .ref b2, .ref b3, .int 0, .null, .null, .ref b4, .null, .ref b5, .ref b6, .int 0, .int 0, .long 0, .int 0])), (b0, .inr (10, [.int 0, .ref (g 4), .int 0])), (b1, .inr (10, [.int 0, .ref (g 4), .int 0])), (b2, .inr (10, [.int 0, .ref (g 4), .int 0])), (b3, .inr (11, [.null, .null, .null, .null, .int 0, .int 0, .null, .null, .null]))]) [5, 6, 7, 8, 9] (by decide) rfl
  have hc_4F := va_free (wc := [(mm, .inr (9, [.ref b0, .ref b1, .ref b2, .ref b3, .int 0, .null, .null, .ref b4, .null, .ref b5, .ref b6, .int 0, .int 0, .long 0, .int 0])), (b0, .inr (10, [.int 0, .ref (g 4), .int 0])), (b1, .inr (10, [.int 0, .ref (g 4), .int 0])), (b2, .inr (10, [.int 0, .ref (g 4), .int 0])), (b3, .inr (11, [.null, .null, .null, .null, .int 0, .int 0, .null, .null, .null]))]) hD hS hA [5, 6, 7, 8, 9] rfl
  refine va_calli (va_runV (As := [.int (xs (Int32.toNatClampNeg 1)), .int (xs (Int32.toNatClampNeg 2))]) (rest := []) ⟨hx, hb, hml, hown, hts⟩ (c_X18_addMachine_ok l z0 D g _ mm b0 b1 b2 b3 b4 b5 b6 (xs (Int32.toNatClampNeg 1)) (xs (Int32.toNatClampNeg 2)) h1 h2 h3 h4) (cwV 2 hts (lw_V m_1398 m_1399 m_1400 m_12 m_1401) rfl rfl rfl (by decide +kernel) ⟨(Nat.le_of_ble_eq_true rfl), (Nat.le_of_ble_eq_true rfl)⟩) ⟨PM.blind, va_recv hK hP (ci := 9) (q0 := 5) rfl rfl, PM.pre hE hS hAz hsz hc_4 hc_4D⟩ rfl rfl hl.1 rfl (lv_room (Nat.le_of_ble_eq_true rfl)) dL_law_436 ⟨(Nat.le_of_ble_eq_true rfl), (Nat.le_of_ble_eq_true rfl)⟩) hS (fun q _ h => hc_4F q h) hc_4F (fun r_5 u_6 t H locs ht hvm hw hB hz1 hk1 hS => ?_)
  obtain ⟨hP1, hD1⟩ := hB
  rw [ht] at hP1
  obtain ⟨hP, hD⟩ := va_joinQ (X := [(a0, .inl (cP, 10, .inr (.inr (.inr (.inr G0))))), (a2, .inl (cW, 3, .inr (.inr (.inr (.inr G2))))), (a3, .inl (cE, 100, .inr (.inr (.inr (.inr F))))), (pp, .inr (1, [.int 0, .int 0, .int 0, .int 0, .int (-1), .int (-1)])), (pw, .inr (3, [.int 0, .int 0, .int 0, .int 0, .ref w1, .ref w2, .ref w3])), (mm, .inr (9, [.ref b0, .ref b1, .ref b2, .ref b3, .int 0, .null, .null, .ref b4, .null, .ref b5, .ref b6, .int 0, .int 0, .long 0, .int 0])), (b0, .inr (10, [.int 0, .ref (g 4), .int 0])), (b1, .inr (10, [.int 0, .ref (g 4), .int 0])), (b2, .inr (10, [.int 0, .ref (g 4), .int 0])), (b3, .inr (11, [.null, .null, .null, .null, .int 0, .int 0, .null, .null, .null])), (od, .inl (cD, 1, .inr (.inr (.inr (.inl (fun _ => 0)))))), (o, .inl (cJ, 1, .inr (.inl (vp_updL (fun _ => 0) (Int32.toNatClampNeg 0) (0)))))]) (wr := [(a0, .inl (cP, 10, .inr (.inr (.inr (.inr G0))))), (a2, .inl (cW, 3, .inr (.inr (.inr (.inr G2))))), (a3, .inl (cE, 100, .inr (.inr (.inr (.inr F))))), (pp, .inr (1, [.int 0, .int 0, .int 0, .int 0, .int (-1), .int (-1)])), (pw, .inr (3, [.int 0, .int 0, .int 0, .int 0, .ref w1, .ref w2, .ref w3])), (od, .inl (cD, 1, .inr (.inr (.inr (.inl (fun _ => 0)))))), (o, .inl (cJ, 1, .inr (.inl (vp_updL (fun _ => 0) (Int32.toNatClampNeg 0) (0)))))]) (w1 := [(mm, .inr (9, [.ref b0, .ref b1, .ref b2, .ref b3, .int 0, .null, .null, .ref b4, .null, .ref b5, .ref b6, .int 0, .int 0, .long 0, .int 0]))]) hP hD [5, 6, 7, 8, 9] [0, 1, 2, 3, 4, 10, 11] rfl rfl (by decide) (by decide) hk1 hc_4F hP1 hD1
  have hP : va_P D classes ([(a0, .inl (cP, 10, .inr (.inr (.inr (.inr G0))))), (a2, .inl (cW, 3, .inr (.inr (.inr (.inr G2))))), (a3, .inl (cE, 100, .inr (.inr (.inr (.inr F))))), (pp, .inr (1, [.int 0, .int 0, .int 0, .int 0, .int (-1), .int (-1)])), (pw, .inr (3, [.int 0, .int 0, .int 0, .int 0, .ref w1, .ref w2, .ref w3])), (od, .inl (cD, 1, .inr (.inr (.inr (.inl (fun _ => 0)))))), (o, .inl (cJ, 1, .inr (.inl (vp_updL (fun _ => 0) (Int32.toNatClampNeg 0) (0))))), (mm, .inr (9, [.ref b0, .ref b1, .ref b2, .ref b3, .int 0, .null, .null, .ref b4, .null, .ref b5, .ref b6, .int 0, .int 0, .long 0, .int 0]))] ++ va_pl LP (fun _ => freeE g)) H := hP
  have hD : va_D (lA z0) ([(a0, .inl (cP, 10, .inr (.inr (.inr (.inr G0))))), (a2, .inl (cW, 3, .inr (.inr (.inr (.inr G2))))), (a3, .inl (cE, 100, .inr (.inr (.inr (.inr F))))), (pp, .inr (1, [.int 0, .int 0, .int 0, .int 0, .int (-1), .int (-1)])), (pw, .inr (3, [.int 0, .int 0, .int 0, .int 0, .ref w1, .ref w2, .ref w3])), (od, .inl (cD, 1, .inr (.inr (.inr (.inl (fun _ => 0)))))), (o, .inl (cJ, 1, .inr (.inl (vp_updL (fun _ => 0) (Int32.toNatClampNeg 0) (0))))), (mm, .inr (9, [.ref b0, .ref b1, .ref b2, .ref b3, .int 0, .null, .null, .ref b4, .null, .ref b5, .ref b6, .int 0, .int 0, .long 0, .int 0]))] ++ va_pl LP (fun _ => freeE g)) := hD
  subst hw
  refine lv_istore (lv' := [(7, .int 0), (6, .int 0), (5, .int 0), (4, .ref od), (3, .ref o), (2, .ref mm), (1, .ref x), (0, .ref b)]) hx hb dL_law_439 hl (by decide) rfl (fun ls hl => ?_)
  refine lv_aload_n hx hb dL_law_441 rfl (lv_at hl 5 rfl) ?_
  have hc_7 := hP.sub (ws' := [(mm, .inr (9, [.ref b0, .ref b1, .ref b2, .ref b3, .int 0, .null, .null, .ref b4, .null, .ref b5, .ref b6, .int 0, .int 0, .long 0, .int 0]))]) [7] rfl
  refine va_calli (va_runV (As := []) (rest := []) ⟨hx, hb, hml, hown, hts⟩ (c_thrown l z0 D g mm b0 b1 b2 b3 b4 b5 b6 0 0) (cwV 0 hts (lw_V m_1229 m_1230 m_1231 m_12 m_1232) rfl rfl rfl (by decide +kernel) ⟨(Nat.le_of_ble_eq_true rfl), (Nat.le_of_ble_eq_true rfl)⟩) ⟨PR.blind, va_recv hK hP (ci := 9) (q0 := 7) rfl rfl, PR.pre hE hS hAz hc_7⟩ rfl rfl hl.1 rfl (lv_room (Nat.le_of_ble_eq_true rfl)) dL_law_442 ⟨(Nat.le_of_ble_eq_true rfl), (Nat.le_of_ble_eq_true rfl)⟩) hS nA_B nA_A (fun r_8 u_9 t H locs ht hvm hw hB hz1 hk1 hS => ?_)
  have hP := hP.old hk1
  have hP : va_P D classes ([(a0, .inl (cP, 10, .inr (.inr (.inr (.inr G0))))), (a2, .inl (cW, 3, .inr (.inr (.inr (.inr G2))))), (a3, .inl (cE, 100, .inr (.inr (.inr (.inr F))))), (pp, .inr (1, [.int 0, .int 0, .int 0, .int 0, .int (-1), .int (-1)])), (pw, .inr (3, [.int 0, .int 0, .int 0, .int 0, .ref w1, .ref w2, .ref w3])), (od, .inl (cD, 1, .inr (.inr (.inr (.inl (fun _ => 0)))))), (o, .inl (cJ, 1, .inr (.inl (vp_updL (fun _ => 0) (Int32.toNatClampNeg 0) (0))))), (mm, .inr (9, [.ref b0, .ref b1, .ref b2, .ref b3, .int 0, .null, .null, .ref b4, .null, .ref b5, .ref b6, .int 0, .int 0, .long 0, .int 0]))] ++ va_pl LP (fun _ => freeE g)) H := hP
  subst hw
  refine lv_iload hx hb dL_law_445 (lv_at hl 1 rfl) ?_
  refine lv_icmp_eq (tgt := 452) hx hb dL_law_447 (by decide) (fun _ => ?_) (fun h9 => absurd (by decide) h9)
  refine lv_iload hx hb dL_law_452 (lv_at hl 1 rfl) ?_
  refine lv_if_ne (tgt := 469) hx hb dL_law_454 (by decide) (fun h9 => absurd (by decide) h9) (fun _ => ?_)
  refine lv_aload_n hx hb dL_law_457 rfl (lv_at hl 4 rfl) ?_
  refine lv_iconst (v := 0) hx hb dL_law_458 (by decide) ?_
  refine va_lald (i := 0) hx hb hK hP 6 4 rfl rfl (by unfold vp_in; decide) dL_law_459 ?_
  rw [show (vp_updL (fun _ => 0) (Int32.toNatClampNeg 0) (0)) (Int32.toNatClampNeg 0) = (0) by simp [vp_updL]]
  refine lv_iload hx hb dL_law_460 (lv_at hl 0 rfl) ?_
  refine lv_i2l (v := (0)) hx hb dL_law_462 (by decide) ?_
  refine W.lcmp hx hb dL_law_463 ?_
  refine lv_if_eq (tgt := 469) hx hb dL_law_464 (by decide) (fun _ => ?_) (fun h9 => absurd ((lg_cmp_eq _ _).mpr rfl) h9)
  refine lv_goto (tgt := 2156) hx hb dL_law_469 (by decide) ?_
  exact law_tail (by rfl) C0 hz (Nat.le_of_ble_eq_true rfl) (Nat.le_of_ble_eq_true rfl) hS (lv_sub hl [2, 7] rfl)

set_option maxHeartbeats 4000000 in
set_option maxRecDepth 100000 in
theorem case_4 {p : Program} {l : Launch} {e : Env} {s : State} {m : MethodId} {below : List Frame} {meth : Method} {c : Code} {b L : Nat} {xs : Nat → Int32} {z0 : Nat} {D : va_G} {g : Nat → Nat} (hfl : l.stackTraces = false) (hL7 : L = 7) (C0 : lw_At p s m meth c b L xs) (hz : s.heap.size = z0) (hE : EV z0 D g s s.heap) (x a0 a1 a2 a3 a4 a5 a6 pp pm pw w1 w2 w3 mm b0 b1 b2 b3 b4 b5 b6 o od : Nat) (cP cM cW cE cJ cD : ClassId) (G0 G1 G2 F : Nat → Option Nat) (LP : List Nat) (hF0 : G0 0 = some pp) (hF1 : G1 0 = some pm) (hF2 : G2 0 = some pw) (hF3 : ∀ j : Nat, j < 100 → ∃ y : Nat, y ∈ LP ∧ F j = some y) (hK : va_K D classes [(cP, .object "Theatrehouse$Person"), (cM, .object "Theatrehouse$Machine"), (cW, .object "Theatrehouse$Work"), (cE, .object "Theatrehouse$Evening"), (cJ, .long), (cD, .double)] s)  : ∀ (H : Heap) (locs : List Loc), va_P D classes ([(x, .inr (0, [.ref a0, .ref a1, .ref a2, .ref a3, .ref a4, .ref a5, .ref a6, .int 0, .int 0, .int 0, .int 0, .int 0, .int 0, .int 0])), (a0, .inl (cP, 10, .inr (.inr (.inr (.inr G0))))), (a1, .inl (cM, 6, .inr (.inr (.inr (.inr G1))))), (a2, .inl (cW, 3, .inr (.inr (.inr (.inr G2))))), (a3, .inl (cE, 100, .inr (.inr (.inr (.inr F))))), (pp, .inr (1, [.int 0, .int 0, .int 0, .int 0, .int (-1), .int (-1)])), (pm, .inr (2, [.int 0, .int 0, .int (-1), .int 0, .int 0])), (pw, .inr (3, [.int 0, .int 0, .int 0, .int 0, .ref w1, .ref w2, .ref w3])), (mm, .inr (9, [.ref b0, .ref b1, .ref b2, .ref b3, .int 0, .null, .null, .ref b4, .null, .ref b5, .ref b6, .int 0, .int 0, .long 0, .int 0])), (b0, .inr (10, [.int 0, .ref (g 4), .int 0])), (b1, .inr (10, [.int 0, .ref (g 4), .int 0])), (b2, .inr (10, [.int 0, .ref (g 4), .int 0])), (b3, .inr (11, [.null, .null, .null, .null, .int 0, .int 0, .null, .null, .null])), (o, .inl (cJ, 1, .inr (.inl (fun _ => 0)))), (od, .inl (cD, 1, .inr (.inr (.inr (.inl (fun _ => 0))))))] ++ va_pl LP (fun _ => freeE g)) H → va_D (lA z0) ([(x, .inr (0, [.ref a0, .ref a1, .ref a2, .ref a3, .ref a4, .ref a5, .ref a6, .int 0, .int 0, .int 0, .int 0, .int 0, .int 0, .int 0])), (a0, .inl (cP, 10, .inr (.inr (.inr (.inr G0))))), (a1, .inl (cM, 6, .inr (.inr (.inr (.inr G1))))), (a2, .inl (cW, 3, .inr (.inr (.inr (.inr G2))))), (a3, .inl (cE, 100, .inr (.inr (.inr (.inr F))))), (pp, .inr (1, [.int 0, .int 0, .int 0, .int 0, .int (-1), .int (-1)])), (pm, .inr (2, [.int 0, .int 0, .int (-1), .int 0, .int 0])), (pw, .inr (3, [.int 0, .int 0, .int 0, .int 0, .ref w1, .ref w2, .ref w3])), (mm, .inr (9, [.ref b0, .ref b1, .ref b2, .ref b3, .int 0, .null, .null, .ref b4, .null, .ref b5, .ref b6, .int 0, .int 0, .long 0, .int 0])), (b0, .inr (10, [.int 0, .ref (g 4), .int 0])), (b1, .inr (10, [.int 0, .ref (g 4), .int 0])), (b2, .inr (10, [.int 0, .ref (g 4), .int 0])), (b3, .inr (11, [.null, .null, .null, .null, .int 0, .int 0, .null, .null, .null])), (o, .inl (cJ, 1, .inr (.inl (fun _ => 0)))), (od, .inl (cD, 1, .inr (.inr (.inr (.inl (fun _ => 0))))))] ++ va_pl LP (fun _ => freeE g)) → va_S (lA z0) s.heap H locs → ∀ (ls : Array Slot), lv_has ls 9 [(5, .int 0), (4, .ref od), (3, .ref o), (2, .ref mm), (1, .ref x), (0, .ref b)] → W p l e room_1 s m #[Value.ref b] below meth c H locs 199 4528 (lw_Z below #[Value.ref b] s) (F0 m 472 ls []) := by
  subst hL7
  obtain ⟨hx, hb, hr, hml, hown, hts0, hX, hbl, hlocks, hgv⟩ := id C0
  have hown : s.vm.findClass "TheatrehouseLaw" = some m.cls := hown
  have hts : ∀ w ∈ lw_all, w.before #[Value.ref b] s = true := fun w h => hts0 w (List.mem_filter.mp h).1
  have hAz : ∀ q, lA z0 q → z0 ≤ q := fun _ h => h
  have hA : ∀ q : Nat, s.heap.size ≤ q → lA z0 q := fun q h => by show z0 ≤ q; rw [← hz]; exact h
  have hsz : z0 ≤ s.heap.size := Nat.le_of_eq hz.symm
  have hbA : ¬ lA z0 b := by show ¬ z0 ≤ b; rw [← hz]; exact Nat.not_le.mpr hbl
  intro H locs hP hD hS ls hl
  refine lv_aload_n hx hb dL_law_472 rfl (lv_at hl 4 rfl) ?_
  refine lv_aload_n hx hb dL_law_473 rfl (lv_at hl 5 rfl) ?_
  refine lv_iload hx hb dL_law_474 (lv_at hl 0 rfl) ?_
  refine lv_iconst (v := 1) hx hb dL_law_476 (by decide) ?_
  refine lv_iadd hx hb dL_law_477 ?_
  rw [show (0 + 1 : Int32) = 1 by decide]
  refine va_sld (i := 1) hx hb hX hbl hbA hS (by unfold vp_in; decide) dL_law_478 ?_
  refine lv_aload_n hx hb dL_law_479 rfl (lv_at hl 5 rfl) ?_
  refine lv_iload hx hb dL_law_480 (lv_at hl 0 rfl) ?_
  refine lv_iconst (v := 2) hx hb dL_law_482 (by decide) ?_
  refine lv_iadd hx hb dL_law_483 ?_
  rw [show (0 + 2 : Int32) = 2 by decide]
  refine va_sld (i := 2) hx hb hX hbl hbA hS (by unfold vp_in; decide) dL_law_484 ?_
  refine lv_aload_n hx hb dL_law_485 rfl (lv_at hl 5 rfl) ?_
  refine lv_iload hx hb dL_law_486 (lv_at hl 0 rfl) ?_
  refine lv_iconst (v := 3) hx hb dL_law_488 (by decide) ?_
  refine lv_iadd hx hb dL_law_489 ?_
  rw [show (0 + 3 : Int32) = 3 by decide]
  refine va_sld (i := 3) hx hb hX hbl hbA hS (by unfold vp_in; decide) dL_law_490 ?_
  refine lv_aload_n hx hb dL_law_491 rfl (lv_at hl 5 rfl) ?_
  refine lv_iload hx hb dL_law_492 (lv_at hl 0 rfl) ?_
  refine lv_iconst (v := 4) hx hb dL_law_494 (by decide) ?_
  refine lv_iadd hx hb dL_law_495 ?_
  rw [show (0 + 4 : Int32) = 4 by decide]
  refine va_sld (i := 4) hx hb hX hbl hbA hS (by unfold vp_in; decide) dL_law_496 ?_
  refine lv_aload_n hx hb dL_law_497 rfl (lv_at hl 2 rfl) ?_
  have hc_1 := hP.sub (ws' := [(x, .inr (0, [.ref a0, .ref a1, .ref a2, .ref a3, .ref a4, .ref a5, .ref a6, .int 0, .int 0, .int 0, .int 0, .int 0, .int 0, .int 0]))]) [0] rfl
  refine va_calli (vx_runSW (As := [.ref x, .int (xs (Int32.toNatClampNeg 1)), .int (xs (Int32.toNatClampNeg 2)), .int (xs (Int32.toNatClampNeg 3)), .int (xs (Int32.toNatClampNeg 4)), .ref o]) (rest := []) ⟨hx, hb, hml, hown, hts⟩ (met_of (c_L_setInterlock l hfl z0 D g x a0 a1 a2 a3 a4 a5 a6 (xs (Int32.toNatClampNeg 1)) (xs (Int32.toNatClampNeg 2)) (xs (Int32.toNatClampNeg 3)) (xs (Int32.toNatClampNeg 4)) o)) (vx_cwSW 6 hts (lw_SW m_726 m_727 m_0 m_728) rfl rfl rfl (by decide +kernel) ⟨(Nat.le_of_ble_eq_true rfl), (Nat.le_of_ble_eq_true rfl)⟩) ⟨PR.blind, PR.pre hE hS hAz hc_1⟩ rfl rfl hl.1 rfl (lv_room (Nat.le_of_ble_eq_true rfl)) dL_law_498 ⟨(Nat.le_of_ble_eq_true rfl), (Nat.le_of_ble_eq_true rfl)⟩) hS nA_B nA_A (fun r_2 u_3 t H locs ht hvm hw hB hz1 hk1 hS => ?_)
  have hP := hP.old hk1
  have hP : va_P D classes ([(x, .inr (0, [.ref a0, .ref a1, .ref a2, .ref a3, .ref a4, .ref a5, .ref a6, .int 0, .int 0, .int 0, .int 0, .int 0, .int 0, .int 0])), (a0, .inl (cP, 10, .inr (.inr (.inr (.inr G0))))), (a1, .inl (cM, 6, .inr (.inr (.inr (.inr G1))))), (a2, .inl (cW, 3, .inr (.inr (.inr (.inr G2))))), (a3, .inl (cE, 100, .inr (.inr (.inr (.inr F))))), (pp, .inr (1, [.int 0, .int 0, .int 0, .int 0, .int (-1), .int (-1)])), (pm, .inr (2, [.int 0, .int 0, .int (-1), .int 0, .int 0])), (pw, .inr (3, [.int 0, .int 0, .int 0, .int 0, .ref w1, .ref w2, .ref w3])), (mm, .inr (9, [.ref b0, .ref b1, .ref b2, .ref b3, .int 0, .null, .null, .ref b4, .null, .ref b5, .ref b6, .int 0, .int 0, .long 0, .int 0])), (b0, .inr (10, [.int 0, .ref (g 4), .int 0])), (b1, .inr (10, [.int 0, .ref (g 4), .int 0])), (b2, .inr (10, [.int 0, .ref (g 4), .int 0])), (b3, .inr (11, [.null, .null, .null, .null, .int 0, .int 0, .null, .null, .null])), (o, .inl (cJ, 1, .inr (.inl (fun _ => 0)))), (od, .inl (cD, 1, .inr (.inr (.inr (.inl (fun _ => 0))))))] ++ va_pl LP (fun _ => freeE g)) H := hP
  subst hw
  refine lv_istore (lv' := [(6, .int 1), (5, .int 0), (4, .ref od), (3, .ref o), (2, .ref mm), (1, .ref x), (0, .ref b)]) hx hb dL_law_501 hl (by decide) rfl (fun ls hl => ?_)
  refine lv_aload_n hx hb dL_law_503 rfl (lv_at hl 4 rfl) ?_
  refine lv_aload_n hx hb dL_law_504 rfl (lv_at hl 6 rfl) ?_
  refine lv_iload hx hb dL_law_505 (lv_at hl 1 rfl) ?_
  refine lv_iconst (v := 1) hx hb dL_law_507 (by decide) ?_
  refine lv_iadd hx hb dL_law_508 ?_
  rw [show (0 + 1 : Int32) = 1 by decide]
  refine va_sld (i := 1) hx hb hX hbl hbA hS (by unfold vp_in; decide) dL_law_509 ?_
  refine lv_aload_n hx hb dL_law_510 rfl (lv_at hl 6 rfl) ?_
  refine lv_iload hx hb dL_law_511 (lv_at hl 1 rfl) ?_
  refine lv_iconst (v := 2) hx hb dL_law_513 (by decide) ?_
  refine lv_iadd hx hb dL_law_514 ?_
  rw [show (0 + 2 : Int32) = 2 by decide]
  refine va_sld (i := 2) hx hb hX hbl hbA hS (by unfold vp_in; decide) dL_law_515 ?_
  refine lv_aload_n hx hb dL_law_516 rfl (lv_at hl 6 rfl) ?_
  refine lv_iload hx hb dL_law_517 (lv_at hl 1 rfl) ?_
  refine lv_iconst (v := 3) hx hb dL_law_519 (by decide) ?_
  refine lv_iadd hx hb dL_law_520 ?_
  rw [show (0 + 3 : Int32) = 3 by decide]
  refine va_sld (i := 3) hx hb hX hbl hbA hS (by unfold vp_in; decide) dL_law_521 ?_
  refine lv_aload_n hx hb dL_law_522 rfl (lv_at hl 6 rfl) ?_
  refine lv_iload hx hb dL_law_523 (lv_at hl 1 rfl) ?_
  refine lv_iconst (v := 4) hx hb dL_law_525 (by decide) ?_
  refine lv_iadd hx hb dL_law_526 ?_
  rw [show (0 + 4 : Int32) = 4 by decide]
  refine va_sld (i := 4) hx hb hX hbl hbA hS (by unfold vp_in; decide) dL_law_527 ?_
  have hc_4 := hP.sub (ws' := [(mm, .inr (9, [.ref b0, .ref b1, .ref b2, .ref b3, .int 0, .null, .null, .ref b4, .null, .ref b5, .ref b6, .int 0, .int 0, .long 0, .int 0])), (b0, .inr (10, [.int 0, .ref (g 4), .int 0])), (b1, .inr (10, [.int 0, .ref (g 4), .int 0])), (b2, .inr (10, [.int 0, .ref (g 4), .int 0])), (b3, .inr (11, [.null, .null, .null, .null, .int 0, .int 0, .null, .null, .null]))]) [8, 9, 10, 11, 12] rfl
  have hc_4D := hD.sub (ws' := [(mm, .inr (9, [.ref b0, .ref b1, .ref b2, .ref b3, .int 0, .null, .null, .ref b4, .null, .ref b5, .ref b6, .int 0, .int 0, .long 0, .int 0])), (b0, .inr (10, [.int 0, .ref (g 4), .int 0])), (b1, .inr (10, [.int 0, .ref (g 4), .int 0])), (b2, .inr (10, [.int 0, .ref (g 4), .int 0])), (b3, .inr (11, [.null, .null, .null, .null, .int 0, .int 0, .null, .null, .null]))]) [8, 9, 10, 11, 12] (by decide) rfl
  have hc_4F := va_free (wc := [(mm, .inr (9, [.ref b0, .ref b1, .ref b2, .ref b3, .int 0, .null, .null, .ref b4, .null, .ref b5, .ref b6, .int 0, .int 0, .long 0, .int 0])), (b0, .inr (10, [.int 0, .ref (g 4), .int 0])), (b1, .inr (10, [.int 0, .ref (g 4), .int 0])), (b2, .inr (10, [.int 0, .ref (g 4), .int 0])), (b3, .inr (11, [.null, .null, .null, .null, .int 0, .int 0, .null, .null, .null]))]) hD hS hA [8, 9, 10, 11, 12] rfl
  refine va_calli (va_runV (As := [.int (xs (Int32.toNatClampNeg 1)), .int (xs (Int32.toNatClampNeg 2)), .int (xs (Int32.toNatClampNeg 3)), .int (xs (Int32.toNatClampNeg 4))]) (rest := []) ⟨hx, hb, hml, hown, hts⟩ (c_X18_setInterlock l z0 D g _ mm b0 b1 b2 b3 b4 b5 b6 (xs (Int32.toNatClampNeg 1)) (xs (Int32.toNatClampNeg 2)) (xs (Int32.toNatClampNeg 3)) (xs (Int32.toNatClampNeg 4))) (cwV 4 hts (lw_V m_1429 m_1430 m_1431 m_12 m_1432) rfl rfl rfl (by decide +kernel) ⟨(Nat.le_of_ble_eq_true rfl), (Nat.le_of_ble_eq_true rfl)⟩) ⟨PM.blind, va_recv hK hP (ci := 9) (q0 := 8) rfl rfl, PM.pre hE hS hAz hsz hc_4 hc_4D⟩ rfl rfl hl.1 rfl (lv_room (Nat.le_of_ble_eq_true rfl)) dL_law_528 ⟨(Nat.le_of_ble_eq_true rfl), (Nat.le_of_ble_eq_true rfl)⟩) hS (fun q _ h => hc_4F q h) hc_4F (fun r_5 u_6 t H locs ht hvm hw hB hz1 hk1 hS => ?_)
  obtain ⟨hP1, hD1⟩ := hB
  rw [ht] at hP1
  obtain ⟨hP, hD⟩ := va_joinQ (X := [(x, .inr (0, [.ref a0, .ref a1, .ref a2, .ref a3, .ref a4, .ref a5, .ref a6, .int 0, .int 0, .int 0, .int 0, .int 0, .int 0, .int 0])), (a0, .inl (cP, 10, .inr (.inr (.inr (.inr G0))))), (a1, .inl (cM, 6, .inr (.inr (.inr (.inr G1))))), (a2, .inl (cW, 3, .inr (.inr (.inr (.inr G2))))), (a3, .inl (cE, 100, .inr (.inr (.inr (.inr F))))), (pp, .inr (1, [.int 0, .int 0, .int 0, .int 0, .int (-1), .int (-1)])), (pm, .inr (2, [.int 0, .int 0, .int (-1), .int 0, .int 0])), (pw, .inr (3, [.int 0, .int 0, .int 0, .int 0, .ref w1, .ref w2, .ref w3])), (mm, .inr (9, [.ref b0, .ref b1, .ref b2, .ref b3, .int 0, .null, .null, .ref b4, .null, .ref b5, .ref b6, .int 0, .int 0, .long 0, .int 0])), (b0, .inr (10, [.int 0, .ref (g 4), .int 0])), (b1, .inr (10, [.int 0, .ref (g 4), .int 0])), (b2, .inr (10, [.int 0, .ref (g 4), .int 0])), (b3, .inr (11, [.null, .null, .null, .null, .int 0, .int 0, .null, .null, .null])), (o, .inl (cJ, 1, .inr (.inl (fun _ => 0)))), (od, .inl (cD, 1, .inr (.inr (.inr (.inl (fun _ => 0))))))]) (wr := [(x, .inr (0, [.ref a0, .ref a1, .ref a2, .ref a3, .ref a4, .ref a5, .ref a6, .int 0, .int 0, .int 0, .int 0, .int 0, .int 0, .int 0])), (a0, .inl (cP, 10, .inr (.inr (.inr (.inr G0))))), (a1, .inl (cM, 6, .inr (.inr (.inr (.inr G1))))), (a2, .inl (cW, 3, .inr (.inr (.inr (.inr G2))))), (a3, .inl (cE, 100, .inr (.inr (.inr (.inr F))))), (pp, .inr (1, [.int 0, .int 0, .int 0, .int 0, .int (-1), .int (-1)])), (pm, .inr (2, [.int 0, .int 0, .int (-1), .int 0, .int 0])), (pw, .inr (3, [.int 0, .int 0, .int 0, .int 0, .ref w1, .ref w2, .ref w3])), (o, .inl (cJ, 1, .inr (.inl (fun _ => 0)))), (od, .inl (cD, 1, .inr (.inr (.inr (.inl (fun _ => 0))))))]) (w1 := [(mm, .inr (9, [.ref b0, .ref b1, .ref b2, .ref b3, .int 0, .null, .null, .ref b4, .null, .ref b5, .ref b6, .int 0, .int 0, .long 0, .int 1])), (b0, .inr (10, [.int 0, .ref (g 4), .int 0])), (b1, .inr (10, [.int 0, .ref (g 4), .int 0])), (b2, .inr (10, [.int 0, .ref (g 4), .int 0])), (b3, .inr (11, [.null, .null, .null, .null, .int 0, .int 0, .null, .null, .null]))]) hP hD [8, 9, 10, 11, 12] [0, 1, 2, 3, 4, 5, 6, 7, 13, 14] rfl rfl (by decide) (by decide) hk1 hc_4F hP1 hD1
  have hP : va_P D classes ([(x, .inr (0, [.ref a0, .ref a1, .ref a2, .ref a3, .ref a4, .ref a5, .ref a6, .int 0, .int 0, .int 0, .int 0, .int 0, .int 0, .int 0])), (a0, .inl (cP, 10, .inr (.inr (.inr (.inr G0))))), (a1, .inl (cM, 6, .inr (.inr (.inr (.inr G1))))), (a2, .inl (cW, 3, .inr (.inr (.inr (.inr G2))))), (a3, .inl (cE, 100, .inr (.inr (.inr (.inr F))))), (pp, .inr (1, [.int 0, .int 0, .int 0, .int 0, .int (-1), .int (-1)])), (pm, .inr (2, [.int 0, .int 0, .int (-1), .int 0, .int 0])), (pw, .inr (3, [.int 0, .int 0, .int 0, .int 0, .ref w1, .ref w2, .ref w3])), (o, .inl (cJ, 1, .inr (.inl (fun _ => 0)))), (od, .inl (cD, 1, .inr (.inr (.inr (.inl (fun _ => 0)))))), (mm, .inr (9, [.ref b0, .ref b1, .ref b2, .ref b3, .int 0, .null, .null, .ref b4, .null, .ref b5, .ref b6, .int 0, .int 0, .long 0, .int 1])), (b0, .inr (10, [.int 0, .ref (g 4), .int 0])), (b1, .inr (10, [.int 0, .ref (g 4), .int 0])), (b2, .inr (10, [.int 0, .ref (g 4), .int 0])), (b3, .inr (11, [.null, .null, .null, .null, .int 0, .int 0, .null, .null, .null]))] ++ va_pl LP (fun _ => freeE g)) H := hP
  have hD : va_D (lA z0) ([(x, .inr (0, [.ref a0, .ref a1, .ref a2, .ref a3, .ref a4, .ref a5, .ref a6, .int 0, .int 0, .int 0, .int 0, .int 0, .int 0, .int 0])), (a0, .inl (cP, 10, .inr (.inr (.inr (.inr G0))))), (a1, .inl (cM, 6, .inr (.inr (.inr (.inr G1))))), (a2, .inl (cW, 3, .inr (.inr (.inr (.inr G2))))), (a3, .inl (cE, 100, .inr (.inr (.inr (.inr F))))), (pp, .inr (1, [.int 0, .int 0, .int 0, .int 0, .int (-1), .int (-1)])), (pm, .inr (2, [.int 0, .int 0, .int (-1), .int 0, .int 0])), (pw, .inr (3, [.int 0, .int 0, .int 0, .int 0, .ref w1, .ref w2, .ref w3])), (o, .inl (cJ, 1, .inr (.inl (fun _ => 0)))), (od, .inl (cD, 1, .inr (.inr (.inr (.inl (fun _ => 0)))))), (mm, .inr (9, [.ref b0, .ref b1, .ref b2, .ref b3, .int 0, .null, .null, .ref b4, .null, .ref b5, .ref b6, .int 0, .int 0, .long 0, .int 1])), (b0, .inr (10, [.int 0, .ref (g 4), .int 0])), (b1, .inr (10, [.int 0, .ref (g 4), .int 0])), (b2, .inr (10, [.int 0, .ref (g 4), .int 0])), (b3, .inr (11, [.null, .null, .null, .null, .int 0, .int 0, .null, .null, .null]))] ++ va_pl LP (fun _ => freeE g)) := hD
  refine lv_istore (lv' := [(7, .int r_5), (6, .int 1), (5, .int 0), (4, .ref od), (3, .ref o), (2, .ref mm), (1, .ref x), (0, .ref b)]) hx hb dL_law_531 hl (by decide) rfl (fun ls hl => ?_)
  refine lv_aload_n hx hb dL_law_533 rfl (lv_at hl 5 rfl) ?_
  have hc_7 := hP.sub (ws' := [(mm, .inr (9, [.ref b0, .ref b1, .ref b2, .ref b3, .int 0, .null, .null, .ref b4, .null, .ref b5, .ref b6, .int 0, .int 0, .long 0, .int 1]))]) [10] rfl
  refine va_calli (va_runV (As := []) (rest := []) ⟨hx, hb, hml, hown, hts⟩ (c_thrown l z0 D g mm b0 b1 b2 b3 b4 b5 b6 1 0) (cwV 0 hts (lw_V m_1229 m_1230 m_1231 m_12 m_1232) rfl rfl rfl (by decide +kernel) ⟨(Nat.le_of_ble_eq_true rfl), (Nat.le_of_ble_eq_true rfl)⟩) ⟨PR.blind, va_recv hK hP (ci := 9) (q0 := 10) rfl rfl, PR.pre hE hS hAz hc_7⟩ rfl rfl hl.1 rfl (lv_room (Nat.le_of_ble_eq_true rfl)) dL_law_534 ⟨(Nat.le_of_ble_eq_true rfl), (Nat.le_of_ble_eq_true rfl)⟩) hS nA_B nA_A (fun r_8 u_9 t H locs ht hvm hw hB hz1 hk1 hS => ?_)
  have hP := hP.old hk1
  have hP : va_P D classes ([(x, .inr (0, [.ref a0, .ref a1, .ref a2, .ref a3, .ref a4, .ref a5, .ref a6, .int 0, .int 0, .int 0, .int 0, .int 0, .int 0, .int 0])), (a0, .inl (cP, 10, .inr (.inr (.inr (.inr G0))))), (a1, .inl (cM, 6, .inr (.inr (.inr (.inr G1))))), (a2, .inl (cW, 3, .inr (.inr (.inr (.inr G2))))), (a3, .inl (cE, 100, .inr (.inr (.inr (.inr F))))), (pp, .inr (1, [.int 0, .int 0, .int 0, .int 0, .int (-1), .int (-1)])), (pm, .inr (2, [.int 0, .int 0, .int (-1), .int 0, .int 0])), (pw, .inr (3, [.int 0, .int 0, .int 0, .int 0, .ref w1, .ref w2, .ref w3])), (o, .inl (cJ, 1, .inr (.inl (fun _ => 0)))), (od, .inl (cD, 1, .inr (.inr (.inr (.inl (fun _ => 0)))))), (mm, .inr (9, [.ref b0, .ref b1, .ref b2, .ref b3, .int 0, .null, .null, .ref b4, .null, .ref b5, .ref b6, .int 0, .int 0, .long 0, .int 1])), (b0, .inr (10, [.int 0, .ref (g 4), .int 0])), (b1, .inr (10, [.int 0, .ref (g 4), .int 0])), (b2, .inr (10, [.int 0, .ref (g 4), .int 0])), (b3, .inr (11, [.null, .null, .null, .null, .int 0, .int 0, .null, .null, .null]))] ++ va_pl LP (fun _ => freeE g)) H := hP
  subst hw
  refine lv_iload hx hb dL_law_537 (lv_at hl 1 rfl) ?_
  refine lv_icmp_eq (tgt := 544) hx hb dL_law_539 (by decide) (fun _ => ?_) (fun h9 => absurd (by decide) h9)
  refine lv_iload hx hb dL_law_544 (lv_at hl 1 rfl) ?_
  refine lv_if_ne (tgt := 561) hx hb dL_law_546 (by decide) (fun _ => ?_) (fun h9 => absurd h9 (by decide))
  refine lv_goto (tgt := 2156) hx hb dL_law_561 (by decide) ?_
  exact law_tail (by rfl) C0 hz (Nat.le_of_ble_eq_true rfl) (Nat.le_of_ble_eq_true rfl) hS (lv_sub hl [2, 7] rfl)

set_option maxHeartbeats 4000000 in
set_option maxRecDepth 100000 in
theorem case_5_b1 {p : Program} {l : Launch} {e : Env} {s : State} {m : MethodId} {below : List Frame} {meth : Method} {c : Code} {b L : Nat} {xs : Nat → Int32} {z0 : Nat} {D : va_G} {g : Nat → Nat} (hfl : l.stackTraces = false) (hL7 : L = 7) (C0 : lw_At p s m meth c b L xs) (hz : s.heap.size = z0) (hE : EV z0 D g s s.heap) (x a0 a1 a2 a3 a4 a5 a6 pp pm pw w1 w2 w3 mm b0 b1 b2 b3 b4 b5 b6 o od : Nat) (cP cM cW cE cJ cD : ClassId) (G0 G1 G2 F : Nat → Option Nat) (LP : List Nat) (hF0 : G0 0 = some pp) (hF1 : G1 0 = some pm) (hF2 : G2 0 = some pw) (hF3 : ∀ j : Nat, j < 100 → ∃ y : Nat, y ∈ LP ∧ F j = some y) (hK : va_K D classes [(cP, .object "Theatrehouse$Person"), (cM, .object "Theatrehouse$Machine"), (cW, .object "Theatrehouse$Work"), (cE, .object "Theatrehouse$Evening"), (cJ, .long), (cD, .double)] s) (h : (xs (Int32.toNatClampNeg 1)) < 1 ∨ ¬ (xs (Int32.toNatClampNeg 1)) ≤ 5) : ∀ (H : Heap) (locs : List Loc), va_P D classes ([(x, .inr (0, [.ref a0, .ref a1, .ref a2, .ref a3, .ref a4, .ref a5, .ref a6, .int 0, .int 0, .int 0, .int 0, .int 0, .int 0, .int 0])), (a0, .inl (cP, 10, .inr (.inr (.inr (.inr G0))))), (a1, .inl (cM, 6, .inr (.inr (.inr (.inr G1))))), (a2, .inl (cW, 3, .inr (.inr (.inr (.inr G2))))), (a3, .inl (cE, 100, .inr (.inr (.inr (.inr F))))), (pp, .inr (1, [.int 0, .int 0, .int 0, .int 0, .int (-1), .int (-1)])), (pm, .inr (2, [.int 0, .int 0, .int (-1), .int 0, .int 0])), (pw, .inr (3, [.int 0, .int 0, .int 0, .int 0, .ref w1, .ref w2, .ref w3])), (mm, .inr (9, [.ref b0, .ref b1, .ref b2, .ref b3, .int 0, .null, .null, .ref b4, .null, .ref b5, .ref b6, .int 0, .int 0, .long 0, .int 0])), (b0, .inr (10, [.int 0, .ref (g 4), .int 0])), (b1, .inr (10, [.int 0, .ref (g 4), .int 0])), (b2, .inr (10, [.int 0, .ref (g 4), .int 0])), (b3, .inr (11, [.null, .null, .null, .null, .int 0, .int 0, .null, .null, .null])), (o, .inl (cJ, 1, .inr (.inl (fun _ => 0)))), (od, .inl (cD, 1, .inr (.inr (.inr (.inl (fun _ => 0))))))] ++ va_pl LP (fun _ => freeE g)) H → va_D (lA z0) ([(x, .inr (0, [.ref a0, .ref a1, .ref a2, .ref a3, .ref a4, .ref a5, .ref a6, .int 0, .int 0, .int 0, .int 0, .int 0, .int 0, .int 0])), (a0, .inl (cP, 10, .inr (.inr (.inr (.inr G0))))), (a1, .inl (cM, 6, .inr (.inr (.inr (.inr G1))))), (a2, .inl (cW, 3, .inr (.inr (.inr (.inr G2))))), (a3, .inl (cE, 100, .inr (.inr (.inr (.inr F))))), (pp, .inr (1, [.int 0, .int 0, .int 0, .int 0, .int (-1), .int (-1)])), (pm, .inr (2, [.int 0, .int 0, .int (-1), .int 0, .int 0])), (pw, .inr (3, [.int 0, .int 0, .int 0, .int 0, .ref w1, .ref w2, .ref w3])), (mm, .inr (9, [.ref b0, .ref b1, .ref b2, .ref b3, .int 0, .null, .null, .ref b4, .null, .ref b5, .ref b6, .int 0, .int 0, .long 0, .int 0])), (b0, .inr (10, [.int 0, .ref (g 4), .int 0])), (b1, .inr (10, [.int 0, .ref (g 4), .int 0])), (b2, .inr (10, [.int 0, .ref (g 4), .int 0])), (b3, .inr (11, [.null, .null, .null, .null, .int 0, .int 0, .null, .null, .null])), (o, .inl (cJ, 1, .inr (.inl (fun _ => 0)))), (od, .inl (cD, 1, .inr (.inr (.inr (.inl (fun _ => 0))))))] ++ va_pl LP (fun _ => freeE g)) → va_S (lA z0) s.heap H locs → ∀ (ls : Array Slot), lv_has ls 9 [(5, .int 0), (4, .ref od), (3, .ref o), (2, .ref mm), (1, .ref x), (0, .ref b)] → W p l e room_1 s m #[Value.ref b] below meth c H locs 199 4528 (lw_Z below #[Value.ref b] s) (F0 m 564 ls []) := by
  subst hL7
  obtain ⟨hx, hb, hr, hml, hown, hts0, hX, hbl, hlocks, hgv⟩ := id C0
  have hown : s.vm.findClass "TheatrehouseLaw" = some m.cls := hown
  have hts : ∀ w ∈ lw_all, w.before #[Value.ref b] s = true := fun w h => hts0 w (List.mem_filter.mp h).1
  have hAz : ∀ q, lA z0 q → z0 ≤ q := fun _ h => h
  have hA : ∀ q : Nat, s.heap.size ≤ q → lA z0 q := fun q h => by show z0 ≤ q; rw [← hz]; exact h
  have hsz : z0 ≤ s.heap.size := Nat.le_of_eq hz.symm
  have hbA : ¬ lA z0 b := by show ¬ z0 ≤ b; rw [← hz]; exact Nat.not_le.mpr hbl
  intro H locs hP hD hS ls hl
  refine lv_aload_n hx hb dL_law_564 rfl (lv_at hl 4 rfl) ?_
  refine lv_aload_n hx hb dL_law_565 rfl (lv_at hl 5 rfl) ?_
  refine lv_iload hx hb dL_law_566 (lv_at hl 0 rfl) ?_
  refine lv_iconst (v := 1) hx hb dL_law_568 (by decide) ?_
  refine lv_iadd hx hb dL_law_569 ?_
  rw [show (0 + 1 : Int32) = 1 by decide]
  refine va_sld (i := 1) hx hb hX hbl hbA hS (by unfold vp_in; decide) dL_law_570 ?_
  refine lv_aload_n hx hb dL_law_571 rfl (lv_at hl 5 rfl) ?_
  refine lv_iload hx hb dL_law_572 (lv_at hl 0 rfl) ?_
  refine lv_iconst (v := 2) hx hb dL_law_574 (by decide) ?_
  refine lv_iadd hx hb dL_law_575 ?_
  rw [show (0 + 2 : Int32) = 2 by decide]
  refine va_sld (i := 2) hx hb hX hbl hbA hS (by unfold vp_in; decide) dL_law_576 ?_
  refine lv_aload_n hx hb dL_law_577 rfl (lv_at hl 2 rfl) ?_
  have hc_1 := hP.sub (ws' := [(x, .inr (0, [.ref a0, .ref a1, .ref a2, .ref a3, .ref a4, .ref a5, .ref a6, .int 0, .int 0, .int 0, .int 0, .int 0, .int 0, .int 0]))]) [0] rfl
  refine va_calli (vx_runSW (As := [.ref x, .int (xs (Int32.toNatClampNeg 1)), .int (xs (Int32.toNatClampNeg 2)), .ref o]) (rest := []) ⟨hx, hb, hml, hown, hts⟩ (met_of (c_L_addWork_b1 l hfl z0 D g x a0 a1 a2 a3 a4 a5 a6 (xs (Int32.toNatClampNeg 1)) (xs (Int32.toNatClampNeg 2)) o h)) (vx_cwSW 4 hts (lw_SW m_738 m_739 m_0 m_740) rfl rfl rfl (by decide +kernel) ⟨(Nat.le_of_ble_eq_true rfl), (Nat.le_of_ble_eq_true rfl)⟩) ⟨PR.blind, PR.pre hE hS hAz hc_1⟩ rfl rfl hl.1 rfl (lv_room (Nat.le_of_ble_eq_true rfl)) dL_law_578 ⟨(Nat.le_of_ble_eq_true rfl), (Nat.le_of_ble_eq_true rfl)⟩) hS nA_B nA_A (fun r_2 u_3 t H locs ht hvm hw hB hz1 hk1 hS => ?_)
  have hP := hP.old hk1
  have hP : va_P D classes ([(x, .inr (0, [.ref a0, .ref a1, .ref a2, .ref a3, .ref a4, .ref a5, .ref a6, .int 0, .int 0, .int 0, .int 0, .int 0, .int 0, .int 0])), (a0, .inl (cP, 10, .inr (.inr (.inr (.inr G0))))), (a1, .inl (cM, 6, .inr (.inr (.inr (.inr G1))))), (a2, .inl (cW, 3, .inr (.inr (.inr (.inr G2))))), (a3, .inl (cE, 100, .inr (.inr (.inr (.inr F))))), (pp, .inr (1, [.int 0, .int 0, .int 0, .int 0, .int (-1), .int (-1)])), (pm, .inr (2, [.int 0, .int 0, .int (-1), .int 0, .int 0])), (pw, .inr (3, [.int 0, .int 0, .int 0, .int 0, .ref w1, .ref w2, .ref w3])), (mm, .inr (9, [.ref b0, .ref b1, .ref b2, .ref b3, .int 0, .null, .null, .ref b4, .null, .ref b5, .ref b6, .int 0, .int 0, .long 0, .int 0])), (b0, .inr (10, [.int 0, .ref (g 4), .int 0])), (b1, .inr (10, [.int 0, .ref (g 4), .int 0])), (b2, .inr (10, [.int 0, .ref (g 4), .int 0])), (b3, .inr (11, [.null, .null, .null, .null, .int 0, .int 0, .null, .null, .null])), (o, .inl (cJ, 1, .inr (.inl (fun _ => 0)))), (od, .inl (cD, 1, .inr (.inr (.inr (.inl (fun _ => 0))))))] ++ va_pl LP (fun _ => freeE g)) H := hP
  subst hw
  refine lv_istore (lv' := [(6, .int 1), (5, .int 0), (4, .ref od), (3, .ref o), (2, .ref mm), (1, .ref x), (0, .ref b)]) hx hb dL_law_581 hl (by decide) rfl (fun ls hl => ?_)
  refine lv_aload_n hx hb dL_law_583 rfl (lv_at hl 4 rfl) ?_
  refine lv_aload_n hx hb dL_law_584 rfl (lv_at hl 6 rfl) ?_
  refine lv_iload hx hb dL_law_585 (lv_at hl 1 rfl) ?_
  refine lv_iconst (v := 1) hx hb dL_law_587 (by decide) ?_
  refine lv_iadd hx hb dL_law_588 ?_
  rw [show (0 + 1 : Int32) = 1 by decide]
  refine va_sld (i := 1) hx hb hX hbl hbA hS (by unfold vp_in; decide) dL_law_589 ?_
  refine lv_aload_n hx hb dL_law_590 rfl (lv_at hl 6 rfl) ?_
  refine lv_iload hx hb dL_law_591 (lv_at hl 1 rfl) ?_
  refine lv_iconst (v := 2) hx hb dL_law_593 (by decide) ?_
  refine lv_iadd hx hb dL_law_594 ?_
  rw [show (0 + 2 : Int32) = 2 by decide]
  refine va_sld (i := 2) hx hb hX hbl hbA hS (by unfold vp_in; decide) dL_law_595 ?_
  have hc_4 := hP.sub (ws' := [(mm, .inr (9, [.ref b0, .ref b1, .ref b2, .ref b3, .int 0, .null, .null, .ref b4, .null, .ref b5, .ref b6, .int 0, .int 0, .long 0, .int 0])), (b0, .inr (10, [.int 0, .ref (g 4), .int 0])), (b1, .inr (10, [.int 0, .ref (g 4), .int 0])), (b2, .inr (10, [.int 0, .ref (g 4), .int 0])), (b3, .inr (11, [.null, .null, .null, .null, .int 0, .int 0, .null, .null, .null]))]) [8, 9, 10, 11, 12] rfl
  have hc_4D := hD.sub (ws' := [(mm, .inr (9, [.ref b0, .ref b1, .ref b2, .ref b3, .int 0, .null, .null, .ref b4, .null, .ref b5, .ref b6, .int 0, .int 0, .long 0, .int 0])), (b0, .inr (10, [.int 0, .ref (g 4), .int 0])), (b1, .inr (10, [.int 0, .ref (g 4), .int 0])), (b2, .inr (10, [.int 0, .ref (g 4), .int 0])), (b3, .inr (11, [.null, .null, .null, .null, .int 0, .int 0, .null, .null, .null]))]) [8, 9, 10, 11, 12] (by decide) rfl
  have hc_4F := va_free (wc := [(mm, .inr (9, [.ref b0, .ref b1, .ref b2, .ref b3, .int 0, .null, .null, .ref b4, .null, .ref b5, .ref b6, .int 0, .int 0, .long 0, .int 0])), (b0, .inr (10, [.int 0, .ref (g 4), .int 0])), (b1, .inr (10, [.int 0, .ref (g 4), .int 0])), (b2, .inr (10, [.int 0, .ref (g 4), .int 0])), (b3, .inr (11, [.null, .null, .null, .null, .int 0, .int 0, .null, .null, .null]))]) hD hS hA [8, 9, 10, 11, 12] rfl
  refine va_calli (va_runV (As := [.int (xs (Int32.toNatClampNeg 1)), .int (xs (Int32.toNatClampNeg 2))]) (rest := []) ⟨hx, hb, hml, hown, hts⟩ (c_X18_addWork_b1 l z0 D g _ mm b0 b1 b2 b3 b4 b5 b6 (xs (Int32.toNatClampNeg 1)) (xs (Int32.toNatClampNeg 2)) h) (cwV 2 hts (lw_V m_1438 m_1439 m_1440 m_12 m_1441) rfl rfl rfl (by decide +kernel) ⟨(Nat.le_of_ble_eq_true rfl), (Nat.le_of_ble_eq_true rfl)⟩) ⟨PM.blind, va_recv hK hP (ci := 9) (q0 := 8) rfl rfl, PM.pre hE hS hAz hsz hc_4 hc_4D⟩ rfl rfl hl.1 rfl (lv_room (Nat.le_of_ble_eq_true rfl)) dL_law_596 ⟨(Nat.le_of_ble_eq_true rfl), (Nat.le_of_ble_eq_true rfl)⟩) hS (fun q _ h => hc_4F q h) hc_4F (fun r_5 u_6 t H locs ht hvm hw hB hz1 hk1 hS => ?_)
  obtain ⟨hP1, hD1⟩ := hB
  rw [ht] at hP1
  obtain ⟨hP, hD⟩ := va_joinQ (X := [(x, .inr (0, [.ref a0, .ref a1, .ref a2, .ref a3, .ref a4, .ref a5, .ref a6, .int 0, .int 0, .int 0, .int 0, .int 0, .int 0, .int 0])), (a0, .inl (cP, 10, .inr (.inr (.inr (.inr G0))))), (a1, .inl (cM, 6, .inr (.inr (.inr (.inr G1))))), (a2, .inl (cW, 3, .inr (.inr (.inr (.inr G2))))), (a3, .inl (cE, 100, .inr (.inr (.inr (.inr F))))), (pp, .inr (1, [.int 0, .int 0, .int 0, .int 0, .int (-1), .int (-1)])), (pm, .inr (2, [.int 0, .int 0, .int (-1), .int 0, .int 0])), (pw, .inr (3, [.int 0, .int 0, .int 0, .int 0, .ref w1, .ref w2, .ref w3])), (mm, .inr (9, [.ref b0, .ref b1, .ref b2, .ref b3, .int 0, .null, .null, .ref b4, .null, .ref b5, .ref b6, .int 0, .int 0, .long 0, .int 0])), (b0, .inr (10, [.int 0, .ref (g 4), .int 0])), (b1, .inr (10, [.int 0, .ref (g 4), .int 0])), (b2, .inr (10, [.int 0, .ref (g 4), .int 0])), (b3, .inr (11, [.null, .null, .null, .null, .int 0, .int 0, .null, .null, .null])), (o, .inl (cJ, 1, .inr (.inl (fun _ => 0)))), (od, .inl (cD, 1, .inr (.inr (.inr (.inl (fun _ => 0))))))]) (wr := [(x, .inr (0, [.ref a0, .ref a1, .ref a2, .ref a3, .ref a4, .ref a5, .ref a6, .int 0, .int 0, .int 0, .int 0, .int 0, .int 0, .int 0])), (a0, .inl (cP, 10, .inr (.inr (.inr (.inr G0))))), (a1, .inl (cM, 6, .inr (.inr (.inr (.inr G1))))), (a2, .inl (cW, 3, .inr (.inr (.inr (.inr G2))))), (a3, .inl (cE, 100, .inr (.inr (.inr (.inr F))))), (pp, .inr (1, [.int 0, .int 0, .int 0, .int 0, .int (-1), .int (-1)])), (pm, .inr (2, [.int 0, .int 0, .int (-1), .int 0, .int 0])), (pw, .inr (3, [.int 0, .int 0, .int 0, .int 0, .ref w1, .ref w2, .ref w3])), (o, .inl (cJ, 1, .inr (.inl (fun _ => 0)))), (od, .inl (cD, 1, .inr (.inr (.inr (.inl (fun _ => 0))))))]) (w1 := [(mm, .inr (9, [.ref b0, .ref b1, .ref b2, .ref b3, .int 0, .null, .null, .ref b4, .null, .ref b5, .ref b6, .int 0, .int 0, .long 0, .int 1]))]) hP hD [8, 9, 10, 11, 12] [0, 1, 2, 3, 4, 5, 6, 7, 13, 14] rfl rfl (by decide) (by decide) hk1 hc_4F hP1 hD1
  have hP : va_P D classes ([(x, .inr (0, [.ref a0, .ref a1, .ref a2, .ref a3, .ref a4, .ref a5, .ref a6, .int 0, .int 0, .int 0, .int 0, .int 0, .int 0, .int 0])), (a0, .inl (cP, 10, .inr (.inr (.inr (.inr G0))))), (a1, .inl (cM, 6, .inr (.inr (.inr (.inr G1))))), (a2, .inl (cW, 3, .inr (.inr (.inr (.inr G2))))), (a3, .inl (cE, 100, .inr (.inr (.inr (.inr F))))), (pp, .inr (1, [.int 0, .int 0, .int 0, .int 0, .int (-1), .int (-1)])), (pm, .inr (2, [.int 0, .int 0, .int (-1), .int 0, .int 0])), (pw, .inr (3, [.int 0, .int 0, .int 0, .int 0, .ref w1, .ref w2, .ref w3])), (o, .inl (cJ, 1, .inr (.inl (fun _ => 0)))), (od, .inl (cD, 1, .inr (.inr (.inr (.inl (fun _ => 0)))))), (mm, .inr (9, [.ref b0, .ref b1, .ref b2, .ref b3, .int 0, .null, .null, .ref b4, .null, .ref b5, .ref b6, .int 0, .int 0, .long 0, .int 1]))] ++ va_pl LP (fun _ => freeE g)) H := hP
  have hD : va_D (lA z0) ([(x, .inr (0, [.ref a0, .ref a1, .ref a2, .ref a3, .ref a4, .ref a5, .ref a6, .int 0, .int 0, .int 0, .int 0, .int 0, .int 0, .int 0])), (a0, .inl (cP, 10, .inr (.inr (.inr (.inr G0))))), (a1, .inl (cM, 6, .inr (.inr (.inr (.inr G1))))), (a2, .inl (cW, 3, .inr (.inr (.inr (.inr G2))))), (a3, .inl (cE, 100, .inr (.inr (.inr (.inr F))))), (pp, .inr (1, [.int 0, .int 0, .int 0, .int 0, .int (-1), .int (-1)])), (pm, .inr (2, [.int 0, .int 0, .int (-1), .int 0, .int 0])), (pw, .inr (3, [.int 0, .int 0, .int 0, .int 0, .ref w1, .ref w2, .ref w3])), (o, .inl (cJ, 1, .inr (.inl (fun _ => 0)))), (od, .inl (cD, 1, .inr (.inr (.inr (.inl (fun _ => 0)))))), (mm, .inr (9, [.ref b0, .ref b1, .ref b2, .ref b3, .int 0, .null, .null, .ref b4, .null, .ref b5, .ref b6, .int 0, .int 0, .long 0, .int 1]))] ++ va_pl LP (fun _ => freeE g)) := hD
  refine lv_istore (lv' := [(7, .int r_5), (6, .int 1), (5, .int 0), (4, .ref od), (3, .ref o), (2, .ref mm), (1, .ref x), (0, .ref b)]) hx hb dL_law_599 hl (by decide) rfl (fun ls hl => ?_)
  refine lv_aload_n hx hb dL_law_601 rfl (lv_at hl 5 rfl) ?_
  have hc_7 := hP.sub (ws' := [(mm, .inr (9, [.ref b0, .ref b1, .ref b2, .ref b3, .int 0, .null, .null, .ref b4, .null, .ref b5, .ref b6, .int 0, .int 0, .long 0, .int 1]))]) [10] rfl
  refine va_calli (va_runV (As := []) (rest := []) ⟨hx, hb, hml, hown, hts⟩ (c_thrown l z0 D g mm b0 b1 b2 b3 b4 b5 b6 1 0) (cwV 0 hts (lw_V m_1229 m_1230 m_1231 m_12 m_1232) rfl rfl rfl (by decide +kernel) ⟨(Nat.le_of_ble_eq_true rfl), (Nat.le_of_ble_eq_true rfl)⟩) ⟨PR.blind, va_recv hK hP (ci := 9) (q0 := 10) rfl rfl, PR.pre hE hS hAz hc_7⟩ rfl rfl hl.1 rfl (lv_room (Nat.le_of_ble_eq_true rfl)) dL_law_602 ⟨(Nat.le_of_ble_eq_true rfl), (Nat.le_of_ble_eq_true rfl)⟩) hS nA_B nA_A (fun r_8 u_9 t H locs ht hvm hw hB hz1 hk1 hS => ?_)
  have hP := hP.old hk1
  have hP : va_P D classes ([(x, .inr (0, [.ref a0, .ref a1, .ref a2, .ref a3, .ref a4, .ref a5, .ref a6, .int 0, .int 0, .int 0, .int 0, .int 0, .int 0, .int 0])), (a0, .inl (cP, 10, .inr (.inr (.inr (.inr G0))))), (a1, .inl (cM, 6, .inr (.inr (.inr (.inr G1))))), (a2, .inl (cW, 3, .inr (.inr (.inr (.inr G2))))), (a3, .inl (cE, 100, .inr (.inr (.inr (.inr F))))), (pp, .inr (1, [.int 0, .int 0, .int 0, .int 0, .int (-1), .int (-1)])), (pm, .inr (2, [.int 0, .int 0, .int (-1), .int 0, .int 0])), (pw, .inr (3, [.int 0, .int 0, .int 0, .int 0, .ref w1, .ref w2, .ref w3])), (o, .inl (cJ, 1, .inr (.inl (fun _ => 0)))), (od, .inl (cD, 1, .inr (.inr (.inr (.inl (fun _ => 0)))))), (mm, .inr (9, [.ref b0, .ref b1, .ref b2, .ref b3, .int 0, .null, .null, .ref b4, .null, .ref b5, .ref b6, .int 0, .int 0, .long 0, .int 1]))] ++ va_pl LP (fun _ => freeE g)) H := hP
  subst hw
  refine lv_iload hx hb dL_law_605 (lv_at hl 1 rfl) ?_
  refine lv_icmp_eq (tgt := 612) hx hb dL_law_607 (by decide) (fun _ => ?_) (fun h9 => absurd (by decide) h9)
  refine lv_iload hx hb dL_law_612 (lv_at hl 1 rfl) ?_
  refine lv_if_ne (tgt := 629) hx hb dL_law_614 (by decide) (fun _ => ?_) (fun h9 => absurd h9 (by decide))
  refine lv_goto (tgt := 2156) hx hb dL_law_629 (by decide) ?_
  exact law_tail (by rfl) C0 hz (Nat.le_of_ble_eq_true rfl) (Nat.le_of_ble_eq_true rfl) hS (lv_sub hl [2, 7] rfl)

set_option maxHeartbeats 4000000 in
set_option maxRecDepth 100000 in
theorem case_5_b2 {p : Program} {l : Launch} {e : Env} {s : State} {m : MethodId} {below : List Frame} {meth : Method} {c : Code} {b L : Nat} {xs : Nat → Int32} {z0 : Nat} {D : va_G} {g : Nat → Nat} (hfl : l.stackTraces = false) (hL7 : L = 7) (C0 : lw_At p s m meth c b L xs) (hz : s.heap.size = z0) (hE : EV z0 D g s s.heap) (x a0 a1 a2 a3 a4 a5 a6 pp pm pw w1 w2 w3 mm b0 b1 b2 b3 b4 b5 b6 o od : Nat) (cP cM cW cE cJ cD : ClassId) (G0 G1 G2 F : Nat → Option Nat) (LP : List Nat) (hF0 : G0 0 = some pp) (hF1 : G1 0 = some pm) (hF2 : G2 0 = some pw) (hF3 : ∀ j : Nat, j < 100 → ∃ y : Nat, y ∈ LP ∧ F j = some y) (hK : va_K D classes [(cP, .object "Theatrehouse$Person"), (cM, .object "Theatrehouse$Machine"), (cW, .object "Theatrehouse$Work"), (cE, .object "Theatrehouse$Evening"), (cJ, .long), (cD, .double)] s) (h1 : ¬ (xs (Int32.toNatClampNeg 1)) < 1) (h2 : (xs (Int32.toNatClampNeg 1)) ≤ 5) (h : (xs (Int32.toNatClampNeg 2)) < 1 ∨ ¬ (xs (Int32.toNatClampNeg 2)) ≤ 99) : ∀ (H : Heap) (locs : List Loc), va_P D classes ([(x, .inr (0, [.ref a0, .ref a1, .ref a2, .ref a3, .ref a4, .ref a5, .ref a6, .int 0, .int 0, .int 0, .int 0, .int 0, .int 0, .int 0])), (a0, .inl (cP, 10, .inr (.inr (.inr (.inr G0))))), (a1, .inl (cM, 6, .inr (.inr (.inr (.inr G1))))), (a2, .inl (cW, 3, .inr (.inr (.inr (.inr G2))))), (a3, .inl (cE, 100, .inr (.inr (.inr (.inr F))))), (pp, .inr (1, [.int 0, .int 0, .int 0, .int 0, .int (-1), .int (-1)])), (pm, .inr (2, [.int 0, .int 0, .int (-1), .int 0, .int 0])), (pw, .inr (3, [.int 0, .int 0, .int 0, .int 0, .ref w1, .ref w2, .ref w3])), (mm, .inr (9, [.ref b0, .ref b1, .ref b2, .ref b3, .int 0, .null, .null, .ref b4, .null, .ref b5, .ref b6, .int 0, .int 0, .long 0, .int 0])), (b0, .inr (10, [.int 0, .ref (g 4), .int 0])), (b1, .inr (10, [.int 0, .ref (g 4), .int 0])), (b2, .inr (10, [.int 0, .ref (g 4), .int 0])), (b3, .inr (11, [.null, .null, .null, .null, .int 0, .int 0, .null, .null, .null])), (o, .inl (cJ, 1, .inr (.inl (fun _ => 0)))), (od, .inl (cD, 1, .inr (.inr (.inr (.inl (fun _ => 0))))))] ++ va_pl LP (fun _ => freeE g)) H → va_D (lA z0) ([(x, .inr (0, [.ref a0, .ref a1, .ref a2, .ref a3, .ref a4, .ref a5, .ref a6, .int 0, .int 0, .int 0, .int 0, .int 0, .int 0, .int 0])), (a0, .inl (cP, 10, .inr (.inr (.inr (.inr G0))))), (a1, .inl (cM, 6, .inr (.inr (.inr (.inr G1))))), (a2, .inl (cW, 3, .inr (.inr (.inr (.inr G2))))), (a3, .inl (cE, 100, .inr (.inr (.inr (.inr F))))), (pp, .inr (1, [.int 0, .int 0, .int 0, .int 0, .int (-1), .int (-1)])), (pm, .inr (2, [.int 0, .int 0, .int (-1), .int 0, .int 0])), (pw, .inr (3, [.int 0, .int 0, .int 0, .int 0, .ref w1, .ref w2, .ref w3])), (mm, .inr (9, [.ref b0, .ref b1, .ref b2, .ref b3, .int 0, .null, .null, .ref b4, .null, .ref b5, .ref b6, .int 0, .int 0, .long 0, .int 0])), (b0, .inr (10, [.int 0, .ref (g 4), .int 0])), (b1, .inr (10, [.int 0, .ref (g 4), .int 0])), (b2, .inr (10, [.int 0, .ref (g 4), .int 0])), (b3, .inr (11, [.null, .null, .null, .null, .int 0, .int 0, .null, .null, .null])), (o, .inl (cJ, 1, .inr (.inl (fun _ => 0)))), (od, .inl (cD, 1, .inr (.inr (.inr (.inl (fun _ => 0))))))] ++ va_pl LP (fun _ => freeE g)) → va_S (lA z0) s.heap H locs → ∀ (ls : Array Slot), lv_has ls 9 [(5, .int 0), (4, .ref od), (3, .ref o), (2, .ref mm), (1, .ref x), (0, .ref b)] → W p l e room_1 s m #[Value.ref b] below meth c H locs 199 4528 (lw_Z below #[Value.ref b] s) (F0 m 564 ls []) := by
  subst hL7
  obtain ⟨hx, hb, hr, hml, hown, hts0, hX, hbl, hlocks, hgv⟩ := id C0
  have hown : s.vm.findClass "TheatrehouseLaw" = some m.cls := hown
  have hts : ∀ w ∈ lw_all, w.before #[Value.ref b] s = true := fun w h => hts0 w (List.mem_filter.mp h).1
  have hAz : ∀ q, lA z0 q → z0 ≤ q := fun _ h => h
  have hA : ∀ q : Nat, s.heap.size ≤ q → lA z0 q := fun q h => by show z0 ≤ q; rw [← hz]; exact h
  have hsz : z0 ≤ s.heap.size := Nat.le_of_eq hz.symm
  have hbA : ¬ lA z0 b := by show ¬ z0 ≤ b; rw [← hz]; exact Nat.not_le.mpr hbl
  intro H locs hP hD hS ls hl
  refine lv_aload_n hx hb dL_law_564 rfl (lv_at hl 4 rfl) ?_
  refine lv_aload_n hx hb dL_law_565 rfl (lv_at hl 5 rfl) ?_
  refine lv_iload hx hb dL_law_566 (lv_at hl 0 rfl) ?_
  refine lv_iconst (v := 1) hx hb dL_law_568 (by decide) ?_
  refine lv_iadd hx hb dL_law_569 ?_
  rw [show (0 + 1 : Int32) = 1 by decide]
  refine va_sld (i := 1) hx hb hX hbl hbA hS (by unfold vp_in; decide) dL_law_570 ?_
  refine lv_aload_n hx hb dL_law_571 rfl (lv_at hl 5 rfl) ?_
  refine lv_iload hx hb dL_law_572 (lv_at hl 0 rfl) ?_
  refine lv_iconst (v := 2) hx hb dL_law_574 (by decide) ?_
  refine lv_iadd hx hb dL_law_575 ?_
  rw [show (0 + 2 : Int32) = 2 by decide]
  refine va_sld (i := 2) hx hb hX hbl hbA hS (by unfold vp_in; decide) dL_law_576 ?_
  refine lv_aload_n hx hb dL_law_577 rfl (lv_at hl 2 rfl) ?_
  have hc_1 := hP.sub (ws' := [(x, .inr (0, [.ref a0, .ref a1, .ref a2, .ref a3, .ref a4, .ref a5, .ref a6, .int 0, .int 0, .int 0, .int 0, .int 0, .int 0, .int 0]))]) [0] rfl
  refine va_calli (vx_runSW (As := [.ref x, .int (xs (Int32.toNatClampNeg 1)), .int (xs (Int32.toNatClampNeg 2)), .ref o]) (rest := []) ⟨hx, hb, hml, hown, hts⟩ (met_of (c_L_addWork_b2 l hfl z0 D g x a0 a1 a2 a3 a4 a5 a6 (xs (Int32.toNatClampNeg 1)) (xs (Int32.toNatClampNeg 2)) o h1 h2 h)) (vx_cwSW 4 hts (lw_SW m_738 m_739 m_0 m_740) rfl rfl rfl (by decide +kernel) ⟨(Nat.le_of_ble_eq_true rfl), (Nat.le_of_ble_eq_true rfl)⟩) ⟨PR.blind, PR.pre hE hS hAz hc_1⟩ rfl rfl hl.1 rfl (lv_room (Nat.le_of_ble_eq_true rfl)) dL_law_578 ⟨(Nat.le_of_ble_eq_true rfl), (Nat.le_of_ble_eq_true rfl)⟩) hS nA_B nA_A (fun r_2 u_3 t H locs ht hvm hw hB hz1 hk1 hS => ?_)
  have hP := hP.old hk1
  have hP : va_P D classes ([(x, .inr (0, [.ref a0, .ref a1, .ref a2, .ref a3, .ref a4, .ref a5, .ref a6, .int 0, .int 0, .int 0, .int 0, .int 0, .int 0, .int 0])), (a0, .inl (cP, 10, .inr (.inr (.inr (.inr G0))))), (a1, .inl (cM, 6, .inr (.inr (.inr (.inr G1))))), (a2, .inl (cW, 3, .inr (.inr (.inr (.inr G2))))), (a3, .inl (cE, 100, .inr (.inr (.inr (.inr F))))), (pp, .inr (1, [.int 0, .int 0, .int 0, .int 0, .int (-1), .int (-1)])), (pm, .inr (2, [.int 0, .int 0, .int (-1), .int 0, .int 0])), (pw, .inr (3, [.int 0, .int 0, .int 0, .int 0, .ref w1, .ref w2, .ref w3])), (mm, .inr (9, [.ref b0, .ref b1, .ref b2, .ref b3, .int 0, .null, .null, .ref b4, .null, .ref b5, .ref b6, .int 0, .int 0, .long 0, .int 0])), (b0, .inr (10, [.int 0, .ref (g 4), .int 0])), (b1, .inr (10, [.int 0, .ref (g 4), .int 0])), (b2, .inr (10, [.int 0, .ref (g 4), .int 0])), (b3, .inr (11, [.null, .null, .null, .null, .int 0, .int 0, .null, .null, .null])), (o, .inl (cJ, 1, .inr (.inl (fun _ => 0)))), (od, .inl (cD, 1, .inr (.inr (.inr (.inl (fun _ => 0))))))] ++ va_pl LP (fun _ => freeE g)) H := hP
  subst hw
  refine lv_istore (lv' := [(6, .int 1), (5, .int 0), (4, .ref od), (3, .ref o), (2, .ref mm), (1, .ref x), (0, .ref b)]) hx hb dL_law_581 hl (by decide) rfl (fun ls hl => ?_)
  refine lv_aload_n hx hb dL_law_583 rfl (lv_at hl 4 rfl) ?_
  refine lv_aload_n hx hb dL_law_584 rfl (lv_at hl 6 rfl) ?_
  refine lv_iload hx hb dL_law_585 (lv_at hl 1 rfl) ?_
  refine lv_iconst (v := 1) hx hb dL_law_587 (by decide) ?_
  refine lv_iadd hx hb dL_law_588 ?_
  rw [show (0 + 1 : Int32) = 1 by decide]
  refine va_sld (i := 1) hx hb hX hbl hbA hS (by unfold vp_in; decide) dL_law_589 ?_
  refine lv_aload_n hx hb dL_law_590 rfl (lv_at hl 6 rfl) ?_
  refine lv_iload hx hb dL_law_591 (lv_at hl 1 rfl) ?_
  refine lv_iconst (v := 2) hx hb dL_law_593 (by decide) ?_
  refine lv_iadd hx hb dL_law_594 ?_
  rw [show (0 + 2 : Int32) = 2 by decide]
  refine va_sld (i := 2) hx hb hX hbl hbA hS (by unfold vp_in; decide) dL_law_595 ?_
  have hc_4 := hP.sub (ws' := [(mm, .inr (9, [.ref b0, .ref b1, .ref b2, .ref b3, .int 0, .null, .null, .ref b4, .null, .ref b5, .ref b6, .int 0, .int 0, .long 0, .int 0])), (b0, .inr (10, [.int 0, .ref (g 4), .int 0])), (b1, .inr (10, [.int 0, .ref (g 4), .int 0])), (b2, .inr (10, [.int 0, .ref (g 4), .int 0])), (b3, .inr (11, [.null, .null, .null, .null, .int 0, .int 0, .null, .null, .null]))]) [8, 9, 10, 11, 12] rfl
  have hc_4D := hD.sub (ws' := [(mm, .inr (9, [.ref b0, .ref b1, .ref b2, .ref b3, .int 0, .null, .null, .ref b4, .null, .ref b5, .ref b6, .int 0, .int 0, .long 0, .int 0])), (b0, .inr (10, [.int 0, .ref (g 4), .int 0])), (b1, .inr (10, [.int 0, .ref (g 4), .int 0])), (b2, .inr (10, [.int 0, .ref (g 4), .int 0])), (b3, .inr (11, [.null, .null, .null, .null, .int 0, .int 0, .null, .null, .null]))]) [8, 9, 10, 11, 12] (by decide) rfl
  have hc_4F := va_free (wc := [(mm, .inr (9, [.ref b0, .ref b1, .ref b2, .ref b3, .int 0, .null, .null, .ref b4, .null, .ref b5, .ref b6, .int 0, .int 0, .long 0, .int 0])), (b0, .inr (10, [.int 0, .ref (g 4), .int 0])), (b1, .inr (10, [.int 0, .ref (g 4), .int 0])), (b2, .inr (10, [.int 0, .ref (g 4), .int 0])), (b3, .inr (11, [.null, .null, .null, .null, .int 0, .int 0, .null, .null, .null]))]) hD hS hA [8, 9, 10, 11, 12] rfl
  refine va_calli (va_runV (As := [.int (xs (Int32.toNatClampNeg 1)), .int (xs (Int32.toNatClampNeg 2))]) (rest := []) ⟨hx, hb, hml, hown, hts⟩ (c_X18_addWork_b2 l z0 D g _ mm b0 b1 b2 b3 b4 b5 b6 (xs (Int32.toNatClampNeg 1)) (xs (Int32.toNatClampNeg 2)) h1 h2 h) (cwV 2 hts (lw_V m_1438 m_1439 m_1440 m_12 m_1441) rfl rfl rfl (by decide +kernel) ⟨(Nat.le_of_ble_eq_true rfl), (Nat.le_of_ble_eq_true rfl)⟩) ⟨PM.blind, va_recv hK hP (ci := 9) (q0 := 8) rfl rfl, PM.pre hE hS hAz hsz hc_4 hc_4D⟩ rfl rfl hl.1 rfl (lv_room (Nat.le_of_ble_eq_true rfl)) dL_law_596 ⟨(Nat.le_of_ble_eq_true rfl), (Nat.le_of_ble_eq_true rfl)⟩) hS (fun q _ h => hc_4F q h) hc_4F (fun r_5 u_6 t H locs ht hvm hw hB hz1 hk1 hS => ?_)
  obtain ⟨hP1, hD1⟩ := hB
  rw [ht] at hP1
  obtain ⟨hP, hD⟩ := va_joinQ (X := [(x, .inr (0, [.ref a0, .ref a1, .ref a2, .ref a3, .ref a4, .ref a5, .ref a6, .int 0, .int 0, .int 0, .int 0, .int 0, .int 0, .int 0])), (a0, .inl (cP, 10, .inr (.inr (.inr (.inr G0))))), (a1, .inl (cM, 6, .inr (.inr (.inr (.inr G1))))), (a2, .inl (cW, 3, .inr (.inr (.inr (.inr G2))))), (a3, .inl (cE, 100, .inr (.inr (.inr (.inr F))))), (pp, .inr (1, [.int 0, .int 0, .int 0, .int 0, .int (-1), .int (-1)])), (pm, .inr (2, [.int 0, .int 0, .int (-1), .int 0, .int 0])), (pw, .inr (3, [.int 0, .int 0, .int 0, .int 0, .ref w1, .ref w2, .ref w3])), (mm, .inr (9, [.ref b0, .ref b1, .ref b2, .ref b3, .int 0, .null, .null, .ref b4, .null, .ref b5, .ref b6, .int 0, .int 0, .long 0, .int 0])), (b0, .inr (10, [.int 0, .ref (g 4), .int 0])), (b1, .inr (10, [.int 0, .ref (g 4), .int 0])), (b2, .inr (10, [.int 0, .ref (g 4), .int 0])), (b3, .inr (11, [.null, .null, .null, .null, .int 0, .int 0, .null, .null, .null])), (o, .inl (cJ, 1, .inr (.inl (fun _ => 0)))), (od, .inl (cD, 1, .inr (.inr (.inr (.inl (fun _ => 0))))))]) (wr := [(x, .inr (0, [.ref a0, .ref a1, .ref a2, .ref a3, .ref a4, .ref a5, .ref a6, .int 0, .int 0, .int 0, .int 0, .int 0, .int 0, .int 0])), (a0, .inl (cP, 10, .inr (.inr (.inr (.inr G0))))), (a1, .inl (cM, 6, .inr (.inr (.inr (.inr G1))))), (a2, .inl (cW, 3, .inr (.inr (.inr (.inr G2))))), (a3, .inl (cE, 100, .inr (.inr (.inr (.inr F))))), (pp, .inr (1, [.int 0, .int 0, .int 0, .int 0, .int (-1), .int (-1)])), (pm, .inr (2, [.int 0, .int 0, .int (-1), .int 0, .int 0])), (pw, .inr (3, [.int 0, .int 0, .int 0, .int 0, .ref w1, .ref w2, .ref w3])), (o, .inl (cJ, 1, .inr (.inl (fun _ => 0)))), (od, .inl (cD, 1, .inr (.inr (.inr (.inl (fun _ => 0))))))]) (w1 := [(mm, .inr (9, [.ref b0, .ref b1, .ref b2, .ref b3, .int 0, .null, .null, .ref b4, .null, .ref b5, .ref b6, .int 0, .int 0, .long 0, .int 1]))]) hP hD [8, 9, 10, 11, 12] [0, 1, 2, 3, 4, 5, 6, 7, 13, 14] rfl rfl (by decide) (by decide) hk1 hc_4F hP1 hD1
  have hP : va_P D classes ([(x, .inr (0, [.ref a0, .ref a1, .ref a2, .ref a3, .ref a4, .ref a5, .ref a6, .int 0, .int 0, .int 0, .int 0, .int 0, .int 0, .int 0])), (a0, .inl (cP, 10, .inr (.inr (.inr (.inr G0))))), (a1, .inl (cM, 6, .inr (.inr (.inr (.inr G1))))), (a2, .inl (cW, 3, .inr (.inr (.inr (.inr G2))))), (a3, .inl (cE, 100, .inr (.inr (.inr (.inr F))))), (pp, .inr (1, [.int 0, .int 0, .int 0, .int 0, .int (-1), .int (-1)])), (pm, .inr (2, [.int 0, .int 0, .int (-1), .int 0, .int 0])), (pw, .inr (3, [.int 0, .int 0, .int 0, .int 0, .ref w1, .ref w2, .ref w3])), (o, .inl (cJ, 1, .inr (.inl (fun _ => 0)))), (od, .inl (cD, 1, .inr (.inr (.inr (.inl (fun _ => 0)))))), (mm, .inr (9, [.ref b0, .ref b1, .ref b2, .ref b3, .int 0, .null, .null, .ref b4, .null, .ref b5, .ref b6, .int 0, .int 0, .long 0, .int 1]))] ++ va_pl LP (fun _ => freeE g)) H := hP
  have hD : va_D (lA z0) ([(x, .inr (0, [.ref a0, .ref a1, .ref a2, .ref a3, .ref a4, .ref a5, .ref a6, .int 0, .int 0, .int 0, .int 0, .int 0, .int 0, .int 0])), (a0, .inl (cP, 10, .inr (.inr (.inr (.inr G0))))), (a1, .inl (cM, 6, .inr (.inr (.inr (.inr G1))))), (a2, .inl (cW, 3, .inr (.inr (.inr (.inr G2))))), (a3, .inl (cE, 100, .inr (.inr (.inr (.inr F))))), (pp, .inr (1, [.int 0, .int 0, .int 0, .int 0, .int (-1), .int (-1)])), (pm, .inr (2, [.int 0, .int 0, .int (-1), .int 0, .int 0])), (pw, .inr (3, [.int 0, .int 0, .int 0, .int 0, .ref w1, .ref w2, .ref w3])), (o, .inl (cJ, 1, .inr (.inl (fun _ => 0)))), (od, .inl (cD, 1, .inr (.inr (.inr (.inl (fun _ => 0)))))), (mm, .inr (9, [.ref b0, .ref b1, .ref b2, .ref b3, .int 0, .null, .null, .ref b4, .null, .ref b5, .ref b6, .int 0, .int 0, .long 0, .int 1]))] ++ va_pl LP (fun _ => freeE g)) := hD
  refine lv_istore (lv' := [(7, .int r_5), (6, .int 1), (5, .int 0), (4, .ref od), (3, .ref o), (2, .ref mm), (1, .ref x), (0, .ref b)]) hx hb dL_law_599 hl (by decide) rfl (fun ls hl => ?_)
  refine lv_aload_n hx hb dL_law_601 rfl (lv_at hl 5 rfl) ?_
  have hc_7 := hP.sub (ws' := [(mm, .inr (9, [.ref b0, .ref b1, .ref b2, .ref b3, .int 0, .null, .null, .ref b4, .null, .ref b5, .ref b6, .int 0, .int 0, .long 0, .int 1]))]) [10] rfl
  refine va_calli (va_runV (As := []) (rest := []) ⟨hx, hb, hml, hown, hts⟩ (c_thrown l z0 D g mm b0 b1 b2 b3 b4 b5 b6 1 0) (cwV 0 hts (lw_V m_1229 m_1230 m_1231 m_12 m_1232) rfl rfl rfl (by decide +kernel) ⟨(Nat.le_of_ble_eq_true rfl), (Nat.le_of_ble_eq_true rfl)⟩) ⟨PR.blind, va_recv hK hP (ci := 9) (q0 := 10) rfl rfl, PR.pre hE hS hAz hc_7⟩ rfl rfl hl.1 rfl (lv_room (Nat.le_of_ble_eq_true rfl)) dL_law_602 ⟨(Nat.le_of_ble_eq_true rfl), (Nat.le_of_ble_eq_true rfl)⟩) hS nA_B nA_A (fun r_8 u_9 t H locs ht hvm hw hB hz1 hk1 hS => ?_)
  have hP := hP.old hk1
  have hP : va_P D classes ([(x, .inr (0, [.ref a0, .ref a1, .ref a2, .ref a3, .ref a4, .ref a5, .ref a6, .int 0, .int 0, .int 0, .int 0, .int 0, .int 0, .int 0])), (a0, .inl (cP, 10, .inr (.inr (.inr (.inr G0))))), (a1, .inl (cM, 6, .inr (.inr (.inr (.inr G1))))), (a2, .inl (cW, 3, .inr (.inr (.inr (.inr G2))))), (a3, .inl (cE, 100, .inr (.inr (.inr (.inr F))))), (pp, .inr (1, [.int 0, .int 0, .int 0, .int 0, .int (-1), .int (-1)])), (pm, .inr (2, [.int 0, .int 0, .int (-1), .int 0, .int 0])), (pw, .inr (3, [.int 0, .int 0, .int 0, .int 0, .ref w1, .ref w2, .ref w3])), (o, .inl (cJ, 1, .inr (.inl (fun _ => 0)))), (od, .inl (cD, 1, .inr (.inr (.inr (.inl (fun _ => 0)))))), (mm, .inr (9, [.ref b0, .ref b1, .ref b2, .ref b3, .int 0, .null, .null, .ref b4, .null, .ref b5, .ref b6, .int 0, .int 0, .long 0, .int 1]))] ++ va_pl LP (fun _ => freeE g)) H := hP
  subst hw
  refine lv_iload hx hb dL_law_605 (lv_at hl 1 rfl) ?_
  refine lv_icmp_eq (tgt := 612) hx hb dL_law_607 (by decide) (fun _ => ?_) (fun h9 => absurd (by decide) h9)
  refine lv_iload hx hb dL_law_612 (lv_at hl 1 rfl) ?_
  refine lv_if_ne (tgt := 629) hx hb dL_law_614 (by decide) (fun _ => ?_) (fun h9 => absurd h9 (by decide))
  refine lv_goto (tgt := 2156) hx hb dL_law_629 (by decide) ?_
  exact law_tail (by rfl) C0 hz (Nat.le_of_ble_eq_true rfl) (Nat.le_of_ble_eq_true rfl) hS (lv_sub hl [2, 7] rfl)

set_option maxHeartbeats 4000000 in
set_option maxRecDepth 100000 in
theorem case_5_ok {p : Program} {l : Launch} {e : Env} {s : State} {m : MethodId} {below : List Frame} {meth : Method} {c : Code} {b L : Nat} {xs : Nat → Int32} {z0 : Nat} {D : va_G} {g : Nat → Nat} (hfl : l.stackTraces = false) (hL7 : L = 7) (C0 : lw_At p s m meth c b L xs) (hz : s.heap.size = z0) (hE : EV z0 D g s s.heap) (x a0 a1 a2 a3 a4 a5 a6 pp pm pw w1 w2 w3 mm b0 b1 b2 b3 b4 b5 b6 o od : Nat) (cP cM cW cE cJ cD : ClassId) (G0 G1 G2 F : Nat → Option Nat) (LP : List Nat) (hF0 : G0 0 = some pp) (hF1 : G1 0 = some pm) (hF2 : G2 0 = some pw) (hF3 : ∀ j : Nat, j < 100 → ∃ y : Nat, y ∈ LP ∧ F j = some y) (hK : va_K D classes [(cP, .object "Theatrehouse$Person"), (cM, .object "Theatrehouse$Machine"), (cW, .object "Theatrehouse$Work"), (cE, .object "Theatrehouse$Evening"), (cJ, .long), (cD, .double)] s) (h1 : ¬ (xs (Int32.toNatClampNeg 1)) < 1) (h2 : (xs (Int32.toNatClampNeg 1)) ≤ 5) (h3 : ¬ (xs (Int32.toNatClampNeg 2)) < 1) (h4 : (xs (Int32.toNatClampNeg 2)) ≤ 99) (k : Nat) (hk : k ≤ 5) (ek : (xs (Int32.toNatClampNeg 1)) = nI k) : ∀ (H : Heap) (locs : List Loc), va_P D classes ([(x, .inr (0, [.ref a0, .ref a1, .ref a2, .ref a3, .ref a4, .ref a5, .ref a6, .int 0, .int 0, .int 0, .int 0, .int 0, .int 0, .int 0])), (a0, .inl (cP, 10, .inr (.inr (.inr (.inr G0))))), (a1, .inl (cM, 6, .inr (.inr (.inr (.inr G1))))), (a2, .inl (cW, 3, .inr (.inr (.inr (.inr G2))))), (a3, .inl (cE, 100, .inr (.inr (.inr (.inr F))))), (pp, .inr (1, [.int 0, .int 0, .int 0, .int 0, .int (-1), .int (-1)])), (pm, .inr (2, [.int 0, .int 0, .int (-1), .int 0, .int 0])), (pw, .inr (3, [.int 0, .int 0, .int 0, .int 0, .ref w1, .ref w2, .ref w3])), (mm, .inr (9, [.ref b0, .ref b1, .ref b2, .ref b3, .int 0, .null, .null, .ref b4, .null, .ref b5, .ref b6, .int 0, .int 0, .long 0, .int 0])), (b0, .inr (10, [.int 0, .ref (g 4), .int 0])), (b1, .inr (10, [.int 0, .ref (g 4), .int 0])), (b2, .inr (10, [.int 0, .ref (g 4), .int 0])), (b3, .inr (11, [.null, .null, .null, .null, .int 0, .int 0, .null, .null, .null])), (o, .inl (cJ, 1, .inr (.inl (fun _ => 0)))), (od, .inl (cD, 1, .inr (.inr (.inr (.inl (fun _ => 0))))))] ++ va_pl LP (fun _ => freeE g)) H → va_D (lA z0) ([(x, .inr (0, [.ref a0, .ref a1, .ref a2, .ref a3, .ref a4, .ref a5, .ref a6, .int 0, .int 0, .int 0, .int 0, .int 0, .int 0, .int 0])), (a0, .inl (cP, 10, .inr (.inr (.inr (.inr G0))))), (a1, .inl (cM, 6, .inr (.inr (.inr (.inr G1))))), (a2, .inl (cW, 3, .inr (.inr (.inr (.inr G2))))), (a3, .inl (cE, 100, .inr (.inr (.inr (.inr F))))), (pp, .inr (1, [.int 0, .int 0, .int 0, .int 0, .int (-1), .int (-1)])), (pm, .inr (2, [.int 0, .int 0, .int (-1), .int 0, .int 0])), (pw, .inr (3, [.int 0, .int 0, .int 0, .int 0, .ref w1, .ref w2, .ref w3])), (mm, .inr (9, [.ref b0, .ref b1, .ref b2, .ref b3, .int 0, .null, .null, .ref b4, .null, .ref b5, .ref b6, .int 0, .int 0, .long 0, .int 0])), (b0, .inr (10, [.int 0, .ref (g 4), .int 0])), (b1, .inr (10, [.int 0, .ref (g 4), .int 0])), (b2, .inr (10, [.int 0, .ref (g 4), .int 0])), (b3, .inr (11, [.null, .null, .null, .null, .int 0, .int 0, .null, .null, .null])), (o, .inl (cJ, 1, .inr (.inl (fun _ => 0)))), (od, .inl (cD, 1, .inr (.inr (.inr (.inl (fun _ => 0))))))] ++ va_pl LP (fun _ => freeE g)) → va_S (lA z0) s.heap H locs → ∀ (ls : Array Slot), lv_has ls 9 [(5, .int 0), (4, .ref od), (3, .ref o), (2, .ref mm), (1, .ref x), (0, .ref b)] → W p l e room_1 s m #[Value.ref b] below meth c H locs 199 4528 (lw_Z below #[Value.ref b] s) (F0 m 564 ls []) := by
  subst hL7
  obtain ⟨hx, hb, hr, hml, hown, hts0, hX, hbl, hlocks, hgv⟩ := id C0
  have hown : s.vm.findClass "TheatrehouseLaw" = some m.cls := hown
  have hts : ∀ w ∈ lw_all, w.before #[Value.ref b] s = true := fun w h => hts0 w (List.mem_filter.mp h).1
  have hAz : ∀ q, lA z0 q → z0 ≤ q := fun _ h => h
  have hA : ∀ q : Nat, s.heap.size ≤ q → lA z0 q := fun q h => by show z0 ≤ q; rw [← hz]; exact h
  have hsz : z0 ≤ s.heap.size := Nat.le_of_eq hz.symm
  have hbA : ¬ lA z0 b := by show ¬ z0 ≤ b; rw [← hz]; exact Nat.not_le.mpr hbl
  intro H locs hP hD hS ls hl
  refine lv_aload_n hx hb dL_law_564 rfl (lv_at hl 4 rfl) ?_
  refine lv_aload_n hx hb dL_law_565 rfl (lv_at hl 5 rfl) ?_
  refine lv_iload hx hb dL_law_566 (lv_at hl 0 rfl) ?_
  refine lv_iconst (v := 1) hx hb dL_law_568 (by decide) ?_
  refine lv_iadd hx hb dL_law_569 ?_
  rw [show (0 + 1 : Int32) = 1 by decide]
  refine va_sld (i := 1) hx hb hX hbl hbA hS (by unfold vp_in; decide) dL_law_570 ?_
  refine lv_aload_n hx hb dL_law_571 rfl (lv_at hl 5 rfl) ?_
  refine lv_iload hx hb dL_law_572 (lv_at hl 0 rfl) ?_
  refine lv_iconst (v := 2) hx hb dL_law_574 (by decide) ?_
  refine lv_iadd hx hb dL_law_575 ?_
  rw [show (0 + 2 : Int32) = 2 by decide]
  refine va_sld (i := 2) hx hb hX hbl hbA hS (by unfold vp_in; decide) dL_law_576 ?_
  refine lv_aload_n hx hb dL_law_577 rfl (lv_at hl 2 rfl) ?_
  have hc_1 := hP.sub (ws' := [(x, .inr (0, [.ref a0, .ref a1, .ref a2, .ref a3, .ref a4, .ref a5, .ref a6, .int 0, .int 0, .int 0, .int 0, .int 0, .int 0, .int 0])), (a2, .inl (cW, 3, .inr (.inr (.inr (.inr G2))))), (pw, .inr (3, [.int 0, .int 0, .int 0, .int 0, .ref w1, .ref w2, .ref w3])), (o, .inl (cJ, 1, .inr (.inl (fun _ => 0))))]) [0, 3, 7, 13] rfl
  have hc_1D := hD.sub (ws' := [(x, .inr (0, [.ref a0, .ref a1, .ref a2, .ref a3, .ref a4, .ref a5, .ref a6, .int 0, .int 0, .int 0, .int 0, .int 0, .int 0, .int 0])), (a2, .inl (cW, 3, .inr (.inr (.inr (.inr G2))))), (pw, .inr (3, [.int 0, .int 0, .int 0, .int 0, .ref w1, .ref w2, .ref w3])), (o, .inl (cJ, 1, .inr (.inl (fun _ => 0))))]) [0, 3, 7, 13] (by decide) rfl
  have hc_1F := va_free (wc := [(x, .inr (0, [.ref a0, .ref a1, .ref a2, .ref a3, .ref a4, .ref a5, .ref a6, .int 0, .int 0, .int 0, .int 0, .int 0, .int 0, .int 0])), (a2, .inl (cW, 3, .inr (.inr (.inr (.inr G2))))), (pw, .inr (3, [.int 0, .int 0, .int 0, .int 0, .ref w1, .ref w2, .ref w3])), (o, .inl (cJ, 1, .inr (.inl (fun _ => 0))))]) hD hS hA [0, 3, 7, 13] rfl
  refine va_calli (vx_runSW (As := [.ref x, .int (xs (Int32.toNatClampNeg 1)), .int (xs (Int32.toNatClampNeg 2)), .ref o]) (rest := []) ⟨hx, hb, hml, hown, hts⟩ (met_of (c_L_addWork_ok l hfl z0 D g _ x a0 a1 a2 a3 a4 a5 a6 cW G2 pw w1 w2 w3 cJ (fun _ => 0) (xs (Int32.toNatClampNeg 1)) (xs (Int32.toNatClampNeg 2)) o hF2 h1 h2 h3 h4)) (vx_cwSW 4 hts (lw_SW m_738 m_739 m_0 m_740) rfl rfl rfl (by decide +kernel) ⟨(Nat.le_of_ble_eq_true rfl), (Nat.le_of_ble_eq_true rfl)⟩) ⟨PMT.blind, PMT.pre hE hS hAz hsz hc_1 hc_1D (hK.sub [2, 4] rfl) trivial⟩ rfl rfl hl.1 rfl (lv_room (Nat.le_of_ble_eq_true rfl)) dL_law_578 ⟨(Nat.le_of_ble_eq_true rfl), (Nat.le_of_ble_eq_true rfl)⟩) hS (fun q _ h => hc_1F q h) hc_1F (fun r_2 u_3 t H locs ht hvm hw hB hz1 hk1 hS => ?_)
  obtain ⟨hP1, hD1⟩ := hB
  rw [ht] at hP1
  obtain ⟨hP, hD⟩ := va_joinQ (X := [(x, .inr (0, [.ref a0, .ref a1, .ref a2, .ref a3, .ref a4, .ref a5, .ref a6, .int 0, .int 0, .int 0, .int 0, .int 0, .int 0, .int 0])), (a0, .inl (cP, 10, .inr (.inr (.inr (.inr G0))))), (a1, .inl (cM, 6, .inr (.inr (.inr (.inr G1))))), (a2, .inl (cW, 3, .inr (.inr (.inr (.inr G2))))), (a3, .inl (cE, 100, .inr (.inr (.inr (.inr F))))), (pp, .inr (1, [.int 0, .int 0, .int 0, .int 0, .int (-1), .int (-1)])), (pm, .inr (2, [.int 0, .int 0, .int (-1), .int 0, .int 0])), (pw, .inr (3, [.int 0, .int 0, .int 0, .int 0, .ref w1, .ref w2, .ref w3])), (mm, .inr (9, [.ref b0, .ref b1, .ref b2, .ref b3, .int 0, .null, .null, .ref b4, .null, .ref b5, .ref b6, .int 0, .int 0, .long 0, .int 0])), (b0, .inr (10, [.int 0, .ref (g 4), .int 0])), (b1, .inr (10, [.int 0, .ref (g 4), .int 0])), (b2, .inr (10, [.int 0, .ref (g 4), .int 0])), (b3, .inr (11, [.null, .null, .null, .null, .int 0, .int 0, .null, .null, .null])), (o, .inl (cJ, 1, .inr (.inl (fun _ => 0)))), (od, .inl (cD, 1, .inr (.inr (.inr (.inl (fun _ => 0))))))]) (wr := [(a0, .inl (cP, 10, .inr (.inr (.inr (.inr G0))))), (a1, .inl (cM, 6, .inr (.inr (.inr (.inr G1))))), (a3, .inl (cE, 100, .inr (.inr (.inr (.inr F))))), (pp, .inr (1, [.int 0, .int 0, .int 0, .int 0, .int (-1), .int (-1)])), (pm, .inr (2, [.int 0, .int 0, .int (-1), .int 0, .int 0])), (mm, .inr (9, [.ref b0, .ref b1, .ref b2, .ref b3, .int 0, .null, .null, .ref b4, .null, .ref b5, .ref b6, .int 0, .int 0, .long 0, .int 0])), (b0, .inr (10, [.int 0, .ref (g 4), .int 0])), (b1, .inr (10, [.int 0, .ref (g 4), .int 0])), (b2, .inr (10, [.int 0, .ref (g 4), .int 0])), (b3, .inr (11, [.null, .null, .null, .null, .int 0, .int 0, .null, .null, .null])), (od, .inl (cD, 1, .inr (.inr (.inr (.inl (fun _ => 0))))))]) (w1 := [(o, .inl (cJ, 1, .inr (.inl (vp_updL (fun _ => 0) (Int32.toNatClampNeg 0) (0)))))]) hP hD [0, 3, 7, 13] [1, 2, 4, 5, 6, 8, 9, 10, 11, 12, 14] rfl rfl (by decide) (by decide) hk1 hc_1F hP1 hD1
  have hP : va_P D classes ([(a0, .inl (cP, 10, .inr (.inr (.inr (.inr G0))))), (a1, .inl (cM, 6, .inr (.inr (.inr (.inr G1))))), (a3, .inl (cE, 100, .inr (.inr (.inr (.inr F))))), (pp, .inr (1, [.int 0, .int 0, .int 0, .int 0, .int (-1), .int (-1)])), (pm, .inr (2, [.int 0, .int 0, .int (-1), .int 0, .int 0])), (mm, .inr (9, [.ref b0, .ref b1, .ref b2, .ref b3, .int 0, .null, .null, .ref b4, .null, .ref b5, .ref b6, .int 0, .int 0, .long 0, .int 0])), (b0, .inr (10, [.int 0, .ref (g 4), .int 0])), (b1, .inr (10, [.int 0, .ref (g 4), .int 0])), (b2, .inr (10, [.int 0, .ref (g 4), .int 0])), (b3, .inr (11, [.null, .null, .null, .null, .int 0, .int 0, .null, .null, .null])), (od, .inl (cD, 1, .inr (.inr (.inr (.inl (fun _ => 0)))))), (o, .inl (cJ, 1, .inr (.inl (vp_updL (fun _ => 0) (Int32.toNatClampNeg 0) (0)))))] ++ va_pl LP (fun _ => freeE g)) H := hP
  have hD : va_D (lA z0) ([(a0, .inl (cP, 10, .inr (.inr (.inr (.inr G0))))), (a1, .inl (cM, 6, .inr (.inr (.inr (.inr G1))))), (a3, .inl (cE, 100, .inr (.inr (.inr (.inr F))))), (pp, .inr (1, [.int 0, .int 0, .int 0, .int 0, .int (-1), .int (-1)])), (pm, .inr (2, [.int 0, .int 0, .int (-1), .int 0, .int 0])), (mm, .inr (9, [.ref b0, .ref b1, .ref b2, .ref b3, .int 0, .null, .null, .ref b4, .null, .ref b5, .ref b6, .int 0, .int 0, .long 0, .int 0])), (b0, .inr (10, [.int 0, .ref (g 4), .int 0])), (b1, .inr (10, [.int 0, .ref (g 4), .int 0])), (b2, .inr (10, [.int 0, .ref (g 4), .int 0])), (b3, .inr (11, [.null, .null, .null, .null, .int 0, .int 0, .null, .null, .null])), (od, .inl (cD, 1, .inr (.inr (.inr (.inl (fun _ => 0)))))), (o, .inl (cJ, 1, .inr (.inl (vp_updL (fun _ => 0) (Int32.toNatClampNeg 0) (0)))))] ++ va_pl LP (fun _ => freeE g)) := hD
  subst hw
  refine lv_istore (lv' := [(6, .int 0), (5, .int 0), (4, .ref od), (3, .ref o), (2, .ref mm), (1, .ref x), (0, .ref b)]) hx hb dL_law_581 hl (by decide) rfl (fun ls hl => ?_)
  refine lv_aload_n hx hb dL_law_583 rfl (lv_at hl 4 rfl) ?_
  refine lv_aload_n hx hb dL_law_584 rfl (lv_at hl 6 rfl) ?_
  refine lv_iload hx hb dL_law_585 (lv_at hl 1 rfl) ?_
  refine lv_iconst (v := 1) hx hb dL_law_587 (by decide) ?_
  refine lv_iadd hx hb dL_law_588 ?_
  rw [show (0 + 1 : Int32) = 1 by decide]
  refine va_sld (i := 1) hx hb hX hbl hbA hS (by unfold vp_in; decide) dL_law_589 ?_
  refine lv_aload_n hx hb dL_law_590 rfl (lv_at hl 6 rfl) ?_
  refine lv_iload hx hb dL_law_591 (lv_at hl 1 rfl) ?_
  refine lv_iconst (v := 2) hx hb dL_law_593 (by decide) ?_
  refine lv_iadd hx hb dL_law_594 ?_
  rw [show (0 + 2 : Int32) = 2 by decide]
  refine va_sld (i := 2) hx hb hX hbl hbA hS (by unfold vp_in; decide) dL_law_595 ?_
  have hc_4 := hP.sub (ws' := [(mm, .inr (9, [.ref b0, .ref b1, .ref b2, .ref b3, .int 0, .null, .null, .ref b4, .null, .ref b5, .ref b6, .int 0, .int 0, .long 0, .int 0])), (b0, .inr (10, [.int 0, .ref (g 4), .int 0])), (b1, .inr (10, [.int 0, .ref (g 4), .int 0])), (b2, .inr (10, [.int 0, .ref (g 4), .int 0])), (b3, .inr (11, [.null, .null, .null, .null, .int 0, .int 0, .null, .null, .null]))]) [5, 6, 7, 8, 9] rfl
  have hc_4D := hD.sub (ws' := [(mm, .inr (9, [.ref b0, .ref b1, .ref b2, .ref b3, .int 0, .null, .null, .ref b4, .null, .ref b5, .ref b6, .int 0, .int 0, .long 0, .int 0])), (b0, .inr (10, [.int 0, .ref (g 4), .int 0])), (b1, .inr (10, [.int 0, .ref (g 4), .int 0])), (b2, .inr (10, [.int 0, .ref (g 4), .int 0])), (b3, .inr (11, [.null, .null, .null, .null, .int 0, .int 0, .null, .null, .null]))]) [5, 6, 7, 8, 9] (by decide) rfl
  have hc_4F := va_free (wc := [(mm, .inr (9, [.ref b0, .ref b1, .ref b2, .ref b3, .int 0, .null, .null, .ref b4, .null, .ref b5, .ref b6, .int 0, .int 0, .long 0, .int 0])), (b0, .inr (10, [.int 0, .ref (g 4), .int 0])), (b1, .inr (10, [.int 0, .ref (g 4), .int 0])), (b2, .inr (10, [.int 0, .ref (g 4), .int 0])), (b3, .inr (11, [.null, .null, .null, .null, .int 0, .int 0, .null, .null, .null]))]) hD hS hA [5, 6, 7, 8, 9] rfl
  refine va_calli (va_runV (As := [.int (xs (Int32.toNatClampNeg 1)), .int (xs (Int32.toNatClampNeg 2))]) (rest := []) ⟨hx, hb, hml, hown, hts⟩ (c_X18_addWork_ok l z0 D g _ mm b0 b1 b2 b3 b4 b5 b6 (xs (Int32.toNatClampNeg 1)) (xs (Int32.toNatClampNeg 2)) h1 h2 h3 h4 k hk ek) (cwV 2 hts (lw_V m_1438 m_1439 m_1440 m_12 m_1441) rfl rfl rfl (by decide +kernel) ⟨(Nat.le_of_ble_eq_true rfl), (Nat.le_of_ble_eq_true rfl)⟩) ⟨PM.blind, va_recv hK hP (ci := 9) (q0 := 5) rfl rfl, PM.pre hE hS hAz hsz hc_4 hc_4D⟩ rfl rfl hl.1 rfl (lv_room (Nat.le_of_ble_eq_true rfl)) dL_law_596 ⟨(Nat.le_of_ble_eq_true rfl), (Nat.le_of_ble_eq_true rfl)⟩) hS (fun q _ h => hc_4F q h) hc_4F (fun r_5 u_6 t H locs ht hvm hw hB hz1 hk1 hS => ?_)
  obtain ⟨hP1, hD1⟩ := hB
  rw [ht] at hP1
  obtain ⟨hP, hD⟩ := va_joinQ (X := [(a0, .inl (cP, 10, .inr (.inr (.inr (.inr G0))))), (a1, .inl (cM, 6, .inr (.inr (.inr (.inr G1))))), (a3, .inl (cE, 100, .inr (.inr (.inr (.inr F))))), (pp, .inr (1, [.int 0, .int 0, .int 0, .int 0, .int (-1), .int (-1)])), (pm, .inr (2, [.int 0, .int 0, .int (-1), .int 0, .int 0])), (mm, .inr (9, [.ref b0, .ref b1, .ref b2, .ref b3, .int 0, .null, .null, .ref b4, .null, .ref b5, .ref b6, .int 0, .int 0, .long 0, .int 0])), (b0, .inr (10, [.int 0, .ref (g 4), .int 0])), (b1, .inr (10, [.int 0, .ref (g 4), .int 0])), (b2, .inr (10, [.int 0, .ref (g 4), .int 0])), (b3, .inr (11, [.null, .null, .null, .null, .int 0, .int 0, .null, .null, .null])), (od, .inl (cD, 1, .inr (.inr (.inr (.inl (fun _ => 0)))))), (o, .inl (cJ, 1, .inr (.inl (vp_updL (fun _ => 0) (Int32.toNatClampNeg 0) (0)))))]) (wr := [(a0, .inl (cP, 10, .inr (.inr (.inr (.inr G0))))), (a1, .inl (cM, 6, .inr (.inr (.inr (.inr G1))))), (a3, .inl (cE, 100, .inr (.inr (.inr (.inr F))))), (pp, .inr (1, [.int 0, .int 0, .int 0, .int 0, .int (-1), .int (-1)])), (pm, .inr (2, [.int 0, .int 0, .int (-1), .int 0, .int 0])), (od, .inl (cD, 1, .inr (.inr (.inr (.inl (fun _ => 0)))))), (o, .inl (cJ, 1, .inr (.inl (vp_updL (fun _ => 0) (Int32.toNatClampNeg 0) (0)))))]) (w1 := [(mm, .inr (9, [.ref b0, .ref b1, .ref b2, .ref b3, .int 0, .null, .null, .ref b4, .null, .ref b5, .ref b6, .int 0, .int 0, .long 0, .int 0]))]) hP hD [5, 6, 7, 8, 9] [0, 1, 2, 3, 4, 10, 11] rfl rfl (by decide) (by decide) hk1 hc_4F hP1 hD1
  have hP : va_P D classes ([(a0, .inl (cP, 10, .inr (.inr (.inr (.inr G0))))), (a1, .inl (cM, 6, .inr (.inr (.inr (.inr G1))))), (a3, .inl (cE, 100, .inr (.inr (.inr (.inr F))))), (pp, .inr (1, [.int 0, .int 0, .int 0, .int 0, .int (-1), .int (-1)])), (pm, .inr (2, [.int 0, .int 0, .int (-1), .int 0, .int 0])), (od, .inl (cD, 1, .inr (.inr (.inr (.inl (fun _ => 0)))))), (o, .inl (cJ, 1, .inr (.inl (vp_updL (fun _ => 0) (Int32.toNatClampNeg 0) (0))))), (mm, .inr (9, [.ref b0, .ref b1, .ref b2, .ref b3, .int 0, .null, .null, .ref b4, .null, .ref b5, .ref b6, .int 0, .int 0, .long 0, .int 0]))] ++ va_pl LP (fun _ => freeE g)) H := hP
  have hD : va_D (lA z0) ([(a0, .inl (cP, 10, .inr (.inr (.inr (.inr G0))))), (a1, .inl (cM, 6, .inr (.inr (.inr (.inr G1))))), (a3, .inl (cE, 100, .inr (.inr (.inr (.inr F))))), (pp, .inr (1, [.int 0, .int 0, .int 0, .int 0, .int (-1), .int (-1)])), (pm, .inr (2, [.int 0, .int 0, .int (-1), .int 0, .int 0])), (od, .inl (cD, 1, .inr (.inr (.inr (.inl (fun _ => 0)))))), (o, .inl (cJ, 1, .inr (.inl (vp_updL (fun _ => 0) (Int32.toNatClampNeg 0) (0))))), (mm, .inr (9, [.ref b0, .ref b1, .ref b2, .ref b3, .int 0, .null, .null, .ref b4, .null, .ref b5, .ref b6, .int 0, .int 0, .long 0, .int 0]))] ++ va_pl LP (fun _ => freeE g)) := hD
  subst hw
  refine lv_istore (lv' := [(7, .int 0), (6, .int 0), (5, .int 0), (4, .ref od), (3, .ref o), (2, .ref mm), (1, .ref x), (0, .ref b)]) hx hb dL_law_599 hl (by decide) rfl (fun ls hl => ?_)
  refine lv_aload_n hx hb dL_law_601 rfl (lv_at hl 5 rfl) ?_
  have hc_7 := hP.sub (ws' := [(mm, .inr (9, [.ref b0, .ref b1, .ref b2, .ref b3, .int 0, .null, .null, .ref b4, .null, .ref b5, .ref b6, .int 0, .int 0, .long 0, .int 0]))]) [7] rfl
  refine va_calli (va_runV (As := []) (rest := []) ⟨hx, hb, hml, hown, hts⟩ (c_thrown l z0 D g mm b0 b1 b2 b3 b4 b5 b6 0 0) (cwV 0 hts (lw_V m_1229 m_1230 m_1231 m_12 m_1232) rfl rfl rfl (by decide +kernel) ⟨(Nat.le_of_ble_eq_true rfl), (Nat.le_of_ble_eq_true rfl)⟩) ⟨PR.blind, va_recv hK hP (ci := 9) (q0 := 7) rfl rfl, PR.pre hE hS hAz hc_7⟩ rfl rfl hl.1 rfl (lv_room (Nat.le_of_ble_eq_true rfl)) dL_law_602 ⟨(Nat.le_of_ble_eq_true rfl), (Nat.le_of_ble_eq_true rfl)⟩) hS nA_B nA_A (fun r_8 u_9 t H locs ht hvm hw hB hz1 hk1 hS => ?_)
  have hP := hP.old hk1
  have hP : va_P D classes ([(a0, .inl (cP, 10, .inr (.inr (.inr (.inr G0))))), (a1, .inl (cM, 6, .inr (.inr (.inr (.inr G1))))), (a3, .inl (cE, 100, .inr (.inr (.inr (.inr F))))), (pp, .inr (1, [.int 0, .int 0, .int 0, .int 0, .int (-1), .int (-1)])), (pm, .inr (2, [.int 0, .int 0, .int (-1), .int 0, .int 0])), (od, .inl (cD, 1, .inr (.inr (.inr (.inl (fun _ => 0)))))), (o, .inl (cJ, 1, .inr (.inl (vp_updL (fun _ => 0) (Int32.toNatClampNeg 0) (0))))), (mm, .inr (9, [.ref b0, .ref b1, .ref b2, .ref b3, .int 0, .null, .null, .ref b4, .null, .ref b5, .ref b6, .int 0, .int 0, .long 0, .int 0]))] ++ va_pl LP (fun _ => freeE g)) H := hP
  subst hw
  refine lv_iload hx hb dL_law_605 (lv_at hl 1 rfl) ?_
  refine lv_icmp_eq (tgt := 612) hx hb dL_law_607 (by decide) (fun _ => ?_) (fun h9 => absurd (by decide) h9)
  refine lv_iload hx hb dL_law_612 (lv_at hl 1 rfl) ?_
  refine lv_if_ne (tgt := 629) hx hb dL_law_614 (by decide) (fun h9 => absurd (by decide) h9) (fun _ => ?_)
  refine lv_aload_n hx hb dL_law_617 rfl (lv_at hl 4 rfl) ?_
  refine lv_iconst (v := 0) hx hb dL_law_618 (by decide) ?_
  refine va_lald (i := 0) hx hb hK hP 6 4 rfl rfl (by unfold vp_in; decide) dL_law_619 ?_
  rw [show (vp_updL (fun _ => 0) (Int32.toNatClampNeg 0) (0)) (Int32.toNatClampNeg 0) = (0) by simp [vp_updL]]
  refine lv_iload hx hb dL_law_620 (lv_at hl 0 rfl) ?_
  refine lv_i2l (v := (0)) hx hb dL_law_622 (by decide) ?_
  refine W.lcmp hx hb dL_law_623 ?_
  refine lv_if_eq (tgt := 629) hx hb dL_law_624 (by decide) (fun _ => ?_) (fun h9 => absurd ((lg_cmp_eq _ _).mpr rfl) h9)
  refine lv_goto (tgt := 2156) hx hb dL_law_629 (by decide) ?_
  exact law_tail (by rfl) C0 hz (Nat.le_of_ble_eq_true rfl) (Nat.le_of_ble_eq_true rfl) hS (lv_sub hl [2, 7] rfl)

set_option maxHeartbeats 4000000 in
set_option maxRecDepth 100000 in
theorem case_6 {p : Program} {l : Launch} {e : Env} {s : State} {m : MethodId} {below : List Frame} {meth : Method} {c : Code} {b L : Nat} {xs : Nat → Int32} {z0 : Nat} {D : va_G} {g : Nat → Nat} (hfl : l.stackTraces = false) (hL7 : L = 7) (C0 : lw_At p s m meth c b L xs) (hz : s.heap.size = z0) (hE : EV z0 D g s s.heap) (x a0 a1 a2 a3 a4 a5 a6 pp pm pw w1 w2 w3 mm b0 b1 b2 b3 b4 b5 b6 o od : Nat) (cP cM cW cE cJ cD : ClassId) (G0 G1 G2 F : Nat → Option Nat) (LP : List Nat) (hF0 : G0 0 = some pp) (hF1 : G1 0 = some pm) (hF2 : G2 0 = some pw) (hF3 : ∀ j : Nat, j < 100 → ∃ y : Nat, y ∈ LP ∧ F j = some y) (hK : va_K D classes [(cP, .object "Theatrehouse$Person"), (cM, .object "Theatrehouse$Machine"), (cW, .object "Theatrehouse$Work"), (cE, .object "Theatrehouse$Evening"), (cJ, .long), (cD, .double)] s)  : ∀ (H : Heap) (locs : List Loc), va_P D classes ([(x, .inr (0, [.ref a0, .ref a1, .ref a2, .ref a3, .ref a4, .ref a5, .ref a6, .int 0, .int 0, .int 0, .int 0, .int 0, .int 0, .int 0])), (a0, .inl (cP, 10, .inr (.inr (.inr (.inr G0))))), (a1, .inl (cM, 6, .inr (.inr (.inr (.inr G1))))), (a2, .inl (cW, 3, .inr (.inr (.inr (.inr G2))))), (a3, .inl (cE, 100, .inr (.inr (.inr (.inr F))))), (pp, .inr (1, [.int 0, .int 0, .int 0, .int 0, .int (-1), .int (-1)])), (pm, .inr (2, [.int 0, .int 0, .int (-1), .int 0, .int 0])), (pw, .inr (3, [.int 0, .int 0, .int 0, .int 0, .ref w1, .ref w2, .ref w3])), (mm, .inr (9, [.ref b0, .ref b1, .ref b2, .ref b3, .int 0, .null, .null, .ref b4, .null, .ref b5, .ref b6, .int 0, .int 0, .long 0, .int 0])), (b0, .inr (10, [.int 0, .ref (g 4), .int 0])), (b1, .inr (10, [.int 0, .ref (g 4), .int 0])), (b2, .inr (10, [.int 0, .ref (g 4), .int 0])), (b3, .inr (11, [.null, .null, .null, .null, .int 0, .int 0, .null, .null, .null])), (o, .inl (cJ, 1, .inr (.inl (fun _ => 0)))), (od, .inl (cD, 1, .inr (.inr (.inr (.inl (fun _ => 0))))))] ++ va_pl LP (fun _ => freeE g)) H → va_D (lA z0) ([(x, .inr (0, [.ref a0, .ref a1, .ref a2, .ref a3, .ref a4, .ref a5, .ref a6, .int 0, .int 0, .int 0, .int 0, .int 0, .int 0, .int 0])), (a0, .inl (cP, 10, .inr (.inr (.inr (.inr G0))))), (a1, .inl (cM, 6, .inr (.inr (.inr (.inr G1))))), (a2, .inl (cW, 3, .inr (.inr (.inr (.inr G2))))), (a3, .inl (cE, 100, .inr (.inr (.inr (.inr F))))), (pp, .inr (1, [.int 0, .int 0, .int 0, .int 0, .int (-1), .int (-1)])), (pm, .inr (2, [.int 0, .int 0, .int (-1), .int 0, .int 0])), (pw, .inr (3, [.int 0, .int 0, .int 0, .int 0, .ref w1, .ref w2, .ref w3])), (mm, .inr (9, [.ref b0, .ref b1, .ref b2, .ref b3, .int 0, .null, .null, .ref b4, .null, .ref b5, .ref b6, .int 0, .int 0, .long 0, .int 0])), (b0, .inr (10, [.int 0, .ref (g 4), .int 0])), (b1, .inr (10, [.int 0, .ref (g 4), .int 0])), (b2, .inr (10, [.int 0, .ref (g 4), .int 0])), (b3, .inr (11, [.null, .null, .null, .null, .int 0, .int 0, .null, .null, .null])), (o, .inl (cJ, 1, .inr (.inl (fun _ => 0)))), (od, .inl (cD, 1, .inr (.inr (.inr (.inl (fun _ => 0))))))] ++ va_pl LP (fun _ => freeE g)) → va_S (lA z0) s.heap H locs → ∀ (ls : Array Slot), lv_has ls 9 [(5, .int 0), (4, .ref od), (3, .ref o), (2, .ref mm), (1, .ref x), (0, .ref b)] → W p l e room_1 s m #[Value.ref b] below meth c H locs 199 4528 (lw_Z below #[Value.ref b] s) (F0 m 632 ls []) := by
  subst hL7
  obtain ⟨hx, hb, hr, hml, hown, hts0, hX, hbl, hlocks, hgv⟩ := id C0
  have hown : s.vm.findClass "TheatrehouseLaw" = some m.cls := hown
  have hts : ∀ w ∈ lw_all, w.before #[Value.ref b] s = true := fun w h => hts0 w (List.mem_filter.mp h).1
  have hAz : ∀ q, lA z0 q → z0 ≤ q := fun _ h => h
  have hA : ∀ q : Nat, s.heap.size ≤ q → lA z0 q := fun q h => by show z0 ≤ q; rw [← hz]; exact h
  have hsz : z0 ≤ s.heap.size := Nat.le_of_eq hz.symm
  have hbA : ¬ lA z0 b := by show ¬ z0 ≤ b; rw [← hz]; exact Nat.not_le.mpr hbl
  intro H locs hP hD hS ls hl
  refine lv_aload_n hx hb dL_law_632 rfl (lv_at hl 4 rfl) ?_
  refine lv_aload_n hx hb dL_law_633 rfl (lv_at hl 5 rfl) ?_
  refine lv_iload hx hb dL_law_634 (lv_at hl 0 rfl) ?_
  refine lv_iconst (v := 1) hx hb dL_law_636 (by decide) ?_
  refine lv_iadd hx hb dL_law_637 ?_
  rw [show (0 + 1 : Int32) = 1 by decide]
  refine va_sld (i := 1) hx hb hX hbl hbA hS (by unfold vp_in; decide) dL_law_638 ?_
  refine lv_aload_n hx hb dL_law_639 rfl (lv_at hl 5 rfl) ?_
  refine lv_iload hx hb dL_law_640 (lv_at hl 0 rfl) ?_
  refine lv_iconst (v := 2) hx hb dL_law_642 (by decide) ?_
  refine lv_iadd hx hb dL_law_643 ?_
  rw [show (0 + 2 : Int32) = 2 by decide]
  refine va_sld (i := 2) hx hb hX hbl hbA hS (by unfold vp_in; decide) dL_law_644 ?_
  refine lv_aload_n hx hb dL_law_645 rfl (lv_at hl 5 rfl) ?_
  refine lv_iload hx hb dL_law_646 (lv_at hl 0 rfl) ?_
  refine lv_iconst (v := 3) hx hb dL_law_648 (by decide) ?_
  refine lv_iadd hx hb dL_law_649 ?_
  rw [show (0 + 3 : Int32) = 3 by decide]
  refine va_sld (i := 3) hx hb hX hbl hbA hS (by unfold vp_in; decide) dL_law_650 ?_
  refine lv_aload_n hx hb dL_law_651 rfl (lv_at hl 2 rfl) ?_
  have hc_1 := hP.sub (ws' := [(x, .inr (0, [.ref a0, .ref a1, .ref a2, .ref a3, .ref a4, .ref a5, .ref a6, .int 0, .int 0, .int 0, .int 0, .int 0, .int 0, .int 0]))]) [0] rfl
  refine va_calli (vx_runSW (As := [.ref x, .int (xs (Int32.toNatClampNeg 1)), .int (xs (Int32.toNatClampNeg 2)), .int (xs (Int32.toNatClampNeg 3)), .ref o]) (rest := []) ⟨hx, hb, hml, hown, hts⟩ (met_of (c_L_setRole l hfl z0 D g x a0 a1 a2 a3 a4 a5 a6 (xs (Int32.toNatClampNeg 1)) (xs (Int32.toNatClampNeg 2)) (xs (Int32.toNatClampNeg 3)) o)) (vx_cwSW 5 hts (lw_SW m_745 m_746 m_0 m_747) rfl rfl rfl (by decide +kernel) ⟨(Nat.le_of_ble_eq_true rfl), (Nat.le_of_ble_eq_true rfl)⟩) ⟨PR.blind, PR.pre hE hS hAz hc_1⟩ rfl rfl hl.1 rfl (lv_room (Nat.le_of_ble_eq_true rfl)) dL_law_652 ⟨(Nat.le_of_ble_eq_true rfl), (Nat.le_of_ble_eq_true rfl)⟩) hS nA_B nA_A (fun r_2 u_3 t H locs ht hvm hw hB hz1 hk1 hS => ?_)
  have hP := hP.old hk1
  have hP : va_P D classes ([(x, .inr (0, [.ref a0, .ref a1, .ref a2, .ref a3, .ref a4, .ref a5, .ref a6, .int 0, .int 0, .int 0, .int 0, .int 0, .int 0, .int 0])), (a0, .inl (cP, 10, .inr (.inr (.inr (.inr G0))))), (a1, .inl (cM, 6, .inr (.inr (.inr (.inr G1))))), (a2, .inl (cW, 3, .inr (.inr (.inr (.inr G2))))), (a3, .inl (cE, 100, .inr (.inr (.inr (.inr F))))), (pp, .inr (1, [.int 0, .int 0, .int 0, .int 0, .int (-1), .int (-1)])), (pm, .inr (2, [.int 0, .int 0, .int (-1), .int 0, .int 0])), (pw, .inr (3, [.int 0, .int 0, .int 0, .int 0, .ref w1, .ref w2, .ref w3])), (mm, .inr (9, [.ref b0, .ref b1, .ref b2, .ref b3, .int 0, .null, .null, .ref b4, .null, .ref b5, .ref b6, .int 0, .int 0, .long 0, .int 0])), (b0, .inr (10, [.int 0, .ref (g 4), .int 0])), (b1, .inr (10, [.int 0, .ref (g 4), .int 0])), (b2, .inr (10, [.int 0, .ref (g 4), .int 0])), (b3, .inr (11, [.null, .null, .null, .null, .int 0, .int 0, .null, .null, .null])), (o, .inl (cJ, 1, .inr (.inl (fun _ => 0)))), (od, .inl (cD, 1, .inr (.inr (.inr (.inl (fun _ => 0))))))] ++ va_pl LP (fun _ => freeE g)) H := hP
  subst hw
  refine lv_istore (lv' := [(6, .int 1), (5, .int 0), (4, .ref od), (3, .ref o), (2, .ref mm), (1, .ref x), (0, .ref b)]) hx hb dL_law_655 hl (by decide) rfl (fun ls hl => ?_)
  refine lv_aload_n hx hb dL_law_657 rfl (lv_at hl 4 rfl) ?_
  refine lv_aload_n hx hb dL_law_658 rfl (lv_at hl 6 rfl) ?_
  refine lv_iload hx hb dL_law_659 (lv_at hl 1 rfl) ?_
  refine lv_iconst (v := 1) hx hb dL_law_661 (by decide) ?_
  refine lv_iadd hx hb dL_law_662 ?_
  rw [show (0 + 1 : Int32) = 1 by decide]
  refine va_sld (i := 1) hx hb hX hbl hbA hS (by unfold vp_in; decide) dL_law_663 ?_
  refine lv_aload_n hx hb dL_law_664 rfl (lv_at hl 6 rfl) ?_
  refine lv_iload hx hb dL_law_665 (lv_at hl 1 rfl) ?_
  refine lv_iconst (v := 2) hx hb dL_law_667 (by decide) ?_
  refine lv_iadd hx hb dL_law_668 ?_
  rw [show (0 + 2 : Int32) = 2 by decide]
  refine va_sld (i := 2) hx hb hX hbl hbA hS (by unfold vp_in; decide) dL_law_669 ?_
  refine lv_aload_n hx hb dL_law_670 rfl (lv_at hl 6 rfl) ?_
  refine lv_iload hx hb dL_law_671 (lv_at hl 1 rfl) ?_
  refine lv_iconst (v := 3) hx hb dL_law_673 (by decide) ?_
  refine lv_iadd hx hb dL_law_674 ?_
  rw [show (0 + 3 : Int32) = 3 by decide]
  refine va_sld (i := 3) hx hb hX hbl hbA hS (by unfold vp_in; decide) dL_law_675 ?_
  have hc_4 := hP.sub (ws' := [(mm, .inr (9, [.ref b0, .ref b1, .ref b2, .ref b3, .int 0, .null, .null, .ref b4, .null, .ref b5, .ref b6, .int 0, .int 0, .long 0, .int 0])), (b0, .inr (10, [.int 0, .ref (g 4), .int 0])), (b1, .inr (10, [.int 0, .ref (g 4), .int 0])), (b2, .inr (10, [.int 0, .ref (g 4), .int 0])), (b3, .inr (11, [.null, .null, .null, .null, .int 0, .int 0, .null, .null, .null]))]) [8, 9, 10, 11, 12] rfl
  have hc_4D := hD.sub (ws' := [(mm, .inr (9, [.ref b0, .ref b1, .ref b2, .ref b3, .int 0, .null, .null, .ref b4, .null, .ref b5, .ref b6, .int 0, .int 0, .long 0, .int 0])), (b0, .inr (10, [.int 0, .ref (g 4), .int 0])), (b1, .inr (10, [.int 0, .ref (g 4), .int 0])), (b2, .inr (10, [.int 0, .ref (g 4), .int 0])), (b3, .inr (11, [.null, .null, .null, .null, .int 0, .int 0, .null, .null, .null]))]) [8, 9, 10, 11, 12] (by decide) rfl
  have hc_4F := va_free (wc := [(mm, .inr (9, [.ref b0, .ref b1, .ref b2, .ref b3, .int 0, .null, .null, .ref b4, .null, .ref b5, .ref b6, .int 0, .int 0, .long 0, .int 0])), (b0, .inr (10, [.int 0, .ref (g 4), .int 0])), (b1, .inr (10, [.int 0, .ref (g 4), .int 0])), (b2, .inr (10, [.int 0, .ref (g 4), .int 0])), (b3, .inr (11, [.null, .null, .null, .null, .int 0, .int 0, .null, .null, .null]))]) hD hS hA [8, 9, 10, 11, 12] rfl
  refine va_calli (va_runV (As := [.int (xs (Int32.toNatClampNeg 1)), .int (xs (Int32.toNatClampNeg 2)), .int (xs (Int32.toNatClampNeg 3))]) (rest := []) ⟨hx, hb, hml, hown, hts⟩ (c_X18_setRole l z0 D g _ mm b0 b1 b2 b3 b4 b5 b6 (xs (Int32.toNatClampNeg 1)) (xs (Int32.toNatClampNeg 2)) (xs (Int32.toNatClampNeg 3))) (cwV 3 hts (lw_V m_1472 m_1473 m_1474 m_12 m_1475) rfl rfl rfl (by decide +kernel) ⟨(Nat.le_of_ble_eq_true rfl), (Nat.le_of_ble_eq_true rfl)⟩) ⟨PM.blind, va_recv hK hP (ci := 9) (q0 := 8) rfl rfl, PM.pre hE hS hAz hsz hc_4 hc_4D⟩ rfl rfl hl.1 rfl (lv_room (Nat.le_of_ble_eq_true rfl)) dL_law_676 ⟨(Nat.le_of_ble_eq_true rfl), (Nat.le_of_ble_eq_true rfl)⟩) hS (fun q _ h => hc_4F q h) hc_4F (fun r_5 u_6 t H locs ht hvm hw hB hz1 hk1 hS => ?_)
  obtain ⟨hP1, hD1⟩ := hB
  rw [ht] at hP1
  obtain ⟨hP, hD⟩ := va_joinQ (X := [(x, .inr (0, [.ref a0, .ref a1, .ref a2, .ref a3, .ref a4, .ref a5, .ref a6, .int 0, .int 0, .int 0, .int 0, .int 0, .int 0, .int 0])), (a0, .inl (cP, 10, .inr (.inr (.inr (.inr G0))))), (a1, .inl (cM, 6, .inr (.inr (.inr (.inr G1))))), (a2, .inl (cW, 3, .inr (.inr (.inr (.inr G2))))), (a3, .inl (cE, 100, .inr (.inr (.inr (.inr F))))), (pp, .inr (1, [.int 0, .int 0, .int 0, .int 0, .int (-1), .int (-1)])), (pm, .inr (2, [.int 0, .int 0, .int (-1), .int 0, .int 0])), (pw, .inr (3, [.int 0, .int 0, .int 0, .int 0, .ref w1, .ref w2, .ref w3])), (mm, .inr (9, [.ref b0, .ref b1, .ref b2, .ref b3, .int 0, .null, .null, .ref b4, .null, .ref b5, .ref b6, .int 0, .int 0, .long 0, .int 0])), (b0, .inr (10, [.int 0, .ref (g 4), .int 0])), (b1, .inr (10, [.int 0, .ref (g 4), .int 0])), (b2, .inr (10, [.int 0, .ref (g 4), .int 0])), (b3, .inr (11, [.null, .null, .null, .null, .int 0, .int 0, .null, .null, .null])), (o, .inl (cJ, 1, .inr (.inl (fun _ => 0)))), (od, .inl (cD, 1, .inr (.inr (.inr (.inl (fun _ => 0))))))]) (wr := [(x, .inr (0, [.ref a0, .ref a1, .ref a2, .ref a3, .ref a4, .ref a5, .ref a6, .int 0, .int 0, .int 0, .int 0, .int 0, .int 0, .int 0])), (a0, .inl (cP, 10, .inr (.inr (.inr (.inr G0))))), (a1, .inl (cM, 6, .inr (.inr (.inr (.inr G1))))), (a2, .inl (cW, 3, .inr (.inr (.inr (.inr G2))))), (a3, .inl (cE, 100, .inr (.inr (.inr (.inr F))))), (pp, .inr (1, [.int 0, .int 0, .int 0, .int 0, .int (-1), .int (-1)])), (pm, .inr (2, [.int 0, .int 0, .int (-1), .int 0, .int 0])), (pw, .inr (3, [.int 0, .int 0, .int 0, .int 0, .ref w1, .ref w2, .ref w3])), (o, .inl (cJ, 1, .inr (.inl (fun _ => 0)))), (od, .inl (cD, 1, .inr (.inr (.inr (.inl (fun _ => 0))))))]) (w1 := [(mm, .inr (9, [.ref b0, .ref b1, .ref b2, .ref b3, .int 0, .null, .null, .ref b4, .null, .ref b5, .ref b6, .int 0, .int 0, .long 0, .int 1])), (b0, .inr (10, [.int 0, .ref (g 4), .int 0])), (b1, .inr (10, [.int 0, .ref (g 4), .int 0])), (b2, .inr (10, [.int 0, .ref (g 4), .int 0])), (b3, .inr (11, [.null, .null, .null, .null, .int 0, .int 0, .null, .null, .null]))]) hP hD [8, 9, 10, 11, 12] [0, 1, 2, 3, 4, 5, 6, 7, 13, 14] rfl rfl (by decide) (by decide) hk1 hc_4F hP1 hD1
  have hP : va_P D classes ([(x, .inr (0, [.ref a0, .ref a1, .ref a2, .ref a3, .ref a4, .ref a5, .ref a6, .int 0, .int 0, .int 0, .int 0, .int 0, .int 0, .int 0])), (a0, .inl (cP, 10, .inr (.inr (.inr (.inr G0))))), (a1, .inl (cM, 6, .inr (.inr (.inr (.inr G1))))), (a2, .inl (cW, 3, .inr (.inr (.inr (.inr G2))))), (a3, .inl (cE, 100, .inr (.inr (.inr (.inr F))))), (pp, .inr (1, [.int 0, .int 0, .int 0, .int 0, .int (-1), .int (-1)])), (pm, .inr (2, [.int 0, .int 0, .int (-1), .int 0, .int 0])), (pw, .inr (3, [.int 0, .int 0, .int 0, .int 0, .ref w1, .ref w2, .ref w3])), (o, .inl (cJ, 1, .inr (.inl (fun _ => 0)))), (od, .inl (cD, 1, .inr (.inr (.inr (.inl (fun _ => 0)))))), (mm, .inr (9, [.ref b0, .ref b1, .ref b2, .ref b3, .int 0, .null, .null, .ref b4, .null, .ref b5, .ref b6, .int 0, .int 0, .long 0, .int 1])), (b0, .inr (10, [.int 0, .ref (g 4), .int 0])), (b1, .inr (10, [.int 0, .ref (g 4), .int 0])), (b2, .inr (10, [.int 0, .ref (g 4), .int 0])), (b3, .inr (11, [.null, .null, .null, .null, .int 0, .int 0, .null, .null, .null]))] ++ va_pl LP (fun _ => freeE g)) H := hP
  have hD : va_D (lA z0) ([(x, .inr (0, [.ref a0, .ref a1, .ref a2, .ref a3, .ref a4, .ref a5, .ref a6, .int 0, .int 0, .int 0, .int 0, .int 0, .int 0, .int 0])), (a0, .inl (cP, 10, .inr (.inr (.inr (.inr G0))))), (a1, .inl (cM, 6, .inr (.inr (.inr (.inr G1))))), (a2, .inl (cW, 3, .inr (.inr (.inr (.inr G2))))), (a3, .inl (cE, 100, .inr (.inr (.inr (.inr F))))), (pp, .inr (1, [.int 0, .int 0, .int 0, .int 0, .int (-1), .int (-1)])), (pm, .inr (2, [.int 0, .int 0, .int (-1), .int 0, .int 0])), (pw, .inr (3, [.int 0, .int 0, .int 0, .int 0, .ref w1, .ref w2, .ref w3])), (o, .inl (cJ, 1, .inr (.inl (fun _ => 0)))), (od, .inl (cD, 1, .inr (.inr (.inr (.inl (fun _ => 0)))))), (mm, .inr (9, [.ref b0, .ref b1, .ref b2, .ref b3, .int 0, .null, .null, .ref b4, .null, .ref b5, .ref b6, .int 0, .int 0, .long 0, .int 1])), (b0, .inr (10, [.int 0, .ref (g 4), .int 0])), (b1, .inr (10, [.int 0, .ref (g 4), .int 0])), (b2, .inr (10, [.int 0, .ref (g 4), .int 0])), (b3, .inr (11, [.null, .null, .null, .null, .int 0, .int 0, .null, .null, .null]))] ++ va_pl LP (fun _ => freeE g)) := hD
  refine lv_istore (lv' := [(7, .int r_5), (6, .int 1), (5, .int 0), (4, .ref od), (3, .ref o), (2, .ref mm), (1, .ref x), (0, .ref b)]) hx hb dL_law_679 hl (by decide) rfl (fun ls hl => ?_)
  refine lv_aload_n hx hb dL_law_681 rfl (lv_at hl 5 rfl) ?_
  have hc_7 := hP.sub (ws' := [(mm, .inr (9, [.ref b0, .ref b1, .ref b2, .ref b3, .int 0, .null, .null, .ref b4, .null, .ref b5, .ref b6, .int 0, .int 0, .long 0, .int 1]))]) [10] rfl
  refine va_calli (va_runV (As := []) (rest := []) ⟨hx, hb, hml, hown, hts⟩ (c_thrown l z0 D g mm b0 b1 b2 b3 b4 b5 b6 1 0) (cwV 0 hts (lw_V m_1229 m_1230 m_1231 m_12 m_1232) rfl rfl rfl (by decide +kernel) ⟨(Nat.le_of_ble_eq_true rfl), (Nat.le_of_ble_eq_true rfl)⟩) ⟨PR.blind, va_recv hK hP (ci := 9) (q0 := 10) rfl rfl, PR.pre hE hS hAz hc_7⟩ rfl rfl hl.1 rfl (lv_room (Nat.le_of_ble_eq_true rfl)) dL_law_682 ⟨(Nat.le_of_ble_eq_true rfl), (Nat.le_of_ble_eq_true rfl)⟩) hS nA_B nA_A (fun r_8 u_9 t H locs ht hvm hw hB hz1 hk1 hS => ?_)
  have hP := hP.old hk1
  have hP : va_P D classes ([(x, .inr (0, [.ref a0, .ref a1, .ref a2, .ref a3, .ref a4, .ref a5, .ref a6, .int 0, .int 0, .int 0, .int 0, .int 0, .int 0, .int 0])), (a0, .inl (cP, 10, .inr (.inr (.inr (.inr G0))))), (a1, .inl (cM, 6, .inr (.inr (.inr (.inr G1))))), (a2, .inl (cW, 3, .inr (.inr (.inr (.inr G2))))), (a3, .inl (cE, 100, .inr (.inr (.inr (.inr F))))), (pp, .inr (1, [.int 0, .int 0, .int 0, .int 0, .int (-1), .int (-1)])), (pm, .inr (2, [.int 0, .int 0, .int (-1), .int 0, .int 0])), (pw, .inr (3, [.int 0, .int 0, .int 0, .int 0, .ref w1, .ref w2, .ref w3])), (o, .inl (cJ, 1, .inr (.inl (fun _ => 0)))), (od, .inl (cD, 1, .inr (.inr (.inr (.inl (fun _ => 0)))))), (mm, .inr (9, [.ref b0, .ref b1, .ref b2, .ref b3, .int 0, .null, .null, .ref b4, .null, .ref b5, .ref b6, .int 0, .int 0, .long 0, .int 1])), (b0, .inr (10, [.int 0, .ref (g 4), .int 0])), (b1, .inr (10, [.int 0, .ref (g 4), .int 0])), (b2, .inr (10, [.int 0, .ref (g 4), .int 0])), (b3, .inr (11, [.null, .null, .null, .null, .int 0, .int 0, .null, .null, .null]))] ++ va_pl LP (fun _ => freeE g)) H := hP
  subst hw
  refine lv_iload hx hb dL_law_685 (lv_at hl 1 rfl) ?_
  refine lv_icmp_eq (tgt := 692) hx hb dL_law_687 (by decide) (fun _ => ?_) (fun h9 => absurd (by decide) h9)
  refine lv_iload hx hb dL_law_692 (lv_at hl 1 rfl) ?_
  refine lv_if_ne (tgt := 709) hx hb dL_law_694 (by decide) (fun _ => ?_) (fun h9 => absurd h9 (by decide))
  refine lv_goto (tgt := 2156) hx hb dL_law_709 (by decide) ?_
  exact law_tail (by rfl) C0 hz (Nat.le_of_ble_eq_true rfl) (Nat.le_of_ble_eq_true rfl) hS (lv_sub hl [2, 7] rfl)

set_option maxHeartbeats 4000000 in
set_option maxRecDepth 100000 in
theorem case_7 {p : Program} {l : Launch} {e : Env} {s : State} {m : MethodId} {below : List Frame} {meth : Method} {c : Code} {b L : Nat} {xs : Nat → Int32} {z0 : Nat} {D : va_G} {g : Nat → Nat} (hfl : l.stackTraces = false) (hL7 : L = 7) (C0 : lw_At p s m meth c b L xs) (hz : s.heap.size = z0) (hE : EV z0 D g s s.heap) (x a0 a1 a2 a3 a4 a5 a6 pp pm pw w1 w2 w3 mm b0 b1 b2 b3 b4 b5 b6 o od : Nat) (cP cM cW cE cJ cD : ClassId) (G0 G1 G2 F : Nat → Option Nat) (LP : List Nat) (hF0 : G0 0 = some pp) (hF1 : G1 0 = some pm) (hF2 : G2 0 = some pw) (hF3 : ∀ j : Nat, j < 100 → ∃ y : Nat, y ∈ LP ∧ F j = some y) (hK : va_K D classes [(cP, .object "Theatrehouse$Person"), (cM, .object "Theatrehouse$Machine"), (cW, .object "Theatrehouse$Work"), (cE, .object "Theatrehouse$Evening"), (cJ, .long), (cD, .double)] s)  : ∀ (H : Heap) (locs : List Loc), va_P D classes ([(x, .inr (0, [.ref a0, .ref a1, .ref a2, .ref a3, .ref a4, .ref a5, .ref a6, .int 0, .int 0, .int 0, .int 0, .int 0, .int 0, .int 0])), (a0, .inl (cP, 10, .inr (.inr (.inr (.inr G0))))), (a1, .inl (cM, 6, .inr (.inr (.inr (.inr G1))))), (a2, .inl (cW, 3, .inr (.inr (.inr (.inr G2))))), (a3, .inl (cE, 100, .inr (.inr (.inr (.inr F))))), (pp, .inr (1, [.int 0, .int 0, .int 0, .int 0, .int (-1), .int (-1)])), (pm, .inr (2, [.int 0, .int 0, .int (-1), .int 0, .int 0])), (pw, .inr (3, [.int 0, .int 0, .int 0, .int 0, .ref w1, .ref w2, .ref w3])), (mm, .inr (9, [.ref b0, .ref b1, .ref b2, .ref b3, .int 0, .null, .null, .ref b4, .null, .ref b5, .ref b6, .int 0, .int 0, .long 0, .int 0])), (b0, .inr (10, [.int 0, .ref (g 4), .int 0])), (b1, .inr (10, [.int 0, .ref (g 4), .int 0])), (b2, .inr (10, [.int 0, .ref (g 4), .int 0])), (b3, .inr (11, [.null, .null, .null, .null, .int 0, .int 0, .null, .null, .null])), (o, .inl (cJ, 1, .inr (.inl (fun _ => 0)))), (od, .inl (cD, 1, .inr (.inr (.inr (.inl (fun _ => 0))))))] ++ va_pl LP (fun _ => freeE g)) H → va_D (lA z0) ([(x, .inr (0, [.ref a0, .ref a1, .ref a2, .ref a3, .ref a4, .ref a5, .ref a6, .int 0, .int 0, .int 0, .int 0, .int 0, .int 0, .int 0])), (a0, .inl (cP, 10, .inr (.inr (.inr (.inr G0))))), (a1, .inl (cM, 6, .inr (.inr (.inr (.inr G1))))), (a2, .inl (cW, 3, .inr (.inr (.inr (.inr G2))))), (a3, .inl (cE, 100, .inr (.inr (.inr (.inr F))))), (pp, .inr (1, [.int 0, .int 0, .int 0, .int 0, .int (-1), .int (-1)])), (pm, .inr (2, [.int 0, .int 0, .int (-1), .int 0, .int 0])), (pw, .inr (3, [.int 0, .int 0, .int 0, .int 0, .ref w1, .ref w2, .ref w3])), (mm, .inr (9, [.ref b0, .ref b1, .ref b2, .ref b3, .int 0, .null, .null, .ref b4, .null, .ref b5, .ref b6, .int 0, .int 0, .long 0, .int 0])), (b0, .inr (10, [.int 0, .ref (g 4), .int 0])), (b1, .inr (10, [.int 0, .ref (g 4), .int 0])), (b2, .inr (10, [.int 0, .ref (g 4), .int 0])), (b3, .inr (11, [.null, .null, .null, .null, .int 0, .int 0, .null, .null, .null])), (o, .inl (cJ, 1, .inr (.inl (fun _ => 0)))), (od, .inl (cD, 1, .inr (.inr (.inr (.inl (fun _ => 0))))))] ++ va_pl LP (fun _ => freeE g)) → va_S (lA z0) s.heap H locs → ∀ (ls : Array Slot), lv_has ls 9 [(5, .int 0), (4, .ref od), (3, .ref o), (2, .ref mm), (1, .ref x), (0, .ref b)] → W p l e room_1 s m #[Value.ref b] below meth c H locs 199 4528 (lw_Z below #[Value.ref b] s) (F0 m 712 ls []) := by
  subst hL7
  obtain ⟨hx, hb, hr, hml, hown, hts0, hX, hbl, hlocks, hgv⟩ := id C0
  have hown : s.vm.findClass "TheatrehouseLaw" = some m.cls := hown
  have hts : ∀ w ∈ lw_all, w.before #[Value.ref b] s = true := fun w h => hts0 w (List.mem_filter.mp h).1
  have hAz : ∀ q, lA z0 q → z0 ≤ q := fun _ h => h
  have hA : ∀ q : Nat, s.heap.size ≤ q → lA z0 q := fun q h => by show z0 ≤ q; rw [← hz]; exact h
  have hsz : z0 ≤ s.heap.size := Nat.le_of_eq hz.symm
  have hbA : ¬ lA z0 b := by show ¬ z0 ≤ b; rw [← hz]; exact Nat.not_le.mpr hbl
  intro H locs hP hD hS ls hl
  refine lv_aload_n hx hb dL_law_712 rfl (lv_at hl 4 rfl) ?_
  refine lv_aload_n hx hb dL_law_713 rfl (lv_at hl 5 rfl) ?_
  refine lv_iload hx hb dL_law_714 (lv_at hl 0 rfl) ?_
  refine lv_iconst (v := 1) hx hb dL_law_716 (by decide) ?_
  refine lv_iadd hx hb dL_law_717 ?_
  rw [show (0 + 1 : Int32) = 1 by decide]
  refine va_sld (i := 1) hx hb hX hbl hbA hS (by unfold vp_in; decide) dL_law_718 ?_
  refine lv_aload_n hx hb dL_law_719 rfl (lv_at hl 5 rfl) ?_
  refine lv_iload hx hb dL_law_720 (lv_at hl 0 rfl) ?_
  refine lv_iconst (v := 2) hx hb dL_law_722 (by decide) ?_
  refine lv_iadd hx hb dL_law_723 ?_
  rw [show (0 + 2 : Int32) = 2 by decide]
  refine va_sld (i := 2) hx hb hX hbl hbA hS (by unfold vp_in; decide) dL_law_724 ?_
  refine lv_i2c (v := (UInt32.toInt32 (Int32.toUInt32 (xs (Int32.toNatClampNeg 2)) % 65536))) hx hb dL_law_725 rfl ?_
  refine lv_aload_n hx hb dL_law_726 rfl (lv_at hl 5 rfl) ?_
  refine lv_iload hx hb dL_law_727 (lv_at hl 0 rfl) ?_
  refine lv_iconst (v := 3) hx hb dL_law_729 (by decide) ?_
  refine lv_iadd hx hb dL_law_730 ?_
  rw [show (0 + 3 : Int32) = 3 by decide]
  refine va_sld (i := 3) hx hb hX hbl hbA hS (by unfold vp_in; decide) dL_law_731 ?_
  refine lv_aload_n hx hb dL_law_732 rfl (lv_at hl 5 rfl) ?_
  refine lv_iload hx hb dL_law_733 (lv_at hl 0 rfl) ?_
  refine lv_iconst (v := 4) hx hb dL_law_735 (by decide) ?_
  refine lv_iadd hx hb dL_law_736 ?_
  rw [show (0 + 4 : Int32) = 4 by decide]
  refine va_sld (i := 4) hx hb hX hbl hbA hS (by unfold vp_in; decide) dL_law_737 ?_
  refine lv_aload_n hx hb dL_law_738 rfl (lv_at hl 5 rfl) ?_
  refine lv_iload hx hb dL_law_739 (lv_at hl 0 rfl) ?_
  refine lv_iconst (v := 5) hx hb dL_law_741 (by decide) ?_
  refine lv_iadd hx hb dL_law_742 ?_
  rw [show (0 + 5 : Int32) = 5 by decide]
  refine va_sld (i := 5) hx hb hX hbl hbA hS (by unfold vp_in; decide) dL_law_743 ?_
  refine lv_aload_n hx hb dL_law_744 rfl (lv_at hl 5 rfl) ?_
  refine lv_iload hx hb dL_law_745 (lv_at hl 0 rfl) ?_
  refine lv_bipush (v := 6) hx hb dL_law_747 (by decide) ?_
  refine lv_iadd hx hb dL_law_749 ?_
  rw [show (0 + 6 : Int32) = 6 by decide]
  refine va_sld (i := 6) hx hb hX hbl hbA hS (by unfold vp_in; decide) dL_law_750 ?_
  refine lv_aload_n hx hb dL_law_751 rfl (lv_at hl 2 rfl) ?_
  have hc_1 := hP.sub (ws' := [(x, .inr (0, [.ref a0, .ref a1, .ref a2, .ref a3, .ref a4, .ref a5, .ref a6, .int 0, .int 0, .int 0, .int 0, .int 0, .int 0, .int 0]))]) [0] rfl
  refine va_calli (vx_runSW (As := [.ref x, .int (xs (Int32.toNatClampNeg 1)), .int (UInt32.toInt32 (Int32.toUInt32 (xs (Int32.toNatClampNeg 2)) % 65536)), .int (xs (Int32.toNatClampNeg 3)), .int (xs (Int32.toNatClampNeg 4)), .int (xs (Int32.toNatClampNeg 5)), .int (xs (Int32.toNatClampNeg 6)), .ref o]) (rest := []) ⟨hx, hb, hml, hown, hts⟩ (met_of (c_L_addCue l hfl z0 D g x a0 a1 a2 a3 a4 a5 a6 (xs (Int32.toNatClampNeg 1)) (UInt32.toInt32 (Int32.toUInt32 (xs (Int32.toNatClampNeg 2)) % 65536)) (xs (Int32.toNatClampNeg 3)) (xs (Int32.toNatClampNeg 4)) (xs (Int32.toNatClampNeg 5)) (xs (Int32.toNatClampNeg 6)) o)) (vx_cwSW 8 hts (lw_SW m_779 m_780 m_0 m_781) rfl rfl rfl (by decide +kernel) ⟨(Nat.le_of_ble_eq_true rfl), (Nat.le_of_ble_eq_true rfl)⟩) ⟨PR.blind, PR.pre hE hS hAz hc_1⟩ rfl rfl hl.1 rfl (lv_room (Nat.le_of_ble_eq_true rfl)) dL_law_752 ⟨(Nat.le_of_ble_eq_true rfl), (Nat.le_of_ble_eq_true rfl)⟩) hS nA_B nA_A (fun r_2 u_3 t H locs ht hvm hw hB hz1 hk1 hS => ?_)
  have hP := hP.old hk1
  have hP : va_P D classes ([(x, .inr (0, [.ref a0, .ref a1, .ref a2, .ref a3, .ref a4, .ref a5, .ref a6, .int 0, .int 0, .int 0, .int 0, .int 0, .int 0, .int 0])), (a0, .inl (cP, 10, .inr (.inr (.inr (.inr G0))))), (a1, .inl (cM, 6, .inr (.inr (.inr (.inr G1))))), (a2, .inl (cW, 3, .inr (.inr (.inr (.inr G2))))), (a3, .inl (cE, 100, .inr (.inr (.inr (.inr F))))), (pp, .inr (1, [.int 0, .int 0, .int 0, .int 0, .int (-1), .int (-1)])), (pm, .inr (2, [.int 0, .int 0, .int (-1), .int 0, .int 0])), (pw, .inr (3, [.int 0, .int 0, .int 0, .int 0, .ref w1, .ref w2, .ref w3])), (mm, .inr (9, [.ref b0, .ref b1, .ref b2, .ref b3, .int 0, .null, .null, .ref b4, .null, .ref b5, .ref b6, .int 0, .int 0, .long 0, .int 0])), (b0, .inr (10, [.int 0, .ref (g 4), .int 0])), (b1, .inr (10, [.int 0, .ref (g 4), .int 0])), (b2, .inr (10, [.int 0, .ref (g 4), .int 0])), (b3, .inr (11, [.null, .null, .null, .null, .int 0, .int 0, .null, .null, .null])), (o, .inl (cJ, 1, .inr (.inl (fun _ => 0)))), (od, .inl (cD, 1, .inr (.inr (.inr (.inl (fun _ => 0))))))] ++ va_pl LP (fun _ => freeE g)) H := hP
  subst hw
  refine lv_istore (lv' := [(6, .int 1), (5, .int 0), (4, .ref od), (3, .ref o), (2, .ref mm), (1, .ref x), (0, .ref b)]) hx hb dL_law_755 hl (by decide) rfl (fun ls hl => ?_)
  refine lv_aload_n hx hb dL_law_757 rfl (lv_at hl 4 rfl) ?_
  refine lv_aload_n hx hb dL_law_758 rfl (lv_at hl 6 rfl) ?_
  refine lv_iload hx hb dL_law_759 (lv_at hl 1 rfl) ?_
  refine lv_iconst (v := 1) hx hb dL_law_761 (by decide) ?_
  refine lv_iadd hx hb dL_law_762 ?_
  rw [show (0 + 1 : Int32) = 1 by decide]
  refine va_sld (i := 1) hx hb hX hbl hbA hS (by unfold vp_in; decide) dL_law_763 ?_
  refine lv_aload_n hx hb dL_law_764 rfl (lv_at hl 6 rfl) ?_
  refine lv_iload hx hb dL_law_765 (lv_at hl 1 rfl) ?_
  refine lv_iconst (v := 2) hx hb dL_law_767 (by decide) ?_
  refine lv_iadd hx hb dL_law_768 ?_
  rw [show (0 + 2 : Int32) = 2 by decide]
  refine va_sld (i := 2) hx hb hX hbl hbA hS (by unfold vp_in; decide) dL_law_769 ?_
  refine lv_i2c (v := (UInt32.toInt32 (Int32.toUInt32 (xs (Int32.toNatClampNeg 2)) % 65536))) hx hb dL_law_770 rfl ?_
  refine lv_aload_n hx hb dL_law_771 rfl (lv_at hl 6 rfl) ?_
  refine lv_iload hx hb dL_law_772 (lv_at hl 1 rfl) ?_
  refine lv_iconst (v := 3) hx hb dL_law_774 (by decide) ?_
  refine lv_iadd hx hb dL_law_775 ?_
  rw [show (0 + 3 : Int32) = 3 by decide]
  refine va_sld (i := 3) hx hb hX hbl hbA hS (by unfold vp_in; decide) dL_law_776 ?_
  refine lv_aload_n hx hb dL_law_777 rfl (lv_at hl 6 rfl) ?_
  refine lv_iload hx hb dL_law_778 (lv_at hl 1 rfl) ?_
  refine lv_iconst (v := 4) hx hb dL_law_780 (by decide) ?_
  refine lv_iadd hx hb dL_law_781 ?_
  rw [show (0 + 4 : Int32) = 4 by decide]
  refine va_sld (i := 4) hx hb hX hbl hbA hS (by unfold vp_in; decide) dL_law_782 ?_
  refine lv_aload_n hx hb dL_law_783 rfl (lv_at hl 6 rfl) ?_
  refine lv_iload hx hb dL_law_784 (lv_at hl 1 rfl) ?_
  refine lv_iconst (v := 5) hx hb dL_law_786 (by decide) ?_
  refine lv_iadd hx hb dL_law_787 ?_
  rw [show (0 + 5 : Int32) = 5 by decide]
  refine va_sld (i := 5) hx hb hX hbl hbA hS (by unfold vp_in; decide) dL_law_788 ?_
  refine lv_aload_n hx hb dL_law_789 rfl (lv_at hl 6 rfl) ?_
  refine lv_iload hx hb dL_law_790 (lv_at hl 1 rfl) ?_
  refine lv_bipush (v := 6) hx hb dL_law_792 (by decide) ?_
  refine lv_iadd hx hb dL_law_794 ?_
  rw [show (0 + 6 : Int32) = 6 by decide]
  refine va_sld (i := 6) hx hb hX hbl hbA hS (by unfold vp_in; decide) dL_law_795 ?_
  have hc_4 := hP.sub (ws' := [(mm, .inr (9, [.ref b0, .ref b1, .ref b2, .ref b3, .int 0, .null, .null, .ref b4, .null, .ref b5, .ref b6, .int 0, .int 0, .long 0, .int 0])), (b0, .inr (10, [.int 0, .ref (g 4), .int 0])), (b1, .inr (10, [.int 0, .ref (g 4), .int 0])), (b2, .inr (10, [.int 0, .ref (g 4), .int 0])), (b3, .inr (11, [.null, .null, .null, .null, .int 0, .int 0, .null, .null, .null]))]) [8, 9, 10, 11, 12] rfl
  have hc_4D := hD.sub (ws' := [(mm, .inr (9, [.ref b0, .ref b1, .ref b2, .ref b3, .int 0, .null, .null, .ref b4, .null, .ref b5, .ref b6, .int 0, .int 0, .long 0, .int 0])), (b0, .inr (10, [.int 0, .ref (g 4), .int 0])), (b1, .inr (10, [.int 0, .ref (g 4), .int 0])), (b2, .inr (10, [.int 0, .ref (g 4), .int 0])), (b3, .inr (11, [.null, .null, .null, .null, .int 0, .int 0, .null, .null, .null]))]) [8, 9, 10, 11, 12] (by decide) rfl
  have hc_4F := va_free (wc := [(mm, .inr (9, [.ref b0, .ref b1, .ref b2, .ref b3, .int 0, .null, .null, .ref b4, .null, .ref b5, .ref b6, .int 0, .int 0, .long 0, .int 0])), (b0, .inr (10, [.int 0, .ref (g 4), .int 0])), (b1, .inr (10, [.int 0, .ref (g 4), .int 0])), (b2, .inr (10, [.int 0, .ref (g 4), .int 0])), (b3, .inr (11, [.null, .null, .null, .null, .int 0, .int 0, .null, .null, .null]))]) hD hS hA [8, 9, 10, 11, 12] rfl
  refine va_calli (va_runV (As := [.int (xs (Int32.toNatClampNeg 1)), .int (UInt32.toInt32 (Int32.toUInt32 (xs (Int32.toNatClampNeg 2)) % 65536)), .int (xs (Int32.toNatClampNeg 3)), .int (xs (Int32.toNatClampNeg 4)), .int (xs (Int32.toNatClampNeg 5)), .int (xs (Int32.toNatClampNeg 6))]) (rest := []) ⟨hx, hb, hml, hown, hts⟩ (c_X18_addCue l z0 D g _ mm b0 b1 b2 b3 b4 b5 b6 (xs (Int32.toNatClampNeg 1)) (UInt32.toInt32 (Int32.toUInt32 (xs (Int32.toNatClampNeg 2)) % 65536)) (xs (Int32.toNatClampNeg 3)) (xs (Int32.toNatClampNeg 4)) (xs (Int32.toNatClampNeg 5)) (xs (Int32.toNatClampNeg 6))) (cwV 6 hts (lw_V m_1480 m_1481 m_1482 m_12 m_1483) rfl rfl rfl (by decide +kernel) ⟨(Nat.le_of_ble_eq_true rfl), (Nat.le_of_ble_eq_true rfl)⟩) ⟨PM.blind, va_recv hK hP (ci := 9) (q0 := 8) rfl rfl, PM.pre hE hS hAz hsz hc_4 hc_4D⟩ rfl rfl hl.1 rfl (lv_room (Nat.le_of_ble_eq_true rfl)) dL_law_796 ⟨(Nat.le_of_ble_eq_true rfl), (Nat.le_of_ble_eq_true rfl)⟩) hS (fun q _ h => hc_4F q h) hc_4F (fun r_5 u_6 t H locs ht hvm hw hB hz1 hk1 hS => ?_)
  obtain ⟨hP1, hD1⟩ := hB
  rw [ht] at hP1
  obtain ⟨hP, hD⟩ := va_joinQ (X := [(x, .inr (0, [.ref a0, .ref a1, .ref a2, .ref a3, .ref a4, .ref a5, .ref a6, .int 0, .int 0, .int 0, .int 0, .int 0, .int 0, .int 0])), (a0, .inl (cP, 10, .inr (.inr (.inr (.inr G0))))), (a1, .inl (cM, 6, .inr (.inr (.inr (.inr G1))))), (a2, .inl (cW, 3, .inr (.inr (.inr (.inr G2))))), (a3, .inl (cE, 100, .inr (.inr (.inr (.inr F))))), (pp, .inr (1, [.int 0, .int 0, .int 0, .int 0, .int (-1), .int (-1)])), (pm, .inr (2, [.int 0, .int 0, .int (-1), .int 0, .int 0])), (pw, .inr (3, [.int 0, .int 0, .int 0, .int 0, .ref w1, .ref w2, .ref w3])), (mm, .inr (9, [.ref b0, .ref b1, .ref b2, .ref b3, .int 0, .null, .null, .ref b4, .null, .ref b5, .ref b6, .int 0, .int 0, .long 0, .int 0])), (b0, .inr (10, [.int 0, .ref (g 4), .int 0])), (b1, .inr (10, [.int 0, .ref (g 4), .int 0])), (b2, .inr (10, [.int 0, .ref (g 4), .int 0])), (b3, .inr (11, [.null, .null, .null, .null, .int 0, .int 0, .null, .null, .null])), (o, .inl (cJ, 1, .inr (.inl (fun _ => 0)))), (od, .inl (cD, 1, .inr (.inr (.inr (.inl (fun _ => 0))))))]) (wr := [(x, .inr (0, [.ref a0, .ref a1, .ref a2, .ref a3, .ref a4, .ref a5, .ref a6, .int 0, .int 0, .int 0, .int 0, .int 0, .int 0, .int 0])), (a0, .inl (cP, 10, .inr (.inr (.inr (.inr G0))))), (a1, .inl (cM, 6, .inr (.inr (.inr (.inr G1))))), (a2, .inl (cW, 3, .inr (.inr (.inr (.inr G2))))), (a3, .inl (cE, 100, .inr (.inr (.inr (.inr F))))), (pp, .inr (1, [.int 0, .int 0, .int 0, .int 0, .int (-1), .int (-1)])), (pm, .inr (2, [.int 0, .int 0, .int (-1), .int 0, .int 0])), (pw, .inr (3, [.int 0, .int 0, .int 0, .int 0, .ref w1, .ref w2, .ref w3])), (o, .inl (cJ, 1, .inr (.inl (fun _ => 0)))), (od, .inl (cD, 1, .inr (.inr (.inr (.inl (fun _ => 0))))))]) (w1 := [(mm, .inr (9, [.ref b0, .ref b1, .ref b2, .ref b3, .int 0, .null, .null, .ref b4, .null, .ref b5, .ref b6, .int 0, .int 0, .long 0, .int 1])), (b0, .inr (10, [.int 0, .ref (g 4), .int 0])), (b1, .inr (10, [.int 0, .ref (g 4), .int 0])), (b2, .inr (10, [.int 0, .ref (g 4), .int 0])), (b3, .inr (11, [.null, .null, .null, .null, .int 0, .int 0, .null, .null, .null]))]) hP hD [8, 9, 10, 11, 12] [0, 1, 2, 3, 4, 5, 6, 7, 13, 14] rfl rfl (by decide) (by decide) hk1 hc_4F hP1 hD1
  have hP : va_P D classes ([(x, .inr (0, [.ref a0, .ref a1, .ref a2, .ref a3, .ref a4, .ref a5, .ref a6, .int 0, .int 0, .int 0, .int 0, .int 0, .int 0, .int 0])), (a0, .inl (cP, 10, .inr (.inr (.inr (.inr G0))))), (a1, .inl (cM, 6, .inr (.inr (.inr (.inr G1))))), (a2, .inl (cW, 3, .inr (.inr (.inr (.inr G2))))), (a3, .inl (cE, 100, .inr (.inr (.inr (.inr F))))), (pp, .inr (1, [.int 0, .int 0, .int 0, .int 0, .int (-1), .int (-1)])), (pm, .inr (2, [.int 0, .int 0, .int (-1), .int 0, .int 0])), (pw, .inr (3, [.int 0, .int 0, .int 0, .int 0, .ref w1, .ref w2, .ref w3])), (o, .inl (cJ, 1, .inr (.inl (fun _ => 0)))), (od, .inl (cD, 1, .inr (.inr (.inr (.inl (fun _ => 0)))))), (mm, .inr (9, [.ref b0, .ref b1, .ref b2, .ref b3, .int 0, .null, .null, .ref b4, .null, .ref b5, .ref b6, .int 0, .int 0, .long 0, .int 1])), (b0, .inr (10, [.int 0, .ref (g 4), .int 0])), (b1, .inr (10, [.int 0, .ref (g 4), .int 0])), (b2, .inr (10, [.int 0, .ref (g 4), .int 0])), (b3, .inr (11, [.null, .null, .null, .null, .int 0, .int 0, .null, .null, .null]))] ++ va_pl LP (fun _ => freeE g)) H := hP
  have hD : va_D (lA z0) ([(x, .inr (0, [.ref a0, .ref a1, .ref a2, .ref a3, .ref a4, .ref a5, .ref a6, .int 0, .int 0, .int 0, .int 0, .int 0, .int 0, .int 0])), (a0, .inl (cP, 10, .inr (.inr (.inr (.inr G0))))), (a1, .inl (cM, 6, .inr (.inr (.inr (.inr G1))))), (a2, .inl (cW, 3, .inr (.inr (.inr (.inr G2))))), (a3, .inl (cE, 100, .inr (.inr (.inr (.inr F))))), (pp, .inr (1, [.int 0, .int 0, .int 0, .int 0, .int (-1), .int (-1)])), (pm, .inr (2, [.int 0, .int 0, .int (-1), .int 0, .int 0])), (pw, .inr (3, [.int 0, .int 0, .int 0, .int 0, .ref w1, .ref w2, .ref w3])), (o, .inl (cJ, 1, .inr (.inl (fun _ => 0)))), (od, .inl (cD, 1, .inr (.inr (.inr (.inl (fun _ => 0)))))), (mm, .inr (9, [.ref b0, .ref b1, .ref b2, .ref b3, .int 0, .null, .null, .ref b4, .null, .ref b5, .ref b6, .int 0, .int 0, .long 0, .int 1])), (b0, .inr (10, [.int 0, .ref (g 4), .int 0])), (b1, .inr (10, [.int 0, .ref (g 4), .int 0])), (b2, .inr (10, [.int 0, .ref (g 4), .int 0])), (b3, .inr (11, [.null, .null, .null, .null, .int 0, .int 0, .null, .null, .null]))] ++ va_pl LP (fun _ => freeE g)) := hD
  refine lv_istore (lv' := [(7, .int r_5), (6, .int 1), (5, .int 0), (4, .ref od), (3, .ref o), (2, .ref mm), (1, .ref x), (0, .ref b)]) hx hb dL_law_799 hl (by decide) rfl (fun ls hl => ?_)
  refine lv_aload_n hx hb dL_law_801 rfl (lv_at hl 5 rfl) ?_
  have hc_7 := hP.sub (ws' := [(mm, .inr (9, [.ref b0, .ref b1, .ref b2, .ref b3, .int 0, .null, .null, .ref b4, .null, .ref b5, .ref b6, .int 0, .int 0, .long 0, .int 1]))]) [10] rfl
  refine va_calli (va_runV (As := []) (rest := []) ⟨hx, hb, hml, hown, hts⟩ (c_thrown l z0 D g mm b0 b1 b2 b3 b4 b5 b6 1 0) (cwV 0 hts (lw_V m_1229 m_1230 m_1231 m_12 m_1232) rfl rfl rfl (by decide +kernel) ⟨(Nat.le_of_ble_eq_true rfl), (Nat.le_of_ble_eq_true rfl)⟩) ⟨PR.blind, va_recv hK hP (ci := 9) (q0 := 10) rfl rfl, PR.pre hE hS hAz hc_7⟩ rfl rfl hl.1 rfl (lv_room (Nat.le_of_ble_eq_true rfl)) dL_law_802 ⟨(Nat.le_of_ble_eq_true rfl), (Nat.le_of_ble_eq_true rfl)⟩) hS nA_B nA_A (fun r_8 u_9 t H locs ht hvm hw hB hz1 hk1 hS => ?_)
  have hP := hP.old hk1
  have hP : va_P D classes ([(x, .inr (0, [.ref a0, .ref a1, .ref a2, .ref a3, .ref a4, .ref a5, .ref a6, .int 0, .int 0, .int 0, .int 0, .int 0, .int 0, .int 0])), (a0, .inl (cP, 10, .inr (.inr (.inr (.inr G0))))), (a1, .inl (cM, 6, .inr (.inr (.inr (.inr G1))))), (a2, .inl (cW, 3, .inr (.inr (.inr (.inr G2))))), (a3, .inl (cE, 100, .inr (.inr (.inr (.inr F))))), (pp, .inr (1, [.int 0, .int 0, .int 0, .int 0, .int (-1), .int (-1)])), (pm, .inr (2, [.int 0, .int 0, .int (-1), .int 0, .int 0])), (pw, .inr (3, [.int 0, .int 0, .int 0, .int 0, .ref w1, .ref w2, .ref w3])), (o, .inl (cJ, 1, .inr (.inl (fun _ => 0)))), (od, .inl (cD, 1, .inr (.inr (.inr (.inl (fun _ => 0)))))), (mm, .inr (9, [.ref b0, .ref b1, .ref b2, .ref b3, .int 0, .null, .null, .ref b4, .null, .ref b5, .ref b6, .int 0, .int 0, .long 0, .int 1])), (b0, .inr (10, [.int 0, .ref (g 4), .int 0])), (b1, .inr (10, [.int 0, .ref (g 4), .int 0])), (b2, .inr (10, [.int 0, .ref (g 4), .int 0])), (b3, .inr (11, [.null, .null, .null, .null, .int 0, .int 0, .null, .null, .null]))] ++ va_pl LP (fun _ => freeE g)) H := hP
  subst hw
  refine lv_iload hx hb dL_law_805 (lv_at hl 1 rfl) ?_
  refine lv_icmp_eq (tgt := 812) hx hb dL_law_807 (by decide) (fun _ => ?_) (fun h9 => absurd (by decide) h9)
  refine lv_iload hx hb dL_law_812 (lv_at hl 1 rfl) ?_
  refine lv_if_ne (tgt := 829) hx hb dL_law_814 (by decide) (fun _ => ?_) (fun h9 => absurd h9 (by decide))
  refine lv_goto (tgt := 2156) hx hb dL_law_829 (by decide) ?_
  exact law_tail (by rfl) C0 hz (Nat.le_of_ble_eq_true rfl) (Nat.le_of_ble_eq_true rfl) hS (lv_sub hl [2, 7] rfl)

set_option maxHeartbeats 4000000 in
set_option maxRecDepth 100000 in
theorem case_8 {p : Program} {l : Launch} {e : Env} {s : State} {m : MethodId} {below : List Frame} {meth : Method} {c : Code} {b L : Nat} {xs : Nat → Int32} {z0 : Nat} {D : va_G} {g : Nat → Nat} (hfl : l.stackTraces = false) (hL7 : L = 7) (C0 : lw_At p s m meth c b L xs) (hz : s.heap.size = z0) (hE : EV z0 D g s s.heap) (x a0 a1 a2 a3 a4 a5 a6 pp pm pw w1 w2 w3 mm b0 b1 b2 b3 b4 b5 b6 o od : Nat) (cP cM cW cE cJ cD : ClassId) (G0 G1 G2 F : Nat → Option Nat) (LP : List Nat) (hF0 : G0 0 = some pp) (hF1 : G1 0 = some pm) (hF2 : G2 0 = some pw) (hF3 : ∀ j : Nat, j < 100 → ∃ y : Nat, y ∈ LP ∧ F j = some y) (hK : va_K D classes [(cP, .object "Theatrehouse$Person"), (cM, .object "Theatrehouse$Machine"), (cW, .object "Theatrehouse$Work"), (cE, .object "Theatrehouse$Evening"), (cJ, .long), (cD, .double)] s)  : ∀ (H : Heap) (locs : List Loc), va_P D classes ([(x, .inr (0, [.ref a0, .ref a1, .ref a2, .ref a3, .ref a4, .ref a5, .ref a6, .int 0, .int 0, .int 0, .int 0, .int 0, .int 0, .int 0])), (a0, .inl (cP, 10, .inr (.inr (.inr (.inr G0))))), (a1, .inl (cM, 6, .inr (.inr (.inr (.inr G1))))), (a2, .inl (cW, 3, .inr (.inr (.inr (.inr G2))))), (a3, .inl (cE, 100, .inr (.inr (.inr (.inr F))))), (pp, .inr (1, [.int 0, .int 0, .int 0, .int 0, .int (-1), .int (-1)])), (pm, .inr (2, [.int 0, .int 0, .int (-1), .int 0, .int 0])), (pw, .inr (3, [.int 0, .int 0, .int 0, .int 0, .ref w1, .ref w2, .ref w3])), (mm, .inr (9, [.ref b0, .ref b1, .ref b2, .ref b3, .int 0, .null, .null, .ref b4, .null, .ref b5, .ref b6, .int 0, .int 0, .long 0, .int 0])), (b0, .inr (10, [.int 0, .ref (g 4), .int 0])), (b1, .inr (10, [.int 0, .ref (g 4), .int 0])), (b2, .inr (10, [.int 0, .ref (g 4), .int 0])), (b3, .inr (11, [.null, .null, .null, .null, .int 0, .int 0, .null, .null, .null])), (o, .inl (cJ, 1, .inr (.inl (fun _ => 0)))), (od, .inl (cD, 1, .inr (.inr (.inr (.inl (fun _ => 0))))))] ++ va_pl LP (fun _ => freeE g)) H → va_D (lA z0) ([(x, .inr (0, [.ref a0, .ref a1, .ref a2, .ref a3, .ref a4, .ref a5, .ref a6, .int 0, .int 0, .int 0, .int 0, .int 0, .int 0, .int 0])), (a0, .inl (cP, 10, .inr (.inr (.inr (.inr G0))))), (a1, .inl (cM, 6, .inr (.inr (.inr (.inr G1))))), (a2, .inl (cW, 3, .inr (.inr (.inr (.inr G2))))), (a3, .inl (cE, 100, .inr (.inr (.inr (.inr F))))), (pp, .inr (1, [.int 0, .int 0, .int 0, .int 0, .int (-1), .int (-1)])), (pm, .inr (2, [.int 0, .int 0, .int (-1), .int 0, .int 0])), (pw, .inr (3, [.int 0, .int 0, .int 0, .int 0, .ref w1, .ref w2, .ref w3])), (mm, .inr (9, [.ref b0, .ref b1, .ref b2, .ref b3, .int 0, .null, .null, .ref b4, .null, .ref b5, .ref b6, .int 0, .int 0, .long 0, .int 0])), (b0, .inr (10, [.int 0, .ref (g 4), .int 0])), (b1, .inr (10, [.int 0, .ref (g 4), .int 0])), (b2, .inr (10, [.int 0, .ref (g 4), .int 0])), (b3, .inr (11, [.null, .null, .null, .null, .int 0, .int 0, .null, .null, .null])), (o, .inl (cJ, 1, .inr (.inl (fun _ => 0)))), (od, .inl (cD, 1, .inr (.inr (.inr (.inl (fun _ => 0))))))] ++ va_pl LP (fun _ => freeE g)) → va_S (lA z0) s.heap H locs → ∀ (ls : Array Slot), lv_has ls 9 [(5, .int 0), (4, .ref od), (3, .ref o), (2, .ref mm), (1, .ref x), (0, .ref b)] → W p l e room_1 s m #[Value.ref b] below meth c H locs 199 4528 (lw_Z below #[Value.ref b] s) (F0 m 832 ls []) := by
  subst hL7
  obtain ⟨hx, hb, hr, hml, hown, hts0, hX, hbl, hlocks, hgv⟩ := id C0
  have hown : s.vm.findClass "TheatrehouseLaw" = some m.cls := hown
  have hts : ∀ w ∈ lw_all, w.before #[Value.ref b] s = true := fun w h => hts0 w (List.mem_filter.mp h).1
  have hAz : ∀ q, lA z0 q → z0 ≤ q := fun _ h => h
  have hA : ∀ q : Nat, s.heap.size ≤ q → lA z0 q := fun q h => by show z0 ≤ q; rw [← hz]; exact h
  have hsz : z0 ≤ s.heap.size := Nat.le_of_eq hz.symm
  have hbA : ¬ lA z0 b := by show ¬ z0 ≤ b; rw [← hz]; exact Nat.not_le.mpr hbl
  intro H locs hP hD hS ls hl
  refine lv_aload_n hx hb dL_law_832 rfl (lv_at hl 4 rfl) ?_
  refine lv_aload_n hx hb dL_law_833 rfl (lv_at hl 5 rfl) ?_
  refine lv_iload hx hb dL_law_834 (lv_at hl 0 rfl) ?_
  refine lv_iconst (v := 1) hx hb dL_law_836 (by decide) ?_
  refine lv_iadd hx hb dL_law_837 ?_
  rw [show (0 + 1 : Int32) = 1 by decide]
  refine va_sld (i := 1) hx hb hX hbl hbA hS (by unfold vp_in; decide) dL_law_838 ?_
  refine lv_aload_n hx hb dL_law_839 rfl (lv_at hl 2 rfl) ?_
  have hc_1 := hP.sub (ws' := [(x, .inr (0, [.ref a0, .ref a1, .ref a2, .ref a3, .ref a4, .ref a5, .ref a6, .int 0, .int 0, .int 0, .int 0, .int 0, .int 0, .int 0]))]) [0] rfl
  refine va_calli (vx_runSW (As := [.ref x, .int (xs (Int32.toNatClampNeg 1)), .ref o]) (rest := []) ⟨hx, hb, hml, hown, hts⟩ (met_of (c_L_cues l hfl z0 D g x a0 a1 a2 a3 a4 a5 a6 (xs (Int32.toNatClampNeg 1)) o)) (vx_cwSW 3 hts (lw_SW m_797 m_798 m_0 m_799) rfl rfl rfl (by decide +kernel) ⟨(Nat.le_of_ble_eq_true rfl), (Nat.le_of_ble_eq_true rfl)⟩) ⟨PR.blind, PR.pre hE hS hAz hc_1⟩ rfl rfl hl.1 rfl (lv_room (Nat.le_of_ble_eq_true rfl)) dL_law_840 ⟨(Nat.le_of_ble_eq_true rfl), (Nat.le_of_ble_eq_true rfl)⟩) hS nA_B nA_A (fun r_2 u_3 t H locs ht hvm hw hB hz1 hk1 hS => ?_)
  have hP := hP.old hk1
  have hP : va_P D classes ([(x, .inr (0, [.ref a0, .ref a1, .ref a2, .ref a3, .ref a4, .ref a5, .ref a6, .int 0, .int 0, .int 0, .int 0, .int 0, .int 0, .int 0])), (a0, .inl (cP, 10, .inr (.inr (.inr (.inr G0))))), (a1, .inl (cM, 6, .inr (.inr (.inr (.inr G1))))), (a2, .inl (cW, 3, .inr (.inr (.inr (.inr G2))))), (a3, .inl (cE, 100, .inr (.inr (.inr (.inr F))))), (pp, .inr (1, [.int 0, .int 0, .int 0, .int 0, .int (-1), .int (-1)])), (pm, .inr (2, [.int 0, .int 0, .int (-1), .int 0, .int 0])), (pw, .inr (3, [.int 0, .int 0, .int 0, .int 0, .ref w1, .ref w2, .ref w3])), (mm, .inr (9, [.ref b0, .ref b1, .ref b2, .ref b3, .int 0, .null, .null, .ref b4, .null, .ref b5, .ref b6, .int 0, .int 0, .long 0, .int 0])), (b0, .inr (10, [.int 0, .ref (g 4), .int 0])), (b1, .inr (10, [.int 0, .ref (g 4), .int 0])), (b2, .inr (10, [.int 0, .ref (g 4), .int 0])), (b3, .inr (11, [.null, .null, .null, .null, .int 0, .int 0, .null, .null, .null])), (o, .inl (cJ, 1, .inr (.inl (fun _ => 0)))), (od, .inl (cD, 1, .inr (.inr (.inr (.inl (fun _ => 0))))))] ++ va_pl LP (fun _ => freeE g)) H := hP
  subst hw
  refine lv_istore (lv' := [(6, .int 1), (5, .int 0), (4, .ref od), (3, .ref o), (2, .ref mm), (1, .ref x), (0, .ref b)]) hx hb dL_law_843 hl (by decide) rfl (fun ls hl => ?_)
  refine lv_aload_n hx hb dL_law_845 rfl (lv_at hl 4 rfl) ?_
  refine lv_aload_n hx hb dL_law_846 rfl (lv_at hl 6 rfl) ?_
  refine lv_iload hx hb dL_law_847 (lv_at hl 1 rfl) ?_
  refine lv_iconst (v := 1) hx hb dL_law_849 (by decide) ?_
  refine lv_iadd hx hb dL_law_850 ?_
  rw [show (0 + 1 : Int32) = 1 by decide]
  refine va_sld (i := 1) hx hb hX hbl hbA hS (by unfold vp_in; decide) dL_law_851 ?_
  have hc_4 := hP.sub (ws' := [(mm, .inr (9, [.ref b0, .ref b1, .ref b2, .ref b3, .int 0, .null, .null, .ref b4, .null, .ref b5, .ref b6, .int 0, .int 0, .long 0, .int 0])), (b0, .inr (10, [.int 0, .ref (g 4), .int 0])), (b1, .inr (10, [.int 0, .ref (g 4), .int 0])), (b2, .inr (10, [.int 0, .ref (g 4), .int 0])), (b3, .inr (11, [.null, .null, .null, .null, .int 0, .int 0, .null, .null, .null]))]) [8, 9, 10, 11, 12] rfl
  have hc_4D := hD.sub (ws' := [(mm, .inr (9, [.ref b0, .ref b1, .ref b2, .ref b3, .int 0, .null, .null, .ref b4, .null, .ref b5, .ref b6, .int 0, .int 0, .long 0, .int 0])), (b0, .inr (10, [.int 0, .ref (g 4), .int 0])), (b1, .inr (10, [.int 0, .ref (g 4), .int 0])), (b2, .inr (10, [.int 0, .ref (g 4), .int 0])), (b3, .inr (11, [.null, .null, .null, .null, .int 0, .int 0, .null, .null, .null]))]) [8, 9, 10, 11, 12] (by decide) rfl
  have hc_4F := va_free (wc := [(mm, .inr (9, [.ref b0, .ref b1, .ref b2, .ref b3, .int 0, .null, .null, .ref b4, .null, .ref b5, .ref b6, .int 0, .int 0, .long 0, .int 0])), (b0, .inr (10, [.int 0, .ref (g 4), .int 0])), (b1, .inr (10, [.int 0, .ref (g 4), .int 0])), (b2, .inr (10, [.int 0, .ref (g 4), .int 0])), (b3, .inr (11, [.null, .null, .null, .null, .int 0, .int 0, .null, .null, .null]))]) hD hS hA [8, 9, 10, 11, 12] rfl
  refine va_calli (va_runV (As := [.int (xs (Int32.toNatClampNeg 1))]) (rest := []) ⟨hx, hb, hml, hown, hts⟩ (c_X18_cues l z0 D g _ mm b0 b1 b2 b3 b4 b5 b6 (xs (Int32.toNatClampNeg 1))) (cwV 1 hts (lw_V m_1517 m_1518 m_1519 m_12 m_1520) rfl rfl rfl (by decide +kernel) ⟨(Nat.le_of_ble_eq_true rfl), (Nat.le_of_ble_eq_true rfl)⟩) ⟨PM.blind, va_recv hK hP (ci := 9) (q0 := 8) rfl rfl, PM.pre hE hS hAz hsz hc_4 hc_4D⟩ rfl rfl hl.1 rfl (lv_room (Nat.le_of_ble_eq_true rfl)) dL_law_852 ⟨(Nat.le_of_ble_eq_true rfl), (Nat.le_of_ble_eq_true rfl)⟩) hS (fun q _ h => hc_4F q h) hc_4F (fun r_5 u_6 t H locs ht hvm hw hB hz1 hk1 hS => ?_)
  obtain ⟨hP1, hD1⟩ := hB
  rw [ht] at hP1
  obtain ⟨hP, hD⟩ := va_joinQ (X := [(x, .inr (0, [.ref a0, .ref a1, .ref a2, .ref a3, .ref a4, .ref a5, .ref a6, .int 0, .int 0, .int 0, .int 0, .int 0, .int 0, .int 0])), (a0, .inl (cP, 10, .inr (.inr (.inr (.inr G0))))), (a1, .inl (cM, 6, .inr (.inr (.inr (.inr G1))))), (a2, .inl (cW, 3, .inr (.inr (.inr (.inr G2))))), (a3, .inl (cE, 100, .inr (.inr (.inr (.inr F))))), (pp, .inr (1, [.int 0, .int 0, .int 0, .int 0, .int (-1), .int (-1)])), (pm, .inr (2, [.int 0, .int 0, .int (-1), .int 0, .int 0])), (pw, .inr (3, [.int 0, .int 0, .int 0, .int 0, .ref w1, .ref w2, .ref w3])), (mm, .inr (9, [.ref b0, .ref b1, .ref b2, .ref b3, .int 0, .null, .null, .ref b4, .null, .ref b5, .ref b6, .int 0, .int 0, .long 0, .int 0])), (b0, .inr (10, [.int 0, .ref (g 4), .int 0])), (b1, .inr (10, [.int 0, .ref (g 4), .int 0])), (b2, .inr (10, [.int 0, .ref (g 4), .int 0])), (b3, .inr (11, [.null, .null, .null, .null, .int 0, .int 0, .null, .null, .null])), (o, .inl (cJ, 1, .inr (.inl (fun _ => 0)))), (od, .inl (cD, 1, .inr (.inr (.inr (.inl (fun _ => 0))))))]) (wr := [(x, .inr (0, [.ref a0, .ref a1, .ref a2, .ref a3, .ref a4, .ref a5, .ref a6, .int 0, .int 0, .int 0, .int 0, .int 0, .int 0, .int 0])), (a0, .inl (cP, 10, .inr (.inr (.inr (.inr G0))))), (a1, .inl (cM, 6, .inr (.inr (.inr (.inr G1))))), (a2, .inl (cW, 3, .inr (.inr (.inr (.inr G2))))), (a3, .inl (cE, 100, .inr (.inr (.inr (.inr F))))), (pp, .inr (1, [.int 0, .int 0, .int 0, .int 0, .int (-1), .int (-1)])), (pm, .inr (2, [.int 0, .int 0, .int (-1), .int 0, .int 0])), (pw, .inr (3, [.int 0, .int 0, .int 0, .int 0, .ref w1, .ref w2, .ref w3])), (o, .inl (cJ, 1, .inr (.inl (fun _ => 0)))), (od, .inl (cD, 1, .inr (.inr (.inr (.inl (fun _ => 0))))))]) (w1 := [(mm, .inr (9, [.ref b0, .ref b1, .ref b2, .ref b3, .int 0, .null, .null, .ref b4, .null, .ref b5, .ref b6, .int 0, .int 0, .long 0, .int 1])), (b0, .inr (10, [.int 0, .ref (g 4), .int 0])), (b1, .inr (10, [.int 0, .ref (g 4), .int 0])), (b2, .inr (10, [.int 0, .ref (g 4), .int 0])), (b3, .inr (11, [.null, .null, .null, .null, .int 0, .int 0, .null, .null, .null]))]) hP hD [8, 9, 10, 11, 12] [0, 1, 2, 3, 4, 5, 6, 7, 13, 14] rfl rfl (by decide) (by decide) hk1 hc_4F hP1 hD1
  have hP : va_P D classes ([(x, .inr (0, [.ref a0, .ref a1, .ref a2, .ref a3, .ref a4, .ref a5, .ref a6, .int 0, .int 0, .int 0, .int 0, .int 0, .int 0, .int 0])), (a0, .inl (cP, 10, .inr (.inr (.inr (.inr G0))))), (a1, .inl (cM, 6, .inr (.inr (.inr (.inr G1))))), (a2, .inl (cW, 3, .inr (.inr (.inr (.inr G2))))), (a3, .inl (cE, 100, .inr (.inr (.inr (.inr F))))), (pp, .inr (1, [.int 0, .int 0, .int 0, .int 0, .int (-1), .int (-1)])), (pm, .inr (2, [.int 0, .int 0, .int (-1), .int 0, .int 0])), (pw, .inr (3, [.int 0, .int 0, .int 0, .int 0, .ref w1, .ref w2, .ref w3])), (o, .inl (cJ, 1, .inr (.inl (fun _ => 0)))), (od, .inl (cD, 1, .inr (.inr (.inr (.inl (fun _ => 0)))))), (mm, .inr (9, [.ref b0, .ref b1, .ref b2, .ref b3, .int 0, .null, .null, .ref b4, .null, .ref b5, .ref b6, .int 0, .int 0, .long 0, .int 1])), (b0, .inr (10, [.int 0, .ref (g 4), .int 0])), (b1, .inr (10, [.int 0, .ref (g 4), .int 0])), (b2, .inr (10, [.int 0, .ref (g 4), .int 0])), (b3, .inr (11, [.null, .null, .null, .null, .int 0, .int 0, .null, .null, .null]))] ++ va_pl LP (fun _ => freeE g)) H := hP
  have hD : va_D (lA z0) ([(x, .inr (0, [.ref a0, .ref a1, .ref a2, .ref a3, .ref a4, .ref a5, .ref a6, .int 0, .int 0, .int 0, .int 0, .int 0, .int 0, .int 0])), (a0, .inl (cP, 10, .inr (.inr (.inr (.inr G0))))), (a1, .inl (cM, 6, .inr (.inr (.inr (.inr G1))))), (a2, .inl (cW, 3, .inr (.inr (.inr (.inr G2))))), (a3, .inl (cE, 100, .inr (.inr (.inr (.inr F))))), (pp, .inr (1, [.int 0, .int 0, .int 0, .int 0, .int (-1), .int (-1)])), (pm, .inr (2, [.int 0, .int 0, .int (-1), .int 0, .int 0])), (pw, .inr (3, [.int 0, .int 0, .int 0, .int 0, .ref w1, .ref w2, .ref w3])), (o, .inl (cJ, 1, .inr (.inl (fun _ => 0)))), (od, .inl (cD, 1, .inr (.inr (.inr (.inl (fun _ => 0)))))), (mm, .inr (9, [.ref b0, .ref b1, .ref b2, .ref b3, .int 0, .null, .null, .ref b4, .null, .ref b5, .ref b6, .int 0, .int 0, .long 0, .int 1])), (b0, .inr (10, [.int 0, .ref (g 4), .int 0])), (b1, .inr (10, [.int 0, .ref (g 4), .int 0])), (b2, .inr (10, [.int 0, .ref (g 4), .int 0])), (b3, .inr (11, [.null, .null, .null, .null, .int 0, .int 0, .null, .null, .null]))] ++ va_pl LP (fun _ => freeE g)) := hD
  refine lv_istore (lv' := [(7, .int r_5), (6, .int 1), (5, .int 0), (4, .ref od), (3, .ref o), (2, .ref mm), (1, .ref x), (0, .ref b)]) hx hb dL_law_855 hl (by decide) rfl (fun ls hl => ?_)
  refine lv_aload_n hx hb dL_law_857 rfl (lv_at hl 5 rfl) ?_
  have hc_7 := hP.sub (ws' := [(mm, .inr (9, [.ref b0, .ref b1, .ref b2, .ref b3, .int 0, .null, .null, .ref b4, .null, .ref b5, .ref b6, .int 0, .int 0, .long 0, .int 1]))]) [10] rfl
  refine va_calli (va_runV (As := []) (rest := []) ⟨hx, hb, hml, hown, hts⟩ (c_thrown l z0 D g mm b0 b1 b2 b3 b4 b5 b6 1 0) (cwV 0 hts (lw_V m_1229 m_1230 m_1231 m_12 m_1232) rfl rfl rfl (by decide +kernel) ⟨(Nat.le_of_ble_eq_true rfl), (Nat.le_of_ble_eq_true rfl)⟩) ⟨PR.blind, va_recv hK hP (ci := 9) (q0 := 10) rfl rfl, PR.pre hE hS hAz hc_7⟩ rfl rfl hl.1 rfl (lv_room (Nat.le_of_ble_eq_true rfl)) dL_law_858 ⟨(Nat.le_of_ble_eq_true rfl), (Nat.le_of_ble_eq_true rfl)⟩) hS nA_B nA_A (fun r_8 u_9 t H locs ht hvm hw hB hz1 hk1 hS => ?_)
  have hP := hP.old hk1
  have hP : va_P D classes ([(x, .inr (0, [.ref a0, .ref a1, .ref a2, .ref a3, .ref a4, .ref a5, .ref a6, .int 0, .int 0, .int 0, .int 0, .int 0, .int 0, .int 0])), (a0, .inl (cP, 10, .inr (.inr (.inr (.inr G0))))), (a1, .inl (cM, 6, .inr (.inr (.inr (.inr G1))))), (a2, .inl (cW, 3, .inr (.inr (.inr (.inr G2))))), (a3, .inl (cE, 100, .inr (.inr (.inr (.inr F))))), (pp, .inr (1, [.int 0, .int 0, .int 0, .int 0, .int (-1), .int (-1)])), (pm, .inr (2, [.int 0, .int 0, .int (-1), .int 0, .int 0])), (pw, .inr (3, [.int 0, .int 0, .int 0, .int 0, .ref w1, .ref w2, .ref w3])), (o, .inl (cJ, 1, .inr (.inl (fun _ => 0)))), (od, .inl (cD, 1, .inr (.inr (.inr (.inl (fun _ => 0)))))), (mm, .inr (9, [.ref b0, .ref b1, .ref b2, .ref b3, .int 0, .null, .null, .ref b4, .null, .ref b5, .ref b6, .int 0, .int 0, .long 0, .int 1])), (b0, .inr (10, [.int 0, .ref (g 4), .int 0])), (b1, .inr (10, [.int 0, .ref (g 4), .int 0])), (b2, .inr (10, [.int 0, .ref (g 4), .int 0])), (b3, .inr (11, [.null, .null, .null, .null, .int 0, .int 0, .null, .null, .null]))] ++ va_pl LP (fun _ => freeE g)) H := hP
  subst hw
  refine lv_iload hx hb dL_law_861 (lv_at hl 1 rfl) ?_
  refine lv_icmp_eq (tgt := 868) hx hb dL_law_863 (by decide) (fun _ => ?_) (fun h9 => absurd (by decide) h9)
  refine lv_iload hx hb dL_law_868 (lv_at hl 1 rfl) ?_
  refine lv_if_ne (tgt := 885) hx hb dL_law_870 (by decide) (fun _ => ?_) (fun h9 => absurd h9 (by decide))
  refine lv_goto (tgt := 2156) hx hb dL_law_885 (by decide) ?_
  exact law_tail (by rfl) C0 hz (Nat.le_of_ble_eq_true rfl) (Nat.le_of_ble_eq_true rfl) hS (lv_sub hl [2, 7] rfl)
