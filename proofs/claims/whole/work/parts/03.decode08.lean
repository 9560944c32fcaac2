theorem zd_La_law_231 : decode zb_La_law 231 = .ok (.if_icmp .eq 5, 3) := by decide +kernel
theorem zd_La_law_234 : decode zb_La_law 234 = .ok (.iconst 0, 1) := by decide +kernel
theorem zd_La_law_235 : decode zb_La_law 235 = .ok (.ireturn, 1) := by decide +kernel
theorem zd_La_law_236 : decode zb_La_law 236 = .ok (.iload 5, 2) := by decide +kernel
theorem zd_La_law_238 : decode zb_La_law 238 = .ok (.ifCond .ne 15, 3) := by decide +kernel
theorem zd_La_law_241 : decode zb_La_law 241 = .ok (.aload_n 3, 1) := by decide +kernel
theorem zd_La_law_242 : decode zb_La_law 242 = .ok (.iconst 0, 1) := by decide +kernel
theorem zd_La_law_243 : decode zb_La_law 243 = .ok (.laload, 1) := by decide +kernel
theorem zd_La_law_244 : decode zb_La_law 244 = .ok (.iload 6, 2) := by decide +kernel
theorem zd_La_law_246 : decode zb_La_law 246 = .ok (.i2l, 1) := by decide +kernel
theorem zd_La_law_247 : decode zb_La_law 247 = .ok (.lcmp, 1) := by decide +kernel
theorem zd_La_law_248 : decode zb_La_law 248 = .ok (.ifCond .eq 5, 3) := by decide +kernel
theorem zd_La_law_251 : decode zb_La_law 251 = .ok (.iconst 0, 1) := by decide +kernel
theorem zd_La_law_252 : decode zb_La_law 252 = .ok (.ireturn, 1) := by decide +kernel
theorem zd_La_law_253 : decode zb_La_law 253 = .ok (.goto 314, 3) := by decide +kernel
theorem zd_La_law_256 : decode zb_La_law 256 = .ok (.aload_n 1, 1) := by decide +kernel
theorem zd_La_law_257 : decode zb_La_law 257 = .ok (.aload_n 0, 1) := by decide +kernel
theorem zd_La_law_258 : decode zb_La_law 258 = .ok (.iload 4, 2) := by decide +kernel
theorem zd_La_law_260 : decode zb_La_law 260 = .ok (.iconst 1, 1) := by decide +kernel
theorem zd_La_law_261 : decode zb_La_law 261 = .ok (.iadd, 1) := by decide +kernel
theorem zd_La_law_262 : decode zb_La_law 262 = .ok (.iaload, 1) := by decide +kernel
theorem zd_La_law_263 : decode zb_La_law 263 = .ok (.aload_n 0, 1) := by decide +kernel
theorem zd_La_law_264 : decode zb_La_law 264 = .ok (.iload 4, 2) := by decide +kernel
theorem zd_La_law_266 : decode zb_La_law 266 = .ok (.iconst 2, 1) := by decide +kernel
theorem zd_La_law_267 : decode zb_La_law 267 = .ok (.iadd, 1) := by decide +kernel
theorem zd_La_law_268 : decode zb_La_law 268 = .ok (.iaload, 1) := by decide +kernel
theorem zd_La_law_269 : decode zb_La_law 269 = .ok (.invokestatic 60, 3) := by decide +kernel
theorem zd_La_law_272 : decode zb_La_law 272 = .ok (.istore 5, 2) := by decide +kernel
theorem zd_La_law_274 : decode zb_La_law 274 = .ok (.aload_n 2, 1) := by decide +kernel
theorem zd_La_law_275 : decode zb_La_law 275 = .ok (.aload_n 0, 1) := by decide +kernel
theorem zd_La_law_276 : decode zb_La_law 276 = .ok (.iload 4, 2) := by decide +kernel
theorem zd_La_law_278 : decode zb_La_law 278 = .ok (.iconst 1, 1) := by decide +kernel
theorem zd_La_law_279 : decode zb_La_law 279 = .ok (.iadd, 1) := by decide +kernel
theorem zd_La_law_280 : decode zb_La_law 280 = .ok (.iaload, 1) := by decide +kernel
theorem zd_La_law_281 : decode zb_La_law 281 = .ok (.aload_n 0, 1) := by decide +kernel
theorem zd_La_law_282 : decode zb_La_law 282 = .ok (.iload 4, 2) := by decide +kernel
theorem zd_La_law_284 : decode zb_La_law 284 = .ok (.iconst 2, 1) := by decide +kernel
theorem zd_La_law_285 : decode zb_La_law 285 = .ok (.iadd, 1) := by decide +kernel
theorem zd_La_law_286 : decode zb_La_law 286 = .ok (.iaload, 1) := by decide +kernel
theorem zd_La_law_287 : decode zb_La_law 287 = .ok (.invokevirtual 63, 3) := by decide +kernel
theorem zd_La_law_290 : decode zb_La_law 290 = .ok (.aload_n 2, 1) := by decide +kernel
theorem zd_La_law_291 : decode zb_La_law 291 = .ok (.invokevirtual 53, 3) := by decide +kernel
theorem zd_La_law_294 : decode zb_La_law 294 = .ok (.iload 5, 2) := by decide +kernel
theorem zd_La_law_296 : decode zb_La_law 296 = .ok (.if_icmp .eq 5, 3) := by decide +kernel
theorem zd_La_law_299 : decode zb_La_law 299 = .ok (.iconst 0, 1) := by decide +kernel
theorem zd_La_law_300 : decode zb_La_law 300 = .ok (.ireturn, 1) := by decide +kernel
theorem zd_La_law_301 : decode zb_La_law 301 = .ok (.goto 266, 3) := by decide +kernel
theorem zd_La_law_304 : decode zb_La_law 304 = .ok (.aload_n 1, 1) := by decide +kernel
theorem zd_La_law_305 : decode zb_La_law 305 = .ok (.invokevirtual 64, 3) := by decide +kernel
theorem zd_La_law_308 : decode zb_La_law 308 = .ok (.aload_n 2, 1) := by decide +kernel
theorem zd_La_law_309 : decode zb_La_law 309 = .ok (.invokevirtual 67, 3) := by decide +kernel
theorem zd_La_law_312 : decode zb_La_law 312 = .ok (.if_icmp .eq 255, 3) := by decide +kernel
theorem zd_La_law_315 : decode zb_La_law 315 = .ok (.iconst 0, 1) := by decide +kernel
theorem zd_La_law_316 : decode zb_La_law 316 = .ok (.ireturn, 1) := by decide +kernel
theorem zd_La_law_317 : decode zb_La_law 317 = .ok (.aload_n 1, 1) := by decide +kernel
theorem zd_La_law_318 : decode zb_La_law 318 = .ok (.invokevirtual 68, 3) := by decide +kernel
theorem zd_La_law_321 : decode zb_La_law 321 = .ok (.aload_n 2, 1) := by decide +kernel
theorem zd_La_law_322 : decode zb_La_law 322 = .ok (.invokevirtual 71, 3) := by decide +kernel
theorem zd_La_law_325 : decode zb_La_law 325 = .ok (.if_icmp .eq 242, 3) := by decide +kernel
theorem zd_La_law_328 : decode zb_La_law 328 = .ok (.iconst 0, 1) := by decide +kernel
theorem zd_La_law_329 : decode zb_La_law 329 = .ok (.ireturn, 1) := by decide +kernel
theorem zd_La_law_330 : decode zb_La_law 330 = .ok (.aload_n 1, 1) := by decide +kernel
theorem zd_La_law_331 : decode zb_La_law 331 = .ok (.aload_n 3, 1) := by decide +kernel
theorem zd_La_law_332 : decode zb_La_law 332 = .ok (.invokestatic 72, 3) := by decide +kernel
theorem zd_La_law_335 : decode zb_La_law 335 = .ok (.istore 5, 2) := by decide +kernel
theorem zd_La_law_337 : decode zb_La_law 337 = .ok (.aload_n 2, 1) := by decide +kernel
theorem zd_La_law_338 : decode zb_La_law 338 = .ok (.invokevirtual 75, 3) := by decide +kernel
theorem zd_La_law_341 : decode zb_La_law 341 = .ok (.istore 6, 2) := by decide +kernel
theorem zd_La_law_343 : decode zb_La_law 343 = .ok (.aload_n 2, 1) := by decide +kernel
theorem zd_La_law_344 : decode zb_La_law 344 = .ok (.invokevirtual 53, 3) := by decide +kernel
theorem zd_La_law_347 : decode zb_La_law 347 = .ok (.iload 5, 2) := by decide +kernel
theorem zd_La_law_349 : decode zb_La_law 349 = .ok (.if_icmp .eq 5, 3) := by decide +kernel
theorem zd_La_law_352 : decode zb_La_law 352 = .ok (.iconst 0, 1) := by decide +kernel
theorem zd_La_law_353 : decode zb_La_law 353 = .ok (.ireturn, 1) := by decide +kernel
theorem zd_La_law_354 : decode zb_La_law 354 = .ok (.iload 5, 2) := by decide +kernel
theorem zd_La_law_356 : decode zb_La_law 356 = .ok (.ifCond .ne 15, 3) := by decide +kernel
theorem zd_La_law_359 : decode zb_La_law 359 = .ok (.aload_n 3, 1) := by decide +kernel
theorem zd_La_law_360 : decode zb_La_law 360 = .ok (.iconst 0, 1) := by decide +kernel
theorem zd_La_law_361 : decode zb_La_law 361 = .ok (.laload, 1) := by decide +kernel
theorem zd_La_law_362 : decode zb_La_law 362 = .ok (.iload 6, 2) := by decide +kernel
theorem zd_La_law_364 : decode zb_La_law 364 = .ok (.i2l, 1) := by decide +kernel
theorem zd_La_law_365 : decode zb_La_law 365 = .ok (.lcmp, 1) := by decide +kernel
theorem zd_La_law_366 : decode zb_La_law 366 = .ok (.ifCond .eq 5, 3) := by decide +kernel
theorem zd_La_law_369 : decode zb_La_law 369 = .ok (.iconst 0, 1) := by decide +kernel
theorem zd_La_law_370 : decode zb_La_law 370 = .ok (.ireturn, 1) := by decide +kernel
theorem zd_La_law_371 : decode zb_La_law 371 = .ok (.goto 196, 3) := by decide +kernel
theorem zd_La_law_374 : decode zb_La_law 374 = .ok (.aload_n 1, 1) := by decide +kernel
theorem zd_La_law_375 : decode zb_La_law 375 = .ok (.aload_n 3, 1) := by decide +kernel
theorem zd_La_law_376 : decode zb_La_law 376 = .ok (.invokestatic 76, 3) := by decide +kernel
theorem zd_La_law_379 : decode zb_La_law 379 = .ok (.istore 5, 2) := by decide +kernel
theorem zd_La_law_381 : decode zb_La_law 381 = .ok (.aload_n 2, 1) := by decide +kernel
theorem zd_La_law_382 : decode zb_La_law 382 = .ok (.invokevirtual 78, 3) := by decide +kernel
theorem zd_La_law_385 : decode zb_La_law 385 = .ok (.istore 6, 2) := by decide +kernel
theorem zd_La_law_387 : decode zb_La_law 387 = .ok (.aload_n 2, 1) := by decide +kernel
theorem zd_La_law_388 : decode zb_La_law 388 = .ok (.invokevirtual 53, 3) := by decide +kernel
theorem zd_La_law_391 : decode zb_La_law 391 = .ok (.iload 5, 2) := by decide +kernel
theorem zd_La_law_393 : decode zb_La_law 393 = .ok (.if_icmp .eq 5, 3) := by decide +kernel
theorem zd_La_law_396 : decode zb_La_law 396 = .ok (.iconst 0, 1) := by decide +kernel
theorem zd_La_law_397 : decode zb_La_law 397 = .ok (.ireturn, 1) := by decide +kernel
theorem zd_La_law_398 : decode zb_La_law 398 = .ok (.iload 5, 2) := by decide +kernel
theorem zd_La_law_400 : decode zb_La_law 400 = .ok (.ifCond .ne 15, 3) := by decide +kernel
theorem zd_La_law_403 : decode zb_La_law 403 = .ok (.aload_n 3, 1) := by decide +kernel
theorem zd_La_law_404 : decode zb_La_law 404 = .ok (.iconst 0, 1) := by decide +kernel
theorem zd_La_law_405 : decode zb_La_law 405 = .ok (.laload, 1) := by decide +kernel
theorem zd_La_law_406 : decode zb_La_law 406 = .ok (.iload 6, 2) := by decide +kernel
theorem zd_La_law_408 : decode zb_La_law 408 = .ok (.i2l, 1) := by decide +kernel
theorem zd_La_law_409 : decode zb_La_law 409 = .ok (.lcmp, 1) := by decide +kernel
theorem zd_La_law_410 : decode zb_La_law 410 = .ok (.ifCond .eq 5, 3) := by decide +kernel
theorem zd_La_law_413 : decode zb_La_law 413 = .ok (.iconst 0, 1) := by decide +kernel
theorem zd_La_law_414 : decode zb_La_law 414 = .ok (.ireturn, 1) := by decide +kernel
theorem zd_La_law_415 : decode zb_La_law 415 = .ok (.goto 152, 3) := by decide +kernel
theorem zd_La_law_418 : decode zb_La_law 418 = .ok (.aload_n 1, 1) := by decide +kernel
theorem zd_La_law_419 : decode zb_La_law 419 = .ok (.aload_n 0, 1) := by decide +kernel
theorem zd_La_law_420 : decode zb_La_law 420 = .ok (.iload 4, 2) := by decide +kernel
theorem zd_La_law_422 : decode zb_La_law 422 = .ok (.iconst 1, 1) := by decide +kernel
theorem zd_La_law_423 : decode zb_La_law 423 = .ok (.iadd, 1) := by decide +kernel
theorem zd_La_law_424 : decode zb_La_law 424 = .ok (.iaload, 1) := by decide +kernel
theorem zd_La_law_425 : decode zb_La_law 425 = .ok (.aload_n 0, 1) := by decide +kernel
theorem zd_La_law_426 : decode zb_La_law 426 = .ok (.iload 4, 2) := by decide +kernel
theorem zd_La_law_428 : decode zb_La_law 428 = .ok (.iconst 2, 1) := by decide +kernel
theorem zd_La_law_429 : decode zb_La_law 429 = .ok (.iadd, 1) := by decide +kernel
theorem zd_La_law_430 : decode zb_La_law 430 = .ok (.iaload, 1) := by decide +kernel
theorem zd_La_law_431 : decode zb_La_law 431 = .ok (.aload_n 3, 1) := by decide +kernel
theorem zd_La_law_432 : decode zb_La_law 432 = .ok (.invokestatic 79, 3) := by decide +kernel
theorem zd_La_law_435 : decode zb_La_law 435 = .ok (.istore 5, 2) := by decide +kernel
theorem zd_La_law_437 : decode zb_La_law 437 = .ok (.aload_n 2, 1) := by decide +kernel
theorem zd_La_law_438 : decode zb_La_law 438 = .ok (.aload_n 0, 1) := by decide +kernel
theorem zd_La_law_439 : decode zb_La_law 439 = .ok (.iload 4, 2) := by decide +kernel
theorem zd_La_law_441 : decode zb_La_law 441 = .ok (.iconst 1, 1) := by decide +kernel
theorem zd_La_law_442 : decode zb_La_law 442 = .ok (.iadd, 1) := by decide +kernel
theorem zd_La_law_443 : decode zb_La_law 443 = .ok (.iaload, 1) := by decide +kernel
theorem zd_La_law_444 : decode zb_La_law 444 = .ok (.aload_n 0, 1) := by decide +kernel
theorem zd_La_law_445 : decode zb_La_law 445 = .ok (.iload 4, 2) := by decide +kernel
theorem zd_La_law_447 : decode zb_La_law 447 = .ok (.iconst 2, 1) := by decide +kernel
theorem zd_La_law_448 : decode zb_La_law 448 = .ok (.iadd, 1) := by decide +kernel
theorem zd_La_law_449 : decode zb_La_law 449 = .ok (.iaload, 1) := by decide +kernel
theorem zd_La_law_450 : decode zb_La_law 450 = .ok (.invokevirtual 82, 3) := by decide +kernel
theorem zd_La_law_453 : decode zb_La_law 453 = .ok (.istore 6, 2) := by decide +kernel
theorem zd_La_law_455 : decode zb_La_law 455 = .ok (.aload_n 2, 1) := by decide +kernel
theorem zd_La_law_456 : decode zb_La_law 456 = .ok (.invokevirtual 53, 3) := by decide +kernel
theorem zd_La_law_459 : decode zb_La_law 459 = .ok (.iload 5, 2) := by decide +kernel
theorem zd_La_law_461 : decode zb_La_law 461 = .ok (.if_icmp .eq 5, 3) := by decide +kernel
theorem zd_La_law_464 : decode zb_La_law 464 = .ok (.iconst 0, 1) := by decide +kernel
theorem zd_La_law_465 : decode zb_La_law 465 = .ok (.ireturn, 1) := by decide +kernel
theorem zd_La_law_466 : decode zb_La_law 466 = .ok (.iload 5, 2) := by decide +kernel
theorem zd_La_law_468 : decode zb_La_law 468 = .ok (.ifCond .ne 15, 3) := by decide +kernel
theorem zd_La_law_471 : decode zb_La_law 471 = .ok (.aload_n 3, 1) := by decide +kernel
theorem zd_La_law_472 : decode zb_La_law 472 = .ok (.iconst 0, 1) := by decide +kernel
theorem zd_La_law_473 : decode zb_La_law 473 = .ok (.laload, 1) := by decide +kernel
theorem zd_La_law_474 : decode zb_La_law 474 = .ok (.iload 6, 2) := by decide +kernel
theorem zd_La_law_476 : decode zb_La_law 476 = .ok (.i2l, 1) := by decide +kernel
theorem zd_La_law_477 : decode zb_La_law 477 = .ok (.lcmp, 1) := by decide +kernel
theorem zd_La_law_478 : decode zb_La_law 478 = .ok (.ifCond .eq 5, 3) := by decide +kernel
theorem zd_La_law_481 : decode zb_La_law 481 = .ok (.iconst 0, 1) := by decide +kernel
theorem zd_La_law_482 : decode zb_La_law 482 = .ok (.ireturn, 1) := by decide +kernel
theorem zd_La_law_483 : decode zb_La_law 483 = .ok (.goto 84, 3) := by decide +kernel
theorem zd_La_law_486 : decode zb_La_law 486 = .ok (.aload_n 1, 1) := by decide +kernel
theorem zd_La_law_487 : decode zb_La_law 487 = .ok (.aload_n 0, 1) := by decide +kernel
theorem zd_La_law_488 : decode zb_La_law 488 = .ok (.iload 4, 2) := by decide +kernel
theorem zd_La_law_490 : decode zb_La_law 490 = .ok (.iconst 1, 1) := by decide +kernel
theorem zd_La_law_491 : decode zb_La_law 491 = .ok (.iadd, 1) := by decide +kernel
theorem zd_La_law_492 : decode zb_La_law 492 = .ok (.iaload, 1) := by decide +kernel
theorem zd_La_law_493 : decode zb_La_law 493 = .ok (.aload_n 3, 1) := by decide +kernel
theorem zd_La_law_494 : decode zb_La_law 494 = .ok (.invokestatic 83, 3) := by decide +kernel
theorem zd_La_law_497 : decode zb_La_law 497 = .ok (.istore 5, 2) := by decide +kernel
theorem zd_La_law_499 : decode zb_La_law 499 = .ok (.aload_n 2, 1) := by decide +kernel
theorem zd_La_law_500 : decode zb_La_law 500 = .ok (.aload_n 0, 1) := by decide +kernel
theorem zd_La_law_501 : decode zb_La_law 501 = .ok (.iload 4, 2) := by decide +kernel
theorem zd_La_law_503 : decode zb_La_law 503 = .ok (.iconst 1, 1) := by decide +kernel
theorem zd_La_law_504 : decode zb_La_law 504 = .ok (.iadd, 1) := by decide +kernel
theorem zd_La_law_505 : decode zb_La_law 505 = .ok (.iaload, 1) := by decide +kernel
theorem zd_La_law_506 : decode zb_La_law 506 = .ok (.invokevirtual 85, 3) := by decide +kernel
theorem zd_La_law_509 : decode zb_La_law 509 = .ok (.istore 6, 2) := by decide +kernel
theorem zd_La_law_511 : decode zb_La_law 511 = .ok (.aload_n 2, 1) := by decide +kernel
theorem zd_La_law_512 : decode zb_La_law 512 = .ok (.invokevirtual 53, 3) := by decide +kernel
theorem zd_La_law_515 : decode zb_La_law 515 = .ok (.iload 5, 2) := by decide +kernel
theorem zd_La_law_517 : decode zb_La_law 517 = .ok (.if_icmp .eq 5, 3) := by decide +kernel
theorem zd_La_law_520 : decode zb_La_law 520 = .ok (.iconst 0, 1) := by decide +kernel
theorem zd_La_law_521 : decode zb_La_law 521 = .ok (.ireturn, 1) := by decide +kernel
theorem zd_La_law_522 : decode zb_La_law 522 = .ok (.iload 5, 2) := by decide +kernel
theorem zd_La_law_524 : decode zb_La_law 524 = .ok (.ifCond .ne 15, 3) := by decide +kernel
theorem zd_La_law_527 : decode zb_La_law 527 = .ok (.aload_n 3, 1) := by decide +kernel
theorem zd_La_law_528 : decode zb_La_law 528 = .ok (.iconst 0, 1) := by decide +kernel
theorem zd_La_law_529 : decode zb_La_law 529 = .ok (.laload, 1) := by decide +kernel
theorem zd_La_law_530 : decode zb_La_law 530 = .ok (.iload 6, 2) := by decide +kernel
theorem zd_La_law_532 : decode zb_La_law 532 = .ok (.i2l, 1) := by decide +kernel
theorem zd_La_law_533 : decode zb_La_law 533 = .ok (.lcmp, 1) := by decide +kernel
theorem zd_La_law_534 : decode zb_La_law 534 = .ok (.ifCond .eq 5, 3) := by decide +kernel
theorem zd_La_law_537 : decode zb_La_law 537 = .ok (.iconst 0, 1) := by decide +kernel
theorem zd_La_law_538 : decode zb_La_law 538 = .ok (.ireturn, 1) := by decide +kernel
theorem zd_La_law_539 : decode zb_La_law 539 = .ok (.goto 28, 3) := by decide +kernel
theorem zd_La_law_542 : decode zb_La_law 542 = .ok (.aload_n 1, 1) := by decide +kernel
theorem zd_La_law_543 : decode zb_La_law 543 = .ok (.aload_n 0, 1) := by decide +kernel
theorem zd_La_law_544 : decode zb_La_law 544 = .ok (.iload 4, 2) := by decide +kernel
theorem zd_La_law_546 : decode zb_La_law 546 = .ok (.iconst 1, 1) := by decide +kernel
theorem zd_La_law_547 : decode zb_La_law 547 = .ok (.iadd, 1) := by decide +kernel
theorem zd_La_law_548 : decode zb_La_law 548 = .ok (.iaload, 1) := by decide +kernel
theorem zd_La_law_549 : decode zb_La_law 549 = .ok (.invokevirtual 86, 3) := by decide +kernel
theorem zd_La_law_552 : decode zb_La_law 552 = .ok (.aload_n 2, 1) := by decide +kernel
theorem zd_La_law_553 : decode zb_La_law 553 = .ok (.aload_n 0, 1) := by decide +kernel
theorem zd_La_law_554 : decode zb_La_law 554 = .ok (.iload 4, 2) := by decide +kernel
theorem zd_La_law_556 : decode zb_La_law 556 = .ok (.iconst 1, 1) := by decide +kernel
theorem zd_La_law_557 : decode zb_La_law 557 = .ok (.iadd, 1) := by decide +kernel
theorem zd_La_law_558 : decode zb_La_law 558 = .ok (.iaload, 1) := by decide +kernel
theorem zd_La_law_559 : decode zb_La_law 559 = .ok (.invokevirtual 89, 3) := by decide +kernel
theorem zd_La_law_562 : decode zb_La_law 562 = .ok (.if_icmp .eq 5, 3) := by decide +kernel
theorem zd_La_law_565 : decode zb_La_law 565 = .ok (.iconst 0, 1) := by decide +kernel
theorem zd_La_law_566 : decode zb_La_law 566 = .ok (.ireturn, 1) := by decide +kernel
theorem zd_La_law_567 : decode zb_La_law 567 = .ok (.iinc 4 6, 3) := by decide +kernel
theorem zd_La_law_570 : decode zb_La_law 570 = .ok (.goto (-547), 3) := by decide +kernel
theorem zd_La_law_573 : decode zb_La_law 573 = .ok (.iconst 1, 1) := by decide +kernel
theorem zd_La_law_574 : decode zb_La_law 574 = .ok (.ireturn, 1) := by decide +kernel
