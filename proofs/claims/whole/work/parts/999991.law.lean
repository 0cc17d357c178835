/-! ===== the law: its cases ===== -/
theorem dL_212 : decode code 212 = .ok (.aload_n 1, 1) := by decide +kernel
theorem dL_213 : decode code 213 = .ok (.aload_n 0, 1) := by decide +kernel
theorem dL_214 : decode code 214 = .ok (.iload_n 3, 1) := by decide +kernel
theorem dL_215 : decode code 215 = .ok (.iconst 1, 1) := by decide +kernel
theorem dL_216 : decode code 216 = .ok (.iadd, 1) := by decide +kernel
theorem dL_217 : decode code 217 = .ok (.iaload, 1) := by decide +kernel
theorem dL_218 : decode code 218 = .ok (.aload_n 0, 1) := by decide +kernel
theorem dL_219 : decode code 219 = .ok (.iload_n 3, 1) := by decide +kernel
theorem dL_220 : decode code 220 = .ok (.iconst 2, 1) := by decide +kernel
theorem dL_221 : decode code 221 = .ok (.iadd, 1) := by decide +kernel
theorem dL_222 : decode code 222 = .ok (.iaload, 1) := by decide +kernel
theorem dL_223 : decode code 223 = .ok (.aload_n 0, 1) := by decide +kernel
theorem dL_224 : decode code 224 = .ok (.iload_n 3, 1) := by decide +kernel
theorem dL_225 : decode code 225 = .ok (.iconst 3, 1) := by decide +kernel
theorem dL_226 : decode code 226 = .ok (.iadd, 1) := by decide +kernel
theorem dL_227 : decode code 227 = .ok (.iaload, 1) := by decide +kernel
theorem dL_228 : decode code 228 = .ok (.aload_n 0, 1) := by decide +kernel
theorem dL_229 : decode code 229 = .ok (.iload_n 3, 1) := by decide +kernel
theorem dL_230 : decode code 230 = .ok (.iconst 4, 1) := by decide +kernel
theorem dL_231 : decode code 231 = .ok (.iadd, 1) := by decide +kernel
theorem dL_232 : decode code 232 = .ok (.iaload, 1) := by decide +kernel
theorem dL_233 : decode code 233 = .ok (.invokevirtual 13, 3) := by decide +kernel
theorem dL_236 : decode code 236 = .ok (.aload_n 2, 1) := by decide +kernel
theorem dL_237 : decode code 237 = .ok (.aload_n 0, 1) := by decide +kernel
theorem dL_238 : decode code 238 = .ok (.iload_n 3, 1) := by decide +kernel
theorem dL_239 : decode code 239 = .ok (.iconst 1, 1) := by decide +kernel
theorem dL_240 : decode code 240 = .ok (.iadd, 1) := by decide +kernel
theorem dL_241 : decode code 241 = .ok (.iaload, 1) := by decide +kernel
theorem dL_242 : decode code 242 = .ok (.aload_n 0, 1) := by decide +kernel
theorem dL_243 : decode code 243 = .ok (.iload_n 3, 1) := by decide +kernel
theorem dL_244 : decode code 244 = .ok (.iconst 2, 1) := by decide +kernel
theorem dL_245 : decode code 245 = .ok (.iadd, 1) := by decide +kernel
theorem dL_246 : decode code 246 = .ok (.iaload, 1) := by decide +kernel
theorem dL_247 : decode code 247 = .ok (.aload_n 0, 1) := by decide +kernel
theorem dL_248 : decode code 248 = .ok (.iload_n 3, 1) := by decide +kernel
theorem dL_249 : decode code 249 = .ok (.iconst 3, 1) := by decide +kernel
theorem dL_250 : decode code 250 = .ok (.iadd, 1) := by decide +kernel
theorem dL_251 : decode code 251 = .ok (.iaload, 1) := by decide +kernel
theorem dL_252 : decode code 252 = .ok (.aload_n 0, 1) := by decide +kernel
theorem dL_253 : decode code 253 = .ok (.iload_n 3, 1) := by decide +kernel
theorem dL_254 : decode code 254 = .ok (.iconst 4, 1) := by decide +kernel
theorem dL_255 : decode code 255 = .ok (.iadd, 1) := by decide +kernel
theorem dL_256 : decode code 256 = .ok (.iaload, 1) := by decide +kernel
theorem dL_257 : decode code 257 = .ok (.invokevirtual 17, 3) := by decide +kernel
theorem dL_260 : decode code 260 = .ok (.if_icmp .eq 1165, 3) := by decide +kernel
theorem dL_265 : decode code 265 = .ok (.aload_n 1, 1) := by decide +kernel
theorem dL_266 : decode code 266 = .ok (.aload_n 0, 1) := by decide +kernel
theorem dL_267 : decode code 267 = .ok (.iload_n 3, 1) := by decide +kernel
theorem dL_268 : decode code 268 = .ok (.iconst 1, 1) := by decide +kernel
theorem dL_269 : decode code 269 = .ok (.iadd, 1) := by decide +kernel
theorem dL_270 : decode code 270 = .ok (.iaload, 1) := by decide +kernel
theorem dL_271 : decode code 271 = .ok (.invokevirtual 18, 3) := by decide +kernel
theorem dL_274 : decode code 274 = .ok (.aload_n 2, 1) := by decide +kernel
theorem dL_275 : decode code 275 = .ok (.aload_n 0, 1) := by decide +kernel
theorem dL_276 : decode code 276 = .ok (.iload_n 3, 1) := by decide +kernel
theorem dL_277 : decode code 277 = .ok (.iconst 1, 1) := by decide +kernel
theorem dL_278 : decode code 278 = .ok (.iadd, 1) := by decide +kernel
theorem dL_279 : decode code 279 = .ok (.iaload, 1) := by decide +kernel
theorem dL_280 : decode code 280 = .ok (.invokevirtual 22, 3) := by decide +kernel
theorem dL_283 : decode code 283 = .ok (.if_icmp .eq 1142, 3) := by decide +kernel
theorem dL_288 : decode code 288 = .ok (.aload_n 1, 1) := by decide +kernel
theorem dL_289 : decode code 289 = .ok (.aload_n 0, 1) := by decide +kernel
theorem dL_290 : decode code 290 = .ok (.iload_n 3, 1) := by decide +kernel
theorem dL_291 : decode code 291 = .ok (.iconst 1, 1) := by decide +kernel
theorem dL_292 : decode code 292 = .ok (.iadd, 1) := by decide +kernel
theorem dL_293 : decode code 293 = .ok (.iaload, 1) := by decide +kernel
theorem dL_294 : decode code 294 = .ok (.aload_n 0, 1) := by decide +kernel
theorem dL_295 : decode code 295 = .ok (.iload_n 3, 1) := by decide +kernel
theorem dL_296 : decode code 296 = .ok (.iconst 2, 1) := by decide +kernel
theorem dL_297 : decode code 297 = .ok (.iadd, 1) := by decide +kernel
theorem dL_298 : decode code 298 = .ok (.iaload, 1) := by decide +kernel
theorem dL_299 : decode code 299 = .ok (.invokevirtual 23, 3) := by decide +kernel
theorem dL_302 : decode code 302 = .ok (.aload_n 2, 1) := by decide +kernel
theorem dL_303 : decode code 303 = .ok (.aload_n 0, 1) := by decide +kernel
theorem dL_304 : decode code 304 = .ok (.iload_n 3, 1) := by decide +kernel
theorem dL_305 : decode code 305 = .ok (.iconst 1, 1) := by decide +kernel
theorem dL_306 : decode code 306 = .ok (.iadd, 1) := by decide +kernel
theorem dL_307 : decode code 307 = .ok (.iaload, 1) := by decide +kernel
theorem dL_308 : decode code 308 = .ok (.aload_n 0, 1) := by decide +kernel
theorem dL_309 : decode code 309 = .ok (.iload_n 3, 1) := by decide +kernel
theorem dL_310 : decode code 310 = .ok (.iconst 2, 1) := by decide +kernel
theorem dL_311 : decode code 311 = .ok (.iadd, 1) := by decide +kernel
theorem dL_312 : decode code 312 = .ok (.iaload, 1) := by decide +kernel
theorem dL_313 : decode code 313 = .ok (.invokevirtual 27, 3) := by decide +kernel
theorem dL_316 : decode code 316 = .ok (.if_icmp .eq 1109, 3) := by decide +kernel
theorem dL_321 : decode code 321 = .ok (.aload_n 1, 1) := by decide +kernel
theorem dL_322 : decode code 322 = .ok (.aload_n 0, 1) := by decide +kernel
theorem dL_323 : decode code 323 = .ok (.iload_n 3, 1) := by decide +kernel
theorem dL_324 : decode code 324 = .ok (.iconst 1, 1) := by decide +kernel
theorem dL_325 : decode code 325 = .ok (.iadd, 1) := by decide +kernel
theorem dL_326 : decode code 326 = .ok (.iaload, 1) := by decide +kernel
theorem dL_327 : decode code 327 = .ok (.aload_n 0, 1) := by decide +kernel
theorem dL_328 : decode code 328 = .ok (.iload_n 3, 1) := by decide +kernel
theorem dL_329 : decode code 329 = .ok (.iconst 2, 1) := by decide +kernel
theorem dL_330 : decode code 330 = .ok (.iadd, 1) := by decide +kernel
theorem dL_331 : decode code 331 = .ok (.iaload, 1) := by decide +kernel
theorem dL_332 : decode code 332 = .ok (.invokevirtual 28, 3) := by decide +kernel
theorem dL_335 : decode code 335 = .ok (.aload_n 2, 1) := by decide +kernel
theorem dL_336 : decode code 336 = .ok (.aload_n 0, 1) := by decide +kernel
theorem dL_337 : decode code 337 = .ok (.iload_n 3, 1) := by decide +kernel
theorem dL_338 : decode code 338 = .ok (.iconst 1, 1) := by decide +kernel
theorem dL_339 : decode code 339 = .ok (.iadd, 1) := by decide +kernel
theorem dL_340 : decode code 340 = .ok (.iaload, 1) := by decide +kernel
theorem dL_341 : decode code 341 = .ok (.aload_n 0, 1) := by decide +kernel
theorem dL_342 : decode code 342 = .ok (.iload_n 3, 1) := by decide +kernel
theorem dL_343 : decode code 343 = .ok (.iconst 2, 1) := by decide +kernel
theorem dL_344 : decode code 344 = .ok (.iadd, 1) := by decide +kernel
theorem dL_345 : decode code 345 = .ok (.iaload, 1) := by decide +kernel
theorem dL_346 : decode code 346 = .ok (.invokevirtual 31, 3) := by decide +kernel
theorem dL_349 : decode code 349 = .ok (.if_icmp .eq 1076, 3) := by decide +kernel
theorem dL_354 : decode code 354 = .ok (.aload_n 1, 1) := by decide +kernel
theorem dL_355 : decode code 355 = .ok (.aload_n 0, 1) := by decide +kernel
theorem dL_356 : decode code 356 = .ok (.iload_n 3, 1) := by decide +kernel
theorem dL_357 : decode code 357 = .ok (.iconst 1, 1) := by decide +kernel
theorem dL_358 : decode code 358 = .ok (.iadd, 1) := by decide +kernel
theorem dL_359 : decode code 359 = .ok (.iaload, 1) := by decide +kernel
theorem dL_360 : decode code 360 = .ok (.aload_n 0, 1) := by decide +kernel
theorem dL_361 : decode code 361 = .ok (.iload_n 3, 1) := by decide +kernel
theorem dL_362 : decode code 362 = .ok (.iconst 2, 1) := by decide +kernel
theorem dL_363 : decode code 363 = .ok (.iadd, 1) := by decide +kernel
theorem dL_364 : decode code 364 = .ok (.iaload, 1) := by decide +kernel
theorem dL_365 : decode code 365 = .ok (.invokevirtual 32, 3) := by decide +kernel
theorem dL_368 : decode code 368 = .ok (.aload_n 2, 1) := by decide +kernel
theorem dL_369 : decode code 369 = .ok (.aload_n 0, 1) := by decide +kernel
theorem dL_370 : decode code 370 = .ok (.iload_n 3, 1) := by decide +kernel
theorem dL_371 : decode code 371 = .ok (.iconst 1, 1) := by decide +kernel
theorem dL_372 : decode code 372 = .ok (.iadd, 1) := by decide +kernel
theorem dL_373 : decode code 373 = .ok (.iaload, 1) := by decide +kernel
theorem dL_374 : decode code 374 = .ok (.aload_n 0, 1) := by decide +kernel
theorem dL_375 : decode code 375 = .ok (.iload_n 3, 1) := by decide +kernel
theorem dL_376 : decode code 376 = .ok (.iconst 2, 1) := by decide +kernel
theorem dL_377 : decode code 377 = .ok (.iadd, 1) := by decide +kernel
theorem dL_378 : decode code 378 = .ok (.iaload, 1) := by decide +kernel
theorem dL_379 : decode code 379 = .ok (.invokevirtual 35, 3) := by decide +kernel
theorem dL_382 : decode code 382 = .ok (.if_icmp .eq 1043, 3) := by decide +kernel
theorem dL_387 : decode code 387 = .ok (.aload_n 1, 1) := by decide +kernel
theorem dL_388 : decode code 388 = .ok (.aload_n 0, 1) := by decide +kernel
theorem dL_389 : decode code 389 = .ok (.iload_n 3, 1) := by decide +kernel
theorem dL_390 : decode code 390 = .ok (.iconst 1, 1) := by decide +kernel
theorem dL_391 : decode code 391 = .ok (.iadd, 1) := by decide +kernel
theorem dL_392 : decode code 392 = .ok (.iaload, 1) := by decide +kernel
theorem dL_393 : decode code 393 = .ok (.invokevirtual 36, 3) := by decide +kernel
theorem dL_396 : decode code 396 = .ok (.aload_n 2, 1) := by decide +kernel
theorem dL_397 : decode code 397 = .ok (.aload_n 0, 1) := by decide +kernel
theorem dL_398 : decode code 398 = .ok (.iload_n 3, 1) := by decide +kernel
theorem dL_399 : decode code 399 = .ok (.iconst 1, 1) := by decide +kernel
theorem dL_400 : decode code 400 = .ok (.iadd, 1) := by decide +kernel
theorem dL_401 : decode code 401 = .ok (.iaload, 1) := by decide +kernel
theorem dL_402 : decode code 402 = .ok (.invokevirtual 39, 3) := by decide +kernel
theorem dL_405 : decode code 405 = .ok (.if_icmp .eq 1020, 3) := by decide +kernel
theorem dL_410 : decode code 410 = .ok (.aload_n 1, 1) := by decide +kernel
theorem dL_411 : decode code 411 = .ok (.aload_n 0, 1) := by decide +kernel
theorem dL_412 : decode code 412 = .ok (.iload_n 3, 1) := by decide +kernel
theorem dL_413 : decode code 413 = .ok (.iconst 1, 1) := by decide +kernel
theorem dL_414 : decode code 414 = .ok (.iadd, 1) := by decide +kernel
theorem dL_415 : decode code 415 = .ok (.iaload, 1) := by decide +kernel
theorem dL_416 : decode code 416 = .ok (.aload_n 0, 1) := by decide +kernel
theorem dL_417 : decode code 417 = .ok (.iload_n 3, 1) := by decide +kernel
theorem dL_418 : decode code 418 = .ok (.iconst 2, 1) := by decide +kernel
theorem dL_419 : decode code 419 = .ok (.iadd, 1) := by decide +kernel
theorem dL_420 : decode code 420 = .ok (.iaload, 1) := by decide +kernel
theorem dL_421 : decode code 421 = .ok (.invokevirtual 40, 3) := by decide +kernel
theorem dL_424 : decode code 424 = .ok (.aload_n 2, 1) := by decide +kernel
theorem dL_425 : decode code 425 = .ok (.aload_n 0, 1) := by decide +kernel
theorem dL_426 : decode code 426 = .ok (.iload_n 3, 1) := by decide +kernel
theorem dL_427 : decode code 427 = .ok (.iconst 1, 1) := by decide +kernel
theorem dL_428 : decode code 428 = .ok (.iadd, 1) := by decide +kernel
theorem dL_429 : decode code 429 = .ok (.iaload, 1) := by decide +kernel
theorem dL_430 : decode code 430 = .ok (.aload_n 0, 1) := by decide +kernel
theorem dL_431 : decode code 431 = .ok (.iload_n 3, 1) := by decide +kernel
theorem dL_432 : decode code 432 = .ok (.iconst 2, 1) := by decide +kernel
theorem dL_433 : decode code 433 = .ok (.iadd, 1) := by decide +kernel
theorem dL_434 : decode code 434 = .ok (.iaload, 1) := by decide +kernel
theorem dL_435 : decode code 435 = .ok (.invokevirtual 43, 3) := by decide +kernel
theorem dL_438 : decode code 438 = .ok (.if_icmp .eq 987, 3) := by decide +kernel
theorem dL_443 : decode code 443 = .ok (.aload_n 1, 1) := by decide +kernel
theorem dL_444 : decode code 444 = .ok (.aload_n 0, 1) := by decide +kernel
theorem dL_445 : decode code 445 = .ok (.iload_n 3, 1) := by decide +kernel
theorem dL_446 : decode code 446 = .ok (.iconst 1, 1) := by decide +kernel
theorem dL_447 : decode code 447 = .ok (.iadd, 1) := by decide +kernel
theorem dL_448 : decode code 448 = .ok (.iaload, 1) := by decide +kernel
theorem dL_449 : decode code 449 = .ok (.aload_n 0, 1) := by decide +kernel
theorem dL_450 : decode code 450 = .ok (.iload_n 3, 1) := by decide +kernel
theorem dL_451 : decode code 451 = .ok (.iconst 2, 1) := by decide +kernel
theorem dL_452 : decode code 452 = .ok (.iadd, 1) := by decide +kernel
theorem dL_453 : decode code 453 = .ok (.iaload, 1) := by decide +kernel
theorem dL_454 : decode code 454 = .ok (.invokevirtual 44, 3) := by decide +kernel
theorem dL_457 : decode code 457 = .ok (.aload_n 2, 1) := by decide +kernel
theorem dL_458 : decode code 458 = .ok (.aload_n 0, 1) := by decide +kernel
theorem dL_459 : decode code 459 = .ok (.iload_n 3, 1) := by decide +kernel
theorem dL_460 : decode code 460 = .ok (.iconst 1, 1) := by decide +kernel
theorem dL_461 : decode code 461 = .ok (.iadd, 1) := by decide +kernel
theorem dL_462 : decode code 462 = .ok (.iaload, 1) := by decide +kernel
theorem dL_463 : decode code 463 = .ok (.aload_n 0, 1) := by decide +kernel
theorem dL_464 : decode code 464 = .ok (.iload_n 3, 1) := by decide +kernel
theorem dL_465 : decode code 465 = .ok (.iconst 2, 1) := by decide +kernel
theorem dL_466 : decode code 466 = .ok (.iadd, 1) := by decide +kernel
theorem dL_467 : decode code 467 = .ok (.iaload, 1) := by decide +kernel
theorem dL_468 : decode code 468 = .ok (.invokevirtual 47, 3) := by decide +kernel
theorem dL_471 : decode code 471 = .ok (.if_icmp .eq 954, 3) := by decide +kernel
theorem dL_476 : decode code 476 = .ok (.aload_n 1, 1) := by decide +kernel
theorem dL_477 : decode code 477 = .ok (.aload_n 0, 1) := by decide +kernel
theorem dL_478 : decode code 478 = .ok (.iload_n 3, 1) := by decide +kernel
theorem dL_479 : decode code 479 = .ok (.iconst 1, 1) := by decide +kernel
theorem dL_480 : decode code 480 = .ok (.iadd, 1) := by decide +kernel
theorem dL_481 : decode code 481 = .ok (.iaload, 1) := by decide +kernel
theorem dL_482 : decode code 482 = .ok (.aload_n 0, 1) := by decide +kernel
theorem dL_483 : decode code 483 = .ok (.iload_n 3, 1) := by decide +kernel
theorem dL_484 : decode code 484 = .ok (.iconst 2, 1) := by decide +kernel
theorem dL_485 : decode code 485 = .ok (.iadd, 1) := by decide +kernel
theorem dL_486 : decode code 486 = .ok (.iaload, 1) := by decide +kernel
theorem dL_487 : decode code 487 = .ok (.invokevirtual 48, 3) := by decide +kernel
theorem dL_490 : decode code 490 = .ok (.aload_n 2, 1) := by decide +kernel
theorem dL_491 : decode code 491 = .ok (.aload_n 0, 1) := by decide +kernel
theorem dL_492 : decode code 492 = .ok (.iload_n 3, 1) := by decide +kernel
theorem dL_493 : decode code 493 = .ok (.iconst 1, 1) := by decide +kernel
theorem dL_494 : decode code 494 = .ok (.iadd, 1) := by decide +kernel
theorem dL_495 : decode code 495 = .ok (.iaload, 1) := by decide +kernel
theorem dL_496 : decode code 496 = .ok (.aload_n 0, 1) := by decide +kernel
theorem dL_497 : decode code 497 = .ok (.iload_n 3, 1) := by decide +kernel
theorem dL_498 : decode code 498 = .ok (.iconst 2, 1) := by decide +kernel
theorem dL_499 : decode code 499 = .ok (.iadd, 1) := by decide +kernel
theorem dL_500 : decode code 500 = .ok (.iaload, 1) := by decide +kernel
theorem dL_501 : decode code 501 = .ok (.invokevirtual 51, 3) := by decide +kernel
theorem dL_504 : decode code 504 = .ok (.if_icmp .eq 921, 3) := by decide +kernel
theorem dL_509 : decode code 509 = .ok (.aload_n 1, 1) := by decide +kernel
theorem dL_510 : decode code 510 = .ok (.aload_n 0, 1) := by decide +kernel
theorem dL_511 : decode code 511 = .ok (.iload_n 3, 1) := by decide +kernel
theorem dL_512 : decode code 512 = .ok (.iconst 1, 1) := by decide +kernel
theorem dL_513 : decode code 513 = .ok (.iadd, 1) := by decide +kernel
theorem dL_514 : decode code 514 = .ok (.iaload, 1) := by decide +kernel
theorem dL_515 : decode code 515 = .ok (.i2l, 1) := by decide +kernel
theorem dL_516 : decode code 516 = .ok (.bipush 32, 2) := by decide +kernel
theorem dL_518 : decode code 518 = .ok (.lshl, 1) := by decide +kernel
theorem dL_519 : decode code 519 = .ok (.aload_n 0, 1) := by decide +kernel
theorem dL_520 : decode code 520 = .ok (.iload_n 3, 1) := by decide +kernel
theorem dL_521 : decode code 521 = .ok (.iconst 2, 1) := by decide +kernel
theorem dL_522 : decode code 522 = .ok (.iadd, 1) := by decide +kernel
theorem dL_523 : decode code 523 = .ok (.iaload, 1) := by decide +kernel
theorem dL_524 : decode code 524 = .ok (.i2l, 1) := by decide +kernel
theorem dL_525 : decode code 525 = .ok (.ldc2_w 52, 3) := by decide +kernel
theorem dL_528 : decode code 528 = .ok (.land, 1) := by decide +kernel
theorem dL_529 : decode code 529 = .ok (.lor, 1) := by decide +kernel
theorem dL_530 : decode code 530 = .ok (.aload_n 0, 1) := by decide +kernel
theorem dL_531 : decode code 531 = .ok (.iload_n 3, 1) := by decide +kernel
theorem dL_532 : decode code 532 = .ok (.iconst 3, 1) := by decide +kernel
theorem dL_533 : decode code 533 = .ok (.iadd, 1) := by decide +kernel
theorem dL_534 : decode code 534 = .ok (.iaload, 1) := by decide +kernel
theorem dL_535 : decode code 535 = .ok (.invokevirtual 54, 3) := by decide +kernel
theorem dL_538 : decode code 538 = .ok (.aload_n 2, 1) := by decide +kernel
theorem dL_539 : decode code 539 = .ok (.aload_n 0, 1) := by decide +kernel
theorem dL_540 : decode code 540 = .ok (.iload_n 3, 1) := by decide +kernel
theorem dL_541 : decode code 541 = .ok (.iconst 1, 1) := by decide +kernel
theorem dL_542 : decode code 542 = .ok (.iadd, 1) := by decide +kernel
theorem dL_543 : decode code 543 = .ok (.iaload, 1) := by decide +kernel
theorem dL_544 : decode code 544 = .ok (.i2l, 1) := by decide +kernel
theorem dL_545 : decode code 545 = .ok (.bipush 32, 2) := by decide +kernel
theorem dL_547 : decode code 547 = .ok (.lshl, 1) := by decide +kernel
theorem dL_548 : decode code 548 = .ok (.aload_n 0, 1) := by decide +kernel
theorem dL_549 : decode code 549 = .ok (.iload_n 3, 1) := by decide +kernel
theorem dL_550 : decode code 550 = .ok (.iconst 2, 1) := by decide +kernel
theorem dL_551 : decode code 551 = .ok (.iadd, 1) := by decide +kernel
theorem dL_552 : decode code 552 = .ok (.iaload, 1) := by decide +kernel
theorem dL_553 : decode code 553 = .ok (.i2l, 1) := by decide +kernel
theorem dL_554 : decode code 554 = .ok (.ldc2_w 52, 3) := by decide +kernel
theorem dL_557 : decode code 557 = .ok (.land, 1) := by decide +kernel
theorem dL_558 : decode code 558 = .ok (.lor, 1) := by decide +kernel
theorem dL_559 : decode code 559 = .ok (.aload_n 0, 1) := by decide +kernel
theorem dL_560 : decode code 560 = .ok (.iload_n 3, 1) := by decide +kernel
theorem dL_561 : decode code 561 = .ok (.iconst 3, 1) := by decide +kernel
theorem dL_562 : decode code 562 = .ok (.iadd, 1) := by decide +kernel
theorem dL_563 : decode code 563 = .ok (.iaload, 1) := by decide +kernel
theorem dL_564 : decode code 564 = .ok (.invokevirtual 58, 3) := by decide +kernel
theorem dL_567 : decode code 567 = .ok (.if_icmp .eq 858, 3) := by decide +kernel
theorem dL_572 : decode code 572 = .ok (.aload_n 1, 1) := by decide +kernel
theorem dL_573 : decode code 573 = .ok (.aload_n 0, 1) := by decide +kernel
theorem dL_574 : decode code 574 = .ok (.iload_n 3, 1) := by decide +kernel
theorem dL_575 : decode code 575 = .ok (.iconst 1, 1) := by decide +kernel
theorem dL_576 : decode code 576 = .ok (.iadd, 1) := by decide +kernel
theorem dL_577 : decode code 577 = .ok (.iaload, 1) := by decide +kernel
theorem dL_578 : decode code 578 = .ok (.invokevirtual 59, 3) := by decide +kernel
theorem dL_581 : decode code 581 = .ok (.aload_n 2, 1) := by decide +kernel
theorem dL_582 : decode code 582 = .ok (.aload_n 0, 1) := by decide +kernel
theorem dL_583 : decode code 583 = .ok (.iload_n 3, 1) := by decide +kernel
theorem dL_584 : decode code 584 = .ok (.iconst 1, 1) := by decide +kernel
theorem dL_585 : decode code 585 = .ok (.iadd, 1) := by decide +kernel
theorem dL_586 : decode code 586 = .ok (.iaload, 1) := by decide +kernel
theorem dL_587 : decode code 587 = .ok (.invokevirtual 62, 3) := by decide +kernel
theorem dL_590 : decode code 590 = .ok (.if_icmp .eq 835, 3) := by decide +kernel
theorem dL_595 : decode code 595 = .ok (.aload_n 1, 1) := by decide +kernel
theorem dL_596 : decode code 596 = .ok (.aload_n 0, 1) := by decide +kernel
theorem dL_597 : decode code 597 = .ok (.iload_n 3, 1) := by decide +kernel
theorem dL_598 : decode code 598 = .ok (.iconst 1, 1) := by decide +kernel
theorem dL_599 : decode code 599 = .ok (.iadd, 1) := by decide +kernel
theorem dL_600 : decode code 600 = .ok (.iaload, 1) := by decide +kernel
theorem dL_601 : decode code 601 = .ok (.invokevirtual 63, 3) := by decide +kernel
theorem dL_604 : decode code 604 = .ok (.aload_n 2, 1) := by decide +kernel
theorem dL_605 : decode code 605 = .ok (.aload_n 0, 1) := by decide +kernel
theorem dL_606 : decode code 606 = .ok (.iload_n 3, 1) := by decide +kernel
theorem dL_607 : decode code 607 = .ok (.iconst 1, 1) := by decide +kernel
theorem dL_608 : decode code 608 = .ok (.iadd, 1) := by decide +kernel
theorem dL_609 : decode code 609 = .ok (.iaload, 1) := by decide +kernel
theorem dL_610 : decode code 610 = .ok (.invokevirtual 66, 3) := by decide +kernel
theorem dL_613 : decode code 613 = .ok (.if_icmp .eq 812, 3) := by decide +kernel
theorem dL_618 : decode code 618 = .ok (.aload_n 1, 1) := by decide +kernel
theorem dL_619 : decode code 619 = .ok (.aload_n 0, 1) := by decide +kernel
theorem dL_620 : decode code 620 = .ok (.iload_n 3, 1) := by decide +kernel
theorem dL_621 : decode code 621 = .ok (.iconst 1, 1) := by decide +kernel
theorem dL_622 : decode code 622 = .ok (.iadd, 1) := by decide +kernel
theorem dL_623 : decode code 623 = .ok (.iaload, 1) := by decide +kernel
theorem dL_624 : decode code 624 = .ok (.invokevirtual 67, 3) := by decide +kernel
theorem dL_627 : decode code 627 = .ok (.aload_n 2, 1) := by decide +kernel
theorem dL_628 : decode code 628 = .ok (.aload_n 0, 1) := by decide +kernel
theorem dL_629 : decode code 629 = .ok (.iload_n 3, 1) := by decide +kernel
theorem dL_630 : decode code 630 = .ok (.iconst 1, 1) := by decide +kernel
theorem dL_631 : decode code 631 = .ok (.iadd, 1) := by decide +kernel
theorem dL_632 : decode code 632 = .ok (.iaload, 1) := by decide +kernel
theorem dL_633 : decode code 633 = .ok (.invokevirtual 70, 3) := by decide +kernel
theorem dL_636 : decode code 636 = .ok (.if_icmp .eq 789, 3) := by decide +kernel
theorem dL_641 : decode code 641 = .ok (.aload_n 1, 1) := by decide +kernel
theorem dL_642 : decode code 642 = .ok (.aload_n 0, 1) := by decide +kernel
theorem dL_643 : decode code 643 = .ok (.iload_n 3, 1) := by decide +kernel
theorem dL_644 : decode code 644 = .ok (.iconst 1, 1) := by decide +kernel
theorem dL_645 : decode code 645 = .ok (.iadd, 1) := by decide +kernel
theorem dL_646 : decode code 646 = .ok (.iaload, 1) := by decide +kernel
theorem dL_647 : decode code 647 = .ok (.invokevirtual 71, 3) := by decide +kernel
theorem dL_650 : decode code 650 = .ok (.aload_n 2, 1) := by decide +kernel
theorem dL_651 : decode code 651 = .ok (.aload_n 0, 1) := by decide +kernel
theorem dL_652 : decode code 652 = .ok (.iload_n 3, 1) := by decide +kernel
theorem dL_653 : decode code 653 = .ok (.iconst 1, 1) := by decide +kernel
theorem dL_654 : decode code 654 = .ok (.iadd, 1) := by decide +kernel
theorem dL_655 : decode code 655 = .ok (.iaload, 1) := by decide +kernel
theorem dL_656 : decode code 656 = .ok (.invokevirtual 74, 3) := by decide +kernel
theorem dL_659 : decode code 659 = .ok (.if_icmp .eq 766, 3) := by decide +kernel
section LAWC
variable {p : Program} {l : Launch} {e : Env} {s : State} {m : MethodId} {args : Array Value} {below : List Frame} {meth : Method} {c : Code} {H : Heap} {locs : List Loc} {cells slots : Nat} {Q : State → Prop}
variable {pc : Nat} {ls : Array Slot} {rest : List Value} {ws wr : va_W} {A : Nat → Prop} {g : Gw} {b L j : Nat} {xs : Nat → Int32} {σ : Hs}
theorem lw_case_0 (C : LC g p s m args c b L xs) (hL : L ≤ 3072) (hj : 6 * j + 6 ≤ L) (hR : RR j σ) (hP : va_P g.2.1 vwCl (wsW g σ) H) (hS : va_S (AA g s.heap.size) s.heap H locs) (hl : lv_has ls 4 (lvv g b j)) (kk : ∀ (σ2 : Hs) (H1 : Heap) (locs1 : List Loc), RR (j + 1) σ2 → va_P g.2.1 vwCl (wsW g σ2) H1 → va_S (AA g s.heap.size) s.heap H1 locs1 → W p l e room_1 s m args below meth c H1 locs1 104 3690 Q (F0 m 1425 ls [])) : W p l e room_1 s m args below meth c H locs 104 3690 Q (F0 m 212 ls []) := by
  obtain ⟨v, σ1, σ2, c1, c2, hR2⟩ := L_lay hR 0 (xs (6 * j + 1)) (xs (6 * j + 2)) (xs (6 * j + 3)) (xs (6 * j + 4))
  obtain ⟨hx, hb, hml, hown, hts, -⟩ := id C
  refine lv_aload_n hx hb dL_212 rfl (lv_at hl 2 rfl) ?_
  refine lw_arg C hL hj hS hl (k := 1) (by omega) dL_213 dL_214 dL_215 rfl dL_216 dL_217 ?_
  refine lw_arg C hL hj hS hl (k := 2) (by omega) dL_218 dL_219 dL_220 rfl dL_221 dL_222 ?_
  refine lw_arg C hL hj hS hl (k := 3) (by omega) dL_223 dL_224 dL_225 rfl dL_226 dL_227 ?_
  refine lw_arg C hL hj hS hl (k := 4) (by omega) dL_228 dL_229 dL_230 rfl dL_231 dL_232 ?_
  refine lw_vcall C hP hS (mj := 58) (o := 0) (As := [.int (xs (6 * j + 1)), .int (xs (6 * j + 2)), .int (xs (6 * j + 3)), .int (xs (6 * j + 4))]) c1 (by omega) (by decide +kernel) (by omega) (by decide +kernel) (show mn 58 = 4 from by decide +kernel) (gdW_in (i := 335) (by decide +kernel)) rfl hl.1 (Nat.le_of_ble_eq_true rfl) dL_233 rfl (fun H0 l0 hP hS => ?_)
  refine lv_aload_n hx hb dL_236 rfl (lv_at hl 1 rfl) ?_
  refine lw_arg C hL hj hS hl (k := 1) (by omega) dL_237 dL_238 dL_239 rfl dL_240 dL_241 ?_
  refine lw_arg C hL hj hS hl (k := 2) (by omega) dL_242 dL_243 dL_244 rfl dL_245 dL_246 ?_
  refine lw_arg C hL hj hS hl (k := 3) (by omega) dL_247 dL_248 dL_249 rfl dL_250 dL_251 ?_
  refine lw_arg C hL hj hS hl (k := 4) (by omega) dL_252 dL_253 dL_254 rfl dL_255 dL_256 ?_
  refine lw_vcall C hP hS (mj := 126) (o := 87) (As := [.int (xs (6 * j + 1)), .int (xs (6 * j + 2)), .int (xs (6 * j + 3)), .int (xs (6 * j + 4))]) c2 (by omega) (by decide +kernel) (by omega) (by decide +kernel) (show mn 126 = 4 from by decide +kernel) (gdW_in (i := 992) (by decide +kernel)) rfl hl.1 (Nat.le_of_ble_eq_true rfl) dL_257 rfl (fun H1 l1 hP hS => ?_)
  exact lv_icmp_eq (tgt := 1425) hx hb dL_260 (by decide) (fun _ => kk σ2 _ _ hR2 hP hS) (fun cn => absurd rfl cn)
theorem lw_case_1 (C : LC g p s m args c b L xs) (hL : L ≤ 3072) (hj : 6 * j + 6 ≤ L) (hR : RR j σ) (hP : va_P g.2.1 vwCl (wsW g σ) H) (hS : va_S (AA g s.heap.size) s.heap H locs) (hl : lv_has ls 4 (lvv g b j)) (kk : ∀ (σ2 : Hs) (H1 : Heap) (locs1 : List Loc), RR (j + 1) σ2 → va_P g.2.1 vwCl (wsW g σ2) H1 → va_S (AA g s.heap.size) s.heap H1 locs1 → W p l e room_1 s m args below meth c H1 locs1 104 3690 Q (F0 m 1425 ls [])) : W p l e room_1 s m args below meth c H locs 104 3690 Q (F0 m 265 ls []) := by
  obtain ⟨v, σ1, σ2, c1, c2, hR2⟩ := L_take hR 0 (xs (6 * j + 1))
  obtain ⟨hx, hb, hml, hown, hts, -⟩ := id C
  refine lv_aload_n hx hb dL_265 rfl (lv_at hl 2 rfl) ?_
  refine lw_arg C hL hj hS hl (k := 1) (by omega) dL_266 dL_267 dL_268 rfl dL_269 dL_270 ?_
  refine lw_vcall C hP hS (mj := 59) (o := 0) (As := [.int (xs (6 * j + 1))]) c1 (by omega) (by decide +kernel) (by omega) (by decide +kernel) (show mn 59 = 1 from by decide +kernel) (gdW_in (i := 359) (by decide +kernel)) rfl hl.1 (Nat.le_of_ble_eq_true rfl) dL_271 rfl (fun H0 l0 hP hS => ?_)
  refine lv_aload_n hx hb dL_274 rfl (lv_at hl 1 rfl) ?_
  refine lw_arg C hL hj hS hl (k := 1) (by omega) dL_275 dL_276 dL_277 rfl dL_278 dL_279 ?_
  refine lw_vcall C hP hS (mj := 128) (o := 87) (As := [.int (xs (6 * j + 1))]) c2 (by omega) (by decide +kernel) (by omega) (by decide +kernel) (show mn 128 = 1 from by decide +kernel) (gdW_in (i := 1030) (by decide +kernel)) rfl hl.1 (Nat.le_of_ble_eq_true rfl) dL_280 rfl (fun H1 l1 hP hS => ?_)
  exact lv_icmp_eq (tgt := 1425) hx hb dL_283 (by decide) (fun _ => kk σ2 _ _ hR2 hP hS) (fun cn => absurd rfl cn)
theorem lw_case_2 (C : LC g p s m args c b L xs) (hL : L ≤ 3072) (hj : 6 * j + 6 ≤ L) (hR : RR j σ) (hP : va_P g.2.1 vwCl (wsW g σ) H) (hS : va_S (AA g s.heap.size) s.heap H locs) (hl : lv_has ls 4 (lvv g b j)) (kk : ∀ (σ2 : Hs) (H1 : Heap) (locs1 : List Loc), RR (j + 1) σ2 → va_P g.2.1 vwCl (wsW g σ2) H1 → va_S (AA g s.heap.size) s.heap H1 locs1 → W p l e room_1 s m args below meth c H1 locs1 104 3690 Q (F0 m 1425 ls [])) : W p l e room_1 s m args below meth c H locs 104 3690 Q (F0 m 288 ls []) := by
  obtain ⟨v, σ1, σ2, c1, c2, hR2⟩ := L_armful hR 0 (xs (6 * j + 1)) (xs (6 * j + 2))
  obtain ⟨hx, hb, hml, hown, hts, -⟩ := id C
  refine lv_aload_n hx hb dL_288 rfl (lv_at hl 2 rfl) ?_
  refine lw_arg C hL hj hS hl (k := 1) (by omega) dL_289 dL_290 dL_291 rfl dL_292 dL_293 ?_
  refine lw_arg C hL hj hS hl (k := 2) (by omega) dL_294 dL_295 dL_296 rfl dL_297 dL_298 ?_
  refine lw_vcall C hP hS (mj := 60) (o := 0) (As := [.int (xs (6 * j + 1)), .int (xs (6 * j + 2))]) c1 (by omega) (by decide +kernel) (by omega) (by decide +kernel) (show mn 60 = 2 from by decide +kernel) (gdW_in (i := 374) (by decide +kernel)) rfl hl.1 (Nat.le_of_ble_eq_true rfl) dL_299 rfl (fun H0 l0 hP hS => ?_)
  refine lv_aload_n hx hb dL_302 rfl (lv_at hl 1 rfl) ?_
  refine lw_arg C hL hj hS hl (k := 1) (by omega) dL_303 dL_304 dL_305 rfl dL_306 dL_307 ?_
  refine lw_arg C hL hj hS hl (k := 2) (by omega) dL_308 dL_309 dL_310 rfl dL_311 dL_312 ?_
  refine lw_vcall C hP hS (mj := 132) (o := 87) (As := [.int (xs (6 * j + 1)), .int (xs (6 * j + 2))]) c2 (by omega) (by decide +kernel) (by omega) (by decide +kernel) (show mn 132 = 2 from by decide +kernel) (gdW_in (i := 1042) (by decide +kernel)) rfl hl.1 (Nat.le_of_ble_eq_true rfl) dL_313 rfl (fun H1 l1 hP hS => ?_)
  exact lv_icmp_eq (tgt := 1425) hx hb dL_316 (by decide) (fun _ => kk σ2 _ _ hR2 hP hS) (fun cn => absurd rfl cn)
theorem lw_case_3 (C : LC g p s m args c b L xs) (hL : L ≤ 3072) (hj : 6 * j + 6 ≤ L) (hR : RR j σ) (hP : va_P g.2.1 vwCl (wsW g σ) H) (hS : va_S (AA g s.heap.size) s.heap H locs) (hl : lv_has ls 4 (lvv g b j)) (kk : ∀ (σ2 : Hs) (H1 : Heap) (locs1 : List Loc), RR (j + 1) σ2 → va_P g.2.1 vwCl (wsW g σ2) H1 → va_S (AA g s.heap.size) s.heap H1 locs1 → W p l e room_1 s m args below meth c H1 locs1 104 3690 Q (F0 m 1425 ls [])) : W p l e room_1 s m args below meth c H locs 104 3690 Q (F0 m 321 ls []) := by
  obtain ⟨v, σ1, σ2, c1, c2, hR2⟩ := L_as hR 0 (xs (6 * j + 1)) (xs (6 * j + 2))
  obtain ⟨hx, hb, hml, hown, hts, -⟩ := id C
  refine lv_aload_n hx hb dL_321 rfl (lv_at hl 2 rfl) ?_
  refine lw_arg C hL hj hS hl (k := 1) (by omega) dL_322 dL_323 dL_324 rfl dL_325 dL_326 ?_
  refine lw_arg C hL hj hS hl (k := 2) (by omega) dL_327 dL_328 dL_329 rfl dL_330 dL_331 ?_
  refine lw_vcall C hP hS (mj := 61) (o := 0) (As := [.int (xs (6 * j + 1)), .int (xs (6 * j + 2))]) c1 (by omega) (by decide +kernel) (by omega) (by decide +kernel) (show mn 61 = 2 from by decide +kernel) (gdW_in (i := 390) (by decide +kernel)) rfl hl.1 (Nat.le_of_ble_eq_true rfl) dL_332 rfl (fun H0 l0 hP hS => ?_)
  refine lv_aload_n hx hb dL_335 rfl (lv_at hl 1 rfl) ?_
  refine lw_arg C hL hj hS hl (k := 1) (by omega) dL_336 dL_337 dL_338 rfl dL_339 dL_340 ?_
  refine lw_arg C hL hj hS hl (k := 2) (by omega) dL_341 dL_342 dL_343 rfl dL_344 dL_345 ?_
  refine lw_vcall C hP hS (mj := 134) (o := 87) (As := [.int (xs (6 * j + 1)), .int (xs (6 * j + 2))]) c2 (by omega) (by decide +kernel) (by omega) (by decide +kernel) (show mn 134 = 2 from by decide +kernel) (gdW_in (i := 1057) (by decide +kernel)) rfl hl.1 (Nat.le_of_ble_eq_true rfl) dL_346 rfl (fun H1 l1 hP hS => ?_)
  exact lv_icmp_eq (tgt := 1425) hx hb dL_349 (by decide) (fun _ => kk σ2 _ _ hR2 hP hS) (fun cn => absurd rfl cn)
theorem lw_case_4 (C : LC g p s m args c b L xs) (hL : L ≤ 3072) (hj : 6 * j + 6 ≤ L) (hR : RR j σ) (hP : va_P g.2.1 vwCl (wsW g σ) H) (hS : va_S (AA g s.heap.size) s.heap H locs) (hl : lv_has ls 4 (lvv g b j)) (kk : ∀ (σ2 : Hs) (H1 : Heap) (locs1 : List Loc), RR (j + 1) σ2 → va_P g.2.1 vwCl (wsW g σ2) H1 → va_S (AA g s.heap.size) s.heap H1 locs1 → W p l e room_1 s m args below meth c H1 locs1 104 3690 Q (F0 m 1425 ls [])) : W p l e room_1 s m args below meth c H locs 104 3690 Q (F0 m 354 ls []) := by
  obtain ⟨v, σ1, σ2, c1, c2, hR2⟩ := L_become hR 0 (xs (6 * j + 1)) (xs (6 * j + 2))
  obtain ⟨hx, hb, hml, hown, hts, -⟩ := id C
  refine lv_aload_n hx hb dL_354 rfl (lv_at hl 2 rfl) ?_
  refine lw_arg C hL hj hS hl (k := 1) (by omega) dL_355 dL_356 dL_357 rfl dL_358 dL_359 ?_
  refine lw_arg C hL hj hS hl (k := 2) (by omega) dL_360 dL_361 dL_362 rfl dL_363 dL_364 ?_
  refine lw_vcall C hP hS (mj := 62) (o := 0) (As := [.int (xs (6 * j + 1)), .int (xs (6 * j + 2))]) c1 (by omega) (by decide +kernel) (by omega) (by decide +kernel) (show mn 62 = 2 from by decide +kernel) (gdW_in (i := 400) (by decide +kernel)) rfl hl.1 (Nat.le_of_ble_eq_true rfl) dL_365 rfl (fun H0 l0 hP hS => ?_)
  refine lv_aload_n hx hb dL_368 rfl (lv_at hl 1 rfl) ?_
  refine lw_arg C hL hj hS hl (k := 1) (by omega) dL_369 dL_370 dL_371 rfl dL_372 dL_373 ?_
  refine lw_arg C hL hj hS hl (k := 2) (by omega) dL_374 dL_375 dL_376 rfl dL_377 dL_378 ?_
  refine lw_vcall C hP hS (mj := 136) (o := 87) (As := [.int (xs (6 * j + 1)), .int (xs (6 * j + 2))]) c2 (by omega) (by decide +kernel) (by omega) (by decide +kernel) (show mn 136 = 2 from by decide +kernel) (gdW_in (i := 1065) (by decide +kernel)) rfl hl.1 (Nat.le_of_ble_eq_true rfl) dL_379 rfl (fun H1 l1 hP hS => ?_)
  exact lv_icmp_eq (tgt := 1425) hx hb dL_382 (by decide) (fun _ => kk σ2 _ _ hR2 hP hS) (fun cn => absurd rfl cn)
theorem lw_case_5 (C : LC g p s m args c b L xs) (hL : L ≤ 3072) (hj : 6 * j + 6 ≤ L) (hR : RR j σ) (hP : va_P g.2.1 vwCl (wsW g σ) H) (hS : va_S (AA g s.heap.size) s.heap H locs) (hl : lv_has ls 4 (lvv g b j)) (kk : ∀ (σ2 : Hs) (H1 : Heap) (locs1 : List Loc), RR (j + 1) σ2 → va_P g.2.1 vwCl (wsW g σ2) H1 → va_S (AA g s.heap.size) s.heap H1 locs1 → W p l e room_1 s m args below meth c H1 locs1 104 3690 Q (F0 m 1425 ls [])) : W p l e room_1 s m args below meth c H locs 104 3690 Q (F0 m 387 ls []) := by
  obtain ⟨v, σ1, σ2, c1, c2, hR2⟩ := L_light hR 0 (xs (6 * j + 1))
  obtain ⟨hx, hb, hml, hown, hts, -⟩ := id C
  refine lv_aload_n hx hb dL_387 rfl (lv_at hl 2 rfl) ?_
  refine lw_arg C hL hj hS hl (k := 1) (by omega) dL_388 dL_389 dL_390 rfl dL_391 dL_392 ?_
  refine lw_vcall C hP hS (mj := 63) (o := 0) (As := [.int (xs (6 * j + 1))]) c1 (by omega) (by decide +kernel) (by omega) (by decide +kernel) (show mn 63 = 1 from by decide +kernel) (gdW_in (i := 404) (by decide +kernel)) rfl hl.1 (Nat.le_of_ble_eq_true rfl) dL_393 rfl (fun H0 l0 hP hS => ?_)
  refine lv_aload_n hx hb dL_396 rfl (lv_at hl 1 rfl) ?_
  refine lw_arg C hL hj hS hl (k := 1) (by omega) dL_397 dL_398 dL_399 rfl dL_400 dL_401 ?_
  refine lw_vcall C hP hS (mj := 139) (o := 87) (As := [.int (xs (6 * j + 1))]) c2 (by omega) (by decide +kernel) (by omega) (by decide +kernel) (show mn 139 = 1 from by decide +kernel) (gdW_in (i := 1081) (by decide +kernel)) rfl hl.1 (Nat.le_of_ble_eq_true rfl) dL_402 rfl (fun H1 l1 hP hS => ?_)
  exact lv_icmp_eq (tgt := 1425) hx hb dL_405 (by decide) (fun _ => kk σ2 _ _ hR2 hP hS) (fun cn => absurd rfl cn)
theorem lw_case_6 (C : LC g p s m args c b L xs) (hL : L ≤ 3072) (hj : 6 * j + 6 ≤ L) (hR : RR j σ) (hP : va_P g.2.1 vwCl (wsW g σ) H) (hS : va_S (AA g s.heap.size) s.heap H locs) (hl : lv_has ls 4 (lvv g b j)) (kk : ∀ (σ2 : Hs) (H1 : Heap) (locs1 : List Loc), RR (j + 1) σ2 → va_P g.2.1 vwCl (wsW g σ2) H1 → va_S (AA g s.heap.size) s.heap H1 locs1 → W p l e room_1 s m args below meth c H1 locs1 104 3690 Q (F0 m 1425 ls [])) : W p l e room_1 s m args below meth c H locs 104 3690 Q (F0 m 410 ls []) := by
  obtain ⟨v, σ1, σ2, c1, c2, hR2⟩ := L_fork hR 0 (xs (6 * j + 1)) (xs (6 * j + 2))
  obtain ⟨hx, hb, hml, hown, hts, -⟩ := id C
  refine lv_aload_n hx hb dL_410 rfl (lv_at hl 2 rfl) ?_
  refine lw_arg C hL hj hS hl (k := 1) (by omega) dL_411 dL_412 dL_413 rfl dL_414 dL_415 ?_
  refine lw_arg C hL hj hS hl (k := 2) (by omega) dL_416 dL_417 dL_418 rfl dL_419 dL_420 ?_
  refine lw_vcall C hP hS (mj := 64) (o := 0) (As := [.int (xs (6 * j + 1)), .int (xs (6 * j + 2))]) c1 (by omega) (by decide +kernel) (by omega) (by decide +kernel) (show mn 64 = 2 from by decide +kernel) (gdW_in (i := 444) (by decide +kernel)) rfl hl.1 (Nat.le_of_ble_eq_true rfl) dL_421 rfl (fun H0 l0 hP hS => ?_)
  refine lv_aload_n hx hb dL_424 rfl (lv_at hl 1 rfl) ?_
  refine lw_arg C hL hj hS hl (k := 1) (by omega) dL_425 dL_426 dL_427 rfl dL_428 dL_429 ?_
  refine lw_arg C hL hj hS hl (k := 2) (by omega) dL_430 dL_431 dL_432 rfl dL_433 dL_434 ?_
  refine lw_vcall C hP hS (mj := 137) (o := 87) (As := [.int (xs (6 * j + 1)), .int (xs (6 * j + 2))]) c2 (by omega) (by decide +kernel) (by omega) (by decide +kernel) (show mn 137 = 2 from by decide +kernel) (gdW_in (i := 1077) (by decide +kernel)) rfl hl.1 (Nat.le_of_ble_eq_true rfl) dL_435 rfl (fun H1 l1 hP hS => ?_)
  exact lv_icmp_eq (tgt := 1425) hx hb dL_438 (by decide) (fun _ => kk σ2 _ _ hR2 hP hS) (fun cn => absurd rfl cn)
theorem lw_case_7 (C : LC g p s m args c b L xs) (hL : L ≤ 3072) (hj : 6 * j + 6 ≤ L) (hR : RR j σ) (hP : va_P g.2.1 vwCl (wsW g σ) H) (hS : va_S (AA g s.heap.size) s.heap H locs) (hl : lv_has ls 4 (lvv g b j)) (kk : ∀ (σ2 : Hs) (H1 : Heap) (locs1 : List Loc), RR (j + 1) σ2 → va_P g.2.1 vwCl (wsW g σ2) H1 → va_S (AA g s.heap.size) s.heap H1 locs1 → W p l e room_1 s m args below meth c H1 locs1 104 3690 Q (F0 m 1425 ls [])) : W p l e room_1 s m args below meth c H locs 104 3690 Q (F0 m 443 ls []) := by
  obtain ⟨v, σ1, σ2, c1, c2, hR2⟩ := L_pour hR 0 (xs (6 * j + 1)) (xs (6 * j + 2))
  obtain ⟨hx, hb, hml, hown, hts, -⟩ := id C
  refine lv_aload_n hx hb dL_443 rfl (lv_at hl 2 rfl) ?_
  refine lw_arg C hL hj hS hl (k := 1) (by omega) dL_444 dL_445 dL_446 rfl dL_447 dL_448 ?_
  refine lw_arg C hL hj hS hl (k := 2) (by omega) dL_449 dL_450 dL_451 rfl dL_452 dL_453 ?_
  refine lw_vcall C hP hS (mj := 65) (o := 0) (As := [.int (xs (6 * j + 1)), .int (xs (6 * j + 2))]) c1 (by omega) (by decide +kernel) (by omega) (by decide +kernel) (show mn 65 = 2 from by decide +kernel) (gdW_in (i := 448) (by decide +kernel)) rfl hl.1 (Nat.le_of_ble_eq_true rfl) dL_454 rfl (fun H0 l0 hP hS => ?_)
  refine lv_aload_n hx hb dL_457 rfl (lv_at hl 1 rfl) ?_
  refine lw_arg C hL hj hS hl (k := 1) (by omega) dL_458 dL_459 dL_460 rfl dL_461 dL_462 ?_
  refine lw_arg C hL hj hS hl (k := 2) (by omega) dL_463 dL_464 dL_465 rfl dL_466 dL_467 ?_
  refine lw_vcall C hP hS (mj := 141) (o := 87) (As := [.int (xs (6 * j + 1)), .int (xs (6 * j + 2))]) c2 (by omega) (by decide +kernel) (by omega) (by decide +kernel) (show mn 141 = 2 from by decide +kernel) (gdW_in (i := 1114) (by decide +kernel)) rfl hl.1 (Nat.le_of_ble_eq_true rfl) dL_468 rfl (fun H1 l1 hP hS => ?_)
  exact lv_icmp_eq (tgt := 1425) hx hb dL_471 (by decide) (fun _ => kk σ2 _ _ hR2 hP hS) (fun cn => absurd rfl cn)
theorem lw_case_8 (C : LC g p s m args c b L xs) (hL : L ≤ 3072) (hj : 6 * j + 6 ≤ L) (hR : RR j σ) (hP : va_P g.2.1 vwCl (wsW g σ) H) (hS : va_S (AA g s.heap.size) s.heap H locs) (hl : lv_has ls 4 (lvv g b j)) (kk : ∀ (σ2 : Hs) (H1 : Heap) (locs1 : List Loc), RR (j + 1) σ2 → va_P g.2.1 vwCl (wsW g σ2) H1 → va_S (AA g s.heap.size) s.heap H1 locs1 → W p l e room_1 s m args below meth c H1 locs1 104 3690 Q (F0 m 1425 ls [])) : W p l e room_1 s m args below meth c H locs 104 3690 Q (F0 m 476 ls []) := by
  obtain ⟨v, σ1, σ2, c1, c2, hR2⟩ := L_set hR 0 (xs (6 * j + 1)) (xs (6 * j + 2))
  obtain ⟨hx, hb, hml, hown, hts, -⟩ := id C
  refine lv_aload_n hx hb dL_476 rfl (lv_at hl 2 rfl) ?_
  refine lw_arg C hL hj hS hl (k := 1) (by omega) dL_477 dL_478 dL_479 rfl dL_480 dL_481 ?_
  refine lw_arg C hL hj hS hl (k := 2) (by omega) dL_482 dL_483 dL_484 rfl dL_485 dL_486 ?_
  refine lw_vcall C hP hS (mj := 66) (o := 0) (As := [.int (xs (6 * j + 1)), .int (xs (6 * j + 2))]) c1 (by omega) (by decide +kernel) (by omega) (by decide +kernel) (show mn 66 = 2 from by decide +kernel) (gdW_in (i := 459) (by decide +kernel)) rfl hl.1 (Nat.le_of_ble_eq_true rfl) dL_487 rfl (fun H0 l0 hP hS => ?_)
  refine lv_aload_n hx hb dL_490 rfl (lv_at hl 1 rfl) ?_
  refine lw_arg C hL hj hS hl (k := 1) (by omega) dL_491 dL_492 dL_493 rfl dL_494 dL_495 ?_
  refine lw_arg C hL hj hS hl (k := 2) (by omega) dL_496 dL_497 dL_498 rfl dL_499 dL_500 ?_
  refine lw_vcall C hP hS (mj := 142) (o := 87) (As := [.int (xs (6 * j + 1)), .int (xs (6 * j + 2))]) c2 (by omega) (by decide +kernel) (by omega) (by decide +kernel) (show mn 142 = 2 from by decide +kernel) (gdW_in (i := 1123) (by decide +kernel)) rfl hl.1 (Nat.le_of_ble_eq_true rfl) dL_501 rfl (fun H1 l1 hP hS => ?_)
  exact lv_icmp_eq (tgt := 1425) hx hb dL_504 (by decide) (fun _ => kk σ2 _ _ hR2 hP hS) (fun cn => absurd rfl cn)
theorem lw_case_9 (C : LC g p s m args c b L xs) (hL : L ≤ 3072) (hj : 6 * j + 6 ≤ L) (hR : RR j σ) (hP : va_P g.2.1 vwCl (wsW g σ) H) (hS : va_S (AA g s.heap.size) s.heap H locs) (hl : lv_has ls 4 (lvv g b j)) (kk : ∀ (σ2 : Hs) (H1 : Heap) (locs1 : List Loc), RR (j + 1) σ2 → va_P g.2.1 vwCl (wsW g σ2) H1 → va_S (AA g s.heap.size) s.heap H1 locs1 → W p l e room_1 s m args below meth c H1 locs1 104 3690 Q (F0 m 1425 ls [])) : W p l e room_1 s m args below meth c H locs 104 3690 Q (F0 m 509 ls []) := by
  obtain ⟨v, σ1, σ2, c1, c2, hR2⟩ := L_feed hR 0 ((((xs (6 * j + 1)).toInt64 <<< ((32 : Int32).toInt64 &&& 63)) ||| ((xs (6 * j + 2)).toInt64 &&& (4294967295 : Int64)))) (xs (6 * j + 3))
  obtain ⟨hx, hb, hml, hown, hts, -⟩ := id C
  refine lv_aload_n hx hb dL_509 rfl (lv_at hl 2 rfl) ?_
  refine lw_arg C hL hj hS hl (k := 1) (by omega) dL_510 dL_511 dL_512 rfl dL_513 dL_514 ?_
  refine lv_i2l hx hb dL_515 rfl ?_
  refine lv_bipush (v := 32) hx hb dL_516 (by decide +kernel) ?_
  refine lv_lshl hx hb dL_518 rfl ?_
  refine lw_arg C hL hj hS hl (k := 2) (by omega) dL_519 dL_520 dL_521 rfl dL_522 dL_523 ?_
  refine lv_i2l hx hb dL_524 rfl ?_
  refine lv_ldc2 (v := 4294967295) hx hb hown (hts _ (gdW_in (i := 1427) (by decide +kernel))) dL_525 ?_
  refine lv_land hx hb dL_528 ?_
  refine lv_lor hx hb dL_529 ?_
  refine lw_arg C hL hj hS hl (k := 3) (by omega) dL_530 dL_531 dL_532 rfl dL_533 dL_534 ?_
  refine lw_vcall C hP hS (mj := 67) (o := 0) (As := [.long ((((xs (6 * j + 1)).toInt64 <<< ((32 : Int32).toInt64 &&& 63)) ||| ((xs (6 * j + 2)).toInt64 &&& (4294967295 : Int64)))), .int (xs (6 * j + 3))]) c1 (by omega) (by decide +kernel) (by omega) (by decide +kernel) (show mn 67 = 2 from by decide +kernel) (gdW_in (i := 465) (by decide +kernel)) rfl hl.1 (Nat.le_of_ble_eq_true rfl) dL_535 rfl (fun H0 l0 hP hS => ?_)
  refine lv_aload_n hx hb dL_538 rfl (lv_at hl 1 rfl) ?_
  refine lw_arg C hL hj hS hl (k := 1) (by omega) dL_539 dL_540 dL_541 rfl dL_542 dL_543 ?_
  refine lv_i2l hx hb dL_544 rfl ?_
  refine lv_bipush (v := 32) hx hb dL_545 (by decide +kernel) ?_
  refine lv_lshl hx hb dL_547 rfl ?_
  refine lw_arg C hL hj hS hl (k := 2) (by omega) dL_548 dL_549 dL_550 rfl dL_551 dL_552 ?_
  refine lv_i2l hx hb dL_553 rfl ?_
  refine lv_ldc2 (v := 4294967295) hx hb hown (hts _ (gdW_in (i := 1427) (by decide +kernel))) dL_554 ?_
  refine lv_land hx hb dL_557 ?_
  refine lv_lor hx hb dL_558 ?_
  refine lw_arg C hL hj hS hl (k := 3) (by omega) dL_559 dL_560 dL_561 rfl dL_562 dL_563 ?_
  refine lw_vcall C hP hS (mj := 143) (o := 87) (As := [.long ((((xs (6 * j + 1)).toInt64 <<< ((32 : Int32).toInt64 &&& 63)) ||| ((xs (6 * j + 2)).toInt64 &&& (4294967295 : Int64)))), .int (xs (6 * j + 3))]) c2 (by omega) (by decide +kernel) (by omega) (by decide +kernel) (show mn 143 = 2 from by decide +kernel) (gdW_in (i := 1127) (by decide +kernel)) rfl hl.1 (Nat.le_of_ble_eq_true rfl) dL_564 rfl (fun H1 l1 hP hS => ?_)
  exact lv_icmp_eq (tgt := 1425) hx hb dL_567 (by decide) (fun _ => kk σ2 _ _ hR2 hP hS) (fun cn => absurd rfl cn)
theorem lw_case_10 (C : LC g p s m args c b L xs) (hL : L ≤ 3072) (hj : 6 * j + 6 ≤ L) (hR : RR j σ) (hP : va_P g.2.1 vwCl (wsW g σ) H) (hS : va_S (AA g s.heap.size) s.heap H locs) (hl : lv_has ls 4 (lvv g b j)) (kk : ∀ (σ2 : Hs) (H1 : Heap) (locs1 : List Loc), RR (j + 1) σ2 → va_P g.2.1 vwCl (wsW g σ2) H1 → va_S (AA g s.heap.size) s.heap H1 locs1 → W p l e room_1 s m args below meth c H1 locs1 104 3690 Q (F0 m 1425 ls [])) : W p l e room_1 s m args below meth c H locs 104 3690 Q (F0 m 572 ls []) := by
  obtain ⟨v, σ1, σ2, c1, c2, hR2⟩ := L_text hR 0 (xs (6 * j + 1))
  obtain ⟨hx, hb, hml, hown, hts, -⟩ := id C
  refine lv_aload_n hx hb dL_572 rfl (lv_at hl 2 rfl) ?_
  refine lw_arg C hL hj hS hl (k := 1) (by omega) dL_573 dL_574 dL_575 rfl dL_576 dL_577 ?_
  refine lw_vcall C hP hS (mj := 68) (o := 0) (As := [.int (xs (6 * j + 1))]) c1 (by omega) (by decide +kernel) (by omega) (by decide +kernel) (show mn 68 = 1 from by decide +kernel) (gdW_in (i := 473) (by decide +kernel)) rfl hl.1 (Nat.le_of_ble_eq_true rfl) dL_578 rfl (fun H0 l0 hP hS => ?_)
  refine lv_aload_n hx hb dL_581 rfl (lv_at hl 1 rfl) ?_
  refine lw_arg C hL hj hS hl (k := 1) (by omega) dL_582 dL_583 dL_584 rfl dL_585 dL_586 ?_
  refine lw_vcall C hP hS (mj := 154) (o := 87) (As := [.int (xs (6 * j + 1))]) c2 (by omega) (by decide +kernel) (by omega) (by decide +kernel) (show mn 154 = 1 from by decide +kernel) (gdW_in (i := 1132) (by decide +kernel)) rfl hl.1 (Nat.le_of_ble_eq_true rfl) dL_587 rfl (fun H1 l1 hP hS => ?_)
  exact lv_icmp_eq (tgt := 1425) hx hb dL_590 (by decide) (fun _ => kk σ2 _ _ hR2 hP hS) (fun cn => absurd rfl cn)
theorem lw_case_11 (C : LC g p s m args c b L xs) (hL : L ≤ 3072) (hj : 6 * j + 6 ≤ L) (hR : RR j σ) (hP : va_P g.2.1 vwCl (wsW g σ) H) (hS : va_S (AA g s.heap.size) s.heap H locs) (hl : lv_has ls 4 (lvv g b j)) (kk : ∀ (σ2 : Hs) (H1 : Heap) (locs1 : List Loc), RR (j + 1) σ2 → va_P g.2.1 vwCl (wsW g σ2) H1 → va_S (AA g s.heap.size) s.heap H1 locs1 → W p l e room_1 s m args below meth c H1 locs1 104 3690 Q (F0 m 1425 ls [])) : W p l e room_1 s m args below meth c H locs 104 3690 Q (F0 m 595 ls []) := by
  obtain ⟨v, σ1, σ2, c1, c2, hR2⟩ := L_untell hR 0 (xs (6 * j + 1))
  obtain ⟨hx, hb, hml, hown, hts, -⟩ := id C
  refine lv_aload_n hx hb dL_595 rfl (lv_at hl 2 rfl) ?_
  refine lw_arg C hL hj hS hl (k := 1) (by omega) dL_596 dL_597 dL_598 rfl dL_599 dL_600 ?_
  refine lw_vcall C hP hS (mj := 69) (o := 0) (As := [.int (xs (6 * j + 1))]) c1 (by omega) (by decide +kernel) (by omega) (by decide +kernel) (show mn 69 = 1 from by decide +kernel) (gdW_in (i := 613) (by decide +kernel)) rfl hl.1 (Nat.le_of_ble_eq_true rfl) dL_601 rfl (fun H0 l0 hP hS => ?_)
  refine lv_aload_n hx hb dL_604 rfl (lv_at hl 1 rfl) ?_
  refine lw_arg C hL hj hS hl (k := 1) (by omega) dL_605 dL_606 dL_607 rfl dL_608 dL_609 ?_
  refine lw_vcall C hP hS (mj := 155) (o := 87) (As := [.int (xs (6 * j + 1))]) c2 (by omega) (by decide +kernel) (by omega) (by decide +kernel) (show mn 155 = 1 from by decide +kernel) (gdW_in (i := 1197) (by decide +kernel)) rfl hl.1 (Nat.le_of_ble_eq_true rfl) dL_610 rfl (fun H1 l1 hP hS => ?_)
  exact lv_icmp_eq (tgt := 1425) hx hb dL_613 (by decide) (fun _ => kk σ2 _ _ hR2 hP hS) (fun cn => absurd rfl cn)
theorem lw_case_12 (C : LC g p s m args c b L xs) (hL : L ≤ 3072) (hj : 6 * j + 6 ≤ L) (hR : RR j σ) (hP : va_P g.2.1 vwCl (wsW g σ) H) (hS : va_S (AA g s.heap.size) s.heap H locs) (hl : lv_has ls 4 (lvv g b j)) (kk : ∀ (σ2 : Hs) (H1 : Heap) (locs1 : List Loc), RR (j + 1) σ2 → va_P g.2.1 vwCl (wsW g σ2) H1 → va_S (AA g s.heap.size) s.heap H1 locs1 → W p l e room_1 s m args below meth c H1 locs1 104 3690 Q (F0 m 1425 ls [])) : W p l e room_1 s m args below meth c H locs 104 3690 Q (F0 m 618 ls []) := by
  obtain ⟨v, σ1, σ2, c1, c2, hR2⟩ := L_minutes (show j ≤ 512 by omega) hR 0 (xs (6 * j + 1))
  obtain ⟨hx, hb, hml, hown, hts, -⟩ := id C
  refine lv_aload_n hx hb dL_618 rfl (lv_at hl 2 rfl) ?_
  refine lw_arg C hL hj hS hl (k := 1) (by omega) dL_619 dL_620 dL_621 rfl dL_622 dL_623 ?_
  refine lw_vcall C hP hS (mj := 70) (o := 0) (As := [.int (xs (6 * j + 1))]) c1 (by omega) (by decide +kernel) (by omega) (by decide +kernel) (show mn 70 = 1 from by decide +kernel) (gdW_in (i := 617) (by decide +kernel)) rfl hl.1 (Nat.le_of_ble_eq_true rfl) dL_624 rfl (fun H0 l0 hP hS => ?_)
  refine lv_aload_n hx hb dL_627 rfl (lv_at hl 1 rfl) ?_
  refine lw_arg C hL hj hS hl (k := 1) (by omega) dL_628 dL_629 dL_630 rfl dL_631 dL_632 ?_
  refine lw_vcall C hP hS (mj := 172) (o := 87) (As := [.int (xs (6 * j + 1))]) c2 (by omega) (by decide +kernel) (by omega) (by decide +kernel) (show mn 172 = 1 from by decide +kernel) (gdW_in (i := 1205) (by decide +kernel)) rfl hl.1 (Nat.le_of_ble_eq_true rfl) dL_633 rfl (fun H1 l1 hP hS => ?_)
  exact lv_icmp_eq (tgt := 1425) hx hb dL_636 (by decide) (fun _ => kk σ2 _ _ hR2 hP hS) (fun cn => absurd rfl cn)
theorem lw_case_13 (C : LC g p s m args c b L xs) (hL : L ≤ 3072) (hj : 6 * j + 6 ≤ L) (hR : RR j σ) (hP : va_P g.2.1 vwCl (wsW g σ) H) (hS : va_S (AA g s.heap.size) s.heap H locs) (hl : lv_has ls 4 (lvv g b j)) (kk : ∀ (σ2 : Hs) (H1 : Heap) (locs1 : List Loc), RR (j + 1) σ2 → va_P g.2.1 vwCl (wsW g σ2) H1 → va_S (AA g s.heap.size) s.heap H1 locs1 → W p l e room_1 s m args below meth c H1 locs1 104 3690 Q (F0 m 1425 ls [])) : W p l e room_1 s m args below meth c H locs 104 3690 Q (F0 m 641 ls []) := by
  obtain ⟨v, σ1, σ2, c1, c2, hR2⟩ := L_gusts (show j ≤ 512 by omega) hR 0 (xs (6 * j + 1))
  obtain ⟨hx, hb, hml, hown, hts, -⟩ := id C
  refine lv_aload_n hx hb dL_641 rfl (lv_at hl 2 rfl) ?_
  refine lw_arg C hL hj hS hl (k := 1) (by omega) dL_642 dL_643 dL_644 rfl dL_645 dL_646 ?_
  refine lw_vcall C hP hS (mj := 71) (o := 0) (As := [.int (xs (6 * j + 1))]) c1 (by omega) (by decide +kernel) (by omega) (by decide +kernel) (show mn 71 = 1 from by decide +kernel) (gdW_in (i := 669) (by decide +kernel)) rfl hl.1 (Nat.le_of_ble_eq_true rfl) dL_647 rfl (fun H0 l0 hP hS => ?_)
  refine lv_aload_n hx hb dL_650 rfl (lv_at hl 1 rfl) ?_
  refine lw_arg C hL hj hS hl (k := 1) (by omega) dL_651 dL_652 dL_653 rfl dL_654 dL_655 ?_
  refine lw_vcall C hP hS (mj := 174) (o := 87) (As := [.int (xs (6 * j + 1))]) c2 (by omega) (by decide +kernel) (by omega) (by decide +kernel) (show mn 174 = 1 from by decide +kernel) (gdW_in (i := 1259) (by decide +kernel)) rfl hl.1 (Nat.le_of_ble_eq_true rfl) dL_656 rfl (fun H1 l1 hP hS => ?_)
  exact lv_icmp_eq (tgt := 1425) hx hb dL_659 (by decide) (fun _ => kk σ2 _ _ hR2 hP hS) (fun cn => absurd rfl cn)
end LAWC
