theorem dL_law_216 : decode cL_law 216 = .ok (.aload_n 1, 1) := by decide +kernel
theorem dL_law_217 : decode cL_law 217 = .ok (.aload_n 0, 1) := by decide +kernel
theorem dL_law_218 : decode cL_law 218 = .ok (.iload 4, 2) := by decide +kernel
theorem dL_law_220 : decode cL_law 220 = .ok (.iconst 1, 1) := by decide +kernel
theorem dL_law_221 : decode cL_law 221 = .ok (.iadd, 1) := by decide +kernel
theorem dL_law_222 : decode cL_law 222 = .ok (.iaload, 1) := by decide +kernel
theorem dL_law_223 : decode cL_law 223 = .ok (.aload_n 0, 1) := by decide +kernel
theorem dL_law_224 : decode cL_law 224 = .ok (.iload 4, 2) := by decide +kernel
theorem dL_law_226 : decode cL_law 226 = .ok (.iconst 2, 1) := by decide +kernel
theorem dL_law_227 : decode cL_law 227 = .ok (.iadd, 1) := by decide +kernel
theorem dL_law_228 : decode cL_law 228 = .ok (.iaload, 1) := by decide +kernel
theorem dL_law_229 : decode cL_law 229 = .ok (.aload_n 0, 1) := by decide +kernel
theorem dL_law_230 : decode cL_law 230 = .ok (.iload 4, 2) := by decide +kernel
theorem dL_law_232 : decode cL_law 232 = .ok (.iconst 3, 1) := by decide +kernel
theorem dL_law_233 : decode cL_law 233 = .ok (.iadd, 1) := by decide +kernel
theorem dL_law_234 : decode cL_law 234 = .ok (.iaload, 1) := by decide +kernel
theorem dL_law_235 : decode cL_law 235 = .ok (.aload_n 0, 1) := by decide +kernel
theorem dL_law_236 : decode cL_law 236 = .ok (.iload 4, 2) := by decide +kernel
theorem dL_law_238 : decode cL_law 238 = .ok (.iconst 4, 1) := by decide +kernel
theorem dL_law_239 : decode cL_law 239 = .ok (.iadd, 1) := by decide +kernel
theorem dL_law_240 : decode cL_law 240 = .ok (.iaload, 1) := by decide +kernel
theorem dL_law_241 : decode cL_law 241 = .ok (.aload_n 0, 1) := by decide +kernel
theorem dL_law_242 : decode cL_law 242 = .ok (.iload 4, 2) := by decide +kernel
theorem dL_law_244 : decode cL_law 244 = .ok (.iconst 5, 1) := by decide +kernel
theorem dL_law_245 : decode cL_law 245 = .ok (.iadd, 1) := by decide +kernel
theorem dL_law_246 : decode cL_law 246 = .ok (.iaload, 1) := by decide +kernel
theorem dL_law_250 : decode cL_law 250 = .ok (.pop, 1) := by decide +kernel
theorem dL_law_251 : decode cL_law 251 = .ok (.aload_n 2, 1) := by decide +kernel
theorem dL_law_252 : decode cL_law 252 = .ok (.aload_n 0, 1) := by decide +kernel
theorem dL_law_253 : decode cL_law 253 = .ok (.iload 4, 2) := by decide +kernel
theorem dL_law_255 : decode cL_law 255 = .ok (.iconst 1, 1) := by decide +kernel
theorem dL_law_256 : decode cL_law 256 = .ok (.iadd, 1) := by decide +kernel
theorem dL_law_257 : decode cL_law 257 = .ok (.iaload, 1) := by decide +kernel
theorem dL_law_258 : decode cL_law 258 = .ok (.aload_n 0, 1) := by decide +kernel
theorem dL_law_259 : decode cL_law 259 = .ok (.iload 4, 2) := by decide +kernel
theorem dL_law_261 : decode cL_law 261 = .ok (.iconst 2, 1) := by decide +kernel
theorem dL_law_262 : decode cL_law 262 = .ok (.iadd, 1) := by decide +kernel
theorem dL_law_263 : decode cL_law 263 = .ok (.iaload, 1) := by decide +kernel
theorem dL_law_264 : decode cL_law 264 = .ok (.aload_n 0, 1) := by decide +kernel
theorem dL_law_265 : decode cL_law 265 = .ok (.iload 4, 2) := by decide +kernel
theorem dL_law_267 : decode cL_law 267 = .ok (.iconst 3, 1) := by decide +kernel
theorem dL_law_268 : decode cL_law 268 = .ok (.iadd, 1) := by decide +kernel
theorem dL_law_269 : decode cL_law 269 = .ok (.iaload, 1) := by decide +kernel
theorem dL_law_270 : decode cL_law 270 = .ok (.aload_n 0, 1) := by decide +kernel
theorem dL_law_271 : decode cL_law 271 = .ok (.iload 4, 2) := by decide +kernel
theorem dL_law_273 : decode cL_law 273 = .ok (.iconst 4, 1) := by decide +kernel
theorem dL_law_274 : decode cL_law 274 = .ok (.iadd, 1) := by decide +kernel
theorem dL_law_275 : decode cL_law 275 = .ok (.iaload, 1) := by decide +kernel
theorem dL_law_276 : decode cL_law 276 = .ok (.aload_n 0, 1) := by decide +kernel
theorem dL_law_277 : decode cL_law 277 = .ok (.iload 4, 2) := by decide +kernel
theorem dL_law_279 : decode cL_law 279 = .ok (.iconst 5, 1) := by decide +kernel
theorem dL_law_280 : decode cL_law 280 = .ok (.iadd, 1) := by decide +kernel
theorem dL_law_281 : decode cL_law 281 = .ok (.iaload, 1) := by decide +kernel
theorem dL_law_285 : decode cL_law 285 = .ok (.pop, 1) := by decide +kernel
theorem dL_law_286 : decode cL_law 286 = .ok (.goto 1092, 3) := by decide +kernel
theorem dL_law_289 : decode cL_law 289 = .ok (.aload_n 1, 1) := by decide +kernel
theorem dL_law_290 : decode cL_law 290 = .ok (.aload_n 0, 1) := by decide +kernel
theorem dL_law_291 : decode cL_law 291 = .ok (.iload 4, 2) := by decide +kernel
theorem dL_law_293 : decode cL_law 293 = .ok (.iconst 1, 1) := by decide +kernel
theorem dL_law_294 : decode cL_law 294 = .ok (.iadd, 1) := by decide +kernel
theorem dL_law_295 : decode cL_law 295 = .ok (.iaload, 1) := by decide +kernel
theorem dL_law_299 : decode cL_law 299 = .ok (.pop, 1) := by decide +kernel
theorem dL_law_300 : decode cL_law 300 = .ok (.aload_n 2, 1) := by decide +kernel
theorem dL_law_301 : decode cL_law 301 = .ok (.aload_n 0, 1) := by decide +kernel
theorem dL_law_302 : decode cL_law 302 = .ok (.iload 4, 2) := by decide +kernel
theorem dL_law_304 : decode cL_law 304 = .ok (.iconst 1, 1) := by decide +kernel
theorem dL_law_305 : decode cL_law 305 = .ok (.iadd, 1) := by decide +kernel
theorem dL_law_306 : decode cL_law 306 = .ok (.iaload, 1) := by decide +kernel
theorem dL_law_310 : decode cL_law 310 = .ok (.pop, 1) := by decide +kernel
theorem dL_law_311 : decode cL_law 311 = .ok (.goto 1067, 3) := by decide +kernel
theorem dL_law_314 : decode cL_law 314 = .ok (.aload_n 1, 1) := by decide +kernel
theorem dL_law_318 : decode cL_law 318 = .ok (.pop, 1) := by decide +kernel
theorem dL_law_319 : decode cL_law 319 = .ok (.aload_n 2, 1) := by decide +kernel
theorem dL_law_323 : decode cL_law 323 = .ok (.pop, 1) := by decide +kernel
theorem dL_law_324 : decode cL_law 324 = .ok (.goto 1054, 3) := by decide +kernel
theorem dL_law_327 : decode cL_law 327 = .ok (.aload_n 1, 1) := by decide +kernel
theorem dL_law_331 : decode cL_law 331 = .ok (.pop, 1) := by decide +kernel
theorem dL_law_332 : decode cL_law 332 = .ok (.aload_n 2, 1) := by decide +kernel
theorem dL_law_336 : decode cL_law 336 = .ok (.pop, 1) := by decide +kernel
theorem dL_law_337 : decode cL_law 337 = .ok (.goto 1041, 3) := by decide +kernel
theorem dL_law_340 : decode cL_law 340 = .ok (.aload_n 1, 1) := by decide +kernel
theorem dL_law_341 : decode cL_law 341 = .ok (.aload_n 0, 1) := by decide +kernel
theorem dL_law_342 : decode cL_law 342 = .ok (.iload 4, 2) := by decide +kernel
theorem dL_law_344 : decode cL_law 344 = .ok (.iconst 1, 1) := by decide +kernel
theorem dL_law_345 : decode cL_law 345 = .ok (.iadd, 1) := by decide +kernel
theorem dL_law_346 : decode cL_law 346 = .ok (.iaload, 1) := by decide +kernel
theorem dL_law_347 : decode cL_law 347 = .ok (.aload_n 0, 1) := by decide +kernel
theorem dL_law_348 : decode cL_law 348 = .ok (.iload 4, 2) := by decide +kernel
theorem dL_law_350 : decode cL_law 350 = .ok (.iconst 2, 1) := by decide +kernel
theorem dL_law_351 : decode cL_law 351 = .ok (.iadd, 1) := by decide +kernel
theorem dL_law_352 : decode cL_law 352 = .ok (.iaload, 1) := by decide +kernel
theorem dL_law_356 : decode cL_law 356 = .ok (.pop, 1) := by decide +kernel
theorem dL_law_357 : decode cL_law 357 = .ok (.aload_n 2, 1) := by decide +kernel
theorem dL_law_358 : decode cL_law 358 = .ok (.aload_n 0, 1) := by decide +kernel
theorem dL_law_359 : decode cL_law 359 = .ok (.iload 4, 2) := by decide +kernel
theorem dL_law_361 : decode cL_law 361 = .ok (.iconst 1, 1) := by decide +kernel
theorem dL_law_362 : decode cL_law 362 = .ok (.iadd, 1) := by decide +kernel
theorem dL_law_363 : decode cL_law 363 = .ok (.iaload, 1) := by decide +kernel
theorem dL_law_364 : decode cL_law 364 = .ok (.aload_n 0, 1) := by decide +kernel
theorem dL_law_365 : decode cL_law 365 = .ok (.iload 4, 2) := by decide +kernel
theorem dL_law_367 : decode cL_law 367 = .ok (.iconst 2, 1) := by decide +kernel
theorem dL_law_368 : decode cL_law 368 = .ok (.iadd, 1) := by decide +kernel
theorem dL_law_369 : decode cL_law 369 = .ok (.iaload, 1) := by decide +kernel
theorem dL_law_373 : decode cL_law 373 = .ok (.pop, 1) := by decide +kernel
theorem dL_law_374 : decode cL_law 374 = .ok (.goto 1004, 3) := by decide +kernel
theorem dL_law_377 : decode cL_law 377 = .ok (.aload_n 1, 1) := by decide +kernel
theorem dL_law_378 : decode cL_law 378 = .ok (.aload_n 0, 1) := by decide +kernel
theorem dL_law_379 : decode cL_law 379 = .ok (.iload 4, 2) := by decide +kernel
theorem dL_law_381 : decode cL_law 381 = .ok (.iconst 1, 1) := by decide +kernel
theorem dL_law_382 : decode cL_law 382 = .ok (.iadd, 1) := by decide +kernel
theorem dL_law_383 : decode cL_law 383 = .ok (.iaload, 1) := by decide +kernel
theorem dL_law_384 : decode cL_law 384 = .ok (.aload_n 0, 1) := by decide +kernel
theorem dL_law_385 : decode cL_law 385 = .ok (.iload 4, 2) := by decide +kernel
theorem dL_law_387 : decode cL_law 387 = .ok (.iconst 2, 1) := by decide +kernel
theorem dL_law_388 : decode cL_law 388 = .ok (.iadd, 1) := by decide +kernel
theorem dL_law_389 : decode cL_law 389 = .ok (.iaload, 1) := by decide +kernel
theorem dL_law_393 : decode cL_law 393 = .ok (.pop, 1) := by decide +kernel
theorem dL_law_394 : decode cL_law 394 = .ok (.aload_n 2, 1) := by decide +kernel
theorem dL_law_395 : decode cL_law 395 = .ok (.aload_n 0, 1) := by decide +kernel
theorem dL_law_396 : decode cL_law 396 = .ok (.iload 4, 2) := by decide +kernel
theorem dL_law_398 : decode cL_law 398 = .ok (.iconst 1, 1) := by decide +kernel
theorem dL_law_399 : decode cL_law 399 = .ok (.iadd, 1) := by decide +kernel
theorem dL_law_400 : decode cL_law 400 = .ok (.iaload, 1) := by decide +kernel
theorem dL_law_401 : decode cL_law 401 = .ok (.aload_n 0, 1) := by decide +kernel
theorem dL_law_402 : decode cL_law 402 = .ok (.iload 4, 2) := by decide +kernel
theorem dL_law_404 : decode cL_law 404 = .ok (.iconst 2, 1) := by decide +kernel
theorem dL_law_405 : decode cL_law 405 = .ok (.iadd, 1) := by decide +kernel
theorem dL_law_406 : decode cL_law 406 = .ok (.iaload, 1) := by decide +kernel
theorem dL_law_410 : decode cL_law 410 = .ok (.pop, 1) := by decide +kernel
theorem dL_law_411 : decode cL_law 411 = .ok (.goto 967, 3) := by decide +kernel
theorem dL_law_414 : decode cL_law 414 = .ok (.aload_n 1, 1) := by decide +kernel
theorem dL_law_415 : decode cL_law 415 = .ok (.aload_n 0, 1) := by decide +kernel
theorem dL_law_416 : decode cL_law 416 = .ok (.iload 4, 2) := by decide +kernel
theorem dL_law_418 : decode cL_law 418 = .ok (.iconst 1, 1) := by decide +kernel
theorem dL_law_419 : decode cL_law 419 = .ok (.iadd, 1) := by decide +kernel
theorem dL_law_420 : decode cL_law 420 = .ok (.iaload, 1) := by decide +kernel
theorem dL_law_421 : decode cL_law 421 = .ok (.aload_n 0, 1) := by decide +kernel
theorem dL_law_422 : decode cL_law 422 = .ok (.iload 4, 2) := by decide +kernel
theorem dL_law_424 : decode cL_law 424 = .ok (.iconst 2, 1) := by decide +kernel
theorem dL_law_425 : decode cL_law 425 = .ok (.iadd, 1) := by decide +kernel
theorem dL_law_426 : decode cL_law 426 = .ok (.iaload, 1) := by decide +kernel
theorem dL_law_427 : decode cL_law 427 = .ok (.aload_n 3, 1) := by decide +kernel
theorem dL_law_431 : decode cL_law 431 = .ok (.istore 5, 2) := by decide +kernel
theorem dL_law_433 : decode cL_law 433 = .ok (.aload_n 2, 1) := by decide +kernel
theorem dL_law_434 : decode cL_law 434 = .ok (.aload_n 0, 1) := by decide +kernel
theorem dL_law_435 : decode cL_law 435 = .ok (.iload 4, 2) := by decide +kernel
theorem dL_law_437 : decode cL_law 437 = .ok (.iconst 1, 1) := by decide +kernel
theorem dL_law_438 : decode cL_law 438 = .ok (.iadd, 1) := by decide +kernel
theorem dL_law_439 : decode cL_law 439 = .ok (.iaload, 1) := by decide +kernel
theorem dL_law_440 : decode cL_law 440 = .ok (.aload_n 0, 1) := by decide +kernel
theorem dL_law_441 : decode cL_law 441 = .ok (.iload 4, 2) := by decide +kernel
theorem dL_law_443 : decode cL_law 443 = .ok (.iconst 2, 1) := by decide +kernel
theorem dL_law_444 : decode cL_law 444 = .ok (.iadd, 1) := by decide +kernel
theorem dL_law_445 : decode cL_law 445 = .ok (.iaload, 1) := by decide +kernel
theorem dL_law_449 : decode cL_law 449 = .ok (.istore 6, 2) := by decide +kernel
theorem dL_law_451 : decode cL_law 451 = .ok (.goto 927, 3) := by decide +kernel
theorem dL_law_454 : decode cL_law 454 = .ok (.aload_n 1, 1) := by decide +kernel
theorem dL_law_455 : decode cL_law 455 = .ok (.aload_n 0, 1) := by decide +kernel
theorem dL_law_456 : decode cL_law 456 = .ok (.iload 4, 2) := by decide +kernel
theorem dL_law_458 : decode cL_law 458 = .ok (.iconst 1, 1) := by decide +kernel
theorem dL_law_459 : decode cL_law 459 = .ok (.iadd, 1) := by decide +kernel
theorem dL_law_460 : decode cL_law 460 = .ok (.iaload, 1) := by decide +kernel
theorem dL_law_464 : decode cL_law 464 = .ok (.pop, 1) := by decide +kernel
theorem dL_law_465 : decode cL_law 465 = .ok (.aload_n 2, 1) := by decide +kernel
theorem dL_law_466 : decode cL_law 466 = .ok (.aload_n 0, 1) := by decide +kernel
theorem dL_law_467 : decode cL_law 467 = .ok (.iload 4, 2) := by decide +kernel
theorem dL_law_469 : decode cL_law 469 = .ok (.iconst 1, 1) := by decide +kernel
theorem dL_law_470 : decode cL_law 470 = .ok (.iadd, 1) := by decide +kernel
theorem dL_law_471 : decode cL_law 471 = .ok (.iaload, 1) := by decide +kernel
theorem dL_law_475 : decode cL_law 475 = .ok (.pop, 1) := by decide +kernel
theorem dL_law_476 : decode cL_law 476 = .ok (.goto 902, 3) := by decide +kernel
theorem dL_law_479 : decode cL_law 479 = .ok (.aload_n 1, 1) := by decide +kernel
theorem dL_law_480 : decode cL_law 480 = .ok (.aload_n 0, 1) := by decide +kernel
theorem dL_law_481 : decode cL_law 481 = .ok (.iload 4, 2) := by decide +kernel
theorem dL_law_483 : decode cL_law 483 = .ok (.iconst 1, 1) := by decide +kernel
theorem dL_law_484 : decode cL_law 484 = .ok (.iadd, 1) := by decide +kernel
theorem dL_law_485 : decode cL_law 485 = .ok (.iaload, 1) := by decide +kernel
theorem dL_law_486 : decode cL_law 486 = .ok (.aload_n 0, 1) := by decide +kernel
theorem dL_law_487 : decode cL_law 487 = .ok (.iload 4, 2) := by decide +kernel
theorem dL_law_489 : decode cL_law 489 = .ok (.iconst 2, 1) := by decide +kernel
theorem dL_law_490 : decode cL_law 490 = .ok (.iadd, 1) := by decide +kernel
theorem dL_law_491 : decode cL_law 491 = .ok (.iaload, 1) := by decide +kernel
theorem dL_law_492 : decode cL_law 492 = .ok (.aload_n 0, 1) := by decide +kernel
theorem dL_law_493 : decode cL_law 493 = .ok (.iload 4, 2) := by decide +kernel
theorem dL_law_495 : decode cL_law 495 = .ok (.iconst 3, 1) := by decide +kernel
theorem dL_law_496 : decode cL_law 496 = .ok (.iadd, 1) := by decide +kernel
theorem dL_law_497 : decode cL_law 497 = .ok (.iaload, 1) := by decide +kernel
theorem dL_law_501 : decode cL_law 501 = .ok (.pop, 1) := by decide +kernel
theorem dL_law_502 : decode cL_law 502 = .ok (.aload_n 2, 1) := by decide +kernel
theorem dL_law_503 : decode cL_law 503 = .ok (.aload_n 0, 1) := by decide +kernel
theorem dL_law_504 : decode cL_law 504 = .ok (.iload 4, 2) := by decide +kernel
theorem dL_law_506 : decode cL_law 506 = .ok (.iconst 1, 1) := by decide +kernel
theorem dL_law_507 : decode cL_law 507 = .ok (.iadd, 1) := by decide +kernel
theorem dL_law_508 : decode cL_law 508 = .ok (.iaload, 1) := by decide +kernel
theorem dL_law_509 : decode cL_law 509 = .ok (.aload_n 0, 1) := by decide +kernel
theorem dL_law_510 : decode cL_law 510 = .ok (.iload 4, 2) := by decide +kernel
theorem dL_law_512 : decode cL_law 512 = .ok (.iconst 2, 1) := by decide +kernel
theorem dL_law_513 : decode cL_law 513 = .ok (.iadd, 1) := by decide +kernel
theorem dL_law_514 : decode cL_law 514 = .ok (.iaload, 1) := by decide +kernel
theorem dL_law_515 : decode cL_law 515 = .ok (.aload_n 0, 1) := by decide +kernel
theorem dL_law_516 : decode cL_law 516 = .ok (.iload 4, 2) := by decide +kernel
theorem dL_law_518 : decode cL_law 518 = .ok (.iconst 3, 1) := by decide +kernel
theorem dL_law_519 : decode cL_law 519 = .ok (.iadd, 1) := by decide +kernel
theorem dL_law_520 : decode cL_law 520 = .ok (.iaload, 1) := by decide +kernel
theorem dL_law_524 : decode cL_law 524 = .ok (.pop, 1) := by decide +kernel
theorem dL_law_525 : decode cL_law 525 = .ok (.goto 853, 3) := by decide +kernel
theorem dL_law_528 : decode cL_law 528 = .ok (.aload_n 1, 1) := by decide +kernel
theorem dL_law_529 : decode cL_law 529 = .ok (.aload_n 0, 1) := by decide +kernel
theorem dL_law_530 : decode cL_law 530 = .ok (.iload 4, 2) := by decide +kernel
theorem dL_law_532 : decode cL_law 532 = .ok (.iconst 1, 1) := by decide +kernel
theorem dL_law_533 : decode cL_law 533 = .ok (.iadd, 1) := by decide +kernel
theorem dL_law_534 : decode cL_law 534 = .ok (.iaload, 1) := by decide +kernel
theorem dL_law_535 : decode cL_law 535 = .ok (.aload_n 0, 1) := by decide +kernel
theorem dL_law_536 : decode cL_law 536 = .ok (.iload 4, 2) := by decide +kernel
theorem dL_law_538 : decode cL_law 538 = .ok (.iconst 2, 1) := by decide +kernel
theorem dL_law_539 : decode cL_law 539 = .ok (.iadd, 1) := by decide +kernel
theorem dL_law_540 : decode cL_law 540 = .ok (.iaload, 1) := by decide +kernel
theorem dL_law_544 : decode cL_law 544 = .ok (.pop, 1) := by decide +kernel
theorem dL_law_545 : decode cL_law 545 = .ok (.aload_n 2, 1) := by decide +kernel
theorem dL_law_546 : decode cL_law 546 = .ok (.aload_n 0, 1) := by decide +kernel
theorem dL_law_547 : decode cL_law 547 = .ok (.iload 4, 2) := by decide +kernel
theorem dL_law_549 : decode cL_law 549 = .ok (.iconst 1, 1) := by decide +kernel
theorem dL_law_550 : decode cL_law 550 = .ok (.iadd, 1) := by decide +kernel
theorem dL_law_551 : decode cL_law 551 = .ok (.iaload, 1) := by decide +kernel
theorem dL_law_552 : decode cL_law 552 = .ok (.aload_n 0, 1) := by decide +kernel
theorem dL_law_553 : decode cL_law 553 = .ok (.iload 4, 2) := by decide +kernel
theorem dL_law_555 : decode cL_law 555 = .ok (.iconst 2, 1) := by decide +kernel
theorem dL_law_556 : decode cL_law 556 = .ok (.iadd, 1) := by decide +kernel
theorem dL_law_557 : decode cL_law 557 = .ok (.iaload, 1) := by decide +kernel
theorem dL_law_561 : decode cL_law 561 = .ok (.pop, 1) := by decide +kernel
theorem dL_law_562 : decode cL_law 562 = .ok (.goto 816, 3) := by decide +kernel
theorem dL_law_565 : decode cL_law 565 = .ok (.aload_n 1, 1) := by decide +kernel
theorem dL_law_566 : decode cL_law 566 = .ok (.aload_n 0, 1) := by decide +kernel
theorem dL_law_567 : decode cL_law 567 = .ok (.iload 4, 2) := by decide +kernel
theorem dL_law_569 : decode cL_law 569 = .ok (.iconst 1, 1) := by decide +kernel
theorem dL_law_570 : decode cL_law 570 = .ok (.iadd, 1) := by decide +kernel
theorem dL_law_571 : decode cL_law 571 = .ok (.iaload, 1) := by decide +kernel
theorem dL_law_572 : decode cL_law 572 = .ok (.aload_n 0, 1) := by decide +kernel
theorem dL_law_573 : decode cL_law 573 = .ok (.iload 4, 2) := by decide +kernel
theorem dL_law_575 : decode cL_law 575 = .ok (.iconst 2, 1) := by decide +kernel
theorem dL_law_576 : decode cL_law 576 = .ok (.iadd, 1) := by decide +kernel
theorem dL_law_577 : decode cL_law 577 = .ok (.iaload, 1) := by decide +kernel
theorem dL_law_578 : decode cL_law 578 = .ok (.aload_n 0, 1) := by decide +kernel
theorem dL_law_579 : decode cL_law 579 = .ok (.iload 4, 2) := by decide +kernel
theorem dL_law_581 : decode cL_law 581 = .ok (.iconst 3, 1) := by decide +kernel
theorem dL_law_582 : decode cL_law 582 = .ok (.iadd, 1) := by decide +kernel
theorem dL_law_583 : decode cL_law 583 = .ok (.iaload, 1) := by decide +kernel
theorem dL_law_587 : decode cL_law 587 = .ok (.pop, 1) := by decide +kernel
theorem dL_law_588 : decode cL_law 588 = .ok (.aload_n 2, 1) := by decide +kernel
theorem dL_law_589 : decode cL_law 589 = .ok (.aload_n 0, 1) := by decide +kernel
theorem dL_law_590 : decode cL_law 590 = .ok (.iload 4, 2) := by decide +kernel
theorem dL_law_592 : decode cL_law 592 = .ok (.iconst 1, 1) := by decide +kernel
theorem dL_law_593 : decode cL_law 593 = .ok (.iadd, 1) := by decide +kernel
theorem dL_law_594 : decode cL_law 594 = .ok (.iaload, 1) := by decide +kernel
theorem dL_law_595 : decode cL_law 595 = .ok (.aload_n 0, 1) := by decide +kernel
theorem dL_law_596 : decode cL_law 596 = .ok (.iload 4, 2) := by decide +kernel
theorem dL_law_598 : decode cL_law 598 = .ok (.iconst 2, 1) := by decide +kernel
theorem dL_law_599 : decode cL_law 599 = .ok (.iadd, 1) := by decide +kernel
theorem dL_law_600 : decode cL_law 600 = .ok (.iaload, 1) := by decide +kernel
theorem dL_law_601 : decode cL_law 601 = .ok (.aload_n 0, 1) := by decide +kernel
theorem dL_law_602 : decode cL_law 602 = .ok (.iload 4, 2) := by decide +kernel
theorem dL_law_604 : decode cL_law 604 = .ok (.iconst 3, 1) := by decide +kernel
theorem dL_law_605 : decode cL_law 605 = .ok (.iadd, 1) := by decide +kernel
theorem dL_law_606 : decode cL_law 606 = .ok (.iaload, 1) := by decide +kernel
theorem dL_law_610 : decode cL_law 610 = .ok (.pop, 1) := by decide +kernel
theorem dL_law_611 : decode cL_law 611 = .ok (.goto 767, 3) := by decide +kernel
theorem dL_law_614 : decode cL_law 614 = .ok (.aload_n 1, 1) := by decide +kernel
theorem dL_law_615 : decode cL_law 615 = .ok (.aload_n 0, 1) := by decide +kernel
theorem dL_law_616 : decode cL_law 616 = .ok (.iload 4, 2) := by decide +kernel
theorem dL_law_618 : decode cL_law 618 = .ok (.iconst 1, 1) := by decide +kernel
theorem dL_law_619 : decode cL_law 619 = .ok (.iadd, 1) := by decide +kernel
theorem dL_law_620 : decode cL_law 620 = .ok (.iaload, 1) := by decide +kernel
theorem dL_law_621 : decode cL_law 621 = .ok (.aload_n 0, 1) := by decide +kernel
theorem dL_law_622 : decode cL_law 622 = .ok (.iload 4, 2) := by decide +kernel
theorem dL_law_624 : decode cL_law 624 = .ok (.iconst 2, 1) := by decide +kernel
theorem dL_law_625 : decode cL_law 625 = .ok (.iadd, 1) := by decide +kernel
theorem dL_law_626 : decode cL_law 626 = .ok (.iaload, 1) := by decide +kernel
theorem dL_law_627 : decode cL_law 627 = .ok (.aload_n 0, 1) := by decide +kernel
theorem dL_law_628 : decode cL_law 628 = .ok (.iload 4, 2) := by decide +kernel
theorem dL_law_630 : decode cL_law 630 = .ok (.iconst 3, 1) := by decide +kernel
theorem dL_law_631 : decode cL_law 631 = .ok (.iadd, 1) := by decide +kernel
theorem dL_law_632 : decode cL_law 632 = .ok (.iaload, 1) := by decide +kernel
theorem dL_law_636 : decode cL_law 636 = .ok (.pop, 1) := by decide +kernel
theorem dL_law_637 : decode cL_law 637 = .ok (.aload_n 2, 1) := by decide +kernel
theorem dL_law_638 : decode cL_law 638 = .ok (.aload_n 0, 1) := by decide +kernel
theorem dL_law_639 : decode cL_law 639 = .ok (.iload 4, 2) := by decide +kernel
theorem dL_law_641 : decode cL_law 641 = .ok (.iconst 1, 1) := by decide +kernel
theorem dL_law_642 : decode cL_law 642 = .ok (.iadd, 1) := by decide +kernel
theorem dL_law_643 : decode cL_law 643 = .ok (.iaload, 1) := by decide +kernel
theorem dL_law_644 : decode cL_law 644 = .ok (.aload_n 0, 1) := by decide +kernel
theorem dL_law_645 : decode cL_law 645 = .ok (.iload 4, 2) := by decide +kernel
theorem dL_law_647 : decode cL_law 647 = .ok (.iconst 2, 1) := by decide +kernel
theorem dL_law_648 : decode cL_law 648 = .ok (.iadd, 1) := by decide +kernel
theorem dL_law_649 : decode cL_law 649 = .ok (.iaload, 1) := by decide +kernel
theorem dL_law_650 : decode cL_law 650 = .ok (.aload_n 0, 1) := by decide +kernel
theorem dL_law_651 : decode cL_law 651 = .ok (.iload 4, 2) := by decide +kernel
theorem dL_law_653 : decode cL_law 653 = .ok (.iconst 3, 1) := by decide +kernel
theorem dL_law_654 : decode cL_law 654 = .ok (.iadd, 1) := by decide +kernel
theorem dL_law_655 : decode cL_law 655 = .ok (.iaload, 1) := by decide +kernel
theorem dL_law_659 : decode cL_law 659 = .ok (.pop, 1) := by decide +kernel
theorem dL_law_660 : decode cL_law 660 = .ok (.goto 718, 3) := by decide +kernel
theorem dL_law_663 : decode cL_law 663 = .ok (.aload_n 1, 1) := by decide +kernel
theorem dL_law_664 : decode cL_law 664 = .ok (.aload_n 0, 1) := by decide +kernel
theorem dL_law_665 : decode cL_law 665 = .ok (.iload 4, 2) := by decide +kernel
theorem dL_law_667 : decode cL_law 667 = .ok (.iconst 1, 1) := by decide +kernel
theorem dL_law_668 : decode cL_law 668 = .ok (.iadd, 1) := by decide +kernel
theorem dL_law_669 : decode cL_law 669 = .ok (.iaload, 1) := by decide +kernel
theorem dL_law_673 : decode cL_law 673 = .ok (.pop, 1) := by decide +kernel
theorem dL_law_674 : decode cL_law 674 = .ok (.aload_n 2, 1) := by decide +kernel
theorem dL_law_675 : decode cL_law 675 = .ok (.aload_n 0, 1) := by decide +kernel
theorem dL_law_676 : decode cL_law 676 = .ok (.iload 4, 2) := by decide +kernel
theorem dL_law_678 : decode cL_law 678 = .ok (.iconst 1, 1) := by decide +kernel
theorem dL_law_679 : decode cL_law 679 = .ok (.iadd, 1) := by decide +kernel
theorem dL_law_680 : decode cL_law 680 = .ok (.iaload, 1) := by decide +kernel
theorem dL_law_684 : decode cL_law 684 = .ok (.pop, 1) := by decide +kernel
theorem dL_law_685 : decode cL_law 685 = .ok (.goto 693, 3) := by decide +kernel
theorem dL_law_688 : decode cL_law 688 = .ok (.aload_n 1, 1) := by decide +kernel
theorem dL_law_689 : decode cL_law 689 = .ok (.aload_n 0, 1) := by decide +kernel
theorem dL_law_690 : decode cL_law 690 = .ok (.iload 4, 2) := by decide +kernel
theorem dL_law_692 : decode cL_law 692 = .ok (.iconst 1, 1) := by decide +kernel
theorem dL_law_693 : decode cL_law 693 = .ok (.iadd, 1) := by decide +kernel
theorem dL_law_694 : decode cL_law 694 = .ok (.iaload, 1) := by decide +kernel
theorem dL_law_698 : decode cL_law 698 = .ok (.pop, 1) := by decide +kernel
theorem dL_law_699 : decode cL_law 699 = .ok (.aload_n 2, 1) := by decide +kernel
theorem dL_law_700 : decode cL_law 700 = .ok (.aload_n 0, 1) := by decide +kernel
theorem dL_law_701 : decode cL_law 701 = .ok (.iload 4, 2) := by decide +kernel
theorem dL_law_703 : decode cL_law 703 = .ok (.iconst 1, 1) := by decide +kernel
theorem dL_law_704 : decode cL_law 704 = .ok (.iadd, 1) := by decide +kernel
theorem dL_law_705 : decode cL_law 705 = .ok (.iaload, 1) := by decide +kernel
theorem dL_law_709 : decode cL_law 709 = .ok (.pop, 1) := by decide +kernel
theorem dL_law_710 : decode cL_law 710 = .ok (.goto 668, 3) := by decide +kernel
/-- what holds at each turn of the law's loop -/
def LI (dC : Nat → ClassId) (dI : Nat → Nat → Nat) (ky : Nat → ClassId) (A : Nat → Prop) (t o out : Nat) (H : Heap) : Prop := ∃ (tl : Nat) (z0 z1 : Int32) (kz : Nat → Int32) (w wm : va_W) (fo : Nat → Int64), CI ky t tl z0 z1 w ∧ MI ky o tl kz wm ∧ va_P (dC, dI) vwCl ((wm ++ [(out, .inl (ky 1, 1, .inr (.inl fo)))]) ++ w) H ∧ va_D A ((wm ++ [(out, .inl (ky 1, 1, .inr (.inl fo)))]) ++ w)
theorem pm_sw {α : Type} (wm wo w : List α) : ((wm ++ wo) ++ w).Perm ((w ++ wo) ++ wm) := by
  classical
  refine List.perm_iff_count.mpr (fun a9 => ?_)
  simp only [List.count_append]
  omega
set_option maxHeartbeats 4000000 in
set_option maxRecDepth 100000 in
theorem lc_feed {p : Program} {l : Launch} {e : Env} {s : State} {m : MethodId} {args : Array Value} {below : List Frame} {meth : Method} {c : Code} {Q : State → Prop} {dC : Nat → ClassId} {dI : Nat → Nat → Nat} {ky : Nat → ClassId} {A : Nat → Prop} {cells slots : Nat} {H : Heap} {locs : List Loc} {ls : Array Slot} {adK adV : Nat → Nat} {b L : Nat} {xs : Nat → Int32} {t o out : Nat} (hx : p.tables.exec = Jvm.exec) (hb : c.code = cL_law) (hml : c.maxLocals = 7) (hown : s.vm.findClass RL = some m.cls) (hts : ∀ w ∈ lw_tbl, w.before args s = true) (hK : Kk dC dI ky s) (hA : ∀ q, s.heap.size ≤ q → A q) (hE : SEnv adK adV A s s.heap) (hst : l.stackTraces = false) (hTh : ThE s s.heap) (hAn : ∀ a, a < s.heap.size → ¬ A a) (hX : va_X b L xs s s.heap) (hbl : b < s.heap.size) (hbA : ¬ A b) (hL : L ≤ 3072) (hcap : cells + 1 ≤ room_1.cells ∧ slots + 6 ≤ room_1.slots) {i : Nat} (hi : i + 6 ≤ L) (hLI : LI dC dI ky A t o out H) (hS : va_S A s.heap H locs) (hl : lv_has ls 7 [(4, .int (nI i)), (3, .ref out), (2, .ref o), (1, .ref t), (0, .ref b)]) (kx : ∀ (H : Heap) (locs : List Loc) (ls : Array Slot), LI dC dI ky A t o out H → va_S A s.heap H locs → lv_has ls 7 [(4, .int (nI i)), (3, .ref out), (2, .ref o), (1, .ref t), (0, .ref b)] → W p l e room_1 s m args below meth c H locs (cells + 1) (slots + 6) Q (F0 m 1378 ls [])) : W p l e room_1 s m args below meth c H locs cells slots Q (F0 m 216 ls []) := by
  obtain ⟨tl, z0, z1, kz, w, wm, fo, hCI, hMI, hP, hD⟩ := hLI
  have hcs : cells + 0 ≤ room_1.cells ∧ slots + 0 ≤ room_1.slots := ⟨by omega, by omega⟩
  refine lv_aload_n hx hb dL_law_216 rfl (lv_at hl 3 rfl) ?_
  refine lv_aload_n hx hb dL_law_217 rfl (lv_at hl 4 rfl) ?_
  refine lv_iload hx hb dL_law_218 (lv_at hl 0 rfl) ?_
  refine lv_iconst (v := nI 1) hx hb dL_law_220 (by decide) ?_
  refine lv_iadd hx hb dL_law_221 ?_
  refine r_ti (nI (i + 1)) (nI_add _ _) ?_
  refine r_sld hx hb hX hbl hbA hS (i + 1) (by omega) (by omega) (xs (i + 1)) rfl dL_law_222 ?_
  refine lv_aload_n hx hb dL_law_223 rfl (lv_at hl 4 rfl) ?_
  refine lv_iload hx hb dL_law_224 (lv_at hl 0 rfl) ?_
  refine lv_iconst (v := nI 2) hx hb dL_law_226 (by decide) ?_
  refine lv_iadd hx hb dL_law_227 ?_
  refine r_ti (nI (i + 2)) (nI_add _ _) ?_
  refine r_sld hx hb hX hbl hbA hS (i + 2) (by omega) (by omega) (xs (i + 2)) rfl dL_law_228 ?_
  refine lv_aload_n hx hb dL_law_229 rfl (lv_at hl 4 rfl) ?_
  refine lv_iload hx hb dL_law_230 (lv_at hl 0 rfl) ?_
  refine lv_iconst (v := nI 3) hx hb dL_law_232 (by decide) ?_
  refine lv_iadd hx hb dL_law_233 ?_
  refine r_ti (nI (i + 3)) (nI_add _ _) ?_
  refine r_sld hx hb hX hbl hbA hS (i + 3) (by omega) (by omega) (xs (i + 3)) rfl dL_law_234 ?_
  refine lv_aload_n hx hb dL_law_235 rfl (lv_at hl 4 rfl) ?_
  refine lv_iload hx hb dL_law_236 (lv_at hl 0 rfl) ?_
  refine lv_iconst (v := nI 4) hx hb dL_law_238 (by decide) ?_
  refine lv_iadd hx hb dL_law_239 ?_
  refine r_ti (nI (i + 4)) (nI_add _ _) ?_
  refine r_sld hx hb hX hbl hbA hS (i + 4) (by omega) (by omega) (xs (i + 4)) rfl dL_law_240 ?_
  refine lv_aload_n hx hb dL_law_241 rfl (lv_at hl 4 rfl) ?_
  refine lv_iload hx hb dL_law_242 (lv_at hl 0 rfl) ?_
  refine lv_iconst (v := nI 5) hx hb dL_law_244 (by decide) ?_
  refine lv_iadd hx hb dL_law_245 ?_
  refine r_ti (nI (i + 5)) (nI_add _ _) ?_
  refine r_sld hx hb hX hbl hbA hS (i + 5) (by omega) (by omega) (xs (i + 5)) rfl dL_law_246 ?_
  refine ci_feed (rest := []) hx hb hml hown hts hK hA hcs hl (Nat.le_of_ble_eq_true rfl) (xs (i + 1)) (xs (i + 2)) (xs (i + 3)) (xs (i + 4)) (xs (i + 5)) hCI hP hD hS (fun r tl9 y0 y1 w9 H locs hf hCI hP hD hS => ?_)
  refine lv_pop hx hb dL_law_250 rfl ?_
  have hP := hP.perm (pm_sw wm [(out, .inl (ky 1, 1, .inr (.inl fo)))] w9)
  have hD := hD.perm (pm_sw wm [(out, .inl (ky 1, 1, .inr (.inl fo)))] w9)
  refine lv_aload_n hx hb dL_law_251 rfl (lv_at hl 2 rfl) ?_
  refine lv_aload_n hx hb dL_law_252 rfl (lv_at hl 4 rfl) ?_
  refine lv_iload hx hb dL_law_253 (lv_at hl 0 rfl) ?_
  refine lv_iconst (v := nI 1) hx hb dL_law_255 (by decide) ?_
  refine lv_iadd hx hb dL_law_256 ?_
  refine r_ti (nI (i + 1)) (nI_add _ _) ?_
  refine r_sld hx hb hX hbl hbA hS (i + 1) (by omega) (by omega) (xs (i + 1)) rfl dL_law_257 ?_
  refine lv_aload_n hx hb dL_law_258 rfl (lv_at hl 4 rfl) ?_
  refine lv_iload hx hb dL_law_259 (lv_at hl 0 rfl) ?_
  refine lv_iconst (v := nI 2) hx hb dL_law_261 (by decide) ?_
  refine lv_iadd hx hb dL_law_262 ?_
  refine r_ti (nI (i + 2)) (nI_add _ _) ?_
  refine r_sld hx hb hX hbl hbA hS (i + 2) (by omega) (by omega) (xs (i + 2)) rfl dL_law_263 ?_
  refine lv_aload_n hx hb dL_law_264 rfl (lv_at hl 4 rfl) ?_
  refine lv_iload hx hb dL_law_265 (lv_at hl 0 rfl) ?_
  refine lv_iconst (v := nI 3) hx hb dL_law_267 (by decide) ?_
  refine lv_iadd hx hb dL_law_268 ?_
  refine r_ti (nI (i + 3)) (nI_add _ _) ?_
  refine r_sld hx hb hX hbl hbA hS (i + 3) (by omega) (by omega) (xs (i + 3)) rfl dL_law_269 ?_
  refine lv_aload_n hx hb dL_law_270 rfl (lv_at hl 4 rfl) ?_
  refine lv_iload hx hb dL_law_271 (lv_at hl 0 rfl) ?_
  refine lv_iconst (v := nI 4) hx hb dL_law_273 (by decide) ?_
  refine lv_iadd hx hb dL_law_274 ?_
  refine r_ti (nI (i + 4)) (nI_add _ _) ?_
  refine r_sld hx hb hX hbl hbA hS (i + 4) (by omega) (by omega) (xs (i + 4)) rfl dL_law_275 ?_
  refine lv_aload_n hx hb dL_law_276 rfl (lv_at hl 4 rfl) ?_
  refine lv_iload hx hb dL_law_277 (lv_at hl 0 rfl) ?_
  refine lv_iconst (v := nI 5) hx hb dL_law_279 (by decide) ?_
  refine lv_iadd hx hb dL_law_280 ?_
  refine r_ti (nI (i + 5)) (nI_add _ _) ?_
  refine r_sld hx hb hX hbl hbA hS (i + 5) (by omega) (by omega) (xs (i + 5)) rfl dL_law_281 ?_
  refine mi_feed (rest := []) hx hb hml hown hts hK hA hcs hl (Nat.le_of_ble_eq_true rfl) (xs (i + 1)) (xs (i + 2)) (xs (i + 3)) (xs (i + 4)) (xs (i + 5)) hMI hP hD hS (fun r2 tm9 kz9 wm9 H locs hf2 hMI hP hD hS => ?_)
  have hP := hP.perm (pm_sw w9 [(out, .inl (ky 1, 1, .inr (.inl fo)))] wm9)
  have hD := hD.perm (pm_sw w9 [(out, .inl (ky 1, 1, .inr (.inl fo)))] wm9)
  refine lv_pop hx hb dL_law_285 rfl ?_
  obtain rfl : tm9 = tl9 := by
    omega
  refine lv_goto (tgt := 1378) hx hb dL_law_286 (by decide) ?_
  refine W.widen (k := cells + 1) (n := slots + 6) (by omega) (by omega) ?_
  exact kx H locs ls ⟨_, y0, y1, kz9, w9, wm9, fo, hCI, hMI, hP, hD⟩ hS hl
set_option maxHeartbeats 4000000 in
set_option maxRecDepth 100000 in
theorem lc_end {p : Program} {l : Launch} {e : Env} {s : State} {m : MethodId} {args : Array Value} {below : List Frame} {meth : Method} {c : Code} {Q : State → Prop} {dC : Nat → ClassId} {dI : Nat → Nat → Nat} {ky : Nat → ClassId} {A : Nat → Prop} {cells slots : Nat} {H : Heap} {locs : List Loc} {ls : Array Slot} {adK adV : Nat → Nat} {b L : Nat} {xs : Nat → Int32} {t o out : Nat} (hx : p.tables.exec = Jvm.exec) (hb : c.code = cL_law) (hml : c.maxLocals = 7) (hown : s.vm.findClass RL = some m.cls) (hts : ∀ w ∈ lw_tbl, w.before args s = true) (hK : Kk dC dI ky s) (hA : ∀ q, s.heap.size ≤ q → A q) (hE : SEnv adK adV A s s.heap) (hst : l.stackTraces = false) (hTh : ThE s s.heap) (hAn : ∀ a, a < s.heap.size → ¬ A a) (hX : va_X b L xs s s.heap) (hbl : b < s.heap.size) (hbA : ¬ A b) (hL : L ≤ 3072) (hcap : cells + 1 ≤ room_1.cells ∧ slots + 6 ≤ room_1.slots) {i : Nat} (hi : i + 6 ≤ L) (hLI : LI dC dI ky A t o out H) (hS : va_S A s.heap H locs) (hl : lv_has ls 7 [(4, .int (nI i)), (3, .ref out), (2, .ref o), (1, .ref t), (0, .ref b)]) (kx : ∀ (H : Heap) (locs : List Loc) (ls : Array Slot), LI dC dI ky A t o out H → va_S A s.heap H locs → lv_has ls 7 [(4, .int (nI i)), (3, .ref out), (2, .ref o), (1, .ref t), (0, .ref b)] → W p l e room_1 s m args below meth c H locs (cells + 1) (slots + 6) Q (F0 m 1378 ls [])) : W p l e room_1 s m args below meth c H locs cells slots Q (F0 m 289 ls []) := by
  obtain ⟨tl, z0, z1, kz, w, wm, fo, hCI, hMI, hP, hD⟩ := hLI
  have hcs : cells + 0 ≤ room_1.cells ∧ slots + 0 ≤ room_1.slots := ⟨by omega, by omega⟩
  refine lv_aload_n hx hb dL_law_289 rfl (lv_at hl 3 rfl) ?_
  refine lv_aload_n hx hb dL_law_290 rfl (lv_at hl 4 rfl) ?_
  refine lv_iload hx hb dL_law_291 (lv_at hl 0 rfl) ?_
  refine lv_iconst (v := nI 1) hx hb dL_law_293 (by decide) ?_
  refine lv_iadd hx hb dL_law_294 ?_
  refine r_ti (nI (i + 1)) (nI_add _ _) ?_
  refine r_sld hx hb hX hbl hbA hS (i + 1) (by omega) (by omega) (xs (i + 1)) rfl dL_law_295 ?_
  refine ci_end (rest := []) hx hb hml hown hts hK hA hcs hl (Nat.le_of_ble_eq_true rfl) (xs (i + 1)) hCI hP hD hS (fun r tl9 y0 y1 w9 H locs hf hCI hP hD hS => ?_)
  refine lv_pop hx hb dL_law_299 rfl ?_
  have hP := hP.perm (pm_sw wm [(out, .inl (ky 1, 1, .inr (.inl fo)))] w9)
  have hD := hD.perm (pm_sw wm [(out, .inl (ky 1, 1, .inr (.inl fo)))] w9)
  refine lv_aload_n hx hb dL_law_300 rfl (lv_at hl 2 rfl) ?_
  refine lv_aload_n hx hb dL_law_301 rfl (lv_at hl 4 rfl) ?_
  refine lv_iload hx hb dL_law_302 (lv_at hl 0 rfl) ?_
  refine lv_iconst (v := nI 1) hx hb dL_law_304 (by decide) ?_
  refine lv_iadd hx hb dL_law_305 ?_
  refine r_ti (nI (i + 1)) (nI_add _ _) ?_
  refine r_sld hx hb hX hbl hbA hS (i + 1) (by omega) (by omega) (xs (i + 1)) rfl dL_law_306 ?_
  refine mi_end (rest := []) hx hb hml hown hts hK hA hcs hl (Nat.le_of_ble_eq_true rfl) (xs (i + 1)) hMI hP hD hS (fun r2 tm9 kz9 wm9 H locs hf2 hMI hP hD hS => ?_)
  have hP := hP.perm (pm_sw w9 [(out, .inl (ky 1, 1, .inr (.inl fo)))] wm9)
  have hD := hD.perm (pm_sw w9 [(out, .inl (ky 1, 1, .inr (.inl fo)))] wm9)
  refine lv_pop hx hb dL_law_310 rfl ?_
  obtain rfl : tm9 = tl9 := by
    have k1 := ia_n tl9 (by omega)
    have k2 := ia_n tm9 (by omega)
    simp only [ia_eq] at hf hf2
    omega
  refine lv_goto (tgt := 1378) hx hb dL_law_311 (by decide) ?_
  refine W.widen (k := cells + 1) (n := slots + 6) (by omega) (by omega) ?_
  exact kx H locs ls ⟨_, y0, y1, kz9, w9, wm9, fo, hCI, hMI, hP, hD⟩ hS hl
set_option maxHeartbeats 4000000 in
set_option maxRecDepth 100000 in
theorem lc_sea {p : Program} {l : Launch} {e : Env} {s : State} {m : MethodId} {args : Array Value} {below : List Frame} {meth : Method} {c : Code} {Q : State → Prop} {dC : Nat → ClassId} {dI : Nat → Nat → Nat} {ky : Nat → ClassId} {A : Nat → Prop} {cells slots : Nat} {H : Heap} {locs : List Loc} {ls : Array Slot} {adK adV : Nat → Nat} {b L : Nat} {xs : Nat → Int32} {t o out : Nat} (hx : p.tables.exec = Jvm.exec) (hb : c.code = cL_law) (hml : c.maxLocals = 7) (hown : s.vm.findClass RL = some m.cls) (hts : ∀ w ∈ lw_tbl, w.before args s = true) (hK : Kk dC dI ky s) (hA : ∀ q, s.heap.size ≤ q → A q) (hE : SEnv adK adV A s s.heap) (hst : l.stackTraces = false) (hTh : ThE s s.heap) (hAn : ∀ a, a < s.heap.size → ¬ A a) (hX : va_X b L xs s s.heap) (hbl : b < s.heap.size) (hbA : ¬ A b) (hL : L ≤ 3072) (hcap : cells + 1 ≤ room_1.cells ∧ slots + 6 ≤ room_1.slots) {i : Nat} (hi : i + 6 ≤ L) (hLI : LI dC dI ky A t o out H) (hS : va_S A s.heap H locs) (hl : lv_has ls 7 [(4, .int (nI i)), (3, .ref out), (2, .ref o), (1, .ref t), (0, .ref b)]) (kx : ∀ (H : Heap) (locs : List Loc) (ls : Array Slot), LI dC dI ky A t o out H → va_S A s.heap H locs → lv_has ls 7 [(4, .int (nI i)), (3, .ref out), (2, .ref o), (1, .ref t), (0, .ref b)] → W p l e room_1 s m args below meth c H locs (cells + 1) (slots + 6) Q (F0 m 1378 ls [])) : W p l e room_1 s m args below meth c H locs cells slots Q (F0 m 314 ls []) := by
  obtain ⟨tl, z0, z1, kz, w, wm, fo, hCI, hMI, hP, hD⟩ := hLI
  have hcs : cells + 0 ≤ room_1.cells ∧ slots + 0 ≤ room_1.slots := ⟨by omega, by omega⟩
  refine lv_aload_n hx hb dL_law_314 rfl (lv_at hl 3 rfl) ?_
  refine ci_sea (rest := []) hx hb hml hown hts hK hA hcs hl (Nat.le_of_ble_eq_true rfl) hE  hCI hP hD hS (fun r tl9 y0 y1 w9 H locs hf hCI hP hD hS => ?_)
  refine lv_pop hx hb dL_law_318 rfl ?_
  have hP := hP.perm (pm_sw wm [(out, .inl (ky 1, 1, .inr (.inl fo)))] w9)
  have hD := hD.perm (pm_sw wm [(out, .inl (ky 1, 1, .inr (.inl fo)))] w9)
  refine lv_aload_n hx hb dL_law_319 rfl (lv_at hl 2 rfl) ?_
  refine mi_sea (rest := []) hx hb hml hown hts hK hA hcs hl (Nat.le_of_ble_eq_true rfl)  hMI hP hD hS (fun r2 tm9 kz9 wm9 H locs hf2 hMI hP hD hS => ?_)
  have hP := hP.perm (pm_sw w9 [(out, .inl (ky 1, 1, .inr (.inl fo)))] wm9)
  have hD := hD.perm (pm_sw w9 [(out, .inl (ky 1, 1, .inr (.inl fo)))] wm9)
  refine lv_pop hx hb dL_law_323 rfl ?_
  obtain rfl : tm9 = tl9 := by
    omega
  refine lv_goto (tgt := 1378) hx hb dL_law_324 (by decide) ?_
  refine W.widen (k := cells + 1) (n := slots + 6) (by omega) (by omega) ?_
  exact kx H locs ls ⟨_, y0, y1, kz9, w9, wm9, fo, hCI, hMI, hP, hD⟩ hS hl
set_option maxHeartbeats 4000000 in
set_option maxRecDepth 100000 in
theorem lc_fault {p : Program} {l : Launch} {e : Env} {s : State} {m : MethodId} {args : Array Value} {below : List Frame} {meth : Method} {c : Code} {Q : State → Prop} {dC : Nat → ClassId} {dI : Nat → Nat → Nat} {ky : Nat → ClassId} {A : Nat → Prop} {cells slots : Nat} {H : Heap} {locs : List Loc} {ls : Array Slot} {adK adV : Nat → Nat} {b L : Nat} {xs : Nat → Int32} {t o out : Nat} (hx : p.tables.exec = Jvm.exec) (hb : c.code = cL_law) (hml : c.maxLocals = 7) (hown : s.vm.findClass RL = some m.cls) (hts : ∀ w ∈ lw_tbl, w.before args s = true) (hK : Kk dC dI ky s) (hA : ∀ q, s.heap.size ≤ q → A q) (hE : SEnv adK adV A s s.heap) (hst : l.stackTraces = false) (hTh : ThE s s.heap) (hAn : ∀ a, a < s.heap.size → ¬ A a) (hX : va_X b L xs s s.heap) (hbl : b < s.heap.size) (hbA : ¬ A b) (hL : L ≤ 3072) (hcap : cells + 1 ≤ room_1.cells ∧ slots + 6 ≤ room_1.slots) {i : Nat} (hi : i + 6 ≤ L) (hLI : LI dC dI ky A t o out H) (hS : va_S A s.heap H locs) (hl : lv_has ls 7 [(4, .int (nI i)), (3, .ref out), (2, .ref o), (1, .ref t), (0, .ref b)]) (kx : ∀ (H : Heap) (locs : List Loc) (ls : Array Slot), LI dC dI ky A t o out H → va_S A s.heap H locs → lv_has ls 7 [(4, .int (nI i)), (3, .ref out), (2, .ref o), (1, .ref t), (0, .ref b)] → W p l e room_1 s m args below meth c H locs (cells + 1) (slots + 6) Q (F0 m 1378 ls [])) : W p l e room_1 s m args below meth c H locs cells slots Q (F0 m 327 ls []) := by
  obtain ⟨tl, z0, z1, kz, w, wm, fo, hCI, hMI, hP, hD⟩ := hLI
  have hcs : cells + 0 ≤ room_1.cells ∧ slots + 0 ≤ room_1.slots := ⟨by omega, by omega⟩
  refine lv_aload_n hx hb dL_law_327 rfl (lv_at hl 3 rfl) ?_
  refine ci_fault (rest := []) hx hb hml hown hts hK hA hcs hl (Nat.le_of_ble_eq_true rfl)  hCI hP hD hS (fun r tl9 y0 y1 w9 H locs hf hCI hP hD hS => ?_)
  refine lv_pop hx hb dL_law_331 rfl ?_
  have hP := hP.perm (pm_sw wm [(out, .inl (ky 1, 1, .inr (.inl fo)))] w9)
  have hD := hD.perm (pm_sw wm [(out, .inl (ky 1, 1, .inr (.inl fo)))] w9)
  refine lv_aload_n hx hb dL_law_332 rfl (lv_at hl 2 rfl) ?_
  refine mi_fault (rest := []) hx hb hml hown hts hK hA hcs hl (Nat.le_of_ble_eq_true rfl)  hMI hP hD hS (fun r2 tm9 kz9 wm9 H locs hf2 hMI hP hD hS => ?_)
  have hP := hP.perm (pm_sw w9 [(out, .inl (ky 1, 1, .inr (.inl fo)))] wm9)
  have hD := hD.perm (pm_sw w9 [(out, .inl (ky 1, 1, .inr (.inl fo)))] wm9)
  refine lv_pop hx hb dL_law_336 rfl ?_
  subst hf hf2
  refine lv_goto (tgt := 1378) hx hb dL_law_337 (by decide) ?_
  refine W.widen (k := cells + 1) (n := slots + 6) (by omega) (by omega) ?_
  exact kx H locs ls ⟨_, y0, y1, kz9, w9, wm9, fo, hCI, hMI, hP, hD⟩ hS hl
set_option maxHeartbeats 4000000 in
set_option maxRecDepth 100000 in
theorem lc_thick {p : Program} {l : Launch} {e : Env} {s : State} {m : MethodId} {args : Array Value} {below : List Frame} {meth : Method} {c : Code} {Q : State → Prop} {dC : Nat → ClassId} {dI : Nat → Nat → Nat} {ky : Nat → ClassId} {A : Nat → Prop} {cells slots : Nat} {H : Heap} {locs : List Loc} {ls : Array Slot} {adK adV : Nat → Nat} {b L : Nat} {xs : Nat → Int32} {t o out : Nat} (hx : p.tables.exec = Jvm.exec) (hb : c.code = cL_law) (hml : c.maxLocals = 7) (hown : s.vm.findClass RL = some m.cls) (hts : ∀ w ∈ lw_tbl, w.before args s = true) (hK : Kk dC dI ky s) (hA : ∀ q, s.heap.size ≤ q → A q) (hE : SEnv adK adV A s s.heap) (hst : l.stackTraces = false) (hTh : ThE s s.heap) (hAn : ∀ a, a < s.heap.size → ¬ A a) (hX : va_X b L xs s s.heap) (hbl : b < s.heap.size) (hbA : ¬ A b) (hL : L ≤ 3072) (hcap : cells + 1 ≤ room_1.cells ∧ slots + 6 ≤ room_1.slots) {i : Nat} (hi : i + 6 ≤ L) (hLI : LI dC dI ky A t o out H) (hS : va_S A s.heap H locs) (hl : lv_has ls 7 [(4, .int (nI i)), (3, .ref out), (2, .ref o), (1, .ref t), (0, .ref b)]) (kx : ∀ (H : Heap) (locs : List Loc) (ls : Array Slot), LI dC dI ky A t o out H → va_S A s.heap H locs → lv_has ls 7 [(4, .int (nI i)), (3, .ref out), (2, .ref o), (1, .ref t), (0, .ref b)] → W p l e room_1 s m args below meth c H locs (cells + 1) (slots + 6) Q (F0 m 1378 ls [])) : W p l e room_1 s m args below meth c H locs cells slots Q (F0 m 340 ls []) := by
  obtain ⟨tl, z0, z1, kz, w, wm, fo, hCI, hMI, hP, hD⟩ := hLI
  have hcs : cells + 0 ≤ room_1.cells ∧ slots + 0 ≤ room_1.slots := ⟨by omega, by omega⟩
  refine lv_aload_n hx hb dL_law_340 rfl (lv_at hl 3 rfl) ?_
  refine lv_aload_n hx hb dL_law_341 rfl (lv_at hl 4 rfl) ?_
  refine lv_iload hx hb dL_law_342 (lv_at hl 0 rfl) ?_
  refine lv_iconst (v := nI 1) hx hb dL_law_344 (by decide) ?_
  refine lv_iadd hx hb dL_law_345 ?_
  refine r_ti (nI (i + 1)) (nI_add _ _) ?_
  refine r_sld hx hb hX hbl hbA hS (i + 1) (by omega) (by omega) (xs (i + 1)) rfl dL_law_346 ?_
  refine lv_aload_n hx hb dL_law_347 rfl (lv_at hl 4 rfl) ?_
  refine lv_iload hx hb dL_law_348 (lv_at hl 0 rfl) ?_
  refine lv_iconst (v := nI 2) hx hb dL_law_350 (by decide) ?_
  refine lv_iadd hx hb dL_law_351 ?_
  refine r_ti (nI (i + 2)) (nI_add _ _) ?_
  refine r_sld hx hb hX hbl hbA hS (i + 2) (by omega) (by omega) (xs (i + 2)) rfl dL_law_352 ?_
  refine ci_thick (rest := []) hx hb hml hown hts hK hA hcs hl (Nat.le_of_ble_eq_true rfl) (xs (i + 1)) (xs (i + 2)) hCI hP hD hS (fun r tl9 y0 y1 w9 H locs hf hCI hP hD hS => ?_)
  refine lv_pop hx hb dL_law_356 rfl ?_
  have hP := hP.perm (pm_sw wm [(out, .inl (ky 1, 1, .inr (.inl fo)))] w9)
  have hD := hD.perm (pm_sw wm [(out, .inl (ky 1, 1, .inr (.inl fo)))] w9)
  refine lv_aload_n hx hb dL_law_357 rfl (lv_at hl 2 rfl) ?_
  refine lv_aload_n hx hb dL_law_358 rfl (lv_at hl 4 rfl) ?_
  refine lv_iload hx hb dL_law_359 (lv_at hl 0 rfl) ?_
  refine lv_iconst (v := nI 1) hx hb dL_law_361 (by decide) ?_
  refine lv_iadd hx hb dL_law_362 ?_
  refine r_ti (nI (i + 1)) (nI_add _ _) ?_
  refine r_sld hx hb hX hbl hbA hS (i + 1) (by omega) (by omega) (xs (i + 1)) rfl dL_law_363 ?_
  refine lv_aload_n hx hb dL_law_364 rfl (lv_at hl 4 rfl) ?_
  refine lv_iload hx hb dL_law_365 (lv_at hl 0 rfl) ?_
  refine lv_iconst (v := nI 2) hx hb dL_law_367 (by decide) ?_
  refine lv_iadd hx hb dL_law_368 ?_
  refine r_ti (nI (i + 2)) (nI_add _ _) ?_
  refine r_sld hx hb hX hbl hbA hS (i + 2) (by omega) (by omega) (xs (i + 2)) rfl dL_law_369 ?_
  refine mi_thick (rest := []) hx hb hml hown hts hK hA hcs hl (Nat.le_of_ble_eq_true rfl) (xs (i + 1)) (xs (i + 2)) hMI hP hD hS (fun r2 tm9 kz9 wm9 H locs hf2 hMI hP hD hS => ?_)
  have hP := hP.perm (pm_sw w9 [(out, .inl (ky 1, 1, .inr (.inl fo)))] wm9)
  have hD := hD.perm (pm_sw w9 [(out, .inl (ky 1, 1, .inr (.inl fo)))] wm9)
  refine lv_pop hx hb dL_law_373 rfl ?_
  subst hf hf2
  refine lv_goto (tgt := 1378) hx hb dL_law_374 (by decide) ?_
  refine W.widen (k := cells + 1) (n := slots + 6) (by omega) (by omega) ?_
  exact kx H locs ls ⟨_, y0, y1, kz9, w9, wm9, fo, hCI, hMI, hP, hD⟩ hS hl
set_option maxHeartbeats 4000000 in
set_option maxRecDepth 100000 in
theorem lc_lump {p : Program} {l : Launch} {e : Env} {s : State} {m : MethodId} {args : Array Value} {below : List Frame} {meth : Method} {c : Code} {Q : State → Prop} {dC : Nat → ClassId} {dI : Nat → Nat → Nat} {ky : Nat → ClassId} {A : Nat → Prop} {cells slots : Nat} {H : Heap} {locs : List Loc} {ls : Array Slot} {adK adV : Nat → Nat} {b L : Nat} {xs : Nat → Int32} {t o out : Nat} (hx : p.tables.exec = Jvm.exec) (hb : c.code = cL_law) (hml : c.maxLocals = 7) (hown : s.vm.findClass RL = some m.cls) (hts : ∀ w ∈ lw_tbl, w.before args s = true) (hK : Kk dC dI ky s) (hA : ∀ q, s.heap.size ≤ q → A q) (hE : SEnv adK adV A s s.heap) (hst : l.stackTraces = false) (hTh : ThE s s.heap) (hAn : ∀ a, a < s.heap.size → ¬ A a) (hX : va_X b L xs s s.heap) (hbl : b < s.heap.size) (hbA : ¬ A b) (hL : L ≤ 3072) (hcap : cells + 1 ≤ room_1.cells ∧ slots + 6 ≤ room_1.slots) {i : Nat} (hi : i + 6 ≤ L) (hLI : LI dC dI ky A t o out H) (hS : va_S A s.heap H locs) (hl : lv_has ls 7 [(4, .int (nI i)), (3, .ref out), (2, .ref o), (1, .ref t), (0, .ref b)]) (kx : ∀ (H : Heap) (locs : List Loc) (ls : Array Slot), LI dC dI ky A t o out H → va_S A s.heap H locs → lv_has ls 7 [(4, .int (nI i)), (3, .ref out), (2, .ref o), (1, .ref t), (0, .ref b)] → W p l e room_1 s m args below meth c H locs (cells + 1) (slots + 6) Q (F0 m 1378 ls [])) : W p l e room_1 s m args below meth c H locs cells slots Q (F0 m 377 ls []) := by
  obtain ⟨tl, z0, z1, kz, w, wm, fo, hCI, hMI, hP, hD⟩ := hLI
  have hcs : cells + 0 ≤ room_1.cells ∧ slots + 0 ≤ room_1.slots := ⟨by omega, by omega⟩
  refine lv_aload_n hx hb dL_law_377 rfl (lv_at hl 3 rfl) ?_
  refine lv_aload_n hx hb dL_law_378 rfl (lv_at hl 4 rfl) ?_
  refine lv_iload hx hb dL_law_379 (lv_at hl 0 rfl) ?_
  refine lv_iconst (v := nI 1) hx hb dL_law_381 (by decide) ?_
  refine lv_iadd hx hb dL_law_382 ?_
  refine r_ti (nI (i + 1)) (nI_add _ _) ?_
  refine r_sld hx hb hX hbl hbA hS (i + 1) (by omega) (by omega) (xs (i + 1)) rfl dL_law_383 ?_
  refine lv_aload_n hx hb dL_law_384 rfl (lv_at hl 4 rfl) ?_
  refine lv_iload hx hb dL_law_385 (lv_at hl 0 rfl) ?_
  refine lv_iconst (v := nI 2) hx hb dL_law_387 (by decide) ?_
  refine lv_iadd hx hb dL_law_388 ?_
  refine r_ti (nI (i + 2)) (nI_add _ _) ?_
  refine r_sld hx hb hX hbl hbA hS (i + 2) (by omega) (by omega) (xs (i + 2)) rfl dL_law_389 ?_
  refine ci_lump (rest := []) hx hb hml hown hts hK hA hcs hl (Nat.le_of_ble_eq_true rfl) (xs (i + 1)) (xs (i + 2)) hCI hP hD hS (fun r tl9 y0 y1 w9 H locs hf hCI hP hD hS => ?_)
  refine lv_pop hx hb dL_law_393 rfl ?_
  have hP := hP.perm (pm_sw wm [(out, .inl (ky 1, 1, .inr (.inl fo)))] w9)
  have hD := hD.perm (pm_sw wm [(out, .inl (ky 1, 1, .inr (.inl fo)))] w9)
  refine lv_aload_n hx hb dL_law_394 rfl (lv_at hl 2 rfl) ?_
  refine lv_aload_n hx hb dL_law_395 rfl (lv_at hl 4 rfl) ?_
  refine lv_iload hx hb dL_law_396 (lv_at hl 0 rfl) ?_
  refine lv_iconst (v := nI 1) hx hb dL_law_398 (by decide) ?_
  refine lv_iadd hx hb dL_law_399 ?_
  refine r_ti (nI (i + 1)) (nI_add _ _) ?_
  refine r_sld hx hb hX hbl hbA hS (i + 1) (by omega) (by omega) (xs (i + 1)) rfl dL_law_400 ?_
  refine lv_aload_n hx hb dL_law_401 rfl (lv_at hl 4 rfl) ?_
  refine lv_iload hx hb dL_law_402 (lv_at hl 0 rfl) ?_
  refine lv_iconst (v := nI 2) hx hb dL_law_404 (by decide) ?_
  refine lv_iadd hx hb dL_law_405 ?_
  refine r_ti (nI (i + 2)) (nI_add _ _) ?_
  refine r_sld hx hb hX hbl hbA hS (i + 2) (by omega) (by omega) (xs (i + 2)) rfl dL_law_406 ?_
  refine mi_lump (rest := []) hx hb hml hown hts hK hA hcs hl (Nat.le_of_ble_eq_true rfl) (xs (i + 1)) (xs (i + 2)) hMI hP hD hS (fun r2 tm9 kz9 wm9 H locs hf2 hMI hP hD hS => ?_)
  have hP := hP.perm (pm_sw w9 [(out, .inl (ky 1, 1, .inr (.inl fo)))] wm9)
  have hD := hD.perm (pm_sw w9 [(out, .inl (ky 1, 1, .inr (.inl fo)))] wm9)
  refine lv_pop hx hb dL_law_410 rfl ?_
  subst hf hf2
  refine lv_goto (tgt := 1378) hx hb dL_law_411 (by decide) ?_
  refine W.widen (k := cells + 1) (n := slots + 6) (by omega) (by omega) ?_
  exact kx H locs ls ⟨_, y0, y1, kz9, w9, wm9, fo, hCI, hMI, hP, hD⟩ hS hl
set_option maxHeartbeats 4000000 in
set_option maxRecDepth 100000 in
theorem lc_boat {p : Program} {l : Launch} {e : Env} {s : State} {m : MethodId} {args : Array Value} {below : List Frame} {meth : Method} {c : Code} {Q : State → Prop} {dC : Nat → ClassId} {dI : Nat → Nat → Nat} {ky : Nat → ClassId} {A : Nat → Prop} {cells slots : Nat} {H : Heap} {locs : List Loc} {ls : Array Slot} {adK adV : Nat → Nat} {b L : Nat} {xs : Nat → Int32} {t o out : Nat} (hx : p.tables.exec = Jvm.exec) (hb : c.code = cL_law) (hml : c.maxLocals = 7) (hown : s.vm.findClass RL = some m.cls) (hts : ∀ w ∈ lw_tbl, w.before args s = true) (hK : Kk dC dI ky s) (hA : ∀ q, s.heap.size ≤ q → A q) (hE : SEnv adK adV A s s.heap) (hst : l.stackTraces = false) (hTh : ThE s s.heap) (hAn : ∀ a, a < s.heap.size → ¬ A a) (hX : va_X b L xs s s.heap) (hbl : b < s.heap.size) (hbA : ¬ A b) (hL : L ≤ 3072) (hcap : cells + 1 ≤ room_1.cells ∧ slots + 6 ≤ room_1.slots) {i : Nat} (hi : i + 6 ≤ L) (hLI : LI dC dI ky A t o out H) (hS : va_S A s.heap H locs) (hl : lv_has ls 7 [(4, .int (nI i)), (3, .ref out), (2, .ref o), (1, .ref t), (0, .ref b)]) (kx : ∀ (H : Heap) (locs : List Loc) (ls : Array Slot), LI dC dI ky A t o out H → va_S A s.heap H locs → lv_has ls 7 [(4, .int (nI i)), (3, .ref out), (2, .ref o), (1, .ref t), (0, .ref b)] → W p l e room_1 s m args below meth c H locs (cells + 1) (slots + 6) Q (F0 m 1378 ls [])) : W p l e room_1 s m args below meth c H locs cells slots Q (F0 m 414 ls []) := by
  obtain ⟨tl, z0, z1, kz, w, wm, fo, hCI, hMI, hP, hD⟩ := hLI
  have hcs : cells + 0 ≤ room_1.cells ∧ slots + 0 ≤ room_1.slots := ⟨by omega, by omega⟩
  refine lv_aload_n hx hb dL_law_414 rfl (lv_at hl 3 rfl) ?_
  refine lv_aload_n hx hb dL_law_415 rfl (lv_at hl 4 rfl) ?_
  refine lv_iload hx hb dL_law_416 (lv_at hl 0 rfl) ?_
  refine lv_iconst (v := nI 1) hx hb dL_law_418 (by decide) ?_
  refine lv_iadd hx hb dL_law_419 ?_
  refine r_ti (nI (i + 1)) (nI_add _ _) ?_
  refine r_sld hx hb hX hbl hbA hS (i + 1) (by omega) (by omega) (xs (i + 1)) rfl dL_law_420 ?_
  refine lv_aload_n hx hb dL_law_421 rfl (lv_at hl 4 rfl) ?_
  refine lv_iload hx hb dL_law_422 (lv_at hl 0 rfl) ?_
  refine lv_iconst (v := nI 2) hx hb dL_law_424 (by decide) ?_
  refine lv_iadd hx hb dL_law_425 ?_
  refine r_ti (nI (i + 2)) (nI_add _ _) ?_
  refine r_sld hx hb hX hbl hbA hS (i + 2) (by omega) (by omega) (xs (i + 2)) rfl dL_law_426 ?_
  refine lv_aload_n hx hb dL_law_427 rfl (lv_at hl 1 rfl) ?_
  refine ci_boat (rest := []) hx hb hml hown hts hK hA hcs hl (Nat.le_of_ble_eq_true rfl) hst hTh hAn hcap (xs (i + 1)) (xs (i + 2)) hCI hP hD hS (fun r w9 fo9 H locs hCI hP hD hS => ?_)
  refine lv_istore (lv' := [(5, .int r), (4, .int (nI i)), (3, .ref out), (2, .ref o), (1, .ref t), (0, .ref b)]) hx hb dL_law_431 hl (by decide) rfl (fun ls hl => ?_)
  have hl : lv_has ls 7 [(4, .int (nI i)), (3, .ref out), (2, .ref o), (1, .ref t), (0, .ref b)] := lv_sub hl [1, 2, 3, 4, 5] rfl
  have hcs : (cells + 1) + 0 ≤ room_1.cells ∧ (slots + 6) + 0 ≤ room_1.slots := hcap
  have hP := hP.perm (pm_sw wm [(out, .inl (ky 1, 1, .inr (.inl fo9)))] w9)
  have hD := hD.perm (pm_sw wm [(out, .inl (ky 1, 1, .inr (.inl fo9)))] w9)
  refine lv_aload_n hx hb dL_law_433 rfl (lv_at hl 2 rfl) ?_
  refine lv_aload_n hx hb dL_law_434 rfl (lv_at hl 4 rfl) ?_
  refine lv_iload hx hb dL_law_435 (lv_at hl 0 rfl) ?_
  refine lv_iconst (v := nI 1) hx hb dL_law_437 (by decide) ?_
  refine lv_iadd hx hb dL_law_438 ?_
  refine r_ti (nI (i + 1)) (nI_add _ _) ?_
  refine r_sld hx hb hX hbl hbA hS (i + 1) (by omega) (by omega) (xs (i + 1)) rfl dL_law_439 ?_
  refine lv_aload_n hx hb dL_law_440 rfl (lv_at hl 4 rfl) ?_
  refine lv_iload hx hb dL_law_441 (lv_at hl 0 rfl) ?_
  refine lv_iconst (v := nI 2) hx hb dL_law_443 (by decide) ?_
  refine lv_iadd hx hb dL_law_444 ?_
  refine r_ti (nI (i + 2)) (nI_add _ _) ?_
  refine r_sld hx hb hX hbl hbA hS (i + 2) (by omega) (by omega) (xs (i + 2)) rfl dL_law_445 ?_
  refine mi_boat (rest := []) hx hb hml hown hts hK hA hcs hl (Nat.le_of_ble_eq_true rfl) (xs (i + 1)) (xs (i + 2)) hMI hP hD hS (fun r2 tm9 kz9 wm9 H locs hf2 hMI hP hD hS => ?_)
  have hP := hP.perm (pm_sw w9 [(out, .inl (ky 1, 1, .inr (.inl fo9)))] wm9)
  have hD := hD.perm (pm_sw w9 [(out, .inl (ky 1, 1, .inr (.inl fo9)))] wm9)
  refine lv_istore (lv' := [(6, .int r2), (4, .int (nI i)), (3, .ref out), (2, .ref o), (1, .ref t), (0, .ref b)]) hx hb dL_law_449 hl (by decide) rfl (fun ls hl => ?_)
  have hl : lv_has ls 7 [(4, .int (nI i)), (3, .ref out), (2, .ref o), (1, .ref t), (0, .ref b)] := lv_sub hl [1, 2, 3, 4, 5] rfl
  subst hf2
  refine lv_goto (tgt := 1378) hx hb dL_law_451 (by decide) ?_
  exact kx H locs ls ⟨tl, z0, z1, kz9, w9, wm9, fo9, hCI, hMI, hP, hD⟩ hS hl
set_option maxHeartbeats 4000000 in
set_option maxRecDepth 100000 in
theorem lc_now {p : Program} {l : Launch} {e : Env} {s : State} {m : MethodId} {args : Array Value} {below : List Frame} {meth : Method} {c : Code} {Q : State → Prop} {dC : Nat → ClassId} {dI : Nat → Nat → Nat} {ky : Nat → ClassId} {A : Nat → Prop} {cells slots : Nat} {H : Heap} {locs : List Loc} {ls : Array Slot} {adK adV : Nat → Nat} {b L : Nat} {xs : Nat → Int32} {t o out : Nat} (hx : p.tables.exec = Jvm.exec) (hb : c.code = cL_law) (hml : c.maxLocals = 7) (hown : s.vm.findClass RL = some m.cls) (hts : ∀ w ∈ lw_tbl, w.before args s = true) (hK : Kk dC dI ky s) (hA : ∀ q, s.heap.size ≤ q → A q) (hE : SEnv adK adV A s s.heap) (hst : l.stackTraces = false) (hTh : ThE s s.heap) (hAn : ∀ a, a < s.heap.size → ¬ A a) (hX : va_X b L xs s s.heap) (hbl : b < s.heap.size) (hbA : ¬ A b) (hL : L ≤ 3072) (hcap : cells + 1 ≤ room_1.cells ∧ slots + 6 ≤ room_1.slots) {i : Nat} (hi : i + 6 ≤ L) (hLI : LI dC dI ky A t o out H) (hS : va_S A s.heap H locs) (hl : lv_has ls 7 [(4, .int (nI i)), (3, .ref out), (2, .ref o), (1, .ref t), (0, .ref b)]) (kx : ∀ (H : Heap) (locs : List Loc) (ls : Array Slot), LI dC dI ky A t o out H → va_S A s.heap H locs → lv_has ls 7 [(4, .int (nI i)), (3, .ref out), (2, .ref o), (1, .ref t), (0, .ref b)] → W p l e room_1 s m args below meth c H locs (cells + 1) (slots + 6) Q (F0 m 1378 ls [])) : W p l e room_1 s m args below meth c H locs cells slots Q (F0 m 454 ls []) := by
  obtain ⟨tl, z0, z1, kz, w, wm, fo, hCI, hMI, hP, hD⟩ := hLI
  have hcs : cells + 0 ≤ room_1.cells ∧ slots + 0 ≤ room_1.slots := ⟨by omega, by omega⟩
  refine lv_aload_n hx hb dL_law_454 rfl (lv_at hl 3 rfl) ?_
  refine lv_aload_n hx hb dL_law_455 rfl (lv_at hl 4 rfl) ?_
  refine lv_iload hx hb dL_law_456 (lv_at hl 0 rfl) ?_
  refine lv_iconst (v := nI 1) hx hb dL_law_458 (by decide) ?_
  refine lv_iadd hx hb dL_law_459 ?_
  refine r_ti (nI (i + 1)) (nI_add _ _) ?_
  refine r_sld hx hb hX hbl hbA hS (i + 1) (by omega) (by omega) (xs (i + 1)) rfl dL_law_460 ?_
  refine ci_now (rest := []) hx hb hml hown hts hK hA hcs hl (Nat.le_of_ble_eq_true rfl) (xs (i + 1)) hCI hP hD hS (fun r tl9 y0 y1 w9 H locs hf hCI hP hD hS => ?_)
  refine lv_pop hx hb dL_law_464 rfl ?_
  have hP := hP.perm (pm_sw wm [(out, .inl (ky 1, 1, .inr (.inl fo)))] w9)
  have hD := hD.perm (pm_sw wm [(out, .inl (ky 1, 1, .inr (.inl fo)))] w9)
  refine lv_aload_n hx hb dL_law_465 rfl (lv_at hl 2 rfl) ?_
  refine lv_aload_n hx hb dL_law_466 rfl (lv_at hl 4 rfl) ?_
  refine lv_iload hx hb dL_law_467 (lv_at hl 0 rfl) ?_
  refine lv_iconst (v := nI 1) hx hb dL_law_469 (by decide) ?_
  refine lv_iadd hx hb dL_law_470 ?_
  refine r_ti (nI (i + 1)) (nI_add _ _) ?_
  refine r_sld hx hb hX hbl hbA hS (i + 1) (by omega) (by omega) (xs (i + 1)) rfl dL_law_471 ?_
  refine mi_now (rest := []) hx hb hml hown hts hK hA hcs hl (Nat.le_of_ble_eq_true rfl) (xs (i + 1)) hMI hP hD hS (fun r2 tm9 kz9 wm9 H locs hf2 hMI hP hD hS => ?_)
  have hP := hP.perm (pm_sw w9 [(out, .inl (ky 1, 1, .inr (.inl fo)))] wm9)
  have hD := hD.perm (pm_sw w9 [(out, .inl (ky 1, 1, .inr (.inl fo)))] wm9)
  refine lv_pop hx hb dL_law_475 rfl ?_
  subst hf hf2
  refine lv_goto (tgt := 1378) hx hb dL_law_476 (by decide) ?_
  refine W.widen (k := cells + 1) (n := slots + 6) (by omega) (by omega) ?_
  exact kx H locs ls ⟨_, y0, y1, kz9, w9, wm9, fo, hCI, hMI, hP, hD⟩ hS hl
set_option maxHeartbeats 4000000 in
set_option maxRecDepth 100000 in
theorem lc_stir {p : Program} {l : Launch} {e : Env} {s : State} {m : MethodId} {args : Array Value} {below : List Frame} {meth : Method} {c : Code} {Q : State → Prop} {dC : Nat → ClassId} {dI : Nat → Nat → Nat} {ky : Nat → ClassId} {A : Nat → Prop} {cells slots : Nat} {H : Heap} {locs : List Loc} {ls : Array Slot} {adK adV : Nat → Nat} {b L : Nat} {xs : Nat → Int32} {t o out : Nat} (hx : p.tables.exec = Jvm.exec) (hb : c.code = cL_law) (hml : c.maxLocals = 7) (hown : s.vm.findClass RL = some m.cls) (hts : ∀ w ∈ lw_tbl, w.before args s = true) (hK : Kk dC dI ky s) (hA : ∀ q, s.heap.size ≤ q → A q) (hE : SEnv adK adV A s s.heap) (hst : l.stackTraces = false) (hTh : ThE s s.heap) (hAn : ∀ a, a < s.heap.size → ¬ A a) (hX : va_X b L xs s s.heap) (hbl : b < s.heap.size) (hbA : ¬ A b) (hL : L ≤ 3072) (hcap : cells + 1 ≤ room_1.cells ∧ slots + 6 ≤ room_1.slots) {i : Nat} (hi : i + 6 ≤ L) (hLI : LI dC dI ky A t o out H) (hS : va_S A s.heap H locs) (hl : lv_has ls 7 [(4, .int (nI i)), (3, .ref out), (2, .ref o), (1, .ref t), (0, .ref b)]) (kx : ∀ (H : Heap) (locs : List Loc) (ls : Array Slot), LI dC dI ky A t o out H → va_S A s.heap H locs → lv_has ls 7 [(4, .int (nI i)), (3, .ref out), (2, .ref o), (1, .ref t), (0, .ref b)] → W p l e room_1 s m args below meth c H locs (cells + 1) (slots + 6) Q (F0 m 1378 ls [])) : W p l e room_1 s m args below meth c H locs cells slots Q (F0 m 479 ls []) := by
  obtain ⟨tl, z0, z1, kz, w, wm, fo, hCI, hMI, hP, hD⟩ := hLI
  have hcs : cells + 0 ≤ room_1.cells ∧ slots + 0 ≤ room_1.slots := ⟨by omega, by omega⟩
  refine lv_aload_n hx hb dL_law_479 rfl (lv_at hl 3 rfl) ?_
  refine lv_aload_n hx hb dL_law_480 rfl (lv_at hl 4 rfl) ?_
  refine lv_iload hx hb dL_law_481 (lv_at hl 0 rfl) ?_
  refine lv_iconst (v := nI 1) hx hb dL_law_483 (by decide) ?_
  refine lv_iadd hx hb dL_law_484 ?_
  refine r_ti (nI (i + 1)) (nI_add _ _) ?_
  refine r_sld hx hb hX hbl hbA hS (i + 1) (by omega) (by omega) (xs (i + 1)) rfl dL_law_485 ?_
  refine lv_aload_n hx hb dL_law_486 rfl (lv_at hl 4 rfl) ?_
  refine lv_iload hx hb dL_law_487 (lv_at hl 0 rfl) ?_
  refine lv_iconst (v := nI 2) hx hb dL_law_489 (by decide) ?_
  refine lv_iadd hx hb dL_law_490 ?_
  refine r_ti (nI (i + 2)) (nI_add _ _) ?_
  refine r_sld hx hb hX hbl hbA hS (i + 2) (by omega) (by omega) (xs (i + 2)) rfl dL_law_491 ?_
  refine lv_aload_n hx hb dL_law_492 rfl (lv_at hl 4 rfl) ?_
  refine lv_iload hx hb dL_law_493 (lv_at hl 0 rfl) ?_
  refine lv_iconst (v := nI 3) hx hb dL_law_495 (by decide) ?_
  refine lv_iadd hx hb dL_law_496 ?_
  refine r_ti (nI (i + 3)) (nI_add _ _) ?_
  refine r_sld hx hb hX hbl hbA hS (i + 3) (by omega) (by omega) (xs (i + 3)) rfl dL_law_497 ?_
  refine ci_stir (rest := []) hx hb hml hown hts hK hA hcs hl (Nat.le_of_ble_eq_true rfl) (xs (i + 1)) (xs (i + 2)) (xs (i + 3)) hCI hP hD hS (fun r tl9 y0 y1 w9 H locs hf hCI hP hD hS => ?_)
  refine lv_pop hx hb dL_law_501 rfl ?_
  have hP := hP.perm (pm_sw wm [(out, .inl (ky 1, 1, .inr (.inl fo)))] w9)
  have hD := hD.perm (pm_sw wm [(out, .inl (ky 1, 1, .inr (.inl fo)))] w9)
  refine lv_aload_n hx hb dL_law_502 rfl (lv_at hl 2 rfl) ?_
  refine lv_aload_n hx hb dL_law_503 rfl (lv_at hl 4 rfl) ?_
  refine lv_iload hx hb dL_law_504 (lv_at hl 0 rfl) ?_
  refine lv_iconst (v := nI 1) hx hb dL_law_506 (by decide) ?_
  refine lv_iadd hx hb dL_law_507 ?_
  refine r_ti (nI (i + 1)) (nI_add _ _) ?_
  refine r_sld hx hb hX hbl hbA hS (i + 1) (by omega) (by omega) (xs (i + 1)) rfl dL_law_508 ?_
  refine lv_aload_n hx hb dL_law_509 rfl (lv_at hl 4 rfl) ?_
  refine lv_iload hx hb dL_law_510 (lv_at hl 0 rfl) ?_
  refine lv_iconst (v := nI 2) hx hb dL_law_512 (by decide) ?_
  refine lv_iadd hx hb dL_law_513 ?_
  refine r_ti (nI (i + 2)) (nI_add _ _) ?_
  refine r_sld hx hb hX hbl hbA hS (i + 2) (by omega) (by omega) (xs (i + 2)) rfl dL_law_514 ?_
  refine lv_aload_n hx hb dL_law_515 rfl (lv_at hl 4 rfl) ?_
  refine lv_iload hx hb dL_law_516 (lv_at hl 0 rfl) ?_
  refine lv_iconst (v := nI 3) hx hb dL_law_518 (by decide) ?_
  refine lv_iadd hx hb dL_law_519 ?_
  refine r_ti (nI (i + 3)) (nI_add _ _) ?_
  refine r_sld hx hb hX hbl hbA hS (i + 3) (by omega) (by omega) (xs (i + 3)) rfl dL_law_520 ?_
  refine mi_stir (rest := []) hx hb hml hown hts hK hA hcs hl (Nat.le_of_ble_eq_true rfl) (xs (i + 1)) (xs (i + 2)) (xs (i + 3)) hMI hP hD hS (fun r2 tm9 kz9 wm9 H locs hf2 hMI hP hD hS => ?_)
  have hP := hP.perm (pm_sw w9 [(out, .inl (ky 1, 1, .inr (.inl fo)))] wm9)
  have hD := hD.perm (pm_sw w9 [(out, .inl (ky 1, 1, .inr (.inl fo)))] wm9)
  refine lv_pop hx hb dL_law_524 rfl ?_
  subst hf hf2
  refine lv_goto (tgt := 1378) hx hb dL_law_525 (by decide) ?_
  refine W.widen (k := cells + 1) (n := slots + 6) (by omega) (by omega) ?_
  exact kx H locs ls ⟨_, y0, y1, kz9, w9, wm9, fo, hCI, hMI, hP, hD⟩ hS hl
set_option maxHeartbeats 4000000 in
set_option maxRecDepth 100000 in
theorem lc_row {p : Program} {l : Launch} {e : Env} {s : State} {m : MethodId} {args : Array Value} {below : List Frame} {meth : Method} {c : Code} {Q : State → Prop} {dC : Nat → ClassId} {dI : Nat → Nat → Nat} {ky : Nat → ClassId} {A : Nat → Prop} {cells slots : Nat} {H : Heap} {locs : List Loc} {ls : Array Slot} {adK adV : Nat → Nat} {b L : Nat} {xs : Nat → Int32} {t o out : Nat} (hx : p.tables.exec = Jvm.exec) (hb : c.code = cL_law) (hml : c.maxLocals = 7) (hown : s.vm.findClass RL = some m.cls) (hts : ∀ w ∈ lw_tbl, w.before args s = true) (hK : Kk dC dI ky s) (hA : ∀ q, s.heap.size ≤ q → A q) (hE : SEnv adK adV A s s.heap) (hst : l.stackTraces = false) (hTh : ThE s s.heap) (hAn : ∀ a, a < s.heap.size → ¬ A a) (hX : va_X b L xs s s.heap) (hbl : b < s.heap.size) (hbA : ¬ A b) (hL : L ≤ 3072) (hcap : cells + 1 ≤ room_1.cells ∧ slots + 6 ≤ room_1.slots) {i : Nat} (hi : i + 6 ≤ L) (hLI : LI dC dI ky A t o out H) (hS : va_S A s.heap H locs) (hl : lv_has ls 7 [(4, .int (nI i)), (3, .ref out), (2, .ref o), (1, .ref t), (0, .ref b)]) (kx : ∀ (H : Heap) (locs : List Loc) (ls : Array Slot), LI dC dI ky A t o out H → va_S A s.heap H locs → lv_has ls 7 [(4, .int (nI i)), (3, .ref out), (2, .ref o), (1, .ref t), (0, .ref b)] → W p l e room_1 s m args below meth c H locs (cells + 1) (slots + 6) Q (F0 m 1378 ls [])) : W p l e room_1 s m args below meth c H locs cells slots Q (F0 m 528 ls []) := by
  obtain ⟨tl, z0, z1, kz, w, wm, fo, hCI, hMI, hP, hD⟩ := hLI
  have hcs : cells + 0 ≤ room_1.cells ∧ slots + 0 ≤ room_1.slots := ⟨by omega, by omega⟩
  refine lv_aload_n hx hb dL_law_528 rfl (lv_at hl 3 rfl) ?_
  refine lv_aload_n hx hb dL_law_529 rfl (lv_at hl 4 rfl) ?_
  refine lv_iload hx hb dL_law_530 (lv_at hl 0 rfl) ?_
  refine lv_iconst (v := nI 1) hx hb dL_law_532 (by decide) ?_
  refine lv_iadd hx hb dL_law_533 ?_
  refine r_ti (nI (i + 1)) (nI_add _ _) ?_
  refine r_sld hx hb hX hbl hbA hS (i + 1) (by omega) (by omega) (xs (i + 1)) rfl dL_law_534 ?_
  refine lv_aload_n hx hb dL_law_535 rfl (lv_at hl 4 rfl) ?_
  refine lv_iload hx hb dL_law_536 (lv_at hl 0 rfl) ?_
  refine lv_iconst (v := nI 2) hx hb dL_law_538 (by decide) ?_
  refine lv_iadd hx hb dL_law_539 ?_
  refine r_ti (nI (i + 2)) (nI_add _ _) ?_
  refine r_sld hx hb hX hbl hbA hS (i + 2) (by omega) (by omega) (xs (i + 2)) rfl dL_law_540 ?_
  refine ci_row (rest := []) hx hb hml hown hts hK hA hcs hl (Nat.le_of_ble_eq_true rfl) (xs (i + 1)) (xs (i + 2)) hCI hP hD hS (fun r tl9 y0 y1 w9 H locs hf hCI hP hD hS => ?_)
  refine lv_pop hx hb dL_law_544 rfl ?_
  have hP := hP.perm (pm_sw wm [(out, .inl (ky 1, 1, .inr (.inl fo)))] w9)
  have hD := hD.perm (pm_sw wm [(out, .inl (ky 1, 1, .inr (.inl fo)))] w9)
  refine lv_aload_n hx hb dL_law_545 rfl (lv_at hl 2 rfl) ?_
  refine lv_aload_n hx hb dL_law_546 rfl (lv_at hl 4 rfl) ?_
  refine lv_iload hx hb dL_law_547 (lv_at hl 0 rfl) ?_
  refine lv_iconst (v := nI 1) hx hb dL_law_549 (by decide) ?_
  refine lv_iadd hx hb dL_law_550 ?_
  refine r_ti (nI (i + 1)) (nI_add _ _) ?_
  refine r_sld hx hb hX hbl hbA hS (i + 1) (by omega) (by omega) (xs (i + 1)) rfl dL_law_551 ?_
  refine lv_aload_n hx hb dL_law_552 rfl (lv_at hl 4 rfl) ?_
  refine lv_iload hx hb dL_law_553 (lv_at hl 0 rfl) ?_
  refine lv_iconst (v := nI 2) hx hb dL_law_555 (by decide) ?_
  refine lv_iadd hx hb dL_law_556 ?_
  refine r_ti (nI (i + 2)) (nI_add _ _) ?_
  refine r_sld hx hb hX hbl hbA hS (i + 2) (by omega) (by omega) (xs (i + 2)) rfl dL_law_557 ?_
  refine mi_row (rest := []) hx hb hml hown hts hK hA hcs hl (Nat.le_of_ble_eq_true rfl) (xs (i + 1)) (xs (i + 2)) hMI hP hD hS (fun r2 tm9 kz9 wm9 H locs hf2 hMI hP hD hS => ?_)
  have hP := hP.perm (pm_sw w9 [(out, .inl (ky 1, 1, .inr (.inl fo)))] wm9)
  have hD := hD.perm (pm_sw w9 [(out, .inl (ky 1, 1, .inr (.inl fo)))] wm9)
  refine lv_pop hx hb dL_law_561 rfl ?_
  subst hf hf2
  refine lv_goto (tgt := 1378) hx hb dL_law_562 (by decide) ?_
  refine W.widen (k := cells + 1) (n := slots + 6) (by omega) (by omega) ?_
  exact kx H locs ls ⟨_, y0, y1, kz9, w9, wm9, fo, hCI, hMI, hP, hD⟩ hS hl
set_option maxHeartbeats 4000000 in
set_option maxRecDepth 100000 in
theorem lc_flour {p : Program} {l : Launch} {e : Env} {s : State} {m : MethodId} {args : Array Value} {below : List Frame} {meth : Method} {c : Code} {Q : State → Prop} {dC : Nat → ClassId} {dI : Nat → Nat → Nat} {ky : Nat → ClassId} {A : Nat → Prop} {cells slots : Nat} {H : Heap} {locs : List Loc} {ls : Array Slot} {adK adV : Nat → Nat} {b L : Nat} {xs : Nat → Int32} {t o out : Nat} (hx : p.tables.exec = Jvm.exec) (hb : c.code = cL_law) (hml : c.maxLocals = 7) (hown : s.vm.findClass RL = some m.cls) (hts : ∀ w ∈ lw_tbl, w.before args s = true) (hK : Kk dC dI ky s) (hA : ∀ q, s.heap.size ≤ q → A q) (hE : SEnv adK adV A s s.heap) (hst : l.stackTraces = false) (hTh : ThE s s.heap) (hAn : ∀ a, a < s.heap.size → ¬ A a) (hX : va_X b L xs s s.heap) (hbl : b < s.heap.size) (hbA : ¬ A b) (hL : L ≤ 3072) (hcap : cells + 1 ≤ room_1.cells ∧ slots + 6 ≤ room_1.slots) {i : Nat} (hi : i + 6 ≤ L) (hLI : LI dC dI ky A t o out H) (hS : va_S A s.heap H locs) (hl : lv_has ls 7 [(4, .int (nI i)), (3, .ref out), (2, .ref o), (1, .ref t), (0, .ref b)]) (kx : ∀ (H : Heap) (locs : List Loc) (ls : Array Slot), LI dC dI ky A t o out H → va_S A s.heap H locs → lv_has ls 7 [(4, .int (nI i)), (3, .ref out), (2, .ref o), (1, .ref t), (0, .ref b)] → W p l e room_1 s m args below meth c H locs (cells + 1) (slots + 6) Q (F0 m 1378 ls [])) : W p l e room_1 s m args below meth c H locs cells slots Q (F0 m 565 ls []) := by
  obtain ⟨tl, z0, z1, kz, w, wm, fo, hCI, hMI, hP, hD⟩ := hLI
  have hcs : cells + 0 ≤ room_1.cells ∧ slots + 0 ≤ room_1.slots := ⟨by omega, by omega⟩
  refine lv_aload_n hx hb dL_law_565 rfl (lv_at hl 3 rfl) ?_
  refine lv_aload_n hx hb dL_law_566 rfl (lv_at hl 4 rfl) ?_
  refine lv_iload hx hb dL_law_567 (lv_at hl 0 rfl) ?_
  refine lv_iconst (v := nI 1) hx hb dL_law_569 (by decide) ?_
  refine lv_iadd hx hb dL_law_570 ?_
  refine r_ti (nI (i + 1)) (nI_add _ _) ?_
  refine r_sld hx hb hX hbl hbA hS (i + 1) (by omega) (by omega) (xs (i + 1)) rfl dL_law_571 ?_
  refine lv_aload_n hx hb dL_law_572 rfl (lv_at hl 4 rfl) ?_
  refine lv_iload hx hb dL_law_573 (lv_at hl 0 rfl) ?_
  refine lv_iconst (v := nI 2) hx hb dL_law_575 (by decide) ?_
  refine lv_iadd hx hb dL_law_576 ?_
  refine r_ti (nI (i + 2)) (nI_add _ _) ?_
  refine r_sld hx hb hX hbl hbA hS (i + 2) (by omega) (by omega) (xs (i + 2)) rfl dL_law_577 ?_
  refine lv_aload_n hx hb dL_law_578 rfl (lv_at hl 4 rfl) ?_
  refine lv_iload hx hb dL_law_579 (lv_at hl 0 rfl) ?_
  refine lv_iconst (v := nI 3) hx hb dL_law_581 (by decide) ?_
  refine lv_iadd hx hb dL_law_582 ?_
  refine r_ti (nI (i + 3)) (nI_add _ _) ?_
  refine r_sld hx hb hX hbl hbA hS (i + 3) (by omega) (by omega) (xs (i + 3)) rfl dL_law_583 ?_
  refine ci_flour (rest := []) hx hb hml hown hts hK hA hcs hl (Nat.le_of_ble_eq_true rfl) (xs (i + 1)) (xs (i + 2)) (xs (i + 3)) hCI hP hD hS (fun r tl9 y0 y1 w9 H locs hf hCI hP hD hS => ?_)
  refine lv_pop hx hb dL_law_587 rfl ?_
  have hP := hP.perm (pm_sw wm [(out, .inl (ky 1, 1, .inr (.inl fo)))] w9)
  have hD := hD.perm (pm_sw wm [(out, .inl (ky 1, 1, .inr (.inl fo)))] w9)
  refine lv_aload_n hx hb dL_law_588 rfl (lv_at hl 2 rfl) ?_
  refine lv_aload_n hx hb dL_law_589 rfl (lv_at hl 4 rfl) ?_
  refine lv_iload hx hb dL_law_590 (lv_at hl 0 rfl) ?_
  refine lv_iconst (v := nI 1) hx hb dL_law_592 (by decide) ?_
  refine lv_iadd hx hb dL_law_593 ?_
  refine r_ti (nI (i + 1)) (nI_add _ _) ?_
  refine r_sld hx hb hX hbl hbA hS (i + 1) (by omega) (by omega) (xs (i + 1)) rfl dL_law_594 ?_
  refine lv_aload_n hx hb dL_law_595 rfl (lv_at hl 4 rfl) ?_
  refine lv_iload hx hb dL_law_596 (lv_at hl 0 rfl) ?_
  refine lv_iconst (v := nI 2) hx hb dL_law_598 (by decide) ?_
  refine lv_iadd hx hb dL_law_599 ?_
  refine r_ti (nI (i + 2)) (nI_add _ _) ?_
  refine r_sld hx hb hX hbl hbA hS (i + 2) (by omega) (by omega) (xs (i + 2)) rfl dL_law_600 ?_
  refine lv_aload_n hx hb dL_law_601 rfl (lv_at hl 4 rfl) ?_
  refine lv_iload hx hb dL_law_602 (lv_at hl 0 rfl) ?_
  refine lv_iconst (v := nI 3) hx hb dL_law_604 (by decide) ?_
  refine lv_iadd hx hb dL_law_605 ?_
  refine r_ti (nI (i + 3)) (nI_add _ _) ?_
  refine r_sld hx hb hX hbl hbA hS (i + 3) (by omega) (by omega) (xs (i + 3)) rfl dL_law_606 ?_
  refine mi_flour (rest := []) hx hb hml hown hts hK hA hcs hl (Nat.le_of_ble_eq_true rfl) (xs (i + 1)) (xs (i + 2)) (xs (i + 3)) hMI hP hD hS (fun r2 tm9 kz9 wm9 H locs hf2 hMI hP hD hS => ?_)
  have hP := hP.perm (pm_sw w9 [(out, .inl (ky 1, 1, .inr (.inl fo)))] wm9)
  have hD := hD.perm (pm_sw w9 [(out, .inl (ky 1, 1, .inr (.inl fo)))] wm9)
  refine lv_pop hx hb dL_law_610 rfl ?_
  subst hf hf2
  refine lv_goto (tgt := 1378) hx hb dL_law_611 (by decide) ?_
  refine W.widen (k := cells + 1) (n := slots + 6) (by omega) (by omega) ?_
  exact kx H locs ls ⟨_, y0, y1, kz9, w9, wm9, fo, hCI, hMI, hP, hD⟩ hS hl
set_option maxHeartbeats 4000000 in
set_option maxRecDepth 100000 in
theorem lc_milk {p : Program} {l : Launch} {e : Env} {s : State} {m : MethodId} {args : Array Value} {below : List Frame} {meth : Method} {c : Code} {Q : State → Prop} {dC : Nat → ClassId} {dI : Nat → Nat → Nat} {ky : Nat → ClassId} {A : Nat → Prop} {cells slots : Nat} {H : Heap} {locs : List Loc} {ls : Array Slot} {adK adV : Nat → Nat} {b L : Nat} {xs : Nat → Int32} {t o out : Nat} (hx : p.tables.exec = Jvm.exec) (hb : c.code = cL_law) (hml : c.maxLocals = 7) (hown : s.vm.findClass RL = some m.cls) (hts : ∀ w ∈ lw_tbl, w.before args s = true) (hK : Kk dC dI ky s) (hA : ∀ q, s.heap.size ≤ q → A q) (hE : SEnv adK adV A s s.heap) (hst : l.stackTraces = false) (hTh : ThE s s.heap) (hAn : ∀ a, a < s.heap.size → ¬ A a) (hX : va_X b L xs s s.heap) (hbl : b < s.heap.size) (hbA : ¬ A b) (hL : L ≤ 3072) (hcap : cells + 1 ≤ room_1.cells ∧ slots + 6 ≤ room_1.slots) {i : Nat} (hi : i + 6 ≤ L) (hLI : LI dC dI ky A t o out H) (hS : va_S A s.heap H locs) (hl : lv_has ls 7 [(4, .int (nI i)), (3, .ref out), (2, .ref o), (1, .ref t), (0, .ref b)]) (kx : ∀ (H : Heap) (locs : List Loc) (ls : Array Slot), LI dC dI ky A t o out H → va_S A s.heap H locs → lv_has ls 7 [(4, .int (nI i)), (3, .ref out), (2, .ref o), (1, .ref t), (0, .ref b)] → W p l e room_1 s m args below meth c H locs (cells + 1) (slots + 6) Q (F0 m 1378 ls [])) : W p l e room_1 s m args below meth c H locs cells slots Q (F0 m 614 ls []) := by
  obtain ⟨tl, z0, z1, kz, w, wm, fo, hCI, hMI, hP, hD⟩ := hLI
  have hcs : cells + 0 ≤ room_1.cells ∧ slots + 0 ≤ room_1.slots := ⟨by omega, by omega⟩
  refine lv_aload_n hx hb dL_law_614 rfl (lv_at hl 3 rfl) ?_
  refine lv_aload_n hx hb dL_law_615 rfl (lv_at hl 4 rfl) ?_
  refine lv_iload hx hb dL_law_616 (lv_at hl 0 rfl) ?_
  refine lv_iconst (v := nI 1) hx hb dL_law_618 (by decide) ?_
  refine lv_iadd hx hb dL_law_619 ?_
  refine r_ti (nI (i + 1)) (nI_add _ _) ?_
  refine r_sld hx hb hX hbl hbA hS (i + 1) (by omega) (by omega) (xs (i + 1)) rfl dL_law_620 ?_
  refine lv_aload_n hx hb dL_law_621 rfl (lv_at hl 4 rfl) ?_
  refine lv_iload hx hb dL_law_622 (lv_at hl 0 rfl) ?_
  refine lv_iconst (v := nI 2) hx hb dL_law_624 (by decide) ?_
  refine lv_iadd hx hb dL_law_625 ?_
  refine r_ti (nI (i + 2)) (nI_add _ _) ?_
  refine r_sld hx hb hX hbl hbA hS (i + 2) (by omega) (by omega) (xs (i + 2)) rfl dL_law_626 ?_
  refine lv_aload_n hx hb dL_law_627 rfl (lv_at hl 4 rfl) ?_
  refine lv_iload hx hb dL_law_628 (lv_at hl 0 rfl) ?_
  refine lv_iconst (v := nI 3) hx hb dL_law_630 (by decide) ?_
  refine lv_iadd hx hb dL_law_631 ?_
  refine r_ti (nI (i + 3)) (nI_add _ _) ?_
  refine r_sld hx hb hX hbl hbA hS (i + 3) (by omega) (by omega) (xs (i + 3)) rfl dL_law_632 ?_
  refine ci_milk (rest := []) hx hb hml hown hts hK hA hcs hl (Nat.le_of_ble_eq_true rfl) (xs (i + 1)) (xs (i + 2)) (xs (i + 3)) hCI hP hD hS (fun r tl9 y0 y1 w9 H locs hf hCI hP hD hS => ?_)
  refine lv_pop hx hb dL_law_636 rfl ?_
  have hP := hP.perm (pm_sw wm [(out, .inl (ky 1, 1, .inr (.inl fo)))] w9)
  have hD := hD.perm (pm_sw wm [(out, .inl (ky 1, 1, .inr (.inl fo)))] w9)
  refine lv_aload_n hx hb dL_law_637 rfl (lv_at hl 2 rfl) ?_
  refine lv_aload_n hx hb dL_law_638 rfl (lv_at hl 4 rfl) ?_
  refine lv_iload hx hb dL_law_639 (lv_at hl 0 rfl) ?_
  refine lv_iconst (v := nI 1) hx hb dL_law_641 (by decide) ?_
  refine lv_iadd hx hb dL_law_642 ?_
  refine r_ti (nI (i + 1)) (nI_add _ _) ?_
  refine r_sld hx hb hX hbl hbA hS (i + 1) (by omega) (by omega) (xs (i + 1)) rfl dL_law_643 ?_
  refine lv_aload_n hx hb dL_law_644 rfl (lv_at hl 4 rfl) ?_
  refine lv_iload hx hb dL_law_645 (lv_at hl 0 rfl) ?_
  refine lv_iconst (v := nI 2) hx hb dL_law_647 (by decide) ?_
  refine lv_iadd hx hb dL_law_648 ?_
  refine r_ti (nI (i + 2)) (nI_add _ _) ?_
  refine r_sld hx hb hX hbl hbA hS (i + 2) (by omega) (by omega) (xs (i + 2)) rfl dL_law_649 ?_
  refine lv_aload_n hx hb dL_law_650 rfl (lv_at hl 4 rfl) ?_
  refine lv_iload hx hb dL_law_651 (lv_at hl 0 rfl) ?_
  refine lv_iconst (v := nI 3) hx hb dL_law_653 (by decide) ?_
  refine lv_iadd hx hb dL_law_654 ?_
  refine r_ti (nI (i + 3)) (nI_add _ _) ?_
  refine r_sld hx hb hX hbl hbA hS (i + 3) (by omega) (by omega) (xs (i + 3)) rfl dL_law_655 ?_
  refine mi_milk (rest := []) hx hb hml hown hts hK hA hcs hl (Nat.le_of_ble_eq_true rfl) (xs (i + 1)) (xs (i + 2)) (xs (i + 3)) hMI hP hD hS (fun r2 tm9 kz9 wm9 H locs hf2 hMI hP hD hS => ?_)
  have hP := hP.perm (pm_sw w9 [(out, .inl (ky 1, 1, .inr (.inl fo)))] wm9)
  have hD := hD.perm (pm_sw w9 [(out, .inl (ky 1, 1, .inr (.inl fo)))] wm9)
  refine lv_pop hx hb dL_law_659 rfl ?_
  subst hf hf2
  refine lv_goto (tgt := 1378) hx hb dL_law_660 (by decide) ?_
  refine W.widen (k := cells + 1) (n := slots + 6) (by omega) (by omega) ?_
  exact kx H locs ls ⟨_, y0, y1, kz9, w9, wm9, fo, hCI, hMI, hP, hD⟩ hS hl
set_option maxHeartbeats 4000000 in
set_option maxRecDepth 100000 in
theorem lc_stove {p : Program} {l : Launch} {e : Env} {s : State} {m : MethodId} {args : Array Value} {below : List Frame} {meth : Method} {c : Code} {Q : State → Prop} {dC : Nat → ClassId} {dI : Nat → Nat → Nat} {ky : Nat → ClassId} {A : Nat → Prop} {cells slots : Nat} {H : Heap} {locs : List Loc} {ls : Array Slot} {adK adV : Nat → Nat} {b L : Nat} {xs : Nat → Int32} {t o out : Nat} (hx : p.tables.exec = Jvm.exec) (hb : c.code = cL_law) (hml : c.maxLocals = 7) (hown : s.vm.findClass RL = some m.cls) (hts : ∀ w ∈ lw_tbl, w.before args s = true) (hK : Kk dC dI ky s) (hA : ∀ q, s.heap.size ≤ q → A q) (hE : SEnv adK adV A s s.heap) (hst : l.stackTraces = false) (hTh : ThE s s.heap) (hAn : ∀ a, a < s.heap.size → ¬ A a) (hX : va_X b L xs s s.heap) (hbl : b < s.heap.size) (hbA : ¬ A b) (hL : L ≤ 3072) (hcap : cells + 1 ≤ room_1.cells ∧ slots + 6 ≤ room_1.slots) {i : Nat} (hi : i + 6 ≤ L) (hLI : LI dC dI ky A t o out H) (hS : va_S A s.heap H locs) (hl : lv_has ls 7 [(4, .int (nI i)), (3, .ref out), (2, .ref o), (1, .ref t), (0, .ref b)]) (kx : ∀ (H : Heap) (locs : List Loc) (ls : Array Slot), LI dC dI ky A t o out H → va_S A s.heap H locs → lv_has ls 7 [(4, .int (nI i)), (3, .ref out), (2, .ref o), (1, .ref t), (0, .ref b)] → W p l e room_1 s m args below meth c H locs (cells + 1) (slots + 6) Q (F0 m 1378 ls [])) : W p l e room_1 s m args below meth c H locs cells slots Q (F0 m 663 ls []) := by
  obtain ⟨tl, z0, z1, kz, w, wm, fo, hCI, hMI, hP, hD⟩ := hLI
  have hcs : cells + 0 ≤ room_1.cells ∧ slots + 0 ≤ room_1.slots := ⟨by omega, by omega⟩
  refine lv_aload_n hx hb dL_law_663 rfl (lv_at hl 3 rfl) ?_
  refine lv_aload_n hx hb dL_law_664 rfl (lv_at hl 4 rfl) ?_
  refine lv_iload hx hb dL_law_665 (lv_at hl 0 rfl) ?_
  refine lv_iconst (v := nI 1) hx hb dL_law_667 (by decide) ?_
  refine lv_iadd hx hb dL_law_668 ?_
  refine r_ti (nI (i + 1)) (nI_add _ _) ?_
  refine r_sld hx hb hX hbl hbA hS (i + 1) (by omega) (by omega) (xs (i + 1)) rfl dL_law_669 ?_
  refine ci_stove (rest := []) hx hb hml hown hts hK hA hcs hl (Nat.le_of_ble_eq_true rfl) (xs (i + 1)) hCI hP hD hS (fun r tl9 y0 y1 w9 H locs hf hCI hP hD hS => ?_)
  refine lv_pop hx hb dL_law_673 rfl ?_
  have hP := hP.perm (pm_sw wm [(out, .inl (ky 1, 1, .inr (.inl fo)))] w9)
  have hD := hD.perm (pm_sw wm [(out, .inl (ky 1, 1, .inr (.inl fo)))] w9)
  refine lv_aload_n hx hb dL_law_674 rfl (lv_at hl 2 rfl) ?_
  refine lv_aload_n hx hb dL_law_675 rfl (lv_at hl 4 rfl) ?_
  refine lv_iload hx hb dL_law_676 (lv_at hl 0 rfl) ?_
  refine lv_iconst (v := nI 1) hx hb dL_law_678 (by decide) ?_
  refine lv_iadd hx hb dL_law_679 ?_
  refine r_ti (nI (i + 1)) (nI_add _ _) ?_
  refine r_sld hx hb hX hbl hbA hS (i + 1) (by omega) (by omega) (xs (i + 1)) rfl dL_law_680 ?_
  refine mi_stove (rest := []) hx hb hml hown hts hK hA hcs hl (Nat.le_of_ble_eq_true rfl) (xs (i + 1)) hMI hP hD hS (fun r2 tm9 kz9 wm9 H locs hf2 hMI hP hD hS => ?_)
  have hP := hP.perm (pm_sw w9 [(out, .inl (ky 1, 1, .inr (.inl fo)))] wm9)
  have hD := hD.perm (pm_sw w9 [(out, .inl (ky 1, 1, .inr (.inl fo)))] wm9)
  refine lv_pop hx hb dL_law_684 rfl ?_
  subst hf hf2
  refine lv_goto (tgt := 1378) hx hb dL_law_685 (by decide) ?_
  refine W.widen (k := cells + 1) (n := slots + 6) (by omega) (by omega) ?_
  exact kx H locs ls ⟨_, y0, y1, kz9, w9, wm9, fo, hCI, hMI, hP, hD⟩ hS hl
set_option maxHeartbeats 4000000 in
set_option maxRecDepth 100000 in
theorem lc_days {p : Program} {l : Launch} {e : Env} {s : State} {m : MethodId} {args : Array Value} {below : List Frame} {meth : Method} {c : Code} {Q : State → Prop} {dC : Nat → ClassId} {dI : Nat → Nat → Nat} {ky : Nat → ClassId} {A : Nat → Prop} {cells slots : Nat} {H : Heap} {locs : List Loc} {ls : Array Slot} {adK adV : Nat → Nat} {b L : Nat} {xs : Nat → Int32} {t o out : Nat} (hx : p.tables.exec = Jvm.exec) (hb : c.code = cL_law) (hml : c.maxLocals = 7) (hown : s.vm.findClass RL = some m.cls) (hts : ∀ w ∈ lw_tbl, w.before args s = true) (hK : Kk dC dI ky s) (hA : ∀ q, s.heap.size ≤ q → A q) (hE : SEnv adK adV A s s.heap) (hst : l.stackTraces = false) (hTh : ThE s s.heap) (hAn : ∀ a, a < s.heap.size → ¬ A a) (hX : va_X b L xs s s.heap) (hbl : b < s.heap.size) (hbA : ¬ A b) (hL : L ≤ 3072) (hcap : cells + 1 ≤ room_1.cells ∧ slots + 6 ≤ room_1.slots) {i : Nat} (hi : i + 6 ≤ L) (hLI : LI dC dI ky A t o out H) (hS : va_S A s.heap H locs) (hl : lv_has ls 7 [(4, .int (nI i)), (3, .ref out), (2, .ref o), (1, .ref t), (0, .ref b)]) (kx : ∀ (H : Heap) (locs : List Loc) (ls : Array Slot), LI dC dI ky A t o out H → va_S A s.heap H locs → lv_has ls 7 [(4, .int (nI i)), (3, .ref out), (2, .ref o), (1, .ref t), (0, .ref b)] → W p l e room_1 s m args below meth c H locs (cells + 1) (slots + 6) Q (F0 m 1378 ls [])) : W p l e room_1 s m args below meth c H locs cells slots Q (F0 m 688 ls []) := by
  obtain ⟨tl, z0, z1, kz, w, wm, fo, hCI, hMI, hP, hD⟩ := hLI
  have hcs : cells + 0 ≤ room_1.cells ∧ slots + 0 ≤ room_1.slots := ⟨by omega, by omega⟩
  refine lv_aload_n hx hb dL_law_688 rfl (lv_at hl 3 rfl) ?_
  refine lv_aload_n hx hb dL_law_689 rfl (lv_at hl 4 rfl) ?_
  refine lv_iload hx hb dL_law_690 (lv_at hl 0 rfl) ?_
  refine lv_iconst (v := nI 1) hx hb dL_law_692 (by decide) ?_
  refine lv_iadd hx hb dL_law_693 ?_
  refine r_ti (nI (i + 1)) (nI_add _ _) ?_
  refine r_sld hx hb hX hbl hbA hS (i + 1) (by omega) (by omega) (xs (i + 1)) rfl dL_law_694 ?_
  refine ci_days (rest := []) hx hb hml hown hts hK hA hcs hl (Nat.le_of_ble_eq_true rfl) (xs (i + 1)) hCI hP hD hS (fun r tl9 y0 y1 w9 H locs hf hCI hP hD hS => ?_)
  refine lv_pop hx hb dL_law_698 rfl ?_
  have hP := hP.perm (pm_sw wm [(out, .inl (ky 1, 1, .inr (.inl fo)))] w9)
  have hD := hD.perm (pm_sw wm [(out, .inl (ky 1, 1, .inr (.inl fo)))] w9)
  refine lv_aload_n hx hb dL_law_699 rfl (lv_at hl 2 rfl) ?_
  refine lv_aload_n hx hb dL_law_700 rfl (lv_at hl 4 rfl) ?_
  refine lv_iload hx hb dL_law_701 (lv_at hl 0 rfl) ?_
  refine lv_iconst (v := nI 1) hx hb dL_law_703 (by decide) ?_
  refine lv_iadd hx hb dL_law_704 ?_
  refine r_ti (nI (i + 1)) (nI_add _ _) ?_
  refine r_sld hx hb hX hbl hbA hS (i + 1) (by omega) (by omega) (xs (i + 1)) rfl dL_law_705 ?_
  refine mi_days (rest := []) hx hb hml hown hts hK hA hcs hl (Nat.le_of_ble_eq_true rfl) (xs (i + 1)) hMI hP hD hS (fun r2 tm9 kz9 wm9 H locs hf2 hMI hP hD hS => ?_)
  have hP := hP.perm (pm_sw w9 [(out, .inl (ky 1, 1, .inr (.inl fo)))] wm9)
  have hD := hD.perm (pm_sw w9 [(out, .inl (ky 1, 1, .inr (.inl fo)))] wm9)
  refine lv_pop hx hb dL_law_709 rfl ?_
  subst hf hf2
  refine lv_goto (tgt := 1378) hx hb dL_law_710 (by decide) ?_
  refine W.widen (k := cells + 1) (n := slots + 6) (by omega) (by omega) ?_
  exact kx H locs ls ⟨_, y0, y1, kz9, w9, wm9, fo, hCI, hMI, hP, hD⟩ hS hl
