theorem dX4_init_328 : decode cX4_init 328 = .ok (.iastore, 1) := by decide +kernel
theorem dX4_init_329 : decode cX4_init 329 = .ok (.dup, 1) := by decide +kernel
theorem dX4_init_330 : decode cX4_init 330 = .ok (.iconst 3, 1) := by decide +kernel
theorem dX4_init_331 : decode cX4_init 331 = .ok (.sipush 180, 3) := by decide +kernel
theorem dX4_init_334 : decode cX4_init 334 = .ok (.iastore, 1) := by decide +kernel
theorem dX4_init_335 : decode cX4_init 335 = .ok (.dup, 1) := by decide +kernel
theorem dX4_init_336 : decode cX4_init 336 = .ok (.iconst 4, 1) := by decide +kernel
theorem dX4_init_337 : decode cX4_init 337 = .ok (.sipush 180, 3) := by decide +kernel
theorem dX4_init_340 : decode cX4_init 340 = .ok (.iastore, 1) := by decide +kernel
theorem dX4_init_341 : decode cX4_init 341 = .ok (.dup, 1) := by decide +kernel
theorem dX4_init_342 : decode cX4_init 342 = .ok (.iconst 5, 1) := by decide +kernel
theorem dX4_init_343 : decode cX4_init 343 = .ok (.sipush 180, 3) := by decide +kernel
theorem dX4_init_346 : decode cX4_init 346 = .ok (.iastore, 1) := by decide +kernel
theorem dX4_init_347 : decode cX4_init 347 = .ok (.dup, 1) := by decide +kernel
theorem dX4_init_348 : decode cX4_init 348 = .ok (.bipush 6, 2) := by decide +kernel
theorem dX4_init_350 : decode cX4_init 350 = .ok (.sipush 180, 3) := by decide +kernel
theorem dX4_init_353 : decode cX4_init 353 = .ok (.iastore, 1) := by decide +kernel
theorem dX4_init_354 : decode cX4_init 354 = .ok (.dup, 1) := by decide +kernel
theorem dX4_init_355 : decode cX4_init 355 = .ok (.bipush 7, 2) := by decide +kernel
theorem dX4_init_357 : decode cX4_init 357 = .ok (.sipush 180, 3) := by decide +kernel
theorem dX4_init_360 : decode cX4_init 360 = .ok (.iastore, 1) := by decide +kernel
theorem dX4_init_361 : decode cX4_init 361 = .ok (.dup, 1) := by decide +kernel
theorem dX4_init_362 : decode cX4_init 362 = .ok (.bipush 8, 2) := by decide +kernel
theorem dX4_init_364 : decode cX4_init 364 = .ok (.sipush 180, 3) := by decide +kernel
theorem dX4_init_367 : decode cX4_init 367 = .ok (.iastore, 1) := by decide +kernel
theorem dX4_init_368 : decode cX4_init 368 = .ok (.dup, 1) := by decide +kernel
theorem dX4_init_369 : decode cX4_init 369 = .ok (.bipush 9, 2) := by decide +kernel
theorem dX4_init_371 : decode cX4_init 371 = .ok (.sipush 180, 3) := by decide +kernel
theorem dX4_init_374 : decode cX4_init 374 = .ok (.iastore, 1) := by decide +kernel
theorem dX4_init_375 : decode cX4_init 375 = .ok (.dup, 1) := by decide +kernel
theorem dX4_init_376 : decode cX4_init 376 = .ok (.bipush 10, 2) := by decide +kernel
theorem dX4_init_378 : decode cX4_init 378 = .ok (.sipush 180, 3) := by decide +kernel
theorem dX4_init_381 : decode cX4_init 381 = .ok (.iastore, 1) := by decide +kernel
theorem dX4_init_382 : decode cX4_init 382 = .ok (.dup, 1) := by decide +kernel
theorem dX4_init_383 : decode cX4_init 383 = .ok (.bipush 11, 2) := by decide +kernel
theorem dX4_init_385 : decode cX4_init 385 = .ok (.sipush 180, 3) := by decide +kernel
theorem dX4_init_388 : decode cX4_init 388 = .ok (.iastore, 1) := by decide +kernel
theorem dX4_init_389 : decode cX4_init 389 = .ok (.dup, 1) := by decide +kernel
theorem dX4_init_390 : decode cX4_init 390 = .ok (.bipush 12, 2) := by decide +kernel
theorem dX4_init_392 : decode cX4_init 392 = .ok (.sipush 180, 3) := by decide +kernel
theorem dX4_init_395 : decode cX4_init 395 = .ok (.iastore, 1) := by decide +kernel
theorem dX4_init_396 : decode cX4_init 396 = .ok (.dup, 1) := by decide +kernel
theorem dX4_init_397 : decode cX4_init 397 = .ok (.bipush 13, 2) := by decide +kernel
theorem dX4_init_399 : decode cX4_init 399 = .ok (.sipush 180, 3) := by decide +kernel
theorem dX4_init_402 : decode cX4_init 402 = .ok (.iastore, 1) := by decide +kernel
theorem dX4_init_403 : decode cX4_init 403 = .ok (.dup, 1) := by decide +kernel
theorem dX4_init_404 : decode cX4_init 404 = .ok (.bipush 14, 2) := by decide +kernel
theorem dX4_init_406 : decode cX4_init 406 = .ok (.sipush 180, 3) := by decide +kernel
theorem dX4_init_409 : decode cX4_init 409 = .ok (.iastore, 1) := by decide +kernel
theorem dX4_init_410 : decode cX4_init 410 = .ok (.dup, 1) := by decide +kernel
theorem dX4_init_411 : decode cX4_init 411 = .ok (.bipush 15, 2) := by decide +kernel
theorem dX4_init_413 : decode cX4_init 413 = .ok (.sipush 180, 3) := by decide +kernel
theorem dX4_init_416 : decode cX4_init 416 = .ok (.iastore, 1) := by decide +kernel
theorem dX4_init_417 : decode cX4_init 417 = .ok (.dup, 1) := by decide +kernel
theorem dX4_init_418 : decode cX4_init 418 = .ok (.bipush 16, 2) := by decide +kernel
theorem dX4_init_420 : decode cX4_init 420 = .ok (.sipush 180, 3) := by decide +kernel
theorem dX4_init_423 : decode cX4_init 423 = .ok (.iastore, 1) := by decide +kernel
theorem dX4_init_424 : decode cX4_init 424 = .ok (.dup, 1) := by decide +kernel
theorem dX4_init_425 : decode cX4_init 425 = .ok (.bipush 17, 2) := by decide +kernel
theorem dX4_init_427 : decode cX4_init 427 = .ok (.sipush 180, 3) := by decide +kernel
theorem dX4_init_430 : decode cX4_init 430 = .ok (.iastore, 1) := by decide +kernel
theorem dX4_init_431 : decode cX4_init 431 = .ok (.dup, 1) := by decide +kernel
theorem dX4_init_432 : decode cX4_init 432 = .ok (.bipush 18, 2) := by decide +kernel
theorem dX4_init_434 : decode cX4_init 434 = .ok (.sipush 180, 3) := by decide +kernel
theorem dX4_init_437 : decode cX4_init 437 = .ok (.iastore, 1) := by decide +kernel
theorem dX4_init_438 : decode cX4_init 438 = .ok (.dup, 1) := by decide +kernel
theorem dX4_init_439 : decode cX4_init 439 = .ok (.bipush 19, 2) := by decide +kernel
theorem dX4_init_441 : decode cX4_init 441 = .ok (.sipush 180, 3) := by decide +kernel
theorem dX4_init_444 : decode cX4_init 444 = .ok (.iastore, 1) := by decide +kernel
theorem dX4_init_445 : decode cX4_init 445 = .ok (.dup, 1) := by decide +kernel
theorem dX4_init_446 : decode cX4_init 446 = .ok (.bipush 20, 2) := by decide +kernel
theorem dX4_init_448 : decode cX4_init 448 = .ok (.sipush 180, 3) := by decide +kernel
theorem dX4_init_451 : decode cX4_init 451 = .ok (.iastore, 1) := by decide +kernel
theorem dX4_init_452 : decode cX4_init 452 = .ok (.dup, 1) := by decide +kernel
theorem dX4_init_453 : decode cX4_init 453 = .ok (.bipush 21, 2) := by decide +kernel
theorem dX4_init_455 : decode cX4_init 455 = .ok (.sipush 180, 3) := by decide +kernel
theorem dX4_init_458 : decode cX4_init 458 = .ok (.iastore, 1) := by decide +kernel
theorem dX4_init_459 : decode cX4_init 459 = .ok (.dup, 1) := by decide +kernel
theorem dX4_init_460 : decode cX4_init 460 = .ok (.bipush 22, 2) := by decide +kernel
theorem dX4_init_462 : decode cX4_init 462 = .ok (.sipush 180, 3) := by decide +kernel
theorem dX4_init_465 : decode cX4_init 465 = .ok (.iastore, 1) := by decide +kernel
theorem dX4_init_466 : decode cX4_init 466 = .ok (.dup, 1) := by decide +kernel
theorem dX4_init_467 : decode cX4_init 467 = .ok (.bipush 23, 2) := by decide +kernel
theorem dX4_init_469 : decode cX4_init 469 = .ok (.sipush 180, 3) := by decide +kernel
theorem dX4_init_472 : decode cX4_init 472 = .ok (.iastore, 1) := by decide +kernel
theorem dX4_init_473 : decode cX4_init 473 = .ok (.dup, 1) := by decide +kernel
theorem dX4_init_474 : decode cX4_init 474 = .ok (.bipush 24, 2) := by decide +kernel
theorem dX4_init_476 : decode cX4_init 476 = .ok (.sipush 180, 3) := by decide +kernel
theorem dX4_init_479 : decode cX4_init 479 = .ok (.iastore, 1) := by decide +kernel
theorem dX4_init_480 : decode cX4_init 480 = .ok (.dup, 1) := by decide +kernel
theorem dX4_init_481 : decode cX4_init 481 = .ok (.bipush 25, 2) := by decide +kernel
theorem dX4_init_483 : decode cX4_init 483 = .ok (.sipush 180, 3) := by decide +kernel
theorem dX4_init_486 : decode cX4_init 486 = .ok (.iastore, 1) := by decide +kernel
theorem dX4_init_487 : decode cX4_init 487 = .ok (.dup, 1) := by decide +kernel
theorem dX4_init_488 : decode cX4_init 488 = .ok (.bipush 26, 2) := by decide +kernel
theorem dX4_init_490 : decode cX4_init 490 = .ok (.sipush 180, 3) := by decide +kernel
theorem dX4_init_493 : decode cX4_init 493 = .ok (.iastore, 1) := by decide +kernel
theorem dX4_init_494 : decode cX4_init 494 = .ok (.dup, 1) := by decide +kernel
theorem dX4_init_495 : decode cX4_init 495 = .ok (.bipush 27, 2) := by decide +kernel
theorem dX4_init_497 : decode cX4_init 497 = .ok (.sipush 180, 3) := by decide +kernel
theorem dX4_init_500 : decode cX4_init 500 = .ok (.iastore, 1) := by decide +kernel
theorem dX4_init_501 : decode cX4_init 501 = .ok (.dup, 1) := by decide +kernel
theorem dX4_init_502 : decode cX4_init 502 = .ok (.bipush 28, 2) := by decide +kernel
theorem dX4_init_504 : decode cX4_init 504 = .ok (.sipush 180, 3) := by decide +kernel
theorem dX4_init_507 : decode cX4_init 507 = .ok (.iastore, 1) := by decide +kernel
theorem dX4_init_508 : decode cX4_init 508 = .ok (.dup, 1) := by decide +kernel
theorem dX4_init_509 : decode cX4_init 509 = .ok (.bipush 29, 2) := by decide +kernel
theorem dX4_init_511 : decode cX4_init 511 = .ok (.sipush 180, 3) := by decide +kernel
theorem dX4_init_514 : decode cX4_init 514 = .ok (.iastore, 1) := by decide +kernel
theorem dX4_init_515 : decode cX4_init 515 = .ok (.dup, 1) := by decide +kernel
