theorem dL_act_389 : decode cL_act 389 = .ok (.bipush 9, 2) := by decide +kernel
theorem dL_act_391 : decode cL_act 391 = .ok (.ishr, 1) := by decide +kernel
theorem dL_act_392 : decode cL_act 392 = .ok (.bipush 40, 2) := by decide +kernel
theorem dL_act_394 : decode cL_act 394 = .ok (.invokestatic 89, 3) := by decide +kernel
theorem dL_act_397 : decode cL_act 397 = .ok (.iadd, 1) := by decide +kernel
theorem dL_act_398 : decode cL_act 398 = .ok (.invokestatic 97, 3) := by decide +kernel
theorem dL_act_401 : decode cL_act 401 = .ok (.ireturn, 1) := by decide +kernel
theorem dL_act_402 : decode cL_act 402 = .ok (.aload_n 0, 1) := by decide +kernel
theorem dL_act_403 : decode cL_act 403 = .ok (.iload_n 2, 1) := by decide +kernel
theorem dL_act_404 : decode cL_act 404 = .ok (.ifCond .eq 7, 3) := by decide +kernel
theorem dL_act_407 : decode cL_act 407 = .ok (.iload_n 3, 1) := by decide +kernel
theorem dL_act_408 : decode cL_act 408 = .ok (.goto 15, 3) := by decide +kernel
theorem dL_act_411 : decode cL_act 411 = .ok (.iconst 1, 1) := by decide +kernel
theorem dL_act_412 : decode cL_act 412 = .ok (.iload_n 1, 1) := by decide +kernel
theorem dL_act_413 : decode cL_act 413 = .ok (.bipush 9, 2) := by decide +kernel
theorem dL_act_415 : decode cL_act 415 = .ok (.ishr, 1) := by decide +kernel
theorem dL_act_416 : decode cL_act 416 = .ok (.sipush 200, 3) := by decide +kernel
theorem dL_act_419 : decode cL_act 419 = .ok (.invokestatic 89, 3) := by decide +kernel
theorem dL_act_422 : decode cL_act 422 = .ok (.iadd, 1) := by decide +kernel
theorem dL_act_423 : decode cL_act 423 = .ok (.invokestatic 100, 3) := by decide +kernel
theorem dL_act_426 : decode cL_act 426 = .ok (.ireturn, 1) := by decide +kernel
theorem dL_act_427 : decode cL_act 427 = .ok (.aload_n 0, 1) := by decide +kernel
theorem dL_act_428 : decode cL_act 428 = .ok (.iload_n 2, 1) := by decide +kernel
theorem dL_act_429 : decode cL_act 429 = .ok (.ifCond .eq 7, 3) := by decide +kernel
theorem dL_act_432 : decode cL_act 432 = .ok (.iload_n 3, 1) := by decide +kernel
theorem dL_act_433 : decode cL_act 433 = .ok (.goto 14, 3) := by decide +kernel
theorem dL_act_436 : decode cL_act 436 = .ok (.iconst 1, 1) := by decide +kernel
theorem dL_act_437 : decode cL_act 437 = .ok (.iload_n 1, 1) := by decide +kernel
theorem dL_act_438 : decode cL_act 438 = .ok (.bipush 9, 2) := by decide +kernel
theorem dL_act_440 : decode cL_act 440 = .ok (.ishr, 1) := by decide +kernel
theorem dL_act_441 : decode cL_act 441 = .ok (.bipush 40, 2) := by decide +kernel
theorem dL_act_443 : decode cL_act 443 = .ok (.invokestatic 89, 3) := by decide +kernel
theorem dL_act_446 : decode cL_act 446 = .ok (.iadd, 1) := by decide +kernel
theorem dL_act_447 : decode cL_act 447 = .ok (.invokestatic 102, 3) := by decide +kernel
theorem dL_act_450 : decode cL_act 450 = .ok (.ireturn, 1) := by decide +kernel
theorem dL_act_451 : decode cL_act 451 = .ok (.aload_n 0, 1) := by decide +kernel
theorem dL_act_452 : decode cL_act 452 = .ok (.invokestatic 104, 3) := by decide +kernel
theorem dL_act_455 : decode cL_act 455 = .ok (.ireturn, 1) := by decide +kernel
theorem dL_act_456 : decode cL_act 456 = .ok (.aload_n 0, 1) := by decide +kernel
theorem dL_act_457 : decode cL_act 457 = .ok (.invokestatic 107, 3) := by decide +kernel
theorem dL_act_460 : decode cL_act 460 = .ok (.ireturn, 1) := by decide +kernel
theorem dL_act_461 : decode cL_act 461 = .ok (.aload_n 0, 1) := by decide +kernel
theorem dL_act_462 : decode cL_act 462 = .ok (.iload_n 2, 1) := by decide +kernel
theorem dL_act_463 : decode cL_act 463 = .ok (.ifCond .eq 7, 3) := by decide +kernel
theorem dL_act_466 : decode cL_act 466 = .ok (.iload_n 3, 1) := by decide +kernel
theorem dL_act_467 : decode cL_act 467 = .ok (.goto 6, 3) := by decide +kernel
theorem dL_act_470 : decode cL_act 470 = .ok (.iconst 1, 1) := by decide +kernel
theorem dL_act_471 : decode cL_act 471 = .ok (.iload_n 3, 1) := by decide +kernel
theorem dL_act_472 : decode cL_act 472 = .ok (.iadd, 1) := by decide +kernel
theorem dL_act_473 : decode cL_act 473 = .ok (.iload_n 2, 1) := by decide +kernel
theorem dL_act_474 : decode cL_act 474 = .ok (.ifCond .eq 10, 3) := by decide +kernel
theorem dL_act_477 : decode cL_act 477 = .ok (.iload_n 1, 1) := by decide +kernel
theorem dL_act_478 : decode cL_act 478 = .ok (.bipush 8, 2) := by decide +kernel
theorem dL_act_480 : decode cL_act 480 = .ok (.ishr, 1) := by decide +kernel
theorem dL_act_481 : decode cL_act 481 = .ok (.goto 16, 3) := by decide +kernel
theorem dL_act_484 : decode cL_act 484 = .ok (.bipush 100, 2) := by decide +kernel
theorem dL_act_486 : decode cL_act 486 = .ok (.iconst 5, 1) := by decide +kernel
theorem dL_act_487 : decode cL_act 487 = .ok (.iload_n 1, 1) := by decide +kernel
theorem dL_act_488 : decode cL_act 488 = .ok (.iconst 5, 1) := by decide +kernel
theorem dL_act_489 : decode cL_act 489 = .ok (.ishr, 1) := by decide +kernel
theorem dL_act_490 : decode cL_act 490 = .ok (.bipush 9, 2) := by decide +kernel
theorem dL_act_492 : decode cL_act 492 = .ok (.invokestatic 89, 3) := by decide +kernel
theorem dL_act_495 : decode cL_act 495 = .ok (.imul, 1) := by decide +kernel
theorem dL_act_496 : decode cL_act 496 = .ok (.iadd, 1) := by decide +kernel
theorem dL_act_497 : decode cL_act 497 = .ok (.invokestatic 109, 3) := by decide +kernel
theorem dL_act_500 : decode cL_act 500 = .ok (.ireturn, 1) := by decide +kernel
theorem dL_act_501 : decode cL_act 501 = .ok (.aload_n 0, 1) := by decide +kernel
theorem dL_act_502 : decode cL_act 502 = .ok (.iload_n 2, 1) := by decide +kernel
theorem dL_act_503 : decode cL_act 503 = .ok (.ifCond .eq 10, 3) := by decide +kernel
theorem dL_act_506 : decode cL_act 506 = .ok (.iload_n 1, 1) := by decide +kernel
theorem dL_act_507 : decode cL_act 507 = .ok (.bipush 7, 2) := by decide +kernel
theorem dL_act_509 : decode cL_act 509 = .ok (.ishr, 1) := by decide +kernel
theorem dL_act_510 : decode cL_act 510 = .ok (.goto 7, 3) := by decide +kernel
theorem dL_act_513 : decode cL_act 513 = .ok (.bipush 10, 2) := by decide +kernel
theorem dL_act_515 : decode cL_act 515 = .ok (.iload_n 3, 1) := by decide +kernel
theorem dL_act_516 : decode cL_act 516 = .ok (.imul, 1) := by decide +kernel
theorem dL_act_517 : decode cL_act 517 = .ok (.invokestatic 112, 3) := by decide +kernel
theorem dL_act_520 : decode cL_act 520 = .ok (.ireturn, 1) := by decide +kernel
theorem dL_act_521 : decode cL_act 521 = .ok (.iload_n 1, 1) := by decide +kernel
theorem dL_act_522 : decode cL_act 522 = .ok (.bipush 12, 2) := by decide +kernel
theorem dL_act_524 : decode cL_act 524 = .ok (.ishr, 1) := by decide +kernel
theorem dL_act_525 : decode cL_act 525 = .ok (.iconst 4, 1) := by decide +kernel
theorem dL_act_526 : decode cL_act 526 = .ok (.invokestatic 89, 3) := by decide +kernel
theorem dL_act_529 : decode cL_act 529 = .ok (.ifCond .ne 23, 3) := by decide +kernel
theorem dL_act_532 : decode cL_act 532 = .ok (.aload_n 0, 1) := by decide +kernel
theorem dL_act_533 : decode cL_act 533 = .ok (.iload_n 2, 1) := by decide +kernel
theorem dL_act_534 : decode cL_act 534 = .ok (.ifCond .eq 7, 3) := by decide +kernel
theorem dL_act_537 : decode cL_act 537 = .ok (.iload_n 1, 1) := by decide +kernel
theorem dL_act_538 : decode cL_act 538 = .ok (.goto 8, 3) := by decide +kernel
theorem dL_act_541 : decode cL_act 541 = .ok (.sipush 200, 3) := by decide +kernel
theorem dL_act_544 : decode cL_act 544 = .ok (.iload_n 3, 1) := by decide +kernel
theorem dL_act_545 : decode cL_act 545 = .ok (.imul, 1) := by decide +kernel
theorem dL_act_546 : decode cL_act 546 = .ok (.invokestatic 114, 3) := by decide +kernel
theorem dL_act_549 : decode cL_act 549 = .ok (.goto 7, 3) := by decide +kernel
theorem dL_act_552 : decode cL_act 552 = .ok (.aload_n 0, 1) := by decide +kernel
theorem dL_act_553 : decode cL_act 553 = .ok (.invokevirtual 116, 3) := by decide +kernel
theorem dL_act_556 : decode cL_act 556 = .ok (.ireturn, 1) := by decide +kernel
theorem dL_act_557 : decode cL_act 557 = .ok (.aload_n 0, 1) := by decide +kernel
theorem dL_act_558 : decode cL_act 558 = .ok (.iload_n 2, 1) := by decide +kernel
theorem dL_act_559 : decode cL_act 559 = .ok (.ifCond .eq 8, 3) := by decide +kernel
theorem dL_act_562 : decode cL_act 562 = .ok (.iload 4, 2) := by decide +kernel
theorem dL_act_564 : decode cL_act 564 = .ok (.goto 10, 3) := by decide +kernel
theorem dL_act_567 : decode cL_act 567 = .ok (.iload_n 1, 1) := by decide +kernel
theorem dL_act_568 : decode cL_act 568 = .ok (.iconst 3, 1) := by decide +kernel
theorem dL_act_569 : decode cL_act 569 = .ok (.ishr, 1) := by decide +kernel
theorem dL_act_570 : decode cL_act 570 = .ok (.iconst 2, 1) := by decide +kernel
theorem dL_act_571 : decode cL_act 571 = .ok (.invokestatic 89, 3) := by decide +kernel
theorem dL_act_574 : decode cL_act 574 = .ok (.iload_n 2, 1) := by decide +kernel
theorem dL_act_575 : decode cL_act 575 = .ok (.ifCond .eq 9, 3) := by decide +kernel
theorem dL_act_578 : decode cL_act 578 = .ok (.iload_n 1, 1) := by decide +kernel
