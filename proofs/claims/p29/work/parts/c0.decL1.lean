theorem dB_law_16 : ((((decode cL_law 468 = .ok (.aload_n 0, 1)) ∧ (decode cL_law 469 = .ok (.iload_n 3, 1))) ∧ ((decode cL_law 470 = .ok (.iconst 1, 1)) ∧ (decode cL_law 471 = .ok (.iadd, 1)))) ∧ (((decode cL_law 472 = .ok (.iaload, 1)) ∧ (decode cL_law 473 = .ok (.aload_n 0, 1))) ∧ ((decode cL_law 474 = .ok (.iload_n 3, 1)) ∧ (decode cL_law 475 = .ok (.iconst 2, 1))))) ∧ ((((decode cL_law 476 = .ok (.iadd, 1)) ∧ (decode cL_law 477 = .ok (.iaload, 1))) ∧ ((decode cL_law 478 = .ok (.aload_n 0, 1)) ∧ (decode cL_law 479 = .ok (.iload_n 3, 1)))) ∧ (((decode cL_law 480 = .ok (.iconst 3, 1)) ∧ (decode cL_law 481 = .ok (.iadd, 1))) ∧ ((decode cL_law 482 = .ok (.iaload, 1)) ∧ (decode cL_law 483 = .ok (.invokevirtual 52, 3))))) := by first | decide +kernel | ((repeat' apply And.intro) <;> decide +kernel)
theorem dL_law_468 : decode cL_law 468 = .ok (.aload_n 0, 1) := dB_law_16.1.1.1.1
theorem dL_law_469 : decode cL_law 469 = .ok (.iload_n 3, 1) := dB_law_16.1.1.1.2
theorem dL_law_470 : decode cL_law 470 = .ok (.iconst 1, 1) := dB_law_16.1.1.2.1
theorem dL_law_471 : decode cL_law 471 = .ok (.iadd, 1) := dB_law_16.1.1.2.2
theorem dL_law_472 : decode cL_law 472 = .ok (.iaload, 1) := dB_law_16.1.2.1.1
theorem dL_law_473 : decode cL_law 473 = .ok (.aload_n 0, 1) := dB_law_16.1.2.1.2
theorem dL_law_474 : decode cL_law 474 = .ok (.iload_n 3, 1) := dB_law_16.1.2.2.1
theorem dL_law_475 : decode cL_law 475 = .ok (.iconst 2, 1) := dB_law_16.1.2.2.2
theorem dL_law_476 : decode cL_law 476 = .ok (.iadd, 1) := dB_law_16.2.1.1.1
theorem dL_law_477 : decode cL_law 477 = .ok (.iaload, 1) := dB_law_16.2.1.1.2
theorem dL_law_478 : decode cL_law 478 = .ok (.aload_n 0, 1) := dB_law_16.2.1.2.1
theorem dL_law_479 : decode cL_law 479 = .ok (.iload_n 3, 1) := dB_law_16.2.1.2.2
theorem dL_law_480 : decode cL_law 480 = .ok (.iconst 3, 1) := dB_law_16.2.2.1.1
theorem dL_law_481 : decode cL_law 481 = .ok (.iadd, 1) := dB_law_16.2.2.1.2
theorem dL_law_482 : decode cL_law 482 = .ok (.iaload, 1) := dB_law_16.2.2.2.1
theorem dL_law_483 : decode cL_law 483 = .ok (.invokevirtual 52, 3) := dB_law_16.2.2.2.2
theorem dB_law_17 : ((((decode cL_law 486 = .ok (.pop, 1)) ∧ (decode cL_law 487 = .ok (.aload_n 2, 1))) ∧ ((decode cL_law 488 = .ok (.aload_n 0, 1)) ∧ (decode cL_law 489 = .ok (.iload_n 3, 1)))) ∧ (((decode cL_law 490 = .ok (.iconst 1, 1)) ∧ (decode cL_law 491 = .ok (.iadd, 1))) ∧ ((decode cL_law 492 = .ok (.iaload, 1)) ∧ (decode cL_law 493 = .ok (.aload_n 0, 1))))) ∧ ((((decode cL_law 494 = .ok (.iload_n 3, 1)) ∧ (decode cL_law 495 = .ok (.iconst 2, 1))) ∧ ((decode cL_law 496 = .ok (.iadd, 1)) ∧ (decode cL_law 497 = .ok (.iaload, 1)))) ∧ (((decode cL_law 498 = .ok (.aload_n 0, 1)) ∧ (decode cL_law 499 = .ok (.iload_n 3, 1))) ∧ ((decode cL_law 500 = .ok (.iconst 3, 1)) ∧ (decode cL_law 501 = .ok (.iadd, 1))))) := by first | decide +kernel | ((repeat' apply And.intro) <;> decide +kernel)
theorem dL_law_486 : decode cL_law 486 = .ok (.pop, 1) := dB_law_17.1.1.1.1
theorem dL_law_487 : decode cL_law 487 = .ok (.aload_n 2, 1) := dB_law_17.1.1.1.2
theorem dL_law_488 : decode cL_law 488 = .ok (.aload_n 0, 1) := dB_law_17.1.1.2.1
theorem dL_law_489 : decode cL_law 489 = .ok (.iload_n 3, 1) := dB_law_17.1.1.2.2
theorem dL_law_490 : decode cL_law 490 = .ok (.iconst 1, 1) := dB_law_17.1.2.1.1
theorem dL_law_491 : decode cL_law 491 = .ok (.iadd, 1) := dB_law_17.1.2.1.2
theorem dL_law_492 : decode cL_law 492 = .ok (.iaload, 1) := dB_law_17.1.2.2.1
theorem dL_law_493 : decode cL_law 493 = .ok (.aload_n 0, 1) := dB_law_17.1.2.2.2
theorem dL_law_494 : decode cL_law 494 = .ok (.iload_n 3, 1) := dB_law_17.2.1.1.1
theorem dL_law_495 : decode cL_law 495 = .ok (.iconst 2, 1) := dB_law_17.2.1.1.2
theorem dL_law_496 : decode cL_law 496 = .ok (.iadd, 1) := dB_law_17.2.1.2.1
theorem dL_law_497 : decode cL_law 497 = .ok (.iaload, 1) := dB_law_17.2.1.2.2
theorem dL_law_498 : decode cL_law 498 = .ok (.aload_n 0, 1) := dB_law_17.2.2.1.1
theorem dL_law_499 : decode cL_law 499 = .ok (.iload_n 3, 1) := dB_law_17.2.2.1.2
theorem dL_law_500 : decode cL_law 500 = .ok (.iconst 3, 1) := dB_law_17.2.2.2.1
theorem dL_law_501 : decode cL_law 501 = .ok (.iadd, 1) := dB_law_17.2.2.2.2
theorem dB_law_18 : ((((decode cL_law 502 = .ok (.iaload, 1)) ∧ (decode cL_law 503 = .ok (.invokevirtual 56, 3))) ∧ ((decode cL_law 506 = .ok (.pop, 1)) ∧ (decode cL_law 507 = .ok (.goto 826, 3)))) ∧ (((decode cL_law 510 = .ok (.aload_n 1, 1)) ∧ (decode cL_law 511 = .ok (.aload_n 0, 1))) ∧ ((decode cL_law 512 = .ok (.iload_n 3, 1)) ∧ (decode cL_law 513 = .ok (.iconst 1, 1))))) ∧ ((((decode cL_law 514 = .ok (.iadd, 1)) ∧ (decode cL_law 515 = .ok (.iaload, 1))) ∧ ((decode cL_law 516 = .ok (.aload_n 0, 1)) ∧ (decode cL_law 517 = .ok (.iload_n 3, 1)))) ∧ (((decode cL_law 518 = .ok (.iconst 2, 1)) ∧ (decode cL_law 519 = .ok (.iadd, 1))) ∧ ((decode cL_law 520 = .ok (.iaload, 1)) ∧ (decode cL_law 521 = .ok (.aload_n 0, 1))))) := by first | decide +kernel | ((repeat' apply And.intro) <;> decide +kernel)
theorem dL_law_502 : decode cL_law 502 = .ok (.iaload, 1) := dB_law_18.1.1.1.1
theorem dL_law_503 : decode cL_law 503 = .ok (.invokevirtual 56, 3) := dB_law_18.1.1.1.2
theorem dL_law_506 : decode cL_law 506 = .ok (.pop, 1) := dB_law_18.1.1.2.1
theorem dL_law_507 : decode cL_law 507 = .ok (.goto 826, 3) := dB_law_18.1.1.2.2
theorem dL_law_510 : decode cL_law 510 = .ok (.aload_n 1, 1) := dB_law_18.1.2.1.1
theorem dL_law_511 : decode cL_law 511 = .ok (.aload_n 0, 1) := dB_law_18.1.2.1.2
theorem dL_law_512 : decode cL_law 512 = .ok (.iload_n 3, 1) := dB_law_18.1.2.2.1
theorem dL_law_513 : decode cL_law 513 = .ok (.iconst 1, 1) := dB_law_18.1.2.2.2
theorem dL_law_514 : decode cL_law 514 = .ok (.iadd, 1) := dB_law_18.2.1.1.1
theorem dL_law_515 : decode cL_law 515 = .ok (.iaload, 1) := dB_law_18.2.1.1.2
theorem dL_law_516 : decode cL_law 516 = .ok (.aload_n 0, 1) := dB_law_18.2.1.2.1
theorem dL_law_517 : decode cL_law 517 = .ok (.iload_n 3, 1) := dB_law_18.2.1.2.2
theorem dL_law_518 : decode cL_law 518 = .ok (.iconst 2, 1) := dB_law_18.2.2.1.1
theorem dL_law_519 : decode cL_law 519 = .ok (.iadd, 1) := dB_law_18.2.2.1.2
theorem dL_law_520 : decode cL_law 520 = .ok (.iaload, 1) := dB_law_18.2.2.2.1
theorem dL_law_521 : decode cL_law 521 = .ok (.aload_n 0, 1) := dB_law_18.2.2.2.2
theorem dB_law_19 : ((((decode cL_law 522 = .ok (.iload_n 3, 1)) ∧ (decode cL_law 523 = .ok (.iconst 3, 1))) ∧ ((decode cL_law 524 = .ok (.iadd, 1)) ∧ (decode cL_law 525 = .ok (.iaload, 1)))) ∧ (((decode cL_law 526 = .ok (.invokevirtual 57, 3)) ∧ (decode cL_law 529 = .ok (.pop, 1))) ∧ ((decode cL_law 530 = .ok (.aload_n 2, 1)) ∧ (decode cL_law 531 = .ok (.aload_n 0, 1))))) ∧ ((((decode cL_law 532 = .ok (.iload_n 3, 1)) ∧ (decode cL_law 533 = .ok (.iconst 1, 1))) ∧ ((decode cL_law 534 = .ok (.iadd, 1)) ∧ (decode cL_law 535 = .ok (.iaload, 1)))) ∧ (((decode cL_law 536 = .ok (.aload_n 0, 1)) ∧ (decode cL_law 537 = .ok (.iload_n 3, 1))) ∧ ((decode cL_law 538 = .ok (.iconst 2, 1)) ∧ (decode cL_law 539 = .ok (.iadd, 1))))) := by first | decide +kernel | ((repeat' apply And.intro) <;> decide +kernel)
theorem dL_law_522 : decode cL_law 522 = .ok (.iload_n 3, 1) := dB_law_19.1.1.1.1
theorem dL_law_523 : decode cL_law 523 = .ok (.iconst 3, 1) := dB_law_19.1.1.1.2
theorem dL_law_524 : decode cL_law 524 = .ok (.iadd, 1) := dB_law_19.1.1.2.1
theorem dL_law_525 : decode cL_law 525 = .ok (.iaload, 1) := dB_law_19.1.1.2.2
theorem dL_law_526 : decode cL_law 526 = .ok (.invokevirtual 57, 3) := dB_law_19.1.2.1.1
theorem dL_law_529 : decode cL_law 529 = .ok (.pop, 1) := dB_law_19.1.2.1.2
theorem dL_law_530 : decode cL_law 530 = .ok (.aload_n 2, 1) := dB_law_19.1.2.2.1
theorem dL_law_531 : decode cL_law 531 = .ok (.aload_n 0, 1) := dB_law_19.1.2.2.2
theorem dL_law_532 : decode cL_law 532 = .ok (.iload_n 3, 1) := dB_law_19.2.1.1.1
theorem dL_law_533 : decode cL_law 533 = .ok (.iconst 1, 1) := dB_law_19.2.1.1.2
theorem dL_law_534 : decode cL_law 534 = .ok (.iadd, 1) := dB_law_19.2.1.2.1
theorem dL_law_535 : decode cL_law 535 = .ok (.iaload, 1) := dB_law_19.2.1.2.2
theorem dL_law_536 : decode cL_law 536 = .ok (.aload_n 0, 1) := dB_law_19.2.2.1.1
theorem dL_law_537 : decode cL_law 537 = .ok (.iload_n 3, 1) := dB_law_19.2.2.1.2
theorem dL_law_538 : decode cL_law 538 = .ok (.iconst 2, 1) := dB_law_19.2.2.2.1
theorem dL_law_539 : decode cL_law 539 = .ok (.iadd, 1) := dB_law_19.2.2.2.2
theorem dB_law_20 : ((((decode cL_law 540 = .ok (.iaload, 1)) ∧ (decode cL_law 541 = .ok (.aload_n 0, 1))) ∧ ((decode cL_law 542 = .ok (.iload_n 3, 1)) ∧ (decode cL_law 543 = .ok (.iconst 3, 1)))) ∧ (((decode cL_law 544 = .ok (.iadd, 1)) ∧ (decode cL_law 545 = .ok (.iaload, 1))) ∧ ((decode cL_law 546 = .ok (.invokevirtual 60, 3)) ∧ (decode cL_law 549 = .ok (.pop, 1))))) ∧ ((((decode cL_law 550 = .ok (.goto 783, 3)) ∧ (decode cL_law 553 = .ok (.aload_n 1, 1))) ∧ ((decode cL_law 554 = .ok (.aload_n 0, 1)) ∧ (decode cL_law 555 = .ok (.iload_n 3, 1)))) ∧ (((decode cL_law 556 = .ok (.iconst 1, 1)) ∧ (decode cL_law 557 = .ok (.iadd, 1))) ∧ ((decode cL_law 558 = .ok (.iaload, 1)) ∧ (decode cL_law 559 = .ok (.aload_n 0, 1))))) := by first | decide +kernel | ((repeat' apply And.intro) <;> decide +kernel)
theorem dL_law_540 : decode cL_law 540 = .ok (.iaload, 1) := dB_law_20.1.1.1.1
theorem dL_law_541 : decode cL_law 541 = .ok (.aload_n 0, 1) := dB_law_20.1.1.1.2
theorem dL_law_542 : decode cL_law 542 = .ok (.iload_n 3, 1) := dB_law_20.1.1.2.1
theorem dL_law_543 : decode cL_law 543 = .ok (.iconst 3, 1) := dB_law_20.1.1.2.2
theorem dL_law_544 : decode cL_law 544 = .ok (.iadd, 1) := dB_law_20.1.2.1.1
theorem dL_law_545 : decode cL_law 545 = .ok (.iaload, 1) := dB_law_20.1.2.1.2
theorem dL_law_546 : decode cL_law 546 = .ok (.invokevirtual 60, 3) := dB_law_20.1.2.2.1
theorem dL_law_549 : decode cL_law 549 = .ok (.pop, 1) := dB_law_20.1.2.2.2
theorem dL_law_550 : decode cL_law 550 = .ok (.goto 783, 3) := dB_law_20.2.1.1.1
theorem dL_law_553 : decode cL_law 553 = .ok (.aload_n 1, 1) := dB_law_20.2.1.1.2
theorem dL_law_554 : decode cL_law 554 = .ok (.aload_n 0, 1) := dB_law_20.2.1.2.1
theorem dL_law_555 : decode cL_law 555 = .ok (.iload_n 3, 1) := dB_law_20.2.1.2.2
theorem dL_law_556 : decode cL_law 556 = .ok (.iconst 1, 1) := dB_law_20.2.2.1.1
theorem dL_law_557 : decode cL_law 557 = .ok (.iadd, 1) := dB_law_20.2.2.1.2
theorem dL_law_558 : decode cL_law 558 = .ok (.iaload, 1) := dB_law_20.2.2.2.1
theorem dL_law_559 : decode cL_law 559 = .ok (.aload_n 0, 1) := dB_law_20.2.2.2.2
theorem dB_law_21 : ((((decode cL_law 560 = .ok (.iload_n 3, 1)) ∧ (decode cL_law 561 = .ok (.iconst 2, 1))) ∧ ((decode cL_law 562 = .ok (.iadd, 1)) ∧ (decode cL_law 563 = .ok (.iaload, 1)))) ∧ (((decode cL_law 564 = .ok (.invokevirtual 61, 3)) ∧ (decode cL_law 567 = .ok (.pop, 1))) ∧ ((decode cL_law 568 = .ok (.aload_n 2, 1)) ∧ (decode cL_law 569 = .ok (.aload_n 0, 1))))) ∧ ((((decode cL_law 570 = .ok (.iload_n 3, 1)) ∧ (decode cL_law 571 = .ok (.iconst 1, 1))) ∧ ((decode cL_law 572 = .ok (.iadd, 1)) ∧ (decode cL_law 573 = .ok (.iaload, 1)))) ∧ (((decode cL_law 574 = .ok (.aload_n 0, 1)) ∧ (decode cL_law 575 = .ok (.iload_n 3, 1))) ∧ ((decode cL_law 576 = .ok (.iconst 2, 1)) ∧ (decode cL_law 577 = .ok (.iadd, 1))))) := by first | decide +kernel | ((repeat' apply And.intro) <;> decide +kernel)
theorem dL_law_560 : decode cL_law 560 = .ok (.iload_n 3, 1) := dB_law_21.1.1.1.1
theorem dL_law_561 : decode cL_law 561 = .ok (.iconst 2, 1) := dB_law_21.1.1.1.2
theorem dL_law_562 : decode cL_law 562 = .ok (.iadd, 1) := dB_law_21.1.1.2.1
theorem dL_law_563 : decode cL_law 563 = .ok (.iaload, 1) := dB_law_21.1.1.2.2
theorem dL_law_564 : decode cL_law 564 = .ok (.invokevirtual 61, 3) := dB_law_21.1.2.1.1
theorem dL_law_567 : decode cL_law 567 = .ok (.pop, 1) := dB_law_21.1.2.1.2
theorem dL_law_568 : decode cL_law 568 = .ok (.aload_n 2, 1) := dB_law_21.1.2.2.1
theorem dL_law_569 : decode cL_law 569 = .ok (.aload_n 0, 1) := dB_law_21.1.2.2.2
theorem dL_law_570 : decode cL_law 570 = .ok (.iload_n 3, 1) := dB_law_21.2.1.1.1
theorem dL_law_571 : decode cL_law 571 = .ok (.iconst 1, 1) := dB_law_21.2.1.1.2
theorem dL_law_572 : decode cL_law 572 = .ok (.iadd, 1) := dB_law_21.2.1.2.1
theorem dL_law_573 : decode cL_law 573 = .ok (.iaload, 1) := dB_law_21.2.1.2.2
theorem dL_law_574 : decode cL_law 574 = .ok (.aload_n 0, 1) := dB_law_21.2.2.1.1
theorem dL_law_575 : decode cL_law 575 = .ok (.iload_n 3, 1) := dB_law_21.2.2.1.2
theorem dL_law_576 : decode cL_law 576 = .ok (.iconst 2, 1) := dB_law_21.2.2.2.1
theorem dL_law_577 : decode cL_law 577 = .ok (.iadd, 1) := dB_law_21.2.2.2.2
theorem dB_law_22 : ((((decode cL_law 578 = .ok (.iaload, 1)) ∧ (decode cL_law 579 = .ok (.invokevirtual 64, 3))) ∧ ((decode cL_law 582 = .ok (.pop, 1)) ∧ (decode cL_law 583 = .ok (.goto 750, 3)))) ∧ (((decode cL_law 586 = .ok (.aload_n 1, 1)) ∧ (decode cL_law 587 = .ok (.aload_n 0, 1))) ∧ ((decode cL_law 588 = .ok (.iload_n 3, 1)) ∧ (decode cL_law 589 = .ok (.iconst 1, 1))))) ∧ ((((decode cL_law 590 = .ok (.iadd, 1)) ∧ (decode cL_law 591 = .ok (.iaload, 1))) ∧ ((decode cL_law 592 = .ok (.aload_n 0, 1)) ∧ (decode cL_law 593 = .ok (.iload_n 3, 1)))) ∧ (((decode cL_law 594 = .ok (.iconst 2, 1)) ∧ (decode cL_law 595 = .ok (.iadd, 1))) ∧ ((decode cL_law 596 = .ok (.iaload, 1)) ∧ (decode cL_law 597 = .ok (.aload_n 0, 1))))) := by first | decide +kernel | ((repeat' apply And.intro) <;> decide +kernel)
theorem dL_law_578 : decode cL_law 578 = .ok (.iaload, 1) := dB_law_22.1.1.1.1
theorem dL_law_579 : decode cL_law 579 = .ok (.invokevirtual 64, 3) := dB_law_22.1.1.1.2
theorem dL_law_582 : decode cL_law 582 = .ok (.pop, 1) := dB_law_22.1.1.2.1
theorem dL_law_583 : decode cL_law 583 = .ok (.goto 750, 3) := dB_law_22.1.1.2.2
theorem dL_law_586 : decode cL_law 586 = .ok (.aload_n 1, 1) := dB_law_22.1.2.1.1
theorem dL_law_587 : decode cL_law 587 = .ok (.aload_n 0, 1) := dB_law_22.1.2.1.2
theorem dL_law_588 : decode cL_law 588 = .ok (.iload_n 3, 1) := dB_law_22.1.2.2.1
theorem dL_law_589 : decode cL_law 589 = .ok (.iconst 1, 1) := dB_law_22.1.2.2.2
theorem dL_law_590 : decode cL_law 590 = .ok (.iadd, 1) := dB_law_22.2.1.1.1
theorem dL_law_591 : decode cL_law 591 = .ok (.iaload, 1) := dB_law_22.2.1.1.2
theorem dL_law_592 : decode cL_law 592 = .ok (.aload_n 0, 1) := dB_law_22.2.1.2.1
theorem dL_law_593 : decode cL_law 593 = .ok (.iload_n 3, 1) := dB_law_22.2.1.2.2
theorem dL_law_594 : decode cL_law 594 = .ok (.iconst 2, 1) := dB_law_22.2.2.1.1
theorem dL_law_595 : decode cL_law 595 = .ok (.iadd, 1) := dB_law_22.2.2.1.2
theorem dL_law_596 : decode cL_law 596 = .ok (.iaload, 1) := dB_law_22.2.2.2.1
theorem dL_law_597 : decode cL_law 597 = .ok (.aload_n 0, 1) := dB_law_22.2.2.2.2
theorem dB_law_23 : ((((decode cL_law 598 = .ok (.iload_n 3, 1)) ∧ (decode cL_law 599 = .ok (.iconst 3, 1))) ∧ ((decode cL_law 600 = .ok (.iadd, 1)) ∧ (decode cL_law 601 = .ok (.iaload, 1)))) ∧ (((decode cL_law 602 = .ok (.invokevirtual 65, 3)) ∧ (decode cL_law 605 = .ok (.pop, 1))) ∧ ((decode cL_law 606 = .ok (.aload_n 2, 1)) ∧ (decode cL_law 607 = .ok (.aload_n 0, 1))))) ∧ ((((decode cL_law 608 = .ok (.iload_n 3, 1)) ∧ (decode cL_law 609 = .ok (.iconst 1, 1))) ∧ ((decode cL_law 610 = .ok (.iadd, 1)) ∧ (decode cL_law 611 = .ok (.iaload, 1)))) ∧ (((decode cL_law 612 = .ok (.aload_n 0, 1)) ∧ (decode cL_law 613 = .ok (.iload_n 3, 1))) ∧ ((decode cL_law 614 = .ok (.iconst 2, 1)) ∧ (decode cL_law 615 = .ok (.iadd, 1))))) := by first | decide +kernel | ((repeat' apply And.intro) <;> decide +kernel)
theorem dL_law_598 : decode cL_law 598 = .ok (.iload_n 3, 1) := dB_law_23.1.1.1.1
theorem dL_law_599 : decode cL_law 599 = .ok (.iconst 3, 1) := dB_law_23.1.1.1.2
theorem dL_law_600 : decode cL_law 600 = .ok (.iadd, 1) := dB_law_23.1.1.2.1
theorem dL_law_601 : decode cL_law 601 = .ok (.iaload, 1) := dB_law_23.1.1.2.2
theorem dL_law_602 : decode cL_law 602 = .ok (.invokevirtual 65, 3) := dB_law_23.1.2.1.1
theorem dL_law_605 : decode cL_law 605 = .ok (.pop, 1) := dB_law_23.1.2.1.2
theorem dL_law_606 : decode cL_law 606 = .ok (.aload_n 2, 1) := dB_law_23.1.2.2.1
theorem dL_law_607 : decode cL_law 607 = .ok (.aload_n 0, 1) := dB_law_23.1.2.2.2
theorem dL_law_608 : decode cL_law 608 = .ok (.iload_n 3, 1) := dB_law_23.2.1.1.1
theorem dL_law_609 : decode cL_law 609 = .ok (.iconst 1, 1) := dB_law_23.2.1.1.2
theorem dL_law_610 : decode cL_law 610 = .ok (.iadd, 1) := dB_law_23.2.1.2.1
theorem dL_law_611 : decode cL_law 611 = .ok (.iaload, 1) := dB_law_23.2.1.2.2
theorem dL_law_612 : decode cL_law 612 = .ok (.aload_n 0, 1) := dB_law_23.2.2.1.1
theorem dL_law_613 : decode cL_law 613 = .ok (.iload_n 3, 1) := dB_law_23.2.2.1.2
theorem dL_law_614 : decode cL_law 614 = .ok (.iconst 2, 1) := dB_law_23.2.2.2.1
theorem dL_law_615 : decode cL_law 615 = .ok (.iadd, 1) := dB_law_23.2.2.2.2
theorem dB_law_24 : ((((decode cL_law 616 = .ok (.iaload, 1)) ∧ (decode cL_law 617 = .ok (.aload_n 0, 1))) ∧ ((decode cL_law 618 = .ok (.iload_n 3, 1)) ∧ (decode cL_law 619 = .ok (.iconst 3, 1)))) ∧ (((decode cL_law 620 = .ok (.iadd, 1)) ∧ (decode cL_law 621 = .ok (.iaload, 1))) ∧ ((decode cL_law 622 = .ok (.invokevirtual 68, 3)) ∧ (decode cL_law 625 = .ok (.pop, 1))))) ∧ ((((decode cL_law 626 = .ok (.goto 707, 3)) ∧ (decode cL_law 629 = .ok (.aload_n 1, 1))) ∧ ((decode cL_law 630 = .ok (.aload_n 0, 1)) ∧ (decode cL_law 631 = .ok (.iload_n 3, 1)))) ∧ (((decode cL_law 632 = .ok (.iconst 1, 1)) ∧ (decode cL_law 633 = .ok (.iadd, 1))) ∧ ((decode cL_law 634 = .ok (.iaload, 1)) ∧ (decode cL_law 635 = .ok (.aload_n 0, 1))))) := by first | decide +kernel | ((repeat' apply And.intro) <;> decide +kernel)
theorem dL_law_616 : decode cL_law 616 = .ok (.iaload, 1) := dB_law_24.1.1.1.1
theorem dL_law_617 : decode cL_law 617 = .ok (.aload_n 0, 1) := dB_law_24.1.1.1.2
theorem dL_law_618 : decode cL_law 618 = .ok (.iload_n 3, 1) := dB_law_24.1.1.2.1
theorem dL_law_619 : decode cL_law 619 = .ok (.iconst 3, 1) := dB_law_24.1.1.2.2
theorem dL_law_620 : decode cL_law 620 = .ok (.iadd, 1) := dB_law_24.1.2.1.1
theorem dL_law_621 : decode cL_law 621 = .ok (.iaload, 1) := dB_law_24.1.2.1.2
theorem dL_law_622 : decode cL_law 622 = .ok (.invokevirtual 68, 3) := dB_law_24.1.2.2.1
theorem dL_law_625 : decode cL_law 625 = .ok (.pop, 1) := dB_law_24.1.2.2.2
theorem dL_law_626 : decode cL_law 626 = .ok (.goto 707, 3) := dB_law_24.2.1.1.1
theorem dL_law_629 : decode cL_law 629 = .ok (.aload_n 1, 1) := dB_law_24.2.1.1.2
theorem dL_law_630 : decode cL_law 630 = .ok (.aload_n 0, 1) := dB_law_24.2.1.2.1
theorem dL_law_631 : decode cL_law 631 = .ok (.iload_n 3, 1) := dB_law_24.2.1.2.2
theorem dL_law_632 : decode cL_law 632 = .ok (.iconst 1, 1) := dB_law_24.2.2.1.1
theorem dL_law_633 : decode cL_law 633 = .ok (.iadd, 1) := dB_law_24.2.2.1.2
theorem dL_law_634 : decode cL_law 634 = .ok (.iaload, 1) := dB_law_24.2.2.2.1
theorem dL_law_635 : decode cL_law 635 = .ok (.aload_n 0, 1) := dB_law_24.2.2.2.2
theorem dB_law_25 : ((((decode cL_law 636 = .ok (.iload_n 3, 1)) ∧ (decode cL_law 637 = .ok (.iconst 2, 1))) ∧ ((decode cL_law 638 = .ok (.iadd, 1)) ∧ (decode cL_law 639 = .ok (.iaload, 1)))) ∧ (((decode cL_law 640 = .ok (.aload_n 0, 1)) ∧ (decode cL_law 641 = .ok (.iload_n 3, 1))) ∧ ((decode cL_law 642 = .ok (.iconst 3, 1)) ∧ (decode cL_law 643 = .ok (.iadd, 1))))) ∧ ((((decode cL_law 644 = .ok (.iaload, 1)) ∧ (decode cL_law 645 = .ok (.invokevirtual 69, 3))) ∧ ((decode cL_law 648 = .ok (.pop, 1)) ∧ (decode cL_law 649 = .ok (.aload_n 2, 1)))) ∧ (((decode cL_law 650 = .ok (.aload_n 0, 1)) ∧ (decode cL_law 651 = .ok (.iload_n 3, 1))) ∧ ((decode cL_law 652 = .ok (.iconst 1, 1)) ∧ (decode cL_law 653 = .ok (.iadd, 1))))) := by first | decide +kernel | ((repeat' apply And.intro) <;> decide +kernel)
theorem dL_law_636 : decode cL_law 636 = .ok (.iload_n 3, 1) := dB_law_25.1.1.1.1
theorem dL_law_637 : decode cL_law 637 = .ok (.iconst 2, 1) := dB_law_25.1.1.1.2
theorem dL_law_638 : decode cL_law 638 = .ok (.iadd, 1) := dB_law_25.1.1.2.1
theorem dL_law_639 : decode cL_law 639 = .ok (.iaload, 1) := dB_law_25.1.1.2.2
theorem dL_law_640 : decode cL_law 640 = .ok (.aload_n 0, 1) := dB_law_25.1.2.1.1
theorem dL_law_641 : decode cL_law 641 = .ok (.iload_n 3, 1) := dB_law_25.1.2.1.2
theorem dL_law_642 : decode cL_law 642 = .ok (.iconst 3, 1) := dB_law_25.1.2.2.1
theorem dL_law_643 : decode cL_law 643 = .ok (.iadd, 1) := dB_law_25.1.2.2.2
theorem dL_law_644 : decode cL_law 644 = .ok (.iaload, 1) := dB_law_25.2.1.1.1
theorem dL_law_645 : decode cL_law 645 = .ok (.invokevirtual 69, 3) := dB_law_25.2.1.1.2
theorem dL_law_648 : decode cL_law 648 = .ok (.pop, 1) := dB_law_25.2.1.2.1
theorem dL_law_649 : decode cL_law 649 = .ok (.aload_n 2, 1) := dB_law_25.2.1.2.2
theorem dL_law_650 : decode cL_law 650 = .ok (.aload_n 0, 1) := dB_law_25.2.2.1.1
theorem dL_law_651 : decode cL_law 651 = .ok (.iload_n 3, 1) := dB_law_25.2.2.1.2
theorem dL_law_652 : decode cL_law 652 = .ok (.iconst 1, 1) := dB_law_25.2.2.2.1
theorem dL_law_653 : decode cL_law 653 = .ok (.iadd, 1) := dB_law_25.2.2.2.2
theorem dB_law_26 : ((((decode cL_law 654 = .ok (.iaload, 1)) ∧ (decode cL_law 655 = .ok (.aload_n 0, 1))) ∧ ((decode cL_law 656 = .ok (.iload_n 3, 1)) ∧ (decode cL_law 657 = .ok (.iconst 2, 1)))) ∧ (((decode cL_law 658 = .ok (.iadd, 1)) ∧ (decode cL_law 659 = .ok (.iaload, 1))) ∧ ((decode cL_law 660 = .ok (.aload_n 0, 1)) ∧ (decode cL_law 661 = .ok (.iload_n 3, 1))))) ∧ ((((decode cL_law 662 = .ok (.iconst 3, 1)) ∧ (decode cL_law 663 = .ok (.iadd, 1))) ∧ ((decode cL_law 664 = .ok (.iaload, 1)) ∧ (decode cL_law 665 = .ok (.invokevirtual 72, 3)))) ∧ (((decode cL_law 668 = .ok (.pop, 1)) ∧ (decode cL_law 669 = .ok (.goto 664, 3))) ∧ ((decode cL_law 672 = .ok (.aload_n 1, 1)) ∧ (decode cL_law 673 = .ok (.aload_n 0, 1))))) := by first | decide +kernel | ((repeat' apply And.intro) <;> decide +kernel)
theorem dL_law_654 : decode cL_law 654 = .ok (.iaload, 1) := dB_law_26.1.1.1.1
theorem dL_law_655 : decode cL_law 655 = .ok (.aload_n 0, 1) := dB_law_26.1.1.1.2
theorem dL_law_656 : decode cL_law 656 = .ok (.iload_n 3, 1) := dB_law_26.1.1.2.1
theorem dL_law_657 : decode cL_law 657 = .ok (.iconst 2, 1) := dB_law_26.1.1.2.2
theorem dL_law_658 : decode cL_law 658 = .ok (.iadd, 1) := dB_law_26.1.2.1.1
theorem dL_law_659 : decode cL_law 659 = .ok (.iaload, 1) := dB_law_26.1.2.1.2
theorem dL_law_660 : decode cL_law 660 = .ok (.aload_n 0, 1) := dB_law_26.1.2.2.1
theorem dL_law_661 : decode cL_law 661 = .ok (.iload_n 3, 1) := dB_law_26.1.2.2.2
theorem dL_law_662 : decode cL_law 662 = .ok (.iconst 3, 1) := dB_law_26.2.1.1.1
theorem dL_law_663 : decode cL_law 663 = .ok (.iadd, 1) := dB_law_26.2.1.1.2
theorem dL_law_664 : decode cL_law 664 = .ok (.iaload, 1) := dB_law_26.2.1.2.1
theorem dL_law_665 : decode cL_law 665 = .ok (.invokevirtual 72, 3) := dB_law_26.2.1.2.2
theorem dL_law_668 : decode cL_law 668 = .ok (.pop, 1) := dB_law_26.2.2.1.1
theorem dL_law_669 : decode cL_law 669 = .ok (.goto 664, 3) := dB_law_26.2.2.1.2
theorem dL_law_672 : decode cL_law 672 = .ok (.aload_n 1, 1) := dB_law_26.2.2.2.1
theorem dL_law_673 : decode cL_law 673 = .ok (.aload_n 0, 1) := dB_law_26.2.2.2.2
theorem dB_law_27 : ((((decode cL_law 674 = .ok (.iload_n 3, 1)) ∧ (decode cL_law 675 = .ok (.iconst 1, 1))) ∧ ((decode cL_law 676 = .ok (.iadd, 1)) ∧ (decode cL_law 677 = .ok (.iaload, 1)))) ∧ (((decode cL_law 678 = .ok (.aload_n 0, 1)) ∧ (decode cL_law 679 = .ok (.iload_n 3, 1))) ∧ ((decode cL_law 680 = .ok (.iconst 2, 1)) ∧ (decode cL_law 681 = .ok (.iadd, 1))))) ∧ ((((decode cL_law 682 = .ok (.iaload, 1)) ∧ (decode cL_law 683 = .ok (.aload_n 0, 1))) ∧ ((decode cL_law 684 = .ok (.iload_n 3, 1)) ∧ (decode cL_law 685 = .ok (.iconst 3, 1)))) ∧ (((decode cL_law 686 = .ok (.iadd, 1)) ∧ (decode cL_law 687 = .ok (.iaload, 1))) ∧ ((decode cL_law 688 = .ok (.invokevirtual 73, 3)) ∧ (decode cL_law 691 = .ok (.pop, 1))))) := by first | decide +kernel | ((repeat' apply And.intro) <;> decide +kernel)
theorem dL_law_674 : decode cL_law 674 = .ok (.iload_n 3, 1) := dB_law_27.1.1.1.1
theorem dL_law_675 : decode cL_law 675 = .ok (.iconst 1, 1) := dB_law_27.1.1.1.2
theorem dL_law_676 : decode cL_law 676 = .ok (.iadd, 1) := dB_law_27.1.1.2.1
theorem dL_law_677 : decode cL_law 677 = .ok (.iaload, 1) := dB_law_27.1.1.2.2
theorem dL_law_678 : decode cL_law 678 = .ok (.aload_n 0, 1) := dB_law_27.1.2.1.1
theorem dL_law_679 : decode cL_law 679 = .ok (.iload_n 3, 1) := dB_law_27.1.2.1.2
theorem dL_law_680 : decode cL_law 680 = .ok (.iconst 2, 1) := dB_law_27.1.2.2.1
theorem dL_law_681 : decode cL_law 681 = .ok (.iadd, 1) := dB_law_27.1.2.2.2
theorem dL_law_682 : decode cL_law 682 = .ok (.iaload, 1) := dB_law_27.2.1.1.1
theorem dL_law_683 : decode cL_law 683 = .ok (.aload_n 0, 1) := dB_law_27.2.1.1.2
theorem dL_law_684 : decode cL_law 684 = .ok (.iload_n 3, 1) := dB_law_27.2.1.2.1
theorem dL_law_685 : decode cL_law 685 = .ok (.iconst 3, 1) := dB_law_27.2.1.2.2
theorem dL_law_686 : decode cL_law 686 = .ok (.iadd, 1) := dB_law_27.2.2.1.1
theorem dL_law_687 : decode cL_law 687 = .ok (.iaload, 1) := dB_law_27.2.2.1.2
theorem dL_law_688 : decode cL_law 688 = .ok (.invokevirtual 73, 3) := dB_law_27.2.2.2.1
theorem dL_law_691 : decode cL_law 691 = .ok (.pop, 1) := dB_law_27.2.2.2.2
theorem dB_law_28 : ((((decode cL_law 692 = .ok (.aload_n 2, 1)) ∧ (decode cL_law 693 = .ok (.aload_n 0, 1))) ∧ ((decode cL_law 694 = .ok (.iload_n 3, 1)) ∧ (decode cL_law 695 = .ok (.iconst 1, 1)))) ∧ (((decode cL_law 696 = .ok (.iadd, 1)) ∧ (decode cL_law 697 = .ok (.iaload, 1))) ∧ ((decode cL_law 698 = .ok (.aload_n 0, 1)) ∧ (decode cL_law 699 = .ok (.iload_n 3, 1))))) ∧ ((((decode cL_law 700 = .ok (.iconst 2, 1)) ∧ (decode cL_law 701 = .ok (.iadd, 1))) ∧ ((decode cL_law 702 = .ok (.iaload, 1)) ∧ (decode cL_law 703 = .ok (.aload_n 0, 1)))) ∧ (((decode cL_law 704 = .ok (.iload_n 3, 1)) ∧ (decode cL_law 705 = .ok (.iconst 3, 1))) ∧ ((decode cL_law 706 = .ok (.iadd, 1)) ∧ (decode cL_law 707 = .ok (.iaload, 1))))) := by first | decide +kernel | ((repeat' apply And.intro) <;> decide +kernel)
theorem dL_law_692 : decode cL_law 692 = .ok (.aload_n 2, 1) := dB_law_28.1.1.1.1
theorem dL_law_693 : decode cL_law 693 = .ok (.aload_n 0, 1) := dB_law_28.1.1.1.2
theorem dL_law_694 : decode cL_law 694 = .ok (.iload_n 3, 1) := dB_law_28.1.1.2.1
theorem dL_law_695 : decode cL_law 695 = .ok (.iconst 1, 1) := dB_law_28.1.1.2.2
theorem dL_law_696 : decode cL_law 696 = .ok (.iadd, 1) := dB_law_28.1.2.1.1
theorem dL_law_697 : decode cL_law 697 = .ok (.iaload, 1) := dB_law_28.1.2.1.2
theorem dL_law_698 : decode cL_law 698 = .ok (.aload_n 0, 1) := dB_law_28.1.2.2.1
theorem dL_law_699 : decode cL_law 699 = .ok (.iload_n 3, 1) := dB_law_28.1.2.2.2
theorem dL_law_700 : decode cL_law 700 = .ok (.iconst 2, 1) := dB_law_28.2.1.1.1
theorem dL_law_701 : decode cL_law 701 = .ok (.iadd, 1) := dB_law_28.2.1.1.2
theorem dL_law_702 : decode cL_law 702 = .ok (.iaload, 1) := dB_law_28.2.1.2.1
theorem dL_law_703 : decode cL_law 703 = .ok (.aload_n 0, 1) := dB_law_28.2.1.2.2
theorem dL_law_704 : decode cL_law 704 = .ok (.iload_n 3, 1) := dB_law_28.2.2.1.1
theorem dL_law_705 : decode cL_law 705 = .ok (.iconst 3, 1) := dB_law_28.2.2.1.2
theorem dL_law_706 : decode cL_law 706 = .ok (.iadd, 1) := dB_law_28.2.2.2.1
theorem dL_law_707 : decode cL_law 707 = .ok (.iaload, 1) := dB_law_28.2.2.2.2
theorem dB_law_29 : ((((decode cL_law 708 = .ok (.invokevirtual 76, 3)) ∧ (decode cL_law 711 = .ok (.pop, 1))) ∧ ((decode cL_law 712 = .ok (.goto 621, 3)) ∧ (decode cL_law 715 = .ok (.aload_n 1, 1)))) ∧ (((decode cL_law 716 = .ok (.aload_n 0, 1)) ∧ (decode cL_law 717 = .ok (.iload_n 3, 1))) ∧ ((decode cL_law 718 = .ok (.iconst 1, 1)) ∧ (decode cL_law 719 = .ok (.iadd, 1))))) ∧ ((((decode cL_law 720 = .ok (.iaload, 1)) ∧ (decode cL_law 721 = .ok (.aload_n 0, 1))) ∧ ((decode cL_law 722 = .ok (.iload_n 3, 1)) ∧ (decode cL_law 723 = .ok (.iconst 2, 1)))) ∧ (((decode cL_law 724 = .ok (.iadd, 1)) ∧ (decode cL_law 725 = .ok (.iaload, 1))) ∧ ((decode cL_law 726 = .ok (.aload_n 0, 1)) ∧ (decode cL_law 727 = .ok (.iload_n 3, 1))))) := by first | decide +kernel | ((repeat' apply And.intro) <;> decide +kernel)
theorem dL_law_708 : decode cL_law 708 = .ok (.invokevirtual 76, 3) := dB_law_29.1.1.1.1
theorem dL_law_711 : decode cL_law 711 = .ok (.pop, 1) := dB_law_29.1.1.1.2
theorem dL_law_712 : decode cL_law 712 = .ok (.goto 621, 3) := dB_law_29.1.1.2.1
theorem dL_law_715 : decode cL_law 715 = .ok (.aload_n 1, 1) := dB_law_29.1.1.2.2
theorem dL_law_716 : decode cL_law 716 = .ok (.aload_n 0, 1) := dB_law_29.1.2.1.1
theorem dL_law_717 : decode cL_law 717 = .ok (.iload_n 3, 1) := dB_law_29.1.2.1.2
theorem dL_law_718 : decode cL_law 718 = .ok (.iconst 1, 1) := dB_law_29.1.2.2.1
theorem dL_law_719 : decode cL_law 719 = .ok (.iadd, 1) := dB_law_29.1.2.2.2
theorem dL_law_720 : decode cL_law 720 = .ok (.iaload, 1) := dB_law_29.2.1.1.1
theorem dL_law_721 : decode cL_law 721 = .ok (.aload_n 0, 1) := dB_law_29.2.1.1.2
theorem dL_law_722 : decode cL_law 722 = .ok (.iload_n 3, 1) := dB_law_29.2.1.2.1
theorem dL_law_723 : decode cL_law 723 = .ok (.iconst 2, 1) := dB_law_29.2.1.2.2
theorem dL_law_724 : decode cL_law 724 = .ok (.iadd, 1) := dB_law_29.2.2.1.1
theorem dL_law_725 : decode cL_law 725 = .ok (.iaload, 1) := dB_law_29.2.2.1.2
theorem dL_law_726 : decode cL_law 726 = .ok (.aload_n 0, 1) := dB_law_29.2.2.2.1
theorem dL_law_727 : decode cL_law 727 = .ok (.iload_n 3, 1) := dB_law_29.2.2.2.2
theorem dB_law_30 : ((((decode cL_law 728 = .ok (.iconst 3, 1)) ∧ (decode cL_law 729 = .ok (.iadd, 1))) ∧ ((decode cL_law 730 = .ok (.iaload, 1)) ∧ (decode cL_law 731 = .ok (.invokevirtual 77, 3)))) ∧ (((decode cL_law 734 = .ok (.pop, 1)) ∧ (decode cL_law 735 = .ok (.aload_n 2, 1))) ∧ ((decode cL_law 736 = .ok (.aload_n 0, 1)) ∧ (decode cL_law 737 = .ok (.iload_n 3, 1))))) ∧ ((((decode cL_law 738 = .ok (.iconst 1, 1)) ∧ (decode cL_law 739 = .ok (.iadd, 1))) ∧ ((decode cL_law 740 = .ok (.iaload, 1)) ∧ (decode cL_law 741 = .ok (.aload_n 0, 1)))) ∧ (((decode cL_law 742 = .ok (.iload_n 3, 1)) ∧ (decode cL_law 743 = .ok (.iconst 2, 1))) ∧ ((decode cL_law 744 = .ok (.iadd, 1)) ∧ (decode cL_law 745 = .ok (.iaload, 1))))) := by first | decide +kernel | ((repeat' apply And.intro) <;> decide +kernel)
theorem dL_law_728 : decode cL_law 728 = .ok (.iconst 3, 1) := dB_law_30.1.1.1.1
theorem dL_law_729 : decode cL_law 729 = .ok (.iadd, 1) := dB_law_30.1.1.1.2
theorem dL_law_730 : decode cL_law 730 = .ok (.iaload, 1) := dB_law_30.1.1.2.1
theorem dL_law_731 : decode cL_law 731 = .ok (.invokevirtual 77, 3) := dB_law_30.1.1.2.2
theorem dL_law_734 : decode cL_law 734 = .ok (.pop, 1) := dB_law_30.1.2.1.1
theorem dL_law_735 : decode cL_law 735 = .ok (.aload_n 2, 1) := dB_law_30.1.2.1.2
theorem dL_law_736 : decode cL_law 736 = .ok (.aload_n 0, 1) := dB_law_30.1.2.2.1
theorem dL_law_737 : decode cL_law 737 = .ok (.iload_n 3, 1) := dB_law_30.1.2.2.2
theorem dL_law_738 : decode cL_law 738 = .ok (.iconst 1, 1) := dB_law_30.2.1.1.1
theorem dL_law_739 : decode cL_law 739 = .ok (.iadd, 1) := dB_law_30.2.1.1.2
theorem dL_law_740 : decode cL_law 740 = .ok (.iaload, 1) := dB_law_30.2.1.2.1
theorem dL_law_741 : decode cL_law 741 = .ok (.aload_n 0, 1) := dB_law_30.2.1.2.2
theorem dL_law_742 : decode cL_law 742 = .ok (.iload_n 3, 1) := dB_law_30.2.2.1.1
theorem dL_law_743 : decode cL_law 743 = .ok (.iconst 2, 1) := dB_law_30.2.2.1.2
theorem dL_law_744 : decode cL_law 744 = .ok (.iadd, 1) := dB_law_30.2.2.2.1
theorem dL_law_745 : decode cL_law 745 = .ok (.iaload, 1) := dB_law_30.2.2.2.2
theorem dB_law_31 : ((((decode cL_law 746 = .ok (.aload_n 0, 1)) ∧ (decode cL_law 747 = .ok (.iload_n 3, 1))) ∧ ((decode cL_law 748 = .ok (.iconst 3, 1)) ∧ (decode cL_law 749 = .ok (.iadd, 1)))) ∧ (((decode cL_law 750 = .ok (.iaload, 1)) ∧ (decode cL_law 751 = .ok (.invokevirtual 80, 3))) ∧ ((decode cL_law 754 = .ok (.pop, 1)) ∧ (decode cL_law 755 = .ok (.goto 578, 3))))) ∧ ((((decode cL_law 758 = .ok (.aload_n 1, 1)) ∧ (decode cL_law 759 = .ok (.aload_n 0, 1))) ∧ ((decode cL_law 760 = .ok (.iload_n 3, 1)) ∧ (decode cL_law 761 = .ok (.iconst 1, 1)))) ∧ (((decode cL_law 762 = .ok (.iadd, 1)) ∧ (decode cL_law 763 = .ok (.iaload, 1))) ∧ ((decode cL_law 764 = .ok (.aload_n 0, 1)) ∧ (decode cL_law 765 = .ok (.iload_n 3, 1))))) := by first | decide +kernel | ((repeat' apply And.intro) <;> decide +kernel)
theorem dL_law_746 : decode cL_law 746 = .ok (.aload_n 0, 1) := dB_law_31.1.1.1.1
theorem dL_law_747 : decode cL_law 747 = .ok (.iload_n 3, 1) := dB_law_31.1.1.1.2
theorem dL_law_748 : decode cL_law 748 = .ok (.iconst 3, 1) := dB_law_31.1.1.2.1
theorem dL_law_749 : decode cL_law 749 = .ok (.iadd, 1) := dB_law_31.1.1.2.2
theorem dL_law_750 : decode cL_law 750 = .ok (.iaload, 1) := dB_law_31.1.2.1.1
theorem dL_law_751 : decode cL_law 751 = .ok (.invokevirtual 80, 3) := dB_law_31.1.2.1.2
theorem dL_law_754 : decode cL_law 754 = .ok (.pop, 1) := dB_law_31.1.2.2.1
theorem dL_law_755 : decode cL_law 755 = .ok (.goto 578, 3) := dB_law_31.1.2.2.2
theorem dL_law_758 : decode cL_law 758 = .ok (.aload_n 1, 1) := dB_law_31.2.1.1.1
theorem dL_law_759 : decode cL_law 759 = .ok (.aload_n 0, 1) := dB_law_31.2.1.1.2
theorem dL_law_760 : decode cL_law 760 = .ok (.iload_n 3, 1) := dB_law_31.2.1.2.1
theorem dL_law_761 : decode cL_law 761 = .ok (.iconst 1, 1) := dB_law_31.2.1.2.2
theorem dL_law_762 : decode cL_law 762 = .ok (.iadd, 1) := dB_law_31.2.2.1.1
theorem dL_law_763 : decode cL_law 763 = .ok (.iaload, 1) := dB_law_31.2.2.1.2
theorem dL_law_764 : decode cL_law 764 = .ok (.aload_n 0, 1) := dB_law_31.2.2.2.1
theorem dL_law_765 : decode cL_law 765 = .ok (.iload_n 3, 1) := dB_law_31.2.2.2.2