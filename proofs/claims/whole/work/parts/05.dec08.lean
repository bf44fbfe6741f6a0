theorem d_L_law_391 : decode c_L_law 391 = .ok (.iconst 1, 1) := by decide +kernel
theorem d_L_law_392 : decode c_L_law 392 = .ok (.iadd, 1) := by decide +kernel
theorem d_L_law_393 : decode c_L_law 393 = .ok (.iaload, 1) := by decide +kernel
theorem d_L_law_394 : decode c_L_law 394 = .ok (.invokevirtual 41, 3) := by decide +kernel
theorem d_L_law_397 : decode c_L_law 397 = .ok (.aload_n 2, 1) := by decide +kernel
theorem d_L_law_398 : decode c_L_law 398 = .ok (.aload_n 0, 1) := by decide +kernel
theorem d_L_law_399 : decode c_L_law 399 = .ok (.iload_n 3, 1) := by decide +kernel
theorem d_L_law_400 : decode c_L_law 400 = .ok (.iconst 1, 1) := by decide +kernel
theorem d_L_law_401 : decode c_L_law 401 = .ok (.iadd, 1) := by decide +kernel
theorem d_L_law_402 : decode c_L_law 402 = .ok (.iaload, 1) := by decide +kernel
theorem d_L_law_403 : decode c_L_law 403 = .ok (.invokevirtual 44, 3) := by decide +kernel
theorem d_L_law_406 : decode c_L_law 406 = .ok (.if_icmp .eq 374, 3) := by decide +kernel
theorem d_L_law_409 : decode c_L_law 409 = .ok (.iconst 0, 1) := by decide +kernel
theorem d_L_law_410 : decode c_L_law 410 = .ok (.ireturn, 1) := by decide +kernel
theorem d_L_law_411 : decode c_L_law 411 = .ok (.aload_n 1, 1) := by decide +kernel
theorem d_L_law_412 : decode c_L_law 412 = .ok (.aload_n 0, 1) := by decide +kernel
theorem d_L_law_413 : decode c_L_law 413 = .ok (.iload_n 3, 1) := by decide +kernel
theorem d_L_law_414 : decode c_L_law 414 = .ok (.iconst 1, 1) := by decide +kernel
theorem d_L_law_415 : decode c_L_law 415 = .ok (.iadd, 1) := by decide +kernel
theorem d_L_law_416 : decode c_L_law 416 = .ok (.iaload, 1) := by decide +kernel
theorem d_L_law_417 : decode c_L_law 417 = .ok (.invokevirtual 45, 3) := by decide +kernel
theorem d_L_law_420 : decode c_L_law 420 = .ok (.aload_n 2, 1) := by decide +kernel
theorem d_L_law_421 : decode c_L_law 421 = .ok (.aload_n 0, 1) := by decide +kernel
theorem d_L_law_422 : decode c_L_law 422 = .ok (.iload_n 3, 1) := by decide +kernel
theorem d_L_law_423 : decode c_L_law 423 = .ok (.iconst 1, 1) := by decide +kernel
theorem d_L_law_424 : decode c_L_law 424 = .ok (.iadd, 1) := by decide +kernel
theorem d_L_law_425 : decode c_L_law 425 = .ok (.iaload, 1) := by decide +kernel
theorem d_L_law_426 : decode c_L_law 426 = .ok (.invokevirtual 49, 3) := by decide +kernel
theorem d_L_law_429 : decode c_L_law 429 = .ok (.if_icmp .eq 351, 3) := by decide +kernel
theorem d_L_law_432 : decode c_L_law 432 = .ok (.iconst 0, 1) := by decide +kernel
theorem d_L_law_433 : decode c_L_law 433 = .ok (.ireturn, 1) := by decide +kernel
theorem d_L_law_434 : decode c_L_law 434 = .ok (.aload_n 1, 1) := by decide +kernel
theorem d_L_law_435 : decode c_L_law 435 = .ok (.aload_n 0, 1) := by decide +kernel
theorem d_L_law_436 : decode c_L_law 436 = .ok (.iload_n 3, 1) := by decide +kernel
theorem d_L_law_437 : decode c_L_law 437 = .ok (.iconst 1, 1) := by decide +kernel
theorem d_L_law_438 : decode c_L_law 438 = .ok (.iadd, 1) := by decide +kernel
theorem d_L_law_439 : decode c_L_law 439 = .ok (.iaload, 1) := by decide +kernel
theorem d_L_law_440 : decode c_L_law 440 = .ok (.aload_n 0, 1) := by decide +kernel
theorem d_L_law_441 : decode c_L_law 441 = .ok (.iload_n 3, 1) := by decide +kernel
theorem d_L_law_442 : decode c_L_law 442 = .ok (.iconst 2, 1) := by decide +kernel
theorem d_L_law_443 : decode c_L_law 443 = .ok (.iadd, 1) := by decide +kernel
theorem d_L_law_444 : decode c_L_law 444 = .ok (.iaload, 1) := by decide +kernel
theorem d_L_law_445 : decode c_L_law 445 = .ok (.invokevirtual 50, 3) := by decide +kernel
theorem d_L_law_448 : decode c_L_law 448 = .ok (.aload_n 2, 1) := by decide +kernel
theorem d_L_law_449 : decode c_L_law 449 = .ok (.aload_n 0, 1) := by decide +kernel
theorem d_L_law_450 : decode c_L_law 450 = .ok (.iload_n 3, 1) := by decide +kernel
theorem d_L_law_451 : decode c_L_law 451 = .ok (.iconst 1, 1) := by decide +kernel
theorem d_L_law_452 : decode c_L_law 452 = .ok (.iadd, 1) := by decide +kernel
theorem d_L_law_453 : decode c_L_law 453 = .ok (.iaload, 1) := by decide +kernel
theorem d_L_law_454 : decode c_L_law 454 = .ok (.aload_n 0, 1) := by decide +kernel
theorem d_L_law_455 : decode c_L_law 455 = .ok (.iload_n 3, 1) := by decide +kernel
theorem d_L_law_456 : decode c_L_law 456 = .ok (.iconst 2, 1) := by decide +kernel
theorem d_L_law_457 : decode c_L_law 457 = .ok (.iadd, 1) := by decide +kernel
theorem d_L_law_458 : decode c_L_law 458 = .ok (.iaload, 1) := by decide +kernel
theorem d_L_law_459 : decode c_L_law 459 = .ok (.invokevirtual 54, 3) := by decide +kernel
theorem d_L_law_462 : decode c_L_law 462 = .ok (.if_icmp .eq 318, 3) := by decide +kernel
theorem d_L_law_465 : decode c_L_law 465 = .ok (.iconst 0, 1) := by decide +kernel
theorem d_L_law_466 : decode c_L_law 466 = .ok (.ireturn, 1) := by decide +kernel
theorem d_L_law_467 : decode c_L_law 467 = .ok (.aload_n 1, 1) := by decide +kernel
theorem d_L_law_468 : decode c_L_law 468 = .ok (.aload_n 0, 1) := by decide +kernel
theorem d_L_law_469 : decode c_L_law 469 = .ok (.iload_n 3, 1) := by decide +kernel
theorem d_L_law_470 : decode c_L_law 470 = .ok (.iconst 1, 1) := by decide +kernel
theorem d_L_law_471 : decode c_L_law 471 = .ok (.iadd, 1) := by decide +kernel
theorem d_L_law_472 : decode c_L_law 472 = .ok (.iaload, 1) := by decide +kernel
theorem d_L_law_473 : decode c_L_law 473 = .ok (.aload_n 0, 1) := by decide +kernel
theorem d_L_law_474 : decode c_L_law 474 = .ok (.iload_n 3, 1) := by decide +kernel
theorem d_L_law_475 : decode c_L_law 475 = .ok (.iconst 2, 1) := by decide +kernel
theorem d_L_law_476 : decode c_L_law 476 = .ok (.iadd, 1) := by decide +kernel
theorem d_L_law_477 : decode c_L_law 477 = .ok (.iaload, 1) := by decide +kernel
theorem d_L_law_478 : decode c_L_law 478 = .ok (.invokevirtual 55, 3) := by decide +kernel
theorem d_L_law_481 : decode c_L_law 481 = .ok (.aload_n 2, 1) := by decide +kernel
theorem d_L_law_482 : decode c_L_law 482 = .ok (.aload_n 0, 1) := by decide +kernel
theorem d_L_law_483 : decode c_L_law 483 = .ok (.iload_n 3, 1) := by decide +kernel
theorem d_L_law_484 : decode c_L_law 484 = .ok (.iconst 1, 1) := by decide +kernel
theorem d_L_law_485 : decode c_L_law 485 = .ok (.iadd, 1) := by decide +kernel
theorem d_L_law_486 : decode c_L_law 486 = .ok (.iaload, 1) := by decide +kernel
theorem d_L_law_487 : decode c_L_law 487 = .ok (.aload_n 0, 1) := by decide +kernel
theorem d_L_law_488 : decode c_L_law 488 = .ok (.iload_n 3, 1) := by decide +kernel
theorem d_L_law_489 : decode c_L_law 489 = .ok (.iconst 2, 1) := by decide +kernel
theorem d_L_law_490 : decode c_L_law 490 = .ok (.iadd, 1) := by decide +kernel
theorem d_L_law_491 : decode c_L_law 491 = .ok (.iaload, 1) := by decide +kernel
theorem d_L_law_492 : decode c_L_law 492 = .ok (.invokevirtual 59, 3) := by decide +kernel
theorem d_L_law_495 : decode c_L_law 495 = .ok (.if_icmp .eq 285, 3) := by decide +kernel
theorem d_L_law_498 : decode c_L_law 498 = .ok (.iconst 0, 1) := by decide +kernel
theorem d_L_law_499 : decode c_L_law 499 = .ok (.ireturn, 1) := by decide +kernel
theorem d_L_law_500 : decode c_L_law 500 = .ok (.aload_n 1, 1) := by decide +kernel
theorem d_L_law_501 : decode c_L_law 501 = .ok (.aload_n 0, 1) := by decide +kernel
theorem d_L_law_502 : decode c_L_law 502 = .ok (.iload_n 3, 1) := by decide +kernel
theorem d_L_law_503 : decode c_L_law 503 = .ok (.iconst 1, 1) := by decide +kernel
theorem d_L_law_504 : decode c_L_law 504 = .ok (.iadd, 1) := by decide +kernel
theorem d_L_law_505 : decode c_L_law 505 = .ok (.iaload, 1) := by decide +kernel
theorem d_L_law_506 : decode c_L_law 506 = .ok (.aload_n 0, 1) := by decide +kernel
theorem d_L_law_507 : decode c_L_law 507 = .ok (.iload_n 3, 1) := by decide +kernel
theorem d_L_law_508 : decode c_L_law 508 = .ok (.iconst 2, 1) := by decide +kernel
theorem d_L_law_509 : decode c_L_law 509 = .ok (.iadd, 1) := by decide +kernel
theorem d_L_law_510 : decode c_L_law 510 = .ok (.iaload, 1) := by decide +kernel
theorem d_L_law_511 : decode c_L_law 511 = .ok (.invokevirtual 60, 3) := by decide +kernel
theorem d_L_law_514 : decode c_L_law 514 = .ok (.aload_n 2, 1) := by decide +kernel
theorem d_L_law_515 : decode c_L_law 515 = .ok (.aload_n 0, 1) := by decide +kernel
theorem d_L_law_516 : decode c_L_law 516 = .ok (.iload_n 3, 1) := by decide +kernel
theorem d_L_law_517 : decode c_L_law 517 = .ok (.iconst 1, 1) := by decide +kernel
theorem d_L_law_518 : decode c_L_law 518 = .ok (.iadd, 1) := by decide +kernel
theorem d_L_law_519 : decode c_L_law 519 = .ok (.iaload, 1) := by decide +kernel
theorem d_L_law_520 : decode c_L_law 520 = .ok (.aload_n 0, 1) := by decide +kernel
theorem d_L_law_521 : decode c_L_law 521 = .ok (.iload_n 3, 1) := by decide +kernel
theorem d_L_law_522 : decode c_L_law 522 = .ok (.iconst 2, 1) := by decide +kernel
theorem d_L_law_523 : decode c_L_law 523 = .ok (.iadd, 1) := by decide +kernel
theorem d_L_law_524 : decode c_L_law 524 = .ok (.iaload, 1) := by decide +kernel
theorem d_L_law_525 : decode c_L_law 525 = .ok (.invokevirtual 63, 3) := by decide +kernel
theorem d_L_law_528 : decode c_L_law 528 = .ok (.if_icmp .eq 252, 3) := by decide +kernel
theorem d_L_law_531 : decode c_L_law 531 = .ok (.iconst 0, 1) := by decide +kernel
theorem d_L_law_532 : decode c_L_law 532 = .ok (.ireturn, 1) := by decide +kernel
theorem d_L_law_533 : decode c_L_law 533 = .ok (.aload_n 1, 1) := by decide +kernel
theorem d_L_law_534 : decode c_L_law 534 = .ok (.aload_n 0, 1) := by decide +kernel
theorem d_L_law_535 : decode c_L_law 535 = .ok (.iload_n 3, 1) := by decide +kernel
theorem d_L_law_536 : decode c_L_law 536 = .ok (.iconst 1, 1) := by decide +kernel
theorem d_L_law_537 : decode c_L_law 537 = .ok (.iadd, 1) := by decide +kernel
theorem d_L_law_538 : decode c_L_law 538 = .ok (.iaload, 1) := by decide +kernel
theorem d_L_law_539 : decode c_L_law 539 = .ok (.invokevirtual 64, 3) := by decide +kernel
theorem d_L_law_542 : decode c_L_law 542 = .ok (.aload_n 2, 1) := by decide +kernel
theorem d_L_law_543 : decode c_L_law 543 = .ok (.aload_n 0, 1) := by decide +kernel
theorem d_L_law_544 : decode c_L_law 544 = .ok (.iload_n 3, 1) := by decide +kernel
theorem d_L_law_545 : decode c_L_law 545 = .ok (.iconst 1, 1) := by decide +kernel
theorem d_L_law_546 : decode c_L_law 546 = .ok (.iadd, 1) := by decide +kernel
theorem d_L_law_547 : decode c_L_law 547 = .ok (.iaload, 1) := by decide +kernel
theorem d_L_law_548 : decode c_L_law 548 = .ok (.invokevirtual 67, 3) := by decide +kernel
theorem d_L_law_551 : decode c_L_law 551 = .ok (.if_icmp .eq 229, 3) := by decide +kernel
theorem d_L_law_554 : decode c_L_law 554 = .ok (.iconst 0, 1) := by decide +kernel
theorem d_L_law_555 : decode c_L_law 555 = .ok (.ireturn, 1) := by decide +kernel
theorem d_L_law_556 : decode c_L_law 556 = .ok (.aload_n 1, 1) := by decide +kernel
theorem d_L_law_557 : decode c_L_law 557 = .ok (.aload_n 0, 1) := by decide +kernel
theorem d_L_law_558 : decode c_L_law 558 = .ok (.iload_n 3, 1) := by decide +kernel
theorem d_L_law_559 : decode c_L_law 559 = .ok (.iconst 1, 1) := by decide +kernel
theorem d_L_law_560 : decode c_L_law 560 = .ok (.iadd, 1) := by decide +kernel
theorem d_L_law_561 : decode c_L_law 561 = .ok (.iaload, 1) := by decide +kernel
theorem d_L_law_562 : decode c_L_law 562 = .ok (.aload_n 0, 1) := by decide +kernel
theorem d_L_law_563 : decode c_L_law 563 = .ok (.iload_n 3, 1) := by decide +kernel
theorem d_L_law_564 : decode c_L_law 564 = .ok (.iconst 2, 1) := by decide +kernel
theorem d_L_law_565 : decode c_L_law 565 = .ok (.iadd, 1) := by decide +kernel
theorem d_L_law_566 : decode c_L_law 566 = .ok (.iaload, 1) := by decide +kernel
theorem d_L_law_567 : decode c_L_law 567 = .ok (.invokevirtual 68, 3) := by decide +kernel
theorem d_L_law_570 : decode c_L_law 570 = .ok (.aload_n 2, 1) := by decide +kernel
theorem d_L_law_571 : decode c_L_law 571 = .ok (.aload_n 0, 1) := by decide +kernel
theorem d_L_law_572 : decode c_L_law 572 = .ok (.iload_n 3, 1) := by decide +kernel
theorem d_L_law_573 : decode c_L_law 573 = .ok (.iconst 1, 1) := by decide +kernel
theorem d_L_law_574 : decode c_L_law 574 = .ok (.iadd, 1) := by decide +kernel
theorem d_L_law_575 : decode c_L_law 575 = .ok (.iaload, 1) := by decide +kernel
theorem d_L_law_576 : decode c_L_law 576 = .ok (.aload_n 0, 1) := by decide +kernel
theorem d_L_law_577 : decode c_L_law 577 = .ok (.iload_n 3, 1) := by decide +kernel
theorem d_L_law_578 : decode c_L_law 578 = .ok (.iconst 2, 1) := by decide +kernel
theorem d_L_law_579 : decode c_L_law 579 = .ok (.iadd, 1) := by decide +kernel
theorem d_L_law_580 : decode c_L_law 580 = .ok (.iaload, 1) := by decide +kernel
theorem d_L_law_581 : decode c_L_law 581 = .ok (.invokevirtual 71, 3) := by decide +kernel
theorem d_L_law_584 : decode c_L_law 584 = .ok (.if_icmp .eq 196, 3) := by decide +kernel
theorem d_L_law_587 : decode c_L_law 587 = .ok (.iconst 0, 1) := by decide +kernel
theorem d_L_law_588 : decode c_L_law 588 = .ok (.ireturn, 1) := by decide +kernel
theorem d_L_law_589 : decode c_L_law 589 = .ok (.aload_n 1, 1) := by decide +kernel
theorem d_L_law_590 : decode c_L_law 590 = .ok (.aload_n 0, 1) := by decide +kernel
theorem d_L_law_591 : decode c_L_law 591 = .ok (.iload_n 3, 1) := by decide +kernel
theorem d_L_law_592 : decode c_L_law 592 = .ok (.iconst 1, 1) := by decide +kernel
theorem d_L_law_593 : decode c_L_law 593 = .ok (.iadd, 1) := by decide +kernel
theorem d_L_law_594 : decode c_L_law 594 = .ok (.iaload, 1) := by decide +kernel
theorem d_L_law_595 : decode c_L_law 595 = .ok (.invokevirtual 72, 3) := by decide +kernel
theorem d_L_law_598 : decode c_L_law 598 = .ok (.aload_n 2, 1) := by decide +kernel
theorem d_L_law_599 : decode c_L_law 599 = .ok (.aload_n 0, 1) := by decide +kernel
theorem d_L_law_600 : decode c_L_law 600 = .ok (.iload_n 3, 1) := by decide +kernel
theorem d_L_law_601 : decode c_L_law 601 = .ok (.iconst 1, 1) := by decide +kernel
theorem d_L_law_602 : decode c_L_law 602 = .ok (.iadd, 1) := by decide +kernel
theorem d_L_law_603 : decode c_L_law 603 = .ok (.iaload, 1) := by decide +kernel
theorem d_L_law_604 : decode c_L_law 604 = .ok (.invokevirtual 75, 3) := by decide +kernel
theorem d_L_law_607 : decode c_L_law 607 = .ok (.if_icmp .eq 173, 3) := by decide +kernel
theorem d_L_law_610 : decode c_L_law 610 = .ok (.iconst 0, 1) := by decide +kernel
theorem d_L_law_611 : decode c_L_law 611 = .ok (.ireturn, 1) := by decide +kernel
theorem d_L_law_612 : decode c_L_law 612 = .ok (.aload_n 1, 1) := by decide +kernel
theorem d_L_law_613 : decode c_L_law 613 = .ok (.aload_n 0, 1) := by decide +kernel
theorem d_L_law_614 : decode c_L_law 614 = .ok (.iload_n 3, 1) := by decide +kernel
theorem d_L_law_615 : decode c_L_law 615 = .ok (.iconst 1, 1) := by decide +kernel
theorem d_L_law_616 : decode c_L_law 616 = .ok (.iadd, 1) := by decide +kernel
theorem d_L_law_617 : decode c_L_law 617 = .ok (.iaload, 1) := by decide +kernel
theorem d_L_law_618 : decode c_L_law 618 = .ok (.aload_n 0, 1) := by decide +kernel
theorem d_L_law_619 : decode c_L_law 619 = .ok (.iload_n 3, 1) := by decide +kernel
theorem d_L_law_620 : decode c_L_law 620 = .ok (.iconst 2, 1) := by decide +kernel
theorem d_L_law_621 : decode c_L_law 621 = .ok (.iadd, 1) := by decide +kernel
theorem d_L_law_622 : decode c_L_law 622 = .ok (.iaload, 1) := by decide +kernel
theorem d_L_law_623 : decode c_L_law 623 = .ok (.invokevirtual 76, 3) := by decide +kernel
theorem d_L_law_626 : decode c_L_law 626 = .ok (.aload_n 2, 1) := by decide +kernel
theorem d_L_law_627 : decode c_L_law 627 = .ok (.aload_n 0, 1) := by decide +kernel
theorem d_L_law_628 : decode c_L_law 628 = .ok (.iload_n 3, 1) := by decide +kernel
theorem d_L_law_629 : decode c_L_law 629 = .ok (.iconst 1, 1) := by decide +kernel
theorem d_L_law_630 : decode c_L_law 630 = .ok (.iadd, 1) := by decide +kernel
theorem d_L_law_631 : decode c_L_law 631 = .ok (.iaload, 1) := by decide +kernel
theorem d_L_law_632 : decode c_L_law 632 = .ok (.aload_n 0, 1) := by decide +kernel
theorem d_L_law_633 : decode c_L_law 633 = .ok (.iload_n 3, 1) := by decide +kernel
theorem d_L_law_634 : decode c_L_law 634 = .ok (.iconst 2, 1) := by decide +kernel
theorem d_L_law_635 : decode c_L_law 635 = .ok (.iadd, 1) := by decide +kernel
theorem d_L_law_636 : decode c_L_law 636 = .ok (.iaload, 1) := by decide +kernel
theorem d_L_law_637 : decode c_L_law 637 = .ok (.invokevirtual 79, 3) := by decide +kernel
theorem d_L_law_640 : decode c_L_law 640 = .ok (.if_icmp .eq 140, 3) := by decide +kernel
theorem d_L_law_643 : decode c_L_law 643 = .ok (.iconst 0, 1) := by decide +kernel
theorem d_L_law_644 : decode c_L_law 644 = .ok (.ireturn, 1) := by decide +kernel
theorem d_L_law_645 : decode c_L_law 645 = .ok (.aload_n 1, 1) := by decide +kernel
theorem d_L_law_646 : decode c_L_law 646 = .ok (.aload_n 0, 1) := by decide +kernel
theorem d_L_law_647 : decode c_L_law 647 = .ok (.iload_n 3, 1) := by decide +kernel
theorem d_L_law_648 : decode c_L_law 648 = .ok (.iconst 1, 1) := by decide +kernel
theorem d_L_law_649 : decode c_L_law 649 = .ok (.iadd, 1) := by decide +kernel
theorem d_L_law_650 : decode c_L_law 650 = .ok (.iaload, 1) := by decide +kernel
theorem d_L_law_651 : decode c_L_law 651 = .ok (.aload_n 0, 1) := by decide +kernel
theorem d_L_law_652 : decode c_L_law 652 = .ok (.iload_n 3, 1) := by decide +kernel
theorem d_L_law_653 : decode c_L_law 653 = .ok (.iconst 2, 1) := by decide +kernel
theorem d_L_law_654 : decode c_L_law 654 = .ok (.iadd, 1) := by decide +kernel
theorem d_L_law_655 : decode c_L_law 655 = .ok (.iaload, 1) := by decide +kernel
theorem d_L_law_656 : decode c_L_law 656 = .ok (.aload_n 0, 1) := by decide +kernel
theorem d_L_law_657 : decode c_L_law 657 = .ok (.iload_n 3, 1) := by decide +kernel
theorem d_L_law_658 : decode c_L_law 658 = .ok (.iconst 3, 1) := by decide +kernel
theorem d_L_law_659 : decode c_L_law 659 = .ok (.iadd, 1) := by decide +kernel
theorem d_L_law_660 : decode c_L_law 660 = .ok (.iaload, 1) := by decide +kernel
theorem d_L_law_661 : decode c_L_law 661 = .ok (.invokevirtual 80, 3) := by decide +kernel
theorem d_L_law_664 : decode c_L_law 664 = .ok (.aload_n 2, 1) := by decide +kernel
theorem d_L_law_665 : decode c_L_law 665 = .ok (.aload_n 0, 1) := by decide +kernel
theorem d_L_law_666 : decode c_L_law 666 = .ok (.iload_n 3, 1) := by decide +kernel
theorem d_L_law_667 : decode c_L_law 667 = .ok (.iconst 1, 1) := by decide +kernel
theorem d_L_law_668 : decode c_L_law 668 = .ok (.iadd, 1) := by decide +kernel
theorem d_L_law_669 : decode c_L_law 669 = .ok (.iaload, 1) := by decide +kernel
theorem d_L_law_670 : decode c_L_law 670 = .ok (.aload_n 0, 1) := by decide +kernel
theorem d_L_law_671 : decode c_L_law 671 = .ok (.iload_n 3, 1) := by decide +kernel
theorem d_L_law_672 : decode c_L_law 672 = .ok (.iconst 2, 1) := by decide +kernel
theorem d_L_law_673 : decode c_L_law 673 = .ok (.iadd, 1) := by decide +kernel
theorem d_L_law_674 : decode c_L_law 674 = .ok (.iaload, 1) := by decide +kernel
theorem d_L_law_675 : decode c_L_law 675 = .ok (.aload_n 0, 1) := by decide +kernel
theorem d_L_law_676 : decode c_L_law 676 = .ok (.iload_n 3, 1) := by decide +kernel
theorem d_L_law_677 : decode c_L_law 677 = .ok (.iconst 3, 1) := by decide +kernel
theorem d_L_law_678 : decode c_L_law 678 = .ok (.iadd, 1) := by decide +kernel
theorem d_L_law_679 : decode c_L_law 679 = .ok (.iaload, 1) := by decide +kernel
theorem d_L_law_680 : decode c_L_law 680 = .ok (.invokevirtual 83, 3) := by decide +kernel
theorem d_L_law_683 : decode c_L_law 683 = .ok (.if_icmp .eq 97, 3) := by decide +kernel
theorem d_L_law_686 : decode c_L_law 686 = .ok (.iconst 0, 1) := by decide +kernel
theorem d_L_law_687 : decode c_L_law 687 = .ok (.ireturn, 1) := by decide +kernel
theorem d_L_law_688 : decode c_L_law 688 = .ok (.aload_n 1, 1) := by decide +kernel
theorem d_L_law_689 : decode c_L_law 689 = .ok (.aload_n 0, 1) := by decide +kernel
theorem d_L_law_690 : decode c_L_law 690 = .ok (.iload_n 3, 1) := by decide +kernel
theorem d_L_law_691 : decode c_L_law 691 = .ok (.iconst 1, 1) := by decide +kernel
theorem d_L_law_692 : decode c_L_law 692 = .ok (.iadd, 1) := by decide +kernel
theorem d_L_law_693 : decode c_L_law 693 = .ok (.iaload, 1) := by decide +kernel
theorem d_L_law_694 : decode c_L_law 694 = .ok (.invokevirtual 84, 3) := by decide +kernel
theorem d_L_law_697 : decode c_L_law 697 = .ok (.aload_n 2, 1) := by decide +kernel
theorem d_L_law_698 : decode c_L_law 698 = .ok (.aload_n 0, 1) := by decide +kernel
theorem d_L_law_699 : decode c_L_law 699 = .ok (.iload_n 3, 1) := by decide +kernel
theorem d_L_law_700 : decode c_L_law 700 = .ok (.iconst 1, 1) := by decide +kernel
theorem d_L_law_701 : decode c_L_law 701 = .ok (.iadd, 1) := by decide +kernel
theorem d_L_law_702 : decode c_L_law 702 = .ok (.iaload, 1) := by decide +kernel
theorem d_L_law_703 : decode c_L_law 703 = .ok (.invokevirtual 87, 3) := by decide +kernel
theorem d_L_law_706 : decode c_L_law 706 = .ok (.if_icmp .eq 74, 3) := by decide +kernel
theorem d_L_law_709 : decode c_L_law 709 = .ok (.iconst 0, 1) := by decide +kernel
theorem d_L_law_710 : decode c_L_law 710 = .ok (.ireturn, 1) := by decide +kernel
theorem d_L_law_711 : decode c_L_law 711 = .ok (.aload_n 1, 1) := by decide +kernel
theorem d_L_law_712 : decode c_L_law 712 = .ok (.aload_n 0, 1) := by decide +kernel
theorem d_L_law_713 : decode c_L_law 713 = .ok (.iload_n 3, 1) := by decide +kernel
theorem d_L_law_714 : decode c_L_law 714 = .ok (.iconst 1, 1) := by decide +kernel
theorem d_L_law_715 : decode c_L_law 715 = .ok (.iadd, 1) := by decide +kernel
theorem d_L_law_716 : decode c_L_law 716 = .ok (.iaload, 1) := by decide +kernel
theorem d_L_law_717 : decode c_L_law 717 = .ok (.invokevirtual 88, 3) := by decide +kernel
theorem d_L_law_720 : decode c_L_law 720 = .ok (.aload_n 2, 1) := by decide +kernel
theorem d_L_law_721 : decode c_L_law 721 = .ok (.aload_n 0, 1) := by decide +kernel
theorem d_L_law_722 : decode c_L_law 722 = .ok (.iload_n 3, 1) := by decide +kernel
theorem d_L_law_723 : decode c_L_law 723 = .ok (.iconst 1, 1) := by decide +kernel
theorem d_L_law_724 : decode c_L_law 724 = .ok (.iadd, 1) := by decide +kernel
theorem d_L_law_725 : decode c_L_law 725 = .ok (.iaload, 1) := by decide +kernel
theorem d_L_law_726 : decode c_L_law 726 = .ok (.invokevirtual 91, 3) := by decide +kernel
theorem d_L_law_729 : decode c_L_law 729 = .ok (.if_icmp .eq 51, 3) := by decide +kernel
theorem d_L_law_732 : decode c_L_law 732 = .ok (.iconst 0, 1) := by decide +kernel
theorem d_L_law_733 : decode c_L_law 733 = .ok (.ireturn, 1) := by decide +kernel
theorem d_L_law_734 : decode c_L_law 734 = .ok (.aload_n 1, 1) := by decide +kernel
theorem d_L_law_735 : decode c_L_law 735 = .ok (.aload_n 0, 1) := by decide +kernel
theorem d_L_law_736 : decode c_L_law 736 = .ok (.iload_n 3, 1) := by decide +kernel
theorem d_L_law_737 : decode c_L_law 737 = .ok (.iconst 1, 1) := by decide +kernel
theorem d_L_law_738 : decode c_L_law 738 = .ok (.iadd, 1) := by decide +kernel
theorem d_L_law_739 : decode c_L_law 739 = .ok (.iaload, 1) := by decide +kernel
theorem d_L_law_740 : decode c_L_law 740 = .ok (.invokevirtual 92, 3) := by decide +kernel
theorem d_L_law_743 : decode c_L_law 743 = .ok (.aload_n 2, 1) := by decide +kernel
theorem d_L_law_744 : decode c_L_law 744 = .ok (.aload_n 0, 1) := by decide +kernel
theorem d_L_law_745 : decode c_L_law 745 = .ok (.iload_n 3, 1) := by decide +kernel
theorem d_L_law_746 : decode c_L_law 746 = .ok (.iconst 1, 1) := by decide +kernel
theorem d_L_law_747 : decode c_L_law 747 = .ok (.iadd, 1) := by decide +kernel
theorem d_L_law_748 : decode c_L_law 748 = .ok (.iaload, 1) := by decide +kernel
theorem d_L_law_749 : decode c_L_law 749 = .ok (.invokevirtual 95, 3) := by decide +kernel
theorem d_L_law_752 : decode c_L_law 752 = .ok (.if_icmp .eq 28, 3) := by decide +kernel
theorem d_L_law_755 : decode c_L_law 755 = .ok (.iconst 0, 1) := by decide +kernel
theorem d_L_law_756 : decode c_L_law 756 = .ok (.ireturn, 1) := by decide +kernel
theorem d_L_law_757 : decode c_L_law 757 = .ok (.aload_n 1, 1) := by decide +kernel
theorem d_L_law_758 : decode c_L_law 758 = .ok (.aload_n 0, 1) := by decide +kernel
theorem d_L_law_759 : decode c_L_law 759 = .ok (.iload_n 3, 1) := by decide +kernel
theorem d_L_law_760 : decode c_L_law 760 = .ok (.iconst 1, 1) := by decide +kernel
theorem d_L_law_761 : decode c_L_law 761 = .ok (.iadd, 1) := by decide +kernel
theorem d_L_law_762 : decode c_L_law 762 = .ok (.iaload, 1) := by decide +kernel
theorem d_L_law_763 : decode c_L_law 763 = .ok (.invokevirtual 96, 3) := by decide +kernel
theorem d_L_law_766 : decode c_L_law 766 = .ok (.aload_n 2, 1) := by decide +kernel
theorem d_L_law_767 : decode c_L_law 767 = .ok (.aload_n 0, 1) := by decide +kernel
theorem d_L_law_768 : decode c_L_law 768 = .ok (.iload_n 3, 1) := by decide +kernel
theorem d_L_law_769 : decode c_L_law 769 = .ok (.iconst 1, 1) := by decide +kernel
theorem d_L_law_770 : decode c_L_law 770 = .ok (.iadd, 1) := by decide +kernel
theorem d_L_law_771 : decode c_L_law 771 = .ok (.iaload, 1) := by decide +kernel
theorem d_L_law_772 : decode c_L_law 772 = .ok (.invokevirtual 99, 3) := by decide +kernel
theorem d_L_law_775 : decode c_L_law 775 = .ok (.if_icmp .eq 5, 3) := by decide +kernel
theorem d_L_law_778 : decode c_L_law 778 = .ok (.iconst 0, 1) := by decide +kernel
theorem d_L_law_779 : decode c_L_law 779 = .ok (.ireturn, 1) := by decide +kernel
theorem d_L_law_780 : decode c_L_law 780 = .ok (.iinc 3 4, 3) := by decide +kernel
theorem d_L_law_783 : decode c_L_law 783 = .ok (.goto (-765), 3) := by decide +kernel
theorem d_L_law_786 : decode c_L_law 786 = .ok (.iconst 1, 1) := by decide +kernel
theorem d_L_law_787 : decode c_L_law 787 = .ok (.ireturn, 1) := by decide +kernel
theorem d_A_fill_0 : decode c_A_fill 0 = .ok (.iconst 0, 1) := by decide +kernel
theorem d_A_fill_1 : decode c_A_fill 1 = .ok (.istore_n 2, 1) := by decide +kernel
theorem d_A_fill_2 : decode c_A_fill 2 = .ok (.aload_n 0, 1) := by decide +kernel
theorem d_A_fill_3 : decode c_A_fill 3 = .ok (.arraylength, 1) := by decide +kernel
theorem d_A_fill_4 : decode c_A_fill 4 = .ok (.istore_n 3, 1) := by decide +kernel
theorem d_A_fill_5 : decode c_A_fill 5 = .ok (.iload_n 2, 1) := by decide +kernel
theorem d_A_fill_6 : decode c_A_fill 6 = .ok (.iload_n 3, 1) := by decide +kernel
theorem d_A_fill_7 : decode c_A_fill 7 = .ok (.if_icmp .ge 13, 3) := by decide +kernel
theorem d_A_fill_10 : decode c_A_fill 10 = .ok (.aload_n 0, 1) := by decide +kernel
theorem d_A_fill_11 : decode c_A_fill 11 = .ok (.iload_n 2, 1) := by decide +kernel
theorem d_A_fill_12 : decode c_A_fill 12 = .ok (.iload_n 1, 1) := by decide +kernel
theorem d_A_fill_13 : decode c_A_fill 13 = .ok (.iastore, 1) := by decide +kernel
theorem d_A_fill_14 : decode c_A_fill 14 = .ok (.iinc 2 1, 3) := by decide +kernel
theorem d_A_fill_17 : decode c_A_fill 17 = .ok (.goto (-12), 3) := by decide +kernel
theorem d_A_fill_20 : decode c_A_fill 20 = .ok (.return_, 1) := by decide +kernel
