theorem d_L_law_378 : decode code 378 = .ok (.iadd, 1) := by decide +kernel
theorem d_L_law_379 : decode code 379 = .ok (.iaload, 1) := by decide +kernel
theorem d_L_law_380 : decode code 380 = .ok (.invokevirtual 82, 3) := by decide +kernel
theorem d_L_law_383 : decode code 383 = .ok (.istore 6, 2) := by decide +kernel
theorem d_L_law_385 : decode code 385 = .ok (.aload_n 2, 1) := by decide +kernel
theorem d_L_law_386 : decode code 386 = .ok (.invokevirtual 69, 3) := by decide +kernel
theorem d_L_law_389 : decode code 389 = .ok (.iload 5, 2) := by decide +kernel
theorem d_L_law_391 : decode code 391 = .ok (.if_icmp .eq (5), 3) := by decide +kernel
theorem d_L_law_394 : decode code 394 = .ok (.iconst 0, 1) := by decide +kernel
theorem d_L_law_395 : decode code 395 = .ok (.ireturn, 1) := by decide +kernel
theorem d_L_law_396 : decode code 396 = .ok (.iload 5, 2) := by decide +kernel
theorem d_L_law_398 : decode code 398 = .ok (.ifCond .ne (15), 3) := by decide +kernel
theorem d_L_law_401 : decode code 401 = .ok (.aload_n 3, 1) := by decide +kernel
theorem d_L_law_402 : decode code 402 = .ok (.iconst 0, 1) := by decide +kernel
theorem d_L_law_403 : decode code 403 = .ok (.laload, 1) := by decide +kernel
theorem d_L_law_404 : decode code 404 = .ok (.iload 6, 2) := by decide +kernel
theorem d_L_law_406 : decode code 406 = .ok (.i2l, 1) := by decide +kernel
theorem d_L_law_407 : decode code 407 = .ok (.lcmp, 1) := by decide +kernel
theorem d_L_law_408 : decode code 408 = .ok (.ifCond .eq (5), 3) := by decide +kernel
theorem d_L_law_411 : decode code 411 = .ok (.iconst 0, 1) := by decide +kernel
theorem d_L_law_412 : decode code 412 = .ok (.ireturn, 1) := by decide +kernel
theorem d_L_law_413 : decode code 413 = .ok (.goto (558), 3) := by decide +kernel
theorem d_L_law_416 : decode code 416 = .ok (.aload_n 1, 1) := by decide +kernel
theorem d_L_law_417 : decode code 417 = .ok (.aload_n 0, 1) := by decide +kernel
theorem d_L_law_418 : decode code 418 = .ok (.iload 4, 2) := by decide +kernel
theorem d_L_law_420 : decode code 420 = .ok (.iconst 1, 1) := by decide +kernel
theorem d_L_law_421 : decode code 421 = .ok (.iadd, 1) := by decide +kernel
theorem d_L_law_422 : decode code 422 = .ok (.iaload, 1) := by decide +kernel
theorem d_L_law_423 : decode code 423 = .ok (.aload_n 3, 1) := by decide +kernel
theorem d_L_law_424 : decode code 424 = .ok (.invokestatic 83, 3) := by decide +kernel
theorem d_L_law_427 : decode code 427 = .ok (.istore 5, 2) := by decide +kernel
theorem d_L_law_429 : decode code 429 = .ok (.aload_n 2, 1) := by decide +kernel
theorem d_L_law_430 : decode code 430 = .ok (.aload_n 0, 1) := by decide +kernel
theorem d_L_law_431 : decode code 431 = .ok (.iload 4, 2) := by decide +kernel
theorem d_L_law_433 : decode code 433 = .ok (.iconst 1, 1) := by decide +kernel
theorem d_L_law_434 : decode code 434 = .ok (.iadd, 1) := by decide +kernel
theorem d_L_law_435 : decode code 435 = .ok (.iaload, 1) := by decide +kernel
theorem d_L_law_436 : decode code 436 = .ok (.invokevirtual 85, 3) := by decide +kernel
theorem d_L_law_439 : decode code 439 = .ok (.istore 6, 2) := by decide +kernel
theorem d_L_law_441 : decode code 441 = .ok (.aload_n 2, 1) := by decide +kernel
theorem d_L_law_442 : decode code 442 = .ok (.invokevirtual 69, 3) := by decide +kernel
theorem d_L_law_445 : decode code 445 = .ok (.iload 5, 2) := by decide +kernel
theorem d_L_law_447 : decode code 447 = .ok (.if_icmp .eq (5), 3) := by decide +kernel
theorem d_L_law_450 : decode code 450 = .ok (.iconst 0, 1) := by decide +kernel
theorem d_L_law_451 : decode code 451 = .ok (.ireturn, 1) := by decide +kernel
theorem d_L_law_452 : decode code 452 = .ok (.iload 5, 2) := by decide +kernel
theorem d_L_law_454 : decode code 454 = .ok (.ifCond .ne (15), 3) := by decide +kernel
theorem d_L_law_457 : decode code 457 = .ok (.aload_n 3, 1) := by decide +kernel
theorem d_L_law_458 : decode code 458 = .ok (.iconst 0, 1) := by decide +kernel
theorem d_L_law_459 : decode code 459 = .ok (.laload, 1) := by decide +kernel
theorem d_L_law_460 : decode code 460 = .ok (.iload 6, 2) := by decide +kernel
theorem d_L_law_462 : decode code 462 = .ok (.i2l, 1) := by decide +kernel
theorem d_L_law_463 : decode code 463 = .ok (.lcmp, 1) := by decide +kernel
theorem d_L_law_464 : decode code 464 = .ok (.ifCond .eq (5), 3) := by decide +kernel
theorem d_L_law_467 : decode code 467 = .ok (.iconst 0, 1) := by decide +kernel
theorem d_L_law_468 : decode code 468 = .ok (.ireturn, 1) := by decide +kernel
theorem d_L_law_469 : decode code 469 = .ok (.goto (502), 3) := by decide +kernel
theorem d_L_law_472 : decode code 472 = .ok (.aload_n 1, 1) := by decide +kernel
theorem d_L_law_473 : decode code 473 = .ok (.aload_n 0, 1) := by decide +kernel
theorem d_L_law_474 : decode code 474 = .ok (.iload 4, 2) := by decide +kernel
theorem d_L_law_476 : decode code 476 = .ok (.iconst 1, 1) := by decide +kernel
theorem d_L_law_477 : decode code 477 = .ok (.iadd, 1) := by decide +kernel
theorem d_L_law_478 : decode code 478 = .ok (.iaload, 1) := by decide +kernel
theorem d_L_law_479 : decode code 479 = .ok (.aload_n 3, 1) := by decide +kernel
theorem d_L_law_480 : decode code 480 = .ok (.invokestatic 86, 3) := by decide +kernel
theorem d_L_law_483 : decode code 483 = .ok (.istore 5, 2) := by decide +kernel
theorem d_L_law_485 : decode code 485 = .ok (.aload_n 2, 1) := by decide +kernel
theorem d_L_law_486 : decode code 486 = .ok (.aload_n 0, 1) := by decide +kernel
theorem d_L_law_487 : decode code 487 = .ok (.iload 4, 2) := by decide +kernel
theorem d_L_law_489 : decode code 489 = .ok (.iconst 1, 1) := by decide +kernel
theorem d_L_law_490 : decode code 490 = .ok (.iadd, 1) := by decide +kernel
theorem d_L_law_491 : decode code 491 = .ok (.iaload, 1) := by decide +kernel
theorem d_L_law_492 : decode code 492 = .ok (.invokevirtual 88, 3) := by decide +kernel
theorem d_L_law_495 : decode code 495 = .ok (.istore 6, 2) := by decide +kernel
theorem d_L_law_497 : decode code 497 = .ok (.aload_n 2, 1) := by decide +kernel
theorem d_L_law_498 : decode code 498 = .ok (.invokevirtual 69, 3) := by decide +kernel
theorem d_L_law_501 : decode code 501 = .ok (.iload 5, 2) := by decide +kernel
theorem d_L_law_503 : decode code 503 = .ok (.if_icmp .eq (5), 3) := by decide +kernel
theorem d_L_law_506 : decode code 506 = .ok (.iconst 0, 1) := by decide +kernel
theorem d_L_law_507 : decode code 507 = .ok (.ireturn, 1) := by decide +kernel
theorem d_L_law_508 : decode code 508 = .ok (.iload 5, 2) := by decide +kernel
theorem d_L_law_510 : decode code 510 = .ok (.ifCond .ne (15), 3) := by decide +kernel
theorem d_L_law_513 : decode code 513 = .ok (.aload_n 3, 1) := by decide +kernel
theorem d_L_law_514 : decode code 514 = .ok (.iconst 0, 1) := by decide +kernel
theorem d_L_law_515 : decode code 515 = .ok (.laload, 1) := by decide +kernel
theorem d_L_law_516 : decode code 516 = .ok (.iload 6, 2) := by decide +kernel
theorem d_L_law_518 : decode code 518 = .ok (.i2l, 1) := by decide +kernel
theorem d_L_law_519 : decode code 519 = .ok (.lcmp, 1) := by decide +kernel
theorem d_L_law_520 : decode code 520 = .ok (.ifCond .eq (5), 3) := by decide +kernel
theorem d_L_law_523 : decode code 523 = .ok (.iconst 0, 1) := by decide +kernel
theorem d_L_law_524 : decode code 524 = .ok (.ireturn, 1) := by decide +kernel
theorem d_L_law_525 : decode code 525 = .ok (.goto (446), 3) := by decide +kernel
theorem d_L_law_528 : decode code 528 = .ok (.aload_n 1, 1) := by decide +kernel
theorem d_L_law_529 : decode code 529 = .ok (.invokevirtual 89, 3) := by decide +kernel
theorem d_L_law_532 : decode code 532 = .ok (.aload_n 2, 1) := by decide +kernel
theorem d_L_law_533 : decode code 533 = .ok (.invokevirtual 92, 3) := by decide +kernel
theorem d_L_law_536 : decode code 536 = .ok (.if_icmp .eq (435), 3) := by decide +kernel
theorem d_L_law_539 : decode code 539 = .ok (.iconst 0, 1) := by decide +kernel
theorem d_L_law_540 : decode code 540 = .ok (.ireturn, 1) := by decide +kernel
theorem d_L_law_541 : decode code 541 = .ok (.aload_n 1, 1) := by decide +kernel
theorem d_L_law_542 : decode code 542 = .ok (.invokevirtual 93, 3) := by decide +kernel
theorem d_L_law_545 : decode code 545 = .ok (.aload_n 2, 1) := by decide +kernel
theorem d_L_law_546 : decode code 546 = .ok (.invokevirtual 96, 3) := by decide +kernel
theorem d_L_law_549 : decode code 549 = .ok (.if_icmp .eq (422), 3) := by decide +kernel
theorem d_L_law_552 : decode code 552 = .ok (.iconst 0, 1) := by decide +kernel
theorem d_L_law_553 : decode code 553 = .ok (.ireturn, 1) := by decide +kernel
theorem d_L_law_554 : decode code 554 = .ok (.aload_n 1, 1) := by decide +kernel
theorem d_L_law_555 : decode code 555 = .ok (.aload_n 0, 1) := by decide +kernel
theorem d_L_law_556 : decode code 556 = .ok (.iload 4, 2) := by decide +kernel
theorem d_L_law_558 : decode code 558 = .ok (.iconst 1, 1) := by decide +kernel
theorem d_L_law_559 : decode code 559 = .ok (.iadd, 1) := by decide +kernel
theorem d_L_law_560 : decode code 560 = .ok (.iaload, 1) := by decide +kernel
theorem d_L_law_561 : decode code 561 = .ok (.aload_n 3, 1) := by decide +kernel
theorem d_L_law_562 : decode code 562 = .ok (.invokestatic 97, 3) := by decide +kernel
theorem d_L_law_565 : decode code 565 = .ok (.istore 5, 2) := by decide +kernel
theorem d_L_law_567 : decode code 567 = .ok (.aload_n 2, 1) := by decide +kernel
theorem d_L_law_568 : decode code 568 = .ok (.aload_n 0, 1) := by decide +kernel
theorem d_L_law_569 : decode code 569 = .ok (.iload 4, 2) := by decide +kernel
theorem d_L_law_571 : decode code 571 = .ok (.iconst 1, 1) := by decide +kernel
theorem d_L_law_572 : decode code 572 = .ok (.iadd, 1) := by decide +kernel
theorem d_L_law_573 : decode code 573 = .ok (.iaload, 1) := by decide +kernel
theorem d_L_law_574 : decode code 574 = .ok (.invokevirtual 99, 3) := by decide +kernel
theorem d_L_law_577 : decode code 577 = .ok (.istore 6, 2) := by decide +kernel
theorem d_L_law_579 : decode code 579 = .ok (.aload_n 2, 1) := by decide +kernel
theorem d_L_law_580 : decode code 580 = .ok (.invokevirtual 69, 3) := by decide +kernel
theorem d_L_law_583 : decode code 583 = .ok (.iload 5, 2) := by decide +kernel
theorem d_L_law_585 : decode code 585 = .ok (.if_icmp .eq (5), 3) := by decide +kernel
theorem d_L_law_588 : decode code 588 = .ok (.iconst 0, 1) := by decide +kernel
theorem d_L_law_589 : decode code 589 = .ok (.ireturn, 1) := by decide +kernel
theorem d_L_law_590 : decode code 590 = .ok (.iload 5, 2) := by decide +kernel
theorem d_L_law_592 : decode code 592 = .ok (.ifCond .ne (15), 3) := by decide +kernel
theorem d_L_law_595 : decode code 595 = .ok (.aload_n 3, 1) := by decide +kernel
theorem d_L_law_596 : decode code 596 = .ok (.iconst 0, 1) := by decide +kernel
theorem d_L_law_597 : decode code 597 = .ok (.laload, 1) := by decide +kernel
theorem d_L_law_598 : decode code 598 = .ok (.iload 6, 2) := by decide +kernel
theorem d_L_law_600 : decode code 600 = .ok (.i2l, 1) := by decide +kernel
theorem d_L_law_601 : decode code 601 = .ok (.lcmp, 1) := by decide +kernel
theorem d_L_law_602 : decode code 602 = .ok (.ifCond .eq (5), 3) := by decide +kernel
theorem d_L_law_605 : decode code 605 = .ok (.iconst 0, 1) := by decide +kernel
theorem d_L_law_606 : decode code 606 = .ok (.ireturn, 1) := by decide +kernel
theorem d_L_law_607 : decode code 607 = .ok (.goto (364), 3) := by decide +kernel
theorem d_L_law_610 : decode code 610 = .ok (.aload_n 1, 1) := by decide +kernel
theorem d_L_law_611 : decode code 611 = .ok (.aload_n 3, 1) := by decide +kernel
theorem d_L_law_612 : decode code 612 = .ok (.invokestatic 100, 3) := by decide +kernel
theorem d_L_law_615 : decode code 615 = .ok (.istore 5, 2) := by decide +kernel
theorem d_L_law_617 : decode code 617 = .ok (.aload_n 2, 1) := by decide +kernel
theorem d_L_law_618 : decode code 618 = .ok (.invokevirtual 103, 3) := by decide +kernel
theorem d_L_law_621 : decode code 621 = .ok (.istore 6, 2) := by decide +kernel
theorem d_L_law_623 : decode code 623 = .ok (.aload_n 2, 1) := by decide +kernel
theorem d_L_law_624 : decode code 624 = .ok (.invokevirtual 69, 3) := by decide +kernel
theorem d_L_law_627 : decode code 627 = .ok (.iload 5, 2) := by decide +kernel
theorem d_L_law_629 : decode code 629 = .ok (.if_icmp .eq (5), 3) := by decide +kernel
theorem d_L_law_632 : decode code 632 = .ok (.iconst 0, 1) := by decide +kernel
theorem d_L_law_633 : decode code 633 = .ok (.ireturn, 1) := by decide +kernel
theorem d_L_law_634 : decode code 634 = .ok (.iload 5, 2) := by decide +kernel
theorem d_L_law_636 : decode code 636 = .ok (.ifCond .ne (15), 3) := by decide +kernel
theorem d_L_law_639 : decode code 639 = .ok (.aload_n 3, 1) := by decide +kernel
theorem d_L_law_640 : decode code 640 = .ok (.iconst 0, 1) := by decide +kernel
theorem d_L_law_641 : decode code 641 = .ok (.laload, 1) := by decide +kernel
theorem d_L_law_642 : decode code 642 = .ok (.iload 6, 2) := by decide +kernel
theorem d_L_law_644 : decode code 644 = .ok (.i2l, 1) := by decide +kernel
theorem d_L_law_645 : decode code 645 = .ok (.lcmp, 1) := by decide +kernel
theorem d_L_law_646 : decode code 646 = .ok (.ifCond .eq (5), 3) := by decide +kernel
theorem d_L_law_649 : decode code 649 = .ok (.iconst 0, 1) := by decide +kernel
theorem d_L_law_650 : decode code 650 = .ok (.ireturn, 1) := by decide +kernel
theorem d_L_law_651 : decode code 651 = .ok (.goto (320), 3) := by decide +kernel
theorem d_L_law_654 : decode code 654 = .ok (.aload_n 1, 1) := by decide +kernel
theorem d_L_law_655 : decode code 655 = .ok (.aload_n 0, 1) := by decide +kernel
theorem d_L_law_656 : decode code 656 = .ok (.iload 4, 2) := by decide +kernel
theorem d_L_law_658 : decode code 658 = .ok (.iconst 1, 1) := by decide +kernel
theorem d_L_law_659 : decode code 659 = .ok (.iadd, 1) := by decide +kernel
theorem d_L_law_660 : decode code 660 = .ok (.iaload, 1) := by decide +kernel
theorem d_L_law_661 : decode code 661 = .ok (.aload_n 0, 1) := by decide +kernel
theorem d_L_law_662 : decode code 662 = .ok (.iload 4, 2) := by decide +kernel
theorem d_L_law_664 : decode code 664 = .ok (.iconst 2, 1) := by decide +kernel
theorem d_L_law_665 : decode code 665 = .ok (.iadd, 1) := by decide +kernel
theorem d_L_law_666 : decode code 666 = .ok (.iaload, 1) := by decide +kernel
theorem d_L_law_667 : decode code 667 = .ok (.aload_n 3, 1) := by decide +kernel
theorem d_L_law_668 : decode code 668 = .ok (.invokestatic 104, 3) := by decide +kernel
theorem d_L_law_671 : decode code 671 = .ok (.istore 5, 2) := by decide +kernel
theorem d_L_law_673 : decode code 673 = .ok (.aload_n 2, 1) := by decide +kernel
theorem d_L_law_674 : decode code 674 = .ok (.aload_n 0, 1) := by decide +kernel
theorem d_L_law_675 : decode code 675 = .ok (.iload 4, 2) := by decide +kernel
theorem d_L_law_677 : decode code 677 = .ok (.iconst 1, 1) := by decide +kernel
theorem d_L_law_678 : decode code 678 = .ok (.iadd, 1) := by decide +kernel
theorem d_L_law_679 : decode code 679 = .ok (.iaload, 1) := by decide +kernel
theorem d_L_law_680 : decode code 680 = .ok (.aload_n 0, 1) := by decide +kernel
theorem d_L_law_681 : decode code 681 = .ok (.iload 4, 2) := by decide +kernel
theorem d_L_law_683 : decode code 683 = .ok (.iconst 2, 1) := by decide +kernel
theorem d_L_law_684 : decode code 684 = .ok (.iadd, 1) := by decide +kernel
theorem d_L_law_685 : decode code 685 = .ok (.iaload, 1) := by decide +kernel
theorem d_L_law_686 : decode code 686 = .ok (.invokevirtual 107, 3) := by decide +kernel
theorem d_L_law_689 : decode code 689 = .ok (.istore 6, 2) := by decide +kernel
theorem d_L_law_691 : decode code 691 = .ok (.aload_n 2, 1) := by decide +kernel
theorem d_L_law_692 : decode code 692 = .ok (.invokevirtual 69, 3) := by decide +kernel
theorem d_L_law_695 : decode code 695 = .ok (.iload 5, 2) := by decide +kernel
theorem d_L_law_697 : decode code 697 = .ok (.if_icmp .eq (5), 3) := by decide +kernel
theorem d_L_law_700 : decode code 700 = .ok (.iconst 0, 1) := by decide +kernel
theorem d_L_law_701 : decode code 701 = .ok (.ireturn, 1) := by decide +kernel
theorem d_L_law_702 : decode code 702 = .ok (.iload 5, 2) := by decide +kernel
