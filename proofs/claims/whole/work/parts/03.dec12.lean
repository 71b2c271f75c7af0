theorem d_law_393 : decode code 393 = .ok (.iadd, 1) := by decide +kernel
theorem d_law_394 : decode code 394 = .ok (.iaload, 1) := by decide +kernel
theorem d_law_395 : decode code 395 = .ok (.aload_n 0, 1) := by decide +kernel
theorem d_law_396 : decode code 396 = .ok (.iload 4, 2) := by decide +kernel
theorem d_law_398 : decode code 398 = .ok (.iconst 3, 1) := by decide +kernel
theorem d_law_399 : decode code 399 = .ok (.iadd, 1) := by decide +kernel
theorem d_law_400 : decode code 400 = .ok (.iaload, 1) := by decide +kernel
theorem d_law_401 : decode code 401 = .ok (.aload_n 0, 1) := by decide +kernel
theorem d_law_402 : decode code 402 = .ok (.iload 4, 2) := by decide +kernel
theorem d_law_404 : decode code 404 = .ok (.iconst 4, 1) := by decide +kernel
theorem d_law_405 : decode code 405 = .ok (.iadd, 1) := by decide +kernel
theorem d_law_406 : decode code 406 = .ok (.iaload, 1) := by decide +kernel
theorem d_law_407 : decode code 407 = .ok (.invokestatic 114, 3) := by decide +kernel
theorem d_law_410 : decode code 410 = .ok (.istore 5, 2) := by decide +kernel
theorem d_law_412 : decode code 412 = .ok (.aload_n 2, 1) := by decide +kernel
theorem d_law_413 : decode code 413 = .ok (.aload_n 0, 1) := by decide +kernel
theorem d_law_414 : decode code 414 = .ok (.iload 4, 2) := by decide +kernel
theorem d_law_416 : decode code 416 = .ok (.iconst 1, 1) := by decide +kernel
theorem d_law_417 : decode code 417 = .ok (.iadd, 1) := by decide +kernel
theorem d_law_418 : decode code 418 = .ok (.iaload, 1) := by decide +kernel
theorem d_law_419 : decode code 419 = .ok (.aload_n 0, 1) := by decide +kernel
theorem d_law_420 : decode code 420 = .ok (.iload 4, 2) := by decide +kernel
theorem d_law_422 : decode code 422 = .ok (.iconst 2, 1) := by decide +kernel
theorem d_law_423 : decode code 423 = .ok (.iadd, 1) := by decide +kernel
theorem d_law_424 : decode code 424 = .ok (.iaload, 1) := by decide +kernel
theorem d_law_425 : decode code 425 = .ok (.aload_n 0, 1) := by decide +kernel
theorem d_law_426 : decode code 426 = .ok (.iload 4, 2) := by decide +kernel
theorem d_law_428 : decode code 428 = .ok (.iconst 3, 1) := by decide +kernel
theorem d_law_429 : decode code 429 = .ok (.iadd, 1) := by decide +kernel
theorem d_law_430 : decode code 430 = .ok (.iaload, 1) := by decide +kernel
theorem d_law_431 : decode code 431 = .ok (.aload_n 0, 1) := by decide +kernel
theorem d_law_432 : decode code 432 = .ok (.iload 4, 2) := by decide +kernel
theorem d_law_434 : decode code 434 = .ok (.iconst 4, 1) := by decide +kernel
theorem d_law_435 : decode code 435 = .ok (.iadd, 1) := by decide +kernel
theorem d_law_436 : decode code 436 = .ok (.iaload, 1) := by decide +kernel
theorem d_law_437 : decode code 437 = .ok (.invokevirtual 117, 3) := by decide +kernel
theorem d_law_440 : decode code 440 = .ok (.aload_n 2, 1) := by decide +kernel
theorem d_law_441 : decode code 441 = .ok (.invokevirtual 101, 3) := by decide +kernel
theorem d_law_444 : decode code 444 = .ok (.iload 5, 2) := by decide +kernel
theorem d_law_446 : decode code 446 = .ok (.if_icmp .eq 5, 3) := by decide +kernel
theorem d_law_449 : decode code 449 = .ok (.iconst 0, 1) := by decide +kernel
theorem d_law_450 : decode code 450 = .ok (.ireturn, 1) := by decide +kernel
theorem d_law_451 : decode code 451 = .ok (.goto 1010, 3) := by decide +kernel
theorem d_law_454 : decode code 454 = .ok (.aload_n 1, 1) := by decide +kernel
theorem d_law_455 : decode code 455 = .ok (.aload_n 0, 1) := by decide +kernel
theorem d_law_456 : decode code 456 = .ok (.iload 4, 2) := by decide +kernel
theorem d_law_458 : decode code 458 = .ok (.iconst 1, 1) := by decide +kernel
theorem d_law_459 : decode code 459 = .ok (.iadd, 1) := by decide +kernel
theorem d_law_460 : decode code 460 = .ok (.iaload, 1) := by decide +kernel
theorem d_law_461 : decode code 461 = .ok (.aload_n 0, 1) := by decide +kernel
theorem d_law_462 : decode code 462 = .ok (.iload 4, 2) := by decide +kernel
theorem d_law_464 : decode code 464 = .ok (.iconst 2, 1) := by decide +kernel
theorem d_law_465 : decode code 465 = .ok (.iadd, 1) := by decide +kernel
theorem d_law_466 : decode code 466 = .ok (.iaload, 1) := by decide +kernel
theorem d_law_467 : decode code 467 = .ok (.invokestatic 118, 3) := by decide +kernel
theorem d_law_470 : decode code 470 = .ok (.istore 5, 2) := by decide +kernel
theorem d_law_472 : decode code 472 = .ok (.aload_n 2, 1) := by decide +kernel
theorem d_law_473 : decode code 473 = .ok (.aload_n 0, 1) := by decide +kernel
theorem d_law_474 : decode code 474 = .ok (.iload 4, 2) := by decide +kernel
theorem d_law_476 : decode code 476 = .ok (.iconst 1, 1) := by decide +kernel
theorem d_law_477 : decode code 477 = .ok (.iadd, 1) := by decide +kernel
theorem d_law_478 : decode code 478 = .ok (.iaload, 1) := by decide +kernel
theorem d_law_479 : decode code 479 = .ok (.aload_n 0, 1) := by decide +kernel
theorem d_law_480 : decode code 480 = .ok (.iload 4, 2) := by decide +kernel
theorem d_law_482 : decode code 482 = .ok (.iconst 2, 1) := by decide +kernel
theorem d_law_483 : decode code 483 = .ok (.iadd, 1) := by decide +kernel
theorem d_law_484 : decode code 484 = .ok (.iaload, 1) := by decide +kernel
theorem d_law_485 : decode code 485 = .ok (.invokevirtual 120, 3) := by decide +kernel
theorem d_law_488 : decode code 488 = .ok (.aload_n 2, 1) := by decide +kernel
theorem d_law_489 : decode code 489 = .ok (.invokevirtual 101, 3) := by decide +kernel
theorem d_law_492 : decode code 492 = .ok (.iload 5, 2) := by decide +kernel
theorem d_law_494 : decode code 494 = .ok (.if_icmp .eq 5, 3) := by decide +kernel
theorem d_law_497 : decode code 497 = .ok (.iconst 0, 1) := by decide +kernel
theorem d_law_498 : decode code 498 = .ok (.ireturn, 1) := by decide +kernel
theorem d_law_499 : decode code 499 = .ok (.goto 962, 3) := by decide +kernel
theorem d_law_502 : decode code 502 = .ok (.aload_n 1, 1) := by decide +kernel
theorem d_law_503 : decode code 503 = .ok (.aload_n 3, 1) := by decide +kernel
theorem d_law_504 : decode code 504 = .ok (.invokestatic 121, 3) := by decide +kernel
theorem d_law_507 : decode code 507 = .ok (.istore 5, 2) := by decide +kernel
theorem d_law_509 : decode code 509 = .ok (.aload_n 2, 1) := by decide +kernel
theorem d_law_510 : decode code 510 = .ok (.invokevirtual 124, 3) := by decide +kernel
theorem d_law_513 : decode code 513 = .ok (.istore 6, 2) := by decide +kernel
theorem d_law_515 : decode code 515 = .ok (.aload_n 2, 1) := by decide +kernel
theorem d_law_516 : decode code 516 = .ok (.invokevirtual 101, 3) := by decide +kernel
theorem d_law_519 : decode code 519 = .ok (.iload 5, 2) := by decide +kernel
theorem d_law_521 : decode code 521 = .ok (.if_icmp .eq 5, 3) := by decide +kernel
theorem d_law_524 : decode code 524 = .ok (.iconst 0, 1) := by decide +kernel
theorem d_law_525 : decode code 525 = .ok (.ireturn, 1) := by decide +kernel
theorem d_law_526 : decode code 526 = .ok (.iload 5, 2) := by decide +kernel
theorem d_law_528 : decode code 528 = .ok (.ifCond .ne 15, 3) := by decide +kernel
theorem d_law_531 : decode code 531 = .ok (.aload_n 3, 1) := by decide +kernel
theorem d_law_532 : decode code 532 = .ok (.iconst 0, 1) := by decide +kernel
theorem d_law_533 : decode code 533 = .ok (.laload, 1) := by decide +kernel
theorem d_law_534 : decode code 534 = .ok (.iload 6, 2) := by decide +kernel
theorem d_law_536 : decode code 536 = .ok (.i2l, 1) := by decide +kernel
theorem d_law_537 : decode code 537 = .ok (.lcmp, 1) := by decide +kernel
theorem d_law_538 : decode code 538 = .ok (.ifCond .eq 5, 3) := by decide +kernel
theorem d_law_541 : decode code 541 = .ok (.iconst 0, 1) := by decide +kernel
theorem d_law_542 : decode code 542 = .ok (.ireturn, 1) := by decide +kernel
theorem d_law_543 : decode code 543 = .ok (.goto 918, 3) := by decide +kernel
theorem d_law_546 : decode code 546 = .ok (.aload_n 1, 1) := by decide +kernel
theorem d_law_547 : decode code 547 = .ok (.invokevirtual 125, 3) := by decide +kernel
theorem d_law_550 : decode code 550 = .ok (.aload_n 2, 1) := by decide +kernel
theorem d_law_551 : decode code 551 = .ok (.invokevirtual 128, 3) := by decide +kernel
theorem d_law_554 : decode code 554 = .ok (.if_icmp .eq 907, 3) := by decide +kernel
theorem d_law_557 : decode code 557 = .ok (.iconst 0, 1) := by decide +kernel
theorem d_law_558 : decode code 558 = .ok (.ireturn, 1) := by decide +kernel
theorem d_law_559 : decode code 559 = .ok (.aload_n 1, 1) := by decide +kernel
theorem d_law_560 : decode code 560 = .ok (.aload_n 0, 1) := by decide +kernel
theorem d_law_561 : decode code 561 = .ok (.iload 4, 2) := by decide +kernel
theorem d_law_563 : decode code 563 = .ok (.iconst 1, 1) := by decide +kernel
theorem d_law_564 : decode code 564 = .ok (.iadd, 1) := by decide +kernel
theorem d_law_565 : decode code 565 = .ok (.iaload, 1) := by decide +kernel
theorem d_law_566 : decode code 566 = .ok (.aload_n 0, 1) := by decide +kernel
theorem d_law_567 : decode code 567 = .ok (.iload 4, 2) := by decide +kernel
theorem d_law_569 : decode code 569 = .ok (.iconst 2, 1) := by decide +kernel
theorem d_law_570 : decode code 570 = .ok (.iadd, 1) := by decide +kernel
theorem d_law_571 : decode code 571 = .ok (.iaload, 1) := by decide +kernel
theorem d_law_572 : decode code 572 = .ok (.aload_n 3, 1) := by decide +kernel
theorem d_law_573 : decode code 573 = .ok (.invokestatic 129, 3) := by decide +kernel
theorem d_law_576 : decode code 576 = .ok (.istore 5, 2) := by decide +kernel
theorem d_law_578 : decode code 578 = .ok (.aload_n 2, 1) := by decide +kernel
theorem d_law_579 : decode code 579 = .ok (.aload_n 0, 1) := by decide +kernel
theorem d_law_580 : decode code 580 = .ok (.iload 4, 2) := by decide +kernel
theorem d_law_582 : decode code 582 = .ok (.iconst 1, 1) := by decide +kernel
theorem d_law_583 : decode code 583 = .ok (.iadd, 1) := by decide +kernel
theorem d_law_584 : decode code 584 = .ok (.iaload, 1) := by decide +kernel
theorem d_law_585 : decode code 585 = .ok (.aload_n 0, 1) := by decide +kernel
theorem d_law_586 : decode code 586 = .ok (.iload 4, 2) := by decide +kernel
theorem d_law_588 : decode code 588 = .ok (.iconst 2, 1) := by decide +kernel
theorem d_law_589 : decode code 589 = .ok (.iadd, 1) := by decide +kernel
theorem d_law_590 : decode code 590 = .ok (.iaload, 1) := by decide +kernel
theorem d_law_591 : decode code 591 = .ok (.invokevirtual 132, 3) := by decide +kernel
theorem d_law_594 : decode code 594 = .ok (.istore 6, 2) := by decide +kernel
theorem d_law_596 : decode code 596 = .ok (.aload_n 2, 1) := by decide +kernel
theorem d_law_597 : decode code 597 = .ok (.invokevirtual 101, 3) := by decide +kernel
theorem d_law_600 : decode code 600 = .ok (.iload 5, 2) := by decide +kernel
theorem d_law_602 : decode code 602 = .ok (.if_icmp .eq 5, 3) := by decide +kernel
theorem d_law_605 : decode code 605 = .ok (.iconst 0, 1) := by decide +kernel
theorem d_law_606 : decode code 606 = .ok (.ireturn, 1) := by decide +kernel
theorem d_law_607 : decode code 607 = .ok (.iload 5, 2) := by decide +kernel
theorem d_law_609 : decode code 609 = .ok (.ifCond .ne 15, 3) := by decide +kernel
theorem d_law_612 : decode code 612 = .ok (.aload_n 3, 1) := by decide +kernel
theorem d_law_613 : decode code 613 = .ok (.iconst 0, 1) := by decide +kernel
theorem d_law_614 : decode code 614 = .ok (.laload, 1) := by decide +kernel
theorem d_law_615 : decode code 615 = .ok (.iload 6, 2) := by decide +kernel
theorem d_law_617 : decode code 617 = .ok (.i2l, 1) := by decide +kernel
theorem d_law_618 : decode code 618 = .ok (.lcmp, 1) := by decide +kernel
theorem d_law_619 : decode code 619 = .ok (.ifCond .eq 5, 3) := by decide +kernel
theorem d_law_622 : decode code 622 = .ok (.iconst 0, 1) := by decide +kernel
theorem d_law_623 : decode code 623 = .ok (.ireturn, 1) := by decide +kernel
theorem d_law_624 : decode code 624 = .ok (.goto 837, 3) := by decide +kernel
theorem d_law_627 : decode code 627 = .ok (.aload_n 1, 1) := by decide +kernel
theorem d_law_628 : decode code 628 = .ok (.aload_n 0, 1) := by decide +kernel
theorem d_law_629 : decode code 629 = .ok (.iload 4, 2) := by decide +kernel
theorem d_law_631 : decode code 631 = .ok (.iconst 1, 1) := by decide +kernel
theorem d_law_632 : decode code 632 = .ok (.iadd, 1) := by decide +kernel
theorem d_law_633 : decode code 633 = .ok (.iaload, 1) := by decide +kernel
theorem d_law_634 : decode code 634 = .ok (.aload_n 0, 1) := by decide +kernel
theorem d_law_635 : decode code 635 = .ok (.iload 4, 2) := by decide +kernel
theorem d_law_637 : decode code 637 = .ok (.iconst 2, 1) := by decide +kernel
theorem d_law_638 : decode code 638 = .ok (.iadd, 1) := by decide +kernel
theorem d_law_639 : decode code 639 = .ok (.iaload, 1) := by decide +kernel
theorem d_law_640 : decode code 640 = .ok (.aload_n 3, 1) := by decide +kernel
theorem d_law_641 : decode code 641 = .ok (.invokestatic 133, 3) := by decide +kernel
theorem d_law_644 : decode code 644 = .ok (.istore 5, 2) := by decide +kernel
theorem d_law_646 : decode code 646 = .ok (.aload_n 2, 1) := by decide +kernel
theorem d_law_647 : decode code 647 = .ok (.aload_n 0, 1) := by decide +kernel
theorem d_law_648 : decode code 648 = .ok (.iload 4, 2) := by decide +kernel
theorem d_law_650 : decode code 650 = .ok (.iconst 1, 1) := by decide +kernel
theorem d_law_651 : decode code 651 = .ok (.iadd, 1) := by decide +kernel
theorem d_law_652 : decode code 652 = .ok (.iaload, 1) := by decide +kernel
theorem d_law_653 : decode code 653 = .ok (.aload_n 0, 1) := by decide +kernel
theorem d_law_654 : decode code 654 = .ok (.iload 4, 2) := by decide +kernel
theorem d_law_656 : decode code 656 = .ok (.iconst 2, 1) := by decide +kernel
theorem d_law_657 : decode code 657 = .ok (.iadd, 1) := by decide +kernel
theorem d_law_658 : decode code 658 = .ok (.iaload, 1) := by decide +kernel
theorem d_law_659 : decode code 659 = .ok (.invokevirtual 135, 3) := by decide +kernel
theorem d_law_662 : decode code 662 = .ok (.istore 6, 2) := by decide +kernel
theorem d_law_664 : decode code 664 = .ok (.aload_n 2, 1) := by decide +kernel
theorem d_law_665 : decode code 665 = .ok (.invokevirtual 101, 3) := by decide +kernel
theorem d_law_668 : decode code 668 = .ok (.iload 5, 2) := by decide +kernel
theorem d_law_670 : decode code 670 = .ok (.if_icmp .eq 5, 3) := by decide +kernel
theorem d_law_673 : decode code 673 = .ok (.iconst 0, 1) := by decide +kernel
theorem d_law_674 : decode code 674 = .ok (.ireturn, 1) := by decide +kernel
theorem d_law_675 : decode code 675 = .ok (.iload 5, 2) := by decide +kernel
theorem d_law_677 : decode code 677 = .ok (.ifCond .ne 15, 3) := by decide +kernel
theorem d_law_680 : decode code 680 = .ok (.aload_n 3, 1) := by decide +kernel
theorem d_law_681 : decode code 681 = .ok (.iconst 0, 1) := by decide +kernel
theorem d_law_682 : decode code 682 = .ok (.laload, 1) := by decide +kernel
theorem d_law_683 : decode code 683 = .ok (.iload 6, 2) := by decide +kernel
theorem d_law_685 : decode code 685 = .ok (.i2l, 1) := by decide +kernel
theorem d_law_686 : decode code 686 = .ok (.lcmp, 1) := by decide +kernel
theorem d_law_687 : decode code 687 = .ok (.ifCond .eq 5, 3) := by decide +kernel
theorem d_law_690 : decode code 690 = .ok (.iconst 0, 1) := by decide +kernel
theorem d_law_691 : decode code 691 = .ok (.ireturn, 1) := by decide +kernel
theorem d_law_692 : decode code 692 = .ok (.goto 769, 3) := by decide +kernel
theorem d_law_695 : decode code 695 = .ok (.aload_n 1, 1) := by decide +kernel
theorem d_law_696 : decode code 696 = .ok (.aload_n 0, 1) := by decide +kernel
theorem d_law_697 : decode code 697 = .ok (.iload 4, 2) := by decide +kernel

theorem d_law_699 : decode code 699 = .ok (.iconst 1, 1) := by decide +kernel
theorem d_law_700 : decode code 700 = .ok (.iadd, 1) := by decide +kernel
theorem d_law_701 : decode code 701 = .ok (.iaload, 1) := by decide +kernel
theorem d_law_702 : decode code 702 = .ok (.aload_n 0, 1) := by decide +kernel
theorem d_law_703 : decode code 703 = .ok (.iload 4, 2) := by decide +kernel
theorem d_law_705 : decode code 705 = .ok (.iconst 2, 1) := by decide +kernel
theorem d_law_706 : decode code 706 = .ok (.iadd, 1) := by decide +kernel
theorem d_law_707 : decode code 707 = .ok (.iaload, 1) := by decide +kernel
theorem d_law_708 : decode code 708 = .ok (.aload_n 0, 1) := by decide +kernel
theorem d_law_709 : decode code 709 = .ok (.iload 4, 2) := by decide +kernel
theorem d_law_711 : decode code 711 = .ok (.iconst 3, 1) := by decide +kernel
theorem d_law_712 : decode code 712 = .ok (.iadd, 1) := by decide +kernel
theorem d_law_713 : decode code 713 = .ok (.iaload, 1) := by decide +kernel
theorem d_law_714 : decode code 714 = .ok (.aload_n 3, 1) := by decide +kernel
theorem d_law_715 : decode code 715 = .ok (.invokestatic 136, 3) := by decide +kernel
theorem d_law_718 : decode code 718 = .ok (.istore 5, 2) := by decide +kernel
theorem d_law_720 : decode code 720 = .ok (.aload_n 2, 1) := by decide +kernel
theorem d_law_721 : decode code 721 = .ok (.aload_n 0, 1) := by decide +kernel
theorem d_law_722 : decode code 722 = .ok (.iload 4, 2) := by decide +kernel
theorem d_law_724 : decode code 724 = .ok (.iconst 1, 1) := by decide +kernel
theorem d_law_725 : decode code 725 = .ok (.iadd, 1) := by decide +kernel
theorem d_law_726 : decode code 726 = .ok (.iaload, 1) := by decide +kernel
theorem d_law_727 : decode code 727 = .ok (.aload_n 0, 1) := by decide +kernel
theorem d_law_728 : decode code 728 = .ok (.iload 4, 2) := by decide +kernel
theorem d_law_730 : decode code 730 = .ok (.iconst 2, 1) := by decide +kernel
theorem d_law_731 : decode code 731 = .ok (.iadd, 1) := by decide +kernel
theorem d_law_732 : decode code 732 = .ok (.iaload, 1) := by decide +kernel
theorem d_law_733 : decode code 733 = .ok (.aload_n 0, 1) := by decide +kernel
theorem d_law_734 : decode code 734 = .ok (.iload 4, 2) := by decide +kernel
theorem d_law_736 : decode code 736 = .ok (.iconst 3, 1) := by decide +kernel
theorem d_law_737 : decode code 737 = .ok (.iadd, 1) := by decide +kernel
theorem d_law_738 : decode code 738 = .ok (.iaload, 1) := by decide +kernel
theorem d_law_739 : decode code 739 = .ok (.invokevirtual 139, 3) := by decide +kernel
theorem d_law_742 : decode code 742 = .ok (.istore 6, 2) := by decide +kernel
theorem d_law_744 : decode code 744 = .ok (.aload_n 2, 1) := by decide +kernel
theorem d_law_745 : decode code 745 = .ok (.invokevirtual 101, 3) := by decide +kernel
theorem d_law_748 : decode code 748 = .ok (.iload 5, 2) := by decide +kernel
theorem d_law_750 : decode code 750 = .ok (.if_icmp .eq 5, 3) := by decide +kernel
theorem d_law_753 : decode code 753 = .ok (.iconst 0, 1) := by decide +kernel
theorem d_law_754 : decode code 754 = .ok (.ireturn, 1) := by decide +kernel
theorem d_law_755 : decode code 755 = .ok (.iload 5, 2) := by decide +kernel
theorem d_law_757 : decode code 757 = .ok (.ifCond .ne 15, 3) := by decide +kernel
theorem d_law_760 : decode code 760 = .ok (.aload_n 3, 1) := by decide +kernel
theorem d_law_761 : decode code 761 = .ok (.iconst 0, 1) := by decide +kernel
theorem d_law_762 : decode code 762 = .ok (.laload, 1) := by decide +kernel
theorem d_law_763 : decode code 763 = .ok (.iload 6, 2) := by decide +kernel
theorem d_law_765 : decode code 765 = .ok (.i2l, 1) := by decide +kernel
theorem d_law_766 : decode code 766 = .ok (.lcmp, 1) := by decide +kernel
theorem d_law_767 : decode code 767 = .ok (.ifCond .eq 5, 3) := by decide +kernel
theorem d_law_770 : decode code 770 = .ok (.iconst 0, 1) := by decide +kernel
theorem d_law_771 : decode code 771 = .ok (.ireturn, 1) := by decide +kernel
theorem d_law_772 : decode code 772 = .ok (.goto 689, 3) := by decide +kernel
theorem d_law_775 : decode code 775 = .ok (.aload_n 1, 1) := by decide +kernel
theorem d_law_776 : decode code 776 = .ok (.aload_n 0, 1) := by decide +kernel
theorem d_law_777 : decode code 777 = .ok (.iload 4, 2) := by decide +kernel
theorem d_law_779 : decode code 779 = .ok (.iconst 1, 1) := by decide +kernel
theorem d_law_780 : decode code 780 = .ok (.iadd, 1) := by decide +kernel
theorem d_law_781 : decode code 781 = .ok (.iaload, 1) := by decide +kernel
theorem d_law_782 : decode code 782 = .ok (.aload_n 3, 1) := by decide +kernel
theorem d_law_783 : decode code 783 = .ok (.invokestatic 140, 3) := by decide +kernel
theorem d_law_786 : decode code 786 = .ok (.istore 5, 2) := by decide +kernel
theorem d_law_788 : decode code 788 = .ok (.aload_n 2, 1) := by decide +kernel
theorem d_law_789 : decode code 789 = .ok (.aload_n 0, 1) := by decide +kernel
theorem d_law_790 : decode code 790 = .ok (.iload 4, 2) := by decide +kernel
theorem d_law_792 : decode code 792 = .ok (.iconst 1, 1) := by decide +kernel
theorem d_law_793 : decode code 793 = .ok (.iadd, 1) := by decide +kernel
theorem d_law_794 : decode code 794 = .ok (.iaload, 1) := by decide +kernel
theorem d_law_795 : decode code 795 = .ok (.invokevirtual 143, 3) := by decide +kernel
theorem d_law_798 : decode code 798 = .ok (.istore 6, 2) := by decide +kernel
theorem d_law_800 : decode code 800 = .ok (.aload_n 2, 1) := by decide +kernel
theorem d_law_801 : decode code 801 = .ok (.invokevirtual 101, 3) := by decide +kernel
theorem d_law_804 : decode code 804 = .ok (.iload 5, 2) := by decide +kernel
theorem d_law_806 : decode code 806 = .ok (.if_icmp .eq 5, 3) := by decide +kernel
theorem d_law_809 : decode code 809 = .ok (.iconst 0, 1) := by decide +kernel
theorem d_law_810 : decode code 810 = .ok (.ireturn, 1) := by decide +kernel
theorem d_law_811 : decode code 811 = .ok (.iload 5, 2) := by decide +kernel
theorem d_law_813 : decode code 813 = .ok (.ifCond .ne 15, 3) := by decide +kernel
theorem d_law_816 : decode code 816 = .ok (.aload_n 3, 1) := by decide +kernel
theorem d_law_817 : decode code 817 = .ok (.iconst 0, 1) := by decide +kernel
theorem d_law_818 : decode code 818 = .ok (.laload, 1) := by decide +kernel
theorem d_law_819 : decode code 819 = .ok (.iload 6, 2) := by decide +kernel
theorem d_law_821 : decode code 821 = .ok (.i2l, 1) := by decide +kernel
theorem d_law_822 : decode code 822 = .ok (.lcmp, 1) := by decide +kernel
theorem d_law_823 : decode code 823 = .ok (.ifCond .eq 5, 3) := by decide +kernel
theorem d_law_826 : decode code 826 = .ok (.iconst 0, 1) := by decide +kernel
theorem d_law_827 : decode code 827 = .ok (.ireturn, 1) := by decide +kernel
theorem d_law_828 : decode code 828 = .ok (.goto 633, 3) := by decide +kernel
theorem d_law_831 : decode code 831 = .ok (.aload_n 1, 1) := by decide +kernel
theorem d_law_832 : decode code 832 = .ok (.aload_n 3, 1) := by decide +kernel
theorem d_law_833 : decode code 833 = .ok (.invokestatic 144, 3) := by decide +kernel
theorem d_law_836 : decode code 836 = .ok (.istore 5, 2) := by decide +kernel
theorem d_law_838 : decode code 838 = .ok (.aload_n 2, 1) := by decide +kernel
theorem d_law_839 : decode code 839 = .ok (.invokevirtual 146, 3) := by decide +kernel
theorem d_law_842 : decode code 842 = .ok (.istore 6, 2) := by decide +kernel
theorem d_law_844 : decode code 844 = .ok (.aload_n 2, 1) := by decide +kernel
theorem d_law_845 : decode code 845 = .ok (.invokevirtual 101, 3) := by decide +kernel
theorem d_law_848 : decode code 848 = .ok (.iload 5, 2) := by decide +kernel
theorem d_law_850 : decode code 850 = .ok (.if_icmp .eq 5, 3) := by decide +kernel
theorem d_law_853 : decode code 853 = .ok (.iconst 0, 1) := by decide +kernel
theorem d_law_854 : decode code 854 = .ok (.ireturn, 1) := by decide +kernel
theorem d_law_855 : decode code 855 = .ok (.iload 5, 2) := by decide +kernel
theorem d_law_857 : decode code 857 = .ok (.ifCond .ne 22, 3) := by decide +kernel
theorem d_law_860 : decode code 860 = .ok (.aload_n 3, 1) := by decide +kernel
theorem d_law_861 : decode code 861 = .ok (.iconst 0, 1) := by decide +kernel
theorem d_law_862 : decode code 862 = .ok (.laload, 1) := by decide +kernel
theorem d_law_863 : decode code 863 = .ok (.iload 6, 2) := by decide +kernel
theorem d_law_865 : decode code 865 = .ok (.ifCond .eq 7, 3) := by decide +kernel
theorem d_law_868 : decode code 868 = .ok (.lconst 1, 1) := by decide +kernel
theorem d_law_869 : decode code 869 = .ok (.goto 4, 3) := by decide +kernel
theorem d_law_872 : decode code 872 = .ok (.lconst 0, 1) := by decide +kernel
theorem d_law_873 : decode code 873 = .ok (.lcmp, 1) := by decide +kernel
theorem d_law_874 : decode code 874 = .ok (.ifCond .eq 5, 3) := by decide +kernel
theorem d_law_877 : decode code 877 = .ok (.iconst 0, 1) := by decide +kernel
theorem d_law_878 : decode code 878 = .ok (.ireturn, 1) := by decide +kernel
theorem d_law_879 : decode code 879 = .ok (.goto 582, 3) := by decide +kernel
theorem d_law_882 : decode code 882 = .ok (.aload_n 1, 1) := by decide +kernel
theorem d_law_883 : decode code 883 = .ok (.aload_n 0, 1) := by decide +kernel
theorem d_law_884 : decode code 884 = .ok (.iload 4, 2) := by decide +kernel
theorem d_law_886 : decode code 886 = .ok (.iconst 1, 1) := by decide +kernel
theorem d_law_887 : decode code 887 = .ok (.iadd, 1) := by decide +kernel
theorem d_law_888 : decode code 888 = .ok (.iaload, 1) := by decide +kernel
theorem d_law_889 : decode code 889 = .ok (.aload_n 3, 1) := by decide +kernel
theorem d_law_890 : decode code 890 = .ok (.invokestatic 147, 3) := by decide +kernel
theorem d_law_893 : decode code 893 = .ok (.istore 5, 2) := by decide +kernel
theorem d_law_895 : decode code 895 = .ok (.aload_n 2, 1) := by decide +kernel
theorem d_law_896 : decode code 896 = .ok (.aload_n 0, 1) := by decide +kernel
theorem d_law_897 : decode code 897 = .ok (.iload 4, 2) := by decide +kernel
theorem d_law_899 : decode code 899 = .ok (.iconst 1, 1) := by decide +kernel
theorem d_law_900 : decode code 900 = .ok (.iadd, 1) := by decide +kernel
theorem d_law_901 : decode code 901 = .ok (.iaload, 1) := by decide +kernel
theorem d_law_902 : decode code 902 = .ok (.invokevirtual 149, 3) := by decide +kernel
theorem d_law_905 : decode code 905 = .ok (.istore 6, 2) := by decide +kernel
theorem d_law_907 : decode code 907 = .ok (.aload_n 2, 1) := by decide +kernel
theorem d_law_908 : decode code 908 = .ok (.invokevirtual 101, 3) := by decide +kernel
theorem d_law_911 : decode code 911 = .ok (.iload 5, 2) := by decide +kernel
theorem d_law_913 : decode code 913 = .ok (.if_icmp .eq 5, 3) := by decide +kernel
theorem d_law_916 : decode code 916 = .ok (.iconst 0, 1) := by decide +kernel
theorem d_law_917 : decode code 917 = .ok (.ireturn, 1) := by decide +kernel
theorem d_law_918 : decode code 918 = .ok (.iload 5, 2) := by decide +kernel
theorem d_law_920 : decode code 920 = .ok (.ifCond .ne 15, 3) := by decide +kernel
theorem d_law_923 : decode code 923 = .ok (.aload_n 3, 1) := by decide +kernel
theorem d_law_924 : decode code 924 = .ok (.iconst 0, 1) := by decide +kernel
theorem d_law_925 : decode code 925 = .ok (.laload, 1) := by decide +kernel
theorem d_law_926 : decode code 926 = .ok (.iload 6, 2) := by decide +kernel
theorem d_law_928 : decode code 928 = .ok (.i2l, 1) := by decide +kernel
theorem d_law_929 : decode code 929 = .ok (.lcmp, 1) := by decide +kernel
theorem d_law_930 : decode code 930 = .ok (.ifCond .eq 5, 3) := by decide +kernel
theorem d_law_933 : decode code 933 = .ok (.iconst 0, 1) := by decide +kernel
theorem d_law_934 : decode code 934 = .ok (.ireturn, 1) := by decide +kernel
theorem d_law_935 : decode code 935 = .ok (.goto 526, 3) := by decide +kernel
theorem d_law_938 : decode code 938 = .ok (.aload_n 1, 1) := by decide +kernel
theorem d_law_939 : decode code 939 = .ok (.aload_n 0, 1) := by decide +kernel
theorem d_law_940 : decode code 940 = .ok (.iload 4, 2) := by decide +kernel
theorem d_law_942 : decode code 942 = .ok (.iconst 1, 1) := by decide +kernel
theorem d_law_943 : decode code 943 = .ok (.iadd, 1) := by decide +kernel
theorem d_law_944 : decode code 944 = .ok (.iaload, 1) := by decide +kernel
theorem d_law_945 : decode code 945 = .ok (.aload_n 3, 1) := by decide +kernel
theorem d_law_946 : decode code 946 = .ok (.invokestatic 150, 3) := by decide +kernel
theorem d_law_949 : decode code 949 = .ok (.istore 5, 2) := by decide +kernel
theorem d_law_951 : decode code 951 = .ok (.aload_n 2, 1) := by decide +kernel
theorem d_law_952 : decode code 952 = .ok (.aload_n 0, 1) := by decide +kernel
theorem d_law_953 : decode code 953 = .ok (.iload 4, 2) := by decide +kernel
theorem d_law_955 : decode code 955 = .ok (.iconst 1, 1) := by decide +kernel
theorem d_law_956 : decode code 956 = .ok (.iadd, 1) := by decide +kernel
theorem d_law_957 : decode code 957 = .ok (.iaload, 1) := by decide +kernel
theorem d_law_958 : decode code 958 = .ok (.invokevirtual 152, 3) := by decide +kernel
theorem d_law_961 : decode code 961 = .ok (.istore 6, 2) := by decide +kernel
theorem d_law_963 : decode code 963 = .ok (.aload_n 2, 1) := by decide +kernel
theorem d_law_964 : decode code 964 = .ok (.invokevirtual 101, 3) := by decide +kernel
theorem d_law_967 : decode code 967 = .ok (.iload 5, 2) := by decide +kernel
theorem d_law_969 : decode code 969 = .ok (.if_icmp .eq 5, 3) := by decide +kernel
theorem d_law_972 : decode code 972 = .ok (.iconst 0, 1) := by decide +kernel
theorem d_law_973 : decode code 973 = .ok (.ireturn, 1) := by decide +kernel
theorem d_law_974 : decode code 974 = .ok (.iload 5, 2) := by decide +kernel
theorem d_law_976 : decode code 976 = .ok (.ifCond .ne 22, 3) := by decide +kernel
theorem d_law_979 : decode code 979 = .ok (.aload_n 3, 1) := by decide +kernel
theorem d_law_980 : decode code 980 = .ok (.iconst 0, 1) := by decide +kernel
theorem d_law_981 : decode code 981 = .ok (.laload, 1) := by decide +kernel
theorem d_law_982 : decode code 982 = .ok (.iload 6, 2) := by decide +kernel
theorem d_law_984 : decode code 984 = .ok (.ifCond .eq 7, 3) := by decide +kernel
theorem d_law_987 : decode code 987 = .ok (.lconst 1, 1) := by decide +kernel
theorem d_law_988 : decode code 988 = .ok (.goto 4, 3) := by decide +kernel
theorem d_law_991 : decode code 991 = .ok (.lconst 0, 1) := by decide +kernel
theorem d_law_992 : decode code 992 = .ok (.lcmp, 1) := by decide +kernel
theorem d_law_993 : decode code 993 = .ok (.ifCond .eq 5, 3) := by decide +kernel
theorem d_law_996 : decode code 996 = .ok (.iconst 0, 1) := by decide +kernel
theorem d_law_997 : decode code 997 = .ok (.ireturn, 1) := by decide +kernel
theorem d_law_998 : decode code 998 = .ok (.goto 463, 3) := by decide +kernel
theorem d_law_1001 : decode code 1001 = .ok (.aload_n 1, 1) := by decide +kernel
theorem d_law_1002 : decode code 1002 = .ok (.aload_n 0, 1) := by decide +kernel
theorem d_law_1003 : decode code 1003 = .ok (.iload 4, 2) := by decide +kernel
theorem d_law_1005 : decode code 1005 = .ok (.iconst 1, 1) := by decide +kernel
theorem d_law_1006 : decode code 1006 = .ok (.iadd, 1) := by decide +kernel
theorem d_law_1007 : decode code 1007 = .ok (.iaload, 1) := by decide +kernel
theorem d_law_1008 : decode code 1008 = .ok (.aload_n 3, 1) := by decide +kernel
theorem d_law_1009 : decode code 1009 = .ok (.invokestatic 153, 3) := by decide +kernel
theorem d_law_1012 : decode code 1012 = .ok (.istore 5, 2) := by decide +kernel
theorem d_law_1014 : decode code 1014 = .ok (.aload_n 2, 1) := by decide +kernel
theorem d_law_1015 : decode code 1015 = .ok (.aload_n 0, 1) := by decide +kernel
theorem d_law_1016 : decode code 1016 = .ok (.iload 4, 2) := by decide +kernel

theorem d_law_1018 : decode code 1018 = .ok (.iconst 1, 1) := by decide +kernel
theorem d_law_1019 : decode code 1019 = .ok (.iadd, 1) := by decide +kernel
theorem d_law_1020 : decode code 1020 = .ok (.iaload, 1) := by decide +kernel
theorem d_law_1021 : decode code 1021 = .ok (.invokevirtual 155, 3) := by decide +kernel
theorem d_law_1024 : decode code 1024 = .ok (.istore 6, 2) := by decide +kernel
theorem d_law_1026 : decode code 1026 = .ok (.aload_n 2, 1) := by decide +kernel
theorem d_law_1027 : decode code 1027 = .ok (.invokevirtual 101, 3) := by decide +kernel
theorem d_law_1030 : decode code 1030 = .ok (.iload 5, 2) := by decide +kernel
theorem d_law_1032 : decode code 1032 = .ok (.if_icmp .eq 5, 3) := by decide +kernel
theorem d_law_1035 : decode code 1035 = .ok (.iconst 0, 1) := by decide +kernel
theorem d_law_1036 : decode code 1036 = .ok (.ireturn, 1) := by decide +kernel
theorem d_law_1037 : decode code 1037 = .ok (.iload 5, 2) := by decide +kernel
theorem d_law_1039 : decode code 1039 = .ok (.ifCond .ne 15, 3) := by decide +kernel
theorem d_law_1042 : decode code 1042 = .ok (.aload_n 3, 1) := by decide +kernel
theorem d_law_1043 : decode code 1043 = .ok (.iconst 0, 1) := by decide +kernel
theorem d_law_1044 : decode code 1044 = .ok (.laload, 1) := by decide +kernel
theorem d_law_1045 : decode code 1045 = .ok (.iload 6, 2) := by decide +kernel
theorem d_law_1047 : decode code 1047 = .ok (.i2l, 1) := by decide +kernel
theorem d_law_1048 : decode code 1048 = .ok (.lcmp, 1) := by decide +kernel
theorem d_law_1049 : decode code 1049 = .ok (.ifCond .eq 5, 3) := by decide +kernel
theorem d_law_1052 : decode code 1052 = .ok (.iconst 0, 1) := by decide +kernel
theorem d_law_1053 : decode code 1053 = .ok (.ireturn, 1) := by decide +kernel
theorem d_law_1054 : decode code 1054 = .ok (.goto 407, 3) := by decide +kernel
theorem d_law_1057 : decode code 1057 = .ok (.aload_n 1, 1) := by decide +kernel
theorem d_law_1058 : decode code 1058 = .ok (.aload_n 0, 1) := by decide +kernel
theorem d_law_1059 : decode code 1059 = .ok (.iload 4, 2) := by decide +kernel
theorem d_law_1061 : decode code 1061 = .ok (.iconst 1, 1) := by decide +kernel
theorem d_law_1062 : decode code 1062 = .ok (.iadd, 1) := by decide +kernel
theorem d_law_1063 : decode code 1063 = .ok (.iaload, 1) := by decide +kernel
theorem d_law_1064 : decode code 1064 = .ok (.aload_n 3, 1) := by decide +kernel
theorem d_law_1065 : decode code 1065 = .ok (.invokestatic 156, 3) := by decide +kernel
theorem d_law_1068 : decode code 1068 = .ok (.istore 5, 2) := by decide +kernel
theorem d_law_1070 : decode code 1070 = .ok (.aload_n 2, 1) := by decide +kernel
theorem d_law_1071 : decode code 1071 = .ok (.aload_n 0, 1) := by decide +kernel
theorem d_law_1072 : decode code 1072 = .ok (.iload 4, 2) := by decide +kernel
theorem d_law_1074 : decode code 1074 = .ok (.iconst 1, 1) := by decide +kernel
theorem d_law_1075 : decode code 1075 = .ok (.iadd, 1) := by decide +kernel
theorem d_law_1076 : decode code 1076 = .ok (.iaload, 1) := by decide +kernel
theorem d_law_1077 : decode code 1077 = .ok (.invokevirtual 158, 3) := by decide +kernel
theorem d_law_1080 : decode code 1080 = .ok (.istore 6, 2) := by decide +kernel
theorem d_law_1082 : decode code 1082 = .ok (.aload_n 2, 1) := by decide +kernel
theorem d_law_1083 : decode code 1083 = .ok (.invokevirtual 101, 3) := by decide +kernel
theorem d_law_1086 : decode code 1086 = .ok (.iload 5, 2) := by decide +kernel
theorem d_law_1088 : decode code 1088 = .ok (.if_icmp .eq 5, 3) := by decide +kernel
theorem d_law_1091 : decode code 1091 = .ok (.iconst 0, 1) := by decide +kernel
theorem d_law_1092 : decode code 1092 = .ok (.ireturn, 1) := by decide +kernel
theorem d_law_1093 : decode code 1093 = .ok (.iload 5, 2) := by decide +kernel
theorem d_law_1095 : decode code 1095 = .ok (.ifCond .ne 15, 3) := by decide +kernel
theorem d_law_1098 : decode code 1098 = .ok (.aload_n 3, 1) := by decide +kernel
theorem d_law_1099 : decode code 1099 = .ok (.iconst 0, 1) := by decide +kernel
theorem d_law_1100 : decode code 1100 = .ok (.laload, 1) := by decide +kernel
theorem d_law_1101 : decode code 1101 = .ok (.iload 6, 2) := by decide +kernel
theorem d_law_1103 : decode code 1103 = .ok (.i2l, 1) := by decide +kernel
theorem d_law_1104 : decode code 1104 = .ok (.lcmp, 1) := by decide +kernel
theorem d_law_1105 : decode code 1105 = .ok (.ifCond .eq 5, 3) := by decide +kernel
theorem d_law_1108 : decode code 1108 = .ok (.iconst 0, 1) := by decide +kernel
theorem d_law_1109 : decode code 1109 = .ok (.ireturn, 1) := by decide +kernel
theorem d_law_1110 : decode code 1110 = .ok (.goto 351, 3) := by decide +kernel
theorem d_law_1113 : decode code 1113 = .ok (.aload_n 1, 1) := by decide +kernel
theorem d_law_1114 : decode code 1114 = .ok (.aload_n 0, 1) := by decide +kernel
theorem d_law_1115 : decode code 1115 = .ok (.iload 4, 2) := by decide +kernel
theorem d_law_1117 : decode code 1117 = .ok (.iconst 1, 1) := by decide +kernel
theorem d_law_1118 : decode code 1118 = .ok (.iadd, 1) := by decide +kernel
theorem d_law_1119 : decode code 1119 = .ok (.iaload, 1) := by decide +kernel
theorem d_law_1120 : decode code 1120 = .ok (.aload_n 3, 1) := by decide +kernel
theorem d_law_1121 : decode code 1121 = .ok (.invokestatic 159, 3) := by decide +kernel
theorem d_law_1124 : decode code 1124 = .ok (.istore 5, 2) := by decide +kernel
theorem d_law_1126 : decode code 1126 = .ok (.aload_n 2, 1) := by decide +kernel
theorem d_law_1127 : decode code 1127 = .ok (.aload_n 0, 1) := by decide +kernel
theorem d_law_1128 : decode code 1128 = .ok (.iload 4, 2) := by decide +kernel
theorem d_law_1130 : decode code 1130 = .ok (.iconst 1, 1) := by decide +kernel
theorem d_law_1131 : decode code 1131 = .ok (.iadd, 1) := by decide +kernel
theorem d_law_1132 : decode code 1132 = .ok (.iaload, 1) := by decide +kernel
theorem d_law_1133 : decode code 1133 = .ok (.invokevirtual 161, 3) := by decide +kernel
theorem d_law_1136 : decode code 1136 = .ok (.istore 6, 2) := by decide +kernel
theorem d_law_1138 : decode code 1138 = .ok (.aload_n 2, 1) := by decide +kernel
theorem d_law_1139 : decode code 1139 = .ok (.invokevirtual 101, 3) := by decide +kernel
theorem d_law_1142 : decode code 1142 = .ok (.iload 5, 2) := by decide +kernel
theorem d_law_1144 : decode code 1144 = .ok (.if_icmp .eq 5, 3) := by decide +kernel
theorem d_law_1147 : decode code 1147 = .ok (.iconst 0, 1) := by decide +kernel
theorem d_law_1148 : decode code 1148 = .ok (.ireturn, 1) := by decide +kernel
theorem d_law_1149 : decode code 1149 = .ok (.iload 5, 2) := by decide +kernel
theorem d_law_1151 : decode code 1151 = .ok (.ifCond .ne 15, 3) := by decide +kernel
theorem d_law_1154 : decode code 1154 = .ok (.aload_n 3, 1) := by decide +kernel
theorem d_law_1155 : decode code 1155 = .ok (.iconst 0, 1) := by decide +kernel
theorem d_law_1156 : decode code 1156 = .ok (.laload, 1) := by decide +kernel
theorem d_law_1157 : decode code 1157 = .ok (.iload 6, 2) := by decide +kernel
theorem d_law_1159 : decode code 1159 = .ok (.i2l, 1) := by decide +kernel
theorem d_law_1160 : decode code 1160 = .ok (.lcmp, 1) := by decide +kernel
theorem d_law_1161 : decode code 1161 = .ok (.ifCond .eq 5, 3) := by decide +kernel
theorem d_law_1164 : decode code 1164 = .ok (.iconst 0, 1) := by decide +kernel
theorem d_law_1165 : decode code 1165 = .ok (.ireturn, 1) := by decide +kernel
theorem d_law_1166 : decode code 1166 = .ok (.goto 295, 3) := by decide +kernel
theorem d_law_1169 : decode code 1169 = .ok (.aload_n 1, 1) := by decide +kernel
theorem d_law_1170 : decode code 1170 = .ok (.aload_n 0, 1) := by decide +kernel
theorem d_law_1171 : decode code 1171 = .ok (.iload 4, 2) := by decide +kernel
theorem d_law_1173 : decode code 1173 = .ok (.iconst 1, 1) := by decide +kernel
theorem d_law_1174 : decode code 1174 = .ok (.iadd, 1) := by decide +kernel
theorem d_law_1175 : decode code 1175 = .ok (.iaload, 1) := by decide +kernel
theorem d_law_1176 : decode code 1176 = .ok (.aload_n 0, 1) := by decide +kernel
theorem d_law_1177 : decode code 1177 = .ok (.iload 4, 2) := by decide +kernel
theorem d_law_1179 : decode code 1179 = .ok (.iconst 2, 1) := by decide +kernel
theorem d_law_1180 : decode code 1180 = .ok (.iadd, 1) := by decide +kernel
theorem d_law_1181 : decode code 1181 = .ok (.iaload, 1) := by decide +kernel
theorem d_law_1182 : decode code 1182 = .ok (.aload_n 3, 1) := by decide +kernel
theorem d_law_1183 : decode code 1183 = .ok (.invokestatic 162, 3) := by decide +kernel
theorem d_law_1186 : decode code 1186 = .ok (.istore 5, 2) := by decide +kernel
theorem d_law_1188 : decode code 1188 = .ok (.aload_n 2, 1) := by decide +kernel
theorem d_law_1189 : decode code 1189 = .ok (.aload_n 0, 1) := by decide +kernel
theorem d_law_1190 : decode code 1190 = .ok (.iload 4, 2) := by decide +kernel
theorem d_law_1192 : decode code 1192 = .ok (.iconst 1, 1) := by decide +kernel
theorem d_law_1193 : decode code 1193 = .ok (.iadd, 1) := by decide +kernel
theorem d_law_1194 : decode code 1194 = .ok (.iaload, 1) := by decide +kernel
theorem d_law_1195 : decode code 1195 = .ok (.aload_n 0, 1) := by decide +kernel
theorem d_law_1196 : decode code 1196 = .ok (.iload 4, 2) := by decide +kernel
theorem d_law_1198 : decode code 1198 = .ok (.iconst 2, 1) := by decide +kernel
theorem d_law_1199 : decode code 1199 = .ok (.iadd, 1) := by decide +kernel
theorem d_law_1200 : decode code 1200 = .ok (.iaload, 1) := by decide +kernel
theorem d_law_1201 : decode code 1201 = .ok (.invokevirtual 164, 3) := by decide +kernel
theorem d_law_1204 : decode code 1204 = .ok (.istore 6, 2) := by decide +kernel
theorem d_law_1206 : decode code 1206 = .ok (.aload_n 2, 1) := by decide +kernel
theorem d_law_1207 : decode code 1207 = .ok (.invokevirtual 101, 3) := by decide +kernel
theorem d_law_1210 : decode code 1210 = .ok (.iload 5, 2) := by decide +kernel
theorem d_law_1212 : decode code 1212 = .ok (.if_icmp .eq 5, 3) := by decide +kernel
theorem d_law_1215 : decode code 1215 = .ok (.iconst 0, 1) := by decide +kernel
theorem d_law_1216 : decode code 1216 = .ok (.ireturn, 1) := by decide +kernel
theorem d_law_1217 : decode code 1217 = .ok (.iload 5, 2) := by decide +kernel
theorem d_law_1219 : decode code 1219 = .ok (.ifCond .ne 15, 3) := by decide +kernel
theorem d_law_1222 : decode code 1222 = .ok (.aload_n 3, 1) := by decide +kernel
theorem d_law_1223 : decode code 1223 = .ok (.iconst 0, 1) := by decide +kernel
theorem d_law_1224 : decode code 1224 = .ok (.laload, 1) := by decide +kernel
theorem d_law_1225 : decode code 1225 = .ok (.iload 6, 2) := by decide +kernel
theorem d_law_1227 : decode code 1227 = .ok (.i2l, 1) := by decide +kernel
theorem d_law_1228 : decode code 1228 = .ok (.lcmp, 1) := by decide +kernel
theorem d_law_1229 : decode code 1229 = .ok (.ifCond .eq 5, 3) := by decide +kernel
theorem d_law_1232 : decode code 1232 = .ok (.iconst 0, 1) := by decide +kernel
theorem d_law_1233 : decode code 1233 = .ok (.ireturn, 1) := by decide +kernel
theorem d_law_1234 : decode code 1234 = .ok (.goto 227, 3) := by decide +kernel
theorem d_law_1237 : decode code 1237 = .ok (.aload_n 1, 1) := by decide +kernel
theorem d_law_1238 : decode code 1238 = .ok (.aload_n 0, 1) := by decide +kernel
theorem d_law_1239 : decode code 1239 = .ok (.iload 4, 2) := by decide +kernel
theorem d_law_1241 : decode code 1241 = .ok (.iconst 1, 1) := by decide +kernel
theorem d_law_1242 : decode code 1242 = .ok (.iadd, 1) := by decide +kernel
theorem d_law_1243 : decode code 1243 = .ok (.iaload, 1) := by decide +kernel
theorem d_law_1244 : decode code 1244 = .ok (.aload_n 3, 1) := by decide +kernel
theorem d_law_1245 : decode code 1245 = .ok (.invokestatic 165, 3) := by decide +kernel
theorem d_law_1248 : decode code 1248 = .ok (.istore 5, 2) := by decide +kernel
theorem d_law_1250 : decode code 1250 = .ok (.aload_n 2, 1) := by decide +kernel
theorem d_law_1251 : decode code 1251 = .ok (.aload_n 0, 1) := by decide +kernel
theorem d_law_1252 : decode code 1252 = .ok (.iload 4, 2) := by decide +kernel
theorem d_law_1254 : decode code 1254 = .ok (.iconst 1, 1) := by decide +kernel
theorem d_law_1255 : decode code 1255 = .ok (.iadd, 1) := by decide +kernel
theorem d_law_1256 : decode code 1256 = .ok (.iaload, 1) := by decide +kernel
theorem d_law_1257 : decode code 1257 = .ok (.invokevirtual 167, 3) := by decide +kernel
theorem d_law_1260 : decode code 1260 = .ok (.istore 6, 2) := by decide +kernel
theorem d_law_1262 : decode code 1262 = .ok (.aload_n 2, 1) := by decide +kernel
theorem d_law_1263 : decode code 1263 = .ok (.invokevirtual 101, 3) := by decide +kernel
theorem d_law_1266 : decode code 1266 = .ok (.iload 5, 2) := by decide +kernel
theorem d_law_1268 : decode code 1268 = .ok (.if_icmp .eq 5, 3) := by decide +kernel
theorem d_law_1271 : decode code 1271 = .ok (.iconst 0, 1) := by decide +kernel
theorem d_law_1272 : decode code 1272 = .ok (.ireturn, 1) := by decide +kernel
theorem d_law_1273 : decode code 1273 = .ok (.iload 5, 2) := by decide +kernel
theorem d_law_1275 : decode code 1275 = .ok (.ifCond .ne 15, 3) := by decide +kernel
theorem d_law_1278 : decode code 1278 = .ok (.aload_n 3, 1) := by decide +kernel
theorem d_law_1279 : decode code 1279 = .ok (.iconst 0, 1) := by decide +kernel
theorem d_law_1280 : decode code 1280 = .ok (.laload, 1) := by decide +kernel
theorem d_law_1281 : decode code 1281 = .ok (.iload 6, 2) := by decide +kernel
theorem d_law_1283 : decode code 1283 = .ok (.i2l, 1) := by decide +kernel
theorem d_law_1284 : decode code 1284 = .ok (.lcmp, 1) := by decide +kernel
theorem d_law_1285 : decode code 1285 = .ok (.ifCond .eq 5, 3) := by decide +kernel
theorem d_law_1288 : decode code 1288 = .ok (.iconst 0, 1) := by decide +kernel
theorem d_law_1289 : decode code 1289 = .ok (.ireturn, 1) := by decide +kernel
theorem d_law_1290 : decode code 1290 = .ok (.goto 171, 3) := by decide +kernel
theorem d_law_1293 : decode code 1293 = .ok (.aload_n 1, 1) := by decide +kernel
theorem d_law_1294 : decode code 1294 = .ok (.aload_n 0, 1) := by decide +kernel
theorem d_law_1295 : decode code 1295 = .ok (.iload 4, 2) := by decide +kernel
theorem d_law_1297 : decode code 1297 = .ok (.iconst 1, 1) := by decide +kernel
theorem d_law_1298 : decode code 1298 = .ok (.iadd, 1) := by decide +kernel
theorem d_law_1299 : decode code 1299 = .ok (.iaload, 1) := by decide +kernel
theorem d_law_1300 : decode code 1300 = .ok (.invokestatic 168, 3) := by decide +kernel
theorem d_law_1303 : decode code 1303 = .ok (.istore 5, 2) := by decide +kernel
theorem d_law_1305 : decode code 1305 = .ok (.aload_n 2, 1) := by decide +kernel
theorem d_law_1306 : decode code 1306 = .ok (.aload_n 0, 1) := by decide +kernel
theorem d_law_1307 : decode code 1307 = .ok (.iload 4, 2) := by decide +kernel
theorem d_law_1309 : decode code 1309 = .ok (.iconst 1, 1) := by decide +kernel
theorem d_law_1310 : decode code 1310 = .ok (.iadd, 1) := by decide +kernel
theorem d_law_1311 : decode code 1311 = .ok (.iaload, 1) := by decide +kernel
theorem d_law_1312 : decode code 1312 = .ok (.invokevirtual 171, 3) := by decide +kernel
theorem d_law_1315 : decode code 1315 = .ok (.aload_n 2, 1) := by decide +kernel
theorem d_law_1316 : decode code 1316 = .ok (.invokevirtual 101, 3) := by decide +kernel
theorem d_law_1319 : decode code 1319 = .ok (.iload 5, 2) := by decide +kernel
theorem d_law_1321 : decode code 1321 = .ok (.if_icmp .eq 5, 3) := by decide +kernel
theorem d_law_1324 : decode code 1324 = .ok (.iconst 0, 1) := by decide +kernel
theorem d_law_1325 : decode code 1325 = .ok (.ireturn, 1) := by decide +kernel
theorem d_law_1326 : decode code 1326 = .ok (.goto 135, 3) := by decide +kernel
theorem d_law_1329 : decode code 1329 = .ok (.aload_n 1, 1) := by decide +kernel
theorem d_law_1330 : decode code 1330 = .ok (.aload_n 0, 1) := by decide +kernel
theorem d_law_1331 : decode code 1331 = .ok (.iload 4, 2) := by decide +kernel
theorem d_law_1333 : decode code 1333 = .ok (.iconst 1, 1) := by decide +kernel
theorem d_law_1334 : decode code 1334 = .ok (.iadd, 1) := by decide +kernel

theorem d_law_1335 : decode code 1335 = .ok (.iaload, 1) := by decide +kernel
theorem d_law_1336 : decode code 1336 = .ok (.aload_n 0, 1) := by decide +kernel
theorem d_law_1337 : decode code 1337 = .ok (.iload 4, 2) := by decide +kernel
theorem d_law_1339 : decode code 1339 = .ok (.iconst 2, 1) := by decide +kernel
theorem d_law_1340 : decode code 1340 = .ok (.iadd, 1) := by decide +kernel
theorem d_law_1341 : decode code 1341 = .ok (.iaload, 1) := by decide +kernel
theorem d_law_1342 : decode code 1342 = .ok (.invokestatic 172, 3) := by decide +kernel
theorem d_law_1345 : decode code 1345 = .ok (.istore 5, 2) := by decide +kernel
theorem d_law_1347 : decode code 1347 = .ok (.aload_n 2, 1) := by decide +kernel
theorem d_law_1348 : decode code 1348 = .ok (.aload_n 0, 1) := by decide +kernel
theorem d_law_1349 : decode code 1349 = .ok (.iload 4, 2) := by decide +kernel
theorem d_law_1351 : decode code 1351 = .ok (.iconst 1, 1) := by decide +kernel
theorem d_law_1352 : decode code 1352 = .ok (.iadd, 1) := by decide +kernel
theorem d_law_1353 : decode code 1353 = .ok (.iaload, 1) := by decide +kernel
theorem d_law_1354 : decode code 1354 = .ok (.aload_n 0, 1) := by decide +kernel
theorem d_law_1355 : decode code 1355 = .ok (.iload 4, 2) := by decide +kernel
theorem d_law_1357 : decode code 1357 = .ok (.iconst 2, 1) := by decide +kernel
theorem d_law_1358 : decode code 1358 = .ok (.iadd, 1) := by decide +kernel
theorem d_law_1359 : decode code 1359 = .ok (.iaload, 1) := by decide +kernel
theorem d_law_1360 : decode code 1360 = .ok (.invokevirtual 174, 3) := by decide +kernel
theorem d_law_1363 : decode code 1363 = .ok (.aload_n 2, 1) := by decide +kernel
theorem d_law_1364 : decode code 1364 = .ok (.invokevirtual 101, 3) := by decide +kernel
theorem d_law_1367 : decode code 1367 = .ok (.iload 5, 2) := by decide +kernel
theorem d_law_1369 : decode code 1369 = .ok (.if_icmp .eq 5, 3) := by decide +kernel
theorem d_law_1372 : decode code 1372 = .ok (.iconst 0, 1) := by decide +kernel
theorem d_law_1373 : decode code 1373 = .ok (.ireturn, 1) := by decide +kernel
theorem d_law_1374 : decode code 1374 = .ok (.goto 87, 3) := by decide +kernel
theorem d_law_1377 : decode code 1377 = .ok (.aload_n 1, 1) := by decide +kernel
theorem d_law_1378 : decode code 1378 = .ok (.aload_n 0, 1) := by decide +kernel
theorem d_law_1379 : decode code 1379 = .ok (.iload 4, 2) := by decide +kernel
theorem d_law_1381 : decode code 1381 = .ok (.iconst 1, 1) := by decide +kernel
theorem d_law_1382 : decode code 1382 = .ok (.iadd, 1) := by decide +kernel
theorem d_law_1383 : decode code 1383 = .ok (.iaload, 1) := by decide +kernel
theorem d_law_1384 : decode code 1384 = .ok (.invokestatic 175, 3) := by decide +kernel
theorem d_law_1387 : decode code 1387 = .ok (.istore 5, 2) := by decide +kernel
theorem d_law_1389 : decode code 1389 = .ok (.aload_n 2, 1) := by decide +kernel
theorem d_law_1390 : decode code 1390 = .ok (.aload_n 0, 1) := by decide +kernel
theorem d_law_1391 : decode code 1391 = .ok (.iload 4, 2) := by decide +kernel
theorem d_law_1393 : decode code 1393 = .ok (.iconst 1, 1) := by decide +kernel
theorem d_law_1394 : decode code 1394 = .ok (.iadd, 1) := by decide +kernel
theorem d_law_1395 : decode code 1395 = .ok (.iaload, 1) := by decide +kernel
theorem d_law_1396 : decode code 1396 = .ok (.invokevirtual 177, 3) := by decide +kernel
theorem d_law_1399 : decode code 1399 = .ok (.aload_n 2, 1) := by decide +kernel
theorem d_law_1400 : decode code 1400 = .ok (.invokevirtual 101, 3) := by decide +kernel
theorem d_law_1403 : decode code 1403 = .ok (.iload 5, 2) := by decide +kernel
theorem d_law_1405 : decode code 1405 = .ok (.if_icmp .eq 5, 3) := by decide +kernel
theorem d_law_1408 : decode code 1408 = .ok (.iconst 0, 1) := by decide +kernel
theorem d_law_1409 : decode code 1409 = .ok (.ireturn, 1) := by decide +kernel
theorem d_law_1410 : decode code 1410 = .ok (.goto 51, 3) := by decide +kernel
theorem d_law_1413 : decode code 1413 = .ok (.aload_n 1, 1) := by decide +kernel
theorem d_law_1414 : decode code 1414 = .ok (.aload_n 0, 1) := by decide +kernel
theorem d_law_1415 : decode code 1415 = .ok (.iload 4, 2) := by decide +kernel
theorem d_law_1417 : decode code 1417 = .ok (.iconst 1, 1) := by decide +kernel
theorem d_law_1418 : decode code 1418 = .ok (.iadd, 1) := by decide +kernel
theorem d_law_1419 : decode code 1419 = .ok (.iaload, 1) := by decide +kernel
theorem d_law_1420 : decode code 1420 = .ok (.aload_n 0, 1) := by decide +kernel
theorem d_law_1421 : decode code 1421 = .ok (.iload 4, 2) := by decide +kernel
theorem d_law_1423 : decode code 1423 = .ok (.iconst 2, 1) := by decide +kernel
theorem d_law_1424 : decode code 1424 = .ok (.iadd, 1) := by decide +kernel
theorem d_law_1425 : decode code 1425 = .ok (.iaload, 1) := by decide +kernel
theorem d_law_1426 : decode code 1426 = .ok (.invokestatic 178, 3) := by decide +kernel
theorem d_law_1429 : decode code 1429 = .ok (.istore 5, 2) := by decide +kernel
theorem d_law_1431 : decode code 1431 = .ok (.aload_n 2, 1) := by decide +kernel
theorem d_law_1432 : decode code 1432 = .ok (.aload_n 0, 1) := by decide +kernel
theorem d_law_1433 : decode code 1433 = .ok (.iload 4, 2) := by decide +kernel
theorem d_law_1435 : decode code 1435 = .ok (.iconst 1, 1) := by decide +kernel
theorem d_law_1436 : decode code 1436 = .ok (.iadd, 1) := by decide +kernel
theorem d_law_1437 : decode code 1437 = .ok (.iaload, 1) := by decide +kernel
theorem d_law_1438 : decode code 1438 = .ok (.aload_n 0, 1) := by decide +kernel
theorem d_law_1439 : decode code 1439 = .ok (.iload 4, 2) := by decide +kernel
theorem d_law_1441 : decode code 1441 = .ok (.iconst 2, 1) := by decide +kernel
theorem d_law_1442 : decode code 1442 = .ok (.iadd, 1) := by decide +kernel
theorem d_law_1443 : decode code 1443 = .ok (.iaload, 1) := by decide +kernel
theorem d_law_1444 : decode code 1444 = .ok (.invokevirtual 180, 3) := by decide +kernel
theorem d_law_1447 : decode code 1447 = .ok (.aload_n 2, 1) := by decide +kernel
theorem d_law_1448 : decode code 1448 = .ok (.invokevirtual 101, 3) := by decide +kernel
theorem d_law_1451 : decode code 1451 = .ok (.iload 5, 2) := by decide +kernel
theorem d_law_1453 : decode code 1453 = .ok (.if_icmp .eq 5, 3) := by decide +kernel
theorem d_law_1456 : decode code 1456 = .ok (.iconst 0, 1) := by decide +kernel
theorem d_law_1457 : decode code 1457 = .ok (.ireturn, 1) := by decide +kernel
theorem d_law_1458 : decode code 1458 = .ok (.goto 3, 3) := by decide +kernel
theorem d_law_1461 : decode code 1461 = .ok (.iinc 4 6, 3) := by decide +kernel
theorem d_law_1464 : decode code 1464 = .ok (.goto (-1441), 3) := by decide +kernel
theorem d_law_1467 : decode code 1467 = .ok (.iconst 1, 1) := by decide +kernel
theorem d_law_1468 : decode code 1468 = .ok (.ireturn, 1) := by decide +kernel


