/-! the law, decoded (1) -/
theorem d_Law_law_407 : decode code 407 = .ok (.iconst 0, 1) := by decide +kernel
theorem d_Law_law_408 : decode code 408 = .ok (.invokevirtual 181, 3) := by decide +kernel
theorem d_Law_law_411 : decode code 411 = .ok (.invokevirtual 138, 3) := by decide +kernel
theorem d_Law_law_414 : decode code 414 = .ok (.ifCond .ne 66, 3) := by decide +kernel
theorem d_Law_law_417 : decode code 417 = .ok (.iload_n 3, 1) := by decide +kernel
theorem d_Law_law_418 : decode code 418 = .ok (.aload_n 1, 1) := by decide +kernel
theorem d_Law_law_419 : decode code 419 = .ok (.invokevirtual 184, 3) := by decide +kernel
theorem d_Law_law_422 : decode code 422 = .ok (.if_icmp .ne 58, 3) := by decide +kernel
theorem d_Law_law_425 : decode code 425 = .ok (.iload_n 3, 1) := by decide +kernel
theorem d_Law_law_426 : decode code 426 = .ok (.aload_n 1, 1) := by decide +kernel
theorem d_Law_law_427 : decode code 427 = .ok (.invokevirtual 187, 3) := by decide +kernel
theorem d_Law_law_430 : decode code 430 = .ok (.if_icmp .ne 50, 3) := by decide +kernel
theorem d_Law_law_433 : decode code 433 = .ok (.iload_n 3, 1) := by decide +kernel
theorem d_Law_law_434 : decode code 434 = .ok (.iconst 3, 1) := by decide +kernel
theorem d_Law_law_435 : decode code 435 = .ok (.iload 4, 2) := by decide +kernel
theorem d_Law_law_437 : decode code 437 = .ok (.imul, 1) := by decide +kernel
theorem d_Law_law_438 : decode code 438 = .ok (.if_icmp .gt 42, 3) := by decide +kernel
theorem d_Law_law_441 : decode code 441 = .ok (.iload 4, 2) := by decide +kernel
theorem d_Law_law_443 : decode code 443 = .ok (.aload_n 1, 1) := by decide +kernel
theorem d_Law_law_444 : decode code 444 = .ok (.invokevirtual 190, 3) := by decide +kernel
theorem d_Law_law_447 : decode code 447 = .ok (.if_icmp .ne 33, 3) := by decide +kernel
theorem d_Law_law_450 : decode code 450 = .ok (.iload 5, 2) := by decide +kernel
theorem d_Law_law_452 : decode code 452 = .ok (.aload_n 1, 1) := by decide +kernel
theorem d_Law_law_453 : decode code 453 = .ok (.invokevirtual 193, 3) := by decide +kernel
theorem d_Law_law_456 : decode code 456 = .ok (.if_icmp .ne 24, 3) := by decide +kernel
theorem d_Law_law_459 : decode code 459 = .ok (.aload_n 1, 1) := by decide +kernel
theorem d_Law_law_460 : decode code 460 = .ok (.invokevirtual 196, 3) := by decide +kernel
theorem d_Law_law_463 : decode code 463 = .ok (.ifCond .eq 17, 3) := by decide +kernel
theorem d_Law_law_466 : decode code 466 = .ok (.aload_n 1, 1) := by decide +kernel
theorem d_Law_law_467 : decode code 467 = .ok (.invokevirtual 199, 3) := by decide +kernel
theorem d_Law_law_470 : decode code 470 = .ok (.iload_n 3, 1) := by decide +kernel
theorem d_Law_law_471 : decode code 471 = .ok (.i2d, 1) := by decide +kernel
theorem d_Law_law_472 : decode code 472 = .ok (.iload 4, 2) := by decide +kernel
theorem d_Law_law_474 : decode code 474 = .ok (.i2d, 1) := by decide +kernel
theorem d_Law_law_475 : decode code 475 = .ok (.ddiv, 1) := by decide +kernel
theorem d_Law_law_476 : decode code 476 = .ok (.dcmp .l, 1) := by decide +kernel
theorem d_Law_law_477 : decode code 477 = .ok (.ifCond .eq 5, 3) := by decide +kernel
theorem d_Law_law_480 : decode code 480 = .ok (.iconst 0, 1) := by decide +kernel
theorem d_Law_law_481 : decode code 481 = .ok (.ireturn, 1) := by decide +kernel
theorem d_Law_law_482 : decode code 482 = .ok (.iconst 0, 1) := by decide +kernel
theorem d_Law_law_483 : decode code 483 = .ok (.istore 8, 2) := by decide +kernel
theorem d_Law_law_485 : decode code 485 = .ok (.iconst 0, 1) := by decide +kernel
theorem d_Law_law_486 : decode code 486 = .ok (.istore 9, 2) := by decide +kernel
theorem d_Law_law_488 : decode code 488 = .ok (.iload 9, 2) := by decide +kernel
theorem d_Law_law_490 : decode code 490 = .ok (.aload_n 1, 1) := by decide +kernel
theorem d_Law_law_491 : decode code 491 = .ok (.invokevirtual 203, 3) := by decide +kernel
theorem d_Law_law_494 : decode code 494 = .ok (.if_icmp .ge 29, 3) := by decide +kernel
theorem d_Law_law_497 : decode code 497 = .ok (.iload 8, 2) := by decide +kernel
theorem d_Law_law_499 : decode code 499 = .ok (.aload 7, 2) := by decide +kernel
theorem d_Law_law_501 : decode code 501 = .ok (.aload_n 1, 1) := by decide +kernel
theorem d_Law_law_502 : decode code 502 = .ok (.iload 9, 2) := by decide +kernel
theorem d_Law_law_504 : decode code 504 = .ok (.invokevirtual 206, 3) := by decide +kernel
theorem d_Law_law_507 : decode code 507 = .ok (.bipush 97, 2) := by decide +kernel
theorem d_Law_law_509 : decode code 509 = .ok (.isub, 1) := by decide +kernel
theorem d_Law_law_510 : decode code 510 = .ok (.aaload, 1) := by decide +kernel
theorem d_Law_law_511 : decode code 511 = .ok (.invokevirtual 119, 3) := by decide +kernel
theorem d_Law_law_514 : decode code 514 = .ok (.iadd, 1) := by decide +kernel
theorem d_Law_law_515 : decode code 515 = .ok (.istore 8, 2) := by decide +kernel
theorem d_Law_law_517 : decode code 517 = .ok (.iinc 9 1, 3) := by decide +kernel
theorem d_Law_law_520 : decode code 520 = .ok (.goto (-32), 3) := by decide +kernel
theorem d_Law_law_523 : decode code 523 = .ok (.aload_n 1, 1) := by decide +kernel
theorem d_Law_law_524 : decode code 524 = .ok (.invokevirtual 209, 3) := by decide +kernel
theorem d_Law_law_527 : decode code 527 = .ok (.iload 8, 2) := by decide +kernel
theorem d_Law_law_529 : decode code 529 = .ok (.if_icmp .eq 5, 3) := by decide +kernel
theorem d_Law_law_532 : decode code 532 = .ok (.iconst 0, 1) := by decide +kernel
theorem d_Law_law_533 : decode code 533 = .ok (.ireturn, 1) := by decide +kernel
theorem d_Law_law_534 : decode code 534 = .ok (.iconst 0, 1) := by decide +kernel
theorem d_Law_law_535 : decode code 535 = .ok (.istore 9, 2) := by decide +kernel
theorem d_Law_law_537 : decode code 537 = .ok (.iload 9, 2) := by decide +kernel
theorem d_Law_law_539 : decode code 539 = .ok (.iload 6, 2) := by decide +kernel
theorem d_Law_law_541 : decode code 541 = .ok (.if_icmp .ge 632, 3) := by decide +kernel
theorem d_Law_law_544 : decode code 544 = .ok (.aload_n 1, 1) := by decide +kernel
theorem d_Law_law_545 : decode code 545 = .ok (.iload 9, 2) := by decide +kernel
theorem d_Law_law_547 : decode code 547 = .ok (.invokevirtual 55, 3) := by decide +kernel
theorem d_Law_law_550 : decode code 550 = .ok (.istore 10, 2) := by decide +kernel
theorem d_Law_law_552 : decode code 552 = .ok (.iconst 0, 1) := by decide +kernel
theorem d_Law_law_553 : decode code 553 = .ok (.istore 11, 2) := by decide +kernel
theorem d_Law_law_555 : decode code 555 = .ok (.iconst 0, 1) := by decide +kernel
theorem d_Law_law_556 : decode code 556 = .ok (.istore 12, 2) := by decide +kernel
theorem d_Law_law_558 : decode code 558 = .ok (.aload_n 1, 1) := by decide +kernel
theorem d_Law_law_559 : decode code 559 = .ok (.iload 10, 2) := by decide +kernel
theorem d_Law_law_561 : decode code 561 = .ok (.invokevirtual 212, 3) := by decide +kernel
theorem d_Law_law_564 : decode code 564 = .ok (.istore 13, 2) := by decide +kernel
theorem d_Law_law_566 : decode code 566 = .ok (.ldc 141, 2) := by decide +kernel
theorem d_Law_law_568 : decode code 568 = .ok (.astore 14, 2) := by decide +kernel
theorem d_Law_law_570 : decode code 570 = .ok (.ldc 141, 2) := by decide +kernel
theorem d_Law_law_572 : decode code 572 = .ok (.astore 15, 2) := by decide +kernel
theorem d_Law_law_574 : decode code 574 = .ok (.iconst 0, 1) := by decide +kernel
theorem d_Law_law_575 : decode code 575 = .ok (.istore 16, 2) := by decide +kernel
theorem d_Law_law_577 : decode code 577 = .ok (.iload 16, 2) := by decide +kernel
theorem d_Law_law_579 : decode code 579 = .ok (.aload_n 1, 1) := by decide +kernel
theorem d_Law_law_580 : decode code 580 = .ok (.iload 10, 2) := by decide +kernel
theorem d_Law_law_582 : decode code 582 = .ok (.invokevirtual 215, 3) := by decide +kernel
theorem d_Law_law_585 : decode code 585 = .ok (.if_icmp .ge 71, 3) := by decide +kernel
theorem d_Law_law_588 : decode code 588 = .ok (.new 143, 3) := by decide +kernel
theorem d_Law_law_591 : decode code 591 = .ok (.dup, 1) := by decide +kernel
theorem d_Law_law_592 : decode code 592 = .ok (.invokespecial 145, 3) := by decide +kernel
theorem d_Law_law_595 : decode code 595 = .ok (.aload 14, 2) := by decide +kernel
theorem d_Law_law_597 : decode code 597 = .ok (.invokevirtual 146, 3) := by decide +kernel
theorem d_Law_law_600 : decode code 600 = .ok (.aload_n 1, 1) := by decide +kernel
theorem d_Law_law_601 : decode code 601 = .ok (.iload 10, 2) := by decide +kernel
theorem d_Law_law_603 : decode code 603 = .ok (.iload 16, 2) := by decide +kernel
theorem d_Law_law_605 : decode code 605 = .ok (.invokevirtual 58, 3) := by decide +kernel
theorem d_Law_law_608 : decode code 608 = .ok (.invokevirtual 160, 3) := by decide +kernel
theorem d_Law_law_611 : decode code 611 = .ok (.invokevirtual 153, 3) := by decide +kernel
theorem d_Law_law_614 : decode code 614 = .ok (.astore 14, 2) := by decide +kernel
theorem d_Law_law_616 : decode code 616 = .ok (.new 143, 3) := by decide +kernel
theorem d_Law_law_619 : decode code 619 = .ok (.dup, 1) := by decide +kernel
theorem d_Law_law_620 : decode code 620 = .ok (.invokespecial 145, 3) := by decide +kernel
theorem d_Law_law_623 : decode code 623 = .ok (.aload 15, 2) := by decide +kernel
theorem d_Law_law_625 : decode code 625 = .ok (.invokevirtual 146, 3) := by decide +kernel
theorem d_Law_law_628 : decode code 628 = .ok (.aload 7, 2) := by decide +kernel
theorem d_Law_law_630 : decode code 630 = .ok (.aload_n 1, 1) := by decide +kernel
theorem d_Law_law_631 : decode code 631 = .ok (.iload 10, 2) := by decide +kernel
theorem d_Law_law_633 : decode code 633 = .ok (.iload 16, 2) := by decide +kernel
theorem d_Law_law_635 : decode code 635 = .ok (.invokevirtual 58, 3) := by decide +kernel
theorem d_Law_law_638 : decode code 638 = .ok (.bipush 97, 2) := by decide +kernel
theorem d_Law_law_640 : decode code 640 = .ok (.isub, 1) := by decide +kernel
theorem d_Law_law_641 : decode code 641 = .ok (.aaload, 1) := by decide +kernel
theorem d_Law_law_642 : decode code 642 = .ok (.invokevirtual 146, 3) := by decide +kernel
theorem d_Law_law_645 : decode code 645 = .ok (.invokevirtual 153, 3) := by decide +kernel
theorem d_Law_law_648 : decode code 648 = .ok (.astore 15, 2) := by decide +kernel
theorem d_Law_law_650 : decode code 650 = .ok (.iinc 16 1, 3) := by decide +kernel
theorem d_Law_law_653 : decode code 653 = .ok (.goto (-76), 3) := by decide +kernel
theorem d_Law_law_656 : decode code 656 = .ok (.aload_n 1, 1) := by decide +kernel
theorem d_Law_law_657 : decode code 657 = .ok (.iload 10, 2) := by decide +kernel
theorem d_Law_law_659 : decode code 659 = .ok (.invokevirtual 218, 3) := by decide +kernel
theorem d_Law_law_662 : decode code 662 = .ok (.aload 15, 2) := by decide +kernel
theorem d_Law_law_664 : decode code 664 = .ok (.invokevirtual 119, 3) := by decide +kernel
theorem d_Law_law_667 : decode code 667 = .ok (.if_icmp .ne 89, 3) := by decide +kernel
theorem d_Law_law_670 : decode code 670 = .ok (.aload_n 1, 1) := by decide +kernel
theorem d_Law_law_671 : decode code 671 = .ok (.iload 10, 2) := by decide +kernel
theorem d_Law_law_673 : decode code 673 = .ok (.aload 15, 2) := by decide +kernel
theorem d_Law_law_675 : decode code 675 = .ok (.invokevirtual 119, 3) := by decide +kernel
theorem d_Law_law_678 : decode code 678 = .ok (.invokestatic 221, 3) := by decide +kernel
theorem d_Law_law_681 : decode code 681 = .ok (.sipush (-25000), 3) := by decide +kernel
theorem d_Law_law_684 : decode code 684 = .ok (.if_icmp .ne 72, 3) := by decide +kernel
theorem d_Law_law_687 : decode code 687 = .ok (.aload_n 1, 1) := by decide +kernel
theorem d_Law_law_688 : decode code 688 = .ok (.iload 10, 2) := by decide +kernel
theorem d_Law_law_690 : decode code 690 = .ok (.aload 14, 2) := by decide +kernel
theorem d_Law_law_692 : decode code 692 = .ok (.invokevirtual 119, 3) := by decide +kernel
theorem d_Law_law_695 : decode code 695 = .ok (.invokestatic 223, 3) := by decide +kernel
theorem d_Law_law_698 : decode code 698 = .ok (.sipush (-25000), 3) := by decide +kernel
theorem d_Law_law_701 : decode code 701 = .ok (.if_icmp .ne 55, 3) := by decide +kernel
theorem d_Law_law_704 : decode code 704 = .ok (.aload_n 1, 1) := by decide +kernel
theorem d_Law_law_705 : decode code 705 = .ok (.aload_n 1, 1) := by decide +kernel
theorem d_Law_law_706 : decode code 706 = .ok (.iload 10, 2) := by decide +kernel
theorem d_Law_law_708 : decode code 708 = .ok (.invokevirtual 225, 3) := by decide +kernel
theorem d_Law_law_711 : decode code 711 = .ok (.new 143, 3) := by decide +kernel
theorem d_Law_law_714 : decode code 714 = .ok (.dup, 1) := by decide +kernel
theorem d_Law_law_715 : decode code 715 = .ok (.invokespecial 145, 3) := by decide +kernel
theorem d_Law_law_718 : decode code 718 = .ok (.iload 10, 2) := by decide +kernel
theorem d_Law_law_720 : decode code 720 = .ok (.invokevirtual 150, 3) := by decide +kernel
theorem d_Law_law_723 : decode code 723 = .ok (.ldc 228, 2) := by decide +kernel
theorem d_Law_law_725 : decode code 725 = .ok (.invokevirtual 146, 3) := by decide +kernel
theorem d_Law_law_728 : decode code 728 = .ok (.aload_n 1, 1) := by decide +kernel
theorem d_Law_law_729 : decode code 729 = .ok (.iload 10, 2) := by decide +kernel
theorem d_Law_law_731 : decode code 731 = .ok (.invokevirtual 230, 3) := by decide +kernel
theorem d_Law_law_734 : decode code 734 = .ok (.invokevirtual 150, 3) := by decide +kernel
theorem d_Law_law_737 : decode code 737 = .ok (.ldc 233, 2) := by decide +kernel
theorem d_Law_law_739 : decode code 739 = .ok (.invokevirtual 146, 3) := by decide +kernel
theorem d_Law_law_742 : decode code 742 = .ok (.aload 14, 2) := by decide +kernel
theorem d_Law_law_744 : decode code 744 = .ok (.invokevirtual 146, 3) := by decide +kernel
theorem d_Law_law_747 : decode code 747 = .ok (.invokevirtual 153, 3) := by decide +kernel
theorem d_Law_law_750 : decode code 750 = .ok (.invokestatic 165, 3) := by decide +kernel
theorem d_Law_law_753 : decode code 753 = .ok (.ifCond .ne 5, 3) := by decide +kernel
theorem d_Law_law_756 : decode code 756 = .ok (.iconst 0, 1) := by decide +kernel
theorem d_Law_law_757 : decode code 757 = .ok (.ireturn, 1) := by decide +kernel
theorem d_Law_law_758 : decode code 758 = .ok (.iconst 0, 1) := by decide +kernel
theorem d_Law_law_759 : decode code 759 = .ok (.istore 16, 2) := by decide +kernel
theorem d_Law_law_761 : decode code 761 = .ok (.iload 16, 2) := by decide +kernel
theorem d_Law_law_763 : decode code 763 = .ok (.aload 15, 2) := by decide +kernel
theorem d_Law_law_765 : decode code 765 = .ok (.invokevirtual 119, 3) := by decide +kernel
theorem d_Law_law_768 : decode code 768 = .ok (.iconst 4, 1) := by decide +kernel
theorem d_Law_law_769 : decode code 769 = .ok (.iadd, 1) := by decide +kernel
theorem d_Law_law_770 : decode code 770 = .ok (.if_icmp .ge 102, 3) := by decide +kernel
theorem d_Law_law_773 : decode code 773 = .ok (.iload 16, 2) := by decide +kernel
theorem d_Law_law_775 : decode code 775 = .ok (.aload 15, 2) := by decide +kernel
theorem d_Law_law_777 : decode code 777 = .ok (.invokevirtual 119, 3) := by decide +kernel
theorem d_Law_law_780 : decode code 780 = .ok (.if_icmp .ge 16, 3) := by decide +kernel
theorem d_Law_law_783 : decode code 783 = .ok (.aload 15, 2) := by decide +kernel
theorem d_Law_law_785 : decode code 785 = .ok (.iload 16, 2) := by decide +kernel
theorem d_Law_law_787 : decode code 787 = .ok (.invokevirtual 127, 3) := by decide +kernel
theorem d_Law_law_790 : decode code 790 = .ok (.bipush 48, 2) := by decide +kernel
theorem d_Law_law_792 : decode code 792 = .ok (.isub, 1) := by decide +kernel
theorem d_Law_law_793 : decode code 793 = .ok (.goto 18, 3) := by decide +kernel
theorem d_Law_law_796 : decode code 796 = .ok (.iload 13, 2) := by decide +kernel
theorem d_Law_law_798 : decode code 798 = .ok (.iconst 3, 1) := by decide +kernel
theorem d_Law_law_799 : decode code 799 = .ok (.iload 16, 2) := by decide +kernel
theorem d_Law_law_801 : decode code 801 = .ok (.isub, 1) := by decide +kernel
theorem d_Law_law_802 : decode code 802 = .ok (.aload 15, 2) := by decide +kernel
theorem d_Law_law_804 : decode code 804 = .ok (.invokevirtual 119, 3) := by decide +kernel
theorem d_Law_law_807 : decode code 807 = .ok (.iadd, 1) := by decide +kernel
theorem d_Law_law_808 : decode code 808 = .ok (.ishr, 1) := by decide +kernel
theorem d_Law_law_809 : decode code 809 = .ok (.iconst 1, 1) := by decide +kernel
theorem d_Law_law_810 : decode code 810 = .ok (.iand, 1) := by decide +kernel
theorem d_Law_law_811 : decode code 811 = .ok (.istore 17, 2) := by decide +kernel
theorem d_Law_law_813 : decode code 813 = .ok (.iload 16, 2) := by decide +kernel
theorem d_Law_law_815 : decode code 815 = .ok (.aload 15, 2) := by decide +kernel
theorem d_Law_law_817 : decode code 817 = .ok (.invokevirtual 119, 3) := by decide +kernel
theorem d_Law_law_820 : decode code 820 = .ok (.if_icmp .ge 18, 3) := by decide +kernel
theorem d_Law_law_823 : decode code 823 = .ok (.aload_n 1, 1) := by decide +kernel
theorem d_Law_law_824 : decode code 824 = .ok (.iload 10, 2) := by decide +kernel
