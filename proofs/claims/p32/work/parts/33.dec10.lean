theorem dL_isSo_399 : decode cL_isSo 399 = .ok (.if_icmp .eq 5, 3) := by decide +kernel
theorem dL_isSo_402 : decode cL_isSo 402 = .ok (.iconst 0, 1) := by decide +kernel
theorem dL_isSo_403 : decode cL_isSo 403 = .ok (.ireturn, 1) := by decide +kernel
theorem dL_isSo_404 : decode cL_isSo 404 = .ok (.iinc 13 1, 3) := by decide +kernel
theorem dL_isSo_407 : decode cL_isSo 407 = .ok (.goto (-365), 3) := by decide +kernel
theorem dL_isSo_410 : decode cL_isSo 410 = .ok (.iconst 0, 1) := by decide +kernel
theorem dL_isSo_411 : decode cL_isSo 411 = .ok (.istore 13, 2) := by decide +kernel
theorem dL_isSo_413 : decode cL_isSo 413 = .ok (.iload 13, 2) := by decide +kernel
theorem dL_isSo_415 : decode cL_isSo 415 = .ok (.iload_n 1, 1) := by decide +kernel
theorem dL_isSo_416 : decode cL_isSo 416 = .ok (.if_icmp .ge 69, 3) := by decide +kernel
theorem dL_isSo_419 : decode cL_isSo 419 = .ok (.aload 12, 2) := by decide +kernel
theorem dL_isSo_421 : decode cL_isSo 421 = .ok (.iload 13, 2) := by decide +kernel
theorem dL_isSo_423 : decode cL_isSo 423 = .ok (.iaload, 1) := by decide +kernel
theorem dL_isSo_424 : decode cL_isSo 424 = .ok (.iconst 2, 1) := by decide +kernel
theorem dL_isSo_425 : decode cL_isSo 425 = .ok (.if_icmp .gt 52, 3) := by decide +kernel
theorem dL_isSo_428 : decode cL_isSo 428 = .ok (.aload_n 0, 1) := by decide +kernel
theorem dL_isSo_429 : decode cL_isSo 429 = .ok (.iload 13, 2) := by decide +kernel
theorem dL_isSo_431 : decode cL_isSo 431 = .ok (.iconst 1, 1) := by decide +kernel
theorem dL_isSo_432 : decode cL_isSo 432 = .ok (.invokevirtual 59, 3) := by decide +kernel
theorem dL_isSo_435 : decode cL_isSo 435 = .ok (.iconst 2, 1) := by decide +kernel
theorem dL_isSo_436 : decode cL_isSo 436 = .ok (.if_icmp .lt 41, 3) := by decide +kernel
theorem dL_isSo_439 : decode cL_isSo 439 = .ok (.aload_n 0, 1) := by decide +kernel
theorem dL_isSo_440 : decode cL_isSo 440 = .ok (.iload 13, 2) := by decide +kernel
theorem dL_isSo_442 : decode cL_isSo 442 = .ok (.iconst 1, 1) := by decide +kernel
theorem dL_isSo_443 : decode cL_isSo 443 = .ok (.invokevirtual 59, 3) := by decide +kernel
theorem dL_isSo_446 : decode cL_isSo 446 = .ok (.iconst 4, 1) := by decide +kernel
theorem dL_isSo_447 : decode cL_isSo 447 = .ok (.if_icmp .gt 30, 3) := by decide +kernel
theorem dL_isSo_450 : decode cL_isSo 450 = .ok (.aload_n 0, 1) := by decide +kernel
theorem dL_isSo_451 : decode cL_isSo 451 = .ok (.iload 13, 2) := by decide +kernel
theorem dL_isSo_453 : decode cL_isSo 453 = .ok (.iconst 2, 1) := by decide +kernel
theorem dL_isSo_454 : decode cL_isSo 454 = .ok (.invokevirtual 59, 3) := by decide +kernel
theorem dL_isSo_457 : decode cL_isSo 457 = .ok (.aload_n 0, 1) := by decide +kernel
theorem dL_isSo_458 : decode cL_isSo 458 = .ok (.iload 13, 2) := by decide +kernel
theorem dL_isSo_460 : decode cL_isSo 460 = .ok (.iconst 1, 1) := by decide +kernel
theorem dL_isSo_461 : decode cL_isSo 461 = .ok (.invokevirtual 59, 3) := by decide +kernel
theorem dL_isSo_464 : decode cL_isSo 464 = .ok (.if_icmp .gt 13, 3) := by decide +kernel
theorem dL_isSo_467 : decode cL_isSo 467 = .ok (.aload_n 0, 1) := by decide +kernel
theorem dL_isSo_468 : decode cL_isSo 468 = .ok (.iload 13, 2) := by decide +kernel
theorem dL_isSo_470 : decode cL_isSo 470 = .ok (.iconst 4, 1) := by decide +kernel
theorem dL_isSo_471 : decode cL_isSo 471 = .ok (.invokevirtual 59, 3) := by decide +kernel
theorem dL_isSo_474 : decode cL_isSo 474 = .ok (.ifCond .ge 5, 3) := by decide +kernel
theorem dL_isSo_477 : decode cL_isSo 477 = .ok (.iconst 0, 1) := by decide +kernel
theorem dL_isSo_478 : decode cL_isSo 478 = .ok (.ireturn, 1) := by decide +kernel
theorem dL_isSo_479 : decode cL_isSo 479 = .ok (.iinc 13 1, 3) := by decide +kernel
theorem dL_isSo_482 : decode cL_isSo 482 = .ok (.goto (-69), 3) := by decide +kernel
theorem dL_isSo_485 : decode cL_isSo 485 = .ok (.iconst 0, 1) := by decide +kernel
theorem dL_isSo_486 : decode cL_isSo 486 = .ok (.istore 13, 2) := by decide +kernel
theorem dL_isSo_488 : decode cL_isSo 488 = .ok (.iconst 0, 1) := by decide +kernel
theorem dL_isSo_489 : decode cL_isSo 489 = .ok (.istore 14, 2) := by decide +kernel
theorem dL_isSo_491 : decode cL_isSo 491 = .ok (.iload 14, 2) := by decide +kernel
theorem dL_isSo_493 : decode cL_isSo 493 = .ok (.iload_n 2, 1) := by decide +kernel
theorem dL_isSo_494 : decode cL_isSo 494 = .ok (.if_icmp .ge 144, 3) := by decide +kernel
theorem dL_isSo_497 : decode cL_isSo 497 = .ok (.iload 13, 2) := by decide +kernel
theorem dL_isSo_499 : decode cL_isSo 499 = .ok (.aload_n 0, 1) := by decide +kernel
theorem dL_isSo_500 : decode cL_isSo 500 = .ok (.iload 14, 2) := by decide +kernel
theorem dL_isSo_502 : decode cL_isSo 502 = .ok (.iconst 4, 1) := by decide +kernel
theorem dL_isSo_503 : decode cL_isSo 503 = .ok (.invokevirtual 44, 3) := by decide +kernel
theorem dL_isSo_506 : decode cL_isSo 506 = .ok (.iadd, 1) := by decide +kernel
theorem dL_isSo_507 : decode cL_isSo 507 = .ok (.istore 13, 2) := by decide +kernel
theorem dL_isSo_509 : decode cL_isSo 509 = .ok (.aload_n 0, 1) := by decide +kernel
theorem dL_isSo_510 : decode cL_isSo 510 = .ok (.iload 14, 2) := by decide +kernel
theorem dL_isSo_512 : decode cL_isSo 512 = .ok (.iconst 4, 1) := by decide +kernel
theorem dL_isSo_513 : decode cL_isSo 513 = .ok (.invokevirtual 44, 3) := by decide +kernel
theorem dL_isSo_516 : decode cL_isSo 516 = .ok (.aload_n 0, 1) := by decide +kernel
theorem dL_isSo_517 : decode cL_isSo 517 = .ok (.iload 14, 2) := by decide +kernel
theorem dL_isSo_519 : decode cL_isSo 519 = .ok (.iconst 2, 1) := by decide +kernel
theorem dL_isSo_520 : decode cL_isSo 520 = .ok (.invokevirtual 44, 3) := by decide +kernel
theorem dL_isSo_523 : decode cL_isSo 523 = .ok (.if_icmp .gt 107, 3) := by decide +kernel
theorem dL_isSo_526 : decode cL_isSo 526 = .ok (.aload_n 0, 1) := by decide +kernel
theorem dL_isSo_527 : decode cL_isSo 527 = .ok (.iload 14, 2) := by decide +kernel
theorem dL_isSo_529 : decode cL_isSo 529 = .ok (.iconst 3, 1) := by decide +kernel
theorem dL_isSo_530 : decode cL_isSo 530 = .ok (.invokevirtual 44, 3) := by decide +kernel
theorem dL_isSo_533 : decode cL_isSo 533 = .ok (.ifCond .lt 97, 3) := by decide +kernel
theorem dL_isSo_536 : decode cL_isSo 536 = .ok (.aload_n 0, 1) := by decide +kernel
theorem dL_isSo_537 : decode cL_isSo 537 = .ok (.iload 14, 2) := by decide +kernel
theorem dL_isSo_539 : decode cL_isSo 539 = .ok (.bipush 7, 2) := by decide +kernel
theorem dL_isSo_541 : decode cL_isSo 541 = .ok (.invokevirtual 44, 3) := by decide +kernel
theorem dL_isSo_544 : decode cL_isSo 544 = .ok (.ifCond .lt 86, 3) := by decide +kernel
theorem dL_isSo_547 : decode cL_isSo 547 = .ok (.aload_n 0, 1) := by decide +kernel
theorem dL_isSo_548 : decode cL_isSo 548 = .ok (.iload 14, 2) := by decide +kernel
theorem dL_isSo_550 : decode cL_isSo 550 = .ok (.bipush 7, 2) := by decide +kernel
theorem dL_isSo_552 : decode cL_isSo 552 = .ok (.invokevirtual 44, 3) := by decide +kernel
theorem dL_isSo_555 : decode cL_isSo 555 = .ok (.bipush 12, 2) := by decide +kernel
theorem dL_isSo_557 : decode cL_isSo 557 = .ok (.if_icmp .gt 73, 3) := by decide +kernel
theorem dL_isSo_560 : decode cL_isSo 560 = .ok (.aload_n 0, 1) := by decide +kernel
theorem dL_isSo_561 : decode cL_isSo 561 = .ok (.iload 14, 2) := by decide +kernel
theorem dL_isSo_563 : decode cL_isSo 563 = .ok (.iconst 3, 1) := by decide +kernel
theorem dL_isSo_564 : decode cL_isSo 564 = .ok (.invokevirtual 44, 3) := by decide +kernel
theorem dL_isSo_567 : decode cL_isSo 567 = .ok (.ifCond .ne 7, 3) := by decide +kernel
theorem dL_isSo_570 : decode cL_isSo 570 = .ok (.iconst 1, 1) := by decide +kernel
theorem dL_isSo_571 : decode cL_isSo 571 = .ok (.goto 4, 3) := by decide +kernel
theorem dL_isSo_574 : decode cL_isSo 574 = .ok (.iconst 0, 1) := by decide +kernel
theorem dL_isSo_575 : decode cL_isSo 575 = .ok (.aload_n 0, 1) := by decide +kernel
theorem dL_isSo_576 : decode cL_isSo 576 = .ok (.iload 14, 2) := by decide +kernel
theorem dL_isSo_578 : decode cL_isSo 578 = .ok (.iconst 4, 1) := by decide +kernel
theorem dL_isSo_579 : decode cL_isSo 579 = .ok (.invokevirtual 44, 3) := by decide +kernel
theorem dL_isSo_582 : decode cL_isSo 582 = .ok (.aload_n 0, 1) := by decide +kernel
theorem dL_isSo_583 : decode cL_isSo 583 = .ok (.iload 14, 2) := by decide +kernel
theorem dL_isSo_585 : decode cL_isSo 585 = .ok (.iconst 2, 1) := by decide +kernel
theorem dL_isSo_586 : decode cL_isSo 586 = .ok (.invokevirtual 44, 3) := by decide +kernel
theorem dL_isSo_589 : decode cL_isSo 589 = .ok (.if_icmp .ne 7, 3) := by decide +kernel
theorem dL_isSo_592 : decode cL_isSo 592 = .ok (.iconst 1, 1) := by decide +kernel
theorem dL_isSo_593 : decode cL_isSo 593 = .ok (.goto 4, 3) := by decide +kernel
theorem dL_isSo_596 : decode cL_isSo 596 = .ok (.iconst 0, 1) := by decide +kernel
theorem dL_isSo_597 : decode cL_isSo 597 = .ok (.if_icmp .ne 33, 3) := by decide +kernel
theorem dL_isSo_600 : decode cL_isSo 600 = .ok (.iload_n 3, 1) := by decide +kernel
theorem dL_isSo_601 : decode cL_isSo 601 = .ok (.ifCond .ne 13, 3) := by decide +kernel
theorem dL_isSo_604 : decode cL_isSo 604 = .ok (.aload_n 0, 1) := by decide +kernel
theorem dL_isSo_605 : decode cL_isSo 605 = .ok (.iload 14, 2) := by decide +kernel
theorem dL_isSo_607 : decode cL_isSo 607 = .ok (.iconst 2, 1) := by decide +kernel
theorem dL_isSo_608 : decode cL_isSo 608 = .ok (.invokevirtual 44, 3) := by decide +kernel
theorem dL_isSo_611 : decode cL_isSo 611 = .ok (.ifCond .ne 19, 3) := by decide +kernel
theorem dL_isSo_614 : decode cL_isSo 614 = .ok (.iload_n 3, 1) := by decide +kernel
theorem dL_isSo_615 : decode cL_isSo 615 = .ok (.iconst 3, 1) := by decide +kernel
theorem dL_isSo_616 : decode cL_isSo 616 = .ok (.if_icmp .ge 16, 3) := by decide +kernel
theorem dL_isSo_619 : decode cL_isSo 619 = .ok (.aload_n 0, 1) := by decide +kernel
theorem dL_isSo_620 : decode cL_isSo 620 = .ok (.iload 14, 2) := by decide +kernel
theorem dL_isSo_622 : decode cL_isSo 622 = .ok (.bipush 6, 2) := by decide +kernel
theorem dL_isSo_624 : decode cL_isSo 624 = .ok (.invokevirtual 44, 3) := by decide +kernel
theorem dL_isSo_627 : decode cL_isSo 627 = .ok (.ifCond .eq 5, 3) := by decide +kernel
theorem dL_isSo_630 : decode cL_isSo 630 = .ok (.iconst 0, 1) := by decide +kernel
theorem dL_isSo_631 : decode cL_isSo 631 = .ok (.ireturn, 1) := by decide +kernel
theorem dL_isSo_632 : decode cL_isSo 632 = .ok (.iinc 14 1, 3) := by decide +kernel
theorem dL_isSo_635 : decode cL_isSo 635 = .ok (.goto (-144), 3) := by decide +kernel
theorem dL_isSo_638 : decode cL_isSo 638 = .ok (.iload 13, 2) := by decide +kernel
theorem dL_isSo_640 : decode cL_isSo 640 = .ok (.iload 8, 2) := by decide +kernel
theorem dL_isSo_642 : decode cL_isSo 642 = .ok (.if_icmp .ne 125, 3) := by decide +kernel
theorem dL_isSo_645 : decode cL_isSo 645 = .ok (.aload_n 0, 1) := by decide +kernel
theorem dL_isSo_646 : decode cL_isSo 646 = .ok (.bipush 6, 2) := by decide +kernel
theorem dL_isSo_648 : decode cL_isSo 648 = .ok (.invokevirtual 30, 3) := by decide +kernel
theorem dL_isSo_651 : decode cL_isSo 651 = .ok (.iload 5, 2) := by decide +kernel
theorem dL_isSo_653 : decode cL_isSo 653 = .ok (.if_icmp .ne 114, 3) := by decide +kernel
theorem dL_isSo_656 : decode cL_isSo 656 = .ok (.aload_n 0, 1) := by decide +kernel
theorem dL_isSo_657 : decode cL_isSo 657 = .ok (.bipush 12, 2) := by decide +kernel
theorem dL_isSo_659 : decode cL_isSo 659 = .ok (.invokevirtual 30, 3) := by decide +kernel
theorem dL_isSo_662 : decode cL_isSo 662 = .ok (.iload 6, 2) := by decide +kernel
theorem dL_isSo_664 : decode cL_isSo 664 = .ok (.if_icmp .ne 103, 3) := by decide +kernel
theorem dL_isSo_667 : decode cL_isSo 667 = .ok (.aload_n 0, 1) := by decide +kernel
theorem dL_isSo_668 : decode cL_isSo 668 = .ok (.bipush 13, 2) := by decide +kernel
theorem dL_isSo_670 : decode cL_isSo 670 = .ok (.invokevirtual 30, 3) := by decide +kernel
theorem dL_isSo_673 : decode cL_isSo 673 = .ok (.iload 7, 2) := by decide +kernel
theorem dL_isSo_675 : decode cL_isSo 675 = .ok (.if_icmp .ne 92, 3) := by decide +kernel
theorem dL_isSo_678 : decode cL_isSo 678 = .ok (.aload_n 0, 1) := by decide +kernel
theorem dL_isSo_679 : decode cL_isSo 679 = .ok (.bipush 7, 2) := by decide +kernel
theorem dL_isSo_681 : decode cL_isSo 681 = .ok (.invokevirtual 30, 3) := by decide +kernel
theorem dL_isSo_684 : decode cL_isSo 684 = .ok (.iload 10, 2) := by decide +kernel
theorem dL_isSo_686 : decode cL_isSo 686 = .ok (.if_icmp .ne 81, 3) := by decide +kernel
theorem dL_isSo_689 : decode cL_isSo 689 = .ok (.aload_n 0, 1) := by decide +kernel
theorem dL_isSo_690 : decode cL_isSo 690 = .ok (.bipush 8, 2) := by decide +kernel
theorem dL_isSo_692 : decode cL_isSo 692 = .ok (.invokevirtual 30, 3) := by decide +kernel
theorem dL_isSo_695 : decode cL_isSo 695 = .ok (.iload 11, 2) := by decide +kernel
theorem dL_isSo_697 : decode cL_isSo 697 = .ok (.if_icmp .ne 70, 3) := by decide +kernel
theorem dL_isSo_700 : decode cL_isSo 700 = .ok (.iload 11, 2) := by decide +kernel
theorem dL_isSo_702 : decode cL_isSo 702 = .ok (.iload 10, 2) := by decide +kernel
theorem dL_isSo_704 : decode cL_isSo 704 = .ok (.iconst (-1), 1) := by decide +kernel
theorem dL_isSo_705 : decode cL_isSo 705 = .ok (.ixor, 1) := by decide +kernel
theorem dL_isSo_706 : decode cL_isSo 706 = .ok (.iand, 1) := by decide +kernel
theorem dL_isSo_707 : decode cL_isSo 707 = .ok (.ifCond .ne 60, 3) := by decide +kernel
theorem dL_isSo_710 : decode cL_isSo 710 = .ok (.iload_n 3, 1) := by decide +kernel
theorem dL_isSo_711 : decode cL_isSo 711 = .ok (.iconst 2, 1) := by decide +kernel
theorem dL_isSo_712 : decode cL_isSo 712 = .ok (.if_icmp .ge 8, 3) := by decide +kernel
theorem dL_isSo_715 : decode cL_isSo 715 = .ok (.iload 10, 2) := by decide +kernel
theorem dL_isSo_717 : decode cL_isSo 717 = .ok (.ifCond .ne 50, 3) := by decide +kernel
theorem dL_isSo_720 : decode cL_isSo 720 = .ok (.iload_n 3, 1) := by decide +kernel
theorem dL_isSo_721 : decode cL_isSo 721 = .ok (.iconst 3, 1) := by decide +kernel
theorem dL_isSo_722 : decode cL_isSo 722 = .ok (.if_icmp .ge 8, 3) := by decide +kernel
theorem dL_isSo_725 : decode cL_isSo 725 = .ok (.iload 11, 2) := by decide +kernel
theorem dL_isSo_727 : decode cL_isSo 727 = .ok (.ifCond .ne 40, 3) := by decide +kernel
theorem dL_isSo_730 : decode cL_isSo 730 = .ok (.iload_n 3, 1) := by decide +kernel
theorem dL_isSo_731 : decode cL_isSo 731 = .ok (.iconst 4, 1) := by decide +kernel
theorem dL_isSo_732 : decode cL_isSo 732 = .ok (.if_icmp .ge 13, 3) := by decide +kernel
theorem dL_isSo_735 : decode cL_isSo 735 = .ok (.aload_n 0, 1) := by decide +kernel
theorem dL_isSo_736 : decode cL_isSo 736 = .ok (.bipush 9, 2) := by decide +kernel
theorem dL_isSo_738 : decode cL_isSo 738 = .ok (.invokevirtual 30, 3) := by decide +kernel
theorem dL_isSo_741 : decode cL_isSo 741 = .ok (.iconst (-1), 1) := by decide +kernel
theorem dL_isSo_742 : decode cL_isSo 742 = .ok (.if_icmp .ne 25, 3) := by decide +kernel
theorem dL_isSo_745 : decode cL_isSo 745 = .ok (.aload_n 0, 1) := by decide +kernel
theorem dL_isSo_746 : decode cL_isSo 746 = .ok (.invokevirtual 123, 3) := by decide +kernel
theorem dL_isSo_749 : decode cL_isSo 749 = .ok (.iload 8, 2) := by decide +kernel
theorem dL_isSo_751 : decode cL_isSo 751 = .ok (.i2d, 1) := by decide +kernel
theorem dL_isSo_752 : decode cL_isSo 752 = .ok (.dmul, 1) := by decide +kernel
theorem dL_isSo_753 : decode cL_isSo 753 = .ok (.iload 9, 2) := by decide +kernel
theorem dL_isSo_755 : decode cL_isSo 755 = .ok (.i2d, 1) := by decide +kernel
theorem dL_isSo_756 : decode cL_isSo 756 = .ok (.dsub, 1) := by decide +kernel
theorem dL_isSo_757 : decode cL_isSo 757 = .ok (.invokestatic 127, 3) := by decide +kernel
theorem dL_isSo_760 : decode cL_isSo 760 = .ok (.ldc2_w 131, 3) := by decide +kernel
theorem dL_isSo_763 : decode cL_isSo 763 = .ok (.dcmp .l, 1) := by decide +kernel
theorem dL_isSo_764 : decode cL_isSo 764 = .ok (.ifCond .le 5, 3) := by decide +kernel
theorem dL_isSo_767 : decode cL_isSo 767 = .ok (.iconst 0, 1) := by decide +kernel
theorem dL_isSo_768 : decode cL_isSo 768 = .ok (.ireturn, 1) := by decide +kernel
theorem dL_isSo_769 : decode cL_isSo 769 = .ok (.aload_n 0, 1) := by decide +kernel
theorem dL_isSo_770 : decode cL_isSo 770 = .ok (.iconst 0, 1) := by decide +kernel
theorem dL_isSo_771 : decode cL_isSo 771 = .ok (.invokevirtual 89, 3) := by decide +kernel
theorem dL_isSo_774 : decode cL_isSo 774 = .ok (.istore 14, 2) := by decide +kernel
theorem dL_isSo_776 : decode cL_isSo 776 = .ok (.aload_n 0, 1) := by decide +kernel
theorem dL_isSo_777 : decode cL_isSo 777 = .ok (.invokevirtual 133, 3) := by decide +kernel
theorem dL_isSo_780 : decode cL_isSo 780 = .ok (.istore 15, 2) := by decide +kernel
theorem dL_isSo_782 : decode cL_isSo 782 = .ok (.iload 14, 2) := by decide +kernel
theorem dL_isSo_784 : decode cL_isSo 784 = .ok (.ifCond .lt 13, 3) := by decide +kernel
theorem dL_isSo_787 : decode cL_isSo 787 = .ok (.iload 11, 2) := by decide +kernel
theorem dL_isSo_789 : decode cL_isSo 789 = .ok (.iload 14, 2) := by decide +kernel
theorem dL_isSo_791 : decode cL_isSo 791 = .ok (.ishr, 1) := by decide +kernel
theorem dL_isSo_792 : decode cL_isSo 792 = .ok (.iconst 1, 1) := by decide +kernel
theorem dL_isSo_793 : decode cL_isSo 793 = .ok (.iand, 1) := by decide +kernel
theorem dL_isSo_794 : decode cL_isSo 794 = .ok (.ifCond .eq 50, 3) := by decide +kernel
theorem dL_isSo_797 : decode cL_isSo 797 = .ok (.iload 15, 2) := by decide +kernel
theorem dL_isSo_799 : decode cL_isSo 799 = .ok (.ifCond .lt 13, 3) := by decide +kernel
theorem dL_isSo_802 : decode cL_isSo 802 = .ok (.iload 11, 2) := by decide +kernel
theorem dL_isSo_804 : decode cL_isSo 804 = .ok (.iload 15, 2) := by decide +kernel
theorem dL_isSo_806 : decode cL_isSo 806 = .ok (.ishr, 1) := by decide +kernel
theorem dL_isSo_807 : decode cL_isSo 807 = .ok (.iconst 1, 1) := by decide +kernel
theorem dL_isSo_808 : decode cL_isSo 808 = .ok (.iand, 1) := by decide +kernel
theorem dL_isSo_809 : decode cL_isSo 809 = .ok (.ifCond .eq 35, 3) := by decide +kernel
theorem dL_isSo_812 : decode cL_isSo 812 = .ok (.iload_n 3, 1) := by decide +kernel
theorem dL_isSo_813 : decode cL_isSo 813 = .ok (.iconst 3, 1) := by decide +kernel
theorem dL_isSo_814 : decode cL_isSo 814 = .ok (.if_icmp .ge 15, 3) := by decide +kernel
theorem dL_isSo_817 : decode cL_isSo 817 = .ok (.iload 14, 2) := by decide +kernel
theorem dL_isSo_819 : decode cL_isSo 819 = .ok (.iconst (-1), 1) := by decide +kernel
theorem dL_isSo_820 : decode cL_isSo 820 = .ok (.if_icmp .ne 24, 3) := by decide +kernel
theorem dL_isSo_823 : decode cL_isSo 823 = .ok (.iload 15, 2) := by decide +kernel
theorem dL_isSo_825 : decode cL_isSo 825 = .ok (.iconst (-1), 1) := by decide +kernel
theorem dL_isSo_826 : decode cL_isSo 826 = .ok (.if_icmp .ne 18, 3) := by decide +kernel
theorem dL_isSo_829 : decode cL_isSo 829 = .ok (.iload_n 3, 1) := by decide +kernel
theorem dL_isSo_830 : decode cL_isSo 830 = .ok (.iconst 3, 1) := by decide +kernel
theorem dL_isSo_831 : decode cL_isSo 831 = .ok (.if_icmp .ne 15, 3) := by decide +kernel
theorem dL_isSo_834 : decode cL_isSo 834 = .ok (.iload 11, 2) := by decide +kernel
theorem dL_isSo_836 : decode cL_isSo 836 = .ok (.ifCond .eq 10, 3) := by decide +kernel
theorem dL_isSo_839 : decode cL_isSo 839 = .ok (.iload 14, 2) := by decide +kernel
theorem dL_isSo_841 : decode cL_isSo 841 = .ok (.ifCond .ge 5, 3) := by decide +kernel
theorem dL_isSo_844 : decode cL_isSo 844 = .ok (.iconst 0, 1) := by decide +kernel
theorem dL_isSo_845 : decode cL_isSo 845 = .ok (.ireturn, 1) := by decide +kernel
theorem dL_isSo_846 : decode cL_isSo 846 = .ok (.aload_n 0, 1) := by decide +kernel
theorem dL_isSo_847 : decode cL_isSo 847 = .ok (.invokevirtual 71, 3) := by decide +kernel
theorem dL_isSo_850 : decode cL_isSo 850 = .ok (.ifCond .ge 7, 3) := by decide +kernel
theorem dL_isSo_853 : decode cL_isSo 853 = .ok (.iconst 1, 1) := by decide +kernel
theorem dL_isSo_854 : decode cL_isSo 854 = .ok (.goto 4, 3) := by decide +kernel
theorem dL_isSo_857 : decode cL_isSo 857 = .ok (.iconst 0, 1) := by decide +kernel
theorem dL_isSo_858 : decode cL_isSo 858 = .ok (.iload_n 3, 1) := by decide +kernel
theorem dL_isSo_859 : decode cL_isSo 859 = .ok (.iconst 1, 1) := by decide +kernel
theorem dL_isSo_860 : decode cL_isSo 860 = .ok (.if_icmp .eq 7, 3) := by decide +kernel
theorem dL_isSo_863 : decode cL_isSo 863 = .ok (.iconst 1, 1) := by decide +kernel
theorem dL_isSo_864 : decode cL_isSo 864 = .ok (.goto 4, 3) := by decide +kernel
theorem dL_isSo_867 : decode cL_isSo 867 = .ok (.iconst 0, 1) := by decide +kernel
theorem dL_isSo_868 : decode cL_isSo 868 = .ok (.if_icmp .ne 20, 3) := by decide +kernel
theorem dL_isSo_871 : decode cL_isSo 871 = .ok (.aload_n 0, 1) := by decide +kernel
theorem dL_isSo_872 : decode cL_isSo 872 = .ok (.iconst 2, 1) := by decide +kernel
theorem dL_isSo_873 : decode cL_isSo 873 = .ok (.invokevirtual 104, 3) := by decide +kernel
theorem dL_isSo_876 : decode cL_isSo 876 = .ok (.aload_n 0, 1) := by decide +kernel
theorem dL_isSo_877 : decode cL_isSo 877 = .ok (.iconst 1, 1) := by decide +kernel
theorem dL_isSo_878 : decode cL_isSo 878 = .ok (.invokevirtual 104, 3) := by decide +kernel
theorem dL_isSo_881 : decode cL_isSo 881 = .ok (.if_icmp .lt 7, 3) := by decide +kernel
theorem dL_isSo_884 : decode cL_isSo 884 = .ok (.iconst 1, 1) := by decide +kernel
theorem dL_isSo_885 : decode cL_isSo 885 = .ok (.goto 4, 3) := by decide +kernel
theorem dL_isSo_888 : decode cL_isSo 888 = .ok (.iconst 0, 1) := by decide +kernel
theorem dL_isSo_889 : decode cL_isSo 889 = .ok (.ireturn, 1) := by decide +kernel
