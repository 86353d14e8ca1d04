theorem dL_law_458 : decode cL_law 458 = .ok (.aload_n 1, 1) := by decide +kernel
theorem dL_law_459 : decode cL_law 459 = .ok (.aload_n 0, 1) := by decide +kernel
theorem dL_law_460 : decode cL_law 460 = .ok (.iload 4, 2) := by decide +kernel
theorem dL_law_462 : decode cL_law 462 = .ok (.iconst 1, 1) := by decide +kernel
theorem dL_law_463 : decode cL_law 463 = .ok (.iadd, 1) := by decide +kernel
theorem dL_law_464 : decode cL_law 464 = .ok (.iaload, 1) := by decide +kernel
theorem dL_law_465 : decode cL_law 465 = .ok (.aload_n 0, 1) := by decide +kernel
theorem dL_law_466 : decode cL_law 466 = .ok (.iload 4, 2) := by decide +kernel
theorem dL_law_468 : decode cL_law 468 = .ok (.iconst 2, 1) := by decide +kernel
theorem dL_law_469 : decode cL_law 469 = .ok (.iadd, 1) := by decide +kernel
theorem dL_law_470 : decode cL_law 470 = .ok (.iaload, 1) := by decide +kernel
theorem dL_law_471 : decode cL_law 471 = .ok (.ifCond .eq 7, 3) := by decide +kernel
theorem dL_law_474 : decode cL_law 474 = .ok (.iconst 1, 1) := by decide +kernel
theorem dL_law_475 : decode cL_law 475 = .ok (.goto 4, 3) := by decide +kernel
theorem dL_law_478 : decode cL_law 478 = .ok (.iconst 0, 1) := by decide +kernel
theorem dL_law_479 : decode cL_law 479 = .ok (.aload_n 0, 1) := by decide +kernel
theorem dL_law_480 : decode cL_law 480 = .ok (.iload 4, 2) := by decide +kernel
theorem dL_law_482 : decode cL_law 482 = .ok (.iconst 3, 1) := by decide +kernel
theorem dL_law_483 : decode cL_law 483 = .ok (.iadd, 1) := by decide +kernel
theorem dL_law_484 : decode cL_law 484 = .ok (.iaload, 1) := by decide +kernel
theorem dL_law_485 : decode cL_law 485 = .ok (.aload_n 3, 1) := by decide +kernel
theorem dL_law_486 : decode cL_law 486 = .ok (.invokestatic 98, 3) := by decide +kernel
theorem dL_law_489 : decode cL_law 489 = .ok (.istore 5, 2) := by decide +kernel
theorem dL_law_491 : decode cL_law 491 = .ok (.aload_n 2, 1) := by decide +kernel
theorem dL_law_492 : decode cL_law 492 = .ok (.aload_n 0, 1) := by decide +kernel
theorem dL_law_493 : decode cL_law 493 = .ok (.iload 4, 2) := by decide +kernel
theorem dL_law_495 : decode cL_law 495 = .ok (.iconst 1, 1) := by decide +kernel
theorem dL_law_496 : decode cL_law 496 = .ok (.iadd, 1) := by decide +kernel
theorem dL_law_497 : decode cL_law 497 = .ok (.iaload, 1) := by decide +kernel
theorem dL_law_498 : decode cL_law 498 = .ok (.aload_n 0, 1) := by decide +kernel
theorem dL_law_499 : decode cL_law 499 = .ok (.iload 4, 2) := by decide +kernel
theorem dL_law_501 : decode cL_law 501 = .ok (.iconst 2, 1) := by decide +kernel
theorem dL_law_502 : decode cL_law 502 = .ok (.iadd, 1) := by decide +kernel
theorem dL_law_503 : decode cL_law 503 = .ok (.iaload, 1) := by decide +kernel
theorem dL_law_504 : decode cL_law 504 = .ok (.ifCond .eq 7, 3) := by decide +kernel
theorem dL_law_507 : decode cL_law 507 = .ok (.iconst 1, 1) := by decide +kernel
theorem dL_law_508 : decode cL_law 508 = .ok (.goto 4, 3) := by decide +kernel
theorem dL_law_511 : decode cL_law 511 = .ok (.iconst 0, 1) := by decide +kernel
theorem dL_law_512 : decode cL_law 512 = .ok (.aload_n 0, 1) := by decide +kernel
theorem dL_law_513 : decode cL_law 513 = .ok (.iload 4, 2) := by decide +kernel
theorem dL_law_515 : decode cL_law 515 = .ok (.iconst 3, 1) := by decide +kernel
theorem dL_law_516 : decode cL_law 516 = .ok (.iadd, 1) := by decide +kernel
theorem dL_law_517 : decode cL_law 517 = .ok (.iaload, 1) := by decide +kernel
theorem dL_law_518 : decode cL_law 518 = .ok (.invokevirtual 101, 3) := by decide +kernel
theorem dL_law_521 : decode cL_law 521 = .ok (.istore 6, 2) := by decide +kernel
theorem dL_law_523 : decode cL_law 523 = .ok (.goto 678, 3) := by decide +kernel
theorem dL_law_526 : decode cL_law 526 = .ok (.aload_n 1, 1) := by decide +kernel
theorem dL_law_527 : decode cL_law 527 = .ok (.aload_n 0, 1) := by decide +kernel
theorem dL_law_528 : decode cL_law 528 = .ok (.iload 4, 2) := by decide +kernel
theorem dL_law_530 : decode cL_law 530 = .ok (.iconst 1, 1) := by decide +kernel
theorem dL_law_531 : decode cL_law 531 = .ok (.iadd, 1) := by decide +kernel
theorem dL_law_532 : decode cL_law 532 = .ok (.iaload, 1) := by decide +kernel
theorem dL_law_533 : decode cL_law 533 = .ok (.aload_n 0, 1) := by decide +kernel
theorem dL_law_534 : decode cL_law 534 = .ok (.iload 4, 2) := by decide +kernel
theorem dL_law_536 : decode cL_law 536 = .ok (.iconst 2, 1) := by decide +kernel
theorem dL_law_537 : decode cL_law 537 = .ok (.iadd, 1) := by decide +kernel
theorem dL_law_538 : decode cL_law 538 = .ok (.iaload, 1) := by decide +kernel
theorem dL_law_539 : decode cL_law 539 = .ok (.aload_n 3, 1) := by decide +kernel
theorem dL_law_540 : decode cL_law 540 = .ok (.invokestatic 102, 3) := by decide +kernel
theorem dL_law_543 : decode cL_law 543 = .ok (.istore 5, 2) := by decide +kernel
theorem dL_law_545 : decode cL_law 545 = .ok (.aload_n 2, 1) := by decide +kernel
theorem dL_law_546 : decode cL_law 546 = .ok (.aload_n 0, 1) := by decide +kernel
theorem dL_law_547 : decode cL_law 547 = .ok (.iload 4, 2) := by decide +kernel
theorem dL_law_549 : decode cL_law 549 = .ok (.iconst 1, 1) := by decide +kernel
theorem dL_law_550 : decode cL_law 550 = .ok (.iadd, 1) := by decide +kernel
theorem dL_law_551 : decode cL_law 551 = .ok (.iaload, 1) := by decide +kernel
theorem dL_law_552 : decode cL_law 552 = .ok (.aload_n 0, 1) := by decide +kernel
theorem dL_law_553 : decode cL_law 553 = .ok (.iload 4, 2) := by decide +kernel
theorem dL_law_555 : decode cL_law 555 = .ok (.iconst 2, 1) := by decide +kernel
theorem dL_law_556 : decode cL_law 556 = .ok (.iadd, 1) := by decide +kernel
theorem dL_law_557 : decode cL_law 557 = .ok (.iaload, 1) := by decide +kernel
theorem dL_law_558 : decode cL_law 558 = .ok (.invokevirtual 104, 3) := by decide +kernel
theorem dL_law_561 : decode cL_law 561 = .ok (.istore 6, 2) := by decide +kernel
theorem dL_law_563 : decode cL_law 563 = .ok (.goto 638, 3) := by decide +kernel
theorem dL_law_566 : decode cL_law 566 = .ok (.aload_n 1, 1) := by decide +kernel
theorem dL_law_567 : decode cL_law 567 = .ok (.aload_n 0, 1) := by decide +kernel
theorem dL_law_568 : decode cL_law 568 = .ok (.iload 4, 2) := by decide +kernel
theorem dL_law_570 : decode cL_law 570 = .ok (.iconst 1, 1) := by decide +kernel
theorem dL_law_571 : decode cL_law 571 = .ok (.iadd, 1) := by decide +kernel
theorem dL_law_572 : decode cL_law 572 = .ok (.iaload, 1) := by decide +kernel
theorem dL_law_573 : decode cL_law 573 = .ok (.aload_n 0, 1) := by decide +kernel
theorem dL_law_574 : decode cL_law 574 = .ok (.iload 4, 2) := by decide +kernel
theorem dL_law_576 : decode cL_law 576 = .ok (.iconst 2, 1) := by decide +kernel
theorem dL_law_577 : decode cL_law 577 = .ok (.iadd, 1) := by decide +kernel
theorem dL_law_578 : decode cL_law 578 = .ok (.iaload, 1) := by decide +kernel
theorem dL_law_579 : decode cL_law 579 = .ok (.aload_n 3, 1) := by decide +kernel
theorem dL_law_580 : decode cL_law 580 = .ok (.invokestatic 105, 3) := by decide +kernel
theorem dL_law_583 : decode cL_law 583 = .ok (.istore 5, 2) := by decide +kernel
theorem dL_law_585 : decode cL_law 585 = .ok (.aload_n 2, 1) := by decide +kernel
theorem dL_law_586 : decode cL_law 586 = .ok (.aload_n 0, 1) := by decide +kernel
theorem dL_law_587 : decode cL_law 587 = .ok (.iload 4, 2) := by decide +kernel
theorem dL_law_589 : decode cL_law 589 = .ok (.iconst 1, 1) := by decide +kernel
theorem dL_law_590 : decode cL_law 590 = .ok (.iadd, 1) := by decide +kernel
theorem dL_law_591 : decode cL_law 591 = .ok (.iaload, 1) := by decide +kernel
theorem dL_law_592 : decode cL_law 592 = .ok (.aload_n 0, 1) := by decide +kernel
theorem dL_law_593 : decode cL_law 593 = .ok (.iload 4, 2) := by decide +kernel
theorem dL_law_595 : decode cL_law 595 = .ok (.iconst 2, 1) := by decide +kernel
theorem dL_law_596 : decode cL_law 596 = .ok (.iadd, 1) := by decide +kernel
theorem dL_law_597 : decode cL_law 597 = .ok (.iaload, 1) := by decide +kernel
theorem dL_law_598 : decode cL_law 598 = .ok (.invokevirtual 107, 3) := by decide +kernel
theorem dL_law_601 : decode cL_law 601 = .ok (.istore 6, 2) := by decide +kernel
theorem dL_law_603 : decode cL_law 603 = .ok (.goto 598, 3) := by decide +kernel
theorem dL_law_606 : decode cL_law 606 = .ok (.aload_n 1, 1) := by decide +kernel
theorem dL_law_607 : decode cL_law 607 = .ok (.aload_n 0, 1) := by decide +kernel
theorem dL_law_608 : decode cL_law 608 = .ok (.iload 4, 2) := by decide +kernel
theorem dL_law_610 : decode cL_law 610 = .ok (.iconst 1, 1) := by decide +kernel
theorem dL_law_611 : decode cL_law 611 = .ok (.iadd, 1) := by decide +kernel
theorem dL_law_612 : decode cL_law 612 = .ok (.iaload, 1) := by decide +kernel
theorem dL_law_613 : decode cL_law 613 = .ok (.aload_n 0, 1) := by decide +kernel
theorem dL_law_614 : decode cL_law 614 = .ok (.iload 4, 2) := by decide +kernel
theorem dL_law_616 : decode cL_law 616 = .ok (.iconst 2, 1) := by decide +kernel
theorem dL_law_617 : decode cL_law 617 = .ok (.iadd, 1) := by decide +kernel
theorem dL_law_618 : decode cL_law 618 = .ok (.iaload, 1) := by decide +kernel
theorem dL_law_619 : decode cL_law 619 = .ok (.aload_n 3, 1) := by decide +kernel
theorem dL_law_620 : decode cL_law 620 = .ok (.invokestatic 108, 3) := by decide +kernel
theorem dL_law_623 : decode cL_law 623 = .ok (.istore 5, 2) := by decide +kernel
theorem dL_law_625 : decode cL_law 625 = .ok (.aload_n 2, 1) := by decide +kernel
theorem dL_law_626 : decode cL_law 626 = .ok (.aload_n 0, 1) := by decide +kernel
theorem dL_law_627 : decode cL_law 627 = .ok (.iload 4, 2) := by decide +kernel
theorem dL_law_629 : decode cL_law 629 = .ok (.iconst 1, 1) := by decide +kernel
theorem dL_law_630 : decode cL_law 630 = .ok (.iadd, 1) := by decide +kernel
theorem dL_law_631 : decode cL_law 631 = .ok (.iaload, 1) := by decide +kernel
theorem dL_law_632 : decode cL_law 632 = .ok (.aload_n 0, 1) := by decide +kernel
theorem dL_law_633 : decode cL_law 633 = .ok (.iload 4, 2) := by decide +kernel
theorem dL_law_635 : decode cL_law 635 = .ok (.iconst 2, 1) := by decide +kernel
theorem dL_law_636 : decode cL_law 636 = .ok (.iadd, 1) := by decide +kernel
theorem dL_law_637 : decode cL_law 637 = .ok (.iaload, 1) := by decide +kernel
theorem dL_law_638 : decode cL_law 638 = .ok (.invokevirtual 110, 3) := by decide +kernel
theorem dL_law_641 : decode cL_law 641 = .ok (.istore 6, 2) := by decide +kernel
theorem dL_law_643 : decode cL_law 643 = .ok (.goto 558, 3) := by decide +kernel
theorem dL_law_646 : decode cL_law 646 = .ok (.aload_n 1, 1) := by decide +kernel
theorem dL_law_647 : decode cL_law 647 = .ok (.aload_n 0, 1) := by decide +kernel
theorem dL_law_648 : decode cL_law 648 = .ok (.iload 4, 2) := by decide +kernel
theorem dL_law_650 : decode cL_law 650 = .ok (.iconst 1, 1) := by decide +kernel
theorem dL_law_651 : decode cL_law 651 = .ok (.iadd, 1) := by decide +kernel
theorem dL_law_652 : decode cL_law 652 = .ok (.iaload, 1) := by decide +kernel
theorem dL_law_653 : decode cL_law 653 = .ok (.aload_n 0, 1) := by decide +kernel
theorem dL_law_654 : decode cL_law 654 = .ok (.iload 4, 2) := by decide +kernel
theorem dL_law_656 : decode cL_law 656 = .ok (.iconst 2, 1) := by decide +kernel
theorem dL_law_657 : decode cL_law 657 = .ok (.iadd, 1) := by decide +kernel
theorem dL_law_658 : decode cL_law 658 = .ok (.iaload, 1) := by decide +kernel
theorem dL_law_659 : decode cL_law 659 = .ok (.aload_n 3, 1) := by decide +kernel
theorem dL_law_660 : decode cL_law 660 = .ok (.invokestatic 111, 3) := by decide +kernel
theorem dL_law_663 : decode cL_law 663 = .ok (.istore 5, 2) := by decide +kernel
theorem dL_law_665 : decode cL_law 665 = .ok (.aload_n 2, 1) := by decide +kernel
theorem dL_law_666 : decode cL_law 666 = .ok (.aload_n 0, 1) := by decide +kernel
theorem dL_law_667 : decode cL_law 667 = .ok (.iload 4, 2) := by decide +kernel
theorem dL_law_669 : decode cL_law 669 = .ok (.iconst 1, 1) := by decide +kernel
theorem dL_law_670 : decode cL_law 670 = .ok (.iadd, 1) := by decide +kernel
theorem dL_law_671 : decode cL_law 671 = .ok (.iaload, 1) := by decide +kernel
theorem dL_law_672 : decode cL_law 672 = .ok (.aload_n 0, 1) := by decide +kernel
theorem dL_law_673 : decode cL_law 673 = .ok (.iload 4, 2) := by decide +kernel
theorem dL_law_675 : decode cL_law 675 = .ok (.iconst 2, 1) := by decide +kernel
theorem dL_law_676 : decode cL_law 676 = .ok (.iadd, 1) := by decide +kernel
theorem dL_law_677 : decode cL_law 677 = .ok (.iaload, 1) := by decide +kernel
theorem dL_law_678 : decode cL_law 678 = .ok (.invokevirtual 113, 3) := by decide +kernel
theorem dL_law_681 : decode cL_law 681 = .ok (.istore 6, 2) := by decide +kernel
theorem dL_law_683 : decode cL_law 683 = .ok (.goto 518, 3) := by decide +kernel
theorem dL_law_686 : decode cL_law 686 = .ok (.aload_n 1, 1) := by decide +kernel
theorem dL_law_687 : decode cL_law 687 = .ok (.aload_n 0, 1) := by decide +kernel
theorem dL_law_688 : decode cL_law 688 = .ok (.iload 4, 2) := by decide +kernel
theorem dL_law_690 : decode cL_law 690 = .ok (.iconst 1, 1) := by decide +kernel
theorem dL_law_691 : decode cL_law 691 = .ok (.iadd, 1) := by decide +kernel
theorem dL_law_692 : decode cL_law 692 = .ok (.iaload, 1) := by decide +kernel
theorem dL_law_693 : decode cL_law 693 = .ok (.aload_n 0, 1) := by decide +kernel
theorem dL_law_694 : decode cL_law 694 = .ok (.iload 4, 2) := by decide +kernel
theorem dL_law_696 : decode cL_law 696 = .ok (.iconst 2, 1) := by decide +kernel
theorem dL_law_697 : decode cL_law 697 = .ok (.iadd, 1) := by decide +kernel
theorem dL_law_698 : decode cL_law 698 = .ok (.iaload, 1) := by decide +kernel
theorem dL_law_699 : decode cL_law 699 = .ok (.aload_n 3, 1) := by decide +kernel
theorem dL_law_700 : decode cL_law 700 = .ok (.invokestatic 114, 3) := by decide +kernel
theorem dL_law_703 : decode cL_law 703 = .ok (.istore 5, 2) := by decide +kernel
theorem dL_law_705 : decode cL_law 705 = .ok (.aload_n 2, 1) := by decide +kernel
theorem dL_law_706 : decode cL_law 706 = .ok (.aload_n 0, 1) := by decide +kernel
theorem dL_law_707 : decode cL_law 707 = .ok (.iload 4, 2) := by decide +kernel
theorem dL_law_709 : decode cL_law 709 = .ok (.iconst 1, 1) := by decide +kernel
theorem dL_law_710 : decode cL_law 710 = .ok (.iadd, 1) := by decide +kernel
theorem dL_law_711 : decode cL_law 711 = .ok (.iaload, 1) := by decide +kernel
theorem dL_law_712 : decode cL_law 712 = .ok (.aload_n 0, 1) := by decide +kernel
theorem dL_law_713 : decode cL_law 713 = .ok (.iload 4, 2) := by decide +kernel
theorem dL_law_715 : decode cL_law 715 = .ok (.iconst 2, 1) := by decide +kernel
theorem dL_law_716 : decode cL_law 716 = .ok (.iadd, 1) := by decide +kernel
theorem dL_law_717 : decode cL_law 717 = .ok (.iaload, 1) := by decide +kernel
theorem dL_law_718 : decode cL_law 718 = .ok (.invokevirtual 116, 3) := by decide +kernel
theorem dL_law_721 : decode cL_law 721 = .ok (.istore 6, 2) := by decide +kernel
theorem dL_law_723 : decode cL_law 723 = .ok (.goto 478, 3) := by decide +kernel
theorem dL_law_726 : decode cL_law 726 = .ok (.aload_n 1, 1) := by decide +kernel
theorem dL_law_727 : decode cL_law 727 = .ok (.aload_n 0, 1) := by decide +kernel
theorem dL_law_728 : decode cL_law 728 = .ok (.iload 4, 2) := by decide +kernel
theorem dL_law_730 : decode cL_law 730 = .ok (.iconst 1, 1) := by decide +kernel
theorem dL_law_731 : decode cL_law 731 = .ok (.iadd, 1) := by decide +kernel
theorem dL_law_732 : decode cL_law 732 = .ok (.iaload, 1) := by decide +kernel
theorem dL_law_733 : decode cL_law 733 = .ok (.aload_n 0, 1) := by decide +kernel
theorem dL_law_734 : decode cL_law 734 = .ok (.iload 4, 2) := by decide +kernel
theorem dL_law_736 : decode cL_law 736 = .ok (.iconst 2, 1) := by decide +kernel
theorem dL_law_737 : decode cL_law 737 = .ok (.iadd, 1) := by decide +kernel
theorem dL_law_738 : decode cL_law 738 = .ok (.iaload, 1) := by decide +kernel
theorem dL_law_739 : decode cL_law 739 = .ok (.aload_n 3, 1) := by decide +kernel
theorem dL_law_740 : decode cL_law 740 = .ok (.invokestatic 117, 3) := by decide +kernel
theorem dL_law_743 : decode cL_law 743 = .ok (.istore 5, 2) := by decide +kernel
theorem dL_law_745 : decode cL_law 745 = .ok (.aload_n 2, 1) := by decide +kernel
theorem dL_law_746 : decode cL_law 746 = .ok (.aload_n 0, 1) := by decide +kernel
theorem dL_law_747 : decode cL_law 747 = .ok (.iload 4, 2) := by decide +kernel
theorem dL_law_749 : decode cL_law 749 = .ok (.iconst 1, 1) := by decide +kernel
theorem dL_law_750 : decode cL_law 750 = .ok (.iadd, 1) := by decide +kernel
theorem dL_law_751 : decode cL_law 751 = .ok (.iaload, 1) := by decide +kernel
theorem dL_law_752 : decode cL_law 752 = .ok (.aload_n 0, 1) := by decide +kernel
theorem dL_law_753 : decode cL_law 753 = .ok (.iload 4, 2) := by decide +kernel
theorem dL_law_755 : decode cL_law 755 = .ok (.iconst 2, 1) := by decide +kernel
theorem dL_law_756 : decode cL_law 756 = .ok (.iadd, 1) := by decide +kernel
theorem dL_law_757 : decode cL_law 757 = .ok (.iaload, 1) := by decide +kernel
theorem dL_law_758 : decode cL_law 758 = .ok (.invokevirtual 119, 3) := by decide +kernel
theorem dL_law_761 : decode cL_law 761 = .ok (.istore 6, 2) := by decide +kernel
theorem dL_law_763 : decode cL_law 763 = .ok (.goto 438, 3) := by decide +kernel
