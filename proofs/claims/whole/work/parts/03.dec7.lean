theorem d_L_law_495 : decode c_L_law 495 = .ok (.aload_n 3, 1) := by decide +kernel
theorem d_L_law_496 : decode c_L_law 496 = .ok (.iconst 0, 1) := by decide +kernel
theorem d_L_law_497 : decode c_L_law 497 = .ok (.laload, 1) := by decide +kernel
theorem d_L_law_498 : decode c_L_law 498 = .ok (.iload 6, 2) := by decide +kernel
theorem d_L_law_500 : decode c_L_law 500 = .ok (.i2l, 1) := by decide +kernel
theorem d_L_law_501 : decode c_L_law 501 = .ok (.lcmp, 1) := by decide +kernel
theorem d_L_law_502 : decode c_L_law 502 = .ok (.ifCond .eq 5, 3) := by decide +kernel
theorem d_L_law_505 : decode c_L_law 505 = .ok (.iconst 0, 1) := by decide +kernel
theorem d_L_law_506 : decode c_L_law 506 = .ok (.ireturn, 1) := by decide +kernel
theorem d_L_law_507 : decode c_L_law 507 = .ok (.goto 1091, 3) := by decide +kernel
theorem d_L_law_510 : decode c_L_law 510 = .ok (.aload_n 1, 1) := by decide +kernel
theorem d_L_law_511 : decode c_L_law 511 = .ok (.invokevirtual 120, 3) := by decide +kernel
theorem d_L_law_514 : decode c_L_law 514 = .ok (.aload_n 2, 1) := by decide +kernel
theorem d_L_law_515 : decode c_L_law 515 = .ok (.invokevirtual 123, 3) := by decide +kernel
theorem d_L_law_518 : decode c_L_law 518 = .ok (.if_icmp .eq 1080, 3) := by decide +kernel
theorem d_L_law_521 : decode c_L_law 521 = .ok (.iconst 0, 1) := by decide +kernel
theorem d_L_law_522 : decode c_L_law 522 = .ok (.ireturn, 1) := by decide +kernel
theorem d_L_law_523 : decode c_L_law 523 = .ok (.aload_n 1, 1) := by decide +kernel
theorem d_L_law_524 : decode c_L_law 524 = .ok (.aload_n 0, 1) := by decide +kernel
theorem d_L_law_525 : decode c_L_law 525 = .ok (.iload 4, 2) := by decide +kernel
theorem d_L_law_527 : decode c_L_law 527 = .ok (.iconst 1, 1) := by decide +kernel
theorem d_L_law_528 : decode c_L_law 528 = .ok (.iadd, 1) := by decide +kernel
theorem d_L_law_529 : decode c_L_law 529 = .ok (.iaload, 1) := by decide +kernel
theorem d_L_law_530 : decode c_L_law 530 = .ok (.aload_n 0, 1) := by decide +kernel
theorem d_L_law_531 : decode c_L_law 531 = .ok (.iload 4, 2) := by decide +kernel
theorem d_L_law_533 : decode c_L_law 533 = .ok (.iconst 2, 1) := by decide +kernel
theorem d_L_law_534 : decode c_L_law 534 = .ok (.iadd, 1) := by decide +kernel
theorem d_L_law_535 : decode c_L_law 535 = .ok (.iaload, 1) := by decide +kernel
theorem d_L_law_536 : decode c_L_law 536 = .ok (.aload_n 3, 1) := by decide +kernel
theorem d_L_law_537 : decode c_L_law 537 = .ok (.invokestatic 124, 3) := by decide +kernel
theorem d_L_law_540 : decode c_L_law 540 = .ok (.istore 5, 2) := by decide +kernel
theorem d_L_law_542 : decode c_L_law 542 = .ok (.aload_n 2, 1) := by decide +kernel
theorem d_L_law_543 : decode c_L_law 543 = .ok (.aload_n 0, 1) := by decide +kernel
theorem d_L_law_544 : decode c_L_law 544 = .ok (.iload 4, 2) := by decide +kernel
theorem d_L_law_546 : decode c_L_law 546 = .ok (.iconst 1, 1) := by decide +kernel
theorem d_L_law_547 : decode c_L_law 547 = .ok (.iadd, 1) := by decide +kernel
theorem d_L_law_548 : decode c_L_law 548 = .ok (.iaload, 1) := by decide +kernel
theorem d_L_law_549 : decode c_L_law 549 = .ok (.aload_n 0, 1) := by decide +kernel
theorem d_L_law_550 : decode c_L_law 550 = .ok (.iload 4, 2) := by decide +kernel
theorem d_L_law_552 : decode c_L_law 552 = .ok (.iconst 2, 1) := by decide +kernel
theorem d_L_law_553 : decode c_L_law 553 = .ok (.iadd, 1) := by decide +kernel
theorem d_L_law_554 : decode c_L_law 554 = .ok (.iaload, 1) := by decide +kernel
theorem d_L_law_555 : decode c_L_law 555 = .ok (.invokevirtual 126, 3) := by decide +kernel
theorem d_L_law_558 : decode c_L_law 558 = .ok (.istore 6, 2) := by decide +kernel
theorem d_L_law_560 : decode c_L_law 560 = .ok (.aload_n 2, 1) := by decide +kernel
theorem d_L_law_561 : decode c_L_law 561 = .ok (.invokevirtual 101, 3) := by decide +kernel
theorem d_L_law_564 : decode c_L_law 564 = .ok (.iload 5, 2) := by decide +kernel
theorem d_L_law_566 : decode c_L_law 566 = .ok (.if_icmp .eq 5, 3) := by decide +kernel
theorem d_L_law_569 : decode c_L_law 569 = .ok (.iconst 0, 1) := by decide +kernel
theorem d_L_law_570 : decode c_L_law 570 = .ok (.ireturn, 1) := by decide +kernel
theorem d_L_law_571 : decode c_L_law 571 = .ok (.iload 5, 2) := by decide +kernel
theorem d_L_law_573 : decode c_L_law 573 = .ok (.ifCond .ne 15, 3) := by decide +kernel
theorem d_L_law_576 : decode c_L_law 576 = .ok (.aload_n 3, 1) := by decide +kernel
theorem d_L_law_577 : decode c_L_law 577 = .ok (.iconst 0, 1) := by decide +kernel
theorem d_L_law_578 : decode c_L_law 578 = .ok (.laload, 1) := by decide +kernel
theorem d_L_law_579 : decode c_L_law 579 = .ok (.iload 6, 2) := by decide +kernel
theorem d_L_law_581 : decode c_L_law 581 = .ok (.i2l, 1) := by decide +kernel
theorem d_L_law_582 : decode c_L_law 582 = .ok (.lcmp, 1) := by decide +kernel
theorem d_L_law_583 : decode c_L_law 583 = .ok (.ifCond .eq 5, 3) := by decide +kernel
theorem d_L_law_586 : decode c_L_law 586 = .ok (.iconst 0, 1) := by decide +kernel
theorem d_L_law_587 : decode c_L_law 587 = .ok (.ireturn, 1) := by decide +kernel
theorem d_L_law_588 : decode c_L_law 588 = .ok (.goto 1010, 3) := by decide +kernel
theorem d_L_law_591 : decode c_L_law 591 = .ok (.aload_n 1, 1) := by decide +kernel
theorem d_L_law_592 : decode c_L_law 592 = .ok (.aload_n 0, 1) := by decide +kernel
theorem d_L_law_593 : decode c_L_law 593 = .ok (.iload 4, 2) := by decide +kernel
theorem d_L_law_595 : decode c_L_law 595 = .ok (.iconst 1, 1) := by decide +kernel
theorem d_L_law_596 : decode c_L_law 596 = .ok (.iadd, 1) := by decide +kernel
theorem d_L_law_597 : decode c_L_law 597 = .ok (.iaload, 1) := by decide +kernel
theorem d_L_law_598 : decode c_L_law 598 = .ok (.aload_n 3, 1) := by decide +kernel
theorem d_L_law_599 : decode c_L_law 599 = .ok (.invokestatic 127, 3) := by decide +kernel
theorem d_L_law_602 : decode c_L_law 602 = .ok (.istore 5, 2) := by decide +kernel
theorem d_L_law_604 : decode c_L_law 604 = .ok (.aload_n 2, 1) := by decide +kernel
theorem d_L_law_605 : decode c_L_law 605 = .ok (.aload_n 0, 1) := by decide +kernel
theorem d_L_law_606 : decode c_L_law 606 = .ok (.iload 4, 2) := by decide +kernel
theorem d_L_law_608 : decode c_L_law 608 = .ok (.iconst 1, 1) := by decide +kernel
theorem d_L_law_609 : decode c_L_law 609 = .ok (.iadd, 1) := by decide +kernel
theorem d_L_law_610 : decode c_L_law 610 = .ok (.iaload, 1) := by decide +kernel
theorem d_L_law_611 : decode c_L_law 611 = .ok (.invokevirtual 129, 3) := by decide +kernel
theorem d_L_law_614 : decode c_L_law 614 = .ok (.istore 6, 2) := by decide +kernel
theorem d_L_law_616 : decode c_L_law 616 = .ok (.aload_n 2, 1) := by decide +kernel
theorem d_L_law_617 : decode c_L_law 617 = .ok (.invokevirtual 101, 3) := by decide +kernel
theorem d_L_law_620 : decode c_L_law 620 = .ok (.iload 5, 2) := by decide +kernel
theorem d_L_law_622 : decode c_L_law 622 = .ok (.if_icmp .eq 5, 3) := by decide +kernel
theorem d_L_law_625 : decode c_L_law 625 = .ok (.iconst 0, 1) := by decide +kernel
theorem d_L_law_626 : decode c_L_law 626 = .ok (.ireturn, 1) := by decide +kernel
theorem d_L_law_627 : decode c_L_law 627 = .ok (.iload 5, 2) := by decide +kernel
theorem d_L_law_629 : decode c_L_law 629 = .ok (.ifCond .ne 15, 3) := by decide +kernel
theorem d_L_law_632 : decode c_L_law 632 = .ok (.aload_n 3, 1) := by decide +kernel
theorem d_L_law_633 : decode c_L_law 633 = .ok (.iconst 0, 1) := by decide +kernel
theorem d_L_law_634 : decode c_L_law 634 = .ok (.laload, 1) := by decide +kernel
theorem d_L_law_635 : decode c_L_law 635 = .ok (.iload 6, 2) := by decide +kernel
theorem d_L_law_637 : decode c_L_law 637 = .ok (.i2l, 1) := by decide +kernel
theorem d_L_law_638 : decode c_L_law 638 = .ok (.lcmp, 1) := by decide +kernel
theorem d_L_law_639 : decode c_L_law 639 = .ok (.ifCond .eq 5, 3) := by decide +kernel
theorem d_L_law_642 : decode c_L_law 642 = .ok (.iconst 0, 1) := by decide +kernel
theorem d_L_law_643 : decode c_L_law 643 = .ok (.ireturn, 1) := by decide +kernel
theorem d_L_law_644 : decode c_L_law 644 = .ok (.goto 954, 3) := by decide +kernel
theorem d_L_law_647 : decode c_L_law 647 = .ok (.aload_n 1, 1) := by decide +kernel
theorem d_L_law_648 : decode c_L_law 648 = .ok (.aload_n 0, 1) := by decide +kernel
theorem d_L_law_649 : decode c_L_law 649 = .ok (.iload 4, 2) := by decide +kernel
theorem d_L_law_651 : decode c_L_law 651 = .ok (.iconst 1, 1) := by decide +kernel
theorem d_L_law_652 : decode c_L_law 652 = .ok (.iadd, 1) := by decide +kernel
theorem d_L_law_653 : decode c_L_law 653 = .ok (.iaload, 1) := by decide +kernel
theorem d_L_law_654 : decode c_L_law 654 = .ok (.aload_n 3, 1) := by decide +kernel
theorem d_L_law_655 : decode c_L_law 655 = .ok (.invokestatic 130, 3) := by decide +kernel
theorem d_L_law_658 : decode c_L_law 658 = .ok (.istore 5, 2) := by decide +kernel
theorem d_L_law_660 : decode c_L_law 660 = .ok (.aload_n 2, 1) := by decide +kernel
theorem d_L_law_661 : decode c_L_law 661 = .ok (.aload_n 0, 1) := by decide +kernel
theorem d_L_law_662 : decode c_L_law 662 = .ok (.iload 4, 2) := by decide +kernel
theorem d_L_law_664 : decode c_L_law 664 = .ok (.iconst 1, 1) := by decide +kernel
theorem d_L_law_665 : decode c_L_law 665 = .ok (.iadd, 1) := by decide +kernel
theorem d_L_law_666 : decode c_L_law 666 = .ok (.iaload, 1) := by decide +kernel
theorem d_L_law_667 : decode c_L_law 667 = .ok (.invokevirtual 132, 3) := by decide +kernel
theorem d_L_law_670 : decode c_L_law 670 = .ok (.istore 6, 2) := by decide +kernel
theorem d_L_law_672 : decode c_L_law 672 = .ok (.aload_n 2, 1) := by decide +kernel
theorem d_L_law_673 : decode c_L_law 673 = .ok (.invokevirtual 101, 3) := by decide +kernel
theorem d_L_law_676 : decode c_L_law 676 = .ok (.iload 5, 2) := by decide +kernel
theorem d_L_law_678 : decode c_L_law 678 = .ok (.if_icmp .eq 5, 3) := by decide +kernel
theorem d_L_law_681 : decode c_L_law 681 = .ok (.iconst 0, 1) := by decide +kernel
theorem d_L_law_682 : decode c_L_law 682 = .ok (.ireturn, 1) := by decide +kernel
theorem d_L_law_683 : decode c_L_law 683 = .ok (.iload 5, 2) := by decide +kernel
theorem d_L_law_685 : decode c_L_law 685 = .ok (.ifCond .ne 15, 3) := by decide +kernel
theorem d_L_law_688 : decode c_L_law 688 = .ok (.aload_n 3, 1) := by decide +kernel
theorem d_L_law_689 : decode c_L_law 689 = .ok (.iconst 0, 1) := by decide +kernel
theorem d_L_law_690 : decode c_L_law 690 = .ok (.laload, 1) := by decide +kernel
theorem d_L_law_691 : decode c_L_law 691 = .ok (.iload 6, 2) := by decide +kernel
theorem d_L_law_693 : decode c_L_law 693 = .ok (.i2l, 1) := by decide +kernel
theorem d_L_law_694 : decode c_L_law 694 = .ok (.lcmp, 1) := by decide +kernel
theorem d_L_law_695 : decode c_L_law 695 = .ok (.ifCond .eq 5, 3) := by decide +kernel
theorem d_L_law_698 : decode c_L_law 698 = .ok (.iconst 0, 1) := by decide +kernel
theorem d_L_law_699 : decode c_L_law 699 = .ok (.ireturn, 1) := by decide +kernel
theorem d_L_law_700 : decode c_L_law 700 = .ok (.goto 898, 3) := by decide +kernel
theorem d_L_law_703 : decode c_L_law 703 = .ok (.aload_n 1, 1) := by decide +kernel
theorem d_L_law_704 : decode c_L_law 704 = .ok (.aload_n 0, 1) := by decide +kernel
theorem d_L_law_705 : decode c_L_law 705 = .ok (.iload 4, 2) := by decide +kernel
theorem d_L_law_707 : decode c_L_law 707 = .ok (.iconst 1, 1) := by decide +kernel
theorem d_L_law_708 : decode c_L_law 708 = .ok (.iadd, 1) := by decide +kernel
theorem d_L_law_709 : decode c_L_law 709 = .ok (.iaload, 1) := by decide +kernel
theorem d_L_law_710 : decode c_L_law 710 = .ok (.aload_n 0, 1) := by decide +kernel
theorem d_L_law_711 : decode c_L_law 711 = .ok (.iload 4, 2) := by decide +kernel
theorem d_L_law_713 : decode c_L_law 713 = .ok (.iconst 2, 1) := by decide +kernel
theorem d_L_law_714 : decode c_L_law 714 = .ok (.iadd, 1) := by decide +kernel
theorem d_L_law_715 : decode c_L_law 715 = .ok (.iaload, 1) := by decide +kernel
theorem d_L_law_716 : decode c_L_law 716 = .ok (.aload_n 3, 1) := by decide +kernel
theorem d_L_law_717 : decode c_L_law 717 = .ok (.invokestatic 133, 3) := by decide +kernel
theorem d_L_law_720 : decode c_L_law 720 = .ok (.istore 5, 2) := by decide +kernel
theorem d_L_law_722 : decode c_L_law 722 = .ok (.aload_n 2, 1) := by decide +kernel
theorem d_L_law_723 : decode c_L_law 723 = .ok (.aload_n 0, 1) := by decide +kernel
theorem d_L_law_724 : decode c_L_law 724 = .ok (.iload 4, 2) := by decide +kernel
theorem d_L_law_726 : decode c_L_law 726 = .ok (.iconst 1, 1) := by decide +kernel
theorem d_L_law_727 : decode c_L_law 727 = .ok (.iadd, 1) := by decide +kernel
theorem d_L_law_728 : decode c_L_law 728 = .ok (.iaload, 1) := by decide +kernel
theorem d_L_law_729 : decode c_L_law 729 = .ok (.aload_n 0, 1) := by decide +kernel
theorem d_L_law_730 : decode c_L_law 730 = .ok (.iload 4, 2) := by decide +kernel
theorem d_L_law_732 : decode c_L_law 732 = .ok (.iconst 2, 1) := by decide +kernel
theorem d_L_law_733 : decode c_L_law 733 = .ok (.iadd, 1) := by decide +kernel
theorem d_L_law_734 : decode c_L_law 734 = .ok (.iaload, 1) := by decide +kernel
theorem d_L_law_735 : decode c_L_law 735 = .ok (.invokevirtual 135, 3) := by decide +kernel
theorem d_L_law_738 : decode c_L_law 738 = .ok (.lstore 6, 2) := by decide +kernel
theorem d_L_law_740 : decode c_L_law 740 = .ok (.aload_n 2, 1) := by decide +kernel
theorem d_L_law_741 : decode c_L_law 741 = .ok (.invokevirtual 101, 3) := by decide +kernel
theorem d_L_law_744 : decode c_L_law 744 = .ok (.iload 5, 2) := by decide +kernel
theorem d_L_law_746 : decode c_L_law 746 = .ok (.if_icmp .eq 5, 3) := by decide +kernel
theorem d_L_law_749 : decode c_L_law 749 = .ok (.iconst 0, 1) := by decide +kernel
theorem d_L_law_750 : decode c_L_law 750 = .ok (.ireturn, 1) := by decide +kernel
theorem d_L_law_751 : decode c_L_law 751 = .ok (.iload 5, 2) := by decide +kernel
theorem d_L_law_753 : decode c_L_law 753 = .ok (.ifCond .ne 14, 3) := by decide +kernel
theorem d_L_law_756 : decode c_L_law 756 = .ok (.aload_n 3, 1) := by decide +kernel
theorem d_L_law_757 : decode c_L_law 757 = .ok (.iconst 0, 1) := by decide +kernel
theorem d_L_law_758 : decode c_L_law 758 = .ok (.laload, 1) := by decide +kernel
theorem d_L_law_759 : decode c_L_law 759 = .ok (.lload 6, 2) := by decide +kernel
theorem d_L_law_761 : decode c_L_law 761 = .ok (.lcmp, 1) := by decide +kernel
theorem d_L_law_762 : decode c_L_law 762 = .ok (.ifCond .eq 5, 3) := by decide +kernel
theorem d_L_law_765 : decode c_L_law 765 = .ok (.iconst 0, 1) := by decide +kernel
theorem d_L_law_766 : decode c_L_law 766 = .ok (.ireturn, 1) := by decide +kernel
theorem d_L_law_767 : decode c_L_law 767 = .ok (.goto 831, 3) := by decide +kernel
theorem d_L_law_770 : decode c_L_law 770 = .ok (.aload_n 1, 1) := by decide +kernel
theorem d_L_law_771 : decode c_L_law 771 = .ok (.aload_n 0, 1) := by decide +kernel
theorem d_L_law_772 : decode c_L_law 772 = .ok (.iload 4, 2) := by decide +kernel
theorem d_L_law_774 : decode c_L_law 774 = .ok (.iconst 1, 1) := by decide +kernel
theorem d_L_law_775 : decode c_L_law 775 = .ok (.iadd, 1) := by decide +kernel
theorem d_L_law_776 : decode c_L_law 776 = .ok (.iaload, 1) := by decide +kernel
theorem d_L_law_777 : decode c_L_law 777 = .ok (.aload_n 0, 1) := by decide +kernel
theorem d_L_law_778 : decode c_L_law 778 = .ok (.iload 4, 2) := by decide +kernel
theorem d_L_law_780 : decode c_L_law 780 = .ok (.iconst 2, 1) := by decide +kernel
theorem d_L_law_781 : decode c_L_law 781 = .ok (.iadd, 1) := by decide +kernel
theorem d_L_law_782 : decode c_L_law 782 = .ok (.iaload, 1) := by decide +kernel
theorem d_L_law_783 : decode c_L_law 783 = .ok (.aload_n 3, 1) := by decide +kernel
theorem d_L_law_784 : decode c_L_law 784 = .ok (.invokestatic 136, 3) := by decide +kernel
theorem d_L_law_787 : decode c_L_law 787 = .ok (.istore 5, 2) := by decide +kernel
theorem d_L_law_789 : decode c_L_law 789 = .ok (.aload_n 2, 1) := by decide +kernel
theorem d_L_law_790 : decode c_L_law 790 = .ok (.aload_n 0, 1) := by decide +kernel
theorem d_L_law_791 : decode c_L_law 791 = .ok (.iload 4, 2) := by decide +kernel
theorem d_L_law_793 : decode c_L_law 793 = .ok (.iconst 1, 1) := by decide +kernel
theorem d_L_law_794 : decode c_L_law 794 = .ok (.iadd, 1) := by decide +kernel
theorem d_L_law_795 : decode c_L_law 795 = .ok (.iaload, 1) := by decide +kernel
theorem d_L_law_796 : decode c_L_law 796 = .ok (.aload_n 0, 1) := by decide +kernel
theorem d_L_law_797 : decode c_L_law 797 = .ok (.iload 4, 2) := by decide +kernel
theorem d_L_law_799 : decode c_L_law 799 = .ok (.iconst 2, 1) := by decide +kernel
theorem d_L_law_800 : decode c_L_law 800 = .ok (.iadd, 1) := by decide +kernel
theorem d_L_law_801 : decode c_L_law 801 = .ok (.iaload, 1) := by decide +kernel
theorem d_L_law_802 : decode c_L_law 802 = .ok (.invokevirtual 138, 3) := by decide +kernel
theorem d_L_law_805 : decode c_L_law 805 = .ok (.istore 6, 2) := by decide +kernel
theorem d_L_law_807 : decode c_L_law 807 = .ok (.aload_n 2, 1) := by decide +kernel
theorem d_L_law_808 : decode c_L_law 808 = .ok (.invokevirtual 101, 3) := by decide +kernel
theorem d_L_law_811 : decode c_L_law 811 = .ok (.iload 5, 2) := by decide +kernel
theorem d_L_law_813 : decode c_L_law 813 = .ok (.if_icmp .eq 5, 3) := by decide +kernel
theorem d_L_law_816 : decode c_L_law 816 = .ok (.iconst 0, 1) := by decide +kernel
theorem d_L_law_817 : decode c_L_law 817 = .ok (.ireturn, 1) := by decide +kernel
theorem d_L_law_818 : decode c_L_law 818 = .ok (.iload 5, 2) := by decide +kernel
theorem d_L_law_820 : decode c_L_law 820 = .ok (.ifCond .ne 15, 3) := by decide +kernel
theorem d_L_law_823 : decode c_L_law 823 = .ok (.aload_n 3, 1) := by decide +kernel
theorem d_L_law_824 : decode c_L_law 824 = .ok (.iconst 0, 1) := by decide +kernel
theorem d_L_law_825 : decode c_L_law 825 = .ok (.laload, 1) := by decide +kernel
theorem d_L_law_826 : decode c_L_law 826 = .ok (.iload 6, 2) := by decide +kernel
theorem d_L_law_828 : decode c_L_law 828 = .ok (.i2l, 1) := by decide +kernel
theorem d_L_law_829 : decode c_L_law 829 = .ok (.lcmp, 1) := by decide +kernel
theorem d_L_law_830 : decode c_L_law 830 = .ok (.ifCond .eq 5, 3) := by decide +kernel
theorem d_L_law_833 : decode c_L_law 833 = .ok (.iconst 0, 1) := by decide +kernel
theorem d_L_law_834 : decode c_L_law 834 = .ok (.ireturn, 1) := by decide +kernel
theorem d_L_law_835 : decode c_L_law 835 = .ok (.goto 763, 3) := by decide +kernel
theorem d_L_law_838 : decode c_L_law 838 = .ok (.aload_n 1, 1) := by decide +kernel
theorem d_L_law_839 : decode c_L_law 839 = .ok (.aload_n 0, 1) := by decide +kernel
theorem d_L_law_840 : decode c_L_law 840 = .ok (.iload 4, 2) := by decide +kernel
theorem d_L_law_842 : decode c_L_law 842 = .ok (.iconst 1, 1) := by decide +kernel
theorem d_L_law_843 : decode c_L_law 843 = .ok (.iadd, 1) := by decide +kernel
theorem d_L_law_844 : decode c_L_law 844 = .ok (.iaload, 1) := by decide +kernel
theorem d_L_law_845 : decode c_L_law 845 = .ok (.aload_n 0, 1) := by decide +kernel
theorem d_L_law_846 : decode c_L_law 846 = .ok (.iload 4, 2) := by decide +kernel
theorem d_L_law_848 : decode c_L_law 848 = .ok (.iconst 2, 1) := by decide +kernel
theorem d_L_law_849 : decode c_L_law 849 = .ok (.iadd, 1) := by decide +kernel
theorem d_L_law_850 : decode c_L_law 850 = .ok (.iaload, 1) := by decide +kernel
theorem d_L_law_851 : decode c_L_law 851 = .ok (.aload_n 3, 1) := by decide +kernel
theorem d_L_law_852 : decode c_L_law 852 = .ok (.invokestatic 139, 3) := by decide +kernel
theorem d_L_law_855 : decode c_L_law 855 = .ok (.istore 5, 2) := by decide +kernel
theorem d_L_law_857 : decode c_L_law 857 = .ok (.aload_n 2, 1) := by decide +kernel
theorem d_L_law_858 : decode c_L_law 858 = .ok (.aload_n 0, 1) := by decide +kernel
theorem d_L_law_859 : decode c_L_law 859 = .ok (.iload 4, 2) := by decide +kernel
theorem d_L_law_861 : decode c_L_law 861 = .ok (.iconst 1, 1) := by decide +kernel
theorem d_L_law_862 : decode c_L_law 862 = .ok (.iadd, 1) := by decide +kernel
theorem d_L_law_863 : decode c_L_law 863 = .ok (.iaload, 1) := by decide +kernel
theorem d_L_law_864 : decode c_L_law 864 = .ok (.aload_n 0, 1) := by decide +kernel
theorem d_L_law_865 : decode c_L_law 865 = .ok (.iload 4, 2) := by decide +kernel
theorem d_L_law_867 : decode c_L_law 867 = .ok (.iconst 2, 1) := by decide +kernel
theorem d_L_law_868 : decode c_L_law 868 = .ok (.iadd, 1) := by decide +kernel
theorem d_L_law_869 : decode c_L_law 869 = .ok (.iaload, 1) := by decide +kernel
theorem d_L_law_870 : decode c_L_law 870 = .ok (.invokevirtual 141, 3) := by decide +kernel
theorem d_L_law_873 : decode c_L_law 873 = .ok (.lstore 6, 2) := by decide +kernel
theorem d_L_law_875 : decode c_L_law 875 = .ok (.aload_n 2, 1) := by decide +kernel
theorem d_L_law_876 : decode c_L_law 876 = .ok (.invokevirtual 101, 3) := by decide +kernel
