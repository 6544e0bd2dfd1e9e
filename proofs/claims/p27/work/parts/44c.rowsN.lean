theorem dL_notes_536 : decode cL_notes 536 = .ok (.invokevirtual 15, 3) := by decide +kernel
theorem dL_notes_539 : decode cL_notes 539 = .ok (.ifCond .le 19, 3) := by decide +kernel
theorem dL_notes_542 : decode cL_notes 542 = .ok (.aload_n 0, 1) := by decide +kernel
theorem dL_notes_543 : decode cL_notes 543 = .ok (.iload 6, 2) := by decide +kernel
theorem dL_notes_545 : decode cL_notes 545 = .ok (.iconst 0, 1) := by decide +kernel
theorem dL_notes_546 : decode cL_notes 546 = .ok (.invokevirtual 19, 3) := by decide +kernel
theorem dL_notes_549 : decode cL_notes 549 = .ok (.bipush (-5), 2) := by decide +kernel
theorem dL_notes_551 : decode cL_notes 551 = .ok (.if_icmp .ne 7, 3) := by decide +kernel
theorem dL_notes_554 : decode cL_notes 554 = .ok (.iconst 1, 1) := by decide +kernel
theorem dL_notes_555 : decode cL_notes 555 = .ok (.goto 4, 3) := by decide +kernel
theorem dL_notes_558 : decode cL_notes 558 = .ok (.iconst 0, 1) := by decide +kernel
theorem dL_notes_559 : decode cL_notes 559 = .ok (.istore 5, 2) := by decide +kernel
theorem dL_notes_561 : decode cL_notes 561 = .ok (.iload 5, 2) := by decide +kernel
theorem dL_notes_563 : decode cL_notes 563 = .ok (.ifCond .eq 58, 3) := by decide +kernel
theorem dL_notes_566 : decode cL_notes 566 = .ok (.iload 7, 2) := by decide +kernel
theorem dL_notes_568 : decode cL_notes 568 = .ok (.iconst 2, 1) := by decide +kernel
theorem dL_notes_569 : decode cL_notes 569 = .ok (.if_icmp .eq 48, 3) := by decide +kernel
theorem dL_notes_572 : decode cL_notes 572 = .ok (.aload_n 0, 1) := by decide +kernel
theorem dL_notes_573 : decode cL_notes 573 = .ok (.iload 6, 2) := by decide +kernel
theorem dL_notes_575 : decode cL_notes 575 = .ok (.iconst 0, 1) := by decide +kernel
theorem dL_notes_576 : decode cL_notes 576 = .ok (.invokevirtual 28, 3) := by decide +kernel
theorem dL_notes_579 : decode cL_notes 579 = .ok (.ifCond .lt 42, 3) := by decide +kernel
theorem dL_notes_582 : decode cL_notes 582 = .ok (.aload_n 0, 1) := by decide +kernel
theorem dL_notes_583 : decode cL_notes 583 = .ok (.iload 6, 2) := by decide +kernel
theorem dL_notes_585 : decode cL_notes 585 = .ok (.aload_n 0, 1) := by decide +kernel
theorem dL_notes_586 : decode cL_notes 586 = .ok (.iload 6, 2) := by decide +kernel
theorem dL_notes_588 : decode cL_notes 588 = .ok (.iconst 3, 1) := by decide +kernel
theorem dL_notes_589 : decode cL_notes 589 = .ok (.invokevirtual 15, 3) := by decide +kernel
theorem dL_notes_592 : decode cL_notes 592 = .ok (.iconst 1, 1) := by decide +kernel
theorem dL_notes_593 : decode cL_notes 593 = .ok (.isub, 1) := by decide +kernel
theorem dL_notes_594 : decode cL_notes 594 = .ok (.invokevirtual 28, 3) := by decide +kernel
theorem dL_notes_597 : decode cL_notes 597 = .ok (.ifCond .lt 24, 3) := by decide +kernel
theorem dL_notes_600 : decode cL_notes 600 = .ok (.aload_n 0, 1) := by decide +kernel
theorem dL_notes_601 : decode cL_notes 601 = .ok (.iload 6, 2) := by decide +kernel
theorem dL_notes_603 : decode cL_notes 603 = .ok (.aload_n 0, 1) := by decide +kernel
theorem dL_notes_604 : decode cL_notes 604 = .ok (.iload 6, 2) := by decide +kernel
theorem dL_notes_606 : decode cL_notes 606 = .ok (.iconst 3, 1) := by decide +kernel
theorem dL_notes_607 : decode cL_notes 607 = .ok (.invokevirtual 15, 3) := by decide +kernel
theorem dL_notes_610 : decode cL_notes 610 = .ok (.invokevirtual 28, 3) := by decide +kernel
theorem dL_notes_613 : decode cL_notes 613 = .ok (.iconst (-1), 1) := by decide +kernel
theorem dL_notes_614 : decode cL_notes 614 = .ok (.if_icmp .ne 7, 3) := by decide +kernel
theorem dL_notes_617 : decode cL_notes 617 = .ok (.iconst 1, 1) := by decide +kernel
theorem dL_notes_618 : decode cL_notes 618 = .ok (.goto 4, 3) := by decide +kernel
theorem dL_notes_621 : decode cL_notes 621 = .ok (.iconst 0, 1) := by decide +kernel
theorem dL_notes_622 : decode cL_notes 622 = .ok (.istore 5, 2) := by decide +kernel
theorem dL_notes_624 : decode cL_notes 624 = .ok (.iinc 6 1, 3) := by decide +kernel
theorem dL_notes_627 : decode cL_notes 627 = .ok (.goto (-588), 3) := by decide +kernel
theorem dL_notes_630 : decode cL_notes 630 = .ok (.iconst 0, 1) := by decide +kernel
theorem dL_notes_631 : decode cL_notes 631 = .ok (.istore 6, 2) := by decide +kernel
theorem dL_notes_633 : decode cL_notes 633 = .ok (.iload 6, 2) := by decide +kernel
theorem dL_notes_635 : decode cL_notes 635 = .ok (.aload_n 0, 1) := by decide +kernel
theorem dL_notes_636 : decode cL_notes 636 = .ok (.iconst 0, 1) := by decide +kernel
theorem dL_notes_637 : decode cL_notes 637 = .ok (.invokevirtual 9, 3) := by decide +kernel
theorem dL_notes_640 : decode cL_notes 640 = .ok (.if_icmp .ge 67, 3) := by decide +kernel
theorem dL_notes_643 : decode cL_notes 643 = .ok (.iload 5, 2) := by decide +kernel
theorem dL_notes_645 : decode cL_notes 645 = .ok (.ifCond .eq 62, 3) := by decide +kernel
theorem dL_notes_648 : decode cL_notes 648 = .ok (.aload_n 0, 1) := by decide +kernel
theorem dL_notes_649 : decode cL_notes 649 = .ok (.iload 6, 2) := by decide +kernel
theorem dL_notes_651 : decode cL_notes 651 = .ok (.invokevirtual 22, 3) := by decide +kernel
theorem dL_notes_654 : decode cL_notes 654 = .ok (.istore 7, 2) := by decide +kernel
theorem dL_notes_656 : decode cL_notes 656 = .ok (.iload 4, 2) := by decide +kernel
theorem dL_notes_658 : decode cL_notes 658 = .ok (.iload 7, 2) := by decide +kernel
theorem dL_notes_660 : decode cL_notes 660 = .ok (.ior, 1) := by decide +kernel
theorem dL_notes_661 : decode cL_notes 661 = .ok (.istore 4, 2) := by decide +kernel
theorem dL_notes_663 : decode cL_notes 663 = .ok (.aload_n 0, 1) := by decide +kernel
theorem dL_notes_664 : decode cL_notes 664 = .ok (.iload 6, 2) := by decide +kernel
theorem dL_notes_666 : decode cL_notes 666 = .ok (.invokevirtual 31, 3) := by decide +kernel
theorem dL_notes_669 : decode cL_notes 669 = .ok (.ifCond .lt 29, 3) := by decide +kernel
theorem dL_notes_672 : decode cL_notes 672 = .ok (.aload_n 0, 1) := by decide +kernel
theorem dL_notes_673 : decode cL_notes 673 = .ok (.iload 6, 2) := by decide +kernel
theorem dL_notes_675 : decode cL_notes 675 = .ok (.invokevirtual 31, 3) := by decide +kernel
theorem dL_notes_678 : decode cL_notes 678 = .ok (.bipush 26, 2) := by decide +kernel
theorem dL_notes_680 : decode cL_notes 680 = .ok (.if_icmp .ge 18, 3) := by decide +kernel
theorem dL_notes_683 : decode cL_notes 683 = .ok (.iload 7, 2) := by decide +kernel
theorem dL_notes_685 : decode cL_notes 685 = .ok (.aload_n 0, 1) := by decide +kernel
theorem dL_notes_686 : decode cL_notes 686 = .ok (.iconst 1, 1) := by decide +kernel
theorem dL_notes_687 : decode cL_notes 687 = .ok (.invokevirtual 9, 3) := by decide +kernel
theorem dL_notes_690 : decode cL_notes 690 = .ok (.ishr, 1) := by decide +kernel
theorem dL_notes_691 : decode cL_notes 691 = .ok (.ifCond .ne 7, 3) := by decide +kernel
theorem dL_notes_694 : decode cL_notes 694 = .ok (.iconst 1, 1) := by decide +kernel
theorem dL_notes_695 : decode cL_notes 695 = .ok (.goto 4, 3) := by decide +kernel
theorem dL_notes_698 : decode cL_notes 698 = .ok (.iconst 0, 1) := by decide +kernel
theorem dL_notes_699 : decode cL_notes 699 = .ok (.istore 5, 2) := by decide +kernel
theorem dL_notes_701 : decode cL_notes 701 = .ok (.iinc 6 1, 3) := by decide +kernel
theorem dL_notes_704 : decode cL_notes 704 = .ok (.goto (-71), 3) := by decide +kernel
theorem dL_notes_707 : decode cL_notes 707 = .ok (.iconst 0, 1) := by decide +kernel
theorem dL_notes_708 : decode cL_notes 708 = .ok (.istore 6, 2) := by decide +kernel
theorem dL_notes_710 : decode cL_notes 710 = .ok (.iload 6, 2) := by decide +kernel
theorem dL_notes_712 : decode cL_notes 712 = .ok (.aload_n 0, 1) := by decide +kernel
theorem dL_notes_713 : decode cL_notes 713 = .ok (.iconst 1, 1) := by decide +kernel
theorem dL_notes_714 : decode cL_notes 714 = .ok (.invokevirtual 9, 3) := by decide +kernel
theorem dL_notes_717 : decode cL_notes 717 = .ok (.if_icmp .ge 46, 3) := by decide +kernel
theorem dL_notes_720 : decode cL_notes 720 = .ok (.iload 5, 2) := by decide +kernel
theorem dL_notes_722 : decode cL_notes 722 = .ok (.ifCond .eq 41, 3) := by decide +kernel
theorem dL_notes_725 : decode cL_notes 725 = .ok (.iload 4, 2) := by decide +kernel
theorem dL_notes_727 : decode cL_notes 727 = .ok (.iload 6, 2) := by decide +kernel
theorem dL_notes_729 : decode cL_notes 729 = .ok (.ishr, 1) := by decide +kernel
theorem dL_notes_730 : decode cL_notes 730 = .ok (.iconst 1, 1) := by decide +kernel
theorem dL_notes_731 : decode cL_notes 731 = .ok (.iand, 1) := by decide +kernel
theorem dL_notes_732 : decode cL_notes 732 = .ok (.aload_n 0, 1) := by decide +kernel
theorem dL_notes_733 : decode cL_notes 733 = .ok (.iload 6, 2) := by decide +kernel
theorem dL_notes_735 : decode cL_notes 735 = .ok (.iconst 0, 1) := by decide +kernel
theorem dL_notes_736 : decode cL_notes 736 = .ok (.invokevirtual 15, 3) := by decide +kernel
theorem dL_notes_739 : decode cL_notes 739 = .ok (.ifCond .ne 7, 3) := by decide +kernel
theorem dL_notes_742 : decode cL_notes 742 = .ok (.iconst 1, 1) := by decide +kernel
theorem dL_notes_743 : decode cL_notes 743 = .ok (.goto 4, 3) := by decide +kernel
theorem dL_notes_746 : decode cL_notes 746 = .ok (.iconst 0, 1) := by decide +kernel
theorem dL_notes_747 : decode cL_notes 747 = .ok (.if_icmp .ne 7, 3) := by decide +kernel
theorem dL_notes_750 : decode cL_notes 750 = .ok (.iconst 1, 1) := by decide +kernel
theorem dL_notes_751 : decode cL_notes 751 = .ok (.goto 4, 3) := by decide +kernel
theorem dL_notes_754 : decode cL_notes 754 = .ok (.iconst 0, 1) := by decide +kernel
theorem dL_notes_755 : decode cL_notes 755 = .ok (.istore 5, 2) := by decide +kernel
theorem dL_notes_757 : decode cL_notes 757 = .ok (.iinc 6 1, 3) := by decide +kernel
theorem dL_notes_760 : decode cL_notes 760 = .ok (.goto (-50), 3) := by decide +kernel
theorem dL_notes_763 : decode cL_notes 763 = .ok (.iload 5, 2) := by decide +kernel
theorem dL_notes_765 : decode cL_notes 765 = .ok (.ifCond .eq 47, 3) := by decide +kernel
theorem dL_notes_768 : decode cL_notes 768 = .ok (.iload_n 1, 1) := by decide +kernel
theorem dL_notes_769 : decode cL_notes 769 = .ok (.aload_n 0, 1) := by decide +kernel
theorem dL_notes_770 : decode cL_notes 770 = .ok (.iconst 2, 1) := by decide +kernel
theorem dL_notes_771 : decode cL_notes 771 = .ok (.invokevirtual 9, 3) := by decide +kernel
theorem dL_notes_774 : decode cL_notes 774 = .ok (.if_icmp .ne 38, 3) := by decide +kernel
theorem dL_notes_777 : decode cL_notes 777 = .ok (.iload_n 2, 1) := by decide +kernel
theorem dL_notes_778 : decode cL_notes 778 = .ok (.aload_n 0, 1) := by decide +kernel
theorem dL_notes_779 : decode cL_notes 779 = .ok (.iconst 3, 1) := by decide +kernel
theorem dL_notes_780 : decode cL_notes 780 = .ok (.invokevirtual 9, 3) := by decide +kernel
theorem dL_notes_783 : decode cL_notes 783 = .ok (.if_icmp .ne 29, 3) := by decide +kernel
theorem dL_notes_786 : decode cL_notes 786 = .ok (.iload_n 3, 1) := by decide +kernel
theorem dL_notes_787 : decode cL_notes 787 = .ok (.aload_n 0, 1) := by decide +kernel
theorem dL_notes_788 : decode cL_notes 788 = .ok (.iconst 4, 1) := by decide +kernel
theorem dL_notes_789 : decode cL_notes 789 = .ok (.invokevirtual 9, 3) := by decide +kernel
theorem dL_notes_792 : decode cL_notes 792 = .ok (.if_icmp .ne 20, 3) := by decide +kernel
theorem dL_notes_795 : decode cL_notes 795 = .ok (.aload_n 0, 1) := by decide +kernel
theorem dL_notes_796 : decode cL_notes 796 = .ok (.aload_n 0, 1) := by decide +kernel
theorem dL_notes_797 : decode cL_notes 797 = .ok (.iconst 0, 1) := by decide +kernel
theorem dL_notes_798 : decode cL_notes 798 = .ok (.invokevirtual 9, 3) := by decide +kernel
theorem dL_notes_801 : decode cL_notes 801 = .ok (.invokevirtual 31, 3) := by decide +kernel
theorem dL_notes_804 : decode cL_notes 804 = .ok (.iconst (-1), 1) := by decide +kernel
theorem dL_notes_805 : decode cL_notes 805 = .ok (.if_icmp .ne 7, 3) := by decide +kernel
theorem dL_notes_808 : decode cL_notes 808 = .ok (.iconst 1, 1) := by decide +kernel
theorem dL_notes_809 : decode cL_notes 809 = .ok (.goto 4, 3) := by decide +kernel
theorem dL_notes_812 : decode cL_notes 812 = .ok (.iconst 0, 1) := by decide +kernel
theorem dL_notes_813 : decode cL_notes 813 = .ok (.ireturn, 1) := by decide +kernel
