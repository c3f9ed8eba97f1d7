theorem d_Law_539 : decode code 539 = .ok (.if_icmp .eq 5, 3) := by decide +kernel
theorem d_Law_542 : decode code 542 = .ok (.iconst 0, 1) := by decide +kernel
theorem d_Law_543 : decode code 543 = .ok (.ireturn, 1) := by decide +kernel
theorem d_Law_544 : decode code 544 = .ok (.iload 5, 2) := by decide +kernel
theorem d_Law_546 : decode code 546 = .ok (.ifCond .ne 15, 3) := by decide +kernel
theorem d_Law_549 : decode code 549 = .ok (.aload_n 3, 1) := by decide +kernel
theorem d_Law_550 : decode code 550 = .ok (.iconst 0, 1) := by decide +kernel
theorem d_Law_551 : decode code 551 = .ok (.laload, 1) := by decide +kernel
theorem d_Law_552 : decode code 552 = .ok (.iload 6, 2) := by decide +kernel
theorem d_Law_554 : decode code 554 = .ok (.i2l, 1) := by decide +kernel
theorem d_Law_555 : decode code 555 = .ok (.lcmp, 1) := by decide +kernel
theorem d_Law_556 : decode code 556 = .ok (.ifCond .eq 5, 3) := by decide +kernel
theorem d_Law_559 : decode code 559 = .ok (.iconst 0, 1) := by decide +kernel
theorem d_Law_560 : decode code 560 = .ok (.ireturn, 1) := by decide +kernel
theorem d_Law_561 : decode code 561 = .ok (.goto 876, 3) := by decide +kernel
theorem d_Law_564 : decode code 564 = .ok (.aload_n 1, 1) := by decide +kernel
theorem d_Law_565 : decode code 565 = .ok (.aload_n 0, 1) := by decide +kernel
theorem d_Law_566 : decode code 566 = .ok (.iload 4, 2) := by decide +kernel
theorem d_Law_568 : decode code 568 = .ok (.iconst 1, 1) := by decide +kernel
theorem d_Law_569 : decode code 569 = .ok (.iadd, 1) := by decide +kernel
theorem d_Law_570 : decode code 570 = .ok (.iaload, 1) := by decide +kernel
theorem d_Law_571 : decode code 571 = .ok (.aload_n 0, 1) := by decide +kernel
theorem d_Law_572 : decode code 572 = .ok (.iload 4, 2) := by decide +kernel
theorem d_Law_574 : decode code 574 = .ok (.iconst 2, 1) := by decide +kernel
theorem d_Law_575 : decode code 575 = .ok (.iadd, 1) := by decide +kernel
theorem d_Law_576 : decode code 576 = .ok (.iaload, 1) := by decide +kernel
theorem d_Law_577 : decode code 577 = .ok (.invokestatic 122, 3) := by decide +kernel
theorem d_Law_580 : decode code 580 = .ok (.istore 5, 2) := by decide +kernel
theorem d_Law_582 : decode code 582 = .ok (.aload_n 2, 1) := by decide +kernel
theorem d_Law_583 : decode code 583 = .ok (.aload_n 0, 1) := by decide +kernel
theorem d_Law_584 : decode code 584 = .ok (.iload 4, 2) := by decide +kernel
theorem d_Law_586 : decode code 586 = .ok (.iconst 1, 1) := by decide +kernel
theorem d_Law_587 : decode code 587 = .ok (.iadd, 1) := by decide +kernel
theorem d_Law_588 : decode code 588 = .ok (.iaload, 1) := by decide +kernel
theorem d_Law_589 : decode code 589 = .ok (.aload_n 0, 1) := by decide +kernel
theorem d_Law_590 : decode code 590 = .ok (.iload 4, 2) := by decide +kernel
theorem d_Law_592 : decode code 592 = .ok (.iconst 2, 1) := by decide +kernel
theorem d_Law_593 : decode code 593 = .ok (.iadd, 1) := by decide +kernel
theorem d_Law_594 : decode code 594 = .ok (.iaload, 1) := by decide +kernel
theorem d_Law_595 : decode code 595 = .ok (.invokevirtual 124, 3) := by decide +kernel
theorem d_Law_598 : decode code 598 = .ok (.aload_n 2, 1) := by decide +kernel
theorem d_Law_599 : decode code 599 = .ok (.invokevirtual 96, 3) := by decide +kernel
theorem d_Law_602 : decode code 602 = .ok (.iload 5, 2) := by decide +kernel
theorem d_Law_604 : decode code 604 = .ok (.if_icmp .eq 5, 3) := by decide +kernel
theorem d_Law_607 : decode code 607 = .ok (.iconst 0, 1) := by decide +kernel
theorem d_Law_608 : decode code 608 = .ok (.ireturn, 1) := by decide +kernel
theorem d_Law_609 : decode code 609 = .ok (.goto 828, 3) := by decide +kernel
theorem d_Law_612 : decode code 612 = .ok (.aload_n 1, 1) := by decide +kernel
theorem d_Law_613 : decode code 613 = .ok (.aload_n 0, 1) := by decide +kernel
theorem d_Law_614 : decode code 614 = .ok (.iload 4, 2) := by decide +kernel
theorem d_Law_616 : decode code 616 = .ok (.iconst 1, 1) := by decide +kernel
theorem d_Law_617 : decode code 617 = .ok (.iadd, 1) := by decide +kernel
theorem d_Law_618 : decode code 618 = .ok (.iaload, 1) := by decide +kernel
theorem d_Law_619 : decode code 619 = .ok (.aload_n 0, 1) := by decide +kernel
theorem d_Law_620 : decode code 620 = .ok (.iload 4, 2) := by decide +kernel
theorem d_Law_622 : decode code 622 = .ok (.iconst 2, 1) := by decide +kernel
theorem d_Law_623 : decode code 623 = .ok (.iadd, 1) := by decide +kernel
theorem d_Law_624 : decode code 624 = .ok (.iaload, 1) := by decide +kernel
theorem d_Law_625 : decode code 625 = .ok (.aload_n 3, 1) := by decide +kernel
theorem d_Law_626 : decode code 626 = .ok (.invokestatic 125, 3) := by decide +kernel
theorem d_Law_629 : decode code 629 = .ok (.istore 5, 2) := by decide +kernel
theorem d_Law_631 : decode code 631 = .ok (.aload_n 2, 1) := by decide +kernel
theorem d_Law_632 : decode code 632 = .ok (.aload_n 0, 1) := by decide +kernel
theorem d_Law_633 : decode code 633 = .ok (.iload 4, 2) := by decide +kernel
theorem d_Law_635 : decode code 635 = .ok (.iconst 1, 1) := by decide +kernel
theorem d_Law_636 : decode code 636 = .ok (.iadd, 1) := by decide +kernel
theorem d_Law_637 : decode code 637 = .ok (.iaload, 1) := by decide +kernel
theorem d_Law_638 : decode code 638 = .ok (.aload_n 0, 1) := by decide +kernel
theorem d_Law_639 : decode code 639 = .ok (.iload 4, 2) := by decide +kernel
theorem d_Law_641 : decode code 641 = .ok (.iconst 2, 1) := by decide +kernel
theorem d_Law_642 : decode code 642 = .ok (.iadd, 1) := by decide +kernel
theorem d_Law_643 : decode code 643 = .ok (.iaload, 1) := by decide +kernel
theorem d_Law_644 : decode code 644 = .ok (.invokevirtual 128, 3) := by decide +kernel
theorem d_Law_647 : decode code 647 = .ok (.istore 6, 2) := by decide +kernel
theorem d_Law_649 : decode code 649 = .ok (.aload_n 2, 1) := by decide +kernel
theorem d_Law_650 : decode code 650 = .ok (.invokevirtual 96, 3) := by decide +kernel
theorem d_Law_653 : decode code 653 = .ok (.iload 5, 2) := by decide +kernel
theorem d_Law_655 : decode code 655 = .ok (.if_icmp .eq 5, 3) := by decide +kernel
theorem d_Law_658 : decode code 658 = .ok (.iconst 0, 1) := by decide +kernel
theorem d_Law_659 : decode code 659 = .ok (.ireturn, 1) := by decide +kernel
theorem d_Law_660 : decode code 660 = .ok (.iload 5, 2) := by decide +kernel
theorem d_Law_662 : decode code 662 = .ok (.ifCond .ne 15, 3) := by decide +kernel
theorem d_Law_665 : decode code 665 = .ok (.aload_n 3, 1) := by decide +kernel
theorem d_Law_666 : decode code 666 = .ok (.iconst 0, 1) := by decide +kernel
theorem d_Law_667 : decode code 667 = .ok (.laload, 1) := by decide +kernel
theorem d_Law_668 : decode code 668 = .ok (.iload 6, 2) := by decide +kernel
theorem d_Law_670 : decode code 670 = .ok (.i2l, 1) := by decide +kernel
theorem d_Law_671 : decode code 671 = .ok (.lcmp, 1) := by decide +kernel
theorem d_Law_672 : decode code 672 = .ok (.ifCond .eq 5, 3) := by decide +kernel
theorem d_Law_675 : decode code 675 = .ok (.iconst 0, 1) := by decide +kernel
theorem d_Law_676 : decode code 676 = .ok (.ireturn, 1) := by decide +kernel
theorem d_Law_677 : decode code 677 = .ok (.goto 760, 3) := by decide +kernel
theorem d_Law_680 : decode code 680 = .ok (.aload_n 1, 1) := by decide +kernel
theorem d_Law_681 : decode code 681 = .ok (.aload_n 0, 1) := by decide +kernel
theorem d_Law_682 : decode code 682 = .ok (.iload 4, 2) := by decide +kernel
theorem d_Law_684 : decode code 684 = .ok (.iconst 1, 1) := by decide +kernel
theorem d_Law_685 : decode code 685 = .ok (.iadd, 1) := by decide +kernel
theorem d_Law_686 : decode code 686 = .ok (.iaload, 1) := by decide +kernel
theorem d_Law_687 : decode code 687 = .ok (.aload_n 0, 1) := by decide +kernel
theorem d_Law_688 : decode code 688 = .ok (.iload 4, 2) := by decide +kernel
theorem d_Law_690 : decode code 690 = .ok (.iconst 2, 1) := by decide +kernel
theorem d_Law_691 : decode code 691 = .ok (.iadd, 1) := by decide +kernel
theorem d_Law_692 : decode code 692 = .ok (.iaload, 1) := by decide +kernel
theorem d_Law_693 : decode code 693 = .ok (.aload_n 3, 1) := by decide +kernel
theorem d_Law_694 : decode code 694 = .ok (.invokestatic 129, 3) := by decide +kernel
theorem d_Law_697 : decode code 697 = .ok (.istore 5, 2) := by decide +kernel
theorem d_Law_699 : decode code 699 = .ok (.aload_n 2, 1) := by decide +kernel
theorem d_Law_700 : decode code 700 = .ok (.aload_n 0, 1) := by decide +kernel
theorem d_Law_701 : decode code 701 = .ok (.iload 4, 2) := by decide +kernel
theorem d_Law_703 : decode code 703 = .ok (.iconst 1, 1) := by decide +kernel
theorem d_Law_704 : decode code 704 = .ok (.iadd, 1) := by decide +kernel
theorem d_Law_705 : decode code 705 = .ok (.iaload, 1) := by decide +kernel
theorem d_Law_706 : decode code 706 = .ok (.aload_n 0, 1) := by decide +kernel
theorem d_Law_707 : decode code 707 = .ok (.iload 4, 2) := by decide +kernel
theorem d_Law_709 : decode code 709 = .ok (.iconst 2, 1) := by decide +kernel
theorem d_Law_710 : decode code 710 = .ok (.iadd, 1) := by decide +kernel
theorem d_Law_711 : decode code 711 = .ok (.iaload, 1) := by decide +kernel
theorem d_Law_712 : decode code 712 = .ok (.invokevirtual 131, 3) := by decide +kernel
theorem d_Law_715 : decode code 715 = .ok (.istore 6, 2) := by decide +kernel
theorem d_Law_717 : decode code 717 = .ok (.aload_n 2, 1) := by decide +kernel
theorem d_Law_718 : decode code 718 = .ok (.invokevirtual 96, 3) := by decide +kernel
theorem d_Law_721 : decode code 721 = .ok (.iload 5, 2) := by decide +kernel
theorem d_Law_723 : decode code 723 = .ok (.if_icmp .eq 5, 3) := by decide +kernel
theorem d_Law_726 : decode code 726 = .ok (.iconst 0, 1) := by decide +kernel
theorem d_Law_727 : decode code 727 = .ok (.ireturn, 1) := by decide +kernel
theorem d_Law_728 : decode code 728 = .ok (.iload 5, 2) := by decide +kernel
theorem d_Law_730 : decode code 730 = .ok (.ifCond .ne 15, 3) := by decide +kernel
theorem d_Law_733 : decode code 733 = .ok (.aload_n 3, 1) := by decide +kernel
theorem d_Law_734 : decode code 734 = .ok (.iconst 0, 1) := by decide +kernel
theorem d_Law_735 : decode code 735 = .ok (.laload, 1) := by decide +kernel
theorem d_Law_736 : decode code 736 = .ok (.iload 6, 2) := by decide +kernel
theorem d_Law_738 : decode code 738 = .ok (.i2l, 1) := by decide +kernel
theorem d_Law_739 : decode code 739 = .ok (.lcmp, 1) := by decide +kernel
theorem d_Law_740 : decode code 740 = .ok (.ifCond .eq 5, 3) := by decide +kernel
theorem d_Law_743 : decode code 743 = .ok (.iconst 0, 1) := by decide +kernel
theorem d_Law_744 : decode code 744 = .ok (.ireturn, 1) := by decide +kernel
theorem d_Law_745 : decode code 745 = .ok (.goto 692, 3) := by decide +kernel
theorem d_Law_748 : decode code 748 = .ok (.aload_n 1, 1) := by decide +kernel
theorem d_Law_749 : decode code 749 = .ok (.aload_n 0, 1) := by decide +kernel
theorem d_Law_750 : decode code 750 = .ok (.iload 4, 2) := by decide +kernel
theorem d_Law_752 : decode code 752 = .ok (.iconst 1, 1) := by decide +kernel
theorem d_Law_753 : decode code 753 = .ok (.iadd, 1) := by decide +kernel
theorem d_Law_754 : decode code 754 = .ok (.iaload, 1) := by decide +kernel
theorem d_Law_755 : decode code 755 = .ok (.aload_n 0, 1) := by decide +kernel
theorem d_Law_756 : decode code 756 = .ok (.iload 4, 2) := by decide +kernel
theorem d_Law_758 : decode code 758 = .ok (.iconst 2, 1) := by decide +kernel
theorem d_Law_759 : decode code 759 = .ok (.iadd, 1) := by decide +kernel
theorem d_Law_760 : decode code 760 = .ok (.iaload, 1) := by decide +kernel
theorem d_Law_761 : decode code 761 = .ok (.aload_n 3, 1) := by decide +kernel
theorem d_Law_762 : decode code 762 = .ok (.invokestatic 132, 3) := by decide +kernel
