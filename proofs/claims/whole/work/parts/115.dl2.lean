theorem dl_560 : decode code 560 = .ok (.i2l, 1) := by decide +kernel
theorem dl_561 : decode code 561 = .ok (.bipush 32, 2) := by decide +kernel
theorem dl_563 : decode code 563 = .ok (.lshl, 1) := by decide +kernel
theorem dl_564 : decode code 564 = .ok (.aload_n 0, 1) := by decide +kernel
theorem dl_565 : decode code 565 = .ok (.iload 4, 2) := by decide +kernel
theorem dl_567 : decode code 567 = .ok (.iconst 2, 1) := by decide +kernel
theorem dl_568 : decode code 568 = .ok (.iadd, 1) := by decide +kernel
theorem dl_569 : decode code 569 = .ok (.iaload, 1) := by decide +kernel
theorem dl_570 : decode code 570 = .ok (.i2l, 1) := by decide +kernel
theorem dl_571 : decode code 571 = .ok (.ldc2_w 71, 3) := by decide +kernel
theorem dl_574 : decode code 574 = .ok (.land, 1) := by decide +kernel
theorem dl_575 : decode code 575 = .ok (.lor, 1) := by decide +kernel
theorem dl_576 : decode code 576 = .ok (.aload_n 0, 1) := by decide +kernel
theorem dl_577 : decode code 577 = .ok (.iload 4, 2) := by decide +kernel
theorem dl_579 : decode code 579 = .ok (.iconst 3, 1) := by decide +kernel
theorem dl_580 : decode code 580 = .ok (.iadd, 1) := by decide +kernel
theorem dl_581 : decode code 581 = .ok (.iaload, 1) := by decide +kernel
theorem dl_582 : decode code 582 = .ok (.i2l, 1) := by decide +kernel
theorem dl_583 : decode code 583 = .ok (.bipush 32, 2) := by decide +kernel
theorem dl_585 : decode code 585 = .ok (.lshl, 1) := by decide +kernel
theorem dl_586 : decode code 586 = .ok (.aload_n 0, 1) := by decide +kernel
theorem dl_587 : decode code 587 = .ok (.iload 4, 2) := by decide +kernel
theorem dl_589 : decode code 589 = .ok (.iconst 4, 1) := by decide +kernel
theorem dl_590 : decode code 590 = .ok (.iadd, 1) := by decide +kernel
theorem dl_591 : decode code 591 = .ok (.iaload, 1) := by decide +kernel
theorem dl_592 : decode code 592 = .ok (.i2l, 1) := by decide +kernel
theorem dl_593 : decode code 593 = .ok (.ldc2_w 71, 3) := by decide +kernel
theorem dl_596 : decode code 596 = .ok (.land, 1) := by decide +kernel
theorem dl_597 : decode code 597 = .ok (.lor, 1) := by decide +kernel
theorem dl_598 : decode code 598 = .ok (.invokevirtual 93, 3) := by decide +kernel
theorem dl_601 : decode code 601 = .ok (.istore 6, 2) := by decide +kernel
theorem dl_603 : decode code 603 = .ok (.aload_n 2, 1) := by decide +kernel
theorem dl_604 : decode code 604 = .ok (.invokevirtual 79, 3) := by decide +kernel
theorem dl_607 : decode code 607 = .ok (.iload 5, 2) := by decide +kernel
theorem dl_609 : decode code 609 = .ok (.if_icmp .eq 5, 3) := by decide +kernel
theorem dl_612 : decode code 612 = .ok (.iconst 0, 1) := by decide +kernel
theorem dl_613 : decode code 613 = .ok (.ireturn, 1) := by decide +kernel
theorem dl_614 : decode code 614 = .ok (.iload 5, 2) := by decide +kernel
theorem dl_616 : decode code 616 = .ok (.ifCond .ne 15, 3) := by decide +kernel
theorem dl_619 : decode code 619 = .ok (.aload_n 3, 1) := by decide +kernel
theorem dl_620 : decode code 620 = .ok (.iconst 0, 1) := by decide +kernel
theorem dl_621 : decode code 621 = .ok (.laload, 1) := by decide +kernel
theorem dl_622 : decode code 622 = .ok (.iload 6, 2) := by decide +kernel
theorem dl_624 : decode code 624 = .ok (.i2l, 1) := by decide +kernel
theorem dl_625 : decode code 625 = .ok (.lcmp, 1) := by decide +kernel
theorem dl_626 : decode code 626 = .ok (.ifCond .eq 5, 3) := by decide +kernel
theorem dl_629 : decode code 629 = .ok (.iconst 0, 1) := by decide +kernel
theorem dl_630 : decode code 630 = .ok (.ireturn, 1) := by decide +kernel
theorem dl_631 : decode code 631 = .ok (.goto 724, 3) := by decide +kernel
theorem dl_634 : decode code 634 = .ok (.aload_n 1, 1) := by decide +kernel
theorem dl_635 : decode code 635 = .ok (.aload_n 0, 1) := by decide +kernel
theorem dl_636 : decode code 636 = .ok (.iload 4, 2) := by decide +kernel
theorem dl_638 : decode code 638 = .ok (.iconst 1, 1) := by decide +kernel
theorem dl_639 : decode code 639 = .ok (.iadd, 1) := by decide +kernel
theorem dl_640 : decode code 640 = .ok (.iaload, 1) := by decide +kernel
theorem dl_641 : decode code 641 = .ok (.aload_n 0, 1) := by decide +kernel
theorem dl_642 : decode code 642 = .ok (.iload 4, 2) := by decide +kernel
theorem dl_644 : decode code 644 = .ok (.iconst 2, 1) := by decide +kernel
theorem dl_645 : decode code 645 = .ok (.iadd, 1) := by decide +kernel
theorem dl_646 : decode code 646 = .ok (.iaload, 1) := by decide +kernel
theorem dl_647 : decode code 647 = .ok (.aload_n 0, 1) := by decide +kernel
theorem dl_648 : decode code 648 = .ok (.iload 4, 2) := by decide +kernel
theorem dl_650 : decode code 650 = .ok (.iconst 3, 1) := by decide +kernel
theorem dl_651 : decode code 651 = .ok (.iadd, 1) := by decide +kernel
theorem dl_652 : decode code 652 = .ok (.iaload, 1) := by decide +kernel
theorem dl_653 : decode code 653 = .ok (.i2l, 1) := by decide +kernel
theorem dl_654 : decode code 654 = .ok (.bipush 32, 2) := by decide +kernel
theorem dl_656 : decode code 656 = .ok (.lshl, 1) := by decide +kernel
theorem dl_657 : decode code 657 = .ok (.aload_n 0, 1) := by decide +kernel
theorem dl_658 : decode code 658 = .ok (.iload 4, 2) := by decide +kernel
theorem dl_660 : decode code 660 = .ok (.iconst 4, 1) := by decide +kernel
theorem dl_661 : decode code 661 = .ok (.iadd, 1) := by decide +kernel
theorem dl_662 : decode code 662 = .ok (.iaload, 1) := by decide +kernel
theorem dl_663 : decode code 663 = .ok (.i2l, 1) := by decide +kernel
theorem dl_664 : decode code 664 = .ok (.ldc2_w 71, 3) := by decide +kernel
theorem dl_667 : decode code 667 = .ok (.land, 1) := by decide +kernel
theorem dl_668 : decode code 668 = .ok (.lor, 1) := by decide +kernel
theorem dl_669 : decode code 669 = .ok (.aload_n 3, 1) := by decide +kernel
theorem dl_670 : decode code 670 = .ok (.invokestatic 94, 3) := by decide +kernel
theorem dl_673 : decode code 673 = .ok (.istore 5, 2) := by decide +kernel
theorem dl_675 : decode code 675 = .ok (.aload_n 2, 1) := by decide +kernel
theorem dl_676 : decode code 676 = .ok (.aload_n 0, 1) := by decide +kernel
theorem dl_677 : decode code 677 = .ok (.iload 4, 2) := by decide +kernel
theorem dl_679 : decode code 679 = .ok (.iconst 1, 1) := by decide +kernel
theorem dl_680 : decode code 680 = .ok (.iadd, 1) := by decide +kernel
theorem dl_681 : decode code 681 = .ok (.iaload, 1) := by decide +kernel
theorem dl_682 : decode code 682 = .ok (.aload_n 0, 1) := by decide +kernel
theorem dl_683 : decode code 683 = .ok (.iload 4, 2) := by decide +kernel
theorem dl_685 : decode code 685 = .ok (.iconst 2, 1) := by decide +kernel
theorem dl_686 : decode code 686 = .ok (.iadd, 1) := by decide +kernel
theorem dl_687 : decode code 687 = .ok (.iaload, 1) := by decide +kernel
theorem dl_688 : decode code 688 = .ok (.aload_n 0, 1) := by decide +kernel
theorem dl_689 : decode code 689 = .ok (.iload 4, 2) := by decide +kernel
theorem dl_691 : decode code 691 = .ok (.iconst 3, 1) := by decide +kernel
theorem dl_692 : decode code 692 = .ok (.iadd, 1) := by decide +kernel
theorem dl_693 : decode code 693 = .ok (.iaload, 1) := by decide +kernel
theorem dl_694 : decode code 694 = .ok (.i2l, 1) := by decide +kernel
theorem dl_695 : decode code 695 = .ok (.bipush 32, 2) := by decide +kernel
theorem dl_697 : decode code 697 = .ok (.lshl, 1) := by decide +kernel
theorem dl_698 : decode code 698 = .ok (.aload_n 0, 1) := by decide +kernel
theorem dl_699 : decode code 699 = .ok (.iload 4, 2) := by decide +kernel
theorem dl_701 : decode code 701 = .ok (.iconst 4, 1) := by decide +kernel
theorem dl_702 : decode code 702 = .ok (.iadd, 1) := by decide +kernel
theorem dl_703 : decode code 703 = .ok (.iaload, 1) := by decide +kernel
theorem dl_704 : decode code 704 = .ok (.i2l, 1) := by decide +kernel
theorem dl_705 : decode code 705 = .ok (.ldc2_w 71, 3) := by decide +kernel
theorem dl_708 : decode code 708 = .ok (.land, 1) := by decide +kernel
theorem dl_709 : decode code 709 = .ok (.lor, 1) := by decide +kernel
theorem dl_710 : decode code 710 = .ok (.invokevirtual 97, 3) := by decide +kernel
theorem dl_713 : decode code 713 = .ok (.istore 6, 2) := by decide +kernel
theorem dl_715 : decode code 715 = .ok (.aload_n 2, 1) := by decide +kernel
theorem dl_716 : decode code 716 = .ok (.invokevirtual 79, 3) := by decide +kernel
theorem dl_719 : decode code 719 = .ok (.iload 5, 2) := by decide +kernel
theorem dl_721 : decode code 721 = .ok (.if_icmp .eq 5, 3) := by decide +kernel
theorem dl_724 : decode code 724 = .ok (.iconst 0, 1) := by decide +kernel
theorem dl_725 : decode code 725 = .ok (.ireturn, 1) := by decide +kernel
theorem dl_726 : decode code 726 = .ok (.iload 5, 2) := by decide +kernel
theorem dl_728 : decode code 728 = .ok (.ifCond .ne 15, 3) := by decide +kernel
theorem dl_731 : decode code 731 = .ok (.aload_n 3, 1) := by decide +kernel
theorem dl_732 : decode code 732 = .ok (.iconst 0, 1) := by decide +kernel
theorem dl_733 : decode code 733 = .ok (.laload, 1) := by decide +kernel
theorem dl_734 : decode code 734 = .ok (.iload 6, 2) := by decide +kernel
theorem dl_736 : decode code 736 = .ok (.i2l, 1) := by decide +kernel
theorem dl_737 : decode code 737 = .ok (.lcmp, 1) := by decide +kernel
theorem dl_738 : decode code 738 = .ok (.ifCond .eq 5, 3) := by decide +kernel
theorem dl_741 : decode code 741 = .ok (.iconst 0, 1) := by decide +kernel
theorem dl_742 : decode code 742 = .ok (.ireturn, 1) := by decide +kernel
theorem dl_743 : decode code 743 = .ok (.goto 612, 3) := by decide +kernel
theorem dl_746 : decode code 746 = .ok (.aload_n 1, 1) := by decide +kernel
theorem dl_747 : decode code 747 = .ok (.invokevirtual 98, 3) := by decide +kernel
theorem dl_750 : decode code 750 = .ok (.aload_n 2, 1) := by decide +kernel
theorem dl_751 : decode code 751 = .ok (.invokevirtual 101, 3) := by decide +kernel
theorem dl_754 : decode code 754 = .ok (.if_icmp .eq 601, 3) := by decide +kernel
theorem dl_757 : decode code 757 = .ok (.iconst 0, 1) := by decide +kernel
theorem dl_758 : decode code 758 = .ok (.ireturn, 1) := by decide +kernel
theorem dl_759 : decode code 759 = .ok (.aload_n 1, 1) := by decide +kernel
theorem dl_760 : decode code 760 = .ok (.aload_n 3, 1) := by decide +kernel
theorem dl_761 : decode code 761 = .ok (.invokestatic 102, 3) := by decide +kernel
theorem dl_764 : decode code 764 = .ok (.istore 5, 2) := by decide +kernel
theorem dl_766 : decode code 766 = .ok (.aload_n 2, 1) := by decide +kernel
theorem dl_767 : decode code 767 = .ok (.invokevirtual 105, 3) := by decide +kernel
theorem dl_770 : decode code 770 = .ok (.istore 6, 2) := by decide +kernel
theorem dl_772 : decode code 772 = .ok (.aload_n 2, 1) := by decide +kernel
theorem dl_773 : decode code 773 = .ok (.invokevirtual 79, 3) := by decide +kernel
theorem dl_776 : decode code 776 = .ok (.iload 5, 2) := by decide +kernel
theorem dl_778 : decode code 778 = .ok (.if_icmp .eq 5, 3) := by decide +kernel
theorem dl_781 : decode code 781 = .ok (.iconst 0, 1) := by decide +kernel
theorem dl_782 : decode code 782 = .ok (.ireturn, 1) := by decide +kernel
theorem dl_783 : decode code 783 = .ok (.iload 5, 2) := by decide +kernel
theorem dl_785 : decode code 785 = .ok (.ifCond .ne 15, 3) := by decide +kernel
theorem dl_788 : decode code 788 = .ok (.aload_n 3, 1) := by decide +kernel
theorem dl_789 : decode code 789 = .ok (.iconst 0, 1) := by decide +kernel
theorem dl_790 : decode code 790 = .ok (.laload, 1) := by decide +kernel
theorem dl_791 : decode code 791 = .ok (.iload 6, 2) := by decide +kernel
theorem dl_793 : decode code 793 = .ok (.i2l, 1) := by decide +kernel
theorem dl_794 : decode code 794 = .ok (.lcmp, 1) := by decide +kernel
theorem dl_795 : decode code 795 = .ok (.ifCond .eq 5, 3) := by decide +kernel
theorem dl_798 : decode code 798 = .ok (.iconst 0, 1) := by decide +kernel
theorem dl_799 : decode code 799 = .ok (.ireturn, 1) := by decide +kernel
theorem dl_800 : decode code 800 = .ok (.goto 555, 3) := by decide +kernel
