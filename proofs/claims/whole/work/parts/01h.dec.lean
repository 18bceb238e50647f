theorem dn_d_Law_law_600 : decode dn_c_Law_law 600 = .ok (.lcmp, 1) := by decide +kernel
theorem dn_d_Law_law_601 : decode dn_c_Law_law 601 = .ok (.ifCond .eq 5, 3) := by decide +kernel
theorem dn_d_Law_law_604 : decode dn_c_Law_law 604 = .ok (.iconst 0, 1) := by decide +kernel
theorem dn_d_Law_law_605 : decode dn_c_Law_law 605 = .ok (.ireturn, 1) := by decide +kernel
theorem dn_d_Law_law_606 : decode dn_c_Law_law 606 = .ok (.goto 1172, 3) := by decide +kernel
theorem dn_d_Law_law_609 : decode dn_c_Law_law 609 = .ok (.aload_n 1, 1) := by decide +kernel
theorem dn_d_Law_law_610 : decode dn_c_Law_law 610 = .ok (.aload_n 0, 1) := by decide +kernel
theorem dn_d_Law_law_611 : decode dn_c_Law_law 611 = .ok (.iload 4, 2) := by decide +kernel
theorem dn_d_Law_law_613 : decode dn_c_Law_law 613 = .ok (.iconst 1, 1) := by decide +kernel
theorem dn_d_Law_law_614 : decode dn_c_Law_law 614 = .ok (.iadd, 1) := by decide +kernel
theorem dn_d_Law_law_615 : decode dn_c_Law_law 615 = .ok (.iaload, 1) := by decide +kernel
theorem dn_d_Law_law_616 : decode dn_c_Law_law 616 = .ok (.aload_n 0, 1) := by decide +kernel
theorem dn_d_Law_law_617 : decode dn_c_Law_law 617 = .ok (.iload 4, 2) := by decide +kernel
theorem dn_d_Law_law_619 : decode dn_c_Law_law 619 = .ok (.iconst 2, 1) := by decide +kernel
theorem dn_d_Law_law_620 : decode dn_c_Law_law 620 = .ok (.iadd, 1) := by decide +kernel
theorem dn_d_Law_law_621 : decode dn_c_Law_law 621 = .ok (.iaload, 1) := by decide +kernel
theorem dn_d_Law_law_622 : decode dn_c_Law_law 622 = .ok (.invokevirtual 94, 3) := by decide +kernel
theorem dn_d_Law_law_625 : decode dn_c_Law_law 625 = .ok (.aload_n 2, 1) := by decide +kernel
theorem dn_d_Law_law_626 : decode dn_c_Law_law 626 = .ok (.aload_n 0, 1) := by decide +kernel
theorem dn_d_Law_law_627 : decode dn_c_Law_law 627 = .ok (.iload 4, 2) := by decide +kernel
theorem dn_d_Law_law_629 : decode dn_c_Law_law 629 = .ok (.iconst 1, 1) := by decide +kernel
theorem dn_d_Law_law_630 : decode dn_c_Law_law 630 = .ok (.iadd, 1) := by decide +kernel
theorem dn_d_Law_law_631 : decode dn_c_Law_law 631 = .ok (.iaload, 1) := by decide +kernel
theorem dn_d_Law_law_632 : decode dn_c_Law_law 632 = .ok (.aload_n 0, 1) := by decide +kernel
theorem dn_d_Law_law_633 : decode dn_c_Law_law 633 = .ok (.iload 4, 2) := by decide +kernel
theorem dn_d_Law_law_635 : decode dn_c_Law_law 635 = .ok (.iconst 2, 1) := by decide +kernel
theorem dn_d_Law_law_636 : decode dn_c_Law_law 636 = .ok (.iadd, 1) := by decide +kernel
theorem dn_d_Law_law_637 : decode dn_c_Law_law 637 = .ok (.iaload, 1) := by decide +kernel
theorem dn_d_Law_law_638 : decode dn_c_Law_law 638 = .ok (.invokevirtual 98, 3) := by decide +kernel
theorem dn_d_Law_law_641 : decode dn_c_Law_law 641 = .ok (.if_icmp .eq 1137, 3) := by decide +kernel
theorem dn_d_Law_law_644 : decode dn_c_Law_law 644 = .ok (.iconst 0, 1) := by decide +kernel
theorem dn_d_Law_law_645 : decode dn_c_Law_law 645 = .ok (.ireturn, 1) := by decide +kernel
theorem dn_d_Law_law_646 : decode dn_c_Law_law 646 = .ok (.aload_n 1, 1) := by decide +kernel
theorem dn_d_Law_law_647 : decode dn_c_Law_law 647 = .ok (.aload_n 0, 1) := by decide +kernel
theorem dn_d_Law_law_648 : decode dn_c_Law_law 648 = .ok (.iload 4, 2) := by decide +kernel
theorem dn_d_Law_law_650 : decode dn_c_Law_law 650 = .ok (.iconst 1, 1) := by decide +kernel
theorem dn_d_Law_law_651 : decode dn_c_Law_law 651 = .ok (.iadd, 1) := by decide +kernel
theorem dn_d_Law_law_652 : decode dn_c_Law_law 652 = .ok (.iaload, 1) := by decide +kernel
theorem dn_d_Law_law_653 : decode dn_c_Law_law 653 = .ok (.i2l, 1) := by decide +kernel
theorem dn_d_Law_law_654 : decode dn_c_Law_law 654 = .ok (.bipush 32, 2) := by decide +kernel
theorem dn_d_Law_law_656 : decode dn_c_Law_law 656 = .ok (.lshl, 1) := by decide +kernel
theorem dn_d_Law_law_657 : decode dn_c_Law_law 657 = .ok (.aload_n 0, 1) := by decide +kernel
theorem dn_d_Law_law_658 : decode dn_c_Law_law 658 = .ok (.iload 4, 2) := by decide +kernel
theorem dn_d_Law_law_660 : decode dn_c_Law_law 660 = .ok (.iconst 2, 1) := by decide +kernel
theorem dn_d_Law_law_661 : decode dn_c_Law_law 661 = .ok (.iadd, 1) := by decide +kernel
theorem dn_d_Law_law_662 : decode dn_c_Law_law 662 = .ok (.iaload, 1) := by decide +kernel
theorem dn_d_Law_law_663 : decode dn_c_Law_law 663 = .ok (.i2l, 1) := by decide +kernel
theorem dn_d_Law_law_664 : decode dn_c_Law_law 664 = .ok (.ldc2_w 67, 3) := by decide +kernel
theorem dn_d_Law_law_667 : decode dn_c_Law_law 667 = .ok (.land, 1) := by decide +kernel
theorem dn_d_Law_law_668 : decode dn_c_Law_law 668 = .ok (.lor, 1) := by decide +kernel
theorem dn_d_Law_law_669 : decode dn_c_Law_law 669 = .ok (.aload_n 0, 1) := by decide +kernel
theorem dn_d_Law_law_670 : decode dn_c_Law_law 670 = .ok (.iload 4, 2) := by decide +kernel
theorem dn_d_Law_law_672 : decode dn_c_Law_law 672 = .ok (.iconst 3, 1) := by decide +kernel
theorem dn_d_Law_law_673 : decode dn_c_Law_law 673 = .ok (.iadd, 1) := by decide +kernel
theorem dn_d_Law_law_674 : decode dn_c_Law_law 674 = .ok (.iaload, 1) := by decide +kernel
theorem dn_d_Law_law_675 : decode dn_c_Law_law 675 = .ok (.aload_n 0, 1) := by decide +kernel
theorem dn_d_Law_law_676 : decode dn_c_Law_law 676 = .ok (.iload 4, 2) := by decide +kernel
theorem dn_d_Law_law_678 : decode dn_c_Law_law 678 = .ok (.iconst 4, 1) := by decide +kernel
theorem dn_d_Law_law_679 : decode dn_c_Law_law 679 = .ok (.iadd, 1) := by decide +kernel
theorem dn_d_Law_law_680 : decode dn_c_Law_law 680 = .ok (.iaload, 1) := by decide +kernel
theorem dn_d_Law_law_681 : decode dn_c_Law_law 681 = .ok (.aload_n 3, 1) := by decide +kernel
theorem dn_d_Law_law_682 : decode dn_c_Law_law 682 = .ok (.invokestatic 99, 3) := by decide +kernel
theorem dn_d_Law_law_685 : decode dn_c_Law_law 685 = .ok (.istore 5, 2) := by decide +kernel
theorem dn_d_Law_law_687 : decode dn_c_Law_law 687 = .ok (.aload_n 2, 1) := by decide +kernel
theorem dn_d_Law_law_688 : decode dn_c_Law_law 688 = .ok (.aload_n 0, 1) := by decide +kernel
theorem dn_d_Law_law_689 : decode dn_c_Law_law 689 = .ok (.iload 4, 2) := by decide +kernel
theorem dn_d_Law_law_691 : decode dn_c_Law_law 691 = .ok (.iconst 1, 1) := by decide +kernel
theorem dn_d_Law_law_692 : decode dn_c_Law_law 692 = .ok (.iadd, 1) := by decide +kernel
theorem dn_d_Law_law_693 : decode dn_c_Law_law 693 = .ok (.iaload, 1) := by decide +kernel
theorem dn_d_Law_law_694 : decode dn_c_Law_law 694 = .ok (.i2l, 1) := by decide +kernel
theorem dn_d_Law_law_695 : decode dn_c_Law_law 695 = .ok (.bipush 32, 2) := by decide +kernel
theorem dn_d_Law_law_697 : decode dn_c_Law_law 697 = .ok (.lshl, 1) := by decide +kernel
theorem dn_d_Law_law_698 : decode dn_c_Law_law 698 = .ok (.aload_n 0, 1) := by decide +kernel
theorem dn_d_Law_law_699 : decode dn_c_Law_law 699 = .ok (.iload 4, 2) := by decide +kernel
theorem dn_d_Law_law_701 : decode dn_c_Law_law 701 = .ok (.iconst 2, 1) := by decide +kernel
theorem dn_d_Law_law_702 : decode dn_c_Law_law 702 = .ok (.iadd, 1) := by decide +kernel
theorem dn_d_Law_law_703 : decode dn_c_Law_law 703 = .ok (.iaload, 1) := by decide +kernel
theorem dn_d_Law_law_704 : decode dn_c_Law_law 704 = .ok (.i2l, 1) := by decide +kernel
theorem dn_d_Law_law_705 : decode dn_c_Law_law 705 = .ok (.ldc2_w 67, 3) := by decide +kernel
theorem dn_d_Law_law_708 : decode dn_c_Law_law 708 = .ok (.land, 1) := by decide +kernel
theorem dn_d_Law_law_709 : decode dn_c_Law_law 709 = .ok (.lor, 1) := by decide +kernel
theorem dn_d_Law_law_710 : decode dn_c_Law_law 710 = .ok (.aload_n 0, 1) := by decide +kernel
theorem dn_d_Law_law_711 : decode dn_c_Law_law 711 = .ok (.iload 4, 2) := by decide +kernel
theorem dn_d_Law_law_713 : decode dn_c_Law_law 713 = .ok (.iconst 3, 1) := by decide +kernel
theorem dn_d_Law_law_714 : decode dn_c_Law_law 714 = .ok (.iadd, 1) := by decide +kernel
theorem dn_d_Law_law_715 : decode dn_c_Law_law 715 = .ok (.iaload, 1) := by decide +kernel
theorem dn_d_Law_law_716 : decode dn_c_Law_law 716 = .ok (.aload_n 0, 1) := by decide +kernel
theorem dn_d_Law_law_717 : decode dn_c_Law_law 717 = .ok (.iload 4, 2) := by decide +kernel
theorem dn_d_Law_law_719 : decode dn_c_Law_law 719 = .ok (.iconst 4, 1) := by decide +kernel
theorem dn_d_Law_law_720 : decode dn_c_Law_law 720 = .ok (.iadd, 1) := by decide +kernel
theorem dn_d_Law_law_721 : decode dn_c_Law_law 721 = .ok (.iaload, 1) := by decide +kernel
theorem dn_d_Law_law_722 : decode dn_c_Law_law 722 = .ok (.invokevirtual 102, 3) := by decide +kernel
theorem dn_d_Law_law_725 : decode dn_c_Law_law 725 = .ok (.istore 6, 2) := by decide +kernel
theorem dn_d_Law_law_727 : decode dn_c_Law_law 727 = .ok (.aload_n 2, 1) := by decide +kernel
theorem dn_d_Law_law_728 : decode dn_c_Law_law 728 = .ok (.invokevirtual 82, 3) := by decide +kernel
theorem dn_d_Law_law_731 : decode dn_c_Law_law 731 = .ok (.iload 5, 2) := by decide +kernel
theorem dn_d_Law_law_733 : decode dn_c_Law_law 733 = .ok (.if_icmp .eq 5, 3) := by decide +kernel
theorem dn_d_Law_law_736 : decode dn_c_Law_law 736 = .ok (.iconst 0, 1) := by decide +kernel
theorem dn_d_Law_law_737 : decode dn_c_Law_law 737 = .ok (.ireturn, 1) := by decide +kernel
theorem dn_d_Law_law_738 : decode dn_c_Law_law 738 = .ok (.iload 5, 2) := by decide +kernel
theorem dn_d_Law_law_740 : decode dn_c_Law_law 740 = .ok (.ifCond .ne 15, 3) := by decide +kernel
theorem dn_d_Law_law_743 : decode dn_c_Law_law 743 = .ok (.aload_n 3, 1) := by decide +kernel
theorem dn_d_Law_law_744 : decode dn_c_Law_law 744 = .ok (.iconst 0, 1) := by decide +kernel
theorem dn_d_Law_law_745 : decode dn_c_Law_law 745 = .ok (.laload, 1) := by decide +kernel
theorem dn_d_Law_law_746 : decode dn_c_Law_law 746 = .ok (.iload 6, 2) := by decide +kernel
theorem dn_d_Law_law_748 : decode dn_c_Law_law 748 = .ok (.i2l, 1) := by decide +kernel
theorem dn_d_Law_law_749 : decode dn_c_Law_law 749 = .ok (.lcmp, 1) := by decide +kernel
theorem dn_d_Law_law_750 : decode dn_c_Law_law 750 = .ok (.ifCond .eq 5, 3) := by decide +kernel
theorem dn_d_Law_law_753 : decode dn_c_Law_law 753 = .ok (.iconst 0, 1) := by decide +kernel
theorem dn_d_Law_law_754 : decode dn_c_Law_law 754 = .ok (.ireturn, 1) := by decide +kernel
theorem dn_d_Law_law_755 : decode dn_c_Law_law 755 = .ok (.goto 1023, 3) := by decide +kernel
theorem dn_d_Law_law_758 : decode dn_c_Law_law 758 = .ok (.aload_n 1, 1) := by decide +kernel
theorem dn_d_Law_law_759 : decode dn_c_Law_law 759 = .ok (.aload_n 0, 1) := by decide +kernel
theorem dn_d_Law_law_760 : decode dn_c_Law_law 760 = .ok (.iload 4, 2) := by decide +kernel
theorem dn_d_Law_law_762 : decode dn_c_Law_law 762 = .ok (.iconst 1, 1) := by decide +kernel
theorem dn_d_Law_law_763 : decode dn_c_Law_law 763 = .ok (.iadd, 1) := by decide +kernel
theorem dn_d_Law_law_764 : decode dn_c_Law_law 764 = .ok (.iaload, 1) := by decide +kernel
theorem dn_d_Law_law_765 : decode dn_c_Law_law 765 = .ok (.i2l, 1) := by decide +kernel
theorem dn_d_Law_law_766 : decode dn_c_Law_law 766 = .ok (.bipush 32, 2) := by decide +kernel
theorem dn_d_Law_law_768 : decode dn_c_Law_law 768 = .ok (.lshl, 1) := by decide +kernel
theorem dn_d_Law_law_769 : decode dn_c_Law_law 769 = .ok (.aload_n 0, 1) := by decide +kernel
theorem dn_d_Law_law_770 : decode dn_c_Law_law 770 = .ok (.iload 4, 2) := by decide +kernel
theorem dn_d_Law_law_772 : decode dn_c_Law_law 772 = .ok (.iconst 2, 1) := by decide +kernel
theorem dn_d_Law_law_773 : decode dn_c_Law_law 773 = .ok (.iadd, 1) := by decide +kernel
theorem dn_d_Law_law_774 : decode dn_c_Law_law 774 = .ok (.iaload, 1) := by decide +kernel
theorem dn_d_Law_law_775 : decode dn_c_Law_law 775 = .ok (.i2l, 1) := by decide +kernel
theorem dn_d_Law_law_776 : decode dn_c_Law_law 776 = .ok (.ldc2_w 67, 3) := by decide +kernel
theorem dn_d_Law_law_779 : decode dn_c_Law_law 779 = .ok (.land, 1) := by decide +kernel
theorem dn_d_Law_law_780 : decode dn_c_Law_law 780 = .ok (.lor, 1) := by decide +kernel
theorem dn_d_Law_law_781 : decode dn_c_Law_law 781 = .ok (.aload_n 0, 1) := by decide +kernel
theorem dn_d_Law_law_782 : decode dn_c_Law_law 782 = .ok (.iload 4, 2) := by decide +kernel
theorem dn_d_Law_law_784 : decode dn_c_Law_law 784 = .ok (.iconst 3, 1) := by decide +kernel
theorem dn_d_Law_law_785 : decode dn_c_Law_law 785 = .ok (.iadd, 1) := by decide +kernel
theorem dn_d_Law_law_786 : decode dn_c_Law_law 786 = .ok (.iaload, 1) := by decide +kernel
theorem dn_d_Law_law_787 : decode dn_c_Law_law 787 = .ok (.i2l, 1) := by decide +kernel
theorem dn_d_Law_law_788 : decode dn_c_Law_law 788 = .ok (.bipush 32, 2) := by decide +kernel
theorem dn_d_Law_law_790 : decode dn_c_Law_law 790 = .ok (.lshl, 1) := by decide +kernel
theorem dn_d_Law_law_791 : decode dn_c_Law_law 791 = .ok (.aload_n 0, 1) := by decide +kernel
theorem dn_d_Law_law_792 : decode dn_c_Law_law 792 = .ok (.iload 4, 2) := by decide +kernel
theorem dn_d_Law_law_794 : decode dn_c_Law_law 794 = .ok (.iconst 4, 1) := by decide +kernel
theorem dn_d_Law_law_795 : decode dn_c_Law_law 795 = .ok (.iadd, 1) := by decide +kernel
theorem dn_d_Law_law_796 : decode dn_c_Law_law 796 = .ok (.iaload, 1) := by decide +kernel
theorem dn_d_Law_law_797 : decode dn_c_Law_law 797 = .ok (.i2l, 1) := by decide +kernel
theorem dn_d_Law_law_798 : decode dn_c_Law_law 798 = .ok (.ldc2_w 67, 3) := by decide +kernel
theorem dn_d_Law_law_801 : decode dn_c_Law_law 801 = .ok (.land, 1) := by decide +kernel
theorem dn_d_Law_law_802 : decode dn_c_Law_law 802 = .ok (.lor, 1) := by decide +kernel
theorem dn_d_Law_law_803 : decode dn_c_Law_law 803 = .ok (.aload_n 0, 1) := by decide +kernel
theorem dn_d_Law_law_804 : decode dn_c_Law_law 804 = .ok (.iload 4, 2) := by decide +kernel
theorem dn_d_Law_law_806 : decode dn_c_Law_law 806 = .ok (.iconst 5, 1) := by decide +kernel
theorem dn_d_Law_law_807 : decode dn_c_Law_law 807 = .ok (.iadd, 1) := by decide +kernel
theorem dn_d_Law_law_808 : decode dn_c_Law_law 808 = .ok (.iaload, 1) := by decide +kernel
theorem dn_d_Law_law_809 : decode dn_c_Law_law 809 = .ok (.i2l, 1) := by decide +kernel
theorem dn_d_Law_law_810 : decode dn_c_Law_law 810 = .ok (.bipush 32, 2) := by decide +kernel
theorem dn_d_Law_law_812 : decode dn_c_Law_law 812 = .ok (.lshl, 1) := by decide +kernel
theorem dn_d_Law_law_813 : decode dn_c_Law_law 813 = .ok (.aload_n 0, 1) := by decide +kernel
theorem dn_d_Law_law_814 : decode dn_c_Law_law 814 = .ok (.iload 4, 2) := by decide +kernel
theorem dn_d_Law_law_816 : decode dn_c_Law_law 816 = .ok (.bipush 6, 2) := by decide +kernel
theorem dn_d_Law_law_818 : decode dn_c_Law_law 818 = .ok (.iadd, 1) := by decide +kernel
theorem dn_d_Law_law_819 : decode dn_c_Law_law 819 = .ok (.iaload, 1) := by decide +kernel
theorem dn_d_Law_law_820 : decode dn_c_Law_law 820 = .ok (.i2l, 1) := by decide +kernel
theorem dn_d_Law_law_821 : decode dn_c_Law_law 821 = .ok (.ldc2_w 67, 3) := by decide +kernel
theorem dn_d_Law_law_824 : decode dn_c_Law_law 824 = .ok (.land, 1) := by decide +kernel
theorem dn_d_Law_law_825 : decode dn_c_Law_law 825 = .ok (.lor, 1) := by decide +kernel
theorem dn_d_Law_law_826 : decode dn_c_Law_law 826 = .ok (.aload_n 0, 1) := by decide +kernel
theorem dn_d_Law_law_827 : decode dn_c_Law_law 827 = .ok (.iload 4, 2) := by decide +kernel
theorem dn_d_Law_law_829 : decode dn_c_Law_law 829 = .ok (.bipush 7, 2) := by decide +kernel
theorem dn_d_Law_law_831 : decode dn_c_Law_law 831 = .ok (.iadd, 1) := by decide +kernel
theorem dn_d_Law_law_832 : decode dn_c_Law_law 832 = .ok (.iaload, 1) := by decide +kernel
theorem dn_d_Law_law_833 : decode dn_c_Law_law 833 = .ok (.i2l, 1) := by decide +kernel
theorem dn_d_Law_law_834 : decode dn_c_Law_law 834 = .ok (.bipush 32, 2) := by decide +kernel
theorem dn_d_Law_law_836 : decode dn_c_Law_law 836 = .ok (.lshl, 1) := by decide +kernel
theorem dn_d_Law_law_837 : decode dn_c_Law_law 837 = .ok (.aload_n 0, 1) := by decide +kernel
theorem dn_d_Law_law_838 : decode dn_c_Law_law 838 = .ok (.iload 4, 2) := by decide +kernel
theorem dn_d_Law_law_840 : decode dn_c_Law_law 840 = .ok (.bipush 8, 2) := by decide +kernel
theorem dn_d_Law_law_842 : decode dn_c_Law_law 842 = .ok (.iadd, 1) := by decide +kernel
theorem dn_d_Law_law_843 : decode dn_c_Law_law 843 = .ok (.iaload, 1) := by decide +kernel
theorem dn_d_Law_law_844 : decode dn_c_Law_law 844 = .ok (.i2l, 1) := by decide +kernel
theorem dn_d_Law_law_845 : decode dn_c_Law_law 845 = .ok (.ldc2_w 67, 3) := by decide +kernel
theorem dn_d_Law_law_848 : decode dn_c_Law_law 848 = .ok (.land, 1) := by decide +kernel
theorem dn_d_Law_law_849 : decode dn_c_Law_law 849 = .ok (.lor, 1) := by decide +kernel
theorem dn_d_Law_law_850 : decode dn_c_Law_law 850 = .ok (.invokevirtual 103, 3) := by decide +kernel
theorem dn_d_Law_law_853 : decode dn_c_Law_law 853 = .ok (.aload_n 2, 1) := by decide +kernel
theorem dn_d_Law_law_854 : decode dn_c_Law_law 854 = .ok (.aload_n 0, 1) := by decide +kernel
theorem dn_d_Law_law_855 : decode dn_c_Law_law 855 = .ok (.iload 4, 2) := by decide +kernel
theorem dn_d_Law_law_857 : decode dn_c_Law_law 857 = .ok (.iconst 1, 1) := by decide +kernel
theorem dn_d_Law_law_858 : decode dn_c_Law_law 858 = .ok (.iadd, 1) := by decide +kernel
theorem dn_d_Law_law_859 : decode dn_c_Law_law 859 = .ok (.iaload, 1) := by decide +kernel
theorem dn_d_Law_law_860 : decode dn_c_Law_law 860 = .ok (.i2l, 1) := by decide +kernel
theorem dn_d_Law_law_861 : decode dn_c_Law_law 861 = .ok (.bipush 32, 2) := by decide +kernel
theorem dn_d_Law_law_863 : decode dn_c_Law_law 863 = .ok (.lshl, 1) := by decide +kernel
theorem dn_d_Law_law_864 : decode dn_c_Law_law 864 = .ok (.aload_n 0, 1) := by decide +kernel
theorem dn_d_Law_law_865 : decode dn_c_Law_law 865 = .ok (.iload 4, 2) := by decide +kernel
theorem dn_d_Law_law_867 : decode dn_c_Law_law 867 = .ok (.iconst 2, 1) := by decide +kernel
theorem dn_d_Law_law_868 : decode dn_c_Law_law 868 = .ok (.iadd, 1) := by decide +kernel
theorem dn_d_Law_law_869 : decode dn_c_Law_law 869 = .ok (.iaload, 1) := by decide +kernel
theorem dn_d_Law_law_870 : decode dn_c_Law_law 870 = .ok (.i2l, 1) := by decide +kernel
theorem dn_d_Law_law_871 : decode dn_c_Law_law 871 = .ok (.ldc2_w 67, 3) := by decide +kernel
theorem dn_d_Law_law_874 : decode dn_c_Law_law 874 = .ok (.land, 1) := by decide +kernel
theorem dn_d_Law_law_875 : decode dn_c_Law_law 875 = .ok (.lor, 1) := by decide +kernel
theorem dn_d_Law_law_876 : decode dn_c_Law_law 876 = .ok (.aload_n 0, 1) := by decide +kernel
theorem dn_d_Law_law_877 : decode dn_c_Law_law 877 = .ok (.iload 4, 2) := by decide +kernel
theorem dn_d_Law_law_879 : decode dn_c_Law_law 879 = .ok (.iconst 3, 1) := by decide +kernel
theorem dn_d_Law_law_880 : decode dn_c_Law_law 880 = .ok (.iadd, 1) := by decide +kernel
theorem dn_d_Law_law_881 : decode dn_c_Law_law 881 = .ok (.iaload, 1) := by decide +kernel
theorem dn_d_Law_law_882 : decode dn_c_Law_law 882 = .ok (.i2l, 1) := by decide +kernel
theorem dn_d_Law_law_883 : decode dn_c_Law_law 883 = .ok (.bipush 32, 2) := by decide +kernel
theorem dn_d_Law_law_885 : decode dn_c_Law_law 885 = .ok (.lshl, 1) := by decide +kernel
theorem dn_d_Law_law_886 : decode dn_c_Law_law 886 = .ok (.aload_n 0, 1) := by decide +kernel
theorem dn_d_Law_law_887 : decode dn_c_Law_law 887 = .ok (.iload 4, 2) := by decide +kernel
theorem dn_d_Law_law_889 : decode dn_c_Law_law 889 = .ok (.iconst 4, 1) := by decide +kernel
theorem dn_d_Law_law_890 : decode dn_c_Law_law 890 = .ok (.iadd, 1) := by decide +kernel
theorem dn_d_Law_law_891 : decode dn_c_Law_law 891 = .ok (.iaload, 1) := by decide +kernel
theorem dn_d_Law_law_892 : decode dn_c_Law_law 892 = .ok (.i2l, 1) := by decide +kernel
theorem dn_d_Law_law_893 : decode dn_c_Law_law 893 = .ok (.ldc2_w 67, 3) := by decide +kernel
theorem dn_d_Law_law_896 : decode dn_c_Law_law 896 = .ok (.land, 1) := by decide +kernel
theorem dn_d_Law_law_897 : decode dn_c_Law_law 897 = .ok (.lor, 1) := by decide +kernel
theorem dn_d_Law_law_898 : decode dn_c_Law_law 898 = .ok (.aload_n 0, 1) := by decide +kernel
theorem dn_d_Law_law_899 : decode dn_c_Law_law 899 = .ok (.iload 4, 2) := by decide +kernel
