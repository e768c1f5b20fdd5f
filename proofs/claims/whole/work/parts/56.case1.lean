/-! by program: wip/whole/genl.py: cases of the law's switch -/
theorem dL_law_585 : decode code 585 = .ok (.aload_n 1, 1) := by decide +kernel
theorem dL_law_586 : decode code 586 = .ok (.aload_n 0, 1) := by decide +kernel
theorem dL_law_587 : decode code 587 = .ok (.iload 4, 2) := by decide +kernel
theorem dL_law_589 : decode code 589 = .ok (.iconst 1, 1) := by decide +kernel
theorem dL_law_590 : decode code 590 = .ok (.iadd, 1) := by decide +kernel
theorem dL_law_591 : decode code 591 = .ok (.iaload, 1) := by decide +kernel
theorem dL_law_592 : decode code 592 = .ok (.aload_n 0, 1) := by decide +kernel
theorem dL_law_593 : decode code 593 = .ok (.iload 4, 2) := by decide +kernel
theorem dL_law_595 : decode code 595 = .ok (.iconst 2, 1) := by decide +kernel
theorem dL_law_596 : decode code 596 = .ok (.iadd, 1) := by decide +kernel
theorem dL_law_597 : decode code 597 = .ok (.iaload, 1) := by decide +kernel
theorem dL_law_598 : decode code 598 = .ok (.aload_n 3, 1) := by decide +kernel
theorem dL_law_599 : decode code 599 = .ok (.invokestatic 152, 3) := by decide +kernel
theorem dL_law_602 : decode code 602 = .ok (.istore 5, 2) := by decide +kernel
theorem dL_law_604 : decode code 604 = .ok (.aload_n 2, 1) := by decide +kernel
theorem dL_law_605 : decode code 605 = .ok (.aload_n 0, 1) := by decide +kernel
theorem dL_law_606 : decode code 606 = .ok (.iload 4, 2) := by decide +kernel
theorem dL_law_608 : decode code 608 = .ok (.iconst 1, 1) := by decide +kernel
theorem dL_law_609 : decode code 609 = .ok (.iadd, 1) := by decide +kernel
theorem dL_law_610 : decode code 610 = .ok (.iaload, 1) := by decide +kernel
theorem dL_law_611 : decode code 611 = .ok (.aload_n 0, 1) := by decide +kernel
theorem dL_law_612 : decode code 612 = .ok (.iload 4, 2) := by decide +kernel
theorem dL_law_614 : decode code 614 = .ok (.iconst 2, 1) := by decide +kernel
theorem dL_law_615 : decode code 615 = .ok (.iadd, 1) := by decide +kernel
theorem dL_law_616 : decode code 616 = .ok (.iaload, 1) := by decide +kernel
theorem dL_law_617 : decode code 617 = .ok (.invokevirtual 154, 3) := by decide +kernel
theorem dL_law_620 : decode code 620 = .ok (.istore 6, 2) := by decide +kernel
theorem dL_law_622 : decode code 622 = .ok (.aload_n 2, 1) := by decide +kernel
theorem dL_law_623 : decode code 623 = .ok (.invokevirtual 131, 3) := by decide +kernel
theorem dL_law_626 : decode code 626 = .ok (.iload 5, 2) := by decide +kernel
theorem dL_law_628 : decode code 628 = .ok (.if_icmp .eq 5, 3) := by decide +kernel
theorem dL_law_633 : decode code 633 = .ok (.iload 5, 2) := by decide +kernel
theorem dL_law_635 : decode code 635 = .ok (.ifCond .ne 15, 3) := by decide +kernel
theorem dL_law_638 : decode code 638 = .ok (.aload_n 3, 1) := by decide +kernel
theorem dL_law_639 : decode code 639 = .ok (.iconst 0, 1) := by decide +kernel
theorem dL_law_640 : decode code 640 = .ok (.laload, 1) := by decide +kernel
theorem dL_law_641 : decode code 641 = .ok (.iload 6, 2) := by decide +kernel
theorem dL_law_643 : decode code 643 = .ok (.i2l, 1) := by decide +kernel
theorem dL_law_644 : decode code 644 = .ok (.lcmp, 1) := by decide +kernel
theorem dL_law_645 : decode code 645 = .ok (.ifCond .eq 5, 3) := by decide +kernel
theorem dL_law_650 : decode code 650 = .ok (.goto 1928, 3) := by decide +kernel
theorem dL_law_653 : decode code 653 = .ok (.aload_n 1, 1) := by decide +kernel
theorem dL_law_654 : decode code 654 = .ok (.aload_n 0, 1) := by decide +kernel
theorem dL_law_655 : decode code 655 = .ok (.iload 4, 2) := by decide +kernel
theorem dL_law_657 : decode code 657 = .ok (.iconst 1, 1) := by decide +kernel
theorem dL_law_658 : decode code 658 = .ok (.iadd, 1) := by decide +kernel
theorem dL_law_659 : decode code 659 = .ok (.iaload, 1) := by decide +kernel
theorem dL_law_660 : decode code 660 = .ok (.aload_n 0, 1) := by decide +kernel
theorem dL_law_661 : decode code 661 = .ok (.iload 4, 2) := by decide +kernel
theorem dL_law_663 : decode code 663 = .ok (.iconst 2, 1) := by decide +kernel
theorem dL_law_664 : decode code 664 = .ok (.iadd, 1) := by decide +kernel
theorem dL_law_665 : decode code 665 = .ok (.iaload, 1) := by decide +kernel
theorem dL_law_666 : decode code 666 = .ok (.aload_n 0, 1) := by decide +kernel
theorem dL_law_667 : decode code 667 = .ok (.iload 4, 2) := by decide +kernel
theorem dL_law_669 : decode code 669 = .ok (.iconst 3, 1) := by decide +kernel
theorem dL_law_670 : decode code 670 = .ok (.iadd, 1) := by decide +kernel
theorem dL_law_671 : decode code 671 = .ok (.iaload, 1) := by decide +kernel
theorem dL_law_672 : decode code 672 = .ok (.aload_n 3, 1) := by decide +kernel
theorem dL_law_673 : decode code 673 = .ok (.invokestatic 155, 3) := by decide +kernel
theorem dL_law_676 : decode code 676 = .ok (.istore 5, 2) := by decide +kernel
theorem dL_law_678 : decode code 678 = .ok (.aload_n 2, 1) := by decide +kernel
theorem dL_law_679 : decode code 679 = .ok (.aload_n 0, 1) := by decide +kernel
theorem dL_law_680 : decode code 680 = .ok (.iload 4, 2) := by decide +kernel
theorem dL_law_682 : decode code 682 = .ok (.iconst 1, 1) := by decide +kernel
theorem dL_law_683 : decode code 683 = .ok (.iadd, 1) := by decide +kernel
theorem dL_law_684 : decode code 684 = .ok (.iaload, 1) := by decide +kernel
theorem dL_law_685 : decode code 685 = .ok (.aload_n 0, 1) := by decide +kernel
theorem dL_law_686 : decode code 686 = .ok (.iload 4, 2) := by decide +kernel
theorem dL_law_688 : decode code 688 = .ok (.iconst 2, 1) := by decide +kernel
theorem dL_law_689 : decode code 689 = .ok (.iadd, 1) := by decide +kernel
theorem dL_law_690 : decode code 690 = .ok (.iaload, 1) := by decide +kernel
theorem dL_law_691 : decode code 691 = .ok (.aload_n 0, 1) := by decide +kernel
theorem dL_law_692 : decode code 692 = .ok (.iload 4, 2) := by decide +kernel
theorem dL_law_694 : decode code 694 = .ok (.iconst 3, 1) := by decide +kernel
theorem dL_law_695 : decode code 695 = .ok (.iadd, 1) := by decide +kernel
theorem dL_law_696 : decode code 696 = .ok (.iaload, 1) := by decide +kernel
theorem dL_law_697 : decode code 697 = .ok (.invokevirtual 157, 3) := by decide +kernel
theorem dL_law_700 : decode code 700 = .ok (.istore 6, 2) := by decide +kernel
theorem dL_law_702 : decode code 702 = .ok (.aload_n 2, 1) := by decide +kernel
theorem dL_law_703 : decode code 703 = .ok (.invokevirtual 131, 3) := by decide +kernel
theorem dL_law_706 : decode code 706 = .ok (.iload 5, 2) := by decide +kernel
theorem dL_law_708 : decode code 708 = .ok (.if_icmp .eq 5, 3) := by decide +kernel
theorem dL_law_713 : decode code 713 = .ok (.iload 5, 2) := by decide +kernel
theorem dL_law_715 : decode code 715 = .ok (.ifCond .ne 15, 3) := by decide +kernel
theorem dL_law_718 : decode code 718 = .ok (.aload_n 3, 1) := by decide +kernel
theorem dL_law_719 : decode code 719 = .ok (.iconst 0, 1) := by decide +kernel
theorem dL_law_720 : decode code 720 = .ok (.laload, 1) := by decide +kernel
theorem dL_law_721 : decode code 721 = .ok (.iload 6, 2) := by decide +kernel
theorem dL_law_723 : decode code 723 = .ok (.i2l, 1) := by decide +kernel
theorem dL_law_724 : decode code 724 = .ok (.lcmp, 1) := by decide +kernel
theorem dL_law_725 : decode code 725 = .ok (.ifCond .eq 5, 3) := by decide +kernel
theorem dL_law_730 : decode code 730 = .ok (.goto 1848, 3) := by decide +kernel
theorem dL_law_733 : decode code 733 = .ok (.aload_n 1, 1) := by decide +kernel
theorem dL_law_734 : decode code 734 = .ok (.aload_n 0, 1) := by decide +kernel
theorem dL_law_735 : decode code 735 = .ok (.iload 4, 2) := by decide +kernel
theorem dL_law_737 : decode code 737 = .ok (.iconst 1, 1) := by decide +kernel
theorem dL_law_738 : decode code 738 = .ok (.iadd, 1) := by decide +kernel
theorem dL_law_739 : decode code 739 = .ok (.iaload, 1) := by decide +kernel
theorem dL_law_740 : decode code 740 = .ok (.aload_n 0, 1) := by decide +kernel
theorem dL_law_741 : decode code 741 = .ok (.iload 4, 2) := by decide +kernel
theorem dL_law_743 : decode code 743 = .ok (.iconst 2, 1) := by decide +kernel
theorem dL_law_744 : decode code 744 = .ok (.iadd, 1) := by decide +kernel
theorem dL_law_745 : decode code 745 = .ok (.iaload, 1) := by decide +kernel
theorem dL_law_746 : decode code 746 = .ok (.aload_n 0, 1) := by decide +kernel
theorem dL_law_747 : decode code 747 = .ok (.iload 4, 2) := by decide +kernel
theorem dL_law_749 : decode code 749 = .ok (.iconst 3, 1) := by decide +kernel
theorem dL_law_750 : decode code 750 = .ok (.iadd, 1) := by decide +kernel
theorem dL_law_751 : decode code 751 = .ok (.iaload, 1) := by decide +kernel
theorem dL_law_752 : decode code 752 = .ok (.ifCond .eq 7, 3) := by decide +kernel
theorem dL_law_755 : decode code 755 = .ok (.iconst 1, 1) := by decide +kernel
theorem dL_law_756 : decode code 756 = .ok (.goto 4, 3) := by decide +kernel
theorem dL_law_759 : decode code 759 = .ok (.iconst 0, 1) := by decide +kernel
theorem dL_law_760 : decode code 760 = .ok (.aload_n 3, 1) := by decide +kernel
theorem dL_law_761 : decode code 761 = .ok (.invokestatic 158, 3) := by decide +kernel
theorem dL_law_764 : decode code 764 = .ok (.istore 5, 2) := by decide +kernel
theorem dL_law_766 : decode code 766 = .ok (.aload_n 2, 1) := by decide +kernel
theorem dL_law_767 : decode code 767 = .ok (.aload_n 0, 1) := by decide +kernel
theorem dL_law_768 : decode code 768 = .ok (.iload 4, 2) := by decide +kernel
theorem dL_law_770 : decode code 770 = .ok (.iconst 1, 1) := by decide +kernel
theorem dL_law_771 : decode code 771 = .ok (.iadd, 1) := by decide +kernel
theorem dL_law_772 : decode code 772 = .ok (.iaload, 1) := by decide +kernel
theorem dL_law_773 : decode code 773 = .ok (.aload_n 0, 1) := by decide +kernel
theorem dL_law_774 : decode code 774 = .ok (.iload 4, 2) := by decide +kernel
theorem dL_law_776 : decode code 776 = .ok (.iconst 2, 1) := by decide +kernel
theorem dL_law_777 : decode code 777 = .ok (.iadd, 1) := by decide +kernel
theorem dL_law_778 : decode code 778 = .ok (.iaload, 1) := by decide +kernel
theorem dL_law_779 : decode code 779 = .ok (.aload_n 0, 1) := by decide +kernel
theorem dL_law_780 : decode code 780 = .ok (.iload 4, 2) := by decide +kernel
theorem dL_law_782 : decode code 782 = .ok (.iconst 3, 1) := by decide +kernel
theorem dL_law_783 : decode code 783 = .ok (.iadd, 1) := by decide +kernel
theorem dL_law_784 : decode code 784 = .ok (.iaload, 1) := by decide +kernel
theorem dL_law_785 : decode code 785 = .ok (.ifCond .eq 7, 3) := by decide +kernel
theorem dL_law_788 : decode code 788 = .ok (.iconst 1, 1) := by decide +kernel
theorem dL_law_789 : decode code 789 = .ok (.goto 4, 3) := by decide +kernel
theorem dL_law_792 : decode code 792 = .ok (.iconst 0, 1) := by decide +kernel
theorem dL_law_793 : decode code 793 = .ok (.invokevirtual 161, 3) := by decide +kernel
theorem dL_law_796 : decode code 796 = .ok (.istore 6, 2) := by decide +kernel
theorem dL_law_798 : decode code 798 = .ok (.aload_n 2, 1) := by decide +kernel
theorem dL_law_799 : decode code 799 = .ok (.invokevirtual 131, 3) := by decide +kernel
theorem dL_law_802 : decode code 802 = .ok (.iload 5, 2) := by decide +kernel
theorem dL_law_804 : decode code 804 = .ok (.if_icmp .eq 5, 3) := by decide +kernel
theorem dL_law_809 : decode code 809 = .ok (.iload 5, 2) := by decide +kernel
theorem dL_law_811 : decode code 811 = .ok (.ifCond .ne 22, 3) := by decide +kernel
theorem dL_law_814 : decode code 814 = .ok (.aload_n 3, 1) := by decide +kernel
theorem dL_law_815 : decode code 815 = .ok (.iconst 0, 1) := by decide +kernel
theorem dL_law_816 : decode code 816 = .ok (.laload, 1) := by decide +kernel
theorem dL_law_817 : decode code 817 = .ok (.iload 6, 2) := by decide +kernel
theorem dL_law_819 : decode code 819 = .ok (.ifCond .eq 7, 3) := by decide +kernel
theorem dL_law_822 : decode code 822 = .ok (.lconst 1, 1) := by decide +kernel
theorem dL_law_823 : decode code 823 = .ok (.goto 4, 3) := by decide +kernel
theorem dL_law_826 : decode code 826 = .ok (.lconst 0, 1) := by decide +kernel
theorem dL_law_827 : decode code 827 = .ok (.lcmp, 1) := by decide +kernel
theorem dL_law_828 : decode code 828 = .ok (.ifCond .eq 5, 3) := by decide +kernel
theorem dL_law_833 : decode code 833 = .ok (.goto 1745, 3) := by decide +kernel
theorem dL_law_836 : decode code 836 = .ok (.aload_n 1, 1) := by decide +kernel
theorem dL_law_837 : decode code 837 = .ok (.aload_n 0, 1) := by decide +kernel
theorem dL_law_838 : decode code 838 = .ok (.iload 4, 2) := by decide +kernel
theorem dL_law_840 : decode code 840 = .ok (.iconst 1, 1) := by decide +kernel
theorem dL_law_841 : decode code 841 = .ok (.iadd, 1) := by decide +kernel
theorem dL_law_842 : decode code 842 = .ok (.iaload, 1) := by decide +kernel
theorem dL_law_843 : decode code 843 = .ok (.aload_n 0, 1) := by decide +kernel
theorem dL_law_844 : decode code 844 = .ok (.iload 4, 2) := by decide +kernel
theorem dL_law_846 : decode code 846 = .ok (.iconst 2, 1) := by decide +kernel
theorem dL_law_847 : decode code 847 = .ok (.iadd, 1) := by decide +kernel
theorem dL_law_848 : decode code 848 = .ok (.iaload, 1) := by decide +kernel
theorem dL_law_849 : decode code 849 = .ok (.aload_n 3, 1) := by decide +kernel
theorem dL_law_850 : decode code 850 = .ok (.invokestatic 162, 3) := by decide +kernel
theorem dL_law_853 : decode code 853 = .ok (.istore 5, 2) := by decide +kernel
theorem dL_law_855 : decode code 855 = .ok (.aload_n 2, 1) := by decide +kernel
theorem dL_law_856 : decode code 856 = .ok (.aload_n 0, 1) := by decide +kernel
theorem dL_law_857 : decode code 857 = .ok (.iload 4, 2) := by decide +kernel
theorem dL_law_859 : decode code 859 = .ok (.iconst 1, 1) := by decide +kernel
theorem dL_law_860 : decode code 860 = .ok (.iadd, 1) := by decide +kernel
theorem dL_law_861 : decode code 861 = .ok (.iaload, 1) := by decide +kernel
theorem dL_law_862 : decode code 862 = .ok (.aload_n 0, 1) := by decide +kernel
theorem dL_law_863 : decode code 863 = .ok (.iload 4, 2) := by decide +kernel
theorem dL_law_865 : decode code 865 = .ok (.iconst 2, 1) := by decide +kernel
theorem dL_law_866 : decode code 866 = .ok (.iadd, 1) := by decide +kernel
theorem dL_law_867 : decode code 867 = .ok (.iaload, 1) := by decide +kernel
theorem dL_law_868 : decode code 868 = .ok (.invokevirtual 164, 3) := by decide +kernel
theorem dL_law_871 : decode code 871 = .ok (.istore 6, 2) := by decide +kernel
theorem dL_law_873 : decode code 873 = .ok (.aload_n 2, 1) := by decide +kernel
theorem dL_law_874 : decode code 874 = .ok (.invokevirtual 131, 3) := by decide +kernel
theorem dL_law_877 : decode code 877 = .ok (.iload 5, 2) := by decide +kernel
theorem dL_law_879 : decode code 879 = .ok (.if_icmp .eq 5, 3) := by decide +kernel
theorem dL_law_884 : decode code 884 = .ok (.iload 5, 2) := by decide +kernel
theorem dL_law_886 : decode code 886 = .ok (.ifCond .ne 15, 3) := by decide +kernel
theorem dL_law_889 : decode code 889 = .ok (.aload_n 3, 1) := by decide +kernel
theorem dL_law_890 : decode code 890 = .ok (.iconst 0, 1) := by decide +kernel
theorem dL_law_891 : decode code 891 = .ok (.laload, 1) := by decide +kernel
theorem dL_law_892 : decode code 892 = .ok (.iload 6, 2) := by decide +kernel
theorem dL_law_894 : decode code 894 = .ok (.i2l, 1) := by decide +kernel
theorem dL_law_895 : decode code 895 = .ok (.lcmp, 1) := by decide +kernel
theorem dL_law_896 : decode code 896 = .ok (.ifCond .eq 5, 3) := by decide +kernel
theorem dL_law_901 : decode code 901 = .ok (.goto 1677, 3) := by decide +kernel
theorem dL_law_904 : decode code 904 = .ok (.aload_n 1, 1) := by decide +kernel
theorem dL_law_905 : decode code 905 = .ok (.aload_n 0, 1) := by decide +kernel
theorem dL_law_906 : decode code 906 = .ok (.iload 4, 2) := by decide +kernel
theorem dL_law_908 : decode code 908 = .ok (.iconst 1, 1) := by decide +kernel
theorem dL_law_909 : decode code 909 = .ok (.iadd, 1) := by decide +kernel
theorem dL_law_910 : decode code 910 = .ok (.iaload, 1) := by decide +kernel
theorem dL_law_911 : decode code 911 = .ok (.aload_n 3, 1) := by decide +kernel
theorem dL_law_912 : decode code 912 = .ok (.invokestatic 165, 3) := by decide +kernel
theorem dL_law_915 : decode code 915 = .ok (.istore 5, 2) := by decide +kernel
theorem dL_law_917 : decode code 917 = .ok (.aload_n 2, 1) := by decide +kernel
theorem dL_law_918 : decode code 918 = .ok (.aload_n 0, 1) := by decide +kernel
theorem dL_law_919 : decode code 919 = .ok (.iload 4, 2) := by decide +kernel
theorem dL_law_921 : decode code 921 = .ok (.iconst 1, 1) := by decide +kernel
theorem dL_law_922 : decode code 922 = .ok (.iadd, 1) := by decide +kernel
theorem dL_law_923 : decode code 923 = .ok (.iaload, 1) := by decide +kernel
theorem dL_law_924 : decode code 924 = .ok (.invokevirtual 167, 3) := by decide +kernel
theorem dL_law_927 : decode code 927 = .ok (.istore 6, 2) := by decide +kernel
theorem dL_law_929 : decode code 929 = .ok (.aload_n 2, 1) := by decide +kernel
theorem dL_law_930 : decode code 930 = .ok (.invokevirtual 131, 3) := by decide +kernel
theorem dL_law_933 : decode code 933 = .ok (.iload 5, 2) := by decide +kernel
theorem dL_law_935 : decode code 935 = .ok (.if_icmp .eq 5, 3) := by decide +kernel
theorem dL_law_940 : decode code 940 = .ok (.iload 5, 2) := by decide +kernel
theorem dL_law_942 : decode code 942 = .ok (.ifCond .ne 15, 3) := by decide +kernel
theorem dL_law_945 : decode code 945 = .ok (.aload_n 3, 1) := by decide +kernel
theorem dL_law_946 : decode code 946 = .ok (.iconst 0, 1) := by decide +kernel
theorem dL_law_947 : decode code 947 = .ok (.laload, 1) := by decide +kernel
theorem dL_law_948 : decode code 948 = .ok (.iload 6, 2) := by decide +kernel
theorem dL_law_950 : decode code 950 = .ok (.i2l, 1) := by decide +kernel
theorem dL_law_951 : decode code 951 = .ok (.lcmp, 1) := by decide +kernel
theorem dL_law_952 : decode code 952 = .ok (.ifCond .eq 5, 3) := by decide +kernel
theorem dL_law_957 : decode code 957 = .ok (.goto 1621, 3) := by decide +kernel
theorem dL_law_960 : decode code 960 = .ok (.aload_n 1, 1) := by decide +kernel
theorem dL_law_961 : decode code 961 = .ok (.aload_n 0, 1) := by decide +kernel
theorem dL_law_962 : decode code 962 = .ok (.iload 4, 2) := by decide +kernel
theorem dL_law_964 : decode code 964 = .ok (.iconst 1, 1) := by decide +kernel
theorem dL_law_965 : decode code 965 = .ok (.iadd, 1) := by decide +kernel
theorem dL_law_966 : decode code 966 = .ok (.iaload, 1) := by decide +kernel
theorem dL_law_967 : decode code 967 = .ok (.aload_n 3, 1) := by decide +kernel
theorem dL_law_968 : decode code 968 = .ok (.invokestatic 168, 3) := by decide +kernel
theorem dL_law_971 : decode code 971 = .ok (.istore 5, 2) := by decide +kernel
theorem dL_law_973 : decode code 973 = .ok (.aload_n 2, 1) := by decide +kernel
theorem dL_law_974 : decode code 974 = .ok (.aload_n 0, 1) := by decide +kernel
theorem dL_law_975 : decode code 975 = .ok (.iload 4, 2) := by decide +kernel
theorem dL_law_977 : decode code 977 = .ok (.iconst 1, 1) := by decide +kernel
theorem dL_law_978 : decode code 978 = .ok (.iadd, 1) := by decide +kernel
theorem dL_law_979 : decode code 979 = .ok (.iaload, 1) := by decide +kernel
theorem dL_law_980 : decode code 980 = .ok (.invokevirtual 170, 3) := by decide +kernel
theorem dL_law_983 : decode code 983 = .ok (.istore 6, 2) := by decide +kernel
theorem dL_law_985 : decode code 985 = .ok (.aload_n 2, 1) := by decide +kernel
theorem dL_law_986 : decode code 986 = .ok (.invokevirtual 131, 3) := by decide +kernel
theorem dL_law_989 : decode code 989 = .ok (.iload 5, 2) := by decide +kernel
theorem dL_law_991 : decode code 991 = .ok (.if_icmp .eq 5, 3) := by decide +kernel
theorem dL_law_996 : decode code 996 = .ok (.iload 5, 2) := by decide +kernel
theorem dL_law_998 : decode code 998 = .ok (.ifCond .ne 15, 3) := by decide +kernel
theorem dL_law_1001 : decode code 1001 = .ok (.aload_n 3, 1) := by decide +kernel
theorem dL_law_1002 : decode code 1002 = .ok (.iconst 0, 1) := by decide +kernel
theorem dL_law_1003 : decode code 1003 = .ok (.laload, 1) := by decide +kernel
theorem dL_law_1004 : decode code 1004 = .ok (.iload 6, 2) := by decide +kernel
theorem dL_law_1006 : decode code 1006 = .ok (.i2l, 1) := by decide +kernel
theorem dL_law_1007 : decode code 1007 = .ok (.lcmp, 1) := by decide +kernel
theorem dL_law_1008 : decode code 1008 = .ok (.ifCond .eq 5, 3) := by decide +kernel
theorem dL_law_1013 : decode code 1013 = .ok (.goto 1565, 3) := by decide +kernel
set_option maxRecDepth 100000 in
set_option maxHeartbeats 8000000 in
theorem case_6 {p : Program} {l : Launch} {e : Env} {s : State} {m : MethodId} {below : List Frame} {meth : Method} {c : Code} {Q : State → Prop} {D : va_G} {cys : Nat → ClassId} {ad : Nat → Int → Nat} {b Ls : Nat} {xs : Nat → Int32} (hi : injA ad) (hst : l.stackTraces = false) (G : GG p l s m #[Value.ref b] meth c D cys ad (fun q => s.heap.size ≤ q) code RL 9) (hN : NCS s) (hk4 : HK4 cys s) (hX : va_X b Ls xs s s.heap) (hbl : b < s.heap.size) (hL : Ls ≤ 2560) {L : List Nat} {g : Nat → va_E} {X : Int64} {Z : ZT} {ao : Nat} (hI : INV cys ad ao L g Z) {i : Int} (hi0 : 0 ≤ i) (hi5 : i + 5 ≤ Ls) {cells slots : Nat} (hc : cells + 200 ≤ 601024) (hs : slots + 3000 ≤ 7293034)
    (K : ∀ (L1 : List Nat) (g1 : Nat → va_E) (X1 : Int64) (Z1 : ZT), INV cys ad ao L1 g1 Z1 → JJ p l e room_1 s m #[Value.ref b] below meth c D cys ad (fun q => s.heap.size ≤ q) Q 9 (cells + 200) (slots + 3000) L1 g1 X1 Z1 2578 (LV5 b ad ao i) []) :
    JJ p l e room_1 s m #[Value.ref b] below meth c D cys ad (fun q => s.heap.size ≤ q) Q 9 cells slots L g X Z 585 (LV5 b ad ao i) [] := by
  obtain ⟨hG, hRL, ⟨hao, hns, h33⟩, v0, hgo⟩ := hI
  have hW := hG.1.1
  have hbA : ¬ (fun q => s.heap.size ≤ q) b := Nat.not_le.mpr hbl
  refine j_aload_n G dL_law_585 rfl ?_
  refine j_aload_n G dL_law_586 rfl ?_
  refine j_iload G dL_law_587 rfl ?_
  refine j_iconst G dL_law_589 ?_
  refine j_iadd G dL_law_590 ?_
  refine j_sld G hX hbl hbA dL_law_591 (by omega) (by omega) hL ?_
  refine j_aload_n G dL_law_592 rfl ?_
  refine j_iload G dL_law_593 rfl ?_
  refine j_iconst G dL_law_595 ?_
  refine j_iadd G dL_law_596 ?_
  refine j_sld G hX hbl hbA dL_law_597 (by omega) (by omega) hL ?_
  refine j_aload_n G dL_law_598 rfl ?_
  refine j_callW (n := 4) G hN (TW_of 697 (by decide +kernel) (by decide +kernel)) (TW_of 71 (by decide +kernel) (by decide +kernel)) (TW_of 698 (by decide +kernel) (by decide +kernel)) ⟨by decide +kernel, by decide +kernel, by decide +kernel⟩ (TW_of 696 (by decide +kernel) (by decide +kernel)) (cw_levelOf hi hst (SP.rf Z) hW (sv_in _ _) (sv_in _ _) hao hns hgo) dL_law_599 ⟨by decide, by decide⟩ ⟨by rw [r1c]; omega, by rw [r1s]; omega⟩ rfl rfl (Nat.le_of_ble_eq_true rfl) (fun k L1 g1 X1 Z1 h => ?_)
  obtain ⟨eL, eX, v9, eg, hA⟩ := h
  subst L1 X1 g1
  have hR1 : RMZ Z Z1 := hG.2.hi (hi_levelOf hA)
  have hRL1 := hRL.out h33 hgo v9
  have hgo1 : va_up g ao (OUT cys v9) ao = OUT cys v9 := va_up_self _ _ _
  refine j_istore G dL_law_602 (by decide) rfl ?_
  refine j_aload_n G dL_law_604 rfl ?_
  refine j_aload_n G dL_law_605 rfl ?_
  refine j_iload G dL_law_606 rfl ?_
  refine j_iconst G dL_law_608 ?_
  refine j_iadd G dL_law_609 ?_
  refine j_sld G hX hbl hbA dL_law_610 (by omega) (by omega) hL ?_
  refine j_aload_n G dL_law_611 rfl ?_
  refine j_iload G dL_law_612 rfl ?_
  refine j_iconst G dL_law_614 ?_
  refine j_iadd G dL_law_615 ?_
  refine j_sld G hX hbl hbA dL_law_616 (by omega) (by omega) hL ?_
  refine j_cVIZ G cvX7_levelOf mlL_154 (c_X7_levelOf hi hR1 hW (sv_in _ _) (sv_in _ _)) dL_law_617 ⟨by decide, by decide⟩ ⟨by rw [r1c]; omega, by rw [r1s]; omega⟩ rfl rfl (Nat.le_of_ble_eq_true rfl) (by decide) rfl rfl rfl (fun x Z2 hB => ?_)
  have hag := ag_levelOf hG hA hB
  have hRL2 := hag.2.1 cys ad _ _ hRL1
  refine j_istore G dL_law_620 (by decide) rfl ?_
  refine j_aload_n G dL_law_622 rfl ?_
  refine j_cVI G cvX7_thrown mlL_131 (c_X7_thrown hi) dL_law_623 ⟨by decide, by decide⟩ ⟨by rw [r1c]; omega, by rw [r1s]; omega⟩ rfl rfl (Nat.le_of_ble_eq_true rfl) (by decide) rfl rfl rfl (fun t ht => ?_)
  refine j_iload G dL_law_626 rfl ?_
  refine j_icmpS G 633 dL_law_628 (by decide) (ht.trans hag.2.2.1) ?_
  refine j_iload G dL_law_633 rfl ?_
  have hk02 := hag.2.2.2.2
  refine j_if_ne G 650 dL_law_635 (by decide) (by omega) (fun c0 => ?_) (fun c0 => ?_)
  · refine j_goto G 2578 dL_law_650 (by decide) ?_
    refine j_keep [0, 1, 2, 3, 4] ?_
    refine j_wid (cells' := cells + 200) (slots' := slots + 3000) (by omega) (by omega) ?_
    exact K _ _ _ _ ⟨hag.1, hRL2, ⟨hao, hns, h33⟩, v9, hgo1⟩
  · refine j_aload_n G dL_law_638 rfl ?_
    refine j_iconst G dL_law_639 ?_
    refine j_laldO G dL_law_640 hao hns hgo1 ?_
    refine j_iload G dL_law_641 rfl ?_
    refine j_i2l G dL_law_643 ?_
    refine j_lcmpS G dL_law_644 (hag.2.2.2.1 c0) ?_
    refine j_if_eq G 650 dL_law_645 (by decide) (by decide) (fun _ => ?_) (fun h => absurd rfl h)
    refine j_goto G 2578 dL_law_650 (by decide) ?_
    refine j_keep [0, 1, 2, 3, 4] ?_
    refine j_wid (cells' := cells + 200) (slots' := slots + 3000) (by omega) (by omega) ?_
    exact K _ _ _ _ ⟨hag.1, hRL2, ⟨hao, hns, h33⟩, v9, hgo1⟩
set_option maxRecDepth 100000 in
set_option maxHeartbeats 8000000 in
theorem case_7 {p : Program} {l : Launch} {e : Env} {s : State} {m : MethodId} {below : List Frame} {meth : Method} {c : Code} {Q : State → Prop} {D : va_G} {cys : Nat → ClassId} {ad : Nat → Int → Nat} {b Ls : Nat} {xs : Nat → Int32} (hi : injA ad) (hst : l.stackTraces = false) (G : GG p l s m #[Value.ref b] meth c D cys ad (fun q => s.heap.size ≤ q) code RL 9) (hN : NCS s) (hk4 : HK4 cys s) (hX : va_X b Ls xs s s.heap) (hbl : b < s.heap.size) (hL : Ls ≤ 2560) {L : List Nat} {g : Nat → va_E} {X : Int64} {Z : ZT} {ao : Nat} (hI : INV cys ad ao L g Z) {i : Int} (hi0 : 0 ≤ i) (hi5 : i + 5 ≤ Ls) {cells slots : Nat} (hc : cells + 200 ≤ 601024) (hs : slots + 3000 ≤ 7293034)
    (K : ∀ (L1 : List Nat) (g1 : Nat → va_E) (X1 : Int64) (Z1 : ZT), INV cys ad ao L1 g1 Z1 → JJ p l e room_1 s m #[Value.ref b] below meth c D cys ad (fun q => s.heap.size ≤ q) Q 9 (cells + 200) (slots + 3000) L1 g1 X1 Z1 2578 (LV5 b ad ao i) []) :
    JJ p l e room_1 s m #[Value.ref b] below meth c D cys ad (fun q => s.heap.size ≤ q) Q 9 cells slots L g X Z 653 (LV5 b ad ao i) [] := by
  obtain ⟨hG, hRL, ⟨hao, hns, h33⟩, v0, hgo⟩ := hI
  have hW := hG.1.1
  have hbA : ¬ (fun q => s.heap.size ≤ q) b := Nat.not_le.mpr hbl
  refine j_aload_n G dL_law_653 rfl ?_
  refine j_aload_n G dL_law_654 rfl ?_
  refine j_iload G dL_law_655 rfl ?_
  refine j_iconst G dL_law_657 ?_
  refine j_iadd G dL_law_658 ?_
  refine j_sld G hX hbl hbA dL_law_659 (by omega) (by omega) hL ?_
  refine j_aload_n G dL_law_660 rfl ?_
  refine j_iload G dL_law_661 rfl ?_
  refine j_iconst G dL_law_663 ?_
  refine j_iadd G dL_law_664 ?_
  refine j_sld G hX hbl hbA dL_law_665 (by omega) (by omega) hL ?_
  refine j_aload_n G dL_law_666 rfl ?_
  refine j_iload G dL_law_667 rfl ?_
  refine j_iconst G dL_law_669 ?_
  refine j_iadd G dL_law_670 ?_
  refine j_sld G hX hbl hbA dL_law_671 (by omega) (by omega) hL ?_
  refine j_aload_n G dL_law_672 rfl ?_
  refine j_callW (n := 5) G hN (TW_of 704 (by decide +kernel) (by decide +kernel)) (TW_of 71 (by decide +kernel) (by decide +kernel)) (TW_of 705 (by decide +kernel) (by decide +kernel)) ⟨by decide +kernel, by decide +kernel, by decide +kernel⟩ (TW_of 703 (by decide +kernel) (by decide +kernel)) (cw_memberAt hi hst (SP.rf Z) hW (sv_in _ _) (sv_in _ _) (sv_in _ _) hao hns hgo) dL_law_673 ⟨by decide, by decide⟩ ⟨by rw [r1c]; omega, by rw [r1s]; omega⟩ rfl rfl (Nat.le_of_ble_eq_true rfl) (fun k L1 g1 X1 Z1 h => ?_)
  obtain ⟨eL, eX, v9, eg, hA⟩ := h
  subst L1 X1 g1
  have hR1 : RMZ Z Z1 := hG.2.hi (hi_memberAt hA)
  have hRL1 := hRL.out h33 hgo v9
  have hgo1 : va_up g ao (OUT cys v9) ao = OUT cys v9 := va_up_self _ _ _
  refine j_istore G dL_law_676 (by decide) rfl ?_
  refine j_aload_n G dL_law_678 rfl ?_
  refine j_aload_n G dL_law_679 rfl ?_
  refine j_iload G dL_law_680 rfl ?_
  refine j_iconst G dL_law_682 ?_
  refine j_iadd G dL_law_683 ?_
  refine j_sld G hX hbl hbA dL_law_684 (by omega) (by omega) hL ?_
  refine j_aload_n G dL_law_685 rfl ?_
  refine j_iload G dL_law_686 rfl ?_
  refine j_iconst G dL_law_688 ?_
  refine j_iadd G dL_law_689 ?_
  refine j_sld G hX hbl hbA dL_law_690 (by omega) (by omega) hL ?_
  refine j_aload_n G dL_law_691 rfl ?_
  refine j_iload G dL_law_692 rfl ?_
  refine j_iconst G dL_law_694 ?_
  refine j_iadd G dL_law_695 ?_
  refine j_sld G hX hbl hbA dL_law_696 (by omega) (by omega) hL ?_
  refine j_cVGI G cvX7_memberAt mlL_157 (c_X7_memberAt hi hR1 hW (sv_in _ _) (sv_in _ _) (sv_in _ _)) dL_law_697 ⟨by decide, by decide⟩ ⟨by rw [r1c]; omega, by rw [r1s]; omega⟩ rfl rfl (Nat.le_of_ble_eq_true rfl) (by decide) rfl rfl rfl (fun x L2 g2 X2 Z2 h2 => ?_)
  obtain ⟨hB0, hE, eX⟩ := h2
  subst X2
  have hao2 : ao ∈ L2 := hE.1 _ hao
  have hgo2 : g2 ao = OUT cys v9 := (hE.2 _ hao).trans hgo1
  have hag := ag_memberAt hG hA hB0
  have hRL2 := hag.2.1 cys ad _ _ (hRL1.ext hE)
  refine j_istore G dL_law_700 (by decide) rfl ?_
  refine j_aload_n G dL_law_702 rfl ?_
  refine j_cVI G cvX7_thrown mlL_131 (c_X7_thrown hi) dL_law_703 ⟨by decide, by decide⟩ ⟨by rw [r1c]; omega, by rw [r1s]; omega⟩ rfl rfl (Nat.le_of_ble_eq_true rfl) (by decide) rfl rfl rfl (fun t ht => ?_)
  refine j_iload G dL_law_706 rfl ?_
  refine j_icmpS G 713 dL_law_708 (by decide) (ht.trans hag.2.2.1) ?_
  refine j_iload G dL_law_713 rfl ?_
  have hk02 := hag.2.2.2.2
  refine j_if_ne G 730 dL_law_715 (by decide) (by omega) (fun c0 => ?_) (fun c0 => ?_)
  · refine j_goto G 2578 dL_law_730 (by decide) ?_
    refine j_keep [0, 1, 2, 3, 4] ?_
    refine j_wid (cells' := cells + 200) (slots' := slots + 3000) (by omega) (by omega) ?_
    exact K _ _ _ _ ⟨hag.1, hRL2, ⟨hao2, hns, h33⟩, v9, hgo2⟩
  · refine j_aload_n G dL_law_718 rfl ?_
    refine j_iconst G dL_law_719 ?_
    refine j_laldO G dL_law_720 hao2 hns hgo2 ?_
    refine j_iload G dL_law_721 rfl ?_
    refine j_i2l G dL_law_723 ?_
    refine j_lcmpS G dL_law_724 (hag.2.2.2.1 c0) ?_
    refine j_if_eq G 730 dL_law_725 (by decide) (by decide) (fun _ => ?_) (fun h => absurd rfl h)
    refine j_goto G 2578 dL_law_730 (by decide) ?_
    refine j_keep [0, 1, 2, 3, 4] ?_
    refine j_wid (cells' := cells + 200) (slots' := slots + 3000) (by omega) (by omega) ?_
    exact K _ _ _ _ ⟨hag.1, hRL2, ⟨hao2, hns, h33⟩, v9, hgo2⟩
set_option maxRecDepth 100000 in
set_option maxHeartbeats 8000000 in
theorem case_8 {p : Program} {l : Launch} {e : Env} {s : State} {m : MethodId} {below : List Frame} {meth : Method} {c : Code} {Q : State → Prop} {D : va_G} {cys : Nat → ClassId} {ad : Nat → Int → Nat} {b Ls : Nat} {xs : Nat → Int32} (hi : injA ad) (hst : l.stackTraces = false) (G : GG p l s m #[Value.ref b] meth c D cys ad (fun q => s.heap.size ≤ q) code RL 9) (hN : NCS s) (hk4 : HK4 cys s) (hX : va_X b Ls xs s s.heap) (hbl : b < s.heap.size) (hL : Ls ≤ 2560) {L : List Nat} {g : Nat → va_E} {X : Int64} {Z : ZT} {ao : Nat} (hI : INV cys ad ao L g Z) {i : Int} (hi0 : 0 ≤ i) (hi5 : i + 5 ≤ Ls) {cells slots : Nat} (hc : cells + 200 ≤ 601024) (hs : slots + 3000 ≤ 7293034)
    (K : ∀ (L1 : List Nat) (g1 : Nat → va_E) (X1 : Int64) (Z1 : ZT), INV cys ad ao L1 g1 Z1 → JJ p l e room_1 s m #[Value.ref b] below meth c D cys ad (fun q => s.heap.size ≤ q) Q 9 (cells + 200) (slots + 3000) L1 g1 X1 Z1 2578 (LV5 b ad ao i) []) :
    JJ p l e room_1 s m #[Value.ref b] below meth c D cys ad (fun q => s.heap.size ≤ q) Q 9 cells slots L g X Z 733 (LV5 b ad ao i) [] := by
  obtain ⟨hG, hRL, ⟨hao, hns, h33⟩, v0, hgo⟩ := hI
  have hW := hG.1.1
  have hbA : ¬ (fun q => s.heap.size ≤ q) b := Nat.not_le.mpr hbl
  refine j_aload_n G dL_law_733 rfl ?_
  refine j_aload_n G dL_law_734 rfl ?_
  refine j_iload G dL_law_735 rfl ?_
  refine j_iconst G dL_law_737 ?_
  refine j_iadd G dL_law_738 ?_
  refine j_sld G hX hbl hbA dL_law_739 (by omega) (by omega) hL ?_
  refine j_aload_n G dL_law_740 rfl ?_
  refine j_iload G dL_law_741 rfl ?_
  refine j_iconst G dL_law_743 ?_
  refine j_iadd G dL_law_744 ?_
  refine j_sld G hX hbl hbA dL_law_745 (by omega) (by omega) hL ?_
  refine j_aload_n G dL_law_746 rfl ?_
  refine j_iload G dL_law_747 rfl ?_
  refine j_iconst G dL_law_749 ?_
  refine j_iadd G dL_law_750 ?_
  refine j_sld G hX hbl hbA dL_law_751 (by omega) (by omega) hL ?_
  refine j_bool G (sv_in _ _) dL_law_752 dL_law_755 dL_law_756 dL_law_759 ?_
  refine j_aload_n G dL_law_760 rfl ?_
  refine j_callW (n := 5) G hN (TW_of 717 (by decide +kernel) (by decide +kernel)) (TW_of 71 (by decide +kernel) (by decide +kernel)) (TW_of 718 (by decide +kernel) (by decide +kernel)) ⟨by decide +kernel, by decide +kernel, by decide +kernel⟩ (TW_of 716 (by decide +kernel) (by decide +kernel)) (cw_leaveOut hi hst (SP.rf Z) hW (sv_in _ _) (sv_in _ _) (bl_01 _) hao hns hgo) dL_law_761 ⟨by decide, by decide⟩ ⟨by rw [r1c]; omega, by rw [r1s]; omega⟩ rfl rfl (Nat.le_of_ble_eq_true rfl) (fun k L1 g1 X1 Z1 h => ?_)
  obtain ⟨eL, eX, v9, eg, hA⟩ := h
  subst L1 X1 g1
  have hR1 : RMZ Z Z1 := hG.2.hi (hi_leaveOut hA)
  have hRL1 := hRL.out h33 hgo v9
  have hgo1 : va_up g ao (OUT cys v9) ao = OUT cys v9 := va_up_self _ _ _
  refine j_istore G dL_law_764 (by decide) rfl ?_
  refine j_aload_n G dL_law_766 rfl ?_
  refine j_aload_n G dL_law_767 rfl ?_
  refine j_iload G dL_law_768 rfl ?_
  refine j_iconst G dL_law_770 ?_
  refine j_iadd G dL_law_771 ?_
  refine j_sld G hX hbl hbA dL_law_772 (by omega) (by omega) hL ?_
  refine j_aload_n G dL_law_773 rfl ?_
  refine j_iload G dL_law_774 rfl ?_
  refine j_iconst G dL_law_776 ?_
  refine j_iadd G dL_law_777 ?_
  refine j_sld G hX hbl hbA dL_law_778 (by omega) (by omega) hL ?_
  refine j_aload_n G dL_law_779 rfl ?_
  refine j_iload G dL_law_780 rfl ?_
  refine j_iconst G dL_law_782 ?_
  refine j_iadd G dL_law_783 ?_
  refine j_sld G hX hbl hbA dL_law_784 (by omega) (by omega) hL ?_
  refine j_bool G (sv_in _ _) dL_law_785 dL_law_788 dL_law_789 dL_law_792 ?_
  refine j_cVIZ G cvX7_leaveOut mlL_161 (c_X7_leaveOut hi hR1 hW (sv_in _ _) (sv_in _ _) (bl_01 _)) dL_law_793 ⟨by decide, by decide⟩ ⟨by rw [r1c]; omega, by rw [r1s]; omega⟩ rfl rfl (Nat.le_of_ble_eq_true rfl) (by decide) rfl rfl rfl (fun x Z2 hB => ?_)
  have hB : MP_leaveOut Z Z1 Z2 (sv xs (i + 1)) (sv xs (i + 2)) (if (sv xs (i + 3)) = 0 then 0 else 1) x := hB
  have hag := ag_leaveOut hG (bl_01 _) hA hB
  have hRL2 := hag.2.1 cys ad _ _ hRL1
  refine j_istore G dL_law_796 (by decide) rfl ?_
  refine j_aload_n G dL_law_798 rfl ?_
  refine j_cVI G cvX7_thrown mlL_131 (c_X7_thrown hi) dL_law_799 ⟨by decide, by decide⟩ ⟨by rw [r1c]; omega, by rw [r1s]; omega⟩ rfl rfl (Nat.le_of_ble_eq_true rfl) (by decide) rfl rfl rfl (fun t ht => ?_)
  refine j_iload G dL_law_802 rfl ?_
  refine j_icmpS G 809 dL_law_804 (by decide) (ht.trans hag.2.2.1) ?_
  refine j_iload G dL_law_809 rfl ?_
  have hk02 := hag.2.2.2.2
  refine j_if_ne G 833 dL_law_811 (by decide) (by omega) (fun c0 => ?_) (fun c0 => ?_)
  · refine j_goto G 2578 dL_law_833 (by decide) ?_
    refine j_keep [0, 1, 2, 3, 4] ?_
    refine j_wid (cells' := cells + 200) (slots' := slots + 3000) (by omega) (by omega) ?_
    exact K _ _ _ _ ⟨hag.1, hRL2, ⟨hao, hns, h33⟩, v9, hgo1⟩
  · refine j_aload_n G dL_law_814 rfl ?_
    refine j_iconst G dL_law_815 ?_
    refine j_laldO G dL_law_816 hao hns hgo1 ?_
    refine j_iload G dL_law_817 rfl ?_
    refine j_boolL G (by
        unfold MP_leaveOut at hB
        rcases hB with z | z
        · rw [z.2.1]
          have ht9 := (hW.t z.1.1 z.1.2.1)
          have ht8 := ht9.1
          have ht7 := z.1
          rcases ht9.2.2 _ z.1.2.2.1 (by omega) with y | y <;> rw [y] <;> decide
        · rw [z.2.1]; decide) dL_law_819 dL_law_822 dL_law_823 dL_law_826 ?_
    refine j_lcmpS G dL_law_827 (hag.2.2.2.1 c0) ?_
    refine j_if_eq G 833 dL_law_828 (by decide) (by decide) (fun _ => ?_) (fun h => absurd rfl h)
    refine j_goto G 2578 dL_law_833 (by decide) ?_
    refine j_keep [0, 1, 2, 3, 4] ?_
    refine j_wid (cells' := cells + 200) (slots' := slots + 3000) (by omega) (by omega) ?_
    exact K _ _ _ _ ⟨hag.1, hRL2, ⟨hao, hns, h33⟩, v9, hgo1⟩
set_option maxRecDepth 100000 in
set_option maxHeartbeats 8000000 in
theorem case_9 {p : Program} {l : Launch} {e : Env} {s : State} {m : MethodId} {below : List Frame} {meth : Method} {c : Code} {Q : State → Prop} {D : va_G} {cys : Nat → ClassId} {ad : Nat → Int → Nat} {b Ls : Nat} {xs : Nat → Int32} (hi : injA ad) (hst : l.stackTraces = false) (G : GG p l s m #[Value.ref b] meth c D cys ad (fun q => s.heap.size ≤ q) code RL 9) (hN : NCS s) (hk4 : HK4 cys s) (hX : va_X b Ls xs s s.heap) (hbl : b < s.heap.size) (hL : Ls ≤ 2560) {L : List Nat} {g : Nat → va_E} {X : Int64} {Z : ZT} {ao : Nat} (hI : INV cys ad ao L g Z) {i : Int} (hi0 : 0 ≤ i) (hi5 : i + 5 ≤ Ls) {cells slots : Nat} (hc : cells + 200 ≤ 601024) (hs : slots + 3000 ≤ 7293034)
    (K : ∀ (L1 : List Nat) (g1 : Nat → va_E) (X1 : Int64) (Z1 : ZT), INV cys ad ao L1 g1 Z1 → JJ p l e room_1 s m #[Value.ref b] below meth c D cys ad (fun q => s.heap.size ≤ q) Q 9 (cells + 200) (slots + 3000) L1 g1 X1 Z1 2578 (LV5 b ad ao i) []) :
    JJ p l e room_1 s m #[Value.ref b] below meth c D cys ad (fun q => s.heap.size ≤ q) Q 9 cells slots L g X Z 836 (LV5 b ad ao i) [] := by
  obtain ⟨hG, hRL, ⟨hao, hns, h33⟩, v0, hgo⟩ := hI
  have hW := hG.1.1
  have hbA : ¬ (fun q => s.heap.size ≤ q) b := Nat.not_le.mpr hbl
  refine j_aload_n G dL_law_836 rfl ?_
  refine j_aload_n G dL_law_837 rfl ?_
  refine j_iload G dL_law_838 rfl ?_
  refine j_iconst G dL_law_840 ?_
  refine j_iadd G dL_law_841 ?_
  refine j_sld G hX hbl hbA dL_law_842 (by omega) (by omega) hL ?_
  refine j_aload_n G dL_law_843 rfl ?_
  refine j_iload G dL_law_844 rfl ?_
  refine j_iconst G dL_law_846 ?_
  refine j_iadd G dL_law_847 ?_
  refine j_sld G hX hbl hbA dL_law_848 (by omega) (by omega) hL ?_
  refine j_aload_n G dL_law_849 rfl ?_
  refine j_callW (n := 4) G hN (TW_of 724 (by decide +kernel) (by decide +kernel)) (TW_of 71 (by decide +kernel) (by decide +kernel)) (TW_of 725 (by decide +kernel) (by decide +kernel)) ⟨by decide +kernel, by decide +kernel, by decide +kernel⟩ (TW_of 723 (by decide +kernel) (by decide +kernel)) (cw_goTo hi hst (SP.rf Z) hW (sv_in _ _) (sv_in _ _) hao hns hgo) dL_law_850 ⟨by decide, by decide⟩ ⟨by rw [r1c]; omega, by rw [r1s]; omega⟩ rfl rfl (Nat.le_of_ble_eq_true rfl) (fun k L1 g1 X1 Z1 h => ?_)
  obtain ⟨eL, eX, v9, eg, hA⟩ := h
  subst L1 X1 g1
  have hR1 : RMZ Z Z1 := hG.2.hi (hi_goTo hA)
  have hRL1 := hRL.out h33 hgo v9
  have hgo1 : va_up g ao (OUT cys v9) ao = OUT cys v9 := va_up_self _ _ _
  refine j_istore G dL_law_853 (by decide) rfl ?_
  refine j_aload_n G dL_law_855 rfl ?_
  refine j_aload_n G dL_law_856 rfl ?_
  refine j_iload G dL_law_857 rfl ?_
  refine j_iconst G dL_law_859 ?_
  refine j_iadd G dL_law_860 ?_
  refine j_sld G hX hbl hbA dL_law_861 (by omega) (by omega) hL ?_
  refine j_aload_n G dL_law_862 rfl ?_
  refine j_iload G dL_law_863 rfl ?_
  refine j_iconst G dL_law_865 ?_
  refine j_iadd G dL_law_866 ?_
  refine j_sld G hX hbl hbA dL_law_867 (by omega) (by omega) hL ?_
  refine j_cVIZ G cvX7_goTo mlL_164 (c_X7_goTo hi hR1 hW (sv_in _ _) (sv_in _ _)) dL_law_868 ⟨by decide, by decide⟩ ⟨by rw [r1c]; omega, by rw [r1s]; omega⟩ rfl rfl (Nat.le_of_ble_eq_true rfl) (by decide) rfl rfl rfl (fun x Z2 hB => ?_)
  have hag := ag_goTo hG hA hB
  have hRL2 := hag.2.1 cys ad _ _ hRL1
  refine j_istore G dL_law_871 (by decide) rfl ?_
  refine j_aload_n G dL_law_873 rfl ?_
  refine j_cVI G cvX7_thrown mlL_131 (c_X7_thrown hi) dL_law_874 ⟨by decide, by decide⟩ ⟨by rw [r1c]; omega, by rw [r1s]; omega⟩ rfl rfl (Nat.le_of_ble_eq_true rfl) (by decide) rfl rfl rfl (fun t ht => ?_)
  refine j_iload G dL_law_877 rfl ?_
  refine j_icmpS G 884 dL_law_879 (by decide) (ht.trans hag.2.2.1) ?_
  refine j_iload G dL_law_884 rfl ?_
  have hk02 := hag.2.2.2.2
  refine j_if_ne G 901 dL_law_886 (by decide) (by omega) (fun c0 => ?_) (fun c0 => ?_)
  · refine j_goto G 2578 dL_law_901 (by decide) ?_
    refine j_keep [0, 1, 2, 3, 4] ?_
    refine j_wid (cells' := cells + 200) (slots' := slots + 3000) (by omega) (by omega) ?_
    exact K _ _ _ _ ⟨hag.1, hRL2, ⟨hao, hns, h33⟩, v9, hgo1⟩
  · refine j_aload_n G dL_law_889 rfl ?_
    refine j_iconst G dL_law_890 ?_
    refine j_laldO G dL_law_891 hao hns hgo1 ?_
    refine j_iload G dL_law_892 rfl ?_
    refine j_i2l G dL_law_894 ?_
    refine j_lcmpS G dL_law_895 (hag.2.2.2.1 c0) ?_
    refine j_if_eq G 901 dL_law_896 (by decide) (by decide) (fun _ => ?_) (fun h => absurd rfl h)
    refine j_goto G 2578 dL_law_901 (by decide) ?_
    refine j_keep [0, 1, 2, 3, 4] ?_
    refine j_wid (cells' := cells + 200) (slots' := slots + 3000) (by omega) (by omega) ?_
    exact K _ _ _ _ ⟨hag.1, hRL2, ⟨hao, hns, h33⟩, v9, hgo1⟩
set_option maxRecDepth 100000 in
set_option maxHeartbeats 8000000 in
theorem case_10 {p : Program} {l : Launch} {e : Env} {s : State} {m : MethodId} {below : List Frame} {meth : Method} {c : Code} {Q : State → Prop} {D : va_G} {cys : Nat → ClassId} {ad : Nat → Int → Nat} {b Ls : Nat} {xs : Nat → Int32} (hi : injA ad) (hst : l.stackTraces = false) (G : GG p l s m #[Value.ref b] meth c D cys ad (fun q => s.heap.size ≤ q) code RL 9) (hN : NCS s) (hk4 : HK4 cys s) (hX : va_X b Ls xs s s.heap) (hbl : b < s.heap.size) (hL : Ls ≤ 2560) {L : List Nat} {g : Nat → va_E} {X : Int64} {Z : ZT} {ao : Nat} (hI : INV cys ad ao L g Z) {i : Int} (hi0 : 0 ≤ i) (hi5 : i + 5 ≤ Ls) {cells slots : Nat} (hc : cells + 200 ≤ 601024) (hs : slots + 3000 ≤ 7293034)
    (K : ∀ (L1 : List Nat) (g1 : Nat → va_E) (X1 : Int64) (Z1 : ZT), INV cys ad ao L1 g1 Z1 → JJ p l e room_1 s m #[Value.ref b] below meth c D cys ad (fun q => s.heap.size ≤ q) Q 9 (cells + 200) (slots + 3000) L1 g1 X1 Z1 2578 (LV5 b ad ao i) []) :
    JJ p l e room_1 s m #[Value.ref b] below meth c D cys ad (fun q => s.heap.size ≤ q) Q 9 cells slots L g X Z 904 (LV5 b ad ao i) [] := by
  obtain ⟨hG, hRL, ⟨hao, hns, h33⟩, v0, hgo⟩ := hI
  have hW := hG.1.1
  have hbA : ¬ (fun q => s.heap.size ≤ q) b := Nat.not_le.mpr hbl
  refine j_aload_n G dL_law_904 rfl ?_
  refine j_aload_n G dL_law_905 rfl ?_
  refine j_iload G dL_law_906 rfl ?_
  refine j_iconst G dL_law_908 ?_
  refine j_iadd G dL_law_909 ?_
  refine j_sld G hX hbl hbA dL_law_910 (by omega) (by omega) hL ?_
  refine j_aload_n G dL_law_911 rfl ?_
  refine j_callW (n := 3) G hN (TW_of 731 (by decide +kernel) (by decide +kernel)) (TW_of 71 (by decide +kernel) (by decide +kernel)) (TW_of 732 (by decide +kernel) (by decide +kernel)) ⟨by decide +kernel, by decide +kernel, by decide +kernel⟩ (TW_of 730 (by decide +kernel) (by decide +kernel)) (cw_goUp hi hst (SP.rf Z) hW (sv_in _ _) hao hns hgo) dL_law_912 ⟨by decide, by decide⟩ ⟨by rw [r1c]; omega, by rw [r1s]; omega⟩ rfl rfl (Nat.le_of_ble_eq_true rfl) (fun k L1 g1 X1 Z1 h => ?_)
  obtain ⟨eL, eX, v9, eg, hA⟩ := h
  subst L1 X1 g1
  have hR1 : RMZ Z Z1 := hG.2.hi (hi_goUp hA)
  have hRL1 := hRL.out h33 hgo v9
  have hgo1 : va_up g ao (OUT cys v9) ao = OUT cys v9 := va_up_self _ _ _
  refine j_istore G dL_law_915 (by decide) rfl ?_
  refine j_aload_n G dL_law_917 rfl ?_
  refine j_aload_n G dL_law_918 rfl ?_
  refine j_iload G dL_law_919 rfl ?_
  refine j_iconst G dL_law_921 ?_
  refine j_iadd G dL_law_922 ?_
  refine j_sld G hX hbl hbA dL_law_923 (by omega) (by omega) hL ?_
  refine j_cVIZ G cvX7_goUp mlL_167 (c_X7_goUp hi hR1 hW (sv_in _ _)) dL_law_924 ⟨by decide, by decide⟩ ⟨by rw [r1c]; omega, by rw [r1s]; omega⟩ rfl rfl (Nat.le_of_ble_eq_true rfl) (by decide) rfl rfl rfl (fun x Z2 hB => ?_)
  have hag := ag_goUp hG hA hB
  have hRL2 := hag.2.1 cys ad _ _ hRL1
  refine j_istore G dL_law_927 (by decide) rfl ?_
  refine j_aload_n G dL_law_929 rfl ?_
  refine j_cVI G cvX7_thrown mlL_131 (c_X7_thrown hi) dL_law_930 ⟨by decide, by decide⟩ ⟨by rw [r1c]; omega, by rw [r1s]; omega⟩ rfl rfl (Nat.le_of_ble_eq_true rfl) (by decide) rfl rfl rfl (fun t ht => ?_)
  refine j_iload G dL_law_933 rfl ?_
  refine j_icmpS G 940 dL_law_935 (by decide) (ht.trans hag.2.2.1) ?_
  refine j_iload G dL_law_940 rfl ?_
  have hk02 := hag.2.2.2.2
  refine j_if_ne G 957 dL_law_942 (by decide) (by omega) (fun c0 => ?_) (fun c0 => ?_)
  · refine j_goto G 2578 dL_law_957 (by decide) ?_
    refine j_keep [0, 1, 2, 3, 4] ?_
    refine j_wid (cells' := cells + 200) (slots' := slots + 3000) (by omega) (by omega) ?_
    exact K _ _ _ _ ⟨hag.1, hRL2, ⟨hao, hns, h33⟩, v9, hgo1⟩
  · refine j_aload_n G dL_law_945 rfl ?_
    refine j_iconst G dL_law_946 ?_
    refine j_laldO G dL_law_947 hao hns hgo1 ?_
    refine j_iload G dL_law_948 rfl ?_
    refine j_i2l G dL_law_950 ?_
    refine j_lcmpS G dL_law_951 (hag.2.2.2.1 c0) ?_
    refine j_if_eq G 957 dL_law_952 (by decide) (by decide) (fun _ => ?_) (fun h => absurd rfl h)
    refine j_goto G 2578 dL_law_957 (by decide) ?_
    refine j_keep [0, 1, 2, 3, 4] ?_
    refine j_wid (cells' := cells + 200) (slots' := slots + 3000) (by omega) (by omega) ?_
    exact K _ _ _ _ ⟨hag.1, hRL2, ⟨hao, hns, h33⟩, v9, hgo1⟩
set_option maxRecDepth 100000 in
set_option maxHeartbeats 8000000 in
theorem case_11 {p : Program} {l : Launch} {e : Env} {s : State} {m : MethodId} {below : List Frame} {meth : Method} {c : Code} {Q : State → Prop} {D : va_G} {cys : Nat → ClassId} {ad : Nat → Int → Nat} {b Ls : Nat} {xs : Nat → Int32} (hi : injA ad) (hst : l.stackTraces = false) (G : GG p l s m #[Value.ref b] meth c D cys ad (fun q => s.heap.size ≤ q) code RL 9) (hN : NCS s) (hk4 : HK4 cys s) (hX : va_X b Ls xs s s.heap) (hbl : b < s.heap.size) (hL : Ls ≤ 2560) {L : List Nat} {g : Nat → va_E} {X : Int64} {Z : ZT} {ao : Nat} (hI : INV cys ad ao L g Z) {i : Int} (hi0 : 0 ≤ i) (hi5 : i + 5 ≤ Ls) {cells slots : Nat} (hc : cells + 200 ≤ 601024) (hs : slots + 3000 ≤ 7293034)
    (K : ∀ (L1 : List Nat) (g1 : Nat → va_E) (X1 : Int64) (Z1 : ZT), INV cys ad ao L1 g1 Z1 → JJ p l e room_1 s m #[Value.ref b] below meth c D cys ad (fun q => s.heap.size ≤ q) Q 9 (cells + 200) (slots + 3000) L1 g1 X1 Z1 2578 (LV5 b ad ao i) []) :
    JJ p l e room_1 s m #[Value.ref b] below meth c D cys ad (fun q => s.heap.size ≤ q) Q 9 cells slots L g X Z 960 (LV5 b ad ao i) [] := by
  obtain ⟨hG, hRL, ⟨hao, hns, h33⟩, v0, hgo⟩ := hI
  have hW := hG.1.1
  have hbA : ¬ (fun q => s.heap.size ≤ q) b := Nat.not_le.mpr hbl
  refine j_aload_n G dL_law_960 rfl ?_
  refine j_aload_n G dL_law_961 rfl ?_
  refine j_iload G dL_law_962 rfl ?_
  refine j_iconst G dL_law_964 ?_
  refine j_iadd G dL_law_965 ?_
  refine j_sld G hX hbl hbA dL_law_966 (by omega) (by omega) hL ?_
  refine j_aload_n G dL_law_967 rfl ?_
  refine j_callW (n := 3) G hN (TW_of 738 (by decide +kernel) (by decide +kernel)) (TW_of 71 (by decide +kernel) (by decide +kernel)) (TW_of 739 (by decide +kernel) (by decide +kernel)) ⟨by decide +kernel, by decide +kernel, by decide +kernel⟩ (TW_of 737 (by decide +kernel) (by decide +kernel)) (cw_pointOf hi hst (SP.rf Z) hW (sv_in _ _) hao hns hgo) dL_law_968 ⟨by decide, by decide⟩ ⟨by rw [r1c]; omega, by rw [r1s]; omega⟩ rfl rfl (Nat.le_of_ble_eq_true rfl) (fun k L1 g1 X1 Z1 h => ?_)
  obtain ⟨eL, eX, v9, eg, hA⟩ := h
  subst L1 X1 g1
  have hR1 : RMZ Z Z1 := hG.2.hi (hi_pointOf hA)
  have hRL1 := hRL.out h33 hgo v9
  have hgo1 : va_up g ao (OUT cys v9) ao = OUT cys v9 := va_up_self _ _ _
  refine j_istore G dL_law_971 (by decide) rfl ?_
  refine j_aload_n G dL_law_973 rfl ?_
  refine j_aload_n G dL_law_974 rfl ?_
  refine j_iload G dL_law_975 rfl ?_
  refine j_iconst G dL_law_977 ?_
  refine j_iadd G dL_law_978 ?_
  refine j_sld G hX hbl hbA dL_law_979 (by omega) (by omega) hL ?_
  refine j_cVIZ G cvX7_pointOf mlL_170 (c_X7_pointOf hi hR1 hW (sv_in _ _)) dL_law_980 ⟨by decide, by decide⟩ ⟨by rw [r1c]; omega, by rw [r1s]; omega⟩ rfl rfl (Nat.le_of_ble_eq_true rfl) (by decide) rfl rfl rfl (fun x Z2 hB => ?_)
  have hag := ag_pointOf hG hA hB
  have hRL2 := hag.2.1 cys ad _ _ hRL1
  refine j_istore G dL_law_983 (by decide) rfl ?_
  refine j_aload_n G dL_law_985 rfl ?_
  refine j_cVI G cvX7_thrown mlL_131 (c_X7_thrown hi) dL_law_986 ⟨by decide, by decide⟩ ⟨by rw [r1c]; omega, by rw [r1s]; omega⟩ rfl rfl (Nat.le_of_ble_eq_true rfl) (by decide) rfl rfl rfl (fun t ht => ?_)
  refine j_iload G dL_law_989 rfl ?_
  refine j_icmpS G 996 dL_law_991 (by decide) (ht.trans hag.2.2.1) ?_
  refine j_iload G dL_law_996 rfl ?_
  have hk02 := hag.2.2.2.2
  refine j_if_ne G 1013 dL_law_998 (by decide) (by omega) (fun c0 => ?_) (fun c0 => ?_)
  · refine j_goto G 2578 dL_law_1013 (by decide) ?_
    refine j_keep [0, 1, 2, 3, 4] ?_
    refine j_wid (cells' := cells + 200) (slots' := slots + 3000) (by omega) (by omega) ?_
    exact K _ _ _ _ ⟨hag.1, hRL2, ⟨hao, hns, h33⟩, v9, hgo1⟩
  · refine j_aload_n G dL_law_1001 rfl ?_
    refine j_iconst G dL_law_1002 ?_
    refine j_laldO G dL_law_1003 hao hns hgo1 ?_
    refine j_iload G dL_law_1004 rfl ?_
    refine j_i2l G dL_law_1006 ?_
    refine j_lcmpS G dL_law_1007 (hag.2.2.2.1 c0) ?_
    refine j_if_eq G 1013 dL_law_1008 (by decide) (by decide) (fun _ => ?_) (fun h => absurd rfl h)
    refine j_goto G 2578 dL_law_1013 (by decide) ?_
    refine j_keep [0, 1, 2, 3, 4] ?_
    refine j_wid (cells' := cells + 200) (slots' := slots + 3000) (by omega) (by omega) ?_
    exact K _ _ _ _ ⟨hag.1, hRL2, ⟨hao, hns, h33⟩, v9, hgo1⟩
