-- the law, on
theorem d_L_law_659 : decode b_L_law 659 = .ok (.iadd, 1) := by decide +kernel
theorem d_L_law_660 : decode b_L_law 660 = .ok (.iaload, 1) := by decide +kernel
theorem d_L_law_661 : decode b_L_law 661 = .ok (.invokevirtual 98, 3) := by decide +kernel
theorem d_L_law_664 : decode b_L_law 664 = .ok (.lstore 6, 2) := by decide +kernel
theorem d_L_law_666 : decode b_L_law 666 = .ok (.aload_n 2, 1) := by decide +kernel
theorem d_L_law_667 : decode b_L_law 667 = .ok (.invokevirtual 76, 3) := by decide +kernel
theorem d_L_law_670 : decode b_L_law 670 = .ok (.iload 5, 2) := by decide +kernel
theorem d_L_law_672 : decode b_L_law 672 = .ok (.if_icmp .eq 5, 3) := by decide +kernel
theorem d_L_law_675 : decode b_L_law 675 = .ok (.iconst 0, 1) := by decide +kernel
theorem d_L_law_676 : decode b_L_law 676 = .ok (.ireturn, 1) := by decide +kernel
theorem d_L_law_677 : decode b_L_law 677 = .ok (.iload 5, 2) := by decide +kernel
theorem d_L_law_679 : decode b_L_law 679 = .ok (.ifCond .ne 14, 3) := by decide +kernel
theorem d_L_law_682 : decode b_L_law 682 = .ok (.aload_n 3, 1) := by decide +kernel
theorem d_L_law_683 : decode b_L_law 683 = .ok (.iconst 0, 1) := by decide +kernel
theorem d_L_law_684 : decode b_L_law 684 = .ok (.laload, 1) := by decide +kernel
theorem d_L_law_685 : decode b_L_law 685 = .ok (.lload 6, 2) := by decide +kernel
theorem d_L_law_687 : decode b_L_law 687 = .ok (.lcmp, 1) := by decide +kernel
theorem d_L_law_688 : decode b_L_law 688 = .ok (.ifCond .eq 5, 3) := by decide +kernel
theorem d_L_law_691 : decode b_L_law 691 = .ok (.iconst 0, 1) := by decide +kernel
theorem d_L_law_692 : decode b_L_law 692 = .ok (.ireturn, 1) := by decide +kernel
theorem d_L_law_693 : decode b_L_law 693 = .ok (.goto 459, 3) := by decide +kernel
theorem d_L_law_696 : decode b_L_law 696 = .ok (.aload_n 1, 1) := by decide +kernel
theorem d_L_law_697 : decode b_L_law 697 = .ok (.aload_n 0, 1) := by decide +kernel
theorem d_L_law_698 : decode b_L_law 698 = .ok (.iload 4, 2) := by decide +kernel
theorem d_L_law_700 : decode b_L_law 700 = .ok (.iconst 1, 1) := by decide +kernel
theorem d_L_law_701 : decode b_L_law 701 = .ok (.iadd, 1) := by decide +kernel
theorem d_L_law_702 : decode b_L_law 702 = .ok (.iaload, 1) := by decide +kernel
theorem d_L_law_703 : decode b_L_law 703 = .ok (.aload_n 0, 1) := by decide +kernel
theorem d_L_law_704 : decode b_L_law 704 = .ok (.iload 4, 2) := by decide +kernel
theorem d_L_law_706 : decode b_L_law 706 = .ok (.iconst 2, 1) := by decide +kernel
theorem d_L_law_707 : decode b_L_law 707 = .ok (.iadd, 1) := by decide +kernel
theorem d_L_law_708 : decode b_L_law 708 = .ok (.iaload, 1) := by decide +kernel
theorem d_L_law_709 : decode b_L_law 709 = .ok (.aload_n 0, 1) := by decide +kernel
theorem d_L_law_710 : decode b_L_law 710 = .ok (.iload 4, 2) := by decide +kernel
theorem d_L_law_712 : decode b_L_law 712 = .ok (.iconst 3, 1) := by decide +kernel
theorem d_L_law_713 : decode b_L_law 713 = .ok (.iadd, 1) := by decide +kernel
theorem d_L_law_714 : decode b_L_law 714 = .ok (.iaload, 1) := by decide +kernel
theorem d_L_law_715 : decode b_L_law 715 = .ok (.aload_n 3, 1) := by decide +kernel
theorem d_L_law_716 : decode b_L_law 716 = .ok (.invokestatic 99, 3) := by decide +kernel
theorem d_L_law_719 : decode b_L_law 719 = .ok (.istore 5, 2) := by decide +kernel
theorem d_L_law_721 : decode b_L_law 721 = .ok (.aload_n 2, 1) := by decide +kernel
theorem d_L_law_722 : decode b_L_law 722 = .ok (.aload_n 0, 1) := by decide +kernel
theorem d_L_law_723 : decode b_L_law 723 = .ok (.iload 4, 2) := by decide +kernel
theorem d_L_law_725 : decode b_L_law 725 = .ok (.iconst 1, 1) := by decide +kernel
theorem d_L_law_726 : decode b_L_law 726 = .ok (.iadd, 1) := by decide +kernel
theorem d_L_law_727 : decode b_L_law 727 = .ok (.iaload, 1) := by decide +kernel
theorem d_L_law_728 : decode b_L_law 728 = .ok (.aload_n 0, 1) := by decide +kernel
theorem d_L_law_729 : decode b_L_law 729 = .ok (.iload 4, 2) := by decide +kernel
theorem d_L_law_731 : decode b_L_law 731 = .ok (.iconst 2, 1) := by decide +kernel
theorem d_L_law_732 : decode b_L_law 732 = .ok (.iadd, 1) := by decide +kernel
theorem d_L_law_733 : decode b_L_law 733 = .ok (.iaload, 1) := by decide +kernel
theorem d_L_law_734 : decode b_L_law 734 = .ok (.aload_n 0, 1) := by decide +kernel
theorem d_L_law_735 : decode b_L_law 735 = .ok (.iload 4, 2) := by decide +kernel
theorem d_L_law_737 : decode b_L_law 737 = .ok (.iconst 3, 1) := by decide +kernel
theorem d_L_law_738 : decode b_L_law 738 = .ok (.iadd, 1) := by decide +kernel
theorem d_L_law_739 : decode b_L_law 739 = .ok (.iaload, 1) := by decide +kernel
theorem d_L_law_740 : decode b_L_law 740 = .ok (.invokevirtual 101, 3) := by decide +kernel
theorem d_L_law_743 : decode b_L_law 743 = .ok (.lstore 6, 2) := by decide +kernel
theorem d_L_law_745 : decode b_L_law 745 = .ok (.aload_n 2, 1) := by decide +kernel
theorem d_L_law_746 : decode b_L_law 746 = .ok (.invokevirtual 76, 3) := by decide +kernel
theorem d_L_law_749 : decode b_L_law 749 = .ok (.iload 5, 2) := by decide +kernel
theorem d_L_law_751 : decode b_L_law 751 = .ok (.if_icmp .eq 5, 3) := by decide +kernel
theorem d_L_law_754 : decode b_L_law 754 = .ok (.iconst 0, 1) := by decide +kernel
theorem d_L_law_755 : decode b_L_law 755 = .ok (.ireturn, 1) := by decide +kernel
theorem d_L_law_756 : decode b_L_law 756 = .ok (.iload 5, 2) := by decide +kernel
theorem d_L_law_758 : decode b_L_law 758 = .ok (.ifCond .ne 14, 3) := by decide +kernel
theorem d_L_law_761 : decode b_L_law 761 = .ok (.aload_n 3, 1) := by decide +kernel
theorem d_L_law_762 : decode b_L_law 762 = .ok (.iconst 0, 1) := by decide +kernel
theorem d_L_law_763 : decode b_L_law 763 = .ok (.laload, 1) := by decide +kernel
theorem d_L_law_764 : decode b_L_law 764 = .ok (.lload 6, 2) := by decide +kernel
theorem d_L_law_766 : decode b_L_law 766 = .ok (.lcmp, 1) := by decide +kernel
theorem d_L_law_767 : decode b_L_law 767 = .ok (.ifCond .eq 5, 3) := by decide +kernel
theorem d_L_law_770 : decode b_L_law 770 = .ok (.iconst 0, 1) := by decide +kernel
theorem d_L_law_771 : decode b_L_law 771 = .ok (.ireturn, 1) := by decide +kernel
theorem d_L_law_772 : decode b_L_law 772 = .ok (.goto 380, 3) := by decide +kernel
theorem d_L_law_775 : decode b_L_law 775 = .ok (.aload_n 1, 1) := by decide +kernel
theorem d_L_law_776 : decode b_L_law 776 = .ok (.invokevirtual 102, 3) := by decide +kernel
theorem d_L_law_779 : decode b_L_law 779 = .ok (.aload_n 2, 1) := by decide +kernel
theorem d_L_law_780 : decode b_L_law 780 = .ok (.invokevirtual 106, 3) := by decide +kernel
theorem d_L_law_783 : decode b_L_law 783 = .ok (.lcmp, 1) := by decide +kernel
theorem d_L_law_784 : decode b_L_law 784 = .ok (.ifCond .eq 368, 3) := by decide +kernel
theorem d_L_law_787 : decode b_L_law 787 = .ok (.iconst 0, 1) := by decide +kernel
theorem d_L_law_788 : decode b_L_law 788 = .ok (.ireturn, 1) := by decide +kernel
theorem d_L_law_789 : decode b_L_law 789 = .ok (.aload_n 1, 1) := by decide +kernel
theorem d_L_law_790 : decode b_L_law 790 = .ok (.aload_n 0, 1) := by decide +kernel
theorem d_L_law_791 : decode b_L_law 791 = .ok (.iload 4, 2) := by decide +kernel
theorem d_L_law_793 : decode b_L_law 793 = .ok (.iconst 1, 1) := by decide +kernel
theorem d_L_law_794 : decode b_L_law 794 = .ok (.iadd, 1) := by decide +kernel
theorem d_L_law_795 : decode b_L_law 795 = .ok (.iaload, 1) := by decide +kernel
theorem d_L_law_796 : decode b_L_law 796 = .ok (.aload_n 3, 1) := by decide +kernel
theorem d_L_law_797 : decode b_L_law 797 = .ok (.invokestatic 107, 3) := by decide +kernel
theorem d_L_law_800 : decode b_L_law 800 = .ok (.istore 5, 2) := by decide +kernel
theorem d_L_law_802 : decode b_L_law 802 = .ok (.aload_n 2, 1) := by decide +kernel
theorem d_L_law_803 : decode b_L_law 803 = .ok (.aload_n 0, 1) := by decide +kernel
theorem d_L_law_804 : decode b_L_law 804 = .ok (.iload 4, 2) := by decide +kernel
theorem d_L_law_806 : decode b_L_law 806 = .ok (.iconst 1, 1) := by decide +kernel
theorem d_L_law_807 : decode b_L_law 807 = .ok (.iadd, 1) := by decide +kernel
theorem d_L_law_808 : decode b_L_law 808 = .ok (.iaload, 1) := by decide +kernel
theorem d_L_law_809 : decode b_L_law 809 = .ok (.invokevirtual 110, 3) := by decide +kernel
theorem d_L_law_812 : decode b_L_law 812 = .ok (.lstore 6, 2) := by decide +kernel
theorem d_L_law_814 : decode b_L_law 814 = .ok (.aload_n 2, 1) := by decide +kernel
theorem d_L_law_815 : decode b_L_law 815 = .ok (.invokevirtual 76, 3) := by decide +kernel
theorem d_L_law_818 : decode b_L_law 818 = .ok (.iload 5, 2) := by decide +kernel
theorem d_L_law_820 : decode b_L_law 820 = .ok (.if_icmp .eq 5, 3) := by decide +kernel
theorem d_L_law_823 : decode b_L_law 823 = .ok (.iconst 0, 1) := by decide +kernel
theorem d_L_law_824 : decode b_L_law 824 = .ok (.ireturn, 1) := by decide +kernel
theorem d_L_law_825 : decode b_L_law 825 = .ok (.iload 5, 2) := by decide +kernel
theorem d_L_law_827 : decode b_L_law 827 = .ok (.ifCond .ne 14, 3) := by decide +kernel
theorem d_L_law_830 : decode b_L_law 830 = .ok (.aload_n 3, 1) := by decide +kernel
theorem d_L_law_831 : decode b_L_law 831 = .ok (.iconst 0, 1) := by decide +kernel
theorem d_L_law_832 : decode b_L_law 832 = .ok (.laload, 1) := by decide +kernel
theorem d_L_law_833 : decode b_L_law 833 = .ok (.lload 6, 2) := by decide +kernel
theorem d_L_law_835 : decode b_L_law 835 = .ok (.lcmp, 1) := by decide +kernel
theorem d_L_law_836 : decode b_L_law 836 = .ok (.ifCond .eq 5, 3) := by decide +kernel
theorem d_L_law_839 : decode b_L_law 839 = .ok (.iconst 0, 1) := by decide +kernel
theorem d_L_law_840 : decode b_L_law 840 = .ok (.ireturn, 1) := by decide +kernel
theorem d_L_law_841 : decode b_L_law 841 = .ok (.goto 311, 3) := by decide +kernel
theorem d_L_law_844 : decode b_L_law 844 = .ok (.aload_n 1, 1) := by decide +kernel
theorem d_L_law_845 : decode b_L_law 845 = .ok (.aload_n 0, 1) := by decide +kernel
theorem d_L_law_846 : decode b_L_law 846 = .ok (.iload 4, 2) := by decide +kernel
theorem d_L_law_848 : decode b_L_law 848 = .ok (.iconst 1, 1) := by decide +kernel
theorem d_L_law_849 : decode b_L_law 849 = .ok (.iadd, 1) := by decide +kernel
theorem d_L_law_850 : decode b_L_law 850 = .ok (.iaload, 1) := by decide +kernel
theorem d_L_law_851 : decode b_L_law 851 = .ok (.aload_n 3, 1) := by decide +kernel
theorem d_L_law_852 : decode b_L_law 852 = .ok (.invokestatic 111, 3) := by decide +kernel
theorem d_L_law_855 : decode b_L_law 855 = .ok (.istore 5, 2) := by decide +kernel
theorem d_L_law_857 : decode b_L_law 857 = .ok (.aload_n 2, 1) := by decide +kernel
theorem d_L_law_858 : decode b_L_law 858 = .ok (.aload_n 0, 1) := by decide +kernel
theorem d_L_law_859 : decode b_L_law 859 = .ok (.iload 4, 2) := by decide +kernel
theorem d_L_law_861 : decode b_L_law 861 = .ok (.iconst 1, 1) := by decide +kernel
theorem d_L_law_862 : decode b_L_law 862 = .ok (.iadd, 1) := by decide +kernel
theorem d_L_law_863 : decode b_L_law 863 = .ok (.iaload, 1) := by decide +kernel
theorem d_L_law_864 : decode b_L_law 864 = .ok (.invokevirtual 113, 3) := by decide +kernel
theorem d_L_law_867 : decode b_L_law 867 = .ok (.istore 6, 2) := by decide +kernel
theorem d_L_law_869 : decode b_L_law 869 = .ok (.aload_n 2, 1) := by decide +kernel
theorem d_L_law_870 : decode b_L_law 870 = .ok (.invokevirtual 76, 3) := by decide +kernel
theorem d_L_law_873 : decode b_L_law 873 = .ok (.iload 5, 2) := by decide +kernel
theorem d_L_law_875 : decode b_L_law 875 = .ok (.if_icmp .eq 5, 3) := by decide +kernel
theorem d_L_law_878 : decode b_L_law 878 = .ok (.iconst 0, 1) := by decide +kernel
theorem d_L_law_879 : decode b_L_law 879 = .ok (.ireturn, 1) := by decide +kernel
theorem d_L_law_880 : decode b_L_law 880 = .ok (.iload 5, 2) := by decide +kernel
theorem d_L_law_882 : decode b_L_law 882 = .ok (.ifCond .ne 15, 3) := by decide +kernel
theorem d_L_law_885 : decode b_L_law 885 = .ok (.aload_n 3, 1) := by decide +kernel
theorem d_L_law_886 : decode b_L_law 886 = .ok (.iconst 0, 1) := by decide +kernel
theorem d_L_law_887 : decode b_L_law 887 = .ok (.laload, 1) := by decide +kernel
theorem d_L_law_888 : decode b_L_law 888 = .ok (.iload 6, 2) := by decide +kernel
theorem d_L_law_890 : decode b_L_law 890 = .ok (.i2l, 1) := by decide +kernel
theorem d_L_law_891 : decode b_L_law 891 = .ok (.lcmp, 1) := by decide +kernel
theorem d_L_law_892 : decode b_L_law 892 = .ok (.ifCond .eq 5, 3) := by decide +kernel
theorem d_L_law_895 : decode b_L_law 895 = .ok (.iconst 0, 1) := by decide +kernel
theorem d_L_law_896 : decode b_L_law 896 = .ok (.ireturn, 1) := by decide +kernel
theorem d_L_law_897 : decode b_L_law 897 = .ok (.goto 255, 3) := by decide +kernel
theorem d_L_law_900 : decode b_L_law 900 = .ok (.aload_n 1, 1) := by decide +kernel
theorem d_L_law_901 : decode b_L_law 901 = .ok (.aload_n 0, 1) := by decide +kernel
theorem d_L_law_902 : decode b_L_law 902 = .ok (.iload 4, 2) := by decide +kernel
theorem d_L_law_904 : decode b_L_law 904 = .ok (.iconst 1, 1) := by decide +kernel
theorem d_L_law_905 : decode b_L_law 905 = .ok (.iadd, 1) := by decide +kernel
theorem d_L_law_906 : decode b_L_law 906 = .ok (.iaload, 1) := by decide +kernel
theorem d_L_law_907 : decode b_L_law 907 = .ok (.aload_n 3, 1) := by decide +kernel
theorem d_L_law_908 : decode b_L_law 908 = .ok (.invokestatic 114, 3) := by decide +kernel
theorem d_L_law_911 : decode b_L_law 911 = .ok (.istore 5, 2) := by decide +kernel
theorem d_L_law_913 : decode b_L_law 913 = .ok (.aload_n 2, 1) := by decide +kernel
theorem d_L_law_914 : decode b_L_law 914 = .ok (.aload_n 0, 1) := by decide +kernel
theorem d_L_law_915 : decode b_L_law 915 = .ok (.iload 4, 2) := by decide +kernel
theorem d_L_law_917 : decode b_L_law 917 = .ok (.iconst 1, 1) := by decide +kernel
theorem d_L_law_918 : decode b_L_law 918 = .ok (.iadd, 1) := by decide +kernel
theorem d_L_law_919 : decode b_L_law 919 = .ok (.iaload, 1) := by decide +kernel
theorem d_L_law_920 : decode b_L_law 920 = .ok (.invokevirtual 116, 3) := by decide +kernel
theorem d_L_law_923 : decode b_L_law 923 = .ok (.istore 6, 2) := by decide +kernel
theorem d_L_law_925 : decode b_L_law 925 = .ok (.aload_n 2, 1) := by decide +kernel
theorem d_L_law_926 : decode b_L_law 926 = .ok (.invokevirtual 76, 3) := by decide +kernel
theorem d_L_law_929 : decode b_L_law 929 = .ok (.iload 5, 2) := by decide +kernel
theorem d_L_law_931 : decode b_L_law 931 = .ok (.if_icmp .eq 5, 3) := by decide +kernel
theorem d_L_law_934 : decode b_L_law 934 = .ok (.iconst 0, 1) := by decide +kernel
theorem d_L_law_935 : decode b_L_law 935 = .ok (.ireturn, 1) := by decide +kernel
theorem d_L_law_936 : decode b_L_law 936 = .ok (.iload 5, 2) := by decide +kernel
theorem d_L_law_938 : decode b_L_law 938 = .ok (.ifCond .ne 15, 3) := by decide +kernel
theorem d_L_law_941 : decode b_L_law 941 = .ok (.aload_n 3, 1) := by decide +kernel
theorem d_L_law_942 : decode b_L_law 942 = .ok (.iconst 0, 1) := by decide +kernel
theorem d_L_law_943 : decode b_L_law 943 = .ok (.laload, 1) := by decide +kernel

