theorem dL_law_648 : decode cL_law 648 = .ok (.ifCond .ne 15, 3) := by decide +kernel
theorem dL_law_651 : decode cL_law 651 = .ok (.aload_n 3, 1) := by decide +kernel
theorem dL_law_652 : decode cL_law 652 = .ok (.iconst 0, 1) := by decide +kernel
theorem dL_law_653 : decode cL_law 653 = .ok (.laload, 1) := by decide +kernel
theorem dL_law_654 : decode cL_law 654 = .ok (.iload 6, 2) := by decide +kernel
theorem dL_law_656 : decode cL_law 656 = .ok (.i2l, 1) := by decide +kernel
theorem dL_law_657 : decode cL_law 657 = .ok (.lcmp, 1) := by decide +kernel
theorem dL_law_658 : decode cL_law 658 = .ok (.ifCond .eq 5, 3) := by decide +kernel
theorem dL_law_663 : decode cL_law 663 = .ok (.goto 930, 3) := by decide +kernel
theorem dL_law_666 : decode cL_law 666 = .ok (.aload_n 1, 1) := by decide +kernel
theorem dL_law_667 : decode cL_law 667 = .ok (.aload_n 0, 1) := by decide +kernel
theorem dL_law_668 : decode cL_law 668 = .ok (.iload 4, 2) := by decide +kernel
theorem dL_law_670 : decode cL_law 670 = .ok (.iconst 1, 1) := by decide +kernel
theorem dL_law_671 : decode cL_law 671 = .ok (.iadd, 1) := by decide +kernel
theorem dL_law_672 : decode cL_law 672 = .ok (.iaload, 1) := by decide +kernel
theorem dL_law_673 : decode cL_law 673 = .ok (.aload_n 0, 1) := by decide +kernel
theorem dL_law_674 : decode cL_law 674 = .ok (.iload 4, 2) := by decide +kernel
theorem dL_law_676 : decode cL_law 676 = .ok (.iconst 2, 1) := by decide +kernel
theorem dL_law_677 : decode cL_law 677 = .ok (.iadd, 1) := by decide +kernel
theorem dL_law_678 : decode cL_law 678 = .ok (.iaload, 1) := by decide +kernel
theorem dL_law_679 : decode cL_law 679 = .ok (.aload_n 3, 1) := by decide +kernel
theorem dL_law_680 : decode cL_law 680 = .ok (.invokestatic 102, 3) := by decide +kernel
theorem dL_law_683 : decode cL_law 683 = .ok (.istore 5, 2) := by decide +kernel
theorem dL_law_685 : decode cL_law 685 = .ok (.aload_n 2, 1) := by decide +kernel
theorem dL_law_686 : decode cL_law 686 = .ok (.aload_n 0, 1) := by decide +kernel
theorem dL_law_687 : decode cL_law 687 = .ok (.iload 4, 2) := by decide +kernel
theorem dL_law_689 : decode cL_law 689 = .ok (.iconst 1, 1) := by decide +kernel
theorem dL_law_690 : decode cL_law 690 = .ok (.iadd, 1) := by decide +kernel
theorem dL_law_691 : decode cL_law 691 = .ok (.iaload, 1) := by decide +kernel
theorem dL_law_692 : decode cL_law 692 = .ok (.aload_n 0, 1) := by decide +kernel
theorem dL_law_693 : decode cL_law 693 = .ok (.iload 4, 2) := by decide +kernel
theorem dL_law_695 : decode cL_law 695 = .ok (.iconst 2, 1) := by decide +kernel
theorem dL_law_696 : decode cL_law 696 = .ok (.iadd, 1) := by decide +kernel
theorem dL_law_697 : decode cL_law 697 = .ok (.iaload, 1) := by decide +kernel
theorem dL_law_698 : decode cL_law 698 = .ok (.invokevirtual 104, 3) := by decide +kernel
theorem dL_law_701 : decode cL_law 701 = .ok (.istore 6, 2) := by decide +kernel
theorem dL_law_703 : decode cL_law 703 = .ok (.aload_n 2, 1) := by decide +kernel
theorem dL_law_704 : decode cL_law 704 = .ok (.invokevirtual 77, 3) := by decide +kernel
theorem dL_law_707 : decode cL_law 707 = .ok (.iload 5, 2) := by decide +kernel
theorem dL_law_709 : decode cL_law 709 = .ok (.if_icmp .eq 5, 3) := by decide +kernel
theorem dL_law_714 : decode cL_law 714 = .ok (.iload 5, 2) := by decide +kernel
theorem dL_law_716 : decode cL_law 716 = .ok (.ifCond .ne 15, 3) := by decide +kernel
theorem dL_law_719 : decode cL_law 719 = .ok (.aload_n 3, 1) := by decide +kernel
theorem dL_law_720 : decode cL_law 720 = .ok (.iconst 0, 1) := by decide +kernel
theorem dL_law_721 : decode cL_law 721 = .ok (.laload, 1) := by decide +kernel
theorem dL_law_722 : decode cL_law 722 = .ok (.iload 6, 2) := by decide +kernel
theorem dL_law_724 : decode cL_law 724 = .ok (.i2l, 1) := by decide +kernel
theorem dL_law_725 : decode cL_law 725 = .ok (.lcmp, 1) := by decide +kernel
theorem dL_law_726 : decode cL_law 726 = .ok (.ifCond .eq 5, 3) := by decide +kernel
theorem dL_law_731 : decode cL_law 731 = .ok (.goto 862, 3) := by decide +kernel
theorem dL_law_734 : decode cL_law 734 = .ok (.aload_n 1, 1) := by decide +kernel
theorem dL_law_735 : decode cL_law 735 = .ok (.aload_n 0, 1) := by decide +kernel
theorem dL_law_736 : decode cL_law 736 = .ok (.iload 4, 2) := by decide +kernel
theorem dL_law_738 : decode cL_law 738 = .ok (.iconst 1, 1) := by decide +kernel
theorem dL_law_739 : decode cL_law 739 = .ok (.iadd, 1) := by decide +kernel
theorem dL_law_740 : decode cL_law 740 = .ok (.iaload, 1) := by decide +kernel
theorem dL_law_741 : decode cL_law 741 = .ok (.aload_n 0, 1) := by decide +kernel
theorem dL_law_742 : decode cL_law 742 = .ok (.iload 4, 2) := by decide +kernel
theorem dL_law_744 : decode cL_law 744 = .ok (.iconst 2, 1) := by decide +kernel
theorem dL_law_745 : decode cL_law 745 = .ok (.iadd, 1) := by decide +kernel
theorem dL_law_746 : decode cL_law 746 = .ok (.iaload, 1) := by decide +kernel
theorem dL_law_747 : decode cL_law 747 = .ok (.aload_n 3, 1) := by decide +kernel
theorem dL_law_748 : decode cL_law 748 = .ok (.invokestatic 105, 3) := by decide +kernel
theorem dL_law_751 : decode cL_law 751 = .ok (.istore 5, 2) := by decide +kernel
theorem dL_law_753 : decode cL_law 753 = .ok (.aload_n 2, 1) := by decide +kernel
theorem dL_law_754 : decode cL_law 754 = .ok (.aload_n 0, 1) := by decide +kernel
theorem dL_law_755 : decode cL_law 755 = .ok (.iload 4, 2) := by decide +kernel
theorem dL_law_757 : decode cL_law 757 = .ok (.iconst 1, 1) := by decide +kernel
theorem dL_law_758 : decode cL_law 758 = .ok (.iadd, 1) := by decide +kernel
theorem dL_law_759 : decode cL_law 759 = .ok (.iaload, 1) := by decide +kernel
theorem dL_law_760 : decode cL_law 760 = .ok (.aload_n 0, 1) := by decide +kernel
theorem dL_law_761 : decode cL_law 761 = .ok (.iload 4, 2) := by decide +kernel
theorem dL_law_763 : decode cL_law 763 = .ok (.iconst 2, 1) := by decide +kernel
theorem dL_law_764 : decode cL_law 764 = .ok (.iadd, 1) := by decide +kernel
theorem dL_law_765 : decode cL_law 765 = .ok (.iaload, 1) := by decide +kernel
theorem dL_law_766 : decode cL_law 766 = .ok (.invokevirtual 107, 3) := by decide +kernel
theorem dL_law_769 : decode cL_law 769 = .ok (.istore 6, 2) := by decide +kernel
theorem dL_law_771 : decode cL_law 771 = .ok (.aload_n 2, 1) := by decide +kernel
theorem dL_law_772 : decode cL_law 772 = .ok (.invokevirtual 77, 3) := by decide +kernel
theorem dL_law_775 : decode cL_law 775 = .ok (.iload 5, 2) := by decide +kernel
theorem dL_law_777 : decode cL_law 777 = .ok (.if_icmp .eq 5, 3) := by decide +kernel
theorem dL_law_782 : decode cL_law 782 = .ok (.iload 5, 2) := by decide +kernel
theorem dL_law_784 : decode cL_law 784 = .ok (.ifCond .ne 15, 3) := by decide +kernel
theorem dL_law_787 : decode cL_law 787 = .ok (.aload_n 3, 1) := by decide +kernel
theorem dL_law_788 : decode cL_law 788 = .ok (.iconst 0, 1) := by decide +kernel
theorem dL_law_789 : decode cL_law 789 = .ok (.laload, 1) := by decide +kernel
theorem dL_law_790 : decode cL_law 790 = .ok (.iload 6, 2) := by decide +kernel
theorem dL_law_792 : decode cL_law 792 = .ok (.i2l, 1) := by decide +kernel
theorem dL_law_793 : decode cL_law 793 = .ok (.lcmp, 1) := by decide +kernel
theorem dL_law_794 : decode cL_law 794 = .ok (.ifCond .eq 5, 3) := by decide +kernel
theorem dL_law_799 : decode cL_law 799 = .ok (.goto 794, 3) := by decide +kernel
theorem dL_law_802 : decode cL_law 802 = .ok (.aload_n 1, 1) := by decide +kernel
theorem dL_law_803 : decode cL_law 803 = .ok (.aload_n 0, 1) := by decide +kernel
theorem dL_law_804 : decode cL_law 804 = .ok (.iload 4, 2) := by decide +kernel
theorem dL_law_806 : decode cL_law 806 = .ok (.iconst 1, 1) := by decide +kernel
theorem dL_law_807 : decode cL_law 807 = .ok (.iadd, 1) := by decide +kernel
theorem dL_law_808 : decode cL_law 808 = .ok (.iaload, 1) := by decide +kernel
theorem dL_law_809 : decode cL_law 809 = .ok (.aload_n 0, 1) := by decide +kernel
theorem dL_law_810 : decode cL_law 810 = .ok (.iload 4, 2) := by decide +kernel
theorem dL_law_812 : decode cL_law 812 = .ok (.iconst 2, 1) := by decide +kernel
theorem dL_law_813 : decode cL_law 813 = .ok (.iadd, 1) := by decide +kernel
theorem dL_law_814 : decode cL_law 814 = .ok (.iaload, 1) := by decide +kernel
theorem dL_law_815 : decode cL_law 815 = .ok (.aload_n 3, 1) := by decide +kernel
theorem dL_law_816 : decode cL_law 816 = .ok (.invokestatic 108, 3) := by decide +kernel
theorem dL_law_819 : decode cL_law 819 = .ok (.istore 5, 2) := by decide +kernel
theorem dL_law_821 : decode cL_law 821 = .ok (.aload_n 2, 1) := by decide +kernel
theorem dL_law_822 : decode cL_law 822 = .ok (.aload_n 0, 1) := by decide +kernel
theorem dL_law_823 : decode cL_law 823 = .ok (.iload 4, 2) := by decide +kernel
theorem dL_law_825 : decode cL_law 825 = .ok (.iconst 1, 1) := by decide +kernel
theorem dL_law_826 : decode cL_law 826 = .ok (.iadd, 1) := by decide +kernel
theorem dL_law_827 : decode cL_law 827 = .ok (.iaload, 1) := by decide +kernel
theorem dL_law_828 : decode cL_law 828 = .ok (.aload_n 0, 1) := by decide +kernel
theorem dL_law_829 : decode cL_law 829 = .ok (.iload 4, 2) := by decide +kernel
theorem dL_law_831 : decode cL_law 831 = .ok (.iconst 2, 1) := by decide +kernel
theorem dL_law_832 : decode cL_law 832 = .ok (.iadd, 1) := by decide +kernel
theorem dL_law_833 : decode cL_law 833 = .ok (.iaload, 1) := by decide +kernel
theorem dL_law_834 : decode cL_law 834 = .ok (.invokevirtual 110, 3) := by decide +kernel
theorem dL_law_837 : decode cL_law 837 = .ok (.istore 6, 2) := by decide +kernel
theorem dL_law_839 : decode cL_law 839 = .ok (.aload_n 2, 1) := by decide +kernel
theorem dL_law_840 : decode cL_law 840 = .ok (.invokevirtual 77, 3) := by decide +kernel
theorem dL_law_843 : decode cL_law 843 = .ok (.iload 5, 2) := by decide +kernel
theorem dL_law_845 : decode cL_law 845 = .ok (.if_icmp .eq 5, 3) := by decide +kernel
theorem dL_law_850 : decode cL_law 850 = .ok (.iload 5, 2) := by decide +kernel
theorem dL_law_852 : decode cL_law 852 = .ok (.ifCond .ne 15, 3) := by decide +kernel
theorem dL_law_855 : decode cL_law 855 = .ok (.aload_n 3, 1) := by decide +kernel
theorem dL_law_856 : decode cL_law 856 = .ok (.iconst 0, 1) := by decide +kernel
theorem dL_law_857 : decode cL_law 857 = .ok (.laload, 1) := by decide +kernel
theorem dL_law_858 : decode cL_law 858 = .ok (.iload 6, 2) := by decide +kernel
theorem dL_law_860 : decode cL_law 860 = .ok (.i2l, 1) := by decide +kernel
theorem dL_law_861 : decode cL_law 861 = .ok (.lcmp, 1) := by decide +kernel
theorem dL_law_862 : decode cL_law 862 = .ok (.ifCond .eq 5, 3) := by decide +kernel
theorem dL_law_867 : decode cL_law 867 = .ok (.goto 726, 3) := by decide +kernel
theorem dL_law_870 : decode cL_law 870 = .ok (.aload_n 1, 1) := by decide +kernel
theorem dL_law_871 : decode cL_law 871 = .ok (.aload_n 0, 1) := by decide +kernel
theorem dL_law_872 : decode cL_law 872 = .ok (.iload 4, 2) := by decide +kernel
theorem dL_law_874 : decode cL_law 874 = .ok (.iconst 1, 1) := by decide +kernel
theorem dL_law_875 : decode cL_law 875 = .ok (.iadd, 1) := by decide +kernel
theorem dL_law_876 : decode cL_law 876 = .ok (.iaload, 1) := by decide +kernel
theorem dL_law_877 : decode cL_law 877 = .ok (.aload_n 0, 1) := by decide +kernel
theorem dL_law_878 : decode cL_law 878 = .ok (.iload 4, 2) := by decide +kernel
theorem dL_law_880 : decode cL_law 880 = .ok (.iconst 2, 1) := by decide +kernel
theorem dL_law_881 : decode cL_law 881 = .ok (.iadd, 1) := by decide +kernel
theorem dL_law_882 : decode cL_law 882 = .ok (.iaload, 1) := by decide +kernel
theorem dL_law_883 : decode cL_law 883 = .ok (.aload_n 3, 1) := by decide +kernel
theorem dL_law_884 : decode cL_law 884 = .ok (.invokestatic 111, 3) := by decide +kernel
theorem dL_law_887 : decode cL_law 887 = .ok (.istore 5, 2) := by decide +kernel
theorem dL_law_889 : decode cL_law 889 = .ok (.aload_n 2, 1) := by decide +kernel
theorem dL_law_890 : decode cL_law 890 = .ok (.aload_n 0, 1) := by decide +kernel
theorem dL_law_891 : decode cL_law 891 = .ok (.iload 4, 2) := by decide +kernel
theorem dL_law_893 : decode cL_law 893 = .ok (.iconst 1, 1) := by decide +kernel
theorem dL_law_894 : decode cL_law 894 = .ok (.iadd, 1) := by decide +kernel
theorem dL_law_895 : decode cL_law 895 = .ok (.iaload, 1) := by decide +kernel
theorem dL_law_896 : decode cL_law 896 = .ok (.aload_n 0, 1) := by decide +kernel
theorem dL_law_897 : decode cL_law 897 = .ok (.iload 4, 2) := by decide +kernel
theorem dL_law_899 : decode cL_law 899 = .ok (.iconst 2, 1) := by decide +kernel
theorem dL_law_900 : decode cL_law 900 = .ok (.iadd, 1) := by decide +kernel
theorem dL_law_901 : decode cL_law 901 = .ok (.iaload, 1) := by decide +kernel
theorem dL_law_902 : decode cL_law 902 = .ok (.invokevirtual 113, 3) := by decide +kernel
theorem dL_law_905 : decode cL_law 905 = .ok (.istore 6, 2) := by decide +kernel
theorem dL_law_907 : decode cL_law 907 = .ok (.aload_n 2, 1) := by decide +kernel
theorem dL_law_908 : decode cL_law 908 = .ok (.invokevirtual 77, 3) := by decide +kernel
theorem dL_law_911 : decode cL_law 911 = .ok (.iload 5, 2) := by decide +kernel
theorem dL_law_913 : decode cL_law 913 = .ok (.if_icmp .eq 5, 3) := by decide +kernel
theorem dL_law_918 : decode cL_law 918 = .ok (.iload 5, 2) := by decide +kernel
theorem dL_law_920 : decode cL_law 920 = .ok (.ifCond .ne 15, 3) := by decide +kernel
theorem dL_law_923 : decode cL_law 923 = .ok (.aload_n 3, 1) := by decide +kernel
theorem dL_law_924 : decode cL_law 924 = .ok (.iconst 0, 1) := by decide +kernel
theorem dL_law_925 : decode cL_law 925 = .ok (.laload, 1) := by decide +kernel
theorem dL_law_926 : decode cL_law 926 = .ok (.iload 6, 2) := by decide +kernel
theorem dL_law_928 : decode cL_law 928 = .ok (.i2l, 1) := by decide +kernel
theorem dL_law_929 : decode cL_law 929 = .ok (.lcmp, 1) := by decide +kernel
theorem dL_law_930 : decode cL_law 930 = .ok (.ifCond .eq 5, 3) := by decide +kernel
theorem dL_law_935 : decode cL_law 935 = .ok (.goto 658, 3) := by decide +kernel
theorem dL_law_938 : decode cL_law 938 = .ok (.aload_n 1, 1) := by decide +kernel
theorem dL_law_939 : decode cL_law 939 = .ok (.aload_n 0, 1) := by decide +kernel
theorem dL_law_940 : decode cL_law 940 = .ok (.iload 4, 2) := by decide +kernel
theorem dL_law_942 : decode cL_law 942 = .ok (.iconst 1, 1) := by decide +kernel
theorem dL_law_943 : decode cL_law 943 = .ok (.iadd, 1) := by decide +kernel
theorem dL_law_944 : decode cL_law 944 = .ok (.iaload, 1) := by decide +kernel
theorem dL_law_945 : decode cL_law 945 = .ok (.aload_n 0, 1) := by decide +kernel
theorem dL_law_946 : decode cL_law 946 = .ok (.iload 4, 2) := by decide +kernel
theorem dL_law_948 : decode cL_law 948 = .ok (.iconst 2, 1) := by decide +kernel
theorem dL_law_949 : decode cL_law 949 = .ok (.iadd, 1) := by decide +kernel
theorem dL_law_950 : decode cL_law 950 = .ok (.iaload, 1) := by decide +kernel
theorem dL_law_951 : decode cL_law 951 = .ok (.aload_n 3, 1) := by decide +kernel
theorem dL_law_952 : decode cL_law 952 = .ok (.invokestatic 114, 3) := by decide +kernel
theorem dL_law_955 : decode cL_law 955 = .ok (.istore 5, 2) := by decide +kernel
theorem dL_law_957 : decode cL_law 957 = .ok (.aload_n 2, 1) := by decide +kernel
theorem dL_law_958 : decode cL_law 958 = .ok (.aload_n 0, 1) := by decide +kernel
theorem dL_law_959 : decode cL_law 959 = .ok (.iload 4, 2) := by decide +kernel
theorem dL_law_961 : decode cL_law 961 = .ok (.iconst 1, 1) := by decide +kernel
theorem dL_law_962 : decode cL_law 962 = .ok (.iadd, 1) := by decide +kernel
theorem dL_law_963 : decode cL_law 963 = .ok (.iaload, 1) := by decide +kernel
theorem dL_law_964 : decode cL_law 964 = .ok (.aload_n 0, 1) := by decide +kernel
theorem dL_law_965 : decode cL_law 965 = .ok (.iload 4, 2) := by decide +kernel
theorem dL_law_967 : decode cL_law 967 = .ok (.iconst 2, 1) := by decide +kernel
theorem dL_law_968 : decode cL_law 968 = .ok (.iadd, 1) := by decide +kernel
theorem dL_law_969 : decode cL_law 969 = .ok (.iaload, 1) := by decide +kernel
theorem dL_law_970 : decode cL_law 970 = .ok (.invokevirtual 116, 3) := by decide +kernel
theorem dL_law_973 : decode cL_law 973 = .ok (.istore 6, 2) := by decide +kernel
theorem dL_law_975 : decode cL_law 975 = .ok (.aload_n 2, 1) := by decide +kernel
theorem dL_law_976 : decode cL_law 976 = .ok (.invokevirtual 77, 3) := by decide +kernel
theorem dL_law_979 : decode cL_law 979 = .ok (.iload 5, 2) := by decide +kernel
theorem dL_law_981 : decode cL_law 981 = .ok (.if_icmp .eq 5, 3) := by decide +kernel
theorem dL_law_986 : decode cL_law 986 = .ok (.iload 5, 2) := by decide +kernel
theorem dL_law_988 : decode cL_law 988 = .ok (.ifCond .ne 15, 3) := by decide +kernel
theorem dL_law_991 : decode cL_law 991 = .ok (.aload_n 3, 1) := by decide +kernel
theorem dL_law_992 : decode cL_law 992 = .ok (.iconst 0, 1) := by decide +kernel
theorem dL_law_993 : decode cL_law 993 = .ok (.laload, 1) := by decide +kernel
theorem dL_law_994 : decode cL_law 994 = .ok (.iload 6, 2) := by decide +kernel
theorem dL_law_996 : decode cL_law 996 = .ok (.i2l, 1) := by decide +kernel
theorem dL_law_997 : decode cL_law 997 = .ok (.lcmp, 1) := by decide +kernel
theorem dL_law_998 : decode cL_law 998 = .ok (.ifCond .eq 5, 3) := by decide +kernel
theorem dL_law_1003 : decode cL_law 1003 = .ok (.goto 590, 3) := by decide +kernel
theorem dL_law_1006 : decode cL_law 1006 = .ok (.aload_n 1, 1) := by decide +kernel
theorem dL_law_1007 : decode cL_law 1007 = .ok (.aload_n 0, 1) := by decide +kernel
theorem dL_law_1008 : decode cL_law 1008 = .ok (.iload 4, 2) := by decide +kernel
theorem dL_law_1010 : decode cL_law 1010 = .ok (.iconst 1, 1) := by decide +kernel
theorem dL_law_1011 : decode cL_law 1011 = .ok (.iadd, 1) := by decide +kernel
theorem dL_law_1012 : decode cL_law 1012 = .ok (.iaload, 1) := by decide +kernel
theorem dL_law_1013 : decode cL_law 1013 = .ok (.aload_n 0, 1) := by decide +kernel
theorem dL_law_1014 : decode cL_law 1014 = .ok (.iload 4, 2) := by decide +kernel
theorem dL_law_1016 : decode cL_law 1016 = .ok (.iconst 2, 1) := by decide +kernel
theorem dL_law_1017 : decode cL_law 1017 = .ok (.iadd, 1) := by decide +kernel
theorem dL_law_1018 : decode cL_law 1018 = .ok (.iaload, 1) := by decide +kernel
theorem dL_law_1019 : decode cL_law 1019 = .ok (.aload_n 3, 1) := by decide +kernel
theorem dL_law_1020 : decode cL_law 1020 = .ok (.invokestatic 117, 3) := by decide +kernel
theorem dL_law_1023 : decode cL_law 1023 = .ok (.istore 5, 2) := by decide +kernel
theorem dL_law_1025 : decode cL_law 1025 = .ok (.aload_n 2, 1) := by decide +kernel
theorem dL_law_1026 : decode cL_law 1026 = .ok (.aload_n 0, 1) := by decide +kernel
theorem dL_law_1027 : decode cL_law 1027 = .ok (.iload 4, 2) := by decide +kernel
theorem dL_law_1029 : decode cL_law 1029 = .ok (.iconst 1, 1) := by decide +kernel
theorem dL_law_1030 : decode cL_law 1030 = .ok (.iadd, 1) := by decide +kernel
theorem dL_law_1031 : decode cL_law 1031 = .ok (.iaload, 1) := by decide +kernel
theorem dL_law_1032 : decode cL_law 1032 = .ok (.aload_n 0, 1) := by decide +kernel
theorem dL_law_1033 : decode cL_law 1033 = .ok (.iload 4, 2) := by decide +kernel
theorem dL_law_1035 : decode cL_law 1035 = .ok (.iconst 2, 1) := by decide +kernel
theorem dL_law_1036 : decode cL_law 1036 = .ok (.iadd, 1) := by decide +kernel
theorem dL_law_1037 : decode cL_law 1037 = .ok (.iaload, 1) := by decide +kernel
theorem dL_law_1038 : decode cL_law 1038 = .ok (.invokevirtual 119, 3) := by decide +kernel
theorem dL_law_1041 : decode cL_law 1041 = .ok (.istore 6, 2) := by decide +kernel
theorem dL_law_1043 : decode cL_law 1043 = .ok (.aload_n 2, 1) := by decide +kernel
theorem dL_law_1044 : decode cL_law 1044 = .ok (.invokevirtual 77, 3) := by decide +kernel
theorem dL_law_1047 : decode cL_law 1047 = .ok (.iload 5, 2) := by decide +kernel
theorem dL_law_1049 : decode cL_law 1049 = .ok (.if_icmp .eq 5, 3) := by decide +kernel
theorem dL_law_1054 : decode cL_law 1054 = .ok (.iload 5, 2) := by decide +kernel
theorem dL_law_1056 : decode cL_law 1056 = .ok (.ifCond .ne 15, 3) := by decide +kernel
theorem dL_law_1059 : decode cL_law 1059 = .ok (.aload_n 3, 1) := by decide +kernel
theorem dL_law_1060 : decode cL_law 1060 = .ok (.iconst 0, 1) := by decide +kernel
theorem dL_law_1061 : decode cL_law 1061 = .ok (.laload, 1) := by decide +kernel
theorem dL_law_1062 : decode cL_law 1062 = .ok (.iload 6, 2) := by decide +kernel
theorem dL_law_1064 : decode cL_law 1064 = .ok (.i2l, 1) := by decide +kernel
theorem dL_law_1065 : decode cL_law 1065 = .ok (.lcmp, 1) := by decide +kernel
theorem dL_law_1066 : decode cL_law 1066 = .ok (.ifCond .eq 5, 3) := by decide +kernel
theorem dL_law_1071 : decode cL_law 1071 = .ok (.goto 522, 3) := by decide +kernel
theorem dL_law_1074 : decode cL_law 1074 = .ok (.aload_n 1, 1) := by decide +kernel
theorem dL_law_1075 : decode cL_law 1075 = .ok (.aload_n 0, 1) := by decide +kernel
theorem dL_law_1076 : decode cL_law 1076 = .ok (.iload 4, 2) := by decide +kernel
theorem dL_law_1078 : decode cL_law 1078 = .ok (.iconst 1, 1) := by decide +kernel
theorem dL_law_1079 : decode cL_law 1079 = .ok (.iadd, 1) := by decide +kernel
theorem dL_law_1080 : decode cL_law 1080 = .ok (.iaload, 1) := by decide +kernel
theorem dL_law_1081 : decode cL_law 1081 = .ok (.aload_n 0, 1) := by decide +kernel
theorem dL_law_1082 : decode cL_law 1082 = .ok (.iload 4, 2) := by decide +kernel
theorem dL_law_1084 : decode cL_law 1084 = .ok (.iconst 2, 1) := by decide +kernel
theorem dL_law_1085 : decode cL_law 1085 = .ok (.iadd, 1) := by decide +kernel
theorem dL_law_1086 : decode cL_law 1086 = .ok (.iaload, 1) := by decide +kernel
theorem dL_law_1087 : decode cL_law 1087 = .ok (.aload_n 3, 1) := by decide +kernel
theorem dL_law_1088 : decode cL_law 1088 = .ok (.invokestatic 120, 3) := by decide +kernel
theorem dL_law_1091 : decode cL_law 1091 = .ok (.istore 5, 2) := by decide +kernel
theorem dL_law_1093 : decode cL_law 1093 = .ok (.aload_n 2, 1) := by decide +kernel
theorem dL_law_1094 : decode cL_law 1094 = .ok (.aload_n 0, 1) := by decide +kernel
theorem dL_law_1095 : decode cL_law 1095 = .ok (.iload 4, 2) := by decide +kernel
theorem dL_law_1097 : decode cL_law 1097 = .ok (.iconst 1, 1) := by decide +kernel
theorem dL_law_1098 : decode cL_law 1098 = .ok (.iadd, 1) := by decide +kernel
theorem dL_law_1099 : decode cL_law 1099 = .ok (.iaload, 1) := by decide +kernel
theorem dL_law_1100 : decode cL_law 1100 = .ok (.aload_n 0, 1) := by decide +kernel
theorem dL_law_1101 : decode cL_law 1101 = .ok (.iload 4, 2) := by decide +kernel
theorem dL_law_1103 : decode cL_law 1103 = .ok (.iconst 2, 1) := by decide +kernel
theorem dL_law_1104 : decode cL_law 1104 = .ok (.iadd, 1) := by decide +kernel
theorem dL_law_1105 : decode cL_law 1105 = .ok (.iaload, 1) := by decide +kernel
theorem dL_law_1106 : decode cL_law 1106 = .ok (.invokevirtual 122, 3) := by decide +kernel
theorem dL_law_1109 : decode cL_law 1109 = .ok (.istore 6, 2) := by decide +kernel
theorem dL_law_1111 : decode cL_law 1111 = .ok (.aload_n 2, 1) := by decide +kernel
theorem dL_law_1112 : decode cL_law 1112 = .ok (.invokevirtual 77, 3) := by decide +kernel
theorem dL_law_1115 : decode cL_law 1115 = .ok (.iload 5, 2) := by decide +kernel
theorem dL_law_1117 : decode cL_law 1117 = .ok (.if_icmp .eq 5, 3) := by decide +kernel
theorem dL_law_1122 : decode cL_law 1122 = .ok (.iload 5, 2) := by decide +kernel
theorem dL_law_1124 : decode cL_law 1124 = .ok (.ifCond .ne 15, 3) := by decide +kernel
theorem dL_law_1127 : decode cL_law 1127 = .ok (.aload_n 3, 1) := by decide +kernel
theorem dL_law_1128 : decode cL_law 1128 = .ok (.iconst 0, 1) := by decide +kernel
theorem dL_law_1129 : decode cL_law 1129 = .ok (.laload, 1) := by decide +kernel
theorem dL_law_1130 : decode cL_law 1130 = .ok (.iload 6, 2) := by decide +kernel
theorem dL_law_1132 : decode cL_law 1132 = .ok (.i2l, 1) := by decide +kernel
theorem dL_law_1133 : decode cL_law 1133 = .ok (.lcmp, 1) := by decide +kernel
theorem dL_law_1134 : decode cL_law 1134 = .ok (.ifCond .eq 5, 3) := by decide +kernel
theorem dL_law_1139 : decode cL_law 1139 = .ok (.goto 454, 3) := by decide +kernel
theorem dL_law_1142 : decode cL_law 1142 = .ok (.aload_n 1, 1) := by decide +kernel
theorem dL_law_1143 : decode cL_law 1143 = .ok (.aload_n 0, 1) := by decide +kernel
theorem dL_law_1144 : decode cL_law 1144 = .ok (.iload 4, 2) := by decide +kernel
theorem dL_law_1146 : decode cL_law 1146 = .ok (.iconst 1, 1) := by decide +kernel
theorem dL_law_1147 : decode cL_law 1147 = .ok (.iadd, 1) := by decide +kernel
