theorem dL_law_679 : decode cL_law 679 = .ok (.if_icmp .ge 27, 3) := by decide +kernel
theorem dL_law_682 : decode cL_law 682 = .ok (.aload_n 1, 1) := by decide +kernel
theorem dL_law_683 : decode cL_law 683 = .ok (.iload 11, 2) := by decide +kernel
theorem dL_law_685 : decode cL_law 685 = .ok (.iload 16, 2) := by decide +kernel
theorem dL_law_687 : decode cL_law 687 = .ok (.invokevirtual 132, 3) := by decide +kernel
theorem dL_law_690 : decode cL_law 690 = .ok (.aload 15, 2) := by decide +kernel
theorem dL_law_692 : decode cL_law 692 = .ok (.iload 16, 2) := by decide +kernel
theorem dL_law_694 : decode cL_law 694 = .ok (.iaload, 1) := by decide +kernel
theorem dL_law_695 : decode cL_law 695 = .ok (.if_icmp .eq 5, 3) := by decide +kernel
theorem dL_law_698 : decode cL_law 698 = .ok (.iconst 0, 1) := by decide +kernel
theorem dL_law_699 : decode cL_law 699 = .ok (.ireturn, 1) := by decide +kernel
theorem dL_law_700 : decode cL_law 700 = .ok (.iinc 16 1, 3) := by decide +kernel
theorem dL_law_703 : decode cL_law 703 = .ok (.goto (-28), 3) := by decide +kernel
theorem dL_law_706 : decode cL_law 706 = .ok (.aload_n 1, 1) := by decide +kernel
theorem dL_law_707 : decode cL_law 707 = .ok (.iload 11, 2) := by decide +kernel
theorem dL_law_709 : decode cL_law 709 = .ok (.iconst 1, 1) := by decide +kernel
theorem dL_law_710 : decode cL_law 710 = .ok (.invokevirtual 54, 3) := by decide +kernel
theorem dL_law_713 : decode cL_law 713 = .ok (.aload_n 2, 1) := by decide +kernel
theorem dL_law_714 : decode cL_law 714 = .ok (.getfield 31, 3) := by decide +kernel
theorem dL_law_717 : decode cL_law 717 = .ok (.iload 11, 2) := by decide +kernel
theorem dL_law_719 : decode cL_law 719 = .ok (.aaload, 1) := by decide +kernel
theorem dL_law_720 : decode cL_law 720 = .ok (.iconst 0, 1) := by decide +kernel
theorem dL_law_721 : decode cL_law 721 = .ok (.iaload, 1) := by decide +kernel
theorem dL_law_722 : decode cL_law 722 = .ok (.if_icmp .ne 13, 3) := by decide +kernel
theorem dL_law_725 : decode cL_law 725 = .ok (.aload_n 1, 1) := by decide +kernel
theorem dL_law_726 : decode cL_law 726 = .ok (.invokevirtual 116, 3) := by decide +kernel
theorem dL_law_729 : decode cL_law 729 = .ok (.lload 5, 2) := by decide +kernel
theorem dL_law_731 : decode cL_law 731 = .ok (.lcmp, 1) := by decide +kernel
theorem dL_law_732 : decode cL_law 732 = .ok (.ifCond .eq 5, 3) := by decide +kernel
theorem dL_law_735 : decode cL_law 735 = .ok (.iconst 0, 1) := by decide +kernel
theorem dL_law_736 : decode cL_law 736 = .ok (.ireturn, 1) := by decide +kernel
theorem dL_law_737 : decode cL_law 737 = .ok (.aload_n 1, 1) := by decide +kernel
theorem dL_law_738 : decode cL_law 738 = .ok (.iload 11, 2) := by decide +kernel
theorem dL_law_740 : decode cL_law 740 = .ok (.invokevirtual 61, 3) := by decide +kernel
theorem dL_law_743 : decode cL_law 743 = .ok (.istore 16, 2) := by decide +kernel
theorem dL_law_745 : decode cL_law 745 = .ok (.aload_n 1, 1) := by decide +kernel
theorem dL_law_746 : decode cL_law 746 = .ok (.iload 11, 2) := by decide +kernel
theorem dL_law_748 : decode cL_law 748 = .ok (.invokevirtual 61, 3) := by decide +kernel
theorem dL_law_751 : decode cL_law 751 = .ok (.iload 16, 2) := by decide +kernel
theorem dL_law_753 : decode cL_law 753 = .ok (.if_icmp .ne 13, 3) := by decide +kernel
theorem dL_law_756 : decode cL_law 756 = .ok (.aload_n 1, 1) := by decide +kernel
theorem dL_law_757 : decode cL_law 757 = .ok (.invokevirtual 116, 3) := by decide +kernel
theorem dL_law_760 : decode cL_law 760 = .ok (.lload 5, 2) := by decide +kernel
theorem dL_law_762 : decode cL_law 762 = .ok (.lcmp, 1) := by decide +kernel
theorem dL_law_763 : decode cL_law 763 = .ok (.ifCond .eq 5, 3) := by decide +kernel
theorem dL_law_766 : decode cL_law 766 = .ok (.iconst 0, 1) := by decide +kernel
theorem dL_law_767 : decode cL_law 767 = .ok (.ireturn, 1) := by decide +kernel
theorem dL_law_768 : decode cL_law 768 = .ok (.iload 4, 2) := by decide +kernel
theorem dL_law_770 : decode cL_law 770 = .ok (.bipush 7, 2) := by decide +kernel
theorem dL_law_772 : decode cL_law 772 = .ok (.ishr, 1) := by decide +kernel
theorem dL_law_773 : decode cL_law 773 = .ok (.iload 7, 2) := by decide +kernel
theorem dL_law_775 : decode cL_law 775 = .ok (.invokestatic 9, 3) := by decide +kernel
theorem dL_law_778 : decode cL_law 778 = .ok (.istore 17, 2) := by decide +kernel
theorem dL_law_780 : decode cL_law 780 = .ok (.iload 11, 2) := by decide +kernel
theorem dL_law_782 : decode cL_law 782 = .ok (.iconst 1, 1) := by decide +kernel
theorem dL_law_783 : decode cL_law 783 = .ok (.iadd, 1) := by decide +kernel
theorem dL_law_784 : decode cL_law 784 = .ok (.iload 4, 2) := by decide +kernel
theorem dL_law_786 : decode cL_law 786 = .ok (.iconst 5, 1) := by decide +kernel
theorem dL_law_787 : decode cL_law 787 = .ok (.ishr, 1) := by decide +kernel
theorem dL_law_788 : decode cL_law 788 = .ok (.iconst 3, 1) := by decide +kernel
theorem dL_law_789 : decode cL_law 789 = .ok (.invokestatic 9, 3) := by decide +kernel
theorem dL_law_792 : decode cL_law 792 = .ok (.iadd, 1) := by decide +kernel
theorem dL_law_793 : decode cL_law 793 = .ok (.iconst 4, 1) := by decide +kernel
theorem dL_law_794 : decode cL_law 794 = .ok (.irem, 1) := by decide +kernel
theorem dL_law_795 : decode cL_law 795 = .ok (.istore 18, 2) := by decide +kernel
theorem dL_law_797 : decode cL_law 797 = .ok (.aload_n 1, 1) := by decide +kernel
theorem dL_law_798 : decode cL_law 798 = .ok (.iload 11, 2) := by decide +kernel
theorem dL_law_800 : decode cL_law 800 = .ok (.iload 17, 2) := by decide +kernel
theorem dL_law_802 : decode cL_law 802 = .ok (.invokevirtual 93, 3) := by decide +kernel
theorem dL_law_805 : decode cL_law 805 = .ok (.pop, 1) := by decide +kernel
theorem dL_law_806 : decode cL_law 806 = .ok (.aload_n 1, 1) := by decide +kernel
theorem dL_law_807 : decode cL_law 807 = .ok (.iload 11, 2) := by decide +kernel
theorem dL_law_809 : decode cL_law 809 = .ok (.iload 7, 2) := by decide +kernel
theorem dL_law_811 : decode cL_law 811 = .ok (.iload 17, 2) := by decide +kernel
theorem dL_law_813 : decode cL_law 813 = .ok (.isub, 1) := by decide +kernel
theorem dL_law_814 : decode cL_law 814 = .ok (.iload 7, 2) := by decide +kernel
theorem dL_law_816 : decode cL_law 816 = .ok (.irem, 1) := by decide +kernel
theorem dL_law_817 : decode cL_law 817 = .ok (.invokevirtual 93, 3) := by decide +kernel
theorem dL_law_820 : decode cL_law 820 = .ok (.pop, 1) := by decide +kernel
theorem dL_law_821 : decode cL_law 821 = .ok (.aload_n 1, 1) := by decide +kernel
theorem dL_law_822 : decode cL_law 822 = .ok (.invokevirtual 116, 3) := by decide +kernel
theorem dL_law_825 : decode cL_law 825 = .ok (.lload 5, 2) := by decide +kernel
theorem dL_law_827 : decode cL_law 827 = .ok (.lcmp, 1) := by decide +kernel
theorem dL_law_828 : decode cL_law 828 = .ok (.ifCond .eq 5, 3) := by decide +kernel
theorem dL_law_831 : decode cL_law 831 = .ok (.iconst 0, 1) := by decide +kernel
theorem dL_law_832 : decode cL_law 832 = .ok (.ireturn, 1) := by decide +kernel
theorem dL_law_833 : decode cL_law 833 = .ok (.aload_n 1, 1) := by decide +kernel
theorem dL_law_834 : decode cL_law 834 = .ok (.iload 11, 2) := by decide +kernel
theorem dL_law_836 : decode cL_law 836 = .ok (.iload 18, 2) := by decide +kernel
theorem dL_law_838 : decode cL_law 838 = .ok (.invokevirtual 44, 3) := by decide +kernel
theorem dL_law_841 : decode cL_law 841 = .ok (.pop, 1) := by decide +kernel
theorem dL_law_842 : decode cL_law 842 = .ok (.aload_n 2, 1) := by decide +kernel
theorem dL_law_843 : decode cL_law 843 = .ok (.getfield 31, 3) := by decide +kernel
theorem dL_law_846 : decode cL_law 846 = .ok (.iload 18, 2) := by decide +kernel
theorem dL_law_848 : decode cL_law 848 = .ok (.aload_n 2, 1) := by decide +kernel
theorem dL_law_849 : decode cL_law 849 = .ok (.getfield 31, 3) := by decide +kernel
theorem dL_law_852 : decode cL_law 852 = .ok (.iload 11, 2) := by decide +kernel
theorem dL_law_854 : decode cL_law 854 = .ok (.aaload, 1) := by decide +kernel
theorem dL_law_855 : decode cL_law 855 = .ok (.invokevirtual 39, 3) := by decide +kernel
theorem dL_law_858 : decode cL_law 858 = .ok (.checkcast 40, 3) := by decide +kernel
theorem dL_law_861 : decode cL_law 861 = .ok (.aastore, 1) := by decide +kernel
theorem dL_law_862 : decode cL_law 862 = .ok (.aload_n 1, 1) := by decide +kernel
theorem dL_law_863 : decode cL_law 863 = .ok (.iload 18, 2) := by decide +kernel
theorem dL_law_865 : decode cL_law 865 = .ok (.iload 17, 2) := by decide +kernel
theorem dL_law_867 : decode cL_law 867 = .ok (.invokevirtual 93, 3) := by decide +kernel
theorem dL_law_870 : decode cL_law 870 = .ok (.pop, 1) := by decide +kernel
theorem dL_law_871 : decode cL_law 871 = .ok (.aload_n 2, 1) := by decide +kernel
theorem dL_law_872 : decode cL_law 872 = .ok (.getfield 31, 3) := by decide +kernel
theorem dL_law_875 : decode cL_law 875 = .ok (.iload 18, 2) := by decide +kernel
theorem dL_law_877 : decode cL_law 877 = .ok (.aload_n 2, 1) := by decide +kernel
theorem dL_law_878 : decode cL_law 878 = .ok (.aload_n 2, 1) := by decide +kernel
theorem dL_law_879 : decode cL_law 879 = .ok (.getfield 31, 3) := by decide +kernel
theorem dL_law_882 : decode cL_law 882 = .ok (.iload 18, 2) := by decide +kernel
theorem dL_law_884 : decode cL_law 884 = .ok (.aaload, 1) := by decide +kernel
theorem dL_law_885 : decode cL_law 885 = .ok (.iload 17, 2) := by decide +kernel
theorem dL_law_887 : decode cL_law 887 = .ok (.invokevirtual 90, 3) := by decide +kernel
theorem dL_law_890 : decode cL_law 890 = .ok (.aastore, 1) := by decide +kernel
theorem dL_law_891 : decode cL_law 891 = .ok (.aload_n 1, 1) := by decide +kernel
theorem dL_law_892 : decode cL_law 892 = .ok (.iload 11, 2) := by decide +kernel
theorem dL_law_894 : decode cL_law 894 = .ok (.iload 18, 2) := by decide +kernel
theorem dL_law_896 : decode cL_law 896 = .ok (.invokevirtual 144, 3) := by decide +kernel
theorem dL_law_899 : decode cL_law 899 = .ok (.iload 17, 2) := by decide +kernel
theorem dL_law_901 : decode cL_law 901 = .ok (.iload 14, 2) := by decide +kernel
theorem dL_law_903 : decode cL_law 903 = .ok (.irem, 1) := by decide +kernel
theorem dL_law_904 : decode cL_law 904 = .ok (.if_icmp .ne 32, 3) := by decide +kernel
theorem dL_law_907 : decode cL_law 907 = .ok (.aload_n 1, 1) := by decide +kernel
theorem dL_law_908 : decode cL_law 908 = .ok (.iload 18, 2) := by decide +kernel
theorem dL_law_910 : decode cL_law 910 = .ok (.iconst 3, 1) := by decide +kernel
theorem dL_law_911 : decode cL_law 911 = .ok (.invokevirtual 138, 3) := by decide +kernel
theorem dL_law_914 : decode cL_law 914 = .ok (.iload 14, 2) := by decide +kernel
theorem dL_law_916 : decode cL_law 916 = .ok (.if_icmp .ne 20, 3) := by decide +kernel
theorem dL_law_919 : decode cL_law 919 = .ok (.aload_n 1, 1) := by decide +kernel
theorem dL_law_920 : decode cL_law 920 = .ok (.iload 18, 2) := by decide +kernel
theorem dL_law_922 : decode cL_law 922 = .ok (.iconst 0, 1) := by decide +kernel
theorem dL_law_923 : decode cL_law 923 = .ok (.invokevirtual 138, 3) := by decide +kernel
theorem dL_law_926 : decode cL_law 926 = .ok (.aload_n 1, 1) := by decide +kernel
theorem dL_law_927 : decode cL_law 927 = .ok (.iload 11, 2) := by decide +kernel
theorem dL_law_929 : decode cL_law 929 = .ok (.iconst 0, 1) := by decide +kernel
theorem dL_law_930 : decode cL_law 930 = .ok (.invokevirtual 138, 3) := by decide +kernel
theorem dL_law_933 : decode cL_law 933 = .ok (.if_icmp .eq 5, 3) := by decide +kernel
theorem dL_law_936 : decode cL_law 936 = .ok (.iconst 0, 1) := by decide +kernel
theorem dL_law_937 : decode cL_law 937 = .ok (.ireturn, 1) := by decide +kernel
theorem dL_law_938 : decode cL_law 938 = .ok (.iload 4, 2) := by decide +kernel
theorem dL_law_940 : decode cL_law 940 = .ok (.bipush 6, 2) := by decide +kernel
theorem dL_law_942 : decode cL_law 942 = .ok (.ishr, 1) := by decide +kernel
theorem dL_law_943 : decode cL_law 943 = .ok (.iconst 2, 1) := by decide +kernel
theorem dL_law_944 : decode cL_law 944 = .ok (.invokestatic 9, 3) := by decide +kernel
theorem dL_law_947 : decode cL_law 947 = .ok (.ifCond .ne 51, 3) := by decide +kernel
theorem dL_law_950 : decode cL_law 950 = .ok (.aload_n 1, 1) := by decide +kernel
theorem dL_law_951 : decode cL_law 951 = .ok (.iload 11, 2) := by decide +kernel
theorem dL_law_953 : decode cL_law 953 = .ok (.iload 18, 2) := by decide +kernel
theorem dL_law_955 : decode cL_law 955 = .ok (.invokevirtual 44, 3) := by decide +kernel
theorem dL_law_958 : decode cL_law 958 = .ok (.pop, 1) := by decide +kernel
theorem dL_law_959 : decode cL_law 959 = .ok (.aload_n 1, 1) := by decide +kernel
theorem dL_law_960 : decode cL_law 960 = .ok (.iload 18, 2) := by decide +kernel
theorem dL_law_962 : decode cL_law 962 = .ok (.iconst 0, 1) := by decide +kernel
theorem dL_law_963 : decode cL_law 963 = .ok (.invokevirtual 54, 3) := by decide +kernel
theorem dL_law_966 : decode cL_law 966 = .ok (.pop, 1) := by decide +kernel
theorem dL_law_967 : decode cL_law 967 = .ok (.aload_n 2, 1) := by decide +kernel
theorem dL_law_968 : decode cL_law 968 = .ok (.getfield 31, 3) := by decide +kernel
theorem dL_law_971 : decode cL_law 971 = .ok (.iload 18, 2) := by decide +kernel
theorem dL_law_973 : decode cL_law 973 = .ok (.aload_n 2, 1) := by decide +kernel
theorem dL_law_974 : decode cL_law 974 = .ok (.aload_n 2, 1) := by decide +kernel
theorem dL_law_975 : decode cL_law 975 = .ok (.getfield 31, 3) := by decide +kernel
theorem dL_law_978 : decode cL_law 978 = .ok (.iload 11, 2) := by decide +kernel
theorem dL_law_980 : decode cL_law 980 = .ok (.aaload, 1) := by decide +kernel
theorem dL_law_981 : decode cL_law 981 = .ok (.invokevirtual 51, 3) := by decide +kernel
theorem dL_law_984 : decode cL_law 984 = .ok (.aastore, 1) := by decide +kernel
theorem dL_law_985 : decode cL_law 985 = .ok (.aload_n 1, 1) := by decide +kernel
theorem dL_law_986 : decode cL_law 986 = .ok (.iload 11, 2) := by decide +kernel
theorem dL_law_988 : decode cL_law 988 = .ok (.iload 18, 2) := by decide +kernel
theorem dL_law_990 : decode cL_law 990 = .ok (.invokevirtual 147, 3) := by decide +kernel
theorem dL_law_993 : decode cL_law 993 = .ok (.ifCond .ne 5, 3) := by decide +kernel
theorem dL_law_996 : decode cL_law 996 = .ok (.iconst 0, 1) := by decide +kernel
theorem dL_law_997 : decode cL_law 997 = .ok (.ireturn, 1) := by decide +kernel
theorem dL_law_998 : decode cL_law 998 = .ok (.aload_n 2, 1) := by decide +kernel
theorem dL_law_999 : decode cL_law 999 = .ok (.aload_n 1, 1) := by decide +kernel
theorem dL_law_1000 : decode cL_law 1000 = .ok (.invokevirtual 150, 3) := by decide +kernel
theorem dL_law_1003 : decode cL_law 1003 = .ok (.ifCond .ne 5, 3) := by decide +kernel
theorem dL_law_1006 : decode cL_law 1006 = .ok (.iconst 0, 1) := by decide +kernel
theorem dL_law_1007 : decode cL_law 1007 = .ok (.ireturn, 1) := by decide +kernel
theorem dL_law_1008 : decode cL_law 1008 = .ok (.iinc 3 1, 3) := by decide +kernel
theorem dL_law_1011 : decode cL_law 1011 = .ok (.goto (-989), 3) := by decide +kernel
theorem dL_law_1014 : decode cL_law 1014 = .ok (.iconst 1, 1) := by decide +kernel
theorem dL_law_1015 : decode cL_law 1015 = .ok (.ireturn, 1) := by decide +kernel
