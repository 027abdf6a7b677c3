theorem dL_refuses_715 : decode cL_refuses 715 = .ok (.aload_n 0, 1) := by decide +kernel
theorem dL_refuses_716 : decode cL_refuses 716 = .ok (.bipush 9, 2) := by decide +kernel
theorem dL_refuses_718 : decode cL_refuses 718 = .ok (.iconst 2, 1) := by decide +kernel
theorem dL_refuses_719 : decode cL_refuses 719 = .ok (.iconst 0, 1) := by decide +kernel
theorem dL_refuses_720 : decode cL_refuses 720 = .ok (.iload 6, 2) := by decide +kernel
theorem dL_refuses_722 : decode cL_refuses 722 = .ok (.iconst 1, 1) := by decide +kernel
theorem dL_refuses_723 : decode cL_refuses 723 = .ok (.if_icmp .ne 9, 3) := by decide +kernel
theorem dL_refuses_726 : decode cL_refuses 726 = .ok (.sipush 301, 3) := by decide +kernel
theorem dL_refuses_729 : decode cL_refuses 729 = .ok (.goto 5, 3) := by decide +kernel
theorem dL_refuses_732 : decode cL_refuses 732 = .ok (.iload 7, 2) := by decide +kernel
theorem dL_refuses_734 : decode cL_refuses 734 = .ok (.iconst 0, 1) := by decide +kernel
theorem dL_refuses_735 : decode cL_refuses 735 = .ok (.invokestatic 95, 3) := by decide +kernel
theorem dL_refuses_738 : decode cL_refuses 738 = .ok (.iload 4, 2) := by decide +kernel
theorem dL_refuses_740 : decode cL_refuses 740 = .ok (.if_icmp .ne 50, 3) := by decide +kernel
theorem dL_refuses_743 : decode cL_refuses 743 = .ok (.aload_n 0, 1) := by decide +kernel
theorem dL_refuses_744 : decode cL_refuses 744 = .ok (.bipush 17, 2) := by decide +kernel
theorem dL_refuses_746 : decode cL_refuses 746 = .ok (.iload 8, 2) := by decide +kernel
theorem dL_refuses_748 : decode cL_refuses 748 = .ok (.iconst 5, 1) := by decide +kernel
theorem dL_refuses_749 : decode cL_refuses 749 = .ok (.iconst 0, 1) := by decide +kernel
theorem dL_refuses_750 : decode cL_refuses 750 = .ok (.iconst 0, 1) := by decide +kernel
theorem dL_refuses_751 : decode cL_refuses 751 = .ok (.invokestatic 95, 3) := by decide +kernel
theorem dL_refuses_754 : decode cL_refuses 754 = .ok (.iload 4, 2) := by decide +kernel
theorem dL_refuses_756 : decode cL_refuses 756 = .ok (.if_icmp .ne 34, 3) := by decide +kernel
theorem dL_refuses_759 : decode cL_refuses 759 = .ok (.aload_n 0, 1) := by decide +kernel
theorem dL_refuses_760 : decode cL_refuses 760 = .ok (.bipush 17, 2) := by decide +kernel
theorem dL_refuses_762 : decode cL_refuses 762 = .ok (.iconst 0, 1) := by decide +kernel
theorem dL_refuses_763 : decode cL_refuses 763 = .ok (.iload 6, 2) := by decide +kernel
theorem dL_refuses_765 : decode cL_refuses 765 = .ok (.iconst 1, 1) := by decide +kernel
theorem dL_refuses_766 : decode cL_refuses 766 = .ok (.if_icmp .ne 8, 3) := by decide +kernel
theorem dL_refuses_769 : decode cL_refuses 769 = .ok (.bipush 17, 2) := by decide +kernel
theorem dL_refuses_771 : decode cL_refuses 771 = .ok (.goto 5, 3) := by decide +kernel
theorem dL_refuses_774 : decode cL_refuses 774 = .ok (.iload 7, 2) := by decide +kernel
theorem dL_refuses_776 : decode cL_refuses 776 = .ok (.iconst 0, 1) := by decide +kernel
theorem dL_refuses_777 : decode cL_refuses 777 = .ok (.iconst 0, 1) := by decide +kernel
theorem dL_refuses_778 : decode cL_refuses 778 = .ok (.invokestatic 95, 3) := by decide +kernel
theorem dL_refuses_781 : decode cL_refuses 781 = .ok (.iload 4, 2) := by decide +kernel
theorem dL_refuses_783 : decode cL_refuses 783 = .ok (.if_icmp .ne 7, 3) := by decide +kernel
theorem dL_refuses_786 : decode cL_refuses 786 = .ok (.iconst 1, 1) := by decide +kernel
theorem dL_refuses_787 : decode cL_refuses 787 = .ok (.goto 4, 3) := by decide +kernel
theorem dL_refuses_790 : decode cL_refuses 790 = .ok (.iconst 0, 1) := by decide +kernel
theorem dL_refuses_791 : decode cL_refuses 791 = .ok (.istore 12, 2) := by decide +kernel
theorem dL_refuses_793 : decode cL_refuses 793 = .ok (.bipush 10, 2) := by decide +kernel
theorem dL_refuses_795 : decode cL_refuses 795 = .ok (.istore 13, 2) := by decide +kernel
theorem dL_refuses_797 : decode cL_refuses 797 = .ok (.iload 13, 2) := by decide +kernel
theorem dL_refuses_799 : decode cL_refuses 799 = .ok (.bipush 17, 2) := by decide +kernel
theorem dL_refuses_801 : decode cL_refuses 801 = .ok (.if_icmp .ge 49, 3) := by decide +kernel
theorem dL_refuses_804 : decode cL_refuses 804 = .ok (.iload 12, 2) := by decide +kernel
theorem dL_refuses_806 : decode cL_refuses 806 = .ok (.ifCond .eq 35, 3) := by decide +kernel
theorem dL_refuses_809 : decode cL_refuses 809 = .ok (.aload_n 0, 1) := by decide +kernel
theorem dL_refuses_810 : decode cL_refuses 810 = .ok (.iload 13, 2) := by decide +kernel
theorem dL_refuses_812 : decode cL_refuses 812 = .ok (.iload 13, 2) := by decide +kernel
theorem dL_refuses_814 : decode cL_refuses 814 = .ok (.bipush 13, 2) := by decide +kernel
theorem dL_refuses_816 : decode cL_refuses 816 = .ok (.if_icmp .ge 8, 3) := by decide +kernel
theorem dL_refuses_819 : decode cL_refuses 819 = .ok (.iload 9, 2) := by decide +kernel
theorem dL_refuses_821 : decode cL_refuses 821 = .ok (.goto 5, 3) := by decide +kernel
theorem dL_refuses_824 : decode cL_refuses 824 = .ok (.iload 8, 2) := by decide +kernel
theorem dL_refuses_826 : decode cL_refuses 826 = .ok (.iconst 0, 1) := by decide +kernel
theorem dL_refuses_827 : decode cL_refuses 827 = .ok (.iconst 0, 1) := by decide +kernel
theorem dL_refuses_828 : decode cL_refuses 828 = .ok (.iconst 0, 1) := by decide +kernel
theorem dL_refuses_829 : decode cL_refuses 829 = .ok (.invokestatic 95, 3) := by decide +kernel
theorem dL_refuses_832 : decode cL_refuses 832 = .ok (.iload 4, 2) := by decide +kernel
theorem dL_refuses_834 : decode cL_refuses 834 = .ok (.if_icmp .ne 7, 3) := by decide +kernel
theorem dL_refuses_837 : decode cL_refuses 837 = .ok (.iconst 1, 1) := by decide +kernel
theorem dL_refuses_838 : decode cL_refuses 838 = .ok (.goto 4, 3) := by decide +kernel
theorem dL_refuses_841 : decode cL_refuses 841 = .ok (.iconst 0, 1) := by decide +kernel
theorem dL_refuses_842 : decode cL_refuses 842 = .ok (.istore 12, 2) := by decide +kernel
theorem dL_refuses_844 : decode cL_refuses 844 = .ok (.iinc 13 1, 3) := by decide +kernel
theorem dL_refuses_847 : decode cL_refuses 847 = .ok (.goto (-50), 3) := by decide +kernel
theorem dL_refuses_850 : decode cL_refuses 850 = .ok (.bipush 18, 2) := by decide +kernel
theorem dL_refuses_852 : decode cL_refuses 852 = .ok (.istore 13, 2) := by decide +kernel
theorem dL_refuses_854 : decode cL_refuses 854 = .ok (.iload 13, 2) := by decide +kernel
theorem dL_refuses_856 : decode cL_refuses 856 = .ok (.bipush 21, 2) := by decide +kernel
theorem dL_refuses_858 : decode cL_refuses 858 = .ok (.if_icmp .ge 37, 3) := by decide +kernel
theorem dL_refuses_861 : decode cL_refuses 861 = .ok (.iload 12, 2) := by decide +kernel
theorem dL_refuses_863 : decode cL_refuses 863 = .ok (.ifCond .eq 23, 3) := by decide +kernel
theorem dL_refuses_866 : decode cL_refuses 866 = .ok (.aload_n 0, 1) := by decide +kernel
theorem dL_refuses_867 : decode cL_refuses 867 = .ok (.iload 13, 2) := by decide +kernel
theorem dL_refuses_869 : decode cL_refuses 869 = .ok (.iload 11, 2) := by decide +kernel
theorem dL_refuses_871 : decode cL_refuses 871 = .ok (.iconst 0, 1) := by decide +kernel
theorem dL_refuses_872 : decode cL_refuses 872 = .ok (.iconst 0, 1) := by decide +kernel
theorem dL_refuses_873 : decode cL_refuses 873 = .ok (.iconst 0, 1) := by decide +kernel
theorem dL_refuses_874 : decode cL_refuses 874 = .ok (.invokestatic 95, 3) := by decide +kernel
theorem dL_refuses_877 : decode cL_refuses 877 = .ok (.iload 4, 2) := by decide +kernel
theorem dL_refuses_879 : decode cL_refuses 879 = .ok (.if_icmp .ne 7, 3) := by decide +kernel
theorem dL_refuses_882 : decode cL_refuses 882 = .ok (.iconst 1, 1) := by decide +kernel
theorem dL_refuses_883 : decode cL_refuses 883 = .ok (.goto 4, 3) := by decide +kernel
theorem dL_refuses_886 : decode cL_refuses 886 = .ok (.iconst 0, 1) := by decide +kernel
theorem dL_refuses_887 : decode cL_refuses 887 = .ok (.istore 12, 2) := by decide +kernel
theorem dL_refuses_889 : decode cL_refuses 889 = .ok (.iinc 13 1, 3) := by decide +kernel
theorem dL_refuses_892 : decode cL_refuses 892 = .ok (.goto (-38), 3) := by decide +kernel
theorem dL_refuses_895 : decode cL_refuses 895 = .ok (.iload 12, 2) := by decide +kernel
theorem dL_refuses_897 : decode cL_refuses 897 = .ok (.ifCond .ne 5, 3) := by decide +kernel
theorem dL_refuses_900 : decode cL_refuses 900 = .ok (.iconst 0, 1) := by decide +kernel
theorem dL_refuses_901 : decode cL_refuses 901 = .ok (.ireturn, 1) := by decide +kernel
theorem dL_refuses_902 : decode cL_refuses 902 = .ok (.iinc 6 1, 3) := by decide +kernel
theorem dL_refuses_905 : decode cL_refuses 905 = .ok (.goto (-876), 3) := by decide +kernel
theorem dL_refuses_908 : decode cL_refuses 908 = .ok (.aload_n 0, 1) := by decide +kernel
theorem dL_refuses_909 : decode cL_refuses 909 = .ok (.invokevirtual 84, 3) := by decide +kernel
theorem dL_refuses_912 : decode cL_refuses 912 = .ok (.iload_n 1, 1) := by decide +kernel
theorem dL_refuses_913 : decode cL_refuses 913 = .ok (.if_icmp .ne 25, 3) := by decide +kernel
theorem dL_refuses_916 : decode cL_refuses 916 = .ok (.aload_n 0, 1) := by decide +kernel
theorem dL_refuses_917 : decode cL_refuses 917 = .ok (.iconst 0, 1) := by decide +kernel
theorem dL_refuses_918 : decode cL_refuses 918 = .ok (.invokevirtual 40, 3) := by decide +kernel
theorem dL_refuses_921 : decode cL_refuses 921 = .ok (.iload_n 2, 1) := by decide +kernel
theorem dL_refuses_922 : decode cL_refuses 922 = .ok (.if_icmp .ne 16, 3) := by decide +kernel
theorem dL_refuses_925 : decode cL_refuses 925 = .ok (.aload_n 0, 1) := by decide +kernel
theorem dL_refuses_926 : decode cL_refuses 926 = .ok (.iconst 0, 1) := by decide +kernel
theorem dL_refuses_927 : decode cL_refuses 927 = .ok (.invokevirtual 67, 3) := by decide +kernel
theorem dL_refuses_930 : decode cL_refuses 930 = .ok (.iload_n 3, 1) := by decide +kernel
theorem dL_refuses_931 : decode cL_refuses 931 = .ok (.if_icmp .ne 7, 3) := by decide +kernel
theorem dL_refuses_934 : decode cL_refuses 934 = .ok (.iconst 1, 1) := by decide +kernel
theorem dL_refuses_935 : decode cL_refuses 935 = .ok (.goto 4, 3) := by decide +kernel
theorem dL_refuses_938 : decode cL_refuses 938 = .ok (.iconst 0, 1) := by decide +kernel
theorem dL_refuses_939 : decode cL_refuses 939 = .ok (.ireturn, 1) := by decide +kernel
theorem dL_pool_0 : decode cL_pool 0 = .ok (.aload_n 0, 1) := by decide +kernel
theorem dL_pool_1 : decode cL_pool 1 = .ok (.iload_n 1, 1) := by decide +kernel
theorem dL_pool_2 : decode cL_pool 2 = .ok (.iconst 0, 1) := by decide +kernel
theorem dL_pool_3 : decode cL_pool 3 = .ok (.invokevirtual 37, 3) := by decide +kernel
theorem dL_pool_6 : decode cL_pool 6 = .ok (.iload_n 2, 1) := by decide +kernel
theorem dL_pool_7 : decode cL_pool 7 = .ok (.if_icmp .ne 48, 3) := by decide +kernel
theorem dL_pool_10 : decode cL_pool 10 = .ok (.aload_n 0, 1) := by decide +kernel
theorem dL_pool_11 : decode cL_pool 11 = .ok (.iload_n 1, 1) := by decide +kernel
theorem dL_pool_12 : decode cL_pool 12 = .ok (.iconst 1, 1) := by decide +kernel
theorem dL_pool_13 : decode cL_pool 13 = .ok (.invokevirtual 37, 3) := by decide +kernel
theorem dL_pool_16 : decode cL_pool 16 = .ok (.iload_n 3, 1) := by decide +kernel
theorem dL_pool_17 : decode cL_pool 17 = .ok (.if_icmp .ne 38, 3) := by decide +kernel
theorem dL_pool_20 : decode cL_pool 20 = .ok (.aload_n 0, 1) := by decide +kernel
theorem dL_pool_21 : decode cL_pool 21 = .ok (.iload_n 1, 1) := by decide +kernel
theorem dL_pool_22 : decode cL_pool 22 = .ok (.invokevirtual 40, 3) := by decide +kernel
theorem dL_pool_25 : decode cL_pool 25 = .ok (.iload_n 2, 1) := by decide +kernel
theorem dL_pool_26 : decode cL_pool 26 = .ok (.iload_n 3, 1) := by decide +kernel
theorem dL_pool_27 : decode cL_pool 27 = .ok (.iadd, 1) := by decide +kernel
theorem dL_pool_28 : decode cL_pool 28 = .ok (.if_icmp .ne 27, 3) := by decide +kernel
theorem dL_pool_31 : decode cL_pool 31 = .ok (.aload_n 0, 1) := by decide +kernel
theorem dL_pool_32 : decode cL_pool 32 = .ok (.iload_n 1, 1) := by decide +kernel
theorem dL_pool_33 : decode cL_pool 33 = .ok (.invokevirtual 64, 3) := by decide +kernel
theorem dL_pool_36 : decode cL_pool 36 = .ok (.iload 4, 2) := by decide +kernel
theorem dL_pool_38 : decode cL_pool 38 = .ok (.if_icmp .ne 17, 3) := by decide +kernel
theorem dL_pool_41 : decode cL_pool 41 = .ok (.aload_n 0, 1) := by decide +kernel
theorem dL_pool_42 : decode cL_pool 42 = .ok (.iload_n 1, 1) := by decide +kernel
theorem dL_pool_43 : decode cL_pool 43 = .ok (.invokevirtual 67, 3) := by decide +kernel
theorem dL_pool_46 : decode cL_pool 46 = .ok (.iload 5, 2) := by decide +kernel
theorem dL_pool_48 : decode cL_pool 48 = .ok (.if_icmp .ne 7, 3) := by decide +kernel
theorem dL_pool_51 : decode cL_pool 51 = .ok (.iconst 1, 1) := by decide +kernel
theorem dL_pool_52 : decode cL_pool 52 = .ok (.goto 4, 3) := by decide +kernel
theorem dL_pool_55 : decode cL_pool 55 = .ok (.iconst 0, 1) := by decide +kernel
theorem dL_pool_56 : decode cL_pool 56 = .ok (.ireturn, 1) := by decide +kernel
theorem dL_travels_0 : decode cL_travels 0 = .ok (.new 8, 3) := by decide +kernel
theorem dL_travels_3 : decode cL_travels 3 = .ok (.dup, 1) := by decide +kernel
theorem dL_travels_4 : decode cL_travels 4 = .ok (.invokespecial 99, 3) := by decide +kernel
theorem dL_travels_7 : decode cL_travels 7 = .ok (.astore_n 0, 1) := by decide +kernel
theorem dL_travels_8 : decode cL_travels 8 = .ok (.aload_n 0, 1) := by decide +kernel
theorem dL_travels_9 : decode cL_travels 9 = .ok (.invokevirtual 84, 3) := by decide +kernel
theorem dL_travels_12 : decode cL_travels 12 = .ok (.ifCond .ne 229, 3) := by decide +kernel
theorem dL_travels_15 : decode cL_travels 15 = .ok (.aload_n 0, 1) := by decide +kernel
theorem dL_travels_16 : decode cL_travels 16 = .ok (.iconst 0, 1) := by decide +kernel
theorem dL_travels_17 : decode cL_travels 17 = .ok (.iconst 0, 1) := by decide +kernel
theorem dL_travels_18 : decode cL_travels 18 = .ok (.iconst 0, 1) := by decide +kernel
theorem dL_travels_19 : decode cL_travels 19 = .ok (.iconst 0, 1) := by decide +kernel
theorem dL_travels_20 : decode cL_travels 20 = .ok (.iconst 0, 1) := by decide +kernel
theorem dL_travels_21 : decode cL_travels 21 = .ok (.invokestatic 100, 3) := by decide +kernel
theorem dL_travels_24 : decode cL_travels 24 = .ok (.ifCond .eq 217, 3) := by decide +kernel
theorem dL_travels_27 : decode cL_travels 27 = .ok (.aload_n 0, 1) := by decide +kernel
theorem dL_travels_28 : decode cL_travels 28 = .ok (.iconst 1, 1) := by decide +kernel
theorem dL_travels_29 : decode cL_travels 29 = .ok (.bipush 16, 2) := by decide +kernel
theorem dL_travels_31 : decode cL_travels 31 = .ok (.invokevirtual 70, 3) := by decide +kernel
theorem dL_travels_34 : decode cL_travels 34 = .ok (.sipush 160, 3) := by decide +kernel
theorem dL_travels_37 : decode cL_travels 37 = .ok (.if_icmp .ne 204, 3) := by decide +kernel
theorem dL_travels_40 : decode cL_travels 40 = .ok (.aload_n 0, 1) := by decide +kernel
theorem dL_travels_41 : decode cL_travels 41 = .ok (.iconst 0, 1) := by decide +kernel
theorem dL_travels_42 : decode cL_travels 42 = .ok (.iconst 0, 1) := by decide +kernel
theorem dL_travels_43 : decode cL_travels 43 = .ok (.invokevirtual 70, 3) := by decide +kernel
theorem dL_travels_46 : decode cL_travels 46 = .ok (.ifCond .ne 195, 3) := by decide +kernel
theorem dL_travels_49 : decode cL_travels 49 = .ok (.aload_n 0, 1) := by decide +kernel
theorem dL_travels_50 : decode cL_travels 50 = .ok (.bipush 6, 2) := by decide +kernel
theorem dL_travels_52 : decode cL_travels 52 = .ok (.invokevirtual 73, 3) := by decide +kernel
theorem dL_travels_55 : decode cL_travels 55 = .ok (.ifCond .ne 186, 3) := by decide +kernel
theorem dL_travels_58 : decode cL_travels 58 = .ok (.aload_n 0, 1) := by decide +kernel
theorem dL_travels_59 : decode cL_travels 59 = .ok (.iconst 1, 1) := by decide +kernel
theorem dL_travels_60 : decode cL_travels 60 = .ok (.invokevirtual 79, 3) := by decide +kernel
theorem dL_travels_63 : decode cL_travels 63 = .ok (.ifCond .ne 178, 3) := by decide +kernel
theorem dL_travels_66 : decode cL_travels 66 = .ok (.aload_n 0, 1) := by decide +kernel
theorem dL_travels_67 : decode cL_travels 67 = .ok (.invokestatic 104, 3) := by decide +kernel
theorem dL_travels_70 : decode cL_travels 70 = .ok (.ifCond .eq 171, 3) := by decide +kernel
theorem dL_travels_73 : decode cL_travels 73 = .ok (.aload_n 0, 1) := by decide +kernel
theorem dL_travels_74 : decode cL_travels 74 = .ok (.iconst 0, 1) := by decide +kernel
theorem dL_travels_75 : decode cL_travels 75 = .ok (.bipush 10, 2) := by decide +kernel
theorem dL_travels_77 : decode cL_travels 77 = .ok (.bipush 50, 2) := by decide +kernel
theorem dL_travels_79 : decode cL_travels 79 = .ok (.invokevirtual 15, 3) := by decide +kernel
theorem dL_travels_82 : decode cL_travels 82 = .ok (.ifCond .ne 159, 3) := by decide +kernel
theorem dL_travels_85 : decode cL_travels 85 = .ok (.aload_n 0, 1) := by decide +kernel
theorem dL_travels_86 : decode cL_travels 86 = .ok (.iconst 1, 1) := by decide +kernel
theorem dL_travels_87 : decode cL_travels 87 = .ok (.invokevirtual 30, 3) := by decide +kernel
theorem dL_travels_90 : decode cL_travels 90 = .ok (.iconst 1, 1) := by decide +kernel
theorem dL_travels_91 : decode cL_travels 91 = .ok (.if_icmp .ne 150, 3) := by decide +kernel
theorem dL_travels_94 : decode cL_travels 94 = .ok (.aload_n 0, 1) := by decide +kernel
theorem dL_travels_95 : decode cL_travels 95 = .ok (.iconst 0, 1) := by decide +kernel
theorem dL_travels_96 : decode cL_travels 96 = .ok (.iconst 5, 1) := by decide +kernel
theorem dL_travels_97 : decode cL_travels 97 = .ok (.iconst 5, 1) := by decide +kernel
theorem dL_travels_98 : decode cL_travels 98 = .ok (.iconst 0, 1) := by decide +kernel
theorem dL_travels_99 : decode cL_travels 99 = .ok (.iconst 0, 1) := by decide +kernel
theorem dL_travels_100 : decode cL_travels 100 = .ok (.invokestatic 100, 3) := by decide +kernel
theorem dL_travels_103 : decode cL_travels 103 = .ok (.ifCond .eq 138, 3) := by decide +kernel
theorem dL_travels_106 : decode cL_travels 106 = .ok (.aload_n 0, 1) := by decide +kernel
theorem dL_travels_107 : decode cL_travels 107 = .ok (.iconst 0, 1) := by decide +kernel
theorem dL_travels_108 : decode cL_travels 108 = .ok (.iconst 0, 1) := by decide +kernel
theorem dL_travels_109 : decode cL_travels 109 = .ok (.iconst 4, 1) := by decide +kernel
theorem dL_travels_110 : decode cL_travels 110 = .ok (.invokevirtual 23, 3) := by decide +kernel
theorem dL_travels_113 : decode cL_travels 113 = .ok (.ifCond .ne 128, 3) := by decide +kernel
theorem dL_travels_116 : decode cL_travels 116 = .ok (.aload_n 0, 1) := by decide +kernel
theorem dL_travels_117 : decode cL_travels 117 = .ok (.iconst 0, 1) := by decide +kernel
theorem dL_travels_118 : decode cL_travels 118 = .ok (.iconst 1, 1) := by decide +kernel
theorem dL_travels_119 : decode cL_travels 119 = .ok (.iconst 2, 1) := by decide +kernel
theorem dL_travels_120 : decode cL_travels 120 = .ok (.invokevirtual 23, 3) := by decide +kernel
theorem dL_travels_123 : decode cL_travels 123 = .ok (.ifCond .ne 118, 3) := by decide +kernel
theorem dL_travels_126 : decode cL_travels 126 = .ok (.aload_n 0, 1) := by decide +kernel
theorem dL_travels_127 : decode cL_travels 127 = .ok (.iconst 1, 1) := by decide +kernel
theorem dL_travels_128 : decode cL_travels 128 = .ok (.invokevirtual 30, 3) := by decide +kernel
theorem dL_travels_131 : decode cL_travels 131 = .ok (.iconst 2, 1) := by decide +kernel
theorem dL_travels_132 : decode cL_travels 132 = .ok (.if_icmp .ne 109, 3) := by decide +kernel
theorem dL_travels_135 : decode cL_travels 135 = .ok (.aload_n 0, 1) := by decide +kernel
theorem dL_travels_136 : decode cL_travels 136 = .ok (.iconst 0, 1) := by decide +kernel
theorem dL_travels_137 : decode cL_travels 137 = .ok (.bipush 6, 2) := by decide +kernel
theorem dL_travels_139 : decode cL_travels 139 = .ok (.bipush 8, 2) := by decide +kernel
theorem dL_travels_141 : decode cL_travels 141 = .ok (.bipush 6, 2) := by decide +kernel
theorem dL_travels_143 : decode cL_travels 143 = .ok (.bipush 84, 2) := by decide +kernel
theorem dL_travels_145 : decode cL_travels 145 = .ok (.invokestatic 100, 3) := by decide +kernel
theorem dL_travels_148 : decode cL_travels 148 = .ok (.ifCond .eq 93, 3) := by decide +kernel
theorem dL_travels_151 : decode cL_travels 151 = .ok (.aload_n 0, 1) := by decide +kernel
theorem dL_travels_152 : decode cL_travels 152 = .ok (.iconst 1, 1) := by decide +kernel
theorem dL_travels_153 : decode cL_travels 153 = .ok (.iconst 0, 1) := by decide +kernel
theorem dL_travels_154 : decode cL_travels 154 = .ok (.iconst 2, 1) := by decide +kernel
theorem dL_travels_155 : decode cL_travels 155 = .ok (.invokevirtual 46, 3) := by decide +kernel
theorem dL_travels_158 : decode cL_travels 158 = .ok (.iconst 4, 1) := by decide +kernel
theorem dL_travels_159 : decode cL_travels 159 = .ok (.if_icmp .ne 82, 3) := by decide +kernel
theorem dL_travels_162 : decode cL_travels 162 = .ok (.aload_n 0, 1) := by decide +kernel
theorem dL_travels_163 : decode cL_travels 163 = .ok (.iconst 1, 1) := by decide +kernel
theorem dL_travels_164 : decode cL_travels 164 = .ok (.iconst 1, 1) := by decide +kernel
theorem dL_travels_165 : decode cL_travels 165 = .ok (.iconst 2, 1) := by decide +kernel
theorem dL_travels_166 : decode cL_travels 166 = .ok (.invokevirtual 46, 3) := by decide +kernel
theorem dL_travels_169 : decode cL_travels 169 = .ok (.iconst 2, 1) := by decide +kernel
theorem dL_travels_170 : decode cL_travels 170 = .ok (.if_icmp .ne 71, 3) := by decide +kernel
theorem dL_travels_173 : decode cL_travels 173 = .ok (.aload_n 0, 1) := by decide +kernel
theorem dL_travels_174 : decode cL_travels 174 = .ok (.iconst 1, 1) := by decide +kernel
theorem dL_travels_175 : decode cL_travels 175 = .ok (.iconst 0, 1) := by decide +kernel
theorem dL_travels_176 : decode cL_travels 176 = .ok (.iconst 3, 1) := by decide +kernel
theorem dL_travels_177 : decode cL_travels 177 = .ok (.invokevirtual 46, 3) := by decide +kernel
theorem dL_travels_180 : decode cL_travels 180 = .ok (.ifCond .ne 61, 3) := by decide +kernel
theorem dL_travels_183 : decode cL_travels 183 = .ok (.aload_n 0, 1) := by decide +kernel
theorem dL_travels_184 : decode cL_travels 184 = .ok (.iconst 1, 1) := by decide +kernel
theorem dL_travels_185 : decode cL_travels 185 = .ok (.iconst 0, 1) := by decide +kernel
theorem dL_travels_186 : decode cL_travels 186 = .ok (.sipush 300, 3) := by decide +kernel
theorem dL_travels_189 : decode cL_travels 189 = .ok (.invokevirtual 46, 3) := by decide +kernel
theorem dL_travels_192 : decode cL_travels 192 = .ok (.ifCond .ne 49, 3) := by decide +kernel
theorem dL_travels_195 : decode cL_travels 195 = .ok (.aload_n 0, 1) := by decide +kernel
theorem dL_travels_196 : decode cL_travels 196 = .ok (.iconst 1, 1) := by decide +kernel
theorem dL_travels_197 : decode cL_travels 197 = .ok (.iconst 0, 1) := by decide +kernel
theorem dL_travels_198 : decode cL_travels 198 = .ok (.invokevirtual 43, 3) := by decide +kernel
theorem dL_travels_201 : decode cL_travels 201 = .ok (.iconst 4, 1) := by decide +kernel
theorem dL_travels_202 : decode cL_travels 202 = .ok (.if_icmp .ne 39, 3) := by decide +kernel
theorem dL_travels_205 : decode cL_travels 205 = .ok (.aload_n 0, 1) := by decide +kernel
theorem dL_travels_206 : decode cL_travels 206 = .ok (.iconst 2, 1) := by decide +kernel
theorem dL_travels_207 : decode cL_travels 207 = .ok (.iconst 0, 1) := by decide +kernel
theorem dL_travels_208 : decode cL_travels 208 = .ok (.invokevirtual 43, 3) := by decide +kernel
theorem dL_travels_211 : decode cL_travels 211 = .ok (.ifCond .ne 30, 3) := by decide +kernel
theorem dL_travels_214 : decode cL_travels 214 = .ok (.aload_n 0, 1) := by decide +kernel
theorem dL_travels_215 : decode cL_travels 215 = .ok (.iconst 0, 1) := by decide +kernel
theorem dL_travels_216 : decode cL_travels 216 = .ok (.invokevirtual 49, 3) := by decide +kernel
theorem dL_travels_219 : decode cL_travels 219 = .ok (.bipush 10, 2) := by decide +kernel
theorem dL_travels_221 : decode cL_travels 221 = .ok (.if_icmp .ne 20, 3) := by decide +kernel
theorem dL_travels_224 : decode cL_travels 224 = .ok (.aload_n 0, 1) := by decide +kernel
theorem dL_travels_225 : decode cL_travels 225 = .ok (.iconst 1, 1) := by decide +kernel
theorem dL_travels_226 : decode cL_travels 226 = .ok (.invokevirtual 55, 3) := by decide +kernel
theorem dL_travels_229 : decode cL_travels 229 = .ok (.bipush 10, 2) := by decide +kernel
theorem dL_travels_231 : decode cL_travels 231 = .ok (.if_icmp .ne 10, 3) := by decide +kernel
theorem dL_travels_234 : decode cL_travels 234 = .ok (.aload_n 0, 1) := by decide +kernel
theorem dL_travels_235 : decode cL_travels 235 = .ok (.invokestatic 104, 3) := by decide +kernel
theorem dL_travels_238 : decode cL_travels 238 = .ok (.ifCond .ne 5, 3) := by decide +kernel
theorem dL_travels_241 : decode cL_travels 241 = .ok (.iconst 0, 1) := by decide +kernel
theorem dL_travels_242 : decode cL_travels 242 = .ok (.ireturn, 1) := by decide +kernel
theorem dL_travels_243 : decode cL_travels 243 = .ok (.aload_n 0, 1) := by decide +kernel
theorem dL_travels_244 : decode cL_travels 244 = .ok (.iconst 1, 1) := by decide +kernel
theorem dL_travels_245 : decode cL_travels 245 = .ok (.invokevirtual 30, 3) := by decide +kernel
theorem dL_travels_248 : decode cL_travels 248 = .ok (.iconst 3, 1) := by decide +kernel
theorem dL_travels_249 : decode cL_travels 249 = .ok (.if_icmp .ne 194, 3) := by decide +kernel
theorem dL_travels_252 : decode cL_travels 252 = .ok (.aload_n 0, 1) := by decide +kernel
theorem dL_travels_253 : decode cL_travels 253 = .ok (.iconst 0, 1) := by decide +kernel
theorem dL_travels_254 : decode cL_travels 254 = .ok (.bipush 7, 2) := by decide +kernel
theorem dL_travels_256 : decode cL_travels 256 = .ok (.bipush 11, 2) := by decide +kernel
theorem dL_travels_258 : decode cL_travels 258 = .ok (.bipush 6, 2) := by decide +kernel
theorem dL_travels_260 : decode cL_travels 260 = .ok (.sipush 168, 3) := by decide +kernel
theorem dL_travels_263 : decode cL_travels 263 = .ok (.invokestatic 100, 3) := by decide +kernel
theorem dL_travels_266 : decode cL_travels 266 = .ok (.ifCond .eq 177, 3) := by decide +kernel
theorem dL_travels_269 : decode cL_travels 269 = .ok (.aload_n 0, 1) := by decide +kernel
theorem dL_travels_270 : decode cL_travels 270 = .ok (.iconst 1, 1) := by decide +kernel
theorem dL_travels_271 : decode cL_travels 271 = .ok (.iconst 4, 1) := by decide +kernel
theorem dL_travels_272 : decode cL_travels 272 = .ok (.iconst 2, 1) := by decide +kernel
theorem dL_travels_273 : decode cL_travels 273 = .ok (.iconst 0, 1) := by decide +kernel
theorem dL_travels_274 : decode cL_travels 274 = .ok (.iconst 0, 1) := by decide +kernel
theorem dL_travels_275 : decode cL_travels 275 = .ok (.invokestatic 100, 3) := by decide +kernel
theorem dL_travels_278 : decode cL_travels 278 = .ok (.ifCond .eq 165, 3) := by decide +kernel
theorem dL_travels_281 : decode cL_travels 281 = .ok (.aload_n 0, 1) := by decide +kernel
theorem dL_travels_282 : decode cL_travels 282 = .ok (.iconst 1, 1) := by decide +kernel
theorem dL_travels_283 : decode cL_travels 283 = .ok (.iconst 0, 1) := by decide +kernel
theorem dL_travels_284 : decode cL_travels 284 = .ok (.iconst 2, 1) := by decide +kernel
theorem dL_travels_285 : decode cL_travels 285 = .ok (.invokevirtual 46, 3) := by decide +kernel
theorem dL_travels_288 : decode cL_travels 288 = .ok (.ifCond .ne 155, 3) := by decide +kernel
theorem dL_travels_291 : decode cL_travels 291 = .ok (.aload_n 0, 1) := by decide +kernel
theorem dL_travels_292 : decode cL_travels 292 = .ok (.iconst 1, 1) := by decide +kernel
theorem dL_travels_293 : decode cL_travels 293 = .ok (.iconst 0, 1) := by decide +kernel
theorem dL_travels_294 : decode cL_travels 294 = .ok (.iconst 3, 1) := by decide +kernel
theorem dL_travels_295 : decode cL_travels 295 = .ok (.invokevirtual 46, 3) := by decide +kernel
theorem dL_travels_298 : decode cL_travels 298 = .ok (.iconst 4, 1) := by decide +kernel
theorem dL_travels_299 : decode cL_travels 299 = .ok (.if_icmp .ne 144, 3) := by decide +kernel
theorem dL_travels_302 : decode cL_travels 302 = .ok (.aload_n 0, 1) := by decide +kernel
theorem dL_travels_303 : decode cL_travels 303 = .ok (.iconst 1, 1) := by decide +kernel
theorem dL_travels_304 : decode cL_travels 304 = .ok (.iconst 3, 1) := by decide +kernel
theorem dL_travels_305 : decode cL_travels 305 = .ok (.invokevirtual 19, 3) := by decide +kernel
theorem dL_travels_308 : decode cL_travels 308 = .ok (.ifCond .ne 135, 3) := by decide +kernel
theorem dL_travels_311 : decode cL_travels 311 = .ok (.aload_n 0, 1) := by decide +kernel
theorem dL_travels_312 : decode cL_travels 312 = .ok (.iconst 1, 1) := by decide +kernel
theorem dL_travels_313 : decode cL_travels 313 = .ok (.invokevirtual 30, 3) := by decide +kernel
theorem dL_travels_316 : decode cL_travels 316 = .ok (.iconst 4, 1) := by decide +kernel
theorem dL_travels_317 : decode cL_travels 317 = .ok (.if_icmp .ne 126, 3) := by decide +kernel
theorem dL_travels_320 : decode cL_travels 320 = .ok (.aload_n 0, 1) := by decide +kernel
theorem dL_travels_321 : decode cL_travels 321 = .ok (.iconst 0, 1) := by decide +kernel
theorem dL_travels_322 : decode cL_travels 322 = .ok (.bipush 8, 2) := by decide +kernel
theorem dL_travels_324 : decode cL_travels 324 = .ok (.bipush 14, 2) := by decide +kernel
theorem dL_travels_326 : decode cL_travels 326 = .ok (.bipush 6, 2) := by decide +kernel
theorem dL_travels_328 : decode cL_travels 328 = .ok (.sipush 258, 3) := by decide +kernel
theorem dL_travels_331 : decode cL_travels 331 = .ok (.invokestatic 100, 3) := by decide +kernel
theorem dL_travels_334 : decode cL_travels 334 = .ok (.ifCond .eq 109, 3) := by decide +kernel
theorem dL_travels_337 : decode cL_travels 337 = .ok (.aload_n 0, 1) := by decide +kernel
theorem dL_travels_338 : decode cL_travels 338 = .ok (.iconst 1, 1) := by decide +kernel
theorem dL_travels_339 : decode cL_travels 339 = .ok (.iconst 5, 1) := by decide +kernel
theorem dL_travels_340 : decode cL_travels 340 = .ok (.iconst 4, 1) := by decide +kernel
theorem dL_travels_341 : decode cL_travels 341 = .ok (.iconst 3, 1) := by decide +kernel
theorem dL_travels_342 : decode cL_travels 342 = .ok (.bipush 36, 2) := by decide +kernel
theorem dL_travels_344 : decode cL_travels 344 = .ok (.invokestatic 100, 3) := by decide +kernel
theorem dL_travels_347 : decode cL_travels 347 = .ok (.ifCond .eq 96, 3) := by decide +kernel
theorem dL_travels_350 : decode cL_travels 350 = .ok (.aload_n 0, 1) := by decide +kernel
theorem dL_travels_351 : decode cL_travels 351 = .ok (.iconst 1, 1) := by decide +kernel
theorem dL_travels_352 : decode cL_travels 352 = .ok (.invokevirtual 61, 3) := by decide +kernel
theorem dL_travels_355 : decode cL_travels 355 = .ok (.ifCond .ne 88, 3) := by decide +kernel
theorem dL_travels_358 : decode cL_travels 358 = .ok (.aload_n 0, 1) := by decide +kernel
theorem dL_travels_359 : decode cL_travels 359 = .ok (.iconst 2, 1) := by decide +kernel
theorem dL_travels_360 : decode cL_travels 360 = .ok (.iconst 0, 1) := by decide +kernel
theorem dL_travels_361 : decode cL_travels 361 = .ok (.invokevirtual 43, 3) := by decide +kernel
theorem dL_travels_364 : decode cL_travels 364 = .ok (.iconst 3, 1) := by decide +kernel
theorem dL_travels_365 : decode cL_travels 365 = .ok (.if_icmp .ne 78, 3) := by decide +kernel
theorem dL_travels_368 : decode cL_travels 368 = .ok (.aload_n 0, 1) := by decide +kernel
theorem dL_travels_369 : decode cL_travels 369 = .ok (.iconst 2, 1) := by decide +kernel
theorem dL_travels_370 : decode cL_travels 370 = .ok (.iconst 1, 1) := by decide +kernel
theorem dL_travels_371 : decode cL_travels 371 = .ok (.invokevirtual 43, 3) := by decide +kernel
theorem dL_travels_374 : decode cL_travels 374 = .ok (.ifCond .ne 69, 3) := by decide +kernel
theorem dL_travels_377 : decode cL_travels 377 = .ok (.aload_n 0, 1) := by decide +kernel
theorem dL_travels_378 : decode cL_travels 378 = .ok (.iconst 0, 1) := by decide +kernel
theorem dL_travels_379 : decode cL_travels 379 = .ok (.iconst 1, 1) := by decide +kernel
theorem dL_travels_380 : decode cL_travels 380 = .ok (.bipush 10, 2) := by decide +kernel
theorem dL_travels_382 : decode cL_travels 382 = .ok (.invokevirtual 34, 3) := by decide +kernel
theorem dL_travels_385 : decode cL_travels 385 = .ok (.iconst 4, 1) := by decide +kernel
theorem dL_travels_386 : decode cL_travels 386 = .ok (.if_icmp .ne 57, 3) := by decide +kernel
theorem dL_travels_389 : decode cL_travels 389 = .ok (.aload_n 0, 1) := by decide +kernel
theorem dL_travels_390 : decode cL_travels 390 = .ok (.iconst 0, 1) := by decide +kernel
theorem dL_travels_391 : decode cL_travels 391 = .ok (.iconst 0, 1) := by decide +kernel
theorem dL_travels_392 : decode cL_travels 392 = .ok (.invokevirtual 37, 3) := by decide +kernel
theorem dL_travels_395 : decode cL_travels 395 = .ok (.bipush 18, 2) := by decide +kernel
theorem dL_travels_397 : decode cL_travels 397 = .ok (.if_icmp .ne 46, 3) := by decide +kernel
theorem dL_travels_400 : decode cL_travels 400 = .ok (.aload_n 0, 1) := by decide +kernel
theorem dL_travels_401 : decode cL_travels 401 = .ok (.iconst 0, 1) := by decide +kernel
theorem dL_travels_402 : decode cL_travels 402 = .ok (.invokevirtual 55, 3) := by decide +kernel
theorem dL_travels_405 : decode cL_travels 405 = .ok (.bipush 30, 2) := by decide +kernel
theorem dL_travels_407 : decode cL_travels 407 = .ok (.if_icmp .ne 36, 3) := by decide +kernel
theorem dL_travels_410 : decode cL_travels 410 = .ok (.aload_n 0, 1) := by decide +kernel
theorem dL_travels_411 : decode cL_travels 411 = .ok (.iconst 1, 1) := by decide +kernel
theorem dL_travels_412 : decode cL_travels 412 = .ok (.invokevirtual 55, 3) := by decide +kernel
theorem dL_travels_415 : decode cL_travels 415 = .ok (.bipush 10, 2) := by decide +kernel
theorem dL_travels_417 : decode cL_travels 417 = .ok (.if_icmp .ne 26, 3) := by decide +kernel
theorem dL_travels_420 : decode cL_travels 420 = .ok (.aload_n 0, 1) := by decide +kernel
theorem dL_travels_421 : decode cL_travels 421 = .ok (.iconst 5, 1) := by decide +kernel
theorem dL_travels_422 : decode cL_travels 422 = .ok (.iconst 0, 1) := by decide +kernel
theorem dL_travels_423 : decode cL_travels 423 = .ok (.iconst 1, 1) := by decide +kernel
theorem dL_travels_424 : decode cL_travels 424 = .ok (.iconst 5, 1) := by decide +kernel
theorem dL_travels_425 : decode cL_travels 425 = .ok (.iconst 0, 1) := by decide +kernel
theorem dL_travels_426 : decode cL_travels 426 = .ok (.invokestatic 95, 3) := by decide +kernel
theorem dL_travels_429 : decode cL_travels 429 = .ok (.sipush (-8003), 3) := by decide +kernel
theorem dL_travels_432 : decode cL_travels 432 = .ok (.if_icmp .ne 11, 3) := by decide +kernel
theorem dL_travels_435 : decode cL_travels 435 = .ok (.aload_n 0, 1) := by decide +kernel
theorem dL_travels_436 : decode cL_travels 436 = .ok (.iconst 0, 1) := by decide +kernel
theorem dL_travels_437 : decode cL_travels 437 = .ok (.invokevirtual 52, 3) := by decide +kernel
theorem dL_travels_440 : decode cL_travels 440 = .ok (.ifCond .eq 5, 3) := by decide +kernel
theorem dL_travels_443 : decode cL_travels 443 = .ok (.iconst 0, 1) := by decide +kernel
theorem dL_travels_444 : decode cL_travels 444 = .ok (.ireturn, 1) := by decide +kernel
theorem dL_travels_445 : decode cL_travels 445 = .ok (.aload_n 0, 1) := by decide +kernel
theorem dL_travels_446 : decode cL_travels 446 = .ok (.iconst 0, 1) := by decide +kernel
theorem dL_travels_447 : decode cL_travels 447 = .ok (.bipush 100, 2) := by decide +kernel
theorem dL_travels_449 : decode cL_travels 449 = .ok (.bipush 10, 2) := by decide +kernel
theorem dL_travels_451 : decode cL_travels 451 = .ok (.iconst 5, 1) := by decide +kernel
theorem dL_travels_452 : decode cL_travels 452 = .ok (.invokestatic 89, 3) := by decide +kernel
theorem dL_travels_455 : decode cL_travels 455 = .ok (.ifCond .ne 132, 3) := by decide +kernel
theorem dL_travels_458 : decode cL_travels 458 = .ok (.aload_n 0, 1) := by decide +kernel
theorem dL_travels_459 : decode cL_travels 459 = .ok (.iconst 1, 1) := by decide +kernel
theorem dL_travels_460 : decode cL_travels 460 = .ok (.invokevirtual 30, 3) := by decide +kernel
theorem dL_travels_463 : decode cL_travels 463 = .ok (.iconst 5, 1) := by decide +kernel
theorem dL_travels_464 : decode cL_travels 464 = .ok (.if_icmp .ne 123, 3) := by decide +kernel
theorem dL_travels_467 : decode cL_travels 467 = .ok (.aload_n 0, 1) := by decide +kernel
theorem dL_travels_468 : decode cL_travels 468 = .ok (.iconst 1, 1) := by decide +kernel
theorem dL_travels_469 : decode cL_travels 469 = .ok (.iconst 0, 1) := by decide +kernel
theorem dL_travels_470 : decode cL_travels 470 = .ok (.bipush 9, 2) := by decide +kernel
theorem dL_travels_472 : decode cL_travels 472 = .ok (.invokevirtual 46, 3) := by decide +kernel
theorem dL_travels_475 : decode cL_travels 475 = .ok (.iconst 4, 1) := by decide +kernel
theorem dL_travels_476 : decode cL_travels 476 = .ok (.if_icmp .ne 111, 3) := by decide +kernel
theorem dL_travels_479 : decode cL_travels 479 = .ok (.aload_n 0, 1) := by decide +kernel
theorem dL_travels_480 : decode cL_travels 480 = .ok (.iconst 1, 1) := by decide +kernel
theorem dL_travels_481 : decode cL_travels 481 = .ok (.iconst 0, 1) := by decide +kernel
theorem dL_travels_482 : decode cL_travels 482 = .ok (.invokevirtual 43, 3) := by decide +kernel
theorem dL_travels_485 : decode cL_travels 485 = .ok (.iconst 4, 1) := by decide +kernel
theorem dL_travels_486 : decode cL_travels 486 = .ok (.if_icmp .ne 101, 3) := by decide +kernel
theorem dL_travels_489 : decode cL_travels 489 = .ok (.aload_n 0, 1) := by decide +kernel
theorem dL_travels_490 : decode cL_travels 490 = .ok (.iconst 1, 1) := by decide +kernel
theorem dL_travels_491 : decode cL_travels 491 = .ok (.bipush 6, 2) := by decide +kernel
theorem dL_travels_493 : decode cL_travels 493 = .ok (.bipush 6, 2) := by decide +kernel
theorem dL_travels_495 : decode cL_travels 495 = .ok (.iconst 3, 1) := by decide +kernel
theorem dL_travels_496 : decode cL_travels 496 = .ok (.bipush 75, 2) := by decide +kernel
theorem dL_travels_498 : decode cL_travels 498 = .ok (.invokestatic 100, 3) := by decide +kernel
theorem dL_travels_501 : decode cL_travels 501 = .ok (.ifCond .eq 86, 3) := by decide +kernel
theorem dL_travels_504 : decode cL_travels 504 = .ok (.aload_n 0, 1) := by decide +kernel
theorem dL_travels_505 : decode cL_travels 505 = .ok (.iconst 2, 1) := by decide +kernel
theorem dL_travels_506 : decode cL_travels 506 = .ok (.iconst 0, 1) := by decide +kernel
theorem dL_travels_507 : decode cL_travels 507 = .ok (.invokevirtual 37, 3) := by decide +kernel
theorem dL_travels_510 : decode cL_travels 510 = .ok (.iconst 3, 1) := by decide +kernel
theorem dL_travels_511 : decode cL_travels 511 = .ok (.if_icmp .ne 76, 3) := by decide +kernel
theorem dL_travels_514 : decode cL_travels 514 = .ok (.aload_n 0, 1) := by decide +kernel
theorem dL_travels_515 : decode cL_travels 515 = .ok (.bipush 24, 2) := by decide +kernel
theorem dL_travels_517 : decode cL_travels 517 = .ok (.invokevirtual 30, 3) := by decide +kernel
theorem dL_travels_520 : decode cL_travels 520 = .ok (.bipush 29, 2) := by decide +kernel
theorem dL_travels_522 : decode cL_travels 522 = .ok (.if_icmp .ne 65, 3) := by decide +kernel
theorem dL_travels_525 : decode cL_travels 525 = .ok (.aload_n 0, 1) := by decide +kernel
theorem dL_travels_526 : decode cL_travels 526 = .ok (.invokevirtual 84, 3) := by decide +kernel
theorem dL_travels_529 : decode cL_travels 529 = .ok (.bipush 29, 2) := by decide +kernel
theorem dL_travels_531 : decode cL_travels 531 = .ok (.if_icmp .ne 56, 3) := by decide +kernel
theorem dL_travels_534 : decode cL_travels 534 = .ok (.aload_n 0, 1) := by decide +kernel
theorem dL_travels_535 : decode cL_travels 535 = .ok (.iconst 0, 1) := by decide +kernel
theorem dL_travels_536 : decode cL_travels 536 = .ok (.invokevirtual 55, 3) := by decide +kernel
theorem dL_travels_539 : decode cL_travels 539 = .ok (.aload_n 0, 1) := by decide +kernel
theorem dL_travels_540 : decode cL_travels 540 = .ok (.iconst 0, 1) := by decide +kernel
theorem dL_travels_541 : decode cL_travels 541 = .ok (.iconst 0, 1) := by decide +kernel
theorem dL_travels_542 : decode cL_travels 542 = .ok (.invokevirtual 37, 3) := by decide +kernel
theorem dL_travels_545 : decode cL_travels 545 = .ok (.aload_n 0, 1) := by decide +kernel
theorem dL_travels_546 : decode cL_travels 546 = .ok (.iconst 1, 1) := by decide +kernel
theorem dL_travels_547 : decode cL_travels 547 = .ok (.iconst 0, 1) := by decide +kernel
theorem dL_travels_548 : decode cL_travels 548 = .ok (.invokevirtual 37, 3) := by decide +kernel
theorem dL_travels_551 : decode cL_travels 551 = .ok (.iadd, 1) := by decide +kernel
theorem dL_travels_552 : decode cL_travels 552 = .ok (.aload_n 0, 1) := by decide +kernel
theorem dL_travels_553 : decode cL_travels 553 = .ok (.iconst 2, 1) := by decide +kernel
theorem dL_travels_554 : decode cL_travels 554 = .ok (.iconst 0, 1) := by decide +kernel
theorem dL_travels_555 : decode cL_travels 555 = .ok (.invokevirtual 37, 3) := by decide +kernel
theorem dL_travels_558 : decode cL_travels 558 = .ok (.iadd, 1) := by decide +kernel
theorem dL_travels_559 : decode cL_travels 559 = .ok (.aload_n 0, 1) := by decide +kernel
theorem dL_travels_560 : decode cL_travels 560 = .ok (.iconst 1, 1) := by decide +kernel
theorem dL_travels_561 : decode cL_travels 561 = .ok (.iconst 0, 1) := by decide +kernel
theorem dL_travels_562 : decode cL_travels 562 = .ok (.invokevirtual 43, 3) := by decide +kernel
theorem dL_travels_565 : decode cL_travels 565 = .ok (.iadd, 1) := by decide +kernel
theorem dL_travels_566 : decode cL_travels 566 = .ok (.aload_n 0, 1) := by decide +kernel
theorem dL_travels_567 : decode cL_travels 567 = .ok (.iconst 2, 1) := by decide +kernel
theorem dL_travels_568 : decode cL_travels 568 = .ok (.iconst 0, 1) := by decide +kernel
theorem dL_travels_569 : decode cL_travels 569 = .ok (.invokevirtual 43, 3) := by decide +kernel
theorem dL_travels_572 : decode cL_travels 572 = .ok (.iadd, 1) := by decide +kernel
theorem dL_travels_573 : decode cL_travels 573 = .ok (.if_icmp .ne 14, 3) := by decide +kernel
theorem dL_travels_576 : decode cL_travels 576 = .ok (.aload_n 0, 1) := by decide +kernel
theorem dL_travels_577 : decode cL_travels 577 = .ok (.invokestatic 104, 3) := by decide +kernel
theorem dL_travels_580 : decode cL_travels 580 = .ok (.ifCond .eq 7, 3) := by decide +kernel
theorem dL_travels_583 : decode cL_travels 583 = .ok (.iconst 1, 1) := by decide +kernel
theorem dL_travels_584 : decode cL_travels 584 = .ok (.goto 4, 3) := by decide +kernel
theorem dL_travels_587 : decode cL_travels 587 = .ok (.iconst 0, 1) := by decide +kernel
theorem dL_travels_588 : decode cL_travels 588 = .ok (.ireturn, 1) := by decide +kernel
theorem dL_cuts_0 : decode cL_cuts 0 = .ok (.new 8, 3) := by decide +kernel
theorem dL_cuts_3 : decode cL_cuts 3 = .ok (.dup, 1) := by decide +kernel
theorem dL_cuts_4 : decode cL_cuts 4 = .ok (.invokespecial 99, 3) := by decide +kernel
theorem dL_cuts_7 : decode cL_cuts 7 = .ok (.astore_n 0, 1) := by decide +kernel
theorem dL_cuts_8 : decode cL_cuts 8 = .ok (.aload_n 0, 1) := by decide +kernel
theorem dL_cuts_9 : decode cL_cuts 9 = .ok (.iconst 2, 1) := by decide +kernel
theorem dL_cuts_10 : decode cL_cuts 10 = .ok (.iconst 5, 1) := by decide +kernel
theorem dL_cuts_11 : decode cL_cuts 11 = .ok (.bipush 100, 2) := by decide +kernel
theorem dL_cuts_13 : decode cL_cuts 13 = .ok (.invokevirtual 15, 3) := by decide +kernel
theorem dL_cuts_16 : decode cL_cuts 16 = .ok (.ifCond .ne 187, 3) := by decide +kernel
theorem dL_cuts_19 : decode cL_cuts 19 = .ok (.aload_n 0, 1) := by decide +kernel
theorem dL_cuts_20 : decode cL_cuts 20 = .ok (.iconst 2, 1) := by decide +kernel
theorem dL_cuts_21 : decode cL_cuts 21 = .ok (.iconst 0, 1) := by decide +kernel
theorem dL_cuts_22 : decode cL_cuts 22 = .ok (.iconst 3, 1) := by decide +kernel
theorem dL_cuts_23 : decode cL_cuts 23 = .ok (.invokevirtual 23, 3) := by decide +kernel
theorem dL_cuts_26 : decode cL_cuts 26 = .ok (.ifCond .ne 177, 3) := by decide +kernel
theorem dL_cuts_29 : decode cL_cuts 29 = .ok (.aload_n 0, 1) := by decide +kernel
theorem dL_cuts_30 : decode cL_cuts 30 = .ok (.iconst 2, 1) := by decide +kernel
theorem dL_cuts_31 : decode cL_cuts 31 = .ok (.iconst 1, 1) := by decide +kernel
theorem dL_cuts_32 : decode cL_cuts 32 = .ok (.bipush 10, 2) := by decide +kernel
theorem dL_cuts_34 : decode cL_cuts 34 = .ok (.invokevirtual 23, 3) := by decide +kernel
theorem dL_cuts_37 : decode cL_cuts 37 = .ok (.ifCond .ne 166, 3) := by decide +kernel
theorem dL_cuts_40 : decode cL_cuts 40 = .ok (.aload_n 0, 1) := by decide +kernel
theorem dL_cuts_41 : decode cL_cuts 41 = .ok (.iconst 2, 1) := by decide +kernel
theorem dL_cuts_42 : decode cL_cuts 42 = .ok (.bipush 6, 2) := by decide +kernel
theorem dL_cuts_44 : decode cL_cuts 44 = .ok (.invokevirtual 19, 3) := by decide +kernel
theorem dL_cuts_47 : decode cL_cuts 47 = .ok (.ifCond .ne 156, 3) := by decide +kernel
theorem dL_cuts_50 : decode cL_cuts 50 = .ok (.aload_n 0, 1) := by decide +kernel
theorem dL_cuts_51 : decode cL_cuts 51 = .ok (.iconst 1, 1) := by decide +kernel
theorem dL_cuts_52 : decode cL_cuts 52 = .ok (.invokevirtual 30, 3) := by decide +kernel
theorem dL_cuts_55 : decode cL_cuts 55 = .ok (.iconst 1, 1) := by decide +kernel
theorem dL_cuts_56 : decode cL_cuts 56 = .ok (.if_icmp .ne 147, 3) := by decide +kernel
theorem dL_cuts_59 : decode cL_cuts 59 = .ok (.aload_n 0, 1) := by decide +kernel
theorem dL_cuts_60 : decode cL_cuts 60 = .ok (.iconst 2, 1) := by decide +kernel
theorem dL_cuts_61 : decode cL_cuts 61 = .ok (.iconst 2, 1) := by decide +kernel
theorem dL_cuts_62 : decode cL_cuts 62 = .ok (.bipush (-2), 2) := by decide +kernel
theorem dL_cuts_64 : decode cL_cuts 64 = .ok (.iconst 5, 1) := by decide +kernel
theorem dL_cuts_65 : decode cL_cuts 65 = .ok (.bipush 55, 2) := by decide +kernel
theorem dL_cuts_67 : decode cL_cuts 67 = .ok (.invokestatic 100, 3) := by decide +kernel
theorem dL_cuts_70 : decode cL_cuts 70 = .ok (.ifCond .eq 133, 3) := by decide +kernel
theorem dL_cuts_73 : decode cL_cuts 73 = .ok (.aload_n 0, 1) := by decide +kernel
theorem dL_cuts_74 : decode cL_cuts 74 = .ok (.iconst 0, 1) := by decide +kernel
theorem dL_cuts_75 : decode cL_cuts 75 = .ok (.invokevirtual 52, 3) := by decide +kernel
theorem dL_cuts_78 : decode cL_cuts 78 = .ok (.iconst 3, 1) := by decide +kernel
theorem dL_cuts_79 : decode cL_cuts 79 = .ok (.if_icmp .ne 124, 3) := by decide +kernel
theorem dL_cuts_82 : decode cL_cuts 82 = .ok (.aload_n 0, 1) := by decide +kernel
theorem dL_cuts_83 : decode cL_cuts 83 = .ok (.iconst 1, 1) := by decide +kernel
theorem dL_cuts_84 : decode cL_cuts 84 = .ok (.invokevirtual 52, 3) := by decide +kernel
theorem dL_cuts_87 : decode cL_cuts 87 = .ok (.iconst 2, 1) := by decide +kernel
theorem dL_cuts_88 : decode cL_cuts 88 = .ok (.if_icmp .ne 115, 3) := by decide +kernel
theorem dL_cuts_91 : decode cL_cuts 91 = .ok (.aload_n 0, 1) := by decide +kernel
theorem dL_cuts_92 : decode cL_cuts 92 = .ok (.iconst 2, 1) := by decide +kernel
theorem dL_cuts_93 : decode cL_cuts 93 = .ok (.invokevirtual 61, 3) := by decide +kernel
theorem dL_cuts_96 : decode cL_cuts 96 = .ok (.iconst 1, 1) := by decide +kernel
theorem dL_cuts_97 : decode cL_cuts 97 = .ok (.if_icmp .ne 106, 3) := by decide +kernel
theorem dL_cuts_100 : decode cL_cuts 100 = .ok (.aload_n 0, 1) := by decide +kernel
theorem dL_cuts_101 : decode cL_cuts 101 = .ok (.iconst 1, 1) := by decide +kernel
theorem dL_cuts_102 : decode cL_cuts 102 = .ok (.invokevirtual 55, 3) := by decide +kernel
theorem dL_cuts_105 : decode cL_cuts 105 = .ok (.bipush (-2), 2) := by decide +kernel
theorem dL_cuts_107 : decode cL_cuts 107 = .ok (.if_icmp .ne 96, 3) := by decide +kernel
theorem dL_cuts_110 : decode cL_cuts 110 = .ok (.aload_n 0, 1) := by decide +kernel
theorem dL_cuts_111 : decode cL_cuts 111 = .ok (.iconst 5, 1) := by decide +kernel
theorem dL_cuts_112 : decode cL_cuts 112 = .ok (.iconst 2, 1) := by decide +kernel
theorem dL_cuts_113 : decode cL_cuts 113 = .ok (.iconst 1, 1) := by decide +kernel
theorem dL_cuts_114 : decode cL_cuts 114 = .ok (.iconst 1, 1) := by decide +kernel
theorem dL_cuts_115 : decode cL_cuts 115 = .ok (.iconst 0, 1) := by decide +kernel
theorem dL_cuts_116 : decode cL_cuts 116 = .ok (.invokestatic 95, 3) := by decide +kernel
theorem dL_cuts_119 : decode cL_cuts 119 = .ok (.sipush (-8003), 3) := by decide +kernel
theorem dL_cuts_122 : decode cL_cuts 122 = .ok (.if_icmp .ne 81, 3) := by decide +kernel
theorem dL_cuts_125 : decode cL_cuts 125 = .ok (.aload_n 0, 1) := by decide +kernel
theorem dL_cuts_126 : decode cL_cuts 126 = .ok (.iconst 1, 1) := by decide +kernel
theorem dL_cuts_127 : decode cL_cuts 127 = .ok (.invokevirtual 30, 3) := by decide +kernel
theorem dL_cuts_130 : decode cL_cuts 130 = .ok (.iconst 2, 1) := by decide +kernel
theorem dL_cuts_131 : decode cL_cuts 131 = .ok (.if_icmp .ne 72, 3) := by decide +kernel
theorem dL_cuts_134 : decode cL_cuts 134 = .ok (.aload_n 0, 1) := by decide +kernel
theorem dL_cuts_135 : decode cL_cuts 135 = .ok (.iconst 2, 1) := by decide +kernel
theorem dL_cuts_136 : decode cL_cuts 136 = .ok (.iconst 4, 1) := by decide +kernel
theorem dL_cuts_137 : decode cL_cuts 137 = .ok (.bipush (-4), 2) := by decide +kernel
theorem dL_cuts_139 : decode cL_cuts 139 = .ok (.iconst 5, 1) := by decide +kernel
theorem dL_cuts_140 : decode cL_cuts 140 = .ok (.bipush 110, 2) := by decide +kernel
theorem dL_cuts_142 : decode cL_cuts 142 = .ok (.invokestatic 100, 3) := by decide +kernel
theorem dL_cuts_145 : decode cL_cuts 145 = .ok (.ifCond .eq 58, 3) := by decide +kernel
theorem dL_cuts_148 : decode cL_cuts 148 = .ok (.aload_n 0, 1) := by decide +kernel
theorem dL_cuts_149 : decode cL_cuts 149 = .ok (.iconst 2, 1) := by decide +kernel
