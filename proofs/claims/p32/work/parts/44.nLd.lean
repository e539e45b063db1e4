theorem dL_updates_735 : decode cL_updates 735 = .ok (.aload_n 3, 1) := by decide +kernel
theorem dL_updates_736 : decode cL_updates 736 = .ok (.aload 4, 2) := by decide +kernel
theorem dL_updates_738 : decode cL_updates 738 = .ok (.invokestatic 58, 3) := by decide +kernel
theorem dL_updates_741 : decode cL_updates 741 = .ok (.iconst 5, 1) := by decide +kernel
theorem dL_updates_742 : decode cL_updates 742 = .ok (.if_icmp .ne 7, 3) := by decide +kernel
theorem dL_updates_745 : decode cL_updates 745 = .ok (.iconst 1, 1) := by decide +kernel
theorem dL_updates_746 : decode cL_updates 746 = .ok (.goto 4, 3) := by decide +kernel
theorem dL_updates_749 : decode cL_updates 749 = .ok (.iconst 0, 1) := by decide +kernel
theorem dL_updates_750 : decode cL_updates 750 = .ok (.istore 10, 2) := by decide +kernel
theorem dL_updates_752 : decode cL_updates 752 = .ok (.aload_n 0, 1) := by decide +kernel
theorem dL_updates_753 : decode cL_updates 753 = .ok (.invokestatic 108, 3) := by decide +kernel
theorem dL_updates_756 : decode cL_updates 756 = .ok (.iload 9, 2) := by decide +kernel
theorem dL_updates_758 : decode cL_updates 758 = .ok (.ifCond .ne 8, 3) := by decide +kernel
theorem dL_updates_761 : decode cL_updates 761 = .ok (.bipush (-2), 2) := by decide +kernel
theorem dL_updates_763 : decode cL_updates 763 = .ok (.goto 13, 3) := by decide +kernel
theorem dL_updates_766 : decode cL_updates 766 = .ok (.iload 10, 2) := by decide +kernel
theorem dL_updates_768 : decode cL_updates 768 = .ok (.ifCond .eq 7, 3) := by decide +kernel
theorem dL_updates_771 : decode cL_updates 771 = .ok (.iconst 1, 1) := by decide +kernel
theorem dL_updates_772 : decode cL_updates 772 = .ok (.goto 4, 3) := by decide +kernel
theorem dL_updates_775 : decode cL_updates 775 = .ok (.iconst 0, 1) := by decide +kernel
theorem dL_updates_776 : decode cL_updates 776 = .ok (.if_icmp .ne 7, 3) := by decide +kernel
theorem dL_updates_779 : decode cL_updates 779 = .ok (.iconst 1, 1) := by decide +kernel
theorem dL_updates_780 : decode cL_updates 780 = .ok (.goto 4, 3) := by decide +kernel
theorem dL_updates_783 : decode cL_updates 783 = .ok (.iconst 0, 1) := by decide +kernel
theorem dL_updates_784 : decode cL_updates 784 = .ok (.ireturn, 1) := by decide +kernel
theorem dL_updates_785 : decode cL_updates 785 = .ok (.iconst 1, 1) := by decide +kernel
theorem dL_updates_786 : decode cL_updates 786 = .ok (.iload 6, 2) := by decide +kernel
theorem dL_updates_788 : decode cL_updates 788 = .ok (.iconst 3, 1) := by decide +kernel
theorem dL_updates_789 : decode cL_updates 789 = .ok (.irem, 1) := by decide +kernel
theorem dL_updates_790 : decode cL_updates 790 = .ok (.iadd, 1) := by decide +kernel
theorem dL_updates_791 : decode cL_updates 791 = .ok (.istore 9, 2) := by decide +kernel
theorem dL_updates_793 : decode cL_updates 793 = .ok (.aload 4, 2) := by decide +kernel
theorem dL_updates_795 : decode cL_updates 795 = .ok (.iconst 3, 1) := by decide +kernel
theorem dL_updates_796 : decode cL_updates 796 = .ok (.iaload, 1) := by decide +kernel
theorem dL_updates_797 : decode cL_updates 797 = .ok (.ifCond .lt 40, 3) := by decide +kernel
theorem dL_updates_800 : decode cL_updates 800 = .ok (.aload 4, 2) := by decide +kernel
theorem dL_updates_802 : decode cL_updates 802 = .ok (.iconst 3, 1) := by decide +kernel
theorem dL_updates_803 : decode cL_updates 803 = .ok (.iaload, 1) := by decide +kernel
theorem dL_updates_804 : decode cL_updates 804 = .ok (.aload 4, 2) := by decide +kernel
theorem dL_updates_806 : decode cL_updates 806 = .ok (.iconst 5, 1) := by decide +kernel
theorem dL_updates_807 : decode cL_updates 807 = .ok (.iaload, 1) := by decide +kernel
theorem dL_updates_808 : decode cL_updates 808 = .ok (.if_icmp .ne 29, 3) := by decide +kernel
theorem dL_updates_811 : decode cL_updates 811 = .ok (.aload_n 2, 1) := by decide +kernel
theorem dL_updates_812 : decode cL_updates 812 = .ok (.iconst 1, 1) := by decide +kernel
theorem dL_updates_813 : decode cL_updates 813 = .ok (.aload 4, 2) := by decide +kernel
theorem dL_updates_815 : decode cL_updates 815 = .ok (.iconst 0, 1) := by decide +kernel
theorem dL_updates_816 : decode cL_updates 816 = .ok (.iaload, 1) := by decide +kernel
theorem dL_updates_817 : decode cL_updates 817 = .ok (.isub, 1) := by decide +kernel
theorem dL_updates_818 : decode cL_updates 818 = .ok (.aload 4, 2) := by decide +kernel
theorem dL_updates_820 : decode cL_updates 820 = .ok (.iconst 5, 1) := by decide +kernel
theorem dL_updates_821 : decode cL_updates 821 = .ok (.iaload, 1) := by decide +kernel
theorem dL_updates_822 : decode cL_updates 822 = .ok (.invokestatic 15, 3) := by decide +kernel
theorem dL_updates_825 : decode cL_updates 825 = .ok (.aload 4, 2) := by decide +kernel
theorem dL_updates_827 : decode cL_updates 827 = .ok (.bipush 6, 2) := by decide +kernel
theorem dL_updates_829 : decode cL_updates 829 = .ok (.iaload, 1) := by decide +kernel
theorem dL_updates_830 : decode cL_updates 830 = .ok (.if_icmp .ne 7, 3) := by decide +kernel
theorem dL_updates_833 : decode cL_updates 833 = .ok (.iconst 1, 1) := by decide +kernel
theorem dL_updates_834 : decode cL_updates 834 = .ok (.goto 4, 3) := by decide +kernel
theorem dL_updates_837 : decode cL_updates 837 = .ok (.iconst 0, 1) := by decide +kernel
theorem dL_updates_838 : decode cL_updates 838 = .ok (.istore 10, 2) := by decide +kernel
theorem dL_updates_840 : decode cL_updates 840 = .ok (.aload_n 0, 1) := by decide +kernel
theorem dL_updates_841 : decode cL_updates 841 = .ok (.iload 9, 2) := by decide +kernel
theorem dL_updates_843 : decode cL_updates 843 = .ok (.invokestatic 112, 3) := by decide +kernel
theorem dL_updates_846 : decode cL_updates 846 = .ok (.iload 10, 2) := by decide +kernel
theorem dL_updates_848 : decode cL_updates 848 = .ok (.ifCond .eq 8, 3) := by decide +kernel
theorem dL_updates_851 : decode cL_updates 851 = .ok (.bipush 10, 2) := by decide +kernel
theorem dL_updates_853 : decode cL_updates 853 = .ok (.goto 5, 3) := by decide +kernel
theorem dL_updates_856 : decode cL_updates 856 = .ok (.bipush (-2), 2) := by decide +kernel
theorem dL_updates_858 : decode cL_updates 858 = .ok (.if_icmp .eq 5, 3) := by decide +kernel
theorem dL_updates_861 : decode cL_updates 861 = .ok (.iconst 0, 1) := by decide +kernel
theorem dL_updates_862 : decode cL_updates 862 = .ok (.ireturn, 1) := by decide +kernel
theorem dL_updates_863 : decode cL_updates 863 = .ok (.iload 10, 2) := by decide +kernel
theorem dL_updates_865 : decode cL_updates 865 = .ok (.ifCond .eq 94, 3) := by decide +kernel
theorem dL_updates_868 : decode cL_updates 868 = .ok (.aload_n 1, 1) := by decide +kernel
theorem dL_updates_869 : decode cL_updates 869 = .ok (.iload 8, 2) := by decide +kernel
theorem dL_updates_871 : decode cL_updates 871 = .ok (.iconst 1, 1) := by decide +kernel
theorem dL_updates_872 : decode cL_updates 872 = .ok (.iadd, 1) := by decide +kernel
theorem dL_updates_873 : decode cL_updates 873 = .ok (.aload 4, 2) := by decide +kernel
theorem dL_updates_875 : decode cL_updates 875 = .ok (.iconst 4, 1) := by decide +kernel
theorem dL_updates_876 : decode cL_updates 876 = .ok (.iaload, 1) := by decide +kernel
theorem dL_updates_877 : decode cL_updates 877 = .ok (.invokestatic 33, 3) := by decide +kernel
theorem dL_updates_880 : decode cL_updates 880 = .ok (.aload_n 1, 1) := by decide +kernel
theorem dL_updates_881 : decode cL_updates 881 = .ok (.iload 8, 2) := by decide +kernel
theorem dL_updates_883 : decode cL_updates 883 = .ok (.iconst 2, 1) := by decide +kernel
theorem dL_updates_884 : decode cL_updates 884 = .ok (.iadd, 1) := by decide +kernel
theorem dL_updates_885 : decode cL_updates 885 = .ok (.aload 4, 2) := by decide +kernel
theorem dL_updates_887 : decode cL_updates 887 = .ok (.iconst 5, 1) := by decide +kernel
theorem dL_updates_888 : decode cL_updates 888 = .ok (.iaload, 1) := by decide +kernel
theorem dL_updates_889 : decode cL_updates 889 = .ok (.invokestatic 33, 3) := by decide +kernel
theorem dL_updates_892 : decode cL_updates 892 = .ok (.aload_n 1, 1) := by decide +kernel
theorem dL_updates_893 : decode cL_updates 893 = .ok (.iload 8, 2) := by decide +kernel
theorem dL_updates_895 : decode cL_updates 895 = .ok (.iconst 3, 1) := by decide +kernel
theorem dL_updates_896 : decode cL_updates 896 = .ok (.iadd, 1) := by decide +kernel
theorem dL_updates_897 : decode cL_updates 897 = .ok (.aload 4, 2) := by decide +kernel
theorem dL_updates_899 : decode cL_updates 899 = .ok (.bipush 6, 2) := by decide +kernel
theorem dL_updates_901 : decode cL_updates 901 = .ok (.iaload, 1) := by decide +kernel
theorem dL_updates_902 : decode cL_updates 902 = .ok (.invokestatic 33, 3) := by decide +kernel
theorem dL_updates_905 : decode cL_updates 905 = .ok (.aload_n 1, 1) := by decide +kernel
theorem dL_updates_906 : decode cL_updates 906 = .ok (.iload 8, 2) := by decide +kernel
theorem dL_updates_908 : decode cL_updates 908 = .ok (.iconst 4, 1) := by decide +kernel
theorem dL_updates_909 : decode cL_updates 909 = .ok (.iadd, 1) := by decide +kernel
theorem dL_updates_910 : decode cL_updates 910 = .ok (.aload 4, 2) := by decide +kernel
theorem dL_updates_912 : decode cL_updates 912 = .ok (.bipush 7, 2) := by decide +kernel
theorem dL_updates_914 : decode cL_updates 914 = .ok (.iaload, 1) := by decide +kernel
theorem dL_updates_915 : decode cL_updates 915 = .ok (.invokestatic 33, 3) := by decide +kernel
theorem dL_updates_918 : decode cL_updates 918 = .ok (.aload_n 1, 1) := by decide +kernel
theorem dL_updates_919 : decode cL_updates 919 = .ok (.iload 8, 2) := by decide +kernel
theorem dL_updates_921 : decode cL_updates 921 = .ok (.iconst 1, 1) := by decide +kernel
theorem dL_updates_922 : decode cL_updates 922 = .ok (.invokestatic 33, 3) := by decide +kernel
theorem dL_updates_925 : decode cL_updates 925 = .ok (.aload_n 1, 1) := by decide +kernel
theorem dL_updates_926 : decode cL_updates 926 = .ok (.aload_n 3, 1) := by decide +kernel
theorem dL_updates_927 : decode cL_updates 927 = .ok (.aload_n 3, 1) := by decide +kernel
theorem dL_updates_928 : decode cL_updates 928 = .ok (.iconst 4, 1) := by decide +kernel
theorem dL_updates_929 : decode cL_updates 929 = .ok (.aload_n 3, 1) := by decide +kernel
theorem dL_updates_930 : decode cL_updates 930 = .ok (.invokestatic 29, 3) := by decide +kernel
theorem dL_updates_933 : decode cL_updates 933 = .ok (.imul, 1) := by decide +kernel
theorem dL_updates_934 : decode cL_updates 934 = .ok (.iconst 2, 1) := by decide +kernel
theorem dL_updates_935 : decode cL_updates 935 = .ok (.iadd, 1) := by decide +kernel
theorem dL_updates_936 : decode cL_updates 936 = .ok (.iaload, 1) := by decide +kernel
theorem dL_updates_937 : decode cL_updates 937 = .ok (.iconst 1, 1) := by decide +kernel
theorem dL_updates_938 : decode cL_updates 938 = .ok (.iand, 1) := by decide +kernel
theorem dL_updates_939 : decode cL_updates 939 = .ok (.iconst 2, 1) := by decide +kernel
theorem dL_updates_940 : decode cL_updates 940 = .ok (.iadd, 1) := by decide +kernel
theorem dL_updates_941 : decode cL_updates 941 = .ok (.iconst 4, 1) := by decide +kernel
theorem dL_updates_942 : decode cL_updates 942 = .ok (.iload 9, 2) := by decide +kernel
theorem dL_updates_944 : decode cL_updates 944 = .ok (.imul, 1) := by decide +kernel
theorem dL_updates_945 : decode cL_updates 945 = .ok (.iadd, 1) := by decide +kernel
theorem dL_updates_946 : decode cL_updates 946 = .ok (.aload_n 3, 1) := by decide +kernel
theorem dL_updates_947 : decode cL_updates 947 = .ok (.iconst 4, 1) := by decide +kernel
theorem dL_updates_948 : decode cL_updates 948 = .ok (.aload_n 3, 1) := by decide +kernel
theorem dL_updates_949 : decode cL_updates 949 = .ok (.invokestatic 29, 3) := by decide +kernel
theorem dL_updates_952 : decode cL_updates 952 = .ok (.imul, 1) := by decide +kernel
theorem dL_updates_953 : decode cL_updates 953 = .ok (.iconst 3, 1) := by decide +kernel
theorem dL_updates_954 : decode cL_updates 954 = .ok (.iadd, 1) := by decide +kernel
theorem dL_updates_955 : decode cL_updates 955 = .ok (.iaload, 1) := by decide +kernel
theorem dL_updates_956 : decode cL_updates 956 = .ok (.invokestatic 54, 3) := by decide +kernel
theorem dL_updates_959 : decode cL_updates 959 = .ok (.aload_n 1, 1) := by decide +kernel
theorem dL_updates_960 : decode cL_updates 960 = .ok (.aload_n 2, 1) := by decide +kernel
theorem dL_updates_961 : decode cL_updates 961 = .ok (.aload_n 3, 1) := by decide +kernel
theorem dL_updates_962 : decode cL_updates 962 = .ok (.aload 4, 2) := by decide +kernel
theorem dL_updates_964 : decode cL_updates 964 = .ok (.invokestatic 58, 3) := by decide +kernel
theorem dL_updates_967 : decode cL_updates 967 = .ok (.bipush 10, 2) := by decide +kernel
theorem dL_updates_969 : decode cL_updates 969 = .ok (.if_icmp .ne 7, 3) := by decide +kernel
theorem dL_updates_972 : decode cL_updates 972 = .ok (.iconst 1, 1) := by decide +kernel
theorem dL_updates_973 : decode cL_updates 973 = .ok (.goto 4, 3) := by decide +kernel
theorem dL_updates_976 : decode cL_updates 976 = .ok (.iconst 0, 1) := by decide +kernel
theorem dL_updates_977 : decode cL_updates 977 = .ok (.istore 11, 2) := by decide +kernel
theorem dL_updates_979 : decode cL_updates 979 = .ok (.aload 4, 2) := by decide +kernel
theorem dL_updates_981 : decode cL_updates 981 = .ok (.iconst 3, 1) := by decide +kernel
theorem dL_updates_982 : decode cL_updates 982 = .ok (.iload 10, 2) := by decide +kernel
theorem dL_updates_984 : decode cL_updates 984 = .ok (.ifCond .eq 7, 3) := by decide +kernel
theorem dL_updates_987 : decode cL_updates 987 = .ok (.iconst (-1), 1) := by decide +kernel
theorem dL_updates_988 : decode cL_updates 988 = .ok (.goto 7, 3) := by decide +kernel
theorem dL_updates_991 : decode cL_updates 991 = .ok (.aload 4, 2) := by decide +kernel
theorem dL_updates_993 : decode cL_updates 993 = .ok (.iconst 3, 1) := by decide +kernel
theorem dL_updates_994 : decode cL_updates 994 = .ok (.iaload, 1) := by decide +kernel
theorem dL_updates_995 : decode cL_updates 995 = .ok (.iastore, 1) := by decide +kernel
theorem dL_updates_996 : decode cL_updates 996 = .ok (.aload_n 0, 1) := by decide +kernel
theorem dL_updates_997 : decode cL_updates 997 = .ok (.iload 9, 2) := by decide +kernel
theorem dL_updates_999 : decode cL_updates 999 = .ok (.invokestatic 115, 3) := by decide +kernel
theorem dL_updates_1002 : decode cL_updates 1002 = .ok (.iload 10, 2) := by decide +kernel
theorem dL_updates_1004 : decode cL_updates 1004 = .ok (.ifCond .ne 8, 3) := by decide +kernel
theorem dL_updates_1007 : decode cL_updates 1007 = .ok (.bipush (-2), 2) := by decide +kernel
theorem dL_updates_1009 : decode cL_updates 1009 = .ok (.goto 13, 3) := by decide +kernel
theorem dL_updates_1012 : decode cL_updates 1012 = .ok (.iload 11, 2) := by decide +kernel
theorem dL_updates_1014 : decode cL_updates 1014 = .ok (.ifCond .eq 7, 3) := by decide +kernel
theorem dL_updates_1017 : decode cL_updates 1017 = .ok (.iconst 1, 1) := by decide +kernel
theorem dL_updates_1018 : decode cL_updates 1018 = .ok (.goto 4, 3) := by decide +kernel
theorem dL_updates_1021 : decode cL_updates 1021 = .ok (.iconst 0, 1) := by decide +kernel
theorem dL_updates_1022 : decode cL_updates 1022 = .ok (.if_icmp .ne 7, 3) := by decide +kernel
theorem dL_updates_1025 : decode cL_updates 1025 = .ok (.iconst 1, 1) := by decide +kernel
theorem dL_updates_1026 : decode cL_updates 1026 = .ok (.goto 4, 3) := by decide +kernel
theorem dL_updates_1029 : decode cL_updates 1029 = .ok (.iconst 0, 1) := by decide +kernel
theorem dL_updates_1030 : decode cL_updates 1030 = .ok (.ireturn, 1) := by decide +kernel
theorem dL_isTold_0 : decode cL_isTold 0 = .ok (.iconst 4, 1) := by decide +kernel
theorem dL_isTold_1 : decode cL_isTold 1 = .ok (.aload_n 2, 1) := by decide +kernel
theorem dL_isTold_2 : decode cL_isTold 2 = .ok (.invokestatic 29, 3) := by decide +kernel
theorem dL_isTold_5 : decode cL_isTold 5 = .ok (.imul, 1) := by decide +kernel
theorem dL_isTold_6 : decode cL_isTold 6 = .ok (.istore 4, 2) := by decide +kernel
theorem dL_isTold_8 : decode cL_isTold 8 = .ok (.aload_n 0, 1) := by decide +kernel
theorem dL_isTold_9 : decode cL_isTold 9 = .ok (.invokevirtual 118, 3) := by decide +kernel
theorem dL_isTold_12 : decode cL_isTold 12 = .ok (.aload_n 3, 1) := by decide +kernel
theorem dL_isTold_13 : decode cL_isTold 13 = .ok (.iconst 0, 1) := by decide +kernel
theorem dL_isTold_14 : decode cL_isTold 14 = .ok (.iaload, 1) := by decide +kernel
theorem dL_isTold_15 : decode cL_isTold 15 = .ok (.ifCond .lt 7, 3) := by decide +kernel
theorem dL_isTold_18 : decode cL_isTold 18 = .ok (.iconst 1, 1) := by decide +kernel
theorem dL_isTold_19 : decode cL_isTold 19 = .ok (.goto 4, 3) := by decide +kernel
theorem dL_isTold_22 : decode cL_isTold 22 = .ok (.iconst 0, 1) := by decide +kernel
theorem dL_isTold_23 : decode cL_isTold 23 = .ok (.if_icmp .ne 160, 3) := by decide +kernel
theorem dL_isTold_26 : decode cL_isTold 26 = .ok (.aload_n 0, 1) := by decide +kernel
theorem dL_isTold_27 : decode cL_isTold 27 = .ok (.invokevirtual 121, 3) := by decide +kernel
theorem dL_isTold_30 : decode cL_isTold 30 = .ok (.aload_n 3, 1) := by decide +kernel
theorem dL_isTold_31 : decode cL_isTold 31 = .ok (.iconst 0, 1) := by decide +kernel
theorem dL_isTold_32 : decode cL_isTold 32 = .ok (.iaload, 1) := by decide +kernel
theorem dL_isTold_33 : decode cL_isTold 33 = .ok (.if_icmp .ne 150, 3) := by decide +kernel
theorem dL_isTold_36 : decode cL_isTold 36 = .ok (.aload_n 0, 1) := by decide +kernel
theorem dL_isTold_37 : decode cL_isTold 37 = .ok (.invokevirtual 124, 3) := by decide +kernel
theorem dL_isTold_40 : decode cL_isTold 40 = .ok (.aload_n 3, 1) := by decide +kernel
theorem dL_isTold_41 : decode cL_isTold 41 = .ok (.iconst 0, 1) := by decide +kernel
theorem dL_isTold_42 : decode cL_isTold 42 = .ok (.iaload, 1) := by decide +kernel
theorem dL_isTold_43 : decode cL_isTold 43 = .ok (.ifCond .lt 21, 3) := by decide +kernel
theorem dL_isTold_46 : decode cL_isTold 46 = .ok (.aload_n 3, 1) := by decide +kernel
theorem dL_isTold_47 : decode cL_isTold 47 = .ok (.iconst 0, 1) := by decide +kernel
theorem dL_isTold_48 : decode cL_isTold 48 = .ok (.iaload, 1) := by decide +kernel
theorem dL_isTold_49 : decode cL_isTold 49 = .ok (.aload_n 2, 1) := by decide +kernel
theorem dL_isTold_50 : decode cL_isTold 50 = .ok (.iload 4, 2) := by decide +kernel
theorem dL_isTold_52 : decode cL_isTold 52 = .ok (.iconst 2, 1) := by decide +kernel
theorem dL_isTold_53 : decode cL_isTold 53 = .ok (.iadd, 1) := by decide +kernel
theorem dL_isTold_54 : decode cL_isTold 54 = .ok (.iaload, 1) := by decide +kernel
theorem dL_isTold_55 : decode cL_isTold 55 = .ok (.iconst 1, 1) := by decide +kernel
theorem dL_isTold_56 : decode cL_isTold 56 = .ok (.iand, 1) := by decide +kernel
theorem dL_isTold_57 : decode cL_isTold 57 = .ok (.if_icmp .eq 7, 3) := by decide +kernel
theorem dL_isTold_60 : decode cL_isTold 60 = .ok (.iconst 1, 1) := by decide +kernel
theorem dL_isTold_61 : decode cL_isTold 61 = .ok (.goto 4, 3) := by decide +kernel
theorem dL_isTold_64 : decode cL_isTold 64 = .ok (.iconst 0, 1) := by decide +kernel
theorem dL_isTold_65 : decode cL_isTold 65 = .ok (.if_icmp .ne 118, 3) := by decide +kernel
theorem dL_isTold_68 : decode cL_isTold 68 = .ok (.aload_n 0, 1) := by decide +kernel
theorem dL_isTold_69 : decode cL_isTold 69 = .ok (.invokevirtual 127, 3) := by decide +kernel
theorem dL_isTold_72 : decode cL_isTold 72 = .ok (.aload_n 3, 1) := by decide +kernel
theorem dL_isTold_73 : decode cL_isTold 73 = .ok (.iconst 2, 1) := by decide +kernel
theorem dL_isTold_74 : decode cL_isTold 74 = .ok (.iaload, 1) := by decide +kernel
theorem dL_isTold_75 : decode cL_isTold 75 = .ok (.if_icmp .ne 108, 3) := by decide +kernel
theorem dL_isTold_78 : decode cL_isTold 78 = .ok (.aload_n 0, 1) := by decide +kernel
theorem dL_isTold_79 : decode cL_isTold 79 = .ok (.invokevirtual 130, 3) := by decide +kernel
theorem dL_isTold_82 : decode cL_isTold 82 = .ok (.aload_n 3, 1) := by decide +kernel
theorem dL_isTold_83 : decode cL_isTold 83 = .ok (.iconst 3, 1) := by decide +kernel
theorem dL_isTold_84 : decode cL_isTold 84 = .ok (.iaload, 1) := by decide +kernel
theorem dL_isTold_85 : decode cL_isTold 85 = .ok (.ifCond .ge 7, 3) := by decide +kernel
theorem dL_isTold_88 : decode cL_isTold 88 = .ok (.iconst (-1), 1) := by decide +kernel
theorem dL_isTold_89 : decode cL_isTold 89 = .ok (.goto 10, 3) := by decide +kernel
theorem dL_isTold_92 : decode cL_isTold 92 = .ok (.aload_n 3, 1) := by decide +kernel
theorem dL_isTold_93 : decode cL_isTold 93 = .ok (.iconst 5, 1) := by decide +kernel
theorem dL_isTold_94 : decode cL_isTold 94 = .ok (.iaload, 1) := by decide +kernel
theorem dL_isTold_95 : decode cL_isTold 95 = .ok (.aload_n 3, 1) := by decide +kernel
theorem dL_isTold_96 : decode cL_isTold 96 = .ok (.iconst 3, 1) := by decide +kernel
theorem dL_isTold_97 : decode cL_isTold 97 = .ok (.iaload, 1) := by decide +kernel
theorem dL_isTold_98 : decode cL_isTold 98 = .ok (.isub, 1) := by decide +kernel
theorem dL_isTold_99 : decode cL_isTold 99 = .ok (.if_icmp .ne 84, 3) := by decide +kernel
theorem dL_isTold_102 : decode cL_isTold 102 = .ok (.aload_n 0, 1) := by decide +kernel
theorem dL_isTold_103 : decode cL_isTold 103 = .ok (.invokevirtual 133, 3) := by decide +kernel
theorem dL_isTold_106 : decode cL_isTold 106 = .ok (.iload 4, 2) := by decide +kernel
theorem dL_isTold_108 : decode cL_isTold 108 = .ok (.iconst 4, 1) := by decide +kernel
theorem dL_isTold_109 : decode cL_isTold 109 = .ok (.idiv, 1) := by decide +kernel
theorem dL_isTold_110 : decode cL_isTold 110 = .ok (.if_icmp .ne 73, 3) := by decide +kernel
theorem dL_isTold_113 : decode cL_isTold 113 = .ok (.aload_n 0, 1) := by decide +kernel
theorem dL_isTold_114 : decode cL_isTold 114 = .ok (.invokevirtual 136, 3) := by decide +kernel
theorem dL_isTold_117 : decode cL_isTold 117 = .ok (.aload_n 2, 1) := by decide +kernel
theorem dL_isTold_118 : decode cL_isTold 118 = .ok (.iload 4, 2) := by decide +kernel
theorem dL_isTold_120 : decode cL_isTold 120 = .ok (.iconst 2, 1) := by decide +kernel
theorem dL_isTold_121 : decode cL_isTold 121 = .ok (.iadd, 1) := by decide +kernel
theorem dL_isTold_122 : decode cL_isTold 122 = .ok (.iaload, 1) := by decide +kernel
theorem dL_isTold_123 : decode cL_isTold 123 = .ok (.iconst 1, 1) := by decide +kernel
theorem dL_isTold_124 : decode cL_isTold 124 = .ok (.iand, 1) := by decide +kernel
theorem dL_isTold_125 : decode cL_isTold 125 = .ok (.if_icmp .ne 58, 3) := by decide +kernel
theorem dL_isTold_128 : decode cL_isTold 128 = .ok (.aload_n 0, 1) := by decide +kernel
theorem dL_isTold_129 : decode cL_isTold 129 = .ok (.invokevirtual 138, 3) := by decide +kernel
theorem dL_isTold_132 : decode cL_isTold 132 = .ok (.aload_n 2, 1) := by decide +kernel
theorem dL_isTold_133 : decode cL_isTold 133 = .ok (.invokestatic 50, 3) := by decide +kernel
theorem dL_isTold_136 : decode cL_isTold 136 = .ok (.ifCond .eq 14, 3) := by decide +kernel
theorem dL_isTold_139 : decode cL_isTold 139 = .ok (.aload_n 2, 1) := by decide +kernel
