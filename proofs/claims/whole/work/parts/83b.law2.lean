theorem d_La_law_780 : decode code 780 = .ok (.iconst 1, 1) := by decide +kernel
theorem d_La_law_781 : decode code 781 = .ok (.iadd, 1) := by decide +kernel
theorem d_La_law_782 : decode code 782 = .ok (.iaload, 1) := by decide +kernel
theorem d_La_law_783 : decode code 783 = .ok (.aload_n 0, 1) := by decide +kernel
theorem d_La_law_784 : decode code 784 = .ok (.iload_n 3, 1) := by decide +kernel
theorem d_La_law_785 : decode code 785 = .ok (.iconst 2, 1) := by decide +kernel
theorem d_La_law_786 : decode code 786 = .ok (.iadd, 1) := by decide +kernel
theorem d_La_law_787 : decode code 787 = .ok (.iaload, 1) := by decide +kernel
theorem d_La_law_788 : decode code 788 = .ok (.invokevirtual 96, 3) := by decide +kernel
theorem d_La_law_791 : decode code 791 = .ok (.if_icmp .eq 595, 3) := by decide +kernel
theorem d_La_law_794 : decode code 794 = .ok (.iconst 0, 1) := by decide +kernel
theorem d_La_law_795 : decode code 795 = .ok (.ireturn, 1) := by decide +kernel
theorem d_La_law_796 : decode code 796 = .ok (.aload_n 1, 1) := by decide +kernel
theorem d_La_law_797 : decode code 797 = .ok (.aload_n 0, 1) := by decide +kernel
theorem d_La_law_798 : decode code 798 = .ok (.iload_n 3, 1) := by decide +kernel
theorem d_La_law_799 : decode code 799 = .ok (.iconst 1, 1) := by decide +kernel
theorem d_La_law_800 : decode code 800 = .ok (.iadd, 1) := by decide +kernel
theorem d_La_law_801 : decode code 801 = .ok (.iaload, 1) := by decide +kernel
theorem d_La_law_802 : decode code 802 = .ok (.invokevirtual 97, 3) := by decide +kernel
theorem d_La_law_805 : decode code 805 = .ok (.aload_n 2, 1) := by decide +kernel
theorem d_La_law_806 : decode code 806 = .ok (.aload_n 0, 1) := by decide +kernel
theorem d_La_law_807 : decode code 807 = .ok (.iload_n 3, 1) := by decide +kernel
theorem d_La_law_808 : decode code 808 = .ok (.iconst 1, 1) := by decide +kernel
theorem d_La_law_809 : decode code 809 = .ok (.iadd, 1) := by decide +kernel
theorem d_La_law_810 : decode code 810 = .ok (.iaload, 1) := by decide +kernel
theorem d_La_law_811 : decode code 811 = .ok (.invokevirtual 100, 3) := by decide +kernel
theorem d_La_law_814 : decode code 814 = .ok (.if_icmp .eq 572, 3) := by decide +kernel
theorem d_La_law_817 : decode code 817 = .ok (.iconst 0, 1) := by decide +kernel
theorem d_La_law_818 : decode code 818 = .ok (.ireturn, 1) := by decide +kernel
theorem d_La_law_819 : decode code 819 = .ok (.aload_n 1, 1) := by decide +kernel
theorem d_La_law_820 : decode code 820 = .ok (.aload_n 0, 1) := by decide +kernel
theorem d_La_law_821 : decode code 821 = .ok (.iload_n 3, 1) := by decide +kernel
theorem d_La_law_822 : decode code 822 = .ok (.iconst 1, 1) := by decide +kernel
theorem d_La_law_823 : decode code 823 = .ok (.iadd, 1) := by decide +kernel
theorem d_La_law_824 : decode code 824 = .ok (.iaload, 1) := by decide +kernel
theorem d_La_law_825 : decode code 825 = .ok (.invokevirtual 101, 3) := by decide +kernel
theorem d_La_law_828 : decode code 828 = .ok (.aload_n 2, 1) := by decide +kernel
theorem d_La_law_829 : decode code 829 = .ok (.aload_n 0, 1) := by decide +kernel
theorem d_La_law_830 : decode code 830 = .ok (.iload_n 3, 1) := by decide +kernel
theorem d_La_law_831 : decode code 831 = .ok (.iconst 1, 1) := by decide +kernel
theorem d_La_law_832 : decode code 832 = .ok (.iadd, 1) := by decide +kernel
theorem d_La_law_833 : decode code 833 = .ok (.iaload, 1) := by decide +kernel
theorem d_La_law_834 : decode code 834 = .ok (.invokevirtual 104, 3) := by decide +kernel
theorem d_La_law_837 : decode code 837 = .ok (.if_icmp .eq 549, 3) := by decide +kernel
theorem d_La_law_840 : decode code 840 = .ok (.iconst 0, 1) := by decide +kernel
theorem d_La_law_841 : decode code 841 = .ok (.ireturn, 1) := by decide +kernel
theorem d_La_law_842 : decode code 842 = .ok (.aload_n 1, 1) := by decide +kernel
theorem d_La_law_843 : decode code 843 = .ok (.aload_n 0, 1) := by decide +kernel
theorem d_La_law_844 : decode code 844 = .ok (.iload_n 3, 1) := by decide +kernel
theorem d_La_law_845 : decode code 845 = .ok (.iconst 1, 1) := by decide +kernel
theorem d_La_law_846 : decode code 846 = .ok (.iadd, 1) := by decide +kernel
theorem d_La_law_847 : decode code 847 = .ok (.iaload, 1) := by decide +kernel
theorem d_La_law_848 : decode code 848 = .ok (.aload_n 0, 1) := by decide +kernel
theorem d_La_law_849 : decode code 849 = .ok (.iload_n 3, 1) := by decide +kernel
theorem d_La_law_850 : decode code 850 = .ok (.iconst 2, 1) := by decide +kernel
theorem d_La_law_851 : decode code 851 = .ok (.iadd, 1) := by decide +kernel
theorem d_La_law_852 : decode code 852 = .ok (.iaload, 1) := by decide +kernel
theorem d_La_law_853 : decode code 853 = .ok (.aload_n 0, 1) := by decide +kernel
theorem d_La_law_854 : decode code 854 = .ok (.iload_n 3, 1) := by decide +kernel
theorem d_La_law_855 : decode code 855 = .ok (.iconst 3, 1) := by decide +kernel
theorem d_La_law_856 : decode code 856 = .ok (.iadd, 1) := by decide +kernel
theorem d_La_law_857 : decode code 857 = .ok (.iaload, 1) := by decide +kernel
theorem d_La_law_858 : decode code 858 = .ok (.invokevirtual 105, 3) := by decide +kernel
theorem d_La_law_861 : decode code 861 = .ok (.aload_n 2, 1) := by decide +kernel
theorem d_La_law_862 : decode code 862 = .ok (.aload_n 0, 1) := by decide +kernel
theorem d_La_law_863 : decode code 863 = .ok (.iload_n 3, 1) := by decide +kernel
theorem d_La_law_864 : decode code 864 = .ok (.iconst 1, 1) := by decide +kernel
theorem d_La_law_865 : decode code 865 = .ok (.iadd, 1) := by decide +kernel
theorem d_La_law_866 : decode code 866 = .ok (.iaload, 1) := by decide +kernel
theorem d_La_law_867 : decode code 867 = .ok (.aload_n 0, 1) := by decide +kernel
theorem d_La_law_868 : decode code 868 = .ok (.iload_n 3, 1) := by decide +kernel
theorem d_La_law_869 : decode code 869 = .ok (.iconst 2, 1) := by decide +kernel
theorem d_La_law_870 : decode code 870 = .ok (.iadd, 1) := by decide +kernel
theorem d_La_law_871 : decode code 871 = .ok (.iaload, 1) := by decide +kernel
theorem d_La_law_872 : decode code 872 = .ok (.aload_n 0, 1) := by decide +kernel
theorem d_La_law_873 : decode code 873 = .ok (.iload_n 3, 1) := by decide +kernel
theorem d_La_law_874 : decode code 874 = .ok (.iconst 3, 1) := by decide +kernel
theorem d_La_law_875 : decode code 875 = .ok (.iadd, 1) := by decide +kernel
theorem d_La_law_876 : decode code 876 = .ok (.iaload, 1) := by decide +kernel
theorem d_La_law_877 : decode code 877 = .ok (.invokevirtual 109, 3) := by decide +kernel
theorem d_La_law_880 : decode code 880 = .ok (.lcmp, 1) := by decide +kernel
theorem d_La_law_881 : decode code 881 = .ok (.ifCond .eq 505, 3) := by decide +kernel
theorem d_La_law_884 : decode code 884 = .ok (.iconst 0, 1) := by decide +kernel
theorem d_La_law_885 : decode code 885 = .ok (.ireturn, 1) := by decide +kernel
theorem d_La_law_886 : decode code 886 = .ok (.aload_n 1, 1) := by decide +kernel
theorem d_La_law_887 : decode code 887 = .ok (.aload_n 0, 1) := by decide +kernel
theorem d_La_law_888 : decode code 888 = .ok (.iload_n 3, 1) := by decide +kernel
theorem d_La_law_889 : decode code 889 = .ok (.iconst 1, 1) := by decide +kernel
theorem d_La_law_890 : decode code 890 = .ok (.iadd, 1) := by decide +kernel
theorem d_La_law_891 : decode code 891 = .ok (.iaload, 1) := by decide +kernel
theorem d_La_law_892 : decode code 892 = .ok (.aload_n 0, 1) := by decide +kernel
theorem d_La_law_893 : decode code 893 = .ok (.iload_n 3, 1) := by decide +kernel
theorem d_La_law_894 : decode code 894 = .ok (.iconst 2, 1) := by decide +kernel
theorem d_La_law_895 : decode code 895 = .ok (.iadd, 1) := by decide +kernel
theorem d_La_law_896 : decode code 896 = .ok (.iaload, 1) := by decide +kernel
theorem d_La_law_897 : decode code 897 = .ok (.invokevirtual 110, 3) := by decide +kernel
theorem d_La_law_900 : decode code 900 = .ok (.aload_n 2, 1) := by decide +kernel
theorem d_La_law_901 : decode code 901 = .ok (.aload_n 0, 1) := by decide +kernel
theorem d_La_law_902 : decode code 902 = .ok (.iload_n 3, 1) := by decide +kernel
theorem d_La_law_903 : decode code 903 = .ok (.iconst 1, 1) := by decide +kernel
theorem d_La_law_904 : decode code 904 = .ok (.iadd, 1) := by decide +kernel
theorem d_La_law_905 : decode code 905 = .ok (.iaload, 1) := by decide +kernel
theorem d_La_law_906 : decode code 906 = .ok (.aload_n 0, 1) := by decide +kernel
theorem d_La_law_907 : decode code 907 = .ok (.iload_n 3, 1) := by decide +kernel
theorem d_La_law_908 : decode code 908 = .ok (.iconst 2, 1) := by decide +kernel
theorem d_La_law_909 : decode code 909 = .ok (.iadd, 1) := by decide +kernel
theorem d_La_law_910 : decode code 910 = .ok (.iaload, 1) := by decide +kernel
theorem d_La_law_911 : decode code 911 = .ok (.invokevirtual 114, 3) := by decide +kernel
theorem d_La_law_914 : decode code 914 = .ok (.lcmp, 1) := by decide +kernel
theorem d_La_law_915 : decode code 915 = .ok (.ifCond .eq 471, 3) := by decide +kernel
theorem d_La_law_918 : decode code 918 = .ok (.iconst 0, 1) := by decide +kernel
theorem d_La_law_919 : decode code 919 = .ok (.ireturn, 1) := by decide +kernel
theorem d_La_law_920 : decode code 920 = .ok (.aload_n 1, 1) := by decide +kernel
theorem d_La_law_921 : decode code 921 = .ok (.aload_n 0, 1) := by decide +kernel
theorem d_La_law_922 : decode code 922 = .ok (.iload_n 3, 1) := by decide +kernel
theorem d_La_law_923 : decode code 923 = .ok (.iconst 1, 1) := by decide +kernel
theorem d_La_law_924 : decode code 924 = .ok (.iadd, 1) := by decide +kernel
theorem d_La_law_925 : decode code 925 = .ok (.iaload, 1) := by decide +kernel
theorem d_La_law_926 : decode code 926 = .ok (.aload_n 0, 1) := by decide +kernel
theorem d_La_law_927 : decode code 927 = .ok (.iload_n 3, 1) := by decide +kernel
theorem d_La_law_928 : decode code 928 = .ok (.iconst 2, 1) := by decide +kernel
theorem d_La_law_929 : decode code 929 = .ok (.iadd, 1) := by decide +kernel
theorem d_La_law_930 : decode code 930 = .ok (.iaload, 1) := by decide +kernel
theorem d_La_law_931 : decode code 931 = .ok (.ifCond .eq 7, 3) := by decide +kernel
theorem d_La_law_934 : decode code 934 = .ok (.iconst 1, 1) := by decide +kernel
theorem d_La_law_935 : decode code 935 = .ok (.goto 4, 3) := by decide +kernel
theorem d_La_law_938 : decode code 938 = .ok (.iconst 0, 1) := by decide +kernel
theorem d_La_law_939 : decode code 939 = .ok (.invokevirtual 115, 3) := by decide +kernel
theorem d_La_law_942 : decode code 942 = .ok (.aload_n 2, 1) := by decide +kernel
theorem d_La_law_943 : decode code 943 = .ok (.aload_n 0, 1) := by decide +kernel
theorem d_La_law_944 : decode code 944 = .ok (.iload_n 3, 1) := by decide +kernel
theorem d_La_law_945 : decode code 945 = .ok (.iconst 1, 1) := by decide +kernel
theorem d_La_law_946 : decode code 946 = .ok (.iadd, 1) := by decide +kernel
theorem d_La_law_947 : decode code 947 = .ok (.iaload, 1) := by decide +kernel
theorem d_La_law_948 : decode code 948 = .ok (.aload_n 0, 1) := by decide +kernel
theorem d_La_law_949 : decode code 949 = .ok (.iload_n 3, 1) := by decide +kernel
theorem d_La_law_950 : decode code 950 = .ok (.iconst 2, 1) := by decide +kernel
theorem d_La_law_951 : decode code 951 = .ok (.iadd, 1) := by decide +kernel
theorem d_La_law_952 : decode code 952 = .ok (.iaload, 1) := by decide +kernel
theorem d_La_law_953 : decode code 953 = .ok (.ifCond .eq 7, 3) := by decide +kernel
theorem d_La_law_956 : decode code 956 = .ok (.iconst 1, 1) := by decide +kernel
theorem d_La_law_957 : decode code 957 = .ok (.goto 4, 3) := by decide +kernel
theorem d_La_law_960 : decode code 960 = .ok (.iconst 0, 1) := by decide +kernel
theorem d_La_law_961 : decode code 961 = .ok (.invokevirtual 119, 3) := by decide +kernel
theorem d_La_law_964 : decode code 964 = .ok (.if_icmp .eq 422, 3) := by decide +kernel
theorem d_La_law_967 : decode code 967 = .ok (.iconst 0, 1) := by decide +kernel
theorem d_La_law_968 : decode code 968 = .ok (.ireturn, 1) := by decide +kernel
theorem d_La_law_969 : decode code 969 = .ok (.aload_n 1, 1) := by decide +kernel
theorem d_La_law_970 : decode code 970 = .ok (.aload_n 0, 1) := by decide +kernel
theorem d_La_law_971 : decode code 971 = .ok (.iload_n 3, 1) := by decide +kernel
theorem d_La_law_972 : decode code 972 = .ok (.iconst 1, 1) := by decide +kernel
theorem d_La_law_973 : decode code 973 = .ok (.iadd, 1) := by decide +kernel
theorem d_La_law_974 : decode code 974 = .ok (.iaload, 1) := by decide +kernel
theorem d_La_law_975 : decode code 975 = .ok (.invokevirtual 120, 3) := by decide +kernel
theorem d_La_law_978 : decode code 978 = .ok (.aload_n 2, 1) := by decide +kernel
theorem d_La_law_979 : decode code 979 = .ok (.aload_n 0, 1) := by decide +kernel
theorem d_La_law_980 : decode code 980 = .ok (.iload_n 3, 1) := by decide +kernel
theorem d_La_law_981 : decode code 981 = .ok (.iconst 1, 1) := by decide +kernel
theorem d_La_law_982 : decode code 982 = .ok (.iadd, 1) := by decide +kernel
theorem d_La_law_983 : decode code 983 = .ok (.iaload, 1) := by decide +kernel
theorem d_La_law_984 : decode code 984 = .ok (.invokevirtual 123, 3) := by decide +kernel
theorem d_La_law_987 : decode code 987 = .ok (.if_icmp .eq 399, 3) := by decide +kernel
theorem d_La_law_990 : decode code 990 = .ok (.iconst 0, 1) := by decide +kernel
theorem d_La_law_991 : decode code 991 = .ok (.ireturn, 1) := by decide +kernel
theorem d_La_law_992 : decode code 992 = .ok (.aload_n 1, 1) := by decide +kernel
theorem d_La_law_993 : decode code 993 = .ok (.aload_n 0, 1) := by decide +kernel
theorem d_La_law_994 : decode code 994 = .ok (.iload_n 3, 1) := by decide +kernel
theorem d_La_law_995 : decode code 995 = .ok (.iconst 1, 1) := by decide +kernel
theorem d_La_law_996 : decode code 996 = .ok (.iadd, 1) := by decide +kernel
theorem d_La_law_997 : decode code 997 = .ok (.iaload, 1) := by decide +kernel
theorem d_La_law_998 : decode code 998 = .ok (.aload_n 0, 1) := by decide +kernel
theorem d_La_law_999 : decode code 999 = .ok (.iload_n 3, 1) := by decide +kernel
theorem d_La_law_1000 : decode code 1000 = .ok (.iconst 2, 1) := by decide +kernel
theorem d_La_law_1001 : decode code 1001 = .ok (.iadd, 1) := by decide +kernel
theorem d_La_law_1002 : decode code 1002 = .ok (.iaload, 1) := by decide +kernel
theorem d_La_law_1003 : decode code 1003 = .ok (.invokevirtual 124, 3) := by decide +kernel
theorem d_La_law_1006 : decode code 1006 = .ok (.aload_n 2, 1) := by decide +kernel
theorem d_La_law_1007 : decode code 1007 = .ok (.aload_n 0, 1) := by decide +kernel
theorem d_La_law_1008 : decode code 1008 = .ok (.iload_n 3, 1) := by decide +kernel
theorem d_La_law_1009 : decode code 1009 = .ok (.iconst 1, 1) := by decide +kernel
theorem d_La_law_1010 : decode code 1010 = .ok (.iadd, 1) := by decide +kernel
theorem d_La_law_1011 : decode code 1011 = .ok (.iaload, 1) := by decide +kernel
theorem d_La_law_1012 : decode code 1012 = .ok (.aload_n 0, 1) := by decide +kernel
theorem d_La_law_1013 : decode code 1013 = .ok (.iload_n 3, 1) := by decide +kernel
theorem d_La_law_1014 : decode code 1014 = .ok (.iconst 2, 1) := by decide +kernel
theorem d_La_law_1015 : decode code 1015 = .ok (.iadd, 1) := by decide +kernel
theorem d_La_law_1016 : decode code 1016 = .ok (.iaload, 1) := by decide +kernel
theorem d_La_law_1017 : decode code 1017 = .ok (.invokevirtual 127, 3) := by decide +kernel
theorem d_La_law_1020 : decode code 1020 = .ok (.if_icmp .eq 366, 3) := by decide +kernel
theorem d_La_law_1023 : decode code 1023 = .ok (.iconst 0, 1) := by decide +kernel
theorem d_La_law_1024 : decode code 1024 = .ok (.ireturn, 1) := by decide +kernel
theorem d_La_law_1025 : decode code 1025 = .ok (.aload_n 1, 1) := by decide +kernel
theorem d_La_law_1026 : decode code 1026 = .ok (.invokevirtual 128, 3) := by decide +kernel
theorem d_La_law_1029 : decode code 1029 = .ok (.aload_n 2, 1) := by decide +kernel
theorem d_La_law_1030 : decode code 1030 = .ok (.invokevirtual 131, 3) := by decide +kernel
theorem d_La_law_1033 : decode code 1033 = .ok (.if_icmp .eq 353, 3) := by decide +kernel
theorem d_La_law_1036 : decode code 1036 = .ok (.iconst 0, 1) := by decide +kernel
theorem d_La_law_1037 : decode code 1037 = .ok (.ireturn, 1) := by decide +kernel
theorem d_La_law_1038 : decode code 1038 = .ok (.aload_n 1, 1) := by decide +kernel
theorem d_La_law_1039 : decode code 1039 = .ok (.invokevirtual 132, 3) := by decide +kernel
theorem d_La_law_1042 : decode code 1042 = .ok (.aload_n 2, 1) := by decide +kernel
theorem d_La_law_1043 : decode code 1043 = .ok (.invokevirtual 135, 3) := by decide +kernel
theorem d_La_law_1046 : decode code 1046 = .ok (.if_icmp .eq 340, 3) := by decide +kernel
theorem d_La_law_1049 : decode code 1049 = .ok (.iconst 0, 1) := by decide +kernel
theorem d_La_law_1050 : decode code 1050 = .ok (.ireturn, 1) := by decide +kernel
theorem d_La_law_1051 : decode code 1051 = .ok (.aload_n 1, 1) := by decide +kernel
theorem d_La_law_1052 : decode code 1052 = .ok (.aload_n 0, 1) := by decide +kernel
theorem d_La_law_1053 : decode code 1053 = .ok (.iload_n 3, 1) := by decide +kernel
theorem d_La_law_1054 : decode code 1054 = .ok (.iconst 1, 1) := by decide +kernel
theorem d_La_law_1055 : decode code 1055 = .ok (.iadd, 1) := by decide +kernel
theorem d_La_law_1056 : decode code 1056 = .ok (.iaload, 1) := by decide +kernel
theorem d_La_law_1057 : decode code 1057 = .ok (.aload_n 0, 1) := by decide +kernel
theorem d_La_law_1058 : decode code 1058 = .ok (.iload_n 3, 1) := by decide +kernel
theorem d_La_law_1059 : decode code 1059 = .ok (.iconst 2, 1) := by decide +kernel
theorem d_La_law_1060 : decode code 1060 = .ok (.iadd, 1) := by decide +kernel
theorem d_La_law_1061 : decode code 1061 = .ok (.iaload, 1) := by decide +kernel
theorem d_La_law_1062 : decode code 1062 = .ok (.aload_n 0, 1) := by decide +kernel
theorem d_La_law_1063 : decode code 1063 = .ok (.iload_n 3, 1) := by decide +kernel
theorem d_La_law_1064 : decode code 1064 = .ok (.iconst 3, 1) := by decide +kernel
theorem d_La_law_1065 : decode code 1065 = .ok (.iadd, 1) := by decide +kernel
theorem d_La_law_1066 : decode code 1066 = .ok (.iaload, 1) := by decide +kernel
theorem d_La_law_1067 : decode code 1067 = .ok (.invokevirtual 136, 3) := by decide +kernel
theorem d_La_law_1070 : decode code 1070 = .ok (.aload_n 2, 1) := by decide +kernel
theorem d_La_law_1071 : decode code 1071 = .ok (.aload_n 0, 1) := by decide +kernel
theorem d_La_law_1072 : decode code 1072 = .ok (.iload_n 3, 1) := by decide +kernel
theorem d_La_law_1073 : decode code 1073 = .ok (.iconst 1, 1) := by decide +kernel
theorem d_La_law_1074 : decode code 1074 = .ok (.iadd, 1) := by decide +kernel
theorem d_La_law_1075 : decode code 1075 = .ok (.iaload, 1) := by decide +kernel
theorem d_La_law_1076 : decode code 1076 = .ok (.aload_n 0, 1) := by decide +kernel
theorem d_La_law_1077 : decode code 1077 = .ok (.iload_n 3, 1) := by decide +kernel
theorem d_La_law_1078 : decode code 1078 = .ok (.iconst 2, 1) := by decide +kernel
theorem d_La_law_1079 : decode code 1079 = .ok (.iadd, 1) := by decide +kernel
theorem d_La_law_1080 : decode code 1080 = .ok (.iaload, 1) := by decide +kernel
theorem d_La_law_1081 : decode code 1081 = .ok (.aload_n 0, 1) := by decide +kernel
theorem d_La_law_1082 : decode code 1082 = .ok (.iload_n 3, 1) := by decide +kernel
theorem d_La_law_1083 : decode code 1083 = .ok (.iconst 3, 1) := by decide +kernel
theorem d_La_law_1084 : decode code 1084 = .ok (.iadd, 1) := by decide +kernel
theorem d_La_law_1085 : decode code 1085 = .ok (.iaload, 1) := by decide +kernel
theorem d_La_law_1086 : decode code 1086 = .ok (.invokevirtual 139, 3) := by decide +kernel
theorem d_La_law_1089 : decode code 1089 = .ok (.if_icmp .eq 297, 3) := by decide +kernel
theorem d_La_law_1092 : decode code 1092 = .ok (.iconst 0, 1) := by decide +kernel
theorem d_La_law_1093 : decode code 1093 = .ok (.ireturn, 1) := by decide +kernel
theorem d_La_law_1094 : decode code 1094 = .ok (.aload_n 1, 1) := by decide +kernel
theorem d_La_law_1095 : decode code 1095 = .ok (.aload_n 0, 1) := by decide +kernel
theorem d_La_law_1096 : decode code 1096 = .ok (.iload_n 3, 1) := by decide +kernel
theorem d_La_law_1097 : decode code 1097 = .ok (.iconst 1, 1) := by decide +kernel
theorem d_La_law_1098 : decode code 1098 = .ok (.iadd, 1) := by decide +kernel
theorem d_La_law_1099 : decode code 1099 = .ok (.iaload, 1) := by decide +kernel
theorem d_La_law_1100 : decode code 1100 = .ok (.invokevirtual 140, 3) := by decide +kernel
theorem d_La_law_1103 : decode code 1103 = .ok (.aload_n 2, 1) := by decide +kernel
theorem d_La_law_1104 : decode code 1104 = .ok (.aload_n 0, 1) := by decide +kernel
theorem d_La_law_1105 : decode code 1105 = .ok (.iload_n 3, 1) := by decide +kernel
theorem d_La_law_1106 : decode code 1106 = .ok (.iconst 1, 1) := by decide +kernel
theorem d_La_law_1107 : decode code 1107 = .ok (.iadd, 1) := by decide +kernel
theorem d_La_law_1108 : decode code 1108 = .ok (.iaload, 1) := by decide +kernel
theorem d_La_law_1109 : decode code 1109 = .ok (.invokevirtual 143, 3) := by decide +kernel
theorem d_La_law_1112 : decode code 1112 = .ok (.if_icmp .eq 274, 3) := by decide +kernel
theorem d_La_law_1115 : decode code 1115 = .ok (.iconst 0, 1) := by decide +kernel
theorem d_La_law_1116 : decode code 1116 = .ok (.ireturn, 1) := by decide +kernel
theorem d_La_law_1117 : decode code 1117 = .ok (.aload_n 1, 1) := by decide +kernel
theorem d_La_law_1118 : decode code 1118 = .ok (.aload_n 0, 1) := by decide +kernel
theorem d_La_law_1119 : decode code 1119 = .ok (.iload_n 3, 1) := by decide +kernel
theorem d_La_law_1120 : decode code 1120 = .ok (.iconst 1, 1) := by decide +kernel
theorem d_La_law_1121 : decode code 1121 = .ok (.iadd, 1) := by decide +kernel
theorem d_La_law_1122 : decode code 1122 = .ok (.iaload, 1) := by decide +kernel
theorem d_La_law_1123 : decode code 1123 = .ok (.aload_n 0, 1) := by decide +kernel
theorem d_La_law_1124 : decode code 1124 = .ok (.iload_n 3, 1) := by decide +kernel
theorem d_La_law_1125 : decode code 1125 = .ok (.iconst 2, 1) := by decide +kernel
theorem d_La_law_1126 : decode code 1126 = .ok (.iadd, 1) := by decide +kernel
theorem d_La_law_1127 : decode code 1127 = .ok (.iaload, 1) := by decide +kernel
theorem d_La_law_1128 : decode code 1128 = .ok (.invokevirtual 144, 3) := by decide +kernel
theorem d_La_law_1131 : decode code 1131 = .ok (.aload_n 2, 1) := by decide +kernel
theorem d_La_law_1132 : decode code 1132 = .ok (.aload_n 0, 1) := by decide +kernel
theorem d_La_law_1133 : decode code 1133 = .ok (.iload_n 3, 1) := by decide +kernel
theorem d_La_law_1134 : decode code 1134 = .ok (.iconst 1, 1) := by decide +kernel
theorem d_La_law_1135 : decode code 1135 = .ok (.iadd, 1) := by decide +kernel
theorem d_La_law_1136 : decode code 1136 = .ok (.iaload, 1) := by decide +kernel
theorem d_La_law_1137 : decode code 1137 = .ok (.aload_n 0, 1) := by decide +kernel
theorem d_La_law_1138 : decode code 1138 = .ok (.iload_n 3, 1) := by decide +kernel
theorem d_La_law_1139 : decode code 1139 = .ok (.iconst 2, 1) := by decide +kernel
theorem d_La_law_1140 : decode code 1140 = .ok (.iadd, 1) := by decide +kernel
theorem d_La_law_1141 : decode code 1141 = .ok (.iaload, 1) := by decide +kernel
theorem d_La_law_1142 : decode code 1142 = .ok (.invokevirtual 147, 3) := by decide +kernel
theorem d_La_law_1145 : decode code 1145 = .ok (.if_icmp .eq 241, 3) := by decide +kernel
theorem d_La_law_1148 : decode code 1148 = .ok (.iconst 0, 1) := by decide +kernel
theorem d_La_law_1149 : decode code 1149 = .ok (.ireturn, 1) := by decide +kernel
theorem d_La_law_1150 : decode code 1150 = .ok (.aload_n 1, 1) := by decide +kernel
theorem d_La_law_1151 : decode code 1151 = .ok (.aload_n 0, 1) := by decide +kernel
theorem d_La_law_1152 : decode code 1152 = .ok (.iload_n 3, 1) := by decide +kernel
theorem d_La_law_1153 : decode code 1153 = .ok (.iconst 1, 1) := by decide +kernel
theorem d_La_law_1154 : decode code 1154 = .ok (.iadd, 1) := by decide +kernel
theorem d_La_law_1155 : decode code 1155 = .ok (.iaload, 1) := by decide +kernel
theorem d_La_law_1156 : decode code 1156 = .ok (.invokevirtual 148, 3) := by decide +kernel
theorem d_La_law_1159 : decode code 1159 = .ok (.aload_n 2, 1) := by decide +kernel
theorem d_La_law_1160 : decode code 1160 = .ok (.aload_n 0, 1) := by decide +kernel
theorem d_La_law_1161 : decode code 1161 = .ok (.iload_n 3, 1) := by decide +kernel
theorem d_La_law_1162 : decode code 1162 = .ok (.iconst 1, 1) := by decide +kernel
theorem d_La_law_1163 : decode code 1163 = .ok (.iadd, 1) := by decide +kernel
theorem d_La_law_1164 : decode code 1164 = .ok (.iaload, 1) := by decide +kernel
theorem d_La_law_1165 : decode code 1165 = .ok (.invokevirtual 151, 3) := by decide +kernel
theorem d_La_law_1168 : decode code 1168 = .ok (.if_icmp .eq 218, 3) := by decide +kernel
theorem d_La_law_1171 : decode code 1171 = .ok (.iconst 0, 1) := by decide +kernel
theorem d_La_law_1172 : decode code 1172 = .ok (.ireturn, 1) := by decide +kernel
theorem d_La_law_1173 : decode code 1173 = .ok (.aload_n 1, 1) := by decide +kernel
theorem d_La_law_1174 : decode code 1174 = .ok (.aload_n 0, 1) := by decide +kernel
theorem d_La_law_1175 : decode code 1175 = .ok (.iload_n 3, 1) := by decide +kernel
theorem d_La_law_1176 : decode code 1176 = .ok (.iconst 1, 1) := by decide +kernel
theorem d_La_law_1177 : decode code 1177 = .ok (.iadd, 1) := by decide +kernel
theorem d_La_law_1178 : decode code 1178 = .ok (.iaload, 1) := by decide +kernel
theorem d_La_law_1179 : decode code 1179 = .ok (.aload_n 0, 1) := by decide +kernel
theorem d_La_law_1180 : decode code 1180 = .ok (.iload_n 3, 1) := by decide +kernel
theorem d_La_law_1181 : decode code 1181 = .ok (.iconst 2, 1) := by decide +kernel
theorem d_La_law_1182 : decode code 1182 = .ok (.iadd, 1) := by decide +kernel
theorem d_La_law_1183 : decode code 1183 = .ok (.iaload, 1) := by decide +kernel
theorem d_La_law_1184 : decode code 1184 = .ok (.aload_n 0, 1) := by decide +kernel
theorem d_La_law_1185 : decode code 1185 = .ok (.iload_n 3, 1) := by decide +kernel
theorem d_La_law_1186 : decode code 1186 = .ok (.iconst 3, 1) := by decide +kernel
theorem d_La_law_1187 : decode code 1187 = .ok (.iadd, 1) := by decide +kernel
theorem d_La_law_1188 : decode code 1188 = .ok (.iaload, 1) := by decide +kernel
theorem d_La_law_1189 : decode code 1189 = .ok (.invokevirtual 152, 3) := by decide +kernel
theorem d_La_law_1192 : decode code 1192 = .ok (.aload_n 2, 1) := by decide +kernel
theorem d_La_law_1193 : decode code 1193 = .ok (.aload_n 0, 1) := by decide +kernel
theorem d_La_law_1194 : decode code 1194 = .ok (.iload_n 3, 1) := by decide +kernel
theorem d_La_law_1195 : decode code 1195 = .ok (.iconst 1, 1) := by decide +kernel
theorem d_La_law_1196 : decode code 1196 = .ok (.iadd, 1) := by decide +kernel
theorem d_La_law_1197 : decode code 1197 = .ok (.iaload, 1) := by decide +kernel
theorem d_La_law_1198 : decode code 1198 = .ok (.aload_n 0, 1) := by decide +kernel
theorem d_La_law_1199 : decode code 1199 = .ok (.iload_n 3, 1) := by decide +kernel
theorem d_La_law_1200 : decode code 1200 = .ok (.iconst 2, 1) := by decide +kernel
theorem d_La_law_1201 : decode code 1201 = .ok (.iadd, 1) := by decide +kernel
theorem d_La_law_1202 : decode code 1202 = .ok (.iaload, 1) := by decide +kernel
theorem d_La_law_1203 : decode code 1203 = .ok (.aload_n 0, 1) := by decide +kernel
theorem d_La_law_1204 : decode code 1204 = .ok (.iload_n 3, 1) := by decide +kernel
theorem d_La_law_1205 : decode code 1205 = .ok (.iconst 3, 1) := by decide +kernel
theorem d_La_law_1206 : decode code 1206 = .ok (.iadd, 1) := by decide +kernel
theorem d_La_law_1207 : decode code 1207 = .ok (.iaload, 1) := by decide +kernel
theorem d_La_law_1208 : decode code 1208 = .ok (.invokevirtual 155, 3) := by decide +kernel
theorem d_La_law_1211 : decode code 1211 = .ok (.if_icmp .eq 175, 3) := by decide +kernel
theorem d_La_law_1214 : decode code 1214 = .ok (.iconst 0, 1) := by decide +kernel
theorem d_La_law_1215 : decode code 1215 = .ok (.ireturn, 1) := by decide +kernel
theorem d_La_law_1216 : decode code 1216 = .ok (.aload_n 1, 1) := by decide +kernel
theorem d_La_law_1217 : decode code 1217 = .ok (.aload_n 0, 1) := by decide +kernel
theorem d_La_law_1218 : decode code 1218 = .ok (.iload_n 3, 1) := by decide +kernel
theorem d_La_law_1219 : decode code 1219 = .ok (.iconst 1, 1) := by decide +kernel
theorem d_La_law_1220 : decode code 1220 = .ok (.iadd, 1) := by decide +kernel
theorem d_La_law_1221 : decode code 1221 = .ok (.iaload, 1) := by decide +kernel
theorem d_La_law_1222 : decode code 1222 = .ok (.aload_n 0, 1) := by decide +kernel
theorem d_La_law_1223 : decode code 1223 = .ok (.iload_n 3, 1) := by decide +kernel
theorem d_La_law_1224 : decode code 1224 = .ok (.iconst 2, 1) := by decide +kernel
theorem d_La_law_1225 : decode code 1225 = .ok (.iadd, 1) := by decide +kernel
theorem d_La_law_1226 : decode code 1226 = .ok (.iaload, 1) := by decide +kernel
theorem d_La_law_1227 : decode code 1227 = .ok (.aload_n 0, 1) := by decide +kernel
theorem d_La_law_1228 : decode code 1228 = .ok (.iload_n 3, 1) := by decide +kernel
theorem d_La_law_1229 : decode code 1229 = .ok (.iconst 3, 1) := by decide +kernel
theorem d_La_law_1230 : decode code 1230 = .ok (.iadd, 1) := by decide +kernel
theorem d_La_law_1231 : decode code 1231 = .ok (.iaload, 1) := by decide +kernel
theorem d_La_law_1232 : decode code 1232 = .ok (.i2l, 1) := by decide +kernel
theorem d_La_law_1233 : decode code 1233 = .ok (.bipush 32, 2) := by decide +kernel
theorem d_La_law_1235 : decode code 1235 = .ok (.lshl, 1) := by decide +kernel
theorem d_La_law_1236 : decode code 1236 = .ok (.aload_n 0, 1) := by decide +kernel
theorem d_La_law_1237 : decode code 1237 = .ok (.iload_n 3, 1) := by decide +kernel
theorem d_La_law_1238 : decode code 1238 = .ok (.iconst 4, 1) := by decide +kernel
theorem d_La_law_1239 : decode code 1239 = .ok (.iadd, 1) := by decide +kernel
theorem d_La_law_1240 : decode code 1240 = .ok (.iaload, 1) := by decide +kernel
theorem d_La_law_1241 : decode code 1241 = .ok (.i2l, 1) := by decide +kernel
theorem d_La_law_1242 : decode code 1242 = .ok (.ldc2_w 156, 3) := by decide +kernel
theorem d_La_law_1245 : decode code 1245 = .ok (.land, 1) := by decide +kernel
theorem d_La_law_1246 : decode code 1246 = .ok (.lor, 1) := by decide +kernel
theorem d_La_law_1247 : decode code 1247 = .ok (.invokevirtual 158, 3) := by decide +kernel
theorem d_La_law_1250 : decode code 1250 = .ok (.aload_n 2, 1) := by decide +kernel
theorem d_La_law_1251 : decode code 1251 = .ok (.aload_n 0, 1) := by decide +kernel
theorem d_La_law_1252 : decode code 1252 = .ok (.iload_n 3, 1) := by decide +kernel
theorem d_La_law_1253 : decode code 1253 = .ok (.iconst 1, 1) := by decide +kernel
theorem d_La_law_1254 : decode code 1254 = .ok (.iadd, 1) := by decide +kernel
theorem d_La_law_1255 : decode code 1255 = .ok (.iaload, 1) := by decide +kernel
theorem d_La_law_1256 : decode code 1256 = .ok (.aload_n 0, 1) := by decide +kernel
theorem d_La_law_1257 : decode code 1257 = .ok (.iload_n 3, 1) := by decide +kernel
theorem d_La_law_1258 : decode code 1258 = .ok (.iconst 2, 1) := by decide +kernel
theorem d_La_law_1259 : decode code 1259 = .ok (.iadd, 1) := by decide +kernel
theorem d_La_law_1260 : decode code 1260 = .ok (.iaload, 1) := by decide +kernel
theorem d_La_law_1261 : decode code 1261 = .ok (.aload_n 0, 1) := by decide +kernel
theorem d_La_law_1262 : decode code 1262 = .ok (.iload_n 3, 1) := by decide +kernel
theorem d_La_law_1263 : decode code 1263 = .ok (.iconst 3, 1) := by decide +kernel
theorem d_La_law_1264 : decode code 1264 = .ok (.iadd, 1) := by decide +kernel
theorem d_La_law_1265 : decode code 1265 = .ok (.iaload, 1) := by decide +kernel
theorem d_La_law_1266 : decode code 1266 = .ok (.i2l, 1) := by decide +kernel
theorem d_La_law_1267 : decode code 1267 = .ok (.bipush 32, 2) := by decide +kernel
theorem d_La_law_1269 : decode code 1269 = .ok (.lshl, 1) := by decide +kernel
theorem d_La_law_1270 : decode code 1270 = .ok (.aload_n 0, 1) := by decide +kernel
theorem d_La_law_1271 : decode code 1271 = .ok (.iload_n 3, 1) := by decide +kernel
theorem d_La_law_1272 : decode code 1272 = .ok (.iconst 4, 1) := by decide +kernel
theorem d_La_law_1273 : decode code 1273 = .ok (.iadd, 1) := by decide +kernel
theorem d_La_law_1274 : decode code 1274 = .ok (.iaload, 1) := by decide +kernel
theorem d_La_law_1275 : decode code 1275 = .ok (.i2l, 1) := by decide +kernel
theorem d_La_law_1276 : decode code 1276 = .ok (.ldc2_w 156, 3) := by decide +kernel
theorem d_La_law_1279 : decode code 1279 = .ok (.land, 1) := by decide +kernel
theorem d_La_law_1280 : decode code 1280 = .ok (.lor, 1) := by decide +kernel
theorem d_La_law_1281 : decode code 1281 = .ok (.invokevirtual 162, 3) := by decide +kernel
theorem d_La_law_1284 : decode code 1284 = .ok (.if_icmp .eq 102, 3) := by decide +kernel
theorem d_La_law_1287 : decode code 1287 = .ok (.iconst 0, 1) := by decide +kernel
theorem d_La_law_1288 : decode code 1288 = .ok (.ireturn, 1) := by decide +kernel
theorem d_La_law_1289 : decode code 1289 = .ok (.aload_n 1, 1) := by decide +kernel
theorem d_La_law_1290 : decode code 1290 = .ok (.aload_n 0, 1) := by decide +kernel
theorem d_La_law_1291 : decode code 1291 = .ok (.iload_n 3, 1) := by decide +kernel
theorem d_La_law_1292 : decode code 1292 = .ok (.iconst 1, 1) := by decide +kernel
theorem d_La_law_1293 : decode code 1293 = .ok (.iadd, 1) := by decide +kernel
theorem d_La_law_1294 : decode code 1294 = .ok (.iaload, 1) := by decide +kernel
theorem d_La_law_1295 : decode code 1295 = .ok (.aload_n 0, 1) := by decide +kernel
theorem d_La_law_1296 : decode code 1296 = .ok (.iload_n 3, 1) := by decide +kernel
theorem d_La_law_1297 : decode code 1297 = .ok (.iconst 2, 1) := by decide +kernel
theorem d_La_law_1298 : decode code 1298 = .ok (.iadd, 1) := by decide +kernel
theorem d_La_law_1299 : decode code 1299 = .ok (.iaload, 1) := by decide +kernel
theorem d_La_law_1300 : decode code 1300 = .ok (.invokevirtual 163, 3) := by decide +kernel
theorem d_La_law_1303 : decode code 1303 = .ok (.aload_n 2, 1) := by decide +kernel
theorem d_La_law_1304 : decode code 1304 = .ok (.aload_n 0, 1) := by decide +kernel
theorem d_La_law_1305 : decode code 1305 = .ok (.iload_n 3, 1) := by decide +kernel
theorem d_La_law_1306 : decode code 1306 = .ok (.iconst 1, 1) := by decide +kernel
theorem d_La_law_1307 : decode code 1307 = .ok (.iadd, 1) := by decide +kernel
theorem d_La_law_1308 : decode code 1308 = .ok (.iaload, 1) := by decide +kernel
theorem d_La_law_1309 : decode code 1309 = .ok (.aload_n 0, 1) := by decide +kernel
theorem d_La_law_1310 : decode code 1310 = .ok (.iload_n 3, 1) := by decide +kernel
theorem d_La_law_1311 : decode code 1311 = .ok (.iconst 2, 1) := by decide +kernel
theorem d_La_law_1312 : decode code 1312 = .ok (.iadd, 1) := by decide +kernel
theorem d_La_law_1313 : decode code 1313 = .ok (.iaload, 1) := by decide +kernel
theorem d_La_law_1314 : decode code 1314 = .ok (.invokevirtual 166, 3) := by decide +kernel
theorem d_La_law_1317 : decode code 1317 = .ok (.lcmp, 1) := by decide +kernel
theorem d_La_law_1318 : decode code 1318 = .ok (.ifCond .eq 68, 3) := by decide +kernel
theorem d_La_law_1321 : decode code 1321 = .ok (.iconst 0, 1) := by decide +kernel
theorem d_La_law_1322 : decode code 1322 = .ok (.ireturn, 1) := by decide +kernel
theorem d_La_law_1323 : decode code 1323 = .ok (.aload_n 1, 1) := by decide +kernel
theorem d_La_law_1324 : decode code 1324 = .ok (.aload_n 0, 1) := by decide +kernel
theorem d_La_law_1325 : decode code 1325 = .ok (.iload_n 3, 1) := by decide +kernel
theorem d_La_law_1326 : decode code 1326 = .ok (.iconst 1, 1) := by decide +kernel
theorem d_La_law_1327 : decode code 1327 = .ok (.iadd, 1) := by decide +kernel
theorem d_La_law_1328 : decode code 1328 = .ok (.iaload, 1) := by decide +kernel
theorem d_La_law_1329 : decode code 1329 = .ok (.aload_n 0, 1) := by decide +kernel
theorem d_La_law_1330 : decode code 1330 = .ok (.iload_n 3, 1) := by decide +kernel
theorem d_La_law_1331 : decode code 1331 = .ok (.iconst 2, 1) := by decide +kernel
theorem d_La_law_1332 : decode code 1332 = .ok (.iadd, 1) := by decide +kernel
theorem d_La_law_1333 : decode code 1333 = .ok (.iaload, 1) := by decide +kernel
theorem d_La_law_1334 : decode code 1334 = .ok (.aload_n 0, 1) := by decide +kernel
theorem d_La_law_1335 : decode code 1335 = .ok (.iload_n 3, 1) := by decide +kernel
theorem d_La_law_1336 : decode code 1336 = .ok (.iconst 3, 1) := by decide +kernel
theorem d_La_law_1337 : decode code 1337 = .ok (.iadd, 1) := by decide +kernel
theorem d_La_law_1338 : decode code 1338 = .ok (.iaload, 1) := by decide +kernel
theorem d_La_law_1339 : decode code 1339 = .ok (.aload_n 0, 1) := by decide +kernel
theorem d_La_law_1340 : decode code 1340 = .ok (.iload_n 3, 1) := by decide +kernel
theorem d_La_law_1341 : decode code 1341 = .ok (.iconst 4, 1) := by decide +kernel
theorem d_La_law_1342 : decode code 1342 = .ok (.iadd, 1) := by decide +kernel
theorem d_La_law_1343 : decode code 1343 = .ok (.iaload, 1) := by decide +kernel
theorem d_La_law_1344 : decode code 1344 = .ok (.aload_n 0, 1) := by decide +kernel
theorem d_La_law_1345 : decode code 1345 = .ok (.iload_n 3, 1) := by decide +kernel
theorem d_La_law_1346 : decode code 1346 = .ok (.iconst 5, 1) := by decide +kernel
theorem d_La_law_1347 : decode code 1347 = .ok (.iadd, 1) := by decide +kernel
theorem d_La_law_1348 : decode code 1348 = .ok (.iaload, 1) := by decide +kernel
theorem d_La_law_1349 : decode code 1349 = .ok (.invokevirtual 167, 3) := by decide +kernel
theorem d_La_law_1352 : decode code 1352 = .ok (.aload_n 2, 1) := by decide +kernel
theorem d_La_law_1353 : decode code 1353 = .ok (.aload_n 0, 1) := by decide +kernel
theorem d_La_law_1354 : decode code 1354 = .ok (.iload_n 3, 1) := by decide +kernel
theorem d_La_law_1355 : decode code 1355 = .ok (.iconst 1, 1) := by decide +kernel
theorem d_La_law_1356 : decode code 1356 = .ok (.iadd, 1) := by decide +kernel
theorem d_La_law_1357 : decode code 1357 = .ok (.iaload, 1) := by decide +kernel
theorem d_La_law_1358 : decode code 1358 = .ok (.aload_n 0, 1) := by decide +kernel
theorem d_La_law_1359 : decode code 1359 = .ok (.iload_n 3, 1) := by decide +kernel
theorem d_La_law_1360 : decode code 1360 = .ok (.iconst 2, 1) := by decide +kernel
theorem d_La_law_1361 : decode code 1361 = .ok (.iadd, 1) := by decide +kernel
theorem d_La_law_1362 : decode code 1362 = .ok (.iaload, 1) := by decide +kernel
theorem d_La_law_1363 : decode code 1363 = .ok (.aload_n 0, 1) := by decide +kernel
theorem d_La_law_1364 : decode code 1364 = .ok (.iload_n 3, 1) := by decide +kernel
theorem d_La_law_1365 : decode code 1365 = .ok (.iconst 3, 1) := by decide +kernel
theorem d_La_law_1366 : decode code 1366 = .ok (.iadd, 1) := by decide +kernel
theorem d_La_law_1367 : decode code 1367 = .ok (.iaload, 1) := by decide +kernel
theorem d_La_law_1368 : decode code 1368 = .ok (.aload_n 0, 1) := by decide +kernel
theorem d_La_law_1369 : decode code 1369 = .ok (.iload_n 3, 1) := by decide +kernel
theorem d_La_law_1370 : decode code 1370 = .ok (.iconst 4, 1) := by decide +kernel
theorem d_La_law_1371 : decode code 1371 = .ok (.iadd, 1) := by decide +kernel
theorem d_La_law_1372 : decode code 1372 = .ok (.iaload, 1) := by decide +kernel
theorem d_La_law_1373 : decode code 1373 = .ok (.aload_n 0, 1) := by decide +kernel
theorem d_La_law_1374 : decode code 1374 = .ok (.iload_n 3, 1) := by decide +kernel
theorem d_La_law_1375 : decode code 1375 = .ok (.iconst 5, 1) := by decide +kernel
theorem d_La_law_1376 : decode code 1376 = .ok (.iadd, 1) := by decide +kernel
theorem d_La_law_1377 : decode code 1377 = .ok (.iaload, 1) := by decide +kernel
theorem d_La_law_1378 : decode code 1378 = .ok (.invokevirtual 171, 3) := by decide +kernel
theorem d_La_law_1381 : decode code 1381 = .ok (.if_icmp .eq 5, 3) := by decide +kernel
theorem d_La_law_1384 : decode code 1384 = .ok (.iconst 0, 1) := by decide +kernel
theorem d_La_law_1385 : decode code 1385 = .ok (.ireturn, 1) := by decide +kernel
theorem d_La_law_1386 : decode code 1386 = .ok (.iinc 3 6, 3) := by decide +kernel
theorem d_La_law_1389 : decode code 1389 = .ok (.goto (-1371), 3) := by decide +kernel
theorem d_La_law_1392 : decode code 1392 = .ok (.iconst 1, 1) := by decide +kernel
theorem d_La_law_1393 : decode code 1393 = .ok (.ireturn, 1) := by decide +kernel
