theorem dL_law_808 : decode cL_law 808 = .ok (.aload_n 1, 1) := by decide +kernel
theorem dL_law_809 : decode cL_law 809 = .ok (.aload_n 0, 1) := by decide +kernel
theorem dL_law_810 : decode cL_law 810 = .ok (.iload_n 3, 1) := by decide +kernel
theorem dL_law_811 : decode cL_law 811 = .ok (.iconst 1, 1) := by decide +kernel
theorem dL_law_812 : decode cL_law 812 = .ok (.iadd, 1) := by decide +kernel
theorem dL_law_813 : decode cL_law 813 = .ok (.iaload, 1) := by decide +kernel
theorem dL_law_814 : decode cL_law 814 = .ok (.aload_n 0, 1) := by decide +kernel
theorem dL_law_815 : decode cL_law 815 = .ok (.iload_n 3, 1) := by decide +kernel
theorem dL_law_816 : decode cL_law 816 = .ok (.iconst 2, 1) := by decide +kernel
theorem dL_law_817 : decode cL_law 817 = .ok (.iadd, 1) := by decide +kernel
theorem dL_law_818 : decode cL_law 818 = .ok (.iaload, 1) := by decide +kernel
theorem dL_law_819 : decode cL_law 819 = .ok (.invokevirtual 90, 3) := by decide +kernel
theorem dL_law_822 : decode cL_law 822 = .ok (.aload_n 2, 1) := by decide +kernel
theorem dL_law_823 : decode cL_law 823 = .ok (.aload_n 0, 1) := by decide +kernel
theorem dL_law_824 : decode cL_law 824 = .ok (.iload_n 3, 1) := by decide +kernel
theorem dL_law_825 : decode cL_law 825 = .ok (.iconst 1, 1) := by decide +kernel
theorem dL_law_826 : decode cL_law 826 = .ok (.iadd, 1) := by decide +kernel
theorem dL_law_827 : decode cL_law 827 = .ok (.iaload, 1) := by decide +kernel
theorem dL_law_828 : decode cL_law 828 = .ok (.aload_n 0, 1) := by decide +kernel
theorem dL_law_829 : decode cL_law 829 = .ok (.iload_n 3, 1) := by decide +kernel
theorem dL_law_830 : decode cL_law 830 = .ok (.iconst 2, 1) := by decide +kernel
theorem dL_law_831 : decode cL_law 831 = .ok (.iadd, 1) := by decide +kernel
theorem dL_law_832 : decode cL_law 832 = .ok (.iaload, 1) := by decide +kernel
theorem dL_law_833 : decode cL_law 833 = .ok (.invokevirtual 93, 3) := by decide +kernel
theorem dL_law_836 : decode cL_law 836 = .ok (.if_icmp .eq 1220, 3) := by decide +kernel
theorem dL_law_841 : decode cL_law 841 = .ok (.aload_n 1, 1) := by decide +kernel
theorem dL_law_842 : decode cL_law 842 = .ok (.aload_n 0, 1) := by decide +kernel
theorem dL_law_843 : decode cL_law 843 = .ok (.iload_n 3, 1) := by decide +kernel
theorem dL_law_844 : decode cL_law 844 = .ok (.iconst 1, 1) := by decide +kernel
theorem dL_law_845 : decode cL_law 845 = .ok (.iadd, 1) := by decide +kernel
theorem dL_law_846 : decode cL_law 846 = .ok (.iaload, 1) := by decide +kernel
theorem dL_law_847 : decode cL_law 847 = .ok (.aload_n 0, 1) := by decide +kernel
theorem dL_law_848 : decode cL_law 848 = .ok (.iload_n 3, 1) := by decide +kernel
theorem dL_law_849 : decode cL_law 849 = .ok (.iconst 2, 1) := by decide +kernel
theorem dL_law_850 : decode cL_law 850 = .ok (.iadd, 1) := by decide +kernel
theorem dL_law_851 : decode cL_law 851 = .ok (.iaload, 1) := by decide +kernel
theorem dL_law_852 : decode cL_law 852 = .ok (.aload_n 0, 1) := by decide +kernel
theorem dL_law_853 : decode cL_law 853 = .ok (.iload_n 3, 1) := by decide +kernel
theorem dL_law_854 : decode cL_law 854 = .ok (.iconst 3, 1) := by decide +kernel
theorem dL_law_855 : decode cL_law 855 = .ok (.iadd, 1) := by decide +kernel
theorem dL_law_856 : decode cL_law 856 = .ok (.iaload, 1) := by decide +kernel
theorem dL_law_857 : decode cL_law 857 = .ok (.invokevirtual 94, 3) := by decide +kernel
theorem dL_law_860 : decode cL_law 860 = .ok (.aload_n 2, 1) := by decide +kernel
theorem dL_law_861 : decode cL_law 861 = .ok (.aload_n 0, 1) := by decide +kernel
theorem dL_law_862 : decode cL_law 862 = .ok (.iload_n 3, 1) := by decide +kernel
theorem dL_law_863 : decode cL_law 863 = .ok (.iconst 1, 1) := by decide +kernel
theorem dL_law_864 : decode cL_law 864 = .ok (.iadd, 1) := by decide +kernel
theorem dL_law_865 : decode cL_law 865 = .ok (.iaload, 1) := by decide +kernel
theorem dL_law_866 : decode cL_law 866 = .ok (.aload_n 0, 1) := by decide +kernel
theorem dL_law_867 : decode cL_law 867 = .ok (.iload_n 3, 1) := by decide +kernel
theorem dL_law_868 : decode cL_law 868 = .ok (.iconst 2, 1) := by decide +kernel
theorem dL_law_869 : decode cL_law 869 = .ok (.iadd, 1) := by decide +kernel
theorem dL_law_870 : decode cL_law 870 = .ok (.iaload, 1) := by decide +kernel
theorem dL_law_871 : decode cL_law 871 = .ok (.aload_n 0, 1) := by decide +kernel
theorem dL_law_872 : decode cL_law 872 = .ok (.iload_n 3, 1) := by decide +kernel
theorem dL_law_873 : decode cL_law 873 = .ok (.iconst 3, 1) := by decide +kernel
theorem dL_law_874 : decode cL_law 874 = .ok (.iadd, 1) := by decide +kernel
theorem dL_law_875 : decode cL_law 875 = .ok (.iaload, 1) := by decide +kernel
theorem dL_law_876 : decode cL_law 876 = .ok (.invokevirtual 97, 3) := by decide +kernel
theorem dL_law_879 : decode cL_law 879 = .ok (.if_icmp .eq 1177, 3) := by decide +kernel
theorem dL_law_884 : decode cL_law 884 = .ok (.aload_n 1, 1) := by decide +kernel
theorem dL_law_885 : decode cL_law 885 = .ok (.aload_n 0, 1) := by decide +kernel
theorem dL_law_886 : decode cL_law 886 = .ok (.iload_n 3, 1) := by decide +kernel
theorem dL_law_887 : decode cL_law 887 = .ok (.iconst 1, 1) := by decide +kernel
theorem dL_law_888 : decode cL_law 888 = .ok (.iadd, 1) := by decide +kernel
theorem dL_law_889 : decode cL_law 889 = .ok (.iaload, 1) := by decide +kernel
theorem dL_law_890 : decode cL_law 890 = .ok (.aload_n 0, 1) := by decide +kernel
theorem dL_law_891 : decode cL_law 891 = .ok (.iload_n 3, 1) := by decide +kernel
theorem dL_law_892 : decode cL_law 892 = .ok (.iconst 2, 1) := by decide +kernel
theorem dL_law_893 : decode cL_law 893 = .ok (.iadd, 1) := by decide +kernel
theorem dL_law_894 : decode cL_law 894 = .ok (.iaload, 1) := by decide +kernel
theorem dL_law_895 : decode cL_law 895 = .ok (.invokevirtual 98, 3) := by decide +kernel
theorem dL_law_898 : decode cL_law 898 = .ok (.aload_n 2, 1) := by decide +kernel
theorem dL_law_899 : decode cL_law 899 = .ok (.aload_n 0, 1) := by decide +kernel
theorem dL_law_900 : decode cL_law 900 = .ok (.iload_n 3, 1) := by decide +kernel
theorem dL_law_901 : decode cL_law 901 = .ok (.iconst 1, 1) := by decide +kernel
theorem dL_law_902 : decode cL_law 902 = .ok (.iadd, 1) := by decide +kernel
theorem dL_law_903 : decode cL_law 903 = .ok (.iaload, 1) := by decide +kernel
theorem dL_law_904 : decode cL_law 904 = .ok (.aload_n 0, 1) := by decide +kernel
theorem dL_law_905 : decode cL_law 905 = .ok (.iload_n 3, 1) := by decide +kernel
theorem dL_law_906 : decode cL_law 906 = .ok (.iconst 2, 1) := by decide +kernel
theorem dL_law_907 : decode cL_law 907 = .ok (.iadd, 1) := by decide +kernel
theorem dL_law_908 : decode cL_law 908 = .ok (.iaload, 1) := by decide +kernel
theorem dL_law_909 : decode cL_law 909 = .ok (.invokevirtual 101, 3) := by decide +kernel
theorem dL_law_912 : decode cL_law 912 = .ok (.if_icmp .eq 1144, 3) := by decide +kernel
theorem dL_law_917 : decode cL_law 917 = .ok (.aload_n 1, 1) := by decide +kernel
theorem dL_law_918 : decode cL_law 918 = .ok (.aload_n 0, 1) := by decide +kernel
theorem dL_law_919 : decode cL_law 919 = .ok (.iload_n 3, 1) := by decide +kernel
theorem dL_law_920 : decode cL_law 920 = .ok (.iconst 1, 1) := by decide +kernel
theorem dL_law_921 : decode cL_law 921 = .ok (.iadd, 1) := by decide +kernel
theorem dL_law_922 : decode cL_law 922 = .ok (.iaload, 1) := by decide +kernel
theorem dL_law_923 : decode cL_law 923 = .ok (.aload_n 0, 1) := by decide +kernel
theorem dL_law_924 : decode cL_law 924 = .ok (.iload_n 3, 1) := by decide +kernel
theorem dL_law_925 : decode cL_law 925 = .ok (.iconst 2, 1) := by decide +kernel
theorem dL_law_926 : decode cL_law 926 = .ok (.iadd, 1) := by decide +kernel
theorem dL_law_927 : decode cL_law 927 = .ok (.iaload, 1) := by decide +kernel
theorem dL_law_928 : decode cL_law 928 = .ok (.aload_n 0, 1) := by decide +kernel
theorem dL_law_929 : decode cL_law 929 = .ok (.iload_n 3, 1) := by decide +kernel
theorem dL_law_930 : decode cL_law 930 = .ok (.iconst 3, 1) := by decide +kernel
theorem dL_law_931 : decode cL_law 931 = .ok (.iadd, 1) := by decide +kernel
theorem dL_law_932 : decode cL_law 932 = .ok (.iaload, 1) := by decide +kernel
theorem dL_law_933 : decode cL_law 933 = .ok (.invokevirtual 102, 3) := by decide +kernel
theorem dL_law_936 : decode cL_law 936 = .ok (.aload_n 2, 1) := by decide +kernel
theorem dL_law_937 : decode cL_law 937 = .ok (.aload_n 0, 1) := by decide +kernel
theorem dL_law_938 : decode cL_law 938 = .ok (.iload_n 3, 1) := by decide +kernel
theorem dL_law_939 : decode cL_law 939 = .ok (.iconst 1, 1) := by decide +kernel
theorem dL_law_940 : decode cL_law 940 = .ok (.iadd, 1) := by decide +kernel
theorem dL_law_941 : decode cL_law 941 = .ok (.iaload, 1) := by decide +kernel
theorem dL_law_942 : decode cL_law 942 = .ok (.aload_n 0, 1) := by decide +kernel
theorem dL_law_943 : decode cL_law 943 = .ok (.iload_n 3, 1) := by decide +kernel
theorem dL_law_944 : decode cL_law 944 = .ok (.iconst 2, 1) := by decide +kernel
theorem dL_law_945 : decode cL_law 945 = .ok (.iadd, 1) := by decide +kernel
theorem dL_law_946 : decode cL_law 946 = .ok (.iaload, 1) := by decide +kernel
theorem dL_law_947 : decode cL_law 947 = .ok (.aload_n 0, 1) := by decide +kernel
theorem dL_law_948 : decode cL_law 948 = .ok (.iload_n 3, 1) := by decide +kernel
theorem dL_law_949 : decode cL_law 949 = .ok (.iconst 3, 1) := by decide +kernel
theorem dL_law_950 : decode cL_law 950 = .ok (.iadd, 1) := by decide +kernel
theorem dL_law_951 : decode cL_law 951 = .ok (.iaload, 1) := by decide +kernel
theorem dL_law_952 : decode cL_law 952 = .ok (.invokevirtual 105, 3) := by decide +kernel
theorem dL_law_955 : decode cL_law 955 = .ok (.if_icmp .eq 1101, 3) := by decide +kernel
theorem dL_law_960 : decode cL_law 960 = .ok (.aload_n 1, 1) := by decide +kernel
theorem dL_law_961 : decode cL_law 961 = .ok (.aload_n 0, 1) := by decide +kernel
theorem dL_law_962 : decode cL_law 962 = .ok (.iload_n 3, 1) := by decide +kernel
theorem dL_law_963 : decode cL_law 963 = .ok (.iconst 1, 1) := by decide +kernel
theorem dL_law_964 : decode cL_law 964 = .ok (.iadd, 1) := by decide +kernel
theorem dL_law_965 : decode cL_law 965 = .ok (.iaload, 1) := by decide +kernel
theorem dL_law_966 : decode cL_law 966 = .ok (.aload_n 0, 1) := by decide +kernel
theorem dL_law_967 : decode cL_law 967 = .ok (.iload_n 3, 1) := by decide +kernel
theorem dL_law_968 : decode cL_law 968 = .ok (.iconst 2, 1) := by decide +kernel
theorem dL_law_969 : decode cL_law 969 = .ok (.iadd, 1) := by decide +kernel
theorem dL_law_970 : decode cL_law 970 = .ok (.iaload, 1) := by decide +kernel
theorem dL_law_971 : decode cL_law 971 = .ok (.invokevirtual 106, 3) := by decide +kernel
theorem dL_law_974 : decode cL_law 974 = .ok (.aload_n 2, 1) := by decide +kernel
theorem dL_law_975 : decode cL_law 975 = .ok (.aload_n 0, 1) := by decide +kernel
theorem dL_law_976 : decode cL_law 976 = .ok (.iload_n 3, 1) := by decide +kernel
theorem dL_law_977 : decode cL_law 977 = .ok (.iconst 1, 1) := by decide +kernel
theorem dL_law_978 : decode cL_law 978 = .ok (.iadd, 1) := by decide +kernel
theorem dL_law_979 : decode cL_law 979 = .ok (.iaload, 1) := by decide +kernel
theorem dL_law_980 : decode cL_law 980 = .ok (.aload_n 0, 1) := by decide +kernel
theorem dL_law_981 : decode cL_law 981 = .ok (.iload_n 3, 1) := by decide +kernel
theorem dL_law_982 : decode cL_law 982 = .ok (.iconst 2, 1) := by decide +kernel
theorem dL_law_983 : decode cL_law 983 = .ok (.iadd, 1) := by decide +kernel
theorem dL_law_984 : decode cL_law 984 = .ok (.iaload, 1) := by decide +kernel
theorem dL_law_985 : decode cL_law 985 = .ok (.invokevirtual 109, 3) := by decide +kernel
theorem dL_law_988 : decode cL_law 988 = .ok (.if_icmp .eq 1068, 3) := by decide +kernel
theorem dL_law_993 : decode cL_law 993 = .ok (.aload_n 1, 1) := by decide +kernel
theorem dL_law_994 : decode cL_law 994 = .ok (.aload_n 0, 1) := by decide +kernel
theorem dL_law_995 : decode cL_law 995 = .ok (.iload_n 3, 1) := by decide +kernel
theorem dL_law_996 : decode cL_law 996 = .ok (.iconst 1, 1) := by decide +kernel
theorem dL_law_997 : decode cL_law 997 = .ok (.iadd, 1) := by decide +kernel
theorem dL_law_998 : decode cL_law 998 = .ok (.iaload, 1) := by decide +kernel
theorem dL_law_999 : decode cL_law 999 = .ok (.aload_n 0, 1) := by decide +kernel
theorem dL_law_1000 : decode cL_law 1000 = .ok (.iload_n 3, 1) := by decide +kernel
theorem dL_law_1001 : decode cL_law 1001 = .ok (.iconst 2, 1) := by decide +kernel
theorem dL_law_1002 : decode cL_law 1002 = .ok (.iadd, 1) := by decide +kernel
theorem dL_law_1003 : decode cL_law 1003 = .ok (.iaload, 1) := by decide +kernel
theorem dL_law_1004 : decode cL_law 1004 = .ok (.invokevirtual 110, 3) := by decide +kernel
theorem dL_law_1007 : decode cL_law 1007 = .ok (.aload_n 2, 1) := by decide +kernel
theorem dL_law_1008 : decode cL_law 1008 = .ok (.aload_n 0, 1) := by decide +kernel
theorem dL_law_1009 : decode cL_law 1009 = .ok (.iload_n 3, 1) := by decide +kernel
theorem dL_law_1010 : decode cL_law 1010 = .ok (.iconst 1, 1) := by decide +kernel
theorem dL_law_1011 : decode cL_law 1011 = .ok (.iadd, 1) := by decide +kernel
theorem dL_law_1012 : decode cL_law 1012 = .ok (.iaload, 1) := by decide +kernel
theorem dL_law_1013 : decode cL_law 1013 = .ok (.aload_n 0, 1) := by decide +kernel
theorem dL_law_1014 : decode cL_law 1014 = .ok (.iload_n 3, 1) := by decide +kernel
theorem dL_law_1015 : decode cL_law 1015 = .ok (.iconst 2, 1) := by decide +kernel
theorem dL_law_1016 : decode cL_law 1016 = .ok (.iadd, 1) := by decide +kernel
theorem dL_law_1017 : decode cL_law 1017 = .ok (.iaload, 1) := by decide +kernel
theorem dL_law_1018 : decode cL_law 1018 = .ok (.invokevirtual 113, 3) := by decide +kernel
theorem dL_law_1021 : decode cL_law 1021 = .ok (.if_icmp .eq 1035, 3) := by decide +kernel
theorem dL_law_1026 : decode cL_law 1026 = .ok (.aload_n 1, 1) := by decide +kernel
theorem dL_law_1027 : decode cL_law 1027 = .ok (.aload_n 0, 1) := by decide +kernel
theorem dL_law_1028 : decode cL_law 1028 = .ok (.iload_n 3, 1) := by decide +kernel
theorem dL_law_1029 : decode cL_law 1029 = .ok (.iconst 1, 1) := by decide +kernel
theorem dL_law_1030 : decode cL_law 1030 = .ok (.iadd, 1) := by decide +kernel
theorem dL_law_1031 : decode cL_law 1031 = .ok (.iaload, 1) := by decide +kernel
theorem dL_law_1032 : decode cL_law 1032 = .ok (.aload_n 0, 1) := by decide +kernel
theorem dL_law_1033 : decode cL_law 1033 = .ok (.iload_n 3, 1) := by decide +kernel
theorem dL_law_1034 : decode cL_law 1034 = .ok (.iconst 2, 1) := by decide +kernel
theorem dL_law_1035 : decode cL_law 1035 = .ok (.iadd, 1) := by decide +kernel
theorem dL_law_1036 : decode cL_law 1036 = .ok (.iaload, 1) := by decide +kernel
theorem dL_law_1037 : decode cL_law 1037 = .ok (.aload_n 0, 1) := by decide +kernel
theorem dL_law_1038 : decode cL_law 1038 = .ok (.iload_n 3, 1) := by decide +kernel
theorem dL_law_1039 : decode cL_law 1039 = .ok (.iconst 3, 1) := by decide +kernel
theorem dL_law_1040 : decode cL_law 1040 = .ok (.iadd, 1) := by decide +kernel
theorem dL_law_1041 : decode cL_law 1041 = .ok (.iaload, 1) := by decide +kernel
theorem dL_law_1042 : decode cL_law 1042 = .ok (.invokevirtual 114, 3) := by decide +kernel
theorem dL_law_1045 : decode cL_law 1045 = .ok (.aload_n 2, 1) := by decide +kernel
theorem dL_law_1046 : decode cL_law 1046 = .ok (.aload_n 0, 1) := by decide +kernel
theorem dL_law_1047 : decode cL_law 1047 = .ok (.iload_n 3, 1) := by decide +kernel
theorem dL_law_1048 : decode cL_law 1048 = .ok (.iconst 1, 1) := by decide +kernel
theorem dL_law_1049 : decode cL_law 1049 = .ok (.iadd, 1) := by decide +kernel
theorem dL_law_1050 : decode cL_law 1050 = .ok (.iaload, 1) := by decide +kernel
theorem dL_law_1051 : decode cL_law 1051 = .ok (.aload_n 0, 1) := by decide +kernel
theorem dL_law_1052 : decode cL_law 1052 = .ok (.iload_n 3, 1) := by decide +kernel
theorem dL_law_1053 : decode cL_law 1053 = .ok (.iconst 2, 1) := by decide +kernel
theorem dL_law_1054 : decode cL_law 1054 = .ok (.iadd, 1) := by decide +kernel
theorem dL_law_1055 : decode cL_law 1055 = .ok (.iaload, 1) := by decide +kernel
theorem dL_law_1056 : decode cL_law 1056 = .ok (.aload_n 0, 1) := by decide +kernel
theorem dL_law_1057 : decode cL_law 1057 = .ok (.iload_n 3, 1) := by decide +kernel
theorem dL_law_1058 : decode cL_law 1058 = .ok (.iconst 3, 1) := by decide +kernel
theorem dL_law_1059 : decode cL_law 1059 = .ok (.iadd, 1) := by decide +kernel
theorem dL_law_1060 : decode cL_law 1060 = .ok (.iaload, 1) := by decide +kernel
theorem dL_law_1061 : decode cL_law 1061 = .ok (.invokevirtual 117, 3) := by decide +kernel
theorem dL_law_1064 : decode cL_law 1064 = .ok (.if_icmp .eq 992, 3) := by decide +kernel
theorem dL_law_1069 : decode cL_law 1069 = .ok (.aload_n 1, 1) := by decide +kernel
theorem dL_law_1070 : decode cL_law 1070 = .ok (.aload_n 0, 1) := by decide +kernel
theorem dL_law_1071 : decode cL_law 1071 = .ok (.iload_n 3, 1) := by decide +kernel
theorem dL_law_1072 : decode cL_law 1072 = .ok (.iconst 1, 1) := by decide +kernel
theorem dL_law_1073 : decode cL_law 1073 = .ok (.iadd, 1) := by decide +kernel
theorem dL_law_1074 : decode cL_law 1074 = .ok (.iaload, 1) := by decide +kernel
theorem dL_law_1075 : decode cL_law 1075 = .ok (.aload_n 0, 1) := by decide +kernel
theorem dL_law_1076 : decode cL_law 1076 = .ok (.iload_n 3, 1) := by decide +kernel
theorem dL_law_1077 : decode cL_law 1077 = .ok (.iconst 2, 1) := by decide +kernel
theorem dL_law_1078 : decode cL_law 1078 = .ok (.iadd, 1) := by decide +kernel
theorem dL_law_1079 : decode cL_law 1079 = .ok (.iaload, 1) := by decide +kernel
theorem dL_law_1080 : decode cL_law 1080 = .ok (.invokevirtual 118, 3) := by decide +kernel
theorem dL_law_1083 : decode cL_law 1083 = .ok (.aload_n 2, 1) := by decide +kernel
theorem dL_law_1084 : decode cL_law 1084 = .ok (.aload_n 0, 1) := by decide +kernel
theorem dL_law_1085 : decode cL_law 1085 = .ok (.iload_n 3, 1) := by decide +kernel
theorem dL_law_1086 : decode cL_law 1086 = .ok (.iconst 1, 1) := by decide +kernel
theorem dL_law_1087 : decode cL_law 1087 = .ok (.iadd, 1) := by decide +kernel
theorem dL_law_1088 : decode cL_law 1088 = .ok (.iaload, 1) := by decide +kernel
theorem dL_law_1089 : decode cL_law 1089 = .ok (.aload_n 0, 1) := by decide +kernel
theorem dL_law_1090 : decode cL_law 1090 = .ok (.iload_n 3, 1) := by decide +kernel
theorem dL_law_1091 : decode cL_law 1091 = .ok (.iconst 2, 1) := by decide +kernel
theorem dL_law_1092 : decode cL_law 1092 = .ok (.iadd, 1) := by decide +kernel
theorem dL_law_1093 : decode cL_law 1093 = .ok (.iaload, 1) := by decide +kernel
theorem dL_law_1094 : decode cL_law 1094 = .ok (.invokevirtual 121, 3) := by decide +kernel
theorem dL_law_1097 : decode cL_law 1097 = .ok (.if_icmp .eq 959, 3) := by decide +kernel
theorem dL_law_1102 : decode cL_law 1102 = .ok (.aload_n 1, 1) := by decide +kernel
theorem dL_law_1103 : decode cL_law 1103 = .ok (.aload_n 0, 1) := by decide +kernel
theorem dL_law_1104 : decode cL_law 1104 = .ok (.iload_n 3, 1) := by decide +kernel
theorem dL_law_1105 : decode cL_law 1105 = .ok (.iconst 1, 1) := by decide +kernel
theorem dL_law_1106 : decode cL_law 1106 = .ok (.iadd, 1) := by decide +kernel
theorem dL_law_1107 : decode cL_law 1107 = .ok (.iaload, 1) := by decide +kernel
theorem dL_law_1108 : decode cL_law 1108 = .ok (.aload_n 0, 1) := by decide +kernel
theorem dL_law_1109 : decode cL_law 1109 = .ok (.iload_n 3, 1) := by decide +kernel
theorem dL_law_1110 : decode cL_law 1110 = .ok (.iconst 2, 1) := by decide +kernel
theorem dL_law_1111 : decode cL_law 1111 = .ok (.iadd, 1) := by decide +kernel
theorem dL_law_1112 : decode cL_law 1112 = .ok (.iaload, 1) := by decide +kernel
theorem dL_law_1113 : decode cL_law 1113 = .ok (.invokevirtual 122, 3) := by decide +kernel
theorem dL_law_1116 : decode cL_law 1116 = .ok (.aload_n 2, 1) := by decide +kernel
theorem dL_law_1117 : decode cL_law 1117 = .ok (.aload_n 0, 1) := by decide +kernel
theorem dL_law_1118 : decode cL_law 1118 = .ok (.iload_n 3, 1) := by decide +kernel
theorem dL_law_1119 : decode cL_law 1119 = .ok (.iconst 1, 1) := by decide +kernel
theorem dL_law_1120 : decode cL_law 1120 = .ok (.iadd, 1) := by decide +kernel
theorem dL_law_1121 : decode cL_law 1121 = .ok (.iaload, 1) := by decide +kernel
theorem dL_law_1122 : decode cL_law 1122 = .ok (.aload_n 0, 1) := by decide +kernel
theorem dL_law_1123 : decode cL_law 1123 = .ok (.iload_n 3, 1) := by decide +kernel
theorem dL_law_1124 : decode cL_law 1124 = .ok (.iconst 2, 1) := by decide +kernel
theorem dL_law_1125 : decode cL_law 1125 = .ok (.iadd, 1) := by decide +kernel
theorem dL_law_1126 : decode cL_law 1126 = .ok (.iaload, 1) := by decide +kernel
theorem dL_law_1127 : decode cL_law 1127 = .ok (.invokevirtual 125, 3) := by decide +kernel
theorem dL_law_1130 : decode cL_law 1130 = .ok (.if_icmp .eq 926, 3) := by decide +kernel
set_option maxHeartbeats 4000000 in
set_option maxRecDepth 100000 in
theorem law_c18 {p : Program} {l : Launch} {e : Env} {s : State} {m : MethodId} {below : List Frame} {meth : Method} {c : Code} {dC : Nat → ClassId} {dI : Nat → Nat → Nat} {b : Nat} {xs : Nat → Int32} (C0 : lw_At p s m meth c b 6 xs) {x0 m0 : Nat} {rx rm : Nat → Nat} {k1 : ClassId} {kf : Nat → ClassId} {H : Heap} {locs : List Loc} {ls : Array Slot} (hK : va_K (dC, dI) vwCl (law_T k1 kf) s) (hP : va_P (dC, dI) vwCl (law_W x0 m0 rx rm k1 kf) H) (hD : va_D (fun q : Nat => s.heap.size ≤ q) (law_W x0 m0 rx rm k1 kf)) (hS : va_S (fun q : Nat => s.heap.size ≤ q) s.heap H locs) (hl : lv_has ls 4 [(0, .ref b), (1, .ref x0), (2, .ref m0), (3, .int 0)]) : W p l e room_1 s m #[Value.ref b] below meth c H locs 1000 100000 (lw_Z below #[Value.ref b] s) (F0 m 808 ls []) := by
  obtain ⟨hx, hb, hr, hml, hown0, hts, hX, hbl, hlocks, hgv⟩ := id C0
  have hown : s.vm.findClass RL = some m.cls := hown0
  have hA : ∀ q : Nat, s.heap.size ≤ q → (fun q : Nat => s.heap.size ≤ q) q := fun _ h => h
  have hbA : ¬ (fun q : Nat => s.heap.size ≤ q) b := Nat.not_le.mpr hbl
  have hK : va_K (dC, dI) vwCl [(k1, .byte), ((kf 0), .int), ((kf 1), .int), ((kf 2), .int), ((kf 3), .int), ((kf 5), .int), ((kf 6), .int), ((kf 7), .int), ((kf 8), .int), ((kf 9), .int), ((kf 10), .int), ((kf 11), .int), ((kf 4), .boolean), ((kf 12), .int), ((kf 13), .int)] s := hK
  have hP : va_P (dC, dI) vwCl [(x0, .inr (11, fsX rx)), ((rx 0), .inr (6, fsR rx)), ((rx 11), .inr (10, fsT rx)), ((rx 13), .inl (k1, 1600, .inl (fun _ => 0))), ((rx 12), .inr (0, fsD rx)), ((rx 1), .inr (0, fsA rx)), (m0, .inr (12, fsM rm)), ((rm 0), .inl ((kf 0), 6, .inl (fun _ => 0))), ((rm 1), .inl ((kf 1), 36, .inl (fun _ => 0))), ((rm 2), .inl ((kf 2), 24, .inl (fun _ => 0))), ((rm 3), .inl ((kf 3), 24, .inl (fun _ => 0))), ((rm 5), .inl ((kf 5), 24, .inl (fun _ => 0))), ((rm 6), .inl ((kf 6), 24, .inl (fun _ => 0))), ((rm 7), .inl ((kf 7), 24, .inl (fun _ => 0))), ((rm 8), .inl ((kf 8), 8, .inl (fun _ => 0))), ((rm 9), .inl ((kf 9), 8, .inl (fun _ => 0))), ((rm 10), .inl ((kf 10), 8, .inl (fun _ => 0))), ((rm 11), .inl ((kf 11), 8, .inl (fun _ => 0))), ((rm 4), .inl ((kf 4), 24, .inl (fun _ => 0))), ((rm 12), .inl ((kf 12), 300, .inl (fun _ => 0))), ((rm 13), .inl ((kf 13), 1600, .inl (fun _ => 0)))] H := hP
  have hD : va_D (fun q : Nat => s.heap.size ≤ q) [(x0, .inr (11, fsX rx)), ((rx 0), .inr (6, fsR rx)), ((rx 11), .inr (10, fsT rx)), ((rx 13), .inl (k1, 1600, .inl (fun _ => 0))), ((rx 12), .inr (0, fsD rx)), ((rx 1), .inr (0, fsA rx)), (m0, .inr (12, fsM rm)), ((rm 0), .inl ((kf 0), 6, .inl (fun _ => 0))), ((rm 1), .inl ((kf 1), 36, .inl (fun _ => 0))), ((rm 2), .inl ((kf 2), 24, .inl (fun _ => 0))), ((rm 3), .inl ((kf 3), 24, .inl (fun _ => 0))), ((rm 5), .inl ((kf 5), 24, .inl (fun _ => 0))), ((rm 6), .inl ((kf 6), 24, .inl (fun _ => 0))), ((rm 7), .inl ((kf 7), 24, .inl (fun _ => 0))), ((rm 8), .inl ((kf 8), 8, .inl (fun _ => 0))), ((rm 9), .inl ((kf 9), 8, .inl (fun _ => 0))), ((rm 10), .inl ((kf 10), 8, .inl (fun _ => 0))), ((rm 11), .inl ((kf 11), 8, .inl (fun _ => 0))), ((rm 4), .inl ((kf 4), 24, .inl (fun _ => 0))), ((rm 12), .inl ((kf 12), 300, .inl (fun _ => 0))), ((rm 13), .inl ((kf 13), 1600, .inl (fun _ => 0)))] := hD
  refine lv_aload_n hx hb dL_law_808 rfl (lv_at hl 1 rfl) ?_
  refine lv_aload_n hx hb dL_law_809 rfl (lv_at hl 0 rfl) ?_
  refine lv_iload_n hx hb dL_law_810 rfl (lv_at hl 3 rfl) ?_
  refine lv_iconst (v := 1) hx hb dL_law_811 (by decide) ?_
  refine lv_iadd hx hb dL_law_812 ?_
  refine gz_topi (y := 1) (by decide) ?_
  refine va_sld hx hb hX hbl hbA hS (by unfold vp_in; decide) dL_law_813 ?_
  refine gz_topi (y := xs 1) (congrArg xs (by decide)) ?_
  refine lv_aload_n hx hb dL_law_814 rfl (lv_at hl 0 rfl) ?_
  refine lv_iload_n hx hb dL_law_815 rfl (lv_at hl 3 rfl) ?_
  refine lv_iconst (v := 2) hx hb dL_law_816 (by decide) ?_
  refine lv_iadd hx hb dL_law_817 ?_
  refine gz_topi (y := 2) (by decide) ?_
  refine va_sld hx hb hX hbl hbA hS (by unfold vp_in; decide) dL_law_818 ?_
  refine gz_topi (y := xs 2) (congrArg xs (by decide)) ?_
  have hPc := hP.sub (ws' := [(x0, .inr (11, fsX rx)), ((rx 1), .inr (0, fsA rx))]) [0, 5] rfl
  have hKc := hK.sub (tys' := []) [] rfl
  refine va_calli (va_runV (As := [.int (xs 1), .int (xs 2)]) (rest := []) ⟨hx, hb, hml, hown, hts⟩ (fX11_lasts l dC dI x0 rx (xs 1) (xs 2)) (cwV 2 hts (gz_lV lm_147 lm_148 lm_149 lm_4 lm_146 lwGA goodGA) rfl rfl rfl (by decide +kernel) ⟨Nat.le_of_ble_eq_true rfl, Nat.le_of_ble_eq_true rfl⟩) ⟨fun a U g mk q => by obtain ⟨q0, qP, qK⟩ := q; exact ⟨q0, qP, va_K.moved (u := U) (U := U.calling g mk a) (Vm.Alike.refl U.vm) qK⟩, va_recv hKc hPc (ci := 11) (q0 := 0) rfl rfl, fun U hU hW => ⟨rfl, by rw [hU]; exact hPc, va_K.moved hW.alike hKc⟩⟩ rfl rfl hl.1 rfl (lv_room (Nat.le_of_ble_eq_true rfl)) dL_law_819 ⟨Nat.le_of_ble_eq_true rfl, Nat.le_of_ble_eq_true rfl⟩) hS (fun q _ h => h.elim) (fun q h => h.elim) (fun r_1 u t H1 locs ht hvm hw hB hz1 hk1 hS => ?_)
  have hP := gz_keep hP hk1
  generalize H1 = H at hP hS ⊢
  subst hw
  refine lv_aload_n hx hb dL_law_822 rfl (lv_at hl 2 rfl) ?_
  refine lv_aload_n hx hb dL_law_823 rfl (lv_at hl 0 rfl) ?_
  refine lv_iload_n hx hb dL_law_824 rfl (lv_at hl 3 rfl) ?_
  refine lv_iconst (v := 1) hx hb dL_law_825 (by decide) ?_
  refine lv_iadd hx hb dL_law_826 ?_
  refine gz_topi (y := 1) (by decide) ?_
  refine va_sld hx hb hX hbl hbA hS (by unfold vp_in; decide) dL_law_827 ?_
  refine gz_topi (y := xs 1) (congrArg xs (by decide)) ?_
  refine lv_aload_n hx hb dL_law_828 rfl (lv_at hl 0 rfl) ?_
  refine lv_iload_n hx hb dL_law_829 rfl (lv_at hl 3 rfl) ?_
  refine lv_iconst (v := 2) hx hb dL_law_830 (by decide) ?_
  refine lv_iadd hx hb dL_law_831 ?_
  refine gz_topi (y := 2) (by decide) ?_
  refine va_sld hx hb hX hbl hbA hS (by unfold vp_in; decide) dL_law_832 ?_
  refine gz_topi (y := xs 2) (congrArg xs (by decide)) ?_
  have hPc := hP.sub (ws' := [(m0, .inr (12, fsM rm))]) [6] rfl
  have hKc := hK.sub (tys' := []) [] rfl
  refine va_calli (va_runV (As := [.int (xs 1), .int (xs 2)]) (rest := [.int (-2)]) ⟨hx, hb, hml, hown, hts⟩ (fX12_lasts l dC dI m0 rm (xs 1) (xs 2)) (cwV 2 hts (gz_lV lm_151 lm_152 lm_153 lm_9 lm_150 lwGB goodGB) rfl rfl rfl (by decide +kernel) ⟨Nat.le_of_ble_eq_true rfl, Nat.le_of_ble_eq_true rfl⟩) ⟨fun a U g mk q => by obtain ⟨q0, qP, qK⟩ := q; exact ⟨q0, qP, va_K.moved (u := U) (U := U.calling g mk a) (Vm.Alike.refl U.vm) qK⟩, va_recv hKc hPc (ci := 12) (q0 := 0) rfl rfl, fun U hU hW => ⟨rfl, by rw [hU]; exact hPc, va_K.moved hW.alike hKc⟩⟩ rfl rfl hl.1 rfl (lv_room (Nat.le_of_ble_eq_true rfl)) dL_law_833 ⟨Nat.le_of_ble_eq_true rfl, Nat.le_of_ble_eq_true rfl⟩) hS (fun q _ h => h.elim) (fun q h => h.elim) (fun r_2 u t H1 locs ht hvm hw hB hz1 hk1 hS => ?_)
  have hP := gz_keep hP hk1
  generalize H1 = H at hP hS ⊢
  subst hw
  refine lv_icmp_eq (tgt := 2056) hx hb dL_law_836 (by decide) (fun c_3 => ?_) (fun c_3 => absurd (by decide) c_3)
  exact law_tail C0 (Nat.le_of_ble_eq_true rfl) (Nat.le_of_ble_eq_true rfl) hS (lv_sub hl [0, 3] rfl)
set_option maxHeartbeats 4000000 in
set_option maxRecDepth 100000 in
theorem law_c19 {p : Program} {l : Launch} {e : Env} {s : State} {m : MethodId} {below : List Frame} {meth : Method} {c : Code} {dC : Nat → ClassId} {dI : Nat → Nat → Nat} {b : Nat} {xs : Nat → Int32} (C0 : lw_At p s m meth c b 6 xs) {x0 m0 : Nat} {rx rm : Nat → Nat} {k1 : ClassId} {kf : Nat → ClassId} {H : Heap} {locs : List Loc} {ls : Array Slot} (hK : va_K (dC, dI) vwCl (law_T k1 kf) s) (hP : va_P (dC, dI) vwCl (law_W x0 m0 rx rm k1 kf) H) (hD : va_D (fun q : Nat => s.heap.size ≤ q) (law_W x0 m0 rx rm k1 kf)) (hS : va_S (fun q : Nat => s.heap.size ≤ q) s.heap H locs) (hl : lv_has ls 4 [(0, .ref b), (1, .ref x0), (2, .ref m0), (3, .int 0)]) : W p l e room_1 s m #[Value.ref b] below meth c H locs 1000 100000 (lw_Z below #[Value.ref b] s) (F0 m 841 ls []) := by
  obtain ⟨hx, hb, hr, hml, hown0, hts, hX, hbl, hlocks, hgv⟩ := id C0
  have hown : s.vm.findClass RL = some m.cls := hown0
  have hA : ∀ q : Nat, s.heap.size ≤ q → (fun q : Nat => s.heap.size ≤ q) q := fun _ h => h
  have hbA : ¬ (fun q : Nat => s.heap.size ≤ q) b := Nat.not_le.mpr hbl
  have hK : va_K (dC, dI) vwCl [(k1, .byte), ((kf 0), .int), ((kf 1), .int), ((kf 2), .int), ((kf 3), .int), ((kf 5), .int), ((kf 6), .int), ((kf 7), .int), ((kf 8), .int), ((kf 9), .int), ((kf 10), .int), ((kf 11), .int), ((kf 4), .boolean), ((kf 12), .int), ((kf 13), .int)] s := hK
  have hP : va_P (dC, dI) vwCl [(x0, .inr (11, fsX rx)), ((rx 0), .inr (6, fsR rx)), ((rx 11), .inr (10, fsT rx)), ((rx 13), .inl (k1, 1600, .inl (fun _ => 0))), ((rx 12), .inr (0, fsD rx)), ((rx 1), .inr (0, fsA rx)), (m0, .inr (12, fsM rm)), ((rm 0), .inl ((kf 0), 6, .inl (fun _ => 0))), ((rm 1), .inl ((kf 1), 36, .inl (fun _ => 0))), ((rm 2), .inl ((kf 2), 24, .inl (fun _ => 0))), ((rm 3), .inl ((kf 3), 24, .inl (fun _ => 0))), ((rm 5), .inl ((kf 5), 24, .inl (fun _ => 0))), ((rm 6), .inl ((kf 6), 24, .inl (fun _ => 0))), ((rm 7), .inl ((kf 7), 24, .inl (fun _ => 0))), ((rm 8), .inl ((kf 8), 8, .inl (fun _ => 0))), ((rm 9), .inl ((kf 9), 8, .inl (fun _ => 0))), ((rm 10), .inl ((kf 10), 8, .inl (fun _ => 0))), ((rm 11), .inl ((kf 11), 8, .inl (fun _ => 0))), ((rm 4), .inl ((kf 4), 24, .inl (fun _ => 0))), ((rm 12), .inl ((kf 12), 300, .inl (fun _ => 0))), ((rm 13), .inl ((kf 13), 1600, .inl (fun _ => 0)))] H := hP
  have hD : va_D (fun q : Nat => s.heap.size ≤ q) [(x0, .inr (11, fsX rx)), ((rx 0), .inr (6, fsR rx)), ((rx 11), .inr (10, fsT rx)), ((rx 13), .inl (k1, 1600, .inl (fun _ => 0))), ((rx 12), .inr (0, fsD rx)), ((rx 1), .inr (0, fsA rx)), (m0, .inr (12, fsM rm)), ((rm 0), .inl ((kf 0), 6, .inl (fun _ => 0))), ((rm 1), .inl ((kf 1), 36, .inl (fun _ => 0))), ((rm 2), .inl ((kf 2), 24, .inl (fun _ => 0))), ((rm 3), .inl ((kf 3), 24, .inl (fun _ => 0))), ((rm 5), .inl ((kf 5), 24, .inl (fun _ => 0))), ((rm 6), .inl ((kf 6), 24, .inl (fun _ => 0))), ((rm 7), .inl ((kf 7), 24, .inl (fun _ => 0))), ((rm 8), .inl ((kf 8), 8, .inl (fun _ => 0))), ((rm 9), .inl ((kf 9), 8, .inl (fun _ => 0))), ((rm 10), .inl ((kf 10), 8, .inl (fun _ => 0))), ((rm 11), .inl ((kf 11), 8, .inl (fun _ => 0))), ((rm 4), .inl ((kf 4), 24, .inl (fun _ => 0))), ((rm 12), .inl ((kf 12), 300, .inl (fun _ => 0))), ((rm 13), .inl ((kf 13), 1600, .inl (fun _ => 0)))] := hD
  refine lv_aload_n hx hb dL_law_841 rfl (lv_at hl 1 rfl) ?_
  refine lv_aload_n hx hb dL_law_842 rfl (lv_at hl 0 rfl) ?_
  refine lv_iload_n hx hb dL_law_843 rfl (lv_at hl 3 rfl) ?_
  refine lv_iconst (v := 1) hx hb dL_law_844 (by decide) ?_
  refine lv_iadd hx hb dL_law_845 ?_
  refine gz_topi (y := 1) (by decide) ?_
  refine va_sld hx hb hX hbl hbA hS (by unfold vp_in; decide) dL_law_846 ?_
  refine gz_topi (y := xs 1) (congrArg xs (by decide)) ?_
  refine lv_aload_n hx hb dL_law_847 rfl (lv_at hl 0 rfl) ?_
  refine lv_iload_n hx hb dL_law_848 rfl (lv_at hl 3 rfl) ?_
  refine lv_iconst (v := 2) hx hb dL_law_849 (by decide) ?_
  refine lv_iadd hx hb dL_law_850 ?_
  refine gz_topi (y := 2) (by decide) ?_
  refine va_sld hx hb hX hbl hbA hS (by unfold vp_in; decide) dL_law_851 ?_
  refine gz_topi (y := xs 2) (congrArg xs (by decide)) ?_
  refine lv_aload_n hx hb dL_law_852 rfl (lv_at hl 0 rfl) ?_
  refine lv_iload_n hx hb dL_law_853 rfl (lv_at hl 3 rfl) ?_
  refine lv_iconst (v := 3) hx hb dL_law_854 (by decide) ?_
  refine lv_iadd hx hb dL_law_855 ?_
  refine gz_topi (y := 3) (by decide) ?_
  refine va_sld hx hb hX hbl hbA hS (by unfold vp_in; decide) dL_law_856 ?_
  refine gz_topi (y := xs 3) (congrArg xs (by decide)) ?_
  have hPc := hP.sub (ws' := [(x0, .inr (11, fsX rx)), ((rx 1), .inr (0, fsA rx))]) [0, 5] rfl
  have hKc := hK.sub (tys' := []) [] rfl
  refine va_calli (va_runV (As := [.int (xs 1), .int (xs 2), .int (xs 3)]) (rest := []) ⟨hx, hb, hml, hown, hts⟩ (fX11_could l dC dI x0 rx (xs 1) (xs 2) (xs 3)) (cwV 3 hts (gz_lV lm_155 lm_156 lm_157 lm_4 lm_154 lwGA goodGA) rfl rfl rfl (by decide +kernel) ⟨Nat.le_of_ble_eq_true rfl, Nat.le_of_ble_eq_true rfl⟩) ⟨fun a U g mk q => by obtain ⟨q0, qP, qK⟩ := q; exact ⟨q0, qP, va_K.moved (u := U) (U := U.calling g mk a) (Vm.Alike.refl U.vm) qK⟩, va_recv hKc hPc (ci := 11) (q0 := 0) rfl rfl, fun U hU hW => ⟨rfl, by rw [hU]; exact hPc, va_K.moved hW.alike hKc⟩⟩ rfl rfl hl.1 rfl (lv_room (Nat.le_of_ble_eq_true rfl)) dL_law_857 ⟨Nat.le_of_ble_eq_true rfl, Nat.le_of_ble_eq_true rfl⟩) hS (fun q _ h => h.elim) (fun q h => h.elim) (fun r_1 u t H1 locs ht hvm hw hB hz1 hk1 hS => ?_)
  have hP := gz_keep hP hk1
  generalize H1 = H at hP hS ⊢
  subst hw
  refine lv_aload_n hx hb dL_law_860 rfl (lv_at hl 2 rfl) ?_
  refine lv_aload_n hx hb dL_law_861 rfl (lv_at hl 0 rfl) ?_
  refine lv_iload_n hx hb dL_law_862 rfl (lv_at hl 3 rfl) ?_
  refine lv_iconst (v := 1) hx hb dL_law_863 (by decide) ?_
  refine lv_iadd hx hb dL_law_864 ?_
  refine gz_topi (y := 1) (by decide) ?_
  refine va_sld hx hb hX hbl hbA hS (by unfold vp_in; decide) dL_law_865 ?_
  refine gz_topi (y := xs 1) (congrArg xs (by decide)) ?_
  refine lv_aload_n hx hb dL_law_866 rfl (lv_at hl 0 rfl) ?_
  refine lv_iload_n hx hb dL_law_867 rfl (lv_at hl 3 rfl) ?_
  refine lv_iconst (v := 2) hx hb dL_law_868 (by decide) ?_
  refine lv_iadd hx hb dL_law_869 ?_
  refine gz_topi (y := 2) (by decide) ?_
  refine va_sld hx hb hX hbl hbA hS (by unfold vp_in; decide) dL_law_870 ?_
  refine gz_topi (y := xs 2) (congrArg xs (by decide)) ?_
  refine lv_aload_n hx hb dL_law_871 rfl (lv_at hl 0 rfl) ?_
  refine lv_iload_n hx hb dL_law_872 rfl (lv_at hl 3 rfl) ?_
  refine lv_iconst (v := 3) hx hb dL_law_873 (by decide) ?_
  refine lv_iadd hx hb dL_law_874 ?_
  refine gz_topi (y := 3) (by decide) ?_
  refine va_sld hx hb hX hbl hbA hS (by unfold vp_in; decide) dL_law_875 ?_
  refine gz_topi (y := xs 3) (congrArg xs (by decide)) ?_
  have hPc := hP.sub (ws' := [(m0, .inr (12, fsM rm))]) [6] rfl
  have hKc := hK.sub (tys' := []) [] rfl
  refine va_calli (va_runV (As := [.int (xs 1), .int (xs 2), .int (xs 3)]) (rest := [.int (-2)]) ⟨hx, hb, hml, hown, hts⟩ (fX12_could l dC dI m0 rm (xs 1) (xs 2) (xs 3)) (cwV 3 hts (gz_lV lm_159 lm_160 lm_161 lm_9 lm_158 lwGB goodGB) rfl rfl rfl (by decide +kernel) ⟨Nat.le_of_ble_eq_true rfl, Nat.le_of_ble_eq_true rfl⟩) ⟨fun a U g mk q => by obtain ⟨q0, qP, qK⟩ := q; exact ⟨q0, qP, va_K.moved (u := U) (U := U.calling g mk a) (Vm.Alike.refl U.vm) qK⟩, va_recv hKc hPc (ci := 12) (q0 := 0) rfl rfl, fun U hU hW => ⟨rfl, by rw [hU]; exact hPc, va_K.moved hW.alike hKc⟩⟩ rfl rfl hl.1 rfl (lv_room (Nat.le_of_ble_eq_true rfl)) dL_law_876 ⟨Nat.le_of_ble_eq_true rfl, Nat.le_of_ble_eq_true rfl⟩) hS (fun q _ h => h.elim) (fun q h => h.elim) (fun r_2 u t H1 locs ht hvm hw hB hz1 hk1 hS => ?_)
  have hP := gz_keep hP hk1
  generalize H1 = H at hP hS ⊢
  subst hw
  refine lv_icmp_eq (tgt := 2056) hx hb dL_law_879 (by decide) (fun c_3 => ?_) (fun c_3 => absurd (by decide) c_3)
  exact law_tail C0 (Nat.le_of_ble_eq_true rfl) (Nat.le_of_ble_eq_true rfl) hS (lv_sub hl [0, 3] rfl)
set_option maxHeartbeats 4000000 in
set_option maxRecDepth 100000 in
theorem law_c20 {p : Program} {l : Launch} {e : Env} {s : State} {m : MethodId} {below : List Frame} {meth : Method} {c : Code} {dC : Nat → ClassId} {dI : Nat → Nat → Nat} {b : Nat} {xs : Nat → Int32} (C0 : lw_At p s m meth c b 6 xs) {x0 m0 : Nat} {rx rm : Nat → Nat} {k1 : ClassId} {kf : Nat → ClassId} {H : Heap} {locs : List Loc} {ls : Array Slot} (hK : va_K (dC, dI) vwCl (law_T k1 kf) s) (hP : va_P (dC, dI) vwCl (law_W x0 m0 rx rm k1 kf) H) (hD : va_D (fun q : Nat => s.heap.size ≤ q) (law_W x0 m0 rx rm k1 kf)) (hS : va_S (fun q : Nat => s.heap.size ≤ q) s.heap H locs) (hl : lv_has ls 4 [(0, .ref b), (1, .ref x0), (2, .ref m0), (3, .int 0)]) : W p l e room_1 s m #[Value.ref b] below meth c H locs 1000 100000 (lw_Z below #[Value.ref b] s) (F0 m 884 ls []) := by
  obtain ⟨hx, hb, hr, hml, hown0, hts, hX, hbl, hlocks, hgv⟩ := id C0
  have hown : s.vm.findClass RL = some m.cls := hown0
  have hA : ∀ q : Nat, s.heap.size ≤ q → (fun q : Nat => s.heap.size ≤ q) q := fun _ h => h
  have hbA : ¬ (fun q : Nat => s.heap.size ≤ q) b := Nat.not_le.mpr hbl
  have hK : va_K (dC, dI) vwCl [(k1, .byte), ((kf 0), .int), ((kf 1), .int), ((kf 2), .int), ((kf 3), .int), ((kf 5), .int), ((kf 6), .int), ((kf 7), .int), ((kf 8), .int), ((kf 9), .int), ((kf 10), .int), ((kf 11), .int), ((kf 4), .boolean), ((kf 12), .int), ((kf 13), .int)] s := hK
  have hP : va_P (dC, dI) vwCl [(x0, .inr (11, fsX rx)), ((rx 0), .inr (6, fsR rx)), ((rx 11), .inr (10, fsT rx)), ((rx 13), .inl (k1, 1600, .inl (fun _ => 0))), ((rx 12), .inr (0, fsD rx)), ((rx 1), .inr (0, fsA rx)), (m0, .inr (12, fsM rm)), ((rm 0), .inl ((kf 0), 6, .inl (fun _ => 0))), ((rm 1), .inl ((kf 1), 36, .inl (fun _ => 0))), ((rm 2), .inl ((kf 2), 24, .inl (fun _ => 0))), ((rm 3), .inl ((kf 3), 24, .inl (fun _ => 0))), ((rm 5), .inl ((kf 5), 24, .inl (fun _ => 0))), ((rm 6), .inl ((kf 6), 24, .inl (fun _ => 0))), ((rm 7), .inl ((kf 7), 24, .inl (fun _ => 0))), ((rm 8), .inl ((kf 8), 8, .inl (fun _ => 0))), ((rm 9), .inl ((kf 9), 8, .inl (fun _ => 0))), ((rm 10), .inl ((kf 10), 8, .inl (fun _ => 0))), ((rm 11), .inl ((kf 11), 8, .inl (fun _ => 0))), ((rm 4), .inl ((kf 4), 24, .inl (fun _ => 0))), ((rm 12), .inl ((kf 12), 300, .inl (fun _ => 0))), ((rm 13), .inl ((kf 13), 1600, .inl (fun _ => 0)))] H := hP
  have hD : va_D (fun q : Nat => s.heap.size ≤ q) [(x0, .inr (11, fsX rx)), ((rx 0), .inr (6, fsR rx)), ((rx 11), .inr (10, fsT rx)), ((rx 13), .inl (k1, 1600, .inl (fun _ => 0))), ((rx 12), .inr (0, fsD rx)), ((rx 1), .inr (0, fsA rx)), (m0, .inr (12, fsM rm)), ((rm 0), .inl ((kf 0), 6, .inl (fun _ => 0))), ((rm 1), .inl ((kf 1), 36, .inl (fun _ => 0))), ((rm 2), .inl ((kf 2), 24, .inl (fun _ => 0))), ((rm 3), .inl ((kf 3), 24, .inl (fun _ => 0))), ((rm 5), .inl ((kf 5), 24, .inl (fun _ => 0))), ((rm 6), .inl ((kf 6), 24, .inl (fun _ => 0))), ((rm 7), .inl ((kf 7), 24, .inl (fun _ => 0))), ((rm 8), .inl ((kf 8), 8, .inl (fun _ => 0))), ((rm 9), .inl ((kf 9), 8, .inl (fun _ => 0))), ((rm 10), .inl ((kf 10), 8, .inl (fun _ => 0))), ((rm 11), .inl ((kf 11), 8, .inl (fun _ => 0))), ((rm 4), .inl ((kf 4), 24, .inl (fun _ => 0))), ((rm 12), .inl ((kf 12), 300, .inl (fun _ => 0))), ((rm 13), .inl ((kf 13), 1600, .inl (fun _ => 0)))] := hD
  refine lv_aload_n hx hb dL_law_884 rfl (lv_at hl 1 rfl) ?_
  refine lv_aload_n hx hb dL_law_885 rfl (lv_at hl 0 rfl) ?_
  refine lv_iload_n hx hb dL_law_886 rfl (lv_at hl 3 rfl) ?_
  refine lv_iconst (v := 1) hx hb dL_law_887 (by decide) ?_
  refine lv_iadd hx hb dL_law_888 ?_
  refine gz_topi (y := 1) (by decide) ?_
  refine va_sld hx hb hX hbl hbA hS (by unfold vp_in; decide) dL_law_889 ?_
  refine gz_topi (y := xs 1) (congrArg xs (by decide)) ?_
  refine lv_aload_n hx hb dL_law_890 rfl (lv_at hl 0 rfl) ?_
  refine lv_iload_n hx hb dL_law_891 rfl (lv_at hl 3 rfl) ?_
  refine lv_iconst (v := 2) hx hb dL_law_892 (by decide) ?_
  refine lv_iadd hx hb dL_law_893 ?_
  refine gz_topi (y := 2) (by decide) ?_
  refine va_sld hx hb hX hbl hbA hS (by unfold vp_in; decide) dL_law_894 ?_
  refine gz_topi (y := xs 2) (congrArg xs (by decide)) ?_
  have hPc := hP.sub (ws' := [(x0, .inr (11, fsX rx)), ((rx 1), .inr (0, fsA rx))]) [0, 5] rfl
  have hKc := hK.sub (tys' := []) [] rfl
  refine va_calli (va_runV (As := [.int (xs 1), .int (xs 2)]) (rest := []) ⟨hx, hb, hml, hown, hts⟩ (fX11_lean l dC dI x0 rx (xs 1) (xs 2)) (cwV 2 hts (gz_lV lm_163 lm_164 lm_165 lm_4 lm_162 lwGA goodGA) rfl rfl rfl (by decide +kernel) ⟨Nat.le_of_ble_eq_true rfl, Nat.le_of_ble_eq_true rfl⟩) ⟨fun a U g mk q => by obtain ⟨q0, qP, qK⟩ := q; exact ⟨q0, qP, va_K.moved (u := U) (U := U.calling g mk a) (Vm.Alike.refl U.vm) qK⟩, va_recv hKc hPc (ci := 11) (q0 := 0) rfl rfl, fun U hU hW => ⟨rfl, by rw [hU]; exact hPc, va_K.moved hW.alike hKc⟩⟩ rfl rfl hl.1 rfl (lv_room (Nat.le_of_ble_eq_true rfl)) dL_law_895 ⟨Nat.le_of_ble_eq_true rfl, Nat.le_of_ble_eq_true rfl⟩) hS (fun q _ h => h.elim) (fun q h => h.elim) (fun r_1 u t H1 locs ht hvm hw hB hz1 hk1 hS => ?_)
  have hP := gz_keep hP hk1
  generalize H1 = H at hP hS ⊢
  subst hw
  refine lv_aload_n hx hb dL_law_898 rfl (lv_at hl 2 rfl) ?_
  refine lv_aload_n hx hb dL_law_899 rfl (lv_at hl 0 rfl) ?_
  refine lv_iload_n hx hb dL_law_900 rfl (lv_at hl 3 rfl) ?_
  refine lv_iconst (v := 1) hx hb dL_law_901 (by decide) ?_
  refine lv_iadd hx hb dL_law_902 ?_
  refine gz_topi (y := 1) (by decide) ?_
  refine va_sld hx hb hX hbl hbA hS (by unfold vp_in; decide) dL_law_903 ?_
  refine gz_topi (y := xs 1) (congrArg xs (by decide)) ?_
  refine lv_aload_n hx hb dL_law_904 rfl (lv_at hl 0 rfl) ?_
  refine lv_iload_n hx hb dL_law_905 rfl (lv_at hl 3 rfl) ?_
  refine lv_iconst (v := 2) hx hb dL_law_906 (by decide) ?_
  refine lv_iadd hx hb dL_law_907 ?_
  refine gz_topi (y := 2) (by decide) ?_
  refine va_sld hx hb hX hbl hbA hS (by unfold vp_in; decide) dL_law_908 ?_
  refine gz_topi (y := xs 2) (congrArg xs (by decide)) ?_
  have hPc := hP.sub (ws' := [(m0, .inr (12, fsM rm))]) [6] rfl
  have hKc := hK.sub (tys' := []) [] rfl
  refine va_calli (va_runV (As := [.int (xs 1), .int (xs 2)]) (rest := [.int (-2)]) ⟨hx, hb, hml, hown, hts⟩ (fX12_lean l dC dI m0 rm (xs 1) (xs 2)) (cwV 2 hts (gz_lV lm_167 lm_168 lm_169 lm_9 lm_166 lwGB goodGB) rfl rfl rfl (by decide +kernel) ⟨Nat.le_of_ble_eq_true rfl, Nat.le_of_ble_eq_true rfl⟩) ⟨fun a U g mk q => by obtain ⟨q0, qP, qK⟩ := q; exact ⟨q0, qP, va_K.moved (u := U) (U := U.calling g mk a) (Vm.Alike.refl U.vm) qK⟩, va_recv hKc hPc (ci := 12) (q0 := 0) rfl rfl, fun U hU hW => ⟨rfl, by rw [hU]; exact hPc, va_K.moved hW.alike hKc⟩⟩ rfl rfl hl.1 rfl (lv_room (Nat.le_of_ble_eq_true rfl)) dL_law_909 ⟨Nat.le_of_ble_eq_true rfl, Nat.le_of_ble_eq_true rfl⟩) hS (fun q _ h => h.elim) (fun q h => h.elim) (fun r_2 u t H1 locs ht hvm hw hB hz1 hk1 hS => ?_)
  have hP := gz_keep hP hk1
  generalize H1 = H at hP hS ⊢
  subst hw
  refine lv_icmp_eq (tgt := 2056) hx hb dL_law_912 (by decide) (fun c_3 => ?_) (fun c_3 => absurd (by decide) c_3)
  exact law_tail C0 (Nat.le_of_ble_eq_true rfl) (Nat.le_of_ble_eq_true rfl) hS (lv_sub hl [0, 3] rfl)
set_option maxHeartbeats 4000000 in
set_option maxRecDepth 100000 in
theorem law_c21 {p : Program} {l : Launch} {e : Env} {s : State} {m : MethodId} {below : List Frame} {meth : Method} {c : Code} {dC : Nat → ClassId} {dI : Nat → Nat → Nat} {b : Nat} {xs : Nat → Int32} (C0 : lw_At p s m meth c b 6 xs) {x0 m0 : Nat} {rx rm : Nat → Nat} {k1 : ClassId} {kf : Nat → ClassId} {H : Heap} {locs : List Loc} {ls : Array Slot} (hK : va_K (dC, dI) vwCl (law_T k1 kf) s) (hP : va_P (dC, dI) vwCl (law_W x0 m0 rx rm k1 kf) H) (hD : va_D (fun q : Nat => s.heap.size ≤ q) (law_W x0 m0 rx rm k1 kf)) (hS : va_S (fun q : Nat => s.heap.size ≤ q) s.heap H locs) (hl : lv_has ls 4 [(0, .ref b), (1, .ref x0), (2, .ref m0), (3, .int 0)]) : W p l e room_1 s m #[Value.ref b] below meth c H locs 1000 100000 (lw_Z below #[Value.ref b] s) (F0 m 917 ls []) := by
  obtain ⟨hx, hb, hr, hml, hown0, hts, hX, hbl, hlocks, hgv⟩ := id C0
  have hown : s.vm.findClass RL = some m.cls := hown0
  have hA : ∀ q : Nat, s.heap.size ≤ q → (fun q : Nat => s.heap.size ≤ q) q := fun _ h => h
  have hbA : ¬ (fun q : Nat => s.heap.size ≤ q) b := Nat.not_le.mpr hbl
  have hK : va_K (dC, dI) vwCl [(k1, .byte), ((kf 0), .int), ((kf 1), .int), ((kf 2), .int), ((kf 3), .int), ((kf 5), .int), ((kf 6), .int), ((kf 7), .int), ((kf 8), .int), ((kf 9), .int), ((kf 10), .int), ((kf 11), .int), ((kf 4), .boolean), ((kf 12), .int), ((kf 13), .int)] s := hK
  have hP : va_P (dC, dI) vwCl [(x0, .inr (11, fsX rx)), ((rx 0), .inr (6, fsR rx)), ((rx 11), .inr (10, fsT rx)), ((rx 13), .inl (k1, 1600, .inl (fun _ => 0))), ((rx 12), .inr (0, fsD rx)), ((rx 1), .inr (0, fsA rx)), (m0, .inr (12, fsM rm)), ((rm 0), .inl ((kf 0), 6, .inl (fun _ => 0))), ((rm 1), .inl ((kf 1), 36, .inl (fun _ => 0))), ((rm 2), .inl ((kf 2), 24, .inl (fun _ => 0))), ((rm 3), .inl ((kf 3), 24, .inl (fun _ => 0))), ((rm 5), .inl ((kf 5), 24, .inl (fun _ => 0))), ((rm 6), .inl ((kf 6), 24, .inl (fun _ => 0))), ((rm 7), .inl ((kf 7), 24, .inl (fun _ => 0))), ((rm 8), .inl ((kf 8), 8, .inl (fun _ => 0))), ((rm 9), .inl ((kf 9), 8, .inl (fun _ => 0))), ((rm 10), .inl ((kf 10), 8, .inl (fun _ => 0))), ((rm 11), .inl ((kf 11), 8, .inl (fun _ => 0))), ((rm 4), .inl ((kf 4), 24, .inl (fun _ => 0))), ((rm 12), .inl ((kf 12), 300, .inl (fun _ => 0))), ((rm 13), .inl ((kf 13), 1600, .inl (fun _ => 0)))] H := hP
  have hD : va_D (fun q : Nat => s.heap.size ≤ q) [(x0, .inr (11, fsX rx)), ((rx 0), .inr (6, fsR rx)), ((rx 11), .inr (10, fsT rx)), ((rx 13), .inl (k1, 1600, .inl (fun _ => 0))), ((rx 12), .inr (0, fsD rx)), ((rx 1), .inr (0, fsA rx)), (m0, .inr (12, fsM rm)), ((rm 0), .inl ((kf 0), 6, .inl (fun _ => 0))), ((rm 1), .inl ((kf 1), 36, .inl (fun _ => 0))), ((rm 2), .inl ((kf 2), 24, .inl (fun _ => 0))), ((rm 3), .inl ((kf 3), 24, .inl (fun _ => 0))), ((rm 5), .inl ((kf 5), 24, .inl (fun _ => 0))), ((rm 6), .inl ((kf 6), 24, .inl (fun _ => 0))), ((rm 7), .inl ((kf 7), 24, .inl (fun _ => 0))), ((rm 8), .inl ((kf 8), 8, .inl (fun _ => 0))), ((rm 9), .inl ((kf 9), 8, .inl (fun _ => 0))), ((rm 10), .inl ((kf 10), 8, .inl (fun _ => 0))), ((rm 11), .inl ((kf 11), 8, .inl (fun _ => 0))), ((rm 4), .inl ((kf 4), 24, .inl (fun _ => 0))), ((rm 12), .inl ((kf 12), 300, .inl (fun _ => 0))), ((rm 13), .inl ((kf 13), 1600, .inl (fun _ => 0)))] := hD
  refine lv_aload_n hx hb dL_law_917 rfl (lv_at hl 1 rfl) ?_
  refine lv_aload_n hx hb dL_law_918 rfl (lv_at hl 0 rfl) ?_
  refine lv_iload_n hx hb dL_law_919 rfl (lv_at hl 3 rfl) ?_
  refine lv_iconst (v := 1) hx hb dL_law_920 (by decide) ?_
  refine lv_iadd hx hb dL_law_921 ?_
  refine gz_topi (y := 1) (by decide) ?_
  refine va_sld hx hb hX hbl hbA hS (by unfold vp_in; decide) dL_law_922 ?_
  refine gz_topi (y := xs 1) (congrArg xs (by decide)) ?_
  refine lv_aload_n hx hb dL_law_923 rfl (lv_at hl 0 rfl) ?_
  refine lv_iload_n hx hb dL_law_924 rfl (lv_at hl 3 rfl) ?_
  refine lv_iconst (v := 2) hx hb dL_law_925 (by decide) ?_
  refine lv_iadd hx hb dL_law_926 ?_
  refine gz_topi (y := 2) (by decide) ?_
  refine va_sld hx hb hX hbl hbA hS (by unfold vp_in; decide) dL_law_927 ?_
  refine gz_topi (y := xs 2) (congrArg xs (by decide)) ?_
  refine lv_aload_n hx hb dL_law_928 rfl (lv_at hl 0 rfl) ?_
  refine lv_iload_n hx hb dL_law_929 rfl (lv_at hl 3 rfl) ?_
  refine lv_iconst (v := 3) hx hb dL_law_930 (by decide) ?_
  refine lv_iadd hx hb dL_law_931 ?_
  refine gz_topi (y := 3) (by decide) ?_
  refine va_sld hx hb hX hbl hbA hS (by unfold vp_in; decide) dL_law_932 ?_
  refine gz_topi (y := xs 3) (congrArg xs (by decide)) ?_
  have hPc := hP.sub (ws' := [(x0, .inr (11, fsX rx)), ((rx 1), .inr (0, fsA rx))]) [0, 5] rfl
  have hKc := hK.sub (tys' := []) [] rfl
  refine va_calli (va_runV (As := [.int (xs 1), .int (xs 2), .int (xs 3)]) (rest := []) ⟨hx, hb, hml, hown, hts⟩ (fX11_ranked l dC dI x0 rx (xs 1) (xs 2) (xs 3)) (cwV 3 hts (gz_lV lm_171 lm_172 lm_173 lm_4 lm_170 lwGA goodGA) rfl rfl rfl (by decide +kernel) ⟨Nat.le_of_ble_eq_true rfl, Nat.le_of_ble_eq_true rfl⟩) ⟨fun a U g mk q => by obtain ⟨q0, qP, qK⟩ := q; exact ⟨q0, qP, va_K.moved (u := U) (U := U.calling g mk a) (Vm.Alike.refl U.vm) qK⟩, va_recv hKc hPc (ci := 11) (q0 := 0) rfl rfl, fun U hU hW => ⟨rfl, by rw [hU]; exact hPc, va_K.moved hW.alike hKc⟩⟩ rfl rfl hl.1 rfl (lv_room (Nat.le_of_ble_eq_true rfl)) dL_law_933 ⟨Nat.le_of_ble_eq_true rfl, Nat.le_of_ble_eq_true rfl⟩) hS (fun q _ h => h.elim) (fun q h => h.elim) (fun r_1 u t H1 locs ht hvm hw hB hz1 hk1 hS => ?_)
  have hP := gz_keep hP hk1
  generalize H1 = H at hP hS ⊢
  subst hw
  refine lv_aload_n hx hb dL_law_936 rfl (lv_at hl 2 rfl) ?_
  refine lv_aload_n hx hb dL_law_937 rfl (lv_at hl 0 rfl) ?_
  refine lv_iload_n hx hb dL_law_938 rfl (lv_at hl 3 rfl) ?_
  refine lv_iconst (v := 1) hx hb dL_law_939 (by decide) ?_
  refine lv_iadd hx hb dL_law_940 ?_
  refine gz_topi (y := 1) (by decide) ?_
  refine va_sld hx hb hX hbl hbA hS (by unfold vp_in; decide) dL_law_941 ?_
  refine gz_topi (y := xs 1) (congrArg xs (by decide)) ?_
  refine lv_aload_n hx hb dL_law_942 rfl (lv_at hl 0 rfl) ?_
  refine lv_iload_n hx hb dL_law_943 rfl (lv_at hl 3 rfl) ?_
  refine lv_iconst (v := 2) hx hb dL_law_944 (by decide) ?_
  refine lv_iadd hx hb dL_law_945 ?_
  refine gz_topi (y := 2) (by decide) ?_
  refine va_sld hx hb hX hbl hbA hS (by unfold vp_in; decide) dL_law_946 ?_
  refine gz_topi (y := xs 2) (congrArg xs (by decide)) ?_
  refine lv_aload_n hx hb dL_law_947 rfl (lv_at hl 0 rfl) ?_
  refine lv_iload_n hx hb dL_law_948 rfl (lv_at hl 3 rfl) ?_
  refine lv_iconst (v := 3) hx hb dL_law_949 (by decide) ?_
  refine lv_iadd hx hb dL_law_950 ?_
  refine gz_topi (y := 3) (by decide) ?_
  refine va_sld hx hb hX hbl hbA hS (by unfold vp_in; decide) dL_law_951 ?_
  refine gz_topi (y := xs 3) (congrArg xs (by decide)) ?_
  have hPc := hP.sub (ws' := [(m0, .inr (12, fsM rm))]) [6] rfl
  have hKc := hK.sub (tys' := []) [] rfl
  refine va_calli (va_runV (As := [.int (xs 1), .int (xs 2), .int (xs 3)]) (rest := [.int (-2)]) ⟨hx, hb, hml, hown, hts⟩ (fX12_ranked l dC dI m0 rm (xs 1) (xs 2) (xs 3)) (cwV 3 hts (gz_lV lm_175 lm_176 lm_177 lm_9 lm_174 lwGB goodGB) rfl rfl rfl (by decide +kernel) ⟨Nat.le_of_ble_eq_true rfl, Nat.le_of_ble_eq_true rfl⟩) ⟨fun a U g mk q => by obtain ⟨q0, qP, qK⟩ := q; exact ⟨q0, qP, va_K.moved (u := U) (U := U.calling g mk a) (Vm.Alike.refl U.vm) qK⟩, va_recv hKc hPc (ci := 12) (q0 := 0) rfl rfl, fun U hU hW => ⟨rfl, by rw [hU]; exact hPc, va_K.moved hW.alike hKc⟩⟩ rfl rfl hl.1 rfl (lv_room (Nat.le_of_ble_eq_true rfl)) dL_law_952 ⟨Nat.le_of_ble_eq_true rfl, Nat.le_of_ble_eq_true rfl⟩) hS (fun q _ h => h.elim) (fun q h => h.elim) (fun r_2 u t H1 locs ht hvm hw hB hz1 hk1 hS => ?_)
  have hP := gz_keep hP hk1
  generalize H1 = H at hP hS ⊢
  subst hw
  refine lv_icmp_eq (tgt := 2056) hx hb dL_law_955 (by decide) (fun c_3 => ?_) (fun c_3 => absurd (by decide) c_3)
  exact law_tail C0 (Nat.le_of_ble_eq_true rfl) (Nat.le_of_ble_eq_true rfl) hS (lv_sub hl [0, 3] rfl)
set_option maxHeartbeats 4000000 in
set_option maxRecDepth 100000 in
theorem law_c22 {p : Program} {l : Launch} {e : Env} {s : State} {m : MethodId} {below : List Frame} {meth : Method} {c : Code} {dC : Nat → ClassId} {dI : Nat → Nat → Nat} {b : Nat} {xs : Nat → Int32} (C0 : lw_At p s m meth c b 6 xs) {x0 m0 : Nat} {rx rm : Nat → Nat} {k1 : ClassId} {kf : Nat → ClassId} {H : Heap} {locs : List Loc} {ls : Array Slot} (hK : va_K (dC, dI) vwCl (law_T k1 kf) s) (hP : va_P (dC, dI) vwCl (law_W x0 m0 rx rm k1 kf) H) (hD : va_D (fun q : Nat => s.heap.size ≤ q) (law_W x0 m0 rx rm k1 kf)) (hS : va_S (fun q : Nat => s.heap.size ≤ q) s.heap H locs) (hl : lv_has ls 4 [(0, .ref b), (1, .ref x0), (2, .ref m0), (3, .int 0)]) : W p l e room_1 s m #[Value.ref b] below meth c H locs 1000 100000 (lw_Z below #[Value.ref b] s) (F0 m 960 ls []) := by
  obtain ⟨hx, hb, hr, hml, hown0, hts, hX, hbl, hlocks, hgv⟩ := id C0
  have hown : s.vm.findClass RL = some m.cls := hown0
  have hA : ∀ q : Nat, s.heap.size ≤ q → (fun q : Nat => s.heap.size ≤ q) q := fun _ h => h
  have hbA : ¬ (fun q : Nat => s.heap.size ≤ q) b := Nat.not_le.mpr hbl
  have hK : va_K (dC, dI) vwCl [(k1, .byte), ((kf 0), .int), ((kf 1), .int), ((kf 2), .int), ((kf 3), .int), ((kf 5), .int), ((kf 6), .int), ((kf 7), .int), ((kf 8), .int), ((kf 9), .int), ((kf 10), .int), ((kf 11), .int), ((kf 4), .boolean), ((kf 12), .int), ((kf 13), .int)] s := hK
  have hP : va_P (dC, dI) vwCl [(x0, .inr (11, fsX rx)), ((rx 0), .inr (6, fsR rx)), ((rx 11), .inr (10, fsT rx)), ((rx 13), .inl (k1, 1600, .inl (fun _ => 0))), ((rx 12), .inr (0, fsD rx)), ((rx 1), .inr (0, fsA rx)), (m0, .inr (12, fsM rm)), ((rm 0), .inl ((kf 0), 6, .inl (fun _ => 0))), ((rm 1), .inl ((kf 1), 36, .inl (fun _ => 0))), ((rm 2), .inl ((kf 2), 24, .inl (fun _ => 0))), ((rm 3), .inl ((kf 3), 24, .inl (fun _ => 0))), ((rm 5), .inl ((kf 5), 24, .inl (fun _ => 0))), ((rm 6), .inl ((kf 6), 24, .inl (fun _ => 0))), ((rm 7), .inl ((kf 7), 24, .inl (fun _ => 0))), ((rm 8), .inl ((kf 8), 8, .inl (fun _ => 0))), ((rm 9), .inl ((kf 9), 8, .inl (fun _ => 0))), ((rm 10), .inl ((kf 10), 8, .inl (fun _ => 0))), ((rm 11), .inl ((kf 11), 8, .inl (fun _ => 0))), ((rm 4), .inl ((kf 4), 24, .inl (fun _ => 0))), ((rm 12), .inl ((kf 12), 300, .inl (fun _ => 0))), ((rm 13), .inl ((kf 13), 1600, .inl (fun _ => 0)))] H := hP
  have hD : va_D (fun q : Nat => s.heap.size ≤ q) [(x0, .inr (11, fsX rx)), ((rx 0), .inr (6, fsR rx)), ((rx 11), .inr (10, fsT rx)), ((rx 13), .inl (k1, 1600, .inl (fun _ => 0))), ((rx 12), .inr (0, fsD rx)), ((rx 1), .inr (0, fsA rx)), (m0, .inr (12, fsM rm)), ((rm 0), .inl ((kf 0), 6, .inl (fun _ => 0))), ((rm 1), .inl ((kf 1), 36, .inl (fun _ => 0))), ((rm 2), .inl ((kf 2), 24, .inl (fun _ => 0))), ((rm 3), .inl ((kf 3), 24, .inl (fun _ => 0))), ((rm 5), .inl ((kf 5), 24, .inl (fun _ => 0))), ((rm 6), .inl ((kf 6), 24, .inl (fun _ => 0))), ((rm 7), .inl ((kf 7), 24, .inl (fun _ => 0))), ((rm 8), .inl ((kf 8), 8, .inl (fun _ => 0))), ((rm 9), .inl ((kf 9), 8, .inl (fun _ => 0))), ((rm 10), .inl ((kf 10), 8, .inl (fun _ => 0))), ((rm 11), .inl ((kf 11), 8, .inl (fun _ => 0))), ((rm 4), .inl ((kf 4), 24, .inl (fun _ => 0))), ((rm 12), .inl ((kf 12), 300, .inl (fun _ => 0))), ((rm 13), .inl ((kf 13), 1600, .inl (fun _ => 0)))] := hD
  refine lv_aload_n hx hb dL_law_960 rfl (lv_at hl 1 rfl) ?_
  refine lv_aload_n hx hb dL_law_961 rfl (lv_at hl 0 rfl) ?_
  refine lv_iload_n hx hb dL_law_962 rfl (lv_at hl 3 rfl) ?_
  refine lv_iconst (v := 1) hx hb dL_law_963 (by decide) ?_
  refine lv_iadd hx hb dL_law_964 ?_
  refine gz_topi (y := 1) (by decide) ?_
  refine va_sld hx hb hX hbl hbA hS (by unfold vp_in; decide) dL_law_965 ?_
  refine gz_topi (y := xs 1) (congrArg xs (by decide)) ?_
  refine lv_aload_n hx hb dL_law_966 rfl (lv_at hl 0 rfl) ?_
  refine lv_iload_n hx hb dL_law_967 rfl (lv_at hl 3 rfl) ?_
  refine lv_iconst (v := 2) hx hb dL_law_968 (by decide) ?_
  refine lv_iadd hx hb dL_law_969 ?_
  refine gz_topi (y := 2) (by decide) ?_
  refine va_sld hx hb hX hbl hbA hS (by unfold vp_in; decide) dL_law_970 ?_
  refine gz_topi (y := xs 2) (congrArg xs (by decide)) ?_
  have hPc := hP.sub (ws' := [(x0, .inr (11, fsX rx)), ((rx 1), .inr (0, fsA rx))]) [0, 5] rfl
  have hKc := hK.sub (tys' := []) [] rfl
  refine va_calli (va_runV (As := [.int (xs 1), .int (xs 2)]) (rest := []) ⟨hx, hb, hml, hown, hts⟩ (fX11_rank l dC dI x0 rx (xs 1) (xs 2)) (cwV 2 hts (gz_lV lm_179 lm_180 lm_181 lm_4 lm_178 lwGA goodGA) rfl rfl rfl (by decide +kernel) ⟨Nat.le_of_ble_eq_true rfl, Nat.le_of_ble_eq_true rfl⟩) ⟨fun a U g mk q => by obtain ⟨q0, qP, qK⟩ := q; exact ⟨q0, qP, va_K.moved (u := U) (U := U.calling g mk a) (Vm.Alike.refl U.vm) qK⟩, va_recv hKc hPc (ci := 11) (q0 := 0) rfl rfl, fun U hU hW => ⟨rfl, by rw [hU]; exact hPc, va_K.moved hW.alike hKc⟩⟩ rfl rfl hl.1 rfl (lv_room (Nat.le_of_ble_eq_true rfl)) dL_law_971 ⟨Nat.le_of_ble_eq_true rfl, Nat.le_of_ble_eq_true rfl⟩) hS (fun q _ h => h.elim) (fun q h => h.elim) (fun r_1 u t H1 locs ht hvm hw hB hz1 hk1 hS => ?_)
  have hP := gz_keep hP hk1
  generalize H1 = H at hP hS ⊢
  subst hw
  refine lv_aload_n hx hb dL_law_974 rfl (lv_at hl 2 rfl) ?_
  refine lv_aload_n hx hb dL_law_975 rfl (lv_at hl 0 rfl) ?_
  refine lv_iload_n hx hb dL_law_976 rfl (lv_at hl 3 rfl) ?_
  refine lv_iconst (v := 1) hx hb dL_law_977 (by decide) ?_
  refine lv_iadd hx hb dL_law_978 ?_
  refine gz_topi (y := 1) (by decide) ?_
  refine va_sld hx hb hX hbl hbA hS (by unfold vp_in; decide) dL_law_979 ?_
  refine gz_topi (y := xs 1) (congrArg xs (by decide)) ?_
  refine lv_aload_n hx hb dL_law_980 rfl (lv_at hl 0 rfl) ?_
  refine lv_iload_n hx hb dL_law_981 rfl (lv_at hl 3 rfl) ?_
  refine lv_iconst (v := 2) hx hb dL_law_982 (by decide) ?_
  refine lv_iadd hx hb dL_law_983 ?_
  refine gz_topi (y := 2) (by decide) ?_
  refine va_sld hx hb hX hbl hbA hS (by unfold vp_in; decide) dL_law_984 ?_
  refine gz_topi (y := xs 2) (congrArg xs (by decide)) ?_
  have hPc := hP.sub (ws' := [(m0, .inr (12, fsM rm))]) [6] rfl
  have hKc := hK.sub (tys' := []) [] rfl
  refine va_calli (va_runV (As := [.int (xs 1), .int (xs 2)]) (rest := [.int (-2)]) ⟨hx, hb, hml, hown, hts⟩ (fX12_rank l dC dI m0 rm (xs 1) (xs 2)) (cwV 2 hts (gz_lV lm_183 lm_184 lm_185 lm_9 lm_182 lwGB goodGB) rfl rfl rfl (by decide +kernel) ⟨Nat.le_of_ble_eq_true rfl, Nat.le_of_ble_eq_true rfl⟩) ⟨fun a U g mk q => by obtain ⟨q0, qP, qK⟩ := q; exact ⟨q0, qP, va_K.moved (u := U) (U := U.calling g mk a) (Vm.Alike.refl U.vm) qK⟩, va_recv hKc hPc (ci := 12) (q0 := 0) rfl rfl, fun U hU hW => ⟨rfl, by rw [hU]; exact hPc, va_K.moved hW.alike hKc⟩⟩ rfl rfl hl.1 rfl (lv_room (Nat.le_of_ble_eq_true rfl)) dL_law_985 ⟨Nat.le_of_ble_eq_true rfl, Nat.le_of_ble_eq_true rfl⟩) hS (fun q _ h => h.elim) (fun q h => h.elim) (fun r_2 u t H1 locs ht hvm hw hB hz1 hk1 hS => ?_)
  have hP := gz_keep hP hk1
  generalize H1 = H at hP hS ⊢
  subst hw
  refine lv_icmp_eq (tgt := 2056) hx hb dL_law_988 (by decide) (fun c_3 => ?_) (fun c_3 => absurd (by decide) c_3)
  exact law_tail C0 (Nat.le_of_ble_eq_true rfl) (Nat.le_of_ble_eq_true rfl) hS (lv_sub hl [0, 3] rfl)
set_option maxHeartbeats 4000000 in
set_option maxRecDepth 100000 in
theorem law_c23 {p : Program} {l : Launch} {e : Env} {s : State} {m : MethodId} {below : List Frame} {meth : Method} {c : Code} {dC : Nat → ClassId} {dI : Nat → Nat → Nat} {b : Nat} {xs : Nat → Int32} (C0 : lw_At p s m meth c b 6 xs) {x0 m0 : Nat} {rx rm : Nat → Nat} {k1 : ClassId} {kf : Nat → ClassId} {H : Heap} {locs : List Loc} {ls : Array Slot} (hK : va_K (dC, dI) vwCl (law_T k1 kf) s) (hP : va_P (dC, dI) vwCl (law_W x0 m0 rx rm k1 kf) H) (hD : va_D (fun q : Nat => s.heap.size ≤ q) (law_W x0 m0 rx rm k1 kf)) (hS : va_S (fun q : Nat => s.heap.size ≤ q) s.heap H locs) (hl : lv_has ls 4 [(0, .ref b), (1, .ref x0), (2, .ref m0), (3, .int 0)]) : W p l e room_1 s m #[Value.ref b] below meth c H locs 1000 100000 (lw_Z below #[Value.ref b] s) (F0 m 993 ls []) := by
  obtain ⟨hx, hb, hr, hml, hown0, hts, hX, hbl, hlocks, hgv⟩ := id C0
  have hown : s.vm.findClass RL = some m.cls := hown0
  have hA : ∀ q : Nat, s.heap.size ≤ q → (fun q : Nat => s.heap.size ≤ q) q := fun _ h => h
  have hbA : ¬ (fun q : Nat => s.heap.size ≤ q) b := Nat.not_le.mpr hbl
  have hK : va_K (dC, dI) vwCl [(k1, .byte), ((kf 0), .int), ((kf 1), .int), ((kf 2), .int), ((kf 3), .int), ((kf 5), .int), ((kf 6), .int), ((kf 7), .int), ((kf 8), .int), ((kf 9), .int), ((kf 10), .int), ((kf 11), .int), ((kf 4), .boolean), ((kf 12), .int), ((kf 13), .int)] s := hK
  have hP : va_P (dC, dI) vwCl [(x0, .inr (11, fsX rx)), ((rx 0), .inr (6, fsR rx)), ((rx 11), .inr (10, fsT rx)), ((rx 13), .inl (k1, 1600, .inl (fun _ => 0))), ((rx 12), .inr (0, fsD rx)), ((rx 1), .inr (0, fsA rx)), (m0, .inr (12, fsM rm)), ((rm 0), .inl ((kf 0), 6, .inl (fun _ => 0))), ((rm 1), .inl ((kf 1), 36, .inl (fun _ => 0))), ((rm 2), .inl ((kf 2), 24, .inl (fun _ => 0))), ((rm 3), .inl ((kf 3), 24, .inl (fun _ => 0))), ((rm 5), .inl ((kf 5), 24, .inl (fun _ => 0))), ((rm 6), .inl ((kf 6), 24, .inl (fun _ => 0))), ((rm 7), .inl ((kf 7), 24, .inl (fun _ => 0))), ((rm 8), .inl ((kf 8), 8, .inl (fun _ => 0))), ((rm 9), .inl ((kf 9), 8, .inl (fun _ => 0))), ((rm 10), .inl ((kf 10), 8, .inl (fun _ => 0))), ((rm 11), .inl ((kf 11), 8, .inl (fun _ => 0))), ((rm 4), .inl ((kf 4), 24, .inl (fun _ => 0))), ((rm 12), .inl ((kf 12), 300, .inl (fun _ => 0))), ((rm 13), .inl ((kf 13), 1600, .inl (fun _ => 0)))] H := hP
  have hD : va_D (fun q : Nat => s.heap.size ≤ q) [(x0, .inr (11, fsX rx)), ((rx 0), .inr (6, fsR rx)), ((rx 11), .inr (10, fsT rx)), ((rx 13), .inl (k1, 1600, .inl (fun _ => 0))), ((rx 12), .inr (0, fsD rx)), ((rx 1), .inr (0, fsA rx)), (m0, .inr (12, fsM rm)), ((rm 0), .inl ((kf 0), 6, .inl (fun _ => 0))), ((rm 1), .inl ((kf 1), 36, .inl (fun _ => 0))), ((rm 2), .inl ((kf 2), 24, .inl (fun _ => 0))), ((rm 3), .inl ((kf 3), 24, .inl (fun _ => 0))), ((rm 5), .inl ((kf 5), 24, .inl (fun _ => 0))), ((rm 6), .inl ((kf 6), 24, .inl (fun _ => 0))), ((rm 7), .inl ((kf 7), 24, .inl (fun _ => 0))), ((rm 8), .inl ((kf 8), 8, .inl (fun _ => 0))), ((rm 9), .inl ((kf 9), 8, .inl (fun _ => 0))), ((rm 10), .inl ((kf 10), 8, .inl (fun _ => 0))), ((rm 11), .inl ((kf 11), 8, .inl (fun _ => 0))), ((rm 4), .inl ((kf 4), 24, .inl (fun _ => 0))), ((rm 12), .inl ((kf 12), 300, .inl (fun _ => 0))), ((rm 13), .inl ((kf 13), 1600, .inl (fun _ => 0)))] := hD
  refine lv_aload_n hx hb dL_law_993 rfl (lv_at hl 1 rfl) ?_
  refine lv_aload_n hx hb dL_law_994 rfl (lv_at hl 0 rfl) ?_
  refine lv_iload_n hx hb dL_law_995 rfl (lv_at hl 3 rfl) ?_
  refine lv_iconst (v := 1) hx hb dL_law_996 (by decide) ?_
  refine lv_iadd hx hb dL_law_997 ?_
  refine gz_topi (y := 1) (by decide) ?_
  refine va_sld hx hb hX hbl hbA hS (by unfold vp_in; decide) dL_law_998 ?_
  refine gz_topi (y := xs 1) (congrArg xs (by decide)) ?_
  refine lv_aload_n hx hb dL_law_999 rfl (lv_at hl 0 rfl) ?_
  refine lv_iload_n hx hb dL_law_1000 rfl (lv_at hl 3 rfl) ?_
  refine lv_iconst (v := 2) hx hb dL_law_1001 (by decide) ?_
  refine lv_iadd hx hb dL_law_1002 ?_
  refine gz_topi (y := 2) (by decide) ?_
  refine va_sld hx hb hX hbl hbA hS (by unfold vp_in; decide) dL_law_1003 ?_
  refine gz_topi (y := xs 2) (congrArg xs (by decide)) ?_
  have hPc := hP.sub (ws' := [(x0, .inr (11, fsX rx)), ((rx 1), .inr (0, fsA rx))]) [0, 5] rfl
  have hKc := hK.sub (tys' := []) [] rfl
  refine va_calli (va_runV (As := [.int (xs 1), .int (xs 2)]) (rest := []) ⟨hx, hb, hml, hown, hts⟩ (fX11_drawn l dC dI x0 rx (xs 1) (xs 2)) (cwV 2 hts (gz_lV lm_187 lm_188 lm_189 lm_4 lm_186 lwGA goodGA) rfl rfl rfl (by decide +kernel) ⟨Nat.le_of_ble_eq_true rfl, Nat.le_of_ble_eq_true rfl⟩) ⟨fun a U g mk q => by obtain ⟨q0, qP, qK⟩ := q; exact ⟨q0, qP, va_K.moved (u := U) (U := U.calling g mk a) (Vm.Alike.refl U.vm) qK⟩, va_recv hKc hPc (ci := 11) (q0 := 0) rfl rfl, fun U hU hW => ⟨rfl, by rw [hU]; exact hPc, va_K.moved hW.alike hKc⟩⟩ rfl rfl hl.1 rfl (lv_room (Nat.le_of_ble_eq_true rfl)) dL_law_1004 ⟨Nat.le_of_ble_eq_true rfl, Nat.le_of_ble_eq_true rfl⟩) hS (fun q _ h => h.elim) (fun q h => h.elim) (fun r_1 u t H1 locs ht hvm hw hB hz1 hk1 hS => ?_)
  have hP := gz_keep hP hk1
  generalize H1 = H at hP hS ⊢
  subst hw
  refine lv_aload_n hx hb dL_law_1007 rfl (lv_at hl 2 rfl) ?_
  refine lv_aload_n hx hb dL_law_1008 rfl (lv_at hl 0 rfl) ?_
  refine lv_iload_n hx hb dL_law_1009 rfl (lv_at hl 3 rfl) ?_
  refine lv_iconst (v := 1) hx hb dL_law_1010 (by decide) ?_
  refine lv_iadd hx hb dL_law_1011 ?_
  refine gz_topi (y := 1) (by decide) ?_
  refine va_sld hx hb hX hbl hbA hS (by unfold vp_in; decide) dL_law_1012 ?_
  refine gz_topi (y := xs 1) (congrArg xs (by decide)) ?_
  refine lv_aload_n hx hb dL_law_1013 rfl (lv_at hl 0 rfl) ?_
  refine lv_iload_n hx hb dL_law_1014 rfl (lv_at hl 3 rfl) ?_
  refine lv_iconst (v := 2) hx hb dL_law_1015 (by decide) ?_
  refine lv_iadd hx hb dL_law_1016 ?_
  refine gz_topi (y := 2) (by decide) ?_
  refine va_sld hx hb hX hbl hbA hS (by unfold vp_in; decide) dL_law_1017 ?_
  refine gz_topi (y := xs 2) (congrArg xs (by decide)) ?_
  have hPc := hP.sub (ws' := [(m0, .inr (12, fsM rm))]) [6] rfl
  have hKc := hK.sub (tys' := []) [] rfl
  refine va_calli (va_runV (As := [.int (xs 1), .int (xs 2)]) (rest := [.int (-2)]) ⟨hx, hb, hml, hown, hts⟩ (fX12_drawn l dC dI m0 rm (xs 1) (xs 2)) (cwV 2 hts (gz_lV lm_191 lm_192 lm_193 lm_9 lm_190 lwGB goodGB) rfl rfl rfl (by decide +kernel) ⟨Nat.le_of_ble_eq_true rfl, Nat.le_of_ble_eq_true rfl⟩) ⟨fun a U g mk q => by obtain ⟨q0, qP, qK⟩ := q; exact ⟨q0, qP, va_K.moved (u := U) (U := U.calling g mk a) (Vm.Alike.refl U.vm) qK⟩, va_recv hKc hPc (ci := 12) (q0 := 0) rfl rfl, fun U hU hW => ⟨rfl, by rw [hU]; exact hPc, va_K.moved hW.alike hKc⟩⟩ rfl rfl hl.1 rfl (lv_room (Nat.le_of_ble_eq_true rfl)) dL_law_1018 ⟨Nat.le_of_ble_eq_true rfl, Nat.le_of_ble_eq_true rfl⟩) hS (fun q _ h => h.elim) (fun q h => h.elim) (fun r_2 u t H1 locs ht hvm hw hB hz1 hk1 hS => ?_)
  have hP := gz_keep hP hk1
  generalize H1 = H at hP hS ⊢
  subst hw
  refine lv_icmp_eq (tgt := 2056) hx hb dL_law_1021 (by decide) (fun c_3 => ?_) (fun c_3 => absurd (by decide) c_3)
  exact law_tail C0 (Nat.le_of_ble_eq_true rfl) (Nat.le_of_ble_eq_true rfl) hS (lv_sub hl [0, 3] rfl)
set_option maxHeartbeats 4000000 in
set_option maxRecDepth 100000 in
theorem law_c24 {p : Program} {l : Launch} {e : Env} {s : State} {m : MethodId} {below : List Frame} {meth : Method} {c : Code} {dC : Nat → ClassId} {dI : Nat → Nat → Nat} {b : Nat} {xs : Nat → Int32} (C0 : lw_At p s m meth c b 6 xs) {x0 m0 : Nat} {rx rm : Nat → Nat} {k1 : ClassId} {kf : Nat → ClassId} {H : Heap} {locs : List Loc} {ls : Array Slot} (hK : va_K (dC, dI) vwCl (law_T k1 kf) s) (hP : va_P (dC, dI) vwCl (law_W x0 m0 rx rm k1 kf) H) (hD : va_D (fun q : Nat => s.heap.size ≤ q) (law_W x0 m0 rx rm k1 kf)) (hS : va_S (fun q : Nat => s.heap.size ≤ q) s.heap H locs) (hl : lv_has ls 4 [(0, .ref b), (1, .ref x0), (2, .ref m0), (3, .int 0)]) : W p l e room_1 s m #[Value.ref b] below meth c H locs 1000 100000 (lw_Z below #[Value.ref b] s) (F0 m 1026 ls []) := by
  obtain ⟨hx, hb, hr, hml, hown0, hts, hX, hbl, hlocks, hgv⟩ := id C0
  have hown : s.vm.findClass RL = some m.cls := hown0
  have hA : ∀ q : Nat, s.heap.size ≤ q → (fun q : Nat => s.heap.size ≤ q) q := fun _ h => h
  have hbA : ¬ (fun q : Nat => s.heap.size ≤ q) b := Nat.not_le.mpr hbl
  have hK : va_K (dC, dI) vwCl [(k1, .byte), ((kf 0), .int), ((kf 1), .int), ((kf 2), .int), ((kf 3), .int), ((kf 5), .int), ((kf 6), .int), ((kf 7), .int), ((kf 8), .int), ((kf 9), .int), ((kf 10), .int), ((kf 11), .int), ((kf 4), .boolean), ((kf 12), .int), ((kf 13), .int)] s := hK
  have hP : va_P (dC, dI) vwCl [(x0, .inr (11, fsX rx)), ((rx 0), .inr (6, fsR rx)), ((rx 11), .inr (10, fsT rx)), ((rx 13), .inl (k1, 1600, .inl (fun _ => 0))), ((rx 12), .inr (0, fsD rx)), ((rx 1), .inr (0, fsA rx)), (m0, .inr (12, fsM rm)), ((rm 0), .inl ((kf 0), 6, .inl (fun _ => 0))), ((rm 1), .inl ((kf 1), 36, .inl (fun _ => 0))), ((rm 2), .inl ((kf 2), 24, .inl (fun _ => 0))), ((rm 3), .inl ((kf 3), 24, .inl (fun _ => 0))), ((rm 5), .inl ((kf 5), 24, .inl (fun _ => 0))), ((rm 6), .inl ((kf 6), 24, .inl (fun _ => 0))), ((rm 7), .inl ((kf 7), 24, .inl (fun _ => 0))), ((rm 8), .inl ((kf 8), 8, .inl (fun _ => 0))), ((rm 9), .inl ((kf 9), 8, .inl (fun _ => 0))), ((rm 10), .inl ((kf 10), 8, .inl (fun _ => 0))), ((rm 11), .inl ((kf 11), 8, .inl (fun _ => 0))), ((rm 4), .inl ((kf 4), 24, .inl (fun _ => 0))), ((rm 12), .inl ((kf 12), 300, .inl (fun _ => 0))), ((rm 13), .inl ((kf 13), 1600, .inl (fun _ => 0)))] H := hP
  have hD : va_D (fun q : Nat => s.heap.size ≤ q) [(x0, .inr (11, fsX rx)), ((rx 0), .inr (6, fsR rx)), ((rx 11), .inr (10, fsT rx)), ((rx 13), .inl (k1, 1600, .inl (fun _ => 0))), ((rx 12), .inr (0, fsD rx)), ((rx 1), .inr (0, fsA rx)), (m0, .inr (12, fsM rm)), ((rm 0), .inl ((kf 0), 6, .inl (fun _ => 0))), ((rm 1), .inl ((kf 1), 36, .inl (fun _ => 0))), ((rm 2), .inl ((kf 2), 24, .inl (fun _ => 0))), ((rm 3), .inl ((kf 3), 24, .inl (fun _ => 0))), ((rm 5), .inl ((kf 5), 24, .inl (fun _ => 0))), ((rm 6), .inl ((kf 6), 24, .inl (fun _ => 0))), ((rm 7), .inl ((kf 7), 24, .inl (fun _ => 0))), ((rm 8), .inl ((kf 8), 8, .inl (fun _ => 0))), ((rm 9), .inl ((kf 9), 8, .inl (fun _ => 0))), ((rm 10), .inl ((kf 10), 8, .inl (fun _ => 0))), ((rm 11), .inl ((kf 11), 8, .inl (fun _ => 0))), ((rm 4), .inl ((kf 4), 24, .inl (fun _ => 0))), ((rm 12), .inl ((kf 12), 300, .inl (fun _ => 0))), ((rm 13), .inl ((kf 13), 1600, .inl (fun _ => 0)))] := hD
  refine lv_aload_n hx hb dL_law_1026 rfl (lv_at hl 1 rfl) ?_
  refine lv_aload_n hx hb dL_law_1027 rfl (lv_at hl 0 rfl) ?_
  refine lv_iload_n hx hb dL_law_1028 rfl (lv_at hl 3 rfl) ?_
  refine lv_iconst (v := 1) hx hb dL_law_1029 (by decide) ?_
  refine lv_iadd hx hb dL_law_1030 ?_
  refine gz_topi (y := 1) (by decide) ?_
  refine va_sld hx hb hX hbl hbA hS (by unfold vp_in; decide) dL_law_1031 ?_
  refine gz_topi (y := xs 1) (congrArg xs (by decide)) ?_
  refine lv_aload_n hx hb dL_law_1032 rfl (lv_at hl 0 rfl) ?_
  refine lv_iload_n hx hb dL_law_1033 rfl (lv_at hl 3 rfl) ?_
  refine lv_iconst (v := 2) hx hb dL_law_1034 (by decide) ?_
  refine lv_iadd hx hb dL_law_1035 ?_
  refine gz_topi (y := 2) (by decide) ?_
  refine va_sld hx hb hX hbl hbA hS (by unfold vp_in; decide) dL_law_1036 ?_
  refine gz_topi (y := xs 2) (congrArg xs (by decide)) ?_
  refine lv_aload_n hx hb dL_law_1037 rfl (lv_at hl 0 rfl) ?_
  refine lv_iload_n hx hb dL_law_1038 rfl (lv_at hl 3 rfl) ?_
  refine lv_iconst (v := 3) hx hb dL_law_1039 (by decide) ?_
  refine lv_iadd hx hb dL_law_1040 ?_
  refine gz_topi (y := 3) (by decide) ?_
  refine va_sld hx hb hX hbl hbA hS (by unfold vp_in; decide) dL_law_1041 ?_
  refine gz_topi (y := xs 3) (congrArg xs (by decide)) ?_
  have hPc := hP.sub (ws' := [(x0, .inr (11, fsX rx)), ((rx 1), .inr (0, fsA rx))]) [0, 5] rfl
  have hKc := hK.sub (tys' := []) [] rfl
  refine va_calli (va_runV (As := [.int (xs 1), .int (xs 2), .int (xs 3)]) (rest := []) ⟨hx, hb, hml, hown, hts⟩ (fX11_day l dC dI x0 rx (xs 1) (xs 2) (xs 3)) (cwV 3 hts (gz_lV lm_195 lm_196 lm_197 lm_4 lm_194 lwGA goodGA) rfl rfl rfl (by decide +kernel) ⟨Nat.le_of_ble_eq_true rfl, Nat.le_of_ble_eq_true rfl⟩) ⟨fun a U g mk q => by obtain ⟨q0, qP, qK⟩ := q; exact ⟨q0, qP, va_K.moved (u := U) (U := U.calling g mk a) (Vm.Alike.refl U.vm) qK⟩, va_recv hKc hPc (ci := 11) (q0 := 0) rfl rfl, fun U hU hW => ⟨rfl, by rw [hU]; exact hPc, va_K.moved hW.alike hKc⟩⟩ rfl rfl hl.1 rfl (lv_room (Nat.le_of_ble_eq_true rfl)) dL_law_1042 ⟨Nat.le_of_ble_eq_true rfl, Nat.le_of_ble_eq_true rfl⟩) hS (fun q _ h => h.elim) (fun q h => h.elim) (fun r_1 u t H1 locs ht hvm hw hB hz1 hk1 hS => ?_)
  have hP := gz_keep hP hk1
  generalize H1 = H at hP hS ⊢
  subst hw
  refine lv_aload_n hx hb dL_law_1045 rfl (lv_at hl 2 rfl) ?_
  refine lv_aload_n hx hb dL_law_1046 rfl (lv_at hl 0 rfl) ?_
  refine lv_iload_n hx hb dL_law_1047 rfl (lv_at hl 3 rfl) ?_
  refine lv_iconst (v := 1) hx hb dL_law_1048 (by decide) ?_
  refine lv_iadd hx hb dL_law_1049 ?_
  refine gz_topi (y := 1) (by decide) ?_
  refine va_sld hx hb hX hbl hbA hS (by unfold vp_in; decide) dL_law_1050 ?_
  refine gz_topi (y := xs 1) (congrArg xs (by decide)) ?_
  refine lv_aload_n hx hb dL_law_1051 rfl (lv_at hl 0 rfl) ?_
  refine lv_iload_n hx hb dL_law_1052 rfl (lv_at hl 3 rfl) ?_
  refine lv_iconst (v := 2) hx hb dL_law_1053 (by decide) ?_
  refine lv_iadd hx hb dL_law_1054 ?_
  refine gz_topi (y := 2) (by decide) ?_
  refine va_sld hx hb hX hbl hbA hS (by unfold vp_in; decide) dL_law_1055 ?_
  refine gz_topi (y := xs 2) (congrArg xs (by decide)) ?_
  refine lv_aload_n hx hb dL_law_1056 rfl (lv_at hl 0 rfl) ?_
  refine lv_iload_n hx hb dL_law_1057 rfl (lv_at hl 3 rfl) ?_
  refine lv_iconst (v := 3) hx hb dL_law_1058 (by decide) ?_
  refine lv_iadd hx hb dL_law_1059 ?_
  refine gz_topi (y := 3) (by decide) ?_
  refine va_sld hx hb hX hbl hbA hS (by unfold vp_in; decide) dL_law_1060 ?_
  refine gz_topi (y := xs 3) (congrArg xs (by decide)) ?_
  have hPc := hP.sub (ws' := [(m0, .inr (12, fsM rm))]) [6] rfl
  have hKc := hK.sub (tys' := []) [] rfl
  refine va_calli (va_runV (As := [.int (xs 1), .int (xs 2), .int (xs 3)]) (rest := [.int (-2)]) ⟨hx, hb, hml, hown, hts⟩ (fX12_day l dC dI m0 rm (xs 1) (xs 2) (xs 3)) (cwV 3 hts (gz_lV lm_199 lm_200 lm_201 lm_9 lm_198 lwGB goodGB) rfl rfl rfl (by decide +kernel) ⟨Nat.le_of_ble_eq_true rfl, Nat.le_of_ble_eq_true rfl⟩) ⟨fun a U g mk q => by obtain ⟨q0, qP, qK⟩ := q; exact ⟨q0, qP, va_K.moved (u := U) (U := U.calling g mk a) (Vm.Alike.refl U.vm) qK⟩, va_recv hKc hPc (ci := 12) (q0 := 0) rfl rfl, fun U hU hW => ⟨rfl, by rw [hU]; exact hPc, va_K.moved hW.alike hKc⟩⟩ rfl rfl hl.1 rfl (lv_room (Nat.le_of_ble_eq_true rfl)) dL_law_1061 ⟨Nat.le_of_ble_eq_true rfl, Nat.le_of_ble_eq_true rfl⟩) hS (fun q _ h => h.elim) (fun q h => h.elim) (fun r_2 u t H1 locs ht hvm hw hB hz1 hk1 hS => ?_)
  have hP := gz_keep hP hk1
  generalize H1 = H at hP hS ⊢
  subst hw
  refine lv_icmp_eq (tgt := 2056) hx hb dL_law_1064 (by decide) (fun c_3 => ?_) (fun c_3 => absurd (by decide) c_3)
  exact law_tail C0 (Nat.le_of_ble_eq_true rfl) (Nat.le_of_ble_eq_true rfl) hS (lv_sub hl [0, 3] rfl)
set_option maxHeartbeats 4000000 in
set_option maxRecDepth 100000 in
theorem law_c25 {p : Program} {l : Launch} {e : Env} {s : State} {m : MethodId} {below : List Frame} {meth : Method} {c : Code} {dC : Nat → ClassId} {dI : Nat → Nat → Nat} {b : Nat} {xs : Nat → Int32} (C0 : lw_At p s m meth c b 6 xs) {x0 m0 : Nat} {rx rm : Nat → Nat} {k1 : ClassId} {kf : Nat → ClassId} {H : Heap} {locs : List Loc} {ls : Array Slot} (hK : va_K (dC, dI) vwCl (law_T k1 kf) s) (hP : va_P (dC, dI) vwCl (law_W x0 m0 rx rm k1 kf) H) (hD : va_D (fun q : Nat => s.heap.size ≤ q) (law_W x0 m0 rx rm k1 kf)) (hS : va_S (fun q : Nat => s.heap.size ≤ q) s.heap H locs) (hl : lv_has ls 4 [(0, .ref b), (1, .ref x0), (2, .ref m0), (3, .int 0)]) : W p l e room_1 s m #[Value.ref b] below meth c H locs 1000 100000 (lw_Z below #[Value.ref b] s) (F0 m 1069 ls []) := by
  obtain ⟨hx, hb, hr, hml, hown0, hts, hX, hbl, hlocks, hgv⟩ := id C0
  have hown : s.vm.findClass RL = some m.cls := hown0
  have hA : ∀ q : Nat, s.heap.size ≤ q → (fun q : Nat => s.heap.size ≤ q) q := fun _ h => h
  have hbA : ¬ (fun q : Nat => s.heap.size ≤ q) b := Nat.not_le.mpr hbl
  have hK : va_K (dC, dI) vwCl [(k1, .byte), ((kf 0), .int), ((kf 1), .int), ((kf 2), .int), ((kf 3), .int), ((kf 5), .int), ((kf 6), .int), ((kf 7), .int), ((kf 8), .int), ((kf 9), .int), ((kf 10), .int), ((kf 11), .int), ((kf 4), .boolean), ((kf 12), .int), ((kf 13), .int)] s := hK
  have hP : va_P (dC, dI) vwCl [(x0, .inr (11, fsX rx)), ((rx 0), .inr (6, fsR rx)), ((rx 11), .inr (10, fsT rx)), ((rx 13), .inl (k1, 1600, .inl (fun _ => 0))), ((rx 12), .inr (0, fsD rx)), ((rx 1), .inr (0, fsA rx)), (m0, .inr (12, fsM rm)), ((rm 0), .inl ((kf 0), 6, .inl (fun _ => 0))), ((rm 1), .inl ((kf 1), 36, .inl (fun _ => 0))), ((rm 2), .inl ((kf 2), 24, .inl (fun _ => 0))), ((rm 3), .inl ((kf 3), 24, .inl (fun _ => 0))), ((rm 5), .inl ((kf 5), 24, .inl (fun _ => 0))), ((rm 6), .inl ((kf 6), 24, .inl (fun _ => 0))), ((rm 7), .inl ((kf 7), 24, .inl (fun _ => 0))), ((rm 8), .inl ((kf 8), 8, .inl (fun _ => 0))), ((rm 9), .inl ((kf 9), 8, .inl (fun _ => 0))), ((rm 10), .inl ((kf 10), 8, .inl (fun _ => 0))), ((rm 11), .inl ((kf 11), 8, .inl (fun _ => 0))), ((rm 4), .inl ((kf 4), 24, .inl (fun _ => 0))), ((rm 12), .inl ((kf 12), 300, .inl (fun _ => 0))), ((rm 13), .inl ((kf 13), 1600, .inl (fun _ => 0)))] H := hP
  have hD : va_D (fun q : Nat => s.heap.size ≤ q) [(x0, .inr (11, fsX rx)), ((rx 0), .inr (6, fsR rx)), ((rx 11), .inr (10, fsT rx)), ((rx 13), .inl (k1, 1600, .inl (fun _ => 0))), ((rx 12), .inr (0, fsD rx)), ((rx 1), .inr (0, fsA rx)), (m0, .inr (12, fsM rm)), ((rm 0), .inl ((kf 0), 6, .inl (fun _ => 0))), ((rm 1), .inl ((kf 1), 36, .inl (fun _ => 0))), ((rm 2), .inl ((kf 2), 24, .inl (fun _ => 0))), ((rm 3), .inl ((kf 3), 24, .inl (fun _ => 0))), ((rm 5), .inl ((kf 5), 24, .inl (fun _ => 0))), ((rm 6), .inl ((kf 6), 24, .inl (fun _ => 0))), ((rm 7), .inl ((kf 7), 24, .inl (fun _ => 0))), ((rm 8), .inl ((kf 8), 8, .inl (fun _ => 0))), ((rm 9), .inl ((kf 9), 8, .inl (fun _ => 0))), ((rm 10), .inl ((kf 10), 8, .inl (fun _ => 0))), ((rm 11), .inl ((kf 11), 8, .inl (fun _ => 0))), ((rm 4), .inl ((kf 4), 24, .inl (fun _ => 0))), ((rm 12), .inl ((kf 12), 300, .inl (fun _ => 0))), ((rm 13), .inl ((kf 13), 1600, .inl (fun _ => 0)))] := hD
  refine lv_aload_n hx hb dL_law_1069 rfl (lv_at hl 1 rfl) ?_
  refine lv_aload_n hx hb dL_law_1070 rfl (lv_at hl 0 rfl) ?_
  refine lv_iload_n hx hb dL_law_1071 rfl (lv_at hl 3 rfl) ?_
  refine lv_iconst (v := 1) hx hb dL_law_1072 (by decide) ?_
  refine lv_iadd hx hb dL_law_1073 ?_
  refine gz_topi (y := 1) (by decide) ?_
  refine va_sld hx hb hX hbl hbA hS (by unfold vp_in; decide) dL_law_1074 ?_
  refine gz_topi (y := xs 1) (congrArg xs (by decide)) ?_
  refine lv_aload_n hx hb dL_law_1075 rfl (lv_at hl 0 rfl) ?_
  refine lv_iload_n hx hb dL_law_1076 rfl (lv_at hl 3 rfl) ?_
  refine lv_iconst (v := 2) hx hb dL_law_1077 (by decide) ?_
  refine lv_iadd hx hb dL_law_1078 ?_
  refine gz_topi (y := 2) (by decide) ?_
  refine va_sld hx hb hX hbl hbA hS (by unfold vp_in; decide) dL_law_1079 ?_
  refine gz_topi (y := xs 2) (congrArg xs (by decide)) ?_
  have hPc := hP.sub (ws' := [(x0, .inr (11, fsX rx)), ((rx 1), .inr (0, fsA rx))]) [0, 5] rfl
  have hKc := hK.sub (tys' := []) [] rfl
  refine va_calli (va_runV (As := [.int (xs 1), .int (xs 2)]) (rest := []) ⟨hx, hb, hml, hown, hts⟩ (fX11_date l dC dI x0 rx (xs 1) (xs 2)) (cwV 2 hts (gz_lV lm_203 lm_204 lm_205 lm_4 lm_202 lwGA goodGA) rfl rfl rfl (by decide +kernel) ⟨Nat.le_of_ble_eq_true rfl, Nat.le_of_ble_eq_true rfl⟩) ⟨fun a U g mk q => by obtain ⟨q0, qP, qK⟩ := q; exact ⟨q0, qP, va_K.moved (u := U) (U := U.calling g mk a) (Vm.Alike.refl U.vm) qK⟩, va_recv hKc hPc (ci := 11) (q0 := 0) rfl rfl, fun U hU hW => ⟨rfl, by rw [hU]; exact hPc, va_K.moved hW.alike hKc⟩⟩ rfl rfl hl.1 rfl (lv_room (Nat.le_of_ble_eq_true rfl)) dL_law_1080 ⟨Nat.le_of_ble_eq_true rfl, Nat.le_of_ble_eq_true rfl⟩) hS (fun q _ h => h.elim) (fun q h => h.elim) (fun r_1 u t H1 locs ht hvm hw hB hz1 hk1 hS => ?_)
  have hP := gz_keep hP hk1
  generalize H1 = H at hP hS ⊢
  subst hw
  refine lv_aload_n hx hb dL_law_1083 rfl (lv_at hl 2 rfl) ?_
  refine lv_aload_n hx hb dL_law_1084 rfl (lv_at hl 0 rfl) ?_
  refine lv_iload_n hx hb dL_law_1085 rfl (lv_at hl 3 rfl) ?_
  refine lv_iconst (v := 1) hx hb dL_law_1086 (by decide) ?_
  refine lv_iadd hx hb dL_law_1087 ?_
  refine gz_topi (y := 1) (by decide) ?_
  refine va_sld hx hb hX hbl hbA hS (by unfold vp_in; decide) dL_law_1088 ?_
  refine gz_topi (y := xs 1) (congrArg xs (by decide)) ?_
  refine lv_aload_n hx hb dL_law_1089 rfl (lv_at hl 0 rfl) ?_
  refine lv_iload_n hx hb dL_law_1090 rfl (lv_at hl 3 rfl) ?_
  refine lv_iconst (v := 2) hx hb dL_law_1091 (by decide) ?_
  refine lv_iadd hx hb dL_law_1092 ?_
  refine gz_topi (y := 2) (by decide) ?_
  refine va_sld hx hb hX hbl hbA hS (by unfold vp_in; decide) dL_law_1093 ?_
  refine gz_topi (y := xs 2) (congrArg xs (by decide)) ?_
  have hPc := hP.sub (ws' := [(m0, .inr (12, fsM rm))]) [6] rfl
  have hKc := hK.sub (tys' := []) [] rfl
  refine va_calli (va_runV (As := [.int (xs 1), .int (xs 2)]) (rest := [.int (-2)]) ⟨hx, hb, hml, hown, hts⟩ (fX12_date l dC dI m0 rm (xs 1) (xs 2)) (cwV 2 hts (gz_lV lm_207 lm_208 lm_209 lm_9 lm_206 lwGB goodGB) rfl rfl rfl (by decide +kernel) ⟨Nat.le_of_ble_eq_true rfl, Nat.le_of_ble_eq_true rfl⟩) ⟨fun a U g mk q => by obtain ⟨q0, qP, qK⟩ := q; exact ⟨q0, qP, va_K.moved (u := U) (U := U.calling g mk a) (Vm.Alike.refl U.vm) qK⟩, va_recv hKc hPc (ci := 12) (q0 := 0) rfl rfl, fun U hU hW => ⟨rfl, by rw [hU]; exact hPc, va_K.moved hW.alike hKc⟩⟩ rfl rfl hl.1 rfl (lv_room (Nat.le_of_ble_eq_true rfl)) dL_law_1094 ⟨Nat.le_of_ble_eq_true rfl, Nat.le_of_ble_eq_true rfl⟩) hS (fun q _ h => h.elim) (fun q h => h.elim) (fun r_2 u t H1 locs ht hvm hw hB hz1 hk1 hS => ?_)
  have hP := gz_keep hP hk1
  generalize H1 = H at hP hS ⊢
  subst hw
  refine lv_icmp_eq (tgt := 2056) hx hb dL_law_1097 (by decide) (fun c_3 => ?_) (fun c_3 => absurd (by decide) c_3)
  exact law_tail C0 (Nat.le_of_ble_eq_true rfl) (Nat.le_of_ble_eq_true rfl) hS (lv_sub hl [0, 3] rfl)
set_option maxHeartbeats 4000000 in
set_option maxRecDepth 100000 in
theorem law_c26 {p : Program} {l : Launch} {e : Env} {s : State} {m : MethodId} {below : List Frame} {meth : Method} {c : Code} {dC : Nat → ClassId} {dI : Nat → Nat → Nat} {b : Nat} {xs : Nat → Int32} (C0 : lw_At p s m meth c b 6 xs) {x0 m0 : Nat} {rx rm : Nat → Nat} {k1 : ClassId} {kf : Nat → ClassId} {H : Heap} {locs : List Loc} {ls : Array Slot} (hK : va_K (dC, dI) vwCl (law_T k1 kf) s) (hP : va_P (dC, dI) vwCl (law_W x0 m0 rx rm k1 kf) H) (hD : va_D (fun q : Nat => s.heap.size ≤ q) (law_W x0 m0 rx rm k1 kf)) (hS : va_S (fun q : Nat => s.heap.size ≤ q) s.heap H locs) (hl : lv_has ls 4 [(0, .ref b), (1, .ref x0), (2, .ref m0), (3, .int 0)]) : W p l e room_1 s m #[Value.ref b] below meth c H locs 1000 100000 (lw_Z below #[Value.ref b] s) (F0 m 1102 ls []) := by
  obtain ⟨hx, hb, hr, hml, hown0, hts, hX, hbl, hlocks, hgv⟩ := id C0
  have hown : s.vm.findClass RL = some m.cls := hown0
  have hA : ∀ q : Nat, s.heap.size ≤ q → (fun q : Nat => s.heap.size ≤ q) q := fun _ h => h
  have hbA : ¬ (fun q : Nat => s.heap.size ≤ q) b := Nat.not_le.mpr hbl
  have hK : va_K (dC, dI) vwCl [(k1, .byte), ((kf 0), .int), ((kf 1), .int), ((kf 2), .int), ((kf 3), .int), ((kf 5), .int), ((kf 6), .int), ((kf 7), .int), ((kf 8), .int), ((kf 9), .int), ((kf 10), .int), ((kf 11), .int), ((kf 4), .boolean), ((kf 12), .int), ((kf 13), .int)] s := hK
  have hP : va_P (dC, dI) vwCl [(x0, .inr (11, fsX rx)), ((rx 0), .inr (6, fsR rx)), ((rx 11), .inr (10, fsT rx)), ((rx 13), .inl (k1, 1600, .inl (fun _ => 0))), ((rx 12), .inr (0, fsD rx)), ((rx 1), .inr (0, fsA rx)), (m0, .inr (12, fsM rm)), ((rm 0), .inl ((kf 0), 6, .inl (fun _ => 0))), ((rm 1), .inl ((kf 1), 36, .inl (fun _ => 0))), ((rm 2), .inl ((kf 2), 24, .inl (fun _ => 0))), ((rm 3), .inl ((kf 3), 24, .inl (fun _ => 0))), ((rm 5), .inl ((kf 5), 24, .inl (fun _ => 0))), ((rm 6), .inl ((kf 6), 24, .inl (fun _ => 0))), ((rm 7), .inl ((kf 7), 24, .inl (fun _ => 0))), ((rm 8), .inl ((kf 8), 8, .inl (fun _ => 0))), ((rm 9), .inl ((kf 9), 8, .inl (fun _ => 0))), ((rm 10), .inl ((kf 10), 8, .inl (fun _ => 0))), ((rm 11), .inl ((kf 11), 8, .inl (fun _ => 0))), ((rm 4), .inl ((kf 4), 24, .inl (fun _ => 0))), ((rm 12), .inl ((kf 12), 300, .inl (fun _ => 0))), ((rm 13), .inl ((kf 13), 1600, .inl (fun _ => 0)))] H := hP
  have hD : va_D (fun q : Nat => s.heap.size ≤ q) [(x0, .inr (11, fsX rx)), ((rx 0), .inr (6, fsR rx)), ((rx 11), .inr (10, fsT rx)), ((rx 13), .inl (k1, 1600, .inl (fun _ => 0))), ((rx 12), .inr (0, fsD rx)), ((rx 1), .inr (0, fsA rx)), (m0, .inr (12, fsM rm)), ((rm 0), .inl ((kf 0), 6, .inl (fun _ => 0))), ((rm 1), .inl ((kf 1), 36, .inl (fun _ => 0))), ((rm 2), .inl ((kf 2), 24, .inl (fun _ => 0))), ((rm 3), .inl ((kf 3), 24, .inl (fun _ => 0))), ((rm 5), .inl ((kf 5), 24, .inl (fun _ => 0))), ((rm 6), .inl ((kf 6), 24, .inl (fun _ => 0))), ((rm 7), .inl ((kf 7), 24, .inl (fun _ => 0))), ((rm 8), .inl ((kf 8), 8, .inl (fun _ => 0))), ((rm 9), .inl ((kf 9), 8, .inl (fun _ => 0))), ((rm 10), .inl ((kf 10), 8, .inl (fun _ => 0))), ((rm 11), .inl ((kf 11), 8, .inl (fun _ => 0))), ((rm 4), .inl ((kf 4), 24, .inl (fun _ => 0))), ((rm 12), .inl ((kf 12), 300, .inl (fun _ => 0))), ((rm 13), .inl ((kf 13), 1600, .inl (fun _ => 0)))] := hD
  refine lv_aload_n hx hb dL_law_1102 rfl (lv_at hl 1 rfl) ?_
  refine lv_aload_n hx hb dL_law_1103 rfl (lv_at hl 0 rfl) ?_
  refine lv_iload_n hx hb dL_law_1104 rfl (lv_at hl 3 rfl) ?_
  refine lv_iconst (v := 1) hx hb dL_law_1105 (by decide) ?_
  refine lv_iadd hx hb dL_law_1106 ?_
  refine gz_topi (y := 1) (by decide) ?_
  refine va_sld hx hb hX hbl hbA hS (by unfold vp_in; decide) dL_law_1107 ?_
  refine gz_topi (y := xs 1) (congrArg xs (by decide)) ?_
  refine lv_aload_n hx hb dL_law_1108 rfl (lv_at hl 0 rfl) ?_
  refine lv_iload_n hx hb dL_law_1109 rfl (lv_at hl 3 rfl) ?_
  refine lv_iconst (v := 2) hx hb dL_law_1110 (by decide) ?_
  refine lv_iadd hx hb dL_law_1111 ?_
  refine gz_topi (y := 2) (by decide) ?_
  refine va_sld hx hb hX hbl hbA hS (by unfold vp_in; decide) dL_law_1112 ?_
  refine gz_topi (y := xs 2) (congrArg xs (by decide)) ?_
  have hPc := hP.sub (ws' := [(x0, .inr (11, fsX rx)), ((rx 1), .inr (0, fsA rx))]) [0, 5] rfl
  have hKc := hK.sub (tys' := []) [] rfl
  refine va_calli (va_runV (As := [.int (xs 1), .int (xs 2)]) (rest := []) ⟨hx, hb, hml, hown, hts⟩ (fX11_dates l dC dI x0 rx (xs 1) (xs 2)) (cwV 2 hts (gz_lV lm_211 lm_212 lm_213 lm_4 lm_210 lwGA goodGA) rfl rfl rfl (by decide +kernel) ⟨Nat.le_of_ble_eq_true rfl, Nat.le_of_ble_eq_true rfl⟩) ⟨fun a U g mk q => by obtain ⟨q0, qP, qK⟩ := q; exact ⟨q0, qP, va_K.moved (u := U) (U := U.calling g mk a) (Vm.Alike.refl U.vm) qK⟩, va_recv hKc hPc (ci := 11) (q0 := 0) rfl rfl, fun U hU hW => ⟨rfl, by rw [hU]; exact hPc, va_K.moved hW.alike hKc⟩⟩ rfl rfl hl.1 rfl (lv_room (Nat.le_of_ble_eq_true rfl)) dL_law_1113 ⟨Nat.le_of_ble_eq_true rfl, Nat.le_of_ble_eq_true rfl⟩) hS (fun q _ h => h.elim) (fun q h => h.elim) (fun r_1 u t H1 locs ht hvm hw hB hz1 hk1 hS => ?_)
  have hP := gz_keep hP hk1
  generalize H1 = H at hP hS ⊢
  subst hw
  refine lv_aload_n hx hb dL_law_1116 rfl (lv_at hl 2 rfl) ?_
  refine lv_aload_n hx hb dL_law_1117 rfl (lv_at hl 0 rfl) ?_
  refine lv_iload_n hx hb dL_law_1118 rfl (lv_at hl 3 rfl) ?_
  refine lv_iconst (v := 1) hx hb dL_law_1119 (by decide) ?_
  refine lv_iadd hx hb dL_law_1120 ?_
  refine gz_topi (y := 1) (by decide) ?_
  refine va_sld hx hb hX hbl hbA hS (by unfold vp_in; decide) dL_law_1121 ?_
  refine gz_topi (y := xs 1) (congrArg xs (by decide)) ?_
  refine lv_aload_n hx hb dL_law_1122 rfl (lv_at hl 0 rfl) ?_
  refine lv_iload_n hx hb dL_law_1123 rfl (lv_at hl 3 rfl) ?_
  refine lv_iconst (v := 2) hx hb dL_law_1124 (by decide) ?_
  refine lv_iadd hx hb dL_law_1125 ?_
  refine gz_topi (y := 2) (by decide) ?_
  refine va_sld hx hb hX hbl hbA hS (by unfold vp_in; decide) dL_law_1126 ?_
  refine gz_topi (y := xs 2) (congrArg xs (by decide)) ?_
  have hPc := hP.sub (ws' := [(m0, .inr (12, fsM rm))]) [6] rfl
  have hKc := hK.sub (tys' := []) [] rfl
  refine va_calli (va_runV (As := [.int (xs 1), .int (xs 2)]) (rest := [.int (-2)]) ⟨hx, hb, hml, hown, hts⟩ (fX12_dates l dC dI m0 rm (xs 1) (xs 2)) (cwV 2 hts (gz_lV lm_215 lm_216 lm_217 lm_9 lm_214 lwGB goodGB) rfl rfl rfl (by decide +kernel) ⟨Nat.le_of_ble_eq_true rfl, Nat.le_of_ble_eq_true rfl⟩) ⟨fun a U g mk q => by obtain ⟨q0, qP, qK⟩ := q; exact ⟨q0, qP, va_K.moved (u := U) (U := U.calling g mk a) (Vm.Alike.refl U.vm) qK⟩, va_recv hKc hPc (ci := 12) (q0 := 0) rfl rfl, fun U hU hW => ⟨rfl, by rw [hU]; exact hPc, va_K.moved hW.alike hKc⟩⟩ rfl rfl hl.1 rfl (lv_room (Nat.le_of_ble_eq_true rfl)) dL_law_1127 ⟨Nat.le_of_ble_eq_true rfl, Nat.le_of_ble_eq_true rfl⟩) hS (fun q _ h => h.elim) (fun q h => h.elim) (fun r_2 u t H1 locs ht hvm hw hB hz1 hk1 hS => ?_)
  have hP := gz_keep hP hk1
  generalize H1 = H at hP hS ⊢
  subst hw
  refine lv_icmp_eq (tgt := 2056) hx hb dL_law_1130 (by decide) (fun c_3 => ?_) (fun c_3 => absurd (by decide) c_3)
  exact law_tail C0 (Nat.le_of_ble_eq_true rfl) (Nat.le_of_ble_eq_true rfl) hS (lv_sub hl [0, 3] rfl)
