set_option maxRecDepth 1000000 in
theorem dL_law_846 : decode code 846 = .ok (.aload_n 1, 1) := by decide +kernel
set_option maxRecDepth 1000000 in
theorem dL_law_847 : decode code 847 = .ok (.aload_n 0, 1) := by decide +kernel
set_option maxRecDepth 1000000 in
theorem dL_law_848 : decode code 848 = .ok (.iload_n 3, 1) := by decide +kernel
set_option maxRecDepth 1000000 in
theorem dL_law_849 : decode code 849 = .ok (.iconst 1, 1) := by decide +kernel
set_option maxRecDepth 1000000 in
theorem dL_law_850 : decode code 850 = .ok (.iadd, 1) := by decide +kernel
set_option maxRecDepth 1000000 in
theorem dL_law_851 : decode code 851 = .ok (.iaload, 1) := by decide +kernel
set_option maxRecDepth 1000000 in
theorem dL_law_852 : decode code 852 = .ok (.aload_n 0, 1) := by decide +kernel
set_option maxRecDepth 1000000 in
theorem dL_law_853 : decode code 853 = .ok (.iload_n 3, 1) := by decide +kernel
set_option maxRecDepth 1000000 in
theorem dL_law_854 : decode code 854 = .ok (.iconst 2, 1) := by decide +kernel
set_option maxRecDepth 1000000 in
theorem dL_law_855 : decode code 855 = .ok (.iadd, 1) := by decide +kernel
set_option maxRecDepth 1000000 in
theorem dL_law_856 : decode code 856 = .ok (.iaload, 1) := by decide +kernel
set_option maxRecDepth 1000000 in
theorem dL_law_857 : decode code 857 = .ok (.aload_n 0, 1) := by decide +kernel
set_option maxRecDepth 1000000 in
theorem dL_law_858 : decode code 858 = .ok (.iload_n 3, 1) := by decide +kernel
set_option maxRecDepth 1000000 in
theorem dL_law_859 : decode code 859 = .ok (.iconst 3, 1) := by decide +kernel
set_option maxRecDepth 1000000 in
theorem dL_law_860 : decode code 860 = .ok (.iadd, 1) := by decide +kernel
set_option maxRecDepth 1000000 in
theorem dL_law_861 : decode code 861 = .ok (.iaload, 1) := by decide +kernel
set_option maxRecDepth 1000000 in
theorem dL_law_862 : decode code 862 = .ok (.invokevirtual 91, 3) := by decide +kernel
set_option maxRecDepth 1000000 in
theorem dL_law_865 : decode code 865 = .ok (.pop, 1) := by decide +kernel
set_option maxRecDepth 1000000 in
theorem dL_law_866 : decode code 866 = .ok (.aload_n 2, 1) := by decide +kernel
set_option maxRecDepth 1000000 in
theorem dL_law_867 : decode code 867 = .ok (.aload_n 0, 1) := by decide +kernel
set_option maxRecDepth 1000000 in
theorem dL_law_868 : decode code 868 = .ok (.iload_n 3, 1) := by decide +kernel
set_option maxRecDepth 1000000 in
theorem dL_law_869 : decode code 869 = .ok (.iconst 1, 1) := by decide +kernel
set_option maxRecDepth 1000000 in
theorem dL_law_870 : decode code 870 = .ok (.iadd, 1) := by decide +kernel
set_option maxRecDepth 1000000 in
theorem dL_law_871 : decode code 871 = .ok (.iaload, 1) := by decide +kernel
set_option maxRecDepth 1000000 in
theorem dL_law_872 : decode code 872 = .ok (.aload_n 0, 1) := by decide +kernel
set_option maxRecDepth 1000000 in
theorem dL_law_873 : decode code 873 = .ok (.iload_n 3, 1) := by decide +kernel
set_option maxRecDepth 1000000 in
theorem dL_law_874 : decode code 874 = .ok (.iconst 2, 1) := by decide +kernel
set_option maxRecDepth 1000000 in
theorem dL_law_875 : decode code 875 = .ok (.iadd, 1) := by decide +kernel
set_option maxRecDepth 1000000 in
theorem dL_law_876 : decode code 876 = .ok (.iaload, 1) := by decide +kernel
set_option maxRecDepth 1000000 in
theorem dL_law_877 : decode code 877 = .ok (.aload_n 0, 1) := by decide +kernel
set_option maxRecDepth 1000000 in
theorem dL_law_878 : decode code 878 = .ok (.iload_n 3, 1) := by decide +kernel
set_option maxRecDepth 1000000 in
theorem dL_law_879 : decode code 879 = .ok (.iconst 3, 1) := by decide +kernel
set_option maxRecDepth 1000000 in
theorem dL_law_880 : decode code 880 = .ok (.iadd, 1) := by decide +kernel
set_option maxRecDepth 1000000 in
theorem dL_law_881 : decode code 881 = .ok (.iaload, 1) := by decide +kernel
set_option maxRecDepth 1000000 in
theorem dL_law_882 : decode code 882 = .ok (.invokevirtual 94, 3) := by decide +kernel
set_option maxRecDepth 1000000 in
theorem dL_law_885 : decode code 885 = .ok (.pop, 1) := by decide +kernel
set_option maxRecDepth 1000000 in
theorem dL_law_886 : decode code 886 = .ok (.goto 590, 3) := by decide +kernel
set_option maxRecDepth 1000000 in
theorem dL_law_889 : decode code 889 = .ok (.aload_n 1, 1) := by decide +kernel
set_option maxRecDepth 1000000 in
theorem dL_law_890 : decode code 890 = .ok (.aload_n 0, 1) := by decide +kernel
set_option maxRecDepth 1000000 in
theorem dL_law_891 : decode code 891 = .ok (.iload_n 3, 1) := by decide +kernel
set_option maxRecDepth 1000000 in
theorem dL_law_892 : decode code 892 = .ok (.iconst 1, 1) := by decide +kernel
set_option maxRecDepth 1000000 in
theorem dL_law_893 : decode code 893 = .ok (.iadd, 1) := by decide +kernel
set_option maxRecDepth 1000000 in
theorem dL_law_894 : decode code 894 = .ok (.iaload, 1) := by decide +kernel
set_option maxRecDepth 1000000 in
theorem dL_law_895 : decode code 895 = .ok (.aload_n 0, 1) := by decide +kernel
set_option maxRecDepth 1000000 in
theorem dL_law_896 : decode code 896 = .ok (.iload_n 3, 1) := by decide +kernel
set_option maxRecDepth 1000000 in
theorem dL_law_897 : decode code 897 = .ok (.iconst 2, 1) := by decide +kernel
set_option maxRecDepth 1000000 in
theorem dL_law_898 : decode code 898 = .ok (.iadd, 1) := by decide +kernel
set_option maxRecDepth 1000000 in
theorem dL_law_899 : decode code 899 = .ok (.iaload, 1) := by decide +kernel
set_option maxRecDepth 1000000 in
theorem dL_law_900 : decode code 900 = .ok (.invokevirtual 95, 3) := by decide +kernel
set_option maxRecDepth 1000000 in
theorem dL_law_903 : decode code 903 = .ok (.pop, 1) := by decide +kernel
set_option maxRecDepth 1000000 in
theorem dL_law_904 : decode code 904 = .ok (.aload_n 2, 1) := by decide +kernel
set_option maxRecDepth 1000000 in
theorem dL_law_905 : decode code 905 = .ok (.aload_n 0, 1) := by decide +kernel
set_option maxRecDepth 1000000 in
theorem dL_law_906 : decode code 906 = .ok (.iload_n 3, 1) := by decide +kernel
set_option maxRecDepth 1000000 in
theorem dL_law_907 : decode code 907 = .ok (.iconst 1, 1) := by decide +kernel
set_option maxRecDepth 1000000 in
theorem dL_law_908 : decode code 908 = .ok (.iadd, 1) := by decide +kernel
set_option maxRecDepth 1000000 in
theorem dL_law_909 : decode code 909 = .ok (.iaload, 1) := by decide +kernel
set_option maxRecDepth 1000000 in
theorem dL_law_910 : decode code 910 = .ok (.aload_n 0, 1) := by decide +kernel
set_option maxRecDepth 1000000 in
theorem dL_law_911 : decode code 911 = .ok (.iload_n 3, 1) := by decide +kernel
set_option maxRecDepth 1000000 in
theorem dL_law_912 : decode code 912 = .ok (.iconst 2, 1) := by decide +kernel
set_option maxRecDepth 1000000 in
theorem dL_law_913 : decode code 913 = .ok (.iadd, 1) := by decide +kernel
set_option maxRecDepth 1000000 in
theorem dL_law_914 : decode code 914 = .ok (.iaload, 1) := by decide +kernel
set_option maxRecDepth 1000000 in
theorem dL_law_915 : decode code 915 = .ok (.invokevirtual 99, 3) := by decide +kernel
set_option maxRecDepth 1000000 in
theorem dL_law_918 : decode code 918 = .ok (.pop, 1) := by decide +kernel
set_option maxRecDepth 1000000 in
theorem dL_law_919 : decode code 919 = .ok (.goto 557, 3) := by decide +kernel
set_option maxRecDepth 1000000 in
theorem dL_law_922 : decode code 922 = .ok (.aload_n 1, 1) := by decide +kernel
set_option maxRecDepth 1000000 in
theorem dL_law_923 : decode code 923 = .ok (.aload_n 0, 1) := by decide +kernel
set_option maxRecDepth 1000000 in
theorem dL_law_924 : decode code 924 = .ok (.iload_n 3, 1) := by decide +kernel
set_option maxRecDepth 1000000 in
theorem dL_law_925 : decode code 925 = .ok (.iconst 1, 1) := by decide +kernel
set_option maxRecDepth 1000000 in
theorem dL_law_926 : decode code 926 = .ok (.iadd, 1) := by decide +kernel
set_option maxRecDepth 1000000 in
theorem dL_law_927 : decode code 927 = .ok (.iaload, 1) := by decide +kernel
set_option maxRecDepth 1000000 in
theorem dL_law_928 : decode code 928 = .ok (.aload_n 0, 1) := by decide +kernel
set_option maxRecDepth 1000000 in
theorem dL_law_929 : decode code 929 = .ok (.iload_n 3, 1) := by decide +kernel
set_option maxRecDepth 1000000 in
theorem dL_law_930 : decode code 930 = .ok (.iconst 2, 1) := by decide +kernel
set_option maxRecDepth 1000000 in
theorem dL_law_931 : decode code 931 = .ok (.iadd, 1) := by decide +kernel
set_option maxRecDepth 1000000 in
theorem dL_law_932 : decode code 932 = .ok (.iaload, 1) := by decide +kernel
set_option maxRecDepth 1000000 in
theorem dL_law_933 : decode code 933 = .ok (.aload_n 0, 1) := by decide +kernel
set_option maxRecDepth 1000000 in
theorem dL_law_934 : decode code 934 = .ok (.iload_n 3, 1) := by decide +kernel
set_option maxRecDepth 1000000 in
theorem dL_law_935 : decode code 935 = .ok (.iconst 3, 1) := by decide +kernel
set_option maxRecDepth 1000000 in
theorem dL_law_936 : decode code 936 = .ok (.iadd, 1) := by decide +kernel
set_option maxRecDepth 1000000 in
theorem dL_law_937 : decode code 937 = .ok (.iaload, 1) := by decide +kernel
set_option maxRecDepth 1000000 in
theorem dL_law_938 : decode code 938 = .ok (.invokevirtual 100, 3) := by decide +kernel
set_option maxRecDepth 1000000 in
theorem dL_law_941 : decode code 941 = .ok (.pop, 1) := by decide +kernel
set_option maxRecDepth 1000000 in
theorem dL_law_942 : decode code 942 = .ok (.aload_n 2, 1) := by decide +kernel
set_option maxRecDepth 1000000 in
theorem dL_law_943 : decode code 943 = .ok (.aload_n 0, 1) := by decide +kernel
set_option maxRecDepth 1000000 in
theorem dL_law_944 : decode code 944 = .ok (.iload_n 3, 1) := by decide +kernel
set_option maxRecDepth 1000000 in
theorem dL_law_945 : decode code 945 = .ok (.iconst 1, 1) := by decide +kernel
set_option maxRecDepth 1000000 in
theorem dL_law_946 : decode code 946 = .ok (.iadd, 1) := by decide +kernel
set_option maxRecDepth 1000000 in
theorem dL_law_947 : decode code 947 = .ok (.iaload, 1) := by decide +kernel
set_option maxRecDepth 1000000 in
theorem dL_law_948 : decode code 948 = .ok (.aload_n 0, 1) := by decide +kernel
set_option maxRecDepth 1000000 in
theorem dL_law_949 : decode code 949 = .ok (.iload_n 3, 1) := by decide +kernel
set_option maxRecDepth 1000000 in
theorem dL_law_950 : decode code 950 = .ok (.iconst 2, 1) := by decide +kernel
set_option maxRecDepth 1000000 in
theorem dL_law_951 : decode code 951 = .ok (.iadd, 1) := by decide +kernel
set_option maxRecDepth 1000000 in
theorem dL_law_952 : decode code 952 = .ok (.iaload, 1) := by decide +kernel
set_option maxRecDepth 1000000 in
theorem dL_law_953 : decode code 953 = .ok (.aload_n 0, 1) := by decide +kernel
set_option maxRecDepth 1000000 in
theorem dL_law_954 : decode code 954 = .ok (.iload_n 3, 1) := by decide +kernel
set_option maxRecDepth 1000000 in
theorem dL_law_955 : decode code 955 = .ok (.iconst 3, 1) := by decide +kernel
set_option maxRecDepth 1000000 in
theorem dL_law_956 : decode code 956 = .ok (.iadd, 1) := by decide +kernel
set_option maxRecDepth 1000000 in
theorem dL_law_957 : decode code 957 = .ok (.iaload, 1) := by decide +kernel
set_option maxRecDepth 1000000 in
theorem dL_law_958 : decode code 958 = .ok (.invokevirtual 103, 3) := by decide +kernel
set_option maxRecDepth 1000000 in
theorem dL_law_961 : decode code 961 = .ok (.pop, 1) := by decide +kernel
set_option maxRecDepth 1000000 in
theorem dL_law_962 : decode code 962 = .ok (.goto 514, 3) := by decide +kernel
set_option maxRecDepth 1000000 in
theorem dL_law_965 : decode code 965 = .ok (.aload_n 1, 1) := by decide +kernel
set_option maxRecDepth 1000000 in
theorem dL_law_966 : decode code 966 = .ok (.aload_n 0, 1) := by decide +kernel
set_option maxRecDepth 1000000 in
theorem dL_law_967 : decode code 967 = .ok (.iload_n 3, 1) := by decide +kernel
set_option maxRecDepth 1000000 in
theorem dL_law_968 : decode code 968 = .ok (.iconst 1, 1) := by decide +kernel
set_option maxRecDepth 1000000 in
theorem dL_law_969 : decode code 969 = .ok (.iadd, 1) := by decide +kernel
set_option maxRecDepth 1000000 in
theorem dL_law_970 : decode code 970 = .ok (.iaload, 1) := by decide +kernel
set_option maxRecDepth 1000000 in
theorem dL_law_971 : decode code 971 = .ok (.invokevirtual 104, 3) := by decide +kernel
set_option maxRecDepth 1000000 in
theorem dL_law_974 : decode code 974 = .ok (.pop, 1) := by decide +kernel
set_option maxRecDepth 1000000 in
theorem dL_law_975 : decode code 975 = .ok (.aload_n 2, 1) := by decide +kernel
set_option maxRecDepth 1000000 in
theorem dL_law_976 : decode code 976 = .ok (.aload_n 0, 1) := by decide +kernel
set_option maxRecDepth 1000000 in
theorem dL_law_977 : decode code 977 = .ok (.iload_n 3, 1) := by decide +kernel
set_option maxRecDepth 1000000 in
theorem dL_law_978 : decode code 978 = .ok (.iconst 1, 1) := by decide +kernel
set_option maxRecDepth 1000000 in
theorem dL_law_979 : decode code 979 = .ok (.iadd, 1) := by decide +kernel
set_option maxRecDepth 1000000 in
theorem dL_law_980 : decode code 980 = .ok (.iaload, 1) := by decide +kernel
set_option maxRecDepth 1000000 in
theorem dL_law_981 : decode code 981 = .ok (.invokevirtual 107, 3) := by decide +kernel
set_option maxRecDepth 1000000 in
theorem dL_law_984 : decode code 984 = .ok (.pop, 1) := by decide +kernel
set_option maxRecDepth 1000000 in
theorem dL_law_985 : decode code 985 = .ok (.goto 491, 3) := by decide +kernel
set_option maxRecDepth 1000000 in
theorem dL_law_988 : decode code 988 = .ok (.aload_n 1, 1) := by decide +kernel
set_option maxRecDepth 1000000 in
theorem dL_law_989 : decode code 989 = .ok (.aload_n 0, 1) := by decide +kernel
set_option maxRecDepth 1000000 in
theorem dL_law_990 : decode code 990 = .ok (.iload_n 3, 1) := by decide +kernel
set_option maxRecDepth 1000000 in
theorem dL_law_991 : decode code 991 = .ok (.iconst 1, 1) := by decide +kernel
set_option maxRecDepth 1000000 in
theorem dL_law_992 : decode code 992 = .ok (.iadd, 1) := by decide +kernel
set_option maxRecDepth 1000000 in
theorem dL_law_993 : decode code 993 = .ok (.iaload, 1) := by decide +kernel
set_option maxRecDepth 1000000 in
theorem dL_law_994 : decode code 994 = .ok (.invokevirtual 108, 3) := by decide +kernel
set_option maxRecDepth 1000000 in
theorem dL_law_997 : decode code 997 = .ok (.pop, 1) := by decide +kernel
set_option maxRecDepth 1000000 in
theorem dL_law_998 : decode code 998 = .ok (.aload_n 2, 1) := by decide +kernel
set_option maxRecDepth 1000000 in
theorem dL_law_999 : decode code 999 = .ok (.aload_n 0, 1) := by decide +kernel
set_option maxRecDepth 1000000 in
theorem dL_law_1000 : decode code 1000 = .ok (.iload_n 3, 1) := by decide +kernel
set_option maxRecDepth 1000000 in
theorem dL_law_1001 : decode code 1001 = .ok (.iconst 1, 1) := by decide +kernel
set_option maxRecDepth 1000000 in
theorem dL_law_1002 : decode code 1002 = .ok (.iadd, 1) := by decide +kernel
set_option maxRecDepth 1000000 in
theorem dL_law_1003 : decode code 1003 = .ok (.iaload, 1) := by decide +kernel
set_option maxRecDepth 1000000 in
theorem dL_law_1004 : decode code 1004 = .ok (.invokevirtual 111, 3) := by decide +kernel
set_option maxRecDepth 1000000 in
theorem dL_law_1007 : decode code 1007 = .ok (.pop, 1) := by decide +kernel
set_option maxRecDepth 1000000 in
theorem dL_law_1008 : decode code 1008 = .ok (.goto 468, 3) := by decide +kernel
set_option maxRecDepth 1000000 in
theorem dL_law_1011 : decode code 1011 = .ok (.aload_n 1, 1) := by decide +kernel
set_option maxRecDepth 1000000 in
theorem dL_law_1012 : decode code 1012 = .ok (.aload_n 0, 1) := by decide +kernel
set_option maxRecDepth 1000000 in
theorem dL_law_1013 : decode code 1013 = .ok (.iload_n 3, 1) := by decide +kernel
set_option maxRecDepth 1000000 in
theorem dL_law_1014 : decode code 1014 = .ok (.iconst 1, 1) := by decide +kernel
set_option maxRecDepth 1000000 in
theorem dL_law_1015 : decode code 1015 = .ok (.iadd, 1) := by decide +kernel
set_option maxRecDepth 1000000 in
theorem dL_law_1016 : decode code 1016 = .ok (.iaload, 1) := by decide +kernel
set_option maxRecDepth 1000000 in
theorem dL_law_1017 : decode code 1017 = .ok (.aload_n 0, 1) := by decide +kernel
set_option maxRecDepth 1000000 in
theorem dL_law_1018 : decode code 1018 = .ok (.iload_n 3, 1) := by decide +kernel
set_option maxRecDepth 1000000 in
theorem dL_law_1019 : decode code 1019 = .ok (.iconst 2, 1) := by decide +kernel
set_option maxRecDepth 1000000 in
theorem dL_law_1020 : decode code 1020 = .ok (.iadd, 1) := by decide +kernel
set_option maxRecDepth 1000000 in
theorem dL_law_1021 : decode code 1021 = .ok (.iaload, 1) := by decide +kernel
set_option maxRecDepth 1000000 in
theorem dL_law_1022 : decode code 1022 = .ok (.aload_n 0, 1) := by decide +kernel
set_option maxRecDepth 1000000 in
theorem dL_law_1023 : decode code 1023 = .ok (.iload_n 3, 1) := by decide +kernel
set_option maxRecDepth 1000000 in
theorem dL_law_1024 : decode code 1024 = .ok (.iconst 3, 1) := by decide +kernel
set_option maxRecDepth 1000000 in
theorem dL_law_1025 : decode code 1025 = .ok (.iadd, 1) := by decide +kernel
set_option maxRecDepth 1000000 in
theorem dL_law_1026 : decode code 1026 = .ok (.iaload, 1) := by decide +kernel
set_option maxRecDepth 1000000 in
theorem dL_law_1027 : decode code 1027 = .ok (.invokevirtual 112, 3) := by decide +kernel
set_option maxRecDepth 1000000 in
theorem dL_law_1030 : decode code 1030 = .ok (.pop, 1) := by decide +kernel
set_option maxRecDepth 1000000 in
theorem dL_law_1031 : decode code 1031 = .ok (.aload_n 2, 1) := by decide +kernel
set_option maxRecDepth 1000000 in
theorem dL_law_1032 : decode code 1032 = .ok (.aload_n 0, 1) := by decide +kernel
set_option maxRecDepth 1000000 in
theorem dL_law_1033 : decode code 1033 = .ok (.iload_n 3, 1) := by decide +kernel
set_option maxRecDepth 1000000 in
theorem dL_law_1034 : decode code 1034 = .ok (.iconst 1, 1) := by decide +kernel
set_option maxRecDepth 1000000 in
theorem dL_law_1035 : decode code 1035 = .ok (.iadd, 1) := by decide +kernel
set_option maxRecDepth 1000000 in
theorem dL_law_1036 : decode code 1036 = .ok (.iaload, 1) := by decide +kernel
set_option maxRecDepth 1000000 in
theorem dL_law_1037 : decode code 1037 = .ok (.aload_n 0, 1) := by decide +kernel
set_option maxRecDepth 1000000 in
theorem dL_law_1038 : decode code 1038 = .ok (.iload_n 3, 1) := by decide +kernel
set_option maxRecDepth 1000000 in
theorem dL_law_1039 : decode code 1039 = .ok (.iconst 2, 1) := by decide +kernel
set_option maxRecDepth 1000000 in
theorem dL_law_1040 : decode code 1040 = .ok (.iadd, 1) := by decide +kernel
set_option maxRecDepth 1000000 in
theorem dL_law_1041 : decode code 1041 = .ok (.iaload, 1) := by decide +kernel
set_option maxRecDepth 1000000 in
theorem dL_law_1042 : decode code 1042 = .ok (.aload_n 0, 1) := by decide +kernel
set_option maxRecDepth 1000000 in
theorem dL_law_1043 : decode code 1043 = .ok (.iload_n 3, 1) := by decide +kernel
set_option maxRecDepth 1000000 in
theorem dL_law_1044 : decode code 1044 = .ok (.iconst 3, 1) := by decide +kernel
set_option maxRecDepth 1000000 in
theorem dL_law_1045 : decode code 1045 = .ok (.iadd, 1) := by decide +kernel
set_option maxRecDepth 1000000 in
theorem dL_law_1046 : decode code 1046 = .ok (.iaload, 1) := by decide +kernel
set_option maxRecDepth 1000000 in
theorem dL_law_1047 : decode code 1047 = .ok (.invokevirtual 115, 3) := by decide +kernel
set_option maxRecDepth 1000000 in
theorem dL_law_1050 : decode code 1050 = .ok (.pop, 1) := by decide +kernel
set_option maxRecDepth 1000000 in
theorem dL_law_1051 : decode code 1051 = .ok (.goto 425, 3) := by decide +kernel
set_option maxRecDepth 1000000 in
theorem dL_law_1054 : decode code 1054 = .ok (.aload_n 1, 1) := by decide +kernel
set_option maxRecDepth 1000000 in
theorem dL_law_1055 : decode code 1055 = .ok (.aload_n 0, 1) := by decide +kernel
set_option maxRecDepth 1000000 in
theorem dL_law_1056 : decode code 1056 = .ok (.iload_n 3, 1) := by decide +kernel
set_option maxRecDepth 1000000 in
theorem dL_law_1057 : decode code 1057 = .ok (.iconst 1, 1) := by decide +kernel
set_option maxRecDepth 1000000 in
theorem dL_law_1058 : decode code 1058 = .ok (.iadd, 1) := by decide +kernel
set_option maxRecDepth 1000000 in
theorem dL_law_1059 : decode code 1059 = .ok (.iaload, 1) := by decide +kernel
set_option maxRecDepth 1000000 in
theorem dL_law_1060 : decode code 1060 = .ok (.aload_n 0, 1) := by decide +kernel
set_option maxRecDepth 1000000 in
theorem dL_law_1061 : decode code 1061 = .ok (.iload_n 3, 1) := by decide +kernel
set_option maxRecDepth 1000000 in
theorem dL_law_1062 : decode code 1062 = .ok (.iconst 2, 1) := by decide +kernel
set_option maxRecDepth 1000000 in
theorem dL_law_1063 : decode code 1063 = .ok (.iadd, 1) := by decide +kernel
set_option maxRecDepth 1000000 in
theorem dL_law_1064 : decode code 1064 = .ok (.iaload, 1) := by decide +kernel
set_option maxRecDepth 1000000 in
theorem dL_law_1065 : decode code 1065 = .ok (.invokevirtual 116, 3) := by decide +kernel
set_option maxRecDepth 1000000 in
theorem dL_law_1068 : decode code 1068 = .ok (.pop, 1) := by decide +kernel
set_option maxRecDepth 1000000 in
theorem dL_law_1069 : decode code 1069 = .ok (.aload_n 2, 1) := by decide +kernel
set_option maxRecDepth 1000000 in
theorem dL_law_1070 : decode code 1070 = .ok (.aload_n 0, 1) := by decide +kernel
set_option maxRecDepth 1000000 in
theorem dL_law_1071 : decode code 1071 = .ok (.iload_n 3, 1) := by decide +kernel
set_option maxRecDepth 1000000 in
theorem dL_law_1072 : decode code 1072 = .ok (.iconst 1, 1) := by decide +kernel
set_option maxRecDepth 1000000 in
theorem dL_law_1073 : decode code 1073 = .ok (.iadd, 1) := by decide +kernel
set_option maxRecDepth 1000000 in
theorem dL_law_1074 : decode code 1074 = .ok (.iaload, 1) := by decide +kernel
set_option maxRecDepth 1000000 in
theorem dL_law_1075 : decode code 1075 = .ok (.aload_n 0, 1) := by decide +kernel
set_option maxRecDepth 1000000 in
theorem dL_law_1076 : decode code 1076 = .ok (.iload_n 3, 1) := by decide +kernel
set_option maxRecDepth 1000000 in
theorem dL_law_1077 : decode code 1077 = .ok (.iconst 2, 1) := by decide +kernel
set_option maxRecDepth 1000000 in
theorem dL_law_1078 : decode code 1078 = .ok (.iadd, 1) := by decide +kernel
set_option maxRecDepth 1000000 in
theorem dL_law_1079 : decode code 1079 = .ok (.iaload, 1) := by decide +kernel
set_option maxRecDepth 1000000 in
theorem dL_law_1080 : decode code 1080 = .ok (.invokevirtual 119, 3) := by decide +kernel
set_option maxRecDepth 1000000 in
theorem dL_law_1083 : decode code 1083 = .ok (.pop, 1) := by decide +kernel
set_option maxRecDepth 1000000 in
theorem dL_law_1084 : decode code 1084 = .ok (.goto 392, 3) := by decide +kernel
set_option maxRecDepth 1000000 in
theorem dL_law_1087 : decode code 1087 = .ok (.aload_n 1, 1) := by decide +kernel
set_option maxRecDepth 1000000 in
theorem dL_law_1088 : decode code 1088 = .ok (.aload_n 0, 1) := by decide +kernel
set_option maxRecDepth 1000000 in
theorem dL_law_1089 : decode code 1089 = .ok (.iload_n 3, 1) := by decide +kernel
set_option maxRecDepth 1000000 in
theorem dL_law_1090 : decode code 1090 = .ok (.iconst 1, 1) := by decide +kernel
set_option maxRecDepth 1000000 in
theorem dL_law_1091 : decode code 1091 = .ok (.iadd, 1) := by decide +kernel
set_option maxRecDepth 1000000 in
theorem dL_law_1092 : decode code 1092 = .ok (.iaload, 1) := by decide +kernel
set_option maxRecDepth 1000000 in
theorem dL_law_1093 : decode code 1093 = .ok (.aload_n 0, 1) := by decide +kernel
set_option maxRecDepth 1000000 in
theorem dL_law_1094 : decode code 1094 = .ok (.iload_n 3, 1) := by decide +kernel
set_option maxRecDepth 1000000 in
theorem dL_law_1095 : decode code 1095 = .ok (.iconst 2, 1) := by decide +kernel
set_option maxRecDepth 1000000 in
theorem dL_law_1096 : decode code 1096 = .ok (.iadd, 1) := by decide +kernel
set_option maxRecDepth 1000000 in
theorem dL_law_1097 : decode code 1097 = .ok (.iaload, 1) := by decide +kernel
set_option maxRecDepth 1000000 in
theorem dL_law_1098 : decode code 1098 = .ok (.aload_n 0, 1) := by decide +kernel
set_option maxRecDepth 1000000 in
theorem dL_law_1099 : decode code 1099 = .ok (.iload_n 3, 1) := by decide +kernel
set_option maxRecDepth 1000000 in
theorem dL_law_1100 : decode code 1100 = .ok (.iconst 3, 1) := by decide +kernel
set_option maxRecDepth 1000000 in
theorem dL_law_1101 : decode code 1101 = .ok (.iadd, 1) := by decide +kernel
set_option maxRecDepth 1000000 in
theorem dL_law_1102 : decode code 1102 = .ok (.iaload, 1) := by decide +kernel
set_option maxRecDepth 1000000 in
theorem dL_law_1103 : decode code 1103 = .ok (.invokevirtual 120, 3) := by decide +kernel
set_option maxRecDepth 1000000 in
theorem dL_law_1106 : decode code 1106 = .ok (.pop, 1) := by decide +kernel
set_option maxRecDepth 1000000 in
theorem dL_law_1107 : decode code 1107 = .ok (.aload_n 2, 1) := by decide +kernel
set_option maxRecDepth 1000000 in
theorem dL_law_1108 : decode code 1108 = .ok (.aload_n 0, 1) := by decide +kernel
set_option maxRecDepth 1000000 in
theorem dL_law_1109 : decode code 1109 = .ok (.iload_n 3, 1) := by decide +kernel
set_option maxRecDepth 1000000 in
theorem dL_law_1110 : decode code 1110 = .ok (.iconst 1, 1) := by decide +kernel
set_option maxRecDepth 1000000 in
theorem dL_law_1111 : decode code 1111 = .ok (.iadd, 1) := by decide +kernel
set_option maxRecDepth 1000000 in
theorem dL_law_1112 : decode code 1112 = .ok (.iaload, 1) := by decide +kernel
set_option maxRecDepth 1000000 in
theorem dL_law_1113 : decode code 1113 = .ok (.aload_n 0, 1) := by decide +kernel
set_option maxRecDepth 1000000 in
theorem dL_law_1114 : decode code 1114 = .ok (.iload_n 3, 1) := by decide +kernel
set_option maxRecDepth 1000000 in
theorem dL_law_1115 : decode code 1115 = .ok (.iconst 2, 1) := by decide +kernel
set_option maxRecDepth 1000000 in
theorem dL_law_1116 : decode code 1116 = .ok (.iadd, 1) := by decide +kernel
set_option maxRecDepth 1000000 in
theorem dL_law_1117 : decode code 1117 = .ok (.iaload, 1) := by decide +kernel
set_option maxRecDepth 1000000 in
theorem dL_law_1118 : decode code 1118 = .ok (.aload_n 0, 1) := by decide +kernel
set_option maxRecDepth 1000000 in
theorem dL_law_1119 : decode code 1119 = .ok (.iload_n 3, 1) := by decide +kernel
set_option maxRecDepth 1000000 in
theorem dL_law_1120 : decode code 1120 = .ok (.iconst 3, 1) := by decide +kernel
set_option maxRecDepth 1000000 in
theorem dL_law_1121 : decode code 1121 = .ok (.iadd, 1) := by decide +kernel
set_option maxRecDepth 1000000 in
theorem dL_law_1122 : decode code 1122 = .ok (.iaload, 1) := by decide +kernel
set_option maxRecDepth 1000000 in
theorem dL_law_1123 : decode code 1123 = .ok (.invokevirtual 123, 3) := by decide +kernel
set_option maxRecDepth 1000000 in
theorem dL_law_1126 : decode code 1126 = .ok (.pop, 1) := by decide +kernel
set_option maxRecDepth 1000000 in
theorem dL_law_1127 : decode code 1127 = .ok (.goto 349, 3) := by decide +kernel
set_option maxRecDepth 1000000 in
theorem dL_law_1130 : decode code 1130 = .ok (.aload_n 1, 1) := by decide +kernel
set_option maxRecDepth 1000000 in
theorem dL_law_1131 : decode code 1131 = .ok (.aload_n 0, 1) := by decide +kernel
set_option maxRecDepth 1000000 in
theorem dL_law_1132 : decode code 1132 = .ok (.iload_n 3, 1) := by decide +kernel
set_option maxRecDepth 1000000 in
theorem dL_law_1133 : decode code 1133 = .ok (.iconst 1, 1) := by decide +kernel
set_option maxRecDepth 1000000 in
theorem dL_law_1134 : decode code 1134 = .ok (.iadd, 1) := by decide +kernel
set_option maxRecDepth 1000000 in
theorem dL_law_1135 : decode code 1135 = .ok (.iaload, 1) := by decide +kernel
set_option maxRecDepth 1000000 in
theorem dL_law_1136 : decode code 1136 = .ok (.invokevirtual 124, 3) := by decide +kernel
set_option maxRecDepth 1000000 in
theorem dL_law_1139 : decode code 1139 = .ok (.pop, 1) := by decide +kernel
set_option maxRecDepth 1000000 in
theorem dL_law_1140 : decode code 1140 = .ok (.aload_n 2, 1) := by decide +kernel
set_option maxRecDepth 1000000 in
theorem dL_law_1141 : decode code 1141 = .ok (.aload_n 0, 1) := by decide +kernel
set_option maxRecDepth 1000000 in
theorem dL_law_1142 : decode code 1142 = .ok (.iload_n 3, 1) := by decide +kernel
set_option maxRecDepth 1000000 in
theorem dL_law_1143 : decode code 1143 = .ok (.iconst 1, 1) := by decide +kernel
set_option maxRecDepth 1000000 in
theorem dL_law_1144 : decode code 1144 = .ok (.iadd, 1) := by decide +kernel
set_option maxRecDepth 1000000 in
theorem dL_law_1145 : decode code 1145 = .ok (.iaload, 1) := by decide +kernel
set_option maxRecDepth 1000000 in
theorem dL_law_1146 : decode code 1146 = .ok (.invokevirtual 127, 3) := by decide +kernel
set_option maxRecDepth 1000000 in
theorem dL_law_1149 : decode code 1149 = .ok (.pop, 1) := by decide +kernel
set_option maxRecDepth 1000000 in
theorem dL_law_1150 : decode code 1150 = .ok (.goto 326, 3) := by decide +kernel
set_option maxRecDepth 1000000 in
theorem dL_law_1153 : decode code 1153 = .ok (.aload_n 1, 1) := by decide +kernel
set_option maxRecDepth 1000000 in
theorem dL_law_1154 : decode code 1154 = .ok (.aload_n 0, 1) := by decide +kernel
set_option maxRecDepth 1000000 in
theorem dL_law_1155 : decode code 1155 = .ok (.iload_n 3, 1) := by decide +kernel
set_option maxRecDepth 1000000 in
theorem dL_law_1156 : decode code 1156 = .ok (.iconst 1, 1) := by decide +kernel
set_option maxRecDepth 1000000 in
theorem dL_law_1157 : decode code 1157 = .ok (.iadd, 1) := by decide +kernel
set_option maxRecDepth 1000000 in
theorem dL_law_1158 : decode code 1158 = .ok (.iaload, 1) := by decide +kernel
set_option maxRecDepth 1000000 in
theorem dL_law_1159 : decode code 1159 = .ok (.invokevirtual 128, 3) := by decide +kernel
set_option maxRecDepth 1000000 in
theorem dL_law_1162 : decode code 1162 = .ok (.pop, 1) := by decide +kernel
set_option maxRecDepth 1000000 in
theorem dL_law_1163 : decode code 1163 = .ok (.aload_n 2, 1) := by decide +kernel
set_option maxRecDepth 1000000 in
theorem dL_law_1164 : decode code 1164 = .ok (.aload_n 0, 1) := by decide +kernel
set_option maxRecDepth 1000000 in
theorem dL_law_1165 : decode code 1165 = .ok (.iload_n 3, 1) := by decide +kernel
set_option maxRecDepth 1000000 in
theorem dL_law_1166 : decode code 1166 = .ok (.iconst 1, 1) := by decide +kernel
set_option maxRecDepth 1000000 in
theorem dL_law_1167 : decode code 1167 = .ok (.iadd, 1) := by decide +kernel
set_option maxRecDepth 1000000 in
theorem dL_law_1168 : decode code 1168 = .ok (.iaload, 1) := by decide +kernel
set_option maxRecDepth 1000000 in
theorem dL_law_1169 : decode code 1169 = .ok (.invokevirtual 131, 3) := by decide +kernel
set_option maxRecDepth 1000000 in
theorem dL_law_1172 : decode code 1172 = .ok (.pop, 1) := by decide +kernel
set_option maxRecDepth 1000000 in
theorem dL_law_1173 : decode code 1173 = .ok (.goto 303, 3) := by decide +kernel
set_option maxRecDepth 1000000 in
theorem dL_law_1176 : decode code 1176 = .ok (.aload_n 1, 1) := by decide +kernel
set_option maxRecDepth 1000000 in
theorem dL_law_1177 : decode code 1177 = .ok (.aload_n 0, 1) := by decide +kernel
set_option maxRecDepth 1000000 in
theorem dL_law_1178 : decode code 1178 = .ok (.iload_n 3, 1) := by decide +kernel
set_option maxRecDepth 1000000 in
theorem dL_law_1179 : decode code 1179 = .ok (.iconst 1, 1) := by decide +kernel
set_option maxRecDepth 1000000 in
theorem dL_law_1180 : decode code 1180 = .ok (.iadd, 1) := by decide +kernel
set_option maxRecDepth 1000000 in
theorem dL_law_1181 : decode code 1181 = .ok (.iaload, 1) := by decide +kernel
set_option maxRecDepth 1000000 in
theorem dL_law_1182 : decode code 1182 = .ok (.aload_n 0, 1) := by decide +kernel
set_option maxRecDepth 1000000 in
theorem dL_law_1183 : decode code 1183 = .ok (.iload_n 3, 1) := by decide +kernel
set_option maxRecDepth 1000000 in
theorem dL_law_1184 : decode code 1184 = .ok (.iconst 2, 1) := by decide +kernel
set_option maxRecDepth 1000000 in
theorem dL_law_1185 : decode code 1185 = .ok (.iadd, 1) := by decide +kernel
