theorem d_law_936 : decode code 936 = .ok (.ifCond .eq 5, 3) := by decide +kernel
theorem d_law_939 : decode code 939 = .ok (.iconst 0, 1) := by decide +kernel
theorem d_law_940 : decode code 940 = .ok (.ireturn, 1) := by decide +kernel
theorem d_law_941 : decode code 941 = .ok (.goto 431, 3) := by decide +kernel
theorem d_law_944 : decode code 944 = .ok (.aload_n 1, 1) := by decide +kernel
theorem d_law_945 : decode code 945 = .ok (.aload_n 0, 1) := by decide +kernel
theorem d_law_946 : decode code 946 = .ok (.iload 4, 2) := by decide +kernel
theorem d_law_948 : decode code 948 = .ok (.iconst 1, 1) := by decide +kernel
theorem d_law_949 : decode code 949 = .ok (.iadd, 1) := by decide +kernel
theorem d_law_950 : decode code 950 = .ok (.iaload, 1) := by decide +kernel
theorem d_law_951 : decode code 951 = .ok (.aload_n 0, 1) := by decide +kernel
theorem d_law_952 : decode code 952 = .ok (.iload 4, 2) := by decide +kernel
theorem d_law_954 : decode code 954 = .ok (.iconst 2, 1) := by decide +kernel
theorem d_law_955 : decode code 955 = .ok (.iadd, 1) := by decide +kernel
theorem d_law_956 : decode code 956 = .ok (.iaload, 1) := by decide +kernel
theorem d_law_957 : decode code 957 = .ok (.aload_n 0, 1) := by decide +kernel
theorem d_law_958 : decode code 958 = .ok (.iload 4, 2) := by decide +kernel
theorem d_law_960 : decode code 960 = .ok (.iconst 3, 1) := by decide +kernel
theorem d_law_961 : decode code 961 = .ok (.iadd, 1) := by decide +kernel
theorem d_law_962 : decode code 962 = .ok (.iaload, 1) := by decide +kernel
theorem d_law_963 : decode code 963 = .ok (.aload_n 0, 1) := by decide +kernel
theorem d_law_964 : decode code 964 = .ok (.iload 4, 2) := by decide +kernel
theorem d_law_966 : decode code 966 = .ok (.iconst 4, 1) := by decide +kernel
theorem d_law_967 : decode code 967 = .ok (.iadd, 1) := by decide +kernel
theorem d_law_968 : decode code 968 = .ok (.iaload, 1) := by decide +kernel
theorem d_law_969 : decode code 969 = .ok (.aload_n 0, 1) := by decide +kernel
theorem d_law_970 : decode code 970 = .ok (.iload 4, 2) := by decide +kernel
theorem d_law_972 : decode code 972 = .ok (.iconst 5, 1) := by decide +kernel
theorem d_law_973 : decode code 973 = .ok (.iadd, 1) := by decide +kernel
theorem d_law_974 : decode code 974 = .ok (.iaload, 1) := by decide +kernel
theorem d_law_975 : decode code 975 = .ok (.aload_n 3, 1) := by decide +kernel
theorem d_law_976 : decode code 976 = .ok (.invokestatic 111, 3) := by decide +kernel
theorem d_law_979 : decode code 979 = .ok (.istore 5, 2) := by decide +kernel
theorem d_law_981 : decode code 981 = .ok (.aload_n 2, 1) := by decide +kernel
theorem d_law_982 : decode code 982 = .ok (.aload_n 0, 1) := by decide +kernel
theorem d_law_983 : decode code 983 = .ok (.iload 4, 2) := by decide +kernel
theorem d_law_985 : decode code 985 = .ok (.iconst 1, 1) := by decide +kernel
theorem d_law_986 : decode code 986 = .ok (.iadd, 1) := by decide +kernel
theorem d_law_987 : decode code 987 = .ok (.iaload, 1) := by decide +kernel
theorem d_law_988 : decode code 988 = .ok (.aload_n 0, 1) := by decide +kernel
theorem d_law_989 : decode code 989 = .ok (.iload 4, 2) := by decide +kernel
theorem d_law_991 : decode code 991 = .ok (.iconst 2, 1) := by decide +kernel
theorem d_law_992 : decode code 992 = .ok (.iadd, 1) := by decide +kernel
theorem d_law_993 : decode code 993 = .ok (.iaload, 1) := by decide +kernel
theorem d_law_994 : decode code 994 = .ok (.aload_n 0, 1) := by decide +kernel
theorem d_law_995 : decode code 995 = .ok (.iload 4, 2) := by decide +kernel
theorem d_law_997 : decode code 997 = .ok (.iconst 3, 1) := by decide +kernel
theorem d_law_998 : decode code 998 = .ok (.iadd, 1) := by decide +kernel
theorem d_law_999 : decode code 999 = .ok (.iaload, 1) := by decide +kernel
theorem d_law_1000 : decode code 1000 = .ok (.aload_n 0, 1) := by decide +kernel
theorem d_law_1001 : decode code 1001 = .ok (.iload 4, 2) := by decide +kernel
theorem d_law_1003 : decode code 1003 = .ok (.iconst 4, 1) := by decide +kernel
theorem d_law_1004 : decode code 1004 = .ok (.iadd, 1) := by decide +kernel
theorem d_law_1005 : decode code 1005 = .ok (.iaload, 1) := by decide +kernel
theorem d_law_1006 : decode code 1006 = .ok (.aload_n 0, 1) := by decide +kernel
theorem d_law_1007 : decode code 1007 = .ok (.iload 4, 2) := by decide +kernel
theorem d_law_1009 : decode code 1009 = .ok (.iconst 5, 1) := by decide +kernel
theorem d_law_1010 : decode code 1010 = .ok (.iadd, 1) := by decide +kernel
theorem d_law_1011 : decode code 1011 = .ok (.iaload, 1) := by decide +kernel
theorem d_law_1012 : decode code 1012 = .ok (.invokevirtual 113, 3) := by decide +kernel
theorem d_law_1015 : decode code 1015 = .ok (.istore 6, 2) := by decide +kernel
theorem d_law_1017 : decode code 1017 = .ok (.aload_n 2, 1) := by decide +kernel
theorem d_law_1018 : decode code 1018 = .ok (.invokevirtual 84, 3) := by decide +kernel
theorem d_law_1021 : decode code 1021 = .ok (.iload 5, 2) := by decide +kernel
theorem d_law_1023 : decode code 1023 = .ok (.if_icmp .eq 5, 3) := by decide +kernel
theorem d_law_1026 : decode code 1026 = .ok (.iconst 0, 1) := by decide +kernel
theorem d_law_1027 : decode code 1027 = .ok (.ireturn, 1) := by decide +kernel
theorem d_law_1028 : decode code 1028 = .ok (.iload 5, 2) := by decide +kernel
theorem d_law_1030 : decode code 1030 = .ok (.ifCond .ne 15, 3) := by decide +kernel
theorem d_law_1033 : decode code 1033 = .ok (.aload_n 3, 1) := by decide +kernel
theorem d_law_1034 : decode code 1034 = .ok (.iconst 0, 1) := by decide +kernel
theorem d_law_1035 : decode code 1035 = .ok (.laload, 1) := by decide +kernel
theorem d_law_1036 : decode code 1036 = .ok (.iload 6, 2) := by decide +kernel
theorem d_law_1038 : decode code 1038 = .ok (.i2l, 1) := by decide +kernel
theorem d_law_1039 : decode code 1039 = .ok (.lcmp, 1) := by decide +kernel
theorem d_law_1040 : decode code 1040 = .ok (.ifCond .eq 5, 3) := by decide +kernel
theorem d_law_1043 : decode code 1043 = .ok (.iconst 0, 1) := by decide +kernel
theorem d_law_1044 : decode code 1044 = .ok (.ireturn, 1) := by decide +kernel
theorem d_law_1045 : decode code 1045 = .ok (.goto 327, 3) := by decide +kernel
theorem d_law_1048 : decode code 1048 = .ok (.aload_n 1, 1) := by decide +kernel
theorem d_law_1049 : decode code 1049 = .ok (.aload_n 0, 1) := by decide +kernel
theorem d_law_1050 : decode code 1050 = .ok (.iload 4, 2) := by decide +kernel
theorem d_law_1052 : decode code 1052 = .ok (.iconst 1, 1) := by decide +kernel
theorem d_law_1053 : decode code 1053 = .ok (.iadd, 1) := by decide +kernel
theorem d_law_1054 : decode code 1054 = .ok (.iaload, 1) := by decide +kernel
theorem d_law_1055 : decode code 1055 = .ok (.i2l, 1) := by decide +kernel
theorem d_law_1056 : decode code 1056 = .ok (.bipush 32, 2) := by decide +kernel
theorem d_law_1058 : decode code 1058 = .ok (.lshl, 1) := by decide +kernel
theorem d_law_1059 : decode code 1059 = .ok (.aload_n 0, 1) := by decide +kernel
theorem d_law_1060 : decode code 1060 = .ok (.iload 4, 2) := by decide +kernel
theorem d_law_1062 : decode code 1062 = .ok (.iconst 2, 1) := by decide +kernel
theorem d_law_1063 : decode code 1063 = .ok (.iadd, 1) := by decide +kernel
theorem d_law_1064 : decode code 1064 = .ok (.iaload, 1) := by decide +kernel
theorem d_law_1065 : decode code 1065 = .ok (.i2l, 1) := by decide +kernel
theorem d_law_1066 : decode code 1066 = .ok (.ldc2_w 114, 3) := by decide +kernel
theorem d_law_1069 : decode code 1069 = .ok (.land, 1) := by decide +kernel
theorem d_law_1070 : decode code 1070 = .ok (.lor, 1) := by decide +kernel
theorem d_law_1071 : decode code 1071 = .ok (.aload_n 0, 1) := by decide +kernel
theorem d_law_1072 : decode code 1072 = .ok (.iload 4, 2) := by decide +kernel
theorem d_law_1074 : decode code 1074 = .ok (.iconst 3, 1) := by decide +kernel
theorem d_law_1075 : decode code 1075 = .ok (.iadd, 1) := by decide +kernel
theorem d_law_1076 : decode code 1076 = .ok (.iaload, 1) := by decide +kernel
theorem d_law_1077 : decode code 1077 = .ok (.invokevirtual 116, 3) := by decide +kernel
theorem d_law_1080 : decode code 1080 = .ok (.aload_n 2, 1) := by decide +kernel
theorem d_law_1081 : decode code 1081 = .ok (.aload_n 0, 1) := by decide +kernel
theorem d_law_1082 : decode code 1082 = .ok (.iload 4, 2) := by decide +kernel
theorem d_law_1084 : decode code 1084 = .ok (.iconst 1, 1) := by decide +kernel
theorem d_law_1085 : decode code 1085 = .ok (.iadd, 1) := by decide +kernel
theorem d_law_1086 : decode code 1086 = .ok (.iaload, 1) := by decide +kernel
theorem d_law_1087 : decode code 1087 = .ok (.i2l, 1) := by decide +kernel
theorem d_law_1088 : decode code 1088 = .ok (.bipush 32, 2) := by decide +kernel
theorem d_law_1090 : decode code 1090 = .ok (.lshl, 1) := by decide +kernel
theorem d_law_1091 : decode code 1091 = .ok (.aload_n 0, 1) := by decide +kernel
theorem d_law_1092 : decode code 1092 = .ok (.iload 4, 2) := by decide +kernel
theorem d_law_1094 : decode code 1094 = .ok (.iconst 2, 1) := by decide +kernel
theorem d_law_1095 : decode code 1095 = .ok (.iadd, 1) := by decide +kernel
theorem d_law_1096 : decode code 1096 = .ok (.iaload, 1) := by decide +kernel
theorem d_law_1097 : decode code 1097 = .ok (.i2l, 1) := by decide +kernel
theorem d_law_1098 : decode code 1098 = .ok (.ldc2_w 114, 3) := by decide +kernel
theorem d_law_1101 : decode code 1101 = .ok (.land, 1) := by decide +kernel
theorem d_law_1102 : decode code 1102 = .ok (.lor, 1) := by decide +kernel
theorem d_law_1103 : decode code 1103 = .ok (.aload_n 0, 1) := by decide +kernel
theorem d_law_1104 : decode code 1104 = .ok (.iload 4, 2) := by decide +kernel
theorem d_law_1106 : decode code 1106 = .ok (.iconst 3, 1) := by decide +kernel
theorem d_law_1107 : decode code 1107 = .ok (.iadd, 1) := by decide +kernel
theorem d_law_1108 : decode code 1108 = .ok (.iaload, 1) := by decide +kernel
theorem d_law_1109 : decode code 1109 = .ok (.invokevirtual 120, 3) := by decide +kernel
theorem d_law_1112 : decode code 1112 = .ok (.if_icmp .eq 260, 3) := by decide +kernel
theorem d_law_1115 : decode code 1115 = .ok (.iconst 0, 1) := by decide +kernel
theorem d_law_1116 : decode code 1116 = .ok (.ireturn, 1) := by decide +kernel
theorem d_law_1117 : decode code 1117 = .ok (.aload_n 1, 1) := by decide +kernel
theorem d_law_1118 : decode code 1118 = .ok (.invokevirtual 121, 3) := by decide +kernel
theorem d_law_1121 : decode code 1121 = .ok (.aload_n 2, 1) := by decide +kernel
theorem d_law_1122 : decode code 1122 = .ok (.invokevirtual 124, 3) := by decide +kernel
theorem d_law_1125 : decode code 1125 = .ok (.if_icmp .eq 247, 3) := by decide +kernel
theorem d_law_1128 : decode code 1128 = .ok (.iconst 0, 1) := by decide +kernel
theorem d_law_1129 : decode code 1129 = .ok (.ireturn, 1) := by decide +kernel
theorem d_law_1130 : decode code 1130 = .ok (.aload_n 1, 1) := by decide +kernel
theorem d_law_1131 : decode code 1131 = .ok (.invokevirtual 125, 3) := by decide +kernel
theorem d_law_1134 : decode code 1134 = .ok (.aload_n 2, 1) := by decide +kernel
theorem d_law_1135 : decode code 1135 = .ok (.invokevirtual 128, 3) := by decide +kernel
theorem d_law_1138 : decode code 1138 = .ok (.if_icmp .eq 234, 3) := by decide +kernel
theorem d_law_1141 : decode code 1141 = .ok (.iconst 0, 1) := by decide +kernel
theorem d_law_1142 : decode code 1142 = .ok (.ireturn, 1) := by decide +kernel
theorem d_law_1143 : decode code 1143 = .ok (.aload_n 1, 1) := by decide +kernel
theorem d_law_1144 : decode code 1144 = .ok (.aload_n 0, 1) := by decide +kernel
theorem d_law_1145 : decode code 1145 = .ok (.iload 4, 2) := by decide +kernel
theorem d_law_1147 : decode code 1147 = .ok (.iconst 1, 1) := by decide +kernel
theorem d_law_1148 : decode code 1148 = .ok (.iadd, 1) := by decide +kernel
theorem d_law_1149 : decode code 1149 = .ok (.iaload, 1) := by decide +kernel
