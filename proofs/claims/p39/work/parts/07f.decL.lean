theorem dL_law_982 : decode cL_law 982 = .ok (.aload_n 0, 1) := o42 hcL_law rfl
theorem dL_law_983 : decode cL_law 983 = .ok (.iload_n 3, 1) := o29 hcL_law rfl
theorem dL_law_984 : decode cL_law 984 = .ok (.iconst 1, 1) := o4 hcL_law rfl
theorem dL_law_985 : decode cL_law 985 = .ok (.iadd, 1) := o96 hcL_law rfl
theorem dL_law_986 : decode cL_law 986 = .ok (.iaload, 1) := o46 hcL_law rfl
theorem dL_law_987 : decode cL_law 987 = .ok (.aload_n 0, 1) := o42 hcL_law rfl
theorem dL_law_988 : decode cL_law 988 = .ok (.iload_n 3, 1) := o29 hcL_law rfl
theorem dL_law_989 : decode cL_law 989 = .ok (.iconst 2, 1) := o5 hcL_law rfl
theorem dL_law_990 : decode cL_law 990 = .ok (.iadd, 1) := o96 hcL_law rfl
theorem dL_law_991 : decode cL_law 991 = .ok (.iaload, 1) := o46 hcL_law rfl
theorem dL_law_992 : decode cL_law 992 = .ok (.aload_n 0, 1) := o42 hcL_law rfl
theorem dL_law_993 : decode cL_law 993 = .ok (.iload_n 3, 1) := o29 hcL_law rfl
theorem dL_law_994 : decode cL_law 994 = .ok (.iconst 3, 1) := o6 hcL_law rfl
theorem dL_law_995 : decode cL_law 995 = .ok (.iadd, 1) := o96 hcL_law rfl
theorem dL_law_996 : decode cL_law 996 = .ok (.iaload, 1) := o46 hcL_law rfl
theorem dL_law_997 : decode cL_law 997 = .ok (.invokevirtual 112, 3) := o182 hcL_law rfl
theorem dL_law_1000 : decode cL_law 1000 = .ok (.pop2, 1) := o88 hcL_law rfl
theorem dL_law_1001 : decode cL_law 1001 = .ok (.aload_n 2, 1) := o44 hcL_law rfl
theorem dL_law_1002 : decode cL_law 1002 = .ok (.aload_n 0, 1) := o42 hcL_law rfl
theorem dL_law_1003 : decode cL_law 1003 = .ok (.iload_n 3, 1) := o29 hcL_law rfl
theorem dL_law_1004 : decode cL_law 1004 = .ok (.iconst 1, 1) := o4 hcL_law rfl
theorem dL_law_1005 : decode cL_law 1005 = .ok (.iadd, 1) := o96 hcL_law rfl
theorem dL_law_1006 : decode cL_law 1006 = .ok (.iaload, 1) := o46 hcL_law rfl
theorem dL_law_1007 : decode cL_law 1007 = .ok (.aload_n 0, 1) := o42 hcL_law rfl
theorem dL_law_1008 : decode cL_law 1008 = .ok (.iload_n 3, 1) := o29 hcL_law rfl
theorem dL_law_1009 : decode cL_law 1009 = .ok (.iconst 2, 1) := o5 hcL_law rfl
theorem dL_law_1010 : decode cL_law 1010 = .ok (.iadd, 1) := o96 hcL_law rfl
theorem dL_law_1011 : decode cL_law 1011 = .ok (.iaload, 1) := o46 hcL_law rfl
theorem dL_law_1012 : decode cL_law 1012 = .ok (.aload_n 0, 1) := o42 hcL_law rfl
theorem dL_law_1013 : decode cL_law 1013 = .ok (.iload_n 3, 1) := o29 hcL_law rfl
theorem dL_law_1014 : decode cL_law 1014 = .ok (.iconst 3, 1) := o6 hcL_law rfl
theorem dL_law_1015 : decode cL_law 1015 = .ok (.iadd, 1) := o96 hcL_law rfl
theorem dL_law_1016 : decode cL_law 1016 = .ok (.iaload, 1) := o46 hcL_law rfl
theorem dL_law_1017 : decode cL_law 1017 = .ok (.invokevirtual 116, 3) := o182 hcL_law rfl
theorem dL_law_1020 : decode cL_law 1020 = .ok (.pop2, 1) := o88 hcL_law rfl
theorem dL_law_1021 : decode cL_law 1021 = .ok (.goto 475, 3) := o167 hcL_law (a := 475) rfl rfl
theorem dL_law_1024 : decode cL_law 1024 = .ok (.aload_n 1, 1) := o43 hcL_law rfl
theorem dL_law_1025 : decode cL_law 1025 = .ok (.aload_n 0, 1) := o42 hcL_law rfl
theorem dL_law_1026 : decode cL_law 1026 = .ok (.iload_n 3, 1) := o29 hcL_law rfl
theorem dL_law_1027 : decode cL_law 1027 = .ok (.iconst 1, 1) := o4 hcL_law rfl
theorem dL_law_1028 : decode cL_law 1028 = .ok (.iadd, 1) := o96 hcL_law rfl
theorem dL_law_1029 : decode cL_law 1029 = .ok (.iaload, 1) := o46 hcL_law rfl
theorem dL_law_1030 : decode cL_law 1030 = .ok (.aload_n 0, 1) := o42 hcL_law rfl
theorem dL_law_1031 : decode cL_law 1031 = .ok (.iload_n 3, 1) := o29 hcL_law rfl
theorem dL_law_1032 : decode cL_law 1032 = .ok (.iconst 2, 1) := o5 hcL_law rfl
theorem dL_law_1033 : decode cL_law 1033 = .ok (.iadd, 1) := o96 hcL_law rfl
theorem dL_law_1034 : decode cL_law 1034 = .ok (.iaload, 1) := o46 hcL_law rfl
theorem dL_law_1035 : decode cL_law 1035 = .ok (.invokevirtual 117, 3) := o182 hcL_law rfl
theorem dL_law_1038 : decode cL_law 1038 = .ok (.pop2, 1) := o88 hcL_law rfl
theorem dL_law_1039 : decode cL_law 1039 = .ok (.aload_n 2, 1) := o44 hcL_law rfl
theorem dL_law_1040 : decode cL_law 1040 = .ok (.aload_n 0, 1) := o42 hcL_law rfl
theorem dL_law_1041 : decode cL_law 1041 = .ok (.iload_n 3, 1) := o29 hcL_law rfl
theorem dL_law_1042 : decode cL_law 1042 = .ok (.iconst 1, 1) := o4 hcL_law rfl
theorem dL_law_1043 : decode cL_law 1043 = .ok (.iadd, 1) := o96 hcL_law rfl
theorem dL_law_1044 : decode cL_law 1044 = .ok (.iaload, 1) := o46 hcL_law rfl
theorem dL_law_1045 : decode cL_law 1045 = .ok (.aload_n 0, 1) := o42 hcL_law rfl
theorem dL_law_1046 : decode cL_law 1046 = .ok (.iload_n 3, 1) := o29 hcL_law rfl
theorem dL_law_1047 : decode cL_law 1047 = .ok (.iconst 2, 1) := o5 hcL_law rfl
theorem dL_law_1048 : decode cL_law 1048 = .ok (.iadd, 1) := o96 hcL_law rfl
theorem dL_law_1049 : decode cL_law 1049 = .ok (.iaload, 1) := o46 hcL_law rfl
theorem dL_law_1050 : decode cL_law 1050 = .ok (.invokevirtual 121, 3) := o182 hcL_law rfl
theorem dL_law_1053 : decode cL_law 1053 = .ok (.pop2, 1) := o88 hcL_law rfl
theorem dL_law_1054 : decode cL_law 1054 = .ok (.goto 442, 3) := o167 hcL_law (a := 442) rfl rfl
theorem dL_law_1057 : decode cL_law 1057 = .ok (.aload_n 1, 1) := o43 hcL_law rfl
theorem dL_law_1058 : decode cL_law 1058 = .ok (.aload_n 0, 1) := o42 hcL_law rfl
theorem dL_law_1059 : decode cL_law 1059 = .ok (.iload_n 3, 1) := o29 hcL_law rfl
theorem dL_law_1060 : decode cL_law 1060 = .ok (.iconst 1, 1) := o4 hcL_law rfl
theorem dL_law_1061 : decode cL_law 1061 = .ok (.iadd, 1) := o96 hcL_law rfl
theorem dL_law_1062 : decode cL_law 1062 = .ok (.iaload, 1) := o46 hcL_law rfl
theorem dL_law_1063 : decode cL_law 1063 = .ok (.aload_n 0, 1) := o42 hcL_law rfl
theorem dL_law_1064 : decode cL_law 1064 = .ok (.iload_n 3, 1) := o29 hcL_law rfl
theorem dL_law_1065 : decode cL_law 1065 = .ok (.iconst 2, 1) := o5 hcL_law rfl
theorem dL_law_1066 : decode cL_law 1066 = .ok (.iadd, 1) := o96 hcL_law rfl
theorem dL_law_1067 : decode cL_law 1067 = .ok (.iaload, 1) := o46 hcL_law rfl
theorem dL_law_1068 : decode cL_law 1068 = .ok (.invokevirtual 122, 3) := o182 hcL_law rfl
theorem dL_law_1071 : decode cL_law 1071 = .ok (.pop, 1) := o87 hcL_law rfl
theorem dL_law_1072 : decode cL_law 1072 = .ok (.aload_n 2, 1) := o44 hcL_law rfl
theorem dL_law_1073 : decode cL_law 1073 = .ok (.aload_n 0, 1) := o42 hcL_law rfl
theorem dL_law_1074 : decode cL_law 1074 = .ok (.iload_n 3, 1) := o29 hcL_law rfl
theorem dL_law_1075 : decode cL_law 1075 = .ok (.iconst 1, 1) := o4 hcL_law rfl
theorem dL_law_1076 : decode cL_law 1076 = .ok (.iadd, 1) := o96 hcL_law rfl
theorem dL_law_1077 : decode cL_law 1077 = .ok (.iaload, 1) := o46 hcL_law rfl
theorem dL_law_1078 : decode cL_law 1078 = .ok (.aload_n 0, 1) := o42 hcL_law rfl
theorem dL_law_1079 : decode cL_law 1079 = .ok (.iload_n 3, 1) := o29 hcL_law rfl
theorem dL_law_1080 : decode cL_law 1080 = .ok (.iconst 2, 1) := o5 hcL_law rfl
theorem dL_law_1081 : decode cL_law 1081 = .ok (.iadd, 1) := o96 hcL_law rfl
theorem dL_law_1082 : decode cL_law 1082 = .ok (.iaload, 1) := o46 hcL_law rfl
theorem dL_law_1083 : decode cL_law 1083 = .ok (.invokevirtual 125, 3) := o182 hcL_law rfl
theorem dL_law_1086 : decode cL_law 1086 = .ok (.pop, 1) := o87 hcL_law rfl
theorem dL_law_1087 : decode cL_law 1087 = .ok (.goto 409, 3) := o167 hcL_law (a := 409) rfl rfl
theorem dL_law_1090 : decode cL_law 1090 = .ok (.aload_n 1, 1) := o43 hcL_law rfl
theorem dL_law_1091 : decode cL_law 1091 = .ok (.invokevirtual 126, 3) := o182 hcL_law rfl
theorem dL_law_1094 : decode cL_law 1094 = .ok (.pop, 1) := o87 hcL_law rfl
theorem dL_law_1095 : decode cL_law 1095 = .ok (.aload_n 2, 1) := o44 hcL_law rfl
theorem dL_law_1096 : decode cL_law 1096 = .ok (.invokevirtual 129, 3) := o182 hcL_law rfl
theorem dL_law_1099 : decode cL_law 1099 = .ok (.pop, 1) := o87 hcL_law rfl
theorem dL_law_1100 : decode cL_law 1100 = .ok (.goto 396, 3) := o167 hcL_law (a := 396) rfl rfl
theorem dL_law_1103 : decode cL_law 1103 = .ok (.aload_n 1, 1) := o43 hcL_law rfl
theorem dL_law_1104 : decode cL_law 1104 = .ok (.aload_n 0, 1) := o42 hcL_law rfl
theorem dL_law_1105 : decode cL_law 1105 = .ok (.iload_n 3, 1) := o29 hcL_law rfl
theorem dL_law_1106 : decode cL_law 1106 = .ok (.iconst 1, 1) := o4 hcL_law rfl
theorem dL_law_1107 : decode cL_law 1107 = .ok (.iadd, 1) := o96 hcL_law rfl
theorem dL_law_1108 : decode cL_law 1108 = .ok (.iaload, 1) := o46 hcL_law rfl
theorem dL_law_1109 : decode cL_law 1109 = .ok (.aload_n 0, 1) := o42 hcL_law rfl
theorem dL_law_1110 : decode cL_law 1110 = .ok (.iload_n 3, 1) := o29 hcL_law rfl
theorem dL_law_1111 : decode cL_law 1111 = .ok (.iconst 2, 1) := o5 hcL_law rfl
theorem dL_law_1112 : decode cL_law 1112 = .ok (.iadd, 1) := o96 hcL_law rfl
theorem dL_law_1113 : decode cL_law 1113 = .ok (.iaload, 1) := o46 hcL_law rfl
theorem dL_law_1114 : decode cL_law 1114 = .ok (.invokevirtual 130, 3) := o182 hcL_law rfl
theorem dL_law_1117 : decode cL_law 1117 = .ok (.pop, 1) := o87 hcL_law rfl
theorem dL_law_1118 : decode cL_law 1118 = .ok (.aload_n 2, 1) := o44 hcL_law rfl
theorem dL_law_1119 : decode cL_law 1119 = .ok (.aload_n 0, 1) := o42 hcL_law rfl
theorem dL_law_1120 : decode cL_law 1120 = .ok (.iload_n 3, 1) := o29 hcL_law rfl
theorem dL_law_1121 : decode cL_law 1121 = .ok (.iconst 1, 1) := o4 hcL_law rfl
theorem dL_law_1122 : decode cL_law 1122 = .ok (.iadd, 1) := o96 hcL_law rfl
theorem dL_law_1123 : decode cL_law 1123 = .ok (.iaload, 1) := o46 hcL_law rfl
theorem dL_law_1124 : decode cL_law 1124 = .ok (.aload_n 0, 1) := o42 hcL_law rfl
theorem dL_law_1125 : decode cL_law 1125 = .ok (.iload_n 3, 1) := o29 hcL_law rfl
theorem dL_law_1126 : decode cL_law 1126 = .ok (.iconst 2, 1) := o5 hcL_law rfl
theorem dL_law_1127 : decode cL_law 1127 = .ok (.iadd, 1) := o96 hcL_law rfl
theorem dL_law_1128 : decode cL_law 1128 = .ok (.iaload, 1) := o46 hcL_law rfl
theorem dL_law_1129 : decode cL_law 1129 = .ok (.invokevirtual 133, 3) := o182 hcL_law rfl
theorem dL_law_1132 : decode cL_law 1132 = .ok (.pop, 1) := o87 hcL_law rfl
theorem dL_law_1133 : decode cL_law 1133 = .ok (.goto 363, 3) := o167 hcL_law (a := 363) rfl rfl
theorem dL_law_1136 : decode cL_law 1136 = .ok (.aload_n 1, 1) := o43 hcL_law rfl
theorem dL_law_1137 : decode cL_law 1137 = .ok (.invokevirtual 134, 3) := o182 hcL_law rfl
theorem dL_law_1140 : decode cL_law 1140 = .ok (.pop, 1) := o87 hcL_law rfl
theorem dL_law_1141 : decode cL_law 1141 = .ok (.aload_n 2, 1) := o44 hcL_law rfl
theorem dL_law_1142 : decode cL_law 1142 = .ok (.invokevirtual 137, 3) := o182 hcL_law rfl
theorem dL_law_1145 : decode cL_law 1145 = .ok (.pop, 1) := o87 hcL_law rfl
