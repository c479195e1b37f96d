theorem dL_law_977_g : (decode cL_law 977 = .ok (.iadd, 1)) ∧ (decode cL_law 978 = .ok (.iaload, 1)) ∧ (decode cL_law 979 = .ok (.invokevirtual 110, 3)) ∧ (decode cL_law 982 = .ok (.pop, 1)) ∧ (decode cL_law 983 = .ok (.aload_n 2, 1)) ∧ (decode cL_law 984 = .ok (.aload_n 0, 1)) ∧ (decode cL_law 985 = .ok (.iload 4, 2)) ∧ (decode cL_law 987 = .ok (.iconst 1, 1)) := by decide +kernel
theorem dL_law_977 : decode cL_law 977 = .ok (.iadd, 1) := dL_law_977_g.1
theorem dL_law_978 : decode cL_law 978 = .ok (.iaload, 1) := dL_law_977_g.2.1
theorem dL_law_979 : decode cL_law 979 = .ok (.invokevirtual 110, 3) := dL_law_977_g.2.2.1
theorem dL_law_982 : decode cL_law 982 = .ok (.pop, 1) := dL_law_977_g.2.2.2.1
theorem dL_law_983 : decode cL_law 983 = .ok (.aload_n 2, 1) := dL_law_977_g.2.2.2.2.1
theorem dL_law_984 : decode cL_law 984 = .ok (.aload_n 0, 1) := dL_law_977_g.2.2.2.2.2.1
theorem dL_law_985 : decode cL_law 985 = .ok (.iload 4, 2) := dL_law_977_g.2.2.2.2.2.2.1
theorem dL_law_987 : decode cL_law 987 = .ok (.iconst 1, 1) := dL_law_977_g.2.2.2.2.2.2.2
theorem dL_law_988_g : (decode cL_law 988 = .ok (.iadd, 1)) ∧ (decode cL_law 989 = .ok (.iaload, 1)) ∧ (decode cL_law 990 = .ok (.aload_n 0, 1)) ∧ (decode cL_law 991 = .ok (.iload 4, 2)) ∧ (decode cL_law 993 = .ok (.iconst 2, 1)) ∧ (decode cL_law 994 = .ok (.iadd, 1)) ∧ (decode cL_law 995 = .ok (.iaload, 1)) ∧ (decode cL_law 996 = .ok (.i2l, 1)) := by decide +kernel
theorem dL_law_988 : decode cL_law 988 = .ok (.iadd, 1) := dL_law_988_g.1
theorem dL_law_989 : decode cL_law 989 = .ok (.iaload, 1) := dL_law_988_g.2.1
theorem dL_law_990 : decode cL_law 990 = .ok (.aload_n 0, 1) := dL_law_988_g.2.2.1
theorem dL_law_991 : decode cL_law 991 = .ok (.iload 4, 2) := dL_law_988_g.2.2.2.1
theorem dL_law_993 : decode cL_law 993 = .ok (.iconst 2, 1) := dL_law_988_g.2.2.2.2.1
theorem dL_law_994 : decode cL_law 994 = .ok (.iadd, 1) := dL_law_988_g.2.2.2.2.2.1
theorem dL_law_995 : decode cL_law 995 = .ok (.iaload, 1) := dL_law_988_g.2.2.2.2.2.2.1
theorem dL_law_996 : decode cL_law 996 = .ok (.i2l, 1) := dL_law_988_g.2.2.2.2.2.2.2
theorem dL_law_997_g : (decode cL_law 997 = .ok (.bipush 32, 2)) ∧ (decode cL_law 999 = .ok (.lshl, 1)) ∧ (decode cL_law 1000 = .ok (.aload_n 0, 1)) ∧ (decode cL_law 1001 = .ok (.iload 4, 2)) ∧ (decode cL_law 1003 = .ok (.iconst 3, 1)) ∧ (decode cL_law 1004 = .ok (.iadd, 1)) ∧ (decode cL_law 1005 = .ok (.iaload, 1)) ∧ (decode cL_law 1006 = .ok (.i2l, 1)) := by decide +kernel
theorem dL_law_997 : decode cL_law 997 = .ok (.bipush 32, 2) := dL_law_997_g.1
theorem dL_law_999 : decode cL_law 999 = .ok (.lshl, 1) := dL_law_997_g.2.1
theorem dL_law_1000 : decode cL_law 1000 = .ok (.aload_n 0, 1) := dL_law_997_g.2.2.1
theorem dL_law_1001 : decode cL_law 1001 = .ok (.iload 4, 2) := dL_law_997_g.2.2.2.1
theorem dL_law_1003 : decode cL_law 1003 = .ok (.iconst 3, 1) := dL_law_997_g.2.2.2.2.1
theorem dL_law_1004 : decode cL_law 1004 = .ok (.iadd, 1) := dL_law_997_g.2.2.2.2.2.1
theorem dL_law_1005 : decode cL_law 1005 = .ok (.iaload, 1) := dL_law_997_g.2.2.2.2.2.2.1
theorem dL_law_1006 : decode cL_law 1006 = .ok (.i2l, 1) := dL_law_997_g.2.2.2.2.2.2.2
theorem dL_law_1007_g : (decode cL_law 1007 = .ok (.ldc2_w 108, 3)) ∧ (decode cL_law 1010 = .ok (.land, 1)) ∧ (decode cL_law 1011 = .ok (.lor, 1)) ∧ (decode cL_law 1012 = .ok (.aload_n 0, 1)) ∧ (decode cL_law 1013 = .ok (.iload 4, 2)) ∧ (decode cL_law 1015 = .ok (.iconst 4, 1)) ∧ (decode cL_law 1016 = .ok (.iadd, 1)) ∧ (decode cL_law 1017 = .ok (.iaload, 1)) := by decide +kernel
theorem dL_law_1007 : decode cL_law 1007 = .ok (.ldc2_w 108, 3) := dL_law_1007_g.1
theorem dL_law_1010 : decode cL_law 1010 = .ok (.land, 1) := dL_law_1007_g.2.1
theorem dL_law_1011 : decode cL_law 1011 = .ok (.lor, 1) := dL_law_1007_g.2.2.1
theorem dL_law_1012 : decode cL_law 1012 = .ok (.aload_n 0, 1) := dL_law_1007_g.2.2.2.1
theorem dL_law_1013 : decode cL_law 1013 = .ok (.iload 4, 2) := dL_law_1007_g.2.2.2.2.1
theorem dL_law_1015 : decode cL_law 1015 = .ok (.iconst 4, 1) := dL_law_1007_g.2.2.2.2.2.1
theorem dL_law_1016 : decode cL_law 1016 = .ok (.iadd, 1) := dL_law_1007_g.2.2.2.2.2.2.1
theorem dL_law_1017 : decode cL_law 1017 = .ok (.iaload, 1) := dL_law_1007_g.2.2.2.2.2.2.2
theorem dL_law_1018_g : (decode cL_law 1018 = .ok (.invokevirtual 114, 3)) ∧ (decode cL_law 1021 = .ok (.pop, 1)) ∧ (decode cL_law 1022 = .ok (.goto 599, 3)) ∧ (decode cL_law 1025 = .ok (.aload_n 1, 1)) ∧ (decode cL_law 1026 = .ok (.aload_n 0, 1)) ∧ (decode cL_law 1027 = .ok (.iload 4, 2)) ∧ (decode cL_law 1029 = .ok (.iconst 1, 1)) ∧ (decode cL_law 1030 = .ok (.iadd, 1)) := by decide +kernel
theorem dL_law_1018 : decode cL_law 1018 = .ok (.invokevirtual 114, 3) := dL_law_1018_g.1
theorem dL_law_1021 : decode cL_law 1021 = .ok (.pop, 1) := dL_law_1018_g.2.1
theorem dL_law_1022 : decode cL_law 1022 = .ok (.goto 599, 3) := dL_law_1018_g.2.2.1
theorem dL_law_1025 : decode cL_law 1025 = .ok (.aload_n 1, 1) := dL_law_1018_g.2.2.2.1
theorem dL_law_1026 : decode cL_law 1026 = .ok (.aload_n 0, 1) := dL_law_1018_g.2.2.2.2.1
theorem dL_law_1027 : decode cL_law 1027 = .ok (.iload 4, 2) := dL_law_1018_g.2.2.2.2.2.1
theorem dL_law_1029 : decode cL_law 1029 = .ok (.iconst 1, 1) := dL_law_1018_g.2.2.2.2.2.2.1
theorem dL_law_1030 : decode cL_law 1030 = .ok (.iadd, 1) := dL_law_1018_g.2.2.2.2.2.2.2
theorem dL_law_1031_g : (decode cL_law 1031 = .ok (.iaload, 1)) ∧ (decode cL_law 1032 = .ok (.aload_n 0, 1)) ∧ (decode cL_law 1033 = .ok (.iload 4, 2)) ∧ (decode cL_law 1035 = .ok (.iconst 2, 1)) ∧ (decode cL_law 1036 = .ok (.iadd, 1)) ∧ (decode cL_law 1037 = .ok (.iaload, 1)) ∧ (decode cL_law 1038 = .ok (.i2l, 1)) ∧ (decode cL_law 1039 = .ok (.bipush 32, 2)) := by decide +kernel
theorem dL_law_1031 : decode cL_law 1031 = .ok (.iaload, 1) := dL_law_1031_g.1
theorem dL_law_1032 : decode cL_law 1032 = .ok (.aload_n 0, 1) := dL_law_1031_g.2.1
theorem dL_law_1033 : decode cL_law 1033 = .ok (.iload 4, 2) := dL_law_1031_g.2.2.1
theorem dL_law_1035 : decode cL_law 1035 = .ok (.iconst 2, 1) := dL_law_1031_g.2.2.2.1
theorem dL_law_1036 : decode cL_law 1036 = .ok (.iadd, 1) := dL_law_1031_g.2.2.2.2.1
theorem dL_law_1037 : decode cL_law 1037 = .ok (.iaload, 1) := dL_law_1031_g.2.2.2.2.2.1
theorem dL_law_1038 : decode cL_law 1038 = .ok (.i2l, 1) := dL_law_1031_g.2.2.2.2.2.2.1
theorem dL_law_1039 : decode cL_law 1039 = .ok (.bipush 32, 2) := dL_law_1031_g.2.2.2.2.2.2.2
theorem dL_law_1041_g : (decode cL_law 1041 = .ok (.lshl, 1)) ∧ (decode cL_law 1042 = .ok (.aload_n 0, 1)) ∧ (decode cL_law 1043 = .ok (.iload 4, 2)) ∧ (decode cL_law 1045 = .ok (.iconst 3, 1)) ∧ (decode cL_law 1046 = .ok (.iadd, 1)) ∧ (decode cL_law 1047 = .ok (.iaload, 1)) ∧ (decode cL_law 1048 = .ok (.i2l, 1)) ∧ (decode cL_law 1049 = .ok (.ldc2_w 108, 3)) := by decide +kernel
theorem dL_law_1041 : decode cL_law 1041 = .ok (.lshl, 1) := dL_law_1041_g.1
theorem dL_law_1042 : decode cL_law 1042 = .ok (.aload_n 0, 1) := dL_law_1041_g.2.1
theorem dL_law_1043 : decode cL_law 1043 = .ok (.iload 4, 2) := dL_law_1041_g.2.2.1
theorem dL_law_1045 : decode cL_law 1045 = .ok (.iconst 3, 1) := dL_law_1041_g.2.2.2.1
theorem dL_law_1046 : decode cL_law 1046 = .ok (.iadd, 1) := dL_law_1041_g.2.2.2.2.1
theorem dL_law_1047 : decode cL_law 1047 = .ok (.iaload, 1) := dL_law_1041_g.2.2.2.2.2.1
theorem dL_law_1048 : decode cL_law 1048 = .ok (.i2l, 1) := dL_law_1041_g.2.2.2.2.2.2.1
theorem dL_law_1049 : decode cL_law 1049 = .ok (.ldc2_w 108, 3) := dL_law_1041_g.2.2.2.2.2.2.2
theorem dL_law_1052_g : (decode cL_law 1052 = .ok (.land, 1)) ∧ (decode cL_law 1053 = .ok (.lor, 1)) ∧ (decode cL_law 1054 = .ok (.aload_n 0, 1)) ∧ (decode cL_law 1055 = .ok (.iload 4, 2)) ∧ (decode cL_law 1057 = .ok (.iconst 4, 1)) ∧ (decode cL_law 1058 = .ok (.iadd, 1)) ∧ (decode cL_law 1059 = .ok (.iaload, 1)) ∧ (decode cL_law 1060 = .ok (.aload_n 0, 1)) := by decide +kernel
theorem dL_law_1052 : decode cL_law 1052 = .ok (.land, 1) := dL_law_1052_g.1
theorem dL_law_1053 : decode cL_law 1053 = .ok (.lor, 1) := dL_law_1052_g.2.1
theorem dL_law_1054 : decode cL_law 1054 = .ok (.aload_n 0, 1) := dL_law_1052_g.2.2.1
theorem dL_law_1055 : decode cL_law 1055 = .ok (.iload 4, 2) := dL_law_1052_g.2.2.2.1
theorem dL_law_1057 : decode cL_law 1057 = .ok (.iconst 4, 1) := dL_law_1052_g.2.2.2.2.1
theorem dL_law_1058 : decode cL_law 1058 = .ok (.iadd, 1) := dL_law_1052_g.2.2.2.2.2.1
theorem dL_law_1059 : decode cL_law 1059 = .ok (.iaload, 1) := dL_law_1052_g.2.2.2.2.2.2.1
theorem dL_law_1060 : decode cL_law 1060 = .ok (.aload_n 0, 1) := dL_law_1052_g.2.2.2.2.2.2.2
theorem dL_law_1061_g : (decode cL_law 1061 = .ok (.iload 4, 2)) ∧ (decode cL_law 1063 = .ok (.iconst 5, 1)) ∧ (decode cL_law 1064 = .ok (.iadd, 1)) ∧ (decode cL_law 1065 = .ok (.iaload, 1)) ∧ (decode cL_law 1066 = .ok (.invokevirtual 115, 3)) ∧ (decode cL_law 1069 = .ok (.pop, 1)) ∧ (decode cL_law 1070 = .ok (.aload_n 2, 1)) ∧ (decode cL_law 1071 = .ok (.aload_n 0, 1)) := by decide +kernel
theorem dL_law_1061 : decode cL_law 1061 = .ok (.iload 4, 2) := dL_law_1061_g.1
theorem dL_law_1063 : decode cL_law 1063 = .ok (.iconst 5, 1) := dL_law_1061_g.2.1
theorem dL_law_1064 : decode cL_law 1064 = .ok (.iadd, 1) := dL_law_1061_g.2.2.1
theorem dL_law_1065 : decode cL_law 1065 = .ok (.iaload, 1) := dL_law_1061_g.2.2.2.1
theorem dL_law_1066 : decode cL_law 1066 = .ok (.invokevirtual 115, 3) := dL_law_1061_g.2.2.2.2.1
theorem dL_law_1069 : decode cL_law 1069 = .ok (.pop, 1) := dL_law_1061_g.2.2.2.2.2.1
theorem dL_law_1070 : decode cL_law 1070 = .ok (.aload_n 2, 1) := dL_law_1061_g.2.2.2.2.2.2.1
theorem dL_law_1071 : decode cL_law 1071 = .ok (.aload_n 0, 1) := dL_law_1061_g.2.2.2.2.2.2.2
theorem dL_law_1072_g : (decode cL_law 1072 = .ok (.iload 4, 2)) ∧ (decode cL_law 1074 = .ok (.iconst 1, 1)) ∧ (decode cL_law 1075 = .ok (.iadd, 1)) ∧ (decode cL_law 1076 = .ok (.iaload, 1)) ∧ (decode cL_law 1077 = .ok (.aload_n 0, 1)) ∧ (decode cL_law 1078 = .ok (.iload 4, 2)) ∧ (decode cL_law 1080 = .ok (.iconst 2, 1)) ∧ (decode cL_law 1081 = .ok (.iadd, 1)) := by decide +kernel
theorem dL_law_1072 : decode cL_law 1072 = .ok (.iload 4, 2) := dL_law_1072_g.1
theorem dL_law_1074 : decode cL_law 1074 = .ok (.iconst 1, 1) := dL_law_1072_g.2.1
theorem dL_law_1075 : decode cL_law 1075 = .ok (.iadd, 1) := dL_law_1072_g.2.2.1
theorem dL_law_1076 : decode cL_law 1076 = .ok (.iaload, 1) := dL_law_1072_g.2.2.2.1
theorem dL_law_1077 : decode cL_law 1077 = .ok (.aload_n 0, 1) := dL_law_1072_g.2.2.2.2.1
theorem dL_law_1078 : decode cL_law 1078 = .ok (.iload 4, 2) := dL_law_1072_g.2.2.2.2.2.1
theorem dL_law_1080 : decode cL_law 1080 = .ok (.iconst 2, 1) := dL_law_1072_g.2.2.2.2.2.2.1
theorem dL_law_1081 : decode cL_law 1081 = .ok (.iadd, 1) := dL_law_1072_g.2.2.2.2.2.2.2
theorem dL_law_1082_g : (decode cL_law 1082 = .ok (.iaload, 1)) ∧ (decode cL_law 1083 = .ok (.i2l, 1)) ∧ (decode cL_law 1084 = .ok (.bipush 32, 2)) ∧ (decode cL_law 1086 = .ok (.lshl, 1)) ∧ (decode cL_law 1087 = .ok (.aload_n 0, 1)) ∧ (decode cL_law 1088 = .ok (.iload 4, 2)) ∧ (decode cL_law 1090 = .ok (.iconst 3, 1)) ∧ (decode cL_law 1091 = .ok (.iadd, 1)) := by decide +kernel
theorem dL_law_1082 : decode cL_law 1082 = .ok (.iaload, 1) := dL_law_1082_g.1
theorem dL_law_1083 : decode cL_law 1083 = .ok (.i2l, 1) := dL_law_1082_g.2.1
theorem dL_law_1084 : decode cL_law 1084 = .ok (.bipush 32, 2) := dL_law_1082_g.2.2.1
theorem dL_law_1086 : decode cL_law 1086 = .ok (.lshl, 1) := dL_law_1082_g.2.2.2.1
theorem dL_law_1087 : decode cL_law 1087 = .ok (.aload_n 0, 1) := dL_law_1082_g.2.2.2.2.1
theorem dL_law_1088 : decode cL_law 1088 = .ok (.iload 4, 2) := dL_law_1082_g.2.2.2.2.2.1
theorem dL_law_1090 : decode cL_law 1090 = .ok (.iconst 3, 1) := dL_law_1082_g.2.2.2.2.2.2.1
theorem dL_law_1091 : decode cL_law 1091 = .ok (.iadd, 1) := dL_law_1082_g.2.2.2.2.2.2.2
theorem dL_law_1092_g : (decode cL_law 1092 = .ok (.iaload, 1)) ∧ (decode cL_law 1093 = .ok (.i2l, 1)) ∧ (decode cL_law 1094 = .ok (.ldc2_w 108, 3)) ∧ (decode cL_law 1097 = .ok (.land, 1)) ∧ (decode cL_law 1098 = .ok (.lor, 1)) ∧ (decode cL_law 1099 = .ok (.aload_n 0, 1)) ∧ (decode cL_law 1100 = .ok (.iload 4, 2)) ∧ (decode cL_law 1102 = .ok (.iconst 4, 1)) := by decide +kernel
theorem dL_law_1092 : decode cL_law 1092 = .ok (.iaload, 1) := dL_law_1092_g.1
theorem dL_law_1093 : decode cL_law 1093 = .ok (.i2l, 1) := dL_law_1092_g.2.1
theorem dL_law_1094 : decode cL_law 1094 = .ok (.ldc2_w 108, 3) := dL_law_1092_g.2.2.1
theorem dL_law_1097 : decode cL_law 1097 = .ok (.land, 1) := dL_law_1092_g.2.2.2.1
theorem dL_law_1098 : decode cL_law 1098 = .ok (.lor, 1) := dL_law_1092_g.2.2.2.2.1
theorem dL_law_1099 : decode cL_law 1099 = .ok (.aload_n 0, 1) := dL_law_1092_g.2.2.2.2.2.1
theorem dL_law_1100 : decode cL_law 1100 = .ok (.iload 4, 2) := dL_law_1092_g.2.2.2.2.2.2.1
theorem dL_law_1102 : decode cL_law 1102 = .ok (.iconst 4, 1) := dL_law_1092_g.2.2.2.2.2.2.2
theorem dL_law_1103_g : (decode cL_law 1103 = .ok (.iadd, 1)) ∧ (decode cL_law 1104 = .ok (.iaload, 1)) ∧ (decode cL_law 1105 = .ok (.aload_n 0, 1)) ∧ (decode cL_law 1106 = .ok (.iload 4, 2)) ∧ (decode cL_law 1108 = .ok (.iconst 5, 1)) ∧ (decode cL_law 1109 = .ok (.iadd, 1)) ∧ (decode cL_law 1110 = .ok (.iaload, 1)) ∧ (decode cL_law 1111 = .ok (.invokevirtual 119, 3)) := by decide +kernel
theorem dL_law_1103 : decode cL_law 1103 = .ok (.iadd, 1) := dL_law_1103_g.1
theorem dL_law_1104 : decode cL_law 1104 = .ok (.iaload, 1) := dL_law_1103_g.2.1
theorem dL_law_1105 : decode cL_law 1105 = .ok (.aload_n 0, 1) := dL_law_1103_g.2.2.1
theorem dL_law_1106 : decode cL_law 1106 = .ok (.iload 4, 2) := dL_law_1103_g.2.2.2.1
theorem dL_law_1108 : decode cL_law 1108 = .ok (.iconst 5, 1) := dL_law_1103_g.2.2.2.2.1
theorem dL_law_1109 : decode cL_law 1109 = .ok (.iadd, 1) := dL_law_1103_g.2.2.2.2.2.1
theorem dL_law_1110 : decode cL_law 1110 = .ok (.iaload, 1) := dL_law_1103_g.2.2.2.2.2.2.1
theorem dL_law_1111 : decode cL_law 1111 = .ok (.invokevirtual 119, 3) := dL_law_1103_g.2.2.2.2.2.2.2
theorem dL_law_1114_g : (decode cL_law 1114 = .ok (.pop, 1)) ∧ (decode cL_law 1115 = .ok (.goto 506, 3)) ∧ (decode cL_law 1118 = .ok (.aload_n 1, 1)) ∧ (decode cL_law 1119 = .ok (.aload_n 0, 1)) ∧ (decode cL_law 1120 = .ok (.iload 4, 2)) ∧ (decode cL_law 1122 = .ok (.iconst 1, 1)) ∧ (decode cL_law 1123 = .ok (.iadd, 1)) ∧ (decode cL_law 1124 = .ok (.iaload, 1)) := by decide +kernel
theorem dL_law_1114 : decode cL_law 1114 = .ok (.pop, 1) := dL_law_1114_g.1
theorem dL_law_1115 : decode cL_law 1115 = .ok (.goto 506, 3) := dL_law_1114_g.2.1
theorem dL_law_1118 : decode cL_law 1118 = .ok (.aload_n 1, 1) := dL_law_1114_g.2.2.1
theorem dL_law_1119 : decode cL_law 1119 = .ok (.aload_n 0, 1) := dL_law_1114_g.2.2.2.1
theorem dL_law_1120 : decode cL_law 1120 = .ok (.iload 4, 2) := dL_law_1114_g.2.2.2.2.1
theorem dL_law_1122 : decode cL_law 1122 = .ok (.iconst 1, 1) := dL_law_1114_g.2.2.2.2.2.1
theorem dL_law_1123 : decode cL_law 1123 = .ok (.iadd, 1) := dL_law_1114_g.2.2.2.2.2.2.1
theorem dL_law_1124 : decode cL_law 1124 = .ok (.iaload, 1) := dL_law_1114_g.2.2.2.2.2.2.2
theorem dL_law_1125_g : (decode cL_law 1125 = .ok (.aload_n 0, 1)) ∧ (decode cL_law 1126 = .ok (.iload 4, 2)) ∧ (decode cL_law 1128 = .ok (.iconst 2, 1)) ∧ (decode cL_law 1129 = .ok (.iadd, 1)) ∧ (decode cL_law 1130 = .ok (.iaload, 1)) ∧ (decode cL_law 1131 = .ok (.aload_n 0, 1)) ∧ (decode cL_law 1132 = .ok (.iload 4, 2)) ∧ (decode cL_law 1134 = .ok (.iconst 3, 1)) := by decide +kernel
theorem dL_law_1125 : decode cL_law 1125 = .ok (.aload_n 0, 1) := dL_law_1125_g.1
theorem dL_law_1126 : decode cL_law 1126 = .ok (.iload 4, 2) := dL_law_1125_g.2.1
theorem dL_law_1128 : decode cL_law 1128 = .ok (.iconst 2, 1) := dL_law_1125_g.2.2.1
theorem dL_law_1129 : decode cL_law 1129 = .ok (.iadd, 1) := dL_law_1125_g.2.2.2.1
theorem dL_law_1130 : decode cL_law 1130 = .ok (.iaload, 1) := dL_law_1125_g.2.2.2.2.1
theorem dL_law_1131 : decode cL_law 1131 = .ok (.aload_n 0, 1) := dL_law_1125_g.2.2.2.2.2.1
theorem dL_law_1132 : decode cL_law 1132 = .ok (.iload 4, 2) := dL_law_1125_g.2.2.2.2.2.2.1
theorem dL_law_1134 : decode cL_law 1134 = .ok (.iconst 3, 1) := dL_law_1125_g.2.2.2.2.2.2.2
theorem dL_law_1135_g : (decode cL_law 1135 = .ok (.iadd, 1)) ∧ (decode cL_law 1136 = .ok (.iaload, 1)) ∧ (decode cL_law 1137 = .ok (.invokevirtual 120, 3)) ∧ (decode cL_law 1140 = .ok (.pop, 1)) ∧ (decode cL_law 1141 = .ok (.aload_n 2, 1)) ∧ (decode cL_law 1142 = .ok (.aload_n 0, 1)) ∧ (decode cL_law 1143 = .ok (.iload 4, 2)) ∧ (decode cL_law 1145 = .ok (.iconst 1, 1)) := by decide +kernel
theorem dL_law_1135 : decode cL_law 1135 = .ok (.iadd, 1) := dL_law_1135_g.1
theorem dL_law_1136 : decode cL_law 1136 = .ok (.iaload, 1) := dL_law_1135_g.2.1
theorem dL_law_1137 : decode cL_law 1137 = .ok (.invokevirtual 120, 3) := dL_law_1135_g.2.2.1
theorem dL_law_1140 : decode cL_law 1140 = .ok (.pop, 1) := dL_law_1135_g.2.2.2.1
theorem dL_law_1141 : decode cL_law 1141 = .ok (.aload_n 2, 1) := dL_law_1135_g.2.2.2.2.1
theorem dL_law_1142 : decode cL_law 1142 = .ok (.aload_n 0, 1) := dL_law_1135_g.2.2.2.2.2.1
theorem dL_law_1143 : decode cL_law 1143 = .ok (.iload 4, 2) := dL_law_1135_g.2.2.2.2.2.2.1
theorem dL_law_1145 : decode cL_law 1145 = .ok (.iconst 1, 1) := dL_law_1135_g.2.2.2.2.2.2.2
theorem dL_law_1146_g : (decode cL_law 1146 = .ok (.iadd, 1)) ∧ (decode cL_law 1147 = .ok (.iaload, 1)) ∧ (decode cL_law 1148 = .ok (.aload_n 0, 1)) ∧ (decode cL_law 1149 = .ok (.iload 4, 2)) ∧ (decode cL_law 1151 = .ok (.iconst 2, 1)) ∧ (decode cL_law 1152 = .ok (.iadd, 1)) ∧ (decode cL_law 1153 = .ok (.iaload, 1)) ∧ (decode cL_law 1154 = .ok (.aload_n 0, 1)) := by decide +kernel
theorem dL_law_1146 : decode cL_law 1146 = .ok (.iadd, 1) := dL_law_1146_g.1
theorem dL_law_1147 : decode cL_law 1147 = .ok (.iaload, 1) := dL_law_1146_g.2.1
theorem dL_law_1148 : decode cL_law 1148 = .ok (.aload_n 0, 1) := dL_law_1146_g.2.2.1
theorem dL_law_1149 : decode cL_law 1149 = .ok (.iload 4, 2) := dL_law_1146_g.2.2.2.1
theorem dL_law_1151 : decode cL_law 1151 = .ok (.iconst 2, 1) := dL_law_1146_g.2.2.2.2.1
theorem dL_law_1152 : decode cL_law 1152 = .ok (.iadd, 1) := dL_law_1146_g.2.2.2.2.2.1
theorem dL_law_1153 : decode cL_law 1153 = .ok (.iaload, 1) := dL_law_1146_g.2.2.2.2.2.2.1
theorem dL_law_1154 : decode cL_law 1154 = .ok (.aload_n 0, 1) := dL_law_1146_g.2.2.2.2.2.2.2
theorem dL_law_1155_g : (decode cL_law 1155 = .ok (.iload 4, 2)) ∧ (decode cL_law 1157 = .ok (.iconst 3, 1)) ∧ (decode cL_law 1158 = .ok (.iadd, 1)) ∧ (decode cL_law 1159 = .ok (.iaload, 1)) ∧ (decode cL_law 1160 = .ok (.invokevirtual 123, 3)) ∧ (decode cL_law 1163 = .ok (.pop, 1)) ∧ (decode cL_law 1164 = .ok (.goto 457, 3)) ∧ (decode cL_law 1167 = .ok (.aload_n 1, 1)) := by decide +kernel
theorem dL_law_1155 : decode cL_law 1155 = .ok (.iload 4, 2) := dL_law_1155_g.1
theorem dL_law_1157 : decode cL_law 1157 = .ok (.iconst 3, 1) := dL_law_1155_g.2.1
theorem dL_law_1158 : decode cL_law 1158 = .ok (.iadd, 1) := dL_law_1155_g.2.2.1
theorem dL_law_1159 : decode cL_law 1159 = .ok (.iaload, 1) := dL_law_1155_g.2.2.2.1
theorem dL_law_1160 : decode cL_law 1160 = .ok (.invokevirtual 123, 3) := dL_law_1155_g.2.2.2.2.1
theorem dL_law_1163 : decode cL_law 1163 = .ok (.pop, 1) := dL_law_1155_g.2.2.2.2.2.1
theorem dL_law_1164 : decode cL_law 1164 = .ok (.goto 457, 3) := dL_law_1155_g.2.2.2.2.2.2.1
theorem dL_law_1167 : decode cL_law 1167 = .ok (.aload_n 1, 1) := dL_law_1155_g.2.2.2.2.2.2.2
theorem dL_law_1168_g : (decode cL_law 1168 = .ok (.aload_n 0, 1)) ∧ (decode cL_law 1169 = .ok (.iload 4, 2)) ∧ (decode cL_law 1171 = .ok (.iconst 1, 1)) ∧ (decode cL_law 1172 = .ok (.iadd, 1)) ∧ (decode cL_law 1173 = .ok (.iaload, 1)) ∧ (decode cL_law 1174 = .ok (.aload_n 0, 1)) := by decide +kernel
theorem dL_law_1168 : decode cL_law 1168 = .ok (.aload_n 0, 1) := dL_law_1168_g.1
theorem dL_law_1169 : decode cL_law 1169 = .ok (.iload 4, 2) := dL_law_1168_g.2.1
theorem dL_law_1171 : decode cL_law 1171 = .ok (.iconst 1, 1) := dL_law_1168_g.2.2.1
theorem dL_law_1172 : decode cL_law 1172 = .ok (.iadd, 1) := dL_law_1168_g.2.2.2.1
theorem dL_law_1173 : decode cL_law 1173 = .ok (.iaload, 1) := dL_law_1168_g.2.2.2.2.1
theorem dL_law_1174 : decode cL_law 1174 = .ok (.aload_n 0, 1) := dL_law_1168_g.2.2.2.2.2

