theorem dL_law_968_g : (decode cL_law 968 = .ok (.iaload, 1)) ∧ (decode cL_law 969 = .ok (.i2l, 1)) ∧ (decode cL_law 970 = .ok (.bipush 32, 2)) ∧ (decode cL_law 972 = .ok (.lshl, 1)) ∧ (decode cL_law 973 = .ok (.aload_n 0, 1)) ∧ (decode cL_law 974 = .ok (.iload 4, 2)) ∧ (decode cL_law 976 = .ok (.iconst 3, 1)) ∧ (decode cL_law 977 = .ok (.iadd, 1)) := by decide +kernel
theorem dL_law_968 : decode cL_law 968 = .ok (.iaload, 1) := dL_law_968_g.1
theorem dL_law_969 : decode cL_law 969 = .ok (.i2l, 1) := dL_law_968_g.2.1
theorem dL_law_970 : decode cL_law 970 = .ok (.bipush 32, 2) := dL_law_968_g.2.2.1
theorem dL_law_972 : decode cL_law 972 = .ok (.lshl, 1) := dL_law_968_g.2.2.2.1
theorem dL_law_973 : decode cL_law 973 = .ok (.aload_n 0, 1) := dL_law_968_g.2.2.2.2.1
theorem dL_law_974 : decode cL_law 974 = .ok (.iload 4, 2) := dL_law_968_g.2.2.2.2.2.1
theorem dL_law_976 : decode cL_law 976 = .ok (.iconst 3, 1) := dL_law_968_g.2.2.2.2.2.2.1
theorem dL_law_977 : decode cL_law 977 = .ok (.iadd, 1) := dL_law_968_g.2.2.2.2.2.2.2
theorem dL_law_978_g : (decode cL_law 978 = .ok (.iaload, 1)) ∧ (decode cL_law 979 = .ok (.i2l, 1)) ∧ (decode cL_law 980 = .ok (.ldc2_w 105, 3)) ∧ (decode cL_law 983 = .ok (.land, 1)) ∧ (decode cL_law 984 = .ok (.lor, 1)) ∧ (decode cL_law 985 = .ok (.aload_n 0, 1)) ∧ (decode cL_law 986 = .ok (.iload 4, 2)) ∧ (decode cL_law 988 = .ok (.iconst 4, 1)) := by decide +kernel
theorem dL_law_978 : decode cL_law 978 = .ok (.iaload, 1) := dL_law_978_g.1
theorem dL_law_979 : decode cL_law 979 = .ok (.i2l, 1) := dL_law_978_g.2.1
theorem dL_law_980 : decode cL_law 980 = .ok (.ldc2_w 105, 3) := dL_law_978_g.2.2.1
theorem dL_law_983 : decode cL_law 983 = .ok (.land, 1) := dL_law_978_g.2.2.2.1
theorem dL_law_984 : decode cL_law 984 = .ok (.lor, 1) := dL_law_978_g.2.2.2.2.1
theorem dL_law_985 : decode cL_law 985 = .ok (.aload_n 0, 1) := dL_law_978_g.2.2.2.2.2.1
theorem dL_law_986 : decode cL_law 986 = .ok (.iload 4, 2) := dL_law_978_g.2.2.2.2.2.2.1
theorem dL_law_988 : decode cL_law 988 = .ok (.iconst 4, 1) := dL_law_978_g.2.2.2.2.2.2.2
theorem dL_law_989_g : (decode cL_law 989 = .ok (.iadd, 1)) ∧ (decode cL_law 990 = .ok (.iaload, 1)) ∧ (decode cL_law 991 = .ok (.invokevirtual 111, 3)) ∧ (decode cL_law 994 = .ok (.pop, 1)) ∧ (decode cL_law 995 = .ok (.goto 599, 3)) ∧ (decode cL_law 998 = .ok (.aload_n 1, 1)) ∧ (decode cL_law 999 = .ok (.aload_n 0, 1)) ∧ (decode cL_law 1000 = .ok (.iload 4, 2)) := by decide +kernel
theorem dL_law_989 : decode cL_law 989 = .ok (.iadd, 1) := dL_law_989_g.1
theorem dL_law_990 : decode cL_law 990 = .ok (.iaload, 1) := dL_law_989_g.2.1
theorem dL_law_991 : decode cL_law 991 = .ok (.invokevirtual 111, 3) := dL_law_989_g.2.2.1
theorem dL_law_994 : decode cL_law 994 = .ok (.pop, 1) := dL_law_989_g.2.2.2.1
theorem dL_law_995 : decode cL_law 995 = .ok (.goto 599, 3) := dL_law_989_g.2.2.2.2.1
theorem dL_law_998 : decode cL_law 998 = .ok (.aload_n 1, 1) := dL_law_989_g.2.2.2.2.2.1
theorem dL_law_999 : decode cL_law 999 = .ok (.aload_n 0, 1) := dL_law_989_g.2.2.2.2.2.2.1
theorem dL_law_1000 : decode cL_law 1000 = .ok (.iload 4, 2) := dL_law_989_g.2.2.2.2.2.2.2
theorem dL_law_1002_g : (decode cL_law 1002 = .ok (.iconst 1, 1)) ∧ (decode cL_law 1003 = .ok (.iadd, 1)) ∧ (decode cL_law 1004 = .ok (.iaload, 1)) ∧ (decode cL_law 1005 = .ok (.aload_n 0, 1)) ∧ (decode cL_law 1006 = .ok (.iload 4, 2)) ∧ (decode cL_law 1008 = .ok (.iconst 2, 1)) ∧ (decode cL_law 1009 = .ok (.iadd, 1)) ∧ (decode cL_law 1010 = .ok (.iaload, 1)) := by decide +kernel
theorem dL_law_1002 : decode cL_law 1002 = .ok (.iconst 1, 1) := dL_law_1002_g.1
theorem dL_law_1003 : decode cL_law 1003 = .ok (.iadd, 1) := dL_law_1002_g.2.1
theorem dL_law_1004 : decode cL_law 1004 = .ok (.iaload, 1) := dL_law_1002_g.2.2.1
theorem dL_law_1005 : decode cL_law 1005 = .ok (.aload_n 0, 1) := dL_law_1002_g.2.2.2.1
theorem dL_law_1006 : decode cL_law 1006 = .ok (.iload 4, 2) := dL_law_1002_g.2.2.2.2.1
theorem dL_law_1008 : decode cL_law 1008 = .ok (.iconst 2, 1) := dL_law_1002_g.2.2.2.2.2.1
theorem dL_law_1009 : decode cL_law 1009 = .ok (.iadd, 1) := dL_law_1002_g.2.2.2.2.2.2.1
theorem dL_law_1010 : decode cL_law 1010 = .ok (.iaload, 1) := dL_law_1002_g.2.2.2.2.2.2.2
theorem dL_law_1011_g : (decode cL_law 1011 = .ok (.i2l, 1)) ∧ (decode cL_law 1012 = .ok (.bipush 32, 2)) ∧ (decode cL_law 1014 = .ok (.lshl, 1)) ∧ (decode cL_law 1015 = .ok (.aload_n 0, 1)) ∧ (decode cL_law 1016 = .ok (.iload 4, 2)) ∧ (decode cL_law 1018 = .ok (.iconst 3, 1)) ∧ (decode cL_law 1019 = .ok (.iadd, 1)) ∧ (decode cL_law 1020 = .ok (.iaload, 1)) := by decide +kernel
theorem dL_law_1011 : decode cL_law 1011 = .ok (.i2l, 1) := dL_law_1011_g.1
theorem dL_law_1012 : decode cL_law 1012 = .ok (.bipush 32, 2) := dL_law_1011_g.2.1
theorem dL_law_1014 : decode cL_law 1014 = .ok (.lshl, 1) := dL_law_1011_g.2.2.1
theorem dL_law_1015 : decode cL_law 1015 = .ok (.aload_n 0, 1) := dL_law_1011_g.2.2.2.1
theorem dL_law_1016 : decode cL_law 1016 = .ok (.iload 4, 2) := dL_law_1011_g.2.2.2.2.1
theorem dL_law_1018 : decode cL_law 1018 = .ok (.iconst 3, 1) := dL_law_1011_g.2.2.2.2.2.1
theorem dL_law_1019 : decode cL_law 1019 = .ok (.iadd, 1) := dL_law_1011_g.2.2.2.2.2.2.1
theorem dL_law_1020 : decode cL_law 1020 = .ok (.iaload, 1) := dL_law_1011_g.2.2.2.2.2.2.2
theorem dL_law_1021_g : (decode cL_law 1021 = .ok (.i2l, 1)) ∧ (decode cL_law 1022 = .ok (.ldc2_w 105, 3)) ∧ (decode cL_law 1025 = .ok (.land, 1)) ∧ (decode cL_law 1026 = .ok (.lor, 1)) ∧ (decode cL_law 1027 = .ok (.aload_n 0, 1)) ∧ (decode cL_law 1028 = .ok (.iload 4, 2)) ∧ (decode cL_law 1030 = .ok (.iconst 4, 1)) ∧ (decode cL_law 1031 = .ok (.iadd, 1)) := by decide +kernel
theorem dL_law_1021 : decode cL_law 1021 = .ok (.i2l, 1) := dL_law_1021_g.1
theorem dL_law_1022 : decode cL_law 1022 = .ok (.ldc2_w 105, 3) := dL_law_1021_g.2.1
theorem dL_law_1025 : decode cL_law 1025 = .ok (.land, 1) := dL_law_1021_g.2.2.1
theorem dL_law_1026 : decode cL_law 1026 = .ok (.lor, 1) := dL_law_1021_g.2.2.2.1
theorem dL_law_1027 : decode cL_law 1027 = .ok (.aload_n 0, 1) := dL_law_1021_g.2.2.2.2.1
theorem dL_law_1028 : decode cL_law 1028 = .ok (.iload 4, 2) := dL_law_1021_g.2.2.2.2.2.1
theorem dL_law_1030 : decode cL_law 1030 = .ok (.iconst 4, 1) := dL_law_1021_g.2.2.2.2.2.2.1
theorem dL_law_1031 : decode cL_law 1031 = .ok (.iadd, 1) := dL_law_1021_g.2.2.2.2.2.2.2
theorem dL_law_1032_g : (decode cL_law 1032 = .ok (.iaload, 1)) ∧ (decode cL_law 1033 = .ok (.aload_n 0, 1)) ∧ (decode cL_law 1034 = .ok (.iload 4, 2)) ∧ (decode cL_law 1036 = .ok (.iconst 5, 1)) ∧ (decode cL_law 1037 = .ok (.iadd, 1)) ∧ (decode cL_law 1038 = .ok (.iaload, 1)) ∧ (decode cL_law 1039 = .ok (.invokevirtual 112, 3)) ∧ (decode cL_law 1042 = .ok (.pop, 1)) := by decide +kernel
theorem dL_law_1032 : decode cL_law 1032 = .ok (.iaload, 1) := dL_law_1032_g.1
theorem dL_law_1033 : decode cL_law 1033 = .ok (.aload_n 0, 1) := dL_law_1032_g.2.1
theorem dL_law_1034 : decode cL_law 1034 = .ok (.iload 4, 2) := dL_law_1032_g.2.2.1
theorem dL_law_1036 : decode cL_law 1036 = .ok (.iconst 5, 1) := dL_law_1032_g.2.2.2.1
theorem dL_law_1037 : decode cL_law 1037 = .ok (.iadd, 1) := dL_law_1032_g.2.2.2.2.1
theorem dL_law_1038 : decode cL_law 1038 = .ok (.iaload, 1) := dL_law_1032_g.2.2.2.2.2.1
theorem dL_law_1039 : decode cL_law 1039 = .ok (.invokevirtual 112, 3) := dL_law_1032_g.2.2.2.2.2.2.1
theorem dL_law_1042 : decode cL_law 1042 = .ok (.pop, 1) := dL_law_1032_g.2.2.2.2.2.2.2
theorem dL_law_1043_g : (decode cL_law 1043 = .ok (.aload_n 2, 1)) ∧ (decode cL_law 1044 = .ok (.aload_n 0, 1)) ∧ (decode cL_law 1045 = .ok (.iload 4, 2)) ∧ (decode cL_law 1047 = .ok (.iconst 1, 1)) ∧ (decode cL_law 1048 = .ok (.iadd, 1)) ∧ (decode cL_law 1049 = .ok (.iaload, 1)) ∧ (decode cL_law 1050 = .ok (.aload_n 0, 1)) ∧ (decode cL_law 1051 = .ok (.iload 4, 2)) := by decide +kernel
theorem dL_law_1043 : decode cL_law 1043 = .ok (.aload_n 2, 1) := dL_law_1043_g.1
theorem dL_law_1044 : decode cL_law 1044 = .ok (.aload_n 0, 1) := dL_law_1043_g.2.1
theorem dL_law_1045 : decode cL_law 1045 = .ok (.iload 4, 2) := dL_law_1043_g.2.2.1
theorem dL_law_1047 : decode cL_law 1047 = .ok (.iconst 1, 1) := dL_law_1043_g.2.2.2.1
theorem dL_law_1048 : decode cL_law 1048 = .ok (.iadd, 1) := dL_law_1043_g.2.2.2.2.1
theorem dL_law_1049 : decode cL_law 1049 = .ok (.iaload, 1) := dL_law_1043_g.2.2.2.2.2.1
theorem dL_law_1050 : decode cL_law 1050 = .ok (.aload_n 0, 1) := dL_law_1043_g.2.2.2.2.2.2.1
theorem dL_law_1051 : decode cL_law 1051 = .ok (.iload 4, 2) := dL_law_1043_g.2.2.2.2.2.2.2
theorem dL_law_1053_g : (decode cL_law 1053 = .ok (.iconst 2, 1)) ∧ (decode cL_law 1054 = .ok (.iadd, 1)) ∧ (decode cL_law 1055 = .ok (.iaload, 1)) ∧ (decode cL_law 1056 = .ok (.i2l, 1)) ∧ (decode cL_law 1057 = .ok (.bipush 32, 2)) ∧ (decode cL_law 1059 = .ok (.lshl, 1)) ∧ (decode cL_law 1060 = .ok (.aload_n 0, 1)) ∧ (decode cL_law 1061 = .ok (.iload 4, 2)) := by decide +kernel
theorem dL_law_1053 : decode cL_law 1053 = .ok (.iconst 2, 1) := dL_law_1053_g.1
theorem dL_law_1054 : decode cL_law 1054 = .ok (.iadd, 1) := dL_law_1053_g.2.1
theorem dL_law_1055 : decode cL_law 1055 = .ok (.iaload, 1) := dL_law_1053_g.2.2.1
theorem dL_law_1056 : decode cL_law 1056 = .ok (.i2l, 1) := dL_law_1053_g.2.2.2.1
theorem dL_law_1057 : decode cL_law 1057 = .ok (.bipush 32, 2) := dL_law_1053_g.2.2.2.2.1
theorem dL_law_1059 : decode cL_law 1059 = .ok (.lshl, 1) := dL_law_1053_g.2.2.2.2.2.1
theorem dL_law_1060 : decode cL_law 1060 = .ok (.aload_n 0, 1) := dL_law_1053_g.2.2.2.2.2.2.1
theorem dL_law_1061 : decode cL_law 1061 = .ok (.iload 4, 2) := dL_law_1053_g.2.2.2.2.2.2.2
theorem dL_law_1063_g : (decode cL_law 1063 = .ok (.iconst 3, 1)) ∧ (decode cL_law 1064 = .ok (.iadd, 1)) ∧ (decode cL_law 1065 = .ok (.iaload, 1)) ∧ (decode cL_law 1066 = .ok (.i2l, 1)) ∧ (decode cL_law 1067 = .ok (.ldc2_w 105, 3)) ∧ (decode cL_law 1070 = .ok (.land, 1)) ∧ (decode cL_law 1071 = .ok (.lor, 1)) ∧ (decode cL_law 1072 = .ok (.aload_n 0, 1)) := by decide +kernel
theorem dL_law_1063 : decode cL_law 1063 = .ok (.iconst 3, 1) := dL_law_1063_g.1
theorem dL_law_1064 : decode cL_law 1064 = .ok (.iadd, 1) := dL_law_1063_g.2.1
theorem dL_law_1065 : decode cL_law 1065 = .ok (.iaload, 1) := dL_law_1063_g.2.2.1
theorem dL_law_1066 : decode cL_law 1066 = .ok (.i2l, 1) := dL_law_1063_g.2.2.2.1
theorem dL_law_1067 : decode cL_law 1067 = .ok (.ldc2_w 105, 3) := dL_law_1063_g.2.2.2.2.1
theorem dL_law_1070 : decode cL_law 1070 = .ok (.land, 1) := dL_law_1063_g.2.2.2.2.2.1
theorem dL_law_1071 : decode cL_law 1071 = .ok (.lor, 1) := dL_law_1063_g.2.2.2.2.2.2.1
theorem dL_law_1072 : decode cL_law 1072 = .ok (.aload_n 0, 1) := dL_law_1063_g.2.2.2.2.2.2.2
theorem dL_law_1073_g : (decode cL_law 1073 = .ok (.iload 4, 2)) ∧ (decode cL_law 1075 = .ok (.iconst 4, 1)) ∧ (decode cL_law 1076 = .ok (.iadd, 1)) ∧ (decode cL_law 1077 = .ok (.iaload, 1)) ∧ (decode cL_law 1078 = .ok (.aload_n 0, 1)) ∧ (decode cL_law 1079 = .ok (.iload 4, 2)) ∧ (decode cL_law 1081 = .ok (.iconst 5, 1)) ∧ (decode cL_law 1082 = .ok (.iadd, 1)) := by decide +kernel
theorem dL_law_1073 : decode cL_law 1073 = .ok (.iload 4, 2) := dL_law_1073_g.1
theorem dL_law_1075 : decode cL_law 1075 = .ok (.iconst 4, 1) := dL_law_1073_g.2.1
theorem dL_law_1076 : decode cL_law 1076 = .ok (.iadd, 1) := dL_law_1073_g.2.2.1
theorem dL_law_1077 : decode cL_law 1077 = .ok (.iaload, 1) := dL_law_1073_g.2.2.2.1
theorem dL_law_1078 : decode cL_law 1078 = .ok (.aload_n 0, 1) := dL_law_1073_g.2.2.2.2.1
theorem dL_law_1079 : decode cL_law 1079 = .ok (.iload 4, 2) := dL_law_1073_g.2.2.2.2.2.1
theorem dL_law_1081 : decode cL_law 1081 = .ok (.iconst 5, 1) := dL_law_1073_g.2.2.2.2.2.2.1
theorem dL_law_1082 : decode cL_law 1082 = .ok (.iadd, 1) := dL_law_1073_g.2.2.2.2.2.2.2
theorem dL_law_1083_g : (decode cL_law 1083 = .ok (.iaload, 1)) ∧ (decode cL_law 1084 = .ok (.invokevirtual 116, 3)) ∧ (decode cL_law 1087 = .ok (.pop, 1)) ∧ (decode cL_law 1088 = .ok (.goto 506, 3)) ∧ (decode cL_law 1091 = .ok (.aload_n 1, 1)) ∧ (decode cL_law 1092 = .ok (.aload_n 0, 1)) ∧ (decode cL_law 1093 = .ok (.iload 4, 2)) ∧ (decode cL_law 1095 = .ok (.iconst 1, 1)) := by decide +kernel
theorem dL_law_1083 : decode cL_law 1083 = .ok (.iaload, 1) := dL_law_1083_g.1
theorem dL_law_1084 : decode cL_law 1084 = .ok (.invokevirtual 116, 3) := dL_law_1083_g.2.1
theorem dL_law_1087 : decode cL_law 1087 = .ok (.pop, 1) := dL_law_1083_g.2.2.1
theorem dL_law_1088 : decode cL_law 1088 = .ok (.goto 506, 3) := dL_law_1083_g.2.2.2.1
theorem dL_law_1091 : decode cL_law 1091 = .ok (.aload_n 1, 1) := dL_law_1083_g.2.2.2.2.1
theorem dL_law_1092 : decode cL_law 1092 = .ok (.aload_n 0, 1) := dL_law_1083_g.2.2.2.2.2.1
theorem dL_law_1093 : decode cL_law 1093 = .ok (.iload 4, 2) := dL_law_1083_g.2.2.2.2.2.2.1
theorem dL_law_1095 : decode cL_law 1095 = .ok (.iconst 1, 1) := dL_law_1083_g.2.2.2.2.2.2.2
theorem dL_law_1096_g : (decode cL_law 1096 = .ok (.iadd, 1)) ∧ (decode cL_law 1097 = .ok (.iaload, 1)) ∧ (decode cL_law 1098 = .ok (.aload_n 0, 1)) ∧ (decode cL_law 1099 = .ok (.iload 4, 2)) ∧ (decode cL_law 1101 = .ok (.iconst 2, 1)) ∧ (decode cL_law 1102 = .ok (.iadd, 1)) ∧ (decode cL_law 1103 = .ok (.iaload, 1)) ∧ (decode cL_law 1104 = .ok (.aload_n 0, 1)) := by decide +kernel
theorem dL_law_1096 : decode cL_law 1096 = .ok (.iadd, 1) := dL_law_1096_g.1
theorem dL_law_1097 : decode cL_law 1097 = .ok (.iaload, 1) := dL_law_1096_g.2.1
theorem dL_law_1098 : decode cL_law 1098 = .ok (.aload_n 0, 1) := dL_law_1096_g.2.2.1
theorem dL_law_1099 : decode cL_law 1099 = .ok (.iload 4, 2) := dL_law_1096_g.2.2.2.1
theorem dL_law_1101 : decode cL_law 1101 = .ok (.iconst 2, 1) := dL_law_1096_g.2.2.2.2.1
theorem dL_law_1102 : decode cL_law 1102 = .ok (.iadd, 1) := dL_law_1096_g.2.2.2.2.2.1
theorem dL_law_1103 : decode cL_law 1103 = .ok (.iaload, 1) := dL_law_1096_g.2.2.2.2.2.2.1
theorem dL_law_1104 : decode cL_law 1104 = .ok (.aload_n 0, 1) := dL_law_1096_g.2.2.2.2.2.2.2
theorem dL_law_1105_g : (decode cL_law 1105 = .ok (.iload 4, 2)) ∧ (decode cL_law 1107 = .ok (.iconst 3, 1)) ∧ (decode cL_law 1108 = .ok (.iadd, 1)) ∧ (decode cL_law 1109 = .ok (.iaload, 1)) ∧ (decode cL_law 1110 = .ok (.invokevirtual 117, 3)) ∧ (decode cL_law 1113 = .ok (.pop, 1)) ∧ (decode cL_law 1114 = .ok (.aload_n 2, 1)) ∧ (decode cL_law 1115 = .ok (.aload_n 0, 1)) := by decide +kernel
theorem dL_law_1105 : decode cL_law 1105 = .ok (.iload 4, 2) := dL_law_1105_g.1
theorem dL_law_1107 : decode cL_law 1107 = .ok (.iconst 3, 1) := dL_law_1105_g.2.1
theorem dL_law_1108 : decode cL_law 1108 = .ok (.iadd, 1) := dL_law_1105_g.2.2.1
theorem dL_law_1109 : decode cL_law 1109 = .ok (.iaload, 1) := dL_law_1105_g.2.2.2.1
theorem dL_law_1110 : decode cL_law 1110 = .ok (.invokevirtual 117, 3) := dL_law_1105_g.2.2.2.2.1
theorem dL_law_1113 : decode cL_law 1113 = .ok (.pop, 1) := dL_law_1105_g.2.2.2.2.2.1
theorem dL_law_1114 : decode cL_law 1114 = .ok (.aload_n 2, 1) := dL_law_1105_g.2.2.2.2.2.2.1
theorem dL_law_1115 : decode cL_law 1115 = .ok (.aload_n 0, 1) := dL_law_1105_g.2.2.2.2.2.2.2
theorem dL_law_1116_g : (decode cL_law 1116 = .ok (.iload 4, 2)) ∧ (decode cL_law 1118 = .ok (.iconst 1, 1)) ∧ (decode cL_law 1119 = .ok (.iadd, 1)) ∧ (decode cL_law 1120 = .ok (.iaload, 1)) ∧ (decode cL_law 1121 = .ok (.aload_n 0, 1)) ∧ (decode cL_law 1122 = .ok (.iload 4, 2)) ∧ (decode cL_law 1124 = .ok (.iconst 2, 1)) ∧ (decode cL_law 1125 = .ok (.iadd, 1)) := by decide +kernel
theorem dL_law_1116 : decode cL_law 1116 = .ok (.iload 4, 2) := dL_law_1116_g.1
theorem dL_law_1118 : decode cL_law 1118 = .ok (.iconst 1, 1) := dL_law_1116_g.2.1
theorem dL_law_1119 : decode cL_law 1119 = .ok (.iadd, 1) := dL_law_1116_g.2.2.1
theorem dL_law_1120 : decode cL_law 1120 = .ok (.iaload, 1) := dL_law_1116_g.2.2.2.1
theorem dL_law_1121 : decode cL_law 1121 = .ok (.aload_n 0, 1) := dL_law_1116_g.2.2.2.2.1
theorem dL_law_1122 : decode cL_law 1122 = .ok (.iload 4, 2) := dL_law_1116_g.2.2.2.2.2.1
theorem dL_law_1124 : decode cL_law 1124 = .ok (.iconst 2, 1) := dL_law_1116_g.2.2.2.2.2.2.1
theorem dL_law_1125 : decode cL_law 1125 = .ok (.iadd, 1) := dL_law_1116_g.2.2.2.2.2.2.2
theorem dL_law_1126_g : (decode cL_law 1126 = .ok (.iaload, 1)) ∧ (decode cL_law 1127 = .ok (.aload_n 0, 1)) ∧ (decode cL_law 1128 = .ok (.iload 4, 2)) ∧ (decode cL_law 1130 = .ok (.iconst 3, 1)) ∧ (decode cL_law 1131 = .ok (.iadd, 1)) ∧ (decode cL_law 1132 = .ok (.iaload, 1)) ∧ (decode cL_law 1133 = .ok (.invokevirtual 120, 3)) ∧ (decode cL_law 1136 = .ok (.pop, 1)) := by decide +kernel
theorem dL_law_1126 : decode cL_law 1126 = .ok (.iaload, 1) := dL_law_1126_g.1
theorem dL_law_1127 : decode cL_law 1127 = .ok (.aload_n 0, 1) := dL_law_1126_g.2.1
theorem dL_law_1128 : decode cL_law 1128 = .ok (.iload 4, 2) := dL_law_1126_g.2.2.1
theorem dL_law_1130 : decode cL_law 1130 = .ok (.iconst 3, 1) := dL_law_1126_g.2.2.2.1
theorem dL_law_1131 : decode cL_law 1131 = .ok (.iadd, 1) := dL_law_1126_g.2.2.2.2.1
theorem dL_law_1132 : decode cL_law 1132 = .ok (.iaload, 1) := dL_law_1126_g.2.2.2.2.2.1
theorem dL_law_1133 : decode cL_law 1133 = .ok (.invokevirtual 120, 3) := dL_law_1126_g.2.2.2.2.2.2.1
theorem dL_law_1136 : decode cL_law 1136 = .ok (.pop, 1) := dL_law_1126_g.2.2.2.2.2.2.2
theorem dL_law_1137_g : (decode cL_law 1137 = .ok (.goto 457, 3)) ∧ (decode cL_law 1140 = .ok (.aload_n 1, 1)) ∧ (decode cL_law 1141 = .ok (.aload_n 0, 1)) ∧ (decode cL_law 1142 = .ok (.iload 4, 2)) ∧ (decode cL_law 1144 = .ok (.iconst 1, 1)) ∧ (decode cL_law 1145 = .ok (.iadd, 1)) ∧ (decode cL_law 1146 = .ok (.iaload, 1)) ∧ (decode cL_law 1147 = .ok (.aload_n 0, 1)) := by decide +kernel
theorem dL_law_1137 : decode cL_law 1137 = .ok (.goto 457, 3) := dL_law_1137_g.1
theorem dL_law_1140 : decode cL_law 1140 = .ok (.aload_n 1, 1) := dL_law_1137_g.2.1
theorem dL_law_1141 : decode cL_law 1141 = .ok (.aload_n 0, 1) := dL_law_1137_g.2.2.1
theorem dL_law_1142 : decode cL_law 1142 = .ok (.iload 4, 2) := dL_law_1137_g.2.2.2.1
theorem dL_law_1144 : decode cL_law 1144 = .ok (.iconst 1, 1) := dL_law_1137_g.2.2.2.2.1
theorem dL_law_1145 : decode cL_law 1145 = .ok (.iadd, 1) := dL_law_1137_g.2.2.2.2.2.1
theorem dL_law_1146 : decode cL_law 1146 = .ok (.iaload, 1) := dL_law_1137_g.2.2.2.2.2.2.1
theorem dL_law_1147 : decode cL_law 1147 = .ok (.aload_n 0, 1) := dL_law_1137_g.2.2.2.2.2.2.2
theorem dL_law_1148_g : (decode cL_law 1148 = .ok (.iload 4, 2)) ∧ (decode cL_law 1150 = .ok (.iconst 2, 1)) ∧ (decode cL_law 1151 = .ok (.iadd, 1)) ∧ (decode cL_law 1152 = .ok (.iaload, 1)) ∧ (decode cL_law 1153 = .ok (.invokevirtual 121, 3)) ∧ (decode cL_law 1156 = .ok (.pop, 1)) ∧ (decode cL_law 1157 = .ok (.aload_n 2, 1)) ∧ (decode cL_law 1158 = .ok (.aload_n 0, 1)) := by decide +kernel
theorem dL_law_1148 : decode cL_law 1148 = .ok (.iload 4, 2) := dL_law_1148_g.1
theorem dL_law_1150 : decode cL_law 1150 = .ok (.iconst 2, 1) := dL_law_1148_g.2.1
theorem dL_law_1151 : decode cL_law 1151 = .ok (.iadd, 1) := dL_law_1148_g.2.2.1
theorem dL_law_1152 : decode cL_law 1152 = .ok (.iaload, 1) := dL_law_1148_g.2.2.2.1
theorem dL_law_1153 : decode cL_law 1153 = .ok (.invokevirtual 121, 3) := dL_law_1148_g.2.2.2.2.1
theorem dL_law_1156 : decode cL_law 1156 = .ok (.pop, 1) := dL_law_1148_g.2.2.2.2.2.1
theorem dL_law_1157 : decode cL_law 1157 = .ok (.aload_n 2, 1) := dL_law_1148_g.2.2.2.2.2.2.1
theorem dL_law_1158 : decode cL_law 1158 = .ok (.aload_n 0, 1) := dL_law_1148_g.2.2.2.2.2.2.2
theorem dL_law_1159_g : (decode cL_law 1159 = .ok (.iload 4, 2)) ∧ (decode cL_law 1161 = .ok (.iconst 1, 1)) ∧ (decode cL_law 1162 = .ok (.iadd, 1)) ∧ (decode cL_law 1163 = .ok (.iaload, 1)) ∧ (decode cL_law 1164 = .ok (.aload_n 0, 1)) ∧ (decode cL_law 1165 = .ok (.iload 4, 2)) := by decide +kernel
theorem dL_law_1159 : decode cL_law 1159 = .ok (.iload 4, 2) := dL_law_1159_g.1
theorem dL_law_1161 : decode cL_law 1161 = .ok (.iconst 1, 1) := dL_law_1159_g.2.1
theorem dL_law_1162 : decode cL_law 1162 = .ok (.iadd, 1) := dL_law_1159_g.2.2.1
theorem dL_law_1163 : decode cL_law 1163 = .ok (.iaload, 1) := dL_law_1159_g.2.2.2.1
theorem dL_law_1164 : decode cL_law 1164 = .ok (.aload_n 0, 1) := dL_law_1159_g.2.2.2.2.1
theorem dL_law_1165 : decode cL_law 1165 = .ok (.iload 4, 2) := dL_law_1159_g.2.2.2.2.2

