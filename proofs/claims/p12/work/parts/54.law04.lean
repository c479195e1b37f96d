theorem dL_law_968_g : (decode cL_law 968 = .ok (.i2l, 1)) ∧ (decode cL_law 969 = .ok (.bipush 32, 2)) ∧ (decode cL_law 971 = .ok (.lshl, 1)) ∧ (decode cL_law 972 = .ok (.aload_n 0, 1)) ∧ (decode cL_law 973 = .ok (.iload 4, 2)) ∧ (decode cL_law 975 = .ok (.iconst 3, 1)) ∧ (decode cL_law 976 = .ok (.iadd, 1)) ∧ (decode cL_law 977 = .ok (.iaload, 1)) := by decide +kernel
theorem dL_law_968 : decode cL_law 968 = .ok (.i2l, 1) := dL_law_968_g.1
theorem dL_law_969 : decode cL_law 969 = .ok (.bipush 32, 2) := dL_law_968_g.2.1
theorem dL_law_971 : decode cL_law 971 = .ok (.lshl, 1) := dL_law_968_g.2.2.1
theorem dL_law_972 : decode cL_law 972 = .ok (.aload_n 0, 1) := dL_law_968_g.2.2.2.1
theorem dL_law_973 : decode cL_law 973 = .ok (.iload 4, 2) := dL_law_968_g.2.2.2.2.1
theorem dL_law_975 : decode cL_law 975 = .ok (.iconst 3, 1) := dL_law_968_g.2.2.2.2.2.1
theorem dL_law_976 : decode cL_law 976 = .ok (.iadd, 1) := dL_law_968_g.2.2.2.2.2.2.1
theorem dL_law_977 : decode cL_law 977 = .ok (.iaload, 1) := dL_law_968_g.2.2.2.2.2.2.2
theorem dL_law_978_g : (decode cL_law 978 = .ok (.i2l, 1)) ∧ (decode cL_law 979 = .ok (.ldc2_w 105, 3)) ∧ (decode cL_law 982 = .ok (.land, 1)) ∧ (decode cL_law 983 = .ok (.lor, 1)) ∧ (decode cL_law 984 = .ok (.aload_n 0, 1)) ∧ (decode cL_law 985 = .ok (.iload 4, 2)) ∧ (decode cL_law 987 = .ok (.iconst 4, 1)) ∧ (decode cL_law 988 = .ok (.iadd, 1)) := by decide +kernel
theorem dL_law_978 : decode cL_law 978 = .ok (.i2l, 1) := dL_law_978_g.1
theorem dL_law_979 : decode cL_law 979 = .ok (.ldc2_w 105, 3) := dL_law_978_g.2.1
theorem dL_law_982 : decode cL_law 982 = .ok (.land, 1) := dL_law_978_g.2.2.1
theorem dL_law_983 : decode cL_law 983 = .ok (.lor, 1) := dL_law_978_g.2.2.2.1
theorem dL_law_984 : decode cL_law 984 = .ok (.aload_n 0, 1) := dL_law_978_g.2.2.2.2.1
theorem dL_law_985 : decode cL_law 985 = .ok (.iload 4, 2) := dL_law_978_g.2.2.2.2.2.1
theorem dL_law_987 : decode cL_law 987 = .ok (.iconst 4, 1) := dL_law_978_g.2.2.2.2.2.2.1
theorem dL_law_988 : decode cL_law 988 = .ok (.iadd, 1) := dL_law_978_g.2.2.2.2.2.2.2
theorem dL_law_989_g : (decode cL_law 989 = .ok (.iaload, 1)) ∧ (decode cL_law 990 = .ok (.invokevirtual 111, 3)) ∧ (decode cL_law 993 = .ok (.pop, 1)) ∧ (decode cL_law 994 = .ok (.goto 599, 3)) ∧ (decode cL_law 997 = .ok (.aload_n 1, 1)) ∧ (decode cL_law 998 = .ok (.aload_n 0, 1)) ∧ (decode cL_law 999 = .ok (.iload 4, 2)) ∧ (decode cL_law 1001 = .ok (.iconst 1, 1)) := by decide +kernel
theorem dL_law_989 : decode cL_law 989 = .ok (.iaload, 1) := dL_law_989_g.1
theorem dL_law_990 : decode cL_law 990 = .ok (.invokevirtual 111, 3) := dL_law_989_g.2.1
theorem dL_law_993 : decode cL_law 993 = .ok (.pop, 1) := dL_law_989_g.2.2.1
theorem dL_law_994 : decode cL_law 994 = .ok (.goto 599, 3) := dL_law_989_g.2.2.2.1
theorem dL_law_997 : decode cL_law 997 = .ok (.aload_n 1, 1) := dL_law_989_g.2.2.2.2.1
theorem dL_law_998 : decode cL_law 998 = .ok (.aload_n 0, 1) := dL_law_989_g.2.2.2.2.2.1
theorem dL_law_999 : decode cL_law 999 = .ok (.iload 4, 2) := dL_law_989_g.2.2.2.2.2.2.1
theorem dL_law_1001 : decode cL_law 1001 = .ok (.iconst 1, 1) := dL_law_989_g.2.2.2.2.2.2.2
theorem dL_law_1002_g : (decode cL_law 1002 = .ok (.iadd, 1)) ∧ (decode cL_law 1003 = .ok (.iaload, 1)) ∧ (decode cL_law 1004 = .ok (.aload_n 0, 1)) ∧ (decode cL_law 1005 = .ok (.iload 4, 2)) ∧ (decode cL_law 1007 = .ok (.iconst 2, 1)) ∧ (decode cL_law 1008 = .ok (.iadd, 1)) ∧ (decode cL_law 1009 = .ok (.iaload, 1)) ∧ (decode cL_law 1010 = .ok (.i2l, 1)) := by decide +kernel
theorem dL_law_1002 : decode cL_law 1002 = .ok (.iadd, 1) := dL_law_1002_g.1
theorem dL_law_1003 : decode cL_law 1003 = .ok (.iaload, 1) := dL_law_1002_g.2.1
theorem dL_law_1004 : decode cL_law 1004 = .ok (.aload_n 0, 1) := dL_law_1002_g.2.2.1
theorem dL_law_1005 : decode cL_law 1005 = .ok (.iload 4, 2) := dL_law_1002_g.2.2.2.1
theorem dL_law_1007 : decode cL_law 1007 = .ok (.iconst 2, 1) := dL_law_1002_g.2.2.2.2.1
theorem dL_law_1008 : decode cL_law 1008 = .ok (.iadd, 1) := dL_law_1002_g.2.2.2.2.2.1
theorem dL_law_1009 : decode cL_law 1009 = .ok (.iaload, 1) := dL_law_1002_g.2.2.2.2.2.2.1
theorem dL_law_1010 : decode cL_law 1010 = .ok (.i2l, 1) := dL_law_1002_g.2.2.2.2.2.2.2
theorem dL_law_1011_g : (decode cL_law 1011 = .ok (.bipush 32, 2)) ∧ (decode cL_law 1013 = .ok (.lshl, 1)) ∧ (decode cL_law 1014 = .ok (.aload_n 0, 1)) ∧ (decode cL_law 1015 = .ok (.iload 4, 2)) ∧ (decode cL_law 1017 = .ok (.iconst 3, 1)) ∧ (decode cL_law 1018 = .ok (.iadd, 1)) ∧ (decode cL_law 1019 = .ok (.iaload, 1)) ∧ (decode cL_law 1020 = .ok (.i2l, 1)) := by decide +kernel
theorem dL_law_1011 : decode cL_law 1011 = .ok (.bipush 32, 2) := dL_law_1011_g.1
theorem dL_law_1013 : decode cL_law 1013 = .ok (.lshl, 1) := dL_law_1011_g.2.1
theorem dL_law_1014 : decode cL_law 1014 = .ok (.aload_n 0, 1) := dL_law_1011_g.2.2.1
theorem dL_law_1015 : decode cL_law 1015 = .ok (.iload 4, 2) := dL_law_1011_g.2.2.2.1
theorem dL_law_1017 : decode cL_law 1017 = .ok (.iconst 3, 1) := dL_law_1011_g.2.2.2.2.1
theorem dL_law_1018 : decode cL_law 1018 = .ok (.iadd, 1) := dL_law_1011_g.2.2.2.2.2.1
theorem dL_law_1019 : decode cL_law 1019 = .ok (.iaload, 1) := dL_law_1011_g.2.2.2.2.2.2.1
theorem dL_law_1020 : decode cL_law 1020 = .ok (.i2l, 1) := dL_law_1011_g.2.2.2.2.2.2.2
theorem dL_law_1021_g : (decode cL_law 1021 = .ok (.ldc2_w 105, 3)) ∧ (decode cL_law 1024 = .ok (.land, 1)) ∧ (decode cL_law 1025 = .ok (.lor, 1)) ∧ (decode cL_law 1026 = .ok (.aload_n 0, 1)) ∧ (decode cL_law 1027 = .ok (.iload 4, 2)) ∧ (decode cL_law 1029 = .ok (.iconst 4, 1)) ∧ (decode cL_law 1030 = .ok (.iadd, 1)) ∧ (decode cL_law 1031 = .ok (.iaload, 1)) := by decide +kernel
theorem dL_law_1021 : decode cL_law 1021 = .ok (.ldc2_w 105, 3) := dL_law_1021_g.1
theorem dL_law_1024 : decode cL_law 1024 = .ok (.land, 1) := dL_law_1021_g.2.1
theorem dL_law_1025 : decode cL_law 1025 = .ok (.lor, 1) := dL_law_1021_g.2.2.1
theorem dL_law_1026 : decode cL_law 1026 = .ok (.aload_n 0, 1) := dL_law_1021_g.2.2.2.1
theorem dL_law_1027 : decode cL_law 1027 = .ok (.iload 4, 2) := dL_law_1021_g.2.2.2.2.1
theorem dL_law_1029 : decode cL_law 1029 = .ok (.iconst 4, 1) := dL_law_1021_g.2.2.2.2.2.1
theorem dL_law_1030 : decode cL_law 1030 = .ok (.iadd, 1) := dL_law_1021_g.2.2.2.2.2.2.1
theorem dL_law_1031 : decode cL_law 1031 = .ok (.iaload, 1) := dL_law_1021_g.2.2.2.2.2.2.2
theorem dL_law_1032_g : (decode cL_law 1032 = .ok (.aload_n 0, 1)) ∧ (decode cL_law 1033 = .ok (.iload 4, 2)) ∧ (decode cL_law 1035 = .ok (.iconst 5, 1)) ∧ (decode cL_law 1036 = .ok (.iadd, 1)) ∧ (decode cL_law 1037 = .ok (.iaload, 1)) ∧ (decode cL_law 1038 = .ok (.invokevirtual 112, 3)) ∧ (decode cL_law 1041 = .ok (.pop, 1)) ∧ (decode cL_law 1042 = .ok (.aload_n 2, 1)) := by decide +kernel
theorem dL_law_1032 : decode cL_law 1032 = .ok (.aload_n 0, 1) := dL_law_1032_g.1
theorem dL_law_1033 : decode cL_law 1033 = .ok (.iload 4, 2) := dL_law_1032_g.2.1
theorem dL_law_1035 : decode cL_law 1035 = .ok (.iconst 5, 1) := dL_law_1032_g.2.2.1
theorem dL_law_1036 : decode cL_law 1036 = .ok (.iadd, 1) := dL_law_1032_g.2.2.2.1
theorem dL_law_1037 : decode cL_law 1037 = .ok (.iaload, 1) := dL_law_1032_g.2.2.2.2.1
theorem dL_law_1038 : decode cL_law 1038 = .ok (.invokevirtual 112, 3) := dL_law_1032_g.2.2.2.2.2.1
theorem dL_law_1041 : decode cL_law 1041 = .ok (.pop, 1) := dL_law_1032_g.2.2.2.2.2.2.1
theorem dL_law_1042 : decode cL_law 1042 = .ok (.aload_n 2, 1) := dL_law_1032_g.2.2.2.2.2.2.2
theorem dL_law_1043_g : (decode cL_law 1043 = .ok (.aload_n 0, 1)) ∧ (decode cL_law 1044 = .ok (.iload 4, 2)) ∧ (decode cL_law 1046 = .ok (.iconst 1, 1)) ∧ (decode cL_law 1047 = .ok (.iadd, 1)) ∧ (decode cL_law 1048 = .ok (.iaload, 1)) ∧ (decode cL_law 1049 = .ok (.aload_n 0, 1)) ∧ (decode cL_law 1050 = .ok (.iload 4, 2)) ∧ (decode cL_law 1052 = .ok (.iconst 2, 1)) := by decide +kernel
theorem dL_law_1043 : decode cL_law 1043 = .ok (.aload_n 0, 1) := dL_law_1043_g.1
theorem dL_law_1044 : decode cL_law 1044 = .ok (.iload 4, 2) := dL_law_1043_g.2.1
theorem dL_law_1046 : decode cL_law 1046 = .ok (.iconst 1, 1) := dL_law_1043_g.2.2.1
theorem dL_law_1047 : decode cL_law 1047 = .ok (.iadd, 1) := dL_law_1043_g.2.2.2.1
theorem dL_law_1048 : decode cL_law 1048 = .ok (.iaload, 1) := dL_law_1043_g.2.2.2.2.1
theorem dL_law_1049 : decode cL_law 1049 = .ok (.aload_n 0, 1) := dL_law_1043_g.2.2.2.2.2.1
theorem dL_law_1050 : decode cL_law 1050 = .ok (.iload 4, 2) := dL_law_1043_g.2.2.2.2.2.2.1
theorem dL_law_1052 : decode cL_law 1052 = .ok (.iconst 2, 1) := dL_law_1043_g.2.2.2.2.2.2.2
theorem dL_law_1053_g : (decode cL_law 1053 = .ok (.iadd, 1)) ∧ (decode cL_law 1054 = .ok (.iaload, 1)) ∧ (decode cL_law 1055 = .ok (.i2l, 1)) ∧ (decode cL_law 1056 = .ok (.bipush 32, 2)) ∧ (decode cL_law 1058 = .ok (.lshl, 1)) ∧ (decode cL_law 1059 = .ok (.aload_n 0, 1)) ∧ (decode cL_law 1060 = .ok (.iload 4, 2)) ∧ (decode cL_law 1062 = .ok (.iconst 3, 1)) := by decide +kernel
theorem dL_law_1053 : decode cL_law 1053 = .ok (.iadd, 1) := dL_law_1053_g.1
theorem dL_law_1054 : decode cL_law 1054 = .ok (.iaload, 1) := dL_law_1053_g.2.1
theorem dL_law_1055 : decode cL_law 1055 = .ok (.i2l, 1) := dL_law_1053_g.2.2.1
theorem dL_law_1056 : decode cL_law 1056 = .ok (.bipush 32, 2) := dL_law_1053_g.2.2.2.1
theorem dL_law_1058 : decode cL_law 1058 = .ok (.lshl, 1) := dL_law_1053_g.2.2.2.2.1
theorem dL_law_1059 : decode cL_law 1059 = .ok (.aload_n 0, 1) := dL_law_1053_g.2.2.2.2.2.1
theorem dL_law_1060 : decode cL_law 1060 = .ok (.iload 4, 2) := dL_law_1053_g.2.2.2.2.2.2.1
theorem dL_law_1062 : decode cL_law 1062 = .ok (.iconst 3, 1) := dL_law_1053_g.2.2.2.2.2.2.2
theorem dL_law_1063_g : (decode cL_law 1063 = .ok (.iadd, 1)) ∧ (decode cL_law 1064 = .ok (.iaload, 1)) ∧ (decode cL_law 1065 = .ok (.i2l, 1)) ∧ (decode cL_law 1066 = .ok (.ldc2_w 105, 3)) ∧ (decode cL_law 1069 = .ok (.land, 1)) ∧ (decode cL_law 1070 = .ok (.lor, 1)) ∧ (decode cL_law 1071 = .ok (.aload_n 0, 1)) ∧ (decode cL_law 1072 = .ok (.iload 4, 2)) := by decide +kernel
theorem dL_law_1063 : decode cL_law 1063 = .ok (.iadd, 1) := dL_law_1063_g.1
theorem dL_law_1064 : decode cL_law 1064 = .ok (.iaload, 1) := dL_law_1063_g.2.1
theorem dL_law_1065 : decode cL_law 1065 = .ok (.i2l, 1) := dL_law_1063_g.2.2.1
theorem dL_law_1066 : decode cL_law 1066 = .ok (.ldc2_w 105, 3) := dL_law_1063_g.2.2.2.1
theorem dL_law_1069 : decode cL_law 1069 = .ok (.land, 1) := dL_law_1063_g.2.2.2.2.1
theorem dL_law_1070 : decode cL_law 1070 = .ok (.lor, 1) := dL_law_1063_g.2.2.2.2.2.1
theorem dL_law_1071 : decode cL_law 1071 = .ok (.aload_n 0, 1) := dL_law_1063_g.2.2.2.2.2.2.1
theorem dL_law_1072 : decode cL_law 1072 = .ok (.iload 4, 2) := dL_law_1063_g.2.2.2.2.2.2.2
theorem dL_law_1074_g : (decode cL_law 1074 = .ok (.iconst 4, 1)) ∧ (decode cL_law 1075 = .ok (.iadd, 1)) ∧ (decode cL_law 1076 = .ok (.iaload, 1)) ∧ (decode cL_law 1077 = .ok (.aload_n 0, 1)) ∧ (decode cL_law 1078 = .ok (.iload 4, 2)) ∧ (decode cL_law 1080 = .ok (.iconst 5, 1)) ∧ (decode cL_law 1081 = .ok (.iadd, 1)) ∧ (decode cL_law 1082 = .ok (.iaload, 1)) := by decide +kernel
theorem dL_law_1074 : decode cL_law 1074 = .ok (.iconst 4, 1) := dL_law_1074_g.1
theorem dL_law_1075 : decode cL_law 1075 = .ok (.iadd, 1) := dL_law_1074_g.2.1
theorem dL_law_1076 : decode cL_law 1076 = .ok (.iaload, 1) := dL_law_1074_g.2.2.1
theorem dL_law_1077 : decode cL_law 1077 = .ok (.aload_n 0, 1) := dL_law_1074_g.2.2.2.1
theorem dL_law_1078 : decode cL_law 1078 = .ok (.iload 4, 2) := dL_law_1074_g.2.2.2.2.1
theorem dL_law_1080 : decode cL_law 1080 = .ok (.iconst 5, 1) := dL_law_1074_g.2.2.2.2.2.1
theorem dL_law_1081 : decode cL_law 1081 = .ok (.iadd, 1) := dL_law_1074_g.2.2.2.2.2.2.1
theorem dL_law_1082 : decode cL_law 1082 = .ok (.iaload, 1) := dL_law_1074_g.2.2.2.2.2.2.2
theorem dL_law_1083_g : (decode cL_law 1083 = .ok (.invokevirtual 116, 3)) ∧ (decode cL_law 1086 = .ok (.pop, 1)) ∧ (decode cL_law 1087 = .ok (.goto 506, 3)) ∧ (decode cL_law 1090 = .ok (.aload_n 1, 1)) ∧ (decode cL_law 1091 = .ok (.aload_n 0, 1)) ∧ (decode cL_law 1092 = .ok (.iload 4, 2)) ∧ (decode cL_law 1094 = .ok (.iconst 1, 1)) ∧ (decode cL_law 1095 = .ok (.iadd, 1)) := by decide +kernel
theorem dL_law_1083 : decode cL_law 1083 = .ok (.invokevirtual 116, 3) := dL_law_1083_g.1
theorem dL_law_1086 : decode cL_law 1086 = .ok (.pop, 1) := dL_law_1083_g.2.1
theorem dL_law_1087 : decode cL_law 1087 = .ok (.goto 506, 3) := dL_law_1083_g.2.2.1
theorem dL_law_1090 : decode cL_law 1090 = .ok (.aload_n 1, 1) := dL_law_1083_g.2.2.2.1
theorem dL_law_1091 : decode cL_law 1091 = .ok (.aload_n 0, 1) := dL_law_1083_g.2.2.2.2.1
theorem dL_law_1092 : decode cL_law 1092 = .ok (.iload 4, 2) := dL_law_1083_g.2.2.2.2.2.1
theorem dL_law_1094 : decode cL_law 1094 = .ok (.iconst 1, 1) := dL_law_1083_g.2.2.2.2.2.2.1
theorem dL_law_1095 : decode cL_law 1095 = .ok (.iadd, 1) := dL_law_1083_g.2.2.2.2.2.2.2
theorem dL_law_1096_g : (decode cL_law 1096 = .ok (.iaload, 1)) ∧ (decode cL_law 1097 = .ok (.aload_n 0, 1)) ∧ (decode cL_law 1098 = .ok (.iload 4, 2)) ∧ (decode cL_law 1100 = .ok (.iconst 2, 1)) ∧ (decode cL_law 1101 = .ok (.iadd, 1)) ∧ (decode cL_law 1102 = .ok (.iaload, 1)) ∧ (decode cL_law 1103 = .ok (.aload_n 0, 1)) ∧ (decode cL_law 1104 = .ok (.iload 4, 2)) := by decide +kernel
theorem dL_law_1096 : decode cL_law 1096 = .ok (.iaload, 1) := dL_law_1096_g.1
theorem dL_law_1097 : decode cL_law 1097 = .ok (.aload_n 0, 1) := dL_law_1096_g.2.1
theorem dL_law_1098 : decode cL_law 1098 = .ok (.iload 4, 2) := dL_law_1096_g.2.2.1
theorem dL_law_1100 : decode cL_law 1100 = .ok (.iconst 2, 1) := dL_law_1096_g.2.2.2.1
theorem dL_law_1101 : decode cL_law 1101 = .ok (.iadd, 1) := dL_law_1096_g.2.2.2.2.1
theorem dL_law_1102 : decode cL_law 1102 = .ok (.iaload, 1) := dL_law_1096_g.2.2.2.2.2.1
theorem dL_law_1103 : decode cL_law 1103 = .ok (.aload_n 0, 1) := dL_law_1096_g.2.2.2.2.2.2.1
theorem dL_law_1104 : decode cL_law 1104 = .ok (.iload 4, 2) := dL_law_1096_g.2.2.2.2.2.2.2
theorem dL_law_1106_g : (decode cL_law 1106 = .ok (.iconst 3, 1)) ∧ (decode cL_law 1107 = .ok (.iadd, 1)) ∧ (decode cL_law 1108 = .ok (.iaload, 1)) ∧ (decode cL_law 1109 = .ok (.invokevirtual 117, 3)) ∧ (decode cL_law 1112 = .ok (.pop, 1)) ∧ (decode cL_law 1113 = .ok (.aload_n 2, 1)) ∧ (decode cL_law 1114 = .ok (.aload_n 0, 1)) ∧ (decode cL_law 1115 = .ok (.iload 4, 2)) := by decide +kernel
theorem dL_law_1106 : decode cL_law 1106 = .ok (.iconst 3, 1) := dL_law_1106_g.1
theorem dL_law_1107 : decode cL_law 1107 = .ok (.iadd, 1) := dL_law_1106_g.2.1
theorem dL_law_1108 : decode cL_law 1108 = .ok (.iaload, 1) := dL_law_1106_g.2.2.1
theorem dL_law_1109 : decode cL_law 1109 = .ok (.invokevirtual 117, 3) := dL_law_1106_g.2.2.2.1
theorem dL_law_1112 : decode cL_law 1112 = .ok (.pop, 1) := dL_law_1106_g.2.2.2.2.1
theorem dL_law_1113 : decode cL_law 1113 = .ok (.aload_n 2, 1) := dL_law_1106_g.2.2.2.2.2.1
theorem dL_law_1114 : decode cL_law 1114 = .ok (.aload_n 0, 1) := dL_law_1106_g.2.2.2.2.2.2.1
theorem dL_law_1115 : decode cL_law 1115 = .ok (.iload 4, 2) := dL_law_1106_g.2.2.2.2.2.2.2
theorem dL_law_1117_g : (decode cL_law 1117 = .ok (.iconst 1, 1)) ∧ (decode cL_law 1118 = .ok (.iadd, 1)) ∧ (decode cL_law 1119 = .ok (.iaload, 1)) ∧ (decode cL_law 1120 = .ok (.aload_n 0, 1)) ∧ (decode cL_law 1121 = .ok (.iload 4, 2)) ∧ (decode cL_law 1123 = .ok (.iconst 2, 1)) ∧ (decode cL_law 1124 = .ok (.iadd, 1)) ∧ (decode cL_law 1125 = .ok (.iaload, 1)) := by decide +kernel
theorem dL_law_1117 : decode cL_law 1117 = .ok (.iconst 1, 1) := dL_law_1117_g.1
theorem dL_law_1118 : decode cL_law 1118 = .ok (.iadd, 1) := dL_law_1117_g.2.1
theorem dL_law_1119 : decode cL_law 1119 = .ok (.iaload, 1) := dL_law_1117_g.2.2.1
theorem dL_law_1120 : decode cL_law 1120 = .ok (.aload_n 0, 1) := dL_law_1117_g.2.2.2.1
theorem dL_law_1121 : decode cL_law 1121 = .ok (.iload 4, 2) := dL_law_1117_g.2.2.2.2.1
theorem dL_law_1123 : decode cL_law 1123 = .ok (.iconst 2, 1) := dL_law_1117_g.2.2.2.2.2.1
theorem dL_law_1124 : decode cL_law 1124 = .ok (.iadd, 1) := dL_law_1117_g.2.2.2.2.2.2.1
theorem dL_law_1125 : decode cL_law 1125 = .ok (.iaload, 1) := dL_law_1117_g.2.2.2.2.2.2.2
theorem dL_law_1126_g : (decode cL_law 1126 = .ok (.aload_n 0, 1)) ∧ (decode cL_law 1127 = .ok (.iload 4, 2)) ∧ (decode cL_law 1129 = .ok (.iconst 3, 1)) ∧ (decode cL_law 1130 = .ok (.iadd, 1)) ∧ (decode cL_law 1131 = .ok (.iaload, 1)) ∧ (decode cL_law 1132 = .ok (.invokevirtual 120, 3)) ∧ (decode cL_law 1135 = .ok (.pop, 1)) ∧ (decode cL_law 1136 = .ok (.goto 457, 3)) := by decide +kernel
theorem dL_law_1126 : decode cL_law 1126 = .ok (.aload_n 0, 1) := dL_law_1126_g.1
theorem dL_law_1127 : decode cL_law 1127 = .ok (.iload 4, 2) := dL_law_1126_g.2.1
theorem dL_law_1129 : decode cL_law 1129 = .ok (.iconst 3, 1) := dL_law_1126_g.2.2.1
theorem dL_law_1130 : decode cL_law 1130 = .ok (.iadd, 1) := dL_law_1126_g.2.2.2.1
theorem dL_law_1131 : decode cL_law 1131 = .ok (.iaload, 1) := dL_law_1126_g.2.2.2.2.1
theorem dL_law_1132 : decode cL_law 1132 = .ok (.invokevirtual 120, 3) := dL_law_1126_g.2.2.2.2.2.1
theorem dL_law_1135 : decode cL_law 1135 = .ok (.pop, 1) := dL_law_1126_g.2.2.2.2.2.2.1
theorem dL_law_1136 : decode cL_law 1136 = .ok (.goto 457, 3) := dL_law_1126_g.2.2.2.2.2.2.2
theorem dL_law_1139_g : (decode cL_law 1139 = .ok (.aload_n 1, 1)) ∧ (decode cL_law 1140 = .ok (.aload_n 0, 1)) ∧ (decode cL_law 1141 = .ok (.iload 4, 2)) ∧ (decode cL_law 1143 = .ok (.iconst 1, 1)) ∧ (decode cL_law 1144 = .ok (.iadd, 1)) ∧ (decode cL_law 1145 = .ok (.iaload, 1)) ∧ (decode cL_law 1146 = .ok (.aload_n 0, 1)) ∧ (decode cL_law 1147 = .ok (.iload 4, 2)) := by decide +kernel
theorem dL_law_1139 : decode cL_law 1139 = .ok (.aload_n 1, 1) := dL_law_1139_g.1
theorem dL_law_1140 : decode cL_law 1140 = .ok (.aload_n 0, 1) := dL_law_1139_g.2.1
theorem dL_law_1141 : decode cL_law 1141 = .ok (.iload 4, 2) := dL_law_1139_g.2.2.1
theorem dL_law_1143 : decode cL_law 1143 = .ok (.iconst 1, 1) := dL_law_1139_g.2.2.2.1
theorem dL_law_1144 : decode cL_law 1144 = .ok (.iadd, 1) := dL_law_1139_g.2.2.2.2.1
theorem dL_law_1145 : decode cL_law 1145 = .ok (.iaload, 1) := dL_law_1139_g.2.2.2.2.2.1
theorem dL_law_1146 : decode cL_law 1146 = .ok (.aload_n 0, 1) := dL_law_1139_g.2.2.2.2.2.2.1
theorem dL_law_1147 : decode cL_law 1147 = .ok (.iload 4, 2) := dL_law_1139_g.2.2.2.2.2.2.2
theorem dL_law_1149_g : (decode cL_law 1149 = .ok (.iconst 2, 1)) ∧ (decode cL_law 1150 = .ok (.iadd, 1)) ∧ (decode cL_law 1151 = .ok (.iaload, 1)) ∧ (decode cL_law 1152 = .ok (.invokevirtual 121, 3)) ∧ (decode cL_law 1155 = .ok (.pop, 1)) ∧ (decode cL_law 1156 = .ok (.aload_n 2, 1)) ∧ (decode cL_law 1157 = .ok (.aload_n 0, 1)) ∧ (decode cL_law 1158 = .ok (.iload 4, 2)) := by decide +kernel
theorem dL_law_1149 : decode cL_law 1149 = .ok (.iconst 2, 1) := dL_law_1149_g.1
theorem dL_law_1150 : decode cL_law 1150 = .ok (.iadd, 1) := dL_law_1149_g.2.1
theorem dL_law_1151 : decode cL_law 1151 = .ok (.iaload, 1) := dL_law_1149_g.2.2.1
theorem dL_law_1152 : decode cL_law 1152 = .ok (.invokevirtual 121, 3) := dL_law_1149_g.2.2.2.1
theorem dL_law_1155 : decode cL_law 1155 = .ok (.pop, 1) := dL_law_1149_g.2.2.2.2.1
theorem dL_law_1156 : decode cL_law 1156 = .ok (.aload_n 2, 1) := dL_law_1149_g.2.2.2.2.2.1
theorem dL_law_1157 : decode cL_law 1157 = .ok (.aload_n 0, 1) := dL_law_1149_g.2.2.2.2.2.2.1
theorem dL_law_1158 : decode cL_law 1158 = .ok (.iload 4, 2) := dL_law_1149_g.2.2.2.2.2.2.2
theorem dL_law_1160_g : (decode cL_law 1160 = .ok (.iconst 1, 1)) ∧ (decode cL_law 1161 = .ok (.iadd, 1)) ∧ (decode cL_law 1162 = .ok (.iaload, 1)) ∧ (decode cL_law 1163 = .ok (.aload_n 0, 1)) ∧ (decode cL_law 1164 = .ok (.iload 4, 2)) ∧ (decode cL_law 1166 = .ok (.iconst 2, 1)) := by decide +kernel
theorem dL_law_1160 : decode cL_law 1160 = .ok (.iconst 1, 1) := dL_law_1160_g.1
theorem dL_law_1161 : decode cL_law 1161 = .ok (.iadd, 1) := dL_law_1160_g.2.1
theorem dL_law_1162 : decode cL_law 1162 = .ok (.iaload, 1) := dL_law_1160_g.2.2.1
theorem dL_law_1163 : decode cL_law 1163 = .ok (.aload_n 0, 1) := dL_law_1160_g.2.2.2.1
theorem dL_law_1164 : decode cL_law 1164 = .ok (.iload 4, 2) := dL_law_1160_g.2.2.2.2.1
theorem dL_law_1166 : decode cL_law 1166 = .ok (.iconst 2, 1) := dL_law_1160_g.2.2.2.2.2

