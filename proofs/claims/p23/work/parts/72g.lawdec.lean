theorem dL_law_1027 : decode cL_law 1027 = .ok (.ifCond .ne 108, 3) := by decide +kernel
theorem dL_law_1030 : decode cL_law 1030 = .ok (.aload_n 1, 1) := by decide +kernel
theorem dL_law_1031 : decode cL_law 1031 = .ok (.iload 23, 2) := by decide +kernel
theorem dL_law_1033 : decode cL_law 1033 = .ok (.iconst 3, 1) := by decide +kernel
theorem dL_law_1034 : decode cL_law 1034 = .ok (.invokevirtual 30, 3) := by decide +kernel
theorem dL_law_1037 : decode cL_law 1037 = .ok (.ifCond .ne 98, 3) := by decide +kernel
theorem dL_law_1040 : decode cL_law 1040 = .ok (.iload 27, 2) := by decide +kernel
theorem dL_law_1042 : decode cL_law 1042 = .ok (.ifCond .lt 93, 3) := by decide +kernel
theorem dL_law_1045 : decode cL_law 1045 = .ok (.aload_n 1, 1) := by decide +kernel
theorem dL_law_1046 : decode cL_law 1046 = .ok (.iload 27, 2) := by decide +kernel
theorem dL_law_1048 : decode cL_law 1048 = .ok (.bipush 9, 2) := by decide +kernel
theorem dL_law_1050 : decode cL_law 1050 = .ok (.invokevirtual 30, 3) := by decide +kernel
theorem dL_law_1053 : decode cL_law 1053 = .ok (.ifCond .ne 82, 3) := by decide +kernel
theorem dL_law_1056 : decode cL_law 1056 = .ok (.iload 25, 2) := by decide +kernel
theorem dL_law_1058 : decode cL_law 1058 = .ok (.aload_n 1, 1) := by decide +kernel
theorem dL_law_1059 : decode cL_law 1059 = .ok (.iload 27, 2) := by decide +kernel
theorem dL_law_1061 : decode cL_law 1061 = .ok (.bipush 8, 2) := by decide +kernel
theorem dL_law_1063 : decode cL_law 1063 = .ok (.invokevirtual 30, 3) := by decide +kernel
theorem dL_law_1066 : decode cL_law 1066 = .ok (.invokestatic 66, 3) := by decide +kernel
theorem dL_law_1069 : decode cL_law 1069 = .ok (.iconst 3, 1) := by decide +kernel
theorem dL_law_1070 : decode cL_law 1070 = .ok (.if_icmp .gt 65, 3) := by decide +kernel
theorem dL_law_1073 : decode cL_law 1073 = .ok (.aload_n 1, 1) := by decide +kernel
theorem dL_law_1074 : decode cL_law 1074 = .ok (.iload 23, 2) := by decide +kernel
theorem dL_law_1076 : decode cL_law 1076 = .ok (.iload 27, 2) := by decide +kernel
theorem dL_law_1078 : decode cL_law 1078 = .ok (.invokevirtual 59, 3) := by decide +kernel
theorem dL_law_1081 : decode cL_law 1081 = .ok (.ifCond .ne 54, 3) := by decide +kernel
theorem dL_law_1084 : decode cL_law 1084 = .ok (.aload_n 1, 1) := by decide +kernel
theorem dL_law_1085 : decode cL_law 1085 = .ok (.iload 27, 2) := by decide +kernel
theorem dL_law_1087 : decode cL_law 1087 = .ok (.iload 23, 2) := by decide +kernel
theorem dL_law_1089 : decode cL_law 1089 = .ok (.invokevirtual 59, 3) := by decide +kernel
theorem dL_law_1092 : decode cL_law 1092 = .ok (.ifCond .ne 43, 3) := by decide +kernel
theorem dL_law_1095 : decode cL_law 1095 = .ok (.aload_n 1, 1) := by decide +kernel
theorem dL_law_1096 : decode cL_law 1096 = .ok (.iload 27, 2) := by decide +kernel
theorem dL_law_1098 : decode cL_law 1098 = .ok (.bipush 10, 2) := by decide +kernel
theorem dL_law_1100 : decode cL_law 1100 = .ok (.invokevirtual 30, 3) := by decide +kernel
theorem dL_law_1103 : decode cL_law 1103 = .ok (.aload 5, 2) := by decide +kernel
theorem dL_law_1105 : decode cL_law 1105 = .ok (.iload 27, 2) := by decide +kernel
theorem dL_law_1107 : decode cL_law 1107 = .ok (.aaload, 1) := by decide +kernel
theorem dL_law_1108 : decode cL_law 1108 = .ok (.bipush 10, 2) := by decide +kernel
theorem dL_law_1110 : decode cL_law 1110 = .ok (.iaload, 1) := by decide +kernel
theorem dL_law_1111 : decode cL_law 1111 = .ok (.iconst 1, 1) := by decide +kernel
theorem dL_law_1112 : decode cL_law 1112 = .ok (.iadd, 1) := by decide +kernel
theorem dL_law_1113 : decode cL_law 1113 = .ok (.if_icmp .ne 22, 3) := by decide +kernel
theorem dL_law_1116 : decode cL_law 1116 = .ok (.aload_n 1, 1) := by decide +kernel
theorem dL_law_1117 : decode cL_law 1117 = .ok (.iload 27, 2) := by decide +kernel
theorem dL_law_1119 : decode cL_law 1119 = .ok (.iconst 5, 1) := by decide +kernel
theorem dL_law_1120 : decode cL_law 1120 = .ok (.invokevirtual 30, 3) := by decide +kernel
theorem dL_law_1123 : decode cL_law 1123 = .ok (.aload 5, 2) := by decide +kernel
theorem dL_law_1125 : decode cL_law 1125 = .ok (.iload 27, 2) := by decide +kernel
theorem dL_law_1127 : decode cL_law 1127 = .ok (.aaload, 1) := by decide +kernel
theorem dL_law_1128 : decode cL_law 1128 = .ok (.iconst 5, 1) := by decide +kernel
theorem dL_law_1129 : decode cL_law 1129 = .ok (.iaload, 1) := by decide +kernel
theorem dL_law_1130 : decode cL_law 1130 = .ok (.iconst 1, 1) := by decide +kernel
theorem dL_law_1131 : decode cL_law 1131 = .ok (.isub, 1) := by decide +kernel
theorem dL_law_1132 : decode cL_law 1132 = .ok (.if_icmp .le 361, 3) := by decide +kernel
theorem dL_law_1135 : decode cL_law 1135 = .ok (.iconst 0, 1) := by decide +kernel
theorem dL_law_1136 : decode cL_law 1136 = .ok (.ireturn, 1) := by decide +kernel
theorem dL_law_1137 : decode cL_law 1137 = .ok (.aload_n 1, 1) := by decide +kernel
theorem dL_law_1138 : decode cL_law 1138 = .ok (.iload 23, 2) := by decide +kernel
theorem dL_law_1140 : decode cL_law 1140 = .ok (.bipush 6, 2) := by decide +kernel
theorem dL_law_1142 : decode cL_law 1142 = .ok (.invokevirtual 30, 3) := by decide +kernel
theorem dL_law_1145 : decode cL_law 1145 = .ok (.aload 5, 2) := by decide +kernel
theorem dL_law_1147 : decode cL_law 1147 = .ok (.iload 23, 2) := by decide +kernel
theorem dL_law_1149 : decode cL_law 1149 = .ok (.aaload, 1) := by decide +kernel
theorem dL_law_1150 : decode cL_law 1150 = .ok (.bipush 6, 2) := by decide +kernel
theorem dL_law_1152 : decode cL_law 1152 = .ok (.iaload, 1) := by decide +kernel
theorem dL_law_1153 : decode cL_law 1153 = .ok (.isub, 1) := by decide +kernel
theorem dL_law_1154 : decode cL_law 1154 = .ok (.istore 28, 2) := by decide +kernel
theorem dL_law_1156 : decode cL_law 1156 = .ok (.aload 5, 2) := by decide +kernel
theorem dL_law_1158 : decode cL_law 1158 = .ok (.iload 23, 2) := by decide +kernel
theorem dL_law_1160 : decode cL_law 1160 = .ok (.aaload, 1) := by decide +kernel
theorem dL_law_1161 : decode cL_law 1161 = .ok (.bipush 9, 2) := by decide +kernel
theorem dL_law_1163 : decode cL_law 1163 = .ok (.iaload, 1) := by decide +kernel
theorem dL_law_1164 : decode cL_law 1164 = .ok (.ifCond .le 43, 3) := by decide +kernel
theorem dL_law_1167 : decode cL_law 1167 = .ok (.iconst 0, 1) := by decide +kernel
theorem dL_law_1168 : decode cL_law 1168 = .ok (.istore 29, 2) := by decide +kernel
theorem dL_law_1170 : decode cL_law 1170 = .ok (.iload 29, 2) := by decide +kernel
theorem dL_law_1172 : decode cL_law 1172 = .ok (.bipush 12, 2) := by decide +kernel
theorem dL_law_1174 : decode cL_law 1174 = .ok (.if_icmp .ge 30, 3) := by decide +kernel
theorem dL_law_1177 : decode cL_law 1177 = .ok (.aload_n 1, 1) := by decide +kernel
theorem dL_law_1178 : decode cL_law 1178 = .ok (.iload 23, 2) := by decide +kernel
theorem dL_law_1180 : decode cL_law 1180 = .ok (.iload 29, 2) := by decide +kernel
theorem dL_law_1182 : decode cL_law 1182 = .ok (.invokevirtual 30, 3) := by decide +kernel
theorem dL_law_1185 : decode cL_law 1185 = .ok (.aload 5, 2) := by decide +kernel
theorem dL_law_1187 : decode cL_law 1187 = .ok (.iload 23, 2) := by decide +kernel
theorem dL_law_1189 : decode cL_law 1189 = .ok (.aaload, 1) := by decide +kernel
theorem dL_law_1190 : decode cL_law 1190 = .ok (.iload 29, 2) := by decide +kernel
theorem dL_law_1192 : decode cL_law 1192 = .ok (.iaload, 1) := by decide +kernel
theorem dL_law_1193 : decode cL_law 1193 = .ok (.if_icmp .eq 5, 3) := by decide +kernel
theorem dL_law_1196 : decode cL_law 1196 = .ok (.iconst 0, 1) := by decide +kernel
