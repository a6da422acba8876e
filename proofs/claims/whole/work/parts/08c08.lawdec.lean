theorem dL_law_1066 : decode cL_law 1066 = .ok (.iconst 0, 1) := by decide +kernel
theorem dL_law_1067 : decode cL_law 1067 = .ok (.ireturn, 1) := by decide +kernel
theorem dL_law_1068 : decode cL_law 1068 = .ok (.aload_n 1, 1) := by decide +kernel
theorem dL_law_1069 : decode cL_law 1069 = .ok (.aload_n 0, 1) := by decide +kernel
theorem dL_law_1070 : decode cL_law 1070 = .ok (.iload_n 3, 1) := by decide +kernel
theorem dL_law_1071 : decode cL_law 1071 = .ok (.iconst 1, 1) := by decide +kernel
theorem dL_law_1072 : decode cL_law 1072 = .ok (.iadd, 1) := by decide +kernel
theorem dL_law_1073 : decode cL_law 1073 = .ok (.iaload, 1) := by decide +kernel
theorem dL_law_1074 : decode cL_law 1074 = .ok (.invokevirtual 139, 3) := by decide +kernel
theorem dL_law_1077 : decode cL_law 1077 = .ok (.aload_n 2, 1) := by decide +kernel
theorem dL_law_1078 : decode cL_law 1078 = .ok (.aload_n 0, 1) := by decide +kernel
theorem dL_law_1079 : decode cL_law 1079 = .ok (.iload_n 3, 1) := by decide +kernel
theorem dL_law_1080 : decode cL_law 1080 = .ok (.iconst 1, 1) := by decide +kernel
theorem dL_law_1081 : decode cL_law 1081 = .ok (.iadd, 1) := by decide +kernel
theorem dL_law_1082 : decode cL_law 1082 = .ok (.iaload, 1) := by decide +kernel
theorem dL_law_1083 : decode cL_law 1083 = .ok (.invokevirtual 142, 3) := by decide +kernel
theorem dL_law_1086 : decode cL_law 1086 = .ok (.if_icmp .eq 244, 3) := by decide +kernel
theorem dL_law_1089 : decode cL_law 1089 = .ok (.iconst 0, 1) := by decide +kernel
theorem dL_law_1090 : decode cL_law 1090 = .ok (.ireturn, 1) := by decide +kernel
theorem dL_law_1091 : decode cL_law 1091 = .ok (.aload_n 1, 1) := by decide +kernel
theorem dL_law_1092 : decode cL_law 1092 = .ok (.aload_n 0, 1) := by decide +kernel
theorem dL_law_1093 : decode cL_law 1093 = .ok (.iload_n 3, 1) := by decide +kernel
theorem dL_law_1094 : decode cL_law 1094 = .ok (.iconst 1, 1) := by decide +kernel
theorem dL_law_1095 : decode cL_law 1095 = .ok (.iadd, 1) := by decide +kernel
theorem dL_law_1096 : decode cL_law 1096 = .ok (.iaload, 1) := by decide +kernel
theorem dL_law_1097 : decode cL_law 1097 = .ok (.aload_n 0, 1) := by decide +kernel
theorem dL_law_1098 : decode cL_law 1098 = .ok (.iload_n 3, 1) := by decide +kernel
theorem dL_law_1099 : decode cL_law 1099 = .ok (.iconst 2, 1) := by decide +kernel
theorem dL_law_1100 : decode cL_law 1100 = .ok (.iadd, 1) := by decide +kernel
theorem dL_law_1101 : decode cL_law 1101 = .ok (.iaload, 1) := by decide +kernel
theorem dL_law_1102 : decode cL_law 1102 = .ok (.invokevirtual 143, 3) := by decide +kernel
theorem dL_law_1105 : decode cL_law 1105 = .ok (.aload_n 2, 1) := by decide +kernel
theorem dL_law_1106 : decode cL_law 1106 = .ok (.aload_n 0, 1) := by decide +kernel
theorem dL_law_1107 : decode cL_law 1107 = .ok (.iload_n 3, 1) := by decide +kernel
theorem dL_law_1108 : decode cL_law 1108 = .ok (.iconst 1, 1) := by decide +kernel
theorem dL_law_1109 : decode cL_law 1109 = .ok (.iadd, 1) := by decide +kernel
theorem dL_law_1110 : decode cL_law 1110 = .ok (.iaload, 1) := by decide +kernel
theorem dL_law_1111 : decode cL_law 1111 = .ok (.aload_n 0, 1) := by decide +kernel
theorem dL_law_1112 : decode cL_law 1112 = .ok (.iload_n 3, 1) := by decide +kernel
theorem dL_law_1113 : decode cL_law 1113 = .ok (.iconst 2, 1) := by decide +kernel
theorem dL_law_1114 : decode cL_law 1114 = .ok (.iadd, 1) := by decide +kernel
theorem dL_law_1115 : decode cL_law 1115 = .ok (.iaload, 1) := by decide +kernel
theorem dL_law_1116 : decode cL_law 1116 = .ok (.invokevirtual 146, 3) := by decide +kernel
theorem dL_law_1119 : decode cL_law 1119 = .ok (.if_icmp .eq 211, 3) := by decide +kernel
theorem dL_law_1122 : decode cL_law 1122 = .ok (.iconst 0, 1) := by decide +kernel
theorem dL_law_1123 : decode cL_law 1123 = .ok (.ireturn, 1) := by decide +kernel
theorem dL_law_1124 : decode cL_law 1124 = .ok (.aload_n 1, 1) := by decide +kernel
theorem dL_law_1125 : decode cL_law 1125 = .ok (.aload_n 0, 1) := by decide +kernel
theorem dL_law_1126 : decode cL_law 1126 = .ok (.iload_n 3, 1) := by decide +kernel
theorem dL_law_1127 : decode cL_law 1127 = .ok (.iconst 1, 1) := by decide +kernel
theorem dL_law_1128 : decode cL_law 1128 = .ok (.iadd, 1) := by decide +kernel
theorem dL_law_1129 : decode cL_law 1129 = .ok (.iaload, 1) := by decide +kernel
theorem dL_law_1130 : decode cL_law 1130 = .ok (.aload_n 0, 1) := by decide +kernel
theorem dL_law_1131 : decode cL_law 1131 = .ok (.iload_n 3, 1) := by decide +kernel
theorem dL_law_1132 : decode cL_law 1132 = .ok (.iconst 2, 1) := by decide +kernel
theorem dL_law_1133 : decode cL_law 1133 = .ok (.iadd, 1) := by decide +kernel
theorem dL_law_1134 : decode cL_law 1134 = .ok (.iaload, 1) := by decide +kernel
theorem dL_law_1135 : decode cL_law 1135 = .ok (.aload_n 0, 1) := by decide +kernel
theorem dL_law_1136 : decode cL_law 1136 = .ok (.iload_n 3, 1) := by decide +kernel
theorem dL_law_1137 : decode cL_law 1137 = .ok (.iconst 3, 1) := by decide +kernel
theorem dL_law_1138 : decode cL_law 1138 = .ok (.iadd, 1) := by decide +kernel
theorem dL_law_1139 : decode cL_law 1139 = .ok (.iaload, 1) := by decide +kernel
theorem dL_law_1140 : decode cL_law 1140 = .ok (.invokevirtual 147, 3) := by decide +kernel
theorem dL_law_1143 : decode cL_law 1143 = .ok (.aload_n 2, 1) := by decide +kernel
theorem dL_law_1144 : decode cL_law 1144 = .ok (.aload_n 0, 1) := by decide +kernel
theorem dL_law_1145 : decode cL_law 1145 = .ok (.iload_n 3, 1) := by decide +kernel
theorem dL_law_1146 : decode cL_law 1146 = .ok (.iconst 1, 1) := by decide +kernel
theorem dL_law_1147 : decode cL_law 1147 = .ok (.iadd, 1) := by decide +kernel
theorem dL_law_1148 : decode cL_law 1148 = .ok (.iaload, 1) := by decide +kernel
theorem dL_law_1149 : decode cL_law 1149 = .ok (.aload_n 0, 1) := by decide +kernel
theorem dL_law_1150 : decode cL_law 1150 = .ok (.iload_n 3, 1) := by decide +kernel
theorem dL_law_1151 : decode cL_law 1151 = .ok (.iconst 2, 1) := by decide +kernel
theorem dL_law_1152 : decode cL_law 1152 = .ok (.iadd, 1) := by decide +kernel
theorem dL_law_1153 : decode cL_law 1153 = .ok (.iaload, 1) := by decide +kernel
theorem dL_law_1154 : decode cL_law 1154 = .ok (.aload_n 0, 1) := by decide +kernel
theorem dL_law_1155 : decode cL_law 1155 = .ok (.iload_n 3, 1) := by decide +kernel
theorem dL_law_1156 : decode cL_law 1156 = .ok (.iconst 3, 1) := by decide +kernel
theorem dL_law_1157 : decode cL_law 1157 = .ok (.iadd, 1) := by decide +kernel
theorem dL_law_1158 : decode cL_law 1158 = .ok (.iaload, 1) := by decide +kernel
theorem dL_law_1159 : decode cL_law 1159 = .ok (.invokevirtual 150, 3) := by decide +kernel
theorem dL_law_1162 : decode cL_law 1162 = .ok (.if_icmp .eq 168, 3) := by decide +kernel
theorem dL_law_1165 : decode cL_law 1165 = .ok (.iconst 0, 1) := by decide +kernel
theorem dL_law_1166 : decode cL_law 1166 = .ok (.ireturn, 1) := by decide +kernel
theorem dL_law_1167 : decode cL_law 1167 = .ok (.aload_n 1, 1) := by decide +kernel
theorem dL_law_1168 : decode cL_law 1168 = .ok (.aload_n 0, 1) := by decide +kernel
theorem dL_law_1169 : decode cL_law 1169 = .ok (.iload_n 3, 1) := by decide +kernel
theorem dL_law_1170 : decode cL_law 1170 = .ok (.iconst 1, 1) := by decide +kernel
theorem dL_law_1171 : decode cL_law 1171 = .ok (.iadd, 1) := by decide +kernel
theorem dL_law_1172 : decode cL_law 1172 = .ok (.iaload, 1) := by decide +kernel
theorem dL_law_1173 : decode cL_law 1173 = .ok (.aload_n 0, 1) := by decide +kernel
theorem dL_law_1174 : decode cL_law 1174 = .ok (.iload_n 3, 1) := by decide +kernel
theorem dL_law_1175 : decode cL_law 1175 = .ok (.iconst 2, 1) := by decide +kernel
theorem dL_law_1176 : decode cL_law 1176 = .ok (.iadd, 1) := by decide +kernel
theorem dL_law_1177 : decode cL_law 1177 = .ok (.iaload, 1) := by decide +kernel
theorem dL_law_1178 : decode cL_law 1178 = .ok (.invokevirtual 151, 3) := by decide +kernel
theorem dL_law_1181 : decode cL_law 1181 = .ok (.aload_n 2, 1) := by decide +kernel
theorem dL_law_1182 : decode cL_law 1182 = .ok (.aload_n 0, 1) := by decide +kernel
theorem dL_law_1183 : decode cL_law 1183 = .ok (.iload_n 3, 1) := by decide +kernel
theorem dL_law_1184 : decode cL_law 1184 = .ok (.iconst 1, 1) := by decide +kernel
theorem dL_law_1185 : decode cL_law 1185 = .ok (.iadd, 1) := by decide +kernel
