theorem dB_law_48 : ((((decode cL_law 1088 = .ok (.iadd, 1)) ∧ (decode cL_law 1089 = .ok (.iaload, 1))) ∧ ((decode cL_law 1090 = .ok (.aload_n 0, 1)) ∧ (decode cL_law 1091 = .ok (.iload_n 3, 1)))) ∧ (((decode cL_law 1092 = .ok (.iconst 2, 1)) ∧ (decode cL_law 1093 = .ok (.iadd, 1))) ∧ ((decode cL_law 1094 = .ok (.iaload, 1)) ∧ (decode cL_law 1095 = .ok (.aload_n 0, 1))))) ∧ ((((decode cL_law 1096 = .ok (.iload_n 3, 1)) ∧ (decode cL_law 1097 = .ok (.iconst 3, 1))) ∧ ((decode cL_law 1098 = .ok (.iadd, 1)) ∧ (decode cL_law 1099 = .ok (.iaload, 1)))) ∧ (((decode cL_law 1100 = .ok (.aload_n 0, 1)) ∧ (decode cL_law 1101 = .ok (.iload_n 3, 1))) ∧ ((decode cL_law 1102 = .ok (.iconst 4, 1)) ∧ (decode cL_law 1103 = .ok (.iadd, 1))))) := by first | decide +kernel | ((repeat' apply And.intro) <;> decide +kernel)
theorem dL_law_1088 : decode cL_law 1088 = .ok (.iadd, 1) := dB_law_48.1.1.1.1
theorem dL_law_1089 : decode cL_law 1089 = .ok (.iaload, 1) := dB_law_48.1.1.1.2
theorem dL_law_1090 : decode cL_law 1090 = .ok (.aload_n 0, 1) := dB_law_48.1.1.2.1
theorem dL_law_1091 : decode cL_law 1091 = .ok (.iload_n 3, 1) := dB_law_48.1.1.2.2
theorem dL_law_1092 : decode cL_law 1092 = .ok (.iconst 2, 1) := dB_law_48.1.2.1.1
theorem dL_law_1093 : decode cL_law 1093 = .ok (.iadd, 1) := dB_law_48.1.2.1.2
theorem dL_law_1094 : decode cL_law 1094 = .ok (.iaload, 1) := dB_law_48.1.2.2.1
theorem dL_law_1095 : decode cL_law 1095 = .ok (.aload_n 0, 1) := dB_law_48.1.2.2.2
theorem dL_law_1096 : decode cL_law 1096 = .ok (.iload_n 3, 1) := dB_law_48.2.1.1.1
theorem dL_law_1097 : decode cL_law 1097 = .ok (.iconst 3, 1) := dB_law_48.2.1.1.2
theorem dL_law_1098 : decode cL_law 1098 = .ok (.iadd, 1) := dB_law_48.2.1.2.1
theorem dL_law_1099 : decode cL_law 1099 = .ok (.iaload, 1) := dB_law_48.2.1.2.2
theorem dL_law_1100 : decode cL_law 1100 = .ok (.aload_n 0, 1) := dB_law_48.2.2.1.1
theorem dL_law_1101 : decode cL_law 1101 = .ok (.iload_n 3, 1) := dB_law_48.2.2.1.2
theorem dL_law_1102 : decode cL_law 1102 = .ok (.iconst 4, 1) := dB_law_48.2.2.2.1
theorem dL_law_1103 : decode cL_law 1103 = .ok (.iadd, 1) := dB_law_48.2.2.2.2
theorem dB_law_49 : ((((decode cL_law 1104 = .ok (.iaload, 1)) ∧ (decode cL_law 1105 = .ok (.aload_n 0, 1))) ∧ ((decode cL_law 1106 = .ok (.iload_n 3, 1)) ∧ (decode cL_law 1107 = .ok (.iconst 5, 1)))) ∧ (((decode cL_law 1108 = .ok (.iadd, 1)) ∧ (decode cL_law 1109 = .ok (.iaload, 1))) ∧ ((decode cL_law 1110 = .ok (.i2l, 1)) ∧ (decode cL_law 1111 = .ok (.bipush 32, 2))))) ∧ ((((decode cL_law 1113 = .ok (.lshl, 1)) ∧ (decode cL_law 1114 = .ok (.aload_n 0, 1))) ∧ ((decode cL_law 1115 = .ok (.iload_n 3, 1)) ∧ (decode cL_law 1116 = .ok (.bipush 6, 2)))) ∧ (((decode cL_law 1118 = .ok (.iadd, 1)) ∧ (decode cL_law 1119 = .ok (.iaload, 1))) ∧ ((decode cL_law 1120 = .ok (.i2l, 1)) ∧ (decode cL_law 1121 = .ok (.ldc2_w 122, 3))))) := by first | decide +kernel | ((repeat' apply And.intro) <;> decide +kernel)
theorem dL_law_1104 : decode cL_law 1104 = .ok (.iaload, 1) := dB_law_49.1.1.1.1
theorem dL_law_1105 : decode cL_law 1105 = .ok (.aload_n 0, 1) := dB_law_49.1.1.1.2
theorem dL_law_1106 : decode cL_law 1106 = .ok (.iload_n 3, 1) := dB_law_49.1.1.2.1
theorem dL_law_1107 : decode cL_law 1107 = .ok (.iconst 5, 1) := dB_law_49.1.1.2.2
theorem dL_law_1108 : decode cL_law 1108 = .ok (.iadd, 1) := dB_law_49.1.2.1.1
theorem dL_law_1109 : decode cL_law 1109 = .ok (.iaload, 1) := dB_law_49.1.2.1.2
theorem dL_law_1110 : decode cL_law 1110 = .ok (.i2l, 1) := dB_law_49.1.2.2.1
theorem dL_law_1111 : decode cL_law 1111 = .ok (.bipush 32, 2) := dB_law_49.1.2.2.2
theorem dL_law_1113 : decode cL_law 1113 = .ok (.lshl, 1) := dB_law_49.2.1.1.1
theorem dL_law_1114 : decode cL_law 1114 = .ok (.aload_n 0, 1) := dB_law_49.2.1.1.2
theorem dL_law_1115 : decode cL_law 1115 = .ok (.iload_n 3, 1) := dB_law_49.2.1.2.1
theorem dL_law_1116 : decode cL_law 1116 = .ok (.bipush 6, 2) := dB_law_49.2.1.2.2
theorem dL_law_1118 : decode cL_law 1118 = .ok (.iadd, 1) := dB_law_49.2.2.1.1
theorem dL_law_1119 : decode cL_law 1119 = .ok (.iaload, 1) := dB_law_49.2.2.1.2
theorem dL_law_1120 : decode cL_law 1120 = .ok (.i2l, 1) := dB_law_49.2.2.2.1
theorem dL_law_1121 : decode cL_law 1121 = .ok (.ldc2_w 122, 3) := dB_law_49.2.2.2.2
theorem dB_law_50 : ((((decode cL_law 1124 = .ok (.land, 1)) ∧ (decode cL_law 1125 = .ok (.lor, 1))) ∧ ((decode cL_law 1126 = .ok (.invokevirtual 128, 3)) ∧ (decode cL_law 1129 = .ok (.pop, 1)))) ∧ (((decode cL_law 1130 = .ok (.goto 203, 3)) ∧ (decode cL_law 1133 = .ok (.aload_n 1, 1))) ∧ ((decode cL_law 1134 = .ok (.aload_n 0, 1)) ∧ (decode cL_law 1135 = .ok (.iload_n 3, 1))))) ∧ ((((decode cL_law 1136 = .ok (.iconst 1, 1)) ∧ (decode cL_law 1137 = .ok (.iadd, 1))) ∧ ((decode cL_law 1138 = .ok (.iaload, 1)) ∧ (decode cL_law 1139 = .ok (.aload_n 0, 1)))) ∧ (((decode cL_law 1140 = .ok (.iload_n 3, 1)) ∧ (decode cL_law 1141 = .ok (.iconst 2, 1))) ∧ ((decode cL_law 1142 = .ok (.iadd, 1)) ∧ (decode cL_law 1143 = .ok (.iaload, 1))))) := by first | decide +kernel | ((repeat' apply And.intro) <;> decide +kernel)
theorem dL_law_1124 : decode cL_law 1124 = .ok (.land, 1) := dB_law_50.1.1.1.1
theorem dL_law_1125 : decode cL_law 1125 = .ok (.lor, 1) := dB_law_50.1.1.1.2
theorem dL_law_1126 : decode cL_law 1126 = .ok (.invokevirtual 128, 3) := dB_law_50.1.1.2.1
theorem dL_law_1129 : decode cL_law 1129 = .ok (.pop, 1) := dB_law_50.1.1.2.2
theorem dL_law_1130 : decode cL_law 1130 = .ok (.goto 203, 3) := dB_law_50.1.2.1.1
theorem dL_law_1133 : decode cL_law 1133 = .ok (.aload_n 1, 1) := dB_law_50.1.2.1.2
theorem dL_law_1134 : decode cL_law 1134 = .ok (.aload_n 0, 1) := dB_law_50.1.2.2.1
theorem dL_law_1135 : decode cL_law 1135 = .ok (.iload_n 3, 1) := dB_law_50.1.2.2.2
theorem dL_law_1136 : decode cL_law 1136 = .ok (.iconst 1, 1) := dB_law_50.2.1.1.1
theorem dL_law_1137 : decode cL_law 1137 = .ok (.iadd, 1) := dB_law_50.2.1.1.2
theorem dL_law_1138 : decode cL_law 1138 = .ok (.iaload, 1) := dB_law_50.2.1.2.1
theorem dL_law_1139 : decode cL_law 1139 = .ok (.aload_n 0, 1) := dB_law_50.2.1.2.2
theorem dL_law_1140 : decode cL_law 1140 = .ok (.iload_n 3, 1) := dB_law_50.2.2.1.1
theorem dL_law_1141 : decode cL_law 1141 = .ok (.iconst 2, 1) := dB_law_50.2.2.1.2
theorem dL_law_1142 : decode cL_law 1142 = .ok (.iadd, 1) := dB_law_50.2.2.2.1
theorem dL_law_1143 : decode cL_law 1143 = .ok (.iaload, 1) := dB_law_50.2.2.2.2
theorem dB_law_51 : ((((decode cL_law 1144 = .ok (.aload_n 0, 1)) ∧ (decode cL_law 1145 = .ok (.iload_n 3, 1))) ∧ ((decode cL_law 1146 = .ok (.iconst 3, 1)) ∧ (decode cL_law 1147 = .ok (.iadd, 1)))) ∧ (((decode cL_law 1148 = .ok (.iaload, 1)) ∧ (decode cL_law 1149 = .ok (.aload_n 0, 1))) ∧ ((decode cL_law 1150 = .ok (.iload_n 3, 1)) ∧ (decode cL_law 1151 = .ok (.iconst 4, 1))))) ∧ ((((decode cL_law 1152 = .ok (.iadd, 1)) ∧ (decode cL_law 1153 = .ok (.iaload, 1))) ∧ ((decode cL_law 1154 = .ok (.aload_n 0, 1)) ∧ (decode cL_law 1155 = .ok (.iload_n 3, 1)))) ∧ (((decode cL_law 1156 = .ok (.iconst 5, 1)) ∧ (decode cL_law 1157 = .ok (.iadd, 1))) ∧ ((decode cL_law 1158 = .ok (.iaload, 1)) ∧ (decode cL_law 1159 = .ok (.aload_n 0, 1))))) := by first | decide +kernel | ((repeat' apply And.intro) <;> decide +kernel)
theorem dL_law_1144 : decode cL_law 1144 = .ok (.aload_n 0, 1) := dB_law_51.1.1.1.1
theorem dL_law_1145 : decode cL_law 1145 = .ok (.iload_n 3, 1) := dB_law_51.1.1.1.2
theorem dL_law_1146 : decode cL_law 1146 = .ok (.iconst 3, 1) := dB_law_51.1.1.2.1
theorem dL_law_1147 : decode cL_law 1147 = .ok (.iadd, 1) := dB_law_51.1.1.2.2
theorem dL_law_1148 : decode cL_law 1148 = .ok (.iaload, 1) := dB_law_51.1.2.1.1
theorem dL_law_1149 : decode cL_law 1149 = .ok (.aload_n 0, 1) := dB_law_51.1.2.1.2
theorem dL_law_1150 : decode cL_law 1150 = .ok (.iload_n 3, 1) := dB_law_51.1.2.2.1
theorem dL_law_1151 : decode cL_law 1151 = .ok (.iconst 4, 1) := dB_law_51.1.2.2.2
theorem dL_law_1152 : decode cL_law 1152 = .ok (.iadd, 1) := dB_law_51.2.1.1.1
theorem dL_law_1153 : decode cL_law 1153 = .ok (.iaload, 1) := dB_law_51.2.1.1.2
theorem dL_law_1154 : decode cL_law 1154 = .ok (.aload_n 0, 1) := dB_law_51.2.1.2.1
theorem dL_law_1155 : decode cL_law 1155 = .ok (.iload_n 3, 1) := dB_law_51.2.1.2.2
theorem dL_law_1156 : decode cL_law 1156 = .ok (.iconst 5, 1) := dB_law_51.2.2.1.1
theorem dL_law_1157 : decode cL_law 1157 = .ok (.iadd, 1) := dB_law_51.2.2.1.2
theorem dL_law_1158 : decode cL_law 1158 = .ok (.iaload, 1) := dB_law_51.2.2.2.1
theorem dL_law_1159 : decode cL_law 1159 = .ok (.aload_n 0, 1) := dB_law_51.2.2.2.2
theorem dB_law_52 : ((((decode cL_law 1160 = .ok (.iload_n 3, 1)) ∧ (decode cL_law 1161 = .ok (.bipush 6, 2))) ∧ ((decode cL_law 1163 = .ok (.iadd, 1)) ∧ (decode cL_law 1164 = .ok (.iaload, 1)))) ∧ (((decode cL_law 1165 = .ok (.invokevirtual 129, 3)) ∧ (decode cL_law 1168 = .ok (.aload_n 2, 1))) ∧ ((decode cL_law 1169 = .ok (.aload_n 0, 1)) ∧ (decode cL_law 1170 = .ok (.iload_n 3, 1))))) ∧ ((((decode cL_law 1171 = .ok (.iconst 1, 1)) ∧ (decode cL_law 1172 = .ok (.iadd, 1))) ∧ ((decode cL_law 1173 = .ok (.iaload, 1)) ∧ (decode cL_law 1174 = .ok (.aload_n 0, 1)))) ∧ (((decode cL_law 1175 = .ok (.iload_n 3, 1)) ∧ (decode cL_law 1176 = .ok (.iconst 2, 1))) ∧ ((decode cL_law 1177 = .ok (.iadd, 1)) ∧ (decode cL_law 1178 = .ok (.iaload, 1))))) := by first | decide +kernel | ((repeat' apply And.intro) <;> decide +kernel)
theorem dL_law_1160 : decode cL_law 1160 = .ok (.iload_n 3, 1) := dB_law_52.1.1.1.1
theorem dL_law_1161 : decode cL_law 1161 = .ok (.bipush 6, 2) := dB_law_52.1.1.1.2
theorem dL_law_1163 : decode cL_law 1163 = .ok (.iadd, 1) := dB_law_52.1.1.2.1
theorem dL_law_1164 : decode cL_law 1164 = .ok (.iaload, 1) := dB_law_52.1.1.2.2
theorem dL_law_1165 : decode cL_law 1165 = .ok (.invokevirtual 129, 3) := dB_law_52.1.2.1.1
theorem dL_law_1168 : decode cL_law 1168 = .ok (.aload_n 2, 1) := dB_law_52.1.2.1.2
theorem dL_law_1169 : decode cL_law 1169 = .ok (.aload_n 0, 1) := dB_law_52.1.2.2.1
theorem dL_law_1170 : decode cL_law 1170 = .ok (.iload_n 3, 1) := dB_law_52.1.2.2.2
theorem dL_law_1171 : decode cL_law 1171 = .ok (.iconst 1, 1) := dB_law_52.2.1.1.1
theorem dL_law_1172 : decode cL_law 1172 = .ok (.iadd, 1) := dB_law_52.2.1.1.2
theorem dL_law_1173 : decode cL_law 1173 = .ok (.iaload, 1) := dB_law_52.2.1.2.1
theorem dL_law_1174 : decode cL_law 1174 = .ok (.aload_n 0, 1) := dB_law_52.2.1.2.2
theorem dL_law_1175 : decode cL_law 1175 = .ok (.iload_n 3, 1) := dB_law_52.2.2.1.1
theorem dL_law_1176 : decode cL_law 1176 = .ok (.iconst 2, 1) := dB_law_52.2.2.1.2
theorem dL_law_1177 : decode cL_law 1177 = .ok (.iadd, 1) := dB_law_52.2.2.2.1
theorem dL_law_1178 : decode cL_law 1178 = .ok (.iaload, 1) := dB_law_52.2.2.2.2
theorem dB_law_53 : ((((decode cL_law 1179 = .ok (.aload_n 0, 1)) ∧ (decode cL_law 1180 = .ok (.iload_n 3, 1))) ∧ ((decode cL_law 1181 = .ok (.iconst 3, 1)) ∧ (decode cL_law 1182 = .ok (.iadd, 1)))) ∧ (((decode cL_law 1183 = .ok (.iaload, 1)) ∧ (decode cL_law 1184 = .ok (.aload_n 0, 1))) ∧ ((decode cL_law 1185 = .ok (.iload_n 3, 1)) ∧ (decode cL_law 1186 = .ok (.iconst 4, 1))))) ∧ ((((decode cL_law 1187 = .ok (.iadd, 1)) ∧ (decode cL_law 1188 = .ok (.iaload, 1))) ∧ ((decode cL_law 1189 = .ok (.aload_n 0, 1)) ∧ (decode cL_law 1190 = .ok (.iload_n 3, 1)))) ∧ (((decode cL_law 1191 = .ok (.iconst 5, 1)) ∧ (decode cL_law 1192 = .ok (.iadd, 1))) ∧ ((decode cL_law 1193 = .ok (.iaload, 1)) ∧ (decode cL_law 1194 = .ok (.aload_n 0, 1))))) := by first | decide +kernel | ((repeat' apply And.intro) <;> decide +kernel)
theorem dL_law_1179 : decode cL_law 1179 = .ok (.aload_n 0, 1) := dB_law_53.1.1.1.1
theorem dL_law_1180 : decode cL_law 1180 = .ok (.iload_n 3, 1) := dB_law_53.1.1.1.2
theorem dL_law_1181 : decode cL_law 1181 = .ok (.iconst 3, 1) := dB_law_53.1.1.2.1
theorem dL_law_1182 : decode cL_law 1182 = .ok (.iadd, 1) := dB_law_53.1.1.2.2
theorem dL_law_1183 : decode cL_law 1183 = .ok (.iaload, 1) := dB_law_53.1.2.1.1
theorem dL_law_1184 : decode cL_law 1184 = .ok (.aload_n 0, 1) := dB_law_53.1.2.1.2
theorem dL_law_1185 : decode cL_law 1185 = .ok (.iload_n 3, 1) := dB_law_53.1.2.2.1
theorem dL_law_1186 : decode cL_law 1186 = .ok (.iconst 4, 1) := dB_law_53.1.2.2.2
theorem dL_law_1187 : decode cL_law 1187 = .ok (.iadd, 1) := dB_law_53.2.1.1.1
theorem dL_law_1188 : decode cL_law 1188 = .ok (.iaload, 1) := dB_law_53.2.1.1.2
theorem dL_law_1189 : decode cL_law 1189 = .ok (.aload_n 0, 1) := dB_law_53.2.1.2.1
theorem dL_law_1190 : decode cL_law 1190 = .ok (.iload_n 3, 1) := dB_law_53.2.1.2.2
theorem dL_law_1191 : decode cL_law 1191 = .ok (.iconst 5, 1) := dB_law_53.2.2.1.1
theorem dL_law_1192 : decode cL_law 1192 = .ok (.iadd, 1) := dB_law_53.2.2.1.2
theorem dL_law_1193 : decode cL_law 1193 = .ok (.iaload, 1) := dB_law_53.2.2.2.1
theorem dL_law_1194 : decode cL_law 1194 = .ok (.aload_n 0, 1) := dB_law_53.2.2.2.2
theorem dB_law_54 : ((((decode cL_law 1195 = .ok (.iload_n 3, 1)) ∧ (decode cL_law 1196 = .ok (.bipush 6, 2))) ∧ ((decode cL_law 1198 = .ok (.iadd, 1)) ∧ (decode cL_law 1199 = .ok (.iaload, 1)))) ∧ (((decode cL_law 1200 = .ok (.invokevirtual 133, 3)) ∧ (decode cL_law 1203 = .ok (.if_icmp .eq 130, 3))) ∧ ((decode cL_law 1206 = .ok (.iconst 0, 1)) ∧ (decode cL_law 1207 = .ok (.ireturn, 1))))) ∧ ((((decode cL_law 1208 = .ok (.aload_n 1, 1)) ∧ (decode cL_law 1209 = .ok (.aload_n 0, 1))) ∧ ((decode cL_law 1210 = .ok (.iload_n 3, 1)) ∧ (decode cL_law 1211 = .ok (.iconst 1, 1)))) ∧ (((decode cL_law 1212 = .ok (.iadd, 1)) ∧ (decode cL_law 1213 = .ok (.iaload, 1))) ∧ ((decode cL_law 1214 = .ok (.aload_n 0, 1)) ∧ (decode cL_law 1215 = .ok (.iload_n 3, 1))))) := by first | decide +kernel | ((repeat' apply And.intro) <;> decide +kernel)
theorem dL_law_1195 : decode cL_law 1195 = .ok (.iload_n 3, 1) := dB_law_54.1.1.1.1
theorem dL_law_1196 : decode cL_law 1196 = .ok (.bipush 6, 2) := dB_law_54.1.1.1.2
theorem dL_law_1198 : decode cL_law 1198 = .ok (.iadd, 1) := dB_law_54.1.1.2.1
theorem dL_law_1199 : decode cL_law 1199 = .ok (.iaload, 1) := dB_law_54.1.1.2.2
theorem dL_law_1200 : decode cL_law 1200 = .ok (.invokevirtual 133, 3) := dB_law_54.1.2.1.1
theorem dL_law_1203 : decode cL_law 1203 = .ok (.if_icmp .eq 130, 3) := dB_law_54.1.2.1.2
theorem dL_law_1206 : decode cL_law 1206 = .ok (.iconst 0, 1) := dB_law_54.1.2.2.1
theorem dL_law_1207 : decode cL_law 1207 = .ok (.ireturn, 1) := dB_law_54.1.2.2.2
theorem dL_law_1208 : decode cL_law 1208 = .ok (.aload_n 1, 1) := dB_law_54.2.1.1.1
theorem dL_law_1209 : decode cL_law 1209 = .ok (.aload_n 0, 1) := dB_law_54.2.1.1.2
theorem dL_law_1210 : decode cL_law 1210 = .ok (.iload_n 3, 1) := dB_law_54.2.1.2.1
theorem dL_law_1211 : decode cL_law 1211 = .ok (.iconst 1, 1) := dB_law_54.2.1.2.2
theorem dL_law_1212 : decode cL_law 1212 = .ok (.iadd, 1) := dB_law_54.2.2.1.1
theorem dL_law_1213 : decode cL_law 1213 = .ok (.iaload, 1) := dB_law_54.2.2.1.2
theorem dL_law_1214 : decode cL_law 1214 = .ok (.aload_n 0, 1) := dB_law_54.2.2.2.1
theorem dL_law_1215 : decode cL_law 1215 = .ok (.iload_n 3, 1) := dB_law_54.2.2.2.2
theorem dB_law_55 : ((((decode cL_law 1216 = .ok (.iconst 2, 1)) ∧ (decode cL_law 1217 = .ok (.iadd, 1))) ∧ ((decode cL_law 1218 = .ok (.iaload, 1)) ∧ (decode cL_law 1219 = .ok (.aload_n 0, 1)))) ∧ (((decode cL_law 1220 = .ok (.iload_n 3, 1)) ∧ (decode cL_law 1221 = .ok (.iconst 3, 1))) ∧ ((decode cL_law 1222 = .ok (.iadd, 1)) ∧ (decode cL_law 1223 = .ok (.iaload, 1))))) ∧ ((((decode cL_law 1224 = .ok (.aload_n 0, 1)) ∧ (decode cL_law 1225 = .ok (.iload_n 3, 1))) ∧ ((decode cL_law 1226 = .ok (.iconst 4, 1)) ∧ (decode cL_law 1227 = .ok (.iadd, 1)))) ∧ (((decode cL_law 1228 = .ok (.iaload, 1)) ∧ (decode cL_law 1229 = .ok (.invokevirtual 134, 3))) ∧ ((decode cL_law 1232 = .ok (.pop2, 1)) ∧ (decode cL_law 1233 = .ok (.aload_n 2, 1))))) := by first | decide +kernel | ((repeat' apply And.intro) <;> decide +kernel)
theorem dL_law_1216 : decode cL_law 1216 = .ok (.iconst 2, 1) := dB_law_55.1.1.1.1
theorem dL_law_1217 : decode cL_law 1217 = .ok (.iadd, 1) := dB_law_55.1.1.1.2
theorem dL_law_1218 : decode cL_law 1218 = .ok (.iaload, 1) := dB_law_55.1.1.2.1
theorem dL_law_1219 : decode cL_law 1219 = .ok (.aload_n 0, 1) := dB_law_55.1.1.2.2
theorem dL_law_1220 : decode cL_law 1220 = .ok (.iload_n 3, 1) := dB_law_55.1.2.1.1
theorem dL_law_1221 : decode cL_law 1221 = .ok (.iconst 3, 1) := dB_law_55.1.2.1.2
theorem dL_law_1222 : decode cL_law 1222 = .ok (.iadd, 1) := dB_law_55.1.2.2.1
theorem dL_law_1223 : decode cL_law 1223 = .ok (.iaload, 1) := dB_law_55.1.2.2.2
theorem dL_law_1224 : decode cL_law 1224 = .ok (.aload_n 0, 1) := dB_law_55.2.1.1.1
theorem dL_law_1225 : decode cL_law 1225 = .ok (.iload_n 3, 1) := dB_law_55.2.1.1.2
theorem dL_law_1226 : decode cL_law 1226 = .ok (.iconst 4, 1) := dB_law_55.2.1.2.1
theorem dL_law_1227 : decode cL_law 1227 = .ok (.iadd, 1) := dB_law_55.2.1.2.2
theorem dL_law_1228 : decode cL_law 1228 = .ok (.iaload, 1) := dB_law_55.2.2.1.1
theorem dL_law_1229 : decode cL_law 1229 = .ok (.invokevirtual 134, 3) := dB_law_55.2.2.1.2
theorem dL_law_1232 : decode cL_law 1232 = .ok (.pop2, 1) := dB_law_55.2.2.2.1
theorem dL_law_1233 : decode cL_law 1233 = .ok (.aload_n 2, 1) := dB_law_55.2.2.2.2
theorem dB_law_56 : ((((decode cL_law 1234 = .ok (.aload_n 0, 1)) ∧ (decode cL_law 1235 = .ok (.iload_n 3, 1))) ∧ ((decode cL_law 1236 = .ok (.iconst 1, 1)) ∧ (decode cL_law 1237 = .ok (.iadd, 1)))) ∧ (((decode cL_law 1238 = .ok (.iaload, 1)) ∧ (decode cL_law 1239 = .ok (.aload_n 0, 1))) ∧ ((decode cL_law 1240 = .ok (.iload_n 3, 1)) ∧ (decode cL_law 1241 = .ok (.iconst 2, 1))))) ∧ ((((decode cL_law 1242 = .ok (.iadd, 1)) ∧ (decode cL_law 1243 = .ok (.iaload, 1))) ∧ ((decode cL_law 1244 = .ok (.aload_n 0, 1)) ∧ (decode cL_law 1245 = .ok (.iload_n 3, 1)))) ∧ (((decode cL_law 1246 = .ok (.iconst 3, 1)) ∧ (decode cL_law 1247 = .ok (.iadd, 1))) ∧ ((decode cL_law 1248 = .ok (.iaload, 1)) ∧ (decode cL_law 1249 = .ok (.aload_n 0, 1))))) := by first | decide +kernel | ((repeat' apply And.intro) <;> decide +kernel)
theorem dL_law_1234 : decode cL_law 1234 = .ok (.aload_n 0, 1) := dB_law_56.1.1.1.1
theorem dL_law_1235 : decode cL_law 1235 = .ok (.iload_n 3, 1) := dB_law_56.1.1.1.2
theorem dL_law_1236 : decode cL_law 1236 = .ok (.iconst 1, 1) := dB_law_56.1.1.2.1
theorem dL_law_1237 : decode cL_law 1237 = .ok (.iadd, 1) := dB_law_56.1.1.2.2
theorem dL_law_1238 : decode cL_law 1238 = .ok (.iaload, 1) := dB_law_56.1.2.1.1
theorem dL_law_1239 : decode cL_law 1239 = .ok (.aload_n 0, 1) := dB_law_56.1.2.1.2
theorem dL_law_1240 : decode cL_law 1240 = .ok (.iload_n 3, 1) := dB_law_56.1.2.2.1
theorem dL_law_1241 : decode cL_law 1241 = .ok (.iconst 2, 1) := dB_law_56.1.2.2.2
theorem dL_law_1242 : decode cL_law 1242 = .ok (.iadd, 1) := dB_law_56.2.1.1.1
theorem dL_law_1243 : decode cL_law 1243 = .ok (.iaload, 1) := dB_law_56.2.1.1.2
theorem dL_law_1244 : decode cL_law 1244 = .ok (.aload_n 0, 1) := dB_law_56.2.1.2.1
theorem dL_law_1245 : decode cL_law 1245 = .ok (.iload_n 3, 1) := dB_law_56.2.1.2.2
theorem dL_law_1246 : decode cL_law 1246 = .ok (.iconst 3, 1) := dB_law_56.2.2.1.1
theorem dL_law_1247 : decode cL_law 1247 = .ok (.iadd, 1) := dB_law_56.2.2.1.2
theorem dL_law_1248 : decode cL_law 1248 = .ok (.iaload, 1) := dB_law_56.2.2.2.1
theorem dL_law_1249 : decode cL_law 1249 = .ok (.aload_n 0, 1) := dB_law_56.2.2.2.2
theorem dB_law_57 : ((((decode cL_law 1250 = .ok (.iload_n 3, 1)) ∧ (decode cL_law 1251 = .ok (.iconst 4, 1))) ∧ ((decode cL_law 1252 = .ok (.iadd, 1)) ∧ (decode cL_law 1253 = .ok (.iaload, 1)))) ∧ (((decode cL_law 1254 = .ok (.invokevirtual 138, 3)) ∧ (decode cL_law 1257 = .ok (.pop2, 1))) ∧ ((decode cL_law 1258 = .ok (.goto 75, 3)) ∧ (decode cL_law 1261 = .ok (.aload_n 1, 1))))) ∧ ((((decode cL_law 1262 = .ok (.aload_n 0, 1)) ∧ (decode cL_law 1263 = .ok (.iload_n 3, 1))) ∧ ((decode cL_law 1264 = .ok (.iconst 1, 1)) ∧ (decode cL_law 1265 = .ok (.iadd, 1)))) ∧ (((decode cL_law 1266 = .ok (.iaload, 1)) ∧ (decode cL_law 1267 = .ok (.invokevirtual 139, 3))) ∧ ((decode cL_law 1270 = .ok (.pop, 1)) ∧ (decode cL_law 1271 = .ok (.aload_n 2, 1))))) := by first | decide +kernel | ((repeat' apply And.intro) <;> decide +kernel)
theorem dL_law_1250 : decode cL_law 1250 = .ok (.iload_n 3, 1) := dB_law_57.1.1.1.1
theorem dL_law_1251 : decode cL_law 1251 = .ok (.iconst 4, 1) := dB_law_57.1.1.1.2
theorem dL_law_1252 : decode cL_law 1252 = .ok (.iadd, 1) := dB_law_57.1.1.2.1
theorem dL_law_1253 : decode cL_law 1253 = .ok (.iaload, 1) := dB_law_57.1.1.2.2
theorem dL_law_1254 : decode cL_law 1254 = .ok (.invokevirtual 138, 3) := dB_law_57.1.2.1.1
theorem dL_law_1257 : decode cL_law 1257 = .ok (.pop2, 1) := dB_law_57.1.2.1.2
theorem dL_law_1258 : decode cL_law 1258 = .ok (.goto 75, 3) := dB_law_57.1.2.2.1
theorem dL_law_1261 : decode cL_law 1261 = .ok (.aload_n 1, 1) := dB_law_57.1.2.2.2
theorem dL_law_1262 : decode cL_law 1262 = .ok (.aload_n 0, 1) := dB_law_57.2.1.1.1
theorem dL_law_1263 : decode cL_law 1263 = .ok (.iload_n 3, 1) := dB_law_57.2.1.1.2
theorem dL_law_1264 : decode cL_law 1264 = .ok (.iconst 1, 1) := dB_law_57.2.1.2.1
theorem dL_law_1265 : decode cL_law 1265 = .ok (.iadd, 1) := dB_law_57.2.1.2.2
theorem dL_law_1266 : decode cL_law 1266 = .ok (.iaload, 1) := dB_law_57.2.2.1.1
theorem dL_law_1267 : decode cL_law 1267 = .ok (.invokevirtual 139, 3) := dB_law_57.2.2.1.2
theorem dL_law_1270 : decode cL_law 1270 = .ok (.pop, 1) := dB_law_57.2.2.2.1
theorem dL_law_1271 : decode cL_law 1271 = .ok (.aload_n 2, 1) := dB_law_57.2.2.2.2
theorem dB_law_58 : ((((decode cL_law 1272 = .ok (.aload_n 0, 1)) ∧ (decode cL_law 1273 = .ok (.iload_n 3, 1))) ∧ ((decode cL_law 1274 = .ok (.iconst 1, 1)) ∧ (decode cL_law 1275 = .ok (.iadd, 1)))) ∧ (((decode cL_law 1276 = .ok (.iaload, 1)) ∧ (decode cL_law 1277 = .ok (.invokevirtual 142, 3))) ∧ ((decode cL_law 1280 = .ok (.pop, 1)) ∧ (decode cL_law 1281 = .ok (.goto 52, 3))))) ∧ ((((decode cL_law 1284 = .ok (.aload_n 1, 1)) ∧ (decode cL_law 1285 = .ok (.aload_n 0, 1))) ∧ ((decode cL_law 1286 = .ok (.iload_n 3, 1)) ∧ (decode cL_law 1287 = .ok (.iconst 1, 1)))) ∧ (((decode cL_law 1288 = .ok (.iadd, 1)) ∧ (decode cL_law 1289 = .ok (.iaload, 1))) ∧ ((decode cL_law 1290 = .ok (.invokevirtual 143, 3)) ∧ (decode cL_law 1293 = .ok (.pop, 1))))) := by first | decide +kernel | ((repeat' apply And.intro) <;> decide +kernel)
theorem dL_law_1272 : decode cL_law 1272 = .ok (.aload_n 0, 1) := dB_law_58.1.1.1.1
theorem dL_law_1273 : decode cL_law 1273 = .ok (.iload_n 3, 1) := dB_law_58.1.1.1.2
theorem dL_law_1274 : decode cL_law 1274 = .ok (.iconst 1, 1) := dB_law_58.1.1.2.1
theorem dL_law_1275 : decode cL_law 1275 = .ok (.iadd, 1) := dB_law_58.1.1.2.2
theorem dL_law_1276 : decode cL_law 1276 = .ok (.iaload, 1) := dB_law_58.1.2.1.1
theorem dL_law_1277 : decode cL_law 1277 = .ok (.invokevirtual 142, 3) := dB_law_58.1.2.1.2
theorem dL_law_1280 : decode cL_law 1280 = .ok (.pop, 1) := dB_law_58.1.2.2.1
theorem dL_law_1281 : decode cL_law 1281 = .ok (.goto 52, 3) := dB_law_58.1.2.2.2
theorem dL_law_1284 : decode cL_law 1284 = .ok (.aload_n 1, 1) := dB_law_58.2.1.1.1
theorem dL_law_1285 : decode cL_law 1285 = .ok (.aload_n 0, 1) := dB_law_58.2.1.1.2
theorem dL_law_1286 : decode cL_law 1286 = .ok (.iload_n 3, 1) := dB_law_58.2.1.2.1
theorem dL_law_1287 : decode cL_law 1287 = .ok (.iconst 1, 1) := dB_law_58.2.1.2.2
theorem dL_law_1288 : decode cL_law 1288 = .ok (.iadd, 1) := dB_law_58.2.2.1.1
theorem dL_law_1289 : decode cL_law 1289 = .ok (.iaload, 1) := dB_law_58.2.2.1.2
theorem dL_law_1290 : decode cL_law 1290 = .ok (.invokevirtual 143, 3) := dB_law_58.2.2.2.1
theorem dL_law_1293 : decode cL_law 1293 = .ok (.pop, 1) := dB_law_58.2.2.2.2
theorem dB_law_59 : ((((decode cL_law 1294 = .ok (.aload_n 2, 1)) ∧ (decode cL_law 1295 = .ok (.aload_n 0, 1))) ∧ ((decode cL_law 1296 = .ok (.iload_n 3, 1)) ∧ (decode cL_law 1297 = .ok (.iconst 1, 1)))) ∧ (((decode cL_law 1298 = .ok (.iadd, 1)) ∧ (decode cL_law 1299 = .ok (.iaload, 1))) ∧ ((decode cL_law 1300 = .ok (.invokevirtual 146, 3)) ∧ (decode cL_law 1303 = .ok (.pop, 1))))) ∧ ((((decode cL_law 1304 = .ok (.goto 29, 3)) ∧ (decode cL_law 1307 = .ok (.aload_n 1, 1))) ∧ ((decode cL_law 1308 = .ok (.invokevirtual 147, 3)) ∧ (decode cL_law 1311 = .ok (.pop2, 1)))) ∧ (((decode cL_law 1312 = .ok (.aload_n 2, 1)) ∧ (decode cL_law 1313 = .ok (.invokevirtual 151, 3))) ∧ ((decode cL_law 1316 = .ok (.pop2, 1)) ∧ (decode cL_law 1317 = .ok (.goto 16, 3))))) := by first | decide +kernel | ((repeat' apply And.intro) <;> decide +kernel)
theorem dL_law_1294 : decode cL_law 1294 = .ok (.aload_n 2, 1) := dB_law_59.1.1.1.1
theorem dL_law_1295 : decode cL_law 1295 = .ok (.aload_n 0, 1) := dB_law_59.1.1.1.2
theorem dL_law_1296 : decode cL_law 1296 = .ok (.iload_n 3, 1) := dB_law_59.1.1.2.1
theorem dL_law_1297 : decode cL_law 1297 = .ok (.iconst 1, 1) := dB_law_59.1.1.2.2
theorem dL_law_1298 : decode cL_law 1298 = .ok (.iadd, 1) := dB_law_59.1.2.1.1
theorem dL_law_1299 : decode cL_law 1299 = .ok (.iaload, 1) := dB_law_59.1.2.1.2
theorem dL_law_1300 : decode cL_law 1300 = .ok (.invokevirtual 146, 3) := dB_law_59.1.2.2.1
theorem dL_law_1303 : decode cL_law 1303 = .ok (.pop, 1) := dB_law_59.1.2.2.2
theorem dL_law_1304 : decode cL_law 1304 = .ok (.goto 29, 3) := dB_law_59.2.1.1.1
theorem dL_law_1307 : decode cL_law 1307 = .ok (.aload_n 1, 1) := dB_law_59.2.1.1.2
theorem dL_law_1308 : decode cL_law 1308 = .ok (.invokevirtual 147, 3) := dB_law_59.2.1.2.1
theorem dL_law_1311 : decode cL_law 1311 = .ok (.pop2, 1) := dB_law_59.2.1.2.2
theorem dL_law_1312 : decode cL_law 1312 = .ok (.aload_n 2, 1) := dB_law_59.2.2.1.1
theorem dL_law_1313 : decode cL_law 1313 = .ok (.invokevirtual 151, 3) := dB_law_59.2.2.1.2
theorem dL_law_1316 : decode cL_law 1316 = .ok (.pop2, 1) := dB_law_59.2.2.2.1
theorem dL_law_1317 : decode cL_law 1317 = .ok (.goto 16, 3) := dB_law_59.2.2.2.2
theorem dB_law_60 : (((decode cL_law 1320 = .ok (.aload_n 1, 1)) ∧ (decode cL_law 1321 = .ok (.invokevirtual 152, 3))) ∧ ((decode cL_law 1324 = .ok (.pop, 1)) ∧ ((decode cL_law 1325 = .ok (.aload_n 2, 1)) ∧ (decode cL_law 1326 = .ok (.invokevirtual 155, 3))))) ∧ (((decode cL_law 1329 = .ok (.pop, 1)) ∧ ((decode cL_law 1330 = .ok (.goto 3, 3)) ∧ (decode cL_law 1333 = .ok (.iinc 3 7, 3)))) ∧ ((decode cL_law 1336 = .ok (.goto (-1318), 3)) ∧ ((decode cL_law 1339 = .ok (.iconst 1, 1)) ∧ (decode cL_law 1340 = .ok (.ireturn, 1))))) := by first | decide +kernel | ((repeat' apply And.intro) <;> decide +kernel)
theorem dL_law_1320 : decode cL_law 1320 = .ok (.aload_n 1, 1) := dB_law_60.1.1.1
theorem dL_law_1321 : decode cL_law 1321 = .ok (.invokevirtual 152, 3) := dB_law_60.1.1.2
theorem dL_law_1324 : decode cL_law 1324 = .ok (.pop, 1) := dB_law_60.1.2.1
theorem dL_law_1325 : decode cL_law 1325 = .ok (.aload_n 2, 1) := dB_law_60.1.2.2.1
theorem dL_law_1326 : decode cL_law 1326 = .ok (.invokevirtual 155, 3) := dB_law_60.1.2.2.2
theorem dL_law_1329 : decode cL_law 1329 = .ok (.pop, 1) := dB_law_60.2.1.1
theorem dL_law_1330 : decode cL_law 1330 = .ok (.goto 3, 3) := dB_law_60.2.1.2.1
theorem dL_law_1333 : decode cL_law 1333 = .ok (.iinc 3 7, 3) := dB_law_60.2.1.2.2
theorem dL_law_1336 : decode cL_law 1336 = .ok (.goto (-1318), 3) := dB_law_60.2.2.1
theorem dL_law_1339 : decode cL_law 1339 = .ok (.iconst 1, 1) := dB_law_60.2.2.2.1
theorem dL_law_1340 : decode cL_law 1340 = .ok (.ireturn, 1) := dB_law_60.2.2.2.2