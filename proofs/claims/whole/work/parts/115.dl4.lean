theorem dl_1047 : decode code 1047 = .ok (.iload 4, 2) := by decide +kernel
theorem dl_1049 : decode code 1049 = .ok (.iconst 5, 1) := by decide +kernel
theorem dl_1050 : decode code 1050 = .ok (.iadd, 1) := by decide +kernel
theorem dl_1051 : decode code 1051 = .ok (.iaload, 1) := by decide +kernel
theorem dl_1052 : decode code 1052 = .ok (.i2l, 1) := by decide +kernel
theorem dl_1053 : decode code 1053 = .ok (.ldc2_w 71, 3) := by decide +kernel
theorem dl_1056 : decode code 1056 = .ok (.land, 1) := by decide +kernel
theorem dl_1057 : decode code 1057 = .ok (.lor, 1) := by decide +kernel
theorem dl_1058 : decode code 1058 = .ok (.aload_n 3, 1) := by decide +kernel
theorem dl_1059 : decode code 1059 = .ok (.invokestatic 122, 3) := by decide +kernel
theorem dl_1062 : decode code 1062 = .ok (.istore 5, 2) := by decide +kernel
theorem dl_1064 : decode code 1064 = .ok (.aload_n 2, 1) := by decide +kernel
theorem dl_1065 : decode code 1065 = .ok (.aload_n 0, 1) := by decide +kernel
theorem dl_1066 : decode code 1066 = .ok (.iload 4, 2) := by decide +kernel
theorem dl_1068 : decode code 1068 = .ok (.iconst 1, 1) := by decide +kernel
theorem dl_1069 : decode code 1069 = .ok (.iadd, 1) := by decide +kernel
theorem dl_1070 : decode code 1070 = .ok (.iaload, 1) := by decide +kernel
theorem dl_1071 : decode code 1071 = .ok (.aload_n 0, 1) := by decide +kernel
theorem dl_1072 : decode code 1072 = .ok (.iload 4, 2) := by decide +kernel
theorem dl_1074 : decode code 1074 = .ok (.iconst 2, 1) := by decide +kernel
theorem dl_1075 : decode code 1075 = .ok (.iadd, 1) := by decide +kernel
theorem dl_1076 : decode code 1076 = .ok (.iaload, 1) := by decide +kernel
theorem dl_1077 : decode code 1077 = .ok (.i2l, 1) := by decide +kernel
theorem dl_1078 : decode code 1078 = .ok (.bipush 32, 2) := by decide +kernel
theorem dl_1080 : decode code 1080 = .ok (.lshl, 1) := by decide +kernel
theorem dl_1081 : decode code 1081 = .ok (.aload_n 0, 1) := by decide +kernel
theorem dl_1082 : decode code 1082 = .ok (.iload 4, 2) := by decide +kernel
theorem dl_1084 : decode code 1084 = .ok (.iconst 3, 1) := by decide +kernel
theorem dl_1085 : decode code 1085 = .ok (.iadd, 1) := by decide +kernel
theorem dl_1086 : decode code 1086 = .ok (.iaload, 1) := by decide +kernel
theorem dl_1087 : decode code 1087 = .ok (.i2l, 1) := by decide +kernel
theorem dl_1088 : decode code 1088 = .ok (.ldc2_w 71, 3) := by decide +kernel
theorem dl_1091 : decode code 1091 = .ok (.land, 1) := by decide +kernel
theorem dl_1092 : decode code 1092 = .ok (.lor, 1) := by decide +kernel
theorem dl_1093 : decode code 1093 = .ok (.aload_n 0, 1) := by decide +kernel
theorem dl_1094 : decode code 1094 = .ok (.iload 4, 2) := by decide +kernel
theorem dl_1096 : decode code 1096 = .ok (.iconst 4, 1) := by decide +kernel
theorem dl_1097 : decode code 1097 = .ok (.iadd, 1) := by decide +kernel
theorem dl_1098 : decode code 1098 = .ok (.iaload, 1) := by decide +kernel
theorem dl_1099 : decode code 1099 = .ok (.i2l, 1) := by decide +kernel
theorem dl_1100 : decode code 1100 = .ok (.bipush 32, 2) := by decide +kernel
theorem dl_1102 : decode code 1102 = .ok (.lshl, 1) := by decide +kernel
theorem dl_1103 : decode code 1103 = .ok (.aload_n 0, 1) := by decide +kernel
theorem dl_1104 : decode code 1104 = .ok (.iload 4, 2) := by decide +kernel
theorem dl_1106 : decode code 1106 = .ok (.iconst 5, 1) := by decide +kernel
theorem dl_1107 : decode code 1107 = .ok (.iadd, 1) := by decide +kernel
theorem dl_1108 : decode code 1108 = .ok (.iaload, 1) := by decide +kernel
theorem dl_1109 : decode code 1109 = .ok (.i2l, 1) := by decide +kernel
theorem dl_1110 : decode code 1110 = .ok (.ldc2_w 71, 3) := by decide +kernel
theorem dl_1113 : decode code 1113 = .ok (.land, 1) := by decide +kernel
theorem dl_1114 : decode code 1114 = .ok (.lor, 1) := by decide +kernel
theorem dl_1115 : decode code 1115 = .ok (.invokevirtual 125, 3) := by decide +kernel
theorem dl_1118 : decode code 1118 = .ok (.istore 6, 2) := by decide +kernel
theorem dl_1120 : decode code 1120 = .ok (.aload_n 2, 1) := by decide +kernel
theorem dl_1121 : decode code 1121 = .ok (.invokevirtual 79, 3) := by decide +kernel
theorem dl_1124 : decode code 1124 = .ok (.iload 5, 2) := by decide +kernel
theorem dl_1126 : decode code 1126 = .ok (.if_icmp .eq 5, 3) := by decide +kernel
theorem dl_1129 : decode code 1129 = .ok (.iconst 0, 1) := by decide +kernel
theorem dl_1130 : decode code 1130 = .ok (.ireturn, 1) := by decide +kernel
theorem dl_1131 : decode code 1131 = .ok (.iload 5, 2) := by decide +kernel
theorem dl_1133 : decode code 1133 = .ok (.ifCond .ne 15, 3) := by decide +kernel
theorem dl_1136 : decode code 1136 = .ok (.aload_n 3, 1) := by decide +kernel
theorem dl_1137 : decode code 1137 = .ok (.iconst 0, 1) := by decide +kernel
theorem dl_1138 : decode code 1138 = .ok (.laload, 1) := by decide +kernel
theorem dl_1139 : decode code 1139 = .ok (.iload 6, 2) := by decide +kernel
theorem dl_1141 : decode code 1141 = .ok (.i2l, 1) := by decide +kernel
theorem dl_1142 : decode code 1142 = .ok (.lcmp, 1) := by decide +kernel
theorem dl_1143 : decode code 1143 = .ok (.ifCond .eq 5, 3) := by decide +kernel
theorem dl_1146 : decode code 1146 = .ok (.iconst 0, 1) := by decide +kernel
theorem dl_1147 : decode code 1147 = .ok (.ireturn, 1) := by decide +kernel
theorem dl_1148 : decode code 1148 = .ok (.goto 207, 3) := by decide +kernel
theorem dl_1151 : decode code 1151 = .ok (.aload_n 1, 1) := by decide +kernel
theorem dl_1152 : decode code 1152 = .ok (.aload_n 0, 1) := by decide +kernel
theorem dl_1153 : decode code 1153 = .ok (.iload 4, 2) := by decide +kernel
theorem dl_1155 : decode code 1155 = .ok (.iconst 1, 1) := by decide +kernel
theorem dl_1156 : decode code 1156 = .ok (.iadd, 1) := by decide +kernel
theorem dl_1157 : decode code 1157 = .ok (.iaload, 1) := by decide +kernel
theorem dl_1158 : decode code 1158 = .ok (.aload_n 3, 1) := by decide +kernel
theorem dl_1159 : decode code 1159 = .ok (.invokestatic 126, 3) := by decide +kernel
theorem dl_1162 : decode code 1162 = .ok (.istore 5, 2) := by decide +kernel
theorem dl_1164 : decode code 1164 = .ok (.aload_n 2, 1) := by decide +kernel
theorem dl_1165 : decode code 1165 = .ok (.aload_n 0, 1) := by decide +kernel
theorem dl_1166 : decode code 1166 = .ok (.iload 4, 2) := by decide +kernel
theorem dl_1168 : decode code 1168 = .ok (.iconst 1, 1) := by decide +kernel
theorem dl_1169 : decode code 1169 = .ok (.iadd, 1) := by decide +kernel
theorem dl_1170 : decode code 1170 = .ok (.iaload, 1) := by decide +kernel
theorem dl_1171 : decode code 1171 = .ok (.invokevirtual 129, 3) := by decide +kernel
theorem dl_1174 : decode code 1174 = .ok (.istore 6, 2) := by decide +kernel
theorem dl_1176 : decode code 1176 = .ok (.aload_n 2, 1) := by decide +kernel
theorem dl_1177 : decode code 1177 = .ok (.invokevirtual 79, 3) := by decide +kernel
theorem dl_1180 : decode code 1180 = .ok (.iload 5, 2) := by decide +kernel
theorem dl_1182 : decode code 1182 = .ok (.if_icmp .eq 5, 3) := by decide +kernel
theorem dl_1185 : decode code 1185 = .ok (.iconst 0, 1) := by decide +kernel
theorem dl_1186 : decode code 1186 = .ok (.ireturn, 1) := by decide +kernel
theorem dl_1187 : decode code 1187 = .ok (.iload 5, 2) := by decide +kernel
theorem dl_1189 : decode code 1189 = .ok (.ifCond .ne 15, 3) := by decide +kernel
theorem dl_1192 : decode code 1192 = .ok (.aload_n 3, 1) := by decide +kernel
theorem dl_1193 : decode code 1193 = .ok (.iconst 0, 1) := by decide +kernel
theorem dl_1194 : decode code 1194 = .ok (.laload, 1) := by decide +kernel
theorem dl_1195 : decode code 1195 = .ok (.iload 6, 2) := by decide +kernel
theorem dl_1197 : decode code 1197 = .ok (.i2l, 1) := by decide +kernel
theorem dl_1198 : decode code 1198 = .ok (.lcmp, 1) := by decide +kernel
theorem dl_1199 : decode code 1199 = .ok (.ifCond .eq 5, 3) := by decide +kernel
theorem dl_1202 : decode code 1202 = .ok (.iconst 0, 1) := by decide +kernel
theorem dl_1203 : decode code 1203 = .ok (.ireturn, 1) := by decide +kernel
theorem dl_1204 : decode code 1204 = .ok (.goto 151, 3) := by decide +kernel
theorem dl_1207 : decode code 1207 = .ok (.aload_n 1, 1) := by decide +kernel
theorem dl_1208 : decode code 1208 = .ok (.aload_n 0, 1) := by decide +kernel
theorem dl_1209 : decode code 1209 = .ok (.iload 4, 2) := by decide +kernel
theorem dl_1211 : decode code 1211 = .ok (.iconst 1, 1) := by decide +kernel
theorem dl_1212 : decode code 1212 = .ok (.iadd, 1) := by decide +kernel
theorem dl_1213 : decode code 1213 = .ok (.iaload, 1) := by decide +kernel
theorem dl_1214 : decode code 1214 = .ok (.aload_n 3, 1) := by decide +kernel
theorem dl_1215 : decode code 1215 = .ok (.invokestatic 130, 3) := by decide +kernel
theorem dl_1218 : decode code 1218 = .ok (.istore 5, 2) := by decide +kernel
theorem dl_1220 : decode code 1220 = .ok (.aload_n 2, 1) := by decide +kernel
theorem dl_1221 : decode code 1221 = .ok (.aload_n 0, 1) := by decide +kernel
theorem dl_1222 : decode code 1222 = .ok (.iload 4, 2) := by decide +kernel
theorem dl_1224 : decode code 1224 = .ok (.iconst 1, 1) := by decide +kernel
theorem dl_1225 : decode code 1225 = .ok (.iadd, 1) := by decide +kernel
theorem dl_1226 : decode code 1226 = .ok (.iaload, 1) := by decide +kernel
theorem dl_1227 : decode code 1227 = .ok (.invokevirtual 132, 3) := by decide +kernel
theorem dl_1230 : decode code 1230 = .ok (.istore 6, 2) := by decide +kernel
theorem dl_1232 : decode code 1232 = .ok (.aload_n 2, 1) := by decide +kernel
theorem dl_1233 : decode code 1233 = .ok (.invokevirtual 79, 3) := by decide +kernel
theorem dl_1236 : decode code 1236 = .ok (.iload 5, 2) := by decide +kernel
theorem dl_1238 : decode code 1238 = .ok (.if_icmp .eq 5, 3) := by decide +kernel
theorem dl_1241 : decode code 1241 = .ok (.iconst 0, 1) := by decide +kernel
theorem dl_1242 : decode code 1242 = .ok (.ireturn, 1) := by decide +kernel
theorem dl_1243 : decode code 1243 = .ok (.iload 5, 2) := by decide +kernel
theorem dl_1245 : decode code 1245 = .ok (.ifCond .ne 15, 3) := by decide +kernel
theorem dl_1248 : decode code 1248 = .ok (.aload_n 3, 1) := by decide +kernel
theorem dl_1249 : decode code 1249 = .ok (.iconst 0, 1) := by decide +kernel
theorem dl_1250 : decode code 1250 = .ok (.laload, 1) := by decide +kernel
theorem dl_1251 : decode code 1251 = .ok (.iload 6, 2) := by decide +kernel
theorem dl_1253 : decode code 1253 = .ok (.i2l, 1) := by decide +kernel
theorem dl_1254 : decode code 1254 = .ok (.lcmp, 1) := by decide +kernel
theorem dl_1255 : decode code 1255 = .ok (.ifCond .eq 5, 3) := by decide +kernel
theorem dl_1258 : decode code 1258 = .ok (.iconst 0, 1) := by decide +kernel
theorem dl_1259 : decode code 1259 = .ok (.ireturn, 1) := by decide +kernel
theorem dl_1260 : decode code 1260 = .ok (.goto 95, 3) := by decide +kernel
theorem dl_1263 : decode code 1263 = .ok (.aload_n 1, 1) := by decide +kernel
theorem dl_1264 : decode code 1264 = .ok (.aload_n 0, 1) := by decide +kernel
theorem dl_1265 : decode code 1265 = .ok (.iload 4, 2) := by decide +kernel
theorem dl_1267 : decode code 1267 = .ok (.iconst 1, 1) := by decide +kernel
theorem dl_1268 : decode code 1268 = .ok (.iadd, 1) := by decide +kernel
theorem dl_1269 : decode code 1269 = .ok (.iaload, 1) := by decide +kernel
theorem dl_1270 : decode code 1270 = .ok (.aload_n 0, 1) := by decide +kernel
theorem dl_1271 : decode code 1271 = .ok (.iload 4, 2) := by decide +kernel
theorem dl_1273 : decode code 1273 = .ok (.iconst 2, 1) := by decide +kernel
theorem dl_1274 : decode code 1274 = .ok (.iadd, 1) := by decide +kernel
theorem dl_1275 : decode code 1275 = .ok (.iaload, 1) := by decide +kernel
theorem dl_1276 : decode code 1276 = .ok (.invokestatic 133, 3) := by decide +kernel
theorem dl_1279 : decode code 1279 = .ok (.istore 5, 2) := by decide +kernel
theorem dl_1281 : decode code 1281 = .ok (.aload_n 2, 1) := by decide +kernel
theorem dl_1282 : decode code 1282 = .ok (.aload_n 0, 1) := by decide +kernel
theorem dl_1283 : decode code 1283 = .ok (.iload 4, 2) := by decide +kernel
theorem dl_1285 : decode code 1285 = .ok (.iconst 1, 1) := by decide +kernel
theorem dl_1286 : decode code 1286 = .ok (.iadd, 1) := by decide +kernel
theorem dl_1287 : decode code 1287 = .ok (.iaload, 1) := by decide +kernel
