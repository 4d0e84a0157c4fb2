def dlb_6l : List (Nat × Instr × Nat) := [(1128, .aload_n 1, 1), (1129, .invokevirtual 176, 3), (1132, .aload_n 2, 1), (1133, .invokevirtual 180, 3), (1136, .lcmp, 1), (1137, .ifCond .eq 981, 3), (1140, .iconst 0, 1), (1141, .ireturn, 1), (1142, .aload_n 1, 1), (1143, .invokevirtual 181, 3), (1146, .aload_n 2, 1), (1147, .invokevirtual 184, 3), (1150, .lcmp, 1), (1151, .ifCond .eq 967, 3), (1154, .iconst 0, 1), (1155, .ireturn, 1), (1156, .aload_n 1, 1), (1157, .aload_n 0, 1), (1158, .iload 5, 2), (1160, .iconst 1, 1), (1161, .iadd, 1), (1162, .iaload, 1), (1163, .aload_n 0, 1), (1164, .iload 5, 2), (1166, .iconst 2, 1), (1167, .iadd, 1), (1168, .iaload, 1), (1169, .aload_n 3, 1), (1170, .invokestatic 185, 3), (1173, .istore 6, 2), (1175, .aload_n 2, 1), (1176, .aload_n 0, 1), (1177, .iload 5, 2), (1179, .iconst 1, 1), (1180, .iadd, 1), (1181, .iaload, 1), (1182, .aload_n 0, 1), (1183, .iload 5, 2), (1185, .iconst 2, 1), (1186, .iadd, 1), (1187, .iaload, 1), (1188, .invokevirtual 187, 3), (1191, .istore 7, 2), (1193, .aload_n 2, 1), (1194, .invokevirtual 125, 3), (1197, .iload 6, 2), (1199, .if_icmp .eq 5, 3), (1202, .iconst 0, 1), (1203, .ireturn, 1), (1204, .iload 6, 2), (1206, .ifCond .ne 15, 3), (1209, .aload_n 3, 1), (1210, .iconst 0, 1), (1211, .laload, 1), (1212, .iload 7, 2), (1214, .i2l, 1), (1215, .lcmp, 1), (1216, .ifCond .eq 5, 3), (1219, .iconst 0, 1), (1220, .ireturn, 1), (1221, .goto 897, 3), (1224, .aload_n 1, 1), (1225, .aload_n 0, 1), (1226, .iload 5, 2), (1228, .iconst 1, 1), (1229, .iadd, 1), (1230, .iaload, 1), (1231, .i2c, 1), (1232, .aload_n 0, 1), (1233, .iload 5, 2), (1235, .iconst 2, 1), (1236, .iadd, 1), (1237, .iaload, 1), (1238, .aload_n 3, 1), (1239, .invokestatic 188, 3), (1242, .istore 6, 2), (1244, .aload_n 2, 1), (1245, .aload_n 0, 1), (1246, .iload 5, 2), (1248, .iconst 1, 1), (1249, .iadd, 1), (1250, .iaload, 1), (1251, .i2c, 1), (1252, .aload_n 0, 1), (1253, .iload 5, 2), (1255, .iconst 2, 1), (1256, .iadd, 1), (1257, .iaload, 1), (1258, .invokevirtual 190, 3), (1261, .istore 7, 2), (1263, .aload_n 2, 1), (1264, .invokevirtual 125, 3), (1267, .iload 6, 2), (1269, .if_icmp .eq 5, 3), (1272, .iconst 0, 1), (1273, .ireturn, 1), (1274, .iload 6, 2), (1276, .ifCond .ne 15, 3), (1279, .aload_n 3, 1), (1280, .iconst 0, 1), (1281, .laload, 1), (1282, .iload 7, 2), (1284, .i2l, 1), (1285, .lcmp, 1), (1286, .ifCond .eq 5, 3), (1289, .iconst 0, 1), (1290, .ireturn, 1)]
theorem dlb_6 : dcl (fun k => decode cL_law k) dlb_6l = true := by decide +kernel
theorem dL_law_1128 : decode cL_law 1128 = .ok (.aload_n 1, 1) := dcl_at (f := fun k => decode cL_law k) dlb_6 0 rfl
theorem dL_law_1129 : decode cL_law 1129 = .ok (.invokevirtual 176, 3) := dcl_at (f := fun k => decode cL_law k) dlb_6 1 rfl
theorem dL_law_1132 : decode cL_law 1132 = .ok (.aload_n 2, 1) := dcl_at (f := fun k => decode cL_law k) dlb_6 2 rfl
theorem dL_law_1133 : decode cL_law 1133 = .ok (.invokevirtual 180, 3) := dcl_at (f := fun k => decode cL_law k) dlb_6 3 rfl
theorem dL_law_1136 : decode cL_law 1136 = .ok (.lcmp, 1) := dcl_at (f := fun k => decode cL_law k) dlb_6 4 rfl
theorem dL_law_1137 : decode cL_law 1137 = .ok (.ifCond .eq 981, 3) := dcl_at (f := fun k => decode cL_law k) dlb_6 5 rfl
theorem dL_law_1140 : decode cL_law 1140 = .ok (.iconst 0, 1) := dcl_at (f := fun k => decode cL_law k) dlb_6 6 rfl
theorem dL_law_1141 : decode cL_law 1141 = .ok (.ireturn, 1) := dcl_at (f := fun k => decode cL_law k) dlb_6 7 rfl
theorem dL_law_1142 : decode cL_law 1142 = .ok (.aload_n 1, 1) := dcl_at (f := fun k => decode cL_law k) dlb_6 8 rfl
theorem dL_law_1143 : decode cL_law 1143 = .ok (.invokevirtual 181, 3) := dcl_at (f := fun k => decode cL_law k) dlb_6 9 rfl
theorem dL_law_1146 : decode cL_law 1146 = .ok (.aload_n 2, 1) := dcl_at (f := fun k => decode cL_law k) dlb_6 10 rfl
theorem dL_law_1147 : decode cL_law 1147 = .ok (.invokevirtual 184, 3) := dcl_at (f := fun k => decode cL_law k) dlb_6 11 rfl
theorem dL_law_1150 : decode cL_law 1150 = .ok (.lcmp, 1) := dcl_at (f := fun k => decode cL_law k) dlb_6 12 rfl
theorem dL_law_1151 : decode cL_law 1151 = .ok (.ifCond .eq 967, 3) := dcl_at (f := fun k => decode cL_law k) dlb_6 13 rfl
theorem dL_law_1154 : decode cL_law 1154 = .ok (.iconst 0, 1) := dcl_at (f := fun k => decode cL_law k) dlb_6 14 rfl
theorem dL_law_1155 : decode cL_law 1155 = .ok (.ireturn, 1) := dcl_at (f := fun k => decode cL_law k) dlb_6 15 rfl
theorem dL_law_1156 : decode cL_law 1156 = .ok (.aload_n 1, 1) := dcl_at (f := fun k => decode cL_law k) dlb_6 16 rfl
theorem dL_law_1157 : decode cL_law 1157 = .ok (.aload_n 0, 1) := dcl_at (f := fun k => decode cL_law k) dlb_6 17 rfl
theorem dL_law_1158 : decode cL_law 1158 = .ok (.iload 5, 2) := dcl_at (f := fun k => decode cL_law k) dlb_6 18 rfl
theorem dL_law_1160 : decode cL_law 1160 = .ok (.iconst 1, 1) := dcl_at (f := fun k => decode cL_law k) dlb_6 19 rfl
theorem dL_law_1161 : decode cL_law 1161 = .ok (.iadd, 1) := dcl_at (f := fun k => decode cL_law k) dlb_6 20 rfl
theorem dL_law_1162 : decode cL_law 1162 = .ok (.iaload, 1) := dcl_at (f := fun k => decode cL_law k) dlb_6 21 rfl
theorem dL_law_1163 : decode cL_law 1163 = .ok (.aload_n 0, 1) := dcl_at (f := fun k => decode cL_law k) dlb_6 22 rfl
theorem dL_law_1164 : decode cL_law 1164 = .ok (.iload 5, 2) := dcl_at (f := fun k => decode cL_law k) dlb_6 23 rfl
theorem dL_law_1166 : decode cL_law 1166 = .ok (.iconst 2, 1) := dcl_at (f := fun k => decode cL_law k) dlb_6 24 rfl
theorem dL_law_1167 : decode cL_law 1167 = .ok (.iadd, 1) := dcl_at (f := fun k => decode cL_law k) dlb_6 25 rfl
theorem dL_law_1168 : decode cL_law 1168 = .ok (.iaload, 1) := dcl_at (f := fun k => decode cL_law k) dlb_6 26 rfl
theorem dL_law_1169 : decode cL_law 1169 = .ok (.aload_n 3, 1) := dcl_at (f := fun k => decode cL_law k) dlb_6 27 rfl
theorem dL_law_1170 : decode cL_law 1170 = .ok (.invokestatic 185, 3) := dcl_at (f := fun k => decode cL_law k) dlb_6 28 rfl
theorem dL_law_1173 : decode cL_law 1173 = .ok (.istore 6, 2) := dcl_at (f := fun k => decode cL_law k) dlb_6 29 rfl
theorem dL_law_1175 : decode cL_law 1175 = .ok (.aload_n 2, 1) := dcl_at (f := fun k => decode cL_law k) dlb_6 30 rfl
theorem dL_law_1176 : decode cL_law 1176 = .ok (.aload_n 0, 1) := dcl_at (f := fun k => decode cL_law k) dlb_6 31 rfl
theorem dL_law_1177 : decode cL_law 1177 = .ok (.iload 5, 2) := dcl_at (f := fun k => decode cL_law k) dlb_6 32 rfl
theorem dL_law_1179 : decode cL_law 1179 = .ok (.iconst 1, 1) := dcl_at (f := fun k => decode cL_law k) dlb_6 33 rfl
theorem dL_law_1180 : decode cL_law 1180 = .ok (.iadd, 1) := dcl_at (f := fun k => decode cL_law k) dlb_6 34 rfl
theorem dL_law_1181 : decode cL_law 1181 = .ok (.iaload, 1) := dcl_at (f := fun k => decode cL_law k) dlb_6 35 rfl
theorem dL_law_1182 : decode cL_law 1182 = .ok (.aload_n 0, 1) := dcl_at (f := fun k => decode cL_law k) dlb_6 36 rfl
theorem dL_law_1183 : decode cL_law 1183 = .ok (.iload 5, 2) := dcl_at (f := fun k => decode cL_law k) dlb_6 37 rfl
theorem dL_law_1185 : decode cL_law 1185 = .ok (.iconst 2, 1) := dcl_at (f := fun k => decode cL_law k) dlb_6 38 rfl
theorem dL_law_1186 : decode cL_law 1186 = .ok (.iadd, 1) := dcl_at (f := fun k => decode cL_law k) dlb_6 39 rfl
theorem dL_law_1187 : decode cL_law 1187 = .ok (.iaload, 1) := dcl_at (f := fun k => decode cL_law k) dlb_6 40 rfl
theorem dL_law_1188 : decode cL_law 1188 = .ok (.invokevirtual 187, 3) := dcl_at (f := fun k => decode cL_law k) dlb_6 41 rfl
theorem dL_law_1191 : decode cL_law 1191 = .ok (.istore 7, 2) := dcl_at (f := fun k => decode cL_law k) dlb_6 42 rfl
theorem dL_law_1193 : decode cL_law 1193 = .ok (.aload_n 2, 1) := dcl_at (f := fun k => decode cL_law k) dlb_6 43 rfl
theorem dL_law_1194 : decode cL_law 1194 = .ok (.invokevirtual 125, 3) := dcl_at (f := fun k => decode cL_law k) dlb_6 44 rfl
theorem dL_law_1197 : decode cL_law 1197 = .ok (.iload 6, 2) := dcl_at (f := fun k => decode cL_law k) dlb_6 45 rfl
theorem dL_law_1199 : decode cL_law 1199 = .ok (.if_icmp .eq 5, 3) := dcl_at (f := fun k => decode cL_law k) dlb_6 46 rfl
theorem dL_law_1202 : decode cL_law 1202 = .ok (.iconst 0, 1) := dcl_at (f := fun k => decode cL_law k) dlb_6 47 rfl
theorem dL_law_1203 : decode cL_law 1203 = .ok (.ireturn, 1) := dcl_at (f := fun k => decode cL_law k) dlb_6 48 rfl
theorem dL_law_1204 : decode cL_law 1204 = .ok (.iload 6, 2) := dcl_at (f := fun k => decode cL_law k) dlb_6 49 rfl
theorem dL_law_1206 : decode cL_law 1206 = .ok (.ifCond .ne 15, 3) := dcl_at (f := fun k => decode cL_law k) dlb_6 50 rfl
theorem dL_law_1209 : decode cL_law 1209 = .ok (.aload_n 3, 1) := dcl_at (f := fun k => decode cL_law k) dlb_6 51 rfl
theorem dL_law_1210 : decode cL_law 1210 = .ok (.iconst 0, 1) := dcl_at (f := fun k => decode cL_law k) dlb_6 52 rfl
theorem dL_law_1211 : decode cL_law 1211 = .ok (.laload, 1) := dcl_at (f := fun k => decode cL_law k) dlb_6 53 rfl
theorem dL_law_1212 : decode cL_law 1212 = .ok (.iload 7, 2) := dcl_at (f := fun k => decode cL_law k) dlb_6 54 rfl
theorem dL_law_1214 : decode cL_law 1214 = .ok (.i2l, 1) := dcl_at (f := fun k => decode cL_law k) dlb_6 55 rfl
theorem dL_law_1215 : decode cL_law 1215 = .ok (.lcmp, 1) := dcl_at (f := fun k => decode cL_law k) dlb_6 56 rfl
theorem dL_law_1216 : decode cL_law 1216 = .ok (.ifCond .eq 5, 3) := dcl_at (f := fun k => decode cL_law k) dlb_6 57 rfl
theorem dL_law_1219 : decode cL_law 1219 = .ok (.iconst 0, 1) := dcl_at (f := fun k => decode cL_law k) dlb_6 58 rfl
theorem dL_law_1220 : decode cL_law 1220 = .ok (.ireturn, 1) := dcl_at (f := fun k => decode cL_law k) dlb_6 59 rfl
theorem dL_law_1221 : decode cL_law 1221 = .ok (.goto 897, 3) := dcl_at (f := fun k => decode cL_law k) dlb_6 60 rfl
theorem dL_law_1224 : decode cL_law 1224 = .ok (.aload_n 1, 1) := dcl_at (f := fun k => decode cL_law k) dlb_6 61 rfl
theorem dL_law_1225 : decode cL_law 1225 = .ok (.aload_n 0, 1) := dcl_at (f := fun k => decode cL_law k) dlb_6 62 rfl
theorem dL_law_1226 : decode cL_law 1226 = .ok (.iload 5, 2) := dcl_at (f := fun k => decode cL_law k) dlb_6 63 rfl
theorem dL_law_1228 : decode cL_law 1228 = .ok (.iconst 1, 1) := dcl_at (f := fun k => decode cL_law k) dlb_6 64 rfl
theorem dL_law_1229 : decode cL_law 1229 = .ok (.iadd, 1) := dcl_at (f := fun k => decode cL_law k) dlb_6 65 rfl
theorem dL_law_1230 : decode cL_law 1230 = .ok (.iaload, 1) := dcl_at (f := fun k => decode cL_law k) dlb_6 66 rfl
theorem dL_law_1231 : decode cL_law 1231 = .ok (.i2c, 1) := dcl_at (f := fun k => decode cL_law k) dlb_6 67 rfl
theorem dL_law_1232 : decode cL_law 1232 = .ok (.aload_n 0, 1) := dcl_at (f := fun k => decode cL_law k) dlb_6 68 rfl
theorem dL_law_1233 : decode cL_law 1233 = .ok (.iload 5, 2) := dcl_at (f := fun k => decode cL_law k) dlb_6 69 rfl
theorem dL_law_1235 : decode cL_law 1235 = .ok (.iconst 2, 1) := dcl_at (f := fun k => decode cL_law k) dlb_6 70 rfl
theorem dL_law_1236 : decode cL_law 1236 = .ok (.iadd, 1) := dcl_at (f := fun k => decode cL_law k) dlb_6 71 rfl
theorem dL_law_1237 : decode cL_law 1237 = .ok (.iaload, 1) := dcl_at (f := fun k => decode cL_law k) dlb_6 72 rfl
theorem dL_law_1238 : decode cL_law 1238 = .ok (.aload_n 3, 1) := dcl_at (f := fun k => decode cL_law k) dlb_6 73 rfl
theorem dL_law_1239 : decode cL_law 1239 = .ok (.invokestatic 188, 3) := dcl_at (f := fun k => decode cL_law k) dlb_6 74 rfl
theorem dL_law_1242 : decode cL_law 1242 = .ok (.istore 6, 2) := dcl_at (f := fun k => decode cL_law k) dlb_6 75 rfl
theorem dL_law_1244 : decode cL_law 1244 = .ok (.aload_n 2, 1) := dcl_at (f := fun k => decode cL_law k) dlb_6 76 rfl
theorem dL_law_1245 : decode cL_law 1245 = .ok (.aload_n 0, 1) := dcl_at (f := fun k => decode cL_law k) dlb_6 77 rfl
theorem dL_law_1246 : decode cL_law 1246 = .ok (.iload 5, 2) := dcl_at (f := fun k => decode cL_law k) dlb_6 78 rfl
theorem dL_law_1248 : decode cL_law 1248 = .ok (.iconst 1, 1) := dcl_at (f := fun k => decode cL_law k) dlb_6 79 rfl
theorem dL_law_1249 : decode cL_law 1249 = .ok (.iadd, 1) := dcl_at (f := fun k => decode cL_law k) dlb_6 80 rfl
theorem dL_law_1250 : decode cL_law 1250 = .ok (.iaload, 1) := dcl_at (f := fun k => decode cL_law k) dlb_6 81 rfl
theorem dL_law_1251 : decode cL_law 1251 = .ok (.i2c, 1) := dcl_at (f := fun k => decode cL_law k) dlb_6 82 rfl
theorem dL_law_1252 : decode cL_law 1252 = .ok (.aload_n 0, 1) := dcl_at (f := fun k => decode cL_law k) dlb_6 83 rfl
theorem dL_law_1253 : decode cL_law 1253 = .ok (.iload 5, 2) := dcl_at (f := fun k => decode cL_law k) dlb_6 84 rfl
theorem dL_law_1255 : decode cL_law 1255 = .ok (.iconst 2, 1) := dcl_at (f := fun k => decode cL_law k) dlb_6 85 rfl
theorem dL_law_1256 : decode cL_law 1256 = .ok (.iadd, 1) := dcl_at (f := fun k => decode cL_law k) dlb_6 86 rfl
theorem dL_law_1257 : decode cL_law 1257 = .ok (.iaload, 1) := dcl_at (f := fun k => decode cL_law k) dlb_6 87 rfl
theorem dL_law_1258 : decode cL_law 1258 = .ok (.invokevirtual 190, 3) := dcl_at (f := fun k => decode cL_law k) dlb_6 88 rfl
theorem dL_law_1261 : decode cL_law 1261 = .ok (.istore 7, 2) := dcl_at (f := fun k => decode cL_law k) dlb_6 89 rfl
theorem dL_law_1263 : decode cL_law 1263 = .ok (.aload_n 2, 1) := dcl_at (f := fun k => decode cL_law k) dlb_6 90 rfl
theorem dL_law_1264 : decode cL_law 1264 = .ok (.invokevirtual 125, 3) := dcl_at (f := fun k => decode cL_law k) dlb_6 91 rfl
theorem dL_law_1267 : decode cL_law 1267 = .ok (.iload 6, 2) := dcl_at (f := fun k => decode cL_law k) dlb_6 92 rfl
theorem dL_law_1269 : decode cL_law 1269 = .ok (.if_icmp .eq 5, 3) := dcl_at (f := fun k => decode cL_law k) dlb_6 93 rfl
theorem dL_law_1272 : decode cL_law 1272 = .ok (.iconst 0, 1) := dcl_at (f := fun k => decode cL_law k) dlb_6 94 rfl
theorem dL_law_1273 : decode cL_law 1273 = .ok (.ireturn, 1) := dcl_at (f := fun k => decode cL_law k) dlb_6 95 rfl
theorem dL_law_1274 : decode cL_law 1274 = .ok (.iload 6, 2) := dcl_at (f := fun k => decode cL_law k) dlb_6 96 rfl
theorem dL_law_1276 : decode cL_law 1276 = .ok (.ifCond .ne 15, 3) := dcl_at (f := fun k => decode cL_law k) dlb_6 97 rfl
theorem dL_law_1279 : decode cL_law 1279 = .ok (.aload_n 3, 1) := dcl_at (f := fun k => decode cL_law k) dlb_6 98 rfl
theorem dL_law_1280 : decode cL_law 1280 = .ok (.iconst 0, 1) := dcl_at (f := fun k => decode cL_law k) dlb_6 99 rfl
theorem dL_law_1281 : decode cL_law 1281 = .ok (.laload, 1) := dcl_at (f := fun k => decode cL_law k) dlb_6 100 rfl
theorem dL_law_1282 : decode cL_law 1282 = .ok (.iload 7, 2) := dcl_at (f := fun k => decode cL_law k) dlb_6 101 rfl
theorem dL_law_1284 : decode cL_law 1284 = .ok (.i2l, 1) := dcl_at (f := fun k => decode cL_law k) dlb_6 102 rfl
theorem dL_law_1285 : decode cL_law 1285 = .ok (.lcmp, 1) := dcl_at (f := fun k => decode cL_law k) dlb_6 103 rfl
theorem dL_law_1286 : decode cL_law 1286 = .ok (.ifCond .eq 5, 3) := dcl_at (f := fun k => decode cL_law k) dlb_6 104 rfl
theorem dL_law_1289 : decode cL_law 1289 = .ok (.iconst 0, 1) := dcl_at (f := fun k => decode cL_law k) dlb_6 105 rfl
theorem dL_law_1290 : decode cL_law 1290 = .ok (.ireturn, 1) := dcl_at (f := fun k => decode cL_law k) dlb_6 106 rfl
def dlb_7l : List (Nat × Instr × Nat) := [(1291, .goto 827, 3), (1294, .aload_n 1, 1), (1295, .aload_n 0, 1), (1296, .iload 5, 2), (1298, .iconst 1, 1), (1299, .iadd, 1), (1300, .iaload, 1), (1301, .aload_n 0, 1), (1302, .iload 5, 2), (1304, .iconst 2, 1), (1305, .iadd, 1), (1306, .iaload, 1), (1307, .aload_n 3, 1), (1308, .invokestatic 191, 3), (1311, .istore 6, 2), (1313, .aload_n 2, 1), (1314, .aload_n 0, 1), (1315, .iload 5, 2), (1317, .iconst 1, 1), (1318, .iadd, 1), (1319, .iaload, 1), (1320, .aload_n 0, 1), (1321, .iload 5, 2), (1323, .iconst 2, 1), (1324, .iadd, 1), (1325, .iaload, 1), (1326, .invokevirtual 193, 3), (1329, .istore 7, 2), (1331, .aload_n 2, 1), (1332, .invokevirtual 125, 3), (1335, .iload 6, 2), (1337, .if_icmp .eq 5, 3), (1340, .iconst 0, 1), (1341, .ireturn, 1), (1342, .iload 6, 2), (1344, .ifCond .ne 15, 3), (1347, .aload_n 3, 1), (1348, .iconst 0, 1), (1349, .laload, 1), (1350, .iload 7, 2), (1352, .i2l, 1), (1353, .lcmp, 1), (1354, .ifCond .eq 5, 3), (1357, .iconst 0, 1), (1358, .ireturn, 1), (1359, .goto 759, 3), (1362, .aload_n 1, 1), (1363, .aload_n 0, 1), (1364, .iload 5, 2), (1366, .iconst 1, 1), (1367, .iadd, 1), (1368, .iaload, 1), (1369, .aload_n 0, 1), (1370, .iload 5, 2), (1372, .iconst 2, 1), (1373, .iadd, 1), (1374, .iaload, 1), (1375, .aload_n 3, 1), (1376, .invokestatic 194, 3), (1379, .istore 6, 2), (1381, .aload_n 2, 1), (1382, .aload_n 0, 1), (1383, .iload 5, 2), (1385, .iconst 1, 1), (1386, .iadd, 1), (1387, .iaload, 1), (1388, .aload_n 0, 1), (1389, .iload 5, 2), (1391, .iconst 2, 1), (1392, .iadd, 1), (1393, .iaload, 1), (1394, .invokevirtual 196, 3), (1397, .istore 7, 2), (1399, .aload_n 2, 1), (1400, .invokevirtual 125, 3), (1403, .iload 6, 2), (1405, .if_icmp .eq 5, 3), (1408, .iconst 0, 1), (1409, .ireturn, 1), (1410, .iload 6, 2), (1412, .ifCond .ne 15, 3), (1415, .aload_n 3, 1), (1416, .iconst 0, 1), (1417, .laload, 1), (1418, .iload 7, 2), (1420, .i2l, 1), (1421, .lcmp, 1), (1422, .ifCond .eq 5, 3), (1425, .iconst 0, 1), (1426, .ireturn, 1), (1427, .goto 691, 3), (1430, .aload_n 1, 1), (1431, .aload_n 0, 1), (1432, .iload 5, 2), (1434, .iconst 1, 1), (1435, .iadd, 1), (1436, .iaload, 1), (1437, .aload_n 0, 1), (1438, .iload 5, 2), (1440, .iconst 2, 1), (1441, .iadd, 1), (1442, .iaload, 1), (1443, .aload_n 3, 1), (1444, .invokestatic 197, 3), (1447, .istore 6, 2), (1449, .aload_n 2, 1), (1450, .aload_n 0, 1)]
theorem dlb_7 : dcl (fun k => decode cL_law k) dlb_7l = true := by decide +kernel
theorem dL_law_1291 : decode cL_law 1291 = .ok (.goto 827, 3) := dcl_at (f := fun k => decode cL_law k) dlb_7 0 rfl
theorem dL_law_1294 : decode cL_law 1294 = .ok (.aload_n 1, 1) := dcl_at (f := fun k => decode cL_law k) dlb_7 1 rfl
theorem dL_law_1295 : decode cL_law 1295 = .ok (.aload_n 0, 1) := dcl_at (f := fun k => decode cL_law k) dlb_7 2 rfl
theorem dL_law_1296 : decode cL_law 1296 = .ok (.iload 5, 2) := dcl_at (f := fun k => decode cL_law k) dlb_7 3 rfl
theorem dL_law_1298 : decode cL_law 1298 = .ok (.iconst 1, 1) := dcl_at (f := fun k => decode cL_law k) dlb_7 4 rfl
theorem dL_law_1299 : decode cL_law 1299 = .ok (.iadd, 1) := dcl_at (f := fun k => decode cL_law k) dlb_7 5 rfl
theorem dL_law_1300 : decode cL_law 1300 = .ok (.iaload, 1) := dcl_at (f := fun k => decode cL_law k) dlb_7 6 rfl
theorem dL_law_1301 : decode cL_law 1301 = .ok (.aload_n 0, 1) := dcl_at (f := fun k => decode cL_law k) dlb_7 7 rfl
theorem dL_law_1302 : decode cL_law 1302 = .ok (.iload 5, 2) := dcl_at (f := fun k => decode cL_law k) dlb_7 8 rfl
theorem dL_law_1304 : decode cL_law 1304 = .ok (.iconst 2, 1) := dcl_at (f := fun k => decode cL_law k) dlb_7 9 rfl
theorem dL_law_1305 : decode cL_law 1305 = .ok (.iadd, 1) := dcl_at (f := fun k => decode cL_law k) dlb_7 10 rfl
theorem dL_law_1306 : decode cL_law 1306 = .ok (.iaload, 1) := dcl_at (f := fun k => decode cL_law k) dlb_7 11 rfl
theorem dL_law_1307 : decode cL_law 1307 = .ok (.aload_n 3, 1) := dcl_at (f := fun k => decode cL_law k) dlb_7 12 rfl
theorem dL_law_1308 : decode cL_law 1308 = .ok (.invokestatic 191, 3) := dcl_at (f := fun k => decode cL_law k) dlb_7 13 rfl
theorem dL_law_1311 : decode cL_law 1311 = .ok (.istore 6, 2) := dcl_at (f := fun k => decode cL_law k) dlb_7 14 rfl
theorem dL_law_1313 : decode cL_law 1313 = .ok (.aload_n 2, 1) := dcl_at (f := fun k => decode cL_law k) dlb_7 15 rfl
theorem dL_law_1314 : decode cL_law 1314 = .ok (.aload_n 0, 1) := dcl_at (f := fun k => decode cL_law k) dlb_7 16 rfl
theorem dL_law_1315 : decode cL_law 1315 = .ok (.iload 5, 2) := dcl_at (f := fun k => decode cL_law k) dlb_7 17 rfl
theorem dL_law_1317 : decode cL_law 1317 = .ok (.iconst 1, 1) := dcl_at (f := fun k => decode cL_law k) dlb_7 18 rfl
theorem dL_law_1318 : decode cL_law 1318 = .ok (.iadd, 1) := dcl_at (f := fun k => decode cL_law k) dlb_7 19 rfl
theorem dL_law_1319 : decode cL_law 1319 = .ok (.iaload, 1) := dcl_at (f := fun k => decode cL_law k) dlb_7 20 rfl
theorem dL_law_1320 : decode cL_law 1320 = .ok (.aload_n 0, 1) := dcl_at (f := fun k => decode cL_law k) dlb_7 21 rfl
theorem dL_law_1321 : decode cL_law 1321 = .ok (.iload 5, 2) := dcl_at (f := fun k => decode cL_law k) dlb_7 22 rfl
theorem dL_law_1323 : decode cL_law 1323 = .ok (.iconst 2, 1) := dcl_at (f := fun k => decode cL_law k) dlb_7 23 rfl
theorem dL_law_1324 : decode cL_law 1324 = .ok (.iadd, 1) := dcl_at (f := fun k => decode cL_law k) dlb_7 24 rfl
theorem dL_law_1325 : decode cL_law 1325 = .ok (.iaload, 1) := dcl_at (f := fun k => decode cL_law k) dlb_7 25 rfl
theorem dL_law_1326 : decode cL_law 1326 = .ok (.invokevirtual 193, 3) := dcl_at (f := fun k => decode cL_law k) dlb_7 26 rfl
theorem dL_law_1329 : decode cL_law 1329 = .ok (.istore 7, 2) := dcl_at (f := fun k => decode cL_law k) dlb_7 27 rfl
theorem dL_law_1331 : decode cL_law 1331 = .ok (.aload_n 2, 1) := dcl_at (f := fun k => decode cL_law k) dlb_7 28 rfl
theorem dL_law_1332 : decode cL_law 1332 = .ok (.invokevirtual 125, 3) := dcl_at (f := fun k => decode cL_law k) dlb_7 29 rfl
theorem dL_law_1335 : decode cL_law 1335 = .ok (.iload 6, 2) := dcl_at (f := fun k => decode cL_law k) dlb_7 30 rfl
theorem dL_law_1337 : decode cL_law 1337 = .ok (.if_icmp .eq 5, 3) := dcl_at (f := fun k => decode cL_law k) dlb_7 31 rfl
theorem dL_law_1340 : decode cL_law 1340 = .ok (.iconst 0, 1) := dcl_at (f := fun k => decode cL_law k) dlb_7 32 rfl
theorem dL_law_1341 : decode cL_law 1341 = .ok (.ireturn, 1) := dcl_at (f := fun k => decode cL_law k) dlb_7 33 rfl
theorem dL_law_1342 : decode cL_law 1342 = .ok (.iload 6, 2) := dcl_at (f := fun k => decode cL_law k) dlb_7 34 rfl
theorem dL_law_1344 : decode cL_law 1344 = .ok (.ifCond .ne 15, 3) := dcl_at (f := fun k => decode cL_law k) dlb_7 35 rfl
theorem dL_law_1347 : decode cL_law 1347 = .ok (.aload_n 3, 1) := dcl_at (f := fun k => decode cL_law k) dlb_7 36 rfl
theorem dL_law_1348 : decode cL_law 1348 = .ok (.iconst 0, 1) := dcl_at (f := fun k => decode cL_law k) dlb_7 37 rfl
theorem dL_law_1349 : decode cL_law 1349 = .ok (.laload, 1) := dcl_at (f := fun k => decode cL_law k) dlb_7 38 rfl
theorem dL_law_1350 : decode cL_law 1350 = .ok (.iload 7, 2) := dcl_at (f := fun k => decode cL_law k) dlb_7 39 rfl
theorem dL_law_1352 : decode cL_law 1352 = .ok (.i2l, 1) := dcl_at (f := fun k => decode cL_law k) dlb_7 40 rfl
theorem dL_law_1353 : decode cL_law 1353 = .ok (.lcmp, 1) := dcl_at (f := fun k => decode cL_law k) dlb_7 41 rfl
theorem dL_law_1354 : decode cL_law 1354 = .ok (.ifCond .eq 5, 3) := dcl_at (f := fun k => decode cL_law k) dlb_7 42 rfl
theorem dL_law_1357 : decode cL_law 1357 = .ok (.iconst 0, 1) := dcl_at (f := fun k => decode cL_law k) dlb_7 43 rfl
theorem dL_law_1358 : decode cL_law 1358 = .ok (.ireturn, 1) := dcl_at (f := fun k => decode cL_law k) dlb_7 44 rfl
theorem dL_law_1359 : decode cL_law 1359 = .ok (.goto 759, 3) := dcl_at (f := fun k => decode cL_law k) dlb_7 45 rfl
theorem dL_law_1362 : decode cL_law 1362 = .ok (.aload_n 1, 1) := dcl_at (f := fun k => decode cL_law k) dlb_7 46 rfl
theorem dL_law_1363 : decode cL_law 1363 = .ok (.aload_n 0, 1) := dcl_at (f := fun k => decode cL_law k) dlb_7 47 rfl
theorem dL_law_1364 : decode cL_law 1364 = .ok (.iload 5, 2) := dcl_at (f := fun k => decode cL_law k) dlb_7 48 rfl
theorem dL_law_1366 : decode cL_law 1366 = .ok (.iconst 1, 1) := dcl_at (f := fun k => decode cL_law k) dlb_7 49 rfl
theorem dL_law_1367 : decode cL_law 1367 = .ok (.iadd, 1) := dcl_at (f := fun k => decode cL_law k) dlb_7 50 rfl
theorem dL_law_1368 : decode cL_law 1368 = .ok (.iaload, 1) := dcl_at (f := fun k => decode cL_law k) dlb_7 51 rfl
theorem dL_law_1369 : decode cL_law 1369 = .ok (.aload_n 0, 1) := dcl_at (f := fun k => decode cL_law k) dlb_7 52 rfl
theorem dL_law_1370 : decode cL_law 1370 = .ok (.iload 5, 2) := dcl_at (f := fun k => decode cL_law k) dlb_7 53 rfl
theorem dL_law_1372 : decode cL_law 1372 = .ok (.iconst 2, 1) := dcl_at (f := fun k => decode cL_law k) dlb_7 54 rfl
theorem dL_law_1373 : decode cL_law 1373 = .ok (.iadd, 1) := dcl_at (f := fun k => decode cL_law k) dlb_7 55 rfl
theorem dL_law_1374 : decode cL_law 1374 = .ok (.iaload, 1) := dcl_at (f := fun k => decode cL_law k) dlb_7 56 rfl
theorem dL_law_1375 : decode cL_law 1375 = .ok (.aload_n 3, 1) := dcl_at (f := fun k => decode cL_law k) dlb_7 57 rfl
theorem dL_law_1376 : decode cL_law 1376 = .ok (.invokestatic 194, 3) := dcl_at (f := fun k => decode cL_law k) dlb_7 58 rfl
theorem dL_law_1379 : decode cL_law 1379 = .ok (.istore 6, 2) := dcl_at (f := fun k => decode cL_law k) dlb_7 59 rfl
theorem dL_law_1381 : decode cL_law 1381 = .ok (.aload_n 2, 1) := dcl_at (f := fun k => decode cL_law k) dlb_7 60 rfl
theorem dL_law_1382 : decode cL_law 1382 = .ok (.aload_n 0, 1) := dcl_at (f := fun k => decode cL_law k) dlb_7 61 rfl
theorem dL_law_1383 : decode cL_law 1383 = .ok (.iload 5, 2) := dcl_at (f := fun k => decode cL_law k) dlb_7 62 rfl
theorem dL_law_1385 : decode cL_law 1385 = .ok (.iconst 1, 1) := dcl_at (f := fun k => decode cL_law k) dlb_7 63 rfl
theorem dL_law_1386 : decode cL_law 1386 = .ok (.iadd, 1) := dcl_at (f := fun k => decode cL_law k) dlb_7 64 rfl
theorem dL_law_1387 : decode cL_law 1387 = .ok (.iaload, 1) := dcl_at (f := fun k => decode cL_law k) dlb_7 65 rfl
theorem dL_law_1388 : decode cL_law 1388 = .ok (.aload_n 0, 1) := dcl_at (f := fun k => decode cL_law k) dlb_7 66 rfl
theorem dL_law_1389 : decode cL_law 1389 = .ok (.iload 5, 2) := dcl_at (f := fun k => decode cL_law k) dlb_7 67 rfl
theorem dL_law_1391 : decode cL_law 1391 = .ok (.iconst 2, 1) := dcl_at (f := fun k => decode cL_law k) dlb_7 68 rfl
theorem dL_law_1392 : decode cL_law 1392 = .ok (.iadd, 1) := dcl_at (f := fun k => decode cL_law k) dlb_7 69 rfl
theorem dL_law_1393 : decode cL_law 1393 = .ok (.iaload, 1) := dcl_at (f := fun k => decode cL_law k) dlb_7 70 rfl
theorem dL_law_1394 : decode cL_law 1394 = .ok (.invokevirtual 196, 3) := dcl_at (f := fun k => decode cL_law k) dlb_7 71 rfl
theorem dL_law_1397 : decode cL_law 1397 = .ok (.istore 7, 2) := dcl_at (f := fun k => decode cL_law k) dlb_7 72 rfl
theorem dL_law_1399 : decode cL_law 1399 = .ok (.aload_n 2, 1) := dcl_at (f := fun k => decode cL_law k) dlb_7 73 rfl
theorem dL_law_1400 : decode cL_law 1400 = .ok (.invokevirtual 125, 3) := dcl_at (f := fun k => decode cL_law k) dlb_7 74 rfl
theorem dL_law_1403 : decode cL_law 1403 = .ok (.iload 6, 2) := dcl_at (f := fun k => decode cL_law k) dlb_7 75 rfl
theorem dL_law_1405 : decode cL_law 1405 = .ok (.if_icmp .eq 5, 3) := dcl_at (f := fun k => decode cL_law k) dlb_7 76 rfl
theorem dL_law_1408 : decode cL_law 1408 = .ok (.iconst 0, 1) := dcl_at (f := fun k => decode cL_law k) dlb_7 77 rfl
theorem dL_law_1409 : decode cL_law 1409 = .ok (.ireturn, 1) := dcl_at (f := fun k => decode cL_law k) dlb_7 78 rfl
theorem dL_law_1410 : decode cL_law 1410 = .ok (.iload 6, 2) := dcl_at (f := fun k => decode cL_law k) dlb_7 79 rfl
theorem dL_law_1412 : decode cL_law 1412 = .ok (.ifCond .ne 15, 3) := dcl_at (f := fun k => decode cL_law k) dlb_7 80 rfl
theorem dL_law_1415 : decode cL_law 1415 = .ok (.aload_n 3, 1) := dcl_at (f := fun k => decode cL_law k) dlb_7 81 rfl
theorem dL_law_1416 : decode cL_law 1416 = .ok (.iconst 0, 1) := dcl_at (f := fun k => decode cL_law k) dlb_7 82 rfl
theorem dL_law_1417 : decode cL_law 1417 = .ok (.laload, 1) := dcl_at (f := fun k => decode cL_law k) dlb_7 83 rfl
theorem dL_law_1418 : decode cL_law 1418 = .ok (.iload 7, 2) := dcl_at (f := fun k => decode cL_law k) dlb_7 84 rfl
theorem dL_law_1420 : decode cL_law 1420 = .ok (.i2l, 1) := dcl_at (f := fun k => decode cL_law k) dlb_7 85 rfl
theorem dL_law_1421 : decode cL_law 1421 = .ok (.lcmp, 1) := dcl_at (f := fun k => decode cL_law k) dlb_7 86 rfl
theorem dL_law_1422 : decode cL_law 1422 = .ok (.ifCond .eq 5, 3) := dcl_at (f := fun k => decode cL_law k) dlb_7 87 rfl
theorem dL_law_1425 : decode cL_law 1425 = .ok (.iconst 0, 1) := dcl_at (f := fun k => decode cL_law k) dlb_7 88 rfl
theorem dL_law_1426 : decode cL_law 1426 = .ok (.ireturn, 1) := dcl_at (f := fun k => decode cL_law k) dlb_7 89 rfl
theorem dL_law_1427 : decode cL_law 1427 = .ok (.goto 691, 3) := dcl_at (f := fun k => decode cL_law k) dlb_7 90 rfl
theorem dL_law_1430 : decode cL_law 1430 = .ok (.aload_n 1, 1) := dcl_at (f := fun k => decode cL_law k) dlb_7 91 rfl
theorem dL_law_1431 : decode cL_law 1431 = .ok (.aload_n 0, 1) := dcl_at (f := fun k => decode cL_law k) dlb_7 92 rfl
theorem dL_law_1432 : decode cL_law 1432 = .ok (.iload 5, 2) := dcl_at (f := fun k => decode cL_law k) dlb_7 93 rfl
theorem dL_law_1434 : decode cL_law 1434 = .ok (.iconst 1, 1) := dcl_at (f := fun k => decode cL_law k) dlb_7 94 rfl
theorem dL_law_1435 : decode cL_law 1435 = .ok (.iadd, 1) := dcl_at (f := fun k => decode cL_law k) dlb_7 95 rfl
theorem dL_law_1436 : decode cL_law 1436 = .ok (.iaload, 1) := dcl_at (f := fun k => decode cL_law k) dlb_7 96 rfl
theorem dL_law_1437 : decode cL_law 1437 = .ok (.aload_n 0, 1) := dcl_at (f := fun k => decode cL_law k) dlb_7 97 rfl
theorem dL_law_1438 : decode cL_law 1438 = .ok (.iload 5, 2) := dcl_at (f := fun k => decode cL_law k) dlb_7 98 rfl
theorem dL_law_1440 : decode cL_law 1440 = .ok (.iconst 2, 1) := dcl_at (f := fun k => decode cL_law k) dlb_7 99 rfl
theorem dL_law_1441 : decode cL_law 1441 = .ok (.iadd, 1) := dcl_at (f := fun k => decode cL_law k) dlb_7 100 rfl
theorem dL_law_1442 : decode cL_law 1442 = .ok (.iaload, 1) := dcl_at (f := fun k => decode cL_law k) dlb_7 101 rfl
theorem dL_law_1443 : decode cL_law 1443 = .ok (.aload_n 3, 1) := dcl_at (f := fun k => decode cL_law k) dlb_7 102 rfl
theorem dL_law_1444 : decode cL_law 1444 = .ok (.invokestatic 197, 3) := dcl_at (f := fun k => decode cL_law k) dlb_7 103 rfl
theorem dL_law_1447 : decode cL_law 1447 = .ok (.istore 6, 2) := dcl_at (f := fun k => decode cL_law k) dlb_7 104 rfl
theorem dL_law_1449 : decode cL_law 1449 = .ok (.aload_n 2, 1) := dcl_at (f := fun k => decode cL_law k) dlb_7 105 rfl
theorem dL_law_1450 : decode cL_law 1450 = .ok (.aload_n 0, 1) := dcl_at (f := fun k => decode cL_law k) dlb_7 106 rfl
def dlb_8l : List (Nat × Instr × Nat) := [(1451, .iload 5, 2), (1453, .iconst 1, 1), (1454, .iadd, 1), (1455, .iaload, 1), (1456, .aload_n 0, 1), (1457, .iload 5, 2), (1459, .iconst 2, 1), (1460, .iadd, 1), (1461, .iaload, 1), (1462, .invokevirtual 199, 3), (1465, .istore 7, 2), (1467, .aload_n 2, 1), (1468, .invokevirtual 125, 3), (1471, .iload 6, 2), (1473, .if_icmp .eq 5, 3), (1476, .iconst 0, 1), (1477, .ireturn, 1), (1478, .iload 6, 2), (1480, .ifCond .ne 15, 3), (1483, .aload_n 3, 1), (1484, .iconst 0, 1), (1485, .laload, 1), (1486, .iload 7, 2), (1488, .i2l, 1), (1489, .lcmp, 1), (1490, .ifCond .eq 5, 3), (1493, .iconst 0, 1), (1494, .ireturn, 1), (1495, .goto 623, 3), (1498, .aload_n 1, 1), (1499, .aload_n 0, 1), (1500, .iload 5, 2), (1502, .iconst 1, 1), (1503, .iadd, 1), (1504, .iaload, 1), (1505, .aload_n 0, 1), (1506, .iload 5, 2), (1508, .iconst 2, 1), (1509, .iadd, 1), (1510, .iaload, 1), (1511, .aload_n 3, 1), (1512, .invokestatic 200, 3), (1515, .istore 6, 2), (1517, .aload_n 2, 1), (1518, .aload_n 0, 1), (1519, .iload 5, 2), (1521, .iconst 1, 1), (1522, .iadd, 1), (1523, .iaload, 1), (1524, .aload_n 0, 1), (1525, .iload 5, 2), (1527, .iconst 2, 1), (1528, .iadd, 1), (1529, .iaload, 1), (1530, .invokevirtual 202, 3), (1533, .istore 7, 2), (1535, .aload_n 2, 1), (1536, .invokevirtual 125, 3), (1539, .iload 6, 2), (1541, .if_icmp .eq 5, 3), (1544, .iconst 0, 1), (1545, .ireturn, 1), (1546, .iload 6, 2), (1548, .ifCond .ne 15, 3), (1551, .aload_n 3, 1), (1552, .iconst 0, 1), (1553, .laload, 1), (1554, .iload 7, 2), (1556, .i2l, 1), (1557, .lcmp, 1), (1558, .ifCond .eq 5, 3), (1561, .iconst 0, 1), (1562, .ireturn, 1), (1563, .goto 555, 3), (1566, .aload_n 1, 1), (1567, .aload_n 0, 1), (1568, .iload 5, 2), (1570, .iconst 1, 1), (1571, .iadd, 1), (1572, .iaload, 1), (1573, .aload_n 0, 1), (1574, .iload 5, 2), (1576, .iconst 2, 1), (1577, .iadd, 1), (1578, .iaload, 1), (1579, .aload_n 3, 1), (1580, .invokestatic 203, 3), (1583, .istore 6, 2), (1585, .aload_n 2, 1), (1586, .aload_n 0, 1), (1587, .iload 5, 2), (1589, .iconst 1, 1), (1590, .iadd, 1), (1591, .iaload, 1), (1592, .aload_n 0, 1), (1593, .iload 5, 2), (1595, .iconst 2, 1), (1596, .iadd, 1), (1597, .iaload, 1), (1598, .invokevirtual 205, 3), (1601, .istore 7, 2), (1603, .aload_n 2, 1), (1604, .invokevirtual 125, 3), (1607, .iload 6, 2), (1609, .if_icmp .eq 5, 3), (1612, .iconst 0, 1), (1613, .ireturn, 1)]
theorem dlb_8 : dcl (fun k => decode cL_law k) dlb_8l = true := by decide +kernel
theorem dL_law_1451 : decode cL_law 1451 = .ok (.iload 5, 2) := dcl_at (f := fun k => decode cL_law k) dlb_8 0 rfl
theorem dL_law_1453 : decode cL_law 1453 = .ok (.iconst 1, 1) := dcl_at (f := fun k => decode cL_law k) dlb_8 1 rfl
theorem dL_law_1454 : decode cL_law 1454 = .ok (.iadd, 1) := dcl_at (f := fun k => decode cL_law k) dlb_8 2 rfl
theorem dL_law_1455 : decode cL_law 1455 = .ok (.iaload, 1) := dcl_at (f := fun k => decode cL_law k) dlb_8 3 rfl
theorem dL_law_1456 : decode cL_law 1456 = .ok (.aload_n 0, 1) := dcl_at (f := fun k => decode cL_law k) dlb_8 4 rfl
theorem dL_law_1457 : decode cL_law 1457 = .ok (.iload 5, 2) := dcl_at (f := fun k => decode cL_law k) dlb_8 5 rfl
theorem dL_law_1459 : decode cL_law 1459 = .ok (.iconst 2, 1) := dcl_at (f := fun k => decode cL_law k) dlb_8 6 rfl
theorem dL_law_1460 : decode cL_law 1460 = .ok (.iadd, 1) := dcl_at (f := fun k => decode cL_law k) dlb_8 7 rfl
theorem dL_law_1461 : decode cL_law 1461 = .ok (.iaload, 1) := dcl_at (f := fun k => decode cL_law k) dlb_8 8 rfl
theorem dL_law_1462 : decode cL_law 1462 = .ok (.invokevirtual 199, 3) := dcl_at (f := fun k => decode cL_law k) dlb_8 9 rfl
theorem dL_law_1465 : decode cL_law 1465 = .ok (.istore 7, 2) := dcl_at (f := fun k => decode cL_law k) dlb_8 10 rfl
theorem dL_law_1467 : decode cL_law 1467 = .ok (.aload_n 2, 1) := dcl_at (f := fun k => decode cL_law k) dlb_8 11 rfl
theorem dL_law_1468 : decode cL_law 1468 = .ok (.invokevirtual 125, 3) := dcl_at (f := fun k => decode cL_law k) dlb_8 12 rfl
theorem dL_law_1471 : decode cL_law 1471 = .ok (.iload 6, 2) := dcl_at (f := fun k => decode cL_law k) dlb_8 13 rfl
theorem dL_law_1473 : decode cL_law 1473 = .ok (.if_icmp .eq 5, 3) := dcl_at (f := fun k => decode cL_law k) dlb_8 14 rfl
theorem dL_law_1476 : decode cL_law 1476 = .ok (.iconst 0, 1) := dcl_at (f := fun k => decode cL_law k) dlb_8 15 rfl
theorem dL_law_1477 : decode cL_law 1477 = .ok (.ireturn, 1) := dcl_at (f := fun k => decode cL_law k) dlb_8 16 rfl
theorem dL_law_1478 : decode cL_law 1478 = .ok (.iload 6, 2) := dcl_at (f := fun k => decode cL_law k) dlb_8 17 rfl
theorem dL_law_1480 : decode cL_law 1480 = .ok (.ifCond .ne 15, 3) := dcl_at (f := fun k => decode cL_law k) dlb_8 18 rfl
theorem dL_law_1483 : decode cL_law 1483 = .ok (.aload_n 3, 1) := dcl_at (f := fun k => decode cL_law k) dlb_8 19 rfl
theorem dL_law_1484 : decode cL_law 1484 = .ok (.iconst 0, 1) := dcl_at (f := fun k => decode cL_law k) dlb_8 20 rfl
theorem dL_law_1485 : decode cL_law 1485 = .ok (.laload, 1) := dcl_at (f := fun k => decode cL_law k) dlb_8 21 rfl
theorem dL_law_1486 : decode cL_law 1486 = .ok (.iload 7, 2) := dcl_at (f := fun k => decode cL_law k) dlb_8 22 rfl
theorem dL_law_1488 : decode cL_law 1488 = .ok (.i2l, 1) := dcl_at (f := fun k => decode cL_law k) dlb_8 23 rfl
theorem dL_law_1489 : decode cL_law 1489 = .ok (.lcmp, 1) := dcl_at (f := fun k => decode cL_law k) dlb_8 24 rfl
theorem dL_law_1490 : decode cL_law 1490 = .ok (.ifCond .eq 5, 3) := dcl_at (f := fun k => decode cL_law k) dlb_8 25 rfl
theorem dL_law_1493 : decode cL_law 1493 = .ok (.iconst 0, 1) := dcl_at (f := fun k => decode cL_law k) dlb_8 26 rfl
theorem dL_law_1494 : decode cL_law 1494 = .ok (.ireturn, 1) := dcl_at (f := fun k => decode cL_law k) dlb_8 27 rfl
theorem dL_law_1495 : decode cL_law 1495 = .ok (.goto 623, 3) := dcl_at (f := fun k => decode cL_law k) dlb_8 28 rfl
theorem dL_law_1498 : decode cL_law 1498 = .ok (.aload_n 1, 1) := dcl_at (f := fun k => decode cL_law k) dlb_8 29 rfl
theorem dL_law_1499 : decode cL_law 1499 = .ok (.aload_n 0, 1) := dcl_at (f := fun k => decode cL_law k) dlb_8 30 rfl
theorem dL_law_1500 : decode cL_law 1500 = .ok (.iload 5, 2) := dcl_at (f := fun k => decode cL_law k) dlb_8 31 rfl
theorem dL_law_1502 : decode cL_law 1502 = .ok (.iconst 1, 1) := dcl_at (f := fun k => decode cL_law k) dlb_8 32 rfl
theorem dL_law_1503 : decode cL_law 1503 = .ok (.iadd, 1) := dcl_at (f := fun k => decode cL_law k) dlb_8 33 rfl
theorem dL_law_1504 : decode cL_law 1504 = .ok (.iaload, 1) := dcl_at (f := fun k => decode cL_law k) dlb_8 34 rfl
theorem dL_law_1505 : decode cL_law 1505 = .ok (.aload_n 0, 1) := dcl_at (f := fun k => decode cL_law k) dlb_8 35 rfl
theorem dL_law_1506 : decode cL_law 1506 = .ok (.iload 5, 2) := dcl_at (f := fun k => decode cL_law k) dlb_8 36 rfl
theorem dL_law_1508 : decode cL_law 1508 = .ok (.iconst 2, 1) := dcl_at (f := fun k => decode cL_law k) dlb_8 37 rfl
theorem dL_law_1509 : decode cL_law 1509 = .ok (.iadd, 1) := dcl_at (f := fun k => decode cL_law k) dlb_8 38 rfl
theorem dL_law_1510 : decode cL_law 1510 = .ok (.iaload, 1) := dcl_at (f := fun k => decode cL_law k) dlb_8 39 rfl
theorem dL_law_1511 : decode cL_law 1511 = .ok (.aload_n 3, 1) := dcl_at (f := fun k => decode cL_law k) dlb_8 40 rfl
theorem dL_law_1512 : decode cL_law 1512 = .ok (.invokestatic 200, 3) := dcl_at (f := fun k => decode cL_law k) dlb_8 41 rfl
theorem dL_law_1515 : decode cL_law 1515 = .ok (.istore 6, 2) := dcl_at (f := fun k => decode cL_law k) dlb_8 42 rfl
theorem dL_law_1517 : decode cL_law 1517 = .ok (.aload_n 2, 1) := dcl_at (f := fun k => decode cL_law k) dlb_8 43 rfl
theorem dL_law_1518 : decode cL_law 1518 = .ok (.aload_n 0, 1) := dcl_at (f := fun k => decode cL_law k) dlb_8 44 rfl
theorem dL_law_1519 : decode cL_law 1519 = .ok (.iload 5, 2) := dcl_at (f := fun k => decode cL_law k) dlb_8 45 rfl
theorem dL_law_1521 : decode cL_law 1521 = .ok (.iconst 1, 1) := dcl_at (f := fun k => decode cL_law k) dlb_8 46 rfl
theorem dL_law_1522 : decode cL_law 1522 = .ok (.iadd, 1) := dcl_at (f := fun k => decode cL_law k) dlb_8 47 rfl
theorem dL_law_1523 : decode cL_law 1523 = .ok (.iaload, 1) := dcl_at (f := fun k => decode cL_law k) dlb_8 48 rfl
theorem dL_law_1524 : decode cL_law 1524 = .ok (.aload_n 0, 1) := dcl_at (f := fun k => decode cL_law k) dlb_8 49 rfl
theorem dL_law_1525 : decode cL_law 1525 = .ok (.iload 5, 2) := dcl_at (f := fun k => decode cL_law k) dlb_8 50 rfl
theorem dL_law_1527 : decode cL_law 1527 = .ok (.iconst 2, 1) := dcl_at (f := fun k => decode cL_law k) dlb_8 51 rfl
theorem dL_law_1528 : decode cL_law 1528 = .ok (.iadd, 1) := dcl_at (f := fun k => decode cL_law k) dlb_8 52 rfl
theorem dL_law_1529 : decode cL_law 1529 = .ok (.iaload, 1) := dcl_at (f := fun k => decode cL_law k) dlb_8 53 rfl
theorem dL_law_1530 : decode cL_law 1530 = .ok (.invokevirtual 202, 3) := dcl_at (f := fun k => decode cL_law k) dlb_8 54 rfl
theorem dL_law_1533 : decode cL_law 1533 = .ok (.istore 7, 2) := dcl_at (f := fun k => decode cL_law k) dlb_8 55 rfl
theorem dL_law_1535 : decode cL_law 1535 = .ok (.aload_n 2, 1) := dcl_at (f := fun k => decode cL_law k) dlb_8 56 rfl
theorem dL_law_1536 : decode cL_law 1536 = .ok (.invokevirtual 125, 3) := dcl_at (f := fun k => decode cL_law k) dlb_8 57 rfl
theorem dL_law_1539 : decode cL_law 1539 = .ok (.iload 6, 2) := dcl_at (f := fun k => decode cL_law k) dlb_8 58 rfl
theorem dL_law_1541 : decode cL_law 1541 = .ok (.if_icmp .eq 5, 3) := dcl_at (f := fun k => decode cL_law k) dlb_8 59 rfl
theorem dL_law_1544 : decode cL_law 1544 = .ok (.iconst 0, 1) := dcl_at (f := fun k => decode cL_law k) dlb_8 60 rfl
theorem dL_law_1545 : decode cL_law 1545 = .ok (.ireturn, 1) := dcl_at (f := fun k => decode cL_law k) dlb_8 61 rfl
theorem dL_law_1546 : decode cL_law 1546 = .ok (.iload 6, 2) := dcl_at (f := fun k => decode cL_law k) dlb_8 62 rfl
theorem dL_law_1548 : decode cL_law 1548 = .ok (.ifCond .ne 15, 3) := dcl_at (f := fun k => decode cL_law k) dlb_8 63 rfl
theorem dL_law_1551 : decode cL_law 1551 = .ok (.aload_n 3, 1) := dcl_at (f := fun k => decode cL_law k) dlb_8 64 rfl
theorem dL_law_1552 : decode cL_law 1552 = .ok (.iconst 0, 1) := dcl_at (f := fun k => decode cL_law k) dlb_8 65 rfl
theorem dL_law_1553 : decode cL_law 1553 = .ok (.laload, 1) := dcl_at (f := fun k => decode cL_law k) dlb_8 66 rfl
theorem dL_law_1554 : decode cL_law 1554 = .ok (.iload 7, 2) := dcl_at (f := fun k => decode cL_law k) dlb_8 67 rfl
theorem dL_law_1556 : decode cL_law 1556 = .ok (.i2l, 1) := dcl_at (f := fun k => decode cL_law k) dlb_8 68 rfl
theorem dL_law_1557 : decode cL_law 1557 = .ok (.lcmp, 1) := dcl_at (f := fun k => decode cL_law k) dlb_8 69 rfl
theorem dL_law_1558 : decode cL_law 1558 = .ok (.ifCond .eq 5, 3) := dcl_at (f := fun k => decode cL_law k) dlb_8 70 rfl
theorem dL_law_1561 : decode cL_law 1561 = .ok (.iconst 0, 1) := dcl_at (f := fun k => decode cL_law k) dlb_8 71 rfl
theorem dL_law_1562 : decode cL_law 1562 = .ok (.ireturn, 1) := dcl_at (f := fun k => decode cL_law k) dlb_8 72 rfl
theorem dL_law_1563 : decode cL_law 1563 = .ok (.goto 555, 3) := dcl_at (f := fun k => decode cL_law k) dlb_8 73 rfl
theorem dL_law_1566 : decode cL_law 1566 = .ok (.aload_n 1, 1) := dcl_at (f := fun k => decode cL_law k) dlb_8 74 rfl
theorem dL_law_1567 : decode cL_law 1567 = .ok (.aload_n 0, 1) := dcl_at (f := fun k => decode cL_law k) dlb_8 75 rfl
theorem dL_law_1568 : decode cL_law 1568 = .ok (.iload 5, 2) := dcl_at (f := fun k => decode cL_law k) dlb_8 76 rfl
theorem dL_law_1570 : decode cL_law 1570 = .ok (.iconst 1, 1) := dcl_at (f := fun k => decode cL_law k) dlb_8 77 rfl
theorem dL_law_1571 : decode cL_law 1571 = .ok (.iadd, 1) := dcl_at (f := fun k => decode cL_law k) dlb_8 78 rfl
theorem dL_law_1572 : decode cL_law 1572 = .ok (.iaload, 1) := dcl_at (f := fun k => decode cL_law k) dlb_8 79 rfl
theorem dL_law_1573 : decode cL_law 1573 = .ok (.aload_n 0, 1) := dcl_at (f := fun k => decode cL_law k) dlb_8 80 rfl
theorem dL_law_1574 : decode cL_law 1574 = .ok (.iload 5, 2) := dcl_at (f := fun k => decode cL_law k) dlb_8 81 rfl
theorem dL_law_1576 : decode cL_law 1576 = .ok (.iconst 2, 1) := dcl_at (f := fun k => decode cL_law k) dlb_8 82 rfl
theorem dL_law_1577 : decode cL_law 1577 = .ok (.iadd, 1) := dcl_at (f := fun k => decode cL_law k) dlb_8 83 rfl
theorem dL_law_1578 : decode cL_law 1578 = .ok (.iaload, 1) := dcl_at (f := fun k => decode cL_law k) dlb_8 84 rfl
theorem dL_law_1579 : decode cL_law 1579 = .ok (.aload_n 3, 1) := dcl_at (f := fun k => decode cL_law k) dlb_8 85 rfl
theorem dL_law_1580 : decode cL_law 1580 = .ok (.invokestatic 203, 3) := dcl_at (f := fun k => decode cL_law k) dlb_8 86 rfl
theorem dL_law_1583 : decode cL_law 1583 = .ok (.istore 6, 2) := dcl_at (f := fun k => decode cL_law k) dlb_8 87 rfl
theorem dL_law_1585 : decode cL_law 1585 = .ok (.aload_n 2, 1) := dcl_at (f := fun k => decode cL_law k) dlb_8 88 rfl
theorem dL_law_1586 : decode cL_law 1586 = .ok (.aload_n 0, 1) := dcl_at (f := fun k => decode cL_law k) dlb_8 89 rfl
theorem dL_law_1587 : decode cL_law 1587 = .ok (.iload 5, 2) := dcl_at (f := fun k => decode cL_law k) dlb_8 90 rfl
theorem dL_law_1589 : decode cL_law 1589 = .ok (.iconst 1, 1) := dcl_at (f := fun k => decode cL_law k) dlb_8 91 rfl
theorem dL_law_1590 : decode cL_law 1590 = .ok (.iadd, 1) := dcl_at (f := fun k => decode cL_law k) dlb_8 92 rfl
theorem dL_law_1591 : decode cL_law 1591 = .ok (.iaload, 1) := dcl_at (f := fun k => decode cL_law k) dlb_8 93 rfl
theorem dL_law_1592 : decode cL_law 1592 = .ok (.aload_n 0, 1) := dcl_at (f := fun k => decode cL_law k) dlb_8 94 rfl
theorem dL_law_1593 : decode cL_law 1593 = .ok (.iload 5, 2) := dcl_at (f := fun k => decode cL_law k) dlb_8 95 rfl
theorem dL_law_1595 : decode cL_law 1595 = .ok (.iconst 2, 1) := dcl_at (f := fun k => decode cL_law k) dlb_8 96 rfl
theorem dL_law_1596 : decode cL_law 1596 = .ok (.iadd, 1) := dcl_at (f := fun k => decode cL_law k) dlb_8 97 rfl
theorem dL_law_1597 : decode cL_law 1597 = .ok (.iaload, 1) := dcl_at (f := fun k => decode cL_law k) dlb_8 98 rfl
theorem dL_law_1598 : decode cL_law 1598 = .ok (.invokevirtual 205, 3) := dcl_at (f := fun k => decode cL_law k) dlb_8 99 rfl
theorem dL_law_1601 : decode cL_law 1601 = .ok (.istore 7, 2) := dcl_at (f := fun k => decode cL_law k) dlb_8 100 rfl
theorem dL_law_1603 : decode cL_law 1603 = .ok (.aload_n 2, 1) := dcl_at (f := fun k => decode cL_law k) dlb_8 101 rfl
theorem dL_law_1604 : decode cL_law 1604 = .ok (.invokevirtual 125, 3) := dcl_at (f := fun k => decode cL_law k) dlb_8 102 rfl
theorem dL_law_1607 : decode cL_law 1607 = .ok (.iload 6, 2) := dcl_at (f := fun k => decode cL_law k) dlb_8 103 rfl
theorem dL_law_1609 : decode cL_law 1609 = .ok (.if_icmp .eq 5, 3) := dcl_at (f := fun k => decode cL_law k) dlb_8 104 rfl
theorem dL_law_1612 : decode cL_law 1612 = .ok (.iconst 0, 1) := dcl_at (f := fun k => decode cL_law k) dlb_8 105 rfl
theorem dL_law_1613 : decode cL_law 1613 = .ok (.ireturn, 1) := dcl_at (f := fun k => decode cL_law k) dlb_8 106 rfl
