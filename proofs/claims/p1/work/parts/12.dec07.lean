theorem dX11_apart_0 : decode cX11_apart 0 = .ok (.aload_n 0, 1) := by decide +kernel
theorem dX11_apart_1 : decode cX11_apart 1 = .ok (.getfield 69, 3) := by decide +kernel
theorem dX11_apart_4 : decode cX11_apart 4 = .ok (.iload_n 1, 1) := by decide +kernel
theorem dX11_apart_5 : decode cX11_apart 5 = .ok (.invokevirtual 323, 3) := by decide +kernel
theorem dX11_apart_8 : decode cX11_apart 8 = .ok (.ifCond .eq 18, 3) := by decide +kernel
theorem dX11_apart_26 : decode cX11_apart 26 = .ok (.ldc2_w 212, 3) := by decide +kernel
theorem dX11_apart_29 : decode cX11_apart 29 = .ok (.lreturn, 1) := by decide +kernel
theorem dL_law_1155 : decode cL_law 1155 = .ok (.aload_n 2, 1) := by decide +kernel
theorem dL_law_1156 : decode cL_law 1156 = .ok (.aload_n 0, 1) := by decide +kernel
theorem dL_law_1157 : decode cL_law 1157 = .ok (.iload_n 3, 1) := by decide +kernel
theorem dL_law_1158 : decode cL_law 1158 = .ok (.iconst 1, 1) := by decide +kernel
theorem dL_law_1159 : decode cL_law 1159 = .ok (.iadd, 1) := by decide +kernel
theorem dL_law_1160 : decode cL_law 1160 = .ok (.iaload, 1) := by decide +kernel
theorem dL_law_1161 : decode cL_law 1161 = .ok (.invokevirtual 152, 3) := by decide +kernel
theorem dX12_apart_0 : decode cX12_apart 0 = .ok (.aload_n 0, 1) := by decide +kernel
theorem dX12_apart_1 : decode cX12_apart 1 = .ok (.iload_n 1, 1) := by decide +kernel
theorem dX12_apart_2 : decode cX12_apart 2 = .ok (.invokevirtual 454, 3) := by decide +kernel
theorem dX12_apart_5 : decode cX12_apart 5 = .ok (.ifCond .eq 27, 3) := by decide +kernel
theorem dX12_apart_32 : decode cX12_apart 32 = .ok (.ldc2_w 384, 3) := by decide +kernel
theorem dX12_apart_35 : decode cX12_apart 35 = .ok (.lreturn, 1) := by decide +kernel
theorem dX12_apart_8 : decode cX12_apart 8 = .ok (.aload_n 0, 1) := by decide +kernel
theorem dX12_apart_9 : decode cX12_apart 9 = .ok (.iload_n 1, 1) := by decide +kernel
theorem dX12_apart_10 : decode cX12_apart 10 = .ok (.iconst 2, 1) := by decide +kernel
theorem dX12_apart_11 : decode cX12_apart 11 = .ok (.aload_n 0, 1) := by decide +kernel
theorem dX12_apart_12 : decode cX12_apart 12 = .ok (.getfield 234, 3) := by decide +kernel
theorem dX12_apart_15 : decode cX12_apart 15 = .ok (.imul, 1) := by decide +kernel
theorem dX12_apart_16 : decode cX12_apart 16 = .ok (.iconst 2, 1) := by decide +kernel
theorem dX12_apart_17 : decode cX12_apart 17 = .ok (.isub, 1) := by decide +kernel
theorem dX12_apart_18 : decode cX12_apart 18 = .ok (.iconst 2, 1) := by decide +kernel
theorem dX12_apart_19 : decode cX12_apart 19 = .ok (.invokevirtual 457, 3) := by decide +kernel
theorem dX12_apart_22 : decode cX12_apart 22 = .ok (.ifCond .eq 10, 3) := by decide +kernel
theorem dL_law_1164 : decode cL_law 1164 = .ok (.lcmp, 1) := by decide +kernel
theorem dL_law_1165 : decode cL_law 1165 = .ok (.ifCond .eq 367, 3) := by decide +kernel
theorem dL_law_1170 : decode cL_law 1170 = .ok (.aload_n 1, 1) := by decide +kernel
theorem dL_law_1171 : decode cL_law 1171 = .ok (.aload_n 0, 1) := by decide +kernel
theorem dL_law_1172 : decode cL_law 1172 = .ok (.iload_n 3, 1) := by decide +kernel
theorem dL_law_1173 : decode cL_law 1173 = .ok (.iconst 1, 1) := by decide +kernel
theorem dL_law_1174 : decode cL_law 1174 = .ok (.iadd, 1) := by decide +kernel
theorem dL_law_1175 : decode cL_law 1175 = .ok (.iaload, 1) := by decide +kernel
theorem dL_law_1176 : decode cL_law 1176 = .ok (.aload_n 0, 1) := by decide +kernel
theorem dL_law_1177 : decode cL_law 1177 = .ok (.iload_n 3, 1) := by decide +kernel
theorem dL_law_1178 : decode cL_law 1178 = .ok (.iconst 2, 1) := by decide +kernel
theorem dL_law_1179 : decode cL_law 1179 = .ok (.iadd, 1) := by decide +kernel
theorem dL_law_1180 : decode cL_law 1180 = .ok (.iaload, 1) := by decide +kernel
theorem dL_law_1181 : decode cL_law 1181 = .ok (.invokevirtual 153, 3) := by decide +kernel
theorem dX11_word_0 : decode cX11_word 0 = .ok (.aload_n 0, 1) := by decide +kernel
theorem dX11_word_1 : decode cX11_word 1 = .ok (.getfield 69, 3) := by decide +kernel
theorem dX11_word_4 : decode cX11_word 4 = .ok (.iload_n 1, 1) := by decide +kernel
theorem dX11_word_5 : decode cX11_word 5 = .ok (.invokevirtual 341, 3) := by decide +kernel
theorem dX1_isWord_0 : decode cX1_isWord 0 = .ok (.iload_n 1, 1) := by decide +kernel
theorem dX1_isWord_1 : decode cX1_isWord 1 = .ok (.ifCond .lt 15, 3) := by decide +kernel
theorem dX1_isWord_16 : decode cX1_isWord 16 = .ok (.iconst 0, 1) := by decide +kernel
theorem dX1_isWord_17 : decode cX1_isWord 17 = .ok (.ireturn, 1) := by decide +kernel
theorem dX1_isWord_4 : decode cX1_isWord 4 = .ok (.iload_n 1, 1) := by decide +kernel
theorem dX1_isWord_5 : decode cX1_isWord 5 = .ok (.aload_n 0, 1) := by decide +kernel
theorem dX1_isWord_6 : decode cX1_isWord 6 = .ok (.getfield 42, 3) := by decide +kernel
theorem dX1_isWord_9 : decode cX1_isWord 9 = .ok (.if_icmp .ge 7, 3) := by decide +kernel
theorem dX11_word_8 : decode cX11_word 8 = .ok (.ifCond .eq 26, 3) := by decide +kernel
theorem dX11_word_34 : decode cX11_word 34 = .ok (.ldc 175, 2) := by decide +kernel
theorem dX11_word_36 : decode cX11_word 36 = .ok (.ireturn, 1) := by decide +kernel
theorem dL_law_1184 : decode cL_law 1184 = .ok (.aload_n 2, 1) := by decide +kernel
theorem dL_law_1185 : decode cL_law 1185 = .ok (.aload_n 0, 1) := by decide +kernel
theorem dL_law_1186 : decode cL_law 1186 = .ok (.iload_n 3, 1) := by decide +kernel
theorem dL_law_1187 : decode cL_law 1187 = .ok (.iconst 1, 1) := by decide +kernel
theorem dL_law_1188 : decode cL_law 1188 = .ok (.iadd, 1) := by decide +kernel
theorem dL_law_1189 : decode cL_law 1189 = .ok (.iaload, 1) := by decide +kernel
theorem dL_law_1190 : decode cL_law 1190 = .ok (.aload_n 0, 1) := by decide +kernel
theorem dL_law_1191 : decode cL_law 1191 = .ok (.iload_n 3, 1) := by decide +kernel
theorem dL_law_1192 : decode cL_law 1192 = .ok (.iconst 2, 1) := by decide +kernel
theorem dL_law_1193 : decode cL_law 1193 = .ok (.iadd, 1) := by decide +kernel
theorem dL_law_1194 : decode cL_law 1194 = .ok (.iaload, 1) := by decide +kernel
theorem dL_law_1195 : decode cL_law 1195 = .ok (.invokevirtual 156, 3) := by decide +kernel
theorem dX12_word_0 : decode cX12_word 0 = .ok (.iload_n 1, 1) := by decide +kernel
theorem dX12_word_1 : decode cX12_word 1 = .ok (.i2l, 1) := by decide +kernel
theorem dX12_word_2 : decode cX12_word 2 = .ok (.lconst 0, 1) := by decide +kernel
theorem dX12_word_3 : decode cX12_word 3 = .ok (.aload_n 0, 1) := by decide +kernel
theorem dX12_word_4 : decode cX12_word 4 = .ok (.getfield 246, 3) := by decide +kernel
theorem dX12_word_7 : decode cX12_word 7 = .ok (.iconst 1, 1) := by decide +kernel
theorem dX12_word_8 : decode cX12_word 8 = .ok (.isub, 1) := by decide +kernel
theorem dX12_word_9 : decode cX12_word 9 = .ok (.i2l, 1) := by decide +kernel
theorem dX12_word_10 : decode cX12_word 10 = .ok (.invokestatic 191, 3) := by decide +kernel
theorem dX12_word_13 : decode cX12_word 13 = .ok (.ifCond .eq 24, 3) := by decide +kernel
theorem dX12_word_37 : decode cX12_word 37 = .ok (.ldc_w 364, 3) := by decide +kernel
theorem dX12_word_40 : decode cX12_word 40 = .ok (.ireturn, 1) := by decide +kernel
theorem dL_law_1198 : decode cL_law 1198 = .ok (.if_icmp .eq 334, 3) := by decide +kernel
theorem dL_law_1203 : decode cL_law 1203 = .ok (.aload_n 1, 1) := by decide +kernel
theorem dL_law_1204 : decode cL_law 1204 = .ok (.aload_n 0, 1) := by decide +kernel
theorem dL_law_1205 : decode cL_law 1205 = .ok (.iload_n 3, 1) := by decide +kernel
theorem dL_law_1206 : decode cL_law 1206 = .ok (.iconst 1, 1) := by decide +kernel
theorem dL_law_1207 : decode cL_law 1207 = .ok (.iadd, 1) := by decide +kernel
theorem dL_law_1208 : decode cL_law 1208 = .ok (.iaload, 1) := by decide +kernel
theorem dL_law_1209 : decode cL_law 1209 = .ok (.invokevirtual 157, 3) := by decide +kernel
theorem dX11_code_0 : decode cX11_code 0 = .ok (.iload_n 1, 1) := by decide +kernel
theorem dX11_code_1 : decode cX11_code 1 = .ok (.iconst 3, 1) := by decide +kernel
theorem dX11_code_2 : decode cX11_code 2 = .ok (.if_icmp .ne 28, 3) := by decide +kernel
theorem dX11_code_30 : decode cX11_code 30 = .ok (.iload_n 1, 1) := by decide +kernel
theorem dX11_code_31 : decode cX11_code 31 = .ok (.ifCond .lt 19, 3) := by decide +kernel
theorem dX11_code_50 : decode cX11_code 50 = .ok (.ldc2_w 212, 3) := by decide +kernel
theorem dX11_code_53 : decode cX11_code 53 = .ok (.lreturn, 1) := by decide +kernel
theorem dX11_code_34 : decode cX11_code 34 = .ok (.iload_n 1, 1) := by decide +kernel
theorem dX11_code_35 : decode cX11_code 35 = .ok (.iconst 2, 1) := by decide +kernel
theorem dX11_code_36 : decode cX11_code 36 = .ok (.if_icmp .gt 14, 3) := by decide +kernel
theorem dX11_code_39 : decode cX11_code 39 = .ok (.aload_n 0, 1) := by decide +kernel
theorem dX11_code_40 : decode cX11_code 40 = .ok (.getfield 69, 3) := by decide +kernel
theorem dX11_code_43 : decode cX11_code 43 = .ok (.getfield 145, 3) := by decide +kernel
theorem dX11_code_46 : decode cX11_code 46 = .ok (.iconst 2, 1) := by decide +kernel
theorem dX11_code_47 : decode cX11_code 47 = .ok (.if_icmp .ge 7, 3) := by decide +kernel
theorem dX11_code_5 : decode cX11_code 5 = .ok (.aload_n 0, 1) := by decide +kernel
theorem dX11_code_6 : decode cX11_code 6 = .ok (.getfield 69, 3) := by decide +kernel
theorem dX11_code_9 : decode cX11_code 9 = .ok (.getfield 145, 3) := by decide +kernel
theorem dX11_code_12 : decode cX11_code 12 = .ok (.ifCond .ne 9, 3) := by decide +kernel
theorem dX11_code_15 : decode cX11_code 15 = .ok (.ldc2_w 212, 3) := by decide +kernel
theorem dX11_code_18 : decode cX11_code 18 = .ok (.goto 11, 3) := by decide +kernel
theorem dX11_code_29 : decode cX11_code 29 = .ok (.lreturn, 1) := by decide +kernel
theorem dL_law_1212 : decode cL_law 1212 = .ok (.aload_n 2, 1) := by decide +kernel
theorem dL_law_1213 : decode cL_law 1213 = .ok (.aload_n 0, 1) := by decide +kernel
theorem dL_law_1214 : decode cL_law 1214 = .ok (.iload_n 3, 1) := by decide +kernel
theorem dL_law_1215 : decode cL_law 1215 = .ok (.iconst 1, 1) := by decide +kernel
theorem dL_law_1216 : decode cL_law 1216 = .ok (.iadd, 1) := by decide +kernel
theorem dL_law_1217 : decode cL_law 1217 = .ok (.iaload, 1) := by decide +kernel
theorem dL_law_1218 : decode cL_law 1218 = .ok (.invokevirtual 160, 3) := by decide +kernel
theorem dX12_code_0 : decode cX12_code 0 = .ok (.iload_n 1, 1) := by decide +kernel
theorem dX12_code_1 : decode cX12_code 1 = .ok (.i2l, 1) := by decide +kernel
theorem dX12_code_2 : decode cX12_code 2 = .ok (.lconst 0, 1) := by decide +kernel
theorem dX12_code_3 : decode cX12_code 3 = .ok (.ldc2_w 460, 3) := by decide +kernel
theorem dX12_code_6 : decode cX12_code 6 = .ok (.invokestatic 191, 3) := by decide +kernel
theorem dX12_code_9 : decode cX12_code 9 = .ok (.ifCond .eq 20, 3) := by decide +kernel
theorem dX12_code_29 : decode cX12_code 29 = .ok (.ldc2_w 384, 3) := by decide +kernel
theorem dX12_code_32 : decode cX12_code 32 = .ok (.lreturn, 1) := by decide +kernel
theorem dX12_code_12 : decode cX12_code 12 = .ok (.aload_n 0, 1) := by decide +kernel
theorem dX12_code_13 : decode cX12_code 13 = .ok (.getfield 246, 3) := by decide +kernel
theorem dX12_code_16 : decode cX12_code 16 = .ok (.iload_n 1, 1) := by decide +kernel
theorem dX12_code_17 : decode cX12_code 17 = .ok (.iconst 3, 1) := by decide +kernel
theorem dX12_code_18 : decode cX12_code 18 = .ok (.if_icmp .ne 7, 3) := by decide +kernel
theorem dX12_code_25 : decode cX12_code 25 = .ok (.iconst 2, 1) := by decide +kernel
theorem dX12_code_26 : decode cX12_code 26 = .ok (.if_icmp .ge 7, 3) := by decide +kernel
theorem dX12_code_21 : decode cX12_code 21 = .ok (.iconst 1, 1) := by decide +kernel
theorem dX12_code_22 : decode cX12_code 22 = .ok (.goto 4, 3) := by decide +kernel
theorem dL_law_1221 : decode cL_law 1221 = .ok (.lcmp, 1) := by decide +kernel
theorem dL_law_1222 : decode cL_law 1222 = .ok (.ifCond .eq 310, 3) := by decide +kernel
theorem dL_law_1227 : decode cL_law 1227 = .ok (.aload_n 1, 1) := by decide +kernel
theorem dL_law_1228 : decode cL_law 1228 = .ok (.invokevirtual 161, 3) := by decide +kernel
theorem dX11_decode_0 : decode cX11_decode 0 = .ok (.iconst (-1), 1) := by decide +kernel
theorem dX11_decode_1 : decode cX11_decode 1 = .ok (.istore_n 1, 1) := by decide +kernel
theorem dX11_decode_2 : decode cX11_decode 2 = .ok (.lconst 0, 1) := by decide +kernel
theorem dX11_decode_3 : decode cX11_decode 3 = .ok (.lstore_n 2, 1) := by decide +kernel
theorem dX11_decode_4 : decode cX11_decode 4 = .ok (.iconst 0, 1) := by decide +kernel
theorem dX11_decode_5 : decode cX11_decode 5 = .ok (.istore 4, 2) := by decide +kernel
theorem dX11_decode_7 : decode cX11_decode 7 = .ok (.iload 4, 2) := by decide +kernel
theorem dX11_decode_9 : decode cX11_decode 9 = .ok (.aload_n 0, 1) := by decide +kernel
theorem dX11_decode_10 : decode cX11_decode 10 = .ok (.getfield 69, 3) := by decide +kernel
theorem dX11_decode_13 : decode cX11_decode 13 = .ok (.getfield 145, 3) := by decide +kernel
theorem dX11_decode_16 : decode cX11_decode 16 = .ok (.if_icmp .ge 57, 3) := by decide +kernel
theorem dX11_decode_73 : decode cX11_decode 73 = .ok (.iload_n 1, 1) := by decide +kernel
theorem dX11_decode_74 : decode cX11_decode 74 = .ok (.ireturn, 1) := by decide +kernel
theorem dL_law_1231 : decode cL_law 1231 = .ok (.aload_n 2, 1) := by decide +kernel
theorem dL_law_1232 : decode cL_law 1232 = .ok (.invokevirtual 164, 3) := by decide +kernel
theorem dX12_decode_0 : decode cX12_decode 0 = .ok (.iconst (-1), 1) := by decide +kernel
theorem dX12_decode_1 : decode cX12_decode 1 = .ok (.istore_n 1, 1) := by decide +kernel
theorem dX12_decode_2 : decode cX12_decode 2 = .ok (.lconst 0, 1) := by decide +kernel
theorem dX12_decode_3 : decode cX12_decode 3 = .ok (.lstore_n 2, 1) := by decide +kernel
theorem dX12_decode_4 : decode cX12_decode 4 = .ok (.iconst 0, 1) := by decide +kernel
theorem dX12_decode_5 : decode cX12_decode 5 = .ok (.istore 4, 2) := by decide +kernel
theorem dX12_decode_7 : decode cX12_decode 7 = .ok (.iload 4, 2) := by decide +kernel
theorem dX12_decode_9 : decode cX12_decode 9 = .ok (.aload_n 0, 1) := by decide +kernel
theorem dX12_decode_10 : decode cX12_decode 10 = .ok (.getfield 246, 3) := by decide +kernel
theorem dX12_decode_13 : decode cX12_decode 13 = .ok (.if_icmp .ge 74, 3) := by decide +kernel
theorem dX12_decode_87 : decode cX12_decode 87 = .ok (.iload_n 1, 1) := by decide +kernel
theorem dX12_decode_88 : decode cX12_decode 88 = .ok (.ireturn, 1) := by decide +kernel
theorem dL_law_1235 : decode cL_law 1235 = .ok (.if_icmp .eq 297, 3) := by decide +kernel
theorem dL_law_1240 : decode cL_law 1240 = .ok (.aload_n 1, 1) := by decide +kernel
theorem dL_law_1241 : decode cL_law 1241 = .ok (.aload_n 0, 1) := by decide +kernel
theorem dL_law_1242 : decode cL_law 1242 = .ok (.iload_n 3, 1) := by decide +kernel
theorem dL_law_1243 : decode cL_law 1243 = .ok (.iconst 1, 1) := by decide +kernel
theorem dL_law_1244 : decode cL_law 1244 = .ok (.iadd, 1) := by decide +kernel
theorem dL_law_1245 : decode cL_law 1245 = .ok (.iaload, 1) := by decide +kernel
theorem dL_law_1246 : decode cL_law 1246 = .ok (.invokevirtual 165, 3) := by decide +kernel
theorem dX11_leave_0 : decode cX11_leave 0 = .ok (.iload_n 1, 1) := by decide +kernel
theorem dX11_leave_1 : decode cX11_leave 1 = .ok (.ifCond .lt 19, 3) := by decide +kernel
theorem dX11_leave_20 : decode cX11_leave 20 = .ok (.ldc2_w 212, 3) := by decide +kernel
theorem dX11_leave_23 : decode cX11_leave 23 = .ok (.lreturn, 1) := by decide +kernel
theorem dX11_leave_4 : decode cX11_leave 4 = .ok (.iload_n 1, 1) := by decide +kernel
theorem dX11_leave_5 : decode cX11_leave 5 = .ok (.iconst 1, 1) := by decide +kernel
theorem dX11_leave_6 : decode cX11_leave 6 = .ok (.if_icmp .gt 14, 3) := by decide +kernel
theorem dX11_leave_9 : decode cX11_leave 9 = .ok (.aload_n 0, 1) := by decide +kernel
theorem dX11_leave_10 : decode cX11_leave 10 = .ok (.getfield 69, 3) := by decide +kernel
theorem dX11_leave_13 : decode cX11_leave 13 = .ok (.getfield 145, 3) := by decide +kernel
theorem dX11_leave_16 : decode cX11_leave 16 = .ok (.iconst 3, 1) := by decide +kernel
theorem dX11_leave_17 : decode cX11_leave 17 = .ok (.if_icmp .ge 7, 3) := by decide +kernel
theorem dL_law_1249 : decode cL_law 1249 = .ok (.aload_n 2, 1) := by decide +kernel
theorem dL_law_1250 : decode cL_law 1250 = .ok (.aload_n 0, 1) := by decide +kernel
theorem dL_law_1251 : decode cL_law 1251 = .ok (.iload_n 3, 1) := by decide +kernel
theorem dL_law_1252 : decode cL_law 1252 = .ok (.iconst 1, 1) := by decide +kernel
theorem dL_law_1253 : decode cL_law 1253 = .ok (.iadd, 1) := by decide +kernel
theorem dL_law_1254 : decode cL_law 1254 = .ok (.iaload, 1) := by decide +kernel
theorem dL_law_1255 : decode cL_law 1255 = .ok (.invokevirtual 168, 3) := by decide +kernel
theorem dX12_leave_0 : decode cX12_leave 0 = .ok (.iload_n 1, 1) := by decide +kernel
theorem dX12_leave_1 : decode cX12_leave 1 = .ok (.i2l, 1) := by decide +kernel
theorem dX12_leave_2 : decode cX12_leave 2 = .ok (.lconst 0, 1) := by decide +kernel
theorem dX12_leave_3 : decode cX12_leave 3 = .ok (.lconst 1, 1) := by decide +kernel
theorem dX12_leave_4 : decode cX12_leave 4 = .ok (.invokestatic 191, 3) := by decide +kernel
theorem dX12_leave_7 : decode cX12_leave 7 = .ok (.ifCond .eq 11, 3) := by decide +kernel
theorem dX12_leave_18 : decode cX12_leave 18 = .ok (.ldc2_w 384, 3) := by decide +kernel
theorem dX12_leave_21 : decode cX12_leave 21 = .ok (.lreturn, 1) := by decide +kernel
theorem dX12_leave_10 : decode cX12_leave 10 = .ok (.aload_n 0, 1) := by decide +kernel
theorem dX12_leave_11 : decode cX12_leave 11 = .ok (.getfield 246, 3) := by decide +kernel
theorem dX12_leave_14 : decode cX12_leave 14 = .ok (.iconst 3, 1) := by decide +kernel
theorem dX12_leave_15 : decode cX12_leave 15 = .ok (.if_icmp .ge 7, 3) := by decide +kernel
theorem dL_law_1258 : decode cL_law 1258 = .ok (.lcmp, 1) := by decide +kernel
theorem dL_law_1259 : decode cL_law 1259 = .ok (.ifCond .eq 273, 3) := by decide +kernel
theorem dL_law_1264 : decode cL_law 1264 = .ok (.aload_n 1, 1) := by decide +kernel
theorem dL_law_1265 : decode cL_law 1265 = .ok (.aload_n 0, 1) := by decide +kernel
theorem dL_law_1266 : decode cL_law 1266 = .ok (.iload_n 3, 1) := by decide +kernel
theorem dL_law_1267 : decode cL_law 1267 = .ok (.iconst 1, 1) := by decide +kernel
theorem dL_law_1268 : decode cL_law 1268 = .ok (.iadd, 1) := by decide +kernel
theorem dL_law_1269 : decode cL_law 1269 = .ok (.iaload, 1) := by decide +kernel
theorem dL_law_1270 : decode cL_law 1270 = .ok (.invokevirtual 169, 3) := by decide +kernel
theorem dX11_behind_0 : decode cX11_behind 0 = .ok (.aload_n 0, 1) := by decide +kernel
theorem dX11_behind_1 : decode cX11_behind 1 = .ok (.getfield 69, 3) := by decide +kernel
theorem dX11_behind_4 : decode cX11_behind 4 = .ok (.iload_n 1, 1) := by decide +kernel
theorem dX11_behind_5 : decode cX11_behind 5 = .ok (.invokevirtual 341, 3) := by decide +kernel
theorem dX11_behind_8 : decode cX11_behind 8 = .ok (.ifCond .ne 5, 3) := by decide +kernel
theorem dX11_behind_11 : decode cX11_behind 11 = .ok (.iconst (-1), 1) := by decide +kernel
theorem dX11_behind_12 : decode cX11_behind 12 = .ok (.ireturn, 1) := by decide +kernel
theorem dL_law_1273 : decode cL_law 1273 = .ok (.aload_n 2, 1) := by decide +kernel
theorem dL_law_1274 : decode cL_law 1274 = .ok (.aload_n 0, 1) := by decide +kernel
theorem dL_law_1275 : decode cL_law 1275 = .ok (.iload_n 3, 1) := by decide +kernel
theorem dL_law_1276 : decode cL_law 1276 = .ok (.iconst 1, 1) := by decide +kernel
theorem dL_law_1277 : decode cL_law 1277 = .ok (.iadd, 1) := by decide +kernel
theorem dL_law_1278 : decode cL_law 1278 = .ok (.iaload, 1) := by decide +kernel
theorem dL_law_1279 : decode cL_law 1279 = .ok (.invokevirtual 172, 3) := by decide +kernel
theorem dX12_behind_0 : decode cX12_behind 0 = .ok (.aload_n 0, 1) := by decide +kernel
theorem dX12_behind_1 : decode cX12_behind 1 = .ok (.iload_n 1, 1) := by decide +kernel
theorem dX12_behind_2 : decode cX12_behind 2 = .ok (.invokevirtual 471, 3) := by decide +kernel
theorem dX12_isWord_0 : decode cX12_isWord 0 = .ok (.iload_n 1, 1) := by decide +kernel
theorem dX12_isWord_1 : decode cX12_isWord 1 = .ok (.i2l, 1) := by decide +kernel
theorem dX12_isWord_2 : decode cX12_isWord 2 = .ok (.lconst 0, 1) := by decide +kernel
theorem dX12_isWord_3 : decode cX12_isWord 3 = .ok (.aload_n 0, 1) := by decide +kernel
theorem dX12_isWord_4 : decode cX12_isWord 4 = .ok (.getfield 246, 3) := by decide +kernel
theorem dX12_isWord_7 : decode cX12_isWord 7 = .ok (.iconst 1, 1) := by decide +kernel
theorem dX12_isWord_8 : decode cX12_isWord 8 = .ok (.isub, 1) := by decide +kernel
theorem dX12_isWord_9 : decode cX12_isWord 9 = .ok (.i2l, 1) := by decide +kernel
theorem dX12_isWord_10 : decode cX12_isWord 10 = .ok (.invokestatic 191, 3) := by decide +kernel
theorem dX12_isWord_13 : decode cX12_isWord 13 = .ok (.ireturn, 1) := by decide +kernel
theorem dX12_behind_5 : decode cX12_behind 5 = .ok (.ifCond .ne 5, 3) := by decide +kernel
theorem dX12_behind_8 : decode cX12_behind 8 = .ok (.iconst (-1), 1) := by decide +kernel
theorem dX12_behind_9 : decode cX12_behind 9 = .ok (.ireturn, 1) := by decide +kernel
theorem dL_law_1282 : decode cL_law 1282 = .ok (.if_icmp .eq 250, 3) := by decide +kernel
theorem dL_law_1287 : decode cL_law 1287 = .ok (.aload_n 1, 1) := by decide +kernel
theorem dL_law_1288 : decode cL_law 1288 = .ok (.aload_n 0, 1) := by decide +kernel
theorem dL_law_1289 : decode cL_law 1289 = .ok (.iload_n 3, 1) := by decide +kernel
theorem dL_law_1290 : decode cL_law 1290 = .ok (.iconst 1, 1) := by decide +kernel
theorem dL_law_1291 : decode cL_law 1291 = .ok (.iadd, 1) := by decide +kernel
theorem dL_law_1292 : decode cL_law 1292 = .ok (.iaload, 1) := by decide +kernel
theorem dL_law_1293 : decode cL_law 1293 = .ok (.aload_n 0, 1) := by decide +kernel
theorem dL_law_1294 : decode cL_law 1294 = .ok (.iload_n 3, 1) := by decide +kernel
theorem dL_law_1295 : decode cL_law 1295 = .ok (.iconst 2, 1) := by decide +kernel
theorem dL_law_1296 : decode cL_law 1296 = .ok (.iadd, 1) := by decide +kernel
theorem dL_law_1297 : decode cL_law 1297 = .ok (.iaload, 1) := by decide +kernel
theorem dL_law_1298 : decode cL_law 1298 = .ok (.invokevirtual 173, 3) := by decide +kernel
theorem dX11_unlike_0 : decode cX11_unlike 0 = .ok (.aload_n 0, 1) := by decide +kernel
theorem dX11_unlike_1 : decode cX11_unlike 1 = .ok (.getfield 69, 3) := by decide +kernel
theorem dX11_unlike_4 : decode cX11_unlike 4 = .ok (.iload_n 1, 1) := by decide +kernel
theorem dX11_unlike_5 : decode cX11_unlike 5 = .ok (.invokevirtual 341, 3) := by decide +kernel
theorem dX11_unlike_8 : decode cX11_unlike 8 = .ok (.ifCond .eq 14, 3) := by decide +kernel
theorem dX11_unlike_22 : decode cX11_unlike 22 = .ok (.iconst (-1), 1) := by decide +kernel
theorem dX11_unlike_23 : decode cX11_unlike 23 = .ok (.ireturn, 1) := by decide +kernel
theorem dL_law_1301 : decode cL_law 1301 = .ok (.aload_n 2, 1) := by decide +kernel
theorem dL_law_1302 : decode cL_law 1302 = .ok (.aload_n 0, 1) := by decide +kernel
theorem dL_law_1303 : decode cL_law 1303 = .ok (.iload_n 3, 1) := by decide +kernel
theorem dL_law_1304 : decode cL_law 1304 = .ok (.iconst 1, 1) := by decide +kernel
theorem dL_law_1305 : decode cL_law 1305 = .ok (.iadd, 1) := by decide +kernel
theorem dL_law_1306 : decode cL_law 1306 = .ok (.iaload, 1) := by decide +kernel
theorem dL_law_1307 : decode cL_law 1307 = .ok (.aload_n 0, 1) := by decide +kernel
theorem dL_law_1308 : decode cL_law 1308 = .ok (.iload_n 3, 1) := by decide +kernel
theorem dL_law_1309 : decode cL_law 1309 = .ok (.iconst 2, 1) := by decide +kernel
theorem dL_law_1310 : decode cL_law 1310 = .ok (.iadd, 1) := by decide +kernel
theorem dL_law_1311 : decode cL_law 1311 = .ok (.iaload, 1) := by decide +kernel
theorem dL_law_1312 : decode cL_law 1312 = .ok (.invokevirtual 176, 3) := by decide +kernel
theorem dX12_unlike_0 : decode cX12_unlike 0 = .ok (.aload_n 0, 1) := by decide +kernel
theorem dX12_unlike_1 : decode cX12_unlike 1 = .ok (.iload_n 1, 1) := by decide +kernel
theorem dX12_unlike_2 : decode cX12_unlike 2 = .ok (.invokevirtual 471, 3) := by decide +kernel
theorem dX12_unlike_5 : decode cX12_unlike 5 = .ok (.ifCond .eq 11, 3) := by decide +kernel
theorem dX12_unlike_16 : decode cX12_unlike 16 = .ok (.iconst (-1), 1) := by decide +kernel
theorem dX12_unlike_17 : decode cX12_unlike 17 = .ok (.ireturn, 1) := by decide +kernel
theorem dL_law_1315 : decode cL_law 1315 = .ok (.if_icmp .eq 217, 3) := by decide +kernel
theorem dL_law_1320 : decode cL_law 1320 = .ok (.aload_n 1, 1) := by decide +kernel
theorem dL_law_1321 : decode cL_law 1321 = .ok (.aload_n 0, 1) := by decide +kernel
theorem dL_law_1322 : decode cL_law 1322 = .ok (.iload_n 3, 1) := by decide +kernel
theorem dL_law_1323 : decode cL_law 1323 = .ok (.iconst 1, 1) := by decide +kernel
theorem dL_law_1324 : decode cL_law 1324 = .ok (.iadd, 1) := by decide +kernel
theorem dL_law_1325 : decode cL_law 1325 = .ok (.iaload, 1) := by decide +kernel
theorem dL_law_1326 : decode cL_law 1326 = .ok (.ifCond .eq 7, 3) := by decide +kernel
theorem dL_law_1333 : decode cL_law 1333 = .ok (.iconst 0, 1) := by decide +kernel
theorem dL_law_1334 : decode cL_law 1334 = .ok (.invokevirtual 177, 3) := by decide +kernel
theorem dX11_span_0 : decode cX11_span 0 = .ok (.aload_n 0, 1) := by decide +kernel
theorem dX11_span_1 : decode cX11_span 1 = .ok (.getfield 69, 3) := by decide +kernel
theorem dX11_span_4 : decode cX11_span 4 = .ok (.getfield 136, 3) := by decide +kernel
theorem dX11_span_7 : decode cX11_span 7 = .ok (.ifCond .ne 7, 3) := by decide +kernel
theorem dX11_span_10 : decode cX11_span 10 = .ok (.ldc2_w 212, 3) := by decide +kernel
theorem dX11_span_13 : decode cX11_span 13 = .ok (.lreturn, 1) := by decide +kernel
theorem dL_law_1337 : decode cL_law 1337 = .ok (.aload_n 2, 1) := by decide +kernel
theorem dL_law_1338 : decode cL_law 1338 = .ok (.aload_n 0, 1) := by decide +kernel
theorem dL_law_1339 : decode cL_law 1339 = .ok (.iload_n 3, 1) := by decide +kernel
theorem dL_law_1340 : decode cL_law 1340 = .ok (.iconst 1, 1) := by decide +kernel
theorem dL_law_1341 : decode cL_law 1341 = .ok (.iadd, 1) := by decide +kernel
theorem dL_law_1342 : decode cL_law 1342 = .ok (.iaload, 1) := by decide +kernel
theorem dL_law_1343 : decode cL_law 1343 = .ok (.ifCond .eq 7, 3) := by decide +kernel
theorem dL_law_1350 : decode cL_law 1350 = .ok (.iconst 0, 1) := by decide +kernel
theorem dL_law_1351 : decode cL_law 1351 = .ok (.invokevirtual 180, 3) := by decide +kernel
theorem dX12_span_0 : decode cX12_span 0 = .ok (.iconst 0, 1) := by decide +kernel
theorem dX12_span_1 : decode cX12_span 1 = .ok (.istore_n 2, 1) := by decide +kernel
theorem dX12_span_2 : decode cX12_span 2 = .ok (.iload_n 2, 1) := by decide +kernel
theorem dX12_span_3 : decode cX12_span 3 = .ok (.iconst 5, 1) := by decide +kernel
theorem dX12_span_4 : decode cX12_span 4 = .ok (.if_icmp .ge 21, 3) := by decide +kernel
theorem dX12_span_7 : decode cX12_span 7 = .ok (.aload_n 0, 1) := by decide +kernel
theorem dX12_span_8 : decode cX12_span 8 = .ok (.getfield 142, 3) := by decide +kernel
theorem dX12_span_11 : decode cX12_span 11 = .ok (.iload_n 2, 1) := by decide +kernel
theorem dX12_span_12 : decode cX12_span 12 = .ok (.aload_n 0, 1) := by decide +kernel
theorem dX12_span_13 : decode cX12_span 13 = .ok (.getfield 136, 3) := by decide +kernel
theorem dX12_span_16 : decode cX12_span 16 = .ok (.iload_n 2, 1) := by decide +kernel
theorem dX12_span_17 : decode cX12_span 17 = .ok (.iaload, 1) := by decide +kernel
theorem dX12_span_18 : decode cX12_span 18 = .ok (.iastore, 1) := by decide +kernel
theorem dX12_span_19 : decode cX12_span 19 = .ok (.iinc 2 1, 3) := by decide +kernel
theorem dX12_span_22 : decode cX12_span 22 = .ok (.goto (-20), 3) := by decide +kernel
theorem dX12_span_25 : decode cX12_span 25 = .ok (.ldc2_w 384, 3) := by decide +kernel
theorem dX12_span_28 : decode cX12_span 28 = .ok (.lstore_n 2, 1) := by decide +kernel
theorem dX12_span_29 : decode cX12_span 29 = .ok (.iconst 0, 1) := by decide +kernel
theorem dX12_span_30 : decode cX12_span 30 = .ok (.istore 4, 2) := by decide +kernel
theorem dX12_span_32 : decode cX12_span 32 = .ok (.iload 4, 2) := by decide +kernel
theorem dX12_span_34 : decode cX12_span 34 = .ok (.aload_n 0, 1) := by decide +kernel
theorem dX12_span_35 : decode cX12_span 35 = .ok (.invokevirtual 406, 3) := by decide +kernel
theorem dX12_span_38 : decode cX12_span 38 = .ok (.if_icmp .ge 51, 3) := by decide +kernel
theorem dX12_span_89 : decode cX12_span 89 = .ok (.iconst 0, 1) := by decide +kernel
theorem dX12_span_90 : decode cX12_span 90 = .ok (.istore 4, 2) := by decide +kernel
theorem dX12_span_92 : decode cX12_span 92 = .ok (.iload 4, 2) := by decide +kernel
theorem dX12_span_94 : decode cX12_span 94 = .ok (.iconst 5, 1) := by decide +kernel
theorem dX12_span_95 : decode cX12_span 95 = .ok (.if_icmp .ge 23, 3) := by decide +kernel
theorem dX12_span_98 : decode cX12_span 98 = .ok (.aload_n 0, 1) := by decide +kernel
theorem dX12_span_99 : decode cX12_span 99 = .ok (.getfield 136, 3) := by decide +kernel
theorem dX12_span_102 : decode cX12_span 102 = .ok (.iload 4, 2) := by decide +kernel
theorem dX12_span_104 : decode cX12_span 104 = .ok (.aload_n 0, 1) := by decide +kernel
theorem dX12_span_105 : decode cX12_span 105 = .ok (.getfield 142, 3) := by decide +kernel
theorem dX12_span_108 : decode cX12_span 108 = .ok (.iload 4, 2) := by decide +kernel
theorem dX12_span_110 : decode cX12_span 110 = .ok (.iaload, 1) := by decide +kernel
theorem dX12_span_111 : decode cX12_span 111 = .ok (.iastore, 1) := by decide +kernel
theorem dX12_span_112 : decode cX12_span 112 = .ok (.iinc 4 1, 3) := by decide +kernel
theorem dX12_span_115 : decode cX12_span 115 = .ok (.goto (-23), 3) := by decide +kernel
theorem dX12_span_118 : decode cX12_span 118 = .ok (.lload_n 2, 1) := by decide +kernel
theorem dX12_span_119 : decode cX12_span 119 = .ok (.lreturn, 1) := by decide +kernel
theorem dL_law_1354 : decode cL_law 1354 = .ok (.lcmp, 1) := by decide +kernel
theorem dL_law_1355 : decode cL_law 1355 = .ok (.ifCond .eq 177, 3) := by decide +kernel
theorem dL_law_1329 : decode cL_law 1329 = .ok (.iconst 1, 1) := by decide +kernel
theorem dL_law_1330 : decode cL_law 1330 = .ok (.goto 4, 3) := by decide +kernel
theorem dL_law_1346 : decode cL_law 1346 = .ok (.iconst 1, 1) := by decide +kernel
theorem dL_law_1347 : decode cL_law 1347 = .ok (.goto 4, 3) := by decide +kernel
theorem dL_law_1360 : decode cL_law 1360 = .ok (.aload_n 1, 1) := by decide +kernel
theorem dL_law_1361 : decode cL_law 1361 = .ok (.invokevirtual 181, 3) := by decide +kernel
theorem dX11_ahead_0 : decode cX11_ahead 0 = .ok (.aload_n 0, 1) := by decide +kernel
theorem dX11_ahead_1 : decode cX11_ahead 1 = .ok (.invokevirtual 201, 3) := by decide +kernel
theorem dX11_ahead_4 : decode cX11_ahead 4 = .ok (.ifCond .eq 21, 3) := by decide +kernel
theorem dX11_ahead_25 : decode cX11_ahead 25 = .ok (.aload_n 0, 1) := by decide +kernel
theorem dX11_ahead_26 : decode cX11_ahead 26 = .ok (.getfield 45, 3) := by decide +kernel
theorem dX11_ahead_29 : decode cX11_ahead 29 = .ok (.invokevirtual 383, 3) := by decide +kernel
theorem dX3_refuse_0 : decode cX3_refuse 0 = .ok (.aload_n 0, 1) := by decide +kernel
theorem dX3_refuse_1 : decode cX3_refuse 1 = .ok (.iconst 0, 1) := by decide +kernel
theorem dX3_refuse_2 : decode cX3_refuse 2 = .ok (.putfield 39, 3) := by decide +kernel
theorem dX3_refuse_5 : decode cX3_refuse 5 = .ok (.ldc2_w 43, 3) := by decide +kernel
theorem dX3_refuse_8 : decode cX3_refuse 8 = .ok (.lreturn, 1) := by decide +kernel
theorem dX11_ahead_32 : decode cX11_ahead 32 = .ok (.lreturn, 1) := by decide +kernel
theorem dL_law_1364 : decode cL_law 1364 = .ok (.aload_n 2, 1) := by decide +kernel
theorem dL_law_1365 : decode cL_law 1365 = .ok (.invokevirtual 184, 3) := by decide +kernel
theorem dX12_ahead_0 : decode cX12_ahead 0 = .ok (.aload_n 0, 1) := by decide +kernel
theorem dX12_ahead_1 : decode cX12_ahead 1 = .ok (.iconst 0, 1) := by decide +kernel
theorem dX12_ahead_2 : decode cX12_ahead 2 = .ok (.putfield 252, 3) := by decide +kernel
theorem dX12_ahead_5 : decode cX12_ahead 5 = .ok (.aload_n 0, 1) := by decide +kernel
theorem dX12_ahead_6 : decode cX12_ahead 6 = .ok (.invokevirtual 377, 3) := by decide +kernel
theorem dX12_ahead_9 : decode cX12_ahead 9 = .ok (.ifCond .ne 7, 3) := by decide +kernel
theorem dX12_ahead_12 : decode cX12_ahead 12 = .ok (.ldc2_w 384, 3) := by decide +kernel
theorem dX12_ahead_15 : decode cX12_ahead 15 = .ok (.lreturn, 1) := by decide +kernel
theorem dL_law_1368 : decode cL_law 1368 = .ok (.lcmp, 1) := by decide +kernel
theorem dL_law_1369 : decode cL_law 1369 = .ok (.ifCond .eq 163, 3) := by decide +kernel
theorem dL_law_1374 : decode cL_law 1374 = .ok (.aload_n 1, 1) := by decide +kernel
theorem dL_law_1375 : decode cL_law 1375 = .ok (.aload_n 0, 1) := by decide +kernel
theorem dL_law_1376 : decode cL_law 1376 = .ok (.iload_n 3, 1) := by decide +kernel
theorem dL_law_1377 : decode cL_law 1377 = .ok (.iconst 1, 1) := by decide +kernel
theorem dL_law_1378 : decode cL_law 1378 = .ok (.iadd, 1) := by decide +kernel
theorem dL_law_1379 : decode cL_law 1379 = .ok (.iaload, 1) := by decide +kernel
theorem dL_law_1380 : decode cL_law 1380 = .ok (.invokevirtual 185, 3) := by decide +kernel
theorem dX11_put_0 : decode cX11_put 0 = .ok (.aload_n 0, 1) := by decide +kernel
theorem dX11_put_1 : decode cX11_put 1 = .ok (.getfield 69, 3) := by decide +kernel
theorem dX11_put_4 : decode cX11_put 4 = .ok (.iload_n 1, 1) := by decide +kernel
theorem dX11_put_5 : decode cX11_put 5 = .ok (.invokevirtual 172, 3) := by decide +kernel
theorem dX11_put_8 : decode cX11_put 8 = .ok (.ifCond .eq 25, 3) := by decide +kernel
theorem dX11_put_33 : decode cX11_put 33 = .ok (.ldc 175, 2) := by decide +kernel
theorem dX11_put_35 : decode cX11_put 35 = .ok (.ireturn, 1) := by decide +kernel
theorem dL_law_1383 : decode cL_law 1383 = .ok (.aload_n 2, 1) := by decide +kernel
theorem dL_law_1384 : decode cL_law 1384 = .ok (.aload_n 0, 1) := by decide +kernel
theorem dL_law_1385 : decode cL_law 1385 = .ok (.iload_n 3, 1) := by decide +kernel
theorem dL_law_1386 : decode cL_law 1386 = .ok (.iconst 1, 1) := by decide +kernel
