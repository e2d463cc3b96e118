theorem dL_law_1159 : decode cL_law 1159 = .ok (.aload_n 1, 1) := by decide +kernel
theorem k_8_181 : Jvm.Cond.code ({ cls := "FinderHouse", name := "forget", desc := "()I" } : Jvm.MethodName) prog_1_method_51_code (2 : Nat) (Option.some Jvm.ClassFile.FieldType.int) ∈ tb := tb8 181 (by decide +kernel) (by decide +kernel)
theorem k_8_178 : Jvm.Cond.methodLink "FinderHouseLaw" (187 : Nat) ({ cls := "FinderHouse", name := "forget", desc := "()I" } : Jvm.MethodName) ∈ tb := tb8 178 (by decide +kernel) (by decide +kernel)
theorem k_8_179 : Jvm.Cond.instanceMethod ({ cls := "FinderHouse", name := "forget", desc := "()I" } : Jvm.MethodName) ∈ tb := tb8 179 (by decide +kernel) (by decide +kernel)
theorem k_8_180 : Jvm.Cond.selects "FinderHouse" ({ cls := "FinderHouse", name := "forget", desc := "()I" } : Jvm.MethodName) ({ cls := "FinderHouse", name := "forget", desc := "()I" } : Jvm.MethodName) ∈ tb := tb8 180 (by decide +kernel) (by decide +kernel)
theorem dL_law_1160 : decode cL_law 1160 = .ok (.invokevirtual 187, 3) := by decide +kernel
theorem dL_law_1163 : decode cL_law 1163 = .ok (.aload_n 2, 1) := by decide +kernel
theorem k_15_216 : Jvm.Cond.code ({ cls := "FinderHouseModel", name := "forget", desc := "()I" } : Jvm.MethodName) prog_14_method_176_code (2 : Nat) (Option.some Jvm.ClassFile.FieldType.int) ∈ tb := tb15 216 (by decide +kernel) (by decide +kernel)
theorem k_15_213 : Jvm.Cond.methodLink "FinderHouseLaw" (190 : Nat) ({ cls := "FinderHouseModel", name := "forget", desc := "()I" } : Jvm.MethodName) ∈ tb := tb15 213 (by decide +kernel) (by decide +kernel)
theorem k_15_214 : Jvm.Cond.instanceMethod ({ cls := "FinderHouseModel", name := "forget", desc := "()I" } : Jvm.MethodName) ∈ tb := tb15 214 (by decide +kernel) (by decide +kernel)
theorem k_15_215 : Jvm.Cond.selects "FinderHouseModel" ({ cls := "FinderHouseModel", name := "forget", desc := "()I" } : Jvm.MethodName) ({ cls := "FinderHouseModel", name := "forget", desc := "()I" } : Jvm.MethodName) ∈ tb := tb15 215 (by decide +kernel) (by decide +kernel)
theorem dL_law_1164 : decode cL_law 1164 = .ok (.invokevirtual 190, 3) := by decide +kernel
theorem dL_law_1167 : decode cL_law 1167 = .ok (.if_icmp .eq 430, 3) := by decide +kernel
theorem dL_law_1172 : decode cL_law 1172 = .ok (.aload_n 1, 1) := by decide +kernel
theorem k_8_185 : Jvm.Cond.code ({ cls := "FinderHouse", name := "machine", desc := "()I" } : Jvm.MethodName) prog_1_method_52_code (1 : Nat) (Option.some Jvm.ClassFile.FieldType.int) ∈ tb := tb8 185 (by decide +kernel) (by decide +kernel)
theorem k_8_182 : Jvm.Cond.methodLink "FinderHouseLaw" (191 : Nat) ({ cls := "FinderHouse", name := "machine", desc := "()I" } : Jvm.MethodName) ∈ tb := tb8 182 (by decide +kernel) (by decide +kernel)
theorem k_8_183 : Jvm.Cond.instanceMethod ({ cls := "FinderHouse", name := "machine", desc := "()I" } : Jvm.MethodName) ∈ tb := tb8 183 (by decide +kernel) (by decide +kernel)
theorem k_8_184 : Jvm.Cond.selects "FinderHouse" ({ cls := "FinderHouse", name := "machine", desc := "()I" } : Jvm.MethodName) ({ cls := "FinderHouse", name := "machine", desc := "()I" } : Jvm.MethodName) ∈ tb := tb8 184 (by decide +kernel) (by decide +kernel)
theorem dL_law_1173 : decode cL_law 1173 = .ok (.invokevirtual 191, 3) := by decide +kernel
theorem dL_law_1176 : decode cL_law 1176 = .ok (.aload_n 2, 1) := by decide +kernel
theorem k_15_220 : Jvm.Cond.code ({ cls := "FinderHouseModel", name := "machine", desc := "()I" } : Jvm.MethodName) prog_14_method_179_code (4 : Nat) (Option.some Jvm.ClassFile.FieldType.int) ∈ tb := tb15 220 (by decide +kernel) (by decide +kernel)
theorem k_15_217 : Jvm.Cond.methodLink "FinderHouseLaw" (194 : Nat) ({ cls := "FinderHouseModel", name := "machine", desc := "()I" } : Jvm.MethodName) ∈ tb := tb15 217 (by decide +kernel) (by decide +kernel)
theorem k_15_218 : Jvm.Cond.instanceMethod ({ cls := "FinderHouseModel", name := "machine", desc := "()I" } : Jvm.MethodName) ∈ tb := tb15 218 (by decide +kernel) (by decide +kernel)
theorem k_15_219 : Jvm.Cond.selects "FinderHouseModel" ({ cls := "FinderHouseModel", name := "machine", desc := "()I" } : Jvm.MethodName) ({ cls := "FinderHouseModel", name := "machine", desc := "()I" } : Jvm.MethodName) ∈ tb := tb15 219 (by decide +kernel) (by decide +kernel)
theorem dL_law_1177 : decode cL_law 1177 = .ok (.invokevirtual 194, 3) := by decide +kernel
theorem dL_law_1180 : decode cL_law 1180 = .ok (.if_icmp .eq 417, 3) := by decide +kernel
theorem dL_law_1185 : decode cL_law 1185 = .ok (.aload_n 1, 1) := by decide +kernel
theorem dL_law_1186 : decode cL_law 1186 = .ok (.aload_n 0, 1) := by decide +kernel
theorem dL_law_1187 : decode cL_law 1187 = .ok (.iload 4, 2) := by decide +kernel
theorem dL_law_1189 : decode cL_law 1189 = .ok (.iconst 1, 1) := by decide +kernel
theorem dL_law_1190 : decode cL_law 1190 = .ok (.iadd, 1) := by decide +kernel
theorem dL_law_1191 : decode cL_law 1191 = .ok (.iaload, 1) := by decide +kernel
theorem dL_law_1192 : decode cL_law 1192 = .ok (.aload_n 0, 1) := by decide +kernel
theorem dL_law_1193 : decode cL_law 1193 = .ok (.iload 4, 2) := by decide +kernel
theorem dL_law_1195 : decode cL_law 1195 = .ok (.iconst 2, 1) := by decide +kernel
theorem dL_law_1196 : decode cL_law 1196 = .ok (.iadd, 1) := by decide +kernel
theorem dL_law_1197 : decode cL_law 1197 = .ok (.iaload, 1) := by decide +kernel
theorem k_8_213 : Jvm.Cond.code ({ cls := "FinderHouse", name := "state", desc := "(II)I" } : Jvm.MethodName) prog_1_method_53_code (3 : Nat) (Option.some Jvm.ClassFile.FieldType.int) ∈ tb := tb8 213 (by decide +kernel) (by decide +kernel)
theorem k_8_210 : Jvm.Cond.methodLink "FinderHouseLaw" (195 : Nat) ({ cls := "FinderHouse", name := "state", desc := "(II)I" } : Jvm.MethodName) ∈ tb := tb8 210 (by decide +kernel) (by decide +kernel)
theorem k_8_211 : Jvm.Cond.instanceMethod ({ cls := "FinderHouse", name := "state", desc := "(II)I" } : Jvm.MethodName) ∈ tb := tb8 211 (by decide +kernel) (by decide +kernel)
theorem k_8_212 : Jvm.Cond.selects "FinderHouse" ({ cls := "FinderHouse", name := "state", desc := "(II)I" } : Jvm.MethodName) ({ cls := "FinderHouse", name := "state", desc := "(II)I" } : Jvm.MethodName) ∈ tb := tb8 212 (by decide +kernel) (by decide +kernel)
theorem dL_law_1198 : decode cL_law 1198 = .ok (.invokevirtual 195, 3) := by decide +kernel
theorem dL_law_1201 : decode cL_law 1201 = .ok (.aload_n 2, 1) := by decide +kernel
theorem dL_law_1202 : decode cL_law 1202 = .ok (.aload_n 0, 1) := by decide +kernel
theorem dL_law_1203 : decode cL_law 1203 = .ok (.iload 4, 2) := by decide +kernel
theorem dL_law_1205 : decode cL_law 1205 = .ok (.iconst 1, 1) := by decide +kernel
theorem dL_law_1206 : decode cL_law 1206 = .ok (.iadd, 1) := by decide +kernel
theorem dL_law_1207 : decode cL_law 1207 = .ok (.iaload, 1) := by decide +kernel
theorem dL_law_1208 : decode cL_law 1208 = .ok (.aload_n 0, 1) := by decide +kernel
theorem dL_law_1209 : decode cL_law 1209 = .ok (.iload 4, 2) := by decide +kernel
theorem dL_law_1211 : decode cL_law 1211 = .ok (.iconst 2, 1) := by decide +kernel
theorem dL_law_1212 : decode cL_law 1212 = .ok (.iadd, 1) := by decide +kernel
theorem dL_law_1213 : decode cL_law 1213 = .ok (.iaload, 1) := by decide +kernel
theorem k_15_232 : Jvm.Cond.code ({ cls := "FinderHouseModel", name := "state", desc := "(II)I" } : Jvm.MethodName) prog_14_method_180_code (3 : Nat) (Option.some Jvm.ClassFile.FieldType.int) ∈ tb := tb15 232 (by decide +kernel) (by decide +kernel)
theorem k_15_229 : Jvm.Cond.methodLink "FinderHouseLaw" (198 : Nat) ({ cls := "FinderHouseModel", name := "state", desc := "(II)I" } : Jvm.MethodName) ∈ tb := tb15 229 (by decide +kernel) (by decide +kernel)
theorem k_15_230 : Jvm.Cond.instanceMethod ({ cls := "FinderHouseModel", name := "state", desc := "(II)I" } : Jvm.MethodName) ∈ tb := tb15 230 (by decide +kernel) (by decide +kernel)
theorem k_15_231 : Jvm.Cond.selects "FinderHouseModel" ({ cls := "FinderHouseModel", name := "state", desc := "(II)I" } : Jvm.MethodName) ({ cls := "FinderHouseModel", name := "state", desc := "(II)I" } : Jvm.MethodName) ∈ tb := tb15 231 (by decide +kernel) (by decide +kernel)
theorem dL_law_1214 : decode cL_law 1214 = .ok (.invokevirtual 198, 3) := by decide +kernel
theorem dL_law_1217 : decode cL_law 1217 = .ok (.if_icmp .eq 380, 3) := by decide +kernel
theorem dL_law_1222 : decode cL_law 1222 = .ok (.aload_n 1, 1) := by decide +kernel
theorem dL_law_1223 : decode cL_law 1223 = .ok (.aload_n 0, 1) := by decide +kernel
theorem dL_law_1224 : decode cL_law 1224 = .ok (.iload 4, 2) := by decide +kernel
theorem dL_law_1226 : decode cL_law 1226 = .ok (.iconst 1, 1) := by decide +kernel
theorem dL_law_1227 : decode cL_law 1227 = .ok (.iadd, 1) := by decide +kernel
theorem dL_law_1228 : decode cL_law 1228 = .ok (.iaload, 1) := by decide +kernel
theorem dL_law_1229 : decode cL_law 1229 = .ok (.i2l, 1) := by decide +kernel
theorem dL_law_1230 : decode cL_law 1230 = .ok (.bipush 32, 2) := by decide +kernel
theorem dL_law_1232 : decode cL_law 1232 = .ok (.lshl, 1) := by decide +kernel
theorem dL_law_1233 : decode cL_law 1233 = .ok (.aload_n 0, 1) := by decide +kernel
theorem dL_law_1234 : decode cL_law 1234 = .ok (.iload 4, 2) := by decide +kernel
theorem dL_law_1236 : decode cL_law 1236 = .ok (.iconst 2, 1) := by decide +kernel
theorem dL_law_1237 : decode cL_law 1237 = .ok (.iadd, 1) := by decide +kernel
theorem dL_law_1238 : decode cL_law 1238 = .ok (.iaload, 1) := by decide +kernel
theorem dL_law_1239 : decode cL_law 1239 = .ok (.i2l, 1) := by decide +kernel
theorem dL_law_1240 : decode cL_law 1240 = .ok (.ldc2_w 75, 3) := by decide +kernel
theorem dL_law_1243 : decode cL_law 1243 = .ok (.land, 1) := by decide +kernel
theorem dL_law_1244 : decode cL_law 1244 = .ok (.lor, 1) := by decide +kernel
theorem dL_law_1245 : decode cL_law 1245 = .ok (.aload_n 0, 1) := by decide +kernel
theorem dL_law_1246 : decode cL_law 1246 = .ok (.iload 4, 2) := by decide +kernel
theorem dL_law_1248 : decode cL_law 1248 = .ok (.iconst 3, 1) := by decide +kernel
theorem dL_law_1249 : decode cL_law 1249 = .ok (.iadd, 1) := by decide +kernel
theorem dL_law_1250 : decode cL_law 1250 = .ok (.iaload, 1) := by decide +kernel
theorem k_8_221 : Jvm.Cond.code ({ cls := "FinderHouse", name := "shortest", desc := "(JI)I" } : Jvm.MethodName) prog_1_method_54_code (4 : Nat) (Option.some Jvm.ClassFile.FieldType.int) ∈ tb := tb8 221 (by decide +kernel) (by decide +kernel)
theorem k_8_218 : Jvm.Cond.methodLink "FinderHouseLaw" (199 : Nat) ({ cls := "FinderHouse", name := "shortest", desc := "(JI)I" } : Jvm.MethodName) ∈ tb := tb8 218 (by decide +kernel) (by decide +kernel)
theorem k_8_219 : Jvm.Cond.instanceMethod ({ cls := "FinderHouse", name := "shortest", desc := "(JI)I" } : Jvm.MethodName) ∈ tb := tb8 219 (by decide +kernel) (by decide +kernel)
theorem k_8_220 : Jvm.Cond.selects "FinderHouse" ({ cls := "FinderHouse", name := "shortest", desc := "(JI)I" } : Jvm.MethodName) ({ cls := "FinderHouse", name := "shortest", desc := "(JI)I" } : Jvm.MethodName) ∈ tb := tb8 220 (by decide +kernel) (by decide +kernel)
theorem dL_law_1251 : decode cL_law 1251 = .ok (.invokevirtual 199, 3) := by decide +kernel
theorem dL_law_1254 : decode cL_law 1254 = .ok (.aload_n 2, 1) := by decide +kernel
theorem dL_law_1255 : decode cL_law 1255 = .ok (.aload_n 0, 1) := by decide +kernel
theorem dL_law_1256 : decode cL_law 1256 = .ok (.iload 4, 2) := by decide +kernel
theorem dL_law_1258 : decode cL_law 1258 = .ok (.iconst 1, 1) := by decide +kernel
theorem dL_law_1259 : decode cL_law 1259 = .ok (.iadd, 1) := by decide +kernel
theorem dL_law_1260 : decode cL_law 1260 = .ok (.iaload, 1) := by decide +kernel
theorem dL_law_1261 : decode cL_law 1261 = .ok (.i2l, 1) := by decide +kernel
theorem dL_law_1262 : decode cL_law 1262 = .ok (.bipush 32, 2) := by decide +kernel
theorem dL_law_1264 : decode cL_law 1264 = .ok (.lshl, 1) := by decide +kernel
theorem dL_law_1265 : decode cL_law 1265 = .ok (.aload_n 0, 1) := by decide +kernel
theorem dL_law_1266 : decode cL_law 1266 = .ok (.iload 4, 2) := by decide +kernel
theorem dL_law_1268 : decode cL_law 1268 = .ok (.iconst 2, 1) := by decide +kernel
theorem dL_law_1269 : decode cL_law 1269 = .ok (.iadd, 1) := by decide +kernel
theorem dL_law_1270 : decode cL_law 1270 = .ok (.iaload, 1) := by decide +kernel
theorem dL_law_1271 : decode cL_law 1271 = .ok (.i2l, 1) := by decide +kernel
theorem dL_law_1272 : decode cL_law 1272 = .ok (.ldc2_w 75, 3) := by decide +kernel
theorem dL_law_1275 : decode cL_law 1275 = .ok (.land, 1) := by decide +kernel
theorem dL_law_1276 : decode cL_law 1276 = .ok (.lor, 1) := by decide +kernel
theorem dL_law_1277 : decode cL_law 1277 = .ok (.aload_n 0, 1) := by decide +kernel
theorem dL_law_1278 : decode cL_law 1278 = .ok (.iload 4, 2) := by decide +kernel
theorem dL_law_1280 : decode cL_law 1280 = .ok (.iconst 3, 1) := by decide +kernel
theorem dL_law_1281 : decode cL_law 1281 = .ok (.iadd, 1) := by decide +kernel
theorem dL_law_1282 : decode cL_law 1282 = .ok (.iaload, 1) := by decide +kernel
theorem k_15_236 : Jvm.Cond.code ({ cls := "FinderHouseModel", name := "shortest", desc := "(JI)I" } : Jvm.MethodName) prog_14_method_195_code (6 : Nat) (Option.some Jvm.ClassFile.FieldType.int) ∈ tb := tb15 236 (by decide +kernel) (by decide +kernel)
theorem k_15_233 : Jvm.Cond.methodLink "FinderHouseLaw" (203 : Nat) ({ cls := "FinderHouseModel", name := "shortest", desc := "(JI)I" } : Jvm.MethodName) ∈ tb := tb15 233 (by decide +kernel) (by decide +kernel)
theorem k_15_234 : Jvm.Cond.instanceMethod ({ cls := "FinderHouseModel", name := "shortest", desc := "(JI)I" } : Jvm.MethodName) ∈ tb := tb15 234 (by decide +kernel) (by decide +kernel)
theorem k_15_235 : Jvm.Cond.selects "FinderHouseModel" ({ cls := "FinderHouseModel", name := "shortest", desc := "(JI)I" } : Jvm.MethodName) ({ cls := "FinderHouseModel", name := "shortest", desc := "(JI)I" } : Jvm.MethodName) ∈ tb := tb15 235 (by decide +kernel) (by decide +kernel)
theorem dL_law_1283 : decode cL_law 1283 = .ok (.invokevirtual 203, 3) := by decide +kernel
theorem dL_law_1286 : decode cL_law 1286 = .ok (.if_icmp .eq 311, 3) := by decide +kernel
theorem dL_law_1291 : decode cL_law 1291 = .ok (.aload_n 1, 1) := by decide +kernel
theorem dL_law_1292 : decode cL_law 1292 = .ok (.aload_n 0, 1) := by decide +kernel
theorem dL_law_1293 : decode cL_law 1293 = .ok (.iload 4, 2) := by decide +kernel
theorem dL_law_1295 : decode cL_law 1295 = .ok (.iconst 1, 1) := by decide +kernel
theorem dL_law_1296 : decode cL_law 1296 = .ok (.iadd, 1) := by decide +kernel
theorem dL_law_1297 : decode cL_law 1297 = .ok (.iaload, 1) := by decide +kernel
theorem k_9_18 : Jvm.Cond.code ({ cls := "FinderHouse", name := "step", desc := "(I)I" } : Jvm.MethodName) prog_1_method_55_code (2 : Nat) (Option.some Jvm.ClassFile.FieldType.int) ∈ tb := tb9 18 (by decide +kernel) (by decide +kernel)
theorem k_9_15 : Jvm.Cond.methodLink "FinderHouseLaw" (204 : Nat) ({ cls := "FinderHouse", name := "step", desc := "(I)I" } : Jvm.MethodName) ∈ tb := tb9 15 (by decide +kernel) (by decide +kernel)
theorem k_9_16 : Jvm.Cond.instanceMethod ({ cls := "FinderHouse", name := "step", desc := "(I)I" } : Jvm.MethodName) ∈ tb := tb9 16 (by decide +kernel) (by decide +kernel)
theorem k_9_17 : Jvm.Cond.selects "FinderHouse" ({ cls := "FinderHouse", name := "step", desc := "(I)I" } : Jvm.MethodName) ({ cls := "FinderHouse", name := "step", desc := "(I)I" } : Jvm.MethodName) ∈ tb := tb9 17 (by decide +kernel) (by decide +kernel)
theorem dL_law_1298 : decode cL_law 1298 = .ok (.invokevirtual 204, 3) := by decide +kernel
theorem dL_law_1301 : decode cL_law 1301 = .ok (.aload_n 2, 1) := by decide +kernel
theorem dL_law_1302 : decode cL_law 1302 = .ok (.aload_n 0, 1) := by decide +kernel
theorem dL_law_1303 : decode cL_law 1303 = .ok (.iload 4, 2) := by decide +kernel
theorem dL_law_1305 : decode cL_law 1305 = .ok (.iconst 1, 1) := by decide +kernel
theorem dL_law_1306 : decode cL_law 1306 = .ok (.iadd, 1) := by decide +kernel
theorem dL_law_1307 : decode cL_law 1307 = .ok (.iaload, 1) := by decide +kernel
theorem k_16_50 : Jvm.Cond.code ({ cls := "FinderHouseModel", name := "step", desc := "(I)I" } : Jvm.MethodName) prog_14_method_196_code (2 : Nat) (Option.some Jvm.ClassFile.FieldType.int) ∈ tb := tb16 50 (by decide +kernel) (by decide +kernel)
theorem k_16_47 : Jvm.Cond.methodLink "FinderHouseLaw" (207 : Nat) ({ cls := "FinderHouseModel", name := "step", desc := "(I)I" } : Jvm.MethodName) ∈ tb := tb16 47 (by decide +kernel) (by decide +kernel)
theorem k_16_48 : Jvm.Cond.instanceMethod ({ cls := "FinderHouseModel", name := "step", desc := "(I)I" } : Jvm.MethodName) ∈ tb := tb16 48 (by decide +kernel) (by decide +kernel)
theorem k_16_49 : Jvm.Cond.selects "FinderHouseModel" ({ cls := "FinderHouseModel", name := "step", desc := "(I)I" } : Jvm.MethodName) ({ cls := "FinderHouseModel", name := "step", desc := "(I)I" } : Jvm.MethodName) ∈ tb := tb16 49 (by decide +kernel) (by decide +kernel)
theorem dL_law_1308 : decode cL_law 1308 = .ok (.invokevirtual 207, 3) := by decide +kernel
theorem dL_law_1311 : decode cL_law 1311 = .ok (.if_icmp .eq 286, 3) := by decide +kernel
set_option maxHeartbeats 4000000 in
set_option maxRecDepth 100000 in
theorem lw_c35 {p : Program} {e : Env} {s : State} {m : MethodId} {below : List Frame} {meth : Method} {c : Code} (l : Launch) {b : Nat} {xs : Nat → Int32} (C0 : lw_At p s m meth c b 6 xs) (dC : Nat → ClassId) (dI : Nat → Nat → Nat) {A : Nat → Prop} (hA : ∀ q : Nat, s.heap.size ≤ q → A q) (hA2 : ∀ q : Nat, A q → s.heap.size ≤ q) (xq : Nat) (xfs1 : List Value) (xma : Nat) (xgm : List Value) (mq : Nat) (mfs1 : List Value) (ou : Nat) {H : Heap} {locs : List Loc} {ls : Array Slot} (hK : va_K (dC, dI) cls [] s) (hP : va_P (dC, dI) cls [(xq, .inr (11, xfs1)), (xma, .inr (5, xgm)), (mq, .inr (15, mfs1))] H) (hD : va_D A [(xq, .inr (11, xfs1)), (xma, .inr (5, xgm)), (mq, .inr (15, mfs1))]) (hS : va_S A s.heap H locs) (hl : lv_has ls 7 [(4, .int 0), (3, .ref ou), (2, .ref mq), (1, .ref xq), (0, .ref b)]) (L_xfs1 : xfs1.length = 18) (K2_xfs1 : xfs1[2]? = some (.int 0)) (K16_xfs1 : xfs1[16]? = some (.ref xma)) (L_xgm : xgm.length = 15) (K0_xgm : xgm[0]? = some (.int 0)) (L_mfs1 : mfs1.length = 163) (K54_mfs1 : mfs1[54]? = some (.int 0)) (K128_mfs1 : mfs1[128]? = some (.int 0)) : W p l e room_1 s m #[Value.ref b] below meth c H locs 951 1458901 (lw_Z below #[Value.ref b] s) (F0 m 1159 ls []) := by
  obtain ⟨hx, hb, hr, hml, hown, hts, hX, hbl, hlocks, hgv⟩ := id C0
  have hown : s.vm.findClass RL = some m.cls := hown
  have ht : ∀ w ∈ tb, w.before #[Value.ref b] s = true := fun w hw => hts w (List.mem_filter.mp hw).1
  have hbA : ¬ A b := fun h => absurd (hA2 _ h) (Nat.not_le.mpr hbl)
  refine lv_aload_n hx hb dL_law_1159 rfl (lv_at hl 3 rfl) ?_
  refine ca_i (wr := [(mq, .inr (15, mfs1))]) (va_runV (As := []) (rest := []) ⟨hx, hb, hml, hown, ht⟩ (x_forget l dC dI H.size xq xfs1 xma xgm L_xfs1 K2_xfs1 K16_xfs1 L_xgm K0_xgm ) (cwV 0 ht (gdV k_8_181 k_8_178 k_8_179 k_8_180 k_1_1) rfl rfl rfl (by decide +kernel) ⟨Nat.le_of_ble_eq_true rfl, Nat.le_of_ble_eq_true rfl⟩) ⟨pcw_blind, va_recv hK hP (ci := 11) (q0 := 0) rfl rfl, pcw_at hP hD hK [0, 1] [] (by decide) rfl rfl rfl⟩ rfl rfl hl.1 rfl (lv_room (Nat.le_of_ble_eq_true rfl)) dL_law_1160 ⟨Nat.le_of_ble_eq_true rfl, Nat.le_of_ble_eq_true rfl⟩) hP hD hK hS hA [0, 1] [2] rfl rfl (by decide) (by decide) (fun r_1 u H locs w_2 hK hP hD hS => ?_)
  have hK : va_K (dC, dI) cls [] s := hK
  have hP : va_P (dC, dI) cls [(mq, .inr (15, mfs1))] H := hP
  have hD : va_D A [(mq, .inr (15, mfs1))] := hD
  obtain rfl : r_1 = 0 := w_2
  refine lv_aload_n hx hb dL_law_1163 rfl (lv_at hl 2 rfl) ?_
  refine ca_i (wr := []) (va_runV (As := []) (rest := [.int 0]) ⟨hx, hb, hml, hown, ht⟩ (r_forget l dC dI H.size mq mfs1 L_mfs1 K54_mfs1 K128_mfs1 ) (cwV 0 ht (gdV k_15_216 k_15_213 k_15_214 k_15_215 k_1_17) rfl rfl rfl (by decide +kernel) ⟨Nat.le_of_ble_eq_true rfl, Nat.le_of_ble_eq_true rfl⟩) ⟨pcw_blind, va_recv hK hP (ci := 15) (q0 := 0) rfl rfl, pcw_at hP hD hK [0] [] (by decide) rfl rfl rfl⟩ rfl rfl hl.1 rfl (lv_room (Nat.le_of_ble_eq_true rfl)) dL_law_1164 ⟨Nat.le_of_ble_eq_true rfl, Nat.le_of_ble_eq_true rfl⟩) hP hD hK hS hA [0] [] rfl rfl (by decide) (by decide) (fun r_3 u H locs w_4 hK hP hD hS => ?_)
  have hK : va_K (dC, dI) cls [] s := hK
  have hP : va_P (dC, dI) cls [] H := hP
  have hD : va_D A [] := hD
  obtain rfl : r_3 = 0 := w_4
  refine lv_icmp_eq (tgt := 1597) hx hb dL_law_1167 (by decide) (fun _ => ?_) (fun c0 => absurd c0 (by decide))
  exact lw_tail l C0 hA2 hS (lv_sub hl [0, 4] rfl) (Nat.le_of_ble_eq_true rfl) (Nat.le_of_ble_eq_true rfl)
set_option maxHeartbeats 4000000 in
set_option maxRecDepth 100000 in
theorem lw_c36 {p : Program} {e : Env} {s : State} {m : MethodId} {below : List Frame} {meth : Method} {c : Code} (l : Launch) {b : Nat} {xs : Nat → Int32} (C0 : lw_At p s m meth c b 6 xs) (dC : Nat → ClassId) (dI : Nat → Nat → Nat) {A : Nat → Prop} (hA : ∀ q : Nat, s.heap.size ≤ q → A q) (hA2 : ∀ q : Nat, A q → s.heap.size ≤ q) (xq : Nat) (xfs1 : List Value) (xma : Nat) (xgm : List Value) (xld : Nat) (xcD : ClassId) (xfd : Nat → Int32) (xtr : Nat) (xcR : ClassId) (xfr : Nat → Int32) (mq : Nat) (mfs1 : List Value) (mtr : Nat) (mc6 : ClassId) (mf6 : Nat → Int32) (mmu : Nat) (mc7 : ClassId) (mf7 : Nat → Int32) (mmc : Nat) (mc8 : ClassId) (mf8 : Nat → Int32) (mgo : Nat) (mc9 : ClassId) (mf9 : Nat → Int32) (ou : Nat) {H : Heap} {locs : List Loc} {ls : Array Slot} (hK : va_K (dC, dI) cls [(xcD, .int), (xcR, .int), (mc6, .int), (mc7, .int), (mc8, .int), (mc9, .boolean)] s) (hP : va_P (dC, dI) cls [(xq, .inr (11, xfs1)), (xma, .inr (5, xgm)), (xld, .inl (xcD, 10, .inl xfd)), (xtr, .inl (xcR, 10, .inl xfr)), (mq, .inr (15, mfs1)), (mtr, .inl (mc6, 10, .inl mf6)), (mmu, .inl (mc7, 5, .inl mf7)), (mmc, .inl (mc8, 10, .inl mf8)), (mgo, .inl (mc9, 5, .inl mf9))] H) (hD : va_D A [(xq, .inr (11, xfs1)), (xma, .inr (5, xgm)), (xld, .inl (xcD, 10, .inl xfd)), (xtr, .inl (xcR, 10, .inl xfr)), (mq, .inr (15, mfs1)), (mtr, .inl (mc6, 10, .inl mf6)), (mmu, .inl (mc7, 5, .inl mf7)), (mmc, .inl (mc8, 10, .inl mf8)), (mgo, .inl (mc9, 5, .inl mf9))]) (hS : va_S A s.heap H locs) (hl : lv_has ls 7 [(4, .int 0), (3, .ref ou), (2, .ref mq), (1, .ref xq), (0, .ref b)]) (L_xfs1 : xfs1.length = 18) (K2_xfs1 : xfs1[2]? = some (.int 0)) (K16_xfs1 : xfs1[16]? = some (.ref xma)) (L_xgm : xgm.length = 15) (K0_xgm : xgm[0]? = some (.int 0)) (K5_xgm : xgm[5]? = some (.ref xld)) (K9_xgm : xgm[9]? = some (.ref xtr)) (L_mfs1 : mfs1.length = 163) (K54_mfs1 : mfs1[54]? = some (.int 0)) (K128_mfs1 : mfs1[128]? = some (.int 0)) (K132_mfs1 : mfs1[132]? = some (.ref mtr)) (K133_mfs1 : mfs1[133]? = some (.ref mmu)) (K135_mfs1 : mfs1[135]? = some (.ref mmc)) (K136_mfs1 : mfs1[136]? = some (.ref mgo)) : W p l e room_1 s m #[Value.ref b] below meth c H locs 951 1458901 (lw_Z below #[Value.ref b] s) (F0 m 1172 ls []) := by
  obtain ⟨hx, hb, hr, hml, hown, hts, hX, hbl, hlocks, hgv⟩ := id C0
  have hown : s.vm.findClass RL = some m.cls := hown
  have ht : ∀ w ∈ tb, w.before #[Value.ref b] s = true := fun w hw => hts w (List.mem_filter.mp hw).1
  have hbA : ¬ A b := fun h => absurd (hA2 _ h) (Nat.not_le.mpr hbl)
  refine lv_aload_n hx hb dL_law_1172 rfl (lv_at hl 3 rfl) ?_
  refine ca_i (wr := [(mq, .inr (15, mfs1)), (mtr, .inl (mc6, 10, .inl mf6)), (mmu, .inl (mc7, 5, .inl mf7)), (mmc, .inl (mc8, 10, .inl mf8)), (mgo, .inl (mc9, 5, .inl mf9))]) (va_runV (As := []) (rest := []) ⟨hx, hb, hml, hown, ht⟩ (x_machine l dC dI H.size xq xfs1 xma xgm xtr xcR xfr xld xcD xfd L_xfs1 K2_xfs1 K16_xfs1 L_xgm K0_xgm K5_xgm K9_xgm ) (cwV 0 ht (gdV k_8_185 k_8_182 k_8_183 k_8_184 k_1_1) rfl rfl rfl (by decide +kernel) ⟨Nat.le_of_ble_eq_true rfl, Nat.le_of_ble_eq_true rfl⟩) ⟨pcw_blind, va_recv hK hP (ci := 11) (q0 := 0) rfl rfl, pcw_at hP hD hK [0, 1, 3, 2] [1, 0] (by decide) rfl rfl rfl⟩ rfl rfl hl.1 rfl (lv_room (Nat.le_of_ble_eq_true rfl)) dL_law_1173 ⟨Nat.le_of_ble_eq_true rfl, Nat.le_of_ble_eq_true rfl⟩) hP hD hK hS hA [0, 1, 3, 2] [4, 5, 6, 7, 8] rfl rfl (by decide) (by decide) (fun r_1 u H locs w_2 hK hP hD hS => ?_)
  have hK : va_K (dC, dI) cls [(xcD, .int), (xcR, .int), (mc6, .int), (mc7, .int), (mc8, .int), (mc9, .boolean)] s := hK
  have hP : va_P (dC, dI) cls [(mq, .inr (15, mfs1)), (mtr, .inl (mc6, 10, .inl mf6)), (mmu, .inl (mc7, 5, .inl mf7)), (mmc, .inl (mc8, 10, .inl mf8)), (mgo, .inl (mc9, 5, .inl mf9))] H := hP
  have hD : va_D A [(mq, .inr (15, mfs1)), (mtr, .inl (mc6, 10, .inl mf6)), (mmu, .inl (mc7, 5, .inl mf7)), (mmc, .inl (mc8, 10, .inl mf8)), (mgo, .inl (mc9, 5, .inl mf9))] := hD
  obtain rfl : r_1 = 1 := w_2
  refine lv_aload_n hx hb dL_law_1176 rfl (lv_at hl 2 rfl) ?_
  refine ca_i (wr := []) (va_runV (As := []) (rest := [.int 1]) ⟨hx, hb, hml, hown, ht⟩ (r_machine l dC dI H.size mq mfs1 mtr mmu mmc mgo mc6 mf6 mc7 mf7 mc8 mf8 mc9 mf9 L_mfs1 K54_mfs1 K128_mfs1 K132_mfs1 K133_mfs1 K135_mfs1 K136_mfs1 ) (cwV 0 ht (gdV k_15_220 k_15_217 k_15_218 k_15_219 k_1_17) rfl rfl rfl (by decide +kernel) ⟨Nat.le_of_ble_eq_true rfl, Nat.le_of_ble_eq_true rfl⟩) ⟨pcw_blind, va_recv hK hP (ci := 15) (q0 := 0) rfl rfl, pcw_at hP hD hK [0, 1, 2, 3, 4] [2, 3, 4, 5] (by decide) rfl rfl rfl⟩ rfl rfl hl.1 rfl (lv_room (Nat.le_of_ble_eq_true rfl)) dL_law_1177 ⟨Nat.le_of_ble_eq_true rfl, Nat.le_of_ble_eq_true rfl⟩) hP hD hK hS hA [0, 1, 2, 3, 4] [] rfl rfl (by decide) (by decide) (fun r_3 u H locs w_4 hK hP hD hS => ?_)
  have hK : va_K (dC, dI) cls [(xcD, .int), (xcR, .int), (mc6, .int), (mc7, .int), (mc8, .int), (mc9, .boolean)] s := hK
  have hP : va_P (dC, dI) cls [] H := hP
  have hD : va_D A [] := hD
  obtain rfl : r_3 = 1 := w_4
  refine lv_icmp_eq (tgt := 1597) hx hb dL_law_1180 (by decide) (fun _ => ?_) (fun c0 => absurd c0 (by decide))
  exact lw_tail l C0 hA2 hS (lv_sub hl [0, 4] rfl) (Nat.le_of_ble_eq_true rfl) (Nat.le_of_ble_eq_true rfl)
set_option maxHeartbeats 4000000 in
set_option maxRecDepth 100000 in
theorem lw_c37 {p : Program} {e : Env} {s : State} {m : MethodId} {below : List Frame} {meth : Method} {c : Code} (l : Launch) {b : Nat} {xs : Nat → Int32} (C0 : lw_At p s m meth c b 6 xs) (dC : Nat → ClassId) (dI : Nat → Nat → Nat) {A : Nat → Prop} (hA : ∀ q : Nat, s.heap.size ≤ q → A q) (hA2 : ∀ q : Nat, A q → s.heap.size ≤ q) (xq : Nat) (xfs1 : List Value) (xma : Nat) (xgm : List Value) (mq : Nat) (mfs1 : List Value) (ou : Nat) {H : Heap} {locs : List Loc} {ls : Array Slot} (hK : va_K (dC, dI) cls [] s) (hP : va_P (dC, dI) cls [(xq, .inr (11, xfs1)), (xma, .inr (5, xgm)), (mq, .inr (15, mfs1))] H) (hD : va_D A [(xq, .inr (11, xfs1)), (xma, .inr (5, xgm)), (mq, .inr (15, mfs1))]) (hS : va_S A s.heap H locs) (hl : lv_has ls 7 [(4, .int 0), (3, .ref ou), (2, .ref mq), (1, .ref xq), (0, .ref b)]) (L_xfs1 : xfs1.length = 18) (K16_xfs1 : xfs1[16]? = some (.ref xma)) (L_xgm : xgm.length = 15) (K4_xgm : xgm[4]? = some (.int 0)) (L_mfs1 : mfs1.length = 163) (K54_mfs1 : mfs1[54]? = some (.int 0)) (K134_mfs1 : mfs1[134]? = some (.int 0)) : W p l e room_1 s m #[Value.ref b] below meth c H locs 951 1458901 (lw_Z below #[Value.ref b] s) (F0 m 1185 ls []) := by
  obtain ⟨hx, hb, hr, hml, hown, hts, hX, hbl, hlocks, hgv⟩ := id C0
  have hown : s.vm.findClass RL = some m.cls := hown
  have ht : ∀ w ∈ tb, w.before #[Value.ref b] s = true := fun w hw => hts w (List.mem_filter.mp hw).1
  have hbA : ¬ A b := fun h => absurd (hA2 _ h) (Nat.not_le.mpr hbl)
  refine lv_aload_n hx hb dL_law_1185 rfl (lv_at hl 3 rfl) ?_
  refine lv_aload_n hx hb dL_law_1186 rfl (lv_at hl 4 rfl) ?_
  refine lv_iload hx hb dL_law_1187 (lv_at hl 0 rfl) ?_
  refine lv_iconst (v := 1) hx hb dL_law_1189 (by decide) ?_
  refine lv_iadd hx hb dL_law_1190 ?_
  refine tk_i (y := 1) (by decide) ?_
  refine va_sld hx hb hX hbl hbA hS (by unfold vp_in; decide) dL_law_1191 ?_
  refine tk_i (y := (xs 1)) rfl ?_
  refine lv_aload_n hx hb dL_law_1192 rfl (lv_at hl 4 rfl) ?_
  refine lv_iload hx hb dL_law_1193 (lv_at hl 0 rfl) ?_
  refine lv_iconst (v := 2) hx hb dL_law_1195 (by decide) ?_
  refine lv_iadd hx hb dL_law_1196 ?_
  refine tk_i (y := 2) (by decide) ?_
  refine va_sld hx hb hX hbl hbA hS (by unfold vp_in; decide) dL_law_1197 ?_
  refine tk_i (y := (xs 2)) rfl ?_
  refine ca_i (wr := [(mq, .inr (15, mfs1))]) (va_runV (As := [.int (xs 1), .int (xs 2)]) (rest := []) ⟨hx, hb, hml, hown, ht⟩ (x_state l dC dI H.size xq xfs1 xma xgm (xs 1) (xs 2) L_xfs1 K16_xfs1 L_xgm K4_xgm ) (cwV 2 ht (gdV k_8_213 k_8_210 k_8_211 k_8_212 k_1_1) rfl rfl rfl (by decide +kernel) ⟨Nat.le_of_ble_eq_true rfl, Nat.le_of_ble_eq_true rfl⟩) ⟨pcw_blind, va_recv hK hP (ci := 11) (q0 := 0) rfl rfl, pcw_at hP hD hK [0, 1] [] (by decide) rfl rfl rfl⟩ rfl rfl hl.1 rfl (lv_room (Nat.le_of_ble_eq_true rfl)) dL_law_1198 ⟨Nat.le_of_ble_eq_true rfl, Nat.le_of_ble_eq_true rfl⟩) hP hD hK hS hA [0, 1] [2] rfl rfl (by decide) (by decide) (fun r_1 u H locs w_2 hK hP hD hS => ?_)
  have hK : va_K (dC, dI) cls [] s := hK
  have hP : va_P (dC, dI) cls [(mq, .inr (15, mfs1))] H := hP
  have hD : va_D A [(mq, .inr (15, mfs1))] := hD
  obtain rfl : r_1 = (-1) := w_2
  refine lv_aload_n hx hb dL_law_1201 rfl (lv_at hl 2 rfl) ?_
  refine lv_aload_n hx hb dL_law_1202 rfl (lv_at hl 4 rfl) ?_
  refine lv_iload hx hb dL_law_1203 (lv_at hl 0 rfl) ?_
  refine lv_iconst (v := 1) hx hb dL_law_1205 (by decide) ?_
  refine lv_iadd hx hb dL_law_1206 ?_
  refine tk_i (y := 1) (by decide) ?_
  refine va_sld hx hb hX hbl hbA hS (by unfold vp_in; decide) dL_law_1207 ?_
  refine tk_i (y := (xs 1)) rfl ?_
  refine lv_aload_n hx hb dL_law_1208 rfl (lv_at hl 4 rfl) ?_
  refine lv_iload hx hb dL_law_1209 (lv_at hl 0 rfl) ?_
  refine lv_iconst (v := 2) hx hb dL_law_1211 (by decide) ?_
  refine lv_iadd hx hb dL_law_1212 ?_
  refine tk_i (y := 2) (by decide) ?_
  refine va_sld hx hb hX hbl hbA hS (by unfold vp_in; decide) dL_law_1213 ?_
  refine tk_i (y := (xs 2)) rfl ?_
  refine ca_i (wr := []) (va_runV (As := [.int (xs 1), .int (xs 2)]) (rest := [.int (-1)]) ⟨hx, hb, hml, hown, ht⟩ (r_state l dC dI H.size mq mfs1 (xs 1) (xs 2) L_mfs1 K54_mfs1 K134_mfs1 ) (cwV 2 ht (gdV k_15_232 k_15_229 k_15_230 k_15_231 k_1_17) rfl rfl rfl (by decide +kernel) ⟨Nat.le_of_ble_eq_true rfl, Nat.le_of_ble_eq_true rfl⟩) ⟨pcw_blind, va_recv hK hP (ci := 15) (q0 := 0) rfl rfl, pcw_at hP hD hK [0] [] (by decide) rfl rfl rfl⟩ rfl rfl hl.1 rfl (lv_room (Nat.le_of_ble_eq_true rfl)) dL_law_1214 ⟨Nat.le_of_ble_eq_true rfl, Nat.le_of_ble_eq_true rfl⟩) hP hD hK hS hA [0] [] rfl rfl (by decide) (by decide) (fun r_3 u H locs w_4 hK hP hD hS => ?_)
  have hK : va_K (dC, dI) cls [] s := hK
  have hP : va_P (dC, dI) cls [] H := hP
  have hD : va_D A [] := hD
  obtain rfl : r_3 = (-1) := w_4
  refine lv_icmp_eq (tgt := 1597) hx hb dL_law_1217 (by decide) (fun _ => ?_) (fun c0 => absurd c0 (by decide))
  exact lw_tail l C0 hA2 hS (lv_sub hl [0, 4] rfl) (Nat.le_of_ble_eq_true rfl) (Nat.le_of_ble_eq_true rfl)
set_option maxHeartbeats 4000000 in
set_option maxRecDepth 100000 in
theorem lw_c38 {p : Program} {e : Env} {s : State} {m : MethodId} {below : List Frame} {meth : Method} {c : Code} (l : Launch) {b : Nat} {xs : Nat → Int32} (C0 : lw_At p s m meth c b 6 xs) (dC : Nat → ClassId) (dI : Nat → Nat → Nat) {A : Nat → Prop} (hA : ∀ q : Nat, s.heap.size ≤ q → A q) (hA2 : ∀ q : Nat, A q → s.heap.size ≤ q) (xq : Nat) (xfs1 : List Value) (xma : Nat) (xgm : List Value) (xrw : Nat) (xcE : ClassId) (xfe : Nat → Int32) (xpa : Nat) (xcP : ClassId) (xfp : Nat → Int64) (xpb : Nat) (xcQ : ClassId) (xfq : Nat → Int64) (mq : Nat) (mfs1 : List Value) (mse : Nat) (mc10 : ClassId) (mf10 : Nat → Int32) (mlv : Nat) (mc11 : ClassId) (ou : Nat) {H : Heap} {locs : List Loc} {ls : Array Slot} (hK : va_K (dC, dI) cls [(xcE, .int), (xcP, .long), (xcQ, .long), (mc10, .int), (mc11, .int)] s) (hP : va_P (dC, dI) cls [(xq, .inr (11, xfs1)), (xma, .inr (5, xgm)), (xrw, .inl (xcE, 5, .inl xfe)), (xpa, .inl (xcP, 6, .inr (.inl xfp))), (xpb, .inl (xcQ, 6, .inr (.inl xfq))), (mq, .inr (15, mfs1)), (mse, .inl (mc10, 5, .inl mf10)), (mlv, .inl (mc11, 6, .inl (fun _ => 0)))] H) (hD : va_D A [(xq, .inr (11, xfs1)), (xma, .inr (5, xgm)), (xrw, .inl (xcE, 5, .inl xfe)), (xpa, .inl (xcP, 6, .inr (.inl xfp))), (xpb, .inl (xcQ, 6, .inr (.inl xfq))), (mq, .inr (15, mfs1)), (mse, .inl (mc10, 5, .inl mf10)), (mlv, .inl (mc11, 6, .inl (fun _ => 0)))]) (hS : va_S A s.heap H locs) (hl : lv_has ls 7 [(4, .int 0), (3, .ref ou), (2, .ref mq), (1, .ref xq), (0, .ref b)]) (L_xfs1 : xfs1.length = 18) (K2_xfs1 : xfs1[2]? = some (.int 0)) (K16_xfs1 : xfs1[16]? = some (.ref xma)) (L_xgm : xgm.length = 15) (K10_xgm : xgm[10]? = some (.ref xrw)) (K12_xgm : xgm[12]? = some (.ref xpa)) (K13_xgm : xgm[13]? = some (.ref xpb)) (L_mfs1 : mfs1.length = 163) (K54_mfs1 : mfs1[54]? = some (.int 0)) (K145_mfs1 : mfs1[145]? = some (.int 0)) (K146_mfs1 : mfs1[146]? = some (.int 0)) (K152_mfs1 : mfs1[152]? = some (.int 0)) (K141_mfs1 : mfs1[141]? = some (.null)) (K142_mfs1 : mfs1[142]? = some (.null)) (K143_mfs1 : mfs1[143]? = some (.null)) (K144_mfs1 : mfs1[144]? = some (.null)) (K148_mfs1 : mfs1[148]? = some (.null)) (K151_mfs1 : mfs1[151]? = some (.null)) (K138_mfs1 : mfs1[138]? = some (.ref mse)) (K147_mfs1 : mfs1[147]? = some (.ref mlv)) : W p l e room_1 s m #[Value.ref b] below meth c H locs 951 1458901 (lw_Z below #[Value.ref b] s) (F0 m 1222 ls []) := by
  obtain ⟨hx, hb, hr, hml, hown, hts, hX, hbl, hlocks, hgv⟩ := id C0
  have hown : s.vm.findClass RL = some m.cls := hown
  have ht : ∀ w ∈ tb, w.before #[Value.ref b] s = true := fun w hw => hts w (List.mem_filter.mp hw).1
  have hbA : ¬ A b := fun h => absurd (hA2 _ h) (Nat.not_le.mpr hbl)
  refine lv_aload_n hx hb dL_law_1222 rfl (lv_at hl 3 rfl) ?_
  refine lv_aload_n hx hb dL_law_1223 rfl (lv_at hl 4 rfl) ?_
  refine lv_iload hx hb dL_law_1224 (lv_at hl 0 rfl) ?_
  refine lv_iconst (v := 1) hx hb dL_law_1226 (by decide) ?_
  refine lv_iadd hx hb dL_law_1227 ?_
  refine tk_i (y := 1) (by decide) ?_
  refine va_sld hx hb hX hbl hbA hS (by unfold vp_in; decide) dL_law_1228 ?_
  refine tk_i (y := (xs 1)) rfl ?_
  refine lv_i2l hx hb dL_law_1229 rfl ?_
  refine tk_l (y := (xs 1).toInt64) rfl ?_
  refine lv_bipush (v := 32) hx hb dL_law_1230 (by decide) ?_
  refine lv_lshl hx hb dL_law_1232 rfl ?_
  refine tk_l (y := (((xs 1).toInt64) <<< ((32 : Int32).toInt64 &&& 63))) rfl ?_
  refine lv_aload_n hx hb dL_law_1233 rfl (lv_at hl 4 rfl) ?_
  refine lv_iload hx hb dL_law_1234 (lv_at hl 0 rfl) ?_
  refine lv_iconst (v := 2) hx hb dL_law_1236 (by decide) ?_
  refine lv_iadd hx hb dL_law_1237 ?_
  refine tk_i (y := 2) (by decide) ?_
  refine va_sld hx hb hX hbl hbA hS (by unfold vp_in; decide) dL_law_1238 ?_
  refine tk_i (y := (xs 2)) rfl ?_
  refine lv_i2l hx hb dL_law_1239 rfl ?_
  refine tk_l (y := (xs 2).toInt64) rfl ?_
  refine lv_ldc2 (v := 4294967295) hx hb hown (ht _ k_16_113) dL_law_1240 ?_
  refine lv_land hx hb dL_law_1243 ?_
  refine tk_l (y := (((xs 2).toInt64) &&& 4294967295)) rfl ?_
  refine lv_lor hx hb dL_law_1244 ?_
  refine tk_l (y := ((((xs 1).toInt64) <<< ((32 : Int32).toInt64 &&& 63)) ||| (((xs 2).toInt64) &&& 4294967295))) rfl ?_
  refine lv_aload_n hx hb dL_law_1245 rfl (lv_at hl 4 rfl) ?_
  refine lv_iload hx hb dL_law_1246 (lv_at hl 0 rfl) ?_
  refine lv_iconst (v := 3) hx hb dL_law_1248 (by decide) ?_
  refine lv_iadd hx hb dL_law_1249 ?_
  refine tk_i (y := 3) (by decide) ?_
  refine va_sld hx hb hX hbl hbA hS (by unfold vp_in; decide) dL_law_1250 ?_
  refine tk_i (y := (xs 3)) rfl ?_
  refine ca_i (wr := [(mq, .inr (15, mfs1)), (mse, .inl (mc10, 5, .inl mf10)), (mlv, .inl (mc11, 6, .inl (fun _ => 0)))]) (va_runV (As := [.long ((((xs 1).toInt64) <<< ((32 : Int32).toInt64 &&& 63)) ||| (((xs 2).toInt64) &&& 4294967295)), .int (xs 3)]) (rest := []) ⟨hx, hb, hml, hown, ht⟩ (x_shortest l dC dI H.size xq xfs1 xma xgm xrw xpa xpb xcP xcQ xfp xfq xcE xfe ((((xs 1).toInt64) <<< ((32 : Int32).toInt64 &&& 63)) ||| (((xs 2).toInt64) &&& 4294967295)) (xs 3) L_xfs1 K2_xfs1 K16_xfs1 L_xgm K10_xgm K12_xgm K13_xgm ) (cwV 2 ht (gdV k_8_221 k_8_218 k_8_219 k_8_220 k_1_1) rfl rfl rfl (by decide +kernel) ⟨Nat.le_of_ble_eq_true rfl, Nat.le_of_ble_eq_true rfl⟩) ⟨pcw_blind, va_recv hK hP (ci := 11) (q0 := 0) rfl rfl, pcw_at hP hD hK [0, 1, 3, 4, 2] [1, 2, 0] (by decide) rfl rfl rfl⟩ rfl rfl hl.1 rfl (lv_room (Nat.le_of_ble_eq_true rfl)) dL_law_1251 ⟨Nat.le_of_ble_eq_true rfl, Nat.le_of_ble_eq_true rfl⟩) hP hD hK hS hA [0, 1, 3, 4, 2] [5, 6, 7] rfl rfl (by decide) (by decide) (fun r_1 u H locs w_2 hK hP hD hS => ?_)
  have hK : va_K (dC, dI) cls [(xcE, .int), (xcP, .long), (xcQ, .long), (mc10, .int), (mc11, .int)] s := hK
  have hP : va_P (dC, dI) cls [(mq, .inr (15, mfs1)), (mse, .inl (mc10, 5, .inl mf10)), (mlv, .inl (mc11, 6, .inl (fun _ => 0)))] H := hP
  have hD : va_D A [(mq, .inr (15, mfs1)), (mse, .inl (mc10, 5, .inl mf10)), (mlv, .inl (mc11, 6, .inl (fun _ => 0)))] := hD
  refine lv_aload_n hx hb dL_law_1254 rfl (lv_at hl 2 rfl) ?_
  refine lv_aload_n hx hb dL_law_1255 rfl (lv_at hl 4 rfl) ?_
  refine lv_iload hx hb dL_law_1256 (lv_at hl 0 rfl) ?_
  refine lv_iconst (v := 1) hx hb dL_law_1258 (by decide) ?_
  refine lv_iadd hx hb dL_law_1259 ?_
  refine tk_i (y := 1) (by decide) ?_
  refine va_sld hx hb hX hbl hbA hS (by unfold vp_in; decide) dL_law_1260 ?_
  refine tk_i (y := (xs 1)) rfl ?_
  refine lv_i2l hx hb dL_law_1261 rfl ?_
  refine tk_l (y := (xs 1).toInt64) rfl ?_
  refine lv_bipush (v := 32) hx hb dL_law_1262 (by decide) ?_
  refine lv_lshl hx hb dL_law_1264 rfl ?_
  refine tk_l (y := (((xs 1).toInt64) <<< ((32 : Int32).toInt64 &&& 63))) rfl ?_
  refine lv_aload_n hx hb dL_law_1265 rfl (lv_at hl 4 rfl) ?_
  refine lv_iload hx hb dL_law_1266 (lv_at hl 0 rfl) ?_
  refine lv_iconst (v := 2) hx hb dL_law_1268 (by decide) ?_
  refine lv_iadd hx hb dL_law_1269 ?_
  refine tk_i (y := 2) (by decide) ?_
  refine va_sld hx hb hX hbl hbA hS (by unfold vp_in; decide) dL_law_1270 ?_
  refine tk_i (y := (xs 2)) rfl ?_
  refine lv_i2l hx hb dL_law_1271 rfl ?_
  refine tk_l (y := (xs 2).toInt64) rfl ?_
  refine lv_ldc2 (v := 4294967295) hx hb hown (ht _ k_16_113) dL_law_1272 ?_
  refine lv_land hx hb dL_law_1275 ?_
  refine tk_l (y := (((xs 2).toInt64) &&& 4294967295)) rfl ?_
  refine lv_lor hx hb dL_law_1276 ?_
  refine tk_l (y := ((((xs 1).toInt64) <<< ((32 : Int32).toInt64 &&& 63)) ||| (((xs 2).toInt64) &&& 4294967295))) rfl ?_
  refine lv_aload_n hx hb dL_law_1277 rfl (lv_at hl 4 rfl) ?_
  refine lv_iload hx hb dL_law_1278 (lv_at hl 0 rfl) ?_
  refine lv_iconst (v := 3) hx hb dL_law_1280 (by decide) ?_
  refine lv_iadd hx hb dL_law_1281 ?_
  refine tk_i (y := 3) (by decide) ?_
  refine va_sld hx hb hX hbl hbA hS (by unfold vp_in; decide) dL_law_1282 ?_
  refine tk_i (y := (xs 3)) rfl ?_
  refine ca_i (wr := []) (va_runV (As := [.long ((((xs 1).toInt64) <<< ((32 : Int32).toInt64 &&& 63)) ||| (((xs 2).toInt64) &&& 4294967295)), .int (xs 3)]) (rest := [.int r_1]) ⟨hx, hb, hml, hown, ht⟩ (r_shortest l dC dI H.size mq mfs1 mlv mse mc11 mc10 mf10 ((((xs 1).toInt64) <<< ((32 : Int32).toInt64 &&& 63)) ||| (((xs 2).toInt64) &&& 4294967295)) (xs 3) L_mfs1 K54_mfs1 K138_mfs1 K141_mfs1 K142_mfs1 K143_mfs1 K144_mfs1 K145_mfs1 K146_mfs1 K147_mfs1 K148_mfs1 K151_mfs1 K152_mfs1 ) (cwV 2 ht (gdV k_15_236 k_15_233 k_15_234 k_15_235 k_1_17) rfl rfl rfl (by decide +kernel) ⟨Nat.le_of_ble_eq_true rfl, Nat.le_of_ble_eq_true rfl⟩) ⟨pcw_blind, va_recv hK hP (ci := 15) (q0 := 0) rfl rfl, pcw_at hP hD hK [0, 2, 1] [4, 3] (by decide) rfl rfl rfl⟩ rfl rfl hl.1 rfl (lv_room (Nat.le_of_ble_eq_true rfl)) dL_law_1283 ⟨Nat.le_of_ble_eq_true rfl, Nat.le_of_ble_eq_true rfl⟩) hP hD hK hS hA [0, 2, 1] [] rfl rfl (by decide) (by decide) (fun r_3 u H locs w_4 hK hP hD hS => ?_)
  have hK : va_K (dC, dI) cls [(xcE, .int), (xcP, .long), (xcQ, .long), (mc10, .int), (mc11, .int)] s := hK
  have hP : va_P (dC, dI) cls [] H := hP
  have hD : va_D A [] := hD
  refine W.widen (k := 959) (n := 3214229) (Nat.le_of_ble_eq_true rfl) (Nat.le_of_ble_eq_true rfl) ?_
  refine lv_icmp_eq (tgt := 1597) hx hb dL_law_1286 (by decide) (fun _ => ?_) (fun c0 => absurd (ansV_uniq w_2 w_4) c0)
  exact lw_tail l C0 hA2 hS (lv_sub hl [0, 4] rfl) (Nat.le_of_ble_eq_true rfl) (Nat.le_of_ble_eq_true rfl)
set_option maxHeartbeats 4000000 in
set_option maxRecDepth 100000 in
theorem lw_c39 {p : Program} {e : Env} {s : State} {m : MethodId} {below : List Frame} {meth : Method} {c : Code} (l : Launch) {b : Nat} {xs : Nat → Int32} (C0 : lw_At p s m meth c b 6 xs) (dC : Nat → ClassId) (dI : Nat → Nat → Nat) {A : Nat → Prop} (hA : ∀ q : Nat, s.heap.size ≤ q → A q) (hA2 : ∀ q : Nat, A q → s.heap.size ≤ q) (xq : Nat) (xfs1 : List Value) (xma : Nat) (xgm : List Value) (mq : Nat) (mfs1 : List Value) (ou : Nat) {H : Heap} {locs : List Loc} {ls : Array Slot} (hK : va_K (dC, dI) cls [] s) (hP : va_P (dC, dI) cls [(xq, .inr (11, xfs1)), (xma, .inr (5, xgm)), (mq, .inr (15, mfs1))] H) (hD : va_D A [(xq, .inr (11, xfs1)), (xma, .inr (5, xgm)), (mq, .inr (15, mfs1))]) (hS : va_S A s.heap H locs) (hl : lv_has ls 7 [(4, .int 0), (3, .ref ou), (2, .ref mq), (1, .ref xq), (0, .ref b)]) (L_xfs1 : xfs1.length = 18) (K16_xfs1 : xfs1[16]? = some (.ref xma)) (L_xgm : xgm.length = 15) (K11_xgm : xgm[11]? = some (.int 0)) (L_mfs1 : mfs1.length = 163) (K54_mfs1 : mfs1[54]? = some (.int 0)) (K137_mfs1 : mfs1[137]? = some (.int 0)) : W p l e room_1 s m #[Value.ref b] below meth c H locs 951 1458901 (lw_Z below #[Value.ref b] s) (F0 m 1291 ls []) := by
  obtain ⟨hx, hb, hr, hml, hown, hts, hX, hbl, hlocks, hgv⟩ := id C0
  have hown : s.vm.findClass RL = some m.cls := hown
  have ht : ∀ w ∈ tb, w.before #[Value.ref b] s = true := fun w hw => hts w (List.mem_filter.mp hw).1
  have hbA : ¬ A b := fun h => absurd (hA2 _ h) (Nat.not_le.mpr hbl)
  refine lv_aload_n hx hb dL_law_1291 rfl (lv_at hl 3 rfl) ?_
  refine lv_aload_n hx hb dL_law_1292 rfl (lv_at hl 4 rfl) ?_
  refine lv_iload hx hb dL_law_1293 (lv_at hl 0 rfl) ?_
  refine lv_iconst (v := 1) hx hb dL_law_1295 (by decide) ?_
  refine lv_iadd hx hb dL_law_1296 ?_
  refine tk_i (y := 1) (by decide) ?_
  refine va_sld hx hb hX hbl hbA hS (by unfold vp_in; decide) dL_law_1297 ?_
  refine tk_i (y := (xs 1)) rfl ?_
  refine ca_i (wr := [(mq, .inr (15, mfs1))]) (va_runV (As := [.int (xs 1)]) (rest := []) ⟨hx, hb, hml, hown, ht⟩ (x_step l dC dI H.size xq xfs1 xma xgm (xs 1) L_xfs1 K16_xfs1 L_xgm K11_xgm ) (cwV 1 ht (gdV k_9_18 k_9_15 k_9_16 k_9_17 k_1_1) rfl rfl rfl (by decide +kernel) ⟨Nat.le_of_ble_eq_true rfl, Nat.le_of_ble_eq_true rfl⟩) ⟨pcw_blind, va_recv hK hP (ci := 11) (q0 := 0) rfl rfl, pcw_at hP hD hK [0, 1] [] (by decide) rfl rfl rfl⟩ rfl rfl hl.1 rfl (lv_room (Nat.le_of_ble_eq_true rfl)) dL_law_1298 ⟨Nat.le_of_ble_eq_true rfl, Nat.le_of_ble_eq_true rfl⟩) hP hD hK hS hA [0, 1] [2] rfl rfl (by decide) (by decide) (fun r_1 u H locs w_2 hK hP hD hS => ?_)
  have hK : va_K (dC, dI) cls [] s := hK
  have hP : va_P (dC, dI) cls [(mq, .inr (15, mfs1))] H := hP
  have hD : va_D A [(mq, .inr (15, mfs1))] := hD
  obtain rfl : r_1 = (-1) := w_2
  refine lv_aload_n hx hb dL_law_1301 rfl (lv_at hl 2 rfl) ?_
  refine lv_aload_n hx hb dL_law_1302 rfl (lv_at hl 4 rfl) ?_
  refine lv_iload hx hb dL_law_1303 (lv_at hl 0 rfl) ?_
  refine lv_iconst (v := 1) hx hb dL_law_1305 (by decide) ?_
  refine lv_iadd hx hb dL_law_1306 ?_
  refine tk_i (y := 1) (by decide) ?_
  refine va_sld hx hb hX hbl hbA hS (by unfold vp_in; decide) dL_law_1307 ?_
  refine tk_i (y := (xs 1)) rfl ?_
  refine ca_i (wr := []) (va_runV (As := [.int (xs 1)]) (rest := [.int (-1)]) ⟨hx, hb, hml, hown, ht⟩ (r_step_ l dC dI H.size mq mfs1 (xs 1) L_mfs1 K54_mfs1 K137_mfs1 ) (cwV 1 ht (gdV k_16_50 k_16_47 k_16_48 k_16_49 k_1_17) rfl rfl rfl (by decide +kernel) ⟨Nat.le_of_ble_eq_true rfl, Nat.le_of_ble_eq_true rfl⟩) ⟨pcw_blind, va_recv hK hP (ci := 15) (q0 := 0) rfl rfl, pcw_at hP hD hK [0] [] (by decide) rfl rfl rfl⟩ rfl rfl hl.1 rfl (lv_room (Nat.le_of_ble_eq_true rfl)) dL_law_1308 ⟨Nat.le_of_ble_eq_true rfl, Nat.le_of_ble_eq_true rfl⟩) hP hD hK hS hA [0] [] rfl rfl (by decide) (by decide) (fun r_3 u H locs w_4 hK hP hD hS => ?_)
  have hK : va_K (dC, dI) cls [] s := hK
  have hP : va_P (dC, dI) cls [] H := hP
  have hD : va_D A [] := hD
  obtain rfl : r_3 = (-1) := w_4
  refine lv_icmp_eq (tgt := 1597) hx hb dL_law_1311 (by decide) (fun _ => ?_) (fun c0 => absurd c0 (by decide))
  exact lw_tail l C0 hA2 hS (lv_sub hl [0, 4] rfl) (Nat.le_of_ble_eq_true rfl) (Nat.le_of_ble_eq_true rfl)
